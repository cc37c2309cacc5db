/-! the property's law: backs, trees, flocks -/
/-- a step of the law's is done: it answers 1, what holds holds again -/
def qDone (x : xR) (i : Nat) (z : Nat × Nat) : Prop :=
  ∃ (T' : Nat → Nat × Nat) (z' : Nat × Nat) (V' : Nat → Nat → Int) (J' : Nat → Nat → Int64) (R' : Nat → Nat → Option Nat), x = some (.inl (some (xw 1)), (T', z', xv V', J', R')) ∧ qInv (i + 1) T' z' V' R' ∧ z'.1 ≤ z.1 + 200 ∧ z'.2 ≤ z.2 + 2000
theorem qInv_hor {i i' : Nat} {T : Nat → Nat × Nat} {z : Nat × Nat} {V V' : Nat → Nat → Int} {R : Nat → Nat → Option Nat} (h : qInv i T z V R) (hi : i ≤ i') (hV : ∀ b, (b < 3 ∨ (55 < b ∧ ¬ b = 61 ∧ ¬ b = 62)) → (∀ j, ¬ (b = 0 ∧ j = 8) → ¬ (b = 63 ∧ j = 2) → V' b j = V b j)) (hH : qHor i' V') : qInv i' T z V' R := by
  obtain ⟨h1, h2, ⟨H, h3⟩, ⟨P, h4⟩, h5⟩ := h
  have eb : ∀ b, 64 ≤ b → V' b = V b := fun b hb => by funext j; exact hV b (by omega) j (by omega) (by omega)
  exact ⟨h1, h2, ⟨H, qHid_e h3 (Nat.le_refl _) (fun _ _ _ => rfl) rfl (fun _ _ _ => rfl) (hV 0 (by omega) 1 (by omega) (by omega)) (hV 63 (by omega) 0 (by omega) (by omega)) (fun j _ => hV 56 (by omega) j (by omega) (by omega)) (fun b b1 _ _ => eb b b1)⟩, ⟨P, qPar_e h4 hi (Nat.le_refl _) (fun _ _ _ => rfl) rfl (fun _ _ _ => rfl) (hV 0 (by omega) 3 (by omega) (by omega)) (hV 63 (by omega) 1 (by omega) (by omega)) (fun r q r1 r2 _ => hV r (by omega) q (by omega) (by omega)) (hV 58 (by omega) 10 (by omega) (by omega)) (fun b b1 _ _ => eb b b1)⟩, hH⟩
theorem qInv_le {i i' : Nat} {T : Nat → Nat × Nat} {z : Nat × Nat} {V : Nat → Nat → Int} {R : Nat → Nat → Option Nat} (h : qInv i T z V R) (hi : i ≤ i') : qInv i' T z V R := qInv_k h hi qKeep_r
section P7
variable {sc : xS} {d : Nat} {T : Nat → Nat × Nat} {z : Nat × Nat} {V : Nat → Nat → Int} {J : Nat → Nat → Int64} {R : Nat → Nat → Option Nat}
theorem rid_start {what one two : Int} (hw : 0 ≤ what ∧ what ≤ 4) (h1 : 0 ≤ one ∧ one < 60000) (h2 : 0 ≤ two ∧ two < 60000) :
    ∃ hh ss : Int, (hh = 6 ∨ hh = 0 ∨ hh = 1) ∧ (0 ≤ ss ∧ ss ≤ 7) ∧ X sc (d + 1) 108 [.ref 0, .ref 61, .ref 62, .ref 63, xw what, xw one, xw two] (T, z, xv V, J, R) =
      if 3 ≤ what then XR sc d 108 296 [some (.ref 0), some (.ref 61), some (.ref 62), some (.ref 63), some (xw what), some (xw one), some (xw two), some (xw hh), some (xw ss), none, none, none, none, none, none, none, none, none, none, none] [] (T, z, xv V, J, R)
      else XR sc d 108 49 [some (.ref 0), some (.ref 61), some (.ref 62), some (.ref 63), some (xw what), some (xw one), some (xw two), some (xw hh), some (xw ss), none, none, none, none, none, none, none, none, none, none, none] [] (T, z, xv V, J, R) := by
  have fin : ∀ hh : Int, (hh = 6 ∨ hh = 0 ∨ hh = 1) → ∃ ss : Int, (0 ≤ ss ∧ ss ≤ 7) ∧ XR sc d 108 19 [some (.ref 0), some (.ref 61), some (.ref 62), some (.ref 63), some (xw what), some (xw one), some (xw two), none, none, none, none, none, none, none, none, none, none, none, none, none] [xw hh] (T, z, xv V, J, R) =
      if 3 ≤ what then XR sc d 108 296 [some (.ref 0), some (.ref 61), some (.ref 62), some (.ref 63), some (xw what), some (xw one), some (xw two), some (xw hh), some (xw ss), none, none, none, none, none, none, none, none, none, none, none] [] (T, z, xv V, J, R)
      else XR sc d 108 49 [some (.ref 0), some (.ref 61), some (.ref 62), some (.ref 63), some (xw what), some (xw one), some (xw two), some (xw hh), some (xw ss), none, none, none, none, none, none, none, none, none, none, none] [] (T, z, xv V, J, R) := by
    intro hh _
    by_cases c : two % 15 = 14
    · refine ⟨7, by decide, ?_⟩
      rw [bL_isRidden_19 (by first | omega | exact xB_in _ | exact xB_01 _ | exact iAnd_in | exact iShr_in | (simp only [Int.toNat_natCast]; omega) | decide) (by first | omega | exact xB_in _ | exact xB_01 _ | exact iAnd_in | exact iShr_in | (simp only [Int.toNat_natCast]; omega) | decide), if_pos (by first | omega | decide), bL_isRidden_31, bL_isRidden_41 (by first | omega | exact xB_in _ | exact xB_01 _ | exact iAnd_in | exact iShr_in | (simp only [Int.toNat_natCast]; omega) | decide)]
    · refine ⟨two % 7, by omega, ?_⟩
      rw [bL_isRidden_19 (by first | omega | exact xB_in _ | exact xB_01 _ | exact iAnd_in | exact iShr_in | (simp only [Int.toNat_natCast]; omega) | decide) (by first | omega | exact xB_in _ | exact xB_01 _ | exact iAnd_in | exact iShr_in | (simp only [Int.toNat_natCast]; omega) | decide), if_neg (by first | omega | decide), bL_isRidden_36 (by first | omega | exact xB_in _ | exact xB_01 _ | exact iAnd_in | exact iShr_in | (simp only [Int.toNat_natCast]; omega) | decide), bL_isRidden_41 (by first | omega | exact xB_in _ | exact xB_01 _ | exact iAnd_in | exact iShr_in | (simp only [Int.toNat_natCast]; omega) | decide)]
  rw [eL_isRidden]
  by_cases c : one % 13 = 12
  · obtain ⟨ss, s1, s2⟩ := fin 6 (by decide)
    refine ⟨6, ss, by decide, s1, ?_⟩
    rw [bL_isRidden_0 (by first | omega | exact xB_in _ | exact xB_01 _ | exact iAnd_in | exact iShr_in | (simp only [Int.toNat_natCast]; omega) | decide) (by first | omega | exact xB_in _ | exact xB_01 _ | exact iAnd_in | exact iShr_in | (simp only [Int.toNat_natCast]; omega) | decide), if_pos (by first | omega | decide), bL_isRidden_10, s2]
  · obtain ⟨ss, s1, s2⟩ := fin (one % 2) (by omega)
    refine ⟨one % 2, ss, by omega, s1, ?_⟩
    rw [bL_isRidden_0 (by first | omega | exact xB_in _ | exact xB_01 _ | exact iAnd_in | exact iShr_in | (simp only [Int.toNat_natCast]; omega) | decide) (by first | omega | exact xB_in _ | exact xB_01 _ | exact iAnd_in | exact iShr_in | (simp only [Int.toNat_natCast]; omega) | decide), if_neg (by first | omega | decide), bL_isRidden_15 (by first | omega | exact xB_in _ | exact xB_01 _ | exact iAnd_in | exact iShr_in | (simp only [Int.toNat_natCast]; omega) | decide), s2]
/-- the number that is set -/
theorem rid_its {what one two : Int} {o0 o1 o2 o3 o6 o7 o8 o9 o10 o11 o12 o13 o14 o15 o16 o17 o18 o19 : Option Value} (hw : 0 ≤ what ∧ what ≤ 2) (h1 : 0 ≤ one ∧ one < 60000) :
    ∃ its : Int, (what = 2 → -1 ≤ its ∧ its ≤ 20) ∧ (-51 ≤ its ∧ its ≤ 51) ∧ XR sc d 108 49 [o0, o1, o2, o3, some (xw what), some (xw one), o6, o7, o8, o9, o10, o11, o12, o13, o14, o15, o16, o17, o18, o19] [] (T, z, xv V, J, R) = XR sc d 108 124 [o0, o1, o2, o3, some (xw what), some (xw one), o6, o7, o8, o9, o10, o11, o12, o13, o14, o15, o16, o17, o18, o19] [xw its] (T, z, xv V, J, R) := by
  by_cases c : what = 2
  · by_cases c2 : one / 13 % 22 = 21
    · refine ⟨one / 13 % 22 - 22, by omega, by omega, ?_⟩
      rw [bL_isRidden_49 (by first | omega | exact xB_in _ | exact xB_01 _ | exact iAnd_in | exact iShr_in | (simp only [Int.toNat_natCast]; omega) | decide), if_pos (by first | omega | decide), bL_isRidden_55 (by first | omega | exact xB_in _ | exact xB_01 _ | exact iAnd_in | exact iShr_in | (simp only [Int.toNat_natCast]; omega) | decide) (by first | omega | exact xB_in _ | exact xB_01 _ | exact iAnd_in | exact iShr_in | (simp only [Int.toNat_natCast]; omega) | decide) (by first | omega | exact xB_in _ | exact xB_01 _ | exact iAnd_in | exact iShr_in | (simp only [Int.toNat_natCast]; omega) | decide), if_pos (by first | omega | decide), bL_isRidden_76, bL_isRidden_82]
    · refine ⟨one / 13 % 22 - 0, by omega, by omega, ?_⟩
      rw [bL_isRidden_49 (by first | omega | exact xB_in _ | exact xB_01 _ | exact iAnd_in | exact iShr_in | (simp only [Int.toNat_natCast]; omega) | decide), if_pos (by first | omega | decide), bL_isRidden_55 (by first | omega | exact xB_in _ | exact xB_01 _ | exact iAnd_in | exact iShr_in | (simp only [Int.toNat_natCast]; omega) | decide) (by first | omega | exact xB_in _ | exact xB_01 _ | exact iAnd_in | exact iShr_in | (simp only [Int.toNat_natCast]; omega) | decide) (by first | omega | exact xB_in _ | exact xB_01 _ | exact iAnd_in | exact iShr_in | (simp only [Int.toNat_natCast]; omega) | decide), if_neg (by first | omega | decide), bL_isRidden_81, bL_isRidden_82]
  · by_cases c2 : one / 13 % 9 = 0
    · refine ⟨one / 117 % 2 * 102 - 51, fun q => absurd q c, by omega, ?_⟩
      rw [bL_isRidden_49 (by first | omega | exact xB_in _ | exact xB_01 _ | exact iAnd_in | exact iShr_in | (simp only [Int.toNat_natCast]; omega) | decide), if_neg (by first | omega | decide), bL_isRidden_86 (by first | omega | exact xB_in _ | exact xB_01 _ | exact iAnd_in | exact iShr_in | (simp only [Int.toNat_natCast]; omega) | decide) (by first | omega | exact xB_in _ | exact xB_01 _ | exact iAnd_in | exact iShr_in | (simp only [Int.toNat_natCast]; omega) | decide) (by first | omega | exact xB_in _ | exact xB_01 _ | exact iAnd_in | exact iShr_in | (simp only [Int.toNat_natCast]; omega) | decide), if_pos (by first | omega | decide), bL_isRidden_97 (by first | omega | exact xB_in _ | exact xB_01 _ | exact iAnd_in | exact iShr_in | (simp only [Int.toNat_natCast]; omega) | decide) (by first | omega | exact xB_in _ | exact xB_01 _ | exact iAnd_in | exact iShr_in | (simp only [Int.toNat_natCast]; omega) | decide)]
    · refine ⟨one / 13 % 61 - 30, fun q => absurd q c, by omega, ?_⟩
      rw [bL_isRidden_49 (by first | omega | exact xB_in _ | exact xB_01 _ | exact iAnd_in | exact iShr_in | (simp only [Int.toNat_natCast]; omega) | decide), if_neg (by first | omega | decide), bL_isRidden_86 (by first | omega | exact xB_in _ | exact xB_01 _ | exact iAnd_in | exact iShr_in | (simp only [Int.toNat_natCast]; omega) | decide) (by first | omega | exact xB_in _ | exact xB_01 _ | exact iAnd_in | exact iShr_in | (simp only [Int.toNat_natCast]; omega) | decide) (by first | omega | exact xB_in _ | exact xB_01 _ | exact iAnd_in | exact iShr_in | (simp only [Int.toNat_natCast]; omega) | decide), if_neg (by first | omega | decide), bL_isRidden_113 (by first | omega | exact xB_in _ | exact xB_01 _ | exact iAnd_in | exact iShr_in | (simp only [Int.toNat_natCast]; omega) | decide) (by first | omega | exact xB_in _ | exact xB_01 _ | exact iAnd_in | exact iShr_in | (simp only [Int.toNat_natCast]; omega) | decide)]
/-- whether it may be set -/
theorem rid_is {what hh ss its : Int} {o0 o1 o2 o3 o5 o6 o9 o10 o11 o12 o13 o14 o15 o16 o17 o18 o19 : Option Value} (hw : 0 ≤ what ∧ what ≤ 2) (hh1 : 0 ≤ hh ∧ hh ≤ 6) (hs : 0 ≤ ss ∧ ss ≤ 7) (hi : -51 ≤ its ∧ its ≤ 51) :
    XR sc d 108 124 [o0, o1, o2, o3, some (xw what), o5, o6, some (xw hh), some (xw ss), o9, o10, o11, o12, o13, o14, o15, o16, o17, o18, o19] [xw its] (T, z, xv V, J, R) =
      XR sc d 108 192 [o0, o1, o2, o3, some (xw what), o5, o6, some (xw hh), some (xw ss), some (xw its), some (xw (xB (decide (hh < 6 ∧ ss < 7)))), o11, o12, o13, o14, o15, o16, o17, o18, o19] [xw (xB (decide (if what = 2 then 0 ≤ its ∧ its < 21 else -51 < its ∧ its < 51)))] (T, z, xv V, J, R) := by
  have right : ∀ b : Int, XR sc d 108 145 [o0, o1, o2, o3, some (xw what), o5, o6, some (xw hh), some (xw ss), some (xw its), o10, o11, o12, o13, o14, o15, o16, o17, o18, o19] [xw b] (T, z, xv V, J, R) =
      XR sc d 108 192 [o0, o1, o2, o3, some (xw what), o5, o6, some (xw hh), some (xw ss), some (xw its), some (xw b), o11, o12, o13, o14, o15, o16, o17, o18, o19] [xw (xB (decide (if what = 2 then 0 ≤ its ∧ its < 21 else -51 < its ∧ its < 51)))] (T, z, xv V, J, R) := by
    intro b
    by_cases c : what = 2
    · rw [show decide (if what = 2 then 0 ≤ its ∧ its < 21 else -51 < its ∧ its < 51) = decide (0 ≤ its ∧ its < 21) by rw [decide_eq_decide, if_pos c]]
      by_cases c2 : its < 0
      · rw [decide_eq_false (show ¬ (0 ≤ its ∧ its < 21) by omega), bL_isRidden_145 (by first | omega | exact xB_in _ | exact xB_01 _ | exact iAnd_in | exact iShr_in | (simp only [Int.toNat_natCast]; omega) | decide), if_pos (by first | omega | decide), bL_isRidden_153 (by first | omega | exact xB_in _ | exact xB_01 _ | exact iAnd_in | exact iShr_in | (simp only [Int.toNat_natCast]; omega) | decide), if_pos (by first | omega | decide), bL_isRidden_169]; rfl
      · by_cases c3 : 21 ≤ its
        · rw [decide_eq_false (show ¬ (0 ≤ its ∧ its < 21) by omega), bL_isRidden_145 (by first | omega | exact xB_in _ | exact xB_01 _ | exact iAnd_in | exact iShr_in | (simp only [Int.toNat_natCast]; omega) | decide), if_pos (by first | omega | decide), bL_isRidden_153 (by first | omega | exact xB_in _ | exact xB_01 _ | exact iAnd_in | exact iShr_in | (simp only [Int.toNat_natCast]; omega) | decide), if_neg (by first | omega | decide), bL_isRidden_158 (by first | omega | exact xB_in _ | exact xB_01 _ | exact iAnd_in | exact iShr_in | (simp only [Int.toNat_natCast]; omega) | decide), if_pos (by first | omega | decide), bL_isRidden_169]; rfl
        · rw [decide_eq_true (show 0 ≤ its ∧ its < 21 by omega), bL_isRidden_145 (by first | omega | exact xB_in _ | exact xB_01 _ | exact iAnd_in | exact iShr_in | (simp only [Int.toNat_natCast]; omega) | decide), if_pos (by first | omega | decide), bL_isRidden_153 (by first | omega | exact xB_in _ | exact xB_01 _ | exact iAnd_in | exact iShr_in | (simp only [Int.toNat_natCast]; omega) | decide), if_neg (by first | omega | decide), bL_isRidden_158 (by first | omega | exact xB_in _ | exact xB_01 _ | exact iAnd_in | exact iShr_in | (simp only [Int.toNat_natCast]; omega) | decide), if_neg (by first | omega | decide), bL_isRidden_165]; rfl
    · rw [show decide (if what = 2 then 0 ≤ its ∧ its < 21 else -51 < its ∧ its < 51) = decide (-51 < its ∧ its < 51) by rw [decide_eq_decide, if_neg c]]
      by_cases c2 : its ≤ -51
      · rw [decide_eq_false (show ¬ (-51 < its ∧ its < 51) by omega), bL_isRidden_145 (by first | omega | exact xB_in _ | exact xB_01 _ | exact iAnd_in | exact iShr_in | (simp only [Int.toNat_natCast]; omega) | decide), if_neg (by first | omega | decide), bL_isRidden_173 (by first | omega | exact xB_in _ | exact xB_01 _ | exact iAnd_in | exact iShr_in | (simp only [Int.toNat_natCast]; omega) | decide), if_pos (by first | omega | decide), bL_isRidden_191]; rfl
      · by_cases c3 : 51 ≤ its
        · rw [decide_eq_false (show ¬ (-51 < its ∧ its < 51) by omega), bL_isRidden_145 (by first | omega | exact xB_in _ | exact xB_01 _ | exact iAnd_in | exact iShr_in | (simp only [Int.toNat_natCast]; omega) | decide), if_neg (by first | omega | decide), bL_isRidden_173 (by first | omega | exact xB_in _ | exact xB_01 _ | exact iAnd_in | exact iShr_in | (simp only [Int.toNat_natCast]; omega) | decide), if_neg (by first | omega | decide), bL_isRidden_180 (by first | omega | exact xB_in _ | exact xB_01 _ | exact iAnd_in | exact iShr_in | (simp only [Int.toNat_natCast]; omega) | decide), if_pos (by first | omega | decide), bL_isRidden_191]; rfl
        · rw [decide_eq_true (show -51 < its ∧ its < 51 by omega), bL_isRidden_145 (by first | omega | exact xB_in _ | exact xB_01 _ | exact iAnd_in | exact iShr_in | (simp only [Int.toNat_natCast]; omega) | decide), if_neg (by first | omega | decide), bL_isRidden_173 (by first | omega | exact xB_in _ | exact xB_01 _ | exact iAnd_in | exact iShr_in | (simp only [Int.toNat_natCast]; omega) | decide), if_neg (by first | omega | decide), bL_isRidden_180 (by first | omega | exact xB_in _ | exact xB_01 _ | exact iAnd_in | exact iShr_in | (simp only [Int.toNat_natCast]; omega) | decide), if_neg (by first | omega | decide), bL_isRidden_187]; rfl
  by_cases c : 6 ≤ hh
  · rw [bL_isRidden_124 (by first | omega | exact xB_in _ | exact xB_01 _ | exact iAnd_in | exact iShr_in | (simp only [Int.toNat_natCast]; omega) | decide), if_pos (by first | omega | decide), bL_isRidden_144, right, decide_eq_false (show ¬ (hh < 6 ∧ ss < 7) by omega)]; rfl
  · by_cases c2 : 7 ≤ ss
    · rw [bL_isRidden_124 (by first | omega | exact xB_in _ | exact xB_01 _ | exact iAnd_in | exact iShr_in | (simp only [Int.toNat_natCast]; omega) | decide), if_neg (by first | omega | decide), bL_isRidden_133 (by first | omega | exact xB_in _ | exact xB_01 _ | exact iAnd_in | exact iShr_in | (simp only [Int.toNat_natCast]; omega) | decide), if_pos (by first | omega | decide), bL_isRidden_144, right, decide_eq_false (show ¬ (hh < 6 ∧ ss < 7) by omega)]; rfl
    · rw [bL_isRidden_124 (by first | omega | exact xB_in _ | exact xB_01 _ | exact iAnd_in | exact iShr_in | (simp only [Int.toNat_natCast]; omega) | decide), if_neg (by first | omega | decide), bL_isRidden_133 (by first | omega | exact xB_in _ | exact xB_01 _ | exact iAnd_in | exact iShr_in | (simp only [Int.toNat_natCast]; omega) | decide), if_neg (by first | omega | decide), bL_isRidden_140, right, decide_eq_true (show hh < 6 ∧ ss < 7 by omega)]; rfl
/-- it is set, and the class is called -/
theorem rid_call {what hh ss its : Int} {a b : Bool} {A : Nat} {o5 o6 o11 o12 o13 o14 o15 o16 o17 o18 o19 : Option Value} (hA : pAr T) (hat : a = true → 14 * what + 7 * hh + ss = (A : Int)) (hA6 : A < 56) :
    XR sc d 108 192 [some (.ref 0), some (.ref 61), some (.ref 62), some (.ref 63), some (xw what), o5, o6, some (xw hh), some (xw ss), some (xw its), some (xw (xB a)), o11, o12, o13, o14, o15, o16, o17, o18, o19] [xw (xB b)] (T, z, xv V, J, R) =
      xret 108 (XR sc d 108) 262 265 [some (.ref 0), some (.ref 61), some (.ref 62), some (.ref 63), some (xw what), o5, o6, some (xw hh), some (xw ss), some (xw its), some (xw (xB a)), some (xw (xB b)), some (xw ((if a = true then A else 56 : Nat) : Int)), some (xw (V 61 (if a = true then A else 56))), o14, o15, o16, o17, o18, o19] []
        (X sc d 92 [.ref 0, xw (12 + what), xw hh, xw ss, xw its, xw 0, xw 0, xw 0] (T, z, xv (xup2 V 61 (if a = true ∧ b = true then A else 56) its), J, R)) := by
  cases a with
  | false =>
    rw [if_neg (show ¬ (false = true) by decide), if_neg (show ¬ (false = true ∧ b = true) by simp), bL_isRidden_192 (by first | omega | exact xB_in _ | exact xB_01 _ | exact iAnd_in | exact iShr_in | (simp only [Int.toNat_natCast]; omega) | decide), if_pos (by first | omega | decide), bL_isRidden_216, bL_isRidden_218 (by rw [pA61 hA]) (by rw [pA61 hA]; omega) (by first | omega | exact xB_in _ | exact xB_01 _ | exact iAnd_in | exact iShr_in | (simp only [Int.toNat_natCast]; omega) | decide), if_pos (by first | omega | decide), bL_isRidden_242, bL_isRidden_244 (by rw [pA61 hA]) (by rw [pA61 hA]; omega)]; rfl
  | true =>
    rw [if_pos rfl]
    cases b with
    | false =>
      rw [if_neg (show ¬ (true = true ∧ false = true) by simp), bL_isRidden_192 (by first | omega | exact xB_in _ | exact xB_01 _ | exact iAnd_in | exact iShr_in | (simp only [Int.toNat_natCast]; omega) | decide), if_neg (by first | omega | decide), bL_isRidden_199, hat rfl, bL_isRidden_218 (by rw [pA61 hA]) (by rw [pA61 hA]; omega) (by first | omega | exact xB_in _ | exact xB_01 _ | exact iAnd_in | exact iShr_in | (simp only [Int.toNat_natCast]; omega) | decide), if_neg (by first | omega | decide), bL_isRidden_232 (by first | omega | exact xB_in _ | exact xB_01 _ | exact iAnd_in | exact iShr_in | (simp only [Int.toNat_natCast]; omega) | decide), if_pos (by first | omega | decide), bL_isRidden_242, bL_isRidden_244 (by rw [pA61 hA]) (by rw [pA61 hA]; omega), Int.toNat_natCast]; rfl
    | true =>
      rw [if_pos ⟨rfl, rfl⟩, bL_isRidden_192 (by first | omega | exact xB_in _ | exact xB_01 _ | exact iAnd_in | exact iShr_in | (simp only [Int.toNat_natCast]; omega) | decide), if_neg (by first | omega | decide), bL_isRidden_199, hat rfl, bL_isRidden_218 (by rw [pA61 hA]) (by rw [pA61 hA]; omega) (by first | omega | exact xB_in _ | exact xB_01 _ | exact iAnd_in | exact iShr_in | (simp only [Int.toNat_natCast]; omega) | decide), if_neg (by first | omega | decide), bL_isRidden_232 (by first | omega | exact xB_in _ | exact xB_01 _ | exact iAnd_in | exact iShr_in | (simp only [Int.toNat_natCast]; omega) | decide), if_neg (by first | omega | decide), bL_isRidden_237, bL_isRidden_244 (by rw [pA61 hA]) (by rw [pA61 hA]; omega), Int.toNat_natCast]
/-- the answer is as it should be -/
theorem rid_end {a b : Bool} {was c : Int} {o0 o1 o2 o3 o4 o5 o6 o7 o8 o9 o12 o14 o15 o16 o17 o18 o19 : Option Value} (hc : c = if a = true then (if b = true then was else -2000000) else -3000000) (hw : -1000 ≤ was ∧ was ≤ 1000) :
    XR sc d 108 265 [o0, o1, o2, o3, o4, o5, o6, o7, o8, o9, some (xw (xB a)), some (xw (xB b)), o12, some (xw was), o14, o15, o16, o17, o18, o19] [xw c] (T, z, xv V, J, R) = some (.inl (some (xw 1)), (T, z, xv V, J, R)) := by
  cases a with
  | false => rw [if_neg (show ¬ (false = true) by decide)] at hc; subst hc; rw [bL_isRidden_265 (by first | omega | exact xB_in _ | exact xB_01 _ | exact iAnd_in | exact iShr_in | (simp only [Int.toNat_natCast]; omega) | decide), if_pos (by first | omega | decide), bL_isRidden_270, bL_isRidden_287 (by first | omega | exact xB_in _ | exact xB_01 _ | exact iAnd_in | exact iShr_in | (simp only [Int.toNat_natCast]; omega) | decide) (by first | omega | exact xB_in _ | exact xB_01 _ | exact iAnd_in | exact iShr_in | (simp only [Int.toNat_natCast]; omega) | decide), if_pos (by first | omega | decide), bL_isRidden_290, bL_isRidden_295 (by first | omega | exact xB_in _ | exact xB_01 _ | exact iAnd_in | exact iShr_in | (simp only [Int.toNat_natCast]; omega) | decide)]
  | true =>
    rw [if_pos rfl] at hc
    cases b with
    | false => rw [if_neg (show ¬ (false = true) by decide)] at hc; subst hc; rw [bL_isRidden_265 (by first | omega | exact xB_in _ | exact xB_01 _ | exact iAnd_in | exact iShr_in | (simp only [Int.toNat_natCast]; omega) | decide), if_neg (by first | omega | decide), bL_isRidden_275 (by first | omega | exact xB_in _ | exact xB_01 _ | exact iAnd_in | exact iShr_in | (simp only [Int.toNat_natCast]; omega) | decide), if_pos (by first | omega | decide), bL_isRidden_285, bL_isRidden_287 (by first | omega | exact xB_in _ | exact xB_01 _ | exact iAnd_in | exact iShr_in | (simp only [Int.toNat_natCast]; omega) | decide) (by first | omega | exact xB_in _ | exact xB_01 _ | exact iAnd_in | exact iShr_in | (simp only [Int.toNat_natCast]; omega) | decide), if_pos (by first | omega | decide), bL_isRidden_290, bL_isRidden_295 (by first | omega | exact xB_in _ | exact xB_01 _ | exact iAnd_in | exact iShr_in | (simp only [Int.toNat_natCast]; omega) | decide)]
    | true => rw [if_pos rfl] at hc; subst hc; rw [bL_isRidden_265 (by first | omega | exact xB_in _ | exact xB_01 _ | exact iAnd_in | exact iShr_in | (simp only [Int.toNat_natCast]; omega) | decide), if_neg (by first | omega | decide), bL_isRidden_275 (by first | omega | exact xB_in _ | exact xB_01 _ | exact iAnd_in | exact iShr_in | (simp only [Int.toNat_natCast]; omega) | decide), if_neg (by first | omega | decide), bL_isRidden_280, bL_isRidden_287 (by first | omega | exact xB_in _ | exact xB_01 _ | exact iAnd_in | exact iShr_in | (simp only [Int.toNat_natCast]; omega) | decide) (by first | omega | exact xB_in _ | exact xB_01 _ | exact iAnd_in | exact iShr_in | (simp only [Int.toNat_natCast]; omega) | decide), if_pos (by first | omega | decide), bL_isRidden_290, bL_isRidden_295 (by first | omega | exact xB_in _ | exact xB_01 _ | exact iAnd_in | exact iShr_in | (simp only [Int.toNat_natCast]; omega) | decide)]
theorem qHor_61 {i : Nat} {j : Nat} {v : Int} (h : qHor i V) (hj : 56 ≤ j) : qHor (i + 1) (xup2 V 61 j v) :=
  qHor_e h (by omega) (by rw [xup2_o (by decide)]) (by rw [xup2_o (by decide)]) (fun b _ _ => xup2_o (by omega)) (fun j' hj' => xup2_j (by omega)) (fun j' _ => by rw [xup2_o (by decide)]) (by rw [xup2_o (by decide)]; exact h.2.2.2.2.2.2.2.2)
theorem set_done {i : Nat} {what one two : Int} (hI : qInv i T z V R) (hw : 0 ≤ what ∧ what ≤ 2) (h1 : 0 ≤ one ∧ one < 60000) (h2 : 0 ≤ two ∧ two < 60000)
    (good : ∀ h k its : Int, (h = 0 ∨ h = 1) → (0 ≤ k ∧ k < 7) → (if what = 2 then 0 ≤ its ∧ its < 21 else -51 < its ∧ its < 51) → ∃ V' : Nat → Nat → Int, X sc 10 92 [.ref 0, xw (12 + what), xw h, xw k, xw its, xw 0, xw 0, xw 0] (T, z, xv (xup2 V 61 (14 * what + 7 * h + k).toNat its), J, R) = some (.inl (some (xw (V 61 (14 * what + 7 * h + k).toNat))), (T, z, xv V', J, R)) ∧ qInv (i + 1) T z V' R)
    (bad : ∀ (h k its : Int) (e : Nat), (h = 6 ∨ h = 0 ∨ h = 1) → (0 ≤ k ∧ k ≤ 7) → (what = 2 → -1 ≤ its ∧ its ≤ 20) → (-51 ≤ its ∧ its ≤ 51) → ((e = 10 ∧ ¬ (h < 6 ∧ k < 7)) ∨ (e = 8 ∧ (h < 6 ∧ k < 7) ∧ ¬ (if what = 2 then 0 ≤ its ∧ its < 21 else -51 < its ∧ its < 51))) →
      X sc 10 92 [.ref 0, xw (12 + what), xw h, xw k, xw its, xw 0, xw 0, xw 0] (T, z, xv (xup2 V 61 56 its), J, R) = some (.inl (some (xw (pK e))), (va_up T z.1 (1 + e, 0), (z.1 + 1, z.2 + 6), xv (va_up (xup2 V 61 56 its) z.1 (fun _ => 0)), va_up J z.1 (fun _ => 0), va_up R z.1 (fun _ => none)))) :
    qDone (X sc 11 108 [.ref 0, .ref 61, .ref 62, .ref 63, xw what, xw one, xw two] (T, z, xv V, J, R)) i z := by
  have hA := hI.1.2.2.2.2.2
  have hz := hI.2.1
  obtain ⟨hh, ss, a1, a2, a3⟩ := rid_start (sc := sc) (d := 10) (T := T) (z := z) (V := V) (J := J) (R := R) (what := what) (by omega) h1 h2
  obtain ⟨its, b1, b2, b3⟩ := rid_its (sc := sc) (d := 10) (T := T) (z := z) (V := V) (J := J) (R := R) (what := what) (one := one) (two := two) (o0 := some (.ref 0)) (o1 := some (.ref 61)) (o2 := some (.ref 62)) (o3 := some (.ref 63)) (o6 := some (xw two)) (o7 := some (xw hh)) (o8 := some (xw ss)) (o9 := none) (o10 := none) (o11 := none) (o12 := none) (o13 := none) (o14 := none) (o15 := none) (o16 := none) (o17 := none) (o18 := none) (o19 := none) hw h1
  rw [if_neg (by omega)] at a3
  rw [a3, b3, rid_is hw (by omega) a2 b2]
  have hor := hI.2.2.2.2
  by_cases c : hh < 6 ∧ ss < 7
  · have hA6 : (14 * what + 7 * hh + ss).toNat < 56 := by omega
    rw [decide_eq_true c, rid_call (A := (14 * what + 7 * hh + ss).toNat) hA (fun _ => by omega) hA6, if_pos rfl]
    have was : -1000 ≤ V 61 (14 * what + 7 * hh + ss).toNat ∧ V 61 (14 * what + 7 * hh + ss).toNat ≤ 1000 := by
      obtain ⟨h', rfl⟩ : ∃ m : Nat, hh = m := ⟨hh.toNat, by omega⟩
      obtain ⟨k', rfl⟩ : ∃ m : Nat, ss = m := ⟨ss.toNat, by omega⟩
      have x1 := hor.1 h' k' (by omega) (by omega)
      have x2 := hor.2.1 h' k' (by omega) (by omega)
      have x3 := hor.2.2.1.1 h' k' (by omega) (by omega)
      have x4 := hor.2.2.1.2 h' k' (by omega) (by omega)
      rcases (show what = 0 ∨ what = 1 ∨ what = 2 by omega) with rfl | rfl | rfl
      · rw [show (14 * (0 : Int) + 7 * (h' : Int) + (k' : Int)).toNat = 7 * h' + k' by omega]; omega
      · rw [show (14 * (1 : Int) + 7 * (h' : Int) + (k' : Int)).toNat = 14 + 7 * h' + k' by omega]; omega
      · rw [show (14 * (2 : Int) + 7 * (h' : Int) + (k' : Int)).toNat = 28 + 7 * h' + k' by omega]; omega
    by_cases c2 : (if what = 2 then 0 ≤ its ∧ its < 21 else -51 < its ∧ its < 51)
    · obtain ⟨V', g1, g2⟩ := good hh ss its (by omega) (by omega) c2
      rw [decide_eq_true c2, if_pos ⟨rfl, rfl⟩, g1, xret_v, rid_end (by simp) was]
      exact ⟨_, _, V', _, _, rfl, g2, by omega, by omega⟩
    · rw [decide_eq_false c2, if_neg (show ¬ (true = true ∧ false = true) by simp), bad hh ss its 8 a1 a2 b1 b2 (Or.inr ⟨rfl, c, c2⟩), xret_v, rid_end (by simp; rfl) was]
      refine ⟨_, _, _, _, _, rfl, qInv_k (qInv_hor (V' := xup2 V 61 56 its) hI (Nat.le_succ i) (fun b hb j _ _ => by rw [xup2_o (by omega)]) (qHor_61 hor (Nat.le_refl _))) (Nat.le_refl _) (qKeep_x hz (fun _ _ _ => rfl)), ?_, ?_⟩
      · show z.1 + 1 ≤ _; omega
      · show z.2 + 6 ≤ _; omega
  · rw [decide_eq_false c, rid_call (A := 0) hA (fun q => absurd q (by decide)) (by decide), if_neg (show ¬ (false = true) by decide), if_neg (show ¬ (false = true ∧ _) by simp), bad hh ss its 10 a1 a2 b1 b2 (Or.inl ⟨rfl, c⟩), xret_v]
    have e56 : ∀ w : Int, XR sc 10 108 265 [some (.ref 0), some (.ref 61), some (.ref 62), some (.ref 63), some (xw what), some (xw one), some (xw two), some (xw hh), some (xw ss), some (xw its), some (xw (xB false)), some (xw (xB (decide (if what = 2 then 0 ≤ its ∧ its < 21 else -51 < its ∧ its < 51)))), some (xw ((56 : Nat) : Int)), some (xw w), none, none, none, none, none, none] [xw (pK 10)] (va_up T z.1 (1 + 10, 0), (z.1 + 1, z.2 + 6), xv (va_up (xup2 V 61 56 its) z.1 (fun _ => 0)), va_up J z.1 (fun _ => 0), va_up R z.1 (fun _ => none)) = some (.inl (some (xw 1)), (va_up T z.1 (1 + 10, 0), (z.1 + 1, z.2 + 6), xv (va_up (xup2 V 61 56 its) z.1 (fun _ => 0)), va_up J z.1 (fun _ => 0), va_up R z.1 (fun _ => none))) := by
      intro w
      rw [show pK 10 = -3000000 from rfl, bL_isRidden_265 (by first | omega | exact xB_in _ | exact xB_01 _ | exact iAnd_in | exact iShr_in | (simp only [Int.toNat_natCast]; omega) | decide), if_pos (by first | omega | decide), bL_isRidden_270, bL_isRidden_287 (by first | omega | exact xB_in _ | exact xB_01 _ | exact iAnd_in | exact iShr_in | (simp only [Int.toNat_natCast]; omega) | decide) (by first | omega | exact xB_in _ | exact xB_01 _ | exact iAnd_in | exact iShr_in | (simp only [Int.toNat_natCast]; omega) | decide), if_pos (by first | omega | decide), bL_isRidden_290, bL_isRidden_295 (by first | omega | exact xB_in _ | exact xB_01 _ | exact iAnd_in | exact iShr_in | (simp only [Int.toNat_natCast]; omega) | decide)]
    rw [e56]
    refine ⟨_, _, _, _, _, rfl, qInv_k (qInv_hor (V' := xup2 V 61 56 its) hI (Nat.le_succ i) (fun b hb j _ _ => by rw [xup2_o (by omega)]) (qHor_61 hor (Nat.le_refl _))) (Nat.le_refl _) (qKeep_x hz (fun _ _ _ => rfl)), ?_, ?_⟩
    · show z.1 + 1 ≤ _; omega
    · show z.2 + 6 ≤ _; omega
theorem r_back {i : Nat} {one two : Int} (hI : qInv i T z V R) (h1 : 0 ≤ one ∧ one < 60000) (h2 : 0 ≤ two ∧ two < 60000) : qDone (X sc 11 108 [.ref 0, .ref 61, .ref 62, .ref 63, xw 0, xw one, xw two] (T, z, xv V, J, R)) i z := by
  obtain ⟨hT, hRo, hH, hS, hE, hA⟩ := hI.1
  have hor := hI.2.2.2.2
  refine set_done hI (by decide) h1 h2 (fun h k its hh hk hr => ?_) (fun h k its e hh hk _ hi he => ?_)
  · rw [if_neg (by decide)] at hr
    obtain ⟨h', rfl⟩ : ∃ m : Nat, h = m := ⟨h.toNat, by omega⟩
    obtain ⟨k', rfl⟩ : ∃ m : Nat, k = m := ⟨k.toNat, by omega⟩
    rw [show (14 * (0 : Int) + 7 * (h' : Int) + (k' : Int)).toNat = 7 * h' + k' by omega]
    have cls := s_back (sc := sc) (d := 1) (z := z) (V := xup2 V 61 (7 * h' + k') its) (J := J) (h := (h' : Int)) (k := (k' : Int)) (v := its) hT hH (by omega) (by omega) (by omega)
    rw [if_pos (by omega), if_pos (by omega), Int.toNat_natCast, Int.toNat_natCast, xup2_o (by omega), (hor.1 h' k' (by omega) (by omega)).1] at cls
    refine ⟨_, dv_back hT.1 cls, qInv_hor hI (Nat.le_succ i) (fun b hb j _ _ => by rw [xup2_o (by omega), xup2_o (by omega)]) ?_⟩
    obtain ⟨a1, a2, a3, a4, a5, a6, a7, a8, a9⟩ := hor
    have e61 : ∀ j, xup2 (xup2 V 61 (7 * h' + k') its) (11 + 4 * h') k' its 61 j = if j = 7 * h' + k' then its else V 61 j := fun j => by
      rw [xup2_o (by omega)]
      by_cases e : j = 7 * h' + k'
      · subst e; rw [xup2_i, if_pos rfl]
      · rw [xup2_j e, if_neg e]
    have e11 : ∀ j, xup2 (xup2 V 61 (7 * h' + k') its) (11 + 4 * h') k' its (11 + 4 * h') j = if j = k' then its else V (11 + 4 * h') j := fun j => by
      by_cases e : j = k'
      · subst e; rw [xup2_i, if_pos rfl]
      · rw [xup2_j e, if_neg e, xup2_o (by omega)]
    have eo : ∀ b, ¬ b = 61 → ¬ b = 11 + 4 * h' → xup2 (xup2 V 61 (7 * h' + k') its) (11 + 4 * h') k' its b = V b := fun b x y => by rw [xup2_o y, xup2_o x]
    revert e61 e11 eo
    generalize xup2 (xup2 V 61 (7 * h' + k') its) (11 + 4 * h') k' its = W
    intro e61 e11 eo
    refine ⟨fun h k x y => ?_, fun s k x y => ?_, ⟨fun h k x y => ?_, fun s k x y => ?_⟩, fun h k x x2 y => ?_, fun h k x y => ?_, ?_, ⟨fun k x => ?_, fun k x => ?_⟩, fun h j x y => ?_, ?_⟩
    · rw [eo (12 + 4 * h) (by omega) (by omega), e61, e61, if_neg (show ¬ 42 + 7 * h + k = 7 * h' + k' by omega)]
      refine ⟨?_, (a1 h k x y).2⟩
      by_cases e : h = h'
      · subst e
        rw [e11]
        by_cases e2 : k = k'
        · subst e2; rw [if_pos rfl, if_pos rfl]
        · rw [if_neg e2, if_neg (by omega)]; exact (a1 h k x y).1
      · rw [eo (11 + 4 * h) (by omega) (by omega), if_neg (by omega)]; exact (a1 h k x y).1
    · rw [eo (36 + 3 * s) (by omega) (by omega), eo (37 + 3 * s) (by omega) (by omega), e61, e61, if_neg (by omega), if_neg (by omega)]; exact a2 s k x y
    · by_cases e : h = h'
      · subst e
        rw [e11]
        split
        · omega
        · exact a3.1 h k x y
      · rw [eo (11 + 4 * h) (by omega) (by omega)]; exact a3.1 h k x y
    · rw [eo (36 + 3 * s) (by omega) (by omega), eo (37 + 3 * s) (by omega) (by omega)]; exact a3.2 s k x y
    · rw [eo (12 + 4 * h) (by omega) (by omega)]; exact a4 h k x x2 y
    · rw [eo (13 + 4 * h) (by omega) (by omega), eo 62 (by decide) (by omega)]; exact a5 h k x y
    · rw [eo 0 (by decide) (by omega), eo 63 (by decide) (by omega)]; omega
    · rw [e61, if_neg (by omega), eo 63 (by decide) (by omega)]; exact a7.1 k x
    · rw [eo 62 (by decide) (by omega), eo 63 (by decide) (by omega)]; exact a7.2 k x
    · rw [eo (13 + 4 * h) (by omega) (by omega), eo 63 (by decide) (by omega)]; exact a8 h j x y
    · rw [eo 55 (by decide) (by omega)]; exact a9
  · have cls := s_back (sc := sc) (d := 1) (z := z) (V := xup2 V 61 56 its) (J := J) (h := h) (k := k) (v := its) hT hH (by omega) (by omega) (by omega)
    rcases he with ⟨rfl, q⟩ | ⟨rfl, q, q2⟩
    · rw [if_neg (by omega)] at cls
      exact dx_back hT.1 (by decide) cls
    · rw [if_neg (by decide)] at q2
      rw [if_pos (by omega), if_neg (by omega)] at cls
      exact dx_back hT.1 (by decide) cls
theorem r_tree {i : Nat} {one two : Int} (hI : qInv i T z V R) (h1 : 0 ≤ one ∧ one < 60000) (h2 : 0 ≤ two ∧ two < 60000) : qDone (X sc 11 108 [.ref 0, .ref 61, .ref 62, .ref 63, xw 1, xw one, xw two] (T, z, xv V, J, R)) i z := by
  obtain ⟨hT, hRo, hH, hS, hE, hA⟩ := hI.1
  have hor := hI.2.2.2.2
  refine set_done hI (by decide) h1 h2 (fun h k its hh hk hr => ?_) (fun h k its e hh hk _ hi he => ?_)
  · rw [if_neg (by decide)] at hr
    obtain ⟨h', rfl⟩ : ∃ m : Nat, h = m := ⟨h.toNat, by omega⟩
    obtain ⟨k', rfl⟩ : ∃ m : Nat, k = m := ⟨k.toNat, by omega⟩
    rw [show (14 * (1 : Int) + 7 * (h' : Int) + (k' : Int)).toNat = 14 + 7 * h' + k' by omega]
    have cls := s_tree (sc := sc) (d := 1) (z := z) (V := xup2 V 61 (14 + 7 * h' + k') its) (J := J) (h := (h' : Int)) (k := (k' : Int)) (v := its) hT hS (by omega) (by omega) (by omega)
    rw [if_pos (by omega), if_pos (by omega), Int.toNat_natCast, Int.toNat_natCast, xup2_o (by omega), (hor.2.1 h' k' (by omega) (by omega)).1] at cls
    refine ⟨_, dv_tree hT.1 cls, qInv_hor hI (Nat.le_succ i) (fun b hb j _ _ => by rw [xup2_o (by omega), xup2_o (by omega)]) ?_⟩
    obtain ⟨a1, a2, a3, a4, a5, a6, a7, a8, a9⟩ := hor
    have e61 : ∀ j, xup2 (xup2 V 61 (14 + 7 * h' + k') its) (36 + 3 * h') k' its 61 j = if j = 14 + 7 * h' + k' then its else V 61 j := fun j => by
      rw [xup2_o (by omega)]
      by_cases e : j = 14 + 7 * h' + k'
      · subst e; rw [xup2_i, if_pos rfl]
      · rw [xup2_j e, if_neg e]
    have e11 : ∀ j, xup2 (xup2 V 61 (14 + 7 * h' + k') its) (36 + 3 * h') k' its (36 + 3 * h') j = if j = k' then its else V (36 + 3 * h') j := fun j => by
      by_cases e : j = k'
      · subst e; rw [xup2_i, if_pos rfl]
      · rw [xup2_j e, if_neg e, xup2_o (by omega)]
    have eo : ∀ b, ¬ b = 61 → ¬ b = 36 + 3 * h' → xup2 (xup2 V 61 (14 + 7 * h' + k') its) (36 + 3 * h') k' its b = V b := fun b x y => by rw [xup2_o y, xup2_o x]
    revert e61 e11 eo
    generalize xup2 (xup2 V 61 (14 + 7 * h' + k') its) (36 + 3 * h') k' its = W
    intro e61 e11 eo
    refine ⟨fun h k x y => ?_, fun s k x y => ?_, ⟨fun h k x y => ?_, fun s k x y => ?_⟩, fun h k x x2 y => ?_, fun h k x y => ?_, ?_, ⟨fun k x => ?_, fun k x => ?_⟩, fun h j x y => ?_, ?_⟩
    · rw [eo (12 + 4 * h) (by omega) (by omega), eo (11 + 4 * h) (by omega) (by omega), e61, e61, if_neg (show ¬ 42 + 7 * h + k = 14 + 7 * h' + k' by omega), if_neg (show ¬ 7 * h + k = 14 + 7 * h' + k' by omega)]; exact a1 h k x y
    · rw [eo (37 + 3 * s) (by omega) (by omega), e61, e61, if_neg (show ¬ 28 + 7 * s + k = 14 + 7 * h' + k' by omega)]
      refine ⟨?_, (a2 s k x y).2⟩
      by_cases e : s = h'
      · subst e
        rw [e11]
        by_cases e2 : k = k'
        · subst e2; rw [if_pos rfl, if_pos rfl]
        · rw [if_neg e2, if_neg (by omega)]; exact (a2 s k x y).1
      · rw [eo (36 + 3 * s) (by omega) (by omega), if_neg (by omega)]; exact (a2 s k x y).1
    · rw [eo (11 + 4 * h) (by omega) (by omega)]; exact a3.1 h k x y
    · rw [eo (37 + 3 * s) (by omega) (by omega)]
      refine ⟨?_, (a3.2 s k x y).2⟩
      by_cases e : s = h'
      · subst e
        rw [e11]
        split
        · omega
        · exact (a3.2 s k x y).1
      · rw [eo (36 + 3 * s) (by omega) (by omega)]; exact (a3.2 s k x y).1
    · rw [eo (12 + 4 * h) (by omega) (by omega)]; exact a4 h k x x2 y
    · rw [eo (13 + 4 * h) (by omega) (by omega), eo 62 (by decide) (by omega)]; exact a5 h k x y
    · rw [eo 0 (by decide) (by omega), eo 63 (by decide) (by omega)]; omega
    · rw [e61, if_neg (by omega), eo 63 (by decide) (by omega)]; exact a7.1 k x
    · rw [eo 62 (by decide) (by omega), eo 63 (by decide) (by omega)]; exact a7.2 k x
    · rw [eo (13 + 4 * h) (by omega) (by omega), eo 63 (by decide) (by omega)]; exact a8 h j x y
    · rw [eo 55 (by decide) (by omega)]; exact a9
  · have cls := s_tree (sc := sc) (d := 1) (z := z) (V := xup2 V 61 56 its) (J := J) (h := h) (k := k) (v := its) hT hS (by omega) (by omega) (by omega)
    rcases he with ⟨rfl, q⟩ | ⟨rfl, q, q2⟩
    · rw [if_neg (by omega)] at cls
      exact dx_tree hT.1 (by decide) cls
    · rw [if_neg (by decide)] at q2
      rw [if_pos (by omega), if_neg (by omega)] at cls
      exact dx_tree hT.1 (by decide) cls
theorem r_flock {i : Nat} {one two : Int} (hI : qInv i T z V R) (h1 : 0 ≤ one ∧ one < 60000) (h2 : 0 ≤ two ∧ two < 60000) : qDone (X sc 11 108 [.ref 0, .ref 61, .ref 62, .ref 63, xw 2, xw one, xw two] (T, z, xv V, J, R)) i z := by
  obtain ⟨hT, hRo, hH, hS, hE, hA⟩ := hI.1
  have hor := hI.2.2.2.2
  refine set_done hI (by decide) h1 h2 (fun h k its hh hk hr => ?_) (fun h k its e hh hk _ hi he => ?_)
  · rw [if_pos (by decide)] at hr
    obtain ⟨h', rfl⟩ : ∃ m : Nat, h = m := ⟨h.toNat, by omega⟩
    obtain ⟨k', rfl⟩ : ∃ m : Nat, k = m := ⟨k.toNat, by omega⟩
    rw [show (14 * (2 : Int) + 7 * (h' : Int) + (k' : Int)).toNat = 28 + 7 * h' + k' by omega]
    have cls := s_flock (sc := sc) (d := 1) (z := z) (V := xup2 V 61 (28 + 7 * h' + k') its) (J := J) (h := (h' : Int)) (k := (k' : Int)) (v := its) hT hS (by omega) (by omega) (by omega)
    rw [if_pos (by omega), if_pos (by omega), Int.toNat_natCast, Int.toNat_natCast, xup2_o (by omega), (hor.2.1 h' k' (by omega) (by omega)).2] at cls
    refine ⟨_, dv_flock hT.1 cls, qInv_hor hI (Nat.le_succ i) (fun b hb j _ _ => by rw [xup2_o (by omega), xup2_o (by omega)]) ?_⟩
    obtain ⟨a1, a2, a3, a4, a5, a6, a7, a8, a9⟩ := hor
    have e61 : ∀ j, xup2 (xup2 V 61 (28 + 7 * h' + k') its) (37 + 3 * h') k' its 61 j = if j = 28 + 7 * h' + k' then its else V 61 j := fun j => by
      rw [xup2_o (by omega)]
      by_cases e : j = 28 + 7 * h' + k'
      · subst e; rw [xup2_i, if_pos rfl]
      · rw [xup2_j e, if_neg e]
    have e11 : ∀ j, xup2 (xup2 V 61 (28 + 7 * h' + k') its) (37 + 3 * h') k' its (37 + 3 * h') j = if j = k' then its else V (37 + 3 * h') j := fun j => by
      by_cases e : j = k'
      · subst e; rw [xup2_i, if_pos rfl]
      · rw [xup2_j e, if_neg e, xup2_o (by omega)]
    have eo : ∀ b, ¬ b = 61 → ¬ b = 37 + 3 * h' → xup2 (xup2 V 61 (28 + 7 * h' + k') its) (37 + 3 * h') k' its b = V b := fun b x y => by rw [xup2_o y, xup2_o x]
    revert e61 e11 eo
    generalize xup2 (xup2 V 61 (28 + 7 * h' + k') its) (37 + 3 * h') k' its = W
    intro e61 e11 eo
    refine ⟨fun h k x y => ?_, fun s k x y => ?_, ⟨fun h k x y => ?_, fun s k x y => ?_⟩, fun h k x x2 y => ?_, fun h k x y => ?_, ?_, ⟨fun k x => ?_, fun k x => ?_⟩, fun h j x y => ?_, ?_⟩
    · rw [eo (12 + 4 * h) (by omega) (by omega), eo (11 + 4 * h) (by omega) (by omega), e61, e61, if_neg (show ¬ 42 + 7 * h + k = 28 + 7 * h' + k' by omega), if_neg (show ¬ 7 * h + k = 28 + 7 * h' + k' by omega)]; exact a1 h k x y
    · rw [eo (36 + 3 * s) (by omega) (by omega), e61, e61, if_neg (show ¬ 14 + 7 * s + k = 28 + 7 * h' + k' by omega)]
      refine ⟨(a2 s k x y).1, ?_⟩
      by_cases e : s = h'
      · subst e
        rw [e11]
        by_cases e2 : k = k'
        · subst e2; rw [if_pos rfl, if_pos rfl]
        · rw [if_neg e2, if_neg (by omega)]; exact (a2 s k x y).2
      · rw [eo (37 + 3 * s) (by omega) (by omega), if_neg (by omega)]; exact (a2 s k x y).2
    · rw [eo (11 + 4 * h) (by omega) (by omega)]; exact a3.1 h k x y
    · rw [eo (36 + 3 * s) (by omega) (by omega)]
      refine ⟨(a3.2 s k x y).1, ?_⟩
      by_cases e : s = h'
      · subst e
        rw [e11]
        split
        · omega
        · exact (a3.2 s k x y).2
      · rw [eo (37 + 3 * s) (by omega) (by omega)]; exact (a3.2 s k x y).2
    · rw [eo (12 + 4 * h) (by omega) (by omega)]; exact a4 h k x x2 y
    · rw [eo (13 + 4 * h) (by omega) (by omega), eo 62 (by decide) (by omega)]; exact a5 h k x y
    · rw [eo 0 (by decide) (by omega), eo 63 (by decide) (by omega)]; omega
    · rw [e61, if_neg (by omega), eo 63 (by decide) (by omega)]; exact a7.1 k x
    · rw [eo 62 (by decide) (by omega), eo 63 (by decide) (by omega)]; exact a7.2 k x
    · rw [eo (13 + 4 * h) (by omega) (by omega), eo 63 (by decide) (by omega)]; exact a8 h j x y
    · rw [eo 55 (by decide) (by omega)]; exact a9
  · have cls := s_flock (sc := sc) (d := 1) (z := z) (V := xup2 V 61 56 its) (J := J) (h := h) (k := k) (v := its) hT hS (by omega) (by omega) (by omega)
    rcases he with ⟨rfl, q⟩ | ⟨rfl, q, q2⟩
    · rw [if_neg (by omega)] at cls
      exact dx_flock hT.1 (by decide) cls
    · rw [if_pos (by decide)] at q2
      rw [if_pos (by omega), if_neg (by omega)] at cls
      exact dx_flock hT.1 (by decide) cls
end P7
