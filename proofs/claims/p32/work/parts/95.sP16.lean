/-! the property's law: buckle -/
theorem pMn_lt {v : Int} {k r : Nat} (hk : k < r) (hb : iBt v k = true) : pMn v k 0 + 1 ≤ pMn v r 0 := by
  obtain ⟨e, rfl⟩ : ∃ e, r = k + (e + 1) := ⟨r - k - 1, by omega⟩
  rw [pMn_add, pMn, Nat.zero_add, if_pos hb]
  have := pMn_in (v := v) e (k + 1)
  omega
theorem xPl_or {V : Nat → Nat → Int} {g : Nat} {v : Int} : ∀ (m k : Nat) (l : Int), 0 ≤ l → (∀ q, k ≤ q → q < k + m → V g q = if iBt v q = true then 1 else 0) → l < pMn v m k → ∃ r : Nat, xPl V g m k l = r ∧ k ≤ r ∧ r < k + m ∧ iBt v r = true ∧ pMn v (r - k) k = l := by
  intro m
  induction m with
  | zero => intro k l hl _ h; rw [pMn] at h; omega
  | succ m ih =>
    intro k l hl hV h
    rw [xPl, hV k (Nat.le_refl k) (by omega)]
    rw [pMn] at h
    by_cases c : iBt v k = true
    · rw [if_pos c] at h
      rw [if_pos c, if_neg (show ¬ (1 : Int) = 0 by decide)]
      by_cases c2 : l = 0
      · rw [if_pos c2]
        exact ⟨k, rfl, Nat.le_refl k, by omega, c, by rw [Nat.sub_self, pMn]; omega⟩
      · rw [if_neg c2]
        obtain ⟨r, q1, q2, q3, q4, q5⟩ := ih (k + 1) (l - 1) (by omega) (fun q a b => hV q (by omega) (by omega)) (by omega)
        exact ⟨r, q1, by omega, by omega, q4, by rw [show r - k = (r - (k + 1)) + 1 by omega, pMn, if_pos c]; omega⟩
    · rw [if_neg c] at h
      rw [if_neg c, if_pos rfl]
      obtain ⟨r, q1, q2, q3, q4, q5⟩ := ih (k + 1) l hl (fun q a b => hV q (by omega) (by omega)) (by omega)
      exact ⟨r, q1, by omega, by omega, q4, by rw [show r - k = (r - (k + 1)) + 1 by omega, pMn, if_neg c]; omega⟩
section P16
variable {sc : xS} {d : Nat} {T : Nat → Nat × Nat} {z : Nat × Nat} {V : Nat → Nat → Int} {J : Nat → Nat → Int64} {R : Nat → Nat → Option Nat}
theorem bl_lp {p r : Nat} {hl : Int} {o0 o1 o2 o4 o5 o6 o7 o8 o10 o11 o12 o13 o14 o17 o20 o21 : Option Value} (hA : pAr T) (hp : p < 11) (hv : 0 ≤ V 59 p ∧ V 59 p < 268435456) (hr : r < 30) (hbit : iBt (V 59 p) r = true) (hcnt : pMn (V 59 p) r 0 = hl) :
    ∀ (m k : Nat) (c : Int), k + m = 30 → (k ≤ r ∨ c = r) → XR sc (d + 1) 107 578 [o0, o1, o2, some (.ref 59), o4, o5, o6, o7, o8, some (xw p), o10, o11, o12, o13, o14, some (xw hl), some (xw (xB true)), o17, some (xw c), some (xw k), o20, o21] [] (T, z, xv V, J, R) =
      XR sc (d + 1) 107 635 [o0, o1, o2, some (.ref 59), o4, o5, o6, o7, o8, some (xw p), o10, o11, o12, o13, o14, some (xw hl), some (xw (xB true)), o17, some (xw r), some (xw ((30 : Nat) : Int)), o20, o21] [] (T, z, xv V, J, R) := by
  have nin := pMn_in (v := V 59 p) r 0
  intro m
  induction m with
  | zero =>
    intro k c hk hc
    obtain rfl : k = 30 := by omega
    obtain rfl : c = r := by omega
    rw [bL_isPart_578 (by omega), if_pos (by omega)]
  | succ m ih =>
    intro k c hk hc
    rw [bL_isPart_578 (by omega), if_neg (by omega), bL_isPart_585 (by decide), if_neg (by decide), bL_isPart_590 (by rw [pA59 hA]) (by rw [pA59 hA]; omega) iAnd_in, Int.toNat_natCast, i_get (by omega), Int.toNat_natCast]
    by_cases b : iBt (V 59 p) k = true
    · have sp := iShl_p (n := k) (by omega)
      have kin := pMn_in (v := V 59 p) k 0
      rw [if_pos b, if_pos rfl, bL_isPart_603 (by rw [pA59 hA]) (by rw [pA59 hA]; omega) (by rw [Int.toNat_natCast]; omega), Int.toNat_natCast, l_many, xret_v, pMn_md hv.1 (by omega), bL_isPart_615 (by omega) (by omega)]
      by_cases e : k = r
      · subst e
        rw [if_pos hcnt, bL_isPart_620, bL_isPart_627, show (k : Int) + 1 = ((k + 1 : Nat) : Int) by omega]
        exact ih (k + 1) k (by omega) (Or.inr rfl)
      · have ne : ¬ pMn (V 59 p) k 0 = hl := by
          by_cases lt : k < r
          · have := pMn_lt lt b; omega
          · have := pMn_lt (show r < k by omega) hbit; omega
        rw [if_neg ne, bL_isPart_625, bL_isPart_627, show (k : Int) + 1 = ((k + 1 : Nat) : Int) by omega]
        exact ih (k + 1) c (by omega) (by omega)
    · have ne : ¬ k = r := fun e => b (by rw [e]; exact hbit)
      rw [if_neg b, if_neg (show ¬ (0 : Int) = 1 by decide), bL_isPart_625, bL_isPart_627, show (k : Int) + 1 = ((k + 1 : Nat) : Int) by omega]
      exact ih (k + 1) c (by omega) (by omega)
theorem bk_tail {are fr : Bool} {r o its hl : Int} {o0 o1 o2 o3 o4 o5 o6 o7 o8 o9 o10 : Option Value} (hr : 0 ≤ r ∧ r ≤ 8) (ho : 0 ≤ o ∧ o ≤ 3) (hi : 0 ≤ its ∧ its < 1048576) :
    XR sc d 107 535 [o0, o1, o2, o3, o4, o5, o6, o7, o8, o9, o10, some (xw its), some (xw (xB fr)), some (xw r), some (xw o), some (xw hl), none, none, none, none, none, none] [xw (xB are)] (T, z, xv V, J, R) =
      XR sc d 107 578 [o0, o1, o2, o3, o4, o5, o6, o7, o8, o9, o10, some (xw its), some (xw (xB fr)), some (xw r), some (xw o), some (xw hl), some (xw (xB are)), some (xw (xB (decide (are = true ∧ ¬ r = o ∧ fr = true ∧ its / 32768 % 2 = 1)))), some (xw 0), some (xw 0), none, none] [] (T, z, xv V, J, R) := by
  cases are with
  | false => rw [decide_eq_false (show ¬ (false = true ∧ ¬ r = o ∧ fr = true ∧ its / 32768 % 2 = 1) from fun q => absurd q.1 (by decide)), bL_isPart_535 (by first | omega | exact xB_in _ | exact xB_01 _ | exact iAnd_in | exact iShr_in | (simp only [Int.toNat_natCast]; omega) | decide), if_pos (by first | omega | decide), bL_isPart_569, bL_isPart_570]; rfl
  | true =>
    rw [bL_isPart_535 (by decide), if_neg (by decide)]
    by_cases e : r = o
    · rw [decide_eq_false (show ¬ (true = true ∧ ¬ r = o ∧ fr = true ∧ its / 32768 % 2 = 1) from fun q => q.2.1 e), bL_isPart_542 (by first | omega | exact xB_in _ | exact xB_01 _ | exact iAnd_in | exact iShr_in | (simp only [Int.toNat_natCast]; omega) | decide) (by first | omega | exact xB_in _ | exact xB_01 _ | exact iAnd_in | exact iShr_in | (simp only [Int.toNat_natCast]; omega) | decide), if_pos (by first | omega | decide), bL_isPart_569, bL_isPart_570]; rfl
    · cases fr with
      | false => rw [decide_eq_false (show ¬ (true = true ∧ ¬ r = o ∧ false = true ∧ its / 32768 % 2 = 1) from fun q => absurd q.2.2.1 (by decide)), bL_isPart_542 (by first | omega | exact xB_in _ | exact xB_01 _ | exact iAnd_in | exact iShr_in | (simp only [Int.toNat_natCast]; omega) | decide) (by first | omega | exact xB_in _ | exact xB_01 _ | exact iAnd_in | exact iShr_in | (simp only [Int.toNat_natCast]; omega) | decide), if_neg (by first | omega | decide), bL_isPart_549 (by first | omega | exact xB_in _ | exact xB_01 _ | exact iAnd_in | exact iShr_in | (simp only [Int.toNat_natCast]; omega) | decide), if_pos (by first | omega | decide), bL_isPart_569, bL_isPart_570]; rfl
      | true =>
        by_cases s : its / 32768 % 2 = 1
        · rw [decide_eq_true (show true = true ∧ ¬ r = o ∧ true = true ∧ its / 32768 % 2 = 1 from ⟨rfl, e, rfl, s⟩), bL_isPart_542 (by first | omega | exact xB_in _ | exact xB_01 _ | exact iAnd_in | exact iShr_in | (simp only [Int.toNat_natCast]; omega) | decide) (by first | omega | exact xB_in _ | exact xB_01 _ | exact iAnd_in | exact iShr_in | (simp only [Int.toNat_natCast]; omega) | decide), if_neg (by first | omega | decide), bL_isPart_549 (by first | omega | exact xB_in _ | exact xB_01 _ | exact iAnd_in | exact iShr_in | (simp only [Int.toNat_natCast]; omega) | decide), if_neg (by first | omega | decide), bL_isPart_554 (by first | omega | exact xB_in _ | exact xB_01 _ | exact iAnd_in | exact iShr_in | (simp only [Int.toNat_natCast]; omega) | decide) (by first | omega | exact xB_in _ | exact xB_01 _ | exact iAnd_in | exact iShr_in | (simp only [Int.toNat_natCast]; omega) | decide) (by first | omega | exact xB_in _ | exact xB_01 _ | exact iAnd_in | exact iShr_in | (simp only [Int.toNat_natCast]; omega) | decide), if_pos (by first | omega | decide), bL_isPart_565, bL_isPart_570]; rfl
        · rw [decide_eq_false (show ¬ (true = true ∧ ¬ r = o ∧ true = true ∧ its / 32768 % 2 = 1) from fun q => s q.2.2.2), bL_isPart_542 (by first | omega | exact xB_in _ | exact xB_01 _ | exact iAnd_in | exact iShr_in | (simp only [Int.toNat_natCast]; omega) | decide) (by first | omega | exact xB_in _ | exact xB_01 _ | exact iAnd_in | exact iShr_in | (simp only [Int.toNat_natCast]; omega) | decide), if_neg (by first | omega | decide), bL_isPart_549 (by first | omega | exact xB_in _ | exact xB_01 _ | exact iAnd_in | exact iShr_in | (simp only [Int.toNat_natCast]; omega) | decide), if_neg (by first | omega | decide), bL_isPart_554 (by first | omega | exact xB_in _ | exact xB_01 _ | exact iAnd_in | exact iShr_in | (simp only [Int.toNat_natCast]; omega) | decide) (by first | omega | exact xB_in _ | exact xB_01 _ | exact iAnd_in | exact iShr_in | (simp only [Int.toNat_natCast]; omega) | decide) (by first | omega | exact xB_in _ | exact xB_01 _ | exact iAnd_in | exact iShr_in | (simp only [Int.toNat_natCast]; omega) | decide), if_neg (by first | omega | decide), bL_isPart_569, bL_isPart_570]; rfl
theorem bk_start {P p : Nat} {its two : Int} {fr : Bool} {o0 o1 o2 o4 o5 o6 o7 : Option Value} (hA : pAr T) (hp : p < 11) (hv : p < P → 0 ≤ V 59 p ∧ V 59 p < 268435456) (hi : 0 ≤ its ∧ its < 1048576) (h2 : 0 ≤ two ∧ two < 60000) :
    ∃ (r o hl : Int) (are : Bool), (r = 8 ∨ (0 ≤ r ∧ r ≤ 3)) ∧ (0 ≤ o ∧ o ≤ 3) ∧ (0 ≤ hl ∧ hl ≤ 100) ∧ (are = true ↔ p < P ∧ r < 8 ∧ hl < pMn (V 59 p) 30 0) ∧
      XR sc (d + 1) 107 450 [o0, o1, o2, some (.ref 59), o4, o5, o6, o7, some (xw two), some (xw p), some (xw (xB (decide (p < P)))), some (xw its), some (xw (xB fr)), none, none, none, none, none, none, none, none, none] [] (T, z, xv V, J, R) =
      XR sc (d + 1) 107 578 [o0, o1, o2, some (.ref 59), o4, o5, o6, o7, some (xw two), some (xw p), some (xw (xB (decide (p < P)))), some (xw its), some (xw (xB fr)), some (xw r), some (xw o), some (xw hl), some (xw (xB are)), some (xw (xB (decide (are = true ∧ ¬ r = o ∧ fr = true ∧ its / 32768 % 2 = 1)))), some (xw 0), some (xw 0), none, none] [] (T, z, xv V, J, R) := by
  obtain ⟨o, eo⟩ : ∃ o : Int, two / 17 % 4 = o := ⟨_, rfl⟩
  have ho : 0 ≤ o ∧ o ≤ 3 := by omega
  have nin := pMn_in (v := V 59 p) 30 0
  have fin : ∀ r : Int, (r = 8 ∨ (0 ≤ r ∧ r ≤ 3)) → ∃ (hl : Int) (are : Bool), (0 ≤ hl ∧ hl ≤ 100) ∧ (are = true ↔ p < P ∧ r < 8 ∧ hl < pMn (V 59 p) 30 0) ∧
      XR sc (d + 1) 107 469 [o0, o1, o2, some (.ref 59), o4, o5, o6, o7, some (xw two), some (xw p), some (xw (xB (decide (p < P)))), some (xw its), some (xw (xB fr)), none, none, none, none, none, none, none, none, none] [xw r] (T, z, xv V, J, R) =
      XR sc (d + 1) 107 578 [o0, o1, o2, some (.ref 59), o4, o5, o6, o7, some (xw two), some (xw p), some (xw (xB (decide (p < P)))), some (xw its), some (xw (xB fr)), some (xw r), some (xw o), some (xw hl), some (xw (xB are)), some (xw (xB (decide (are = true ∧ ¬ r = o ∧ fr = true ∧ its / 32768 % 2 = 1)))), some (xw 0), some (xw 0), none, none] [] (T, z, xv V, J, R) := by
    intro r hr
    by_cases c : p < P
    · have m0 := Int.emod_nonneg (two / 68) (show pMn (V 59 p) 30 0 + 1 ≠ 0 by omega)
      have m1 := Int.emod_lt_of_pos (two / 68) (show 0 < pMn (V 59 p) 30 0 + 1 by omega)
      have b59 := hv c
      obtain ⟨hl, ehl⟩ : ∃ hl : Int, two / 68 % (pMn (V 59 p) 30 0 + 1) = hl := ⟨_, rfl⟩
      rw [ehl] at m0 m1
      rw [decide_eq_true c]
      by_cases r8 : r = 8
      · refine ⟨hl, false, by omega, ⟨fun q => absurd q (by decide), fun q => absurd q.2.1 (by omega)⟩, ?_⟩
        rw [bL_isPart_469 (by first | omega | exact xB_in _ | exact xB_01 _ | exact iAnd_in | exact iShr_in | (simp only [Int.toNat_natCast]; omega) | decide) (by first | omega | exact xB_in _ | exact xB_01 _ | exact iAnd_in | exact iShr_in | (simp only [Int.toNat_natCast]; omega) | decide) (by first | omega | exact xB_in _ | exact xB_01 _ | exact iAnd_in | exact iShr_in | (simp only [Int.toNat_natCast]; omega) | decide), if_neg (by first | omega | decide), eo, bL_isPart_485 (by first | omega | exact xB_in _ | exact xB_01 _ | exact iAnd_in | exact iShr_in | (simp only [Int.toNat_natCast]; omega) | decide) (by rw [pA59 hA]) (by rw [pA59 hA]; omega), Int.toNat_natCast, l_many, xret_v, bL_isPart_497 (by omega), ehl, bL_isPart_504 (by first | omega | exact xB_in _ | exact xB_01 _ | exact iAnd_in | exact iShr_in | (simp only [Int.toNat_natCast]; omega) | decide), if_neg (by first | omega | decide), bL_isPart_511 (by first | omega | exact xB_in _ | exact xB_01 _ | exact iAnd_in | exact iShr_in | (simp only [Int.toNat_natCast]; omega) | decide), if_pos (by first | omega | decide), bL_isPart_534, ← bk_tail (by omega) ho hi]; rfl
      · by_cases cl : hl < pMn (V 59 p) 30 0
        · refine ⟨hl, true, by omega, ⟨fun _ => ⟨c, by omega, cl⟩, fun _ => rfl⟩, ?_⟩
          rw [bL_isPart_469 (by first | omega | exact xB_in _ | exact xB_01 _ | exact iAnd_in | exact iShr_in | (simp only [Int.toNat_natCast]; omega) | decide) (by first | omega | exact xB_in _ | exact xB_01 _ | exact iAnd_in | exact iShr_in | (simp only [Int.toNat_natCast]; omega) | decide) (by first | omega | exact xB_in _ | exact xB_01 _ | exact iAnd_in | exact iShr_in | (simp only [Int.toNat_natCast]; omega) | decide), if_neg (by first | omega | decide), eo, bL_isPart_485 (by first | omega | exact xB_in _ | exact xB_01 _ | exact iAnd_in | exact iShr_in | (simp only [Int.toNat_natCast]; omega) | decide) (by rw [pA59 hA]) (by rw [pA59 hA]; omega), Int.toNat_natCast, l_many, xret_v, bL_isPart_497 (by omega), ehl, bL_isPart_504 (by first | omega | exact xB_in _ | exact xB_01 _ | exact iAnd_in | exact iShr_in | (simp only [Int.toNat_natCast]; omega) | decide), if_neg (by first | omega | decide), bL_isPart_511 (by first | omega | exact xB_in _ | exact xB_01 _ | exact iAnd_in | exact iShr_in | (simp only [Int.toNat_natCast]; omega) | decide), if_neg (by first | omega | decide), bL_isPart_518 (by rw [pA59 hA]) (by rw [pA59 hA]; omega), Int.toNat_natCast, l_many, xret_v, bL_isPart_527 (by omega) (by omega), if_neg (by omega), bL_isPart_530, ← bk_tail (by omega) ho hi]; rfl
        · refine ⟨hl, false, by omega, ⟨fun q => absurd q (by decide), fun q => absurd q.2.2 cl⟩, ?_⟩
          rw [bL_isPart_469 (by first | omega | exact xB_in _ | exact xB_01 _ | exact iAnd_in | exact iShr_in | (simp only [Int.toNat_natCast]; omega) | decide) (by first | omega | exact xB_in _ | exact xB_01 _ | exact iAnd_in | exact iShr_in | (simp only [Int.toNat_natCast]; omega) | decide) (by first | omega | exact xB_in _ | exact xB_01 _ | exact iAnd_in | exact iShr_in | (simp only [Int.toNat_natCast]; omega) | decide), if_neg (by first | omega | decide), eo, bL_isPart_485 (by first | omega | exact xB_in _ | exact xB_01 _ | exact iAnd_in | exact iShr_in | (simp only [Int.toNat_natCast]; omega) | decide) (by rw [pA59 hA]) (by rw [pA59 hA]; omega), Int.toNat_natCast, l_many, xret_v, bL_isPart_497 (by omega), ehl, bL_isPart_504 (by first | omega | exact xB_in _ | exact xB_01 _ | exact iAnd_in | exact iShr_in | (simp only [Int.toNat_natCast]; omega) | decide), if_neg (by first | omega | decide), bL_isPart_511 (by first | omega | exact xB_in _ | exact xB_01 _ | exact iAnd_in | exact iShr_in | (simp only [Int.toNat_natCast]; omega) | decide), if_neg (by first | omega | decide), bL_isPart_518 (by rw [pA59 hA]) (by rw [pA59 hA]; omega), Int.toNat_natCast, l_many, xret_v, bL_isPart_527 (by omega) (by omega), if_pos (by omega), bL_isPart_534, ← bk_tail (by omega) ho hi]; rfl
    · refine ⟨0, false, by decide, ⟨fun q => absurd q (by decide), fun q => absurd q.1 c⟩, ?_⟩
      rw [decide_eq_false c, bL_isPart_469 (by first | omega | exact xB_in _ | exact xB_01 _ | exact iAnd_in | exact iShr_in | (simp only [Int.toNat_natCast]; omega) | decide) (by first | omega | exact xB_in _ | exact xB_01 _ | exact iAnd_in | exact iShr_in | (simp only [Int.toNat_natCast]; omega) | decide) (by first | omega | exact xB_in _ | exact xB_01 _ | exact iAnd_in | exact iShr_in | (simp only [Int.toNat_natCast]; omega) | decide), if_pos (by first | omega | decide), eo, bL_isPart_503, bL_isPart_504 (by first | omega | exact xB_in _ | exact xB_01 _ | exact iAnd_in | exact iShr_in | (simp only [Int.toNat_natCast]; omega) | decide), if_pos (by first | omega | decide), bL_isPart_534, ← bk_tail (by omega) ho hi]; rfl
  by_cases c : two % 17 = 16
  · obtain ⟨hl, are, q1, q2, q3⟩ := fin 8 (Or.inl rfl)
    refine ⟨8, o, hl, are, Or.inl rfl, ho, q1, q2, ?_⟩
    rw [bL_isPart_450 (by first | omega | exact xB_in _ | exact xB_01 _ | exact iAnd_in | exact iShr_in | (simp only [Int.toNat_natCast]; omega) | decide) (by first | omega | exact xB_in _ | exact xB_01 _ | exact iAnd_in | exact iShr_in | (simp only [Int.toNat_natCast]; omega) | decide), if_pos (by first | omega | decide), bL_isPart_460, q3]
  · obtain ⟨hl, are, q1, q2, q3⟩ := fin (two % 4) (Or.inr (by omega))
    refine ⟨two % 4, o, hl, are, Or.inr (by omega), ho, q1, q2, ?_⟩
    rw [bL_isPart_450 (by first | omega | exact xB_in _ | exact xB_01 _ | exact iAnd_in | exact iShr_in | (simp only [Int.toNat_natCast]; omega) | decide) (by first | omega | exact xB_in _ | exact xB_01 _ | exact iAnd_in | exact iShr_in | (simp only [Int.toNat_natCast]; omega) | decide), if_neg (by first | omega | decide), bL_isPart_465 (by first | omega | exact xB_in _ | exact xB_01 _ | exact iAnd_in | exact iShr_in | (simp only [Int.toNat_natCast]; omega) | decide), q3]
/-- buckle -/
theorem t_buckle {i : Nat} {one two : Int} (hI : qInv i T z V R) (hi : i ≤ 63) (h1 : 0 ≤ one ∧ one < 60000) (h2 : 0 ≤ two ∧ two < 60000) : qDone (X sc 11 107 [.ref 0, .ref 57, .ref 58, .ref 59, .ref 60, .ref 63, xw 2, xw one, xw two] (T, z, xv V, J, R)) i z := by
  obtain ⟨hT, hRo, hHs, hSs, hSe, hA⟩ := hI.1
  have hz := hI.2.1
  obtain ⟨P, hP⟩ := hI.2.2.2.1
  obtain ⟨⟨r1, r2, r3⟩, r4, ⟨r5, r5b⟩, r6, r7⟩ := id hP
  obtain ⟨p, its, a1, a2, a0, a3⟩ := pt_start (sc := sc) (d := 10) (T := T) (z := z) (V := V) (J := J) (R := R) (what := 2) (two := two) hA ⟨r1, r3⟩ (qp_b hP) h1
  obtain ⟨r, o, hl, are, s1, s2, s3, s4, s5⟩ := bk_start (sc := sc) (d := 9) (T := T) (z := z) (V := V) (J := J) (R := R) (P := P) (p := p) (its := its) (two := two) (fr := decide (p < P ∧ V 60 p = 0 ∧ its < 524288)) (o0 := some (.ref 0)) (o1 := some (.ref 57)) (o2 := some (.ref 58)) (o4 := some (.ref 60)) (o5 := some (.ref 63)) (o6 := some (xw 2)) (o7 := some (xw one)) hA (by omega) (fun q => (r6 p q).2.2.2.2.2.2.2.1.1) a0 h2
  rw [a3, bL_isPart_67 (by first | omega | exact xB_in _ | exact xB_01 _ | exact iAnd_in | exact iShr_in | (simp only [Int.toNat_natCast]; omega) | decide), if_neg (by first | omega | decide), bL_isPart_245 (by first | omega | exact xB_in _ | exact xB_01 _ | exact iAnd_in | exact iShr_in | (simp only [Int.toNat_natCast]; omega) | decide), if_neg (by first | omega | decide), bL_isPart_444 (by first | omega | exact xB_in _ | exact xB_01 _ | exact iAnd_in | exact iShr_in | (simp only [Int.toNat_natCast]; omega) | decide), if_pos (by first | omega | decide), s5]
  clear s5 a3
  -- refused because there's no such hole
  have bad : are = false → (∀ W : Nat → Nat → Int, (∀ b, ¬ b = 60 → W b = V b) → X sc 9 58 [.ref 0, xw p, xw r, xw o, xw hl] (T, z, xv W, J, R) = xTw 10 T z W J R) → ∀ (fr y : Bool), qDone (XR sc 10 107 578 [some (.ref 0), some (.ref 57), some (.ref 58), some (.ref 59), some (.ref 60), some (.ref 63), some (xw 2), some (xw one), some (xw two), some (xw p), some (xw (xB y)), some (xw its), some (xw (xB fr)), some (xw r), some (xw o), some (xw hl), some (xw (xB are)), some (xw (xB (decide (are = true ∧ ¬ r = o ∧ fr = true ∧ its / 32768 % 2 = 1)))), some (xw 0), some (xw 0), none, none] [] (T, z, xv V, J, R)) i z := by
    intro ha cls fr y
    subst ha
    have cls := cls (xup2 V 60 10 (1 + r + 8 * o + 64 * 0)) (fun b hb => xup2_o hb)
    rw [decide_eq_false (show ¬ (false = true ∧ ¬ r = o ∧ fr = true ∧ its / 32768 % 2 = 1) from fun q => absurd q.1 (by decide)), bL_isPart_578 (by first | omega | exact xB_in _ | exact xB_01 _ | exact iAnd_in | exact iShr_in | (simp only [Int.toNat_natCast]; omega) | decide), if_neg (by first | omega | decide), bL_isPart_585 (by first | omega | exact xB_in _ | exact xB_01 _ | exact iAnd_in | exact iShr_in | (simp only [Int.toNat_natCast]; omega) | decide), if_pos (by first | omega | decide), bL_isPart_635 (by first | omega | exact xB_in _ | exact xB_01 _ | exact iAnd_in | exact iShr_in | (simp only [Int.toNat_natCast]; omega) | decide), if_pos (by first | omega | decide), bL_isPart_647, bL_isPart_649 (by rw [pA60 hA]) (by rw [pA60 hA]; omega), show Int.toNat 10 = 10 from rfl, dx_buckle hT.1 (by decide) cls, xret_v, bL_isPart_682 (by first | omega | exact xB_in _ | exact xB_01 _ | exact iAnd_in | exact iShr_in | (simp only [Int.toNat_natCast]; omega) | decide), if_pos (by first | omega | decide), bL_isPart_687, bL_isPart_716 (by decide) (by decide), if_pos (by decide), bL_isPart_719, bL_isPart_724 (by first | omega | exact xB_in _ | exact xB_01 _ | exact iAnd_in | exact iShr_in | (simp only [Int.toNat_natCast]; omega) | decide)]
    exact done_x hI (pDu_u (by decide))
  by_cases c : p < P
  · rw [if_pos c] at a2
    obtain ⟨a, ea, ha, g1⟩ := qp_y hP c
    have va := qp_va g1 (by omega)
    have v01 := qp_01 g1
    have vg := qp_g g1
    have v11 := qp_11 g1
    obtain ⟨⟨hPa, ga, gn⟩, ⟨w0, w1, w2, w3, w5, w4⟩, ⟨w7, w8, w12⟩, ⟨w9, w10, w11⟩, ⟨b0, b1, b5, b8, b57, b58⟩, ⟨st, b60, s60⟩, ⟨b59, t2, t3⟩, w6⟩ := id g1
    have clsOf : ∀ W : Nat → Nat → Int, (∀ b, ¬ b = 60 → W b = V b) → X sc 9 58 [.ref 0, xw p, xw r, xw o, xw hl] (T, z, xv W, J, R) = if (0 ≤ r ∧ r < 8) ∧ (0 ≤ o ∧ o < 8) ∧ (0 ≤ hl ∧ hl < V a 6) then (if r = o then xTw 8 T z W J R else if V a 3 = 0 ∨ ¬ V a 11 = -1 ∨ ¬ V a 12 = 0 then xTw 9 T z W J R else some (.inl (some (xw (xPl W (a + 1) 49 0 hl))), (T, z, xv (xBk W a (a + 1) r o hl), J, R))) else xTw 10 T z W J R := fun W hW => by
      have cls := s_buckle (sc := sc) (d := 1) (T := T) (z := z) (V := W) (J := J) (R := R) (x := (p : Int)) (r := r) (o := o) (hl := hl) (a := a) (g := a + 1) hT (by omega) (by rw [Int.toNat_natCast]; exact ha) hPa (by rw [hW (a + 1) (by omega)]; exact v01) (by rw [hW a (by omega)]; exact va) (by omega) (by omega) (by omega)
      rw [hW a (by omega)] at cls
      exact cls
    by_cases ca : are = true
    · obtain ⟨_, c8, cl⟩ := s4.mp ca
      subst ca
      have p49 : pMn (V 59 p) 49 0 = pMn (V 59 p) 30 0 := by
        rw [show (49 : Nat) = 30 + 19 from rfl, pMn_add, pMn_0 19 (0 + 30) (fun q x _ => iBt_hi b59 (by omega)), Int.add_zero]
      obtain ⟨pl, j1, _, j3, j4, j5⟩ := xPl_or (V := V) (g := a + 1) (v := V 59 p) 49 0 hl s3.1 (fun q _ hq => vg q (by omega)) (by rw [p49]; exact cl)
      rw [Nat.sub_zero] at j5
      have pl28 : pl < 28 := by
        by_cases h : pl < 28
        · exact h
        · rw [iBt_hi b59 (by omega)] at j4; cases j4
      have plb := t3 pl pl28 j4
      have lp := bl_lp (sc := sc) (d := 9) (T := T) (z := z) (V := V) (J := J) (R := R) (p := p) (r := pl) (hl := hl) (o0 := some (.ref 0)) (o1 := some (.ref 57)) (o2 := some (.ref 58)) (o4 := some (.ref 60)) (o5 := some (.ref 63)) (o6 := some (xw 2)) (o7 := some (xw one)) (o8 := some (xw two)) (o10 := some (xw (xB (decide (p < P))))) (o11 := some (xw its)) (o12 := some (xw (xB (decide (p < P ∧ V 60 p = 0 ∧ its < 524288))))) (o13 := some (xw r)) (o14 := some (xw o)) (o17 := some (xw (xB (decide (true = true ∧ ¬ r = o ∧ decide (p < P ∧ V 60 p = 0 ∧ its < 524288) = true ∧ its / 32768 % 2 = 1))))) (o20 := none) (o21 := none) hA (by omega) b59 (by omega) j4 j5 30 0 0 rfl (Or.inl (Nat.zero_le _))
      have lp : XR sc 10 107 578 [some (.ref 0), some (.ref 57), some (.ref 58), some (.ref 59), some (.ref 60), some (.ref 63), some (xw 2), some (xw one), some (xw two), some (xw p), some (xw (xB (decide (p < P)))), some (xw its), some (xw (xB (decide (p < P ∧ V 60 p = 0 ∧ its < 524288)))), some (xw r), some (xw o), some (xw hl), some (xw (xB true)), some (xw (xB (decide (true = true ∧ ¬ r = o ∧ decide (p < P ∧ V 60 p = 0 ∧ its < 524288) = true ∧ its / 32768 % 2 = 1)))), some (xw 0), some (xw 0), none, none] [] (T, z, xv V, J, R) = _ := lp
      rw [lp]
      clear lp
      have cin : (0 ≤ r ∧ r < 8) ∧ (0 ≤ o ∧ o < 8) ∧ (0 ≤ hl ∧ hl < V a 6) := ⟨by omega, by omega, by omega⟩
      by_cases e : r = o
      · have cls := clsOf (xup2 V 60 10 (1 + r + 8 * o + 64 * (pl : Int))) (fun b hb => xup2_o hb)
        rw [if_pos cin, if_pos e] at cls
        rw [decide_eq_false (show ¬ (true = true ∧ ¬ r = o ∧ decide (p < P ∧ V 60 p = 0 ∧ its < 524288) = true ∧ its / 32768 % 2 = 1) from fun q => q.2.1 e), bL_isPart_635 (by first | omega | exact xB_in _ | exact xB_01 _ | exact iAnd_in | exact iShr_in | (simp only [Int.toNat_natCast]; omega) | decide), if_pos (by first | omega | decide), bL_isPart_647, bL_isPart_649 (by rw [pA60 hA]) (by rw [pA60 hA]; omega), show Int.toNat 10 = 10 from rfl, dx_buckle hT.1 (by decide) cls, xret_v, bL_isPart_682 (by first | omega | exact xB_in _ | exact xB_01 _ | exact iAnd_in | exact iShr_in | (simp only [Int.toNat_natCast]; omega) | decide), if_neg (by first | omega | decide), bL_isPart_692 (by first | omega | exact xB_in _ | exact xB_01 _ | exact iAnd_in | exact iShr_in | (simp only [Int.toNat_natCast]; omega) | decide) (by first | omega | exact xB_in _ | exact xB_01 _ | exact iAnd_in | exact iShr_in | (simp only [Int.toNat_natCast]; omega) | decide), if_pos (by first | omega | decide), bL_isPart_699, bL_isPart_716 (by decide) (by decide), if_pos (by decide), bL_isPart_719, bL_isPart_724 (by first | omega | exact xB_in _ | exact xB_01 _ | exact iAnd_in | exact iShr_in | (simp only [Int.toNat_natCast]; omega) | decide)]
        exact done_x hI (pDu_u (by decide))
      · by_cases c3 : (V 60 p = 0 ∧ its < 524288) ∧ its / 32768 % 2 = 1
        · have hW : ∀ b, ¬ b = 60 → xup2 V 60 p (1 + r + 8 * o + 64 * (pl : Int)) b = V b := fun b hb => xup2_o hb
          have cls := clsOf _ hW
          have xpl : xPl (xup2 V 60 p (1 + r + 8 * o + 64 * (pl : Int))) (a + 1) 49 0 hl = pl := by
            obtain ⟨pl', k1, _, k3, k4, k5⟩ := xPl_or (V := xup2 V 60 p (1 + r + 8 * o + 64 * (pl : Int))) (g := a + 1) (v := V 59 p) 49 0 hl s3.1 (fun q _ hq => by rw [hW (a + 1) (by omega)]; exact vg q (by omega)) (by rw [p49]; exact cl)
            rw [Nat.sub_zero] at k5
            have : pl' = pl := by
              by_cases l1 : pl' < pl
              · have := pMn_lt l1 k4; omega
              · by_cases l2 : pl < pl'
                · have := pMn_lt l2 j4; omega
                · omega
            rw [k1, this]
          rw [if_pos cin, if_neg e, if_neg (fun q => q.elim (by omega) (fun q => q.elim (fun q => q (v11.mpr c3.1.1)) (by omega))), xpl] at cls
          rw [decide_eq_true (show true = true ∧ ¬ r = o ∧ decide (p < P ∧ V 60 p = 0 ∧ its < 524288) = true ∧ its / 32768 % 2 = 1 from ⟨rfl, e, decide_eq_true ⟨c, c3.1⟩, c3.2⟩), bL_isPart_635 (by decide), if_neg (by decide), bL_isPart_642, bL_isPart_649 (by rw [pA60 hA]) (by rw [pA60 hA]; omega), Int.toNat_natCast, dv_buckle hT.1 cls, xret_v, bL_isPart_682 (by first | omega | exact xB_in _ | exact xB_01 _ | exact iAnd_in | exact iShr_in | (simp only [Int.toNat_natCast]; omega) | decide), if_neg (by first | omega | decide), bL_isPart_692 (by first | omega | exact xB_in _ | exact xB_01 _ | exact iAnd_in | exact iShr_in | (simp only [Int.toNat_natCast]; omega) | decide) (by first | omega | exact xB_in _ | exact xB_01 _ | exact iAnd_in | exact iShr_in | (simp only [Int.toNat_natCast]; omega) | decide), if_neg (by first | omega | decide), bL_isPart_704 (by first | omega | exact xB_in _ | exact xB_01 _ | exact iAnd_in | exact iShr_in | (simp only [Int.toNat_natCast]; omega) | decide), if_neg (by first | omega | decide), bL_isPart_709, bL_isPart_716 (by omega) (by omega), if_pos rfl, bL_isPart_719, bL_isPart_724 (by first | omega | exact xB_in _ | exact xB_01 _ | exact iAnd_in | exact iShr_in | (simp only [Int.toNat_natCast]; omega) | decide)]
          have go : ∀ b, ¬ b = a → xBk (xup2 V 60 p (1 + r + 8 * o + 64 * (pl : Int))) a (a + 1) r o hl b = xup2 V 60 p (1 + r + 8 * o + 64 * (pl : Int)) b := fun b hb => by unfold xBk; rw [xup2_o hb, xup2_o hb, xup2_o hb]
          have ro : ∀ b, ¬ b = a → ¬ b = a + 1 → ¬ (57 ≤ b ∧ b ≤ 60) → xBk (xup2 V 60 p (1 + r + 8 * o + 64 * (pl : Int))) a (a + 1) r o hl b = V b := fun b b1 b2 b3 => by rw [go b b1, hW b (by omega)]
          have rr : ∀ x q, 57 ≤ x → x ≤ 60 → ¬ q = p → xBk (xup2 V 60 p (1 + r + 8 * o + 64 * (pl : Int))) a (a + 1) r o hl x q = V x q := fun x q r1 r2 hq => by
            rw [go x (by omega)]
            by_cases e : x = 60
            · subst e; rw [xup2_j hq]
            · rw [hW x e]
          have e57 : xBk (xup2 V 60 p (1 + r + 8 * o + 64 * (pl : Int))) a (a + 1) r o hl 57 p = V 57 p := by rw [go 57 (by omega), hW 57 (by decide)]
          have e58 : xBk (xup2 V 60 p (1 + r + 8 * o + 64 * (pl : Int))) a (a + 1) r o hl 58 p = V 58 p := by rw [go 58 (by omega), hW 58 (by decide)]
          have e59 : xBk (xup2 V 60 p (1 + r + 8 * o + 64 * (pl : Int))) a (a + 1) r o hl 59 p = V 59 p := by rw [go 59 (by omega), hW 59 (by decide)]
          have e60 : xBk (xup2 V 60 p (1 + r + 8 * o + 64 * (pl : Int))) a (a + 1) r o hl 60 p = 1 + r + 8 * o + 64 * (pl : Int) := by rw [go 60 (by omega), xup2_i]
          have eg : xBk (xup2 V 60 p (1 + r + 8 * o + 64 * (pl : Int))) a (a + 1) r o hl (a + 1) = V (a + 1) := by rw [go (a + 1) (by omega), hW (a + 1) (by omega)]
          have ra : ∀ j, xBk (xup2 V 60 p (1 + r + 8 * o + 64 * (pl : Int))) a (a + 1) r o hl a j = if j = 9 then min r o else if j = 10 then max r o else if j = 11 then (pl : Int) else V a j := fun j => by
            unfold xBk
            rw [xpl]
            by_cases e1 : j = 11
            · subst e1; rw [xup2_i]; rfl
            · rw [xup2_j e1]
              by_cases e2 : j = 10
              · subst e2; rw [xup2_i]; rfl
              · rw [xup2_j e2]
                by_cases e3 : j = 9
                · subst e3; rw [xup2_i]; rfl
                · rw [xup2_j e3, if_neg e3, if_neg e2, if_neg e1, hW a (by omega)]
          revert ro rr e57 e58 e59 e60 eg ra
          clear go cls xpl hW
          generalize xBk (xup2 V 60 p (1 + r + 8 * o + 64 * (pl : Int))) a (a + 1) r o hl = W
          intro ro rr e57 e58 e59 e60 eg ra
          obtain ⟨o1, o2, o3⟩ := pL_v (V := W) (p := p) (by omega)
          rw [show (W 60 p - 1) % 8 = r by rw [e60]; clear r6 r7; omega] at o1
          rw [show (W 60 p - 1) / 8 % 8 = o by rw [e60]; clear r6 r7; omega] at o2
          rw [show (W 60 p - 1) / 64 = pl by rw [e60]; clear r6 r7; omega] at o3
          have g2 : qPa1 (i + 1) T z.1 W R p a := by
            have hwi : 0 ≤ V 58 p ∧ V 58 p ≤ 1000 * ((i + 1 : Nat) : Int) := by omega
            have hro : (0 ≤ r ∧ r < 8) ∧ (0 ≤ o ∧ o < 8) := by omega
            have hpl : 1 ≤ (pl : Int) ∧ (pl : Int) ≤ 100 := by omega
            have h60 : 0 ≤ 1 + r + 8 * o + 64 * (pl : Int) ∧ 1 + r + 8 * o + 64 * (pl : Int) ≤ 10000 := by omega
            have hits : 524288 ≤ V 57 p → 1 + r + 8 * o + 64 * (pl : Int) = 0 := by omega
            unfold qPa1 aSt at g1 ⊢
            rw [e57, e58, e59, e60, eg, o1, o2, o3]
            simp only [ra, Nat.reduceEqDiff, if_true, if_false]
            exact ⟨g1.1, g1.2.1, g1.2.2.1, ⟨trivial, trivial, trivial⟩, ⟨b0, b1, b5, b8, b57, hwi⟩, ⟨Or.inr ⟨hro.1, hro.2, e, hpl⟩, h60, hits⟩, ⟨b59, t2, t3⟩, w6⟩
          exact done_v (qInv_p hI (Nat.le_succ i) hP c ea ro rr g2)
        · have cls := clsOf (xup2 V 60 10 (1 + r + 8 * o + 64 * (pl : Int))) (fun b hb => xup2_o hb)
          have thr : V a 3 = 0 ∨ ¬ V a 11 = -1 ∨ ¬ V a 12 = 0 := by
            by_cases q1 : its / 32768 % 2 = 1
            · by_cases q2 : V 60 p = 0
              · exact Or.inr (Or.inr (by have := c3; omega))
              · exact Or.inr (Or.inl (fun q => q2 (v11.mp q)))
            · exact Or.inl (by omega)
          rw [if_pos cin, if_neg e, if_pos thr] at cls
          rw [decide_eq_false (show ¬ (true = true ∧ ¬ r = o ∧ decide (p < P ∧ V 60 p = 0 ∧ its < 524288) = true ∧ its / 32768 % 2 = 1) from fun q => c3 ⟨(of_decide_eq_true q.2.2.1).2, q.2.2.2⟩), bL_isPart_635 (by first | omega | exact xB_in _ | exact xB_01 _ | exact iAnd_in | exact iShr_in | (simp only [Int.toNat_natCast]; omega) | decide), if_pos (by first | omega | decide), bL_isPart_647, bL_isPart_649 (by rw [pA60 hA]) (by rw [pA60 hA]; omega), show Int.toNat 10 = 10 from rfl, dx_buckle hT.1 (by decide) cls, xret_v, bL_isPart_682 (by first | omega | exact xB_in _ | exact xB_01 _ | exact iAnd_in | exact iShr_in | (simp only [Int.toNat_natCast]; omega) | decide), if_neg (by first | omega | decide), bL_isPart_692 (by first | omega | exact xB_in _ | exact xB_01 _ | exact iAnd_in | exact iShr_in | (simp only [Int.toNat_natCast]; omega) | decide) (by first | omega | exact xB_in _ | exact xB_01 _ | exact iAnd_in | exact iShr_in | (simp only [Int.toNat_natCast]; omega) | decide), if_neg (by first | omega | decide), bL_isPart_704 (by first | omega | exact xB_in _ | exact xB_01 _ | exact iAnd_in | exact iShr_in | (simp only [Int.toNat_natCast]; omega) | decide), if_pos (by first | omega | decide), bL_isPart_714, bL_isPart_716 (by decide) (by decide), if_pos (by decide), bL_isPart_719, bL_isPart_724 (by first | omega | exact xB_in _ | exact xB_01 _ | exact iAnd_in | exact iShr_in | (simp only [Int.toNat_natCast]; omega) | decide)]
          exact done_x hI (pDu_u (by decide))
    · have ca' : are = false := Bool.eq_false_iff.mpr ca
      refine bad ca' (fun W hW => ?_) _ _
      have cls := clsOf W hW
      rw [if_neg (fun q => ca (s4.mpr ⟨c, q.1.2, by rw [← w6]; exact q.2.2.2⟩))] at cls
      exact cls
  · refine bad (Bool.eq_false_iff.mpr (fun q => c (s4.mp q).1)) (fun W hW => ?_) _ _
    exact s_buckle_x (sc := sc) (d := 1) (T := T) (z := z) (V := W) (J := J) (R := R) (x := (p : Int)) hT (by omega) (qp_no hP (by omega))
end P16
