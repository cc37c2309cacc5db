/-! what the methods of Horse do -/
section SX1
variable {sc : xS} {d : Nat} {T : Nat → Nat × Nat} {z : Nat × Nat} {V : Nat → Nat → Int} {J : Nat → Nat → Int64} {R : Nat → Nat → Option Nat}
/-- a horse stands at a: heights, sores, blames at e, s, b -/
def xHo (T : Nat → Nat × Nat) (R : Nat → Nat → Option Nat) (a e s b : Nat) : Prop := T a = (3, 0) ∧ R a 0 = some e ∧ R a 1 = some s ∧ R a 2 = some b ∧ T e = (32, 7) ∧ T s = (32, 7) ∧ T b = (32, 126)
/-- whether one of the m places from k on is 100 or more -/
def xLa (V : Nat → Nat → Int) (s : Nat) : Nat → Nat → Bool
  | 0, _ => false
  | m + 1, k => if V s k < 100 then xLa V s m (k + 1) else true
theorem lame_loop {s : Nat} (hs : T s = (32, 7)) (hV : ∀ k, k < 7 → -2147483648 ≤ V s k ∧ V s k ≤ 2147483647) {o0 : Option Value} :
    ∀ (m k : Nat) (o4 : Option Value), k + m = 7 →
    XR sc d 11 10 [o0, some (.ref s), some (xw 7), some (xw k), o4] [] (T, z, xv V, J, R) = some (.inl (some (xw (xB (xLa V s m k)))), (T, z, xv V, J, R)) := by
  intro m
  induction m with
  | zero =>
    intro k o4 hk
    rw [bX1_isLame_10 (by omega) (by decide), if_pos (by omega), bX1_isLame_35]; rfl
  | succ m ih =>
    intro k o4 hk
    have hv := hV k (by omega)
    rw [bX1_isLame_10 (by omega) (by decide), if_neg (by omega), bX1_isLame_15 (by rw [hs]) (by rw [hs]; omega) (by simp only [Int.toNat_natCast]; omega)]
    simp only [Int.toNat_natCast, xLa]
    by_cases h : V s k < 100
    · rw [if_pos h, if_pos h, bX1_isLame_29, show (k : Int) + 1 = ((k + 1 : Nat) : Int) by omega, ih (k + 1) _ (by omega)]
    · rw [if_neg h, if_neg h, bX1_isLame_27]; rfl
theorem s_isLame {a e s b : Nat} (hH : xHo T R a e s b) (hV : ∀ k, k < 7 → -2147483648 ≤ V s k ∧ V s k ≤ 2147483647) :
    X sc (d + 1) 11 [.ref a] (T, z, xv V, J, R) = some (.inl (some (xw (xB (xLa V s 7 0)))), (T, z, xv V, J, R)) := by
  obtain ⟨h1, h2, h3, h4, h5, h6, h7⟩ := hH
  rw [eX1_isLame, bX1_isLame_0 h1 (rgd h3) rfl (lgd h3 h6 (by decide)), h3]
  simp only [Option.getD_some, h6]
  exact lame_loop (sc := sc) (d := d) (z := z) (J := J) (R := R) (o0 := some (.ref a)) h6 hV 7 0 none rfl
/-- m places from k on are healed -/
def xHe (V : Nat → Nat → Int) (s : Nat) (am : Int) (n : Nat) : Nat → Nat → Int := fun b j => if b = s ∧ n ≤ j ∧ j < 7 then max 0 (V s j - am) else V b j
theorem heal_loop {a e s b : Nat} {am : Int} (hH : xHo T R a e s b) (ha : 0 ≤ am ∧ am ≤ 1000) :
    ∀ (m k : Nat) (V : Nat → Nat → Int), (∀ k, k < 7 → 0 ≤ V s k ∧ V s k ≤ 2147483647) → k + m = 7 →
    XR sc (d + 1) 12 2 [some (.ref a), some (xw am), some (xw k)] [] (T, z, xv V, J, R) = some (.inl none, (T, z, xv (xHe V s am k), J, R)) := by
  obtain ⟨h1, h2, h3, h4, h5, h6, h7⟩ := hH
  intro m
  induction m with
  | zero =>
    intro k V hV hk
    rw [bX1_heal_2 (by omega), if_pos (by omega), bX1_heal_32]
    have : xHe V s am k = V := by
      funext b j
      simp only [xHe]
      split
      · omega
      · rfl
    rw [this]
  | succ m ih =>
    intro k V hV hk
    have hv := hV k (by omega)
    have e : xHe (xup2 V s k (max 0 (V s k - am))) s am (k + 1) = xHe V s am k := by
      funext b j
      simp only [xHe, xup2]
      by_cases hb : b = s
      · subst hb
        by_cases hj : j = k
        · subst hj
          rw [if_neg (by omega), if_pos ⟨rfl, rfl⟩, if_pos (by omega)]
        · simp only [true_and, hj, if_false]
          split <;> split <;> first | rfl | omega
      · simp only [hb, false_and, if_false]
    rw [bX1_heal_2 (by omega), if_neg (by omega), bX1_heal_8 h1 (rgd h3) (tgd h3 h6) (igd h3 h6 (by omega)), h3]
    simp only [Option.getD_some, Int.toNat_natCast]
    rw [s_max (by decide) (by omega), xret_v, bX1_heal_25 (by rw [h6]) (by rw [h6]; omega), Int.toNat_natCast, show (k : Int) + 1 = ((k + 1 : Nat) : Int) by omega, ih (k + 1) _ ?_ (by omega), e]
    intro q hq
    simp only [xup2]
    have := hV q hq
    split
    · omega
    · exact this
theorem s_heal {a e s b : Nat} {am : Int} (hH : xHo T R a e s b) (ha : 0 ≤ am ∧ am ≤ 1000) (hV : ∀ k, k < 7 → 0 ≤ V s k ∧ V s k ≤ 2147483647) :
    X sc (d + 2) 12 [.ref a, xw am] (T, z, xv V, J, R) = some (.inl none, (T, z, xv (xHe V s am 0), J, R)) := by
  rw [eX1_heal, bX1_heal_0]
  exact heal_loop hH ha 7 0 V hV rfl
theorem s_blame {a e s b : Nat} {k by_ who am : Int} (hH : xHo T R a e s b) (hk : 0 ≤ k ∧ k < 7) (hb : 0 ≤ by_ ∧ by_ < 3) (hw : 0 ≤ who ∧ who < 6) :
    X sc (d + 1) 13 [.ref a, xw k, xw by_, xw who, xw am] (T, z, xv V, J, R) = some (.inl none, (T, z, xv (xup2 V b ((k * 3 + by_) * 6 + who).toNat (V b ((k * 3 + by_) * 6 + who).toNat + am)), J, R)) := by
  obtain ⟨h1, h2, h3, h4, h5, h6, h7⟩ := hH
  rw [eX1_blame, bX1_blame_0 h1 (rgd h4) (tgd h4 h7) (igd h4 h7 (by omega)), h4]
  rfl
theorem s_blameOf {a e s b : Nat} {k by_ who : Int} (hH : xHo T R a e s b) (hk : 0 ≤ k ∧ k < 7) (hb : 0 ≤ by_ ∧ by_ < 3) (hw : -2147483648 ≤ who ∧ who ≤ 2147483647) :
    X sc (d + 1) 14 [.ref a, xw k, xw by_, xw who] (T, z, xv V, J, R) = some (.inl (some (xw (if 0 ≤ who ∧ who < 6 then V b ((k * 3 + by_) * 6 + who).toNat else 0))), (T, z, xv V, J, R)) := by
  obtain ⟨h1, h2, h3, h4, h5, h6, h7⟩ := hH
  rw [eX1_blameOf, bX1_blameOf_0 hw]
  by_cases h0 : who < 0
  · rw [if_pos h0, bX1_blameOf_28, bX1_blameOf_29, if_neg (by omega)]
  · rw [if_neg h0, bX1_blameOf_4 hw]
    by_cases h8 : 6 ≤ who
    · rw [if_pos h8, bX1_blameOf_28, bX1_blameOf_29, if_neg (by omega)]
    · rw [if_neg h8, bX1_blameOf_10 h1 (rgd h4) (tgd h4 h7) (igd h4 h7 (by omega)), bX1_blameOf_29, h4, if_pos (by omega)]
      rfl
end SX1
