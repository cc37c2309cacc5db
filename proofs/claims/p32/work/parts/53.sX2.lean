/-! what the methods of Part do -/
section SX2
variable {sc : xS} {d : Nat} {T : Nat → Nat × Nat} {z : Nat × Nat} {V : Nat → Nat → Int} {J : Nat → Nat → Int64} {R : Nat → Nat → Option Nat}
/-- a part stands at a, its holes at g -/
def xPa (T : Nat → Nat × Nat) (R : Nat → Nat → Option Nat) (a g : Nat) : Prop := T a = (2, 0) ∧ R a 4 = some g ∧ T g = (33, 49)
def xHN (V : Nat → Nat → Int) (g : Nat) (p : Int) : Bool := !(decide (V g (p - 1).toNat = 0) && decide (V g p.toNat = 0) && decide (V g (p + 1).toNat = 0))
theorem s_hasHoleNear {a g : Nat} {p : Int} (hP : xPa T R a g) (hV : ∀ k, k < 49 → V g k = 0 ∨ V g k = 1) (hp : 1 ≤ p ∧ p < 48) :
    X sc (d + 1) 16 [.ref a, xw p] (T, z, xv V, J, R) = some (.inl (some (xw (xB (xHN V g p)))), (T, z, xv V, J, R)) := by
  obtain ⟨h1, h2, h3⟩ := hP
  have v1 := hV (p - 1).toNat (by omega)
  have v2 := hV p.toNat (by omega)
  have v3 := hV (p + 1).toNat (by omega)
  have e : (R a 4).getD 0 = g := by rw [h2]; rfl
  rw [eX2_hasHoleNear, bX2_hasHoleNear_0 h1 (rgd h2) (tgd h2 h3) (igd h2 h3 (by omega)) (by rw [e]; omega), e, xHN]
  by_cases c1 : V g (p - 1).toNat = 0
  · rw [if_pos c1, bX2_hasHoleNear_11 h1 (rgd h2) (tgd h2 h3) (igd h2 h3 (by omega)) (by rw [e]; omega), e]
    by_cases c2 : V g p.toNat = 0
    · rw [if_pos c2, bX2_hasHoleNear_20 h1 (rgd h2) (tgd h2 h3) (igd h2 h3 (by omega)) (by rw [e]; omega), e]
      by_cases c3 : V g (p + 1).toNat = 0
      · rw [if_pos c3, bX2_hasHoleNear_35, bX2_hasHoleNear_36 (by decide), c1, c2, c3]; rfl
      · rw [if_neg c3, bX2_hasHoleNear_31, bX2_hasHoleNear_36 (by decide)]
        simp only [c3, decide_false, Bool.and_false, Bool.not_false]; rfl
    · rw [if_neg c2, bX2_hasHoleNear_31, bX2_hasHoleNear_36 (by decide)]
      simp only [c2, decide_false, Bool.and_false, Bool.false_and, Bool.not_false]; rfl
  · rw [if_neg c1, bX2_hasHoleNear_31, bX2_hasHoleNear_36 (by decide)]
    simp only [c1, decide_false, Bool.false_and, Bool.not_false]; rfl
/-- how many of the m places from k on are holes -/
def xCn (V : Nat → Nat → Int) (g : Nat) : Nat → Nat → Int
  | 0, _ => 0
  | m + 1, k => (if V g k = 0 then 0 else 1) + xCn V g m (k + 1)
theorem hole_loop {a g n : Nat} (hP : xPa T R a g) (hV : ∀ k, k < 49 → V g k = 0 ∨ V g k = 1) (hn : n < 49) :
    ∀ (m k : Nat) (c : Int), k + m = n →
    XR sc d 17 21 [some (.ref a), some (xw n), some (xw c), some (xw k)] [] (T, z, xv V, J, R) = some (.inl (some (xw (c + xCn V g m k))), (T, z, xv V, J, R)) := by
  obtain ⟨h1, h2, h3⟩ := hP
  have e : (R a 4).getD 0 = g := by rw [h2]; rfl
  intro m
  induction m with
  | zero =>
    intro k c hk
    rw [bX2_addHole_21 (by omega) (by omega), if_pos (by omega), bX2_addHole_49, xCn, Int.add_zero]
  | succ m ih =>
    intro k c hk
    have hv := hV k (by omega)
    rw [bX2_addHole_21 (by omega) (by omega), if_neg (by omega), bX2_addHole_26 h1 (rgd h2) (tgd h2 h3) (igd h2 h3 (by omega)) (by rw [e, Int.toNat_natCast]; omega), e, xCn, Int.toNat_natCast]
    by_cases h : V g k = 0
    · rw [if_pos h, if_pos h, bX2_addHole_40, bX2_addHole_41, show (k : Int) + 1 = ((k + 1 : Nat) : Int) by omega, ih (k + 1) _ (by omega), Int.add_assoc]
    · rw [if_neg h, if_neg h, bX2_addHole_36, bX2_addHole_41, show (k : Int) + 1 = ((k + 1 : Nat) : Int) by omega, ih (k + 1) _ (by omega), Int.add_assoc]
theorem s_addHole {a g n : Nat} (hP : xPa T R a g) (hV : ∀ k, k < 49 → V g k = 0 ∨ V g k = 1) (hn : n < 49) :
    X sc (d + 1) 17 [.ref a, xw n] (T, z, xv V, J, R) = some (.inl (some (xw (xCn (xup2 (xup2 V g n 1) a 6 (V a 6 + 1)) g n 0))), (T, z, xv (xup2 (xup2 V g n 1) a 6 (V a 6 + 1)), J, R)) := by
  have hP' := hP
  obtain ⟨h1, h2, h3⟩ := hP
  have e : (R a 4).getD 0 = g := by rw [h2]; rfl
  have ne : ¬ a = g := by intro q; rw [q, h3] at h1; cases h1
  have ne' : ¬ g = a := fun q => ne q.symm
  have e2 : xup2 V g n 1 a 6 = V a 6 := by simp only [xup2, ne, false_and, if_false]
  rw [eX2_addHole, bX2_addHole_0 h1 (rgd h2) (tgd h2 h3) (igd h2 h3 (by omega)), e, Int.toNat_natCast, e2, show (0 : Int) = ((0 : Nat) : Int) from rfl, hole_loop hP' ?_ hn n 0 _ (by omega)]
  · rw [show ((0 : Nat) : Int) = 0 from rfl, Int.zero_add]
  · intro k hk
    have := hV k hk
    simp only [xup2, ne', false_and, if_false, true_and]
    split
    · exact Or.inr rfl
    · exact this
/-- the place of a hole, from k on -/
def xPl (V : Nat → Nat → Int) (g : Nat) : Nat → Nat → Int → Int
  | 0, _, _ => -1
  | m + 1, k, l => if V g k = 0 then xPl V g m (k + 1) l else if l = 0 then k else xPl V g m (k + 1) (l - 1)
theorem place_loop {a g : Nat} (hP : xPa T R a g) (hV : ∀ k, k < 49 → V g k = 0 ∨ V g k = 1) {o1 : Option Value} :
    ∀ (m k : Nat) (l : Int), k + m = 49 → 0 ≤ l ∧ l ≤ 2147483647 →
    XR sc d 18 4 [some (.ref a), o1, some (xw l), some (xw k)] [] (T, z, xv V, J, R) = some (.inl (some (xw (xPl V g m k l))), (T, z, xv V, J, R)) := by
  obtain ⟨h1, h2, h3⟩ := hP
  have e : (R a 4).getD 0 = g := by rw [h2]; rfl
  intro m
  induction m with
  | zero =>
    intro k l hk hl
    rw [bX2_placeOf_4 h1 (rgd h2) rfl (lgd h2 h3 (by decide)) (by omega) (by rw [e, h3]; decide), e, h3, if_pos (by show (49 : Int) ≤ _; omega), bX2_placeOf_37]; rfl
  | succ m ih =>
    intro k l hk hl
    have hv := hV k (by omega)
    rw [bX2_placeOf_4 h1 (rgd h2) rfl (lgd h2 h3 (by decide)) (by omega) (by rw [e, h3]; decide), e, h3, if_neg (by show ¬ (49 : Int) ≤ _; omega), bX2_placeOf_13 h1 (rgd h2) (tgd h2 h3) (igd h2 h3 (by omega)) (by rw [e, Int.toNat_natCast]; omega), e, Int.toNat_natCast, xPl]
    by_cases h : V g k = 0
    · rw [if_pos h, if_pos h, bX2_placeOf_31, show (k : Int) + 1 = ((k + 1 : Nat) : Int) by omega, ih (k + 1) l (by omega) hl]
    · rw [if_neg h, if_neg h, bX2_placeOf_22 (by omega)]
      by_cases h0 : l = 0
      · rw [if_pos h0, if_pos h0, bX2_placeOf_26]
      · rw [if_neg h0, if_neg h0, bX2_placeOf_28, bX2_placeOf_31, show (k : Int) + 1 = ((k + 1 : Nat) : Int) by omega, show l + -1 = l - 1 from rfl, ih (k + 1) (l - 1) (by omega) (by omega)]
theorem s_placeOf {a g : Nat} {l : Int} (hP : xPa T R a g) (hV : ∀ k, k < 49 → V g k = 0 ∨ V g k = 1) (hl : 0 ≤ l ∧ l ≤ 2147483647) :
    X sc (d + 1) 18 [.ref a, xw l] (T, z, xv V, J, R) = some (.inl (some (xw (xPl V g 49 0 l))), (T, z, xv V, J, R)) := by
  rw [eX2_placeOf, bX2_placeOf_0]
  exact place_loop hP hV 49 0 l rfl hl
/-- the strength of a part -/
def xSt (V : Nat → Nat → Int) (a : Nat) : Int := max 0 ((if V a 6 ≤ 0 then 10 * V a 1 * V a 5 else 10 * V a 1 * V a 5 * 3 / 4) - V a 7)
theorem s_strength {a : Nat} (hT : T a = (2, 0)) (h6 : -2147483648 ≤ V a 6 ∧ V a 6 ≤ 2147483647) (hw : 0 ≤ 10 * V a 1 * V a 5 ∧ 10 * V a 1 * V a 5 ≤ 1000) (h7 : 0 ≤ V a 7 ∧ V a 7 ≤ 100000000) :
    X sc (d + 2) 19 [.ref a] (T, z, xv V, J, R) = some (.inl (some (xw (xSt V a))), (T, z, xv V, J, R)) := by
  rw [eX2_strength, bX2_strength_0 hT h6, xSt]
  by_cases h : V a 6 ≤ 0
  · rw [if_pos h, if_pos h, bX2_strength_28, bX2_strength_29 hT, s_max (by decide) (by omega), xret_v, bX2_strength_40]
  · rw [if_neg h, if_neg h, bX2_strength_20 (by omega), bX2_strength_29 hT, s_max (by decide) (by omega), xret_v, bX2_strength_40]
theorem s_isBuckled {a : Nat} (hT : T a = (2, 0)) (h : -2147483648 ≤ V a 11 ∧ V a 11 ≤ 2147483647) :
    X sc (d + 1) 20 [.ref a] (T, z, xv V, J, R) = some (.inl (some (xw (if V a 11 = -1 then 0 else 1))), (T, z, xv V, J, R)) := by
  rw [eX2_isBuckled, bX2_isBuckled_0 hT h]
  by_cases h1 : V a 11 = -1
  · rw [if_pos h1, if_pos h1, bX2_isBuckled_12, bX2_isBuckled_13 (by decide)]
  · rw [if_neg h1, if_neg h1, bX2_isBuckled_8, bX2_isBuckled_13 (by decide)]
def xSew (V : Nat → Nat → Int) (a : Nat) : Int := if 4 ≤ V a 8 then 0 else if V a 11 = -1 then (if V a 12 = 0 then 1 else 0) else 0
theorem s_canBeSewn {a : Nat} (hT : T a = (2, 0)) (h8 : -2147483648 ≤ V a 8 ∧ V a 8 ≤ 2147483647) (h11 : -2147483648 ≤ V a 11 ∧ V a 11 ≤ 2147483647) (h12 : -2147483648 ≤ V a 12 ∧ V a 12 ≤ 2147483647) :
    X sc (d + 2) 21 [.ref a] (T, z, xv V, J, R) = some (.inl (some (xw (xSew V a))), (T, z, xv V, J, R)) := by
  rw [eX2_canBeSewn, bX2_canBeSewn_0 hT h8, xSew]
  by_cases c : 4 ≤ V a 8
  · rw [if_pos c, if_pos c, bX2_canBeSewn_26, bX2_canBeSewn_27 (by decide)]
  · rw [if_neg c, if_neg c, bX2_canBeSewn_8 hT, s_isBuckled hT h11, xret_v]
    by_cases c1 : V a 11 = -1
    · rw [if_pos c1, if_pos c1, bX2_canBeSewn_12 (by decide), if_pos rfl, bX2_canBeSewn_15 hT h12]
      by_cases c2 : V a 12 = 0
      · rw [if_pos c2, if_pos c2, bX2_canBeSewn_22, bX2_canBeSewn_27 (by decide)]
      · rw [if_neg c2, if_neg c2, bX2_canBeSewn_26, bX2_canBeSewn_27 (by decide)]
    · rw [if_neg c1, if_neg c1, bX2_canBeSewn_12 (by decide), if_neg (by decide), bX2_canBeSewn_26, bX2_canBeSewn_27 (by decide)]
/-- a strap is let go -/
def xGo (V : Nat → Nat → Int) (a : Nat) : Nat → Nat → Int := xup2 (xup2 (xup2 V a 9 (-1)) a 10 (-1)) a 11 (-1)
theorem s_letGo {a : Nat} (hT : T a = (2, 0)) : X sc (d + 1) 22 [.ref a] (T, z, xv V, J, R) = some (.inl none, (T, z, xv (xGo V a), J, R)) := by
  rw [eX2_letGo, bX2_letGo_0 hT]; rfl
theorem s_snap {a : Nat} (hT : T a = (2, 0)) : X sc (d + 2) 23 [.ref a] (T, z, xv V, J, R) = some (.inl none, (T, z, xv (xGo (xup2 V a 12 1) a), J, R)) := by
  rw [eX2_snap, bX2_snap_0 hT, s_letGo hT, xret_n, bX2_snap_9]
end SX2
