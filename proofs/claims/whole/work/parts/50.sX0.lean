/-! what the methods of Hide do -/
section SX0
variable {sc : xS} {d : Nat} {T : Nat → Nat × Nat} {z : Nat × Nat} {V : Nat → Nat → Int} {J : Nat → Nat → Int64} {R : Nat → Nat → Option Nat}
/-- the squares of a rectangle are gone -/
def xSp (V : Nat → Nat → Int) (g : Nat) (col row along wide : Int) : Nat → Nat → Int := fun b j => if b = g ∧ (row ≤ (j : Int) / 12 ∧ (j : Int) / 12 < row + wide ∧ col ≤ (j : Int) % 12 ∧ (j : Int) % 12 < col + along) then 1 else V b j
/-- a hide stands at a, its squares at g -/
def xHi (T : Nat → Nat × Nat) (R : Nat → Nat → Option Nat) (a g : Nat) : Prop := T a = (1, 0) ∧ R a 1 = some g ∧ T g = (33, 96)
theorem spoil_in {a g : Nat} {col row along wide r : Int} {o2 o4 : Option Value} (hH : xHi T R a g) (hc : 0 ≤ col ∧ 0 ≤ along ∧ col + along ≤ 12) (hr : 0 ≤ r ∧ r < 8) :
    ∀ (m : Nat) (c : Int) (V : Nat → Nat → Int), 0 ≤ c → c + m = col + along →
    XR sc d 1 15 [some (.ref a), some (xw col), o2, some (xw along), o4, some (xw r), some (xw c)] [] (T, z, xv V, J, R) = XR sc d 1 43 [some (.ref a), some (xw col), o2, some (xw along), o4, some (xw r), some (xw (col + along))] [] (T, z, xv (xSp V g c r m 1), J, R) := by
  obtain ⟨h1, h2, h3⟩ := hH
  intro m
  induction m with
  | zero =>
    intro c V hc0 he
    obtain rfl : c = col + along := by omega
    rw [bX0_spoil_15 (by omega) (by omega), if_pos (by omega)]
    have : xSp V g (col + along) r (0 : Nat) 1 = V := by
      funext b j
      simp only [xSp]
      split
      · omega
      · rfl
    rw [this]
  | succ m ih =>
    intro c V hc0 he
    rw [bX0_spoil_15 (by omega) (by omega), if_neg (by omega), bX0_spoil_23 h1 (by rw [h2]; rfl) (by rw [h2]; simp only [Option.getD_some, h3]) (by rw [h2]; simp only [Option.getD_some, h3]; omega), ih (c + 1) _ (by omega) (by omega)]
    have : xSp (xup2 V ((R a 1).getD 0) (r * 12 + c).toNat 1) g (c + 1) r m 1 = xSp V g c r (m + 1 : Nat) 1 := by
      rw [h2]
      funext b j
      simp only [xSp, xup2, Option.getD_some]
      by_cases hb : b = g
      · subst hb
        simp only [true_and]
        split <;> split <;> first | rfl | (split <;> first | rfl | omega) | omega
      · simp only [hb, false_and, if_false]
    rw [this]
theorem spoil_out {a g : Nat} {col row along wide : Int} (hH : xHi T R a g) (hc : 0 ≤ col ∧ 0 ≤ along ∧ col + along ≤ 12) (hr : 0 ≤ row ∧ 0 ≤ wide ∧ row + wide ≤ 8) :
    ∀ (m : Nat) (r : Int) (V : Nat → Nat → Int) (o6 : Option Value), 0 ≤ r → r + m = row + wide →
    XR sc d 1 3 [some (.ref a), some (xw col), some (xw row), some (xw along), some (xw wide), some (xw r), o6] [] (T, z, xv V, J, R) = some (.inl none, (T, z, xv (xSp V g col r along m), J, R)) := by
  intro m
  induction m with
  | zero =>
    intro r V o6 hr0 he
    rw [bX0_spoil_3 (by omega) (by omega), if_pos (by omega), bX0_spoil_49]
    have : xSp V g col r along (0 : Nat) = V := by
      funext b j
      simp only [xSp]
      split
      · omega
      · rfl
    rw [this]
  | succ m ih =>
    intro r V o6 hr0 he
    obtain ⟨n, hn⟩ : ∃ n : Nat, (n : Int) = along := ⟨along.toNat, by omega⟩
    rw [bX0_spoil_3 (by omega) (by omega), if_neg (by omega), bX0_spoil_12, spoil_in (row := row) (wide := wide) hH hc (by omega) n col V (by omega) (by omega), bX0_spoil_43, ih (r + 1) _ _ (by omega) (by omega), hn]
    have : xSp (xSp V g col r along 1) g col (r + 1) along m = xSp V g col r along (m + 1 : Nat) := by
      funext b j
      simp only [xSp]
      by_cases hb : b = g
      · simp only [hb, true_and]
        split <;> split <;> first | rfl | (split <;> first | rfl | omega) | omega
      · simp only [hb, false_and, if_false]
    rw [this]
theorem s_spoil {a g : Nat} {col row along wide : Int} (hH : xHi T R a g) (hc : 0 ≤ col ∧ 0 ≤ along ∧ col + along ≤ 12) (hr : 0 ≤ row ∧ 0 ≤ wide ∧ row + wide ≤ 8) :
    X sc (d + 1) 1 [.ref a, xw col, xw row, xw along, xw wide] (T, z, xv V, J, R) = some (.inl none, (T, z, xv (xSp V g col row along wide), J, R)) := by
  obtain ⟨n, hn⟩ : ∃ n : Nat, (n : Int) = wide := ⟨wide.toNat, by omega⟩
  rw [eX0_spoil, bX0_spoil_0, spoil_out hH hc hr n row V _ (by omega) (by omega), hn]
/-- how many of the squares from k on are left -/
def xLeft (V : Nat → Nat → Int) (g : Nat) : Nat → Nat → Int
  | 0, _ => 0
  | m + 1, k => (if V g k = 0 then 1 else 0) + xLeft V g m (k + 1)
theorem left_loop {a g : Nat} (h3 : T g = (33, 96)) (hV : ∀ k, k < 96 → V g k = 0 ∨ V g k = 1) {o0 : Option Value} :
    ∀ (m k : Nat) (n : Int) (o5 : Option Value), k + m = 96 → 0 ≤ n → n ≤ k →
    XR sc d 2 13 [o0, some (xw n), some (.ref g), some (xw 96), some (xw k), o5] [] (T, z, xv V, J, R) = some (.inl (some (xw (n + xLeft V g m k))), (T, z, xv V, J, R)) := by
  intro m
  induction m with
  | zero =>
    intro k n o5 hk h0 hn
    rw [bX0_squaresLeft_13 (by omega) (by decide), if_pos (by omega), bX0_squaresLeft_44]
    simp [xLeft]
  | succ m ih =>
    intro k n o5 hk h0 hn
    have hv := hV k (by omega)
    rw [bX0_squaresLeft_13 (by omega) (by decide), if_neg (by omega), bX0_squaresLeft_19 (by rw [h3]) (by rw [h3]; omega) (by simp only [Int.toNat_natCast]; omega)]
    simp only [Int.toNat_natCast]
    have e : (k : Int) + 1 = ((k + 1 : Nat) : Int) := by omega
    by_cases h : V g k = 0
    · rw [if_pos h, bX0_squaresLeft_35, bX0_squaresLeft_36, e, ih (k + 1) _ _ (by omega) (by omega) (by omega)]
      simp only [xLeft, if_pos h, Int.add_assoc]
    · rw [if_neg h, bX0_squaresLeft_31, bX0_squaresLeft_36, e, ih (k + 1) _ _ (by omega) (by omega) (by omega)]
      simp only [xLeft, if_neg h, Int.add_assoc]
theorem s_squaresLeft {a g : Nat} (hH : xHi T R a g) (hV : ∀ k, k < 96 → V g k = 0 ∨ V g k = 1) :
    X sc (d + 1) 2 [.ref a] (T, z, xv V, J, R) = some (.inl (some (xw (xLeft V g 96 0))), (T, z, xv V, J, R)) := by
  obtain ⟨h1, h2, h3⟩ := hH
  rw [eX0_squaresLeft, bX0_squaresLeft_0 h1 (by rw [h2]; rfl) rfl (by rw [h2]; simp only [Option.getD_some, h3]; decide), h2]
  simp only [Option.getD_some, h3]
  have := left_loop (sc := sc) (d := d) (z := z) (J := J) (R := R) (a := a) (o0 := some (.ref a)) h3 hV 96 0 0 none rfl (by omega) (by omega)
  rw [Int.zero_add] at this
  exact this
theorem s_reachesBelly {row wide : Int} (h : 0 ≤ row ∧ row ≤ 1000 ∧ 0 ≤ wide ∧ wide ≤ 1000) :
    X sc (d + 1) 8 [xw row, xw wide] (T, z, xv V, J, R) = some (.inl (some (xw (if row + wide ≤ 5 then 0 else 1))), (T, z, xv V, J, R)) := by
  rw [eX0_reachesBelly, bX0_reachesBelly_0 (by omega)]
  by_cases h5 : row + wide ≤ 5
  · rw [if_pos h5, if_pos h5, bX0_reachesBelly_11, bX0_reachesBelly_12 (by decide)]
  · rw [if_neg h5, if_neg h5, bX0_reachesBelly_7, bX0_reachesBelly_12 (by decide)]
theorem s_thinnest {a : Nat} {row wide : Int} (hT : T a = (1, 0)) (h : 0 ≤ row ∧ row ≤ 1000 ∧ 0 ≤ wide ∧ wide ≤ 1000) :
    X sc (d + 2) 3 [.ref a, xw row, xw wide] (T, z, xv V, J, R) = some (.inl (some (xw (if row + wide ≤ 5 then V a 0 else V a 0 - 1))), (T, z, xv V, J, R)) := by
  rw [eX0_thinnest, bX0_thinnest_0, s_reachesBelly h, xret_v]
  by_cases h5 : row + wide ≤ 5
  · rw [if_pos h5, if_pos h5, bX0_thinnest_5 (by decide), if_pos rfl, bX0_thinnest_17 hT, bX0_thinnest_21]
  · rw [if_neg h5, if_neg h5, bX0_thinnest_5 (by decide), if_neg (by decide), bX0_thinnest_8 hT, bX0_thinnest_21]
/-- whether no square of the rectangle is gone -/
def xWh (V : Nat → Nat → Int) (g : Nat) (col row along wide : Int) : Prop := ∀ j : Nat, row ≤ (j : Int) / 12 → (j : Int) / 12 < row + wide → col ≤ (j : Int) % 12 → (j : Int) % 12 < col + along → V g j = 0
end SX0
