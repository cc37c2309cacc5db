/-! what the methods of Hide do -/
section SX0
variable {sc : xS} {d : Nat} {T : Nat → Nat × Nat} {z : Nat × Nat} {V : Nat → Nat → Int} {J : Nat → Nat → Int64} {R : Nat → Nat → Option Nat}
/-- the squares of a rectangle are gone -/
def xSp (V : Nat → Nat → Int) (g : Nat) (col row along wide : Int) : Nat → Nat → Int := fun b j => if b = g ∧ (row ≤ (j : Int) / 12 ∧ (j : Int) / 12 < row + wide ∧ col ≤ (j : Int) % 12 ∧ (j : Int) % 12 < col + along) then 1 else V b j
/-- a hide stands at a, its squares at g -/
def xHi (T : Nat → Nat × Nat) (R : Nat → Nat → Option Nat) (a g : Nat) : Prop := T a = (1, 0) ∧ R a 1 = some g ∧ T g = (33, 96)
theorem spoil_in {a g : Nat} {col row along wide r : Int} {o2 o4 : Option Value} (hH : xHi T R a g) (hc : 0 ≤ col ∧ 0 ≤ along ∧ col + along ≤ 12) (hr : 0 ≤ r ∧ r < 8) :
    ∀ (m : Nat) (c : Int) (V : Nat → Nat → Int), 0 ≤ c → c + m = col + along →
    XR sc d 1 15 [some (.ref a), some (xw col), o2, some (xw along), o4, some (xw r), some (xw c)] [] (T, z, xv V, J, R) = XR sc d 1 43 [some (.ref a), some (xw col), o2, some (xw along), o4, some (xw r), some (xw (col + along))] [] (T, z, xv (xSp V g c r m 1), J, R) := by
  obtain ⟨h1, h2, h3⟩ := hH
  intro m
  induction m with
  | zero =>
    intro c V hc0 he
    obtain rfl : c = col + along := by omega
    rw [bX0_spoil_15 (by omega) (by omega), if_pos (by omega)]
    have : xSp V g (col + along) r (0 : Nat) 1 = V := by
      funext b j
      simp only [xSp]
      split
      · omega
      · rfl
    rw [this]
  | succ m ih =>
    intro c V hc0 he
    rw [bX0_spoil_15 (by omega) (by omega), if_neg (by omega), bX0_spoil_23 h1 (by rw [h2]; rfl) (by rw [h2]; simp only [Option.getD_some, h3]) (by rw [h2]; simp only [Option.getD_some, h3]; omega), ih (c + 1) _ (by omega) (by omega)]
    have : xSp (xup2 V ((R a 1).getD 0) (r * 12 + c).toNat 1) g (c + 1) r m 1 = xSp V g c r (m + 1 : Nat) 1 := by
      rw [h2]
      funext b j
      simp only [xSp, xup2, Option.getD_some]
      by_cases hb : b = g
      · subst hb
        simp only [true_and]
        split <;> split <;> first | rfl | (split <;> first | rfl | omega) | omega
      · simp only [hb, false_and, if_false]
    rw [this]
theorem spoil_out {a g : Nat} {col row along wide : Int} (hH : xHi T R a g) (hc : 0 ≤ col ∧ 0 ≤ along ∧ col + along ≤ 12) (hr : 0 ≤ row ∧ 0 ≤ wide ∧ row + wide ≤ 8) :
    ∀ (m : Nat) (r : Int) (V : Nat → Nat → Int) (o6 : Option Value), 0 ≤ r → r + m = row + wide →
    XR sc d 1 3 [some (.ref a), some (xw col), some (xw row), some (xw along), some (xw wide), some (xw r), o6] [] (T, z, xv V, J, R) = some (.inl none, (T, z, xv (xSp V g col r along m), J, R)) := by
  intro m
  induction m with
  | zero =>
    intro r V o6 hr0 he
    rw [bX0_spoil_3 (by omega) (by omega), if_pos (by omega), bX0_spoil_49]
    have : xSp V g col r along (0 : Nat) = V := by
      funext b j
      simp only [xSp]
      split
      · omega
      · rfl
    rw [this]
  | succ m ih =>
    intro r V o6 hr0 he
    obtain ⟨n, hn⟩ : ∃ n : Nat, (n : Int) = along := ⟨along.toNat, by omega⟩
    rw [bX0_spoil_3 (by omega) (by omega), if_neg (by omega), bX0_spoil_12, spoil_in (row := row) (wide := wide) hH hc (by omega) n col V (by omega) (by omega), bX0_spoil_43, ih (r + 1) _ _ (by omega) (by omega), hn]
    have : xSp (xSp V g col r along 1) g col (r + 1) along m = xSp V g col r along (m + 1 : Nat) := by
      funext b j
      simp only [xSp]
      by_cases hb : b = g
      · simp only [hb, true_and]
        split <;> split <;> first | rfl | (split <;> first | rfl | omega) | omega
      · simp only [hb, false_and, if_false]
    rw [this]
theorem s_spoil {a g : Nat} {col row along wide : Int} (hH : xHi T R a g) (hc : 0 ≤ col ∧ 0 ≤ along ∧ col + along ≤ 12) (hr : 0 ≤ row ∧ 0 ≤ wide ∧ row + wide ≤ 8) :
    X sc (d + 1) 1 [.ref a, xw col, xw row, xw along, xw wide] (T, z, xv V, J, R) = some (.inl none, (T, z, xv (xSp V g col row along wide), J, R)) := by
  obtain ⟨n, hn⟩ : ∃ n : Nat, (n : Int) = wide := ⟨wide.toNat, by omega⟩
  rw [eX0_spoil, bX0_spoil_0, spoil_out hH hc hr n row V _ (by omega) (by omega), hn]
/-- how many of the squares from k on are left -/
def xLeft (V : Nat → Nat → Int) (g : Nat) : Nat → Nat → Int
  | 0, _ => 0
  | m + 1, k => (if V g k = 0 then 1 else 0) + xLeft V g m (k + 1)
theorem left_loop {a g : Nat} (h3 : T g = (33, 96)) (hV : ∀ k, k < 96 → V g k = 0 ∨ V g k = 1) {o0 : Option Value} :
    ∀ (m k : Nat) (n : Int) (o5 : Option Value), k + m = 96 → 0 ≤ n → n ≤ k →
    XR sc d 2 13 [o0, some (xw n), some (.ref g), some (xw 96), some (xw k), o5] [] (T, z, xv V, J, R) = some (.inl (some (xw (n + xLeft V g m k))), (T, z, xv V, J, R)) := by
  intro m
  induction m with
  | zero =>
    intro k n o5 hk h0 hn
    rw [bX0_squaresLeft_13 (by omega) (by decide), if_pos (by omega), bX0_squaresLeft_44]
    simp [xLeft]
  | succ m ih =>
    intro k n o5 hk h0 hn
    have hv := hV k (by omega)
    rw [bX0_squaresLeft_13 (by omega) (by decide), if_neg (by omega), bX0_squaresLeft_19 (by rw [h3]) (by rw [h3]; omega) (by simp only [Int.toNat_natCast]; omega)]
    simp only [Int.toNat_natCast]
    have e : (k : Int) + 1 = ((k + 1 : Nat) : Int) := by omega
    by_cases h : V g k = 0
    · rw [if_pos h, bX0_squaresLeft_35, bX0_squaresLeft_36, e, ih (k + 1) _ _ (by omega) (by omega) (by omega)]
      simp only [xLeft, if_pos h, Int.add_assoc]
    · rw [if_neg h, bX0_squaresLeft_31, bX0_squaresLeft_36, e, ih (k + 1) _ _ (by omega) (by omega) (by omega)]
      simp only [xLeft, if_neg h, Int.add_assoc]
theorem s_squaresLeft {a g : Nat} (hH : xHi T R a g) (hV : ∀ k, k < 96 → V g k = 0 ∨ V g k = 1) :
    X sc (d + 1) 2 [.ref a] (T, z, xv V, J, R) = some (.inl (some (xw (xLeft V g 96 0))), (T, z, xv V, J, R)) := by
  obtain ⟨h1, h2, h3⟩ := hH
  rw [eX0_squaresLeft, bX0_squaresLeft_0 h1 (by rw [h2]; rfl) rfl (by rw [h2]; simp only [Option.getD_some, h3]; decide), h2]
  simp only [Option.getD_some, h3]
  have := left_loop (sc := sc) (d := d) (z := z) (J := J) (R := R) (a := a) (o0 := some (.ref a)) h3 hV 96 0 0 none rfl (by omega) (by omega)
  rw [Int.zero_add] at this
  exact this
theorem s_reachesBelly {row wide : Int} (h : 0 ≤ row ∧ row ≤ 1000 ∧ 0 ≤ wide ∧ wide ≤ 1000) :
    X sc (d + 1) 8 [xw row, xw wide] (T, z, xv V, J, R) = some (.inl (some (xw (if row + wide ≤ 5 then 0 else 1))), (T, z, xv V, J, R)) := by
  rw [eX0_reachesBelly, bX0_reachesBelly_0 (by omega)]
  by_cases h5 : row + wide ≤ 5
  · rw [if_pos h5, if_pos h5, bX0_reachesBelly_11, bX0_reachesBelly_12 (by decide)]
  · rw [if_neg h5, if_neg h5, bX0_reachesBelly_7, bX0_reachesBelly_12 (by decide)]
theorem s_thinnest {a : Nat} {row wide : Int} (hT : T a = (1, 0)) (h : 0 ≤ row ∧ row ≤ 1000 ∧ 0 ≤ wide ∧ wide ≤ 1000) :
    X sc (d + 2) 3 [.ref a, xw row, xw wide] (T, z, xv V, J, R) = some (.inl (some (xw (if row + wide ≤ 5 then V a 0 else V a 0 - 1))), (T, z, xv V, J, R)) := by
  rw [eX0_thinnest, bX0_thinnest_0, s_reachesBelly h, xret_v]
  by_cases h5 : row + wide ≤ 5
  · rw [if_pos h5, if_pos h5, bX0_thinnest_5 (by decide), if_pos rfl, bX0_thinnest_17 hT, bX0_thinnest_21]
  · rw [if_neg h5, if_neg h5, bX0_thinnest_5 (by decide), if_neg (by decide), bX0_thinnest_8 hT, bX0_thinnest_21]
/-- whether no square of the rectangle is gone: of a row, of all rows -/
def xR0 (V : Nat → Nat → Int) (g : Nat) (r : Int) : Nat → Int → Bool
  | 0, _ => true
  | m + 1, c => decide (V g (r * 12 + c).toNat = 0) && xR0 V g r m (c + 1)
def xR1 (V : Nat → Nat → Int) (g : Nat) (col : Int) (n : Nat) : Nat → Int → Bool
  | 0, _ => true
  | m + 1, r => xR0 V g r n col && xR1 V g col n m (r + 1)
def xWh (V : Nat → Nat → Int) (g : Nat) (col row along wide : Int) : Bool := xR1 V g col along.toNat wide.toNat row
def xB (b : Bool) : Int := if b = true then 1 else 0
theorem xB_01 (b : Bool) : xB b = 0 ∨ xB b = 1 := by cases b <;> decide
theorem xB_in (b : Bool) : -2147483648 ≤ xB b ∧ xB b ≤ 2147483647 := by cases b <;> decide
theorem xB_0 {b : Bool} : xB b = 0 ↔ b = false := by cases b <;> decide
theorem whole_in {a g : Nat} {col row along wide r : Int} {o2 o4 : Option Value} (hH : xHi T R a g) (hV : ∀ k, k < 96 → V g k = 0 ∨ V g k = 1) (hc : 0 ≤ col ∧ 0 ≤ along ∧ col + along ≤ 12) (hr : 0 ≤ r ∧ r < 8) :
    ∀ (m : Nat) (c : Int), 0 ≤ c → c + m = col + along →
    XR sc d 7 15 [some (.ref a), some (xw col), o2, some (xw along), o4, some (xw r), some (xw c)] [] (T, z, xv V, J, R) = if xR0 V g r m c = true then XR sc d 7 47 [some (.ref a), some (xw col), o2, some (xw along), o4, some (xw r), some (xw (col + along))] [] (T, z, xv V, J, R) else some (.inl (some (xw 0)), (T, z, xv V, J, R)) := by
  obtain ⟨h1, h2, h3⟩ := hH
  intro m
  induction m with
  | zero =>
    intro c hc0 he
    obtain rfl : c = col + along := by omega
    rw [bX0_isWhole_15 (by omega) (by omega), if_pos (by omega), xR0, if_pos rfl]
  | succ m ih =>
    intro c hc0 he
    have hv := hV (r * 12 + c).toNat (by omega)
    rw [bX0_isWhole_15 (by omega) (by omega), if_neg (by omega), bX0_isWhole_23 h1 (by rw [h2]; rfl) (by rw [h2]; simp only [Option.getD_some, h3]) (by rw [h2]; simp only [Option.getD_some, h3]; omega) (by rw [h2]; simp only [Option.getD_some]; omega), h2, xR0]
    simp only [Option.getD_some]
    by_cases h : V g (r * 12 + c).toNat = 0
    · rw [if_pos h, bX0_isWhole_41, ih (c + 1) (by omega) (by omega)]
      simp only [h, decide_true, Bool.true_and]
    · rw [if_neg h, bX0_isWhole_39]
      simp only [h, decide_false, Bool.false_and, Bool.false_eq_true, if_false]
theorem whole_out {a g : Nat} {col row along wide : Int} (hH : xHi T R a g) (hV : ∀ k, k < 96 → V g k = 0 ∨ V g k = 1) (hc : 0 ≤ col ∧ 0 ≤ along ∧ col + along ≤ 12) (hr : 0 ≤ row ∧ 0 ≤ wide ∧ row + wide ≤ 8) :
    ∀ (m : Nat) (r : Int) (o6 : Option Value), 0 ≤ r → r + m = row + wide →
    XR sc d 7 3 [some (.ref a), some (xw col), some (xw row), some (xw along), some (xw wide), some (xw r), o6] [] (T, z, xv V, J, R) = some (.inl (some (xw (xB (xR1 V g col along.toNat m r)))), (T, z, xv V, J, R)) := by
  intro m
  induction m with
  | zero =>
    intro r o6 hr0 he
    rw [bX0_isWhole_3 (by omega) (by omega), if_pos (by omega), bX0_isWhole_53]
    rfl
  | succ m ih =>
    intro r o6 hr0 he
    rw [bX0_isWhole_3 (by omega) (by omega), if_neg (by omega), bX0_isWhole_12, whole_in (row := row) (wide := wide) hH hV hc (by omega) along.toNat col (by omega) (by omega), xR1]
    by_cases h : xR0 V g r along.toNat col = true
    · rw [if_pos h, bX0_isWhole_47, ih (r + 1) _ (by omega) (by omega)]
      simp only [h, Bool.true_and]
    · rw [if_neg h]
      rw [Bool.not_eq_true] at h
      simp only [h, Bool.false_and]
      rfl
theorem s_isWhole {a g : Nat} {col row along wide : Int} (hH : xHi T R a g) (hV : ∀ k, k < 96 → V g k = 0 ∨ V g k = 1) (hc : 0 ≤ col ∧ 0 ≤ along ∧ col + along ≤ 12) (hr : 0 ≤ row ∧ 0 ≤ wide ∧ row + wide ≤ 8) :
    X sc (d + 1) 7 [.ref a, xw col, xw row, xw along, xw wide] (T, z, xv V, J, R) = some (.inl (some (xw (xB (xWh V g col row along wide)))), (T, z, xv V, J, R)) := by
  rw [eX0_isWhole, bX0_isWhole_0, whole_out hH hV hc hr wide.toNat row _ (by omega) (by omega)]
  rfl
/-- whether a hide can give a piece there -/
def xCan (V : Nat → Nat → Int) (g : Nat) (col row along wide st : Int) : Bool := (decide (st = 0) || decide (row + wide ≤ 5)) && xWh V g col row along wide
theorem s_canGive {a g : Nat} {col row along wide st : Int} (hH : xHi T R a g) (hV : ∀ k, k < 96 → V g k = 0 ∨ V g k = 1) (hc : 0 ≤ col ∧ 0 ≤ along ∧ col + along ≤ 12) (hr : 0 ≤ row ∧ 0 ≤ wide ∧ row + wide ≤ 8) (hs : st = 0 ∨ st = 1) :
    X sc (d + 2) 4 [.ref a, xw col, xw row, xw along, xw wide, xw st] (T, z, xv V, J, R) = some (.inl (some (xw (xB (xCan V g col row along wide st)))), (T, z, xv V, J, R)) := by
  have key : ∀ o5 : Option Value, XR sc (d + 1) 4 14 [some (.ref a), some (xw col), some (xw row), some (xw along), some (xw wide), o5] [] (T, z, xv V, J, R) = some (.inl (some (xw (xB (xWh V g col row along wide)))), (T, z, xv V, J, R)) := by
    intro o5
    rw [bX0_canGive_14 hH.1, s_isWhole hH hV hc hr, xret_v, bX0_canGive_23 (xB_in _)]
    cases xWh V g col row along wide
    · rw [if_pos (show xB false = 0 from rfl), bX0_canGive_30, bX0_canGive_31 (by decide)]; rfl
    · rw [if_neg (by decide), bX0_canGive_26, bX0_canGive_31 (by decide)]; rfl
  rw [eX0_canGive, bX0_canGive_0 (by omega), xCan]
  rcases hs with rfl | rfl
  · rw [if_pos rfl, key]; rfl
  · rw [if_neg (by decide), bX0_canGive_5, s_reachesBelly (by omega), xret_v]
    by_cases h5 : row + wide ≤ 5
    · rw [if_pos h5, bX0_canGive_11 (by decide), if_pos rfl, key]
      simp only [h5, decide_true, Bool.or_true, Bool.true_and]
    · rw [if_neg h5, bX0_canGive_11 (by decide), if_neg (by decide), bX0_canGive_30, bX0_canGive_31 (by decide)]
      simp only [h5, decide_false]
      rfl
/-- the lowest column, from c on, where a piece can be had -/
def xCol (V : Nat → Nat → Int) (g : Nat) (row along wide st : Int) : Nat → Int → Int
  | 0, _ => -1
  | m + 1, c => if xCan V g c row along wide st = true then c else xCol V g row along wide st m (c + 1)
theorem col_loop {a g : Nat} {row along wide st : Int} (hH : xHi T R a g) (hV : ∀ k, k < 96 → V g k = 0 ∨ V g k = 1) (hc : 0 ≤ along ∧ along ≤ 12) (hr : 0 ≤ row ∧ 0 ≤ wide ∧ row + wide ≤ 8) (hs : st = 0 ∨ st = 1) :
    ∀ (m : Nat) (c : Int), 0 ≤ c → c + m = 13 - along →
    XR sc (d + 2) 6 3 [some (.ref a), some (xw row), some (xw along), some (xw wide), some (xw st), some (xw c)] [] (T, z, xv V, J, R) = some (.inl (some (xw (xCol V g row along wide st m c))), (T, z, xv V, J, R)) := by
  intro m
  induction m with
  | zero =>
    intro c hc0 he
    rw [bX0_firstColumn_3 (by omega), if_pos (by omega), bX0_firstColumn_35]; rfl
  | succ m ih =>
    intro c hc0 he
    rw [bX0_firstColumn_3 (by omega), if_neg (by omega), bX0_firstColumn_12 hH.1, s_canGive hH hV (by omega) hr hs, xret_v, bX0_firstColumn_23 (xB_in _), xCol]
    by_cases h : xCan V g c row along wide st = true
    · rw [if_pos h, h, if_neg (by decide), bX0_firstColumn_26]
    · rw [if_neg h]
      rw [Bool.not_eq_true] at h
      rw [h, if_pos (show xB false = 0 from rfl), bX0_firstColumn_29, ih (c + 1) (by omega) (by omega)]
theorem s_firstColumn {a g : Nat} {row along wide st : Int} (hH : xHi T R a g) (hV : ∀ k, k < 96 → V g k = 0 ∨ V g k = 1) (hc : 0 ≤ along ∧ along ≤ 12) (hr : 0 ≤ row ∧ 0 ≤ wide ∧ row + wide ≤ 8) (hs : st = 0 ∨ st = 1) :
    X sc (d + 3) 6 [.ref a, xw row, xw along, xw wide, xw st] (T, z, xv V, J, R) = some (.inl (some (xw (xCol V g row along wide st (13 - along).toNat 0))), (T, z, xv V, J, R)) := by
  rw [eX0_firstColumn, bX0_firstColumn_0, col_loop hH hV hc hr hs (13 - along).toNat 0 (by omega) (by omega)]
/-- what the rows from r on are worth -/
def xWo (along : Int) : Nat → Int → Int
  | 0, _ => 0
  | m + 1, r => along * (if 2 ≤ r then (if 5 ≤ r then 1 else 2) else 3) + xWo along m (r + 1)
theorem worth_loop {row along wide : Int} (hr : 0 ≤ row ∧ 0 ≤ wide ∧ row + wide ≤ 8) :
    ∀ (m : Nat) (r n : Int) (o5 : Option Value), 0 ≤ r → r + m = row + wide →
    XR sc d 9 5 [some (xw row), some (xw along), some (xw wide), some (xw n), some (xw r), o5] [] (T, z, xv V, J, R) = some (.inl (some (xw (n + xWo along m r))), (T, z, xv V, J, R)) := by
  intro m
  induction m with
  | zero =>
    intro r n o5 hr0 he
    rw [bX0_worth_5 (by omega) (by omega), if_pos (by omega), bX0_worth_49, xWo, Int.add_zero]
  | succ m ih =>
    intro r n o5 hr0 he
    rw [bX0_worth_5 (by omega) (by omega), if_neg (by omega), bX0_worth_13 (by omega), xWo]
    by_cases h2 : 2 ≤ r
    · rw [if_pos h2, if_pos h2, bX0_worth_23 (by omega)]
      by_cases h5 : 5 ≤ r
      · rw [if_pos h5, if_pos h5, bX0_worth_33, bX0_worth_34, ih (r + 1) _ _ (by omega) (by omega), Int.add_assoc]
      · rw [if_neg h5, if_neg h5, bX0_worth_29, bX0_worth_34, ih (r + 1) _ _ (by omega) (by omega), Int.add_assoc]
    · rw [if_neg h2, if_neg h2, bX0_worth_19, bX0_worth_34, ih (r + 1) _ _ (by omega) (by omega), Int.add_assoc]
theorem s_worth {row along wide : Int} (hr : 0 ≤ row ∧ 0 ≤ wide ∧ row + wide ≤ 8) :
    X sc (d + 1) 9 [xw row, xw along, xw wide] (T, z, xv V, J, R) = some (.inl (some (xw (xWo along wide.toNat row))), (T, z, xv V, J, R)) := by
  rw [eX0_worth, bX0_worth_0, worth_loop hr wide.toNat row 0 _ (by omega) (by omega), Int.zero_add]
theorem xWo_in {along : Int} (ha : 0 ≤ along ∧ along ≤ 12) : ∀ (m : Nat) (r : Int), 0 ≤ xWo along m r ∧ xWo along m r ≤ 36 * m := by
  intro m
  induction m with
  | zero => intro r; simp [xWo]
  | succ m ih =>
    intro r
    have := ih (r + 1)
    rw [xWo]
    split
    · split <;> omega
    · omega
/-- the search of find: found, its worth, from row r on -/
def xFi (V : Nat → Nat → Int) (a g : Nat) (along wide st least : Int) : Nat → Int → Int → Int → Int
  | 0, _, f, _ => f
  | m + 1, r, f, w =>
    let w1 := xWo along wide.toNat r
    let c := if (f = -1 ∨ w1 < w) ∧ least ≤ (if r + wide ≤ 5 then V a 0 else V a 0 - 1) then xCol V g r along wide st (13 - along).toNat 0 else -1
    if c = -1 then xFi V a g along wide st least m (r + 1) f w else xFi V a g along wide st least m (r + 1) (12 * r + c) w1
theorem xCol_in {V : Nat → Nat → Int} {g : Nat} {row along wide st : Int} : ∀ (m : Nat) (c : Int), 0 ≤ c → -1 ≤ xCol V g row along wide st m c ∧ xCol V g row along wide st m c < c + m := by
  intro m
  induction m with
  | zero => intro c hc; simp only [xCol]; omega
  | succ m ih =>
    intro c hc
    rw [xCol]
    split
    · omega
    · have := ih (c + 1) (by omega); omega
theorem find_loop {a g : Nat} {along wide st least : Int} (hH : xHi T R a g) (hV : ∀ k, k < 96 → V g k = 0 ∨ V g k = 1) (hc : 0 ≤ along ∧ along ≤ 12) (hr : 0 ≤ wide ∧ wide ≤ 8) (hs : st = 0 ∨ st = 1) (hl : 0 ≤ least ∧ least ≤ 9) (hth : 0 ≤ V a 0 ∧ V a 0 ≤ 9) :
    ∀ (m : Nat) (r f w : Int) (o8 o9 o10 : Option Value), 0 ≤ r → r + m = 9 - wide → (-1 ≤ f ∧ f ≤ 1000) → (0 ≤ w ∧ w ≤ 1000) →
    XR sc (d + 3) 5 9 [some (.ref a), some (xw along), some (xw wide), some (xw st), some (xw least), some (xw f), some (xw w), some (xw r), o8, o9, o10] [] (T, z, xv V, J, R) = some (.inl (some (xw (xFi V a g along wide st least m r f w))), (T, z, xv V, J, R)) := by
  intro m
  induction m with
  | zero =>
    intro r f w o8 o9 o10 hr0 he hf hw
    rw [bX0_leastWorth_9 (by omega), if_pos (by omega), bX0_leastWorth_105, xFi]
  | succ m ih =>
    intro r f w o8 o9 o10 hr0 he hf hw
    have hw1 := xWo_in hc wide.toNat r
    have hci := xCol_in (V := V) (g := g) (row := r) (along := along) (wide := wide) (st := st) (13 - along).toNat 0 (by omega)
    have kNo : ∀ o8 o9 o10 : Option Value, XR sc (d + 3) 5 76 [some (.ref a), some (xw along), some (xw wide), some (xw st), some (xw least), some (xw f), some (xw w), some (xw r), o8, o9, o10] [] (T, z, xv V, J, R) = some (.inl (some (xw (xFi V a g along wide st least m (r + 1) f w))), (T, z, xv V, J, R)) := by
      intro o8 o9 o10
      rw [bX0_leastWorth_76, bX0_leastWorth_77 (by decide), if_pos rfl, bX0_leastWorth_99, ih (r + 1) f w _ _ _ (by omega) (by omega) hf hw]
    have kYes : ∀ o9 o10 : Option Value, XR sc (d + 3) 5 40 [some (.ref a), some (xw along), some (xw wide), some (xw st), some (xw least), some (xw f), some (xw w), some (xw r), some (xw (xWo along wide.toNat r)), o9, o10] [] (T, z, xv V, J, R) = some (.inl (some (xw (if (if least ≤ (if r + wide ≤ 5 then V a 0 else V a 0 - 1) then xCol V g r along wide st (13 - along).toNat 0 else -1) = -1 then xFi V a g along wide st least m (r + 1) f w else xFi V a g along wide st least m (r + 1) (12 * r + (if least ≤ (if r + wide ≤ 5 then V a 0 else V a 0 - 1) then xCol V g r along wide st (13 - along).toNat 0 else -1)) (xWo along wide.toNat r)))), (T, z, xv V, J, R)) := by
      intro o9 o10
      have hti : -2147483648 ≤ (if r + wide ≤ 5 then V a 0 else V a 0 - 1) ∧ (if r + wide ≤ 5 then V a 0 else V a 0 - 1) ≤ 2147483647 := by split <;> omega
      rw [bX0_leastWorth_40, bX0_leastWorth_45 (by decide), if_neg (by decide), bX0_leastWorth_52 hH.1, s_thinnest hH.1 (by omega), xret_v, bX0_leastWorth_59 hti (by omega)]
      by_cases hle : least ≤ (if r + wide ≤ 5 then V a 0 else V a 0 - 1)
      · rw [if_neg (by omega), if_pos hle, bX0_leastWorth_64 hH.1, s_firstColumn hH hV hc (by omega) hs, xret_v, bX0_leastWorth_73, bX0_leastWorth_77 (by omega)]
        by_cases hcm : xCol V g r along wide st (13 - along).toNat 0 = -1
        · rw [if_pos hcm, if_pos hcm, bX0_leastWorth_99, ih (r + 1) f w _ _ _ (by omega) (by omega) hf hw]
        · rw [if_neg hcm, if_neg hcm, bX0_leastWorth_85, bX0_leastWorth_99, ih (r + 1) _ _ _ _ _ (by omega) (by omega) (by omega) (by omega)]
      · rw [if_pos (by omega), if_neg hle, if_pos rfl, kNo]
    rw [bX0_leastWorth_9 (by omega), if_neg (by omega), bX0_leastWorth_18, s_worth (by omega), xret_v, bX0_leastWorth_25 (by omega), xFi]
    by_cases hf1 : f = -1
    · rw [if_pos hf1, kYes]
      simp only [hf1, true_or, true_and]
      try rfl
    · rw [if_neg hf1, bX0_leastWorth_33 (by omega) (by omega)]
      by_cases hwl : w ≤ xWo along wide.toNat r
      · rw [if_pos hwl, bX0_leastWorth_44, bX0_leastWorth_45 (by decide), if_pos rfl, kNo]
        have : ¬ xWo along wide.toNat r < w := by omega
        simp only [hf1, this, or_self, false_and, if_false, if_true]
      · rw [if_neg hwl, kYes]
        have : xWo along wide.toNat r < w := by omega
        simp only [this, or_true, true_and]
        try rfl
theorem s_leastWorth {a g : Nat} {along wide st least : Int} (hH : xHi T R a g) (hV : ∀ k, k < 96 → V g k = 0 ∨ V g k = 1) (hc : 0 ≤ along ∧ along ≤ 12) (hr : 0 ≤ wide ∧ wide ≤ 8) (hs : st = 0 ∨ st = 1) (hl : 0 ≤ least ∧ least ≤ 9) (hth : 0 ≤ V a 0 ∧ V a 0 ≤ 9) :
    X sc (d + 4) 5 [.ref a, xw along, xw wide, xw st, xw least] (T, z, xv V, J, R) = some (.inl (some (xw (xFi V a g along wide st least (9 - wide).toNat 0 (-1) 0))), (T, z, xv V, J, R)) := by
  rw [eX0_leastWorth, bX0_leastWorth_0, find_loop hH hV hc hr hs hl hth (9 - wide).toNat 0 (-1) 0 _ _ _ (by omega) (by omega) (by omega) (by omega)]
end SX0
