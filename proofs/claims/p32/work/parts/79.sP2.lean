/-! the property's law: straps, what a part bears, what breaks -/
/-- the straps, out of the law's row -/
def pO (V : Nat → Nat → Int) (p : Nat) : Int := if V 60 p ≤ 0 then -1 else (V 60 p - 1) % 8
def pQ (V : Nat → Nat → Int) (p : Nat) : Int := if V 60 p ≤ 0 then -1 else (V 60 p - 1) / 8 % 8
def pL (V : Nat → Nat → Int) (p : Nat) : Int := if V 60 p ≤ 0 then -1 else (V 60 p - 1) / 64
theorem td8 {u : Int} (h : -1 ≤ u) : u.tdiv 8 = if u < 0 then 0 else u / 8 := by
  by_cases c : u < 0
  · obtain rfl : u = -1 := by omega
    decide
  · rw [if_neg c, Int.tdiv_eq_ediv_of_nonneg (by omega)]
theorem td64 {u : Int} (h : -1 ≤ u) : u.tdiv 64 = if u < 0 then 0 else u / 64 := by
  by_cases c : u < 0
  · obtain rfl : u = -1 := by omega
    decide
  · rw [if_neg c, Int.tdiv_eq_ediv_of_nonneg (by omega)]
theorem ceil_c {g c : Int} (hc : 1 ≤ c) : (g + c - 1) / c = g / c + (if g % c ≤ 0 then 0 else 1) := by
  have h1 := Int.mul_ediv_add_emod g c
  have h2 := Int.emod_nonneg g (show c ≠ 0 by omega)
  have h3 := Int.emod_lt_of_pos g (show 0 < c by omega)
  have e : g + c - 1 = (g % c + c - 1) + c * (g / c) := by omega
  rw [e, Int.add_mul_ediv_left _ _ (show c ≠ 0 by omega), Int.add_comm]
  congr 1
  by_cases q : g % c ≤ 0
  · rw [if_pos q, Int.ediv_eq_zero_of_lt (by omega) (by omega)]
  · rw [if_neg q, show g % c + c - 1 = (g % c - 1) + c * 1 by omega, Int.add_mul_ediv_left _ _ (show c ≠ 0 by omega), Int.ediv_eq_zero_of_lt (by omega) (by omega)]; rfl
/-- n parts of the law, straps among them -/
def pMo (V : Nat → Nat → Int) (n : Nat) : Prop := V 63 1 = n ∧ n ≤ 10 ∧ (∀ p, p < n → 0 ≤ V 60 p ∧ V 60 p ≤ 10000) ∧ ∀ p, p < n → aSt (pO V) (pQ V) (pL V) p
/-- the law's length -/
def pLn (V : Nat → Nat → Int) (x y k : Nat) : Int := if aS (pO V) (pQ V) (pL V) x y k < 100000000 then aS (pO V) (pQ V) (pL V) x y k else 1000
theorem pLn_no {V : Nat → Nat → Int} {x y k : Nat} (h : ¬ (aJ (pO V) (pQ V) k x y ∧ pL V k < aS (pO V) (pQ V) (pL V) x y k)) : pLn V x y (k + 1) = pLn V x y k := by
  unfold pLn
  rw [show aS (pO V) (pQ V) (pL V) x y (k + 1) = aS (pO V) (pQ V) (pL V) x y k by rw [aS, if_neg h]]
theorem pLn_yes {V : Nat → Nat → Int} {x y k : Nat} (h : aJ (pO V) (pQ V) k x y ∧ pL V k < aS (pO V) (pQ V) (pL V) x y k) (hl : pL V k < 100000000) : pLn V x y (k + 1) = pL V k := by
  unfold pLn
  rw [show aS (pO V) (pQ V) (pL V) x y (k + 1) = pL V k by rw [aS, if_pos h], if_pos hl]
section P2
variable {sc : xS} {d : Nat} {T : Nat → Nat × Nat} {z : Nat × Nat} {V : Nat → Nat → Int} {J : Nat → Nat → Int64} {R : Nat → Nat → Option Nat}
theorem pLn_in {x y n : Nat} (h : ∀ p, p < n → aSt (pO V) (pQ V) (pL V) p) : 1 ≤ pLn V x y n ∧ pLn V x y n ≤ 1000 := by
  have := aS_in (x := x) (y := y) n h
  unfold pLn
  split <;> omega
theorem pL_v {p : Nat} (h : 1 ≤ V 60 p) : pO V p = (V 60 p - 1) % 8 ∧ pQ V p = (V 60 p - 1) / 8 % 8 ∧ pL V p = (V 60 p - 1) / 64 := by
  unfold pO pQ pL
  rw [if_neg (by omega), if_neg (by omega), if_neg (by omega)]
  exact ⟨rfl, rfl, rfl⟩
theorem pL_0 {p : Nat} (h : V 60 p ≤ 0) : pO V p = -1 ∧ pQ V p = -1 ∧ pL V p = -1 := by
  unfold pO pQ pL
  rw [if_pos h, if_pos h, if_pos h]
  exact ⟨rfl, rfl, rfl⟩
/-- the law's test whether a strap joins two rings -/
theorem joins94 {x y p : Nat} {o0 o1 o4 o5 o8 : Option Value} (hx : x < 8) (hy : y < 8) (hO : 0 ≤ pO V p ∧ pO V p < 8) (hQ : 0 ≤ pQ V p ∧ pQ V p < 8) :
    XR sc d 94 48 [o0, o1, some (xw x), some (xw y), o4, o5, some (xw (pO V p)), some (xw (pQ V p)), o8] [] (T, z, xv V, J, R) = XR sc d 94 77 [o0, o1, some (xw x), some (xw y), o4, o5, some (xw (pO V p)), some (xw (pQ V p)), o8] [xw (if aJ (pO V) (pQ V) p x y then 1 else 0)] (T, z, xv V, J, R) := by
  have two : XR sc d 94 60 [o0, o1, some (xw x), some (xw y), o4, o5, some (xw (pO V p)), some (xw (pQ V p)), o8] [] (T, z, xv V, J, R) = XR sc d 94 77 [o0, o1, some (xw x), some (xw y), o4, o5, some (xw (pO V p)), some (xw (pQ V p)), o8] [xw (if pO V p = y ∧ pQ V p = x then 1 else 0)] (T, z, xv V, J, R) := by
    rw [bL_length_60 (by omega) (by omega)]
    by_cases c : pO V p = y
    · rw [if_pos c, bL_length_66 (by omega) (by omega)]
      by_cases c2 : pQ V p = x
      · rw [if_pos c2, if_pos ⟨c, c2⟩, bL_length_72]
      · rw [if_neg c2, if_neg (fun q => c2 q.2), bL_length_76]
    · rw [if_neg c, if_neg (fun q => c q.1), bL_length_76]
  rw [bL_length_48 (by omega) (by omega)]
  by_cases c : pO V p = x
  · rw [if_pos c, bL_length_54 (by omega) (by omega)]
    by_cases c2 : pQ V p = y
    · rw [if_pos c2, bL_length_72, if_pos (show aJ (pO V) (pQ V) p x y from Or.inl ⟨c, c2⟩)]
    · rw [if_neg c2, two]
      by_cases c3 : pO V p = y ∧ pQ V p = x
      · rw [if_pos c3, if_pos (show aJ (pO V) (pQ V) p x y from Or.inr c3)]
      · rw [if_neg c3, if_neg (show ¬ aJ (pO V) (pQ V) p x y from fun q => q.elim (fun q => c2 q.2) c3)]
  · rw [if_neg c, two]
    by_cases c3 : pO V p = y ∧ pQ V p = x
    · rw [if_pos c3, if_pos (show aJ (pO V) (pQ V) p x y from Or.inr c3)]
    · rw [if_neg c3, if_neg (show ¬ aJ (pO V) (pQ V) p x y from fun q => q.elim (fun q => c q.1) c3)]
theorem length_loop {x y n : Nat} (hA : pAr T) (hM : pMo V n) (hx : x < 8) (hy : y < 8) :
    ∀ (m k : Nat) (o6 o7 o8 : Option Value), k + m = n →
    XR sc d 94 8 [some (.ref 60), some (.ref 63), some (xw x), some (xw y), some (xw (pLn V x y k)), some (xw k), o6, o7, o8] [] (T, z, xv V, J, R) = some (.inl (some (xw (pLn V x y n))), (T, z, xv (V), J, R)) := by
  obtain ⟨hc, hn, hb, hst⟩ := hM
  intro m
  induction m with
  | zero =>
    intro k o6 o7 o8 hk
    rw [bL_length_8 (by rw [pA63 hA]) (by rw [pA63 hA]; omega) (by omega) (by omega), if_pos (by omega), bL_length_120, show k = n by omega]
  | succ m ih =>
    intro k o6 o7 o8 hk
    have hv := hb k (by omega)
    have hs := hst k (by omega)
    have t8 := td8 (u := V 60 k - 1) (by omega)
    have t64 := td64 (u := V 60 k - 1) (by omega)
    have ha := aS_in (x := x) (y := y) k (fun p hp => hst p (by omega))
    have t88 : ((V 60 k - 1).tdiv 8).tdiv 8 = if V 60 k - 1 < 0 then 0 else (V 60 k - 1) / 8 / 8 := by
      rw [t8]
      by_cases c : V 60 k - 1 < 0
      · rw [if_pos c, if_pos c]; rfl
      · rw [if_neg c, if_neg c, td8 (by omega), if_neg (by omega)]
    rw [bL_length_8 (by rw [pA63 hA]) (by rw [pA63 hA]; omega) (by omega) (by omega), if_neg (by omega),
      bL_length_16 (by rw [pA60 hA]) (by rw [pA60 hA]; omega) (by rw [Int.toNat_natCast]; omega) (by rw [Int.toNat_natCast, t8]; split <;> omega) (by rw [Int.toNat_natCast]; omega), Int.toNat_natCast, t88, t8]
    by_cases c : V 60 k ≤ 0
    · have e := pL_0 c
      have hj : ¬ aJ (pO V) (pQ V) k x y := by
        rintro (⟨q, _⟩ | ⟨q, _⟩) <;> omega
      have e2 : pLn V x y (k + 1) = pLn V x y k := pLn_no (fun q => hj q.1)
      rw [if_pos c, bL_length_76, bL_length_77 (by decide), if_pos rfl, bL_length_110, bL_length_112, show (k : Int) + 1 = ((k + 1 : Nat) : Int) by omega, ← e2]
      exact ih (k + 1) _ _ _ (by omega)
    · have e := pL_v (V := V) (p := k) (by omega)
      rw [if_neg c, if_neg (by omega), if_neg (by omega), show V 60 k - 1 - (V 60 k - 1) / 8 * 8 = pO V k by omega, show (V 60 k - 1) / 8 - (V 60 k - 1) / 8 / 8 * 8 = pQ V k by omega, joins94 hx hy (by omega) (by omega)]
      by_cases hj : aJ (pO V) (pQ V) k x y
      · have hL := aJ_st hs hj
        rw [if_neg (by omega)] at t64
        rw [if_pos hj, bL_length_77 (by decide), if_neg (by decide), bL_length_84 (by rw [pA60 hA]) (by rw [pA60 hA]; omega) (by rw [Int.toNat_natCast]; omega) (by rw [Int.toNat_natCast, t64]; omega) (by have := pLn_in (x := x) (y := y) (V := V) (n := k) (fun p hp => hst p (by omega)); omega), Int.toNat_natCast, t64, ← e.2.2]
        by_cases c2 : pLn V x y k ≤ pL V k
        · have e2 : pLn V x y (k + 1) = pLn V x y k := by
            refine pLn_no (fun z => ?_)
            have z2 := z.2
            unfold pLn at c2
            by_cases q : aS (pO V) (pQ V) (pL V) x y k < 100000000
            · rw [if_pos q] at c2; omega
            · rw [if_neg q] at c2; omega
          rw [if_pos c2, bL_length_110, bL_length_112, show (k : Int) + 1 = ((k + 1 : Nat) : Int) by omega, ← e2]
          exact ih (k + 1) _ _ _ (by omega)
        · have e2 : pLn V x y (k + 1) = pL V k := by
            unfold pLn at c2
            have hlt : pL V k < aS (pO V) (pQ V) (pL V) x y k := by
              by_cases q : aS (pO V) (pQ V) (pL V) x y k < 100000000
              · rw [if_pos q] at c2; omega
              · omega
            exact pLn_yes ⟨hj, hlt⟩ (by omega)
          rw [if_neg c2, bL_length_98 (by rw [pA60 hA]) (by rw [pA60 hA]; omega) (by rw [Int.toNat_natCast]; omega), Int.toNat_natCast, t64, ← e.2.2, bL_length_112, show (k : Int) + 1 = ((k + 1 : Nat) : Int) by omega, ← e2]
          exact ih (k + 1) _ _ _ (by omega)
      · have e2 : pLn V x y (k + 1) = pLn V x y k := pLn_no (fun q => hj q.1)
        rw [if_neg hj, bL_length_77 (by decide), if_pos rfl, bL_length_110, bL_length_112, show (k : Int) + 1 = ((k + 1 : Nat) : Int) by omega, ← e2]
        exact ih (k + 1) _ _ _ (by omega)
theorem l_length {x y n : Nat} (hA : pAr T) (hM : pMo V n) (hx : x < 8) (hy : y < 8) : X sc (d + 1) 94 [.ref 60, .ref 63, xw x, xw y] (T, z, xv V, J, R) = some (.inl (some (xw (pLn V x y n))), (T, z, xv (V), J, R)) := by
  rw [eL_length, bL_length_0]
  have := length_loop (sc := sc) (d := d) (T := T) (z := z) (V := V) (J := J) (R := R) hA hM hx hy n 0 none none none (Nat.zero_add _)
  exact this
/-- a part is shortest between two rings -/
abbrev pOn (V : Nat → Nat → Int) (n x y p : Nat) : Prop := aJ (pO V) (pQ V) p x y ∧ pL V p = aS (pO V) (pQ V) (pL V) x y n
theorem l_isOn {x y n p : Nat} (hA : pAr T) (hM : pMo V n) (hp : p < n) (hx : x < 8) (hy : y < 8) : X sc (d + 2) 96 [.ref 60, .ref 63, xw p, xw x, xw y] (T, z, xv V, J, R) = some (.inl (some (xw (if pOn V n x y p then 1 else 0))), (T, z, xv (V), J, R)) := by
  have hM' := hM
  obtain ⟨hc, hn, hb, hst⟩ := hM
  have hv := hb p hp
  have hs := hst p hp
  have t8 := td8 (u := V 60 p - 1) (by omega)
  have t64 := td64 (u := V 60 p - 1) (by omega)
  have t88 : ((V 60 p - 1).tdiv 8).tdiv 8 = if V 60 p - 1 < 0 then 0 else (V 60 p - 1) / 8 / 8 := by
    rw [t8]
    by_cases c : V 60 p - 1 < 0
    · rw [if_pos c, if_pos c]; rfl
    · rw [if_neg c, if_neg c, td8 (by omega), if_neg (by omega)]
  rw [eL_isOn, bL_isOn_0 (by rw [pA60 hA]) (by rw [pA60 hA]; omega) (by rw [Int.toNat_natCast]; omega) (by rw [Int.toNat_natCast, t8]; split <;> omega) (by rw [Int.toNat_natCast]; omega), Int.toNat_natCast, t88, t8]
  by_cases c : V 60 p ≤ 0
  · have e := pL_0 c
    have hj : ¬ pOn V n x y p := by
      rintro ⟨⟨q, _⟩ | ⟨q, _⟩, _⟩ <;> omega
    rw [if_pos c, bL_isOn_78, bL_isOn_79 (by decide), if_neg hj]
  · have e := pL_v (V := V) (p := p) (by omega)
    rw [if_neg c, if_neg (by omega), if_neg (by omega), show V 60 p - 1 - (V 60 p - 1) / 8 * 8 = pO V p by omega, show (V 60 p - 1) / 8 - (V 60 p - 1) / 8 / 8 * 8 = pQ V p by omega]
    rw [if_neg (by omega)] at t64
    have yes : aJ (pO V) (pQ V) p x y → XR sc (d + 1) 96 55 [some (.ref 60), some (.ref 63), some (xw p), some (xw x), some (xw y), some (xw (pO V p)), some (xw (pQ V p))] [] (T, z, xv V, J, R) = some (.inl (some (xw (if pOn V n x y p then 1 else 0))), (T, z, xv (V), J, R)) := by
      intro hj
      have hL := aJ_st hs hj
      have hle := aS_le (O := pO V) (Q := pQ V) (L := pL V) (x := x) (y := y) n p hp hj
      have ha := aS_in (x := x) (y := y) n hst
      have eq : pLn V x y n = aS (pO V) (pQ V) (pL V) x y n := by unfold pLn; rw [if_pos (by omega)]
      rw [bL_isOn_55 (by rw [pA60 hA]) (by rw [pA60 hA]; omega) (by rw [Int.toNat_natCast]; omega), l_length hA hM' hx hy, xret_v, Int.toNat_natCast, t64, ← e.2.2, eq, bL_isOn_71 (by omega) (by omega)]
      by_cases c2 : pL V p = aS (pO V) (pQ V) (pL V) x y n
      · rw [if_pos c2, bL_isOn_74, bL_isOn_79 (by decide), if_pos ⟨hj, c2⟩]
      · rw [if_neg c2, bL_isOn_78, bL_isOn_79 (by decide), if_neg (fun q => c2 q.2)]
    have no : ¬ aJ (pO V) (pQ V) p x y → ¬ pOn V n x y p := fun q w => q w.1
    have two : XR sc (d + 1) 96 42 [some (.ref 60), some (.ref 63), some (xw p), some (xw x), some (xw y), some (xw (pO V p)), some (xw (pQ V p))] [] (T, z, xv V, J, R) = if pO V p = y ∧ pQ V p = x then some (.inl (some (xw (if pOn V n x y p then 1 else 0))), (T, z, xv (V), J, R)) else some (.inl (some (xw (0))), (T, z, xv (V), J, R)) := by
      rw [bL_isOn_42 (by omega) (by omega)]
      by_cases c : pO V p = y
      · rw [if_pos c, bL_isOn_49 (by omega) (by omega)]
        by_cases c2 : pQ V p = x
        · rw [if_pos c2, if_pos ⟨c, c2⟩, yes (Or.inr ⟨c, c2⟩)]
        · rw [if_neg c2, if_neg (fun q => c2 q.2), bL_isOn_78, bL_isOn_79 (by decide)]
      · rw [if_neg c, if_neg (fun q => c q.1), bL_isOn_78, bL_isOn_79 (by decide)]
    rw [bL_isOn_29 (by omega) (by omega)]
    by_cases c3 : pO V p = x
    · rw [if_pos c3, bL_isOn_35 (by omega) (by omega)]
      by_cases c2 : pQ V p = y
      · rw [if_pos c2, yes (Or.inl ⟨c3, c2⟩)]
      · rw [if_neg c2, two]
        by_cases c4 : pO V p = y ∧ pQ V p = x
        · rw [if_pos c4]
        · rw [if_neg c4, if_neg (no (fun q => q.elim (fun q => c2 q.2) c4))]
    · rw [if_neg c3, two]
      by_cases c4 : pO V p = y ∧ pQ V p = x
      · rw [if_pos c4]
      · rw [if_neg c4, if_neg (no (fun q => q.elim (fun q => c3 q.1) c4))]
/-- how many are shortest between two rings -/
theorem count_loop {x y n wy : Nat} {k : Nat} {o3 o4 : Option Value} (hA : pAr T) (hM : pMo V n) (hT : T wy = (32, 9)) (hk : k < 8) (hx : x < 8) (hy : y < 8) (h1 : V wy k = x) (h2 : V wy (k + 1) = y) :
    ∀ (m q : Nat), q + m = n →
    XR sc (d + 2) 97 44 [some (.ref 60), some (.ref 63), some (.ref wy), o3, o4, some (xw k), some (xw (aC (pO V) (pQ V) (pL V) x y (aS (pO V) (pQ V) (pL V) x y n) q)), some (xw q)] [] (T, z, xv V, J, R) = XR sc (d + 2) 97 88 [some (.ref 60), some (.ref 63), some (.ref wy), o3, o4, some (xw k), some (xw (aC (pO V) (pQ V) (pL V) x y (aS (pO V) (pQ V) (pL V) x y n) n)), some (xw n)] [] (T, z, xv V, J, R) := by
  have hM' := hM
  obtain ⟨hc, hn, hb, hst⟩ := hM
  have e1 : ((k : Int) + 1).toNat = k + 1 := by omega
  intro m
  induction m with
  | zero =>
    intro q hq
    obtain rfl : q = n := by omega
    rw [bL_bears_44 (by rw [pA63 hA]) (by rw [pA63 hA]; omega) (by omega) (by omega), if_pos (by omega)]
  | succ m ih =>
    intro q hq
    rw [bL_bears_44 (by rw [pA63 hA]) (by rw [pA63 hA]; omega) (by omega) (by omega), if_neg (by omega), bL_bears_52 (by rw [hT]) (by rw [hT]; omega) (by rw [hT]; omega), Int.toNat_natCast, e1, h1, h2, l_isOn hA hM' (by omega) hx hy, xret_v]
    have step := ih (q + 1) (by omega)
    rw [aC] at step
    by_cases c : pOn V n x y q
    · rw [if_pos c] at step
      rw [if_pos c, bL_bears_71 (by decide), if_neg (by decide), bL_bears_74, bL_bears_79, show (q : Int) + 1 = ((q + 1 : Nat) : Int) by omega]
      exact step
    · rw [if_neg c, Int.add_zero] at step
      rw [if_neg c, bL_bears_71 (by decide), if_pos rfl, bL_bears_78, bL_bears_79, Int.add_zero, show (q : Int) + 1 = ((q + 1 : Nat) : Int) by omega]
      exact step
/-- the law's row of a way -/
def pWy (V : Nat → Nat → Int) (wy : Nat) (a : Nat → Nat) (m : Nat) : Prop := m ≤ 7 ∧ (∀ k, k ≤ m → a k < 8 ∧ V wy k = a k) ∧ ∀ k, m < k → k ≤ 8 → V wy k = -1
/-- what a part bears of g on a way -/
def pBu (V : Nat → Nat → Int) (n : Nat) (a : Nat → Nat) (m : Nat) (g : Int) (p : Nat) : Int := if aBk (pO V) (pQ V) (pL V) n a p m = true then (g + aC (pO V) (pQ V) (pL V) (pO V p).toNat (pQ V p).toNat (pL V p) n - 1) / aC (pO V) (pQ V) (pL V) (pO V p).toNat (pQ V p).toNat (pL V p) n else 0
theorem pC_eq {O Q L : Nat → Int} {x y n p : Nat} (hj : aJ O Q p x y ∧ L p = aS O Q L x y n) : aC O Q L x y (aS O Q L x y n) n = aC O Q L (O p).toNat (Q p).toNat (L p) n := by
  rcases hj.1 with ⟨h1, h2⟩ | ⟨h1, h2⟩
  · rw [h1, h2, Int.toNat_natCast, Int.toNat_natCast, hj.2]
  · rw [h1, h2, Int.toNat_natCast, Int.toNat_natCast, hj.2, aC_s]
theorem bears_loop {n wy p m0 : Nat} {a : Nat → Nat} {g : Int} (hA : pAr T) (hM : pMo V n) (hT : T wy = (32, 9)) (hW : pWy V wy a m0) (hp : p < n) (hg : 1 ≤ g ∧ g ≤ 10000) :
    ∀ (m k : Nat) (o6 o7 : Option Value), k + m = m0 → (∀ i, i < k → ¬ pOn V n (a i) (a (i + 1)) p) →
    XR sc (d + 2) 97 3 [some (.ref 60), some (.ref 63), some (.ref wy), some (xw p), some (xw g), some (xw k), o6, o7] [] (T, z, xv V, J, R) = some (.inl (some (xw (pBu V n a m0 g p))), (T, z, xv (V), J, R)) := by
  have hM' := hM
  obtain ⟨hc, hn, hb, hst⟩ := hM
  obtain ⟨hm7, hw1, hw2⟩ := hW
  intro m
  induction m with
  | zero =>
    intro k o6 o7 hk hno
    obtain rfl : k = m0 := by omega
    have e1 : ((k : Int) + 1).toNat = k + 1 := by omega
    have hb : ¬ aBk (pO V) (pQ V) (pL V) n a p k = true := by
      rw [aBk_iff]
      rintro ⟨i, h1, h2⟩
      exact hno i h1 h2
    have hl := hw2 (k + 1) (by omega) (by omega)
    rw [bL_bears_3 (by omega), if_neg (by omega), bL_bears_10 (by rw [hT]) (by rw [hT]; omega) (by rw [e1, hl]; decide), e1, hl, if_pos (by decide), bL_bears_114]
    unfold pBu
    rw [if_neg hb]
  | succ m ih =>
    intro k o6 o7 hk hno
    have e1 : ((k : Int) + 1).toNat = k + 1 := by omega
    obtain ⟨a1, a2⟩ := hw1 k (by omega)
    obtain ⟨a3, a4⟩ := hw1 (k + 1) (by omega)
    rw [bL_bears_3 (by omega), if_neg (by omega), bL_bears_10 (by rw [hT]) (by rw [hT]; omega) (by rw [e1, a4]; omega), e1, a4, if_neg (by omega), bL_bears_19 (by rw [hT]) (by rw [hT]; omega) (by rw [hT]; omega), Int.toNat_natCast, e1, a2, a4, l_isOn hA hM' hp a1 a3, xret_v]
    by_cases c : pOn V n (a k) (a (k + 1)) p
    · have hbk : aBk (pO V) (pQ V) (pL V) n a p m0 = true := (aBk_iff m0).mpr ⟨k, by omega, c⟩
      have h1 := aC_1 (O := pO V) (Q := pQ V) (L := pL V) (x := a k) (y := a (k + 1)) (l := aS (pO V) (pQ V) (pL V) (a k) (a (k + 1)) n) n p hp c
      have h2 := aC_in (O := pO V) (Q := pQ V) (L := pL V) (x := a k) (y := a (k + 1)) (l := aS (pO V) (pQ V) (pL V) (a k) (a (k + 1)) n) n
      have cl := count_loop (sc := sc) (d := d) (z := z) (J := J) (R := R) (k := k) (o3 := some (xw p)) (o4 := some (xw g)) hA hM' hT (by omega) a1 a3 a2 a4 n 0 (Nat.zero_add _)
      rw [aC] at cl
      have cl : XR sc (d + 2) 97 44 [some (.ref 60), some (.ref 63), some (.ref wy), some (xw p), some (xw g), some (xw k), some (xw 0), some (xw 0)] [] (T, z, xv V, J, R) = _ := cl
      unfold pBu
      rw [if_pos c, bL_bears_35 (by decide), if_neg (by decide), bL_bears_38, cl, if_pos hbk, ← pC_eq c, ceil_c h1]
      have hm0 := Int.emod_nonneg g (show aC (pO V) (pQ V) (pL V) (a k) (a (k + 1)) (aS (pO V) (pQ V) (pL V) (a k) (a (k + 1)) n) n ≠ 0 by omega)
      have hm1 := Int.emod_lt_of_pos g (show 0 < aC (pO V) (pQ V) (pL V) (a k) (a (k + 1)) (aS (pO V) (pQ V) (pL V) (a k) (a (k + 1)) n) n by omega)
      rw [bL_bears_88 (by omega) (by omega)]
      by_cases q : g % aC (pO V) (pQ V) (pL V) (a k) (a (k + 1)) (aS (pO V) (pQ V) (pL V) (a k) (a (k + 1)) n) n ≤ 0
      · rw [if_pos q, if_pos q, bL_bears_105, bL_bears_106]
      · rw [if_neg q, if_neg q, bL_bears_101, bL_bears_106]
    · rw [if_neg c, bL_bears_35 (by decide), if_pos rfl, bL_bears_108, show (k : Int) + 1 = ((k + 1 : Nat) : Int) by omega]
      refine ih (k + 1) _ _ (by omega) (fun i hi => ?_)
      by_cases e : i = k
      · subst e; exact c
      · exact hno i (by omega)
theorem l_bears {n wy p m0 : Nat} {a : Nat → Nat} {g : Int} (hA : pAr T) (hM : pMo V n) (hT : T wy = (32, 9)) (hW : pWy V wy a m0) (hp : p < n) (hg : 1 ≤ g ∧ g ≤ 10000) :
    X sc (d + 3) 97 [.ref 60, .ref 63, .ref wy, xw p, xw g] (T, z, xv V, J, R) = some (.inl (some (xw (pBu V n a m0 g p))), (T, z, xv (V), J, R)) := by
  rw [eL_bears, bL_bears_0]
  exact bears_loop hA hM hT hW hp hg m0 0 none none (Nat.zero_add _) (fun i hi => absurd hi (Nat.not_lt_zero i))
theorem pBu_in {n m0 p : Nat} {a : Nat → Nat} {g : Int} (hg : 1 ≤ g ∧ g ≤ 10000) (hp : p < n) (hst : ∀ p, p < n → aSt (pO V) (pQ V) (pL V) p) : 0 ≤ pBu V n a m0 g p ∧ pBu V n a m0 g p ≤ 10000 := by
  unfold pBu
  by_cases c : aBk (pO V) (pQ V) (pL V) n a p m0 = true
  · obtain ⟨k, h1, h2⟩ := (aBk_iff m0).mp c
    have h3 := aC_1 (O := pO V) (Q := pQ V) (L := pL V) (x := a k) (y := a (k + 1)) (l := aS (pO V) (pQ V) (pL V) (a k) (a (k + 1)) n) n p hp h2
    rw [pC_eq h2] at h3
    rw [if_pos c]
    refine ⟨Int.ediv_nonneg (by omega) (by omega), ?_⟩
    refine Int.le_trans (Int.ediv_le_ediv (by omega) (show g + aC (pO V) (pQ V) (pL V) (pO V p).toNat (pQ V p).toNat (pL V p) n - 1 ≤ 10000 * aC (pO V) (pQ V) (pL V) (pO V p).toNat (pQ V p).toNat (pL V p) n by omega)) ?_
    rw [Int.mul_ediv_cancel _ (by omega)]
    exact Int.le_refl _
  · rw [if_neg c]; decide
/-- the parts' packed numbers, wears and holes within their bounds -/
def pMb (V : Nat → Nat → Int) (n : Nat) : Prop := ∀ p, p < n → (0 ≤ V 57 p ∧ V 57 p ≤ 2000000) ∧ (0 ≤ V 58 p ∧ V 58 p ≤ 1000000) ∧ (-2147483648 ≤ V 59 p ∧ V 59 p ≤ 2147483647)
theorem breaks_loop {n wy m0 : Nat} {a : Nat → Nat} {g : Int} (hA : pAr T) (hM : pMo V n) (hB : pMb V n) (hT : T wy = (32, 9)) (hW : pWy V wy a m0) (hg : 1 ≤ g ∧ g ≤ 10000) :
    ∀ (m k : Nat), k + m = n →
    XR sc (d + 3) 98 3 [some (.ref 57), some (.ref 58), some (.ref 59), some (.ref 60), some (.ref 63), some (.ref wy), some (xw g), some (xw k)] [] (T, z, xv V, J, R) = some (.inl (some (xw (aFst (fun p => decide (pSt (V 57 p) (V 58 p) (V 59 p) < pBu V n a m0 g p)) m k))), (T, z, xv (V), J, R)) := by
  have hM' := hM
  obtain ⟨hc, hn, hb, hst⟩ := hM
  intro m
  induction m with
  | zero =>
    intro k hk
    rw [bL_breaks_3 (by rw [pA63 hA]) (by rw [pA63 hA]; omega) (by omega) (by omega), if_pos (by omega), bL_breaks_44, aFst]
  | succ m ih =>
    intro k hk
    obtain ⟨b1, b2, b3⟩ := hB k (by omega)
    have hbu := pBu_in (V := V) (n := n) (m0 := m0) (p := k) (a := a) hg (by omega) hst
    have hs : 0 ≤ pSt (V 57 k) (V 58 k) (V 59 k) ∧ pSt (V 57 k) (V 58 k) (V 59 k) ≤ 2250 := by
      have hm := mul_bd (a := 10 * (V 57 k / 16 % 16)) (b := V 57 k / 256 % 16) (A := 150) (B := 15) (by omega) (by omega)
      unfold pSt
      split <;> omega
    rw [bL_breaks_3 (by rw [pA63 hA]) (by rw [pA63 hA]; omega) (by omega) (by omega), if_neg (by omega), bL_breaks_12, l_bears hA hM' hT hW (by omega) hg, xret_v, bL_breaks_24, l_strength hA (by omega) b1 (by omega) b3, xret_v, bL_breaks_32 (by omega) (by omega), aFst]
    by_cases c : pBu V n a m0 g k ≤ pSt (V 57 k) (V 58 k) (V 59 k)
    · rw [if_pos c, if_neg (show ¬ decide (pSt (V 57 k) (V 58 k) (V 59 k) < pBu V n a m0 g k) = true by rw [decide_eq_true_eq]; omega), bL_breaks_38, show (k : Int) + 1 = ((k + 1 : Nat) : Int) by omega]
      exact ih (k + 1) (by omega)
    · rw [if_neg c, if_pos (show decide (pSt (V 57 k) (V 58 k) (V 59 k) < pBu V n a m0 g k) = true from decide_eq_true (by omega)), bL_breaks_35]
theorem l_breaks {n wy m0 : Nat} {a : Nat → Nat} {g : Int} (hA : pAr T) (hM : pMo V n) (hB : pMb V n) (hT : T wy = (32, 9)) (hW : pWy V wy a m0) (hg : 1 ≤ g ∧ g ≤ 10000) :
    X sc (d + 4) 98 [.ref 57, .ref 58, .ref 59, .ref 60, .ref 63, .ref wy, xw g] (T, z, xv V, J, R) = some (.inl (some (xw (aFst (fun p => decide (pSt (V 57 p) (V 58 p) (V 59 p) < pBu V n a m0 g p)) n 0))), (T, z, xv (V), J, R)) := by
  rw [eL_breaks, bL_breaks_0]
  have := breaks_loop (sc := sc) (d := d) (z := z) (J := J) (R := R) hA hM hB hT hW hg n 0 (Nat.zero_add _)
  exact this
end P2
