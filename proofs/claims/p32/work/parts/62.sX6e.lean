/-! ride of Saddletree -/
def xBl (V : Nat → Nat → Int) (a i : Nat) (am : Int) : Nat → Nat → Int := xup2 V a i (V a i + am)
/-- one section's soreness, and whose it is -/
def xRa (V : Nat → Nat → Int) (so bl k : Nat) (s r g am : Int) : Nat → Nat → Int := xBl (xBl (xBl (xBl V so k am) bl (((k : Int) * 3 + 0) * 6 + s).toNat am) bl (((k : Int) * 3 + 1) * 6 + r).toNat am) bl (((k : Int) * 3 + 2) * 6 + g).toNat am
/-- one section of a ride -/
def xRs1 (so bl : Nat) (s r g hr dp : Int) (k : Nat) (V : Nat → Nat → Int) : Nat → Nat → Int := if 4 * max 0 (dp - V 54 k) ≤ 40 then V else xRa V so bl k s r g ((4 * max 0 (dp - V 54 k) - 40) * hr)
def xRs (so bl fl : Nat) (s r g hr dp : Int) (k : Nat) (V : Nat → Nat → Int) : Nat → Nat → Int :=
  if 4 * max 0 (dp - V 54 k) ≤ 20 then xRs1 so bl s r g hr dp k V else if xRs1 so bl s r g hr dp k V fl k ≤ 0 then xRs1 so bl s r g hr dp k V else xup2 (xRs1 so bl s r g hr dp k V) fl k (xRs1 so bl s r g hr dp k V fl k - 1)
def xRl (so bl fl : Nat) (s r g hr dp : Int) : Nat → Nat → (Nat → Nat → Int) → (Nat → Nat → Int)
  | 0, _, V => V
  | m + 1, k, V => xRl so bl fl s r g hr dp m (k + 1) (xRs so bl fl s r g hr dp k V)
/-- how many of m sections from k on are sorer -/
def xRm (G : Nat → Int) (dp : Int) : Nat → Nat → Int → Int
  | 0, _, n => n
  | m + 1, k, n => xRm G dp m (k + 1) (if 4 * max 0 (dp - G k) ≤ 40 then n else n + 1)
theorem xRs1_ne {so bl : Nat} {s r g hr dp : Int} {k b : Nat} {V : Nat → Nat → Int} (h1 : ¬ b = so) (h2 : ¬ b = bl) : xRs1 so bl s r g hr dp k V b = V b := by
  unfold xRs1
  split
  · rfl
  · funext j
    simp only [xRa, xBl, xup2, h1, h2, false_and, if_false]
theorem xRs_ne {so bl fl : Nat} {s r g hr dp : Int} {k b : Nat} {V : Nat → Nat → Int} (h1 : ¬ b = so) (h2 : ¬ b = bl) (h3 : ¬ b = fl) : xRs so bl fl s r g hr dp k V b = V b := by
  unfold xRs
  split
  · exact xRs1_ne h1 h2
  · split
    · exact xRs1_ne h1 h2
    · rw [up2_va, va_ne h3]; exact xRs1_ne h1 h2
theorem xRs_fl {so bl fl : Nat} {s r g hr dp : Int} {k : Nat} {V : Nat → Nat → Int} (h1 : ¬ fl = so) (h2 : ¬ fl = bl) (hV : ∀ j, j < 7 → 0 ≤ V fl j ∧ V fl j ≤ 20) : ∀ j, j < 7 → 0 ≤ xRs so bl fl s r g hr dp k V fl j ∧ xRs so bl fl s r g hr dp k V fl j ≤ 20 := by
  intro j hj
  have h := hV j hj
  unfold xRs
  rw [xRs1_ne h1 h2]
  split
  · rw [xRs1_ne h1 h2]; exact h
  · split
    · rw [xRs1_ne h1 h2]; exact h
    · next q =>
      rw [up2_va, va_same, xRs1_ne h1 h2]
      by_cases e : j = k
      · subst e; rw [va_same]; omega
      · rw [va_ne e]; exact h
theorem xup2_self {V : Nat → Nat → Int} {a k : Nat} : xup2 V a k (V a k) = V := by
  funext b j
  simp only [xup2]
  split
  · next h => rw [h.1, h.2]
  · rfl
section SX6e
variable {sc : xS} {d : Nat} {T : Nat → Nat × Nat} {z : Nat × Nat} {V : Nat → Nat → Int} {J : Nat → Nat → Int64} {R : Nat → Nat → Option Nat}
/-- what settles one section's flock -/
theorem s_settle {sa te fl : Nat} {k : Nat} (hA : xSa T R sa te fl) (hk : k < 7) (hf : 0 ≤ V fl k ∧ V fl k ≤ 20) :
    X sc (d + 2) 190 [.ref sa, xw k] (T, z, xv V, J, R) = some (.inl none, (T, z, xv (if V fl k ≤ 0 then V else xup2 V fl k (V fl k - 1)), J, R)) := by
  obtain ⟨q1, q2, q3, q4, q5⟩ := hA
  have ef : (R sa 1).getD 0 = fl := by rw [q3]; rfl
  rw [eX4_settle, bX4_settle_0 q1 (rgd q3) (tgd q3 q5) (igd q3 q5 (by omega)), ef, Int.toNat_natCast, s_max (by decide) (by omega), xret_v, bX4_settle_17 (by rw [q5]) (by rw [q5]; omega), Int.toNat_natCast]
  by_cases c : V fl k ≤ 0
  · rw [if_pos c, show max 0 (V fl k - 1) = V fl k by omega, xup2_self]
  · rw [if_neg c, show max 0 (V fl k - 1) = V fl k - 1 by omega]
theorem s_makeSorer {ho he so bl : Nat} {k : Nat} {am s r g : Int} (hO : xHo T R ho he so bl) (hk : k < 7) (hs : 0 ≤ s ∧ s < 6) (hr : 0 ≤ r ∧ r < 6) (hg : 0 ≤ g ∧ g < 6) :
    X sc (d + 2) 189 [.ref ho, xw k, xw am, xw s, xw r, xw g] (T, z, xv V, J, R) = some (.inl none, (T, z, xv (xRa V so bl k s r g am), J, R)) := by
  have hO' := hO
  obtain ⟨p1, p2, p3, p4, p5, p6, p7⟩ := hO
  have es : (R ho 1).getD 0 = so := by rw [p3]; rfl
  rw [eX1_makeSorer, bX1_makeSorer_0 p1 (rgd p3) (tgd p3 p6) (igd p3 p6 (by omega)), es, Int.toNat_natCast, s_blame hO' (by omega) (by decide) hs, xret_n, bX1_makeSorer_18 p1, s_blame hO' (by omega) (by decide) hr, xret_n, bX1_makeSorer_27 p1, s_blame hO' (by omega) (by decide) hg, xret_n, bX1_makeSorer_36]
  rfl
theorem ride_loop {ho he so bl sa te fl : Nat} {s r g hr dp : Int} {o1 o4 : Option Value} (hT : xTr T R) (hE : xSe T R 53 54 55) (hO : xHo T R ho he so bl) (hA : xSa T R sa te fl) (hne : ¬ so = 54 ∧ ¬ bl = 54 ∧ ¬ fl = 54 ∧ ¬ fl = so ∧ ¬ fl = bl) (hs : 0 ≤ s ∧ s < 6) (hr2 : 0 ≤ r ∧ r < 4) (hg : 1 ≤ g ∧ g ≤ 3) (hdp : -5000 ≤ dp ∧ dp ≤ 5000) (hhr : 1 ≤ hr ∧ hr ≤ 10) :
    ∀ (m k : Nat) (n : Int) (V : Nat → Nat → Int) (o12 o13 : Option Value), k + m = 7 → (∀ j, j < 7 → -1000 ≤ V 54 j ∧ V 54 j ≤ 1000) → (∀ j, j < 7 → 0 ≤ V fl j ∧ V fl j ≤ 20) →
    XR sc (d + 2) 73 123 [some (.ref 0), o1, some (xw s), some (xw r), o4, some (xw g), some (xw hr), some (.ref ho), some (.ref sa), some (xw dp), some (xw n), some (xw k), o12, o13] [] (T, z, xv V, J, R) = some (.inl (some (xw (xRm (V 54) dp m k n))), (T, z, xv (xRl so bl fl s r g hr dp m k V), J, R)) := by
  have r7 : R 0 7 = some 53 := hT.2.2.2.2.2.2.1
  have e : (R 0 7).getD 0 = 53 := by rw [r7]; rfl
  have hO' := hO
  intro m
  induction m with
  | zero =>
    intro k n V o12 o13 hk hV hF
    rw [bX6_ride_123 (by omega), if_pos (by omega), bX6_ride_198]; rfl
  | succ m ih =>
    intro k n V o12 o13 hk hV hF
    have hv := hV k (by omega)
    have hpr := s_pressureAt (sc := sc) (d := d) (z := z) (V := V) (J := J) (k := (k : Int)) (dp := dp) hE (by omega) (by rw [Int.toNat_natCast]; exact hv) hdp
    rw [Int.toNat_natCast] at hpr
    have h54 : xRs so bl fl s r g hr dp k V 54 = V 54 := xRs_ne (fun q => hne.1 q.symm) (fun q => hne.2.1 q.symm) (fun q => hne.2.2.1 q.symm)
    have hF' := xRs_fl (so := so) (bl := bl) (fl := fl) (s := s) (r := r) (g := g) (hr := hr) (dp := dp) (k := k) hne.2.2.2.1 hne.2.2.2.2 hF
    have hf1 : xRs1 so bl s r g hr dp k V fl = V fl := xRs1_ne hne.2.2.2.1 hne.2.2.2.2
    -- behind the soreness
    have key : ∀ (n : Int) (o13 : Option Value), XR sc (d + 2) 73 178 [some (.ref 0), o1, some (xw s), some (xw r), o4, some (xw g), some (xw hr), some (.ref ho), some (.ref sa), some (xw dp), some (xw n), some (xw k), some (xw (4 * max 0 (dp - V 54 k))), o13] [] (T, z, xv (xRs1 so bl s r g hr dp k V), J, R) = some (.inl (some (xw (xRm (V 54) dp m (k + 1) n))), (T, z, xv (xRl so bl fl s r g hr dp m (k + 1) (xRs so bl fl s r g hr dp k V)), J, R)) := by
      intro n o13
      have fin := ih (k + 1) n (xRs so bl fl s r g hr dp k V) (some (xw (4 * max 0 (dp - V 54 k)))) o13 (by omega) (by rw [h54]; exact hV) hF'
      rw [h54] at fin
      have hfk := hF k (by omega)
      rw [bX6_ride_178 (by omega)]
      by_cases c : 4 * max 0 (dp - V 54 k) ≤ 20
      · have ex : xRs so bl fl s r g hr dp k V = xRs1 so bl s r g hr dp k V := by unfold xRs; rw [if_pos c]
        rw [ex] at fin ⊢
        rw [if_pos c, bX6_ride_192, show (k : Int) + 1 = ((k + 1 : Nat) : Int) by omega, fin]
      · have ex : xRs so bl fl s r g hr dp k V = if xRs1 so bl s r g hr dp k V fl k ≤ 0 then xRs1 so bl s r g hr dp k V else xup2 (xRs1 so bl s r g hr dp k V) fl k (xRs1 so bl s r g hr dp k V fl k - 1) := by unfold xRs; rw [if_neg c]
        rw [if_neg c, bX6_ride_185 hA.1, s_settle hA (by omega) (by rw [hf1]; exact hfk), xret_n, ← ex, bX6_ride_192, show (k : Int) + 1 = ((k + 1 : Nat) : Int) by omega, fin]
    rw [bX6_ride_123 (by omega), if_neg (by omega), bX6_ride_130 hT.1 (rgd r7) (by rw [e]; exact hE.1), e, hpr, xret_v, bX6_ride_141, s_max (by decide) (by omega), xret_v]
    have hmul : ∀ p : Int, 0 ≤ p ∧ p ≤ 30000 → 0 ≤ p * hr ∧ p * hr ≤ 300000 := by
      intro p hp
      refine ⟨Int.mul_nonneg hp.1 (by omega), ?_⟩
      have := Int.mul_le_mul hp.2 hhr.2 (by omega) (by omega)
      omega
    have hb := hmul (max 0 (4 * max 0 (dp - V 54 k) - 40)) (by omega)
    rw [bX6_ride_152 (by omega), xRm, xRl]
    by_cases c : 4 * max 0 (dp - V 54 k) ≤ 40
    · have ex : xRs1 so bl s r g hr dp k V = V := by unfold xRs1; rw [if_pos c]
      have e0 : max 0 (4 * max 0 (dp - V 54 k) - 40) * hr = 0 := by rw [show max 0 (4 * max 0 (dp - V 54 k) - 40) = 0 by omega, Int.zero_mul]
      have := key n (some (xw 0))
      rw [ex] at this
      rw [e0, if_pos (by decide), if_pos c, this]
    · have ex : xRs1 so bl s r g hr dp k V = xRa V so bl k s r g ((4 * max 0 (dp - V 54 k) - 40) * hr) := by unfold xRs1; rw [if_neg c]
      have e0 : max 0 (4 * max 0 (dp - V 54 k) - 40) = 4 * max 0 (dp - V 54 k) - 40 := by omega
      have hpos : ¬ (4 * max 0 (dp - V 54 k) - 40) * hr ≤ 0 := by
        have := Int.mul_pos (show 0 < 4 * max 0 (dp - V 54 k) - 40 by omega) (show 0 < hr by omega)
        omega
      have := key (n + 1) (some (xw ((4 * max 0 (dp - V 54 k) - 40) * hr)))
      rw [ex] at this
      rw [e0, if_neg hpos, if_neg c, bX6_ride_162 hO'.1, s_makeSorer hO' (by omega) hs (by omega) (by omega), xret_n, bX6_ride_175]
      exact this
end SX6e
