/-! the property's law: rides -/
theorem xRm_e {G G' : Nat → Int} {dp : Int} : ∀ m k n, (∀ j, k ≤ j → j < k + m → G j = G' j) → xRm G dp m k n = xRm G' dp m k n := by
  intro m
  induction m with
  | zero => intro k n _; rfl
  | succ m ih => intro k n h; rw [xRm, xRm, h k (Nat.le_refl k) (by omega), ih (k + 1) _ (fun j a b => h j (by omega) (by omega))]
theorem xRm_in {G : Nat → Int} {dp : Int} : ∀ m k n, n ≤ xRm G dp m k n ∧ xRm G dp m k n ≤ n + m := by
  intro m
  induction m with
  | zero => intro k n; rw [xRm]; omega
  | succ m ih =>
    intro k n
    by_cases c : 4 * max 0 (dp - G k) ≤ 40
    · have := ih (k + 1) n
      rw [xRm, if_pos c]; omega
    · have := ih (k + 1) (n + 1)
      rw [xRm, if_neg c]; omega
/-- how much sorer, and whether flock settles -/
def rAm (G : Nat → Int) (dp hr : Int) (k : Nat) : Int := xAm (4 * max 0 (dp - G k)) hr
def rDx (G : Nat → Int) (dp : Int) (k : Nat) (f : Int) : Int := if 4 * max 0 (dp - G k) ≤ 20 then 0 else if f ≤ 0 then 0 else 1
theorem rAm_in {G : Nat → Int} {dp hr : Int} {k : Nat} (hr2 : 1 ≤ hr ∧ hr ≤ 10) (hd : -5000 ≤ dp ∧ dp ≤ 5000) (hG : -1000 ≤ G k ∧ G k ≤ 1000) : 0 ≤ rAm G dp hr k ∧ rAm G dp hr k ≤ 240000 := by
  unfold rAm xAm
  by_cases c : 4 * max 0 (dp - G k) ≤ 40
  · rw [if_pos c]; decide
  · rw [if_neg c]
    rcases (show hr = 1 ∨ hr = 2 ∨ hr = 3 ∨ hr = 4 ∨ hr = 5 ∨ hr = 6 ∨ hr = 7 ∨ hr = 8 ∨ hr = 9 ∨ hr = 10 by omega) with rfl | rfl | rfl | rfl | rfl | rfl | rfl | rfl | rfl | rfl <;> omega
/-- a ride of the class, row by row -/
theorem xRl_pt {so bl fl : Nat} {s r g : Nat} {hr dp : Int} {G : Nat → Int} (hne : ¬ so = bl) (hn2 : ¬ fl = so) (hn3 : ¬ fl = bl) (h54 : ¬ so = 54 ∧ ¬ bl = 54 ∧ ¬ fl = 54) (hs : s < 6) (hr2 : r < 6) (hg : g < 6) :
    ∀ (m k : Nat) (A : Nat → Nat → Int), k + m = 7 → A 54 = G →
    (∀ b, ¬ b = so → ¬ b = bl → ¬ b = fl → xRl so bl fl s r g hr dp m k A b = A b) ∧ (∀ j, j < 7 → xRl so bl fl s r g hr dp m k A so j = A so j + if k ≤ j then rAm G dp hr j else 0) ∧ (∀ j, j < 7 → xRl so bl fl s r g hr dp m k A fl j = A fl j - if k ≤ j then rDx G dp j (A fl j) else 0) ∧
    ∀ j y w, j < 7 → y < 3 → w < 6 → xRl so bl fl s r g hr dp m k A bl ((j * 3 + y) * 6 + w) = A bl ((j * 3 + y) * 6 + w) + if k ≤ j ∧ ((y = 0 ∧ w = s) ∨ (y = 1 ∧ w = r) ∨ (y = 2 ∧ w = g)) then rAm G dp hr j else 0 := by
  intro m
  induction m with
  | zero =>
    intro k A hk _
    refine ⟨fun b _ _ _ => rfl, fun j hj => ?_, fun j hj => ?_, fun j y w hj _ _ => ?_⟩
    · rw [if_neg (by omega), Int.add_zero]; rfl
    · rw [if_neg (by omega), Int.sub_zero]; rfl
    · rw [if_neg (by omega), Int.add_zero]; rfl
  | succ m ih =>
    intro k A hk hG
    have pt := @xRs_pt A so bl fl k s r g hr dp ((k * 3 + 0) * 6 + s) ((k * 3 + 1) * 6 + r) ((k * 3 + 2) * 6 + g) hne hn2 hn3 (by omega) (by omega) (by omega) (by omega) (by omega) (by omega)
    have e54 : xRs so bl fl s r g hr dp k A 54 = A 54 := xRs_ne (fun q => h54.1 q.symm) (fun q => h54.2.1 q.symm) (fun q => h54.2.2 q.symm)
    obtain ⟨i1, i2, i3, i4⟩ := ih (k + 1) (xRs so bl fl s r g hr dp k A) (by omega) (by rw [e54]; exact hG)
    have ea : xAm (4 * max 0 (dp - A 54 k)) hr = rAm G dp hr k := by unfold rAm; rw [hG]
    have ed : (if 4 * max 0 (dp - A 54 k) ≤ 20 then (0 : Int) else if A fl k ≤ 0 then 0 else 1) = rDx G dp k (A fl k) := by unfold rDx; rw [hG]
    rw [ea, ed] at pt
    refine ⟨fun b b1 b2 b3 => by rw [xRl, i1 b b1 b2 b3, xRs_ne b1 b2 b3], fun j hj => ?_, fun j hj => ?_, fun j y w hj hy hw => ?_⟩
    · rw [xRl, i2 j hj, pt, if_neg (show ¬ (so = bl ∧ _) from fun q => hne q.1), if_neg (show ¬ (so = fl ∧ _) from fun q => hn2 q.1.symm)]
      by_cases e : j = k
      · subst e; rw [if_pos (show so = so ∧ j = j from ⟨rfl, rfl⟩), if_neg (show ¬ j + 1 ≤ j by omega), if_pos (Nat.le_refl j)]; omega
      · rw [if_neg (fun q => e q.2)]
        by_cases c : k ≤ j
        · rw [if_pos (by omega), if_pos c]; omega
        · rw [if_neg (by omega), if_neg c]; omega
    · have ef : xRs so bl fl s r g hr dp k A fl j = A fl j - if j = k then rDx G dp k (A fl k) else 0 := by
        rw [pt, if_neg (show ¬ (fl = so ∧ _) from fun q => hn2 q.1), if_neg (show ¬ (fl = bl ∧ _) from fun q => hn3 q.1)]
        by_cases e : j = k
        · rw [if_pos ⟨rfl, e⟩, if_pos e]; omega
        · rw [if_neg (fun q => e q.2), if_neg e]; omega
      rw [xRl, i3 j hj, ef]
      by_cases e : j = k
      · subst e; rw [if_neg (show ¬ j + 1 ≤ j by omega), if_pos rfl, if_pos (Nat.le_refl _)]; omega
      · rw [if_neg e, Int.sub_zero]
        by_cases c : k ≤ j
        · rw [if_pos (by omega), if_pos c]
        · rw [if_neg (by omega), if_neg c]
    · rw [xRl, i4 j y w hj hy hw, pt, if_neg (show ¬ (bl = so ∧ _) from fun q => hne q.1.symm), if_neg (show ¬ (bl = fl ∧ _) from fun q => hn3 q.1.symm)]
      by_cases e : j = k
      · subst e
        rw [if_neg (show ¬ (j + 1 ≤ j ∧ _) by omega)]
        by_cases c : (y = 0 ∧ w = s) ∨ (y = 1 ∧ w = r) ∨ (y = 2 ∧ w = g)
        · rw [if_pos (by omega), if_pos ⟨Nat.le_refl _, c⟩]; omega
        · rw [if_neg (by omega), if_neg (fun q => c q.2)]; omega
      · rw [if_neg (show ¬ (bl = bl ∧ _) by omega)]
        by_cases c : k ≤ j ∧ ((y = 0 ∧ w = s) ∨ (y = 1 ∧ w = r) ∨ (y = 2 ∧ w = g))
        · rw [if_pos c, if_pos ⟨by omega, c.2⟩]; omega
        · rw [if_neg c, if_neg (by omega)]; omega
section P9
variable {sc : xS} {d : Nat} {T : Nat → Nat × Nat} {z : Nat × Nat} {V : Nat → Nat → Int} {J : Nat → Nat → Int64} {R : Nat → Nat → Option Nat}
/-- one section of a ride, by the law -/
theorem ride_1 {h s k : Nat} {g n hr dp a : Int} {o0 o3 o4 o5 o6 o8 o10 o12 o13 o14 o15 o16 o18 : Option Value} (hA : pAr T) (hh : h < 2) (hs : s < 2) (hk : k < 7) (hg : g = 1 + s) (y0 : Int) :
    ∃ V' : Nat → Nat → Int, XR sc d 108 537 [o0, some (.ref 61), some (.ref 62), o3, o4, o5, o6, some (xw h), o8, some (xw s), o10, some (xw g), o12, o13, o14, o15, o16, some (xw k), o18, some (xw a)] [xw y0, xw n] (T, z, xv V, J, R) = XR sc d 108 481 [o0, some (.ref 61), some (.ref 62), o3, o4, o5, o6, some (xw h), o8, some (xw s), o10, some (xw g), o12, o13, o14, some (xw (n + y0)), o16, some (xw (k + 1 : Nat)), o18, some (xw a)] [] (T, z, xv V', J, R) ∧
      (∀ b, ¬ b = 61 → ¬ b = 62 → V' b = V b) ∧ (∀ j, V' 61 j = V 61 j + if j = 42 + 7 * h + k then a else 0) ∧ ∀ j, V' 62 j = V 62 j + if j = 14 * h + 2 * k + s ∨ j = 28 + 14 * h + 2 * k + s then a else 0 := by
  have e1 : (42 + 7 * (h : Int) + (k : Int)).toNat = 42 + 7 * h + k := by omega
  have e2 : (14 * (h : Int) + 2 * (k : Int) + (s : Int)).toNat = 14 * h + 2 * k + s := by omega
  have e3 : (28 + 14 * (h : Int) + 2 * (k : Int) + g - 1).toNat = 28 + 14 * h + 2 * k + s := by omega
  refine ⟨xup2 (xup2 (xup2 V 61 (42 + 7 * h + k) (V 61 (42 + 7 * h + k) + a)) 62 (14 * h + 2 * k + s) (V 62 (14 * h + 2 * k + s) + a)) 62 (28 + 14 * h + 2 * k + s) (V 62 (28 + 14 * h + 2 * k + s) + a), ?_, ?_, ?_, ?_⟩
  · rw [bL_isRidden_537 (by rw [pA61 hA]) (by rw [pA61 hA]; omega) (by rw [pA62 hA]) (by rw [pA62 hA]; omega) (by rw [pA62 hA]; omega), e1, e2, e3, xup2_o (V := V) (show ¬ 62 = 61 by decide), xup2_j (show ¬ 28 + 14 * h + 2 * k + s = 14 * h + 2 * k + s by omega), xup2_o (V := V) (show ¬ 62 = 61 by decide), show (k : Int) + 1 = ((k + 1 : Nat) : Int) by omega]
  · intro b b1 b2
    rw [xup2_o b2, xup2_o b2, xup2_o b1]
  · intro j
    rw [xup2_o (by decide), xup2_o (by decide)]
    by_cases e : j = 42 + 7 * h + k
    · subst e; rw [xup2_i, if_pos rfl]
    · rw [xup2_j e, if_neg e, Int.add_zero]
  · intro j
    by_cases c1 : j = 28 + 14 * h + 2 * k + s
    · subst c1; rw [xup2_i, if_pos (Or.inr rfl)]
    · rw [xup2_j c1]
      by_cases c2 : j = 14 * h + 2 * k + s
      · subst c2; rw [xup2_i, if_pos (Or.inl rfl)]
      · rw [xup2_j c2, xup2_o (by decide), if_neg (fun q => q.elim c2 c1), Int.add_zero]
/-- the law's first loop of a ride -/
theorem ride_lp1 {h s : Nat} {g hr dp : Int} {V0 : Nat → Nat → Int} {o0 o3 o4 o5 o6 o8 o10 o13 o14 : Option Value} (hA : pAr T) (hh : h < 2) (hs : s < 2) (hg : g = 1 + s) (hhr : 1 ≤ hr ∧ hr ≤ 10) (hd : -5000 ≤ dp ∧ dp ≤ 5000) (hG : ∀ j, j < 7 → -1000 ≤ pGa V0 h s j ∧ pGa V0 h s j ≤ 1000) :
    ∀ (m k : Nat) (V : Nat → Nat → Int) (n : Int) (o18 o19 : Option Value), k + m = 7 → 0 ≤ n ∧ n ≤ k → (∀ j, j < 42 → V 61 j = V0 61 j) →
    ∃ (V' : Nat → Nat → Int) (o17' o18' o19' : Option Value), XR sc (d + 1) 108 481 [o0, some (.ref 61), some (.ref 62), o3, o4, o5, o6, some (xw h), o8, some (xw s), o10, some (xw g), some (xw hr), o13, o14, some (xw n), some (xw dp), some (xw k), o18, o19] [] (T, z, xv V, J, R) = XR sc (d + 1) 108 609 [o0, some (.ref 61), some (.ref 62), o3, o4, o5, o6, some (xw h), o8, some (xw s), o10, some (xw g), some (xw hr), o13, o14, some (xw (xRm (pGa V0 h s) dp m k n)), some (xw dp), o17', o18', o19'] [] (T, z, xv V', J, R) ∧
      (∀ b, ¬ b = 61 → ¬ b = 62 → V' b = V b) ∧ (∀ j, j < 42 → V' 61 j = V 61 j) ∧ (∀ h' j, h' < 2 → j < 7 → V' 61 (42 + 7 * h' + j) = V 61 (42 + 7 * h' + j) + if h' = h ∧ k ≤ j then rAm (pGa V0 h s) dp hr j else 0) ∧
      ∀ e h' j s', e < 2 → h' < 2 → j < 7 → s' < 2 → V' 62 (28 * e + 14 * h' + 2 * j + s') = V 62 (28 * e + 14 * h' + 2 * j + s') + if (h' = h ∧ s' = s) ∧ k ≤ j then rAm (pGa V0 h s) dp hr j else 0 := by
  intro m
  induction m with
  | zero =>
    intro k V n o18 o19 hk hn hV
    refine ⟨V, some (xw k), o18, o19, ?_, fun _ _ _ => rfl, fun _ _ => rfl, fun h' j _ hj => ?_, fun e h' j s' _ _ hj _ => ?_⟩
    · rw [bL_isRidden_481 (by first | omega | exact xB_in _ | exact xB_01 _ | exact iAnd_in | exact iShr_in | (simp only [Int.toNat_natCast]; omega) | decide), if_pos (by first | omega | decide)]; rfl
    · rw [if_neg (by omega), Int.add_zero]
    · rw [if_neg (by omega), Int.add_zero]
  | succ m ih =>
    intro k V n o18 o19 hk hn hV
    have hg7 := hG k (by omega)
    have eG : pGa V h s k = pGa V0 h s k := by unfold pGa; rw [hV _ (by omega), hV _ (by omega), hV _ (by omega)]
    have lp := l_pressure (sc := sc) (d := d) (T := T) (z := z) (V := V) (J := J) (R := R) (h := h) (s := s) (k := k) (dp := dp) hA hh hs (by omega) (by rw [eG]; exact hg7) hd
    rw [eG] at lp
    -- the amount
    have am : ∀ o19 : Option Value, XR sc (d + 1) 108 500 [o0, some (.ref 61), some (.ref 62), o3, o4, o5, o6, some (xw h), o8, some (xw s), o10, some (xw g), some (xw hr), o13, o14, some (xw n), some (xw dp), some (xw k), o18, o19] [xw (4 * max 0 (dp - pGa V0 h s k))] (T, z, xv V, J, R) =
        XR sc (d + 1) 108 521 [o0, some (.ref 61), some (.ref 62), o3, o4, o5, o6, some (xw h), o8, some (xw s), o10, some (xw g), some (xw hr), o13, o14, some (xw n), some (xw dp), some (xw k), some (xw (4 * max 0 (dp - pGa V0 h s k))), o19] [xw (rAm (pGa V0 h s) dp hr k)] (T, z, xv V, J, R) := by
      intro o19
      unfold rAm xAm
      by_cases c : 4 * max 0 (dp - pGa V0 h s k) ≤ 40
      · rw [bL_isRidden_500 (by first | omega | exact xB_in _ | exact xB_01 _ | exact iAnd_in | exact iShr_in | (simp only [Int.toNat_natCast]; omega) | decide), if_pos (by first | omega | decide), bL_isRidden_520, if_pos c]
      · rw [bL_isRidden_500 (by first | omega | exact xB_in _ | exact xB_01 _ | exact iAnd_in | exact iShr_in | (simp only [Int.toNat_natCast]; omega) | decide), if_neg (by first | omega | decide), bL_isRidden_509, if_neg c, Int.mul_comm hr]
    have one : ∃ y0 : Int, (n + y0 = if 4 * max 0 (dp - pGa V0 h s k) ≤ 40 then n else n + 1) ∧ XR sc (d + 1) 108 521 [o0, some (.ref 61), some (.ref 62), o3, o4, o5, o6, some (xw h), o8, some (xw s), o10, some (xw g), some (xw hr), o13, o14, some (xw n), some (xw dp), some (xw k), some (xw (4 * max 0 (dp - pGa V0 h s k))), o19] [xw (rAm (pGa V0 h s) dp hr k)] (T, z, xv V, J, R) =
        XR sc (d + 1) 108 537 [o0, some (.ref 61), some (.ref 62), o3, o4, o5, o6, some (xw h), o8, some (xw s), o10, some (xw g), some (xw hr), o13, o14, some (xw n), some (xw dp), some (xw k), some (xw (4 * max 0 (dp - pGa V0 h s k))), some (xw (rAm (pGa V0 h s) dp hr k))] [xw y0, xw n] (T, z, xv V, J, R) := by
      by_cases c : 4 * max 0 (dp - pGa V0 h s k) ≤ 40
      · exact ⟨0, by rw [if_pos c, Int.add_zero], by rw [bL_isRidden_521 (by first | omega | exact xB_in _ | exact xB_01 _ | exact iAnd_in | exact iShr_in | (simp only [Int.toNat_natCast]; omega) | decide), if_pos (by first | omega | decide), bL_isRidden_536]⟩
      · exact ⟨1, by rw [if_neg c], by rw [bL_isRidden_521 (by first | omega | exact xB_in _ | exact xB_01 _ | exact iAnd_in | exact iShr_in | (simp only [Int.toNat_natCast]; omega) | decide), if_neg (by first | omega | decide), bL_isRidden_532]⟩
    obtain ⟨y0, y1, y2⟩ := one
    obtain ⟨V1, v1, v2, v3, v4⟩ := ride_1 (sc := sc) (d := d + 1) (T := T) (z := z) (V := V) (J := J) (R := R) (h := h) (s := s) (k := k) (g := g) (n := n) (hr := hr) (dp := dp) (a := rAm (pGa V0 h s) dp hr k) (o0 := o0) (o3 := o3) (o4 := o4) (o5 := o5) (o6 := o6) (o8 := o8) (o10 := o10) (o12 := some (xw hr)) (o13 := o13) (o14 := o14) (o15 := some (xw n)) (o16 := some (xw dp)) (o18 := some (xw (4 * max 0 (dp - pGa V0 h s k)))) hA hh hs (by omega) hg y0
    have hn1 : 0 ≤ n + y0 ∧ n + y0 ≤ ((k + 1 : Nat) : Int) := by
      rw [y1]; split <;> omega
    obtain ⟨V', o17', o18', o19', j1, j2, j3, j4, j5⟩ := ih (k + 1) V1 (n + y0) (some (xw (4 * max 0 (dp - pGa V0 h s k)))) (some (xw (rAm (pGa V0 h s) dp hr k))) (by omega) hn1 (fun j hj => by rw [v3, if_neg (by omega), Int.add_zero]; exact hV j hj)
    refine ⟨V', o17', o18', o19', ?_, fun b b1 b2 => by rw [j2 b b1 b2, v2 b b1 b2], fun j hj => by rw [j3 j hj, v3, if_neg (by omega), Int.add_zero], fun h' j hh' hj => ?_, fun e h' j s' he hh' hj hs' => ?_⟩
    · rw [bL_isRidden_481 (by first | omega | exact xB_in _ | exact xB_01 _ | exact iAnd_in | exact iShr_in | (simp only [Int.toNat_natCast]; omega) | decide), if_neg (by first | omega | decide), bL_isRidden_488, lp, xret_v, am, y2, v1, j1, xRm, ← y1]
    · rw [j4 h' j hh' hj, v3]
      by_cases c : h' = h ∧ j = k
      · obtain ⟨rfl, rfl⟩ := c
        rw [if_neg (show ¬ (h' = h' ∧ j + 1 ≤ j) by omega), if_pos rfl, if_pos ⟨rfl, Nat.le_refl _⟩]; omega
      · rw [if_neg (show ¬ 42 + 7 * h' + j = 42 + 7 * h + k by omega)]
        by_cases c2 : h' = h ∧ k ≤ j
        · rw [if_pos c2, if_pos (by omega)]; omega
        · rw [if_neg c2, if_neg (by omega)]; omega
    · rw [j5 e h' j s' he hh' hj hs', v4]
      by_cases c : h' = h ∧ j = k ∧ s' = s
      · obtain ⟨rfl, rfl, rfl⟩ := c
        rw [if_neg (show ¬ ((h' = h' ∧ s' = s') ∧ j + 1 ≤ j) by omega), if_pos (by omega), if_pos ⟨⟨rfl, rfl⟩, Nat.le_refl _⟩]; omega
      · rw [if_neg (show ¬ (28 * e + 14 * h' + 2 * j + s' = 14 * h + 2 * k + s ∨ 28 * e + 14 * h' + 2 * j + s' = 28 + 14 * h + 2 * k + s) by omega)]
        by_cases c2 : (h' = h ∧ s' = s) ∧ k ≤ j
        · rw [if_pos c2, if_pos (by omega)]; omega
        · rw [if_neg c2, if_neg (by omega)]; omega
/-- the law's second loop of a ride -/
theorem ride_lp2 {h s : Nat} {dp : Int} {G : Nat → Int} {o0 o2 o3 o4 o5 o6 o8 o10 o11 o12 o13 o14 o15 : Option Value} (hA : pAr T) (hh : h < 2) (hs : s < 2) (hd : -5000 ≤ dp ∧ dp ≤ 5000) (hG : ∀ j, j < 7 → -1000 ≤ G j ∧ G j ≤ 1000) :
    ∀ (m k : Nat) (V : Nat → Nat → Int) (o18 o19 : Option Value), k + m = 7 → (∀ j, k ≤ j → j < 7 → pGa V h s j = G j ∧ 0 ≤ V 61 (28 + 7 * s + j) ∧ V 61 (28 + 7 * s + j) ≤ 20) →
    ∃ (V' : Nat → Nat → Int) (o17' o18' : Option Value), XR sc (d + 1) 108 612 [o0, some (.ref 61), o2, o3, o4, o5, o6, some (xw h), o8, some (xw s), o10, o11, o12, o13, o14, o15, some (xw dp), some (xw k), o18, o19] [] (T, z, xv V, J, R) = XR sc (d + 1) 108 683 [o0, some (.ref 61), o2, o3, o4, o5, o6, some (xw h), o8, some (xw s), o10, o11, o12, o13, o14, o15, some (xw dp), o17', o18', o19] [] (T, z, xv V', J, R) ∧
      (∀ b, ¬ b = 61 → V' b = V b) ∧ (∀ j, (j < 28 + 7 * s ∨ 28 + 7 * s + 7 ≤ j) → V' 61 j = V 61 j) ∧ ∀ j, j < 7 → V' 61 (28 + 7 * s + j) = V 61 (28 + 7 * s + j) - if k ≤ j then rDx G dp j (V 61 (28 + 7 * s + j)) else 0 := by
  intro m
  induction m with
  | zero =>
    intro k V o18 o19 hk hV
    refine ⟨V, some (xw k), o18, ?_, fun _ _ => rfl, fun _ _ => rfl, fun j hj => by rw [if_neg (by omega), Int.sub_zero]⟩
    rw [bL_isRidden_612 (by first | omega | exact xB_in _ | exact xB_01 _ | exact iAnd_in | exact iShr_in | (simp only [Int.toNat_natCast]; omega) | decide), if_pos (by first | omega | decide)]
  | succ m ih =>
    intro k V o18 o19 hk hV
    obtain ⟨eG, f0, f1⟩ := hV k (Nat.le_refl k) (by omega)
    have lp := l_pressure (sc := sc) (d := d) (T := T) (z := z) (V := V) (J := J) (R := R) (h := h) (s := s) (k := k) (dp := dp) hA hh hs (by omega) (by rw [eG]; exact hG k (by omega)) hd
    rw [eG] at lp
    have hg := hG k (by omega)
    have e1 : (28 + 7 * (s : Int) + (k : Int)).toNat = 28 + 7 * s + k := by omega
    have sto : ∃ x : Int, x = rDx G dp k (V 61 (28 + 7 * s + k)) ∧ ∃ o18' : Option Value, XR sc (d + 1) 108 631 [o0, some (.ref 61), o2, o3, o4, o5, o6, some (xw h), o8, some (xw s), o10, o11, o12, o13, o14, o15, some (xw dp), some (xw k), o18, o19] [xw (4 * max 0 (dp - G k))] (T, z, xv V, J, R) =
        XR sc (d + 1) 108 675 [o0, some (.ref 61), o2, o3, o4, o5, o6, some (xw h), o8, some (xw s), o10, o11, o12, o13, o14, o15, some (xw dp), some (xw k), o18', o19] [xw x, xw (V 61 (28 + 7 * s + k)), xw (28 + 7 * (s : Int) + (k : Int)), .ref 61] (T, z, xv V, J, R) := by
      unfold rDx
      by_cases c : 4 * max 0 (dp - G k) ≤ 20
      · exact ⟨0, by rw [if_pos c], some (xw (4 * max 0 (dp - G k))), by rw [bL_isRidden_631 (by rw [pA61 hA]) (by rw [pA61 hA]; omega) (by first | omega | exact xB_in _ | exact xB_01 _ | exact iAnd_in | exact iShr_in | (simp only [Int.toNat_natCast]; omega) | decide), if_pos (by first | omega | decide), bL_isRidden_674, e1]⟩
      · by_cases c2 : V 61 (28 + 7 * s + k) ≤ 0
        · exact ⟨0, by rw [if_neg c, if_pos c2], some (xw (4 * max 0 (dp - G k))), by rw [bL_isRidden_631 (by rw [pA61 hA]) (by rw [pA61 hA]; omega) (by first | omega | exact xB_in _ | exact xB_01 _ | exact iAnd_in | exact iShr_in | (simp only [Int.toNat_natCast]; omega) | decide), if_neg (by first | omega | decide), bL_isRidden_654 (by rw [pA61 hA]) (by rw [pA61 hA]; omega) (by rw [e1]; omega), e1, if_pos c2, bL_isRidden_674]⟩
        · exact ⟨1, by rw [if_neg c, if_neg c2], some (xw (4 * max 0 (dp - G k))), by rw [bL_isRidden_631 (by rw [pA61 hA]) (by rw [pA61 hA]; omega) (by first | omega | exact xB_in _ | exact xB_01 _ | exact iAnd_in | exact iShr_in | (simp only [Int.toNat_natCast]; omega) | decide), if_neg (by first | omega | decide), bL_isRidden_654 (by rw [pA61 hA]) (by rw [pA61 hA]; omega) (by rw [e1]; omega), e1, if_neg c2, bL_isRidden_670]⟩
    obtain ⟨x, hx, o18a, sx⟩ := sto
    have e61 : ∀ j, xup2 V 61 (28 + 7 * s + k) (V 61 (28 + 7 * s + k) - x) 61 j = if j = 28 + 7 * s + k then V 61 (28 + 7 * s + k) - x else V 61 j := fun j => by
      by_cases e : j = 28 + 7 * s + k
      · subst e; rw [xup2_i, if_pos rfl]
      · rw [xup2_j e, if_neg e]
    obtain ⟨V', o17', o18', j1, j2, j3, j4⟩ := ih (k + 1) (xup2 V 61 (28 + 7 * s + k) (V 61 (28 + 7 * s + k) - x)) o18a o19 (by omega) (fun j a b => by
      obtain ⟨g1, g2, g3⟩ := hV j (by omega) b
      unfold pGa at g1 ⊢
      rw [e61, e61, e61, if_neg (by omega), if_neg (by omega), if_neg (by omega)]
      exact ⟨g1, g2, g3⟩)
    refine ⟨V', o17', o18', ?_, fun b hb => by rw [j2 b hb, xup2_o hb], fun j hj => by rw [j3 j hj, e61, if_neg (by omega)], fun j hj => ?_⟩
    · rw [bL_isRidden_612 (by first | omega | exact xB_in _ | exact xB_01 _ | exact iAnd_in | exact iShr_in | (simp only [Int.toNat_natCast]; omega) | decide), if_neg (by first | omega | decide), bL_isRidden_619, lp, xret_v, sx, bL_isRidden_675 (by rw [pA61 hA]) (by rw [pA61 hA]; omega), e1, show (k : Int) + 1 = ((k + 1 : Nat) : Int) by omega]
      exact j1
    · rw [j4 j hj, e61]
      by_cases e : j = k
      · subst e; rw [if_pos rfl, if_neg (by omega), if_pos (Nat.le_refl _), hx]; omega
      · rw [if_neg (by omega)]
        by_cases c : k + 1 ≤ j
        · rw [if_pos c, if_pos (by omega)]
        · rw [if_neg c, if_neg (by omega)]
theorem ride_start {one two hh ss : Int} (h1 : 0 ≤ one ∧ one < 60000) (h2 : 0 ≤ two ∧ two < 60000) :
    ∃ (sa : Nat) (we ga ho : Int), sa < 2 ∧ (0 ≤ we ∧ we ≤ 1001) ∧ (ga = 0 ∨ ga = 4 ∨ ga = 1 + (sa : Int)) ∧ (0 ≤ ho ∧ ho ≤ 11) ∧
      XR sc d 108 296 [some (.ref 0), some (.ref 61), some (.ref 62), some (.ref 63), some (xw 3), some (xw one), some (xw two), some (xw hh), some (xw ss), none, none, none, none, none, none, none, none, none, none, none] [] (T, z, xv V, J, R) =
      XR sc d 108 425 [some (.ref 0), some (.ref 61), some (.ref 62), some (.ref 63), some (xw 3), some (xw one), some (xw two), some (xw hh), some (xw ss), some (xw sa), some (xw we), some (xw ga), some (xw ho), none, none, none, none, none, none, none] [xw (xB (decide ((1 ≤ we ∧ we ≤ 1000) ∧ (1 ≤ ga ∧ ga ≤ 3) ∧ (1 ≤ ho ∧ ho ≤ 10))))] (T, z, xv V, J, R) := by
  have right : ∀ sa we ga ho : Int, (0 ≤ we ∧ we ≤ 1001) → (0 ≤ ga ∧ ga ≤ 4) → ho = one / 13 % 12 →
      XR sc d 108 372 [some (.ref 0), some (.ref 61), some (.ref 62), some (.ref 63), some (xw 3), some (xw one), some (xw two), some (xw hh), some (xw ss), some (xw sa), some (xw we), none, none, none, none, none, none, none, none, none] [xw ga] (T, z, xv V, J, R) =
      XR sc d 108 425 [some (.ref 0), some (.ref 61), some (.ref 62), some (.ref 63), some (xw 3), some (xw one), some (xw two), some (xw hh), some (xw ss), some (xw sa), some (xw we), some (xw ga), some (xw ho), none, none, none, none, none, none, none] [xw (xB (decide ((1 ≤ we ∧ we ≤ 1000) ∧ (1 ≤ ga ∧ ga ≤ 3) ∧ (1 ≤ ho ∧ ho ≤ 10))))] (T, z, xv V, J, R) := by
    intro sa we ga ho hwe hga hho
    have hho2 : 0 ≤ ho ∧ ho ≤ 11 := by omega
    by_cases c1 : we ≤ 0
    · rw [decide_eq_false (by omega), bL_isRidden_372 (by first | omega | exact xB_in _ | exact xB_01 _ | exact iAnd_in | exact iShr_in | (simp only [Int.toNat_natCast]; omega) | decide) (by first | omega | exact xB_in _ | exact xB_01 _ | exact iAnd_in | exact iShr_in | (simp only [Int.toNat_natCast]; omega) | decide) (by first | omega | exact xB_in _ | exact xB_01 _ | exact iAnd_in | exact iShr_in | (simp only [Int.toNat_natCast]; omega) | decide), if_pos (by first | omega | decide), bL_isRidden_424, ← hho]; rfl
    by_cases c2 : 1001 ≤ we
    · rw [decide_eq_false (by omega), bL_isRidden_372 (by first | omega | exact xB_in _ | exact xB_01 _ | exact iAnd_in | exact iShr_in | (simp only [Int.toNat_natCast]; omega) | decide) (by first | omega | exact xB_in _ | exact xB_01 _ | exact iAnd_in | exact iShr_in | (simp only [Int.toNat_natCast]; omega) | decide) (by first | omega | exact xB_in _ | exact xB_01 _ | exact iAnd_in | exact iShr_in | (simp only [Int.toNat_natCast]; omega) | decide), if_neg (by first | omega | decide), bL_isRidden_389 (by first | omega | exact xB_in _ | exact xB_01 _ | exact iAnd_in | exact iShr_in | (simp only [Int.toNat_natCast]; omega) | decide), if_pos (by first | omega | decide), bL_isRidden_424, ← hho]; rfl
    by_cases c3 : ga ≤ 0
    · rw [decide_eq_false (by omega), bL_isRidden_372 (by first | omega | exact xB_in _ | exact xB_01 _ | exact iAnd_in | exact iShr_in | (simp only [Int.toNat_natCast]; omega) | decide) (by first | omega | exact xB_in _ | exact xB_01 _ | exact iAnd_in | exact iShr_in | (simp only [Int.toNat_natCast]; omega) | decide) (by first | omega | exact xB_in _ | exact xB_01 _ | exact iAnd_in | exact iShr_in | (simp only [Int.toNat_natCast]; omega) | decide), if_neg (by first | omega | decide), bL_isRidden_389 (by first | omega | exact xB_in _ | exact xB_01 _ | exact iAnd_in | exact iShr_in | (simp only [Int.toNat_natCast]; omega) | decide), if_neg (by first | omega | decide), bL_isRidden_397 (by first | omega | exact xB_in _ | exact xB_01 _ | exact iAnd_in | exact iShr_in | (simp only [Int.toNat_natCast]; omega) | decide), if_pos (by first | omega | decide), bL_isRidden_424, ← hho]; rfl
    by_cases c4 : 4 ≤ ga
    · rw [decide_eq_false (by omega), bL_isRidden_372 (by first | omega | exact xB_in _ | exact xB_01 _ | exact iAnd_in | exact iShr_in | (simp only [Int.toNat_natCast]; omega) | decide) (by first | omega | exact xB_in _ | exact xB_01 _ | exact iAnd_in | exact iShr_in | (simp only [Int.toNat_natCast]; omega) | decide) (by first | omega | exact xB_in _ | exact xB_01 _ | exact iAnd_in | exact iShr_in | (simp only [Int.toNat_natCast]; omega) | decide), if_neg (by first | omega | decide), bL_isRidden_389 (by first | omega | exact xB_in _ | exact xB_01 _ | exact iAnd_in | exact iShr_in | (simp only [Int.toNat_natCast]; omega) | decide), if_neg (by first | omega | decide), bL_isRidden_397 (by first | omega | exact xB_in _ | exact xB_01 _ | exact iAnd_in | exact iShr_in | (simp only [Int.toNat_natCast]; omega) | decide), if_neg (by first | omega | decide), bL_isRidden_402 (by first | omega | exact xB_in _ | exact xB_01 _ | exact iAnd_in | exact iShr_in | (simp only [Int.toNat_natCast]; omega) | decide), if_pos (by first | omega | decide), bL_isRidden_424, ← hho]; rfl
    by_cases c5 : ho ≤ 0
    · rw [decide_eq_false (by omega), bL_isRidden_372 (by first | omega | exact xB_in _ | exact xB_01 _ | exact iAnd_in | exact iShr_in | (simp only [Int.toNat_natCast]; omega) | decide) (by first | omega | exact xB_in _ | exact xB_01 _ | exact iAnd_in | exact iShr_in | (simp only [Int.toNat_natCast]; omega) | decide) (by first | omega | exact xB_in _ | exact xB_01 _ | exact iAnd_in | exact iShr_in | (simp only [Int.toNat_natCast]; omega) | decide), if_neg (by first | omega | decide), bL_isRidden_389 (by first | omega | exact xB_in _ | exact xB_01 _ | exact iAnd_in | exact iShr_in | (simp only [Int.toNat_natCast]; omega) | decide), if_neg (by first | omega | decide), bL_isRidden_397 (by first | omega | exact xB_in _ | exact xB_01 _ | exact iAnd_in | exact iShr_in | (simp only [Int.toNat_natCast]; omega) | decide), if_neg (by first | omega | decide), bL_isRidden_402 (by first | omega | exact xB_in _ | exact xB_01 _ | exact iAnd_in | exact iShr_in | (simp only [Int.toNat_natCast]; omega) | decide), if_neg (by first | omega | decide), ← hho, bL_isRidden_408 (by first | omega | exact xB_in _ | exact xB_01 _ | exact iAnd_in | exact iShr_in | (simp only [Int.toNat_natCast]; omega) | decide), if_pos (by first | omega | decide), bL_isRidden_424]; rfl
    by_cases c6 : 11 ≤ ho
    · rw [decide_eq_false (by omega), bL_isRidden_372 (by first | omega | exact xB_in _ | exact xB_01 _ | exact iAnd_in | exact iShr_in | (simp only [Int.toNat_natCast]; omega) | decide) (by first | omega | exact xB_in _ | exact xB_01 _ | exact iAnd_in | exact iShr_in | (simp only [Int.toNat_natCast]; omega) | decide) (by first | omega | exact xB_in _ | exact xB_01 _ | exact iAnd_in | exact iShr_in | (simp only [Int.toNat_natCast]; omega) | decide), if_neg (by first | omega | decide), bL_isRidden_389 (by first | omega | exact xB_in _ | exact xB_01 _ | exact iAnd_in | exact iShr_in | (simp only [Int.toNat_natCast]; omega) | decide), if_neg (by first | omega | decide), bL_isRidden_397 (by first | omega | exact xB_in _ | exact xB_01 _ | exact iAnd_in | exact iShr_in | (simp only [Int.toNat_natCast]; omega) | decide), if_neg (by first | omega | decide), bL_isRidden_402 (by first | omega | exact xB_in _ | exact xB_01 _ | exact iAnd_in | exact iShr_in | (simp only [Int.toNat_natCast]; omega) | decide), if_neg (by first | omega | decide), ← hho, bL_isRidden_408 (by first | omega | exact xB_in _ | exact xB_01 _ | exact iAnd_in | exact iShr_in | (simp only [Int.toNat_natCast]; omega) | decide), if_neg (by first | omega | decide), bL_isRidden_413 (by first | omega | exact xB_in _ | exact xB_01 _ | exact iAnd_in | exact iShr_in | (simp only [Int.toNat_natCast]; omega) | decide), if_pos (by first | omega | decide), bL_isRidden_424]; rfl
    · rw [decide_eq_true (by omega), bL_isRidden_372 (by first | omega | exact xB_in _ | exact xB_01 _ | exact iAnd_in | exact iShr_in | (simp only [Int.toNat_natCast]; omega) | decide) (by first | omega | exact xB_in _ | exact xB_01 _ | exact iAnd_in | exact iShr_in | (simp only [Int.toNat_natCast]; omega) | decide) (by first | omega | exact xB_in _ | exact xB_01 _ | exact iAnd_in | exact iShr_in | (simp only [Int.toNat_natCast]; omega) | decide), if_neg (by first | omega | decide), bL_isRidden_389 (by first | omega | exact xB_in _ | exact xB_01 _ | exact iAnd_in | exact iShr_in | (simp only [Int.toNat_natCast]; omega) | decide), if_neg (by first | omega | decide), bL_isRidden_397 (by first | omega | exact xB_in _ | exact xB_01 _ | exact iAnd_in | exact iShr_in | (simp only [Int.toNat_natCast]; omega) | decide), if_neg (by first | omega | decide), bL_isRidden_402 (by first | omega | exact xB_in _ | exact xB_01 _ | exact iAnd_in | exact iShr_in | (simp only [Int.toNat_natCast]; omega) | decide), if_neg (by first | omega | decide), ← hho, bL_isRidden_408 (by first | omega | exact xB_in _ | exact xB_01 _ | exact iAnd_in | exact iShr_in | (simp only [Int.toNat_natCast]; omega) | decide), if_neg (by first | omega | decide), bL_isRidden_413 (by first | omega | exact xB_in _ | exact xB_01 _ | exact iAnd_in | exact iShr_in | (simp only [Int.toNat_natCast]; omega) | decide), if_neg (by first | omega | decide), bL_isRidden_420]; rfl
  have gait : ∀ (sa : Nat) (we : Int), sa < 2 → (0 ≤ we ∧ we ≤ 1001) → ∃ ga ho : Int, (ga = 0 ∨ ga = 4 ∨ ga = 1 + (sa : Int)) ∧ (0 ≤ ho ∧ ho ≤ 11) ∧
      XR sc d 108 343 [some (.ref 0), some (.ref 61), some (.ref 62), some (.ref 63), some (xw 3), some (xw one), some (xw two), some (xw hh), some (xw ss), some (xw sa), none, none, none, none, none, none, none, none, none, none] [xw we] (T, z, xv V, J, R) =
      XR sc d 108 425 [some (.ref 0), some (.ref 61), some (.ref 62), some (.ref 63), some (xw 3), some (xw one), some (xw two), some (xw hh), some (xw ss), some (xw sa), some (xw we), some (xw ga), some (xw ho), none, none, none, none, none, none, none] [xw (xB (decide ((1 ≤ we ∧ we ≤ 1000) ∧ (1 ≤ ga ∧ ga ≤ 3) ∧ (1 ≤ ho ∧ ho ≤ 10))))] (T, z, xv V, J, R) := by
    intro sa we hsa hwe
    by_cases c : one / 13 % 9 = 0
    · refine ⟨one / 117 % 2 * 4, one / 13 % 12, by omega, by omega, ?_⟩
      rw [bL_isRidden_343 (by first | omega | exact xB_in _ | exact xB_01 _ | exact iAnd_in | exact iShr_in | (simp only [Int.toNat_natCast]; omega) | decide) (by first | omega | exact xB_in _ | exact xB_01 _ | exact iAnd_in | exact iShr_in | (simp only [Int.toNat_natCast]; omega) | decide) (by first | omega | exact xB_in _ | exact xB_01 _ | exact iAnd_in | exact iShr_in | (simp only [Int.toNat_natCast]; omega) | decide), if_pos (by first | omega | decide), bL_isRidden_356 (by first | omega | exact xB_in _ | exact xB_01 _ | exact iAnd_in | exact iShr_in | (simp only [Int.toNat_natCast]; omega) | decide) (by first | omega | exact xB_in _ | exact xB_01 _ | exact iAnd_in | exact iShr_in | (simp only [Int.toNat_natCast]; omega) | decide), right sa we (one / 117 % 2 * 4) (one / 13 % 12) hwe (by omega) rfl]
    · refine ⟨1 + (sa : Int), one / 13 % 12, by omega, by omega, ?_⟩
      rw [bL_isRidden_343 (by first | omega | exact xB_in _ | exact xB_01 _ | exact iAnd_in | exact iShr_in | (simp only [Int.toNat_natCast]; omega) | decide) (by first | omega | exact xB_in _ | exact xB_01 _ | exact iAnd_in | exact iShr_in | (simp only [Int.toNat_natCast]; omega) | decide) (by first | omega | exact xB_in _ | exact xB_01 _ | exact iAnd_in | exact iShr_in | (simp only [Int.toNat_natCast]; omega) | decide), if_neg (by first | omega | decide), bL_isRidden_368, right sa we (1 + (sa : Int)) (one / 13 % 12) hwe (by omega) rfl]
  obtain ⟨sa, hsa⟩ : ∃ sa : Nat, two % 2 = sa := ⟨(two % 2).toNat, by omega⟩
  by_cases c : two / 2 % 9 = 0
  · obtain ⟨ga, ho, g1, g2, g3⟩ := gait sa (two / 18 % 2 * 1001) (by omega) (by omega)
    exact ⟨sa, two / 18 % 2 * 1001, ga, ho, by omega, by omega, g1, g2, by rw [bL_isRidden_296 (by first | omega | exact xB_in _ | exact xB_01 _ | exact iAnd_in | exact iShr_in | (simp only [Int.toNat_natCast]; omega) | decide), if_pos (by first | omega | decide), bL_isRidden_302 (by first | omega | exact xB_in _ | exact xB_01 _ | exact iAnd_in | exact iShr_in | (simp only [Int.toNat_natCast]; omega) | decide) (by first | omega | exact xB_in _ | exact xB_01 _ | exact iAnd_in | exact iShr_in | (simp only [Int.toNat_natCast]; omega) | decide) (by first | omega | exact xB_in _ | exact xB_01 _ | exact iAnd_in | exact iShr_in | (simp only [Int.toNat_natCast]; omega) | decide), if_pos (by first | omega | decide), bL_isRidden_318 (by first | omega | exact xB_in _ | exact xB_01 _ | exact iAnd_in | exact iShr_in | (simp only [Int.toNat_natCast]; omega) | decide) (by first | omega | exact xB_in _ | exact xB_01 _ | exact iAnd_in | exact iShr_in | (simp only [Int.toNat_natCast]; omega) | decide), hsa, g3]⟩
  · obtain ⟨ga, ho, g1, g2, g3⟩ := gait sa (20 + two / 2 % 500) (by omega) (by omega)
    exact ⟨sa, 20 + two / 2 % 500, ga, ho, by omega, by omega, g1, g2, by rw [bL_isRidden_296 (by first | omega | exact xB_in _ | exact xB_01 _ | exact iAnd_in | exact iShr_in | (simp only [Int.toNat_natCast]; omega) | decide), if_pos (by first | omega | decide), bL_isRidden_302 (by first | omega | exact xB_in _ | exact xB_01 _ | exact iAnd_in | exact iShr_in | (simp only [Int.toNat_natCast]; omega) | decide) (by first | omega | exact xB_in _ | exact xB_01 _ | exact iAnd_in | exact iShr_in | (simp only [Int.toNat_natCast]; omega) | decide) (by first | omega | exact xB_in _ | exact xB_01 _ | exact iAnd_in | exact iShr_in | (simp only [Int.toNat_natCast]; omega) | decide), if_neg (by first | omega | decide), bL_isRidden_332 (by first | omega | exact xB_in _ | exact xB_01 _ | exact iAnd_in | exact iShr_in | (simp only [Int.toNat_natCast]; omega) | decide) (by first | omega | exact xB_in _ | exact xB_01 _ | exact iAnd_in | exact iShr_in | (simp only [Int.toNat_natCast]; omega) | decide), hsa, g3]⟩
/-- the class's answer against the law's -/
theorem ride_end {a b : Bool} {hh n c : Int} {o0 o1 o2 o3 o4 o5 o6 o8 o9 o10 o11 o12 o16 o17 o18 o19 : Option Value} (hh1 : hh = 6 ∨ hh = 0 ∨ hh = 1) (hn : 0 ≤ n ∧ n ≤ 7) (hc : c = if hh = 6 then -3000000 else if a = false then -2000000 else if b = false then -1000000 else n) :
    XR sc d 108 707 [o0, o1, o2, o3, o4, o5, o6, some (xw hh), o8, o9, o10, o11, o12, some (xw (xB a)), some (xw (xB b)), some (xw n), o16, o17, o18, o19] [xw c] (T, z, xv V, J, R) = some (.inl (some (xw 1)), (T, z, xv V, J, R)) := by
  by_cases c6 : hh = 6
  · rw [if_pos c6] at hc; subst hc; rw [bL_isRidden_707 (by first | omega | exact xB_in _ | exact xB_01 _ | exact iAnd_in | exact iShr_in | (simp only [Int.toNat_natCast]; omega) | decide), if_pos (by first | omega | decide), bL_isRidden_714, bL_isRidden_741 (by first | omega | exact xB_in _ | exact xB_01 _ | exact iAnd_in | exact iShr_in | (simp only [Int.toNat_natCast]; omega) | decide) (by first | omega | exact xB_in _ | exact xB_01 _ | exact iAnd_in | exact iShr_in | (simp only [Int.toNat_natCast]; omega) | decide), if_pos (by first | omega | decide), bL_isRidden_744, bL_isRidden_749 (by first | omega | exact xB_in _ | exact xB_01 _ | exact iAnd_in | exact iShr_in | (simp only [Int.toNat_natCast]; omega) | decide)]
  · rw [if_neg c6] at hc
    cases a with
    | false => rw [if_pos rfl] at hc; subst hc; rw [bL_isRidden_707 (by first | omega | exact xB_in _ | exact xB_01 _ | exact iAnd_in | exact iShr_in | (simp only [Int.toNat_natCast]; omega) | decide), if_neg (by first | omega | decide), bL_isRidden_719 (by first | omega | exact xB_in _ | exact xB_01 _ | exact iAnd_in | exact iShr_in | (simp only [Int.toNat_natCast]; omega) | decide), if_pos (by first | omega | decide), bL_isRidden_724, bL_isRidden_741 (by first | omega | exact xB_in _ | exact xB_01 _ | exact iAnd_in | exact iShr_in | (simp only [Int.toNat_natCast]; omega) | decide) (by first | omega | exact xB_in _ | exact xB_01 _ | exact iAnd_in | exact iShr_in | (simp only [Int.toNat_natCast]; omega) | decide), if_pos (by first | omega | decide), bL_isRidden_744, bL_isRidden_749 (by first | omega | exact xB_in _ | exact xB_01 _ | exact iAnd_in | exact iShr_in | (simp only [Int.toNat_natCast]; omega) | decide)]
    | true =>
      rw [if_neg (by decide)] at hc
      cases b with
      | false => rw [if_pos rfl] at hc; subst hc; rw [bL_isRidden_707 (by first | omega | exact xB_in _ | exact xB_01 _ | exact iAnd_in | exact iShr_in | (simp only [Int.toNat_natCast]; omega) | decide), if_neg (by first | omega | decide), bL_isRidden_719 (by first | omega | exact xB_in _ | exact xB_01 _ | exact iAnd_in | exact iShr_in | (simp only [Int.toNat_natCast]; omega) | decide), if_neg (by first | omega | decide), bL_isRidden_729 (by first | omega | exact xB_in _ | exact xB_01 _ | exact iAnd_in | exact iShr_in | (simp only [Int.toNat_natCast]; omega) | decide), if_pos (by first | omega | decide), bL_isRidden_739, bL_isRidden_741 (by first | omega | exact xB_in _ | exact xB_01 _ | exact iAnd_in | exact iShr_in | (simp only [Int.toNat_natCast]; omega) | decide) (by first | omega | exact xB_in _ | exact xB_01 _ | exact iAnd_in | exact iShr_in | (simp only [Int.toNat_natCast]; omega) | decide), if_pos (by first | omega | decide), bL_isRidden_744, bL_isRidden_749 (by first | omega | exact xB_in _ | exact xB_01 _ | exact iAnd_in | exact iShr_in | (simp only [Int.toNat_natCast]; omega) | decide)]
      | true => rw [if_neg (by decide)] at hc; subst hc; rw [bL_isRidden_707 (by first | omega | exact xB_in _ | exact xB_01 _ | exact iAnd_in | exact iShr_in | (simp only [Int.toNat_natCast]; omega) | decide), if_neg (by first | omega | decide), bL_isRidden_719 (by first | omega | exact xB_in _ | exact xB_01 _ | exact iAnd_in | exact iShr_in | (simp only [Int.toNat_natCast]; omega) | decide), if_neg (by first | omega | decide), bL_isRidden_729 (by first | omega | exact xB_in _ | exact xB_01 _ | exact iAnd_in | exact iShr_in | (simp only [Int.toNat_natCast]; omega) | decide), if_neg (by first | omega | decide), bL_isRidden_734, bL_isRidden_741 (by first | omega | exact xB_in _ | exact xB_01 _ | exact iAnd_in | exact iShr_in | (simp only [Int.toNat_natCast]; omega) | decide) (by first | omega | exact xB_in _ | exact xB_01 _ | exact iAnd_in | exact iShr_in | (simp only [Int.toNat_natCast]; omega) | decide), if_pos (by first | omega | decide), bL_isRidden_744, bL_isRidden_749 (by first | omega | exact xB_in _ | exact xB_01 _ | exact iAnd_in | exact iShr_in | (simp only [Int.toNat_natCast]; omega) | decide)]
theorem ride_end2 {a b : Bool} {hh n c va vb : Int} {o0 o1 o2 o3 o4 o5 o6 o8 o9 o10 o11 o12 o16 o17 o18 o19 : Option Value} (hva : va = xB a) (hvb : vb = xB b) (hh1 : hh = 6 ∨ hh = 0 ∨ hh = 1) (hn : 0 ≤ n ∧ n ≤ 7) (hc : c = if hh = 6 then -3000000 else if a = false then -2000000 else if b = false then -1000000 else n) :
    XR sc d 108 707 [o0, o1, o2, o3, o4, o5, o6, some (xw hh), o8, o9, o10, o11, o12, some (xw va), some (xw vb), some (xw n), o16, o17, o18, o19] [xw c] (T, z, xv V, J, R) = some (.inl (some (xw 1)), (T, z, xv V, J, R)) := by
  subst hva hvb
  exact ride_end hh1 hn hc
theorem r_ride {i : Nat} {one two : Int} (hI : qInv i T z V R) (h1 : 0 ≤ one ∧ one < 60000) (h2 : 0 ≤ two ∧ two < 60000) (hi : 14 ≤ i ∧ i ≤ 63) : qDone (X sc 11 108 [.ref 0, .ref 61, .ref 62, .ref 63, xw 3, xw one, xw two] (T, z, xv V, J, R)) i z := by
  obtain ⟨hT, hRo, hH, hS, hE, hA⟩ := hI.1
  have hz := hI.2.1
  have hor := hI.2.2.2.2
  obtain ⟨a1, a2, a3, a4, a5, a6, a7, a8, a9⟩ := id hor
  obtain ⟨hh, ss, b1, b2, b3⟩ := rid_start (sc := sc) (d := 10) (T := T) (z := z) (V := V) (J := J) (R := R) (what := 3) (by decide) h1 h2
  rw [if_pos (by decide)] at b3
  obtain ⟨sa, we, ga, ho, s1, s2, s3, s4, s5⟩ := ride_start (sc := sc) (d := 10) (T := T) (z := z) (V := V) (J := J) (R := R) (hh := hh) (ss := ss) h1 h2
  rw [b3, s5]
  clear b3 s5
  have sore : ∀ h j, h < 2 → j < 7 → 0 ≤ V 61 (42 + 7 * h + j) ∧ V 61 (42 + 7 * h + j) ≤ 200000000 := fun h j hh hj => by
    have b := a7.1 (7 * h + j) (by omega)
    rw [show 42 + (7 * h + j) = 42 + 7 * h + j by omega] at b
    omega
  have Tr : xTr T R := hT
  have sV : ∀ h : Int, (h = 0 ∨ h = 1) → ∀ j, j < 7 → -2147483648 ≤ V (12 + 4 * h.toNat) j ∧ V (12 + 4 * h.toNat) j ≤ 2147483647 := fun h hh j hj => by
    have e := (a1 h.toNat j (by omega) hj).2
    have b := sore h.toNat j (by omega) hj
    omega
  -- a refused call
  have bad : ∀ (a b : Bool) (e : Nat), (e = 8 ∨ e = 9 ∨ e = 10) → pK e = (if hh = 6 then -3000000 else if a = false then -2000000 else if b = false then -1000000 else 0) → X sc 9 73 [.ref 0, xw hh, xw sa, xw 2, xw we, xw ga, xw ho] (T, z, xv V, J, R) = xTw e T z V J R →
      qDone (XR sc 10 108 690 [some (.ref 0), some (.ref 61), some (.ref 62), some (.ref 63), some (xw 3), some (xw one), some (xw two), some (xw hh), some (xw ss), some (xw sa), some (xw we), some (xw ga), some (xw ho), some (xw (xB a)), some (xw (xB b)), some (xw 0), none, none, none, none] [] (T, z, xv V, J, R)) i z := by
    intro a b e he hc cls
    rw [bL_isRidden_690, dx_ride hT.1 he cls, xret_v, ride_end b1 (by decide) hc]
    refine ⟨_, _, _, _, _, rfl, qInv_k hI (Nat.le_succ i) (qKeep_x hz (fun _ _ _ => rfl)), ?_, ?_⟩
    · show z.1 + 1 ≤ _; omega
    · show z.2 + 6 ≤ _; omega
  by_cases c6 : hh = 6
  · have cls : X sc 9 73 [.ref 0, xw hh, xw sa, xw 2, xw we, xw ga, xw ho] (T, z, xv V, J, R) = xTw 10 T z V J R := by
      rw [eX6_ride, bX6_ride_0 hT.1, s_horse hT hH (by omega), if_neg (by omega), xret_w w_73]
    have go : ∀ b : Bool, XR sc 10 108 425 [some (.ref 0), some (.ref 61), some (.ref 62), some (.ref 63), some (xw 3), some (xw one), some (xw two), some (xw hh), some (xw ss), some (xw sa), some (xw we), some (xw ga), some (xw ho), none, none, none, none, none, none, none] [xw (xB b)] (T, z, xv V, J, R) = XR sc 10 108 690 [some (.ref 0), some (.ref 61), some (.ref 62), some (.ref 63), some (xw 3), some (xw one), some (xw two), some (xw hh), some (xw ss), some (xw sa), some (xw we), some (xw ga), some (xw ho), some (xw (xB b)), some (xw (xB false)), some (xw 0), none, none, none, none] [] (T, z, xv V, J, R) := by
      intro b
      rw [bL_isRidden_425 (by first | omega | exact xB_in _ | exact xB_01 _ | exact iAnd_in | exact iShr_in | (simp only [Int.toNat_natCast]; omega) | decide), if_pos (by first | omega | decide), bL_isRidden_452, bL_isRidden_453 (by first | omega | exact xB_in _ | exact xB_01 _ | exact iAnd_in | exact iShr_in | (simp only [Int.toNat_natCast]; omega) | decide), if_pos (by first | omega | decide)]; rfl
    rw [go]
    exact bad _ false 10 (by decide) (by rw [if_pos c6]; rfl) cls
  · obtain ⟨h, rfl⟩ : ∃ m : Nat, hh = m := ⟨hh.toNat, by omega⟩
    have hh2 : h < 2 := by omega
    have chk := s_ride_checks (sc := sc) (d := 1) (z := z) (V := V) (J := J) (h := (h : Int)) (s := (sa : Int)) (r := 2) (w := we) (g := ga) (hr := ho) hT hH hS (sV h (by omega)) (by omega) (by omega) (by omega) (by decide) (by omega) (by omega) (by omega)
    rw [if_pos (by omega)] at chk
    by_cases c1 : (1 ≤ we ∧ we ≤ 1000) ∧ (1 ≤ ga ∧ ga ≤ 3) ∧ (1 ≤ ho ∧ ho ≤ 10)
    · rw [if_pos c1] at chk
      have la := l_isLame (sc := sc) (d := 9) (z := z) (V := V) (J := J) (R := R) (h := h) hA hh2 (fun k hk => by have := sore h k hh2 hk; omega)
      have el : xLa V (12 + 4 * h) 7 0 = xLa (pSo V h) 0 7 0 := xLa_row 7 0 (fun j _ hj => (a1 h j hh2 (by omega)).2)
      rw [Int.toNat_natCast, el] at chk
      rw [decide_eq_true c1, bL_isRidden_425 (by first | omega | exact xB_in _ | exact xB_01 _ | exact iAnd_in | exact iShr_in | (simp only [Int.toNat_natCast]; omega) | decide), if_neg (by first | omega | decide), bL_isRidden_434 (by first | omega | exact xB_in _ | exact xB_01 _ | exact iAnd_in | exact iShr_in | (simp only [Int.toNat_natCast]; omega) | decide), if_neg (by first | omega | decide), bL_isRidden_439, la, xret_v]
      cases hla : xLa (pSo V h) 0 7 0 with
      | true =>
        rw [hla, if_neg (fun q => by cases q.1)] at chk
        rw [bL_isRidden_445 (by first | omega | exact xB_in _ | exact xB_01 _ | exact iAnd_in | exact iShr_in | (simp only [Int.toNat_natCast]; omega) | decide), if_neg (by first | omega | decide), bL_isRidden_452, bL_isRidden_453 (by first | omega | exact xB_in _ | exact xB_01 _ | exact iAnd_in | exact iShr_in | (simp only [Int.toNat_natCast]; omega) | decide), if_pos (by first | omega | decide)]
        exact bad true false 9 (by decide) (by rw [if_neg c6, if_neg (by decide), if_pos rfl]; rfl) chk
      | false =>
        rw [hla, if_pos ⟨rfl, by omega⟩] at chk
        have egg : ga = 1 + (sa : Int) := by omega
        have ewg : 1 ≤ we * ga ∧ we * ga ≤ 3000 := by
          rcases (show ga = 1 ∨ ga = 2 ∨ ga = 3 by omega) with rfl | rfl | rfl <;> omega
        have gap : ∀ j, j < 7 → -120 ≤ pGa V h sa j ∧ pGa V h sa j ≤ 1000 := fun j hj => by
          have x1 := a1 h j hh2 hj
          have x2 := a2 sa j s1 hj
          have x3 := a3.1 h j (by omega) hj
          have x4 := a3.2 sa j (by omega) hj
          unfold pGa
          omega
        obtain ⟨q, q1, q2, q3, q4⟩ := l_depth (sc := sc) (d := 9) (z := z) (V := V) (J := J) (R := R) (h := h) (s := sa) (w := we * ga) hA hh2 s1 gap ewg
        rw [bL_isRidden_445 (by first | omega | exact xB_in _ | exact xB_01 _ | exact iAnd_in | exact iShr_in | (simp only [Int.toNat_natCast]; omega) | decide), if_pos (by first | omega | decide), bL_isRidden_448, bL_isRidden_453 (by first | omega | exact xB_in _ | exact xB_01 _ | exact iAnd_in | exact iShr_in | (simp only [Int.toNat_natCast]; omega) | decide), if_neg (by first | omega | decide), bL_isRidden_463, q4, xret_v, bL_isRidden_476]
        obtain ⟨V1, o17', o18', o19', j1, j2, j3, j4, j5⟩ := ride_lp1 (sc := sc) (d := 9) (T := T) (z := z) (J := J) (R := R) (h := h) (s := sa) (g := ga) (hr := ho) (dp := q) (V0 := V) (o0 := some (.ref 0)) (o3 := some (.ref 63)) (o4 := some (xw 3)) (o5 := some (xw one)) (o6 := some (xw two)) (o8 := some (xw ss)) (o10 := some (xw we)) (o13 := some (xw (xB true))) (o14 := some (xw 1)) hA hh2 s1 egg c1.2.2 ⟨q1, q2⟩ (fun j hj => by have := gap j hj; omega) 7 0 V 0 none none rfl (by decide) (fun _ _ => rfl)
        have j1 : XR sc 10 108 481 [some (.ref 0), some (.ref 61), some (.ref 62), some (.ref 63), some (xw 3), some (xw one), some (xw two), some (xw h), some (xw ss), some (xw sa), some (xw we), some (xw ga), some (xw ho), some (xw (xB true)), some (xw 1), some (xw 0), some (xw q), some (xw 0), none, none] [] (T, z, xv V, J, R) = _ := j1
        rw [j1, bL_isRidden_609]
        have eG1 : ∀ j, j < 7 → pGa V1 h sa j = pGa V h sa j := fun j hj => by unfold pGa; rw [j3 _ (by omega), j3 _ (by omega), j3 _ (by omega)]
        obtain ⟨V2, p17', p18', k1, k2, k3, k4⟩ := ride_lp2 (sc := sc) (d := 9) (T := T) (z := z) (J := J) (R := R) (h := h) (s := sa) (dp := q) (G := pGa V h sa) (o0 := some (.ref 0)) (o2 := some (.ref 62)) (o3 := some (.ref 63)) (o4 := some (xw 3)) (o5 := some (xw one)) (o6 := some (xw two)) (o8 := some (xw ss)) (o10 := some (xw we)) (o11 := some (xw ga)) (o12 := some (xw ho)) (o13 := some (xw (xB true))) (o14 := some (xw 1)) (o15 := some (xw (xRm (pGa V h sa) q 7 0 0))) hA hh2 s1 ⟨q1, q2⟩ (fun j hj => by have := gap j hj; omega) 7 0 V1 o18' o19' rfl (fun j _ hj => by
          have x2 := a2 sa j s1 hj
          have x4 := a3.2 sa j (by omega) hj
          refine ⟨eG1 j hj, ?_⟩
          rw [j3 _ (by omega)]; omega)
        have k1 : XR sc 10 108 612 [some (.ref 0), some (.ref 61), some (.ref 62), some (.ref 63), some (xw 3), some (xw one), some (xw two), some (xw h), some (xw ss), some (xw sa), some (xw we), some (xw ga), some (xw ho), some (xw (xB true)), some (xw 1), some (xw (xRm (pGa V h sa) q 7 0 0)), some (xw q), some (xw 0), o18', o19'] [] (T, z, xv V1, J, R) = _ := k1
        have hrm := xRm_in (G := pGa V h sa) (dp := q) 7 0 0
        rw [k1, bL_isRidden_683 (by rw [pA63 hA]) (by rw [pA63 hA]; omega), bL_isRidden_690]
        -- the class's call, behind the law's rows
        have f0 : ∀ b, b < 61 → xup2 V2 63 2 (V2 63 2 + 1) b = V b := fun b hb => by rw [xup2_o (by omega), k2 b (by omega), j2 b (by omega) (by omega)]
        have f61 : ∀ j, xup2 V2 63 2 (V2 63 2 + 1) 61 j = V2 61 j := fun j => by rw [xup2_o (by decide)]
        have f62 : ∀ j, xup2 V2 63 2 (V2 63 2 + 1) 62 j = V1 62 j := fun j => by rw [xup2_o (by decide), k2 62 (by decide)]
        have f632 : xup2 V2 63 2 (V2 63 2 + 1) 63 2 = V 63 2 + 1 := by rw [xup2_i, k2 63 (by decide), j2 63 (by decide) (by decide)]
        have f63 : ∀ b j, 61 < b → ¬ b = 62 → ¬ (b = 63 ∧ j = 2) → xup2 V2 63 2 (V2 63 2 + 1) b j = V b j := fun b j hb hb2 hj => by
          by_cases e : b = 63
          · subst e; rw [xup2_j (by omega), k2 63 (by decide), j2 63 (by decide) (by decide)]
          · rw [xup2_o e, k2 b (by omega), j2 b (by omega) hb2]
        revert f0 f61 f62 f632 f63
        generalize xup2 V2 63 2 (V2 63 2 + 1) = W
        intro f0 f61 f62 f632 f63
        have bdW : xBd W := by
          refine ⟨fun h k x y => ?_, fun s k x y => ?_⟩
          · rw [f0 _ (by omega)]; exact a3.1 h k x y
          · rw [f0 _ (by omega), f0 _ (by omega)]; exact a3.2 s k x y
        have chkW := s_ride_checks (sc := sc) (d := 1) (z := z) (V := W) (J := J) (R := R) (h := (h : Int)) (s := (sa : Int)) (r := 2) (w := we) (g := ga) (hr := ho) hT hH hS (fun j hj => by rw [f0 _ (by omega)]; exact sV h (by omega) j hj) (by rw [f0 0 (by decide)]; omega) (by omega) (by omega) (by decide) (by omega) (by omega) (by omega)
        have elW : xLa W (12 + 4 * h) 7 0 = false := by rw [← hla, ← el]; exact xLa_row 7 0 (fun j _ _ => by rw [f0 _ (by omega)])
        rw [if_pos (by omega), if_pos c1, Int.toNat_natCast, if_pos ⟨elW, by rw [f0 0 (by decide)]; omega⟩] at chkW
        obtain ⟨q', g1, g2, g3, g4⟩ := ride_go (sc := sc) (d := 2) (z := z) (V := W) (J := J) (R := R) (h := (h : Int)) (s := (sa : Int)) (r := 2) (w := we) (g := ga) (hr := ho) (o9 := none) (o10 := none) (o11 := none) (o12 := none) (o13 := none) hT hE hH hS bdW (by omega) (by omega) (by decide) c1.1 c1.2.1 c1.2.2
        rw [Int.toNat_natCast, Int.toNat_natCast] at g4
        have cls := chkW.trans g4
        have eGW : ∀ j, j < 7 → xMg (xup2 W 0 8 (W 0 8 + 1)) (h : Int) (sa : Int) 54 j = pGa V h sa j := fun j hj => by
          rw [xMg_at hj, Int.toNat_natCast, Int.toNat_natCast, xup2_o (by omega), xup2_o (by omega), xup2_o (by omega), f0 _ (by omega), f0 _ (by omega), f0 _ (by omega), (a1 h j hh2 hj).1, (a2 sa j s1 hj).1, (a2 sa j s1 hj).2]
          rfl
        have eq : q' = q := xDe_one (xDe_e eGW g3) q3
        subst eq
        have en : xRm (xMg (xup2 W 0 8 (W 0 8 + 1)) (h : Int) (sa : Int) 54) q' 7 0 0 = xRm (pGa V h sa) q' 7 0 0 := xRm_e 7 0 0 (fun j _ hj => eGW j (by omega))
        rw [en] at cls
        obtain ⟨g', hg'⟩ : ∃ g' : Nat, ga = g' := ⟨ga.toNat, by omega⟩
        rw [hg'] at cls
        obtain ⟨l1, l2, l3, l4⟩ := xRl_pt (so := 12 + 4 * h) (bl := 13 + 4 * h) (fl := 37 + 3 * sa) (s := sa) (r := 2) (g := g') (hr := ho) (dp := q') (G := xMg (xup2 W 0 8 (W 0 8 + 1)) (h : Int) (sa : Int) 54) (by omega) (by omega) (by omega) (by omega) (by omega) (by decide) (by omega) 7 0 (xMg (xup2 W 0 8 (W 0 8 + 1)) (h : Int) (sa : Int)) rfl rfl
        have eam : ∀ j, j < 7 → rAm (xMg (xup2 W 0 8 (W 0 8 + 1)) (h : Int) (sa : Int) 54) q' ho j = rAm (pGa V h sa) q' ho j := fun j hj => by unfold rAm; rw [eGW j hj]
        have edx : ∀ j f, j < 7 → rDx (xMg (xup2 W 0 8 (W 0 8 + 1)) (h : Int) (sa : Int) 54) q' j f = rDx (pGa V h sa) q' j f := fun j f hj => by unfold rDx; rw [eGW j hj]
        have m0 : ∀ b, ¬ b = 0 → ¬ b = 54 → xMg (xup2 W 0 8 (W 0 8 + 1)) (h : Int) (sa : Int) b = W b := fun b x y => by rw [xMg_ne y, xup2_o x]
        have m8 : xMg (xup2 W 0 8 (W 0 8 + 1)) (h : Int) (sa : Int) 0 8 = V 0 8 + 1 := by rw [xMg_ne (by decide), xup2_i, f0 0 (by decide)]
        have m9 : ∀ j, ¬ j = 8 → xMg (xup2 W 0 8 (W 0 8 + 1)) (h : Int) (sa : Int) 0 j = V 0 j := fun j hj => by rw [xMg_ne (by decide), xup2_j hj, f0 0 (by decide)]
        rw [show (2 : Int) = ((2 : Nat) : Int) from rfl] at cls
        rw [dv_ride (x4 := 2) hT.1 (by rw [hg']; exact cls), xret_v, ride_end2 (a := true) (b := true) (va := xB true) (vb := 1) rfl rfl b1 (by omega) (by rw [if_neg c6, if_neg (by decide), if_neg (by decide)])]
        refine ⟨_, _, _, _, _, rfl, ?_, by omega, by omega⟩
        revert l1 l2 l3 l4
        generalize xRl (12 + 4 * h) (13 + 4 * h) (37 + 3 * sa) (sa : Int) ((2 : Nat) : Int) (g' : Int) ho q' 7 0 (xMg (xup2 W 0 8 (W 0 8 + 1)) (h : Int) (sa : Int)) = Z
        intro l1 l2 l3 l4
        have zo : ∀ b, ¬ b = 12 + 4 * h → ¬ b = 13 + 4 * h → ¬ b = 37 + 3 * sa → ¬ b = 0 → ¬ b = 54 → Z b = W b := fun b x1 x2 x3 x4 x5 => by rw [l1 b x1 x2 x3, m0 b x4 x5]
        have am : ∀ j, j < 7 → 0 ≤ rAm (pGa V h sa) q' ho j ∧ rAm (pGa V h sa) q' ho j ≤ 240000 := fun j hj => rAm_in c1.2.2 ⟨q1, q2⟩ (by have := gap j hj; omega)
        have z61 : ∀ h' j, h' < 2 → j < 7 → Z 61 (42 + 7 * h' + j) = V 61 (42 + 7 * h' + j) + if h' = h then rAm (pGa V h sa) q' ho j else 0 := fun h' j x y => by
          rw [zo 61 (by omega) (by omega) (by omega) (by decide) (by decide), f61, k3 _ (by omega), j4 h' j x y]
          congr 1
          by_cases e : h' = h
          · rw [if_pos ⟨e, Nat.zero_le _⟩, if_pos e]
          · rw [if_neg (fun q => e q.1), if_neg e]
        have z61o : ∀ j, j < 28 → Z 61 j = V 61 j := fun j hj => by rw [zo 61 (by omega) (by omega) (by omega) (by decide) (by decide), f61, k3 _ (by omega), j3 _ (by omega)]
        have z61f : ∀ s' j, s' < 2 → j < 7 → Z 61 (28 + 7 * s' + j) = V 61 (28 + 7 * s' + j) - if s' = sa then rDx (pGa V h sa) q' j (V 61 (28 + 7 * s' + j)) else 0 := fun s' j x y => by
          rw [zo 61 (by omega) (by omega) (by omega) (by decide) (by decide), f61]
          by_cases e : s' = sa
          · subst e; rw [k4 j y, if_pos (Nat.zero_le _), if_pos rfl, j3 _ (by omega)]
          · rw [k3 _ (by omega), if_neg e, j3 _ (by omega), Int.sub_zero]
        have z62 : ∀ e h' j s', e < 2 → h' < 2 → j < 7 → s' < 2 → Z 62 (28 * e + 14 * h' + 2 * j + s') = V 62 (28 * e + 14 * h' + 2 * j + s') + if h' = h ∧ s' = sa then rAm (pGa V h sa) q' ho j else 0 := fun e h' j s' w x y zz => by
          rw [zo 62 (by omega) (by omega) (by omega) (by decide) (by decide), f62, j5 e h' j s' w x y zz]
          congr 1
          by_cases c : h' = h ∧ s' = sa
          · rw [if_pos ⟨c, Nat.zero_le _⟩, if_pos c]
          · rw [if_neg (fun q => c q.1), if_neg c]
        have z63 : Z 63 2 = V 63 2 + 1 := by rw [zo 63 (by omega) (by omega) (by omega) (by decide) (by decide), f632]
        have fb : ∀ j, j < 7 → 0 ≤ V 61 (28 + 7 * sa + j) ∧ V 61 (28 + 7 * sa + j) ≤ 20 := fun j hj => by
          have x2 := a2 sa j s1 hj
          have x4 := a3.2 sa j (by omega) hj
          omega
        have dxb : ∀ j f, 0 ≤ f → 0 ≤ rDx (pGa V h sa) q' j f ∧ rDx (pGa V h sa) q' j f ≤ f := fun j f hf => by
          unfold rDx
          split
          · omega
          · split <;> omega
        refine qInv_hor hI (Nat.le_succ i) (fun b hb j x y => ?_) ⟨fun h' k x y => ?_, fun s' k x y => ?_, ⟨fun h' k x y => ?_, fun s' k x y => ?_⟩, fun h' k x x2 y => ?_, fun h' k x y => ?_, ?_, ⟨fun k x => ?_, fun k x => ?_⟩, fun h' j x y => ?_, ?_⟩
        · by_cases e0 : b = 0
          · subst e0; rw [l1 0 (by omega) (by omega) (by omega), m9 j (by omega)]
          · rw [zo b (by omega) (by omega) (by omega) e0 (by omega)]
            by_cases e1 : b < 61
            · rw [f0 b e1]
            · exact f63 b j (by omega) (by omega) y
        · rw [zo (11 + 4 * h') (by omega) (by omega) (by omega) (by omega) (by omega), f0 _ (by omega), z61o _ (by omega), z61 h' k x y]
          refine ⟨(a1 h' k x y).1, ?_⟩
          by_cases e : h' = h
          · subst e
            rw [l2 k y, if_pos (Nat.zero_le _), if_pos rfl, eam k y, m0 _ (by omega) (by omega), f0 _ (by omega), (a1 h' k x y).2]
          · rw [zo (12 + 4 * h') (by omega) (by omega) (by omega) (by omega) (by omega), f0 _ (by omega), if_neg e, Int.add_zero]; exact (a1 h' k x y).2
        · rw [zo (36 + 3 * s') (by omega) (by omega) (by omega) (by omega) (by omega), f0 _ (by omega), z61o _ (by omega), z61f s' k x y]
          refine ⟨(a2 s' k x y).1, ?_⟩
          by_cases e : s' = sa
          · subst e
            rw [l3 k y, if_pos (Nat.zero_le _), if_pos rfl, edx k _ y, m0 _ (by omega) (by omega), f0 _ (by omega), (a2 s' k x y).2]
          · rw [zo (37 + 3 * s') (by omega) (by omega) (by omega) (by omega) (by omega), f0 _ (by omega), if_neg e, Int.sub_zero]; exact (a2 s' k x y).2
        · rw [zo (11 + 4 * h') (by omega) (by omega) (by omega) (by omega) (by omega), f0 _ (by omega)]; exact a3.1 h' k x y
        · rw [zo (36 + 3 * s') (by omega) (by omega) (by omega) (by omega) (by omega), f0 _ (by omega)]
          refine ⟨(a3.2 s' k x y).1, ?_⟩
          have old := (a3.2 s' k x y).2
          by_cases e : s' = sa
          · subst e
            rw [l3 k y, if_pos (Nat.zero_le _), edx k _ y, m0 _ (by omega) (by omega), f0 _ (by omega)]
            have := dxb k (V (37 + 3 * s') k) old.1
            omega
          · rw [zo (37 + 3 * s') (by omega) (by omega) (by omega) (by omega) (by omega), f0 _ (by omega)]; exact old
        · rw [zo (12 + 4 * h') (by omega) (by omega) (by omega) (by omega) (by omega), f0 _ (by omega)]; exact a4 h' k x x2 y
        · obtain ⟨r1, r2, r3⟩ := a5 h' k x y
          by_cases e : h' = h
          · subst e
            have lb : ∀ yy w, yy < 3 → w < 6 → Z (13 + 4 * h') ((k * 3 + yy) * 6 + w) = V (13 + 4 * h') ((k * 3 + yy) * 6 + w) + if (yy = 0 ∧ w = sa) ∨ (yy = 1 ∧ w = 2) ∨ (yy = 2 ∧ w = g') then rAm (pGa V h' sa) q' ho k else 0 := fun yy w u v => by
              rw [l4 k yy w y u v, m0 _ (by omega) (by omega), f0 _ (by omega), eam k y]
              congr 1
              by_cases c : (yy = 0 ∧ w = sa) ∨ (yy = 1 ∧ w = 2) ∨ (yy = 2 ∧ w = g')
              · rw [if_pos ⟨Nat.zero_le _, c⟩, if_pos c]
              · rw [if_neg (fun q => c q.2), if_neg c]
            refine ⟨fun w hw => ?_, ?_, fun w hw => ?_⟩
            · rw [lb 0 w (by decide) hw, r1 w hw]
              by_cases w2 : w < 2
              · have := z62 0 h' k w (by decide) x y w2
                rw [show 28 * 0 + 14 * h' + 2 * k + w = 14 * h' + 2 * k + w by omega] at this
                rw [if_pos w2, if_pos w2, this]
                congr 1
                by_cases c : w = sa
                · rw [if_pos (Or.inl ⟨rfl, c⟩), if_pos ⟨rfl, c⟩]
                · rw [if_neg (by omega), if_neg (fun q => c q.2)]
              · rw [if_neg w2, if_neg w2, if_neg (by omega), Int.add_zero]
            · have u0 := z62 0 h' k 0 (by decide) x y (by decide)
              have u1 := z62 0 h' k 1 (by decide) x y (by decide)
              rw [show 28 * 0 + 14 * h' + 2 * k + 0 = 14 * h' + 2 * k by omega] at u0
              rw [show 28 * 0 + 14 * h' + 2 * k + 1 = 14 * h' + 2 * k + 1 by omega] at u1
              rw [lb 1 2 (by decide) (by decide), r2, if_pos (by omega), u0, u1]
              rcases (show sa = 0 ∨ sa = 1 by omega) with e0 | e0
              · rw [if_pos ⟨rfl, e0.symm⟩, if_neg (by omega)]; omega
              · rw [if_neg (by omega), if_pos ⟨rfl, e0.symm⟩]; omega
            · have := z62 1 h' k w (by decide) x y hw
              rw [show 28 * 1 + 14 * h' + 2 * k + w = 28 + 14 * h' + 2 * k + w by omega] at this
              rw [lb 2 (1 + w) (by decide) (by omega), r3 w hw, this]
              congr 1
              by_cases c : w = sa
              · rw [if_pos (by omega), if_pos ⟨rfl, c⟩]
              · rw [if_neg (by omega), if_neg (fun q => c q.2)]
          · have u : ∀ e' j s', e' < 2 → j < 7 → s' < 2 → Z 62 (28 * e' + 14 * h' + 2 * j + s') = V 62 (28 * e' + 14 * h' + 2 * j + s') := fun e' j s' w1 w2 w3 => by rw [z62 e' h' j s' w1 x w2 w3, if_neg (fun q => e q.1), Int.add_zero]
            rw [zo (13 + 4 * h') (by omega) (by omega) (by omega) (by omega) (by omega), f0 _ (by omega)]
            refine ⟨fun w hw => ?_, ?_, fun w hw => ?_⟩
            · rw [r1 w hw]
              by_cases w2 : w < 2
              · have := u 0 k w (by decide) y w2
                rw [show 28 * 0 + 14 * h' + 2 * k + w = 14 * h' + 2 * k + w by omega] at this
                rw [if_pos w2, if_pos w2, this]
              · rw [if_neg w2, if_neg w2]
            · have u0 := u 0 k 0 (by decide) y (by decide)
              have u1 := u 0 k 1 (by decide) y (by decide)
              rw [show 28 * 0 + 14 * h' + 2 * k + 0 = 14 * h' + 2 * k by omega] at u0
              rw [show 28 * 0 + 14 * h' + 2 * k + 1 = 14 * h' + 2 * k + 1 by omega] at u1
              rw [r2, u0, u1]
            · have := u 1 k w (by decide) y hw
              rw [show 28 * 1 + 14 * h' + 2 * k + w = 28 + 14 * h' + 2 * k + w by omega] at this
              rw [r3 w hw, this]
        · rw [l1 0 (by omega) (by omega) (by omega), m8, z63]; omega
        · obtain ⟨h', j, x1, x2, rfl⟩ : ∃ h' j, h' < 2 ∧ j < 7 ∧ k = 7 * h' + j := ⟨k / 7, k % 7, by omega, by omega, by omega⟩
          have b := a7.1 (7 * h' + j) x
          have := am j x2
          rw [show 42 + (7 * h' + j) = 42 + 7 * h' + j by omega] at b ⊢
          rw [z61 h' j x1 x2, z63]
          split <;> omega
        · obtain ⟨e', h', j, s', x1, x2, x3, x4, rfl⟩ : ∃ e' h' j s', e' < 2 ∧ h' < 2 ∧ j < 7 ∧ s' < 2 ∧ k = 28 * e' + 14 * h' + 2 * j + s' := ⟨k / 28, k % 28 / 14, k % 14 / 2, k % 2, by omega, by omega, by omega, by omega, by omega⟩
          have b := a7.2 _ x
          have := am j x3
          rw [z62 e' h' j s' x1 x2 x3 x4, z63]
          split <;> omega
        · rw [z63]
          by_cases e : h' = h
          · subst e
            obtain ⟨k, yy, w, x1, x2, x3, rfl⟩ : ∃ k yy w, k < 7 ∧ yy < 3 ∧ w < 6 ∧ j = (k * 3 + yy) * 6 + w := ⟨j / 18, j / 6 % 3, j % 6, by omega, by omega, by omega, by omega⟩
            have b := a8 h' _ x y
            have := am k x1
            rw [l4 k yy w x1 x2 x3, m0 _ (by omega) (by omega), f0 _ (by omega), eam k x1]
            split <;> omega
          · have b := a8 h' j x y
            rw [zo (13 + 4 * h') (by omega) (by omega) (by omega) (by omega) (by omega), f0 _ (by omega)]; omega
        · rw [zo 55 (by omega) (by omega) (by omega) (by decide) (by decide), f0 55 (by decide)]; exact a9
    · rw [if_neg c1] at chk
      rw [decide_eq_false c1, bL_isRidden_425 (by first | omega | exact xB_in _ | exact xB_01 _ | exact iAnd_in | exact iShr_in | (simp only [Int.toNat_natCast]; omega) | decide), if_neg (by first | omega | decide), bL_isRidden_434 (by first | omega | exact xB_in _ | exact xB_01 _ | exact iAnd_in | exact iShr_in | (simp only [Int.toNat_natCast]; omega) | decide), if_pos (by first | omega | decide), bL_isRidden_452, bL_isRidden_453 (by first | omega | exact xB_in _ | exact xB_01 _ | exact iAnd_in | exact iShr_in | (simp only [Int.toNat_natCast]; omega) | decide), if_pos (by first | omega | decide)]
      exact bad false false 8 (by decide) (by rw [if_neg c6, if_pos rfl]; rfl) chk
end P9
