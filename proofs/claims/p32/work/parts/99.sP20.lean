/-! the property's law: what is asked of each part -/
theorem pk_i {x : Int} : x % 65536 = x % 16 + 16 * (x / 16 % 16) + 256 * (x / 256 % 16) + 4096 * (x / 4096 % 8) + 32768 * (x / 32768 % 2) := by
  have e1 : x / 256 = x / 16 / 16 := by omega
  have e2 : x / 4096 = x / 16 / 16 / 16 := by omega
  have e3 : x / 32768 = x / 16 / 16 / 16 / 8 := by omega
  have e4 : x / 65536 = x / 16 / 16 / 16 / 8 / 2 := by omega
  have e5 : x % 65536 = x - 65536 * (x / 65536) := by omega
  rw [e5, e1, e2, e3, e4]
  omega
theorem pk_j {x y : Int} : x % 65536 = y % 65536 ↔ x / 32768 % 2 = y / 32768 % 2 ∧ x % 16 = y % 16 ∧ x / 16 % 16 = y / 16 % 16 ∧ x / 256 % 16 = y / 256 % 16 ∧ x / 4096 % 8 = y / 4096 % 8 := by
  rw [pk_i, pk_i (x := y)]
  have a1 : 0 ≤ x % 16 ∧ x % 16 < 16 := by omega
  have a2 : 0 ≤ x / 16 % 16 ∧ x / 16 % 16 < 16 := by omega
  have a3 : 0 ≤ x / 256 % 16 ∧ x / 256 % 16 < 16 := by omega
  have a4 : 0 ≤ x / 4096 % 8 ∧ x / 4096 % 8 < 8 := by omega
  have a5 : 0 ≤ x / 32768 % 2 ∧ x / 32768 % 2 < 2 := by omega
  have b1 : 0 ≤ y % 16 ∧ y % 16 < 16 := by omega
  have b2 : 0 ≤ y / 16 % 16 ∧ y / 16 % 16 < 16 := by omega
  have b3 : 0 ≤ y / 256 % 16 ∧ y / 256 % 16 < 16 := by omega
  have b4 : 0 ≤ y / 4096 % 8 ∧ y / 4096 % 8 < 8 := by omega
  have b5 : 0 ≤ y / 32768 % 2 ∧ y / 32768 % 2 < 2 := by omega
  generalize x % 16 = x1 at *
  generalize x / 16 % 16 = x2 at *
  generalize x / 256 % 16 = x3 at *
  generalize x / 4096 % 8 = x4 at *
  generalize x / 32768 % 2 = x5 at *
  generalize y % 16 = y1 at *
  generalize y / 16 % 16 = y2 at *
  generalize y / 256 % 16 = y3 at *
  generalize y / 4096 % 8 = y4 at *
  generalize y / 32768 % 2 = y5 at *
  omega
section P20
variable {sc : xS} {d : Nat} {T : Nat → Nat × Nat} {z : Nat × Nat} {V : Nat → Nat → Int} {J : Nat → Nat → Int64} {R : Nat → Nat → Option Nat}
theorem so_parts {i P : Nat} {one : Int} {o9 o15 o16 o17 o18 o19 o20 o21 o22 o23 o24 o25 o26 : Option Value} (hT : xTr T R) (hA : pAr T) (hP : qPar i T z.1 V R P) (hi : i ≤ 64) (h1 : 0 ≤ one ∧ one < 60000) :
    ∀ (m k : Nat) (o12 o13 o14 : Option Value), k + m = P → ∃ o12' o13' o14' : Option Value, XR sc 10 104 21 [some (.ref 0), some (.ref 57), some (.ref 58), some (.ref 59), some (.ref 60), some (.ref 61), some (.ref 62), some (.ref 63), some (xw one), o9, some (xw 1), some (xw k), o12, o13, o14, o15, o16, o17, o18, o19, o20, o21, o22, o23, o24, o25, o26] [] (T, z, xv V, J, R) =
      XR sc 10 104 383 [some (.ref 0), some (.ref 57), some (.ref 58), some (.ref 59), some (.ref 60), some (.ref 61), some (.ref 62), some (.ref 63), some (xw one), o9, some (xw 1), some (xw P), o12', o13', o14', o15, o16, o17, o18, o19, o20, o21, o22, o23, o24, o25, o26] [] (T, z, xv V, J, R) := by
  have h0 := hT.1
  have hP1 := hP.1.2.2
  have hP10 := hP.1.1
  intro m
  induction m with
  | zero =>
    intro k o12 o13 o14 hk
    obtain rfl : k = P := by omega
    refine ⟨o12, o13, o14, ?_⟩
    rw [bL_isSo_21 (by rw [pA63 hA]) (by rw [pA63 hA]; omega) (by omega) (by omega), if_pos (by omega)]
  | succ m ih =>
    intro k o12 o13 o14 hk
    have hkP : k < P := by omega
    obtain ⟨a, ea, ha, g1⟩ := qp_y hP hkP
    have va := qp_va g1 hi
    have ist := qp_st g1
    have kst := pSs_0 (V := V) (p := k)
    obtain ⟨⟨hPa, ga, gn⟩, ⟨w0, w1, w2, w3, w5, w4⟩, ⟨w7, w8, w12⟩, ⟨w9, w10, w11⟩, ⟨b0, b1, b5, b8, b57, b58⟩, ⟨st, b60, s60⟩, ⟨b59, t2, t3⟩, w6⟩ := id g1
    have nin := pMn_in (v := V 59 k) 30 0
    have hx40 : 0 ≤ (k : Int) ∧ (k : Int) < 40 := by omega
    have ha' : R 2 (k : Int).toNat = some a := by rw [Int.toNat_natCast]; exact ha
    have pc : ∀ v : Int, 0 ≤ v ∧ v ≤ 10 → X sc 10 57 [.ref 0, xw k, xw v] (T, z, xv V, J, R) = some (.inl (some (xw (xTl V a v))), (T, z, xv V, J, R)) := fun v hv => by
      have := s_part (sc := sc) (d := 2) (T := T) (z := z) (V := V) (J := J) (R := R) (x := (k : Int)) (v := v) (a := a) hT hx40 ha' hPa.1 (va 6 (by decide)) (mul_in (by omega) (by omega)) (by omega) (va 12 (by decide)) (by omega)
      rw [if_pos hv] at this
      exact this
    have pc0 := pc 0 (by decide)
    have pc1 := pc 1 (by decide)
    have pc2 := pc 2 (by decide)
    have pc3 := pc 3 (by decide)
    have pc4 := pc 4 (by decide)
    have pc5 := pc 5 (by decide)
    have pc6 := pc 6 (by decide)
    have pc7 := pc 7 (by decide)
    have pc8 := pc 8 (by decide)
    have pc9 := pc 9 (by decide)
    have pc10 := pc 10 (by decide)
    rw [show xTl V a 0 = V 57 k % 16 from w0] at pc0
    rw [show xTl V a 1 = V 57 k / 16 % 16 from w1] at pc1
    rw [show xTl V a 2 = V 57 k / 256 % 16 from w5] at pc2
    rw [show xTl V a 3 = V 57 k / 4096 % 8 from w2] at pc3
    rw [show xTl V a 4 = pMn (V 59 k) 30 0 from w6] at pc4
    rw [show xTl V a 5 = V 58 k from w7] at pc5
    rw [show xTl V a 6 = pSt (V 57 k) (V 58 k) (V 59 k) from ist] at pc6
    have sIn : 0 ≤ pSt (V 57 k) (V 58 k) (V 59 k) ∧ pSt (V 57 k) (V 58 k) (V 59 k) ≤ 2250 := by
      have hm := mul_bd (a := 10 * (V 57 k / 16 % 16)) (b := V 57 k / 256 % 16) (A := 150) (B := 15) (by omega) (by omega)
      unfold pSt
      by_cases c : V 59 k = 0
      · rw [if_pos c]; omega
      · rw [if_neg c]; omega
    rw [show xTl V a 7 = min (pO V k) (pQ V k) from w9] at pc7
    rw [show xTl V a 8 = max (pO V k) (pQ V k) from w10] at pc8
    rw [show xTl V a 9 = pL V k from w11] at pc9
    rw [show xTl V a 10 = if V a 12 = 0 then 0 else 1 from rfl, show (if V a 12 = 0 then (0 : Int) else 1) = V 57 k / 524288 by rw [w12]; split <;> omega] at pc10
    have stI : (-1 ≤ pO V k ∧ pO V k < 8) ∧ (-1 ≤ pQ V k ∧ pQ V k < 8) ∧ (-1 ≤ pL V k ∧ pL V k ≤ 100) := by unfold aSt at st; omega
    -- the rings
    have ft : ∀ o12 o13 : Option Value, XR sc 10 104 35 [some (.ref 0), some (.ref 57), some (.ref 58), some (.ref 59), some (.ref 60), some (.ref 61), some (.ref 62), some (.ref 63), some (xw one), o9, some (xw 1), some (xw k), o12, o13, o14, o15, o16, o17, o18, o19, o20, o21, o22, o23, o24, o25, o26] [] (T, z, xv V, J, R) =
        XR sc 10 104 84 [some (.ref 0), some (.ref 57), some (.ref 58), some (.ref 59), some (.ref 60), some (.ref 61), some (.ref 62), some (.ref 63), some (xw one), o9, some (xw 1), some (xw k), some (xw (pO V k)), o13, o14, o15, o16, o17, o18, o19, o20, o21, o22, o23, o24, o25, o26] [xw (pQ V k)] (T, z, xv V, J, R) := by
      intro o12 o13
      by_cases c : V 60 k = 0
      · have l := pL_0 (V := V) (p := k) (by omega)
        rw [bL_isSo_35 (by rw [pA60 hA]) (by rw [pA60 hA]; omega) (by first | omega | exact xB_in _ | exact xB_01 _ | exact iAnd_in | exact iShr_in | (simp only [Int.toNat_natCast]; omega) | decide), Int.toNat_natCast, if_pos c, bL_isSo_43, bL_isSo_57 (by rw [pA60 hA]) (by rw [pA60 hA]; omega) (by first | omega | exact xB_in _ | exact xB_01 _ | exact iAnd_in | exact iShr_in | (simp only [Int.toNat_natCast]; omega) | decide), Int.toNat_natCast, if_pos c, bL_isSo_67, l.1, l.2.1]
      · have l := pL_v (V := V) (p := k) (by omega)
        rw [bL_isSo_35 (by rw [pA60 hA]) (by rw [pA60 hA]; omega) (by first | omega | exact xB_in _ | exact xB_01 _ | exact iAnd_in | exact iShr_in | (simp only [Int.toNat_natCast]; omega) | decide), Int.toNat_natCast, if_neg c, bL_isSo_47 (by rw [pA60 hA]) (by rw [pA60 hA]; omega) (by first | omega | exact xB_in _ | exact xB_01 _ | exact iAnd_in | exact iShr_in | (simp only [Int.toNat_natCast]; omega) | decide), Int.toNat_natCast, bL_isSo_57 (by rw [pA60 hA]) (by rw [pA60 hA]; omega) (by first | omega | exact xB_in _ | exact xB_01 _ | exact iAnd_in | exact iShr_in | (simp only [Int.toNat_natCast]; omega) | decide), Int.toNat_natCast, if_neg c, bL_isSo_71 (by rw [pA60 hA]) (by rw [pA60 hA]; omega) (by first | omega | exact xB_in _ | exact xB_01 _ | exact iAnd_in | exact iShr_in | (simp only [Int.toNat_natCast]; omega) | decide) (by first | omega | exact xB_in _ | exact xB_01 _ | exact iAnd_in | exact iShr_in | (simp only [Int.toNat_natCast]; omega) | decide), Int.toNat_natCast, l.1, l.2.1]
    have l7 : ∀ (S : Value) (o14 : Option Value), XR sc 10 104 223 [some (.ref 0), some (.ref 57), some (.ref 58), some (.ref 59), some (.ref 60), some (.ref 61), some (.ref 62), some (.ref 63), some (xw one), o9, some (xw 1), some (xw k), some (xw (pO V k)), some (xw (pQ V k)), o14, o15, o16, o17, o18, o19, o20, o21, o22, o23, o24, o25, o26] [S] (T, z, xv V, J, R) =
        XR sc 10 104 237 [some (.ref 0), some (.ref 57), some (.ref 58), some (.ref 59), some (.ref 60), some (.ref 61), some (.ref 62), some (.ref 63), some (xw one), o9, some (xw 1), some (xw k), some (xw (pO V k)), some (xw (pQ V k)), o14, o15, o16, o17, o18, o19, o20, o21, o22, o23, o24, o25, o26] [xw (min (pO V k) (pQ V k)), S] (T, z, xv V, J, R) := by
      intro S o14
      by_cases c : pQ V k ≤ pO V k
      · rw [bL_isSo_223 (by first | omega | exact xB_in _ | exact xB_01 _ | exact iAnd_in | exact iShr_in | (simp only [Int.toNat_natCast]; omega) | decide) (by first | omega | exact xB_in _ | exact xB_01 _ | exact iAnd_in | exact iShr_in | (simp only [Int.toNat_natCast]; omega) | decide), if_pos (by first | omega | decide), bL_isSo_235, Int.min_eq_right c]
      · rw [bL_isSo_223 (by first | omega | exact xB_in _ | exact xB_01 _ | exact iAnd_in | exact iShr_in | (simp only [Int.toNat_natCast]; omega) | decide) (by first | omega | exact xB_in _ | exact xB_01 _ | exact iAnd_in | exact iShr_in | (simp only [Int.toNat_natCast]; omega) | decide), if_neg (by first | omega | decide), bL_isSo_230, Int.min_eq_left (by omega)]
    have l8 : ∀ (S : Value) (o14 : Option Value), XR sc 10 104 248 [some (.ref 0), some (.ref 57), some (.ref 58), some (.ref 59), some (.ref 60), some (.ref 61), some (.ref 62), some (.ref 63), some (xw one), o9, some (xw 1), some (xw k), some (xw (pO V k)), some (xw (pQ V k)), o14, o15, o16, o17, o18, o19, o20, o21, o22, o23, o24, o25, o26] [S] (T, z, xv V, J, R) =
        XR sc 10 104 262 [some (.ref 0), some (.ref 57), some (.ref 58), some (.ref 59), some (.ref 60), some (.ref 61), some (.ref 62), some (.ref 63), some (xw one), o9, some (xw 1), some (xw k), some (xw (pO V k)), some (xw (pQ V k)), o14, o15, o16, o17, o18, o19, o20, o21, o22, o23, o24, o25, o26] [xw (max (pO V k) (pQ V k)), S] (T, z, xv V, J, R) := by
      intro S o14
      by_cases c : pQ V k ≤ pO V k
      · rw [bL_isSo_248 (by first | omega | exact xB_in _ | exact xB_01 _ | exact iAnd_in | exact iShr_in | (simp only [Int.toNat_natCast]; omega) | decide) (by first | omega | exact xB_in _ | exact xB_01 _ | exact iAnd_in | exact iShr_in | (simp only [Int.toNat_natCast]; omega) | decide), if_pos (by first | omega | decide), bL_isSo_260, Int.max_eq_left c]
      · rw [bL_isSo_248 (by first | omega | exact xB_in _ | exact xB_01 _ | exact iAnd_in | exact iShr_in | (simp only [Int.toNat_natCast]; omega) | decide) (by first | omega | exact xB_in _ | exact xB_01 _ | exact iAnd_in | exact iShr_in | (simp only [Int.toNat_natCast]; omega) | decide), if_neg (by first | omega | decide), bL_isSo_255, Int.max_eq_right (by omega)]
    have l9 : ∀ (S : Value) (o12 o13 o14 : Option Value), XR sc 10 104 273 [some (.ref 0), some (.ref 57), some (.ref 58), some (.ref 59), some (.ref 60), some (.ref 61), some (.ref 62), some (.ref 63), some (xw one), o9, some (xw 1), some (xw k), o12, o13, o14, o15, o16, o17, o18, o19, o20, o21, o22, o23, o24, o25, o26] [S] (T, z, xv V, J, R) =
        XR sc 10 104 295 [some (.ref 0), some (.ref 57), some (.ref 58), some (.ref 59), some (.ref 60), some (.ref 61), some (.ref 62), some (.ref 63), some (xw one), o9, some (xw 1), some (xw k), o12, o13, o14, o15, o16, o17, o18, o19, o20, o21, o22, o23, o24, o25, o26] [xw (pL V k), S] (T, z, xv V, J, R) := by
      intro S o12 o13 o14
      by_cases c : V 60 k = 0
      · have l := pL_0 (V := V) (p := k) (by omega)
        rw [bL_isSo_273 (by rw [pA60 hA]) (by rw [pA60 hA]; omega) (by first | omega | exact xB_in _ | exact xB_01 _ | exact iAnd_in | exact iShr_in | (simp only [Int.toNat_natCast]; omega) | decide), Int.toNat_natCast, if_pos c, bL_isSo_281, l.2.2]
      · have l := pL_v (V := V) (p := k) (by omega)
        rw [bL_isSo_273 (by rw [pA60 hA]) (by rw [pA60 hA]; omega) (by first | omega | exact xB_in _ | exact xB_01 _ | exact iAnd_in | exact iShr_in | (simp only [Int.toNat_natCast]; omega) | decide), Int.toNat_natCast, if_neg c, bL_isSo_285 (by rw [pA60 hA]) (by rw [pA60 hA]; omega) (by first | omega | exact xB_in _ | exact xB_01 _ | exact iAnd_in | exact iShr_in | (simp only [Int.toNat_natCast]; omega) | decide), Int.toNat_natCast, l.2.2]
    -- another part
    have m0 := Int.emod_nonneg one (show V 63 1 ≠ 0 by omega)
    have m1 := Int.emod_lt_of_pos one (show 0 < V 63 1 by omega)
    obtain ⟨q, eq⟩ : ∃ m : Nat, one % V 63 1 = m := ⟨(one % V 63 1).toNat, by omega⟩
    rw [eq] at m0 m1
    have hqP : q < P := by omega
    obtain ⟨b, eb, hb, g2⟩ := qp_y hP hqP
    have vb := qp_va g2 hi
    obtain ⟨⟨hPb, gb, gbn⟩, ⟨u0, u1, u2, u3, u5, u4⟩, _, _, ⟨_, _, _, _, x57, _⟩, _⟩ := id g2
    have mc := s_match (sc := sc) (d := 2) (T := T) (z := z) (V := V) (J := J) (R := R) (x := (k : Int)) (y := (q : Int)) (a := a) (b := b) hT hx40 ha' hPa.1 (by omega) (by rw [Int.toNat_natCast]; exact hb) hPb.1 va vb
    have em : xMa V a b = if V 57 k % 65536 = V 57 q % 65536 then 1 else 0 := by
      unfold xMa
      rw [w0, w1, w2, w3, w5, u0, u1, u2, u3, u5]
      by_cases c : V 57 k % 65536 = V 57 q % 65536
      · rw [if_pos c, if_pos (pk_j.mp c)]
      · rw [if_neg c, if_neg (fun w => c (pk_j.mpr w))]
    have mc : X sc 10 56 [.ref 0, xw k, xw q] (T, z, xv V, J, R) = some (.inl (some (xw (if V 57 k % 65536 = V 57 q % 65536 then 1 else 0))), (T, z, xv V, J, R)) := by rw [← em]; exact mc
    obtain ⟨o12', o13', o14', i1⟩ := ih (k + 1) (some (xw (pO V k))) (some (xw (pQ V k))) (some (xw q)) (by omega)
    refine ⟨o12', o13', o14', ?_⟩
    rw [← i1, bL_isSo_21 (by rw [pA63 hA]) (by rw [pA63 hA]; omega) (by omega) (by omega), if_neg (by omega), bL_isSo_30 (by first | omega | exact xB_in _ | exact xB_01 _ | exact iAnd_in | exact iShr_in | (simp only [Int.toNat_natCast]; omega) | decide), if_neg (by first | omega | decide), ft, bL_isSo_84 h0, pc0, xret_v, bL_isSo_93 (by rw [pA57 hA]) (by rw [pA57 hA]; omega) (by first | omega | exact xB_in _ | exact xB_01 _ | exact iAnd_in | exact iShr_in | (simp only [Int.toNat_natCast]; omega) | decide) (by first | omega | exact xB_in _ | exact xB_01 _ | exact iAnd_in | exact iShr_in | (simp only [Int.toNat_natCast]; omega) | decide) (by first | omega | exact xB_in _ | exact xB_01 _ | exact iAnd_in | exact iShr_in | (simp only [Int.toNat_natCast]; omega) | decide), Int.toNat_natCast, if_pos rfl, bL_isSo_103 h0, pc1, xret_v, bL_isSo_110 (by rw [pA57 hA]) (by rw [pA57 hA]; omega) (by first | omega | exact xB_in _ | exact xB_01 _ | exact iAnd_in | exact iShr_in | (simp only [Int.toNat_natCast]; omega) | decide) (by first | omega | exact xB_in _ | exact xB_01 _ | exact iAnd_in | exact iShr_in | (simp only [Int.toNat_natCast]; omega) | decide) (by first | omega | exact xB_in _ | exact xB_01 _ | exact iAnd_in | exact iShr_in | (simp only [Int.toNat_natCast]; omega) | decide) (by first | omega | exact xB_in _ | exact xB_01 _ | exact iAnd_in | exact iShr_in | (simp only [Int.toNat_natCast]; omega) | decide), Int.toNat_natCast, if_pos rfl, bL_isSo_123 h0, pc2, xret_v, bL_isSo_130 (by rw [pA57 hA]) (by rw [pA57 hA]; omega) (by first | omega | exact xB_in _ | exact xB_01 _ | exact iAnd_in | exact iShr_in | (simp only [Int.toNat_natCast]; omega) | decide) (by first | omega | exact xB_in _ | exact xB_01 _ | exact iAnd_in | exact iShr_in | (simp only [Int.toNat_natCast]; omega) | decide) (by first | omega | exact xB_in _ | exact xB_01 _ | exact iAnd_in | exact iShr_in | (simp only [Int.toNat_natCast]; omega) | decide) (by first | omega | exact xB_in _ | exact xB_01 _ | exact iAnd_in | exact iShr_in | (simp only [Int.toNat_natCast]; omega) | decide), Int.toNat_natCast, if_pos rfl, bL_isSo_144 h0, pc3, xret_v, bL_isSo_151 (by rw [pA57 hA]) (by rw [pA57 hA]; omega) (by first | omega | exact xB_in _ | exact xB_01 _ | exact iAnd_in | exact iShr_in | (simp only [Int.toNat_natCast]; omega) | decide) (by first | omega | exact xB_in _ | exact xB_01 _ | exact iAnd_in | exact iShr_in | (simp only [Int.toNat_natCast]; omega) | decide) (by first | omega | exact xB_in _ | exact xB_01 _ | exact iAnd_in | exact iShr_in | (simp only [Int.toNat_natCast]; omega) | decide) (by first | omega | exact xB_in _ | exact xB_01 _ | exact iAnd_in | exact iShr_in | (simp only [Int.toNat_natCast]; omega) | decide), Int.toNat_natCast, if_pos rfl, bL_isSo_165 h0, pc4, xret_v, bL_isSo_172 (by rw [pA59 hA]) (by rw [pA59 hA]; omega), Int.toNat_natCast, l_many, xret_v, bL_isSo_179 (by first | omega | exact xB_in _ | exact xB_01 _ | exact iAnd_in | exact iShr_in | (simp only [Int.toNat_natCast]; omega) | decide) (by first | omega | exact xB_in _ | exact xB_01 _ | exact iAnd_in | exact iShr_in | (simp only [Int.toNat_natCast]; omega) | decide), if_pos rfl, bL_isSo_182 h0, pc5, xret_v, bL_isSo_189 (by rw [pA58 hA]) (by rw [pA58 hA]; omega) (by first | omega | exact xB_in _ | exact xB_01 _ | exact iAnd_in | exact iShr_in | (simp only [Int.toNat_natCast]; omega) | decide) (by first | omega | exact xB_in _ | exact xB_01 _ | exact iAnd_in | exact iShr_in | (simp only [Int.toNat_natCast]; omega) | decide), Int.toNat_natCast, if_pos rfl, bL_isSo_196 h0, pc6, xret_v, bL_isSo_204, l_strength hA (by omega) (by omega) (by omega) (by omega), xret_v, bL_isSo_212 (by omega) (by omega), if_pos rfl, bL_isSo_215 h0, pc7, xret_v, l7, bL_isSo_237 (by omega) (by omega), if_pos rfl, bL_isSo_240 h0, pc8, xret_v, l8, bL_isSo_262 (by omega) (by omega), if_pos rfl, bL_isSo_265 h0, pc9, xret_v, l9, bL_isSo_295 (by omega) (by omega), if_pos rfl, bL_isSo_298 h0, pc10, xret_v, bL_isSo_306 (by rw [pA57 hA]) (by rw [pA57 hA]; omega) (by first | omega | exact xB_in _ | exact xB_01 _ | exact iAnd_in | exact iShr_in | (simp only [Int.toNat_natCast]; omega) | decide) (by first | omega | exact xB_in _ | exact xB_01 _ | exact iAnd_in | exact iShr_in | (simp only [Int.toNat_natCast]; omega) | decide) (by first | omega | exact xB_in _ | exact xB_01 _ | exact iAnd_in | exact iShr_in | (simp only [Int.toNat_natCast]; omega) | decide), Int.toNat_natCast, if_pos rfl, bL_isSo_316, bL_isSo_321 (by rw [pA63 hA]) (by rw [pA63 hA]; omega) (by omega) (by decide), if_neg (by decide), eq, bL_isSo_337 h0, mc, xret_v, bL_isSo_345 (by rw [pA57 hA]) (by rw [pA57 hA]; omega) (by rw [Int.toNat_natCast]; omega) (by rw [pA57 hA]; omega) (by rw [Int.toNat_natCast]; omega) (by rw [Int.toNat_natCast]; omega) (by rw [Int.toNat_natCast]; omega), Int.toNat_natCast, Int.toNat_natCast]
    by_cases c : V 57 k % 65536 = V 57 q % 65536
    · rw [if_pos c, if_pos c, bL_isSo_362, bL_isSo_367 (by decide) (by decide), if_pos rfl, bL_isSo_370, bL_isSo_375, show (k : Int) + 1 = ((k + 1 : Nat) : Int) by omega]
    · rw [if_neg c, if_neg c, bL_isSo_366, bL_isSo_367 (by decide) (by decide), if_pos rfl, bL_isSo_370, bL_isSo_375, show (k : Int) + 1 = ((k + 1 : Nat) : Int) by omega]
end P20
