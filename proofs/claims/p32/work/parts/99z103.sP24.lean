/-! the property's law: bridges, and all that is asked -/
section P24
variable {sc : xS} {d : Nat} {T : Nat → Nat × Nat} {z : Nat × Nat} {V : Nat → Nat → Int} {J : Nat → Nat → Int64} {R : Nat → Nat → Option Nat}
theorem so_br {set : Int} {o8 o9 o10 o11 o12 o13 o14 o15 o16 o17 o18 o19 o20 o26 : Option Value} (hset : 0 ≤ set ∧ set ≤ 127) :
    ∀ (m k : Nat) (b : Int) (o24 o25 : Option Value), k + m = 6 → 1 ≤ k → ∃ o24' o25' : Option Value, XR sc d 104 1021 [some (.ref 0), some (.ref 57), some (.ref 58), some (.ref 59), some (.ref 60), some (.ref 61), some (.ref 62), some (.ref 63), o8, o9, o10, o11, o12, o13, o14, o15, o16, o17, o18, o19, o20, some (xw set), some (xw b), some (xw k), o24, o25, o26] [] (T, z, xv V, J, R) = XR sc d 104 1101 [some (.ref 0), some (.ref 57), some (.ref 58), some (.ref 59), some (.ref 60), some (.ref 61), some (.ref 62), some (.ref 63), o8, o9, o10, o11, o12, o13, o14, o15, o16, o17, o18, o19, o20, some (xw set), some (xw (sBr set m k b)), some (xw ((6 : Nat) : Int)), o24', o25', o26] [] (T, z, xv V, J, R) := by
  intro m
  induction m with
  | zero =>
    intro k b o24 o25 hk _
    obtain rfl : k = 6 := by omega
    exact ⟨o24, o25, by rw [bL_isSo_1021 (by omega), if_pos (by omega), sBr]⟩
  | succ m ih =>
    intro k b o24 o25 hk h1
    have sp := iShl_p (n := k) (by omega)
    have m0 := Int.emod_nonneg set (show iShl 1 (k : Int) ≠ 0 by omega)
    have m1 := Int.emod_lt_of_pos set (show 0 < iShl 1 (k : Int) by omega)
    have fin : ∀ (p q : Int) (v : Int), XR sc d 104 1092 [some (.ref 0), some (.ref 57), some (.ref 58), some (.ref 59), some (.ref 60), some (.ref 61), some (.ref 62), some (.ref 63), o8, o9, o10, o11, o12, o13, o14, o15, o16, o17, o18, o19, o20, some (xw set), some (xw b), some (xw k), some (xw p), some (xw q), o26] [xw v, xw b] (T, z, xv V, J, R) = XR sc d 104 1021 [some (.ref 0), some (.ref 57), some (.ref 58), some (.ref 59), some (.ref 60), some (.ref 61), some (.ref 62), some (.ref 63), o8, o9, o10, o11, o12, o13, o14, o15, o16, o17, o18, o19, o20, some (xw set), some (xw (iOr b v)), some (xw ((k + 1 : Nat) : Int)), some (xw p), some (xw q), o26] [] (T, z, xv V, J, R) := fun p q v => by
      rw [bL_isSo_1092, show (k : Int) + 1 = ((k + 1 : Nat) : Int) by omega]
    have e1060 : ∀ (p q : Bool), XR sc d 104 1060 [some (.ref 0), some (.ref 57), some (.ref 58), some (.ref 59), some (.ref 60), some (.ref 61), some (.ref 62), some (.ref 63), o8, o9, o10, o11, o12, o13, o14, o15, o16, o17, o18, o19, o20, some (xw set), some (xw b), some (xw k), some (xw (xB p)), o25, o26] [xw (xB q)] (T, z, xv V, J, R) = XR sc d 104 1092 [some (.ref 0), some (.ref 57), some (.ref 58), some (.ref 59), some (.ref 60), some (.ref 61), some (.ref 62), some (.ref 63), o8, o9, o10, o11, o12, o13, o14, o15, o16, o17, o18, o19, o20, some (xw set), some (xw b), some (xw k), some (xw (xB p)), some (xw (xB q)), o26] [xw (if iAnd (iShr set k) 1 = 0 ∧ p = true ∧ q = true then iShl 1 k else 0), xw b] (T, z, xv V, J, R) := by
      intro p q
      rw [bL_isSo_1060 iAnd_in]
      by_cases c : iAnd (iShr set k) 1 = 0
      · rw [if_pos c]
        cases p with
        | false => rw [bL_isSo_1074 (by decide), if_pos (show xB false = 0 from rfl), if_neg (fun w => absurd w.2.1 (by decide)), bL_isSo_1091]
        | true =>
          rw [bL_isSo_1074 (by decide), if_neg (show ¬ xB true = 0 by decide)]
          cases q with
          | false => rw [bL_isSo_1079 (by decide), if_pos (show xB false = 0 from rfl), if_neg (fun w => absurd w.2.2 (by decide)), bL_isSo_1091]
          | true => rw [bL_isSo_1079 (by decide), if_neg (show ¬ xB true = 0 by decide), if_pos (show iAnd (iShr set k) 1 = 0 ∧ true = true ∧ true = true from ⟨c, rfl, rfl⟩), bL_isSo_1084]
      · rw [if_neg c, if_neg (show ¬ (iAnd (iShr set k) 1 = 0 ∧ p = true ∧ q = true) from fun w => c w.1), bL_isSo_1091]
    have e1043 : ∀ (p : Bool), XR sc d 104 1043 [some (.ref 0), some (.ref 57), some (.ref 58), some (.ref 59), some (.ref 60), some (.ref 61), some (.ref 62), some (.ref 63), o8, o9, o10, o11, o12, o13, o14, o15, o16, o17, o18, o19, o20, some (xw set), some (xw b), some (xw k), o24, o25, o26] [xw (xB p)] (T, z, xv V, J, R) = XR sc d 104 1060 [some (.ref 0), some (.ref 57), some (.ref 58), some (.ref 59), some (.ref 60), some (.ref 61), some (.ref 62), some (.ref 63), o8, o9, o10, o11, o12, o13, o14, o15, o16, o17, o18, o19, o20, some (xw set), some (xw b), some (xw k), some (xw (xB p)), o25, o26] [xw (xB (decide (¬ iShr set ((k : Int) + 1) ≤ 0)))] (T, z, xv V, J, R) := by
      intro p
      rw [bL_isSo_1043 iShr_in]
      by_cases c : iShr set ((k : Int) + 1) ≤ 0
      · rw [if_pos c, decide_eq_false (fun w => w c), bL_isSo_1059]; rfl
      · rw [if_neg c, decide_eq_true c, bL_isSo_1055]; rfl
    have e1028 : XR sc d 104 1028 [some (.ref 0), some (.ref 57), some (.ref 58), some (.ref 59), some (.ref 60), some (.ref 61), some (.ref 62), some (.ref 63), o8, o9, o10, o11, o12, o13, o14, o15, o16, o17, o18, o19, o20, some (xw set), some (xw b), some (xw k), o24, o25, o26] [] (T, z, xv V, J, R) = XR sc d 104 1043 [some (.ref 0), some (.ref 57), some (.ref 58), some (.ref 59), some (.ref 60), some (.ref 61), some (.ref 62), some (.ref 63), o8, o9, o10, o11, o12, o13, o14, o15, o16, o17, o18, o19, o20, some (xw set), some (xw b), some (xw k), o24, o25, o26] [xw (xB (decide (¬ set % iShl 1 k ≤ 0)))] (T, z, xv V, J, R) := by
      rw [bL_isSo_1028 (by omega) (by omega)]
      by_cases c : set % iShl 1 k ≤ 0
      · rw [if_pos c, decide_eq_false (fun w => w c), bL_isSo_1042]; rfl
      · rw [if_neg c, decide_eq_true c, bL_isSo_1038]; rfl
    obtain ⟨o24', o25', i1⟩ := ih (k + 1) (iOr b (if iAnd (iShr set k) 1 = 0 ∧ ¬ set % iShl 1 k ≤ 0 ∧ ¬ iShr set ((k : Int) + 1) ≤ 0 then iShl 1 k else 0)) (some (xw (xB (decide (¬ set % iShl 1 k ≤ 0))))) (some (xw (xB (decide (¬ iShr set ((k : Int) + 1) ≤ 0))))) (by omega) (by omega)
    refine ⟨o24', o25', ?_⟩
    rw [bL_isSo_1021 (by omega), if_neg (by omega), e1028, e1043, e1060, fin, sBr, ← i1]
    simp only [decide_eq_true_eq]
/-- all that is asked holds -/
theorem l_isSo {i : Nat} {one two : Int} (hI : qInv i T z V R) (hi : i ≤ 64) (h1 : 0 ≤ one ∧ one < 60000) (h2 : 0 ≤ two ∧ two < 60000) :
    ∃ (T' : Nat → Nat × Nat) (z' : Nat × Nat) (V' : Nat → Nat → Int) (J' : Nat → Nat → Int64) (R' : Nat → Nat → Option Nat), X sc 11 104 [.ref 0, .ref 57, .ref 58, .ref 59, .ref 60, .ref 61, .ref 62, .ref 63, xw one, xw two] (T, z, xv V, J, R) = some (.inl (some (xw 1)), (T', z', xv V', J', R')) ∧ qInv i T' z' V' R' ∧ z'.1 ≤ z.1 + 10 ∧ z'.2 ≤ z.2 + 100 := by
  obtain ⟨hT0, hRo0, hHs0, hSs0, hSe0, hA0⟩ := hI.1
  have h0 := hT0.1
  obtain ⟨P0, hP0⟩ := hI.2.2.2.1
  have a60 := hI.2.2.2.2.2.2.2.2.2.1
  obtain ⟨p12, p13, p14, e1⟩ := so_parts (sc := sc) (T := T) (z := z) (V := V) (J := J) (R := R) (one := one) (o9 := some (xw two)) (o15 := none) (o16 := none) (o17 := none) (o18 := none) (o19 := none) (o20 := none) (o21 := none) (o22 := none) (o23 := none) (o24 := none) (o25 := none) (o26 := none) hT0 hA0 hP0 hi h1 P0 0 none none none (Nat.zero_add _)
  obtain ⟨T1, z1, V1, J1, R1, q11, q12, q13, q14, q15, q16, q17, q18, q19, q20, e2, kI, z1a, z1b⟩ := so_mid (sc := sc) (T := T) (z := z) (V := V) (J := J) (R := R) (one := one) (two := two) (o11 := some (xw P0)) (o12 := p12) (o13 := p13) (o14 := p14) (o15 := none) (o16 := none) (o17 := none) (o18 := none) (o19 := none) (o20 := none) (o21 := none) (o22 := none) (o23 := none) (o24 := none) (o25 := none) (o26 := none) hI hi h1 h2
  have e1 : XR sc 10 104 21 [some (.ref 0), some (.ref 57), some (.ref 58), some (.ref 59), some (.ref 60), some (.ref 61), some (.ref 62), some (.ref 63), some (xw one), some (xw two), some (xw 1), some (xw 0), none, none, none, none, none, none, none, none, none, none, none, none, none, none, none] [] (T, z, xv V, J, R) = _ := e1
  rw [eL_isSo, bL_isSo_0 h0, s_rides hT0, xret_v, bL_isSo_4 (by rw [pA63 hA0]) (by rw [pA63 hA0]; omega) (by omega) (by omega), if_pos a60.1, bL_isSo_11, bL_isSo_16, e1, e2]
  clear e1 e2
  obtain ⟨hT, hRo, hHs, hSs, hSe, hA⟩ := kI.1
  obtain ⟨P, hP⟩ := kI.2.2.2.1
  obtain ⟨a1, a2, a3, a4, a5, a6, ⟨a7, a8⟩, a9, a10⟩ := id kI.2.2.2.2
  have h0 := hT.1
  obtain ⟨h, eh⟩ : ∃ m : Nat, one / 4 % 2 = m := ⟨(one / 4 % 2).toNat, by omega⟩
  obtain ⟨s, es⟩ : ∃ m : Nat, two / 15 % 2 = m := ⟨(two / 15 % 2).toNat, by omega⟩
  obtain ⟨w, ew⟩ : ∃ w : Int, 1 + one % 3000 = w := ⟨_, rfl⟩
  have hh : h < 2 := by omega
  have hs : s < 2 := by omega
  have hw : 1 ≤ w ∧ w ≤ 3000 := by omega
  have eG : ∀ (W : Nat → Nat → Int), (∀ b, ¬ b = 54 → ¬ b = 55 → W b = V1 b) → ∀ j, j < 7 → xMg W (h : Int) (s : Int) 54 j = pGa V1 h s j := fun W hW j hj => by
    rw [xMg_at hj, Int.toNat_natCast, Int.toNat_natCast, hW _ (by omega) (by omega), hW _ (by omega) (by omega), hW _ (by omega) (by omega), (a2 s j hs hj).1, (a2 s j hs hj).2, (a1 h j hh hj).1]
    rfl
  have hB : ∀ (W : Nat → Nat → Int), (∀ b, ¬ b = 54 → ¬ b = 55 → W b = V1 b) → xBd W := fun W hW => by
    refine ⟨fun h k x y => ?_, fun s k x y => ?_⟩
    · rw [hW _ (by omega) (by omega)]; exact a3.1 h k x y
    · rw [hW _ (by omega) (by omega), hW _ (by omega) (by omega)]; exact a3.2 s k x y
  have gb : ∀ j, j < 7 → -120 ≤ pGa V1 h s j ∧ pGa V1 h s j ≤ 1000 := fun j hj => by
    have b1 := a3.1 h j (by omega) hj
    have b2 := a3.2 s j (by omega) hj
    rw [(a1 h j hh hj).1] at b1
    rw [(a2 s j hs hj).1, (a2 s j hs hj).2] at b2
    unfold pGa
    omega
  obtain ⟨dp, d1, d2, d3, ld⟩ := l_depth (sc := sc) (d := 9) (T := T1) (z := z1) (V := V1) (J := J1) (R := R1) (h := h) (s := s) (w := w) hA hh hs gb hw
  obtain ⟨W, q24, q25, q26, e3, hW⟩ := so_sec (sc := sc) (T := T1) (z := z1) (V := V1) (J := J1) (R := R1) (h := h) (s := s) (w := w) (dp := dp) (o8 := some (xw one)) (o9 := some (xw two)) (o11 := q11) (o12 := q12) (o13 := q13) (o14 := q14) (o15 := q15) (o16 := q16) (o22 := some (xw 0)) kI hi hh hs hw ⟨d1, d2⟩ d3 7 0 V1 0 none none none rfl (fun _ _ => rfl)
  obtain ⟨br1, br2⟩ := br_ok (G := pGa V1 h s) (dp := dp)
  obtain ⟨q24', q25', e4⟩ := so_br (sc := sc) (d := 10) (T := T1) (z := z1) (V := W) (J := J1) (R := R1) (set := sSe (pGa V1 h s) dp 7 0 0) (o8 := some (xw one)) (o9 := some (xw two)) (o10 := some (xw 1)) (o11 := q11) (o12 := q12) (o13 := q13) (o14 := q14) (o15 := q15) (o16 := q16) (o17 := some (xw h)) (o18 := some (xw s)) (o19 := some (xw w)) (o20 := some (xw dp)) (o26 := q26) br2 5 1 0 q24 q25 rfl (Nat.le_refl 1)
  have e3 : XR sc 10 104 702 [some (.ref 0), some (.ref 57), some (.ref 58), some (.ref 59), some (.ref 60), some (.ref 61), some (.ref 62), some (.ref 63), some (xw one), some (xw two), some (xw 1), q11, q12, q13, q14, q15, q16, some (xw h), some (xw s), some (xw w), some (xw dp), some (xw 0), some (xw 0), some (xw 0), none, none, none] [] (T1, z1, xv V1, J1, R1) = _ := e3
  have e4 : XR sc 10 104 1021 [some (.ref 0), some (.ref 57), some (.ref 58), some (.ref 59), some (.ref 60), some (.ref 61), some (.ref 62), some (.ref 63), some (xw one), some (xw two), some (xw 1), q11, q12, q13, q14, q15, q16, some (xw h), some (xw s), some (xw w), some (xw dp), some (xw (sSe (pGa V1 h s) dp 7 0 0)), some (xw 0), some (xw 1), q24, q25, q26] [] (T1, z1, xv W, J1, R1) = _ := e4
  rw [bL_isSo_651 (by first | omega | exact xB_in _ | exact xB_01 _ | exact iAnd_in | exact iShr_in | (simp only [Int.toNat_natCast]; omega) | decide) (by first | omega | exact xB_in _ | exact xB_01 _ | exact iAnd_in | exact iShr_in | (simp only [Int.toNat_natCast]; omega) | decide) (by first | omega | exact xB_in _ | exact xB_01 _ | exact iAnd_in | exact iShr_in | (simp only [Int.toNat_natCast]; omega) | decide) (by first | omega | exact xB_in _ | exact xB_01 _ | exact iAnd_in | exact iShr_in | (simp only [Int.toNat_natCast]; omega) | decide), eh, es, ew, ld, xret_v, bL_isSo_691, e3, bL_isSo_1018, e4, br1, bL_isSo_1101 (by first | omega | exact xB_in _ | exact xB_01 _ | exact iAnd_in | exact iShr_in | (simp only [Int.toNat_natCast]; omega) | decide), if_neg (by first | omega | decide)]
  clear e3 e4
  have hW0 : ∀ b, ¬ b = 54 → ¬ b = 55 → W b = V1 b := fun b x _ => hW b x
  -- sinks
  obtain ⟨r, _, _, s3, cs⟩ := s_sinks (sc := sc) (d := 1) (T := T1) (z := z1) (V := W) (J := J1) (R := R1) (h := (h : Int)) (s := (s : Int)) (w := w) hT hSe hHs hSs (hB W hW0) ⟨by omega, by omega⟩ hw
  have er : r = dp := xDe_one (xDe_e (eG W hW0) s3) d3
  rw [er] at cs
  have hWa : ∀ b, ¬ b = 54 → xMg W (h : Int) (s : Int) b = V1 b := fun b hb => (xMg_ne hb).trans (hW b hb)
  generalize xMg W (h : Int) (s : Int) = Wa at cs hWa
  have hWa0 : ∀ b, ¬ b = 54 → ¬ b = 55 → Wa b = V1 b := fun b x _ => hWa b x
  -- sinks anew
  obtain ⟨r', S, t3, t4, ca⟩ := s_sinksAnew (sc := sc) (d := 1) (T := T1) (z := z1) (V := Wa) (J := J1) (R := R1) (h := (h : Int)) (s := (s : Int)) (w := w) hT hSe hHs hSs (hB Wa hWa0) (by rw [hWa 55 (by decide)]; exact a10) ⟨by omega, by omega⟩ hw
  have er' : r' = dp := xDe_one (xDe_e (eG Wa hWa0) t3) d3
  rw [er'] at ca
  have hWb : ∀ b, ¬ b = 54 → ¬ b = 55 → va_up (xMg Wa (h : Int) (s : Int)) 55 S b = V1 b := fun b x y => by rw [va_ne y, xMg_ne x]; exact hWa b x
  have hWb5 : va_up (xMg Wa (h : Int) (s : Int)) 55 S 55 = S := va_same
  generalize va_up (xMg Wa (h : Int) (s : Int)) 55 S = Wb at ca hWb hWb5
  -- bridges
  obtain ⟨r2, _, _, u3, cb⟩ := s_bridges (sc := sc) (d := 1) (T := T1) (z := z1) (V := Wb) (J := J1) (R := R1) (h := (h : Int)) (s := (s : Int)) (w := w) hT hSe hHs hSs (hB Wb hWb) ⟨by omega, by omega⟩ hw
  have er2 : r2 = dp := xDe_one (xDe_e (eG Wb hWb) u3) d3
  rw [er2, xBr_e (G' := pGa V1 h s) (dp' := dp) (fun j hj => by rw [eG Wb hWb j hj]) 5 1 0 rfl (Nat.le_refl 1)] at cb
  have hWc : ∀ b, ¬ b = 54 → ¬ b = 55 → xMg Wb (h : Int) (s : Int) b = V1 b := fun b x y => (xMg_ne x).trans (hWb b x y)
  have hWc5 : xMg Wb (h : Int) (s : Int) 55 = S := (xMg_ne (by decide)).trans hWb5
  generalize xMg Wb (h : Int) (s : Int) = Wc at cb hWc hWc5
  -- no such part
  have cp := s_part_x (sc := sc) (d := 1) (T := T1) (z := z1) (V := Wc) (J := J1) (R := R1) (x := (P : Int)) (v := 0) hT (by have := hP.1.1; omega) (qp_no hP (by omega))
  have e63 : Wc 63 1 = P := by rw [hWc 63 (by decide) (by decide)]; exact hP.1.2.2
  have brin : (-2147483648 ≤ xBr (pGa V1 h s) dp 5 1 0 ∧ xBr (pGa V1 h s) dp 5 1 0 ≤ 2147483647) := by rw [← br1, sBr, sBr, sBr, sBr, sBr, sBr]; exact io_in _
  rw [bL_isSo_1106 h0, cs, xret_v, bL_isSo_1116 (by omega) (by omega), if_pos rfl, bL_isSo_1121 h0, ca, xret_v, bL_isSo_1131 (by omega) (by omega), if_pos rfl, bL_isSo_1136 h0, cb, xret_v, bL_isSo_1146 brin brin, if_pos rfl, bL_isSo_1151 (by rw [pA63 hA]) (by rw [pA63 hA]; omega), e63, dx_part hT.1 (by decide) cp, xret_v, bL_isSo_1166 (by decide), if_pos (by decide), bL_isSo_1171, bL_isSo_1176 (by first | omega | exact xB_in _ | exact xB_01 _ | exact iAnd_in | exact iShr_in | (simp only [Int.toNat_natCast]; omega) | decide)]
  have kK : qInv i T1 z1 Wc R1 := qInv_k kI (Nat.le_refl i) ⟨Nat.le_refl _, fun b _ => ⟨rfl, rfl, fun _ x y _ => hWc b x y⟩, fun _ => by rw [hWc5]; exact t4⟩
  refine ⟨_, _, _, _, _, rfl, qInv_k kK (Nat.le_refl i) (qKeep_x kK.2.1 (fun _ _ _ => rfl)), ?_, ?_⟩
  · show z1.1 + 1 ≤ _; omega
  · show z1.2 + 6 ≤ _; omega
end P24
