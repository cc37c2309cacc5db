/-! the property's law: holds and ways -/
section P22
variable {sc : xS} {d : Nat} {T : Nat → Nat × Nat} {z : Nat × Nat} {V : Nat → Nat → Int} {J : Nat → Nat → Int64} {R : Nat → Nat → Option Nat}
theorem so_way {i P f t wy : Nat} {one two h : Int} {W : Nat → Nat → Int} {o13 o15 o17 o18 o19 o20 o21 o22 o23 o24 o25 o26 : Option Value} (hT : xTr T R) (hRo : xRo T R) (hz : 64 ≤ z.1) (hP : qPar i T z.1 V R P) (hi : i ≤ 64) (ht : t < 8) (hf : f < 8) (nft : ¬ f = t) (hTw : T wy = (32, 9)) (hwy : 64 ≤ wy) (hw : pRw2 V P t f wy) (h2 : 0 ≤ two ∧ two < 60000) (hW : ∀ b, ¬ (3 ≤ b ∧ b ≤ 8) → W b = V b) (hh : h = if pDs V P t f < 1000000 then sHd (pSh V P t f) (pSs V) P 0 9999 else -1) :
    ∃ W' : Nat → Nat → Int, XR sc 10 104 591 [some (.ref 0), some (.ref 57), some (.ref 58), some (.ref 59), some (.ref 60), some (.ref 61), some (.ref 62), some (.ref 63), some (xw one), some (xw two), some (xw 1), some (xw f), some (xw t), o13, some (.ref wy), o15, some (xw h), o17, o18, o19, o20, o21, o22, o23, o24, o25, o26] [] (T, z, xv W, J, R) = XR sc 10 104 651 [some (.ref 0), some (.ref 57), some (.ref 58), some (.ref 59), some (.ref 60), some (.ref 61), some (.ref 62), some (.ref 63), some (xw one), some (xw two), some (xw 1), some (xw f), some (xw t), o13, some (.ref wy), o15, some (xw h), o17, o18, o19, o20, o21, o22, o23, o24, o25, o26] [xw 1] (T, z, xv W', J, R) ∧ ∀ b, ¬ (3 ≤ b ∧ b ≤ 8) → W' b = V b := by
  have hP10 := hP.1.1
  have hC := qp_aCl hP
  have hall : ∀ p, p < P → aSt (pO V) (pQ V) (pL V) p := fun p hp => (hC p hp).1
  obtain ⟨hq, hr, hc⟩ := so_cls (z := z) (W := W) hRo hP hi ht hf hz hW
  have shi : ∀ p, p < P → (xBe (xLk R W f t) (xp R p) = 0 ↔ pSh V P t f p ≤ 0) ∧ xSh (xLk R W f t) (xp R p) = pSh V P t f p ∧ xSt (xLk R W f t) (xp R p) = pSs V p := fun p hp => by
    have eb := xBe_ok hr hall hp (by rw [hc p hp]; exact (hC p hp).2.1) (by rw [hc p hp]; exact (hC p hp).2.2.1) (by rw [hc p hp]; exact (hC p hp).2.2.2)
    refine ⟨?_, eb.2, ?_⟩
    · rw [eb.1]
      by_cases c : aBk (pO V) (pQ V) (pL V) P (aA (pO V) (pQ V) (pL V) P (pDs V P t) f) p (aM (pO V) (pQ V) (pL V) P (pDs V P t) t f) = true
      · have h1 := aSh_1 hp (hall p hp) c
        rw [if_pos c]
        exact ⟨fun q => absurd q (by decide), fun q => absurd q (by unfold pSh; omega)⟩
      · rw [if_neg c]
        exact ⟨fun _ => by unfold pSh aSh; rw [if_neg c]; exact Int.le_refl 0, fun _ => rfl⟩
    · rw [← qp_st (hP.2.2.2.1 p hp).2]
      unfold xSt
      rw [hc p hp]
  have cls := s_holds (sc := sc) (d := 0) (T := T) (z := z) (V := W) (J := J) (R := R) (f := (f : Int)) (t := (t : Int)) (n := P) hT hRo hq (by omega) (by omega)
  rw [if_pos (by omega), if_neg (by omega), Int.toNat_natCast, Int.toNat_natCast] at cls
  have ev : (if xLk R W f t 3 5 ≤ 0 then -1 else xHd R (xLk R W f t) P 0 9999) = h := by
    rw [hr.1, hh]
    by_cases c : pDs V P t f < 1000000
    · rw [if_pos c, if_pos c, if_neg (by omega), xHd_s shi P 0 9999 (by omega)]
    · rw [if_neg c, if_neg c, if_pos (by decide)]
  rw [ev] at cls
  have hin : -1 ≤ h ∧ h ≤ 9999 := by
    rw [hh]
    split
    · have := sHd_in (w := pSh V P t f) (st := pSs V) P 0 9999 (by decide) (fun p _ _ => ⟨(pSh_in hP10).1, pSs_0⟩)
      omega
    · decide
  have hW1 : ∀ b, ¬ (3 ≤ b ∧ b ≤ 8) → xLk R W f t b = V b := fun b hb => (xLk_ne (by omega)).trans (hW b hb)
  generalize xLk R W f t = W1 at cls hW1
  obtain ⟨hq1, hr1, hc1⟩ := so_cls (z := z) (W := W1) hRo hP hi ht hf hz hW1
  obtain ⟨pos, epos⟩ : ∃ m : Nat, two / 3 % 5 = m := ⟨(two / 3 % 5).toNat, by omega⟩
  have cls2 := s_way (sc := sc) (d := 1) (T := T) (z := z) (V := W1) (J := J) (R := R) (f := (f : Int)) (t := (t : Int)) (p := (pos : Int)) (n := P) hT hRo hq1 (by omega) (by omega) (by omega)
  rw [if_pos ⟨by omega, by omega, by omega⟩, if_neg (by omega), Int.toNat_natCast, Int.toNat_natCast, Int.toNat_natCast] at cls2
  have hW2 : ∀ b, ¬ (3 ≤ b ∧ b ≤ 8) → xLk R W1 f t b = V b := fun b hb => (xLk_ne (by omega)).trans (hW1 b hb)
  have ev2 : (if (pos : Int) < xLk R W1 f t 3 5 then xLk R W1 f t 8 pos else -1) = V wy pos := by
    rw [hr1.1, hw pos (by omega)]
    by_cases c : pDs V P t f < 1000000
    · have eM : aM (pO V) (pQ V) (pL V) P (pDs V P t) t f = aLen (pCo V P) (pDs V P t) t 7 f := by unfold aM; rw [if_pos c]; rfl
      rw [if_pos c, eM]
      by_cases c2 : pos ≤ aLen (pCo V P) (pDs V P t) t 7 f
      · rw [if_pos (by omega), if_pos ⟨c, c2⟩, hr1.2.1 c pos (by rw [eM]; exact c2)]; rfl
      · rw [if_neg (by omega), if_neg (fun q => c2 q.2)]
    · rw [if_neg c, if_neg (by omega), if_neg (fun q => c q.1)]
  rw [ev2] at cls2
  have vin : (-2147483648 ≤ V wy pos ∧ V wy pos ≤ 2147483647) := by
    rw [hw pos (by omega)]
    split
    · next q =>
      have := (pWy_of ht hf (pDs_ok ht) q.1 hw).2.1 pos q.2
      omega
    · decide
  refine ⟨xLk R W1 f t, ?_, hW2⟩
  rw [bL_isSo_591 (by first | omega | exact xB_in _ | exact xB_01 _ | exact iAnd_in | exact iShr_in | (simp only [Int.toNat_natCast]; omega) | decide), if_neg (by first | omega | decide), bL_isSo_596, dv_holds hT.1 cls, xret_v, bL_isSo_610 (by omega) (by omega), if_pos rfl, bL_isSo_615 (by first | omega | exact xB_in _ | exact xB_01 _ | exact iAnd_in | exact iShr_in | (simp only [Int.toNat_natCast]; omega) | decide) (by first | omega | exact xB_in _ | exact xB_01 _ | exact iAnd_in | exact iShr_in | (simp only [Int.toNat_natCast]; omega) | decide), epos, dv_way hT.1 cls2, xret_v, bL_isSo_634 (by omega) (by omega) (by rw [hTw]) (by rw [hTw]; omega) vin (by rw [epos, Int.toNat_natCast, hW2 wy (by omega)]; exact vin), epos, Int.toNat_natCast, hW2 wy (by omega), if_pos rfl, bL_isSo_646]
theorem so_mid {i : Nat} {one two : Int} {o11 o12 o13 o14 o15 o16 o17 o18 o19 o20 o21 o22 o23 o24 o25 o26 : Option Value} (hI : qInv i T z V R) (hi : i ≤ 64) (h1 : 0 ≤ one ∧ one < 60000) (h2 : 0 ≤ two ∧ two < 60000) :
    ∃ (T' : Nat → Nat × Nat) (z' : Nat × Nat) (V' : Nat → Nat → Int) (J' : Nat → Nat → Int64) (R' : Nat → Nat → Option Nat) (o11' o12' o13' o14' o15' o16' o17' o18' o19' o20' : Option Value), XR sc 10 104 383 [some (.ref 0), some (.ref 57), some (.ref 58), some (.ref 59), some (.ref 60), some (.ref 61), some (.ref 62), some (.ref 63), some (xw one), some (xw two), some (xw 1), o11, o12, o13, o14, o15, o16, o17, o18, o19, o20, o21, o22, o23, o24, o25, o26] [] (T, z, xv V, J, R) = XR sc 10 104 651 [some (.ref 0), some (.ref 57), some (.ref 58), some (.ref 59), some (.ref 60), some (.ref 61), some (.ref 62), some (.ref 63), some (xw one), some (xw two), some (xw 1), o11', o12', o13', o14', o15', o16', o17', o18', o19', o20', o21, o22, o23, o24, o25, o26] [xw 1] (T', z', xv V', J', R') ∧ qInv i T' z' V' R' ∧ z'.1 ≤ z.1 + 4 ∧ z'.2 ≤ z.2 + 36 := by
  have hz := hI.2.1
  obtain ⟨f, ef⟩ : ∃ m : Nat, one % 4 = m := ⟨(one % 4).toNat, by omega⟩
  obtain ⟨t, et⟩ : ∃ m : Nat, (one % 4 + 1 + two % 3) % 4 = m := ⟨((one % 4 + 1 + two % 3) % 4).toNat, by omega⟩
  have f8 : f < 8 := by omega
  have t8 : t < 8 := by omega
  have nft : ¬ f = t := by omega
  obtain ⟨g, eg⟩ : ∃ g : Int, 1 + two % 400 = g := ⟨_, rfl⟩
  have hg : 1 ≤ g ∧ g ≤ 9999 := by omega
  have et' : ((f : Int) + 1 + two % 3) % 4 = t := by rw [← ef]; exact et
  rw [bL_isSo_383 (by first | omega | exact xB_in _ | exact xB_01 _ | exact iAnd_in | exact iShr_in | (simp only [Int.toNat_natCast]; omega) | decide) (by first | omega | exact xB_in _ | exact xB_01 _ | exact iAnd_in | exact iShr_in | (simp only [Int.toNat_natCast]; omega) | decide) (by first | omega | exact xB_in _ | exact xB_01 _ | exact iAnd_in | exact iShr_in | (simp only [Int.toNat_natCast]; omega) | decide), ef, et', eg]
  have kW := qInv_k hI (Nat.le_refl i) (qKeep_w (V := V) (T := T) (R := R) hz)
  have eTw : va_up T z.1 (32, 9) z.1 = (32, 9) := va_same
  revert kW eTw
  generalize va_up T z.1 (32, 9) = T1
  generalize va_up V z.1 (fun _ => 0) = V1
  generalize va_up J z.1 (fun _ => 0) = J1
  generalize va_up R z.1 (fun _ => none) = R1
  intro kW eTw
  obtain ⟨hT1, hRo1, _, _, _, hA1⟩ := kW.1
  obtain ⟨P, hP⟩ := kW.2.2.2.1
  have hM := qp_mo hP
  obtain ⟨T2, V2, J2, R2, f1, f2, f3⟩ := l_finds (sc := sc) (d := 8) (T := T1) (z := (z.1 + 1, z.2 + 9)) (V := V1) (J := J1) (R := R1) (wy := z.1) (F := pDs V1 P t) hA1 hM (pDs_ok t8) t8 f8 eTw ⟨hz, Nat.lt_succ_self _⟩
  have kF : qInv i T2 (z.1 + 1 + 3, z.2 + 9 + 9 + 9 + 9) V2 R2 := qInv_k kW (Nat.le_refl i) (qKeep_f (z := (z.1 + 1, z.2 + 9)) kW.2.1 eTw hz f2)
  have e60 : V2 60 = V1 60 := (f2 60 (by show 60 < z.1 + 1; omega)).2.2.2 (by omega)
  have e63 : V2 63 = V1 63 := (f2 63 (by show 63 < z.1 + 1; omega)).2.2.2 (by omega)
  have eD : pDs V2 P t = pDs V1 P t := by unfold pDs; rw [(pO_e e60).1, (pO_e e60).2.1, (pO_e e60).2.2]
  have eC : pCo V2 P = pCo V1 P := by unfold pCo; rw [(pO_e e60).1, (pO_e e60).2.1, (pO_e e60).2.2]
  have eT2 : T2 z.1 = (32, 9) := ((f2 z.1 (Nat.lt_succ_self _)).1).trans eTw
  obtain ⟨P2, hP2⟩ := kF.2.2.2.1
  have eP : P2 = P := by
    have h3 := hP2.1.2.2
    rw [e63, hP.1.2.2] at h3
    omega
  rw [eP] at hP2
  obtain ⟨hT2, hRo2, _, _, _, hA2⟩ := kF.1
  have hw2 : pRw2 V2 P t f z.1 := by unfold pRw2; rw [eD, eC]; exact f3
  rw [f1, xret_v, ← eD]
  have e431 : XR sc 10 104 431 [some (.ref 0), some (.ref 57), some (.ref 58), some (.ref 59), some (.ref 60), some (.ref 61), some (.ref 62), some (.ref 63), some (xw one), some (xw two), some (xw 1), some (xw f), some (xw t), some (xw g), some (.ref z.1), o15, o16, o17, o18, o19, o20, o21, o22, o23, o24, o25, o26] [xw (xB (decide (pDs V2 P t f < 1000000)))] (T2, (z.1 + 1 + 3, z.2 + 9 + 9 + 9 + 9), xv V2, J2, R2) = XR sc 10 104 450 [some (.ref 0), some (.ref 57), some (.ref 58), some (.ref 59), some (.ref 60), some (.ref 61), some (.ref 62), some (.ref 63), some (xw one), some (xw two), some (xw 1), some (xw f), some (xw t), some (xw g), some (.ref z.1), some (xw (xB (decide (pDs V2 P t f < 1000000)))), some (xw (if pDs V2 P t f < 1000000 then 9999 else -1)), some (xw 0), o18, o19, o20, o21, o22, o23, o24, o25, o26] [] (T2, (z.1 + 1 + 3, z.2 + 9 + 9 + 9 + 9), xv V2, J2, R2) := by
    by_cases c : pDs V2 P t f < 1000000
    · rw [decide_eq_true c, if_pos c, bL_isSo_431 (by decide), if_neg (by decide), bL_isSo_438, bL_isSo_445]
    · rw [decide_eq_false c, if_neg c, bL_isSo_431 (by decide), if_pos (show xB false = 0 from rfl), bL_isSo_444, bL_isSo_445]
  rw [e431]
  obtain ⟨W, p18, p19, p20, j1, j2⟩ := so_bears (sc := sc) (T := T2) (z := (z.1 + 1 + 3, z.2 + 9 + 9 + 9 + 9)) (V := V2) (J := J2) (R := R2) (g := g) (wy := z.1) (f := f) (t := t) (o8 := some (xw one)) (o9 := some (xw two)) (o21 := o21) (o22 := o22) (o23 := o23) (o24 := o24) (o25 := o25) (o26 := o26) hT2 hRo2 hA2 (by show 64 ≤ z.1 + 1 + 3; omega) hP2 hi t8 f8 nft hg eT2 hz hw2 P 0 V2 (if pDs V2 P t f < 1000000 then 9999 else -1) o18 o19 o20 (Nat.zero_add _) (fun _ _ => rfl) (by split <;> omega) (fun q w => by rw [if_pos w] at q; omega)
  have j1 : XR sc 10 104 450 [some (.ref 0), some (.ref 57), some (.ref 58), some (.ref 59), some (.ref 60), some (.ref 61), some (.ref 62), some (.ref 63), some (xw one), some (xw two), some (xw 1), some (xw f), some (xw t), some (xw g), some (.ref z.1), some (xw (xB (decide (pDs V2 P t f < 1000000)))), some (xw (if pDs V2 P t f < 1000000 then 9999 else -1)), some (xw 0), o18, o19, o20, o21, o22, o23, o24, o25, o26] [] (T2, (z.1 + 1 + 3, z.2 + 9 + 9 + 9 + 9), xv V2, J2, R2) = _ := j1
  rw [j1]
  have hh : sHd (pSh V2 P t f) (pSs V2) P 0 (if pDs V2 P t f < 1000000 then 9999 else -1) = if pDs V2 P t f < 1000000 then sHd (pSh V2 P t f) (pSs V2) P 0 9999 else -1 := by
    by_cases c : pDs V2 P t f < 1000000
    · rw [if_pos c, if_pos c]
    · rw [if_neg c, if_neg c, sHd_no P 0 (-1) (fun p _ _ => by rw [pSh_no c]; exact Int.le_refl 0)]
  obtain ⟨W2, k1, k2⟩ := so_way (sc := sc) (T := T2) (z := (z.1 + 1 + 3, z.2 + 9 + 9 + 9 + 9)) (V := V2) (J := J2) (R := R2) (W := W) (one := one) (two := two) (wy := z.1) (f := f) (t := t) (h := sHd (pSh V2 P t f) (pSs V2) P 0 (if pDs V2 P t f < 1000000 then 9999 else -1)) (o13 := some (xw g)) (o15 := some (xw (xB (decide (pDs V2 P t f < 1000000))))) (o17 := some (xw P)) (o18 := p18) (o19 := p19) (o20 := p20) (o21 := o21) (o22 := o22) (o23 := o23) (o24 := o24) (o25 := o25) (o26 := o26) hT2 hRo2 (by show 64 ≤ z.1 + 1 + 3; omega) hP2 hi t8 f8 nft eT2 hz hw2 h2 j2 hh
  rw [k1]
  exact ⟨T2, _, W2, J2, R2, _, _, _, _, _, _, _, _, _, _, rfl, qInv_k kF (Nat.le_refl i) (qKeep_s (fun b b1 _ => k2 b b1)), by show z.1 + 1 + 3 ≤ _; omega, by show z.2 + 9 + 9 + 9 + 9 ≤ _; omega⟩
end P22
