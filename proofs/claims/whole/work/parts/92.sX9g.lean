/-! the law's cases: what is done to a part -/
section SX9g
variable {sc : xS} {i : Nat} {T : Nat → Nat × Nat} {z : Nat × Nat} {V : Nat → Nat → Int} {J : Nat → Nat → Int64} {R : Nat → Nat → Option Nat}
theorem c_oil {x : Int} (hI : iInv i T z V J R) (hi : i ≤ 512) (hx : (-2147483648 ≤ x ∧ x ≤ 2147483647)) : iCs sc i 64 129 [xw x] kA T z V J R := by
  obtain ⟨⟨hT, hR, hH, hS, hE, hM, h81⟩, hz, hH9, hP9, hO⟩ := id hI
  obtain ⟨P, hP⟩ := id hP9
  have mr := hP.2.1
  have hP40 := hP.1
  by_cases c : 0 ≤ x ∧ x < V 56 3
  · skip
    obtain ⟨p, rfl⟩ : ∃ m : Nat, x = m := ⟨x.toNat, by omega⟩
    have pP : p < P := by omega
    have p40 : p < 40 := by omega
    obtain ⟨a, ea, ha, h1⟩ := pt_y hP pP
    obtain ⟨⟨hPa, ga, gn⟩, ⟨w0, w1, w2, w3, w5, w4⟩, ⟨w7, w8, w12⟩, ⟨w9, w10, w11⟩, ⟨b59, b60, b61, b65⟩, st, wh, bt, w6⟩ := id h1
    obtain ⟨l59, l60, l61, l62, l63, l65, l66, l67, l68, l69, l70⟩ := mr.2 p p40
    have va := pt_va mr p40 h1
    have hx40 : 0 ≤ (p : Int) ∧ (p : Int) < 40 := by omega
    have ha' : R 2 (p : Int).toNat = some a := by rw [Int.toNat_natCast]; exact ha
    have cls := s_oil (sc := sc) (d := 1) (z := z) (V := V) (J := J) hT hx40 ha' hPa.1 (by omega)
    have mod := m_oil (sc := sc) (d := 7) (z := z) (T := T) (R := R) (V := xup2 V a 7 (V a 7 / 2)) (J := xup2 J 81 0 (jI (V a 7 / 2))) hM (xMr_e mr (by rw [xup2_o (by omega)]) (fun r r1 r2 => xup2_o (by omega))) hx
    rw [xup2_o (by omega), if_pos c, Int.toNat_natCast, xup2_o (by omega), ← w7] at mod
    have ro : ∀ b, ¬ b = a → ¬ b = 56 → ¬ b = 65 → xup2 (xup2 (xup2 V a 7 (V a 7 / 2)) 56 28 0) 65 p (V a 7 / 2) b = V b := fun b b1 b2 b3 => by rw [xup2_o b3, xup2_o b2, xup2_o b1]
    have rp : ∀ q, ¬ q = p → xup2 (xup2 (xup2 V a 7 (V a 7 / 2)) 56 28 0) 65 p (V a 7 / 2) 65 q = V 65 q := fun q hq => by rw [xup2_j hq, xup2_o (by decide), xup2_o (by omega)]
    have r56 : ∀ j, ¬ j = 28 → xup2 (xup2 (xup2 V a 7 (V a 7 / 2)) 56 28 0) 65 p (V a 7 / 2) 56 j = V 56 j := fun j hj => by rw [xup2_o (by decide), xup2_j hj, xup2_o (by omega)]
    have rr : ∀ r q, 59 ≤ r → r < 71 → ¬ q = p → xup2 (xup2 (xup2 V a 7 (V a 7 / 2)) 56 28 0) 65 p (V a 7 / 2) r q = V r q := fun r q r1 r2 hq => by
      by_cases e : r = 65
      · subst e; exact rp q hq
      · rw [ro r (by omega) (by omega) e]
    have r65 : xup2 (xup2 (xup2 V a 7 (V a 7 / 2)) 56 28 0) 65 p (V a 7 / 2) 65 p = V a 7 / 2 := xup2_i
    have ra : ∀ j, xup2 (xup2 (xup2 V a 7 (V a 7 / 2)) 56 28 0) 65 p (V a 7 / 2) a j = if j = 7 then V a 7 / 2 else V a j := fun j => by
      rw [xup2_o (by omega), xup2_o (by omega)]
      by_cases e : j = 7
      · subst e; rw [xup2_i, if_pos rfl]
      · rw [xup2_j e, if_neg e]
    refine Or.inl ⟨_, _, _, _, _, _, _, _, (by intro h; exact absurd h (by decide)), cls, h81, hM.1, mod, jc_in.1, by rw [xup2_o (by decide), xup2_i], ?_⟩
    generalize xup2 (xup2 (xup2 V a 7 (V a 7 / 2)) 56 28 0) 65 p (V a 7 / 2) = W at *
    refine iInv_p hI ⟨by omega, by omega⟩ hP pP ea (fun b b1 b2 b3 b4 => ro b b1 b3 (by omega)) r56 rr (fun q hq => by rw [jc_in.2]) ?_ (xMr_u (p := p) mr (r56 3 (by decide)) rr ?_)
    · unfold iPa1 aSt at h1 ⊢
      rw [jc_in.2, ro 59 (by omega) (by decide) (by decide), ro 60 (by omega) (by decide) (by decide), ro 61 (by omega) (by decide) (by decide), ro 62 (by omega) (by decide) (by decide), ro 63 (by omega) (by decide) (by decide), r65, ro 66 (by omega) (by decide) (by decide), ro 67 (by omega) (by decide) (by decide), ro 68 (by omega) (by decide) (by decide), ro 69 (by omega) (by decide) (by decide), ro 70 (by omega) (by decide) (by decide), ro (a + 1) (by omega) (by omega) (by omega)]
      simp only [ra, Nat.reduceEqDiff, if_true, if_false]
      exact ⟨h1.1, h1.2.1, ⟨trivial, w8, w12⟩, h1.2.2.2.1, ⟨b59, b60, b61, by omega⟩, h1.2.2.2.2.2⟩
    · rw [ro 59 (by omega) (by decide) (by decide), ro 60 (by omega) (by decide) (by decide), ro 61 (by omega) (by decide) (by decide), ro 62 (by omega) (by decide) (by decide), ro 63 (by omega) (by decide) (by decide), r65, ro 66 (by omega) (by decide) (by decide), ro 67 (by omega) (by decide) (by decide), ro 68 (by omega) (by decide) (by decide), ro 69 (by omega) (by decide) (by decide), ro 70 (by omega) (by decide) (by decide)]
      exact ⟨l59, l60, l61, l62, l63, by omega, l66, l67, l68, l69, l70⟩
  · have cls := s_oil_x (sc := sc) (d := 1) (z := z) (V := V) (J := J) hT hx (pt_no hP c)
    (refine iCs_x (k := 0) hI hi iScr_r cls (fun T z V J R hI2 eV eM eJ => ?_) (by decide) (by decide); obtain ⟨⟨_, _, _, _, _, hM, _⟩, hz, hH9, hP9, hO⟩ := id hI2; have mod := m_oil (sc := sc) (d := 7) (T := T) (z := z) (V := V) (J := J) (R := R) hM (iInv_mr hI2) hx; rw [if_neg (fun q => c (by rw [eM] at q; exact q))] at mod; exact ⟨_, mod, by rw [xup2_i]; rfl, iScr_f⟩)
theorem c_skive {x v : Int} (hI : iInv i T z V J R) (hi : i ≤ 512) (hx : (-2147483648 ≤ x ∧ x ≤ 2147483647)) (hv : (-2147483648 ≤ v ∧ v ≤ 2147483647)) : iCs sc i 54 107 [xw x, xw v] k123 T z V J R := by
  obtain ⟨⟨hT, hR, hH, hS, hE, hM, h81⟩, hz, hH9, hP9, hO⟩ := id hI
  obtain ⟨P, hP⟩ := id hP9
  have mr := hP.2.1
  have hP40 := hP.1
  by_cases c : 0 ≤ x ∧ x < V 56 3
  · skip
    obtain ⟨p, rfl⟩ : ∃ m : Nat, x = m := ⟨x.toNat, by omega⟩
    have pP : p < P := by omega
    have p40 : p < 40 := by omega
    obtain ⟨a, ea, ha, h1⟩ := pt_y hP pP
    obtain ⟨⟨hPa, ga, gn⟩, ⟨w0, w1, w2, w3, w5, w4⟩, ⟨w7, w8, w12⟩, ⟨w9, w10, w11⟩, ⟨b59, b60, b61, b65⟩, st, wh, bt, w6⟩ := id h1
    obtain ⟨l59, l60, l61, l62, l63, l65, l66, l67, l68, l69, l70⟩ := mr.2 p p40
    have va := pt_va mr p40 h1
    have hx40 : 0 ≤ (p : Int) ∧ (p : Int) < 40 := by omega
    have ha' : R 2 (p : Int).toNat = some a := by rw [Int.toNat_natCast]; exact ha
    have cls := s_skive (sc := sc) (d := 1) (z := z) (V := V) (J := J) hT hx40 ha' hPa.1 hv (by omega) (by omega)
    by_cases c2 : 1 ≤ v ∧ v ≤ V a 5 - 1
    · by_cases c3 : V a 8 ≤ 0
      · rw [if_pos c2, if_pos c3] at cls
        have mod := m_skive (sc := sc) (d := 7) (z := z) (T := T) (R := R) (V := xup2 V a 5 v) (J := xup2 J 81 0 (jI (V a 5))) hM (xMr_e mr (by rw [xup2_o (by omega)]) (fun r r1 r2 => xup2_o (by omega))) hx hv
        rw [xup2_o (show ¬ 56 = a by omega), if_pos c, Int.toNat_natCast, xup2_o (show ¬ 61 = a by omega), xup2_o (show ¬ 66 = a by omega), if_pos (by omega), if_pos (by omega), ← w5] at mod
        have ro : ∀ b, ¬ b = a → ¬ b = 56 → ¬ b = 61 → xup2 (xup2 (xup2 V a 5 v) 56 28 0) 61 p v b = V b := fun b b1 b2 b3 => by rw [xup2_o b3, xup2_o b2, xup2_o b1]
        have r56 : ∀ j, ¬ j = 28 → xup2 (xup2 (xup2 V a 5 v) 56 28 0) 61 p v 56 j = V 56 j := fun j hj => by rw [xup2_o (by decide), xup2_j hj, xup2_o (by omega)]
        have rr : ∀ r q, 59 ≤ r → r < 71 → ¬ q = p → xup2 (xup2 (xup2 V a 5 v) 56 28 0) 61 p v r q = V r q := fun r q r1 r2 hq => by
          by_cases e : r = 61
          · subst e; rw [xup2_j hq, xup2_o (by decide), xup2_o (by omega)]
          · rw [ro r (by omega) (by omega) e]
        have r61 : xup2 (xup2 (xup2 V a 5 v) 56 28 0) 61 p v 61 p = v := xup2_i
        have ra : ∀ j, xup2 (xup2 (xup2 V a 5 v) 56 28 0) 61 p v a j = if j = 5 then v else V a j := fun j => by
          rw [xup2_o (by omega), xup2_o (by omega)]
          by_cases e : j = 5
          · subst e; rw [xup2_i, if_pos rfl]
          · rw [xup2_j e, if_neg e]
        refine Or.inl ⟨_, _, _, _, _, _, _, _, (by intro h; exact absurd h (by decide)), cls, h81, hM.1, mod, jc_in.1, by rw [xup2_o (by decide), xup2_i], ?_⟩
        generalize xup2 (xup2 (xup2 V a 5 v) 56 28 0) 61 p v = W at *
        refine iInv_p hI ⟨by omega, by omega⟩ hP pP ea (fun b b1 b2 b3 b4 => ro b b1 b3 (by omega)) r56 rr (fun q hq => by rw [jc_in.2]) ?_ (xMr_u (p := p) mr (r56 3 (by decide)) rr ?_)
        · unfold iPa1 aSt at h1 ⊢
          rw [jc_in.2, ro 59 (by omega) (by decide) (by decide), ro 60 (by omega) (by decide) (by decide), r61, ro 62 (by omega) (by decide) (by decide), ro 63 (by omega) (by decide) (by decide), ro 65 (by omega) (by decide) (by decide), ro 66 (by omega) (by decide) (by decide), ro 67 (by omega) (by decide) (by decide), ro 68 (by omega) (by decide) (by decide), ro 69 (by omega) (by decide) (by decide), ro 70 (by omega) (by decide) (by decide), ro (a + 1) (by omega) (by omega) (by omega)]
          simp only [ra, Nat.reduceEqDiff, if_true, if_false]
          exact ⟨h1.1, ⟨w0, w1, w2, w3, trivial, w4⟩, h1.2.2.1, h1.2.2.2.1, ⟨b59, b60, c2.1, by omega⟩, h1.2.2.2.2.2⟩
        · rw [ro 59 (by omega) (by decide) (by decide), ro 60 (by omega) (by decide) (by decide), r61, ro 62 (by omega) (by decide) (by decide), ro 63 (by omega) (by decide) (by decide), ro 65 (by omega) (by decide) (by decide), ro 66 (by omega) (by decide) (by decide), ro 67 (by omega) (by decide) (by decide), ro 68 (by omega) (by decide) (by decide), ro 69 (by omega) (by decide) (by decide), ro 70 (by omega) (by decide) (by decide)]
          exact ⟨l59, l60, by omega, l62, l63, l65, l66, l67, l68, l69, l70⟩
      · rw [if_pos c2, if_neg c3] at cls
        (refine iCs_x (k := 0) hI hi iScr_r cls (fun T z V J R hI2 eV eM eJ => ?_) (by decide) (by decide); obtain ⟨⟨_, _, _, _, _, hM, _⟩, hz, hH9, hP9, hO⟩ := id hI2; have mod := m_skive (sc := sc) (d := 7) (T := T) (z := z) (V := V) (J := J) (R := R) hM (iInv_mr hI2) hx hv; rw [eM, if_pos c, Int.toNat_natCast, eV 61 (by omega), eV 66 (by omega), if_pos (by omega), if_neg (by omega)] at mod; exact ⟨_, mod, by rw [xup2_i]; rfl, iScr_f⟩)
    · rw [if_neg c2] at cls
      (refine iCs_x (k := 0) hI hi iScr_r cls (fun T z V J R hI2 eV eM eJ => ?_) (by decide) (by decide); obtain ⟨⟨_, _, _, _, _, hM, _⟩, hz, hH9, hP9, hO⟩ := id hI2; have mod := m_skive (sc := sc) (d := 7) (T := T) (z := z) (V := V) (J := J) (R := R) hM (iInv_mr hI2) hx hv; rw [eM, if_pos c, Int.toNat_natCast, eV 61 (by omega), eV 66 (by omega), if_neg (by omega)] at mod; exact ⟨_, mod, by rw [xup2_i]; rfl, iScr_f⟩)
  · have cls := s_skive_x (v := v) (sc := sc) (d := 1) (z := z) (V := V) (J := J) hT hx (pt_no hP c)
    (refine iCs_x (k := 0) hI hi iScr_r cls (fun T z V J R hI2 eV eM eJ => ?_) (by decide) (by decide); obtain ⟨⟨_, _, _, _, _, hM, _⟩, hz, hH9, hP9, hO⟩ := id hI2; have mod := m_skive (sc := sc) (d := 7) (T := T) (z := z) (V := V) (J := J) (R := R) hM (iInv_mr hI2) hx hv; rw [if_neg (fun q => c (by rw [eM] at q; exact q))] at mod; exact ⟨_, mod, by rw [xup2_i]; rfl, iScr_f⟩)
theorem c_unbuckle {x : Int} (hI : iInv i T z V J R) (hi : i ≤ 512) (hx : (-2147483648 ≤ x ∧ x ≤ 2147483647)) : iCs sc i 59 117 [xw x] kU T z V J R := by
  obtain ⟨⟨hT, hR, hH, hS, hE, hM, h81⟩, hz, hH9, hP9, hO⟩ := id hI
  obtain ⟨P, hP⟩ := id hP9
  have mr := hP.2.1
  have hP40 := hP.1
  by_cases c : 0 ≤ x ∧ x < V 56 3
  · skip
    obtain ⟨p, rfl⟩ : ∃ m : Nat, x = m := ⟨x.toNat, by omega⟩
    have pP : p < P := by omega
    have p40 : p < 40 := by omega
    obtain ⟨a, ea, ha, h1⟩ := pt_y hP pP
    obtain ⟨⟨hPa, ga, gn⟩, ⟨w0, w1, w2, w3, w5, w4⟩, ⟨w7, w8, w12⟩, ⟨w9, w10, w11⟩, ⟨b59, b60, b61, b65⟩, st, wh, bt, w6⟩ := id h1
    obtain ⟨l59, l60, l61, l62, l63, l65, l66, l67, l68, l69, l70⟩ := mr.2 p p40
    have va := pt_va mr p40 h1
    have hx40 : 0 ≤ (p : Int) ∧ (p : Int) < 40 := by omega
    have ha' : R 2 (p : Int).toNat = some a := by rw [Int.toNat_natCast]; exact ha
    have cls := s_unbuckle (sc := sc) (d := 1) (z := z) (V := V) (J := J) hT hx40 ha' hPa.1 (va 11 (by decide))
    have st' : V 68 p = -1 ↔ V a 11 = -1 := by unfold aSt at st; omega
    by_cases c2 : V a 11 = -1
    · rw [if_pos c2] at cls
      (refine iCs_x (k := 0) hI hi iScr_r cls (fun T z V J R hI2 eV eM eJ => ?_) (by decide) (by decide); obtain ⟨⟨_, _, _, _, _, hM, _⟩, hz, hH9, hP9, hO⟩ := id hI2; have mod := m_unbuckle (sc := sc) (d := 7) (T := T) (z := z) (V := V) (J := J) (R := R) hM (iInv_mr hI2) hx; rw [eM, if_pos c, Int.toNat_natCast, eV 68 (by omega), if_pos (st'.mpr c2)] at mod; exact ⟨_, mod, by rw [xup2_i]; rfl, iScr_f⟩)
    · rw [if_neg c2] at cls
      have go : ∀ b, ¬ b = a → xGo V a b = V b := fun b hb => by unfold xGo; rw [xup2_o hb, xup2_o hb, xup2_o hb]
      have ga' : ∀ j, xGo V a a j = if j = 9 ∨ j = 10 ∨ j = 11 then -1 else V a j := fun j => by
        unfold xGo
        by_cases e1 : j = 11
        · subst e1; rw [xup2_i, if_pos (by omega)]
        · rw [xup2_j e1]
          by_cases e2 : j = 10
          · subst e2; rw [xup2_i, if_pos (by omega)]
          · rw [xup2_j e2]
            by_cases e3 : j = 9
            · subst e3; rw [xup2_i, if_pos (by omega)]
            · rw [xup2_j e3, if_neg (by omega)]
      have mod := m_unbuckle (sc := sc) (d := 7) (z := z) (T := T) (R := R) (V := xGo V a) (J := xup2 J 81 0 (jI (V a 11))) hM (xMr_e mr (by rw [go 56 (by omega)]) (fun r r1 r2 => go r (by omega))) hx
      rw [go 56 (by omega), if_pos c, Int.toNat_natCast, go 68 (by omega), if_neg (fun q => c2 (st'.mp q)), go 70 (by omega), ← w11] at mod
      have fo : ∀ b, ¬ (68 ≤ b ∧ b ≤ 70) → (xFe (xup2 (xGo V a) 56 28 0) p) b = xup2 (xGo V a) 56 28 0 b := fun b hb => by unfold xFe; rw [xup2_o (by omega), xup2_o (by omega), xup2_o (by omega)]
      have ro : ∀ b, ¬ b = a → ¬ b = 56 → ¬ (68 ≤ b ∧ b ≤ 70) → (xFe (xup2 (xGo V a) 56 28 0) p) b = V b := fun b b1 b2 b3 => by rw [fo b b3, xup2_o b2, go b b1]
      have r56 : ∀ j, ¬ j = 28 → (xFe (xup2 (xGo V a) 56 28 0) p) 56 j = V 56 j := fun j hj => by rw [fo 56 (by decide), xup2_j hj, go 56 (by omega)]
      have rr : ∀ r q, 59 ≤ r → r < 71 → ¬ q = p → (xFe (xup2 (xGo V a) 56 28 0) p) r q = V r q := fun r q r1 r2 hq => by
        by_cases e : 68 ≤ r
        · rcases (show r = 68 ∨ r = 69 ∨ r = 70 by omega) with rfl | rfl | rfl
          · unfold xFe; rw [xup2_o (by decide), xup2_o (by decide), xup2_j hq, xup2_o (by decide), go 68 (by omega)]
          · unfold xFe; rw [xup2_o (by decide), xup2_j hq, xup2_o (by decide), xup2_o (by decide), go 69 (by omega)]
          · unfold xFe; rw [xup2_j hq, xup2_o (by decide), xup2_o (by decide), xup2_o (by decide), go 70 (by omega)]
        · rw [ro r (by omega) (by omega) (by omega)]
      have r68 : (xFe (xup2 (xGo V a) 56 28 0) p) 68 p = -1 := by unfold xFe; rw [xup2_o (by decide), xup2_o (by decide), xup2_i]
      have r69 : (xFe (xup2 (xGo V a) 56 28 0) p) 69 p = -1 := by unfold xFe; rw [xup2_o (by decide), xup2_i]
      have r70 : (xFe (xup2 (xGo V a) 56 28 0) p) 70 p = -1 := by unfold xFe; rw [xup2_i]
      have ra : ∀ j, (xFe (xup2 (xGo V a) 56 28 0) p) a j = if j = 9 ∨ j = 10 ∨ j = 11 then -1 else V a j := fun j => by rw [fo a (by omega), xup2_o (by omega), ga']
      have h28 : (xFe (xup2 (xGo V a) 56 28 0) p) 56 28 = 0 := by rw [fo 56 (by decide), xup2_i]
      refine Or.inl ⟨_, _, _, _, _, _, _, _, (by intro h; exact absurd h (by decide)), cls, h81, hM.1, mod, jc_in.1, h28, ?_⟩
      generalize (xFe (xup2 (xGo V a) 56 28 0) p) = W at *
      refine iInv_p hI ⟨by omega, by omega⟩ hP pP ea (fun b b1 b2 b3 b4 => ro b b1 b3 (by omega)) r56 rr (fun q hq => by rw [jc_in.2]) ?_ (xMr_u (p := p) mr (r56 3 (by decide)) rr ?_)
      · unfold iPa1 aSt at h1 ⊢
        rw [jc_in.2, ro 59 (by omega) (by decide) (by decide), ro 60 (by omega) (by decide) (by decide), ro 61 (by omega) (by decide) (by decide), ro 62 (by omega) (by decide) (by decide), ro 63 (by omega) (by decide) (by decide), ro 65 (by omega) (by decide) (by decide), ro 66 (by omega) (by decide) (by decide), ro 67 (by omega) (by decide) (by decide), r68, r69, r70, ro (a + 1) (by omega) (by omega) (by omega)]
        simp only [ra, Nat.reduceEqDiff, if_true, if_false, or_self, or_true, true_or, false_or, or_false]
        exact ⟨h1.1, h1.2.1, h1.2.2.1, ⟨by decide, by decide, trivial⟩, ⟨b59, b60, b61, by omega⟩, Or.inl ⟨trivial, trivial, trivial⟩, h1.2.2.2.2.2.2⟩
      · rw [ro 59 (by omega) (by decide) (by decide), ro 60 (by omega) (by decide) (by decide), ro 61 (by omega) (by decide) (by decide), ro 62 (by omega) (by decide) (by decide), ro 63 (by omega) (by decide) (by decide), ro 65 (by omega) (by decide) (by decide), ro 66 (by omega) (by decide) (by decide), ro 67 (by omega) (by decide) (by decide), r68, r69, r70]
        exact ⟨l59, l60, l61, l62, l63, l65, l66, l67, by decide, by decide, by decide⟩
  · have cls := s_unbuckle_x (sc := sc) (d := 1) (z := z) (V := V) (J := J) hT hx (pt_no hP c)
    (refine iCs_x (k := 0) hI hi iScr_r cls (fun T z V J R hI2 eV eM eJ => ?_) (by decide) (by decide); obtain ⟨⟨_, _, _, _, _, hM, _⟩, hz, hH9, hP9, hO⟩ := id hI2; have mod := m_unbuckle (sc := sc) (d := 7) (T := T) (z := z) (V := V) (J := J) (R := R) hM (iInv_mr hI2) hx; rw [if_neg (fun q => c (by rw [eM] at q; exact q))] at mod; exact ⟨_, mod, by rw [xup2_i]; rfl, iScr_f⟩)
theorem c_part {x v : Int} (hI : iInv i T z V J R) (hi : i ≤ 512) (hx : (-2147483648 ≤ x ∧ x ≤ 2147483647)) (hv : (-2147483648 ≤ v ∧ v ≤ 2147483647)) : iCs sc i 57 113 [xw x, xw v] kB T z V J R := by
  obtain ⟨⟨hT, hR, hH, hS, hE, hM, h81⟩, hz, hH9, hP9, hO⟩ := id hI
  obtain ⟨P, hP⟩ := id hP9
  have mr := hP.2.1
  have hP40 := hP.1
  by_cases c : 0 ≤ x ∧ x < V 56 3
  · skip
    obtain ⟨p, rfl⟩ : ∃ m : Nat, x = m := ⟨x.toNat, by omega⟩
    have pP : p < P := by omega
    have p40 : p < 40 := by omega
    obtain ⟨a, ea, ha, h1⟩ := pt_y hP pP
    obtain ⟨⟨hPa, ga, gn⟩, ⟨w0, w1, w2, w3, w5, w4⟩, ⟨w7, w8, w12⟩, ⟨w9, w10, w11⟩, ⟨b59, b60, b61, b65⟩, st, wh, bt, w6⟩ := id h1
    obtain ⟨l59, l60, l61, l62, l63, l65, l66, l67, l68, l69, l70⟩ := mr.2 p p40
    have va := pt_va mr p40 h1
    have hx40 : 0 ≤ (p : Int) ∧ (p : Int) < 40 := by omega
    have ha' : R 2 (p : Int).toNat = some a := by rw [Int.toNat_natCast]; exact ha
    have cls := s_part (sc := sc) (d := 1) (z := z) (V := V) (J := J) hT hx40 ha' hPa.1 (va 6 (by decide)) (by rw [w1, w5]; exact mul_in l60 l61) (by omega) (va 12 (by decide)) hv
    by_cases c2 : 0 ≤ v ∧ v ≤ 10
    · rw [if_pos c2] at cls
      have e : xTl V a v = xMtl V (xup2 J 81 0 (jI (xTl V a v))) p v := by
        unfold xMtl
        rw [show xHc (xup2 J 81 0 (jI (xTl V a v)) 64 p) (4 * V 59 p + 1).toNat 0 = V a 6 by rw [jc_in.2]; exact pt_hc mr p40 h1, show xSm3 V (xup2 J 81 0 (jI (xTl V a v))) p = xSt V a by unfold xSm3; rw [jc_in.2]; exact (pt_st mr p40 h1).symm]
        unfold xTl
        rw [w0, w1, w5, w2, w7, w9, w10, w11, w12]
      refine iCs_o hI hi (by intro h; exact absurd h (by decide)) cls ?_
      have mod := m_part (sc := sc) (d := 7) (z := z) (T := T) (R := R) (V := V) (J := xup2 J 81 0 (jI (xTl V a v))) hM mr hx hv
      rw [if_pos c, if_pos c2, Int.toNat_natCast, ← e] at mod
      exact mod
    · rw [if_neg c2] at cls
      (refine iCs_x (k := 0) hI hi iScr_r cls (fun T z V J R hI2 eV eM eJ => ?_) (by decide) (by decide); obtain ⟨⟨_, _, _, _, _, hM, _⟩, hz, hH9, hP9, hO⟩ := id hI2; have mod := m_part (sc := sc) (d := 7) (T := T) (z := z) (V := V) (J := J) (R := R) hM (iInv_mr hI2) hx hv; rw [eM, if_pos c, if_neg c2] at mod; exact ⟨_, mod, by rw [xup2_i]; rfl, iScr_f⟩)
  · have cls := s_part_x (v := v) (sc := sc) (d := 1) (z := z) (V := V) (J := J) hT hx (pt_no hP c)
    (refine iCs_x (k := 0) hI hi iScr_r cls (fun T z V J R hI2 eV eM eJ => ?_) (by decide) (by decide); obtain ⟨⟨_, _, _, _, _, hM, _⟩, hz, hH9, hP9, hO⟩ := id hI2; have mod := m_part (sc := sc) (d := 7) (T := T) (z := z) (V := V) (J := J) (R := R) hM (iInv_mr hI2) hx hv; rw [if_neg (fun q => c (by rw [eM] at q; exact q))] at mod; exact ⟨_, mod, by rw [xup2_i]; rfl, iScr_f⟩)
theorem c_match {x y : Int} (hI : iInv i T z V J R) (hi : i ≤ 512) (hx : (-2147483648 ≤ x ∧ x ≤ 2147483647)) (hy : (-2147483648 ≤ y ∧ y ≤ 2147483647)) : iCs sc i 56 111 [xw x, xw y] kA T z V J R := by
  obtain ⟨⟨hT, hR, hH, hS, hE, hM, h81⟩, hz, hH9, hP9, hO⟩ := id hI
  obtain ⟨P, hP⟩ := id hP9
  have mr := hP.2.1
  have hP40 := hP.1
  by_cases c : 0 ≤ x ∧ x < V 56 3
  · skip
    obtain ⟨p, rfl⟩ : ∃ m : Nat, x = m := ⟨x.toNat, by omega⟩
    have pP : p < P := by omega
    have p40 : p < 40 := by omega
    obtain ⟨a, ea, ha, h1⟩ := pt_y hP pP
    obtain ⟨⟨hPa, ga, gn⟩, ⟨w0, w1, w2, w3, w5, w4⟩, ⟨w7, w8, w12⟩, ⟨w9, w10, w11⟩, ⟨b59, b60, b61, b65⟩, st, wh, bt, w6⟩ := id h1
    obtain ⟨l59, l60, l61, l62, l63, l65, l66, l67, l68, l69, l70⟩ := mr.2 p p40
    have va := pt_va mr p40 h1
    have hx40 : 0 ≤ (p : Int) ∧ (p : Int) < 40 := by omega
    have ha' : R 2 (p : Int).toNat = some a := by rw [Int.toNat_natCast]; exact ha
    by_cases c2 : 0 ≤ y ∧ y < V 56 3
    · obtain ⟨q, rfl⟩ : ∃ m : Nat, y = m := ⟨y.toNat, by omega⟩
      obtain ⟨b, eb, hb, h2⟩ := pt_y hP (show q < P by omega)
      have vb := pt_va mr (show q < 40 by omega) h2
      obtain ⟨⟨hPb, _, _⟩, ⟨u0, u1, u2, u3, u5, u4⟩, _⟩ := id h2
      have cls := s_match (sc := sc) (d := 1) (z := z) (V := V) (J := J) hT hx40 ha' hPa.1 (show 0 ≤ (q : Int) ∧ (q : Int) < 40 by omega) (by rw [Int.toNat_natCast]; exact hb) hPb.1 va vb
      have e : xMa V a b = xMm V p q := by unfold xMa xMm; rw [w0, w1, w2, w3, w5, u0, u1, u2, u3, u5]
      refine iCs_o hI hi (fun _ => by rw [e]; unfold xMm; split; exact Or.inr rfl; exact Or.inl rfl) cls ?_
      have mod := m_match (sc := sc) (d := 7) (z := z) (T := T) (R := R) (V := V) (J := xup2 J 81 0 (jI (xMm V p q))) hM mr hx hy
      rw [if_pos ⟨c, c2⟩, Int.toNat_natCast, Int.toNat_natCast] at mod
      rw [e]; exact mod
    · have cls := s_match_x2 (sc := sc) (d := 1) (z := z) (V := V) (J := J) hT hx40 ha' hy (pt_no hP c2)
      (refine iCs_x (k := 0) hI hi iScr_r cls (fun T z V J R hI2 eV eM eJ => ?_) (by decide) (by decide); obtain ⟨⟨_, _, _, _, _, hM, _⟩, hz, hH9, hP9, hO⟩ := id hI2; have mod := m_match (sc := sc) (d := 7) (T := T) (z := z) (V := V) (J := J) (R := R) hM (iInv_mr hI2) hx hy; rw [eM, if_neg (fun q => c2 q.2)] at mod; exact ⟨_, mod, by rw [xup2_i]; rfl, iScr_f⟩)
  · have cls := s_match_x1 (sc := sc) (d := 1) (z := z) (V := V) (J := J) (y := y) hT hx (pt_no hP c)
    (refine iCs_x (k := 0) hI hi iScr_r cls (fun T z V J R hI2 eV eM eJ => ?_) (by decide) (by decide); obtain ⟨⟨_, _, _, _, _, hM, _⟩, hz, hH9, hP9, hO⟩ := id hI2; have mod := m_match (sc := sc) (d := 7) (T := T) (z := z) (V := V) (J := J) (R := R) hM (iInv_mr hI2) hx hy; rw [if_neg (fun q => c (by rw [eM] at q; exact q.1))] at mod; exact ⟨_, mod, by rw [xup2_i]; rfl, iScr_f⟩)
end SX9g
