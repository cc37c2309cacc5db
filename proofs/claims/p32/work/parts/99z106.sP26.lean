/-! the property's law: its start -/
def t0 : Nat → Nat × Nat := fun _ => (0, 0)
section P26
variable {sc : xS}
theorem aS_0 {O Q L : Nat → Int} {x y : Nat} : aS O Q L x y 0 = 100000000 := rfl
theorem pDs_0 {V : Nat → Nat → Int} {t f : Nat} (ht : t < 8) (hf : f < 8) (nft : ¬ f = t) : ¬ pDs V 0 t f < 1000000 := by
  intro q
  obtain ⟨k, _, k2, _⟩ := (pDs_ok (V := V) (n := 0) ht).2.2.2 f hf nft q
  unfold pCo aCo at k2
  rw [aS_0, if_neg (by decide)] at k2
  omega
theorem ck {e : Nat} {T : Nat → Nat × Nat} {z : Nat × Nat} {V W : Nat → Nat → Int} {J : Nat → Nat → Int64} {R : Nat → Nat → Option Nat} (hI : qInv 0 T z V R) (h63 : V 63 0 = 0 ∧ V 63 1 = 0) (hW : ∀ b, ¬ (3 ≤ b ∧ b ≤ 8) → ¬ b = 54 → W b = V b) :
    ∃ (T' : Nat → Nat × Nat) (V' : Nat → Nat → Int) (J' : Nat → Nat → Int64) (R' : Nat → Nat → Option Nat), (va_up T z.1 (1 + e, 0) = T' ∧ va_up W z.1 (fun _ => 0) = V' ∧ va_up J z.1 (fun _ => 0) = J' ∧ va_up R z.1 (fun _ => none) = R') ∧ qInv 0 T' (z.1 + 1, z.2 + 6) V' R' ∧ V' 63 0 = 0 ∧ V' 63 1 = 0 :=
  ⟨_, _, _, _, ⟨rfl, rfl, rfl, rfl⟩, qInv_k hI (Nat.le_refl 0) (qKeep_x hI.2.1 hW), by have := hI.2.1; rw [va_ne (by omega), hW 63 (by decide) (by decide)]; exact h63⟩
theorem law_checks {T : Nat → Nat × Nat} {z : Nat × Nat} {V : Nat → Nat → Int} {J : Nat → Nat → Int64} {R : Nat → Nat → Option Nat} (hI : qInv 0 T z V R) (h63 : V 63 0 = 0 ∧ V 63 1 = 0) :
    ∃ (T' : Nat → Nat × Nat) (z' : Nat × Nat) (V' : Nat → Nat → Int) (J' : Nat → Nat → Int64) (R' : Nat → Nat → Option Nat), xret 109 (XR sc 11 109) 61 64 [some (.retAddr 0), some (.ref 0), some (.ref 56), some (.ref 57), some (.ref 58), some (.ref 59), some (.ref 60), some (.ref 61), some (.ref 62), some (.ref 63), none, none, none, none, none] [] (X sc 11 92 [.ref 0, xw 3, xw 0, xw 1, xw 1, xw 0, xw 1, xw 0] (T, z, xv V, J, R)) = XR sc 11 109 175 [some (.retAddr 0), some (.ref 0), some (.ref 56), some (.ref 57), some (.ref 58), some (.ref 59), some (.ref 60), some (.ref 61), some (.ref 62), some (.ref 63), some (xw 1), some (xw 0), none, none, none] [] (T', z', xv V', J', R') ∧ qInv 0 T' z' V' R' ∧ z'.1 ≤ z.1 + 6 ∧ z'.2 ≤ z.2 + 36 := by
  have pz : ∀ {T : Nat → Nat × Nat} {z : Nat × Nat} {V : Nat → Nat → Int} {R : Nat → Nat → Option Nat}, qInv 0 T z V R → V 63 1 = 0 → qPar 0 T z.1 V R 0 := fun h h1 => by
    obtain ⟨P, hP⟩ := h.2.2.2.1
    have := hP.1.2.2
    obtain rfl : P = 0 := by omega
    exact hP
  -- find: no hide
  obtain ⟨H, hH⟩ := hI.2.2.1
  have c1 := s_find_x (sc := sc) (d := 2) (T := T) (z := z) (V := V) (J := J) (R := R) (x := 0) (al := 1) (wi := 1) (st := 0) (le := 1) hI.1.1 (by decide) (qd_no hH (by have := hH.1.2.2; omega))
  obtain ⟨T1, V1, J1, R1, ⟨e1a, e1b, e1c, e1d⟩, k1, h1⟩ := ck (e := 10) (J := J) (W := V) hI h63 (fun _ _ _ => rfl)
  rw [dx_find hI.1.1.1 (by decide) (by decide) c1, e1a, e1b, e1c, e1d, xret_v, bL_law_64 (by first | omega | exact xB_in _ | exact xB_01 _ | exact iAnd_in | exact iShr_in | (simp only [Int.toNat_natCast]; omega) | decide), if_pos (by first | omega | decide), bL_law_69]
  clear c1 e1a e1b e1c e1d
  -- pull: rings alike
  have c2 := s_pull (sc := sc) (d := 1) (T := T1) (z := (z.1 + 1, z.2 + 6)) (V := V1) (J := J1) (R := R1) (f := 0) (t := 0) (g := 5) k1.1.1 k1.1.2.1 (qp_xPq (pz k1 h1.2) (by decide)) (by decide) (by decide) (by decide)
  rw [if_pos (by decide), if_neg (by decide)] at c2
  obtain ⟨T2, V2, J2, R2, ⟨e2a, e2b, e2c, e2d⟩, k2, h2⟩ := ck (e := 8) (J := J1) (W := V1) k1 h1 (fun _ _ _ => rfl)
  rw [dx_pull k1.1.1.1 (by decide) c2, e2a, e2b, e2c, e2d, xret_v, bL_law_81 (by first | omega | exact xB_in _ | exact xB_01 _ | exact iAnd_in | exact iShr_in | (simp only [Int.toNat_natCast]; omega) | decide), if_pos (by first | omega | decide), bL_law_86]
  clear c2 e2a e2b e2c e2d
  -- pull: no way
  have c3 := s_pull (sc := sc) (d := 1) (T := T2) (z := (z.1 + 1 + 1, z.2 + 6 + 6)) (V := V2) (J := J2) (R := R2) (f := 0) (t := 1) (g := 5) k2.1.1 k2.1.2.1 (qp_xPq (pz k2 h2.2) (by decide)) (by decide) (by decide) (by decide)
  have r3 := (look_ok k2.1.2.1 (qp_xPq (pz k2 h2.2) (by decide)) (qp_aCl (pz k2 h2.2)) (show 1 < 8 by decide) (show 0 < 8 by decide) (pDs_ok (V := V2) (n := 0) (by decide))).1
  rw [if_neg (pDs_0 (by decide) (by decide) (by decide))] at r3
  rw [if_pos (by decide), if_pos (by decide), show Int.toNat 0 = 0 from rfl, show Int.toNat 1 = 1 from rfl, if_pos (by omega)] at c3
  obtain ⟨T3, V3, J3, R3, ⟨e3a, e3b, e3c, e3d⟩, k3, h3⟩ := ck (e := 9) (J := J2) (W := xLk R2 V2 0 1) k2 h2 (fun b b1 _ => xLk_ne (by omega))
  rw [dx_pull k2.1.1.1 (by decide) c3, e3a, e3b, e3c, e3d, xret_v, bL_law_98 (by first | omega | exact xB_in _ | exact xB_01 _ | exact iAnd_in | exact iShr_in | (simp only [Int.toNat_natCast]; omega) | decide), if_pos (by first | omega | decide), bL_law_103]
  clear c3 r3 e3a e3b e3c e3d
  -- holds: no ring
  have c4 := s_holds (sc := sc) (d := 1) (T := T3) (z := (z.1 + 1 + 1 + 1, z.2 + 6 + 6 + 6)) (V := V3) (J := J3) (R := R3) (f := 0) (t := 8) k3.1.1 k3.1.2.1 (qp_xPq (pz k3 h3.2) (by decide)) (by decide) (by decide)
  rw [if_neg (by decide)] at c4
  obtain ⟨T4, V4, J4, R4, ⟨e4a, e4b, e4c, e4d⟩, k4, h4⟩ := ck (e := 10) (J := J3) (W := V3) k3 h3 (fun _ _ _ => rfl)
  rw [dx_holds k3.1.1.1 (by decide) c4, e4a, e4b, e4c, e4d, xret_v, bL_law_116 (by first | omega | exact xB_in _ | exact xB_01 _ | exact iAnd_in | exact iShr_in | (simp only [Int.toNat_natCast]; omega) | decide), if_pos (by first | omega | decide), bL_law_121]
  clear c4 e4a e4b e4c e4d
  -- way: no place
  have c5 := s_way (sc := sc) (d := 2) (T := T4) (z := (z.1 + 1 + 1 + 1 + 1, z.2 + 6 + 6 + 6 + 6)) (V := V4) (J := J4) (R := R4) (f := 0) (t := 1) (p := -1) k4.1.1 k4.1.2.1 (qp_xPq (pz k4 h4.2) (by decide)) (by decide) (by decide) (by decide)
  rw [if_neg (by decide)] at c5
  obtain ⟨T5, V5, J5, R5, ⟨e5a, e5b, e5c, e5d⟩, k5, h5⟩ := ck (e := 10) (J := J4) (W := V4) k4 h4 (fun _ _ _ => rfl)
  rw [dx_way k4.1.1.1 (by decide) c5, e5a, e5b, e5c, e5d, xret_v, bL_law_133 (by first | omega | exact xB_in _ | exact xB_01 _ | exact iAnd_in | exact iShr_in | (simp only [Int.toNat_natCast]; omega) | decide), if_pos (by first | omega | decide), bL_law_138]
  clear c5 e5a e5b e5c e5d
  -- rest: no day
  obtain ⟨a1, a2, a3, a4, a5, a6, ⟨a7, a8⟩, a9, a10⟩ := id k5.2.2.2.2
  have c6 := s_rest (sc := sc) (d := 2) (T := T5) (z := (z.1 + 1 + 1 + 1 + 1 + 1, z.2 + 6 + 6 + 6 + 6 + 6)) (V := V5) (J := J5) (R := R5) (dy := 0) k5.1.1 k5.1.2.2.1 (fun h j hh hj => by
    by_cases c : h < 2
    · rw [(a1 h j c hj).2]
      have := a7 (7 * h + j) (by omega)
      rw [← Nat.add_assoc] at this
      omega
    · rw [a4 h j (by omega) hh hj]; decide) (by decide)
  rw [if_neg (by decide)] at c6
  obtain ⟨T6, V6, J6, R6, ⟨e6a, e6b, e6c, e6d⟩, k6, h6⟩ := ck (e := 8) (J := J5) (W := V5) k5 h5 (fun _ _ _ => rfl)
  rw [dx_rest k5.1.1.1 (by decide) c6, e6a, e6b, e6c, e6d, xret_v, bL_law_150 (by decide), if_pos (by decide), bL_law_155 k6.1.1.1]
  clear c6 e6a e6b e6c e6d a1 a2 a3 a4 a5 a6 a7 a8 a9 a10
  -- holds: no way
  have c7 := s_holds (sc := sc) (d := 2) (T := T6) (z := (z.1 + 1 + 1 + 1 + 1 + 1 + 1, z.2 + 6 + 6 + 6 + 6 + 6 + 6)) (V := V6) (J := J6) (R := R6) (f := 2) (t := 3) k6.1.1 k6.1.2.1 (qp_xPq (pz k6 h6.2) (by decide)) (by decide) (by decide)
  have r7 := (look_ok k6.1.2.1 (qp_xPq (pz k6 h6.2) (by decide)) (qp_aCl (pz k6 h6.2)) (show 3 < 8 by decide) (show 2 < 8 by decide) (pDs_ok (V := V6) (n := 0) (by decide))).1
  rw [if_neg (pDs_0 (by decide) (by decide) (by decide))] at r7
  rw [if_pos (by decide), if_neg (by decide), show Int.toNat 2 = 2 from rfl, show Int.toNat 3 = 3 from rfl, if_pos (by omega)] at c7
  rw [c7, xret_v, bL_law_161 (by first | omega | exact xB_in _ | exact xB_01 _ | exact iAnd_in | exact iShr_in | (simp only [Int.toNat_natCast]; omega) | decide), if_pos (by first | omega | decide), bL_law_165, bL_law_170]
  exact ⟨_, _, _, _, _, rfl, qInv_k k6 (Nat.le_refl 0) (qKeep_s (fun b b1 _ => xLk_ne (by omega))), by show z.1 + 1 + 1 + 1 + 1 + 1 + 1 ≤ _; omega, by show z.2 + 6 + 6 + 6 + 6 + 6 + 6 ≤ _; omega⟩
theorem law_start : ∃ (T : Nat → Nat × Nat) (u : Nat) (R : Nat → Nat → Option Nat), X sc 12 109 [.retAddr 0] (t0, (0, 0), xv (i0 0), i0 0, i0 none) = xret 109 (XR sc 11 109) 61 64 [some (.retAddr 0), some (.ref 0), some (.ref 56), some (.ref 57), some (.ref 58), some (.ref 59), some (.ref 60), some (.ref 61), some (.ref 62), some (.ref 63), none, none, none, none, none] [] (X sc 11 92 [.ref 0, xw 3, xw 0, xw 1, xw 1, xw 0, xw 1, xw 0] (T, (64, u), xv (i0 0), i0 0, R)) ∧ u ≤ 5000 ∧ qInv 0 T (64, u) (i0 0) R := by
  refine ⟨?T, ?u, ?R, ?h1, ?h3, ?h2⟩
  case h1 =>
    rw [eL_law, bL_law_0 (by decide +kernel)]
    simp only [i0_va, Nat.reduceAdd]
    rw [eX6_init, bX6_init_0 (by decide) (by decide +kernel) (by decide +kernel) (by decide +kernel)]
    simp only [i0_va, Nat.reduceAdd]
    rw [eX3_init, bX3_init_0 (by decide) (by decide +kernel) (by decide +kernel) (by decide +kernel) (by decide +kernel) (by decide +kernel), xret_n]
    simp only [i0_va, Nat.reduceAdd]
    rw [bX6_init_30 (by decide +kernel) (by decide +kernel)]
    simp only [i0_va, Nat.reduceAdd]
    rw [bX6_init_44 (by decide), if_neg (by decide), st_horse (g := 9) (by decide) (by decide +kernel) (by decide +kernel) (by decide +kernel) (by decide) (by decide)]
    simp only [Nat.reduceAdd, Int.reduceAdd, Int.reduceToNat]
    rw [bX6_init_44 (by decide), if_neg (by decide), st_horse (g := 9) (by decide) (by decide +kernel) (by decide +kernel) (by decide +kernel) (by decide) (by decide)]
    simp only [Nat.reduceAdd, Int.reduceAdd, Int.reduceToNat]
    rw [bX6_init_44 (by decide), if_neg (by decide), st_horse (g := 9) (by decide) (by decide +kernel) (by decide +kernel) (by decide +kernel) (by decide) (by decide)]
    simp only [Nat.reduceAdd, Int.reduceAdd, Int.reduceToNat]
    rw [bX6_init_44 (by decide), if_neg (by decide), st_horse (g := 9) (by decide) (by decide +kernel) (by decide +kernel) (by decide +kernel) (by decide) (by decide)]
    simp only [Nat.reduceAdd, Int.reduceAdd, Int.reduceToNat]
    rw [bX6_init_44 (by decide), if_neg (by decide), st_horse (g := 9) (by decide) (by decide +kernel) (by decide +kernel) (by decide +kernel) (by decide) (by decide)]
    simp only [Nat.reduceAdd, Int.reduceAdd, Int.reduceToNat]
    rw [bX6_init_44 (by decide), if_neg (by decide), st_horse (g := 9) (by decide) (by decide +kernel) (by decide +kernel) (by decide +kernel) (by decide) (by decide)]
    simp only [Nat.reduceAdd, Int.reduceAdd, Int.reduceToNat]
    rw [bX6_init_44 (by decide), if_pos (by decide), bX6_init_69 (by decide +kernel)]
    simp only [i0_va, Nat.reduceAdd]
    rw [bX6_init_80 (by decide), if_neg (by decide), st_saddle (g := 34) (by decide) (by decide +kernel) (by decide +kernel) (by decide +kernel) (by decide) (by decide)]
    simp only [Nat.reduceAdd, Int.reduceAdd, Int.reduceToNat]
    rw [bX6_init_80 (by decide), if_neg (by decide), st_saddle (g := 34) (by decide) (by decide +kernel) (by decide +kernel) (by decide +kernel) (by decide) (by decide)]
    simp only [Nat.reduceAdd, Int.reduceAdd, Int.reduceToNat]
    rw [bX6_init_80 (by decide), if_neg (by decide), st_saddle (g := 34) (by decide) (by decide +kernel) (by decide +kernel) (by decide +kernel) (by decide) (by decide)]
    simp only [Nat.reduceAdd, Int.reduceAdd, Int.reduceToNat]
    rw [bX6_init_80 (by decide), if_neg (by decide), st_saddle (g := 34) (by decide) (by decide +kernel) (by decide +kernel) (by decide +kernel) (by decide) (by decide)]
    simp only [Nat.reduceAdd, Int.reduceAdd, Int.reduceToNat]
    rw [bX6_init_80 (by decide), if_neg (by decide), st_saddle (g := 34) (by decide) (by decide +kernel) (by decide +kernel) (by decide +kernel) (by decide) (by decide)]
    simp only [Nat.reduceAdd, Int.reduceAdd, Int.reduceToNat]
    rw [bX6_init_80 (by decide), if_neg (by decide), st_saddle (g := 34) (by decide) (by decide +kernel) (by decide +kernel) (by decide +kernel) (by decide) (by decide)]
    simp only [Nat.reduceAdd, Int.reduceAdd, Int.reduceToNat]
    rw [bX6_init_80 (by decide), if_pos (by decide), bX6_init_105 (by decide +kernel)]
    simp only [i0_va, Nat.reduceAdd]
    rw [eX5_init, bX5_init_0 (by decide) (by decide +kernel) (by decide +kernel), xret_n, bX6_init_113 (by decide +kernel), xret_n]
    simp only [i0_va, Nat.reduceAdd]
    rw [bL_law_7]
    simp only [i0_va, Nat.reduceAdd]
    rfl
  case h3 => decide
  case h2 =>
    refine ⟨⟨?_, ?_, ?_, ?_, ?_, ?_⟩, Nat.le_refl 64, ⟨0, ⟨by decide, rfl, rfl⟩, ?_, ⟨fun h _ _ r _ => rfl, fun j _ _ k _ hk => iBt_0 k hk⟩, fun h hh => absurd hh (Nat.not_lt_zero h), fun h h' hh => absurd hh (Nat.not_lt_zero h)⟩, ⟨0, ⟨by decide, rfl, rfl⟩, ?_, ⟨fun p _ _ => ⟨rfl, rfl, rfl⟩, rfl⟩, fun h hh => absurd hh (Nat.not_lt_zero h), fun h h' hh => absurd hh (Nat.not_lt_zero h)⟩, ?_⟩
    · unfold xTr; decide +kernel
    · unfold xRo; decide +kernel
    · unfold xHs xHo; decide +kernel
    · unfold xSs xSa; decide +kernel
    · unfold xSe; decide +kernel
    · unfold pAr; decide +kernel
    · exact fun h _ hh => (show ∀ h, h < 8 → _ = none by decide +kernel) h hh
    · exact fun p _ hp => (show ∀ p, p < 40 → _ = none by decide +kernel) p hp
    · refine ⟨fun h k _ _ => ⟨rfl, rfl⟩, fun s k _ _ => ⟨rfl, rfl⟩, ⟨fun h k _ _ => by unfold i0; decide, fun s k _ _ => by unfold i0; decide⟩, fun h k _ _ _ => rfl, fun h k _ _ => ⟨fun w _ => ?_, rfl, fun w _ => rfl⟩, ⟨rfl, by decide, Or.inl rfl⟩, ⟨fun k _ => by unfold i0; decide, fun k _ => by unfold i0; decide⟩, fun h j _ _ => by unfold i0; decide, fun k _ => by unfold i0; decide⟩
      show (0 : Int) = if w < 2 then 0 else 0
      rw [ite_self]
end P26
