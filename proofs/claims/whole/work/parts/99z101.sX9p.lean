/-! the law's start: the state behind it -/
def t0 : Nat → Nat × Nat := fun _ => (0, 0)
section SX9p
variable {sc : xS}
theorem law_start : ∃ (T : Nat → Nat × Nat) (u : Nat) (R : Nat → Nat → Option Nat), X sc 11 188 [.retAddr 0] (t0, (0, 0), xv (i0 0), i0 0, i0 none) = XR sc 10 188 23 [some (.retAddr 0), some (.ref 0), some (.ref 56), some (.ref 81), some (xw ((7 * 0 : Nat) : Int)), none, none] [] (T, (82, u), xv (i0 0), i0 0, R) ∧ iInv 0 T (82, u) (i0 0) (i0 0) R := by
  refine ⟨?T, ?u, ?R, ?h1, ?h2⟩
  case h1 =>
    rw [eL_law, bL_law_0 (by decide +kernel)]
    simp only [i0_va, Nat.reduceAdd]
    rw [eX6_init, bX6_init_0 (by decide) (by decide +kernel) (by decide +kernel) (by decide +kernel)]
    simp only [i0_va, Nat.reduceAdd]
    rw [eX3_init, bX3_init_0 (by decide) (by decide +kernel) (by decide +kernel) (by decide +kernel) (by decide +kernel) (by decide +kernel), xret_n]
    simp only [i0_va, Nat.reduceAdd]
    rw [bX6_init_30 (by decide +kernel) (by decide +kernel)]
    simp only [i0_va, Nat.reduceAdd]
    rw [bX6_init_44 (by decide), if_neg (by decide), st_horse (g := 9) (by decide) (by decide +kernel) (by decide +kernel) (by decide +kernel) (by decide) (by decide)]
    simp only [Nat.reduceAdd, Int.reduceAdd, Int.reduceToNat]
    rw [bX6_init_44 (by decide), if_neg (by decide), st_horse (g := 9) (by decide) (by decide +kernel) (by decide +kernel) (by decide +kernel) (by decide) (by decide)]
    simp only [Nat.reduceAdd, Int.reduceAdd, Int.reduceToNat]
    rw [bX6_init_44 (by decide), if_neg (by decide), st_horse (g := 9) (by decide) (by decide +kernel) (by decide +kernel) (by decide +kernel) (by decide) (by decide)]
    simp only [Nat.reduceAdd, Int.reduceAdd, Int.reduceToNat]
    rw [bX6_init_44 (by decide), if_neg (by decide), st_horse (g := 9) (by decide) (by decide +kernel) (by decide +kernel) (by decide +kernel) (by decide) (by decide)]
    simp only [Nat.reduceAdd, Int.reduceAdd, Int.reduceToNat]
    rw [bX6_init_44 (by decide), if_neg (by decide), st_horse (g := 9) (by decide) (by decide +kernel) (by decide +kernel) (by decide +kernel) (by decide) (by decide)]
    simp only [Nat.reduceAdd, Int.reduceAdd, Int.reduceToNat]
    rw [bX6_init_44 (by decide), if_neg (by decide), st_horse (g := 9) (by decide) (by decide +kernel) (by decide +kernel) (by decide +kernel) (by decide) (by decide)]
    simp only [Nat.reduceAdd, Int.reduceAdd, Int.reduceToNat]
    rw [bX6_init_44 (by decide), if_pos (by decide), bX6_init_69 (by decide +kernel)]
    simp only [i0_va, Nat.reduceAdd]
    rw [bX6_init_80 (by decide), if_neg (by decide), st_saddle (g := 34) (by decide) (by decide +kernel) (by decide +kernel) (by decide +kernel) (by decide) (by decide)]
    simp only [Nat.reduceAdd, Int.reduceAdd, Int.reduceToNat]
    rw [bX6_init_80 (by decide), if_neg (by decide), st_saddle (g := 34) (by decide) (by decide +kernel) (by decide +kernel) (by decide +kernel) (by decide) (by decide)]
    simp only [Nat.reduceAdd, Int.reduceAdd, Int.reduceToNat]
    rw [bX6_init_80 (by decide), if_neg (by decide), st_saddle (g := 34) (by decide) (by decide +kernel) (by decide +kernel) (by decide +kernel) (by decide) (by decide)]
    simp only [Nat.reduceAdd, Int.reduceAdd, Int.reduceToNat]
    rw [bX6_init_80 (by decide), if_neg (by decide), st_saddle (g := 34) (by decide) (by decide +kernel) (by decide +kernel) (by decide +kernel) (by decide) (by decide)]
    simp only [Nat.reduceAdd, Int.reduceAdd, Int.reduceToNat]
    rw [bX6_init_80 (by decide), if_neg (by decide), st_saddle (g := 34) (by decide) (by decide +kernel) (by decide +kernel) (by decide +kernel) (by decide) (by decide)]
    simp only [Nat.reduceAdd, Int.reduceAdd, Int.reduceToNat]
    rw [bX6_init_80 (by decide), if_neg (by decide), st_saddle (g := 34) (by decide) (by decide +kernel) (by decide +kernel) (by decide +kernel) (by decide) (by decide)]
    simp only [Nat.reduceAdd, Int.reduceAdd, Int.reduceToNat]
    rw [bX6_init_80 (by decide), if_pos (by decide), bX6_init_105 (by decide +kernel)]
    simp only [i0_va, Nat.reduceAdd]
    rw [eX5_init, bX5_init_0 (by decide) (by decide +kernel) (by decide +kernel), xret_n, bX6_init_113 (by decide +kernel), xret_n]
    simp only [i0_va, Nat.reduceAdd]
    rw [bL_law_7 (by decide +kernel)]
    simp only [i0_va, Nat.reduceAdd]
    rw [eX7_init, bX7_init_0 (by decide) (by decide +kernel) (by decide +kernel) (by decide +kernel) (by decide +kernel) (by decide +kernel) (by decide +kernel) (by decide +kernel) (by decide +kernel) (by decide +kernel) (by decide +kernel) (by decide +kernel) (by decide +kernel) (by decide +kernel) (by decide +kernel) (by decide +kernel) (by decide +kernel) (by decide +kernel) (by decide +kernel) (by decide +kernel) (by decide +kernel) (by decide +kernel) (by decide +kernel) (by decide +kernel) (by decide +kernel), xret_n]
    simp only [i0_va, Nat.reduceAdd]
    rw [bL_law_15]
    simp only [i0_va, Nat.reduceAdd]
    rfl
  case h2 =>
    refine ⟨⟨?_, ?_, ?_, ?_, ?_, ?_, ?_⟩, ⟨Nat.le_refl 82, Nat.le_refl 82, by decide⟩, ⟨0, ⟨by decide, rfl, rfl⟩, ?_, fun h _ => by unfold i0; decide, fun h hh => absurd hh (Nat.not_lt_zero h), fun h h' hh => absurd hh (Nat.not_lt_zero h)⟩, ⟨0, ⟨by decide, rfl, rfl, by decide⟩, ?_, ?_, fun h hh => absurd hh (Nat.not_lt_zero h), fun h h' hh => absurd hh (Nat.not_lt_zero h)⟩, ?_⟩
    · unfold xTr; decide +kernel
    · unfold xRo; decide +kernel
    · unfold xHs xHo; decide +kernel
    · unfold xSs xSa; decide +kernel
    · unfold xSe; decide +kernel
    · unfold xMo; repeat' apply And.intro
      all_goals decide +kernel
    · decide +kernel
    · exact fun h _ hh => ⟨(show ∀ h, h < 8 → _ = none by decide +kernel) h hh, fun r _ => rfl⟩
    · exact ⟨by decide, fun k _ => by unfold i0; decide⟩
    · exact fun p _ hp => ⟨(show ∀ p, p < 40 → _ = none by decide +kernel) p hp, rfl, rfl, rfl, rfl⟩
    · refine ⟨fun h k _ _ => ⟨rfl, rfl⟩, fun s k _ _ => ⟨rfl, rfl⟩, fun k _ => by unfold i0; decide, fun h k w _ _ _ => ⟨rfl, ?_, ?_⟩, by decide, ⟨fun k _ => by unfold i0; decide, fun k _ => by unfold i0; decide, fun k _ => by unfold i0; decide, fun k _ => by unfold i0; decide⟩, fun k _ => by unfold i0; decide⟩
      · show (0 : Int) = if w < 4 then 0 else 0
        rw [ite_self]
      · show (0 : Int) = if 1 ≤ w ∧ w < 4 then 0 else 0
        rw [ite_self]
end SX9p
