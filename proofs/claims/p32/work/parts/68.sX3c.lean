/-! bounds of a route behind a look -/
theorem mul_bd {a b A B : Int} (ha : 0 ≤ a ∧ a ≤ A) (hb : 0 ≤ b ∧ b ≤ B) : 0 ≤ a * b ∧ a * b ≤ A * B := ⟨Int.mul_nonneg ha.1 hb.1, Int.mul_le_mul ha.2 hb.2 hb.1 (by omega)⟩
theorem xLk_1 {R : Nat → Nat → Option Nat} {V : Nat → Nat → Int} {f t b : Nat} (h3 : ¬ b = 3) (h6 : ¬ b = 6) (h8 : ¬ b = 8) : xLk R V f t b = xLk1 R V t b := by
  unfold xLk xWy
  split
  · rw [xWk_ne h3 h6 h8]
    funext j
    simp [xup2, h3, h8]
  · rfl
theorem xLk0_P {T : Nat → Nat × Nat} {R : Nat → Nat → Option Nat} {V : Nat → Nat → Int} (hR : xRo T R) (hP : xPs T R V) : xPs T R (xup2 (xCl V 0 64) 3 5 0) := by
  intro k hk q hq
  have h := hP k hk q hq
  have n3 : ¬ q = 3 := by intro e; rw [e, hR.1] at h; cases h.1
  have n4 : ¬ q = 4 := by intro e; rw [e, hR.2.2.2.2.2.2.1] at h; cases h.1
  have n5 : ¬ q = 5 := by intro e; rw [e, hR.2.2.2.2.2.2.2.1] at h; cases h.1
  have n6 : ¬ q = 6 := by intro e; rw [e, hR.2.2.2.2.2.2.2.2.1] at h; cases h.1
  refine ⟨h.1, ?_⟩
  have e : xup2 (xCl V 0 64) 3 5 0 q = V q := by funext j; simp [xup2, xCl, n3, n4, n5, n6]
  unfold xPb
  rw [e]
  exact h.2
theorem xLk_4 {T : Nat → Nat × Nat} {R : Nat → Nat → Option Nat} {V : Nat → Nat → Int} {f t : Nat} (hR : xRo T R) (hP : xPs T R V) : ∀ k, k < 64 → 0 ≤ xLk R V f t 4 k ∧ xLk R V f t 4 k ≤ 100 := by
  have h0 : ∀ k, k < 64 → 0 ≤ xup2 (xCl V 0 64) 3 5 0 4 k ∧ xup2 (xCl V 0 64) 3 5 0 4 k ≤ 100 := by
    intro k hk
    simp [xup2, xCl, hk]
  rw [xLk_1 (by decide) (by decide) (by decide)]
  unfold xLk1
  rw [va_ne (by decide)]
  exact xLo_in 40 0 _ hR.2.2.2.2.2.2.1 hR.2.2.2.2.2.2.2.1 rfl (xLk0_P hR hP) h0
theorem xNo_5 {V : Nat → Nat → Int} {p : Nat} {l B : Int} (hB : 0 ≤ B) (hV : ∀ k, k < 64 → 0 ≤ V 5 k ∧ V 5 k ≤ B) : ∀ k, k < 64 → 0 ≤ xNo V p l 5 k ∧ xNo V p l 5 k ≤ B + 1 := by
  intro k hk
  have := hV k hk
  unfold xNo
  split
  · simp only [xup2, show ¬ (5 : Nat) = 4 by decide, false_and, if_false, true_and]
    repeat' split
    all_goals omega
  · split
    · simp only [xup2, true_and]
      split
      · next q => subst q; omega
      · omega
    · omega
theorem xLo_5 {R : Nat → Nat → Option Nat} : ∀ (m k : Nat) (V : Nat → Nat → Int) (B : Int), 0 ≤ B → (∀ k, k < 64 → 0 ≤ V 5 k ∧ V 5 k ≤ B) → ∀ k', k' < 64 → 0 ≤ xLo R m k V 5 k' ∧ xLo R m k V 5 k' ≤ B + 2 * m := by
  intro m
  induction m with
  | zero => intro k V B hB hV k' hk'; have := hV k' hk'; rw [xLo]; omega
  | succ m ih =>
    intro k V B hB hV k' hk'
    rw [xLo]
    have key : ∀ k', k' < 64 → 0 ≤ xNp V (R 2 k) 5 k' ∧ xNp V (R 2 k) 5 k' ≤ B + 2 := by
      intro j hj
      cases R 2 k with
      | none => have := hV j hj; show 0 ≤ V 5 j ∧ V 5 j ≤ B + 2; omega
      | some q =>
        rw [xNp_y]
        split
        · have := hV j hj; omega
        · have := xNo_5 (p := (V q 10 * 8 + V q 9).toNat) (l := V q 11) (show 0 ≤ B + 1 by omega) (xNo_5 (p := (V q 9 * 8 + V q 10).toNat) (l := V q 11) hB hV) j hj
          omega
    have := ih (k + 1) _ (B + 2) (by omega) key k' hk'
    omega
theorem xLk_5 {R : Nat → Nat → Option Nat} {V : Nat → Nat → Int} {f t : Nat} : ∀ k, k < 64 → 0 ≤ xLk R V f t 5 k ∧ xLk R V f t 5 k ≤ 1000 := by
  intro k hk
  rw [xLk_1 (by decide) (by decide) (by decide)]
  unfold xLk1
  rw [va_ne (by decide)]
  have := xLo_5 (R := R) 40 0 (xup2 (xCl V 0 64) 3 5 0) 0 (by decide) (by intro k hk; simp [xup2, xCl, hk]) k hk
  unfold xLk0
  omega
