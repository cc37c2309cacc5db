/-! what a look leaves as it is -/
theorem xLo_ne {R : Nat → Nat → Option Nat} {b : Nat} (h4 : ¬ b = 4) (h5 : ¬ b = 5) : ∀ (m k : Nat) (V : Nat → Nat → Int), xLo R m k V b = V b := by
  intro m
  induction m with
  | zero => intro k V; rfl
  | succ m ih => intro k V; rw [xLo, ih, xNp_ne h4 h5]
theorem xWk_ne {s D : Nat → Int} {t b : Nat} (h3 : ¬ b = 3) (h6 : ¬ b = 6) (h8 : ¬ b = 8) : ∀ (m p c : Nat) (V : Nat → Nat → Int), xWk s D t m p c V b = V b := by
  intro m
  induction m with
  | zero => intro p c V; rfl
  | succ m ih =>
    intro p c V
    rw [xWk]
    split
    · rfl
    · split
      · rfl
      · rw [ih]
        funext j
        simp [xup2, h3, h6, h8]
theorem xLk_ne {R : Nat → Nat → Option Nat} {V : Nat → Nat → Int} {f t b : Nat} (h : ¬ b = 3 ∧ ¬ b = 4 ∧ ¬ b = 5 ∧ ¬ b = 6 ∧ ¬ b = 7 ∧ ¬ b = 8) : xLk R V f t b = V b := by
  obtain ⟨h3, h4, h5, h6, h7, h8⟩ := h
  have e0 : xLk0 R V b = V b := by
    unfold xLk0
    rw [xLo_ne h4 h5]
    funext j
    simp [xup2, xCl, h3, h4, h5, h6]
  have e1 : xLk1 R V t b = V b := by
    unfold xLk1
    rw [va_ne h7, e0]
  unfold xLk xWy
  split
  · rw [xWk_ne h3 h6 h8, ← e1]
    funext j
    simp [xup2, h3, h8]
  · exact e1
theorem xWk_6 {s D : Nat → Int} {t : Nat} : ∀ (m p c : Nat) (V : Nat → Nat → Int), (∀ k, k < 64 → V 6 k = 0 ∨ V 6 k = 1) → ∀ k, k < 64 → xWk s D t m p c V 6 k = 0 ∨ xWk s D t m p c V 6 k = 1 := by
  intro m
  induction m with
  | zero => intro p c V hV; exact hV
  | succ m ih =>
    intro p c V hV
    rw [xWk]
    split
    · exact hV
    · split
      · exact hV
      · refine ih _ _ _ ?_
        intro k hk
        have := hV k hk
        simp only [xup2, show ¬ (6 : Nat) = 3 by decide, show ¬ (6 : Nat) = 8 by decide, false_and, if_false, true_and]
        split
        · exact Or.inr rfl
        · split
          · exact Or.inr rfl
          · exact this
theorem xWk_c {s D : Nat → Int} {t : Nat} : ∀ (m p c : Nat) (V : Nat → Nat → Int), p + m = 8 → (0 ≤ V 3 5 ∧ V 3 5 ≤ 8) → 0 ≤ xWk s D t m p c V 3 5 ∧ xWk s D t m p c V 3 5 ≤ 8 := by
  intro m
  induction m with
  | zero => intro p c V _ hV; exact hV
  | succ m ih =>
    intro p c V hp hV
    rw [xWk]
    split
    · exact hV
    · split
      · exact hV
      · refine ih _ _ _ (by omega) ?_
        simp only [xup2, and_self, if_true]
        omega
theorem xLk_6 {R : Nat → Nat → Option Nat} {V : Nat → Nat → Int} {f t : Nat} : ∀ k, k < 64 → xLk R V f t 6 k = 0 ∨ xLk R V f t 6 k = 1 := by
  have h0 : ∀ k, k < 64 → xLk1 R V t 6 k = 0 := by
    intro k hk
    unfold xLk1
    rw [va_ne (by decide)]
    unfold xLk0
    rw [xLo_ne (by decide) (by decide)]
    simp [xup2, xCl, hk]
  intro k hk
  unfold xLk xWy
  split
  · refine xWk_6 _ _ _ _ ?_ k hk
    intro j hj
    left
    rw [← h0 j hj]
    simp [xup2]
  · exact Or.inl (h0 k hk)
theorem xLk_c {R : Nat → Nat → Option Nat} {V : Nat → Nat → Int} {f t : Nat} : 0 ≤ xLk R V f t 3 5 ∧ xLk R V f t 3 5 ≤ 8 := by
  have h0 : xLk1 R V t 3 5 = 0 := by
    unfold xLk1
    rw [va_ne (by decide)]
    unfold xLk0
    rw [xLo_ne (by decide) (by decide)]
    simp [xup2]
  unfold xLk xWy
  split
  · refine xWk_c _ _ _ _ rfl ?_
    simp [xup2]
  · rw [h0]; decide
