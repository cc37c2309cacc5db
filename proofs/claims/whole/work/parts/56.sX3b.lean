/-! what a look leaves as it is -/
theorem xLo_ne {R : Nat → Nat → Option Nat} {b : Nat} (h4 : ¬ b = 4) (h5 : ¬ b = 5) : ∀ (m k : Nat) (V : Nat → Nat → Int), xLo R m k V b = V b := by
  intro m
  induction m with
  | zero => intro k V; rfl
  | succ m ih => intro k V; rw [xLo, ih, xNp_ne h4 h5]
theorem xWk_ne {s D : Nat → Int} {t b : Nat} (h3 : ¬ b = 3) (h6 : ¬ b = 6) (h8 : ¬ b = 8) : ∀ (m p c : Nat) (V : Nat → Nat → Int), xWk s D t m p c V b = V b := by
  intro m
  induction m with
  | zero => intro p c V; rfl
  | succ m ih =>
    intro p c V
    rw [xWk]
    split
    · rfl
    · split
      · rfl
      · rw [ih]
        funext j
        simp [xup2, h3, h6, h8]
theorem xLk_ne {R : Nat → Nat → Option Nat} {V : Nat → Nat → Int} {f t b : Nat} (h : ¬ b = 3 ∧ ¬ b = 4 ∧ ¬ b = 5 ∧ ¬ b = 6 ∧ ¬ b = 7 ∧ ¬ b = 8) : xLk R V f t b = V b := by
  obtain ⟨h3, h4, h5, h6, h7, h8⟩ := h
  have e0 : xLk0 R V b = V b := by
    unfold xLk0
    rw [xLo_ne h4 h5]
    funext j
    simp [xup2, xCl, h3, h4, h5, h6]
  have e1 : xLk1 R V t b = V b := by
    unfold xLk1
    rw [va_ne h7, e0]
  unfold xLk xWy
  split
  · rw [xWk_ne h3 h6 h8, ← e1]
    funext j
    simp [xup2, h3, h8]
  · exact e1
