/-! one cell's place -/
theorem xup2_o {α : Type} {V : Nat → Nat → α} {a b k : Nat} {v : α} (h : ¬ b = a) : xup2 V a k v b = V b := by funext j; simp [xup2, h]
theorem xup2_i {α : Type} {V : Nat → Nat → α} {a k : Nat} {v : α} : xup2 V a k v a k = v := by simp [xup2]
theorem xup2_j {α : Type} {V : Nat → Nat → α} {a k j : Nat} {v : α} (h : ¬ j = k) : xup2 V a k v a j = V a j := by simp [xup2, h]
