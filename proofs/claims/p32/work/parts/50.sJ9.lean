/-! what Math's methods do; small lemmas for guards -/
theorem rgd {R : Nat → Nat → Option Nat} {a k g : Nat} (h : R a k = some g) : R a k = some ((R a k).getD 0) := by rw [h]; rfl
theorem tgd {T : Nat → Nat × Nat} {R : Nat → Nat → Option Nat} {a k g c n : Nat} (h : R a k = some g) (ht : T g = (c, n)) : T ((R a k).getD 0) = (c, (T ((R a k).getD 0)).2) := by rw [h]; simp only [Option.getD_some, ht]
theorem ted {T : Nat → Nat × Nat} {R : Nat → Nat → Option Nat} {a k g c n : Nat} (h : R a k = some g) (ht : T g = (c, n)) : T ((R a k).getD 0) = (c, n) := by rw [h]; simp only [Option.getD_some, ht]
theorem igd {T : Nat → Nat × Nat} {R : Nat → Nat → Option Nat} {a k g c n : Nat} {x : Int} (h : R a k = some g) (ht : T g = (c, n)) (hx : 0 ≤ x ∧ x < (n : Int) ∧ n ≤ 3584) : 0 ≤ x ∧ x < ((T ((R a k).getD 0)).2 : Int) ∧ (T ((R a k).getD 0)).2 ≤ 3584 := by rw [h]; simp only [Option.getD_some, ht]; exact hx
theorem lgd {T : Nat → Nat × Nat} {R : Nat → Nat → Option Nat} {a k g c n : Nat} (h : R a k = some g) (ht : T g = (c, n)) (hc : (32 ≤ c ∧ c < 35) ∨ (40 ≤ c ∧ c < 44)) : (32 ≤ (T ((R a k).getD 0)).1 ∧ (T ((R a k).getD 0)).1 < 35) ∨ (40 ≤ (T ((R a k).getD 0)).1 ∧ (T ((R a k).getD 0)).1 < 44) := by rw [h]; simp only [Option.getD_some, ht]; exact hc
theorem xor_neg (x y : Int) (hx : -2147483648 ≤ x ∧ x ≤ 2147483647) (hy : -2147483648 ≤ y ∧ y ≤ 2147483647) : decide (iXor x y < 0) = (decide (x < 0) != decide (y < 0)) := by
  have h : ∀ w : Int32, decide (w.toInt < 0) = w.toBitVec.msb := by
    intro w
    rw [BitVec.msb_eq_toInt]; rfl
  unfold iXor
  rw [h, Int32.toBitVec_xor, BitVec.msb_xor, ← h, ← h, io_to hx, io_to hy]
theorem va_same {α : Type} {f : Nat → α} {a : Nat} {v : α} : va_up f a v a = v := by simp [va_up]
theorem va_ne {α : Type} {f : Nat → α} {a b : Nat} {v : α} (h : ¬ b = a) : va_up f a v b = f b := by simp [va_up, h]
theorem va_two {α : Type} {f : Nat → α} {a : Nat} {v w : α} : va_up (va_up f a v) a w = va_up f a w := by
  funext b
  by_cases h : b = a
  · subst h; rw [va_same, va_same]
  · rw [va_ne h, va_ne h, va_ne h]
theorem va_id {α : Type} {f : Nat → α} {a : Nat} : va_up f a (f a) = f := by
  funext b
  by_cases h : b = a
  · subst h; rw [va_same]
  · rw [va_ne h]
theorem up2_va {α : Type} {V : Nat → Nat → α} {a k : Nat} {e : α} : xup2 V a k e = va_up V a (va_up (V a) k e) := by
  funext b j
  by_cases h : b = a
  · subst h
    rw [va_same]
    by_cases hj : j = k
    · subst hj; rw [va_same]; simp [xup2]
    · rw [va_ne hj]; simp [xup2, hj]
  · rw [va_ne h]; simp [xup2, h]
section SJ9
variable {sc : xS} {d : Nat} {T : Nat → Nat × Nat} {z : Nat × Nat} {V : Nat → Nat → Int} {J : Nat → Nat → Int64} {R : Nat → Nat → Option Nat}
theorem s_max {x y : Int} (hx : -2147483648 ≤ x ∧ x ≤ 2147483647) (hy : -2147483648 ≤ y ∧ y ≤ 2147483647) :
    X sc (d + 1) 158 [xw x, xw y] (T, z, xv V, J, R) = some (.inl (some (xw (max x y))), (T, z, xv V, J, R)) := by
  rw [eJ9_max_7cf53, bJ9_max_7cf53_0 hx hy]
  by_cases h : x < y
  · rw [if_pos h, bJ9_max_7cf53_9, bJ9_max_7cf53_10, show max x y = y by omega]
  · rw [if_neg h, bJ9_max_7cf53_5, bJ9_max_7cf53_10, show max x y = x by omega]
theorem s_min {x y : Int} (hx : -2147483648 ≤ x ∧ x ≤ 2147483647) (hy : -2147483648 ≤ y ∧ y ≤ 2147483647) :
    X sc (d + 1) 159 [xw x, xw y] (T, z, xv V, J, R) = some (.inl (some (xw (min x y))), (T, z, xv V, J, R)) := by
  rw [eJ9_min_7cf53, bJ9_min_7cf53_0 hx hy]
  by_cases h : y < x
  · rw [if_pos h, bJ9_min_7cf53_9, bJ9_min_7cf53_10, show min x y = y by omega]
  · rw [if_neg h, bJ9_min_7cf53_5, bJ9_min_7cf53_10, show min x y = x by omega]
theorem s_floorDiv {x y : Int} (hx : -2147483648 ≤ x ∧ x ≤ 2147483647) (hy : 0 < y ∧ y ≤ 2147483647) :
    X sc (d + 1) 157 [xw x, xw y] (T, z, xv V, J, R) = some (.inl (some (xw (x / y))), (T, z, xv V, J, R)) := by
  have hs := xor_neg x y hx (by omega)
  have hy0 : decide (y < 0) = false := decide_eq_false (by omega)
  rw [hy0] at hs
  rw [eJ9_floorDiv_7cf53, bJ9_floorDiv_7cf53_0 ⟨by omega, by omega, hx, by omega⟩ (io_in _)]
  by_cases h0 : 0 ≤ x
  · have : decide (x < 0) = false := decide_eq_false (by omega)
    rw [this] at hs
    have h1 : ¬ iXor x y < 0 := of_decide_eq_false hs
    rw [if_pos (by omega), bJ9_floorDiv_7cf53_21, Int.tdiv_eq_ediv_of_nonneg h0]
  · have : decide (x < 0) = true := decide_eq_true (by omega)
    rw [this] at hs
    have h1 : iXor x y < 0 := of_decide_eq_true hs
    rw [if_neg (by omega)]
    have h2 := Int.mul_ediv_add_emod x y
    have h3 := Int.emod_nonneg x (show y ≠ 0 by omega)
    have h4 := Int.emod_lt_of_pos x hy.1
    by_cases hd : y ∣ x
    · have e : x.tdiv y = x / y := by rw [Int.tdiv_eq_ediv, if_pos (Or.inr hd), Int.add_zero]
      have e2 : x / y * y = x := Int.ediv_mul_cancel hd
      rw [e, bJ9_floorDiv_7cf53_10 (by rw [e2]; exact hx) hx, if_pos e2, bJ9_floorDiv_7cf53_21]
    · have e : x.tdiv y = x / y + 1 := by
        rw [Int.tdiv_eq_ediv, if_neg (fun q => q.elim h0 hd), Int.sign_eq_one_of_pos hy.1]
      have e2 : (x / y + 1) * y = x - x % y + y := by
        rw [Int.add_mul, Int.one_mul, Int.mul_comm]; omega
      rw [e, bJ9_floorDiv_7cf53_10 (by rw [e2]; omega) hx, if_neg (fun q => hd ⟨x / y + 1, by rw [Int.mul_comm]; exact q.symm⟩), bJ9_floorDiv_7cf53_17, Int.add_sub_cancel]
end SJ9
