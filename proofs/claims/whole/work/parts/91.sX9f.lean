/-! the law's cases: parts -/
theorem xHc_in {j : Int64} : ∀ m k, 0 ≤ xHc j m k ∧ xHc j m k ≤ m := by
  intro m
  induction m with
  | zero => intro k; exact ⟨Int.le_refl 0, by simp only [xHc]; omega⟩
  | succ m ih => intro k; have := ih (k + 1); rw [xHc]; split <;> omega
theorem xHc_0 {j : Int64} : ∀ m k, xHc j m k = 0 ↔ ∀ q, k ≤ q → q < k + m → xBt j q = false := by
  intro m
  induction m with
  | zero => intro k; exact ⟨fun _ q a b => by omega, fun _ => rfl⟩
  | succ m ih =>
    intro k
    have := ih (k + 1)
    have p := xHc_in (j := j) m (k + 1)
    rw [xHc]
    by_cases c : xBt j k = true
    · rw [if_pos c]
      exact ⟨fun q => by omega, fun q => by rw [q k (Nat.le_refl k) (by omega)] at c; exact absurd c (by decide)⟩
    · rw [if_neg c]
      refine ⟨fun q r a b => ?_, fun q => ?_⟩
      · by_cases e : r = k
        · rw [e]; exact Bool.eq_false_iff.mpr c
        · exact this.mp (by omega) r (by omega) (by omega)
      · rw [this.mpr (fun r a b => q r (by omega) (by omega))]; rfl
theorem xHc_cut {j : Int64} : ∀ m e k, (∀ q, k + m ≤ q → q < k + m + e → xBt j q = false) → xHc j (m + e) k = xHc j m k := by
  intro m
  induction m with
  | zero => intro e k h; rw [Nat.zero_add, (xHc_0 e k).mpr (fun q a b => h q (by omega) (by omega))]; rfl
  | succ m ih => intro e k h; rw [show m + 1 + e = (m + e) + 1 by omega, xHc, xHc, ih e (k + 1) (fun q a b => h q (by omega) (by omega))]
section SX9f0
variable {i i' : Nat} {T : Nat → Nat × Nat} {n : Nat} {z : Nat × Nat} {V V' : Nat → Nat → Int} {J J' : Nat → Nat → Int64} {R : Nat → Nat → Option Nat} {P p a : Nat}
theorem pt_y (hP : iPar i T n V J R P) (hp : p < P) : ∃ a, xp R p = a ∧ R 2 p = some a ∧ iPa1 i T n V J R p a := by
  obtain ⟨q1, q2⟩ := hP.2.2.2.1 p hp
  exact ⟨_, rfl, q1, q2⟩
theorem pt_no (hP : iPar i T n V J R P) {x : Int} (c : ¬ (0 ≤ x ∧ x < V 56 3)) : ¬ (0 ≤ x ∧ x < 40) ∨ R 2 x.toNat = none := by
  obtain ⟨⟨h1, h2, h3, h4⟩, _, hn, _⟩ := hP
  by_cases q : 0 ≤ x ∧ x < 40
  · exact Or.inr (hn x.toNat (by omega) (by omega)).1
  · exact Or.inl q
theorem iInv_mr (h : iInv i T z V J R) : xMr V := by
  obtain ⟨_, _, _, ⟨P, h4⟩, _⟩ := h
  exact h4.2.1
theorem pt_h6 (h1 : iPa1 i T n V J R p a) : 0 ≤ V a 6 ∧ V a 6 ≤ 49 := by
  obtain ⟨_, _, _, _, _, _, _, _, h⟩ := h1
  rw [h]; exact xHc_in 49 0
theorem pt_va (mr : xMr V) (hp : p < 40) (h1 : iPa1 i T n V J R p a) : ∀ k, k < 13 → -2147483648 ≤ V a k ∧ V a k ≤ 2147483647 := by
  intro k hk
  have h6 := pt_h6 h1
  obtain ⟨_, ⟨w0, w1, w2, w3, w5, w4⟩, ⟨w7, w8, w12⟩, ⟨w9, w10, w11⟩, _, _, _, _, _⟩ := h1
  have m := mr.2 p hp
  rcases (show k = 0 ∨ k = 1 ∨ k = 2 ∨ k = 3 ∨ k = 4 ∨ k = 5 ∨ k = 6 ∨ k = 7 ∨ k = 8 ∨ k = 9 ∨ k = 10 ∨ k = 11 ∨ k = 12 by omega) with rfl | rfl | rfl | rfl | rfl | rfl | rfl | rfl | rfl | rfl | rfl | rfl | rfl <;> omega
theorem pt_hc (mr : xMr V) (hp : p < 40) (h1 : iPa1 i T n V J R p a) : xHc (J 64 p) (4 * V 59 p + 1).toNat 0 = V a 6 := by
  obtain ⟨_, _, _, _, ⟨b1, _⟩, _, _, bt, h⟩ := h1
  have m := (mr.2 p hp).1
  rw [h, show 49 = (4 * V 59 p + 1).toNat + (49 - (4 * V 59 p + 1).toNat) by omega, xHc_cut]
  intro q a b
  by_cases c : xBt (J 64 p) q = true
  · have := bt q (by omega) c; omega
  · exact Bool.eq_false_iff.mpr c
theorem pt_6 (mr : xMr V) (hp : p < 40) (h1 : iPa1 i T n V J R p a) : V a 6 ≤ 0 ↔ J 64 p = Int64.ofNat 0 := by
  obtain ⟨_, _, _, _, ⟨b1, _⟩, _, _, bt, h⟩ := h1
  have m := (mr.2 p hp).1
  have q := xHc_in (j := J 64 p) 49 0
  rw [h, show (xHc (J 64 p) 49 0 ≤ 0) ↔ (xHc (J 64 p) 49 0 = 0) from ⟨fun _ => by omega, fun _ => by omega⟩, xHc_0, j_0]
  refine ⟨fun f k hk => ?_, fun f k _ hk => f k (by omega)⟩
  by_cases c : xBt (J 64 p) k = true
  · have := bt k hk c
    rw [f k (Nat.zero_le k) (by omega)] at c; exact absurd c (by decide)
  · exact Bool.eq_false_iff.mpr c
theorem pt_st (mr : xMr V) (hp : p < 40) (h1 : iPa1 i T n V J R p a) : xSt V a = xSm3 V J p := by
  have e6 := pt_6 mr hp h1
  obtain ⟨_, ⟨w0, w1, w2, w3, w5, w4⟩, ⟨w7, _⟩, _⟩ := h1
  unfold xSt xSm3
  rw [w1, w5, w7]
  by_cases c : V a 6 ≤ 0
  · rw [if_pos c, if_pos (e6.mp c)]
  · rw [if_neg c, if_neg (fun q => c (e6.mpr q)), Int.mul_comm _ 3]
theorem mul_in {x y : Int} (hx : 0 ≤ x ∧ x ≤ 8) (hy : 0 ≤ y ∧ y ≤ 9) : 0 ≤ 10 * x * y ∧ 10 * x * y ≤ 1000 := by
  rcases (show x = 0 ∨ x = 1 ∨ x = 2 ∨ x = 3 ∨ x = 4 ∨ x = 5 ∨ x = 6 ∨ x = 7 ∨ x = 8 by omega) with rfl | rfl | rfl | rfl | rfl | rfl | rfl | rfl | rfl <;> omega
theorem xMr_u (h : xMr V) (h56 : V' 56 3 = V 56 3) (hr : ∀ r q, 59 ≤ r → r < 71 → ¬ q = p → V' r q = V r q)
    (h1 : (0 ≤ V' 59 p ∧ V' 59 p ≤ 12) ∧ (0 ≤ V' 60 p ∧ V' 60 p ≤ 8) ∧ (0 ≤ V' 61 p ∧ V' 61 p ≤ 9) ∧ (0 ≤ V' 62 p ∧ V' 62 p ≤ 8) ∧ (0 ≤ V' 63 p ∧ V' 63 p ≤ 1) ∧ (0 ≤ V' 65 p ∧ V' 65 p ≤ 10000000) ∧ (0 ≤ V' 66 p ∧ V' 66 p ≤ 4) ∧ (0 ≤ V' 67 p ∧ V' 67 p ≤ 1) ∧ (-1 ≤ V' 68 p ∧ V' 68 p ≤ 7) ∧ (-1 ≤ V' 69 p ∧ V' 69 p ≤ 7) ∧ (-1 ≤ V' 70 p ∧ V' 70 p ≤ 100)) : xMr V' := by
  refine ⟨by rw [h56]; exact h.1, fun k hk => ?_⟩
  by_cases e : k = p
  · rw [e]; exact h1
  · rw [hr 59 k (by decide) (by decide) e, hr 60 k (by decide) (by decide) e, hr 61 k (by decide) (by decide) e, hr 62 k (by decide) (by decide) e, hr 63 k (by decide) (by decide) e, hr 65 k (by decide) (by decide) e, hr 66 k (by decide) (by decide) e, hr 67 k (by decide) (by decide) e, hr 68 k (by decide) (by decide) e, hr 69 k (by decide) (by decide) e, hr 70 k (by decide) (by decide) e]
    exact h.2 k hk
theorem iPar_u (hx : iPar i T n V J R P) (hp : p < P) (hi : i ≤ i' ∧ i' ≤ 513) (ea : xp R p = a) (h0 : V' 0 3 = V 0 3) (h56 : V' 56 3 = V 56 3) (hc : ∀ b, 82 ≤ b → b < n → ¬ b = a → ¬ b = a + 1 → V' b = V b) (hr : ∀ r q, 59 ≤ r → r < 71 → ¬ q = p → V' r q = V r q) (hJ : ∀ q, ¬ q = p → J' 64 q = J 64 q) (hone : iPa1 i' T n V' J' R p a) (hm : xMr V') : iPar i' T n V' J' R P := by
  obtain ⟨⟨h1, h1b, h1c, h1d⟩, h2, h3, h4, h5⟩ := hx
  refine ⟨⟨h1, by rw [h0]; exact h1b, by rw [h56]; exact h1c, hi.2⟩, hm, fun q a b => ?_, fun q c => ?_, h5⟩
  · rw [hJ q (by omega), hr 65 q (by decide) (by decide) (by omega), hr 66 q (by decide) (by decide) (by omega), hr 67 q (by decide) (by decide) (by omega)]; exact h3 q a b
  · by_cases e : q = p
    · subst e; exact ⟨(h4 q c).1, by rw [ea]; exact hone⟩
    · obtain ⟨q1, q2⟩ := h4 q c
      have q2' := q2
      obtain ⟨⟨⟨p1, p2, p3⟩, p4, p5⟩, _⟩ := q2'
      obtain ⟨⟨⟨r1, r2, r3⟩, r4, r5⟩, _⟩ := hone
      have d1 : ¬ xp R q = a := fun x => e (h5 q p c hp (by rw [x, ea]))
      have d2 : ¬ xp R q = a + 1 := fun x => by rw [x, r3] at p1; exact absurd p1 (by decide)
      have d3 : ¬ xp R q + 1 = a := fun x => by rw [x, r1] at p3; exact absurd p3 (by decide)
      exact ⟨q1, iPa1_e q2 hi.1 (Nat.le_refl n) ⟨rfl, rfl⟩ rfl (fun r x y => hr r q x y e) (hJ q e) (fun j _ => by rw [hc _ p4 (by omega) d1 d2]) (fun k _ => by rw [hc _ (by omega) p5 d3 (by omega)])⟩
theorem iInv_p (hI : iInv i T z V J R) (hi : i ≤ i' ∧ i' ≤ 513) (hP : iPar i T z.1 V J R P) (hp : p < P) (ea : xp R p = a) (hV : ∀ b, ¬ b = a → ¬ b = a + 1 → ¬ b = 56 → ¬ (59 ≤ b ∧ b ≤ 70) → V' b = V b) (h56 : ∀ j, ¬ j = 28 → V' 56 j = V 56 j) (hr : ∀ r q, 59 ≤ r → r < 71 → ¬ q = p → V' r q = V r q) (hJ : ∀ q, ¬ q = p → J' 64 q = J 64 q) (hone : iPa1 i' T z.1 V' J' R p a) (hm : xMr V') : iInv i' T z V' J' R := by
  have ho := hone
  obtain ⟨⟨⟨r1, r2, r3⟩, r4, r5⟩, _⟩ := ho
  obtain ⟨h1, h2, ⟨H, h3⟩, _, h5⟩ := hI
  refine ⟨h1, ⟨h2.1, by omega, by omega⟩, ⟨H, iHid_e h3 (Nat.le_refl _) (fun _ _ _ => rfl) rfl (fun _ _ _ => rfl) (by rw [hV 0 (by omega) (by omega) (by decide) (by decide)]) (h56 0 (by decide)) (hV 57 (by omega) (by omega) (by decide) (by decide)) (hV 58 (by omega) (by omega) (by decide) (by decide)) (fun b b1 b2 b3 => ?_)⟩, ⟨P, iPar_u hP hp hi ea (by rw [hV 0 (by omega) (by omega) (by decide) (by decide)]) (h56 3 (by decide)) (fun b b1 b2 b3 b4 => hV b b3 b4 (by omega) (by omega)) hr hJ hone hm⟩, iHor_e h5 (by rw [hV 0 (by omega) (by omega) (by decide) (by decide)]) (h56 24 (by decide)) (fun b hb => hV b (by omega) (by omega) (by omega) (by omega))⟩
  refine hV b (fun e => ?_) (fun e => ?_) (by omega) (by omega)
  · rw [e, r1] at b3; rcases b3 with q | q <;> exact absurd q (by decide)
  · rw [e, r3] at b3; rcases b3 with q | q <;> exact absurd q (by decide)
end SX9f0
