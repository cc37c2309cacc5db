/-! the property's law: parts, how they are kept -/
section P14
variable {sc : xS} {d : Nat} {T : Nat → Nat × Nat} {z : Nat × Nat} {V : Nat → Nat → Int} {J : Nat → Nat → Int64} {R : Nat → Nat → Option Nat}
theorem qp_y {i n P p : Nat} (hx : qPar i T n V R P) (hp : p < P) : ∃ a, xp R p = a ∧ R 2 p = some a ∧ qPa1 i T n V R p a := by
  obtain ⟨q1, q2⟩ := hx.2.2.2.1 p hp
  exact ⟨_, rfl, q1, q2⟩
theorem qp_no {i n P : Nat} (hx : qPar i T n V R P) {x : Int} (c : ¬ (0 ≤ x ∧ x < P)) : ¬ (0 ≤ x ∧ x < 40) ∨ R 2 x.toNat = none := by
  obtain ⟨⟨h1, h2, h3⟩, hn, _⟩ := hx
  by_cases q : 0 ≤ x ∧ x < 40
  · exact Or.inr (hn x.toNat (by omega) (by omega))
  · exact Or.inl q
theorem qp_01 {i n p a : Nat} (h1 : qPa1 i T n V R p a) : ∀ k, k < 49 → V (a + 1) k = 0 ∨ V (a + 1) k = 1 := fun k hk => by
  rw [h1.2.2.2.2.2.2.1.2.1 k hk]; split <;> omega
theorem qp_va {i n p a : Nat} (h1 : qPa1 i T n V R p a) (hi : i ≤ 64) : ∀ k, k < 13 → (-2147483648 ≤ V a k ∧ V a k ≤ 2147483647) := by
  obtain ⟨_, ⟨w0, w1, w2, w3, w5, w4⟩, ⟨w7, w8, w12⟩, ⟨w9, w10, w11⟩, ⟨b0, b1, b5, b8, b57, b58⟩, ⟨st, _, _⟩, _, w6⟩ := h1
  have := pMn_in (v := V 59 p) 30 0
  unfold aSt at st
  intro k hk
  rcases (show k = 0 ∨ k = 1 ∨ k = 2 ∨ k = 3 ∨ k = 4 ∨ k = 5 ∨ k = 6 ∨ k = 7 ∨ k = 8 ∨ k = 9 ∨ k = 10 ∨ k = 11 ∨ k = 12 by omega) with rfl | rfl | rfl | rfl | rfl | rfl | rfl | rfl | rfl | rfl | rfl | rfl | rfl <;> omega
/-- the rows' place 10 is nobody's -/
def pDu (V W : Nat → Nat → Int) : Prop := (∀ b, ¬ (57 ≤ b ∧ b ≤ 60) → W b = V b) ∧ (∀ r q, ¬ q = 10 → W r q = V r q) ∧ W 58 10 = V 58 10
theorem pDu_r {V : Nat → Nat → Int} : pDu V V := ⟨fun _ _ => rfl, fun _ _ _ => rfl, rfl⟩
theorem pDu_u {V : Nat → Nat → Int} {r : Nat} {v : Int} (hr : r = 57 ∨ r = 59 ∨ r = 60) : pDu V (xup2 V r 10 v) := by
  refine ⟨fun b hb => xup2_o (by omega), fun x q hq => ?_, by rw [xup2_o (by omega)]⟩
  by_cases e : x = r
  · subst e; exact xup2_j hq
  · rw [xup2_o e]
theorem pDu_w {V : Nat → Nat → Int} {v : Int} (hv : v = V 58 10) : pDu V (xup2 V 58 10 v) := by
  refine ⟨fun b hb => xup2_o (by omega), fun x q hq => ?_, by rw [xup2_i, hv]⟩
  by_cases e : x = 58
  · subst e; exact xup2_j hq
  · rw [xup2_o e]
theorem qInv_d {i i' : Nat} {W : Nat → Nat → Int} (h : qInv i T z V R) (hi : i ≤ i') (hd : pDu V W) : qInv i' T z W R := by
  obtain ⟨h1, h2, ⟨H, h3⟩, ⟨P, h4⟩, h5⟩ := h
  obtain ⟨d1, d2, d3⟩ := hd
  refine ⟨h1, h2, ⟨H, qHid_e h3 (Nat.le_refl _) (fun _ _ _ => rfl) rfl (fun _ _ _ => rfl) (by rw [d1 0 (by decide)]) (by rw [d1 63 (by decide)]) (fun j _ => by rw [d1 56 (by decide)]) (fun b b1 _ _ => d1 b (by omega))⟩, ⟨P, qPar_e h4 hi (Nat.le_refl _) (fun _ _ _ => rfl) rfl (fun _ _ _ => rfl) (by rw [d1 0 (by decide)]) (by rw [d1 63 (by decide)]) (fun r q _ _ q1 => d2 r q (by omega)) d3 (fun b b1 _ _ => d1 b (by omega))⟩, qHor_e h5 hi (by rw [d1 0 (by decide)]) (by rw [d1 63 (by decide)]) (fun b b1 b2 => d1 b (by omega)) (fun j _ => by rw [d1 61 (by decide)]) (fun j _ => by rw [d1 62 (by decide)]) (by rw [d1 55 (by decide)]; exact h5.2.2.2.2.2.2.2.2)⟩
/-- one part changes -/
theorem qInv_p {i i' P p a : Nat} {V' : Nat → Nat → Int} (h : qInv i T z V R) (hi : i ≤ i') (hP : qPar i T z.1 V R P) (hp : p < P) (ea : xp R p = a) (ro : ∀ b, ¬ b = a → ¬ b = a + 1 → ¬ (57 ≤ b ∧ b ≤ 60) → V' b = V b) (rr : ∀ r q, 57 ≤ r → r ≤ 60 → ¬ q = p → V' r q = V r q) (h1 : qPa1 i' T z.1 V' R p a) : qInv i' T z V' R := by
  obtain ⟨g1, g2, ⟨H, g3⟩, _, g5⟩ := h
  obtain ⟨⟨r1, r2, r3⟩, r4, ⟨r5, r5b⟩, r6, r7⟩ := hP
  have old := (r6 p hp).2
  rw [ea] at old
  obtain ⟨⟨⟨o1, o2, o3⟩, o4, o5⟩, _⟩ := old
  have lo : ∀ b, b < 57 ∨ (60 < b ∧ b < 64) → V' b = V b := fun b hb => ro b (by omega) (by omega) (by omega)
  refine ⟨g1, g2, ⟨H, qHid_e g3 (Nat.le_refl _) (fun _ _ _ => rfl) rfl (fun _ _ _ => rfl) (by rw [lo 0 (by decide)]) (by rw [lo 63 (by decide)]) (fun j _ => by rw [lo 56 (by decide)]) (fun b b1 _ b3 => ro b (fun e => ?_) (fun e => ?_) (by omega))⟩, ⟨P, ⟨r1, by rw [lo 0 (by decide)]; exact r2, by rw [lo 63 (by decide)]; exact r3⟩, r4, ⟨fun q q1 q2 => ?_, by rw [rr 58 10 (by decide) (by decide) (by omega)]; exact r5b⟩, fun q q1 => ?_, r7⟩, qHor_e g5 hi (by rw [lo 0 (by decide)]) (by rw [lo 63 (by decide)]) (fun b b1 b2 => lo b (by omega)) (fun j _ => by rw [lo 61 (by decide)]) (fun j _ => by rw [lo 62 (by decide)]) (by rw [lo 55 (by decide)]; exact g5.2.2.2.2.2.2.2.2)⟩
  · subst e; rw [o1] at b3; rcases b3 with b3 | b3 <;> exact absurd b3 (by decide)
  · subst e; rw [o3] at b3; rcases b3 with b3 | b3 <;> exact absurd b3 (by decide)
  · rw [rr 58 q (by decide) (by decide) (by omega), rr 59 q (by decide) (by decide) (by omega), rr 60 q (by decide) (by decide) (by omega)]; exact r5 q q1 q2
  · by_cases e : q = p
    · subst e; exact ⟨(r6 q hp).1, by rw [ea]; exact h1⟩
    · obtain ⟨u1, u2⟩ := r6 q q1
      have u2' := u2
      obtain ⟨⟨⟨s1, s2, s3⟩, s4, s5⟩, _⟩ := u2'
      have d1 : ¬ xp R q = a := fun w => e (r7 q p q1 hp (by rw [w, ea]))
      have d2 : ¬ xp R q = a + 1 := fun w => by rw [w, o3] at s1; exact absurd s1 (by decide)
      have d3 : ¬ xp R q + 1 = a := fun w => by rw [w, o1] at s3; exact absurd s3 (by decide)
      exact ⟨u1, qPa1_e u2 hi (Nat.le_refl _) ⟨rfl, rfl⟩ rfl (rr 57 q (by decide) (by decide) e) (rr 58 q (by decide) (by decide) e) (rr 59 q (by decide) (by decide) e) (rr 60 q (by decide) (by decide) e) (fun j _ => by rw [ro _ d1 d2 (by omega)]) (fun k _ => by rw [ro _ d3 (by omega) (by omega)])⟩
/-- a call refused -/
theorem done_x {i e : Nat} {W : Nat → Nat → Int} (h : qInv i T z V R) (hd : pDu V W) : qDone (some (.inl (some (xw 1)), (va_up T z.1 (1 + e, 0), (z.1 + 1, z.2 + 6), xv (va_up W z.1 (fun _ => 0)), va_up J z.1 (fun _ => 0), va_up R z.1 (fun _ => none)))) i z := by
  refine ⟨_, _, _, _, _, rfl, qInv_k (qInv_d h (Nat.le_refl i) hd) (Nat.le_succ i) (qKeep_x h.2.1 (fun _ _ _ => rfl)), ?_, ?_⟩
  · show z.1 + 1 ≤ _; omega
  · show z.2 + 6 ≤ _; omega
theorem done_v {i : Nat} {W : Nat → Nat → Int} (h : qInv (i + 1) T z W R) : qDone (some (.inl (some (xw 1)), (T, z, xv W, J, R))) i z := ⟨_, _, _, _, _, rfl, h, by omega, by omega⟩
theorem qp_b {i n P : Nat} (hx : qPar i T n V R P) : ∀ p, p < P → (0 ≤ V 57 p ∧ V 57 p < 1048576) ∧ (0 ≤ V 60 p ∧ V 60 p ≤ 10000) := fun p hp => by
  obtain ⟨_, _, _, _, ⟨b0, b1, b5, b8, b57, b58⟩, ⟨st, b60, _⟩, _⟩ := (hx.2.2.2.1 p hp).2
  exact ⟨b57, b60⟩
/-- which part is meant -/
theorem pt_start {P : Nat} {what one two : Int} (hA : pAr T) (hP : P ≤ 10 ∧ V 63 1 = P) (hb : ∀ p, p < P → (0 ≤ V 57 p ∧ V 57 p < 1048576) ∧ (0 ≤ V 60 p ∧ V 60 p ≤ 10000)) (h1 : 0 ≤ one ∧ one < 60000) :
    ∃ (p : Nat) (its : Int), p ≤ P ∧ (its = if p < P then V 57 p else 0) ∧ (0 ≤ its ∧ its < 1048576) ∧ X sc (d + 1) 107 [.ref 0, .ref 57, .ref 58, .ref 59, .ref 60, .ref 63, xw what, xw one, xw two] (T, z, xv V, J, R) =
      XR sc d 107 67 [some (.ref 0), some (.ref 57), some (.ref 58), some (.ref 59), some (.ref 60), some (.ref 63), some (xw what), some (xw one), some (xw two), some (xw p), some (xw (xB (decide (p < P)))), some (xw its), none, none, none, none, none, none, none, none, none, none] [xw (xB (decide (p < P ∧ V 60 p = 0 ∧ its < 524288)))] (T, z, xv V, J, R) := by
  have m0 := Int.emod_nonneg one (show V 63 1 + 1 ≠ 0 by omega)
  have m1 := Int.emod_lt_of_pos one (show 0 < V 63 1 + 1 by omega)
  obtain ⟨p, ep⟩ : ∃ m : Nat, one % (V 63 1 + 1) = m := ⟨(one % (V 63 1 + 1)).toNat, by omega⟩
  by_cases c : p < P
  · obtain ⟨b1, b2⟩ := hb p c
    refine ⟨p, V 57 p, by omega, by rw [if_pos c], b1, ?_⟩
    rw [eL_isPart, bL_isPart_0 (by rw [pA63 hA]) (by rw [pA63 hA]; omega) (by omega) (by omega) (by omega), ep, if_neg (by omega), bL_isPart_20, bL_isPart_25 (by first | omega | exact xB_in _ | exact xB_01 _ | exact iAnd_in | exact iShr_in | (simp only [Int.toNat_natCast]; omega) | decide), if_neg (by first | omega | decide), bL_isPart_32 (by rw [pA57 hA]) (by rw [pA57 hA]; omega), Int.toNat_natCast, bL_isPart_40 (by first | omega | exact xB_in _ | exact xB_01 _ | exact iAnd_in | exact iShr_in | (simp only [Int.toNat_natCast]; omega) | decide), if_neg (by first | omega | decide), decide_eq_true c, bL_isPart_47 (by rw [pA60 hA]) (by rw [pA60 hA]; omega) (by rw [Int.toNat_natCast]; omega), Int.toNat_natCast]
    by_cases c2 : V 60 p = 0
    · rw [if_pos c2]
      by_cases c3 : 524288 ≤ V 57 p
      · rw [decide_eq_false (show ¬ (p < P ∧ V 60 p = 0 ∧ V 57 p < 524288) by omega), bL_isPart_55 (by first | omega | exact xB_in _ | exact xB_01 _ | exact iAnd_in | exact iShr_in | (simp only [Int.toNat_natCast]; omega) | decide), if_pos (by first | omega | decide), bL_isPart_66]; rfl
      · rw [decide_eq_true (show p < P ∧ V 60 p = 0 ∧ V 57 p < 524288 by omega), bL_isPart_55 (by first | omega | exact xB_in _ | exact xB_01 _ | exact iAnd_in | exact iShr_in | (simp only [Int.toNat_natCast]; omega) | decide), if_neg (by first | omega | decide), bL_isPart_62]; rfl
    · rw [if_neg c2, decide_eq_false (show ¬ (p < P ∧ V 60 p = 0 ∧ V 57 p < 524288) by omega), bL_isPart_66]; rfl
  · refine ⟨p, 0, by omega, by rw [if_neg c], by decide, ?_⟩
    rw [eL_isPart, bL_isPart_0 (by rw [pA63 hA]) (by rw [pA63 hA]; omega) (by omega) (by omega) (by omega), ep, if_pos (by omega), bL_isPart_24, bL_isPart_25 (by first | omega | exact xB_in _ | exact xB_01 _ | exact iAnd_in | exact iShr_in | (simp only [Int.toNat_natCast]; omega) | decide), if_pos (by first | omega | decide), bL_isPart_39, bL_isPart_40 (by first | omega | exact xB_in _ | exact xB_01 _ | exact iAnd_in | exact iShr_in | (simp only [Int.toNat_natCast]; omega) | decide), if_pos (by first | omega | decide), bL_isPart_66, decide_eq_false c, decide_eq_false (show ¬ (p < P ∧ V 60 p = 0 ∧ (0 : Int) < 524288) by omega)]; rfl
/-- oil -/
theorem t_oil {i : Nat} {one two : Int} (hI : qInv i T z V R) (hi : i ≤ 63) (h1 : 0 ≤ one ∧ one < 60000) (h2 : 0 ≤ two ∧ two < 60000) : qDone (X sc 11 107 [.ref 0, .ref 57, .ref 58, .ref 59, .ref 60, .ref 63, xw 5, xw one, xw two] (T, z, xv V, J, R)) i z := by
  obtain ⟨hT, hRo, hHs, hSs, hSe, hA⟩ := hI.1
  have hz := hI.2.1
  obtain ⟨P, hP⟩ := hI.2.2.2.1
  obtain ⟨⟨r1, r2, r3⟩, r4, ⟨r5, r5b⟩, r6, r7⟩ := id hP
  obtain ⟨p, its, a1, a2, a0, a3⟩ := pt_start (sc := sc) (d := 10) (T := T) (z := z) (V := V) (J := J) (R := R) (what := 5) (two := two) hA ⟨r1, r3⟩ (qp_b hP) h1
  rw [a3, bL_isPart_67 (by first | omega | exact xB_in _ | exact xB_01 _ | exact iAnd_in | exact iShr_in | (simp only [Int.toNat_natCast]; omega) | decide), if_neg (by first | omega | decide), bL_isPart_245 (by first | omega | exact xB_in _ | exact xB_01 _ | exact iAnd_in | exact iShr_in | (simp only [Int.toNat_natCast]; omega) | decide), if_neg (by first | omega | decide), bL_isPart_444 (by first | omega | exact xB_in _ | exact xB_01 _ | exact iAnd_in | exact iShr_in | (simp only [Int.toNat_natCast]; omega) | decide), if_neg (by first | omega | decide), bL_isPart_725 (by first | omega | exact xB_in _ | exact xB_01 _ | exact iAnd_in | exact iShr_in | (simp only [Int.toNat_natCast]; omega) | decide), if_neg (by first | omega | decide), bL_isPart_832 (by first | omega | exact xB_in _ | exact xB_01 _ | exact iAnd_in | exact iShr_in | (simp only [Int.toNat_natCast]; omega) | decide), if_neg (by first | omega | decide), bL_isPart_1049 (by first | omega | exact xB_in _ | exact xB_01 _ | exact iAnd_in | exact iShr_in | (simp only [Int.toNat_natCast]; omega) | decide), if_pos (by first | omega | decide)]
  by_cases c : p < P
  · obtain ⟨a, ea, ha, g1⟩ := qp_y hP c
    have va := qp_va g1 (by omega)
    obtain ⟨⟨hPa, ga, gn⟩, ⟨w0, w1, w2, w3, w5, w4⟩, ⟨w7, w8, w12⟩, ⟨w9, w10, w11⟩, ⟨b0, b1, b5, b8, b57, b58⟩, ⟨st, b60, s60⟩, bt, w6⟩ := id g1
    rw [decide_eq_true c, bL_isPart_1055 (by first | omega | exact xB_in _ | exact xB_01 _ | exact iAnd_in | exact iShr_in | (simp only [Int.toNat_natCast]; omega) | decide), if_neg (by first | omega | decide), bL_isPart_1061, bL_isPart_1068 (by rw [pA58 hA]) (by rw [pA58 hA]; omega) (by rw [Int.toNat_natCast]; omega), Int.toNat_natCast]
    have Wa : xup2 V 58 p (V 58 p / 2) a = V a := xup2_o (by omega)
    have cls := s_oil (sc := sc) (d := 1) (T := T) (z := z) (V := xup2 V 58 p (V 58 p / 2)) (J := J) (R := R) (x := (p : Int)) (a := a) hT (by omega) (by rw [Int.toNat_natCast]; exact ha) hPa.1 (by rw [Wa]; omega)
    rw [Wa] at cls
    have ro : ∀ b, ¬ b = a → ¬ b = a + 1 → ¬ (57 ≤ b ∧ b ≤ 60) → xup2 (xup2 V 58 p (V 58 p / 2)) a 7 (V a 7 / 2) b = V b := fun b b1 b2 b3 => by rw [xup2_o b1, xup2_o (by omega)]
    have rr : ∀ r q, 57 ≤ r → r ≤ 60 → ¬ q = p → xup2 (xup2 V 58 p (V 58 p / 2)) a 7 (V a 7 / 2) r q = V r q := fun r q r1 r2 hq => by
      rw [xup2_o (by omega)]
      by_cases e : r = 58
      · subst e; rw [xup2_j hq]
      · rw [xup2_o e]
    have e57 : xup2 (xup2 V 58 p (V 58 p / 2)) a 7 (V a 7 / 2) 57 p = V 57 p := by rw [xup2_o (by omega), xup2_o (by decide)]
    have e58 : xup2 (xup2 V 58 p (V 58 p / 2)) a 7 (V a 7 / 2) 58 p = V 58 p / 2 := by rw [xup2_o (by omega), xup2_i]
    have e59 : xup2 (xup2 V 58 p (V 58 p / 2)) a 7 (V a 7 / 2) 59 p = V 59 p := by rw [xup2_o (by omega), xup2_o (by decide)]
    have e60 : xup2 (xup2 V 58 p (V 58 p / 2)) a 7 (V a 7 / 2) 60 p = V 60 p := by rw [xup2_o (by omega), xup2_o (by decide)]
    have eg : xup2 (xup2 V 58 p (V 58 p / 2)) a 7 (V a 7 / 2) (a + 1) = V (a + 1) := by rw [xup2_o (by omega), xup2_o (by omega)]
    have ra : ∀ j, xup2 (xup2 V 58 p (V 58 p / 2)) a 7 (V a 7 / 2) a j = if j = 7 then V 58 p / 2 else V a j := fun j => by
      by_cases e : j = 7
      · subst e; rw [xup2_i, if_pos rfl, w7]
      · rw [xup2_j e, if_neg e, Wa]
    rw [dv_oil hT.1 cls, xret_v]
    revert ro rr e57 e58 e59 e60 eg ra
    generalize xup2 (xup2 V 58 p (V 58 p / 2)) a 7 (V a 7 / 2) = W
    intro ro rr e57 e58 e59 e60 eg ra
    rw [bL_isPart_1086 (by decide), if_neg (by decide), bL_isPart_1091 (by rw [pA58 hA]) (by rw [pA58 hA]; omega), Int.toNat_natCast, e58, bL_isPart_1100 (by omega) (by omega), if_pos (by omega), bL_isPart_1103, bL_isPart_1108 (by first | omega | exact xB_in _ | exact xB_01 _ | exact iAnd_in | exact iShr_in | (simp only [Int.toNat_natCast]; omega) | decide)]
    obtain ⟨o1, o2, o3⟩ := pO_p e60
    have g2 : qPa1 (i + 1) T z.1 W R p a := by
      unfold qPa1 aSt at g1 ⊢
      rw [e57, e58, e59, e60, eg, o1, o2, o3]
      simp only [ra, Nat.reduceEqDiff, if_true, if_false]
      exact ⟨g1.1, g1.2.1, ⟨trivial, w8, w12⟩, g1.2.2.2.1, ⟨b0, b1, b5, b8, b57, by omega⟩, g1.2.2.2.2.2⟩
    exact done_v (qInv_p hI (Nat.le_succ i) hP c ea ro rr g2)
  · have cls := s_oil_x (sc := sc) (d := 1) (T := T) (z := z) (V := xup2 V 58 10 (V 58 10 / 2)) (J := J) (R := R) (x := (p : Int)) hT (by omega) (qp_no hP (by omega))
    rw [decide_eq_false c, bL_isPart_1055 (by first | omega | exact xB_in _ | exact xB_01 _ | exact iAnd_in | exact iShr_in | (simp only [Int.toNat_natCast]; omega) | decide), if_pos (by first | omega | decide), bL_isPart_1066, bL_isPart_1068 (by rw [pA58 hA]) (by rw [pA58 hA]; omega) (by rw [show Int.toNat 10 = 10 from rfl, r5b]; decide), show Int.toNat 10 = 10 from rfl, dx_oil hT.1 (by decide) cls, xret_v, bL_isPart_1086 (by first | omega | exact xB_in _ | exact xB_01 _ | exact iAnd_in | exact iShr_in | (simp only [Int.toNat_natCast]; omega) | decide), if_pos (by first | omega | decide), bL_isPart_1098, bL_isPart_1100 (by decide) (by decide), if_pos (by decide), bL_isPart_1103, bL_isPart_1108 (by first | omega | exact xB_in _ | exact xB_01 _ | exact iAnd_in | exact iShr_in | (simp only [Int.toNat_natCast]; omega) | decide)]
    exact done_x hI (pDu_w (by omega))
/-- unbuckle -/
theorem t_unbuckle {i : Nat} {one two : Int} (hI : qInv i T z V R) (hi : i ≤ 63) (h1 : 0 ≤ one ∧ one < 60000) (h2 : 0 ≤ two ∧ two < 60000) : qDone (X sc 11 107 [.ref 0, .ref 57, .ref 58, .ref 59, .ref 60, .ref 63, xw 3, xw one, xw two] (T, z, xv V, J, R)) i z := by
  obtain ⟨hT, hRo, hHs, hSs, hSe, hA⟩ := hI.1
  have hz := hI.2.1
  obtain ⟨P, hP⟩ := hI.2.2.2.1
  obtain ⟨⟨r1, r2, r3⟩, r4, ⟨r5, r5b⟩, r6, r7⟩ := id hP
  obtain ⟨p, its, a1, a2, a0, a3⟩ := pt_start (sc := sc) (d := 10) (T := T) (z := z) (V := V) (J := J) (R := R) (what := 3) (two := two) hA ⟨r1, r3⟩ (qp_b hP) h1
  rw [a3, bL_isPart_67 (by first | omega | exact xB_in _ | exact xB_01 _ | exact iAnd_in | exact iShr_in | (simp only [Int.toNat_natCast]; omega) | decide), if_neg (by first | omega | decide), bL_isPart_245 (by first | omega | exact xB_in _ | exact xB_01 _ | exact iAnd_in | exact iShr_in | (simp only [Int.toNat_natCast]; omega) | decide), if_neg (by first | omega | decide), bL_isPart_444 (by first | omega | exact xB_in _ | exact xB_01 _ | exact iAnd_in | exact iShr_in | (simp only [Int.toNat_natCast]; omega) | decide), if_neg (by first | omega | decide), bL_isPart_725 (by first | omega | exact xB_in _ | exact xB_01 _ | exact iAnd_in | exact iShr_in | (simp only [Int.toNat_natCast]; omega) | decide), if_pos (by first | omega | decide)]
  by_cases c : p < P
  · obtain ⟨a, ea, ha, g1⟩ := qp_y hP c
    have va := qp_va g1 (by omega)
    obtain ⟨⟨hPa, ga, gn⟩, ⟨w0, w1, w2, w3, w5, w4⟩, ⟨w7, w8, w12⟩, ⟨w9, w10, w11⟩, ⟨b0, b1, b5, b8, b57, b58⟩, ⟨st, b60, s60⟩, bt, w6⟩ := id g1
    rw [decide_eq_true c, bL_isPart_731 (by first | omega | exact xB_in _ | exact xB_01 _ | exact iAnd_in | exact iShr_in | (simp only [Int.toNat_natCast]; omega) | decide), if_neg (by first | omega | decide), bL_isPart_736 (by rw [pA60 hA]) (by rw [pA60 hA]; omega) (by rw [Int.toNat_natCast]; omega), Int.toNat_natCast]
    by_cases c2 : V 60 p ≤ 0
    · have l := (pL_0 c2).2.2
      have Wa : xup2 V 60 10 0 a = V a := xup2_o (by omega)
      have cls := s_unbuckle (sc := sc) (d := 1) (T := T) (z := z) (V := xup2 V 60 10 0) (J := J) (R := R) (x := (p : Int)) (a := a) hT (by omega) (by rw [Int.toNat_natCast]; exact ha) hPa.1 (by rw [Wa]; exact va 11 (by decide))
      rw [Wa, if_pos (by omega)] at cls
      rw [if_pos c2, bL_isPart_748, bL_isPart_749 (by first | omega | exact xB_in _ | exact xB_01 _ | exact iAnd_in | exact iShr_in | (simp only [Int.toNat_natCast]; omega) | decide), if_pos (by first | omega | decide), bL_isPart_769, bL_isPart_770 (by first | omega | exact xB_in _ | exact xB_01 _ | exact iAnd_in | exact iShr_in | (simp only [Int.toNat_natCast]; omega) | decide), if_pos (by first | omega | decide), bL_isPart_784, bL_isPart_786 (by rw [pA60 hA]) (by rw [pA60 hA]; omega), show Int.toNat 10 = 10 from rfl, dx_unbuckle hT.1 (by decide) cls, xret_v, bL_isPart_801 (by first | omega | exact xB_in _ | exact xB_01 _ | exact iAnd_in | exact iShr_in | (simp only [Int.toNat_natCast]; omega) | decide), if_neg (by first | omega | decide), bL_isPart_811 (by first | omega | exact xB_in _ | exact xB_01 _ | exact iAnd_in | exact iShr_in | (simp only [Int.toNat_natCast]; omega) | decide), if_pos (by first | omega | decide), bL_isPart_821, bL_isPart_823 (by decide) (by decide), if_pos (by decide), bL_isPart_826, bL_isPart_831 (by first | omega | exact xB_in _ | exact xB_01 _ | exact iAnd_in | exact iShr_in | (simp only [Int.toNat_natCast]; omega) | decide)]
      exact done_x hI (pDu_u (by decide))
    · have l := (pL_v (V := V) (p := p) (by omega))
      have st' := st
      unfold aSt at st'
      have Wa : xup2 V 60 p 0 a = V a := xup2_o (by omega)
      have cls := s_unbuckle (sc := sc) (d := 1) (T := T) (z := z) (V := xup2 V 60 p 0) (J := J) (R := R) (x := (p : Int)) (a := a) hT (by omega) (by rw [Int.toNat_natCast]; exact ha) hPa.1 (by rw [Wa]; exact va 11 (by decide))
      rw [Wa, if_neg (by omega)] at cls
      rw [if_neg c2, bL_isPart_744, bL_isPart_749 (by first | omega | exact xB_in _ | exact xB_01 _ | exact iAnd_in | exact iShr_in | (simp only [Int.toNat_natCast]; omega) | decide), if_neg (by first | omega | decide), bL_isPart_756 (by rw [pA60 hA]) (by rw [pA60 hA]; omega) (by rw [Int.toNat_natCast]; omega), Int.toNat_natCast, bL_isPart_770 (by first | omega | exact xB_in _ | exact xB_01 _ | exact iAnd_in | exact iShr_in | (simp only [Int.toNat_natCast]; omega) | decide), if_neg (by first | omega | decide), bL_isPart_779, bL_isPart_786 (by rw [pA60 hA]) (by rw [pA60 hA]; omega), Int.toNat_natCast, dv_unbuckle hT.1 cls, xret_v, bL_isPart_801 (by first | omega | exact xB_in _ | exact xB_01 _ | exact iAnd_in | exact iShr_in | (simp only [Int.toNat_natCast]; omega) | decide), if_neg (by first | omega | decide), bL_isPart_811 (by first | omega | exact xB_in _ | exact xB_01 _ | exact iAnd_in | exact iShr_in | (simp only [Int.toNat_natCast]; omega) | decide), if_neg (by first | omega | decide), bL_isPart_816, bL_isPart_823 (va 11 (by decide)) (by omega), if_pos (by omega), bL_isPart_826, bL_isPart_831 (by first | omega | exact xB_in _ | exact xB_01 _ | exact iAnd_in | exact iShr_in | (simp only [Int.toNat_natCast]; omega) | decide)]
      have go : ∀ b, ¬ b = a → xGo (xup2 V 60 p 0) a b = xup2 V 60 p 0 b := fun b hb => by unfold xGo; rw [xup2_o hb, xup2_o hb, xup2_o hb]
      have ro : ∀ b, ¬ b = a → ¬ b = a + 1 → ¬ (57 ≤ b ∧ b ≤ 60) → xGo (xup2 V 60 p 0) a b = V b := fun b b1 b2 b3 => by rw [go b b1, xup2_o (by omega)]
      have rr : ∀ r q, 57 ≤ r → r ≤ 60 → ¬ q = p → xGo (xup2 V 60 p 0) a r q = V r q := fun r q r1 r2 hq => by
        rw [go r (by omega)]
        by_cases e : r = 60
        · subst e; rw [xup2_j hq]
        · rw [xup2_o e]
      have e57 : xGo (xup2 V 60 p 0) a 57 p = V 57 p := by rw [go 57 (by omega), xup2_o (by decide)]
      have e58 : xGo (xup2 V 60 p 0) a 58 p = V 58 p := by rw [go 58 (by omega), xup2_o (by decide)]
      have e59 : xGo (xup2 V 60 p 0) a 59 p = V 59 p := by rw [go 59 (by omega), xup2_o (by decide)]
      have e60 : xGo (xup2 V 60 p 0) a 60 p = 0 := by rw [go 60 (by omega), xup2_i]
      have eg : xGo (xup2 V 60 p 0) a (a + 1) = V (a + 1) := by rw [go (a + 1) (by omega), xup2_o (by omega)]
      have ra : ∀ j, xGo (xup2 V 60 p 0) a a j = if j = 9 ∨ j = 10 ∨ j = 11 then -1 else V a j := fun j => by
        unfold xGo
        by_cases e1 : j = 11
        · subst e1; rw [xup2_i, if_pos (by omega)]
        · rw [xup2_j e1]
          by_cases e2 : j = 10
          · subst e2; rw [xup2_i, if_pos (by omega)]
          · rw [xup2_j e2]
            by_cases e3 : j = 9
            · subst e3; rw [xup2_i, if_pos (by omega)]
            · rw [xup2_j e3, if_neg (by omega), Wa]
      generalize xGo (xup2 V 60 p 0) a = W at *
      obtain ⟨o1, o2, o3⟩ := pL_0 (V := W) (p := p) (by omega)
      have g2 : qPa1 (i + 1) T z.1 W R p a := by
        unfold qPa1 aSt at g1 ⊢
        rw [e57, e58, e59, e60, eg, o1, o2, o3]
        simp only [ra, Nat.reduceEqDiff, if_true, if_false, or_self, or_true, true_or, false_or, or_false]
        exact ⟨g1.1, g1.2.1, g1.2.2.1, ⟨by decide, by decide, trivial⟩, ⟨b0, b1, b5, b8, b57, by omega⟩, ⟨Or.inl ⟨trivial, trivial, trivial⟩, by decide, fun _ => trivial⟩, bt, w6⟩
      exact done_v (qInv_p hI (Nat.le_succ i) hP c ea ro rr g2)
  · have cls := s_unbuckle_x (sc := sc) (d := 1) (T := T) (z := z) (V := xup2 V 60 10 0) (J := J) (R := R) (x := (p : Int)) hT (by omega) (qp_no hP (by omega))
    rw [decide_eq_false c, bL_isPart_731 (by first | omega | exact xB_in _ | exact xB_01 _ | exact iAnd_in | exact iShr_in | (simp only [Int.toNat_natCast]; omega) | decide), if_pos (by first | omega | decide), bL_isPart_748, bL_isPart_749 (by first | omega | exact xB_in _ | exact xB_01 _ | exact iAnd_in | exact iShr_in | (simp only [Int.toNat_natCast]; omega) | decide), if_pos (by first | omega | decide), bL_isPart_769, bL_isPart_770 (by first | omega | exact xB_in _ | exact xB_01 _ | exact iAnd_in | exact iShr_in | (simp only [Int.toNat_natCast]; omega) | decide), if_pos (by first | omega | decide), bL_isPart_784, bL_isPart_786 (by rw [pA60 hA]) (by rw [pA60 hA]; omega), show Int.toNat 10 = 10 from rfl, dx_unbuckle hT.1 (by decide) cls, xret_v, bL_isPart_801 (by first | omega | exact xB_in _ | exact xB_01 _ | exact iAnd_in | exact iShr_in | (simp only [Int.toNat_natCast]; omega) | decide), if_pos (by first | omega | decide), bL_isPart_806, bL_isPart_823 (by decide) (by decide), if_pos (by decide), bL_isPart_826, bL_isPart_831 (by first | omega | exact xB_in _ | exact xB_01 _ | exact iAnd_in | exact iShr_in | (simp only [Int.toNat_natCast]; omega) | decide)]
    exact done_x hI (pDu_u (by decide))
end P14
