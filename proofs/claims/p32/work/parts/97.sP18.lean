/-! the property's law: pulls, class and law -/
theorem mul_in {x y : Int} (hx : 0 ≤ x ∧ x ≤ 8) (hy : 0 ≤ y ∧ y ≤ 9) : 0 ≤ 10 * x * y ∧ 10 * x * y ≤ 1000 := by
  rcases (show x = 0 ∨ x = 1 ∨ x = 2 ∨ x = 3 ∨ x = 4 ∨ x = 5 ∨ x = 6 ∨ x = 7 ∨ x = 8 by omega) with rfl | rfl | rfl | rfl | rfl | rfl | rfl | rfl | rfl <;> omega
theorem aPl_r2 {n t f : Nat} {g : Int} {st : Nat → Int} : ∀ (m : Nat) (b : Int) (S : Nat → Nat → Int), (∀ q, S 70 q = -1 → (aPl n t f g st m b S).2 70 q = -1) ∧ (∀ q, (aPl n t f g st m b S).2 67 q = S 67 q ∨ ((aPl n t f g st m b S).2 67 q = 1 ∧ (aPl n t f g st m b S).2 70 q = -1)) ∧ (b ≤ (aPl n t f g st m b S).1 ∧ (aPl n t f g st m b S).1 ≤ b + m) := by
  intro m
  induction m with
  | zero => intro b S; exact ⟨fun _ h => h, fun _ => Or.inl rfl, Int.le_refl b, by show b ≤ b + 0; omega⟩
  | succ m ih =>
    intro b S
    rw [aPl]
    by_cases c : aBr S n t f g st = -1
    · rw [if_pos c]; exact ⟨fun _ h => h, fun _ => Or.inl rfl, Int.le_refl b, by show b ≤ b + ((m + 1 : Nat) : Int); omega⟩
    · rw [if_neg c]
      obtain ⟨k, k1, k2, _⟩ := aBr_c c
      have ek : (aBr S n t f g st).toNat = k := by rw [k2]; exact Int.toNat_natCast k
      rw [ek]
      obtain ⟨p8, p9, p0, p7, po⟩ := aFr1_r (V := S) (k := k)
      obtain ⟨i1, i2, i3⟩ := ih (b + 1) (aFr1 S k)
      have j1 : ∀ q, S 70 q = -1 → (aPl n t f g st m (b + 1) (aFr1 S k)).2 70 q = -1 := fun q h => i1 q (by
        rw [p0]
        by_cases e : q = k
        · subst e; rw [va_same]
        · rw [va_ne e]; exact h)
      refine ⟨j1, fun q => ?_, ?_, ?_⟩
      · by_cases e : q = k
        · have h70 : (aPl n t f g st m (b + 1) (aFr1 S k)).2 70 q = -1 := i1 q (by rw [p0, e, va_same])
          rcases i2 q with h | h
          · exact Or.inr ⟨h.trans (by rw [p7, e, va_same]), h70⟩
          · exact Or.inr h
        · rcases i2 q with h | h
          · exact Or.inl (h.trans (by rw [p7, va_ne e]))
          · exact Or.inr h
      · have := i3.1
        show b ≤ (aPl n t f g st m (b + 1) (aFr1 S k)).1
        omega
      · have := i3.2
        show (aPl n t f g st m (b + 1) (aFr1 S k)).1 ≤ b + ((m + 1 : Nat) : Int)
        omega
theorem pMn_z1 {v : Int} : ∀ m k, pMn v m k ≤ 0 → ∀ q, k ≤ q → q < k + m → iBt v q = false := by
  intro m
  induction m with
  | zero => intro k _ q a b; omega
  | succ m ih =>
    intro k h q a b
    have nn := pMn_in (v := v) m (k + 1)
    rw [pMn] at h
    by_cases c : iBt v k = true
    · rw [if_pos c] at h; omega
    · rw [if_neg c] at h
      by_cases e : q = k
      · subst e; exact Bool.eq_false_iff.mpr c
      · exact ih (k + 1) (by omega) q (by omega) (by omega)
theorem pMn_z {v : Int} (hv : 0 ≤ v ∧ v < 268435456) : pMn v 30 0 ≤ 0 ↔ v = 0 := by
  refine ⟨fun h => ?_, fun h => by subst h; rw [pMn_0 30 0 (fun q _ b => iBt_0 q (by omega))]; decide⟩
  have hb := pMn_z1 30 0 h
  obtain ⟨m, rfl⟩ : ∃ m : Nat, v = m := ⟨v.toNat, by omega⟩
  have : m = 0 := by
    refine Nat.eq_of_testBit_eq fun i => ?_
    rw [Nat.zero_testBit]
    by_cases c : i < 28
    · rw [← iBt_nat (m := m) (by omega)]; exact hb i (Nat.zero_le _) (by omega)
    · exact Nat.testBit_lt_two_pow (Nat.lt_of_lt_of_le (show m < 2 ^ 28 by omega) (Nat.pow_le_pow_right (by decide) (by omega)))
  rw [this]; rfl
theorem pk_q {x y : Int} (h : y % 524288 = x % 524288) : y % 16 = x % 16 ∧ y / 16 % 16 = x / 16 % 16 ∧ y / 256 % 16 = x / 256 % 16 ∧ y / 4096 % 8 = x / 4096 % 8 ∧ y / 32768 % 2 = x / 32768 % 2 ∧ y / 65536 % 8 = x / 65536 % 8 := by
  obtain ⟨k, rfl⟩ : ∃ k, y = x + 524288 * k := ⟨y / 524288 - x / 524288, by omega⟩
  clear h
  refine ⟨by omega, ?_, ?_, ?_, ?_, ?_⟩
  · rw [show (x + 524288 * k) / 16 = x / 16 + 32768 * k by omega]; omega
  · rw [show (x + 524288 * k) / 256 = x / 256 + 2048 * k by omega]; omega
  · rw [show (x + 524288 * k) / 4096 = x / 4096 + 128 * k by omega]; omega
  · rw [show (x + 524288 * k) / 32768 = x / 32768 + 16 * k by omega]; omega
  · rw [show (x + 524288 * k) / 65536 = x / 65536 + 8 * k by omega]; omega
section P18
variable {sc : xS} {d : Nat} {T : Nat → Nat × Nat} {z : Nat × Nat} {V : Nat → Nat → Int} {J : Nat → Nat → Int64} {R : Nat → Nat → Option Nat}
theorem qp_st {i n p a : Nat} (h1 : qPa1 i T n V R p a) : xSt V a = pSs V p := by
  obtain ⟨_, ⟨w0, w1, w2, w3, w5, w4⟩, ⟨w7, w8, w12⟩, _, _, _, ⟨b59, _, _⟩, w6⟩ := h1
  have e6 := pMn_z b59
  unfold xSt pSs pSt
  rw [w1, w5, w7, w6]
  by_cases c : V 59 p = 0
  · rw [if_pos (e6.mpr c), if_pos c]
  · rw [if_neg (fun q => c (e6.mp q)), if_neg c]
theorem qp_xPx {i n p a : Nat} (h1 : qPa1 i T n V R p a) (hi : i ≤ 64) : xPx V a := by
  have va := qp_va h1 hi
  obtain ⟨_, _, ⟨w7, _, _⟩, ⟨w9, w10, w11⟩, ⟨b0, b1, b5, b8, b57, b58⟩, ⟨st, _, _⟩, _, w6⟩ := h1
  refine ⟨?_, va 6 (by decide), mul_in (by omega) (by omega), by omega⟩
  unfold xPb
  unfold aSt at st
  omega
theorem qp_xPq {i n P : Nat} (hP : qPar i T n V R P) (hi : i ≤ 64) : xPq T R V P := by
  obtain ⟨⟨r1, r2, r3⟩, r4, ⟨r5, r5b⟩, r6, r7⟩ := hP
  exact ⟨by omega, r2, r4, fun k hk => ⟨(r6 k hk).1, (r6 k hk).2.1.1.1, qp_xPx (r6 k hk).2 hi⟩⟩
theorem qp_aCl {i n P : Nat} (hP : qPar i T n V R P) : aCl R V (pO V) (pQ V) (pL V) P := by
  intro p hp
  obtain ⟨_, _, _, ⟨w9, w10, w11⟩, _, ⟨st, _, _⟩, _⟩ := (hP.2.2.2.1 p hp).2
  exact ⟨st, w9, w10, w11⟩
theorem qp_mo {i n P : Nat} (hP : qPar i T n V R P) : pMo V P := ⟨hP.1.2.2, hP.1.1, fun p hp => (hP.2.2.2.1 p hp).2.2.2.2.2.2.1.2.1, fun p hp => (hP.2.2.2.1 p hp).2.2.2.2.2.2.1.1⟩
theorem qp_pb {i n P : Nat} (hP : qPar i T n V R P) (hi : i ≤ 64) : pPb V P := fun p hp => by
  obtain ⟨_, _, _, _, ⟨b0, b1, b5, b8, b57, b58⟩, ⟨st, b60, s60⟩, ⟨b59, _, _⟩, _⟩ := (hP.2.2.2.1 p hp).2
  refine ⟨b57, by omega, by omega, fun q => ?_⟩
  by_cases c : V 57 p < 524288
  · exact c
  · exact absurd (pL_0 (V := V) (p := p) (by have := s60 (by omega); omega)).2.2 q
/-- all parts change -/
theorem qInv_a {i i' P : Nat} {z' : Nat × Nat} {T' : Nat → Nat × Nat} {V' : Nat → Nat → Int} {R' : Nat → Nat → Option Nat} (h : qInv i T z V R) (hi : i ≤ i') (hP : qPar i T z.1 V R P) (hzz : z.1 ≤ z'.1) (hT : ∀ b, b < z.1 → T' b = T b ∧ R' b = R b) (ro : ∀ b, b < z.1 → ¬ (3 ≤ b ∧ b ≤ 8) → ¬ (b = 57 ∨ b = 58 ∨ b = 60) → (∀ p, p < P → ¬ b = xp R p) → V' b = V b) (hn : ∀ q, P ≤ q → V' 58 q = V 58 q ∧ V' 60 q = V 60 q) (h1 : ∀ p, p < P → qPa1 i' T' z'.1 V' R' p (xp R p)) : qInv i' T' z' V' R' := by
  obtain ⟨g1, g2, ⟨H, g3⟩, _, g5⟩ := h
  obtain ⟨⟨r1, r2, r3⟩, r4, ⟨r5, r5b⟩, r6, r7⟩ := hP
  have ge : ∀ p, p < P → 64 ≤ xp R p ∧ T (xp R p) = (2, 0) := fun p hp => ⟨(r6 p hp).2.1.2.1, (r6 p hp).2.1.1.1⟩
  have lo : ∀ b, b < 64 → ¬ (3 ≤ b ∧ b ≤ 8) → ¬ (b = 57 ∨ b = 58 ∨ b = 60) → V' b = V b := fun b hb x y => ro b (by omega) x y (fun p hp e => by have := (ge p hp).1; omega)
  have eR2 : R' 2 = R 2 := (hT 2 (by omega)).2
  have exp : ∀ p, xp R' p = xp R p := fun p => by unfold xp; rw [eR2]
  refine ⟨qSta_e g1 (fun b hb => (hT b (by omega)).1) (fun b hb _ _ => (hT b (by omega)).2), by omega, ⟨H, qHid_e g3 hzz (fun b _ hb => (hT b hb).1) (hT 1 (by omega)).2 (fun b _ hb => (hT b hb).2) (by rw [lo 0 (by decide) (by decide) (by decide)]) (by rw [lo 63 (by decide) (by decide) (by decide)]) (fun j _ => by rw [lo 56 (by decide) (by decide) (by decide)]) (fun b b1 b2 b3 => ro b b2 (by omega) (by omega) (fun p hp e => ?_))⟩, ⟨P, ⟨r1, by rw [lo 0 (by decide) (by decide) (by decide)]; exact r2, by rw [lo 63 (by decide) (by decide) (by decide)]; exact r3⟩, fun p x y => by rw [eR2]; exact r4 p x y, ⟨fun q q1 q2 => ?_, by rw [(hn 10 r1).1]; exact r5b⟩, fun q q1 => ⟨by rw [exp, eR2]; exact (r6 q q1).1, by rw [exp]; exact h1 q q1⟩, fun p p' x y w => r7 p p' x y (by rw [exp, exp] at w; exact w)⟩, qHor_e g5 hi (by rw [lo 0 (by decide) (by decide) (by decide)]) (by rw [lo 63 (by decide) (by decide) (by decide)]) (fun b b1 b2 => lo b (by omega) (by omega) (by omega)) (fun j _ => by rw [lo 61 (by decide) (by decide) (by decide)]) (fun j _ => by rw [lo 62 (by decide) (by decide) (by decide)]) (by rw [lo 55 (by decide) (by decide) (by decide)]; exact g5.2.2.2.2.2.2.2.2)⟩
  · have t := (ge p hp).2
    rw [← e] at t
    rw [t] at b3
    rcases b3 with b3 | b3 <;> exact absurd b3 (by decide)
  · rw [(hn q q1).1, (hn q q1).2, lo 59 (by decide) (by decide) (by decide)]; exact r5 q q1 q2
/-- a pull where there is a way: the law's, then the class's -/
theorem pull_core {i P f t : Nat} {g : Int} (hI : qInv i T z V R) (hi : i ≤ 63) (hP : qPar i T z.1 V R P) (hf : f < 8) (ht : t < 8) (nft : ¬ f = t) (hg : 1 ≤ g ∧ g ≤ 9999) (hN : pDs V P t f < 1000000) :
    ∃ (T' : Nat → Nat × Nat) (z' : Nat × Nat) (V' : Nat → Nat → Int) (J' : Nat → Nat → Int64) (R' : Nat → Nat → Option Nat) (n : Int) (V'' : Nat → Nat → Int), X sc 10 99 [.ref 57, .ref 58, .ref 59, .ref 60, .ref 63, xw f, xw t, xw g] (T, z, xv V, J, R) = some (.inl (some (xw n)), (T', z', xv V', J', R')) ∧ (z'.1 ≤ z.1 + 124 ∧ z'.2 ≤ z.2 + 1200) ∧ (0 ≤ n ∧ n ≤ 40) ∧ T' 0 = (7, 0) ∧
      X sc 9 62 [.ref 0, xw f, xw t, xw g] (T', z', xv V', J', R') = some (.inl (some (xw n)), (T', z', xv V'', J', R')) ∧ qInv (i + 1) T' z' V'' R' := by
  have hz := hI.2.1
  obtain ⟨hT, hRo, hHs, hSs, hSe, hA⟩ := hI.1
  obtain ⟨T', z', V', J', R', l1, ⟨l2, l2b, l2c⟩, l3, l4, l5, l6, l7, l8⟩ := l_pulls (sc := sc) (d := 5) (T := T) (z := z) (V := V) (J := J) (R := R) (n := P) (t := t) (f := f) (g := g) hA (qp_mo hP) (qp_pb hP (by omega)) ht hf hg hz
  obtain ⟨q1, q2, q3⟩ := aPl_r2 (n := P) (t := t) (f := f) (g := g) (st := pSs V) 40 0 (pS V)
  have eR2 : R' 2 = R 2 := (l3 2 (by omega)).2.1
  have exp : ∀ p, xp R' p = xp R p := fun p => by unfold xp; rw [eR2]
  have hst3 : qSta T' R' := qSta_e hI.1 (fun b hb => (l3 b (by omega)).1) (fun b hb _ _ => (l3 b (by omega)).2.1)
  obtain ⟨hT3, hRo3, _, _, _, _⟩ := id hst3
  have lo : ∀ b, b < z.1 → ¬ b = 57 → ¬ b = 58 → ¬ b = 60 → V' b = V b := fun b hb x y w => (l3 b hb).2.2.2 x y w
  have hPp := qp_xPq hP (by omega)
  have hC := qp_aCl hP
  have ge : ∀ p, p < P → 64 ≤ xp R p ∧ xp R p + 1 < z.1 := fun p hp => (hP.2.2.2.1 p hp).2.1.2
  have hTp : ∀ p, p < P → T' (xp R' p) = (2, 0) := fun p hp => by rw [exp, (l3 _ (by have := ge p hp; omega)).1]; exact (hPp.2.2.2 p hp).2.1
  have evx : ∀ p, p < P → V' (xp R p) = V (xp R p) := fun p hp => by have := ge p hp; exact lo _ (by omega) (by omega) (by omega) (by omega)
  have hPp3 : xPq T' R' V' P := ⟨hPp.1, by rw [lo 0 (by omega) (by decide) (by decide) (by decide)]; exact hPp.2.1, fun k x y => by rw [eR2]; exact hPp.2.2.1 k x y, fun k hk => ⟨by rw [exp, eR2]; exact (hPp.2.2.2 k hk).1, hTp k hk, by rw [exp]; exact xPx_e (evx k hk) (hPp.2.2.2 k hk).2.2⟩⟩
  have hC3 : aCl R' V' (pO V) (pQ V) (pL V) P := fun p hp => by rw [exp, evx p hp]; exact hC p hp
  have hinj : ∀ p p', p < P → p' < P → xp R' p = xp R' p' → p = p' := fun p p' x y w => hP.2.2.2.2 p p' x y (by rw [exp, exp] at w; exact w)
  have hD : aB 1000000 (aCo (pO V) (pQ V) (pL V) P) t (pDs V P t) := pDs_ok ht
  have hr := look_ok hRo3 hPp3 hC3 ht hf hD
  have ec : ∀ p, p < P → xLk R' V' f t (xp R' p) = V (xp R p) := fun p hp => by rw [xLk_ne (xRo_T hRo3 (hTp p hp)), exp, evx p hp]
  have r1 := hr.1
  rw [if_pos hN] at r1
  have cls := s_pull (sc := sc) (d := 0) (T := T') (z := z') (V := V') (J := J') (R := R') (f := (f : Int)) (t := (t : Int)) (g := g) (n := P) hT3 hRo3 hPp3 (by omega) (by omega) (by omega)
  rw [if_pos (by omega), if_pos ⟨by omega, hg⟩, Int.toNat_natCast, Int.toNat_natCast, if_neg (by omega)] at cls
  have hCl : aCl R' (xLk R' V' f t) (pS V 68) (pS V 69) (pS V 70) P := fun p hp => by rw [ec p hp]; exact hC p hp
  have hst : ∀ p, p < P → xSt (xLk R' V' f t) (xp R' p) = pSs V p := fun p hp => by
    rw [← qp_st (hP.2.2.2.1 p hp).2]
    unfold xSt
    rw [ec p hp]
  have hK : ∀ p, p < P → xLk R' V' f t (xp R' p) 12 = pS V 67 p := fun p hp => by rw [ec p hp]; exact (hP.2.2.2.1 p hp).2.2.2.1.2.2
  obtain ⟨x1, ⟨x2, x3, fr, frp⟩, x4⟩ := xBs_ok (g := g) (st := pSs V) hT3 hRo3 ht hf hinj 40 0 (xLk R' V' f t) (pS V) (xPq_l hRo3 hPp3) (xRb_l hRo3 (xPq_s hPp3)) hCl hr hst hK
  rw [x1] at cls
  generalize hVb : (xBs R' f t P g 40 0 (xLk R' V' f t)).2 = Vb at fr frp cls x2 x3 x4
  obtain ⟨ws1, ws2, ws3⟩ := xWs_ok (T := T') (R := R') (n := P) (g := g) hRo3 hTp hinj P 0 Vb (by omega)
  generalize hV1 : xWs R' g P 0 Vb = V1 at ws1 ws2 ws3 cls
  rw [← l4] at x2 x3 x4 q1 q2
  have l5' : ∀ p, V' 57 p % 524288 = V 57 p % 524288 := fun p => (l5 p).1
  refine ⟨T', z', V', J', R', _, V1, l1, ⟨l2b, l2c⟩, ⟨q3.1, by have := q3.2; omega⟩, hT3.1, cls, ?_⟩
  have ro : ∀ b, ¬ (3 ≤ b ∧ b ≤ 8) → (∀ p, p < P → ¬ b = xp R' p) → V1 b = V' b := fun b x y => by rw [ws1 b y, fr b x y]; exact xLk_ne (by omega)
  have rl : ∀ b, ¬ (3 ≤ b ∧ b ≤ 8) → b < 64 → V1 b = V' b := fun b x y => ro b x (fun p hp e => by rw [exp] at e; have := ge p hp; omega)
  refine qInv_a hI (Nat.le_succ i) hP l2 (fun b hb => ⟨(l3 b hb).1, (l3 b hb).2.1⟩) (fun b hb x y w => by rw [ro b x (fun p hp => by rw [exp]; exact w p hp), lo b hb (by omega) (by omega) (by omega)]) (fun q hq => ?_) (fun p hp => ?_)
  · rw [rl 58 (by decide) (by decide), rl 60 (by decide) (by decide), l6 q, if_neg (by omega)]
    exact ⟨rfl, ((l5 q).2 hq).2⟩
  · have h1 := (hP.2.2.2.1 p hp).2
    obtain ⟨⟨hPa, ga, gn⟩, ⟨w0, w1, w2, w3, w5, w4⟩, ⟨w7, w8, w12⟩, ⟨w9, w10, w11⟩, ⟨b0, b1, b5, b8, b57, b58⟩, ⟨st, b60, s60⟩, ⟨b59, t2, t3⟩, w6⟩ := id h1
    have vj : ∀ j, ¬ j = 7 → j < 9 → V1 (xp R p) j = V (xp R p) j := fun j j1 j2 => by
      have := ws2 p hp j j1
      rw [frp p hp j (Or.inl j2), ec p hp, exp] at this
      exact this
    have vk : ∀ j, ¬ j = 7 → V1 (xp R p) j = Vb (xp R' p) j := fun j j1 => by have := ws2 p hp j j1; rw [exp] at this ⊢; exact this
    have u57 : V1 57 = V' 57 := rl 57 (by decide) (by decide)
    have u58 : V1 58 = V' 58 := rl 58 (by decide) (by decide)
    have u59 : V1 59 = V 59 := (rl 59 (by decide) (by decide)).trans (lo 59 (by omega) (by decide) (by decide) (by decide))
    have u60 : V1 60 = V' 60 := rl 60 (by decide) (by decide)
    obtain ⟨c1, c9, c10, c11⟩ := x2 p hp
    have bu := xBu_ok x4 (fun p hp => (x2 p hp).1) hp c9 c10 c11 (g := g)
    have v7 : V1 (xp R p) 7 = V' 58 p := by
      have := ws3 p hp
      rw [if_pos (Nat.zero_le p), frp p hp 7 (by omega), ec p hp, exp, w7, ← exp, bu] at this
      rw [l6 p, if_pos hp, ← exp]
      exact this
    have vg : V1 (xp R p + 1) = V (xp R p + 1) := by
      rw [ro _ (by omega) (fun p' hp' e => ?_), lo _ gn (by omega) (by omega) (by omega)]
      have t := hTp p' hp'
      rw [← e, (l3 _ gn).1, hPa.2.2] at t
      exact absurd t (by decide)
    have pin := aBu_in (O := pS V' 68) (Q := pS V' 69) (L := pS V' 70) (F := aDs (pS V' 68) (pS V' 69) (pS V' 70) P t) (n := P) (t := t) (f := f) (p := p) (g := g) (by omega)
    have hw58 : V' 58 p = V 58 p + aBu (pS V' 68) (pS V' 69) (pS V' 70) P (aDs (pS V' 68) (pS V' 69) (pS V' 70) P t) t f g p / 10 := by
      have := l6 p
      rw [if_pos hp] at this
      exact this
    generalize aBu (pS V' 68) (pS V' 69) (pS V' 70) P (aDs (pS V' 68) (pS V' 69) (pS V' 70) P t) t f g p = bb at pin hw58
    obtain ⟨k1, k2, k3, k4, k5, k6⟩ := pk_q (l5' p)
    have hS67 : pS V' 67 p = V' 57 p / 524288 := rfl
    have hS67v : pS V 67 p = V 57 p / 524288 := rfl
    have hS70 : pS V' 70 p = pL V' p := rfl
    have q2p := q2 p
    rw [hS67, hS67v, hS70] at q2p
    have h57 : 0 ≤ V' 57 p ∧ V' 57 p < 1048576 := by have := l5' p; clear k1 k2 k3 k4 k5 k6; omega
    have hwi : 0 ≤ V' 58 p ∧ V' 58 p ≤ 1000 * ((i + 1 : Nat) : Int) := by clear k1 k2 k3 k4 k5 k6; omega
    have h60 : 0 ≤ V' 60 p ∧ V' 60 p ≤ 10000 := by rcases l8 p hp with h | h <;> rw [h] <;> omega
    have hs60 : 524288 ≤ V' 57 p → V' 60 p = 0 := fun hq => by
      rcases q2p with h | h
      · have e0 := s60 (by clear k1 k2 k3 k4 k5 k6; omega)
        rcases l8 p hp with h' | h'
        · rw [h']; exact e0
        · exact h'
      · by_cases c : V' 60 p ≤ 0
        · omega
        · have := (pL_v (V := V') (p := p) (by omega)).2.2
          omega
    obtain ⟨o1, o2, o3⟩ := pO_p (V := V') (V' := V1) (p := p) (by rw [u60])
    unfold qPa1
    rw [u57, u58, u59, u60, vg, o1, o2, o3, v7, vj 0 (by decide) (by decide), vj 1 (by decide) (by decide), vj 2 (by decide) (by decide), vj 3 (by decide) (by decide), vj 4 (by decide) (by decide), vj 5 (by decide) (by decide), vj 6 (by decide) (by decide), vj 8 (by decide) (by decide), vk 9 (by decide), vk 10 (by decide), vk 11 (by decide), vk 12 (by decide), k1, k2, k3, k4, k5, k6, x3 p hp]
    have c1' : aSt (pO V1) (pQ V1) (pL V1) p := by
      unfold aSt
      rw [o1, o2, o3]
      exact c1
    refine ⟨⟨?_, ga, by omega⟩, ⟨w0, w1, w2, w3, w5, w4⟩, ⟨rfl, w8, rfl⟩, ⟨c9, c10, c11⟩, ⟨b0, b1, b5, b8, h57, hwi⟩, ⟨c1', h60, hs60⟩, ⟨b59, t2, t3⟩, w6⟩
    unfold xPa
    rw [(l3 _ (by omega)).1, (l3 _ (by omega)).2.1, (l3 _ gn).1]
    exact hPa
end P18
