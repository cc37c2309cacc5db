/-! ways: pulls of the class -/
theorem xFo_a {R : Nat → Nat → Option Nat} {V : Nat → Nat → Int} {g : Int} {n : Nat} {bu st : Nat → Int} (h : ∀ p, p < n → xBu V (xp R p) g = bu p ∧ xSt V (xp R p) = st p) : ∀ m k, k + m ≤ n → xFo R V g m k = if aFst (fun p => decide (st p < bu p)) m k = -1 then none else some (aFst (fun p => decide (st p < bu p)) m k).toNat := by
  intro m
  induction m with
  | zero => intro k _; rfl
  | succ m ih =>
    intro k hk
    obtain ⟨h1, h2⟩ := h k (by omega)
    rw [xFo, aFst, h1, h2, ih (k + 1) (by omega)]
    by_cases c : bu k ≤ st k
    · rw [if_pos c, if_neg (show ¬ decide (st k < bu k) = true by rw [decide_eq_true_eq]; omega)]
    · rw [if_neg c, if_pos (show decide (st k < bu k) = true from decide_eq_true (by omega)), if_neg (show ¬ (k : Int) = -1 by omega), Int.toNat_natCast]
/-- the cells behind a break -/
theorem xGo_at {V : Nat → Nat → Int} {a b j : Nat} : xGo (xup2 V a 12 1) a b j = if b = a then (if j = 9 ∨ j = 10 ∨ j = 11 then -1 else if j = 12 then 1 else V a j) else V b j := by
  unfold xGo
  by_cases e : b = a
  · subst e
    rw [if_pos rfl]
    by_cases e11 : j = 11
    · subst e11; rw [xup2_i, if_pos (by omega)]
    · rw [xup2_j e11]
      by_cases e10 : j = 10
      · subst e10; rw [xup2_i, if_pos (by omega)]
      · rw [xup2_j e10]
        by_cases e9 : j = 9
        · subst e9; rw [xup2_i, if_pos (by omega)]
        · rw [xup2_j e9, if_neg (by omega)]
          by_cases e12 : j = 12
          · subst e12; rw [xup2_i, if_pos rfl]
          · rw [xup2_j e12, if_neg e12]
  · rw [if_neg e, xup2_o e, xup2_o e, xup2_o e, xup2_o e]
/-- what breaks leaves of the class -/
def aCf (R : Nat → Nat → Option Nat) (V V' S : Nat → Nat → Int) (n : Nat) : Prop :=
  aCl R V' (S 68) (S 69) (S 70) n ∧ (∀ p, p < n → V' (xp R p) 12 = S 67 p) ∧ (∀ b, ¬ (3 ≤ b ∧ b ≤ 8) → (∀ p, p < n → ¬ b = xp R p) → V' b = V b) ∧ ∀ p, p < n → ∀ j, (j < 9 ∨ 12 < j) → V' (xp R p) j = V (xp R p) j
theorem xBs_ok {T : Nat → Nat × Nat} {R : Nat → Nat → Option Nat} {n t f : Nat} {g : Int} {st : Nat → Int} (hT : xTr T R) (hR : xRo T R) (ht : t < 8) (hf : f < 8) (hinj : ∀ i j, i < n → j < n → xp R i = xp R j → i = j) :
    ∀ (m : Nat) (b : Int) (V S : Nat → Nat → Int), xPq T R V n → xRb V → aCl R V (S 68) (S 69) (S 70) n → aRt V (S 68) (S 69) (S 70) n (aDs (S 68) (S 69) (S 70) n t) t f → (∀ p, p < n → xSt V (xp R p) = st p) → (∀ p, p < n → V (xp R p) 12 = S 67 p) →
    (xBs R f t n g m b V).1 = (aPl n t f g st m b S).1 ∧ aCf R V (xBs R f t n g m b V).2 (aPl n t f g st m b S).2 n ∧
    aRt (xBs R f t n g m b V).2 ((aPl n t f g st m b S).2 68) ((aPl n t f g st m b S).2 69) ((aPl n t f g st m b S).2 70) n (aDs ((aPl n t f g st m b S).2 68) ((aPl n t f g st m b S).2 69) ((aPl n t f g st m b S).2 70) n t) t f := by
  intro m
  induction m with
  | zero => intro b V S hP hb hC hr hst hK; exact ⟨rfl, ⟨hC, hK, fun b _ _ => rfl, fun p _ j _ => rfl⟩, hr⟩
  | succ m ih =>
    intro b V S hP hb hC hr hst hK
    have hall : ∀ p, p < n → aSt (S 68) (S 69) (S 70) p := fun p hp => (hC p hp).1
    have hx := xFo_a (R := R) (V := V) (g := g) (n := n) (bu := aBu (S 68) (S 69) (S 70) n (aDs (S 68) (S 69) (S 70) n t) t f g) (st := st) (fun p hp => ⟨xBu_ok hr hall hp (hC p hp).2.1 (hC p hp).2.2.1 (hC p hp).2.2.2, hst p hp⟩) n 0 (by omega)
    have hbr : aFst (fun p => decide (st p < aBu (S 68) (S 69) (S 70) n (aDs (S 68) (S 69) (S 70) n t) t f g p)) n 0 = aBr S n t f g st := rfl
    rw [hbr] at hx
    rw [xBs, aPl, hx]
    by_cases c : aBr S n t f g st = -1
    · rw [if_pos c, if_pos c]
      exact ⟨rfl, ⟨hC, hK, fun b _ _ => rfl, fun p _ j _ => rfl⟩, hr⟩
    · rw [if_neg c, if_neg c]
      obtain ⟨k, k1, k2, k3⟩ := aBr_c c
      have ek : (aBr S n t f g st).toNat = k := by rw [k2]; exact Int.toNat_natCast k
      rw [ek]
      obtain ⟨r8, r9, r0, r7, ro⟩ := aFr1_r (V := S) (k := k)
      have hPW := xGo_q hR hP hT k1
      have hW : ∀ p, p < n → xLk R (xGo (xup2 V (xp R k) 12 1) (xp R k)) f t (xp R p) = xGo (xup2 V (xp R k) 12 1) (xp R k) (xp R p) := fun p hp => xLk_ne (xRo_T hR (hP.2.2.2 p hp).2.1)
      have hCW : aCl R (xGo (xup2 V (xp R k) 12 1) (xp R k)) (aFr1 S k 68) (aFr1 S k 69) (aFr1 S k 70) n := by
        intro p hp
        obtain ⟨c1, c2, c3, c4⟩ := hC p hp
        rw [r8, r9, r0]
        refine ⟨aSt_up c1, ?_⟩
        rw [xGo_at, xGo_at, xGo_at]
        by_cases e : p = k
        · subst e
          rw [if_pos rfl, if_pos rfl, if_pos rfl, if_pos (Or.inl rfl), if_pos (Or.inr (Or.inl rfl)), if_pos (Or.inr (Or.inr rfl)), va_same, va_same, va_same]
          exact ⟨by decide, by decide, rfl⟩
        · have e2 : ¬ xp R p = xp R k := fun q => e (hinj p k hp k1 q)
          rw [if_neg e2, if_neg e2, if_neg e2, va_ne e, va_ne e, va_ne e]
          exact ⟨c2, c3, c4⟩
      have hC2 : aCl R (xBr1 R V f t k) (aFr1 S k 68) (aFr1 S k 69) (aFr1 S k 70) n := by
        intro p hp
        unfold xBr1
        rw [hW p hp]
        exact hCW p hp
      have hr2 : aRt (xBr1 R V f t k) (aFr1 S k 68) (aFr1 S k 69) (aFr1 S k 70) n (aDs (aFr1 S k 68) (aFr1 S k 69) (aFr1 S k 70) n t) t f := look_ok hR hPW hCW ht hf (aDs_ok ht)
      have hst2 : ∀ p, p < n → xSt (xBr1 R V f t k) (xp R p) = st p := by
        intro p hp
        rw [← hst p hp]
        unfold xBr1 xSt
        rw [hW p hp]
        have e : ∀ j, j < 9 → xGo (xup2 V (xp R k) 12 1) (xp R k) (xp R p) j = V (xp R p) j := by
          intro j hj
          rw [xGo_at]
          by_cases e : xp R p = xp R k
          · rw [if_pos e, if_neg (by omega), if_neg (by omega), e]
          · rw [if_neg e]
        rw [e 6 (by decide), e 1 (by decide), e 5 (by decide), e 7 (by decide)]
      have hK2 : ∀ p, p < n → xBr1 R V f t k (xp R p) 12 = aFr1 S k 67 p := by
        intro p hp
        unfold xBr1
        rw [hW p hp, xGo_at, r7]
        by_cases e : p = k
        · subst e; rw [if_pos rfl, if_neg (by omega), if_pos rfl, va_same]
        · rw [if_neg (fun q => e (hinj p k hp k1 q)), va_ne e]
          exact hK p hp
      obtain ⟨i1, ⟨i2, i3, i4, i5⟩, i6⟩ := ih (b + 1) (xBr1 R V f t k) (aFr1 S k) (xPq_l hR hPW) (xRb_l hR (xPq_s hPW)) hC2 hr2 hst2 hK2
      refine ⟨i1, ⟨i2, i3, fun b b1 b2 => ?_, fun p hp j hj => ?_⟩, i6⟩
      · refine (i4 b b1 b2).trans ?_
        unfold xBr1
        rw [xLk_ne (by omega)]
        funext j
        rw [xGo_at, if_neg (b2 k k1)]
      · refine (i5 p hp j hj).trans ?_
        unfold xBr1
        rw [hW p hp, xGo_at]
        by_cases e : xp R p = xp R k
        · rw [if_pos e, if_neg (by omega), if_neg (by omega), e]
        · rw [if_neg e]
theorem xBu_7 {V : Nat → Nat → Int} {a b : Nat} {v g : Int} (h4 : ¬ 4 = a) (h5 : ¬ 5 = a) (h6 : ¬ 6 = a) : xBu (xup2 V a 7 v) b g = xBu V b g := by
  have e : ∀ j, ¬ j = 7 → xup2 V a 7 v b j = V b j := by
    intro j hj
    by_cases q : b = a
    · subst q; rw [xup2_j hj]
    · rw [xup2_o q]
  unfold xBu xSh xBe
  rw [e 11 (by decide), e 9 (by decide), e 10 (by decide), xup2_o h4, xup2_o h5, xup2_o h6]
theorem xWs_ok {T : Nat → Nat × Nat} {R : Nat → Nat → Option Nat} {n : Nat} {g : Int} (hR : xRo T R) (hTp : ∀ p, p < n → T (xp R p) = (2, 0)) (hinj : ∀ i j, i < n → j < n → xp R i = xp R j → i = j) :
    ∀ (m k : Nat) (V : Nat → Nat → Int), k + m = n → (∀ b, (∀ p, p < n → ¬ b = xp R p) → xWs R g m k V b = V b) ∧ (∀ p, p < n → ∀ j, ¬ j = 7 → xWs R g m k V (xp R p) j = V (xp R p) j) ∧ (∀ p, p < n → xWs R g m k V (xp R p) 7 = if k ≤ p then V (xp R p) 7 + xBu V (xp R p) g / 10 else V (xp R p) 7) := by
  intro m
  induction m with
  | zero => intro k V hk; exact ⟨fun b _ => rfl, fun p _ j _ => rfl, fun p hp => by rw [if_neg (by omega)]; rfl⟩
  | succ m ih =>
    intro k V hk
    have hr := xRo_T hR (hTp k (by omega))
    obtain ⟨i1, i2, i3⟩ := ih (k + 1) (xup2 V (xp R k) 7 (V (xp R k) 7 + xBu V (xp R k) g / 10)) (by omega)
    rw [xWs]
    refine ⟨fun b hb => ?_, fun p hp j hj => ?_, fun p hp => ?_⟩
    · rw [i1 b hb, xup2_o (hb k (by omega))]
    · rw [i2 p hp j hj]
      by_cases e : xp R p = xp R k
      · rw [e, xup2_j hj]
      · rw [xup2_o e]
    · rw [i3 p hp, xBu_7 (fun q => hr.2.1 q.symm) (fun q => hr.2.2.1 q.symm) (fun q => hr.2.2.2.1 q.symm)]
      by_cases e : p = k
      · subst e
        rw [if_neg (show ¬ p + 1 ≤ p by omega), if_pos (Nat.le_refl p), xup2_i]
      · rw [xup2_o (fun q => e (hinj p k hp (by omega) q))]
        by_cases c : k ≤ p
        · rw [if_pos (show k + 1 ≤ p by omega), if_pos c]
        · rw [if_neg (show ¬ k + 1 ≤ p by omega), if_neg c]
theorem xHd_ok {R : Nat → Nat → Option Nat} {V : Nat → Nat → Int} {n : Nat} {Q : Nat → Bool} {w : Nat → Int} (h : ∀ p, p < n → (xBe V (xp R p) = if Q p = true then 1 else 0) ∧ (Q p = true → xSh V (xp R p) * xSt V (xp R p) = w p)) :
    ∀ (m k : Nat) (b : Int), k + m = n → aMin (fun q => q < k ∧ Q q = true) w 9999 n b → aMin (fun q => Q q = true) w 9999 n (xHd R V m k b) := by
  intro m
  induction m with
  | zero =>
    intro k b hk hm
    obtain ⟨⟨a1, a2⟩, a3⟩ := hm
    exact ⟨⟨a1, fun q q1 q2 => a2 q q1 ⟨by omega, q2⟩⟩, a3.imp id (fun ⟨q, q1, q2, q3⟩ => ⟨q, q1, q2.2, q3⟩)⟩
  | succ m ih =>
    intro k b hk hm
    obtain ⟨h1, h2⟩ := h k (by omega)
    obtain ⟨⟨a1, a2⟩, a3⟩ := hm
    rw [xHd]
    refine ih (k + 1) _ (by omega) ?_
    rw [h1]
    by_cases c : Q k = true
    · rw [if_pos c, if_neg (by decide), h2 c]
      refine ⟨⟨by omega, fun q q1 q2 => ?_⟩, ?_⟩
      · by_cases e : q = k
        · subst e; omega
        · have := a2 q q1 ⟨by omega, q2.2⟩; omega
      · rcases (show min b (w k) = b ∨ min b (w k) = w k by omega) with e | e
        · rw [e]; exact a3.imp id (fun ⟨q, q1, q2, q3⟩ => ⟨q, q1, ⟨by omega, q2.2⟩, q3⟩)
        · rw [e]; exact Or.inr ⟨k, by omega, ⟨by omega, c⟩, rfl⟩
    · rw [if_neg c, if_pos rfl]
      refine ⟨⟨a1, fun q q1 q2 => ?_⟩, a3.imp id (fun ⟨q, q1, q2, q3⟩ => ⟨q, q1, ⟨by omega, q2.2⟩, q3⟩)⟩
      by_cases e : q = k
      · subst e; exact absurd q2.2 c
      · exact a2 q q1 ⟨by omega, q2.2⟩
