def xFe (V : Nat → Nat → Int) (p : Nat) : Nat → Nat → Int := xup2 (xup2 (xup2 V 68 p (-1)) 69 p (-1)) 70 p (-1)
/-! ways: how the model finds them -/
/-- n parts of the model, straps among them -/
def aMo (V : Nat → Nat → Int) (n : Nat) : Prop := V 56 3 = n ∧ n ≤ 40 ∧ ∀ p, p < n → aSt (V 68) (V 69) (V 70) p
theorem aSt_in {O Q L : Nat → Int} {p : Nat} (h : aSt O Q L p) : (-1 ≤ O p ∧ O p < 8) ∧ (-1 ≤ Q p ∧ Q p < 8) ∧ (-1 ≤ L p ∧ L p ≤ 100) := by
  rcases h with h | h <;> omega
theorem aMo_e {V W : Nat → Nat → Int} {n : Nat} (h : aMo V n) (h3 : W 56 3 = V 56 3) (h68 : W 68 = V 68) (h69 : W 69 = V 69) (h70 : W 70 = V 70) : aMo W n := by
  unfold aMo
  rw [h3, h68, h69, h70]; exact h
/-- the first, and the first again by going down -/
def aFst (P : Nat → Bool) : Nat → Nat → Int
  | 0, _ => -1
  | m + 1, k => if P k = true then k else aFst P m (k + 1)
def aDst (P : Nat → Bool) : Nat → Int → Int
  | 0, x => x
  | m + 1, x => aDst P m (if P m = true then m else x)
theorem aFst_s {P : Nat → Bool} : ∀ m k, aFst P (m + 1) k = if aFst P m k = -1 then (if P (k + m) = true then ((k + m : Nat) : Int) else -1) else aFst P m k := by
  intro m
  induction m with
  | zero => intro k; rfl
  | succ m ih =>
    intro k
    rw [aFst, ih (k + 1), aFst]
    by_cases c : P k = true
    · rw [if_pos c, if_pos c, if_neg (by omega)]
    · rw [if_neg c, if_neg c, show k + 1 + m = k + (m + 1) by omega]
theorem aDst_f {P : Nat → Bool} : ∀ m x, aDst P m x = if aFst P m 0 = -1 then x else aFst P m 0 := by
  intro m
  induction m with
  | zero => intro x; rfl
  | succ m ih =>
    intro x
    rw [aDst, ih, aFst_s, Nat.zero_add]
    by_cases c : aFst P m 0 = -1
    · rw [if_pos c, if_pos c]
      by_cases c2 : P m = true
      · rw [if_pos c2, if_pos c2, if_neg (show ¬ (m : Int) = -1 by omega)]
      · rw [if_neg c2, if_neg c2, if_pos rfl]
    · rw [if_neg c, if_neg c, if_neg c]
theorem aNx_f {c : Nat → Nat → Int} {F : Nat → Int} {x : Nat} : ∀ m k, aNx c F x m k = aFst (fun q => decide (0 < c x q ∧ c x q + F q = F x)) m k := by
  intro m
  induction m with
  | zero => intro k; rfl
  | succ m ih =>
    intro k
    rw [aNx, aFst, ih (k + 1)]
    by_cases c1 : 0 < c x k ∧ c x k + F k = F x
    · rw [if_pos c1, if_pos (decide_eq_true c1)]
    · rw [if_neg c1, if_neg (by rw [decide_eq_true_eq]; exact c1)]
noncomputable def aDs (O Q L : Nat → Int) (n t : Nat) : Nat → Int := @dite _ (∃ F, aB 1000000 (aCo O Q L n) t F) (Classical.propDecidable _) (fun p => Classical.choose p) (fun _ _ => 0)
theorem aDs_ok {O Q L : Nat → Int} {n t : Nat} (ht : t < 8) : aB 1000000 (aCo O Q L n) t (aDs O Q L n t) := by
  have hex : ∃ F, aB 1000000 (aCo O Q L n) t F := by
    refine aB_ex (aSum (fun r => if r = t then 0 else 1000000)).toNat (fun r => if r = t then 0 else 1000000) (Nat.le_refl _) (if_pos rfl) (fun r hr => ?_) (fun r hr hrt hl => ?_)
    · show 0 ≤ (if r = t then (0 : Int) else 1000000) ∧ (if r = t then (0 : Int) else 1000000) ≤ 1000000
      split <;> omega
    · have hl : (if r = t then (0 : Int) else 1000000) < 1000000 := hl
      rw [if_neg hrt] at hl
      omega
  unfold aDs
  rw [dif_pos hex]
  exact Classical.choose_spec hex
theorem aFst_e {P P' : Nat → Bool} : ∀ m k, (∀ i, k ≤ i → i < k + m → P i = P' i) → aFst P m k = aFst P' m k := by
  intro m
  induction m with
  | zero => intro k _; rfl
  | succ m ih =>
    intro k h
    rw [aFst, aFst, h k (by omega) (by omega), ih (k + 1) (fun i h1 h2 => h i (by omega) (by omega))]
theorem aFst_c {P : Nat → Bool} : ∀ m k, (aFst P m k = -1 ∧ ∀ i, k ≤ i → i < k + m → P i = false) ∨ ∃ i, k ≤ i ∧ i < k + m ∧ aFst P m k = (i : Int) ∧ P i = true := by
  intro m
  induction m with
  | zero => intro k; exact Or.inl ⟨rfl, fun i h1 h2 => by omega⟩
  | succ m ih =>
    intro k
    rw [aFst]
    by_cases c : P k = true
    · rw [if_pos c]; exact Or.inr ⟨k, by omega, by omega, rfl, c⟩
    · rw [if_neg c]
      rcases ih (k + 1) with ⟨h1, h2⟩ | ⟨i, h1, h2, h3, h4⟩
      · refine Or.inl ⟨h1, fun i q1 q2 => ?_⟩
        by_cases e : i = k
        · subst e; rw [Bool.not_eq_true] at c; exact c
        · exact h2 i (by omega) (by omega)
      · exact Or.inr ⟨i, by omega, by omega, h3, h4⟩
theorem aBu_in {O Q L F : Nat → Int} {n t f p : Nat} {g : Int} (hg : 1 ≤ g ∧ g ≤ 10000) : 0 ≤ aBu O Q L n F t f g p ∧ aBu O Q L n F t f g p ≤ 10000 := by
  unfold aBu
  split
  · decide
  · next q =>
    have h0 : 0 < aSh O Q L n F t f p := by omega
    refine ⟨Int.ediv_nonneg (by omega) (by omega), ?_⟩
    refine Int.le_of_lt_add_one ((Int.ediv_lt_iff_lt_mul h0).mpr ?_)
    have e : 10000 * 1 ≤ 10000 * aSh O Q L n F t f p := Int.mul_le_mul_of_nonneg_left (by omega) (by decide)
    omega
theorem aBk_0 {O Q L : Nat → Int} {n p : Nat} {a : Nat → Nat} {m : Nat} (h : aSt O Q L p) (hL : L p = -1) : ¬ aBk O Q L n a p m = true := by
  intro hb
  obtain ⟨k, k1, k2, k3⟩ := (aBk_iff _).mp hb
  have := aJ_st h k2
  omega
theorem aBu_0 {O Q L F : Nat → Int} {n t f p : Nat} {g : Int} (h : ¬ aBk O Q L n (aA O Q L n F f) p (aM O Q L n F t f) = true) : aBu O Q L n F t f g p = 0 := by
  unfold aBu aSh
  rw [if_neg h, if_pos (by decide)]
theorem aBu_no {O Q L F : Nat → Int} {n t f p : Nat} {g : Int} (h : ¬ F f < 1000000) : aBu O Q L n F t f g p = 0 := by
  refine aBu_0 ?_
  unfold aM
  rw [if_neg h]
  intro q; cases q
/-- the first strap that would break; straps break, m at most. Rows 67 to 70 as the model has them: broken, the rings, the length -/
noncomputable def aBr (S : Nat → Nat → Int) (n t f : Nat) (g : Int) (st : Nat → Int) : Int := aFst (fun p => decide (st p < aBu (S 68) (S 69) (S 70) n (aDs (S 68) (S 69) (S 70) n t) t f g p)) n 0
noncomputable def aPl (n t f : Nat) (g : Int) (st : Nat → Int) : Nat → Int → (Nat → Nat → Int) → Int × (Nat → Nat → Int)
  | 0, b, S => (b, S)
  | m + 1, b, S => if aBr S n t f g st = -1 then (b, S) else aPl n t f g st m (b + 1) (xFe (xup2 S 67 (aBr S n t f g st).toNat 1) (aBr S n t f g st).toNat)
theorem aPl_0 {n t f : Nat} {g : Int} {st : Nat → Int} {S : Nat → Nat → Int} (h : aBr S n t f g st = -1) : ∀ m b, aPl n t f g st m b S = (b, S) := by
  intro m
  cases m with
  | zero => intro b; rfl
  | succ m => intro b; rw [aPl, if_pos h]
theorem aBr_no {n t f : Nat} {g : Int} {st : Nat → Int} {S : Nat → Nat → Int} (h : ∀ p, p < n → ¬ st p < aBu (S 68) (S 69) (S 70) n (aDs (S 68) (S 69) (S 70) n t) t f g p) : aBr S n t f g st = -1 := by
  unfold aBr
  rcases aFst_c (P := fun p => decide (st p < aBu (S 68) (S 69) (S 70) n (aDs (S 68) (S 69) (S 70) n t) t f g p)) n 0 with ⟨h1, _⟩ | ⟨i, h1, h2, h3, h4⟩
  · exact h1
  · exact absurd (of_decide_eq_true h4) (h i (by omega))
theorem aBr_c {n t f : Nat} {g : Int} {st : Nat → Int} {S : Nat → Nat → Int} (h : ¬ aBr S n t f g st = -1) : ∃ k, k < n ∧ aBr S n t f g st = (k : Int) ∧ st k < aBu (S 68) (S 69) (S 70) n (aDs (S 68) (S 69) (S 70) n t) t f g k := by
  unfold aBr at h ⊢
  rcases aFst_c (P := fun p => decide (st p < aBu (S 68) (S 69) (S 70) n (aDs (S 68) (S 69) (S 70) n t) t f g p)) n 0 with ⟨h1, _⟩ | ⟨i, h1, h2, h3, h4⟩
  · exact absurd h1 h
  · exact ⟨i, by omega, h3, of_decide_eq_true h4⟩
/-- how many are buckled -/
def aCt (L : Nat → Int) : Nat → Nat
  | 0 => 0
  | k + 1 => aCt L k + (if L k = -1 then 0 else 1)
theorem aCt_le {L : Nat → Int} : ∀ n, aCt L n ≤ n := by
  intro n
  induction n with
  | zero => exact Nat.le_refl 0
  | succ n ih => rw [aCt]; split <;> omega
theorem aCt_0 {L : Nat → Int} : ∀ n, aCt L n = 0 → ∀ p, p < n → L p = -1 := by
  intro n
  induction n with
  | zero => intro _ p hp; omega
  | succ n ih =>
    intro h p hp
    rw [aCt] at h
    by_cases c : L n = -1
    · by_cases e : p = n
      · subst e; exact c
      · exact ih (by omega) p (by omega)
    · rw [if_neg c] at h; omega
theorem aCt_up {L : Nat → Int} {k : Nat} (hk : ¬ L k = -1) : ∀ n, k < n → aCt (va_up L k (-1)) n + 1 = aCt L n := by
  have same : ∀ n, n ≤ k → aCt (va_up L k (-1)) n = aCt L n := by
    intro n
    induction n with
    | zero => intro _; rfl
    | succ n ih => intro h; rw [aCt, aCt, ih (by omega), va_ne (by omega)]
  intro n
  induction n with
  | zero => intro h; omega
  | succ n ih =>
    intro h
    rw [aCt, aCt]
    by_cases e : k = n
    · subst e
      rw [same k (Nat.le_refl k), va_same, if_pos rfl, if_neg hk]
    · rw [va_ne (fun q => e q.symm), ← ih (by omega)]
      omega
theorem xFe_68 {V : Nat → Nat → Int} {p : Nat} : xFe V p 68 = va_up (V 68) p (-1) ∧ xFe V p 69 = va_up (V 69) p (-1) ∧ xFe V p 70 = va_up (V 70) p (-1) ∧ ∀ b, ¬ b = 68 → ¬ b = 69 → ¬ b = 70 → xFe V p b = V b := by
  unfold xFe
  refine ⟨?_, ?_, ?_, fun b h1 h2 h3 => ?_⟩
  · rw [xup2_o (by decide), xup2_o (by decide), up2_va, va_same]
  · rw [xup2_o (by decide), up2_va, va_same, xup2_o (by decide)]
  · rw [up2_va, va_same, xup2_o (by decide), xup2_o (by decide)]
  · rw [xup2_o h3, xup2_o h2, xup2_o h1]
/-- a strap broke -/
def aFr1 (V : Nat → Nat → Int) (k : Nat) : Nat → Nat → Int := xFe (xup2 V 67 k 1) k
theorem aFr1_r {V : Nat → Nat → Int} {k : Nat} : aFr1 V k 68 = va_up (V 68) k (-1) ∧ aFr1 V k 69 = va_up (V 69) k (-1) ∧ aFr1 V k 70 = va_up (V 70) k (-1) ∧ aFr1 V k 67 = va_up (V 67) k 1 ∧ ∀ b, ¬ b = 67 → ¬ b = 68 → ¬ b = 69 → ¬ b = 70 → aFr1 V k b = V b := by
  obtain ⟨h1, h2, h3, h4⟩ := xFe_68 (V := xup2 V 67 k 1) (p := k)
  unfold aFr1
  rw [xup2_o (show ¬ (68 : Nat) = 67 by decide)] at h1
  rw [xup2_o (show ¬ (69 : Nat) = 67 by decide)] at h2
  rw [xup2_o (show ¬ (70 : Nat) = 67 by decide)] at h3
  refine ⟨h1, h2, h3, ?_, fun b b7 b8 b9 b0 => ?_⟩
  · rw [h4 67 (by decide) (by decide) (by decide), up2_va, va_same]
  · rw [h4 b b8 b9 b0, xup2_o b7]
theorem aSt_up {O Q L : Nat → Int} {k p : Nat} (h : aSt O Q L p) : aSt (va_up O k (-1)) (va_up Q k (-1)) (va_up L k (-1)) p := by
  by_cases e : p = k
  · subst e
    unfold aSt
    rw [va_same, va_same, va_same]
    exact Or.inl ⟨rfl, rfl, rfl⟩
  · unfold aSt
    rw [va_ne e, va_ne e, va_ne e]
    exact h
/-- what a call that seeks ways leaves of the model -/
def aFr (V V' : Nat → Nat → Int) : Prop := (∀ b, ¬ b = 56 → (b < 71 ∨ 73 < b) → V' b = V b) ∧ (∀ j, ¬ j = 17 → ¬ j = 28 → V' 56 j = V 56 j)
theorem aMo_f {V : Nat → Nat → Int} {n : Nat} {k : Int} (h : aMo V n) : aMo (xup2 V 56 28 k) n := aMo_e h (xup2_j (by decide)) (xup2_o (by decide)) (xup2_o (by decide)) (xup2_o (by decide))
def aMin (P : Nat → Prop) (w : Nat → Int) (b : Int) (n : Nat) (r : Int) : Prop := (r ≤ b ∧ ∀ p, p < n → P p → r ≤ w p) ∧ (r = b ∨ ∃ p, p < n ∧ P p ∧ r = w p)
theorem aMin_one {P : Nat → Prop} {w : Nat → Int} {b r r' : Int} {n : Nat} (h : aMin P w b n r) (h' : aMin P w b n r') : r = r' := by
  obtain ⟨⟨a1, a2⟩, a3⟩ := h
  obtain ⟨⟨b1, b2⟩, b3⟩ := h'
  have le1 : r ≤ r' := by
    rcases b3 with e | ⟨p, p1, p2, p3⟩
    · omega
    · have := a2 p p1 p2; omega
  have le2 : r' ≤ r := by
    rcases a3 with e | ⟨p, p1, p2, p3⟩
    · omega
    · have := b2 p p1 p2; omega
  omega
theorem aPl_cong {n t f : Nat} {g : Int} {st : Nat → Int} : ∀ (m : Nat) (b : Int) (S S' : Nat → Nat → Int), (∀ x, x < 71 → ¬ x = 56 → S x = S' x) → (∀ x, 73 < x → S x = S' x) → (aPl n t f g st m b S).1 = (aPl n t f g st m b S').1 ∧ (∀ x, x < 71 → ¬ x = 56 → (aPl n t f g st m b S).2 x = (aPl n t f g st m b S').2 x) ∧ (∀ x, 73 < x → (aPl n t f g st m b S).2 x = (aPl n t f g st m b S').2 x) := by
  intro m
  induction m with
  | zero => intro b S S' h1 h2; exact ⟨rfl, h1, h2⟩
  | succ m ih2 =>
    intro b S S' h1 h2
    have eb : aBr S n t f g st = aBr S' n t f g st := by unfold aBr; rw [h1 68 (by decide) (by decide), h1 69 (by decide) (by decide), h1 70 (by decide) (by decide)]
    rw [aPl, aPl, eb]
    split
    · exact ⟨rfl, h1, h2⟩
    · refine ih2 (b + 1) _ _ (fun x x1 x2 => ?_) (fun x x1 => ?_)
      · obtain ⟨p8, p9, p0, p7, po⟩ := aFr1_r (V := S) (k := (aBr S' n t f g st).toNat)
        obtain ⟨q8, q9, q0, q7, qo⟩ := aFr1_r (V := S') (k := (aBr S' n t f g st).toNat)
        show aFr1 S _ x = aFr1 S' _ x
        by_cases e8 : x = 68
        · subst e8; rw [p8, q8, h1 68 (by decide) (by decide)]
        · by_cases e9 : x = 69
          · subst e9; rw [p9, q9, h1 69 (by decide) (by decide)]
          · by_cases e0 : x = 70
            · subst e0; rw [p0, q0, h1 70 (by decide) (by decide)]
            · by_cases e7 : x = 67
              · subst e7; rw [p7, q7, h1 67 (by decide) (by decide)]
              · rw [po x e7 e8 e9 e0, qo x e7 e8 e9 e0]; exact h1 x x1 x2
      · obtain ⟨p8, p9, p0, p7, po⟩ := aFr1_r (V := S) (k := (aBr S' n t f g st).toNat)
        obtain ⟨q8, q9, q0, q7, qo⟩ := aFr1_r (V := S') (k := (aBr S' n t f g st).toNat)
        show aFr1 S _ x = aFr1 S' _ x
        rw [po x (by omega) (by omega) (by omega) (by omega), qo x (by omega) (by omega) (by omega) (by omega)]; exact h2 x x1
