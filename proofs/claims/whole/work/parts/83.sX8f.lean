/-! ways: pulls of the model -/
noncomputable def aDs (O Q L : Nat → Int) (n t : Nat) : Nat → Int := @dite _ (∃ F, aB 1000000 (aCo O Q L n) t F) (Classical.propDecidable _) (fun p => Classical.choose p) (fun _ _ => 0)
theorem aDs_ok {O Q L : Nat → Int} {n t : Nat} (ht : t < 8) : aB 1000000 (aCo O Q L n) t (aDs O Q L n t) := by
  have hex : ∃ F, aB 1000000 (aCo O Q L n) t F := by
    refine aB_ex (aSum (fun r => if r = t then 0 else 1000000)).toNat (fun r => if r = t then 0 else 1000000) (Nat.le_refl _) (if_pos rfl) (fun r hr => ?_) (fun r hr hrt hl => ?_)
    · show 0 ≤ (if r = t then (0 : Int) else 1000000) ∧ (if r = t then (0 : Int) else 1000000) ≤ 1000000
      split <;> omega
    · have hl : (if r = t then (0 : Int) else 1000000) < 1000000 := hl
      rw [if_neg hrt] at hl
      omega
  unfold aDs
  rw [dif_pos hex]
  exact Classical.choose_spec hex
theorem aFst_e {P P' : Nat → Bool} : ∀ m k, (∀ i, k ≤ i → i < k + m → P i = P' i) → aFst P m k = aFst P' m k := by
  intro m
  induction m with
  | zero => intro k _; rfl
  | succ m ih =>
    intro k h
    rw [aFst, aFst, h k (by omega) (by omega), ih (k + 1) (fun i h1 h2 => h i (by omega) (by omega))]
theorem aFst_c {P : Nat → Bool} : ∀ m k, (aFst P m k = -1 ∧ ∀ i, k ≤ i → i < k + m → P i = false) ∨ ∃ i, k ≤ i ∧ i < k + m ∧ aFst P m k = (i : Int) ∧ P i = true := by
  intro m
  induction m with
  | zero => intro k; exact Or.inl ⟨rfl, fun i h1 h2 => by omega⟩
  | succ m ih =>
    intro k
    rw [aFst]
    by_cases c : P k = true
    · rw [if_pos c]; exact Or.inr ⟨k, by omega, by omega, rfl, c⟩
    · rw [if_neg c]
      rcases ih (k + 1) with ⟨h1, h2⟩ | ⟨i, h1, h2, h3, h4⟩
      · refine Or.inl ⟨h1, fun i q1 q2 => ?_⟩
        by_cases e : i = k
        · subst e; rw [Bool.not_eq_true] at c; exact c
        · exact h2 i (by omega) (by omega)
      · exact Or.inr ⟨i, by omega, by omega, h3, h4⟩
theorem aBu_in {O Q L F : Nat → Int} {n t f p : Nat} {g : Int} (hg : 1 ≤ g ∧ g ≤ 10000) : 0 ≤ aBu O Q L n F t f g p ∧ aBu O Q L n F t f g p ≤ 10000 := by
  unfold aBu
  split
  · decide
  · next q =>
    have h0 : 0 < aSh O Q L n F t f p := by omega
    refine ⟨Int.ediv_nonneg (by omega) (by omega), ?_⟩
    refine Int.le_of_lt_add_one ((Int.ediv_lt_iff_lt_mul h0).mpr ?_)
    have e : 10000 * 1 ≤ 10000 * aSh O Q L n F t f p := Int.mul_le_mul_of_nonneg_left (by omega) (by decide)
    omega
theorem aBk_0 {O Q L : Nat → Int} {n p : Nat} {a : Nat → Nat} {m : Nat} (h : aSt O Q L p) (hL : L p = -1) : ¬ aBk O Q L n a p m = true := by
  intro hb
  obtain ⟨k, k1, k2, k3⟩ := (aBk_iff _).mp hb
  have := aJ_st h k2
  omega
theorem aBu_0 {O Q L F : Nat → Int} {n t f p : Nat} {g : Int} (h : ¬ aBk O Q L n (aA O Q L n F f) p (aM O Q L n F t f) = true) : aBu O Q L n F t f g p = 0 := by
  unfold aBu aSh
  rw [if_neg h, if_pos (by decide)]
theorem aBu_no {O Q L F : Nat → Int} {n t f p : Nat} {g : Int} (h : ¬ F f < 1000000) : aBu O Q L n F t f g p = 0 := by
  refine aBu_0 ?_
  unfold aM
  rw [if_neg h]
  intro q; cases q
/-- the first strap that would break; straps break, m at most. Rows 67 to 70 as the model has them: broken, the rings, the length -/
noncomputable def aBr (S : Nat → Nat → Int) (n t f : Nat) (g : Int) (st : Nat → Int) : Int := aFst (fun p => decide (st p < aBu (S 68) (S 69) (S 70) n (aDs (S 68) (S 69) (S 70) n t) t f g p)) n 0
noncomputable def aPl (n t f : Nat) (g : Int) (st : Nat → Int) : Nat → Int → (Nat → Nat → Int) → Int × (Nat → Nat → Int)
  | 0, b, S => (b, S)
  | m + 1, b, S => if aBr S n t f g st = -1 then (b, S) else aPl n t f g st m (b + 1) (xFe (xup2 S 67 (aBr S n t f g st).toNat 1) (aBr S n t f g st).toNat)
theorem aPl_0 {n t f : Nat} {g : Int} {st : Nat → Int} {S : Nat → Nat → Int} (h : aBr S n t f g st = -1) : ∀ m b, aPl n t f g st m b S = (b, S) := by
  intro m
  cases m with
  | zero => intro b; rfl
  | succ m => intro b; rw [aPl, if_pos h]
theorem aBr_no {n t f : Nat} {g : Int} {st : Nat → Int} {S : Nat → Nat → Int} (h : ∀ p, p < n → ¬ st p < aBu (S 68) (S 69) (S 70) n (aDs (S 68) (S 69) (S 70) n t) t f g p) : aBr S n t f g st = -1 := by
  unfold aBr
  rcases aFst_c (P := fun p => decide (st p < aBu (S 68) (S 69) (S 70) n (aDs (S 68) (S 69) (S 70) n t) t f g p)) n 0 with ⟨h1, _⟩ | ⟨i, h1, h2, h3, h4⟩
  · exact h1
  · exact absurd (of_decide_eq_true h4) (h i (by omega))
theorem aBr_c {n t f : Nat} {g : Int} {st : Nat → Int} {S : Nat → Nat → Int} (h : ¬ aBr S n t f g st = -1) : ∃ k, k < n ∧ aBr S n t f g st = (k : Int) ∧ st k < aBu (S 68) (S 69) (S 70) n (aDs (S 68) (S 69) (S 70) n t) t f g k := by
  unfold aBr at h ⊢
  rcases aFst_c (P := fun p => decide (st p < aBu (S 68) (S 69) (S 70) n (aDs (S 68) (S 69) (S 70) n t) t f g p)) n 0 with ⟨h1, _⟩ | ⟨i, h1, h2, h3, h4⟩
  · exact absurd h1 h
  · exact ⟨i, by omega, h3, of_decide_eq_true h4⟩
/-- how many are buckled -/
def aCt (L : Nat → Int) : Nat → Nat
  | 0 => 0
  | k + 1 => aCt L k + (if L k = -1 then 0 else 1)
theorem aCt_le {L : Nat → Int} : ∀ n, aCt L n ≤ n := by
  intro n
  induction n with
  | zero => exact Nat.le_refl 0
  | succ n ih => rw [aCt]; split <;> omega
theorem aCt_0 {L : Nat → Int} : ∀ n, aCt L n = 0 → ∀ p, p < n → L p = -1 := by
  intro n
  induction n with
  | zero => intro _ p hp; omega
  | succ n ih =>
    intro h p hp
    rw [aCt] at h
    by_cases c : L n = -1
    · by_cases e : p = n
      · subst e; exact c
      · exact ih (by omega) p (by omega)
    · rw [if_neg c] at h; omega
theorem aCt_up {L : Nat → Int} {k : Nat} (hk : ¬ L k = -1) : ∀ n, k < n → aCt (va_up L k (-1)) n + 1 = aCt L n := by
  have same : ∀ n, n ≤ k → aCt (va_up L k (-1)) n = aCt L n := by
    intro n
    induction n with
    | zero => intro _; rfl
    | succ n ih => intro h; rw [aCt, aCt, ih (by omega), va_ne (by omega)]
  intro n
  induction n with
  | zero => intro h; omega
  | succ n ih =>
    intro h
    rw [aCt, aCt]
    by_cases e : k = n
    · subst e
      rw [same k (Nat.le_refl k), va_same, if_pos rfl, if_neg hk]
    · rw [va_ne (fun q => e q.symm), ← ih (by omega)]
      omega
theorem xFe_68 {V : Nat → Nat → Int} {p : Nat} : xFe V p 68 = va_up (V 68) p (-1) ∧ xFe V p 69 = va_up (V 69) p (-1) ∧ xFe V p 70 = va_up (V 70) p (-1) ∧ ∀ b, ¬ b = 68 → ¬ b = 69 → ¬ b = 70 → xFe V p b = V b := by
  unfold xFe
  refine ⟨?_, ?_, ?_, fun b h1 h2 h3 => ?_⟩
  · rw [xup2_o (by decide), xup2_o (by decide), up2_va, va_same]
  · rw [xup2_o (by decide), up2_va, va_same, xup2_o (by decide)]
  · rw [up2_va, va_same, xup2_o (by decide), xup2_o (by decide)]
  · rw [xup2_o h3, xup2_o h2, xup2_o h1]
/-- a strap broke -/
def aFr1 (V : Nat → Nat → Int) (k : Nat) : Nat → Nat → Int := xFe (xup2 V 67 k 1) k
theorem aFr1_r {V : Nat → Nat → Int} {k : Nat} : aFr1 V k 68 = va_up (V 68) k (-1) ∧ aFr1 V k 69 = va_up (V 69) k (-1) ∧ aFr1 V k 70 = va_up (V 70) k (-1) ∧ aFr1 V k 67 = va_up (V 67) k 1 ∧ ∀ b, ¬ b = 67 → ¬ b = 68 → ¬ b = 69 → ¬ b = 70 → aFr1 V k b = V b := by
  obtain ⟨h1, h2, h3, h4⟩ := xFe_68 (V := xup2 V 67 k 1) (p := k)
  unfold aFr1
  rw [xup2_o (show ¬ (68 : Nat) = 67 by decide)] at h1
  rw [xup2_o (show ¬ (69 : Nat) = 67 by decide)] at h2
  rw [xup2_o (show ¬ (70 : Nat) = 67 by decide)] at h3
  refine ⟨h1, h2, h3, ?_, fun b b7 b8 b9 b0 => ?_⟩
  · rw [h4 67 (by decide) (by decide) (by decide), up2_va, va_same]
  · rw [h4 b b8 b9 b0, xup2_o b7]
theorem aSt_up {O Q L : Nat → Int} {k p : Nat} (h : aSt O Q L p) : aSt (va_up O k (-1)) (va_up Q k (-1)) (va_up L k (-1)) p := by
  by_cases e : p = k
  · subst e
    unfold aSt
    rw [va_same, va_same, va_same]
    exact Or.inl ⟨rfl, rfl, rfl⟩
  · unfold aSt
    rw [va_ne e, va_ne e, va_ne e]
    exact h
/-- what a call that seeks ways leaves of the model -/
def aFr (V V' : Nat → Nat → Int) : Prop := (∀ b, ¬ b = 56 → (b < 71 ∨ 73 < b) → V' b = V b) ∧ (∀ j, ¬ j = 17 → ¬ j = 28 → V' 56 j = V 56 j)
theorem aMo_f {V : Nat → Nat → Int} {n : Nat} {k : Int} (h : aMo V n) : aMo (xup2 V 56 28 k) n := aMo_e h (xup2_j (by decide)) (xup2_o (by decide)) (xup2_o (by decide)) (xup2_o (by decide))
section SX8f
variable {sc : xS} {d : Nat} {T : Nat → Nat × Nat} {z : Nat × Nat} {V : Nat → Nat → Int} {J : Nat → Nat → Int64} {R : Nat → Nat → Option Nat}
theorem m_loads {t f n : Nat} {g : Int} {F : Nat → Int} (hM : xMo T R) (hA : aMo V n) (ht : t < 8) (hf : f < 8) (h : aB 1000000 (aCo (V 68) (V 69) (V 70) n) t F) (hg : 1 ≤ g ∧ g ≤ 10000) (hN : F f < 1000000) (h17 : V 56 17 = (aM (V 68) (V 69) (V 70) n F t f : Int) + 1) (h72 : ∀ k, k ≤ aM (V 68) (V 69) (V 70) n F t f → V 72 k = (aA (V 68) (V 69) (V 70) n F f k : Int)) :
    ∃ B : Nat → Int, X sc (d + 5) 123 [.ref 56, xw g] (T, z, xv V, J, R) = some (.inl none, (T, z, xv (va_up V 73 B), J, R)) ∧ ∀ p, p < n → B p = aBu (V 68) (V 69) (V 70) n F t f g p := by
  obtain ⟨l1, l2, l3, l4⟩ := aLen_ok (by decide) ht h 7 f hf hN (aK_7 hf)
  have em : aM (V 68) (V 69) (V 70) n F t f = aLen (aCo (V 68) (V 69) (V 70) n) F t 7 f := by unfold aM; rw [if_pos hN]
  obtain ⟨B, h1, h2⟩ := m_loads_out (sc := sc) (d := d) (T := T) (z := z) (J := J) (R := R) (a := aA (V 68) (V 69) (V 70) n F f) hM hA hg (by rw [em]; exact l1) (Or.inl h17) (fun k hk => Or.inl (h72 k hk)) (fun k hk => (l4 k (by rw [← em]; exact hk)).1) n 0 (V 73) none none (Nat.zero_add n) (fun q hq => absurd hq (Nat.not_lt_zero q))
  rw [va_id] at h1
  refine ⟨B, ?_, fun p hp => ?_⟩
  · rw [eX7_loads, bX7_loads_0]; exact h1
  · rw [h2 p hp]; exact aLd_ok hp (hA.2.2 p hp)
theorem m_bears {p f t n : Nat} {g : Int} {F : Nat → Int} (hM : xMo T R) (hA : aMo V n) (hp : p < n) (hf : f < 8) (ht : t < 8) (hne : ¬ f = t) (hg : 1 ≤ g ∧ g ≤ 9999) (h : aB 1000000 (aCo (V 68) (V 69) (V 70) n) t F) :
    ∃ V' : Nat → Nat → Int, X sc (d + 6) 124 [.ref 56, xw p, xw f, xw t, xw g] (T, z, xv V, J, R) = some (.inl (some (xw (aBu (V 68) (V 69) (V 70) n F t f g p))), (T, z, xv (V'), J, R)) ∧ aFr V V' ∧ V' 56 28 = 0 := by
  have h3 := hA.1
  have hn := hA.2.1
  have hA1 := aMo_f (k := 0) hA
  have w8 : xup2 V 56 28 0 68 = V 68 := xup2_o (by decide)
  have w9 : xup2 V 56 28 0 69 = V 69 := xup2_o (by decide)
  have w0 : xup2 V 56 28 0 70 = V 70 := xup2_o (by decide)
  obtain ⟨V1, f1, f2⟩ := m_finds (sc := sc) (d := d + 2) (T := T) (z := z) (V := xup2 V 56 28 0) (J := J) (R := R) (F := F) hM hA1 ht hf (by rw [w8, w9, w0]; exact h)
  obtain ⟨g1, g2, g3, g4⟩ := f2
  rw [w8, w9, w0] at g3 g4
  have v8 : V1 68 = V 68 := by rw [g1 68 (by decide) (by decide) (by decide), w8]
  have v9 : V1 69 = V 69 := by rw [g1 69 (by decide) (by decide) (by decide), w9]
  have v0 : V1 70 = V 70 := by rw [g1 70 (by decide) (by decide) (by decide), w0]
  have hA2 : aMo V1 n := aMo_e hA (by rw [g2 3 (by decide), xup2_j (by decide)]) v8 v9 v0
  have fr : aFr V V1 := ⟨fun b b1 b2 => by rw [g1 b (by omega) (by omega) b1, xup2_o b1], fun j j1 j2 => by rw [g2 j j1, xup2_j j2]⟩
  have th : V1 56 28 = 0 := by rw [g2 28 (by decide), xup2_i]
  by_cases c : F f < 1000000
  · rw [if_pos c] at f1 g3
    obtain ⟨B, b1, b2⟩ := m_loads (sc := sc) (d := d) (T := T) (z := z) (V := V1) (J := J) (R := R) (g := g) hM hA2 ht hf (by rw [v8, v9, v0]; exact h) (by omega) c (by rw [v8, v9, v0]; exact g3) (by rw [v8, v9, v0]; exact g4 c)
    rw [v8, v9, v0] at b2
    refine ⟨va_up V1 73 B, ?_, ⟨fun b b1 b2 => by rw [va_ne (by omega), fr.1 b b1 b2], fun j j1 j2 => by rw [va_ne (by decide), fr.2 j j1 j2]⟩, by rw [va_ne (by decide)]; exact th⟩
    simp (disch := (first | omega | assumption | exact iAnd_in | exact iShr_in | exact jCmp_in | (simp (disch := omega) only [xup2_o, xup2_i, xup2_j]; omega))) only [↓if_pos, ↓if_neg, xret_v, xret_n, xup2_o, xup2_i, xup2_j, eX7_bears, n_bears_0 hM, bX7_bears_5, bX7_bears_8, bX7_bears_12, bX7_bears_15, bX7_bears_19, bX7_bears_22, bX7_bears_26, bX7_bears_27, bX7_bears_35, bX7_bears_39, bX7_bears_44, bX7_bears_53, bX7_bears_56, bX7_bears_60, n_bears_61 hM, bX7_bears_64, bX7_bears_67, bX7_bears_78, m_isPart hM, m_isRing, m_isIn, m_fails hM]
    rw [n_bears_69 hM, f1, xret_v, bX7_bears_75 (by decide), if_neg (by decide), n_bears_80 hM, b1, xret_n, n_bears_86 hM (by omega), va_same, Int.toNat_natCast, b2 p hp]
  · rw [if_neg c] at f1
    refine ⟨V1, ?_, fr, th⟩
    rw [aBu_no c]
    simp (disch := (first | omega | assumption | exact iAnd_in | exact iShr_in | exact jCmp_in | (simp (disch := omega) only [xup2_o, xup2_i, xup2_j]; omega))) only [↓if_pos, ↓if_neg, xret_v, xret_n, xup2_o, xup2_i, xup2_j, eX7_bears, n_bears_0 hM, bX7_bears_5, bX7_bears_8, bX7_bears_12, bX7_bears_15, bX7_bears_19, bX7_bears_22, bX7_bears_26, bX7_bears_27, bX7_bears_35, bX7_bears_39, bX7_bears_44, bX7_bears_53, bX7_bears_56, bX7_bears_60, n_bears_61 hM, bX7_bears_64, bX7_bears_67, bX7_bears_78, m_isPart hM, m_isRing, m_isIn, m_fails hM]
    rw [n_bears_69 hM, f1, xret_v, bX7_bears_75 (by decide), if_pos rfl, bX7_bears_78]
theorem m_bears_x {p f t g : Int} {n : Nat} (hM : xMo T R) (hA : aMo V n) (hp : (-2147483648 ≤ p ∧ p ≤ 2147483647)) (hf : (-2147483648 ≤ f ∧ f ≤ 2147483647)) (ht : (-2147483648 ≤ t ∧ t ≤ 2147483647)) (hg : (-2147483648 ≤ g ∧ g ≤ 2147483647)) (no : ¬ (((0 ≤ p ∧ p < n) ∧ (0 ≤ f ∧ f < 8) ∧ (0 ≤ t ∧ t < 8)) ∧ ¬ f = t ∧ 1 ≤ g ∧ g ≤ 9999)) :
    X sc (d + 6) 124 [.ref 56, xw p, xw f, xw t, xw g] (T, z, xv V, J, R) = if (0 ≤ p ∧ p < n) ∧ (0 ≤ f ∧ f < 8) ∧ (0 ≤ t ∧ t < 8) then some (.inl (some (xw 0)), (T, z, xv (xup2 V 56 28 2), J, R)) else some (.inl (some (xw 0)), (T, z, xv (xup2 V 56 28 1), J, R)) := by
  have h3 := hA.1
  have hn := hA.2.1
  by_cases c1 : 0 ≤ p ∧ p < n
  · by_cases c2 : 0 ≤ f ∧ f < 8
    · by_cases c3 : 0 ≤ t ∧ t < 8
      · by_cases c4 : f = t
        · simp (disch := (first | omega | assumption | exact iAnd_in | exact iShr_in | exact jCmp_in | (simp (disch := omega) only [xup2_o, xup2_i, xup2_j]; omega))) only [↓if_pos, ↓if_neg, xret_v, xret_n, xup2_o, xup2_i, xup2_j, eX7_bears, n_bears_0 hM, bX7_bears_5, bX7_bears_8, bX7_bears_12, bX7_bears_15, bX7_bears_19, bX7_bears_22, bX7_bears_26, bX7_bears_27, bX7_bears_35, bX7_bears_39, bX7_bears_44, bX7_bears_53, bX7_bears_56, bX7_bears_60, n_bears_61 hM, bX7_bears_64, bX7_bears_67, bX7_bears_78, m_isPart hM, m_isRing, m_isIn, m_fails hM]
        · simp (disch := (first | omega | assumption | exact iAnd_in | exact iShr_in | exact jCmp_in | (simp (disch := omega) only [xup2_o, xup2_i, xup2_j]; omega))) only [↓if_pos, ↓if_neg, xret_v, xret_n, xup2_o, xup2_i, xup2_j, eX7_bears, n_bears_0 hM, bX7_bears_5, bX7_bears_8, bX7_bears_12, bX7_bears_15, bX7_bears_19, bX7_bears_22, bX7_bears_26, bX7_bears_27, bX7_bears_35, bX7_bears_39, bX7_bears_44, bX7_bears_53, bX7_bears_56, bX7_bears_60, n_bears_61 hM, bX7_bears_64, bX7_bears_67, bX7_bears_78, m_isPart hM, m_isRing, m_isIn, m_fails hM]
      · simp (disch := (first | omega | assumption | exact iAnd_in | exact iShr_in | exact jCmp_in | (simp (disch := omega) only [xup2_o, xup2_i, xup2_j]; omega))) only [↓if_pos, ↓if_neg, xret_v, xret_n, xup2_o, xup2_i, xup2_j, eX7_bears, n_bears_0 hM, bX7_bears_5, bX7_bears_8, bX7_bears_12, bX7_bears_15, bX7_bears_19, bX7_bears_22, bX7_bears_26, bX7_bears_27, bX7_bears_35, bX7_bears_39, bX7_bears_44, bX7_bears_53, bX7_bears_56, bX7_bears_60, n_bears_61 hM, bX7_bears_64, bX7_bears_67, bX7_bears_78, m_isPart hM, m_isRing, m_isIn, m_fails hM]
    · simp (disch := (first | omega | assumption | exact iAnd_in | exact iShr_in | exact jCmp_in | (simp (disch := omega) only [xup2_o, xup2_i, xup2_j]; omega))) only [↓if_pos, ↓if_neg, xret_v, xret_n, xup2_o, xup2_i, xup2_j, eX7_bears, n_bears_0 hM, bX7_bears_5, bX7_bears_8, bX7_bears_12, bX7_bears_15, bX7_bears_19, bX7_bears_22, bX7_bears_26, bX7_bears_27, bX7_bears_35, bX7_bears_39, bX7_bears_44, bX7_bears_53, bX7_bears_56, bX7_bears_60, n_bears_61 hM, bX7_bears_64, bX7_bears_67, bX7_bears_78, m_isPart hM, m_isRing, m_isIn, m_fails hM]
  · simp (disch := (first | omega | assumption | exact iAnd_in | exact iShr_in | exact jCmp_in | (simp (disch := omega) only [xup2_o, xup2_i, xup2_j]; omega))) only [↓if_pos, ↓if_neg, xret_v, xret_n, xup2_o, xup2_i, xup2_j, eX7_bears, n_bears_0 hM, bX7_bears_5, bX7_bears_8, bX7_bears_12, bX7_bears_15, bX7_bears_19, bX7_bears_22, bX7_bears_26, bX7_bears_27, bX7_bears_35, bX7_bears_39, bX7_bears_44, bX7_bears_53, bX7_bears_56, bX7_bears_60, n_bears_61 hM, bX7_bears_64, bX7_bears_67, bX7_bears_78, m_isPart hM, m_isRing, m_isIn, m_fails hM]
theorem m_way {f t n : Nat} {pl : Int} {F : Nat → Int} (hM : xMo T R) (hA : aMo V n) (hf : f < 8) (ht : t < 8) (hne : ¬ f = t) (hpl : 0 ≤ pl ∧ pl ≤ 2147483647) (h : aB 1000000 (aCo (V 68) (V 69) (V 70) n) t F) :
    ∃ V' : Nat → Nat → Int, X sc (d + 4) 125 [.ref 56, xw f, xw t, xw pl] (T, z, xv V, J, R) = some (.inl (some (xw (if F f < 1000000 ∧ pl < (aM (V 68) (V 69) (V 70) n F t f : Int) + 1 then (aA (V 68) (V 69) (V 70) n F f pl.toNat : Int) else -1))), (T, z, xv (V'), J, R)) ∧ aFr V V' ∧ V' 56 28 = 0 := by
  have hA1 := aMo_f (k := 0) hA
  have w8 : xup2 V 56 28 0 68 = V 68 := xup2_o (by decide)
  have w9 : xup2 V 56 28 0 69 = V 69 := xup2_o (by decide)
  have w0 : xup2 V 56 28 0 70 = V 70 := xup2_o (by decide)
  obtain ⟨V1, f1, f2⟩ := m_finds (sc := sc) (d := d) (T := T) (z := z) (V := xup2 V 56 28 0) (J := J) (R := R) (F := F) hM hA1 ht hf (by rw [w8, w9, w0]; exact h)
  obtain ⟨g1, g2, g3, g4⟩ := f2
  rw [w8, w9, w0] at g3 g4
  have fr : aFr V V1 := ⟨fun b b1 b2 => by rw [g1 b (by omega) (by omega) b1, xup2_o b1], fun j j1 j2 => by rw [g2 j j1, xup2_j j2]⟩
  have th : V1 56 28 = 0 := by rw [g2 28 (by decide), xup2_i]
  refine ⟨V1, ?_, fr, th⟩
  by_cases c : F f < 1000000
  · obtain ⟨l1, l2, l3, l4⟩ := aLen_ok (by decide) ht h 7 f hf c (aK_7 hf)
    have em : aM (V 68) (V 69) (V 70) n F t f = aLen (aCo (V 68) (V 69) (V 70) n) F t 7 f := by unfold aM; rw [if_pos c]
    rw [if_pos c] at f1 g3
    simp (disch := (first | omega | assumption | exact iAnd_in | exact iShr_in | exact jCmp_in | (simp (disch := omega) only [xup2_o, xup2_i, xup2_j]; omega))) only [↓if_pos, ↓if_neg, xret_v, xret_n, xup2_o, xup2_i, xup2_j, eX7_way, bX7_way_0, bX7_way_4, bX7_way_7, bX7_way_11, bX7_way_14, bX7_way_18, bX7_way_22, bX7_way_23, bX7_way_31, bX7_way_35, bX7_way_40, bX7_way_44, n_way_45 hM, bX7_way_48, bX7_way_51, bX7_way_79, bX7_way_80, m_isRing, m_fails hM]
    rw [n_way_53 hM, f1, xret_v, bX7_way_59 (by decide), if_neg (by decide), n_way_62 hM (by omega) (by omega), g3]
    by_cases c2 : (aM (V 68) (V 69) (V 70) n F t f : Int) + 1 ≤ pl
    · rw [if_pos c2, bX7_way_79, bX7_way_80, if_neg (fun q => by omega)]
    · rw [if_neg c2, n_way_70 hM (by omega), bX7_way_80, if_pos ⟨c, by omega⟩, g4 c pl.toNat (by omega)]
  · rw [if_neg c] at f1
    rw [if_neg (fun q => c q.1)]
    simp (disch := (first | omega | assumption | exact iAnd_in | exact iShr_in | exact jCmp_in | (simp (disch := omega) only [xup2_o, xup2_i, xup2_j]; omega))) only [↓if_pos, ↓if_neg, xret_v, xret_n, xup2_o, xup2_i, xup2_j, eX7_way, bX7_way_0, bX7_way_4, bX7_way_7, bX7_way_11, bX7_way_14, bX7_way_18, bX7_way_22, bX7_way_23, bX7_way_31, bX7_way_35, bX7_way_40, bX7_way_44, n_way_45 hM, bX7_way_48, bX7_way_51, bX7_way_79, bX7_way_80, m_isRing, m_fails hM]
    rw [n_way_53 hM, f1, xret_v, bX7_way_59 (by decide), if_pos rfl, bX7_way_79, bX7_way_80]
theorem m_way_x {f t pl : Int} (hM : xMo T R) (hf : (-2147483648 ≤ f ∧ f ≤ 2147483647)) (ht : (-2147483648 ≤ t ∧ t ≤ 2147483647)) (hpl : (-2147483648 ≤ pl ∧ pl ≤ 2147483647)) (no : ¬ (((0 ≤ f ∧ f < 8) ∧ (0 ≤ t ∧ t < 8) ∧ 0 ≤ pl) ∧ ¬ f = t)) :
    X sc (d + 4) 125 [.ref 56, xw f, xw t, xw pl] (T, z, xv V, J, R) = if (0 ≤ f ∧ f < 8) ∧ (0 ≤ t ∧ t < 8) ∧ 0 ≤ pl then some (.inl (some (xw 0)), (T, z, xv (xup2 V 56 28 2), J, R)) else some (.inl (some (xw 0)), (T, z, xv (xup2 V 56 28 1), J, R)) := by
  by_cases c2 : 0 ≤ f ∧ f < 8
  · by_cases c3 : 0 ≤ t ∧ t < 8
    · by_cases c4 : 0 ≤ pl
      · simp (disch := (first | omega | assumption | exact iAnd_in | exact iShr_in | exact jCmp_in | (simp (disch := omega) only [xup2_o, xup2_i, xup2_j]; omega))) only [↓if_pos, ↓if_neg, xret_v, xret_n, xup2_o, xup2_i, xup2_j, eX7_way, bX7_way_0, bX7_way_4, bX7_way_7, bX7_way_11, bX7_way_14, bX7_way_18, bX7_way_22, bX7_way_23, bX7_way_31, bX7_way_35, bX7_way_40, bX7_way_44, n_way_45 hM, bX7_way_48, bX7_way_51, bX7_way_79, bX7_way_80, m_isRing, m_fails hM]
      · simp (disch := (first | omega | assumption | exact iAnd_in | exact iShr_in | exact jCmp_in | (simp (disch := omega) only [xup2_o, xup2_i, xup2_j]; omega))) only [↓if_pos, ↓if_neg, xret_v, xret_n, xup2_o, xup2_i, xup2_j, eX7_way, bX7_way_0, bX7_way_4, bX7_way_7, bX7_way_11, bX7_way_14, bX7_way_18, bX7_way_22, bX7_way_23, bX7_way_31, bX7_way_35, bX7_way_40, bX7_way_44, n_way_45 hM, bX7_way_48, bX7_way_51, bX7_way_79, bX7_way_80, m_isRing, m_fails hM]
    · simp (disch := (first | omega | assumption | exact iAnd_in | exact iShr_in | exact jCmp_in | (simp (disch := omega) only [xup2_o, xup2_i, xup2_j]; omega))) only [↓if_pos, ↓if_neg, xret_v, xret_n, xup2_o, xup2_i, xup2_j, eX7_way, bX7_way_0, bX7_way_4, bX7_way_7, bX7_way_11, bX7_way_14, bX7_way_18, bX7_way_22, bX7_way_23, bX7_way_31, bX7_way_35, bX7_way_40, bX7_way_44, n_way_45 hM, bX7_way_48, bX7_way_51, bX7_way_79, bX7_way_80, m_isRing, m_fails hM]
  · simp (disch := (first | omega | assumption | exact iAnd_in | exact iShr_in | exact jCmp_in | (simp (disch := omega) only [xup2_o, xup2_i, xup2_j]; omega))) only [↓if_pos, ↓if_neg, xret_v, xret_n, xup2_o, xup2_i, xup2_j, eX7_way, bX7_way_0, bX7_way_4, bX7_way_7, bX7_way_11, bX7_way_14, bX7_way_18, bX7_way_22, bX7_way_23, bX7_way_31, bX7_way_35, bX7_way_40, bX7_way_44, n_way_45 hM, bX7_way_48, bX7_way_51, bX7_way_79, bX7_way_80, m_isRing, m_fails hM]
/-- the cells that a strength needs -/
def aMb (V : Nat → Nat → Int) (n : Nat) : Prop := ∀ p, p < n → (0 ≤ 10 * V 60 p * V 61 p ∧ 10 * V 60 p * V 61 p ≤ 1000) ∧ (0 ≤ V 65 p ∧ V 65 p ≤ 100000000)
theorem xSm3_in {p n : Nat} (h : aMb V n) (hp : p < n) : 0 ≤ xSm3 V J p ∧ xSm3 V J p ≤ 1000 := by
  have := h p hp
  unfold xSm3
  split <;> omega
theorem xSm3_e {V W : Nat → Nat → Int} {p : Nat} (h0 : W 60 = V 60) (h1 : W 61 = V 61) (h5 : W 65 = V 65) : xSm3 W J p = xSm3 V J p := by
  unfold xSm3
  rw [h0, h1, h5]
theorem m_breaking {n : Nat} {st : Nat → Int} (hM : xMo T R) (h3 : V 56 3 = n) (hn : n ≤ 40) (hb : aMb V n) (hst : ∀ p, p < n → xSm3 V J p = st p) (hbo : ∀ p, p < n → 0 ≤ V 73 p ∧ V 73 p ≤ 10000) :
    X sc (d + 2) 126 [.ref 56] (T, z, xv V, J, R) = some (.inl (some (xw (aFst (fun p => decide (st p < V 73 p)) n 0))), (T, z, xv (V), J, R)) := by
  have loop : ∀ (m : Nat) (nx : Int), m ≤ n → XR sc (d + 1) 126 9 [some (.ref 56), some (xw nx), some (xw ((m : Int) - 1))] [] (T, z, xv V, J, R) = some (.inl (some (xw (aDst (fun p => decide (st p < V 73 p)) m nx))), (T, z, xv (V), J, R)) := by
    intro m
    induction m with
    | zero =>
      intro nx _
      rw [bX7_breaking_9 (by omega), if_pos (by omega), bX7_breaking_39]; rfl
    | succ m ih =>
      intro nx hm
      have ep : ((m : Int)).toNat = m := Int.toNat_natCast m
      have hs := xSm3_in (J := J) hb (show m < n by omega)
      have ho := hbo m (by omega)
      have hm2 := hb m (by omega)
      rw [show ((m + 1 : Nat) : Int) - 1 = (m : Int) by omega, bX7_breaking_9 (by omega), if_neg (by omega), n_breaking_13 hM (by omega), ep, m_strength hM (by omega) (by rw [ep]; exact hm2.1) (by rw [ep]; exact hm2.2), ep, xret_v, bX7_breaking_24 (by omega) (by omega), aDst, hst m (by omega)]
      by_cases c : V 73 m ≤ st m
      · rw [if_pos c, if_neg (by rw [decide_eq_true_eq]; omega), bX7_breaking_31, bX7_breaking_32, show (m : Int) + (-1) = (m : Int) - 1 by omega, ih nx (by omega)]
      · rw [if_neg c, if_pos (decide_eq_true (by omega)), bX7_breaking_27, bX7_breaking_32, show (m : Int) + (-1) = (m : Int) - 1 by omega, ih (m : Int) (by omega)]
  have e : ∀ x : Int, x = -1 → (if x = -1 then (-1 : Int) else x) = x := fun x hx => by rw [if_pos hx, hx]
  rw [eX7_breaking, n_breaking_0 hM, h3, loop n (-1) (Nat.le_refl n), aDst_f]
  by_cases c : aFst (fun p => decide (st p < V 73 p)) n 0 = -1
  · rw [if_pos c, c]
  · rw [if_neg c]
/-- the wear behind a pull, from p on -/
def aWv : Nat → Nat → (Nat → Nat → Int) → (Nat → Nat → Int)
  | 0, _, V => V
  | m + 1, p, V => aWv m (p + 1) (xup2 V 65 p (V 65 p + V 73 p / 10))
theorem aWv_o {b : Nat} (hb : ¬ b = 65) : ∀ (m p : Nat) (V : Nat → Nat → Int), aWv m p V b = V b := by
  intro m
  induction m with
  | zero => intro p V; rfl
  | succ m ih => intro p V; rw [aWv, ih, xup2_o hb]
theorem aWv_65 : ∀ (m p : Nat) (V : Nat → Nat → Int) (q : Nat), aWv m p V 65 q = if p ≤ q ∧ q < p + m then V 65 q + V 73 q / 10 else V 65 q := by
  intro m
  induction m with
  | zero => intro p V q; rw [aWv, if_neg (by omega)]
  | succ m ih =>
    intro p V q
    rw [aWv, ih, xup2_o (show ¬ (73 : Nat) = 65 by decide)]
    by_cases e : q = p
    · subst e
      rw [if_neg (show ¬ (q + 1 ≤ q ∧ q < q + 1 + m) by omega), if_pos (show q ≤ q ∧ q < q + (m + 1) by omega), xup2_i]
    · rw [xup2_j e]
      by_cases c : p + 1 ≤ q ∧ q < p + 1 + m
      · rw [if_pos c, if_pos (show p ≤ q ∧ q < p + (m + 1) by omega)]
      · rw [if_neg c, if_neg (show ¬ (p ≤ q ∧ q < p + (m + 1)) by omega)]
theorem m_pull_wear {n : Nat} {b x8 : Int} {o1 o2 o3 o4 o5 o7 : Option Value} (hM : xMo T R) (hn : n ≤ 40) (h8 : x8 = 1) :
    ∀ (m p : Nat) (V : Nat → Nat → Int), p + m = n → V 56 3 = n → (∀ q, q < n → 0 ≤ V 73 q ∧ V 73 q ≤ 10000) →
    XR sc d 127 160 [some (.ref 56), o1, o2, o3, o4, o5, some (xw b), o7, some (xw x8), some (xw p)] [] (T, z, xv V, J, R) = some (.inl (some (xw (b))), (T, z, xv (aWv m p V), J, R)) := by
  intro m
  induction m with
  | zero =>
    intro p V hp h3 hb
    rw [n_pull_160 hM (by omega) (by omega), if_pos (by omega), bX7_pull_200]; rfl
  | succ m ih =>
    intro p V hp h3 hb
    have ep : ((p : Int)).toNat = p := Int.toNat_natCast p
    have hbp := hb p (by omega)
    rw [n_pull_160 hM (by omega) (by omega), if_neg (by omega), bX7_pull_169 (by omega), if_neg (by omega), n_pull_174 hM (by omega) (by omega) (by rw [ep]; omega), ep, show (p : Int) + 1 = ((p + 1 : Nat) : Int) by omega, ih (p + 1) _ (by omega) (by rw [xup2_o (by decide)]; exact h3) (by rw [xup2_o (by decide)]; exact hb)]
    rfl
/-- what a pull leaves of the model, given what breaks -/
def aPd (V S V' : Nat → Nat → Int) (n t f : Nat) (g : Int) : Prop :=
  (∀ b, ¬ b = 56 → (b < 71 ∨ 73 < b) → ¬ b = 65 → V' b = S b) ∧ (∀ j, ¬ j = 17 → V' 56 j = V 56 j) ∧
  ∀ p, V' 65 p = if p < n then V 65 p + aBu (S 68) (S 69) (S 70) n (aDs (S 68) (S 69) (S 70) n t) t f g p / 10 else V 65 p
theorem m_pull_loop {f t n : Nat} {g : Int} {st : Nat → Int} {o4 o5 : Option Value} (hM : xMo T R) (ht : t < 8) (hf : f < 8) (hg : 1 ≤ g ∧ g ≤ 9999) :
    ∀ (m : Nat) (b : Int) (V : Nat → Nat → Int) (o9 : Option Value), aMo V n → aMb V n → (∀ p, p < n → xSm3 V J p = st p) → aCt (V 70) n ≤ m → (∀ p, p < n → V 73 p = aBu (V 68) (V 69) (V 70) n (aDs (V 68) (V 69) (V 70) n t) t f g p) →
    ∃ V' : Nat → Nat → Int, XR sc (d + 5) 127 102 [some (.ref 56), some (xw f), some (xw t), some (xw g), o4, o5, some (xw b), some (xw (aBr V n t f g st)), some (xw 1), o9] [] (T, z, xv V, J, R) = some (.inl (some (xw ((aPl n t f g st m b V).1))), (T, z, xv (V'), J, R)) ∧ aPd V (aPl n t f g st m b V).2 V' n t f g := by
  -- nothing breaks
  have stop : ∀ (m : Nat) (b : Int) (V : Nat → Nat → Int) (o9 : Option Value), aMo V n → (∀ p, p < n → V 73 p = aBu (V 68) (V 69) (V 70) n (aDs (V 68) (V 69) (V 70) n t) t f g p) → aBr V n t f g st = -1 →
      ∃ V' : Nat → Nat → Int, XR sc (d + 5) 127 102 [some (.ref 56), some (xw f), some (xw t), some (xw g), o4, o5, some (xw b), some (xw (aBr V n t f g st)), some (xw 1), o9] [] (T, z, xv V, J, R) = some (.inl (some (xw ((aPl n t f g st m b V).1))), (T, z, xv (V'), J, R)) ∧ aPd V (aPl n t f g st m b V).2 V' n t f g := by
    intro m b V o9 hA h73 hb
    have hbo : ∀ q, q < n → 0 ≤ V 73 q ∧ V 73 q ≤ 10000 := fun q hq => by rw [h73 q hq]; exact aBu_in (by omega)
    refine ⟨aWv n 0 V, ?_, ?_⟩
    · rw [aPl_0 hb, hb, bX7_pull_102 (by decide), if_neg (by decide), bX7_pull_107 (by decide), if_pos rfl, bX7_pull_157]
      exact m_pull_wear hM hA.2.1 rfl n 0 V (Nat.zero_add n) hA.1 hbo
    · rw [aPl_0 hb]
      refine ⟨fun b b1 b2 b3 => aWv_o b3 n 0 V, fun j hj => by rw [aWv_o (by decide)], fun p => ?_⟩
      rw [aWv_65]
      by_cases c : p < n
      · rw [if_pos (show 0 ≤ p ∧ p < 0 + n by omega), if_pos c, h73 p c]
      · rw [if_neg (show ¬ (0 ≤ p ∧ p < 0 + n) by omega), if_neg c]
  intro m
  induction m with
  | zero =>
    intro b V o9 hA hB hst hct h73
    have h0 := aCt_0 (L := V 70) n (by omega)
    refine stop 0 b V o9 hA h73 (aBr_no fun p hp => ?_)
    rw [aBu_0 (aBk_0 (hA.2.2 p hp) (h0 p hp)), ← hst p hp]
    have := xSm3_in (J := J) hB hp
    omega
  | succ m ih =>
    intro b V o9 hA hB hst hct h73
    by_cases c : aBr V n t f g st = -1
    · exact stop (m + 1) b V o9 hA h73 c
    · obtain ⟨k, k1, k2, k3⟩ := aBr_c c
      have hn := hA.2.1
      have ek : ((k : Int)).toNat = k := Int.toNat_natCast k
      have hs0 := xSm3_in (J := J) hB k1
      have hs1 := hst k k1
      have hbk : ¬ V 70 k = -1 := by
        intro q
        rw [aBu_0 (aBk_0 (hA.2.2 k k1) q)] at k3
        omega
      obtain ⟨r8, r9, r0, r7, ro⟩ := aFr1_r (V := V) (k := k)
      have hA1 : aMo (aFr1 V k) n := by
        refine ⟨by rw [ro 56 (by decide) (by decide) (by decide) (by decide)]; exact hA.1, hn, fun p hp => ?_⟩
        rw [r8, r9, r0]
        exact aSt_up (hA.2.2 p hp)
      have hds := aDs_ok (O := aFr1 V k 68) (Q := aFr1 V k 69) (L := aFr1 V k 70) (n := n) ht
      obtain ⟨V1, f1, f2⟩ := m_finds (sc := sc) (d := d + 2) (T := T) (z := z) (V := aFr1 V k) (J := J) (R := R) (F := aDs (aFr1 V k 68) (aFr1 V k 69) (aFr1 V k 70) n t) hM hA1 ht hf hds
      obtain ⟨g1, g2, g3, g4⟩ := f2
      have v8 : V1 68 = aFr1 V k 68 := g1 68 (by decide) (by decide) (by decide)
      have v9 : V1 69 = aFr1 V k 69 := g1 69 (by decide) (by decide) (by decide)
      have v0 : V1 70 = aFr1 V k 70 := g1 70 (by decide) (by decide) (by decide)
      have hA2 : aMo V1 n := aMo_e hA1 (g2 3 (by decide)) v8 v9 v0
      have e60 : aFr1 V k 60 = V 60 := ro 60 (by decide) (by decide) (by decide) (by decide)
      have e61 : aFr1 V k 61 = V 61 := ro 61 (by decide) (by decide) (by decide) (by decide)
      have e65 : aFr1 V k 65 = V 65 := ro 65 (by decide) (by decide) (by decide) (by decide)
      have v60 : V1 60 = V 60 := by rw [g1 60 (by decide) (by decide) (by decide), e60]
      have v61 : V1 61 = V 61 := by rw [g1 61 (by decide) (by decide) (by decide), e61]
      have v65 : V1 65 = V 65 := by rw [g1 65 (by decide) (by decide) (by decide), e65]
      have hpl : aPl n t f g st (m + 1) b V = aPl n t f g st m (b + 1) (aFr1 V k) := by rw [aPl, if_neg c, k2, ek]; rfl
      have hct1 : aCt (aFr1 V k 70) n ≤ m := by
        have := aCt_up hbk n k1
        rw [r0]; omega
      have start : XR sc (d + 5) 127 102 [some (.ref 56), some (xw f), some (xw t), some (xw g), o4, o5, some (xw b), some (xw (aBr V n t f g st)), some (xw 1), o9] [] (T, z, xv V, J, R) = XR sc (d + 5) 127 136 [some (.ref 56), some (xw f), some (xw t), some (xw g), o4, o5, some (xw (b + 1)), some (xw k), some (xw 1), o9] [xw (if aDs (aFr1 V k 68) (aFr1 V k 69) (aFr1 V k 70) n t f < 1000000 then 1 else 0)] (T, z, xv V1, J, R) := by
        rw [k2, bX7_pull_102 (by decide), if_neg (by decide), bX7_pull_107 (by omega), if_neg (by omega), n_pull_113 hM (by omega), ek, m_frees hM (by omega), ek, xret_n, n_pull_127 hM]
        show xret 127 _ 133 136 _ _ (X sc (d + 5) 120 [.ref 56, xw f, xw t] (T, z, xv (aFr1 V k), J, R)) = _
        rw [f1, xret_v]
      rw [hpl]
      by_cases c2 : aDs (aFr1 V k 68) (aFr1 V k 69) (aFr1 V k 70) n t f < 1000000
      · rw [if_pos c2] at start g3
        obtain ⟨B, b1, b2⟩ := m_loads (sc := sc) (d := d) (T := T) (z := z) (V := V1) (J := J) (R := R) (g := g) (F := aDs (aFr1 V k 68) (aFr1 V k 69) (aFr1 V k 70) n t) hM hA2 ht hf (by rw [v8, v9, v0]; exact hds) (by omega) c2 (by rw [v8, v9, v0]; exact g3) (by rw [v8, v9, v0]; exact g4 c2)
        rw [v8, v9, v0] at b2
        have u8 : va_up V1 73 B 68 = aFr1 V k 68 := by rw [va_ne (by decide), v8]
        have u9 : va_up V1 73 B 69 = aFr1 V k 69 := by rw [va_ne (by decide), v9]
        have u0 : va_up V1 73 B 70 = aFr1 V k 70 := by rw [va_ne (by decide), v0]
        have hA3 : aMo (va_up V1 73 B) n := aMo_e hA2 (by rw [va_ne (by decide)]) (va_ne (by decide)) (va_ne (by decide)) (va_ne (by decide))
        have hB3 : aMb (va_up V1 73 B) n := by
          intro p hp
          rw [va_ne (by decide), va_ne (by decide), va_ne (by decide), v60, v61, v65]
          exact hB p hp
        have hst3 : ∀ p, p < n → xSm3 (va_up V1 73 B) J p = st p := by
          intro p hp
          rw [← hst p hp]
          exact xSm3_e (by rw [va_ne (by decide), v60]) (by rw [va_ne (by decide), v61]) (by rw [va_ne (by decide), v65])
        have h733 : ∀ p, p < n → va_up V1 73 B 73 p = aBu (va_up V1 73 B 68) (va_up V1 73 B 69) (va_up V1 73 B 70) n (aDs (va_up V1 73 B 68) (va_up V1 73 B 69) (va_up V1 73 B 70) n t) t f g p := by
          intro p hp
          rw [va_same, u8, u9, u0]
          exact b2 p hp
        have hbr : aFst (fun p => decide (st p < va_up V1 73 B 73 p)) n 0 = aBr (va_up V1 73 B) n t f g st := by
          unfold aBr
          exact aFst_e n 0 (fun i _ hi => by rw [h733 i (by omega)])
        have brk := m_breaking (sc := sc) (d := d + 3) (T := T) (z := z) (V := va_up V1 73 B) (J := J) (R := R) (st := st) hM hA3.1 hn hB3 hst3 (fun p hp => by rw [h733 p hp]; exact aBu_in (by omega))
        obtain ⟨V', i1, i2⟩ := ih (b + 1) (va_up V1 73 B) o9 hA3 hB3 hst3 (by rw [u0]; exact hct1) h733
        -- the pure loop reads rows 67 to 70 alone
        have cong : ∀ (m : Nat) (b : Int) (S S' : Nat → Nat → Int), (∀ x, x < 71 → ¬ x = 56 → S x = S' x) → (∀ x, 73 < x → S x = S' x) → (aPl n t f g st m b S).1 = (aPl n t f g st m b S').1 ∧ (∀ x, x < 71 → ¬ x = 56 → (aPl n t f g st m b S).2 x = (aPl n t f g st m b S').2 x) ∧ (∀ x, 73 < x → (aPl n t f g st m b S).2 x = (aPl n t f g st m b S').2 x) := by
          intro m
          induction m with
          | zero => intro b S S' h1 h2; exact ⟨rfl, h1, h2⟩
          | succ m ih2 =>
            intro b S S' h1 h2
            have eb : aBr S n t f g st = aBr S' n t f g st := by unfold aBr; rw [h1 68 (by decide) (by decide), h1 69 (by decide) (by decide), h1 70 (by decide) (by decide)]
            rw [aPl, aPl, eb]
            split
            · exact ⟨rfl, h1, h2⟩
            · refine ih2 (b + 1) _ _ (fun x x1 x2 => ?_) (fun x x1 => ?_)
              · obtain ⟨p8, p9, p0, p7, po⟩ := aFr1_r (V := S) (k := (aBr S' n t f g st).toNat)
                obtain ⟨q8, q9, q0, q7, qo⟩ := aFr1_r (V := S') (k := (aBr S' n t f g st).toNat)
                show aFr1 S _ x = aFr1 S' _ x
                by_cases e8 : x = 68
                · subst e8; rw [p8, q8, h1 68 (by decide) (by decide)]
                · by_cases e9 : x = 69
                  · subst e9; rw [p9, q9, h1 69 (by decide) (by decide)]
                  · by_cases e0 : x = 70
                    · subst e0; rw [p0, q0, h1 70 (by decide) (by decide)]
                    · by_cases e7 : x = 67
                      · subst e7; rw [p7, q7, h1 67 (by decide) (by decide)]
                      · rw [po x e7 e8 e9 e0, qo x e7 e8 e9 e0]; exact h1 x x1 x2
              · obtain ⟨p8, p9, p0, p7, po⟩ := aFr1_r (V := S) (k := (aBr S' n t f g st).toNat)
                obtain ⟨q8, q9, q0, q7, qo⟩ := aFr1_r (V := S') (k := (aBr S' n t f g st).toNat)
                show aFr1 S _ x = aFr1 S' _ x
                rw [po x (by omega) (by omega) (by omega) (by omega), qo x (by omega) (by omega) (by omega) (by omega)]; exact h2 x x1
        obtain ⟨c1', c2', c3'⟩ := cong m (b + 1) (va_up V1 73 B) (aFr1 V k) (fun x x1 x2 => by rw [va_ne (by omega), g1 x (by omega) (by omega) x2]) (fun x x1 => by rw [va_ne (by omega), g1 x (by omega) (by omega) (by omega)])
        refine ⟨V', ?_, fun x x1 x2 x3 => ?_, fun j hj => ?_, fun p => ?_⟩
        · rw [start, bX7_pull_136 (by decide), if_neg (by decide), n_pull_143 hM, b1, xret_n, n_pull_148 hM, brk, xret_v, bX7_pull_152, hbr, i1, c1']
        · rw [i2.1 x x1 x2 x3]
          rcases x2 with x2 | x2
          · exact c2' x x2 x1
          · exact c3' x x2
        · rw [i2.2.1 j hj, va_ne (by decide), g2 j hj, ro 56 (by decide) (by decide) (by decide) (by decide)]
        · rw [i2.2.2 p, c2' 68 (by decide) (by decide), c2' 69 (by decide) (by decide), c2' 70 (by decide) (by decide), va_ne (by decide), v65]
      · rw [if_neg c2] at start
        have hb1 : aBr (aFr1 V k) n t f g st = -1 := aBr_no fun p hp => by
          rw [aBu_no c2, ← hst p hp]
          have := xSm3_in (J := J) hB hp
          omega
        refine ⟨V1, ?_, ?_⟩
        · have h31 := hA2.1
          rw [aPl_0 hb1, start, bX7_pull_136 (by decide), if_pos rfl, bX7_pull_102 (by decide), if_pos rfl, bX7_pull_157, n_pull_160 hM (by omega) (by omega)]
          split
          · rw [bX7_pull_200]
          · rw [bX7_pull_169 (by decide), if_pos rfl, bX7_pull_200]
        · rw [aPl_0 hb1]
          refine ⟨fun x x1 x2 x3 => g1 x (by omega) (by omega) x1, fun j hj => by rw [g2 j hj, ro 56 (by decide) (by decide) (by decide) (by decide)], fun p => ?_⟩
          rw [aBu_no c2, v65]
          split
          · rw [show (0 : Int) / 10 = 0 by decide, Int.add_zero]
          · rfl
end SX8f
