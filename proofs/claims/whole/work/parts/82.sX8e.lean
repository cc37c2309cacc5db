/-! ways: the model's path, and its loads -/
theorem aNx_conv {c : Nat → Nat → Int} {F : Nat → Int} {x : Nat} (hN : F x < 1000000) : ∀ m k, aNx c (fun r => if F r < 1000000 then F r else 100000000) x m k = aNx c F x m k := by
  intro m
  induction m with
  | zero => intro k; rfl
  | succ m ih =>
    intro k
    rw [aNx, aNx, ih (k + 1)]
    have e : (0 < c x k ∧ c x k + (if F k < 1000000 then F k else 100000000) = (if F x < 1000000 then F x else 100000000)) ↔ (0 < c x k ∧ c x k + F k = F x) := by
      rw [if_pos hN]
      by_cases c1 : F k < 1000000
      · rw [if_pos c1]
      · rw [if_neg c1]
        constructor <;> (rintro ⟨q1, q2⟩; omega)
    by_cases c1 : 0 < c x k ∧ c x k + F k = F x
    · rw [if_pos c1, if_pos (e.mpr c1)]
    · rw [if_neg c1, if_neg (fun q => c1 (e.mp q))]
section SX8e
variable {sc : xS} {d : Nat} {T : Nat → Nat × Nat} {z : Nat × Nat} {V : Nat → Nat → Int} {J : Nat → Nat → Int64} {R : Nat → Nat → Option Nat}
theorem m_next_loop {f t at_ n : Nat} (hM : xMo T R) (hA : aMo V n) (hx : at_ < 8) (hD : ∀ k, k < 8 → 0 ≤ V 71 k ∧ V 71 k ≤ 100000000) :
    ∀ (m : Nat) (nx : Int) (o6 o7 : Option Value), m ≤ 8 →
    ∃ o5' o6' : Option Value, XR sc (d + 2) 120 236 [some (.ref 56), some (xw f), some (xw t), some (xw at_), some (xw nx), some (xw ((m : Int) - 1)), o6, o7] [] (T, z, xv V, J, R) = XR sc (d + 2) 120 182 [some (.ref 56), some (xw f), some (xw t), some (xw (aDst (fun q => decide (0 < aCo (V 68) (V 69) (V 70) n at_ q ∧ aCo (V 68) (V 69) (V 70) n at_ q + V 71 q = V 71 at_)) m nx)), some (xw (aDst (fun q => decide (0 < aCo (V 68) (V 69) (V 70) n at_ q ∧ aCo (V 68) (V 69) (V 70) n at_ q + V 71 q = V 71 at_)) m nx)), o5', o6', o7] [] (T, z, xv V, J, R) := by
  intro m
  induction m with
  | zero =>
    intro nx o6 o7 hm
    refine ⟨some (xw (((0 : Nat) : Int) - 1)), o6, ?_⟩
    rw [bX7_finds_236 (by omega), if_pos (by omega), bX7_finds_296, aDst]
  | succ m ih =>
    intro nx o6 o7 hm
    have hin := aS_in (O := V 68) (Q := V 69) (L := V 70) (x := at_) (y := m) n hA.2.2
    have hq := hD m (by omega)
    have hat := hD at_ hx
    have em : ((m : Int)).toNat = m := Int.toNat_natCast m
    have ea : ((at_ : Int)).toNat = at_ := Int.toNat_natCast at_
    have e1 : ((m + 1 : Nat) : Int) - 1 = (m : Int) := by omega
    have e2 : (m : Int) + (-1) = (m : Int) - 1 := by omega
    rw [aDst, e1, bX7_finds_236 (by omega), if_neg (by omega), n_finds_241 hM, m_shortest hM hA hx (by omega), xret_v, bX7_finds_248 (by omega)]
    have co : aCo (V 68) (V 69) (V 70) n at_ m = if aS (V 68) (V 69) (V 70) at_ m n < 100000000 then aS (V 68) (V 69) (V 70) at_ m n * 16 + 1 else 0 := rfl
    have no : ∀ o6 : Option Value, ¬ (0 < aCo (V 68) (V 69) (V 70) n at_ m ∧ aCo (V 68) (V 69) (V 70) n at_ m + V 71 m = V 71 at_) → ∃ o5' o6' : Option Value, XR sc (d + 2) 120 286 [some (.ref 56), some (xw f), some (xw t), some (xw at_), some (xw nx), some (xw m), o6, o7] [] (T, z, xv V, J, R) = XR sc (d + 2) 120 182 [some (.ref 56), some (xw f), some (xw t), some (xw (aDst (fun q => decide (0 < aCo (V 68) (V 69) (V 70) n at_ q ∧ aCo (V 68) (V 69) (V 70) n at_ q + V 71 q = V 71 at_)) m (if decide (0 < aCo (V 68) (V 69) (V 70) n at_ m ∧ aCo (V 68) (V 69) (V 70) n at_ m + V 71 m = V 71 at_) = true then (m : Int) else nx))), some (xw (aDst (fun q => decide (0 < aCo (V 68) (V 69) (V 70) n at_ q ∧ aCo (V 68) (V 69) (V 70) n at_ q + V 71 q = V 71 at_)) m (if decide (0 < aCo (V 68) (V 69) (V 70) n at_ m ∧ aCo (V 68) (V 69) (V 70) n at_ m + V 71 m = V 71 at_) = true then (m : Int) else nx))), o5', o6', o7] [] (T, z, xv V, J, R) := by
      intro o6 c
      obtain ⟨o5', o6', h⟩ := ih nx o6 o7 (by omega)
      refine ⟨o5', o6', ?_⟩
      rw [if_neg (by rw [decide_eq_true_eq]; exact c), bX7_finds_286, bX7_finds_288, e2, h]
    by_cases c1 : 100000000 ≤ aS (V 68) (V 69) (V 70) at_ m n
    · obtain ⟨o5', o6', h⟩ := no (some (xw (aS (V 68) (V 69) (V 70) at_ m n))) (by rw [co, if_neg (by omega)]; omega)
      refine ⟨o5', o6', ?_⟩
      rw [if_pos c1]; exact h
    · rw [if_pos (by omega)] at co
      by_cases c2 : V 71 m + 16 * aS (V 68) (V 69) (V 70) at_ m n + 1 = V 71 at_
      · obtain ⟨o5', o6', h⟩ := ih (m : Int) (some (xw (aS (V 68) (V 69) (V 70) at_ m n))) o7 (by omega)
        refine ⟨o5', o6', ?_⟩
        rw [if_neg c1, n_finds_257 hM (by omega) (by omega) (by rw [em]; omega) (by rw [ea]; omega), em, ea, if_pos c2, bX7_finds_281, bX7_finds_288, e2, if_pos (decide_eq_true (by omega)), h]
      · obtain ⟨o5', o6', h⟩ := no (some (xw (aS (V 68) (V 69) (V 70) at_ m n))) (by omega)
        refine ⟨o5', o6', ?_⟩
        rw [if_neg c1, n_finds_257 hM (by omega) (by omega) (by rw [em]; omega) (by rw [ea]; omega), em, ea, if_neg c2]; exact h
theorem m_walk_loop {f t n : Nat} {O Q L F : Nat → Int} (hM : xMo T R) (ht : t < 8) (hf : f < 8) (h : aB 1000000 (aCo O Q L n) t F) (hst : ∀ p, p < n → aSt O Q L p) (hN : F f < 1000000) :
    ∀ (m q : Nat) (V : Nat → Nat → Int) (o4 o5 o6 o7 : Option Value), q + m = aLen (aCo O Q L n) F t 7 f → aMo V n → V 68 = O → V 69 = Q → V 70 = L → (∀ r, r < 8 → V 71 r = if F r < 1000000 then F r else 100000000) → V 56 17 = q → (∀ k, k < q → V 72 k = (aAt (aCo O Q L n) F f k : Int)) →
    ∃ V' : Nat → Nat → Int, XR sc (d + 2) 120 182 [some (.ref 56), some (xw f), some (xw t), some (xw (aAt (aCo O Q L n) F f q)), o4, o5, o6, o7] [] (T, z, xv V, J, R) = some (.inl (some (xw (1))), (T, z, xv (V'), J, R)) ∧ (∀ b, ¬ b = 72 → ¬ b = 56 → V' b = V b) ∧ (∀ j, ¬ j = 17 → V' 56 j = V 56 j) ∧ V' 56 17 = (aLen (aCo O Q L n) F t 7 f : Int) + 1 ∧ ∀ k, k ≤ aLen (aCo O Q L n) F t 7 f → V' 72 k = (aAt (aCo O Q L n) F f k : Int) := by
  obtain ⟨l1, l2, l3, l4⟩ := aLen_ok (by decide) ht h 7 f hf hN (aK_7 hf)
  have hFin : ∀ r, r < 8 → 0 ≤ (if F r < 1000000 then F r else 100000000) ∧ (if F r < 1000000 then F r else 100000000) ≤ 100000000 := by
    intro r hr
    have := h.2.1 r hr
    split <;> omega
  intro m
  induction m with
  | zero =>
    intro q V o4 o5 o6 o7 hq hA h68 h69 h70 h71 h17 h72
    have eq : q = aLen (aCo O Q L n) F t 7 f := by omega
    have ef : ((f : Int)).toNat = f := Int.toNat_natCast f
    have e17 : (V 56 17).toNat = q := by rw [h17]; exact Int.toNat_natCast q
    have ef71 : V 71 f = F f := by rw [h71 f hf, if_pos hN]
    have hff := h.2.1 f hf
    have aq := (l4 q (by omega)).1
    have at1 : aAt (aCo O Q L n) F f q = t := by rw [eq]; exact l2
    refine ⟨xup2 (xup2 V 72 q (aAt (aCo O Q L n) F f q)) 56 17 (V 56 17 + 1), ?_, fun b b1 b2 => by rw [xup2_o b2, xup2_o b1], fun j hj => by rw [xup2_j hj, xup2_o (by decide)], by rw [xup2_i, h17, eq], fun k hk => ?_⟩
    · rw [n_finds_182 hM (by omega) (by rw [ef, ef71]; omega), ef, ef71, if_neg (by omega), n_finds_193 hM (by omega), if_neg (by omega), n_finds_202 hM (by omega) (by omega) (by omega), e17, if_pos (by rw [at1]), bX7_finds_227]
    · rw [xup2_o (by decide)]
      by_cases e : k = q
      · subst e; rw [xup2_i]
      · rw [xup2_j e]; exact h72 k (by omega)
  | succ m ih =>
    intro q V o4 o5 o6 o7 hq hA h68 h69 h70 h71 h17 h72
    have ef : ((f : Int)).toNat = f := Int.toNat_natCast f
    have e17 : (V 56 17).toNat = q := by rw [h17]; exact Int.toNat_natCast q
    have ef71 : V 71 f = F f := by rw [h71 f hf, if_pos hN]
    have hff := h.2.1 f hf
    obtain ⟨aq, aN⟩ := l4 q (by omega)
    have nat1 := l3 q (by omega)
    obtain ⟨g1, g2, g3, g4⟩ := aGo_ok h aq nat1 aN
    have e8 : xup2 (xup2 V 72 q (aAt (aCo O Q L n) F f q)) 56 17 (V 56 17 + 1) 68 = V 68 := by rw [xup2_o (by decide), xup2_o (by decide)]
    have e9 : xup2 (xup2 V 72 q (aAt (aCo O Q L n) F f q)) 56 17 (V 56 17 + 1) 69 = V 69 := by rw [xup2_o (by decide), xup2_o (by decide)]
    have e0 : xup2 (xup2 V 72 q (aAt (aCo O Q L n) F f q)) 56 17 (V 56 17 + 1) 70 = V 70 := by rw [xup2_o (by decide), xup2_o (by decide)]
    have e1 : xup2 (xup2 V 72 q (aAt (aCo O Q L n) F f q)) 56 17 (V 56 17 + 1) 71 = V 71 := by rw [xup2_o (by decide), xup2_o (by decide)]
    have hA' : aMo (xup2 (xup2 V 72 q (aAt (aCo O Q L n) F f q)) 56 17 (V 56 17 + 1)) n := aMo_e hA (by rw [xup2_j (by decide), xup2_o (by decide)]) e8 e9 e0
    obtain ⟨p5, p6, hn⟩ := m_next_loop (sc := sc) (d := d) (z := z) (J := J) (f := f) (t := t) (at_ := aAt (aCo O Q L n) F f q) hM hA' aq (by rw [e1]; intro k hk; rw [h71 k hk]; exact hFin k hk) 8 (-1) o6 o7 (Nat.le_refl 8)
    rw [aDst_f] at hn
    have en : aFst (fun q_1 => decide (0 < aCo O Q L n (aAt (aCo O Q L n) F f q) q_1 ∧ aCo O Q L n (aAt (aCo O Q L n) F f q) q_1 + V 71 q_1 = V 71 (aAt (aCo O Q L n) F f q))) 8 0 = (aAt (aCo O Q L n) F f (q + 1) : Int) := by
      have := aNx_conv (c := aCo O Q L n) (F := F) (x := aAt (aCo O Q L n) F f q) aN 8 0
      rw [aNx_f, g1] at this
      have gen : ∀ m k, k + m = 8 → aFst (fun q_1 => decide (0 < aCo O Q L n (aAt (aCo O Q L n) F f q) q_1 ∧ aCo O Q L n (aAt (aCo O Q L n) F f q) q_1 + V 71 q_1 = V 71 (aAt (aCo O Q L n) F f q))) m k = aFst (fun q_1 => decide (0 < aCo O Q L n (aAt (aCo O Q L n) F f q) q_1 ∧ aCo O Q L n (aAt (aCo O Q L n) F f q) q_1 + (if F q_1 < 1000000 then F q_1 else 100000000) = (if F (aAt (aCo O Q L n) F f q) < 1000000 then F (aAt (aCo O Q L n) F f q) else 100000000))) m k := by
        intro m
        induction m with
        | zero => intro k _; rfl
        | succ m ih2 => intro k hk; rw [aFst, aFst, ih2 (k + 1) (by omega), h71 k (by omega), h71 _ aq]
      exact (gen 8 0 rfl).trans this
    rw [e8, e9, e0, e1, h68, h69, h70, en, if_neg (by omega)] at hn
    obtain ⟨V', i1, i2, i3, i4, i5⟩ := ih (q + 1) (xup2 (xup2 V 72 q (aAt (aCo O Q L n) F f q)) 56 17 (V 56 17 + 1)) (some (xw (aAt (aCo O Q L n) F f (q + 1)))) p5 p6 o7 (by omega) hA' (by rw [e8, h68]) (by rw [e9, h69]) (by rw [e0, h70]) (by rw [e1]; exact h71) (by rw [xup2_i, h17]; rfl) (fun k hk => by
      rw [xup2_o (by decide)]
      by_cases e : k = q
      · subst e; rw [xup2_i]
      · rw [xup2_j e]; exact h72 k (by omega))
    refine ⟨V', ?_, fun b b1 b2 => by rw [i2 b b1 b2, xup2_o b2, xup2_o b1], fun j hj => by rw [i3 j hj, xup2_j hj, xup2_o (by decide)], i4, i5⟩
    rw [n_finds_182 hM (by omega) (by rw [ef, ef71]; omega), ef, ef71, if_neg (by omega), n_finds_193 hM (by omega), if_neg (by omega), n_finds_202 hM (by omega) (by omega) (by omega), e17, if_neg (by omega), bX7_finds_229]
    exact hn.trans i1
/-- what the model's search leaves -/
def aFd (V V' : Nat → Nat → Int) (n : Nat) (F : Nat → Int) (t f : Nat) : Prop :=
  (∀ b, ¬ b = 71 → ¬ b = 72 → ¬ b = 56 → V' b = V b) ∧ (∀ j, ¬ j = 17 → V' 56 j = V 56 j) ∧ V' 56 17 = (if F f < 1000000 then (aM (V 68) (V 69) (V 70) n F t f : Int) + 1 else 0) ∧
  (F f < 1000000 → ∀ k, k ≤ aM (V 68) (V 69) (V 70) n F t f → V' 72 k = (aA (V 68) (V 69) (V 70) n F f k : Int))
theorem m_finds {f t n : Nat} {F : Nat → Int} (hM : xMo T R) (hA : aMo V n) (ht : t < 8) (hf : f < 8) (h : aB 1000000 (aCo (V 68) (V 69) (V 70) n) t F) :
    ∃ V' : Nat → Nat → Int, X sc (d + 3) 120 [.ref 56, xw f, xw t] (T, z, xv V, J, R) = some (.inl (some (xw (if F f < 1000000 then 1 else 0))), (T, z, xv (V'), J, R)) ∧ aFd V V' n F t f := by
  have hS : ∀ r q, 1 ≤ aS (V 68) (V 69) (V 70) r q n := fun r q => (aS_in n hA.2.2).1
  have hco : ∀ r q, r < 8 → q < 8 → aCo (V 68) (V 69) (V 70) n r q ≤ 1601 := fun r q _ _ => (aCo_in hA.2.2).2
  have h' := aB_conv (N' := 100000000) h hco (by decide) (by decide)
  have hrr : ∀ r, ¬ 0 < aCo (V 68) (V 69) (V 70) n r r := by
    intro r
    have e : aS (V 68) (V 69) (V 70) r r n = 100000000 := by
      have gen : ∀ k, k ≤ n → aS (V 68) (V 69) (V 70) r r k = 100000000 := by
        intro k
        induction k with
        | zero => intro _; rfl
        | succ k ih =>
          intro hk
          have := ih (by omega)
          rw [aS, if_neg (fun q => (aJ_st (hA.2.2 k (by omega)) q.1).2.2 rfl), this]
      exact gen n (Nat.le_refl n)
    unfold aCo
    rw [e]; decide
  have e0 : va_up V 71 (V 71) = V := va_id
  have k1 := m_far_loop (sc := sc) (d := d + 2) (T := T) (z := z) (J := J) (R := R) (f := f) (t := t) (W := V) (o4 := none) (o5 := none) (o6 := none) (o7 := none) hM ht 8 0 (V 71) rfl
  rw [e0] at k1
  have hD0 : ∀ r, r < 8 → aI0 t 8 0 (V 71) r = if r = t then 0 else 100000000 := fun r hr => by rw [aI0_at, if_pos (by omega)]
  obtain ⟨q3, q4, q5, q6, q7, k2⟩ := m_rnd_loop (sc := sc) (d := d) (T := T) (z := z) (J := J) (R := R) (f := f) (t := t) (W := V) hM hA 7 1 (aI0 t 8 0 (V 71)) none none none none rfl (fun k hk => by rw [hD0 k hk]; split <;> omega)
  have hF := aI_F (S := fun x y => aS (V 68) (V 69) (V 70) x y n) (D0 := aI0 t 8 0 (V 71)) (fun r q => rfl) hS ht h' hrr hD0
  -- behind the sweeps
  have main : ∃ V' : Nat → Nat → Int, XR sc (d + 2) 120 175 [some (.ref 56), some (xw f), some (xw t), q3, q4, q5, q6, q7] [] (T, z, xv (va_up V 71 (aI (fun x y => aS (V 68) (V 69) (V 70) x y n) 7 (aI0 t 8 0 (V 71)))), J, R) = some (.inl (some (xw (if F f < 1000000 then 1 else 0))), (T, z, xv (V'), J, R)) ∧ aFd V V' n F t f := by
    rw [n_finds_175 hM]
    have w71 : ∀ r, r < 8 → xup2 (va_up V 71 (aI (fun x y => aS (V 68) (V 69) (V 70) x y n) 7 (aI0 t 8 0 (V 71)))) 56 17 0 71 r = if F r < 1000000 then F r else 100000000 := by
      intro r hr
      rw [xup2_o (by decide), va_same]; exact hF r hr
    have wo : ∀ b, ¬ b = 71 → ¬ b = 56 → xup2 (va_up V 71 (aI (fun x y => aS (V 68) (V 69) (V 70) x y n) 7 (aI0 t 8 0 (V 71)))) 56 17 0 b = V b := by
      intro b b1 b2
      rw [xup2_o b2, va_ne b1]
    have w56 : ∀ j, ¬ j = 17 → xup2 (va_up V 71 (aI (fun x y => aS (V 68) (V 69) (V 70) x y n) 7 (aI0 t 8 0 (V 71)))) 56 17 0 56 j = V 56 j := by
      intro j hj
      rw [xup2_j hj, va_ne (by decide)]
    by_cases c : F f < 1000000
    · obtain ⟨V', i1, i2, i3, i4, i5⟩ := m_walk_loop (sc := sc) (d := d) (T := T) (z := z) (J := J) (R := R) hM ht hf h hA.2.2 c (aLen (aCo (V 68) (V 69) (V 70) n) F t 7 f) 0 (xup2 (va_up V 71 (aI (fun x y => aS (V 68) (V 69) (V 70) x y n) 7 (aI0 t 8 0 (V 71)))) 56 17 0) q4 q5 q6 q7 (Nat.zero_add _) (aMo_e hA (w56 3 (by decide)) (wo 68 (by decide) (by decide)) (wo 69 (by decide) (by decide)) (wo 70 (by decide) (by decide))) (wo 68 (by decide) (by decide)) (wo 69 (by decide) (by decide)) (wo 70 (by decide) (by decide)) w71 (by rw [xup2_i]; rfl) (fun k hk => absurd hk (Nat.not_lt_zero k))
      have em : aM (V 68) (V 69) (V 70) n F t f = aLen (aCo (V 68) (V 69) (V 70) n) F t 7 f := by unfold aM; rw [if_pos c]
      refine ⟨V', by rw [if_pos c]; exact i1, fun b b1 b2 b3 => by rw [i2 b b2 b3, wo b b1 b3], fun j hj => by rw [i3 j hj, w56 j hj], by rw [if_pos c, em]; exact i4, fun _ => by rw [em]; exact i5⟩
    · refine ⟨_, ?_, fun b b1 b2 b3 => wo b b1 b3, w56, by rw [if_neg c, xup2_i], fun q => absurd q c⟩
      have ef : ((f : Int)).toNat = f := Int.toNat_natCast f
      rw [n_finds_182 hM (by omega) (by rw [ef, w71 f hf, if_neg c]; omega), ef, w71 f hf, if_neg c, if_pos (by decide), bX7_finds_302, if_neg c]
  obtain ⟨V', m1, m2⟩ := main
  refine ⟨V', ?_, m2⟩
  rw [eX7_finds, bX7_finds_0]
  exact k1.trans (k2.trans m1)
theorem m_isSharer {p k x y n : Nat} (hM : xMo T R) (hA : aMo V n) (hp : p < n) (hk : k + 1 < 8) (hx : V 72 k = (x : Int)) (hy : V 72 (k + 1) = (y : Int)) (hx8 : x < 8) (hy8 : y < 8) :
    X sc (d + 3) 122 [.ref 56, xw p, xw k] (T, z, xv V, J, R) = some (.inl (some (xw (if aJ (V 68) (V 69) p x y ∧ V 70 p = aS (V 68) (V 69) (V 70) x y n then 1 else 0))), (T, z, xv (V), J, R)) := by
  have hs := hA.2.2 p hp
  have h1 := aSt_in hs
  have h2 := aS_in (O := V 68) (Q := V 69) (L := V 70) (x := x) (y := y) n hA.2.2
  have hn := hA.2.1
  have ep : ((p : Int)).toNat = p := Int.toNat_natCast p
  have ek : ((k : Int)).toNat = k := Int.toNat_natCast k
  have ek1 : ((k : Int) + 1).toNat = k + 1 := by omega
  rw [eX7_isSharer, n_isSharer_0 hM (by omega) (by omega), ek, ek1, hx, hy, m_joins hM (by omega) hs hx8 hy8, xret_v, bX7_isSharer_19 (by split <;> omega)]
  by_cases c1 : aJ (V 68) (V 69) p x y
  · rw [if_neg (by rw [if_pos c1]; decide), n_isSharer_22 hM (by omega) (by omega) (by omega), ep, ek, ek1, hx, hy, m_shortest hM hA hx8 hy8, xret_v, bX7_isSharer_46 (by omega) (by omega)]
    by_cases c2 : V 70 p = aS (V 68) (V 69) (V 70) x y n
    · rw [if_pos c2, bX7_isSharer_49, bX7_isSharer_54 (by decide), if_pos ⟨c1, c2⟩]
    · rw [if_neg c2, bX7_isSharer_53, bX7_isSharer_54 (by decide), if_neg (fun q => c2 q.2)]
  · rw [if_pos (by rw [if_neg c1]), bX7_isSharer_53, bX7_isSharer_54 (by decide), if_neg (fun q => c1 q.1)]
theorem m_sharers_loop {k x y n : Nat} (hM : xMo T R) (hA : aMo V n) (hk : k + 1 < 8) (hx : V 72 k = (x : Int)) (hy : V 72 (k + 1) = (y : Int)) (hx8 : x < 8) (hy8 : y < 8) :
    ∀ (m p : Nat), p + m = n →
    XR sc (d + 3) 121 4 [some (.ref 56), some (xw k), some (xw (aC (V 68) (V 69) (V 70) x y (aS (V 68) (V 69) (V 70) x y n) p)), some (xw p)] [] (T, z, xv V, J, R) = some (.inl (some (xw (aC (V 68) (V 69) (V 70) x y (aS (V 68) (V 69) (V 70) x y n) n))), (T, z, xv (V), J, R)) := by
  have h3 := hA.1
  have hn := hA.2.1
  intro m
  induction m with
  | zero =>
    intro p hp
    obtain rfl : p = n := by omega
    rw [n_sharers_4 hM (by omega) (by omega), if_pos (by omega), bX7_sharers_35]
  | succ m ih =>
    intro p hp
    have nxt := ih (p + 1) (by omega)
    rw [aC] at nxt
    rw [n_sharers_4 hM (by omega) (by omega), if_neg (by omega), n_sharers_12 hM, m_isSharer hM hA (by omega) hk hx hy hx8 hy8, xret_v, bX7_sharers_19 (by split <;> omega)]
    by_cases c : aJ (V 68) (V 69) p x y ∧ V 70 p = aS (V 68) (V 69) (V 70) x y n
    · rw [if_pos c] at nxt
      rw [if_neg (by rw [if_pos c]; decide), bX7_sharers_22, bX7_sharers_27, show (p : Int) + 1 = ((p + 1 : Nat) : Int) by omega, nxt]
    · rw [if_neg c] at nxt
      rw [if_pos (by rw [if_neg c]), bX7_sharers_26, bX7_sharers_27, show (p : Int) + 1 = ((p + 1 : Nat) : Int) by omega, nxt]
theorem m_sharers {k x y n : Nat} (hM : xMo T R) (hA : aMo V n) (hk : k + 1 < 8) (hx : V 72 k = (x : Int)) (hy : V 72 (k + 1) = (y : Int)) (hx8 : x < 8) (hy8 : y < 8) :
    X sc (d + 4) 121 [.ref 56, xw k] (T, z, xv V, J, R) = some (.inl (some (xw (aC (V 68) (V 69) (V 70) x y (aS (V 68) (V 69) (V 70) x y n) n))), (T, z, xv (V), J, R)) := by
  rw [eX7_sharers, bX7_sharers_0]
  exact m_sharers_loop hM hA hk hx hy hx8 hy8 n 0 (Nat.zero_add n)
/-- what a part bears, by the first steps of the way -/
def aLd (O Q L : Nat → Int) (n : Nat) (a : Nat → Nat) (g : Int) (p : Nat) : Nat → Int
  | 0 => 0
  | k + 1 => if aJ O Q p (a k) (a (k + 1)) ∧ L p = aS O Q L (a k) (a (k + 1)) n then (g + aC O Q L (a k) (a (k + 1)) (aS O Q L (a k) (a (k + 1)) n) n - 1) / aC O Q L (a k) (a (k + 1)) (aS O Q L (a k) (a (k + 1)) n) n else aLd O Q L n a g p k
theorem m_loads_in {p m0 n : Nat} {g : Int} {W : Nat → Nat → Int} {a : Nat → Nat} (hM : xMo T R) (hA : aMo W n) (hp : p < n) (hg : 1 ≤ g ∧ g ≤ 10000) (hm0 : m0 ≤ 7) (h17 : W 56 17 = (m0 : Int) + 1 ∨ (m0 = 0 ∧ W 56 17 = 0)) (h72 : ∀ k, k ≤ m0 → W 72 k = (a k : Int) ∨ m0 = 0) (ha : ∀ k, k ≤ m0 → a k < 8) :
    ∀ (m k : Nat) (B : Nat → Int) (o4 : Option Value), k + m = m0 →
    ∃ o3' o4' : Option Value, XR sc (d + 4) 123 19 [some (.ref 56), some (xw g), some (xw p), some (xw k), o4] [] (T, z, xv (va_up W 73 (va_up B p (aLd (W 68) (W 69) (W 70) n a g p k))), J, R) = XR sc (d + 4) 123 2 [some (.ref 56), some (xw g), some (xw (p + 1 : Nat)), o3', o4'] [] (T, z, xv (va_up W 73 (va_up B p (aLd (W 68) (W 69) (W 70) n a g p m0))), J, R) := by
  have hn := hA.2.1
  intro m
  induction m with
  | zero =>
    intro k B o4 hk
    obtain rfl : k = m0 := by omega
    refine ⟨some (xw k), o4, ?_⟩
    rw [n_loads_19 hM (by omega) (by rw [va_ne (by decide)]; omega), va_ne (by decide), if_pos (by omega), bX7_loads_75, show (p : Int) + 1 = ((p + 1 : Nat) : Int) by omega]
  | succ m ih =>
    intro k B o4 hk
    have w56 : ∀ B : Nat → Int, va_up W 73 B 56 = W 56 := fun B => va_ne (by decide)
    have w68 : ∀ B : Nat → Int, va_up W 73 B 68 = W 68 := fun B => va_ne (by decide)
    have w69 : ∀ B : Nat → Int, va_up W 73 B 69 = W 69 := fun B => va_ne (by decide)
    have w70 : ∀ B : Nat → Int, va_up W 73 B 70 = W 70 := fun B => va_ne (by decide)
    have w72 : ∀ B : Nat → Int, va_up W 73 B 72 = W 72 := fun B => va_ne (by decide)
    have hA' : ∀ B : Nat → Int, aMo (va_up W 73 B) n := fun B => aMo_e hA (by rw [w56]) (w68 B) (w69 B) (w70 B)
    have e1 : W 72 k = (a k : Int) := (h72 k (by omega)).resolve_right (by omega)
    have e2 : W 72 (k + 1) = (a (k + 1) : Int) := (h72 (k + 1) (by omega)).resolve_right (by omega)
    have a1 := ha k (by omega)
    have a2 := ha (k + 1) (by omega)
    have ep : ((p : Int)).toNat = p := Int.toNat_natCast p
    have sh := m_sharers (sc := sc) (d := d) (T := T) (z := z) (V := va_up W 73 (va_up B p (aLd (W 68) (W 69) (W 70) n a g p k))) (J := J) (R := R) (k := k) hM (hA' _) (by omega) (by rw [w72]; exact e1) (by rw [w72]; exact e2) a1 a2
    have iss := m_isSharer (sc := sc) (d := d + 1) (T := T) (z := z) (V := va_up W 73 (va_up B p (aLd (W 68) (W 69) (W 70) n a g p k))) (J := J) (R := R) (k := k) hM (hA' _) hp (by omega) (by rw [w72]; exact e1) (by rw [w72]; exact e2) a1 a2
    rw [w68, w69, w70] at sh iss
    obtain ⟨o3', o4', nxt⟩ := ih (k + 1) B (some (xw (aC (W 68) (W 69) (W 70) (a k) (a (k + 1)) (aS (W 68) (W 69) (W 70) (a k) (a (k + 1)) n) n))) (by omega)
    refine ⟨o3', o4', ?_⟩
    rw [n_loads_19 hM (by omega) (by rw [w56]; omega), w56, if_neg (by omega), n_loads_29 hM, sh, xret_v, n_loads_34 hM, iss, xret_v, bX7_loads_47 (by split <;> omega), ← nxt, aLd]
    have hc := aC_in (O := W 68) (Q := W 69) (L := W 70) (x := a k) (y := a (k + 1)) (l := aS (W 68) (W 69) (W 70) (a k) (a (k + 1)) n) n
    by_cases c : aJ (W 68) (W 69) p (a k) (a (k + 1)) ∧ W 70 p = aS (W 68) (W 69) (W 70) (a k) (a (k + 1)) n
    · have h1 := aC_1 (O := W 68) (Q := W 69) (L := W 70) n p hp c
      rw [if_neg (by rw [if_pos c]; decide), bX7_loads_50 (by omega), n_loads_68 hM (by omega), ep, up2_va, va_same, va_two, va_two, if_pos c, show (k : Int) + 1 = ((k + 1 : Nat) : Int) by omega]
    · rw [if_pos (by rw [if_neg c]), n_loads_62 hM (by omega), ep, va_same, va_same, n_loads_68 hM (by omega), ep, up2_va, va_same, va_two, va_two, if_neg c, show (k : Int) + 1 = ((k + 1 : Nat) : Int) by omega]
theorem m_loads_out {m0 n : Nat} {g : Int} {W : Nat → Nat → Int} {a : Nat → Nat} (hM : xMo T R) (hA : aMo W n) (hg : 1 ≤ g ∧ g ≤ 10000) (hm0 : m0 ≤ 7) (h17 : W 56 17 = (m0 : Int) + 1 ∨ (m0 = 0 ∧ W 56 17 = 0)) (h72 : ∀ k, k ≤ m0 → W 72 k = (a k : Int) ∨ m0 = 0) (ha : ∀ k, k ≤ m0 → a k < 8) :
    ∀ (m p : Nat) (B : Nat → Int) (o3 o4 : Option Value), p + m = n → (∀ q, q < p → B q = aLd (W 68) (W 69) (W 70) n a g q m0) →
    ∃ B' : Nat → Int, XR sc (d + 4) 123 2 [some (.ref 56), some (xw g), some (xw p), o3, o4] [] (T, z, xv (va_up W 73 B), J, R) = some (.inl none, (T, z, xv (va_up W 73 B'), J, R)) ∧ ∀ q, q < n → B' q = aLd (W 68) (W 69) (W 70) n a g q m0 := by
  have h3 := hA.1
  have hn := hA.2.1
  intro m
  induction m with
  | zero =>
    intro p B o3 o4 hp hB
    refine ⟨B, ?_, fun q hq => hB q (by omega)⟩
    rw [n_loads_2 hM (by omega) (by rw [va_ne (by decide)]; omega), va_ne (by decide), if_pos (by omega), bX7_loads_81]
  | succ m ih =>
    intro p B o3 o4 hp hB
    obtain ⟨o3', o4', hin⟩ := m_loads_in (sc := sc) (d := d) (T := T) (z := z) (J := J) (R := R) (p := p) hM hA (by omega) hg hm0 h17 h72 ha m0 0 B o4 (Nat.zero_add m0)
    obtain ⟨B', i1, i2⟩ := ih (p + 1) (va_up B p (aLd (W 68) (W 69) (W 70) n a g p m0)) o3' o4' (by omega) (fun q hq => by
      by_cases e : q = p
      · subst e; rw [va_same]
      · rw [va_ne e]; exact hB q (by omega))
    refine ⟨B', ?_, i2⟩
    have ep : ((p : Int)).toNat = p := Int.toNat_natCast p
    rw [n_loads_2 hM (by omega) (by rw [va_ne (by decide)]; omega), va_ne (by decide), if_neg (by omega), n_loads_10 hM (by omega), ep, up2_va, va_same, va_two, ← i1]
    exact hin
end SX8e
theorem aLd_ok {O Q L F : Nat → Int} {n t f p : Nat} {g : Int} (hp : p < n) (hst : aSt O Q L p) : aLd O Q L n (aA O Q L n F f) g p (aM O Q L n F t f) = aBu O Q L n F t f g p := by
  have gen : ∀ k, aLd O Q L n (aA O Q L n F f) g p k = if aBk O Q L n (aA O Q L n F f) p k = true then (g + aC O Q L (O p).toNat (Q p).toNat (L p) n - 1) / aC O Q L (O p).toNat (Q p).toNat (L p) n else 0 := by
    intro k
    induction k with
    | zero => rfl
    | succ k ih =>
      rw [aLd, aBk]
      by_cases c : aJ O Q p (aA O Q L n F f k) (aA O Q L n F f (k + 1)) ∧ L p = aS O Q L (aA O Q L n F f k) (aA O Q L n F f (k + 1)) n
      · rw [if_pos c, decide_eq_true c, Bool.or_true, if_pos rfl, ← c.2]
        have e : aC O Q L (aA O Q L n F f k) (aA O Q L n F f (k + 1)) (L p) n = aC O Q L (O p).toNat (Q p).toNat (L p) n := by
          rcases c.1 with ⟨h1, h2⟩ | ⟨h1, h2⟩
          · rw [h1, h2, Int.toNat_natCast, Int.toNat_natCast]
          · rw [h1, h2, Int.toNat_natCast, Int.toNat_natCast]; exact aC_s n
        rw [e]
      · rw [if_neg c, decide_eq_false c, Bool.or_false, ih]
  rw [gen]
  unfold aBu
  by_cases c : aBk O Q L n (aA O Q L n F f) p (aM O Q L n F t f) = true
  · have h1 := aSh_1 hp hst c
    have e : aSh O Q L n F t f p = aC O Q L (O p).toNat (Q p).toNat (L p) n := by unfold aSh; rw [if_pos c]
    rw [if_pos c, if_neg (by omega), e]
  · have e : aSh O Q L n F t f p = 0 := by unfold aSh; rw [if_neg c]
    rw [if_neg c, e, if_pos (by decide)]
