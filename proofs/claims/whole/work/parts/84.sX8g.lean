/-! ways: pull and holds of the model, the calls -/
theorem aPl_cong {n t f : Nat} {g : Int} {st : Nat → Int} : ∀ (m : Nat) (b : Int) (S S' : Nat → Nat → Int), (∀ x, x < 71 → ¬ x = 56 → S x = S' x) → (∀ x, 73 < x → S x = S' x) → (aPl n t f g st m b S).1 = (aPl n t f g st m b S').1 ∧ (∀ x, x < 71 → ¬ x = 56 → (aPl n t f g st m b S).2 x = (aPl n t f g st m b S').2 x) ∧ (∀ x, 73 < x → (aPl n t f g st m b S).2 x = (aPl n t f g st m b S').2 x) := by
  intro m
  induction m with
  | zero => intro b S S' h1 h2; exact ⟨rfl, h1, h2⟩
  | succ m ih2 =>
    intro b S S' h1 h2
    have eb : aBr S n t f g st = aBr S' n t f g st := by unfold aBr; rw [h1 68 (by decide) (by decide), h1 69 (by decide) (by decide), h1 70 (by decide) (by decide)]
    rw [aPl, aPl, eb]
    split
    · exact ⟨rfl, h1, h2⟩
    · refine ih2 (b + 1) _ _ (fun x x1 x2 => ?_) (fun x x1 => ?_)
      · obtain ⟨p8, p9, p0, p7, po⟩ := aFr1_r (V := S) (k := (aBr S' n t f g st).toNat)
        obtain ⟨q8, q9, q0, q7, qo⟩ := aFr1_r (V := S') (k := (aBr S' n t f g st).toNat)
        show aFr1 S _ x = aFr1 S' _ x
        by_cases e8 : x = 68
        · subst e8; rw [p8, q8, h1 68 (by decide) (by decide)]
        · by_cases e9 : x = 69
          · subst e9; rw [p9, q9, h1 69 (by decide) (by decide)]
          · by_cases e0 : x = 70
            · subst e0; rw [p0, q0, h1 70 (by decide) (by decide)]
            · by_cases e7 : x = 67
              · subst e7; rw [p7, q7, h1 67 (by decide) (by decide)]
              · rw [po x e7 e8 e9 e0, qo x e7 e8 e9 e0]; exact h1 x x1 x2
      · obtain ⟨p8, p9, p0, p7, po⟩ := aFr1_r (V := S) (k := (aBr S' n t f g st).toNat)
        obtain ⟨q8, q9, q0, q7, qo⟩ := aFr1_r (V := S') (k := (aBr S' n t f g st).toNat)
        show aFr1 S _ x = aFr1 S' _ x
        rw [po x (by omega) (by omega) (by omega) (by omega), qo x (by omega) (by omega) (by omega) (by omega)]; exact h2 x x1
/-- what a pull leaves of the model -/
def aPe (V S V' : Nat → Nat → Int) (n t f : Nat) (g : Int) : Prop :=
  (∀ b, ¬ b = 56 → (b < 71 ∨ 73 < b) → ¬ b = 65 → V' b = S b) ∧ (∀ j, ¬ j = 17 → ¬ j = 28 → V' 56 j = V 56 j) ∧ V' 56 28 = 0 ∧
  ∀ p, V' 65 p = if p < n then V 65 p + aBu (S 68) (S 69) (S 70) n (aDs (S 68) (S 69) (S 70) n t) t f g p / 10 else V 65 p
section SX8g
variable {sc : xS} {d : Nat} {T : Nat → Nat × Nat} {z : Nat × Nat} {V : Nat → Nat → Int} {J : Nat → Nat → Int64} {R : Nat → Nat → Option Nat}
theorem m_pull {f t n : Nat} {g : Int} (hM : xMo T R) (hA : aMo V n) (hB : aMb V n) (hf : f < 8) (ht : t < 8) (hne : ¬ f = t) (hg : 1 ≤ g ∧ g ≤ 9999) :
    ∃ V' : Nat → Nat → Int, if aDs (V 68) (V 69) (V 70) n t f < 1000000 then
      X sc (d + 6) 127 [.ref 56, xw f, xw t, xw g] (T, z, xv V, J, R) = some (.inl (some (xw ((aPl n t f g (xSm3 V J) 40 0 V).1))), (T, z, xv (V'), J, R)) ∧ aPe V (aPl n t f g (xSm3 V J) 40 0 V).2 V' n t f g
    else X sc (d + 6) 127 [.ref 56, xw f, xw t, xw g] (T, z, xv V, J, R) = some (.inl (some (xw (0))), (T, z, xv (V'), J, R)) ∧ aFr V V' ∧ V' 56 28 = 3 := by
  have hds := aDs_ok (O := V 68) (Q := V 69) (L := V 70) (n := n) ht
  obtain ⟨V1, f1, f2⟩ := m_finds (sc := sc) (d := d + 2) (T := T) (z := z) (V := V) (J := J) (R := R) (F := aDs (V 68) (V 69) (V 70) n t) hM hA ht hf hds
  obtain ⟨g1, g2, g3, g4⟩ := f2
  by_cases c : aDs (V 68) (V 69) (V 70) n t f < 1000000
  · rw [if_pos c] at f1 g3
    have w : ∀ b, ¬ b = 56 → (b < 71 ∨ 73 < b) → xup2 V1 56 28 0 b = V b := fun b b1 b2 => by rw [xup2_o b1, g1 b (by omega) (by omega) b1]
    have w56 : ∀ j, ¬ j = 17 → ¬ j = 28 → xup2 V1 56 28 0 56 j = V 56 j := fun j j1 j2 => by rw [xup2_j j2, g2 j j1]
    have w8 := w 68 (by decide) (by decide)
    have w9 := w 69 (by decide) (by decide)
    have w0 := w 70 (by decide) (by decide)
    have hA2 : aMo (xup2 V1 56 28 0) n := aMo_e hA (w56 3 (by decide) (by decide)) w8 w9 w0
    obtain ⟨B, b1, b2⟩ := m_loads (sc := sc) (d := d) (T := T) (z := z) (V := xup2 V1 56 28 0) (J := J) (R := R) (g := g) (F := aDs (V 68) (V 69) (V 70) n t) hM hA2 ht hf (by rw [w8, w9, w0]; exact hds) (by omega) c (by rw [w8, w9, w0, xup2_j (by decide)]; exact g3) (by rw [w8, w9, w0, xup2_o (by decide)]; exact g4 c)
    rw [w8, w9, w0] at b2
    have u : ∀ b, ¬ b = 56 → (b < 71 ∨ 73 < b) → va_up (xup2 V1 56 28 0) 73 B b = V b := fun b b1 b2 => by rw [va_ne (by omega), w b b1 b2]
    have u56 : va_up (xup2 V1 56 28 0) 73 B 56 = xup2 V1 56 28 0 56 := va_ne (by decide)
    have u8 := u 68 (by decide) (by decide)
    have u9 := u 69 (by decide) (by decide)
    have u0 := u 70 (by decide) (by decide)
    have hA3 : aMo (va_up (xup2 V1 56 28 0) 73 B) n := aMo_e hA (by rw [u56]; exact w56 3 (by decide) (by decide)) u8 u9 u0
    have hB3 : aMb (va_up (xup2 V1 56 28 0) 73 B) n := by
      intro p hp
      rw [u 60 (by decide) (by decide), u 61 (by decide) (by decide), u 65 (by decide) (by decide)]
      exact hB p hp
    have hst3 : ∀ p, p < n → xSm3 (va_up (xup2 V1 56 28 0) 73 B) J p = xSm3 V J p := fun p _ => xSm3_e (u 60 (by decide) (by decide)) (u 61 (by decide) (by decide)) (u 65 (by decide) (by decide))
    have h733 : ∀ p, p < n → va_up (xup2 V1 56 28 0) 73 B 73 p = aBu (va_up (xup2 V1 56 28 0) 73 B 68) (va_up (xup2 V1 56 28 0) 73 B 69) (va_up (xup2 V1 56 28 0) 73 B 70) n (aDs (va_up (xup2 V1 56 28 0) 73 B 68) (va_up (xup2 V1 56 28 0) 73 B 69) (va_up (xup2 V1 56 28 0) 73 B 70) n t) t f g p := by
      intro p hp
      rw [va_same, u8, u9, u0]
      exact b2 p hp
    have hbr : aFst (fun p => decide (xSm3 V J p < va_up (xup2 V1 56 28 0) 73 B 73 p)) n 0 = aBr (va_up (xup2 V1 56 28 0) 73 B) n t f g (xSm3 V J) := by
      unfold aBr
      exact aFst_e n 0 (fun i _ hi => by rw [h733 i (by omega)])
    have brk := m_breaking (sc := sc) (d := d + 3) (T := T) (z := z) (V := va_up (xup2 V1 56 28 0) 73 B) (J := J) (R := R) (st := xSm3 V J) hM hA3.1 hA.2.1 hB3 hst3 (fun p hp => by rw [h733 p hp]; exact aBu_in (by omega))
    have hct : aCt (va_up (xup2 V1 56 28 0) 73 B 70) n ≤ 40 := Nat.le_trans (aCt_le n) hA.2.1
    obtain ⟨V', i1, i2⟩ := m_pull_loop (sc := sc) (d := d) (T := T) (z := z) (J := J) (R := R) (g := g) (st := xSm3 V J) (o4 := some (xw 1)) (o5 := some (xw 1)) hM ht hf hg 40 0 (va_up (xup2 V1 56 28 0) 73 B) none hA3 hB3 hst3 hct h733
    obtain ⟨c1, c2, c3⟩ := aPl_cong (n := n) (t := t) (f := f) (g := g) (st := xSm3 V J) 40 0 (va_up (xup2 V1 56 28 0) 73 B) V (fun x x1 x2 => u x x2 (by omega)) (fun x x1 => u x (by omega) (by omega))
    refine ⟨V', ?_⟩
    rw [if_pos c]
    refine ⟨?_, fun x x1 x2 x3 => ?_, fun j j1 j2 => by rw [i2.2.1 j j1, u56, w56 j j1 j2], by rw [i2.2.1 28 (by decide), u56, xup2_i], fun p => ?_⟩
    · rw [← c1]
      simp (disch := (first | omega | assumption | exact iAnd_in | exact iShr_in | exact jCmp_in | (simp (disch := omega) only [xup2_o, xup2_i, xup2_j]; omega))) only [↓if_pos, ↓if_neg, xret_v, xret_n, xup2_o, xup2_i, xup2_j, eX7_pull, bX7_pull_0, bX7_pull_4, bX7_pull_7, bX7_pull_11, bX7_pull_14, bX7_pull_18, bX7_pull_19, bX7_pull_26, bX7_pull_34, bX7_pull_37, bX7_pull_41, bX7_pull_42, bX7_pull_50, bX7_pull_54, bX7_pull_59, n_pull_63 hM, bX7_pull_69, bX7_pull_72, bX7_pull_76, n_pull_77 hM, bX7_pull_80, bX7_pull_83, n_pull_127 hM, bX7_pull_136, n_pull_143 hM, n_pull_148 hM, bX7_pull_152, bX7_pull_157, n_pull_160 hM, bX7_pull_169, n_pull_174 hM, bX7_pull_200, m_isRing, m_isIn, m_fails hM, f1]
      rw [n_pull_85 hM, b1, xret_n, n_pull_93 hM, brk, xret_v, bX7_pull_97, hbr]
      exact i1
    · rw [i2.1 x x1 x2 x3]
      rcases x2 with x2 | x2
      · exact c2 x x2 x1
      · exact c3 x x2
    · rw [i2.2.2 p, c2 68 (by decide) (by decide), c2 69 (by decide) (by decide), c2 70 (by decide) (by decide), u 65 (by decide) (by decide)]
  · rw [if_neg c] at f1
    refine ⟨xup2 V1 56 28 3, ?_⟩
    rw [if_neg c]
    refine ⟨?_, ⟨fun b b1 b2 => by rw [xup2_o b1, g1 b (by omega) (by omega) b1], fun j j1 j2 => by rw [xup2_j j2, g2 j j1]⟩, xup2_i⟩
    simp (disch := (first | omega | assumption | exact iAnd_in | exact iShr_in | exact jCmp_in | (simp (disch := omega) only [xup2_o, xup2_i, xup2_j]; omega))) only [↓if_pos, ↓if_neg, xret_v, xret_n, xup2_o, xup2_i, xup2_j, eX7_pull, bX7_pull_0, bX7_pull_4, bX7_pull_7, bX7_pull_11, bX7_pull_14, bX7_pull_18, bX7_pull_19, bX7_pull_26, bX7_pull_34, bX7_pull_37, bX7_pull_41, bX7_pull_42, bX7_pull_50, bX7_pull_54, bX7_pull_59, n_pull_63 hM, bX7_pull_69, bX7_pull_72, bX7_pull_76, n_pull_77 hM, bX7_pull_80, bX7_pull_83, n_pull_127 hM, bX7_pull_136, n_pull_143 hM, n_pull_148 hM, bX7_pull_152, bX7_pull_157, n_pull_160 hM, bX7_pull_169, n_pull_174 hM, bX7_pull_200, m_isRing, m_isIn, m_fails hM, f1]
theorem m_pull_x {f t g : Int} (hM : xMo T R) (hf : (-2147483648 ≤ f ∧ f ≤ 2147483647)) (ht : (-2147483648 ≤ t ∧ t ≤ 2147483647)) (hg : (-2147483648 ≤ g ∧ g ≤ 2147483647)) (no : ¬ (((0 ≤ f ∧ f < 8) ∧ (0 ≤ t ∧ t < 8)) ∧ ¬ f = t ∧ 1 ≤ g ∧ g ≤ 9999)) :
    X sc (d + 6) 127 [.ref 56, xw f, xw t, xw g] (T, z, xv V, J, R) = if (0 ≤ f ∧ f < 8) ∧ (0 ≤ t ∧ t < 8) then some (.inl (some (xw 0)), (T, z, xv (xup2 V 56 28 2), J, R)) else some (.inl (some (xw 0)), (T, z, xv (xup2 V 56 28 1), J, R)) := by
  by_cases c2 : 0 ≤ f ∧ f < 8
  · by_cases c3 : 0 ≤ t ∧ t < 8
    · by_cases c4 : f = t
      · simp (disch := (first | omega | assumption | exact iAnd_in | exact iShr_in | exact jCmp_in | (simp (disch := omega) only [xup2_o, xup2_i, xup2_j]; omega))) only [↓if_pos, ↓if_neg, xret_v, xret_n, xup2_o, xup2_i, xup2_j, eX7_pull, bX7_pull_0, bX7_pull_4, bX7_pull_7, bX7_pull_11, bX7_pull_14, bX7_pull_18, bX7_pull_19, bX7_pull_26, bX7_pull_34, bX7_pull_37, bX7_pull_41, bX7_pull_42, bX7_pull_50, bX7_pull_54, bX7_pull_59, n_pull_63 hM, bX7_pull_69, bX7_pull_72, bX7_pull_76, n_pull_77 hM, bX7_pull_80, bX7_pull_83, n_pull_127 hM, bX7_pull_136, n_pull_143 hM, n_pull_148 hM, bX7_pull_152, bX7_pull_157, n_pull_160 hM, bX7_pull_169, n_pull_174 hM, bX7_pull_200, m_isRing, m_isIn, m_fails hM]
      · simp (disch := (first | omega | assumption | exact iAnd_in | exact iShr_in | exact jCmp_in | (simp (disch := omega) only [xup2_o, xup2_i, xup2_j]; omega))) only [↓if_pos, ↓if_neg, xret_v, xret_n, xup2_o, xup2_i, xup2_j, eX7_pull, bX7_pull_0, bX7_pull_4, bX7_pull_7, bX7_pull_11, bX7_pull_14, bX7_pull_18, bX7_pull_19, bX7_pull_26, bX7_pull_34, bX7_pull_37, bX7_pull_41, bX7_pull_42, bX7_pull_50, bX7_pull_54, bX7_pull_59, n_pull_63 hM, bX7_pull_69, bX7_pull_72, bX7_pull_76, n_pull_77 hM, bX7_pull_80, bX7_pull_83, n_pull_127 hM, bX7_pull_136, n_pull_143 hM, n_pull_148 hM, bX7_pull_152, bX7_pull_157, n_pull_160 hM, bX7_pull_169, n_pull_174 hM, bX7_pull_200, m_isRing, m_isIn, m_fails hM]
    · by_cases c4 : f = t
      · exfalso; omega
      · by_cases c5 : 1 ≤ g ∧ g ≤ 9999 <;> simp (disch := (first | omega | assumption | exact iAnd_in | exact iShr_in | exact jCmp_in | (simp (disch := omega) only [xup2_o, xup2_i, xup2_j]; omega))) only [↓if_pos, ↓if_neg, xret_v, xret_n, xup2_o, xup2_i, xup2_j, eX7_pull, bX7_pull_0, bX7_pull_4, bX7_pull_7, bX7_pull_11, bX7_pull_14, bX7_pull_18, bX7_pull_19, bX7_pull_26, bX7_pull_34, bX7_pull_37, bX7_pull_41, bX7_pull_42, bX7_pull_50, bX7_pull_54, bX7_pull_59, n_pull_63 hM, bX7_pull_69, bX7_pull_72, bX7_pull_76, n_pull_77 hM, bX7_pull_80, bX7_pull_83, n_pull_127 hM, bX7_pull_136, n_pull_143 hM, n_pull_148 hM, bX7_pull_152, bX7_pull_157, n_pull_160 hM, bX7_pull_169, n_pull_174 hM, bX7_pull_200, m_isRing, m_isIn, m_fails hM]
  · by_cases c4 : f = t <;> by_cases c5 : 1 ≤ g ∧ g ≤ 9999 <;> simp (disch := (first | omega | assumption | exact iAnd_in | exact iShr_in | exact jCmp_in | (simp (disch := omega) only [xup2_o, xup2_i, xup2_j]; omega))) only [↓if_pos, ↓if_neg, xret_v, xret_n, xup2_o, xup2_i, xup2_j, eX7_pull, bX7_pull_0, bX7_pull_4, bX7_pull_7, bX7_pull_11, bX7_pull_14, bX7_pull_18, bX7_pull_19, bX7_pull_26, bX7_pull_34, bX7_pull_37, bX7_pull_41, bX7_pull_42, bX7_pull_50, bX7_pull_54, bX7_pull_59, n_pull_63 hM, bX7_pull_69, bX7_pull_72, bX7_pull_76, n_pull_77 hM, bX7_pull_80, bX7_pull_83, n_pull_127 hM, bX7_pull_136, n_pull_143 hM, n_pull_148 hM, bX7_pull_152, bX7_pull_157, n_pull_160 hM, bX7_pull_169, n_pull_174 hM, bX7_pull_200, m_isRing, m_isIn, m_fails hM]
/-- the least of b and of w over the parts with P: r -/
def aMin (P : Nat → Prop) (w : Nat → Int) (b : Int) (n : Nat) (r : Int) : Prop := (r ≤ b ∧ ∀ p, p < n → P p → r ≤ w p) ∧ (r = b ∨ ∃ p, p < n ∧ P p ∧ r = w p)
theorem aMin_one {P : Nat → Prop} {w : Nat → Int} {b r r' : Int} {n : Nat} (h : aMin P w b n r) (h' : aMin P w b n r') : r = r' := by
  obtain ⟨⟨a1, a2⟩, a3⟩ := h
  obtain ⟨⟨b1, b2⟩, b3⟩ := h'
  have le1 : r ≤ r' := by
    rcases b3 with e | ⟨p, p1, p2, p3⟩
    · omega
    · have := a2 p p1 p2; omega
  have le2 : r' ≤ r := by
    rcases a3 with e | ⟨p, p1, p2, p3⟩
    · omega
    · have := b2 p p1 p2; omega
  omega
theorem m_holds_in {k n : Nat} {x y : Nat} {st w : Nat → Int} {P : Nat → Prop} {o1 o2 o3 : Option Value} (hM : xMo T R) (hA : aMo V n) (hB : aMb V n) (hst : ∀ p, p < n → xSm3 V J p = st p) (hk : k + 1 < 8) (hx : V 72 k = (x : Int)) (hy : V 72 (k + 1) = (y : Int)) (hx8 : x < 8) (hy8 : y < 8) (hP : ∀ p, P p → w p ≤ 9999 → True)
    (hw : ∀ p, p < n → (aJ (V 68) (V 69) p x y ∧ V 70 p = aS (V 68) (V 69) (V 70) x y n) → w p = aC (V 68) (V 69) (V 70) x y (aS (V 68) (V 69) (V 70) x y n) n * st p) :
    ∀ (m p : Nat) (b : Int) (o8 : Option Value), p + m = n → 0 ≤ b ∧ b ≤ 9999 → aMin (fun q => P q ∨ (q < p ∧ aJ (V 68) (V 69) q x y ∧ V 70 q = aS (V 68) (V 69) (V 70) x y n)) w 9999 n b →
    ∃ (b' : Int) (o7' o8' : Option Value), 0 ≤ b' ∧ b' ≤ 9999 ∧ aMin (fun q => P q ∨ (aJ (V 68) (V 69) q x y ∧ V 70 q = aS (V 68) (V 69) (V 70) x y n)) w 9999 n b' ∧
      XR sc (d + 4) 128 88 [some (.ref 56), o1, o2, o3, some (xw b), some (xw k), some (xw (aC (V 68) (V 69) (V 70) x y (aS (V 68) (V 69) (V 70) x y n) n)), some (xw p), o8] [] (T, z, xv V, J, R) = XR sc (d + 4) 128 66 [some (.ref 56), o1, o2, o3, some (xw b'), some (xw (k + 1 : Nat)), some (xw (aC (V 68) (V 69) (V 70) x y (aS (V 68) (V 69) (V 70) x y n) n)), o7', o8'] [] (T, z, xv V, J, R) := by
  have h3 := hA.1
  have hn := hA.2.1
  have hc := aC_in (O := V 68) (Q := V 69) (L := V 70) (x := x) (y := y) (l := aS (V 68) (V 69) (V 70) x y n) n
  intro m
  induction m with
  | zero =>
    intro p b o8 hp hb hm
    obtain rfl : p = n := by omega
    refine ⟨b, some (xw p), o8, hb.1, hb.2, ?_, ?_⟩
    · obtain ⟨⟨a1, a2⟩, a3⟩ := hm
      refine ⟨⟨a1, fun q q1 q2 => a2 q q1 (q2.imp id (fun z => ⟨q1, z⟩))⟩, a3.imp id (fun ⟨q, q1, q2, q3⟩ => ⟨q, q1, q2.imp id (fun z => z.2), q3⟩)⟩
    · rw [n_holds_88 hM (by omega) (by omega), if_pos (by omega), bX7_holds_156, show (k : Int) + 1 = ((k + 1 : Nat) : Int) by omega]
  | succ m ih =>
    intro p b o8 hp hb hm
    have ep : ((p : Int)).toNat = p := Int.toNat_natCast p
    have hs := xSm3_in (J := J) hB (show p < n by omega)
    have hBp := hB p (by omega)
    have hm' := mul_bd (a := aC (V 68) (V 69) (V 70) x y (aS (V 68) (V 69) (V 70) x y n) n) (A := 40) (b := xSm3 V J p) (B := 1000) (by omega) hs
    have str := m_strength (sc := sc) (d := d + 3) (T := T) (z := z) (V := V) (J := J) (R := R) (p := (p : Int)) hM (by omega) (by rw [ep]; exact hBp.1) (by rw [ep]; exact hBp.2)
    rw [ep] at str
    rw [n_holds_88 hM (by omega) (by omega), if_neg (by omega), n_holds_97 hM, m_isSharer hM hA (by omega) hk hx hy hx8 hy8, xret_v, bX7_holds_105 (by split <;> omega)]
    have go : ∀ (b1 : Int) (o8 : Option Value), 0 ≤ b1 ∧ b1 ≤ 9999 → aMin (fun q => P q ∨ (q < p + 1 ∧ aJ (V 68) (V 69) q x y ∧ V 70 q = aS (V 68) (V 69) (V 70) x y n)) w 9999 n b1 →
        ∃ (b' : Int) (o7' o8' : Option Value), 0 ≤ b' ∧ b' ≤ 9999 ∧ aMin (fun q => P q ∨ (aJ (V 68) (V 69) q x y ∧ V 70 q = aS (V 68) (V 69) (V 70) x y n)) w 9999 n b' ∧
          XR sc (d + 4) 128 148 [some (.ref 56), o1, o2, o3, some (xw b), some (xw k), some (xw (aC (V 68) (V 69) (V 70) x y (aS (V 68) (V 69) (V 70) x y n) n)), some (xw p), o8] [xw b1] (T, z, xv V, J, R) = XR sc (d + 4) 128 66 [some (.ref 56), o1, o2, o3, some (xw b'), some (xw (k + 1 : Nat)), some (xw (aC (V 68) (V 69) (V 70) x y (aS (V 68) (V 69) (V 70) x y n) n)), o7', o8'] [] (T, z, xv V, J, R) := by
      intro b1 o8 h1 h2
      obtain ⟨b', o7', o8', i1, i2, i3, i4⟩ := ih (p + 1) b1 o8 (by omega) h1 h2
      exact ⟨b', o7', o8', i1, i2, i3, by rw [bX7_holds_148, show (p : Int) + 1 = ((p + 1 : Nat) : Int) by omega, i4]⟩
    obtain ⟨⟨a1, a2⟩, a3⟩ := hm
    by_cases c : aJ (V 68) (V 69) p x y ∧ V 70 p = aS (V 68) (V 69) (V 70) x y n
    · have hwp := hw p (by omega) c
      rw [← hst p (by omega)] at hwp
      rw [if_neg (by rw [if_pos c]; decide), n_holds_108 hM, str, xret_v, bX7_holds_116 (by omega) (by omega)]
      by_cases c2 : b ≤ aC (V 68) (V 69) (V 70) x y (aS (V 68) (V 69) (V 70) x y n) n * xSm3 V J p
      · obtain ⟨b', o7', o8', i1, i2, i3, i4⟩ := go b (some (xw 0)) hb ⟨⟨a1, fun q q1 q2 => by
          rcases q2 with q2 | ⟨q2, q3⟩
          · exact a2 q q1 (Or.inl q2)
          · by_cases e : q = p
            · subst e; omega
            · exact a2 q q1 (Or.inr ⟨by omega, q3⟩)⟩, a3.imp id (fun ⟨q, q1, q2, q3⟩ => ⟨q, q1, q2.imp id (fun z => ⟨by omega, z.2⟩), q3⟩)⟩
        refine ⟨b', o7', o8', i1, i2, i3, ?_⟩
        rw [if_pos c2, bX7_holds_126, bX7_holds_127 (by decide), if_pos rfl, bX7_holds_146, i4]
      · obtain ⟨b', o7', o8', i1, i2, i3, i4⟩ := go (aC (V 68) (V 69) (V 70) x y (aS (V 68) (V 69) (V 70) x y n) n * xSm3 V J p) (some (xw 1)) (by omega) ⟨⟨by omega, fun q q1 q2 => by
          rcases q2 with q2 | ⟨q2, q3⟩
          · have := a2 q q1 (Or.inl q2); omega
          · by_cases e : q = p
            · subst e; omega
            · have := a2 q q1 (Or.inr ⟨by omega, q3⟩); omega⟩, Or.inr ⟨p, by omega, Or.inr ⟨by omega, c⟩, hwp.symm⟩⟩
        refine ⟨b', o7', o8', i1, i2, i3, ?_⟩
        rw [if_neg c2, bX7_holds_122, bX7_holds_127 (by decide), if_neg (by decide), n_holds_134 hM, str, xret_v, bX7_holds_142, i4]
    · obtain ⟨b', o7', o8', i1, i2, i3, i4⟩ := go b (some (xw 0)) hb ⟨⟨a1, fun q q1 q2 => by
          rcases q2 with q2 | ⟨q2, q3⟩
          · exact a2 q q1 (Or.inl q2)
          · by_cases e : q = p
            · subst e; exact absurd q3 c
            · exact a2 q q1 (Or.inr ⟨by omega, q3⟩)⟩, a3.imp id (fun ⟨q, q1, q2, q3⟩ => ⟨q, q1, q2.imp id (fun z => ⟨by omega, z.2⟩), q3⟩)⟩
      refine ⟨b', o7', o8', i1, i2, i3, ?_⟩
      rw [if_pos (by rw [if_neg c]), bX7_holds_126, bX7_holds_127 (by decide), if_pos rfl, bX7_holds_146, i4]
theorem m_holds_loop {t f n : Nat} {F : Nat → Int} {o1 o2 o3 : Option Value} (hM : xMo T R) (hA : aMo V n) (hB : aMb V n) (ht : t < 8) (hf : f < 8) (h : aB 1000000 (aCo (V 68) (V 69) (V 70) n) t F) (hN : F f < 1000000) (h17 : V 56 17 = (aM (V 68) (V 69) (V 70) n F t f : Int) + 1) (h72 : ∀ k, k ≤ aM (V 68) (V 69) (V 70) n F t f → V 72 k = (aA (V 68) (V 69) (V 70) n F f k : Int)) :
    ∀ (m k : Nat) (b : Int) (o6 o7 o8 : Option Value), k + m = aM (V 68) (V 69) (V 70) n F t f → 0 ≤ b ∧ b ≤ 9999 → aMin (fun q => aBk (V 68) (V 69) (V 70) n (aA (V 68) (V 69) (V 70) n F f) q k = true) (fun q => aC (V 68) (V 69) (V 70) (V 68 q).toNat (V 69 q).toNat (V 70 q) n * xSm3 V J q) 9999 n b →
    ∃ b' : Int, aMin (fun q => aBk (V 68) (V 69) (V 70) n (aA (V 68) (V 69) (V 70) n F f) q (aM (V 68) (V 69) (V 70) n F t f) = true) (fun q => aC (V 68) (V 69) (V 70) (V 68 q).toNat (V 69 q).toNat (V 70 q) n * xSm3 V J q) 9999 n b' ∧
      XR sc (d + 4) 128 66 [some (.ref 56), o1, o2, o3, some (xw b), some (xw k), o6, o7, o8] [] (T, z, xv V, J, R) = some (.inl (some (xw (b'))), (T, z, xv (V), J, R)) := by
  obtain ⟨l1, l2, l3, l4⟩ := aLen_ok (by decide) ht h 7 f hf hN (aK_7 hf)
  have em : aM (V 68) (V 69) (V 70) n F t f = aLen (aCo (V 68) (V 69) (V 70) n) F t 7 f := by unfold aM; rw [if_pos hN]
  intro m
  induction m with
  | zero =>
    intro k b o6 o7 o8 hk hb hm
    obtain rfl : k = aM (V 68) (V 69) (V 70) n F t f := by omega
    refine ⟨b, hm, ?_⟩
    rw [n_holds_66 hM (by omega) (by omega), if_pos (by omega), bX7_holds_162]
  | succ m ih =>
    intro k b o6 o7 o8 hk hb hm
    have e1 := h72 k (by omega)
    have e2 := h72 (k + 1) (by omega)
    have x1 := (l4 k (by omega)).1
    have x2 := (l4 (k + 1) (by omega)).1
    have mono : ∀ r, aMin (fun q => aBk (V 68) (V 69) (V 70) n (aA (V 68) (V 69) (V 70) n F f) q k = true ∨ (aJ (V 68) (V 69) q (aA (V 68) (V 69) (V 70) n F f k) (aA (V 68) (V 69) (V 70) n F f (k + 1)) ∧ V 70 q = aS (V 68) (V 69) (V 70) (aA (V 68) (V 69) (V 70) n F f k) (aA (V 68) (V 69) (V 70) n F f (k + 1)) n)) (fun q => aC (V 68) (V 69) (V 70) (V 68 q).toNat (V 69 q).toNat (V 70 q) n * xSm3 V J q) 9999 n r → aMin (fun q => aBk (V 68) (V 69) (V 70) n (aA (V 68) (V 69) (V 70) n F f) q (k + 1) = true) (fun q => aC (V 68) (V 69) (V 70) (V 68 q).toNat (V 69 q).toNat (V 70 q) n * xSm3 V J q) 9999 n r := by
      rintro r ⟨⟨a1, a2⟩, a3⟩
      refine ⟨⟨a1, fun q q1 q2 => a2 q q1 ?_⟩, a3.imp id (fun ⟨q, q1, q2, q3⟩ => ⟨q, q1, ?_, q3⟩)⟩
      · simp only [aBk, Bool.or_eq_true, decide_eq_true_eq] at q2; exact q2
      · simp only [aBk, Bool.or_eq_true, decide_eq_true_eq]; exact q2
    obtain ⟨b1, o7', o8', i1, i2, i3, i4⟩ := m_holds_in (sc := sc) (d := d) (T := T) (z := z) (V := V) (J := J) (R := R) (k := k) (st := xSm3 V J) (w := fun q => aC (V 68) (V 69) (V 70) (V 68 q).toNat (V 69 q).toNat (V 70 q) n * xSm3 V J q) (P := fun q => aBk (V 68) (V 69) (V 70) n (aA (V 68) (V 69) (V 70) n F f) q k = true) (o1 := o1) (o2 := o2) (o3 := o3) hM hA hB (fun p _ => rfl) (by omega) e1 e2 x1 x2 (fun _ _ _ => trivial) (fun p hp hj => by
      show aC (V 68) (V 69) (V 70) (V 68 p).toNat (V 69 p).toNat (V 70 p) n * xSm3 V J p = _
      rw [← hj.2]
      rcases hj.1 with ⟨h1, h2⟩ | ⟨h1, h2⟩
      · rw [h1, h2, Int.toNat_natCast, Int.toNat_natCast]
      · rw [h1, h2, Int.toNat_natCast, Int.toNat_natCast, aC_s n]) n 0 b o8 (Nat.zero_add n) hb (by
        obtain ⟨⟨a1, a2⟩, a3⟩ := hm
        exact ⟨⟨a1, fun q q1 q2 => a2 q q1 (q2.resolve_right (fun z => absurd z.1 (Nat.not_lt_zero q)))⟩, a3.imp id (fun ⟨q, q1, q2, q3⟩ => ⟨q, q1, Or.inl q2, q3⟩)⟩)
    obtain ⟨b', j1, j2⟩ := ih (k + 1) b1 (some (xw (aC (V 68) (V 69) (V 70) (aA (V 68) (V 69) (V 70) n F f k) (aA (V 68) (V 69) (V 70) n F f (k + 1)) (aS (V 68) (V 69) (V 70) (aA (V 68) (V 69) (V 70) n F f k) (aA (V 68) (V 69) (V 70) n F f (k + 1)) n) n))) o7' o8' (by omega) ⟨i1, i2⟩ (mono b1 i3)
    refine ⟨b', j1, ?_⟩
    rw [n_holds_66 hM (by omega) (by omega), if_neg (by omega), n_holds_77 hM, m_sharers hM hA (by omega) e1 e2 x1 x2, xret_v, bX7_holds_83]
    exact i4.trans j2
theorem m_holds {f t n : Nat} {F : Nat → Int} (hM : xMo T R) (hA : aMo V n) (hB : aMb V n) (hf : f < 8) (ht : t < 8) (hne : ¬ f = t) (h : aB 1000000 (aCo (V 68) (V 69) (V 70) n) t F) :
    ∃ (V' : Nat → Nat → Int) (r : Int), X sc (d + 6) 128 [.ref 56, xw f, xw t] (T, z, xv V, J, R) = some (.inl (some (xw (r))), (T, z, xv (V'), J, R)) ∧ aFr V V' ∧ V' 56 28 = 0 ∧ (if F f < 1000000 then aMin (fun q => aBk (V 68) (V 69) (V 70) n (aA (V 68) (V 69) (V 70) n F f) q (aM (V 68) (V 69) (V 70) n F t f) = true) (fun q => aC (V 68) (V 69) (V 70) (V 68 q).toNat (V 69 q).toNat (V 70 q) n * xSm3 V J q) 9999 n r else r = -1) := by
  have hA1 := aMo_f (k := 0) hA
  have w8 : xup2 V 56 28 0 68 = V 68 := xup2_o (by decide)
  have w9 : xup2 V 56 28 0 69 = V 69 := xup2_o (by decide)
  have w0 : xup2 V 56 28 0 70 = V 70 := xup2_o (by decide)
  obtain ⟨V1, f1, f2⟩ := m_finds (sc := sc) (d := d + 2) (T := T) (z := z) (V := xup2 V 56 28 0) (J := J) (R := R) (F := F) hM hA1 ht hf (by rw [w8, w9, w0]; exact h)
  obtain ⟨g1, g2, g3, g4⟩ := f2
  rw [w8, w9, w0] at g3 g4
  have w : ∀ b, ¬ b = 56 → (b < 71 ∨ 73 < b) → V1 b = V b := fun b b1 b2 => by rw [g1 b (by omega) (by omega) b1, xup2_o b1]
  have fr : aFr V V1 := ⟨w, fun j j1 j2 => by rw [g2 j j1, xup2_j j2]⟩
  have th : V1 56 28 = 0 := by rw [g2 28 (by decide), xup2_i]
  have v8 := w 68 (by decide) (by decide)
  have v9 := w 69 (by decide) (by decide)
  have v0 := w 70 (by decide) (by decide)
  have hA2 : aMo V1 n := aMo_e hA (by rw [g2 3 (by decide), xup2_j (by decide)]) v8 v9 v0
  by_cases c : F f < 1000000
  · rw [if_pos c] at f1 g3
    have hB2 : aMb V1 n := by
      intro p hp
      rw [w 60 (by decide) (by decide), w 61 (by decide) (by decide), w 65 (by decide) (by decide)]
      exact hB p hp
    have es : xSm3 V1 J = xSm3 V J := by funext p; exact xSm3_e (w 60 (by decide) (by decide)) (w 61 (by decide) (by decide)) (w 65 (by decide) (by decide))
    obtain ⟨r, r1, r2⟩ := m_holds_loop (sc := sc) (d := d + 1) (T := T) (z := z) (V := V1) (J := J) (R := R) (o1 := some (xw f)) (o2 := some (xw t)) (o3 := some (xw 1)) hM hA2 hB2 ht hf (by rw [v8, v9, v0]; exact h) c (by rw [v8, v9, v0]; exact g3) (by rw [v8, v9, v0]; exact g4 c) (aM (V1 68) (V1 69) (V1 70) n F t f) 0 9999 none none none (Nat.zero_add _) (by decide) ⟨⟨Int.le_refl _, fun q _ q2 => by cases q2⟩, Or.inl rfl⟩
    rw [v8, v9, v0, es] at r1
    refine ⟨V1, r, ?_, fr, th, by rw [if_pos c]; exact r1⟩
    simp (disch := (first | omega | assumption | exact iAnd_in | exact iShr_in | exact jCmp_in | (simp (disch := omega) only [xup2_o, xup2_i, xup2_j]; omega))) only [↓if_pos, ↓if_neg, xret_v, xret_n, xup2_o, xup2_i, xup2_j, eX7_holds, bX7_holds_0, bX7_holds_4, bX7_holds_7, bX7_holds_11, bX7_holds_14, bX7_holds_18, bX7_holds_19, bX7_holds_25, bX7_holds_29, bX7_holds_34, bX7_holds_38, n_holds_39 hM, bX7_holds_42, bX7_holds_45, n_holds_77 hM, bX7_holds_83, n_holds_97 hM, bX7_holds_105, n_holds_108 hM, bX7_holds_116, bX7_holds_122, bX7_holds_126, bX7_holds_127, n_holds_134 hM, bX7_holds_142, bX7_holds_146, bX7_holds_148, bX7_holds_156, bX7_holds_162, m_isRing, m_fails hM]
    rw [n_holds_47 hM, f1, xret_v, bX7_holds_53 (by decide), if_neg (by decide), bX7_holds_58]
    exact r2
  · rw [if_neg c] at f1
    refine ⟨V1, -1, ?_, fr, th, by rw [if_neg c]⟩
    simp (disch := (first | omega | assumption | exact iAnd_in | exact iShr_in | exact jCmp_in | (simp (disch := omega) only [xup2_o, xup2_i, xup2_j]; omega))) only [↓if_pos, ↓if_neg, xret_v, xret_n, xup2_o, xup2_i, xup2_j, eX7_holds, bX7_holds_0, bX7_holds_4, bX7_holds_7, bX7_holds_11, bX7_holds_14, bX7_holds_18, bX7_holds_19, bX7_holds_25, bX7_holds_29, bX7_holds_34, bX7_holds_38, n_holds_39 hM, bX7_holds_42, bX7_holds_45, n_holds_77 hM, bX7_holds_83, n_holds_97 hM, bX7_holds_105, n_holds_108 hM, bX7_holds_116, bX7_holds_122, bX7_holds_126, bX7_holds_127, n_holds_134 hM, bX7_holds_142, bX7_holds_146, bX7_holds_148, bX7_holds_156, bX7_holds_162, m_isRing, m_fails hM]
    rw [n_holds_47 hM, f1, xret_v, bX7_holds_53 (by decide), if_pos rfl, bX7_holds_56]
theorem m_holds_x {f t : Int} (hM : xMo T R) (hf : (-2147483648 ≤ f ∧ f ≤ 2147483647)) (ht : (-2147483648 ≤ t ∧ t ≤ 2147483647)) (no : ¬ (((0 ≤ f ∧ f < 8) ∧ (0 ≤ t ∧ t < 8)) ∧ ¬ f = t)) :
    X sc (d + 6) 128 [.ref 56, xw f, xw t] (T, z, xv V, J, R) = if (0 ≤ f ∧ f < 8) ∧ (0 ≤ t ∧ t < 8) then some (.inl (some (xw 0)), (T, z, xv (xup2 V 56 28 2), J, R)) else some (.inl (some (xw 0)), (T, z, xv (xup2 V 56 28 1), J, R)) := by
  by_cases c2 : 0 ≤ f ∧ f < 8
  · by_cases c3 : 0 ≤ t ∧ t < 8
    · simp (disch := (first | omega | assumption | exact iAnd_in | exact iShr_in | exact jCmp_in | (simp (disch := omega) only [xup2_o, xup2_i, xup2_j]; omega))) only [↓if_pos, ↓if_neg, xret_v, xret_n, xup2_o, xup2_i, xup2_j, eX7_holds, bX7_holds_0, bX7_holds_4, bX7_holds_7, bX7_holds_11, bX7_holds_14, bX7_holds_18, bX7_holds_19, bX7_holds_25, bX7_holds_29, bX7_holds_34, bX7_holds_38, n_holds_39 hM, bX7_holds_42, bX7_holds_45, n_holds_77 hM, bX7_holds_83, n_holds_97 hM, bX7_holds_105, n_holds_108 hM, bX7_holds_116, bX7_holds_122, bX7_holds_126, bX7_holds_127, n_holds_134 hM, bX7_holds_142, bX7_holds_146, bX7_holds_148, bX7_holds_156, bX7_holds_162, m_isRing, m_fails hM]
    · simp (disch := (first | omega | assumption | exact iAnd_in | exact iShr_in | exact jCmp_in | (simp (disch := omega) only [xup2_o, xup2_i, xup2_j]; omega))) only [↓if_pos, ↓if_neg, xret_v, xret_n, xup2_o, xup2_i, xup2_j, eX7_holds, bX7_holds_0, bX7_holds_4, bX7_holds_7, bX7_holds_11, bX7_holds_14, bX7_holds_18, bX7_holds_19, bX7_holds_25, bX7_holds_29, bX7_holds_34, bX7_holds_38, n_holds_39 hM, bX7_holds_42, bX7_holds_45, n_holds_77 hM, bX7_holds_83, n_holds_97 hM, bX7_holds_105, n_holds_108 hM, bX7_holds_116, bX7_holds_122, bX7_holds_126, bX7_holds_127, n_holds_134 hM, bX7_holds_142, bX7_holds_146, bX7_holds_148, bX7_holds_156, bX7_holds_162, m_isRing, m_fails hM]
  · simp (disch := (first | omega | assumption | exact iAnd_in | exact iShr_in | exact jCmp_in | (simp (disch := omega) only [xup2_o, xup2_i, xup2_j]; omega))) only [↓if_pos, ↓if_neg, xret_v, xret_n, xup2_o, xup2_i, xup2_j, eX7_holds, bX7_holds_0, bX7_holds_4, bX7_holds_7, bX7_holds_11, bX7_holds_14, bX7_holds_18, bX7_holds_19, bX7_holds_25, bX7_holds_29, bX7_holds_34, bX7_holds_38, n_holds_39 hM, bX7_holds_42, bX7_holds_45, n_holds_77 hM, bX7_holds_83, n_holds_97 hM, bX7_holds_105, n_holds_108 hM, bX7_holds_116, bX7_holds_122, bX7_holds_126, bX7_holds_127, n_holds_134 hM, bX7_holds_142, bX7_holds_146, bX7_holds_148, bX7_holds_156, bX7_holds_162, m_isRing, m_fails hM]
end SX8g
