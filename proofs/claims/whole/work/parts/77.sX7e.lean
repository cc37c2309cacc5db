/-! what the model does with rides -/
def xMl (B : Nat → Int) (h : Int) : Nat → Nat → Int → Int
  | 0, _, b => b
  | m + 1, k, b => xMl B h m (k + 1) (if b = 0 then (if B (7 * h + k).toNat < 100 then 0 else 1) else 1)
theorem xMl_01 {B : Nat → Int} {h : Int} : ∀ (m k : Nat) (b : Int), b = 0 ∨ b = 1 → xMl B h m k b = 0 ∨ xMl B h m k b = 1 := by
  intro m
  induction m with
  | zero => intro k b hb; exact hb
  | succ m ih =>
    intro k b hb
    rw [xMl]
    refine ih (k + 1) _ ?_
    repeat' split
    all_goals omega
/-- sores and shares of the model within their bounds -/
def xMs2 (V : Nat → Nat → Int) : Prop := (∀ k, k < 42 → 0 ≤ V 77 k ∧ V 77 k ≤ 1000000000) ∧ (∀ k, k < 252 → 0 ≤ V 78 k ∧ V 78 k ≤ 1000000000) ∧ (∀ k, k < 168 → 0 ≤ V 79 k ∧ V 79 k ≤ 1000000000) ∧ (∀ k, k < 168 → 0 ≤ V 80 k ∧ V 80 k ≤ 1000000000)
theorem xMs2_f {V : Nat → Nat → Int} {k : Int} (h : xMs2 V) : xMs2 (xup2 V 56 28 k) := by
  unfold xMs2
  rw [xup2_o (by decide), xup2_o (by decide), xup2_o (by decide), xup2_o (by decide)]
  exact h
/-- what one section of a ride does -/
def xIts (V : Nat → Nat → Int) (h s dp k : Int) : Int := 4 * max 0 (dp - xGp V h s k)
def xMR1 (V : Nat → Nat → Int) (h s r g hr dp k : Int) : Nat → Nat → Int :=
  xup2 (xup2 (xup2 (xup2 (xup2 V 77 (7 * h + k).toNat (V 77 (7 * h + k).toNat + (if xIts V h s dp k ≤ 40 then 0 else (xIts V h s dp k - 40) * hr))) 78 (6 * (7 * h + k) + s).toNat (V 78 (6 * (7 * h + k) + s).toNat + (if xIts V h s dp k ≤ 40 then 0 else (xIts V h s dp k - 40) * hr))) 79 (4 * (7 * h + k) + r).toNat (V 79 (4 * (7 * h + k) + r).toNat + (if xIts V h s dp k ≤ 40 then 0 else (xIts V h s dp k - 40) * hr))) 80 (4 * (7 * h + k) + g).toNat (V 80 (4 * (7 * h + k) + g).toNat + (if xIts V h s dp k ≤ 40 then 0 else (xIts V h s dp k - 40) * hr))) 76 (7 * s + k).toNat (V 76 (7 * s + k).toNat - (if xIts V h s dp k ≤ 20 then 0 else if V 76 (7 * s + k).toNat ≤ 0 then 0 else 1))
def xMRl (h s r g hr dp : Int) : Nat → Nat → (Nat → Nat → Int) → (Nat → Nat → Int)
  | 0, _, V => V
  | m + 1, k, V => xMRl h s r g hr dp m (k + 1) (xMR1 V h s r g hr dp k)
def xMRn (h s r g hr dp : Int) : Nat → Nat → (Nat → Nat → Int) → Int → Int
  | 0, _, _, n => n
  | m + 1, k, V, n => xMRn h s r g hr dp m (k + 1) (xMR1 V h s r g hr dp k) (n + (if xIts V h s dp k ≤ 40 then 0 else 1))
theorem xMR1_o {V : Nat → Nat → Int} {h s r g hr dp k : Int} {b : Nat} (hb : b < 76 ∨ 80 < b) : xMR1 V h s r g hr dp k b = V b := by
  unfold xMR1
  rw [xup2_o (by omega), xup2_o (by omega), xup2_o (by omega), xup2_o (by omega), xup2_o (by omega)]
theorem xMRl_o {h s r g hr dp : Int} {b : Nat} (hb : b < 76 ∨ 80 < b) : ∀ (m k : Nat) (V : Nat → Nat → Int), xMRl h s r g hr dp m k V b = V b := by
  intro m
  induction m with
  | zero => intro k V; rfl
  | succ m ih => intro k V; rw [xMRl, ih, xMR1_o hb]
theorem xMR1_h {V : Nat → Nat → Int} {h s r g hr dp k : Int} (hB : xMh V) : xMh (xMR1 V h s r g hr dp k) := by
  intro j hj
  have := hB j hj
  rw [xMR1_o (by omega), xMR1_o (by omega)]
  refine ⟨this.1, this.2.1, ?_⟩
  unfold xMR1
  by_cases e : j = (7 * s + k).toNat
  · subst e
    rw [xup2_i]
    split
    · omega
    · split <;> omega
  · rw [xup2_j e, xup2_o (by decide), xup2_o (by decide), xup2_o (by decide), xup2_o (by decide)]
    exact this.2.2
section SX7e
variable {sc : xS} {d : Nat} {T : Nat → Nat × Nat} {z : Nat × Nat} {V : Nat → Nat → Int} {J : Nat → Nat → Int64} {R : Nat → Nat → Option Nat}
theorem m_lame_loop {h : Int} (hM : xMo T R) (hh : 0 ≤ h ∧ h < 6) (hV : ∀ k, k < 42 → 0 ≤ V 77 k ∧ V 77 k ≤ 1000000000) :
    ∀ (m k : Nat) (b : Int), k + m = 7 → b = 0 ∨ b = 1 →
    XR sc d 148 4 [some (.ref 56), some (xw h), some (xw b), some (xw k)] [] (T, z, xv V, J, R) = some (.inl (some (xw (xMl (V 77) h m k b))), (T, z, xv (V), J, R)) := by
  intro m
  induction m with
  | zero =>
    intro k b hk hb
    rw [bX7_isLame_4 (by omega), if_pos (by omega), bX7_isLame_42 hb, xMl]
  | succ m ih =>
    intro k b hk hb
    have hv := hV (7 * h + k).toNat (by omega)
    rw [bX7_isLame_4 (by omega), if_neg (by omega), bX7_isLame_10 (by omega), xMl]
    by_cases c : b = 0
    · rw [if_pos c, if_pos c, n_isLame_14 hM (by omega) (by omega)]
      by_cases c2 : V 77 (7 * h + k).toNat < 100
      · rw [if_pos c2, if_pos c2, bX7_isLame_34, bX7_isLame_35, show (k : Int) + 1 = ((k + 1 : Nat) : Int) by omega, ih (k + 1) _ (by omega) (by omega)]
      · rw [if_neg c2, if_neg c2, bX7_isLame_30, bX7_isLame_35, show (k : Int) + 1 = ((k + 1 : Nat) : Int) by omega, ih (k + 1) _ (by omega) (by omega)]
    · rw [if_neg c, if_neg c, bX7_isLame_30, bX7_isLame_35, show (k : Int) + 1 = ((k + 1 : Nat) : Int) by omega, ih (k + 1) _ (by omega) (by omega)]
theorem m_isLame {h : Int} (hM : xMo T R) (hh : 0 ≤ h ∧ h < 6) (hV : ∀ k, k < 42 → 0 ≤ V 77 k ∧ V 77 k ≤ 1000000000) :
    X sc (d + 1) 148 [.ref 56, xw h] (T, z, xv V, J, R) = some (.inl (some (xw (xMl (V 77) h 7 0 0))), (T, z, xv (V), J, R)) := by
  rw [eX7_isLame, bX7_isLame_0]
  exact m_lame_loop hM hh hV 7 0 0 rfl (Or.inl rfl)
theorem m_ride_loop {h s r w g hr dp : Int} {o7 o8 : Option Value} (hM : xMo T R) (hh : 0 ≤ h ∧ h < 6) (hs : 0 ≤ s ∧ s < 6) (hr2 : 0 ≤ r ∧ r ≤ 3) (hg : 1 ≤ g ∧ g ≤ 3) (hhr : 1 ≤ hr ∧ hr ≤ 10) (hd : -5000 ≤ dp ∧ dp ≤ 5000) :
    ∀ (m k : Nat) (n : Int) (V : Nat → Nat → Int) (o12 o13 o14 : Option Value), k + m = 7 → xMh V →
    XR sc (d + 2) 149 138 [some (.ref 56), some (xw h), some (xw s), some (xw r), some (xw w), some (xw g), some (xw hr), o7, o8, some (xw dp), some (xw n), some (xw k), o12, o13, o14] [] (T, z, xv V, J, R) = some (.inl (some (xw (xMRn h s r g hr dp m k V n))), (T, z, xv (xup2 (xMRl h s r g hr dp m k V) 56 24 (xMRl h s r g hr dp m k V 56 24 + 1)), J, R)) := by
  intro m
  induction m with
  | zero =>
    intro k n V o12 o13 o14 hk hB
    rw [bX7_ride_138 (by omega), if_pos (by omega), n_ride_314 hM]; rfl
  | succ m ih =>
    intro k n V o12 o13 o14 hk hB
    have hgp := xGp_in (k := (k : Int)) hB hh hs (by omega)
    have hfl := hB (7 * s + k).toNat (by omega)
    have hit : 0 ≤ xIts V h s dp k ∧ xIts V h s dp k ≤ 25000 := by unfold xIts; omega
    -- from 176 on
    have tail : ∀ (more n1 : Int) (o13 o14 : Option Value), (if xIts V h s dp k ≤ 40 then 0 else (xIts V h s dp k - 40) * hr) = more → n + (if xIts V h s dp k ≤ 40 then 0 else 1) = n1 →
        XR sc (d + 2) 149 176 [some (.ref 56), some (xw h), some (xw s), some (xw r), some (xw w), some (xw g), some (xw hr), o7, o8, some (xw dp), some (xw n), some (xw k), some (xw (xIts V h s dp k)), o13, o14] [xw more] (T, z, xv V, J, R) = some (.inl (some (xw (xMRn h s r g hr dp (m + 1) k V n))), (T, z, xv (xup2 (xMRl h s r g hr dp (m + 1) k V) 56 24 (xMRl h s r g hr dp (m + 1) k V 56 24 + 1)), J, R)) := by
      intro more n1 o13 o14 e1 e2
      have fin := ih (k + 1) n1 (xMR1 V h s r g hr dp k) (some (xw (xIts V h s dp k))) (some (xw more)) (some (xw (7 * h + k))) (by omega) (xMR1_h hB)
      rw [xMRn, xMRl, e2, ← fin]
      unfold xMR1
      rw [e1]
      by_cases c : xIts V h s dp k ≤ 40
      · have e3 : n + 0 = n1 := by rw [← e2, if_pos c]
        by_cases c2 : xIts V h s dp k ≤ 20
        · simp (disch := (first | omega | assumption | exact iAnd_in | exact iShr_in | exact jCmp_in | (simp (disch := omega) only [xup2_o, xup2_i, xup2_j]; omega))) only [↓if_pos, ↓if_neg, xret_v, xret_n, xup2_o, xup2_i, xup2_j, eX7_ride, bX7_ride_0, bX7_ride_9, bX7_ride_12, bX7_ride_19, bX7_ride_22, bX7_ride_30, bX7_ride_33, bX7_ride_37, bX7_ride_38, bX7_ride_44, bX7_ride_47, bX7_ride_51, bX7_ride_54, bX7_ride_60, bX7_ride_63, bX7_ride_67, bX7_ride_68, bX7_ride_76, bX7_ride_80, bX7_ride_85, n_ride_89 hM, bX7_ride_94, n_ride_97 hM, bX7_ride_106, bX7_ride_110, n_ride_111 hM, bX7_ride_114, bX7_ride_117, n_ride_119 hM, bX7_ride_130, n_ride_145 hM, bX7_ride_155, bX7_ride_164, bX7_ride_175, bX7_ride_176, bX7_ride_196, bX7_ride_200, n_ride_201 hM, n_ride_286 hM, bX7_ride_301, bX7_ride_305, n_ride_306 hM, n_ride_314 hM, show (k : Int) + 1 = ((k + 1 : Nat) : Int) by omega, e3]
        · by_cases c3 : V 76 (7 * s + k).toNat ≤ 0 <;> simp (disch := (first | omega | assumption | exact iAnd_in | exact iShr_in | exact jCmp_in | (simp (disch := omega) only [xup2_o, xup2_i, xup2_j]; omega))) only [↓if_pos, ↓if_neg, xret_v, xret_n, xup2_o, xup2_i, xup2_j, eX7_ride, bX7_ride_0, bX7_ride_9, bX7_ride_12, bX7_ride_19, bX7_ride_22, bX7_ride_30, bX7_ride_33, bX7_ride_37, bX7_ride_38, bX7_ride_44, bX7_ride_47, bX7_ride_51, bX7_ride_54, bX7_ride_60, bX7_ride_63, bX7_ride_67, bX7_ride_68, bX7_ride_76, bX7_ride_80, bX7_ride_85, n_ride_89 hM, bX7_ride_94, n_ride_97 hM, bX7_ride_106, bX7_ride_110, n_ride_111 hM, bX7_ride_114, bX7_ride_117, n_ride_119 hM, bX7_ride_130, n_ride_145 hM, bX7_ride_155, bX7_ride_164, bX7_ride_175, bX7_ride_176, bX7_ride_196, bX7_ride_200, n_ride_201 hM, n_ride_286 hM, bX7_ride_301, bX7_ride_305, n_ride_306 hM, n_ride_314 hM, show (k : Int) + 1 = ((k + 1 : Nat) : Int) by omega, e3]
      · have e3 : n + 1 = n1 := by rw [← e2, if_neg c]
        by_cases c3 : V 76 (7 * s + k).toNat ≤ 0 <;> simp (disch := (first | omega | assumption | exact iAnd_in | exact iShr_in | exact jCmp_in | (simp (disch := omega) only [xup2_o, xup2_i, xup2_j]; omega))) only [↓if_pos, ↓if_neg, xret_v, xret_n, xup2_o, xup2_i, xup2_j, eX7_ride, bX7_ride_0, bX7_ride_9, bX7_ride_12, bX7_ride_19, bX7_ride_22, bX7_ride_30, bX7_ride_33, bX7_ride_37, bX7_ride_38, bX7_ride_44, bX7_ride_47, bX7_ride_51, bX7_ride_54, bX7_ride_60, bX7_ride_63, bX7_ride_67, bX7_ride_68, bX7_ride_76, bX7_ride_80, bX7_ride_85, n_ride_89 hM, bX7_ride_94, n_ride_97 hM, bX7_ride_106, bX7_ride_110, n_ride_111 hM, bX7_ride_114, bX7_ride_117, n_ride_119 hM, bX7_ride_130, n_ride_145 hM, bX7_ride_155, bX7_ride_164, bX7_ride_175, bX7_ride_176, bX7_ride_196, bX7_ride_200, n_ride_201 hM, n_ride_286 hM, bX7_ride_301, bX7_ride_305, n_ride_306 hM, n_ride_314 hM, show (k : Int) + 1 = ((k + 1 : Nat) : Int) by omega, e3]
    rw [bX7_ride_138 (by omega), if_neg (by omega), n_ride_145 hM, m_pressureAt hM hB hh hs hd (by omega), xret_v]
    show XR sc (d + 2) 149 155 _ [xw (xIts V h s dp k)] _ = _
    rw [bX7_ride_155 (by omega)]
    by_cases c : xIts V h s dp k ≤ 40
    · rw [if_pos c, bX7_ride_175]
      exact tail 0 (n + 0) _ _ (by rw [if_pos c]) (by rw [if_pos c])
    · rw [if_neg c, bX7_ride_164]
      exact tail ((xIts V h s dp k - 40) * hr) (n + 1) _ _ (by rw [if_neg c]) (by rw [if_neg c])
theorem m_ride {h s r w g hr : Int} (hM : xMo T R) (hB : xMh V) (hS : xMs2 V) (h24 : (-2147483648 ≤ V 56 24 ∧ V 56 24 ≤ 2147483647)) (hh : 0 ≤ h ∧ h < 6) (hs : 0 ≤ s ∧ s < 6) (hr2 : 0 ≤ r ∧ r ≤ 3) (hw : 1 ≤ w ∧ w ≤ 1000) (hg : 1 ≤ g ∧ g ≤ 3) (hhr : 1 ≤ hr ∧ hr ≤ 10) (hl : xMl (V 77) h 7 0 0 = 0) (h60 : ¬ V 56 24 = 60) :
    ∃ q, -5000 ≤ q ∧ q ≤ 5000 ∧ xDe (xGG V h s) (w * g) q ∧ X sc (d + 4) 149 [.ref 56, xw h, xw s, xw r, xw w, xw g, xw hr] (T, z, xv V, J, R) = some (.inl (some (xw (xMRn h s r g hr q 7 0 (xup2 V 56 28 0) 0))), (T, z, xv (xup2 (xMRl h s r g hr q 7 0 (xup2 V 56 28 0)) 56 24 (xMRl h s r g hr q 7 0 (xup2 V 56 28 0) 56 24 + 1)), J, R)) := by
  have hwg : 1 ≤ w * g ∧ w * g ≤ 3000 := by
    rcases (show g = 1 ∨ g = 2 ∨ g = 3 by omega) with rfl | rfl | rfl <;> omega
  obtain ⟨q, q1, q2, q3, q4⟩ := m_depthOf (sc := sc) (d := d) (T := T) (z := z) (V := xup2 V 56 28 0) (J := J) (R := R) (w := w * g) hM (xMh_f hB) hh hs hwg
  rw [xGG_f] at q3
  refine ⟨q, q1, q2, q3, ?_⟩
  have hS1 := hS.1
  simp (disch := (first | omega | assumption | exact iAnd_in | exact iShr_in | exact jCmp_in | (simp (disch := omega) only [xup2_o, xup2_i, xup2_j]; omega))) only [↓if_pos, ↓if_neg, xret_v, xret_n, xup2_o, xup2_i, xup2_j, eX7_ride, bX7_ride_0, bX7_ride_9, bX7_ride_12, bX7_ride_19, bX7_ride_22, bX7_ride_30, bX7_ride_33, bX7_ride_37, bX7_ride_38, bX7_ride_44, bX7_ride_47, bX7_ride_51, bX7_ride_54, bX7_ride_60, bX7_ride_63, bX7_ride_67, bX7_ride_68, bX7_ride_76, bX7_ride_80, bX7_ride_85, n_ride_89 hM, bX7_ride_94, n_ride_97 hM, bX7_ride_106, bX7_ride_110, n_ride_111 hM, bX7_ride_114, bX7_ride_117, n_ride_119 hM, bX7_ride_130, n_ride_145 hM, bX7_ride_155, bX7_ride_164, bX7_ride_175, bX7_ride_176, bX7_ride_196, bX7_ride_200, n_ride_201 hM, n_ride_286 hM, bX7_ride_301, bX7_ride_305, n_ride_306 hM, n_ride_314 hM, m_isIn, m_isHorse, m_isSaddle, m_isLame hM hh hS1, m_fails hM, q4, hl]
  exact m_ride_loop (d := d + 1) hM hh hs hr2 hg hhr (by omega) 7 0 0 _ _ _ _ rfl (xMh_f hB)
theorem m_ride_x {h s r w g hr : Int} (hM : xMo T R) (hS : xMs2 V) (h24 : (-2147483648 ≤ V 56 24 ∧ V 56 24 ≤ 2147483647)) (hh : (-2147483648 ≤ h ∧ h ≤ 2147483647)) (hs : (-2147483648 ≤ s ∧ s ≤ 2147483647)) (hr2 : (-2147483648 ≤ r ∧ r ≤ 2147483647)) (hw : (-2147483648 ≤ w ∧ w ≤ 2147483647)) (hg : (-2147483648 ≤ g ∧ g ≤ 2147483647)) (hhr : (-2147483648 ≤ hr ∧ hr ≤ 2147483647))
    (no : ¬ (((0 ≤ h ∧ h < 6) ∧ (0 ≤ s ∧ s < 6) ∧ (0 ≤ r ∧ r ≤ 3)) ∧ ((1 ≤ w ∧ w ≤ 1000) ∧ (1 ≤ g ∧ g ≤ 3) ∧ (1 ≤ hr ∧ hr ≤ 10)) ∧ xMl (V 77) h 7 0 0 = 0 ∧ ¬ V 56 24 = 60)) :
    X sc (d + 4) 149 [.ref 56, xw h, xw s, xw r, xw w, xw g, xw hr] (T, z, xv V, J, R) = if (0 ≤ h ∧ h < 6) ∧ (0 ≤ s ∧ s < 6) ∧ (0 ≤ r ∧ r ≤ 3) then (if (1 ≤ w ∧ w ≤ 1000) ∧ (1 ≤ g ∧ g ≤ 3) ∧ (1 ≤ hr ∧ hr ≤ 10) then some (.inl (some (xw 0)), (T, z, xv (xup2 V 56 28 3), J, R)) else some (.inl (some (xw 0)), (T, z, xv (xup2 V 56 28 2), J, R))) else some (.inl (some (xw 0)), (T, z, xv (xup2 V 56 28 1), J, R)) := by
  have hS1 := hS.1
  have h01 := xMl_01 (B := V 77) (h := h) 7 0 0 (Or.inl rfl)
  by_cases c1 : 0 ≤ h ∧ h < 6
  · by_cases c2 : 0 ≤ s ∧ s < 6
    · by_cases c3 : 0 ≤ r ∧ r ≤ 3
      · by_cases c4 : 1 ≤ w ∧ w ≤ 1000
        · by_cases c5 : 1 ≤ g ∧ g ≤ 3
          · by_cases c6 : 1 ≤ hr ∧ hr ≤ 10
            · by_cases c7 : xMl (V 77) h 7 0 0 = 0
              · simp (disch := (first | omega | assumption | exact iAnd_in | exact iShr_in | exact jCmp_in | (simp (disch := omega) only [xup2_o, xup2_i, xup2_j]; omega))) only [↓if_pos, ↓if_neg, xret_v, xret_n, xup2_o, xup2_i, xup2_j, eX7_ride, bX7_ride_0, bX7_ride_9, bX7_ride_12, bX7_ride_19, bX7_ride_22, bX7_ride_30, bX7_ride_33, bX7_ride_37, bX7_ride_38, bX7_ride_44, bX7_ride_47, bX7_ride_51, bX7_ride_54, bX7_ride_60, bX7_ride_63, bX7_ride_67, bX7_ride_68, bX7_ride_76, bX7_ride_80, bX7_ride_85, n_ride_89 hM, bX7_ride_94, n_ride_97 hM, bX7_ride_106, bX7_ride_110, n_ride_111 hM, bX7_ride_114, bX7_ride_117, n_ride_119 hM, bX7_ride_130, n_ride_145 hM, bX7_ride_155, bX7_ride_164, bX7_ride_175, bX7_ride_176, bX7_ride_196, bX7_ride_200, n_ride_201 hM, n_ride_286 hM, bX7_ride_301, bX7_ride_305, n_ride_306 hM, n_ride_314 hM, m_isIn, m_isHorse, m_isSaddle, m_isLame hM c1 hS1, m_fails hM]
              · simp (disch := (first | omega | assumption | exact iAnd_in | exact iShr_in | exact jCmp_in | (simp (disch := omega) only [xup2_o, xup2_i, xup2_j]; omega))) only [↓if_pos, ↓if_neg, xret_v, xret_n, xup2_o, xup2_i, xup2_j, eX7_ride, bX7_ride_0, bX7_ride_9, bX7_ride_12, bX7_ride_19, bX7_ride_22, bX7_ride_30, bX7_ride_33, bX7_ride_37, bX7_ride_38, bX7_ride_44, bX7_ride_47, bX7_ride_51, bX7_ride_54, bX7_ride_60, bX7_ride_63, bX7_ride_67, bX7_ride_68, bX7_ride_76, bX7_ride_80, bX7_ride_85, n_ride_89 hM, bX7_ride_94, n_ride_97 hM, bX7_ride_106, bX7_ride_110, n_ride_111 hM, bX7_ride_114, bX7_ride_117, n_ride_119 hM, bX7_ride_130, n_ride_145 hM, bX7_ride_155, bX7_ride_164, bX7_ride_175, bX7_ride_176, bX7_ride_196, bX7_ride_200, n_ride_201 hM, n_ride_286 hM, bX7_ride_301, bX7_ride_305, n_ride_306 hM, n_ride_314 hM, m_isIn, m_isHorse, m_isSaddle, m_isLame hM c1 hS1, m_fails hM]
            · simp (disch := (first | omega | assumption | exact iAnd_in | exact iShr_in | exact jCmp_in | (simp (disch := omega) only [xup2_o, xup2_i, xup2_j]; omega))) only [↓if_pos, ↓if_neg, xret_v, xret_n, xup2_o, xup2_i, xup2_j, eX7_ride, bX7_ride_0, bX7_ride_9, bX7_ride_12, bX7_ride_19, bX7_ride_22, bX7_ride_30, bX7_ride_33, bX7_ride_37, bX7_ride_38, bX7_ride_44, bX7_ride_47, bX7_ride_51, bX7_ride_54, bX7_ride_60, bX7_ride_63, bX7_ride_67, bX7_ride_68, bX7_ride_76, bX7_ride_80, bX7_ride_85, n_ride_89 hM, bX7_ride_94, n_ride_97 hM, bX7_ride_106, bX7_ride_110, n_ride_111 hM, bX7_ride_114, bX7_ride_117, n_ride_119 hM, bX7_ride_130, n_ride_145 hM, bX7_ride_155, bX7_ride_164, bX7_ride_175, bX7_ride_176, bX7_ride_196, bX7_ride_200, n_ride_201 hM, n_ride_286 hM, bX7_ride_301, bX7_ride_305, n_ride_306 hM, n_ride_314 hM, m_isIn, m_isHorse, m_isSaddle, m_fails hM]
          · simp (disch := (first | omega | assumption | exact iAnd_in | exact iShr_in | exact jCmp_in | (simp (disch := omega) only [xup2_o, xup2_i, xup2_j]; omega))) only [↓if_pos, ↓if_neg, xret_v, xret_n, xup2_o, xup2_i, xup2_j, eX7_ride, bX7_ride_0, bX7_ride_9, bX7_ride_12, bX7_ride_19, bX7_ride_22, bX7_ride_30, bX7_ride_33, bX7_ride_37, bX7_ride_38, bX7_ride_44, bX7_ride_47, bX7_ride_51, bX7_ride_54, bX7_ride_60, bX7_ride_63, bX7_ride_67, bX7_ride_68, bX7_ride_76, bX7_ride_80, bX7_ride_85, n_ride_89 hM, bX7_ride_94, n_ride_97 hM, bX7_ride_106, bX7_ride_110, n_ride_111 hM, bX7_ride_114, bX7_ride_117, n_ride_119 hM, bX7_ride_130, n_ride_145 hM, bX7_ride_155, bX7_ride_164, bX7_ride_175, bX7_ride_176, bX7_ride_196, bX7_ride_200, n_ride_201 hM, n_ride_286 hM, bX7_ride_301, bX7_ride_305, n_ride_306 hM, n_ride_314 hM, m_isIn, m_isHorse, m_isSaddle, m_fails hM]
        · simp (disch := (first | omega | assumption | exact iAnd_in | exact iShr_in | exact jCmp_in | (simp (disch := omega) only [xup2_o, xup2_i, xup2_j]; omega))) only [↓if_pos, ↓if_neg, xret_v, xret_n, xup2_o, xup2_i, xup2_j, eX7_ride, bX7_ride_0, bX7_ride_9, bX7_ride_12, bX7_ride_19, bX7_ride_22, bX7_ride_30, bX7_ride_33, bX7_ride_37, bX7_ride_38, bX7_ride_44, bX7_ride_47, bX7_ride_51, bX7_ride_54, bX7_ride_60, bX7_ride_63, bX7_ride_67, bX7_ride_68, bX7_ride_76, bX7_ride_80, bX7_ride_85, n_ride_89 hM, bX7_ride_94, n_ride_97 hM, bX7_ride_106, bX7_ride_110, n_ride_111 hM, bX7_ride_114, bX7_ride_117, n_ride_119 hM, bX7_ride_130, n_ride_145 hM, bX7_ride_155, bX7_ride_164, bX7_ride_175, bX7_ride_176, bX7_ride_196, bX7_ride_200, n_ride_201 hM, n_ride_286 hM, bX7_ride_301, bX7_ride_305, n_ride_306 hM, n_ride_314 hM, m_isIn, m_isHorse, m_isSaddle, m_fails hM]
      · by_cases c4 : 1 ≤ w ∧ w ≤ 1000 <;> by_cases c5 : 1 ≤ g ∧ g ≤ 3 <;> by_cases c6 : 1 ≤ hr ∧ hr ≤ 10 <;> simp (disch := (first | omega | assumption | exact iAnd_in | exact iShr_in | exact jCmp_in | (simp (disch := omega) only [xup2_o, xup2_i, xup2_j]; omega))) only [↓if_pos, ↓if_neg, xret_v, xret_n, xup2_o, xup2_i, xup2_j, eX7_ride, bX7_ride_0, bX7_ride_9, bX7_ride_12, bX7_ride_19, bX7_ride_22, bX7_ride_30, bX7_ride_33, bX7_ride_37, bX7_ride_38, bX7_ride_44, bX7_ride_47, bX7_ride_51, bX7_ride_54, bX7_ride_60, bX7_ride_63, bX7_ride_67, bX7_ride_68, bX7_ride_76, bX7_ride_80, bX7_ride_85, n_ride_89 hM, bX7_ride_94, n_ride_97 hM, bX7_ride_106, bX7_ride_110, n_ride_111 hM, bX7_ride_114, bX7_ride_117, n_ride_119 hM, bX7_ride_130, n_ride_145 hM, bX7_ride_155, bX7_ride_164, bX7_ride_175, bX7_ride_176, bX7_ride_196, bX7_ride_200, n_ride_201 hM, n_ride_286 hM, bX7_ride_301, bX7_ride_305, n_ride_306 hM, n_ride_314 hM, m_isIn, m_isHorse, m_isSaddle, m_fails hM]
    · by_cases c4 : 1 ≤ w ∧ w ≤ 1000 <;> by_cases c5 : 1 ≤ g ∧ g ≤ 3 <;> by_cases c6 : 1 ≤ hr ∧ hr ≤ 10 <;> simp (disch := (first | omega | assumption | exact iAnd_in | exact iShr_in | exact jCmp_in | (simp (disch := omega) only [xup2_o, xup2_i, xup2_j]; omega))) only [↓if_pos, ↓if_neg, xret_v, xret_n, xup2_o, xup2_i, xup2_j, eX7_ride, bX7_ride_0, bX7_ride_9, bX7_ride_12, bX7_ride_19, bX7_ride_22, bX7_ride_30, bX7_ride_33, bX7_ride_37, bX7_ride_38, bX7_ride_44, bX7_ride_47, bX7_ride_51, bX7_ride_54, bX7_ride_60, bX7_ride_63, bX7_ride_67, bX7_ride_68, bX7_ride_76, bX7_ride_80, bX7_ride_85, n_ride_89 hM, bX7_ride_94, n_ride_97 hM, bX7_ride_106, bX7_ride_110, n_ride_111 hM, bX7_ride_114, bX7_ride_117, n_ride_119 hM, bX7_ride_130, n_ride_145 hM, bX7_ride_155, bX7_ride_164, bX7_ride_175, bX7_ride_176, bX7_ride_196, bX7_ride_200, n_ride_201 hM, n_ride_286 hM, bX7_ride_301, bX7_ride_305, n_ride_306 hM, n_ride_314 hM, m_isIn, m_isHorse, m_isSaddle, m_fails hM]
  · by_cases c4 : 1 ≤ w ∧ w ≤ 1000 <;> by_cases c5 : 1 ≤ g ∧ g ≤ 3 <;> by_cases c6 : 1 ≤ hr ∧ hr ≤ 10 <;> simp (disch := (first | omega | assumption | exact iAnd_in | exact iShr_in | exact jCmp_in | (simp (disch := omega) only [xup2_o, xup2_i, xup2_j]; omega))) only [↓if_pos, ↓if_neg, xret_v, xret_n, xup2_o, xup2_i, xup2_j, eX7_ride, bX7_ride_0, bX7_ride_9, bX7_ride_12, bX7_ride_19, bX7_ride_22, bX7_ride_30, bX7_ride_33, bX7_ride_37, bX7_ride_38, bX7_ride_44, bX7_ride_47, bX7_ride_51, bX7_ride_54, bX7_ride_60, bX7_ride_63, bX7_ride_67, bX7_ride_68, bX7_ride_76, bX7_ride_80, bX7_ride_85, n_ride_89 hM, bX7_ride_94, n_ride_97 hM, bX7_ride_106, bX7_ride_110, n_ride_111 hM, bX7_ride_114, bX7_ride_117, n_ride_119 hM, bX7_ride_130, n_ride_145 hM, bX7_ride_155, bX7_ride_164, bX7_ride_175, bX7_ride_176, bX7_ride_196, bX7_ride_200, n_ride_201 hM, n_ride_286 hM, bX7_ride_301, bX7_ride_305, n_ride_306 hM, n_ride_314 hM, m_isIn, m_isHorse, m_isSaddle, m_fails hM]
/-- the sores from j on heal -/
def xMz (am : Int) : Nat → Nat → (Nat → Nat → Int) → (Nat → Nat → Int)
  | 0, _, V => V
  | m + 1, j, V => xMz am m (j + 1) (xup2 V 77 j (if V 77 j ≤ am then 0 else V 77 j - am))
def xMzn (B : Nat → Int) : Nat → Nat → Int → Int
  | 0, _, n => n
  | m + 1, h, n => xMzn B m (h + 1) (n + (if xMl B h 7 0 0 = 0 then 0 else 1))
theorem m_rest_1 {dy : Int} {o3 : Option Value} (hM : xMo T R) (hd : 1 ≤ dy ∧ dy ≤ 100) :
    ∀ (m j : Nat) (V : Nat → Nat → Int), j + m = 42 → (∀ k, k < 42 → 0 ≤ V 77 k ∧ V 77 k ≤ 1000000000) →
    XR sc d 150 26 [some (.ref 56), some (xw dy), some (xw j), o3] [] (T, z, xv V, J, R) = XR sc d 150 76 [some (.ref 56), some (xw dy), some (xw 0), some (xw 0)] [] (T, z, xv (xMz (10 * dy) m j V), J, R) ∧ (∀ k, k < 42 → 0 ≤ xMz (10 * dy) m j V 77 k ∧ xMz (10 * dy) m j V 77 k ≤ 1000000000) := by
  intro m
  induction m with
  | zero =>
    intro j V hj hV
    exact ⟨by rw [bX7_rest_26 (by omega), if_pos (by omega), bX7_rest_72, xMz], hV⟩
  | succ m ih =>
    intro j V hj hV
    have hv := hV j (by omega)
    have hV' : ∀ k, k < 42 → 0 ≤ xup2 V 77 j (if V 77 j ≤ 10 * dy then 0 else V 77 j - 10 * dy) 77 k ∧ xup2 V 77 j (if V 77 j ≤ 10 * dy then 0 else V 77 j - 10 * dy) 77 k ≤ 1000000000 := by
      intro k hk
      by_cases e : k = j
      · subst e; rw [xup2_i]; split <;> omega
      · rw [xup2_j e]; exact hV k hk
    obtain ⟨i1, i2⟩ := ih (j + 1) _ (by omega) hV'
    refine ⟨?_, by rw [xMz]; exact i2⟩
    rw [bX7_rest_26 (by omega), if_neg (by omega), n_rest_32 hM (by omega) (by rw [Int.toNat_natCast]; omega) (by omega), Int.toNat_natCast, xMz, ← i1]
    by_cases c : V 77 j ≤ 10 * dy
    · rw [if_pos c, if_pos c, bX7_rest_64, n_rest_65 hM (by omega), Int.toNat_natCast, show (j : Int) + 1 = ((j + 1 : Nat) : Int) by omega]
    · rw [if_neg c, if_neg c, n_rest_50 hM (by omega), n_rest_65 hM (by omega), Int.toNat_natCast, show (j : Int) + 1 = ((j + 1 : Nat) : Int) by omega]
theorem m_rest_2 {o1 : Option Value} (hM : xMo T R) (hV : ∀ k, k < 42 → 0 ≤ V 77 k ∧ V 77 k ≤ 1000000000) :
    ∀ (m h : Nat) (n : Int), h + m = 6 →
    XR sc (d + 1) 150 76 [some (.ref 56), o1, some (xw n), some (xw h)] [] (T, z, xv V, J, R) = some (.inl (some (xw (xMzn (V 77) m h n))), (T, z, xv (V), J, R)) := by
  intro m
  induction m with
  | zero =>
    intro h n hh
    rw [bX7_rest_76 (by omega), if_pos (by omega), bX7_rest_104, xMzn]
  | succ m ih =>
    intro h n hh
    have h01 := xMl_01 (B := V 77) (h := h) 7 0 0 (Or.inl rfl)
    rw [bX7_rest_76 (by omega), if_neg (by omega), n_rest_82 hM, m_isLame hM (by omega) hV, xret_v, bX7_rest_88 (by omega), xMzn]
    by_cases c : xMl (V 77) h 7 0 0 = 0
    · rw [if_pos c, if_pos c, bX7_rest_95, bX7_rest_96, show (h : Int) + 1 = ((h + 1 : Nat) : Int) by omega, ih (h + 1) _ (by omega)]
    · rw [if_neg c, if_neg c, bX7_rest_91, bX7_rest_96, show (h : Int) + 1 = ((h + 1 : Nat) : Int) by omega, ih (h + 1) _ (by omega)]
theorem m_rest {dy : Int} (hM : xMo T R) (hS : xMs2 V) (hd : (-2147483648 ≤ dy ∧ dy ≤ 2147483647)) :
    X sc (d + 3) 150 [.ref 56, xw dy] (T, z, xv V, J, R) = if 1 ≤ dy ∧ dy ≤ 100 then some (.inl (some (xw (xMzn (xMz (10 * dy) 42 0 (xup2 V 56 28 0) 77) 6 0 0))), (T, z, xv (xMz (10 * dy) 42 0 (xup2 V 56 28 0)), J, R)) else some (.inl (some (xw 0)), (T, z, xv (xup2 V 56 28 1), J, R)) := by
  by_cases c : 1 ≤ dy ∧ dy ≤ 100
  · obtain ⟨k1, k2⟩ := m_rest_1 (sc := sc) (d := d + 2) (z := z) (J := J) (o3 := none) hM c 42 0 (xup2 V 56 28 0) rfl (xMs2_f hS).1
    simp (disch := (first | omega | assumption | exact iAnd_in | exact iShr_in | exact jCmp_in | (simp (disch := omega) only [xup2_o, xup2_i, xup2_j]; omega))) only [↓if_pos, ↓if_neg, xret_v, xret_n, xup2_o, xup2_i, xup2_j, eX7_rest, bX7_rest_0, bX7_rest_8, bX7_rest_11, bX7_rest_15, n_rest_16 hM, bX7_rest_19, bX7_rest_22, bX7_rest_24, n_rest_32 hM, n_rest_50 hM, bX7_rest_64, n_rest_65 hM, bX7_rest_72, n_rest_82 hM, bX7_rest_88, bX7_rest_91, bX7_rest_95, bX7_rest_96, bX7_rest_104, m_isIn, m_fails hM]
    exact k1.trans (m_rest_2 (d := d + 1) hM k2 6 0 0 rfl)
  · simp (disch := (first | omega | assumption | exact iAnd_in | exact iShr_in | exact jCmp_in | (simp (disch := omega) only [xup2_o, xup2_i, xup2_j]; omega))) only [↓if_pos, ↓if_neg, xret_v, xret_n, xup2_o, xup2_i, xup2_j, eX7_rest, bX7_rest_0, bX7_rest_8, bX7_rest_11, bX7_rest_15, n_rest_16 hM, bX7_rest_19, bX7_rest_22, bX7_rest_24, n_rest_32 hM, n_rest_50 hM, bX7_rest_64, n_rest_65 hM, bX7_rest_72, n_rest_82 hM, bX7_rest_88, bX7_rest_91, bX7_rest_95, bX7_rest_96, bX7_rest_104, m_isIn, m_fails hM]
theorem m_sore {h k v : Int} (hM : xMo T R) (hS : xMs2 V) (hh : (-2147483648 ≤ h ∧ h ≤ 2147483647)) (hk : (-2147483648 ≤ k ∧ k ≤ 2147483647)) (hv : (-2147483648 ≤ v ∧ v ≤ 2147483647)) :
    X sc (d + 3) 151 [.ref 56, xw h, xw k, xw v] (T, z, xv V, J, R) = if (0 ≤ h ∧ h < 6) ∧ (0 ≤ k ∧ k < 7) then (if 0 ≤ v ∧ v ≤ 2 then
      some (.inl (some (xw (if v = 0 then V 77 (7 * h + k).toNat else if v = 1 then V 74 (7 * h + k).toNat else if xMl (V 77) h 7 0 0 = 0 then 0 else 1))), (T, z, xv (xup2 V 56 28 0), J, R)) else some (.inl (some (xw 0)), (T, z, xv (xup2 V 56 28 2), J, R))) else some (.inl (some (xw 0)), (T, z, xv (xup2 V 56 28 1), J, R)) := by
  have hS1 := (xMs2_f (k := 0) hS).1
  have h01 := xMl_01 (B := V 77) (h := h) 7 0 0 (Or.inl rfl)
  by_cases c1 : 0 ≤ h ∧ h < 6
  · by_cases c2 : 0 ≤ k ∧ k < 7
    · by_cases c3 : 0 ≤ v ∧ v ≤ 2
      · by_cases c4 : v = 0
        · simp (disch := (first | omega | assumption | exact iAnd_in | exact iShr_in | exact jCmp_in | (simp (disch := omega) only [xup2_o, xup2_i, xup2_j]; omega))) only [↓if_pos, ↓if_neg, xret_v, xret_n, xup2_o, xup2_i, xup2_j, eX7_sore, bX7_sore_0, bX7_sore_5, bX7_sore_8, bX7_sore_12, bX7_sore_15, bX7_sore_19, bX7_sore_25, bX7_sore_28, bX7_sore_32, n_sore_33 hM, bX7_sore_36, bX7_sore_39, bX7_sore_41, n_sore_45 hM, bX7_sore_59, n_sore_64 hM, n_sore_78 hM, bX7_sore_83, bX7_sore_86, bX7_sore_90, bX7_sore_91, m_isHorse, m_isSection, m_isIn, m_isLame hM c1 hS1, m_fails hM]
        · by_cases c5 : v = 1
          · simp (disch := (first | omega | assumption | exact iAnd_in | exact iShr_in | exact jCmp_in | (simp (disch := omega) only [xup2_o, xup2_i, xup2_j]; omega))) only [↓if_pos, ↓if_neg, xret_v, xret_n, xup2_o, xup2_i, xup2_j, eX7_sore, bX7_sore_0, bX7_sore_5, bX7_sore_8, bX7_sore_12, bX7_sore_15, bX7_sore_19, bX7_sore_25, bX7_sore_28, bX7_sore_32, n_sore_33 hM, bX7_sore_36, bX7_sore_39, bX7_sore_41, n_sore_45 hM, bX7_sore_59, n_sore_64 hM, n_sore_78 hM, bX7_sore_83, bX7_sore_86, bX7_sore_90, bX7_sore_91, m_isHorse, m_isSection, m_isIn, m_isLame hM c1 hS1, m_fails hM]
          · by_cases c6 : xMl (V 77) h 7 0 0 = 0 <;> simp (disch := (first | omega | assumption | exact iAnd_in | exact iShr_in | exact jCmp_in | (simp (disch := omega) only [xup2_o, xup2_i, xup2_j]; omega))) only [↓if_pos, ↓if_neg, xret_v, xret_n, xup2_o, xup2_i, xup2_j, eX7_sore, bX7_sore_0, bX7_sore_5, bX7_sore_8, bX7_sore_12, bX7_sore_15, bX7_sore_19, bX7_sore_25, bX7_sore_28, bX7_sore_32, n_sore_33 hM, bX7_sore_36, bX7_sore_39, bX7_sore_41, n_sore_45 hM, bX7_sore_59, n_sore_64 hM, n_sore_78 hM, bX7_sore_83, bX7_sore_86, bX7_sore_90, bX7_sore_91, m_isHorse, m_isSection, m_isIn, m_isLame hM c1 hS1, m_fails hM]
      · simp (disch := (first | omega | assumption | exact iAnd_in | exact iShr_in | exact jCmp_in | (simp (disch := omega) only [xup2_o, xup2_i, xup2_j]; omega))) only [↓if_pos, ↓if_neg, xret_v, xret_n, xup2_o, xup2_i, xup2_j, eX7_sore, bX7_sore_0, bX7_sore_5, bX7_sore_8, bX7_sore_12, bX7_sore_15, bX7_sore_19, bX7_sore_25, bX7_sore_28, bX7_sore_32, n_sore_33 hM, bX7_sore_36, bX7_sore_39, bX7_sore_41, n_sore_45 hM, bX7_sore_59, n_sore_64 hM, n_sore_78 hM, bX7_sore_83, bX7_sore_86, bX7_sore_90, bX7_sore_91, m_isHorse, m_isSection, m_isIn, m_fails hM]
    · simp (disch := (first | omega | assumption | exact iAnd_in | exact iShr_in | exact jCmp_in | (simp (disch := omega) only [xup2_o, xup2_i, xup2_j]; omega))) only [↓if_pos, ↓if_neg, xret_v, xret_n, xup2_o, xup2_i, xup2_j, eX7_sore, bX7_sore_0, bX7_sore_5, bX7_sore_8, bX7_sore_12, bX7_sore_15, bX7_sore_19, bX7_sore_25, bX7_sore_28, bX7_sore_32, n_sore_33 hM, bX7_sore_36, bX7_sore_39, bX7_sore_41, n_sore_45 hM, bX7_sore_59, n_sore_64 hM, n_sore_78 hM, bX7_sore_83, bX7_sore_86, bX7_sore_90, bX7_sore_91, m_isHorse, m_isSection, m_isIn, m_fails hM]
  · simp (disch := (first | omega | assumption | exact iAnd_in | exact iShr_in | exact jCmp_in | (simp (disch := omega) only [xup2_o, xup2_i, xup2_j]; omega))) only [↓if_pos, ↓if_neg, xret_v, xret_n, xup2_o, xup2_i, xup2_j, eX7_sore, bX7_sore_0, bX7_sore_5, bX7_sore_8, bX7_sore_12, bX7_sore_15, bX7_sore_19, bX7_sore_25, bX7_sore_28, bX7_sore_32, n_sore_33 hM, bX7_sore_36, bX7_sore_39, bX7_sore_41, n_sore_45 hM, bX7_sore_59, n_sore_64 hM, n_sore_78 hM, bX7_sore_83, bX7_sore_86, bX7_sore_90, bX7_sore_91, m_isHorse, m_isSection, m_isIn, m_fails hM]
/-- a share by the model -/
def xMo2 (V : Nat → Nat → Int) (a b w : Int) : Int := if b = 0 then (if 0 ≤ w ∧ w < 6 then V 78 (6 * a + w).toNat else 0) else if b = 1 then (if 0 ≤ w ∧ w ≤ 3 then V 79 (4 * a + w).toNat else 0) else (if 1 ≤ w ∧ w ≤ 3 then V 80 (4 * a + w).toNat else 0)
theorem m_shareOf {a b w : Int} (hM : xMo T R) (ha : 0 ≤ a ∧ a < 42) (hb : 0 ≤ b ∧ b ≤ 2) (hw : (-2147483648 ≤ w ∧ w ≤ 2147483647)) :
    X sc (d + 3) 152 [.ref 56, xw a, xw b, xw w] (T, z, xv V, J, R) = some (.inl (some (xw (xMo2 V a b w))), (T, z, xv (V), J, R)) := by
  unfold xMo2
  by_cases c1 : b = 0
  · by_cases c2 : 0 ≤ w ∧ w < 6 <;> simp (disch := (first | omega | assumption | exact iAnd_in | exact iShr_in | exact jCmp_in | (simp (disch := omega) only [xup2_o, xup2_i, xup2_j]; omega))) only [↓if_pos, ↓if_neg, xret_v, xret_n, xup2_o, xup2_i, xup2_j, eX7_shareOf, bX7_shareOf_0, bX7_shareOf_4, bX7_shareOf_8, n_shareOf_11 hM, bX7_shareOf_25, bX7_shareOf_26, bX7_shareOf_27, bX7_shareOf_33, bX7_shareOf_37, bX7_shareOf_38, bX7_shareOf_42, bX7_shareOf_49, bX7_shareOf_53, n_shareOf_58 hM, n_shareOf_71 hM, bX7_shareOf_81, m_isSaddle, m_isIn]
  · by_cases c3 : b = 1
    · by_cases c2 : 0 ≤ w ∧ w ≤ 3 <;> simp (disch := (first | omega | assumption | exact iAnd_in | exact iShr_in | exact jCmp_in | (simp (disch := omega) only [xup2_o, xup2_i, xup2_j]; omega))) only [↓if_pos, ↓if_neg, xret_v, xret_n, xup2_o, xup2_i, xup2_j, eX7_shareOf, bX7_shareOf_0, bX7_shareOf_4, bX7_shareOf_8, n_shareOf_11 hM, bX7_shareOf_25, bX7_shareOf_26, bX7_shareOf_27, bX7_shareOf_33, bX7_shareOf_37, bX7_shareOf_38, bX7_shareOf_42, bX7_shareOf_49, bX7_shareOf_53, n_shareOf_58 hM, n_shareOf_71 hM, bX7_shareOf_81, m_isSaddle, m_isIn]
    · by_cases c2 : 1 ≤ w ∧ w ≤ 3 <;> simp (disch := (first | omega | assumption | exact iAnd_in | exact iShr_in | exact jCmp_in | (simp (disch := omega) only [xup2_o, xup2_i, xup2_j]; omega))) only [↓if_pos, ↓if_neg, xret_v, xret_n, xup2_o, xup2_i, xup2_j, eX7_shareOf, bX7_shareOf_0, bX7_shareOf_4, bX7_shareOf_8, n_shareOf_11 hM, bX7_shareOf_25, bX7_shareOf_26, bX7_shareOf_27, bX7_shareOf_33, bX7_shareOf_37, bX7_shareOf_38, bX7_shareOf_42, bX7_shareOf_49, bX7_shareOf_53, n_shareOf_58 hM, n_shareOf_71 hM, bX7_shareOf_81, m_isSaddle, m_isIn]
theorem xMo2_in {a b w : Int} (hS : xMs2 V) (ha : 0 ≤ a ∧ a < 42) : 0 ≤ xMo2 V a b w ∧ xMo2 V a b w ≤ 1000000000 := by
  unfold xMo2
  split
  · split
    · exact hS.2.1 _ (by omega)
    · decide
  · split
    · split
      · exact hS.2.2.1 _ (by omega)
      · decide
    · split
      · exact hS.2.2.2 _ (by omega)
      · decide
theorem xMo2_f {a b w k : Int} : xMo2 (xup2 V 56 28 k) a b w = xMo2 V a b w := by
  unfold xMo2
  rw [xup2_o (by decide), xup2_o (by decide), xup2_o (by decide)]
theorem m_share {h k b w : Int} (hM : xMo T R) (hh : (-2147483648 ≤ h ∧ h ≤ 2147483647)) (hk : (-2147483648 ≤ k ∧ k ≤ 2147483647)) (hb : (-2147483648 ≤ b ∧ b ≤ 2147483647)) (hw : (-2147483648 ≤ w ∧ w ≤ 2147483647)) :
    X sc (d + 4) 154 [.ref 56, xw h, xw k, xw b, xw w] (T, z, xv V, J, R) = if (0 ≤ h ∧ h < 6) ∧ (0 ≤ k ∧ k < 7) then (if 0 ≤ b ∧ b ≤ 2 then some (.inl (some (xw (xMo2 V (7 * h + k) b w))), (T, z, xv (xup2 V 56 28 0), J, R)) else some (.inl (some (xw 0)), (T, z, xv (xup2 V 56 28 2), J, R))) else some (.inl (some (xw 0)), (T, z, xv (xup2 V 56 28 1), J, R)) := by
  by_cases c1 : (0 ≤ h ∧ h < 6) ∧ (0 ≤ k ∧ k < 7)
  · by_cases c2 : 0 ≤ b ∧ b ≤ 2 <;> simp (disch := (first | omega | assumption | exact iAnd_in | exact iShr_in | exact jCmp_in | (simp (disch := omega) only [xup2_o, xup2_i, xup2_j]; omega))) only [↓if_pos, ↓if_neg, xret_v, xret_n, xup2_o, xup2_i, xup2_j, eX7_share, n_share_0 hM, bX7_share_7, bX7_share_10, n_share_14 hM, bX7_share_27, m_missesShare hM, m_shareOf hM, xMo2_f]
  · simp (disch := (first | omega | assumption | exact iAnd_in | exact iShr_in | exact jCmp_in | (simp (disch := omega) only [xup2_o, xup2_i, xup2_j]; omega))) only [↓if_pos, ↓if_neg, xret_v, xret_n, xup2_o, xup2_i, xup2_j, eX7_share, n_share_0 hM, bX7_share_7, bX7_share_10, n_share_14 hM, bX7_share_27, m_missesShare hM, m_shareOf hM, xMo2_f]
def xMca (S : Int → Int) : Nat → Nat → Int → Int
  | 0, _, f => f
  | m + 1, w, f => xMca S m (w + 1) (if S w ≤ 0 then f else if f = -1 then w else if S w ≤ S f then f else w)
theorem m_cause_loop {h k b : Int} (hM : xMo T R) (hS : xMs2 V) (hh : (0 ≤ h ∧ h < 6) ∧ (0 ≤ k ∧ k < 7)) (hb : 0 ≤ b ∧ b ≤ 2) :
    ∀ (m w : Nat) (f : Int) (o6 : Option Value), w + m = 6 → -1 ≤ f ∧ f < 6 →
    XR sc (d + 3) 155 18 [some (.ref 56), some (xw h), some (xw k), some (xw b), some (xw f), some (xw w), o6] [] (T, z, xv V, J, R) = some (.inl (some (xw (xMca (xMo2 V (7 * h + k) b) m w f))), (T, z, xv (V), J, R)) := by
  intro m
  induction m with
  | zero =>
    intro w f o6 hw hf
    rw [bX7_cause_18 (by omega), if_pos (by omega), bX7_cause_84, xMca]
  | succ m ih =>
    intro w f o6 hw hf
    have hv := xMo2_in (b := b) (w := w) hS (show 0 ≤ 7 * h + k ∧ 7 * h + k < 42 by omega)
    have hf2 := xMo2_in (b := b) (w := f) hS (show 0 ≤ 7 * h + k ∧ 7 * h + k < 42 by omega)
    rw [bX7_cause_18 (by omega), if_neg (by omega), n_cause_25 hM, m_shareOf hM (by omega) hb (by omega), xret_v, bX7_cause_38 (by omega), xMca]
    have kNo : ∀ o6 : Option Value, XR sc (d + 3) 155 74 [some (.ref 56), some (xw h), some (xw k), some (xw b), some (xw f), some (xw w), o6] [] (T, z, xv V, J, R) = some (.inl (some (xw (xMca (xMo2 V (7 * h + k) b) m (w + 1) f))), (T, z, xv (V), J, R)) := by
      intro o6
      rw [bX7_cause_74, bX7_cause_76, show (w : Int) + 1 = ((w + 1 : Nat) : Int) by omega, ih (w + 1) _ _ (by omega) hf]
    have kYes : ∀ o6 : Option Value, XR sc (d + 3) 155 69 [some (.ref 56), some (xw h), some (xw k), some (xw b), some (xw f), some (xw w), o6] [] (T, z, xv V, J, R) = some (.inl (some (xw (xMca (xMo2 V (7 * h + k) b) m (w + 1) w))), (T, z, xv (V), J, R)) := by
      intro o6
      rw [bX7_cause_69, bX7_cause_76, show (w : Int) + 1 = ((w + 1 : Nat) : Int) by omega, ih (w + 1) _ _ (by omega) (by omega)]
    by_cases c : xMo2 V (7 * h + k) b w ≤ 0
    · rw [if_pos c, if_pos c, kNo]
    · rw [if_neg c, if_neg c, bX7_cause_45 (by omega)]
      by_cases c2 : f = -1
      · rw [if_pos c2, if_pos c2, kYes]
      · rw [if_neg c2, if_neg c2, n_cause_51 hM, m_shareOf hM (by omega) hb (by omega), xret_v, bX7_cause_66 (by omega) (by omega)]
        by_cases c3 : xMo2 V (7 * h + k) b w ≤ xMo2 V (7 * h + k) b f
        · rw [if_pos c3, if_pos c3, kNo]
        · rw [if_neg c3, if_neg c3, kYes]
theorem m_cause {h k b : Int} (hM : xMo T R) (hS : xMs2 V) (hh : (-2147483648 ≤ h ∧ h ≤ 2147483647)) (hk : (-2147483648 ≤ k ∧ k ≤ 2147483647)) (hb : (-2147483648 ≤ b ∧ b ≤ 2147483647)) :
    X sc (d + 4) 155 [.ref 56, xw h, xw k, xw b] (T, z, xv V, J, R) = if (0 ≤ h ∧ h < 6) ∧ (0 ≤ k ∧ k < 7) then (if 0 ≤ b ∧ b ≤ 2 then some (.inl (some (xw (xMca (xMo2 (xup2 V 56 28 0) (7 * h + k) b) 6 0 (-1)))), (T, z, xv (xup2 V 56 28 0), J, R)) else some (.inl (some (xw 0)), (T, z, xv (xup2 V 56 28 2), J, R))) else some (.inl (some (xw 0)), (T, z, xv (xup2 V 56 28 1), J, R)) := by
  by_cases c1 : (0 ≤ h ∧ h < 6) ∧ (0 ≤ k ∧ k < 7)
  · by_cases c2 : 0 ≤ b ∧ b ≤ 2
    · simp (disch := (first | omega | assumption | exact iAnd_in | exact iShr_in | exact jCmp_in | (simp (disch := omega) only [xup2_o, xup2_i, xup2_j]; omega))) only [↓if_pos, ↓if_neg, xret_v, xret_n, xup2_o, xup2_i, xup2_j, eX7_cause, n_cause_0 hM, bX7_cause_7, bX7_cause_10, bX7_cause_12, n_cause_25 hM, bX7_cause_38, bX7_cause_45, n_cause_51 hM, bX7_cause_66, bX7_cause_69, bX7_cause_74, bX7_cause_76, bX7_cause_84, m_missesShare hM]
      exact m_cause_loop (d := d) hM (xMs2_f hS) c1 c2 6 0 (-1) _ rfl (by decide)
    · simp (disch := (first | omega | assumption | exact iAnd_in | exact iShr_in | exact jCmp_in | (simp (disch := omega) only [xup2_o, xup2_i, xup2_j]; omega))) only [↓if_pos, ↓if_neg, xret_v, xret_n, xup2_o, xup2_i, xup2_j, eX7_cause, n_cause_0 hM, bX7_cause_7, bX7_cause_10, bX7_cause_12, n_cause_25 hM, bX7_cause_38, bX7_cause_45, n_cause_51 hM, bX7_cause_66, bX7_cause_69, bX7_cause_74, bX7_cause_76, bX7_cause_84, m_missesShare hM]
  · simp (disch := (first | omega | assumption | exact iAnd_in | exact iShr_in | exact jCmp_in | (simp (disch := omega) only [xup2_o, xup2_i, xup2_j]; omega))) only [↓if_pos, ↓if_neg, xret_v, xret_n, xup2_o, xup2_i, xup2_j, eX7_cause, n_cause_0 hM, bX7_cause_7, bX7_cause_10, bX7_cause_12, n_cause_25 hM, bX7_cause_38, bX7_cause_45, n_cause_51 hM, bX7_cause_66, bX7_cause_69, bX7_cause_74, bX7_cause_76, bX7_cause_84, m_missesShare hM]
end SX7e
