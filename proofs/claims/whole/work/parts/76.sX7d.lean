/-! what the model does with backs and saddles -/
def xGp (V : Nat → Nat → Int) (h s k : Int) : Int := V 75 (7 * s + k).toNat - V 76 (7 * s + k).toNat - V 74 (7 * h + k).toNat
/-- heights and flocks of the model within their bounds -/
def xMh (V : Nat → Nat → Int) : Prop := ∀ k, k < 42 → (-50 ≤ V 74 k ∧ V 74 k ≤ 50) ∧ (-50 ≤ V 75 k ∧ V 75 k ≤ 50) ∧ (0 ≤ V 76 k ∧ V 76 k ≤ 20)
theorem xGp_in {V : Nat → Nat → Int} {h s k : Int} (hB : xMh V) (hh : 0 ≤ h ∧ h < 6) (hs : 0 ≤ s ∧ s < 6) (hk : 0 ≤ k ∧ k < 7) : -120 ≤ xGp V h s k ∧ xGp V h s k ≤ 100 := by
  have h1 := hB (7 * s + k).toNat (by omega)
  have h2 := hB (7 * h + k).toNat (by omega)
  unfold xGp
  omega
def xGG (V : Nat → Nat → Int) (h s : Int) : Nat → Int := fun k => xGp V h s k
section SX7d
variable {sc : xS} {d : Nat} {T : Nat → Nat × Nat} {z : Nat × Nat} {V : Nat → Nat → Int} {J : Nat → Nat → Int64} {R : Nat → Nat → Option Nat}
theorem m_sets {a : Nat} {i b v l m : Int} (hM : xMo T R) (hA : T a = (32, 42)) (hne : ¬ a = 56) (hi : b = 1 → 0 ≤ i ∧ i < 42) (hb : b = 0 ∨ b = 1) (hv : (-2147483648 ≤ v ∧ v ≤ 2147483647)) (hl : (-2147483648 ≤ l ∧ l ≤ 2147483647)) (hm : (-2147483648 ≤ m ∧ m ≤ 2147483647)) :
    X sc (d + 2) 135 [.ref 56, .ref a, xw i, xw b, xw v, xw l, xw m] (T, z, xv V, J, R) = if b = 0 then some (.inl (some (xw 0)), (T, z, xv (xup2 V 56 28 1), J, R)) else if l ≤ v ∧ v ≤ m then some (.inl (some (xw (V a i.toNat))), (T, z, xv (xup2 (xup2 V 56 28 0) a i.toNat v), J, R)) else some (.inl (some (xw 0)), (T, z, xv (xup2 V 56 28 2), J, R)) := by
  have t1 : T a = (32, (T a).2) := by rw [hA]
  have i1 : (T a).2 = 42 := by rw [hA]
  by_cases c1 : b = 0
  · simp (disch := (first | omega | assumption | exact iAnd_in | exact iShr_in | exact jCmp_in | (simp (disch := omega) only [xup2_o, xup2_i, xup2_j]; omega))) only [↓if_pos, ↓if_neg, xret_v, xret_n, xup2_o, xup2_i, xup2_j, eX7_sets, bX7_sets_0, bX7_sets_5, bX7_sets_9, bX7_sets_18, bX7_sets_21, bX7_sets_25, n_sets_26 hM, bX7_sets_29, bX7_sets_32, bX7_sets_34, m_isIn, m_fails hM]
  · have hi2 := hi (by omega)
    by_cases c2 : l ≤ v ∧ v ≤ m <;> simp (disch := (first | omega | assumption | exact iAnd_in | exact iShr_in | exact jCmp_in | (simp (disch := omega) only [xup2_o, xup2_i, xup2_j]; omega))) only [↓if_pos, ↓if_neg, xret_v, xret_n, xup2_o, xup2_i, xup2_j, eX7_sets, bX7_sets_0, bX7_sets_5, bX7_sets_9, bX7_sets_18, bX7_sets_21, bX7_sets_25, n_sets_26 hM, bX7_sets_29, bX7_sets_32, bX7_sets_34, m_isIn, m_fails hM]
theorem m_back {h k v : Int} (hM : xMo T R) (hh : (-2147483648 ≤ h ∧ h ≤ 2147483647)) (hk : (-2147483648 ≤ k ∧ k ≤ 2147483647)) (hv : (-2147483648 ≤ v ∧ v ≤ 2147483647)) :
    X sc (d + 3) 136 [.ref 56, xw h, xw k, xw v] (T, z, xv V, J, R) = if (0 ≤ h ∧ h < 6) ∧ (0 ≤ k ∧ k < 7) then (if -50 ≤ v ∧ v ≤ 50 then some (.inl (some (xw (V 74 (7 * h + k).toNat))), (T, z, xv (xup2 (xup2 V 56 28 0) 74 (7 * h + k).toNat v), J, R)) else some (.inl (some (xw 0)), (T, z, xv (xup2 V 56 28 2), J, R))) else some (.inl (some (xw 0)), (T, z, xv (xup2 V 56 28 1), J, R)) := by
  by_cases c1 : 0 ≤ h ∧ h < 6
  · by_cases c2 : 0 ≤ k ∧ k < 7
    · by_cases c3 : -50 ≤ v ∧ v ≤ 50 <;> simp (disch := (first | omega | assumption | exact iAnd_in | exact iShr_in | exact jCmp_in | (simp (disch := omega) only [xup2_o, xup2_i, xup2_j]; omega))) only [↓if_pos, ↓if_neg, xret_v, xret_n, xup2_o, xup2_i, xup2_j, eX7_back, n_back_0 hM, bX7_back_15, bX7_back_18, bX7_back_22, bX7_back_25, bX7_back_29, n_back_30 hM, bX7_back_38, m_isHorse, m_isSection, m_sets hM (kt_20 hM) (by decide)]
    · simp (disch := (first | omega | assumption | exact iAnd_in | exact iShr_in | exact jCmp_in | (simp (disch := omega) only [xup2_o, xup2_i, xup2_j]; omega))) only [↓if_pos, ↓if_neg, xret_v, xret_n, xup2_o, xup2_i, xup2_j, eX7_back, n_back_0 hM, bX7_back_15, bX7_back_18, bX7_back_22, bX7_back_25, bX7_back_29, n_back_30 hM, bX7_back_38, m_isHorse, m_isSection, m_sets hM (kt_20 hM) (by decide)]
  · simp (disch := (first | omega | assumption | exact iAnd_in | exact iShr_in | exact jCmp_in | (simp (disch := omega) only [xup2_o, xup2_i, xup2_j]; omega))) only [↓if_pos, ↓if_neg, xret_v, xret_n, xup2_o, xup2_i, xup2_j, eX7_back, n_back_0 hM, bX7_back_15, bX7_back_18, bX7_back_22, bX7_back_25, bX7_back_29, n_back_30 hM, bX7_back_38, m_isHorse, m_isSection, m_sets hM (kt_20 hM) (by decide)]
theorem m_tree {h k v : Int} (hM : xMo T R) (hh : (-2147483648 ≤ h ∧ h ≤ 2147483647)) (hk : (-2147483648 ≤ k ∧ k ≤ 2147483647)) (hv : (-2147483648 ≤ v ∧ v ≤ 2147483647)) :
    X sc (d + 3) 137 [.ref 56, xw h, xw k, xw v] (T, z, xv V, J, R) = if (0 ≤ h ∧ h < 6) ∧ (0 ≤ k ∧ k < 7) then (if -50 ≤ v ∧ v ≤ 50 then some (.inl (some (xw (V 75 (7 * h + k).toNat))), (T, z, xv (xup2 (xup2 V 56 28 0) 75 (7 * h + k).toNat v), J, R)) else some (.inl (some (xw 0)), (T, z, xv (xup2 V 56 28 2), J, R))) else some (.inl (some (xw 0)), (T, z, xv (xup2 V 56 28 1), J, R)) := by
  by_cases c1 : 0 ≤ h ∧ h < 6
  · by_cases c2 : 0 ≤ k ∧ k < 7
    · by_cases c3 : -50 ≤ v ∧ v ≤ 50 <;> simp (disch := (first | omega | assumption | exact iAnd_in | exact iShr_in | exact jCmp_in | (simp (disch := omega) only [xup2_o, xup2_i, xup2_j]; omega))) only [↓if_pos, ↓if_neg, xret_v, xret_n, xup2_o, xup2_i, xup2_j, eX7_tree, n_tree_0 hM, bX7_tree_15, bX7_tree_18, bX7_tree_22, bX7_tree_25, bX7_tree_29, n_tree_30 hM, bX7_tree_38, m_isSaddle, m_isSection, m_sets hM (kt_21 hM) (by decide)]
    · simp (disch := (first | omega | assumption | exact iAnd_in | exact iShr_in | exact jCmp_in | (simp (disch := omega) only [xup2_o, xup2_i, xup2_j]; omega))) only [↓if_pos, ↓if_neg, xret_v, xret_n, xup2_o, xup2_i, xup2_j, eX7_tree, n_tree_0 hM, bX7_tree_15, bX7_tree_18, bX7_tree_22, bX7_tree_25, bX7_tree_29, n_tree_30 hM, bX7_tree_38, m_isSaddle, m_isSection, m_sets hM (kt_21 hM) (by decide)]
  · simp (disch := (first | omega | assumption | exact iAnd_in | exact iShr_in | exact jCmp_in | (simp (disch := omega) only [xup2_o, xup2_i, xup2_j]; omega))) only [↓if_pos, ↓if_neg, xret_v, xret_n, xup2_o, xup2_i, xup2_j, eX7_tree, n_tree_0 hM, bX7_tree_15, bX7_tree_18, bX7_tree_22, bX7_tree_25, bX7_tree_29, n_tree_30 hM, bX7_tree_38, m_isSaddle, m_isSection, m_sets hM (kt_21 hM) (by decide)]
theorem m_flock {h k v : Int} (hM : xMo T R) (hh : (-2147483648 ≤ h ∧ h ≤ 2147483647)) (hk : (-2147483648 ≤ k ∧ k ≤ 2147483647)) (hv : (-2147483648 ≤ v ∧ v ≤ 2147483647)) :
    X sc (d + 3) 138 [.ref 56, xw h, xw k, xw v] (T, z, xv V, J, R) = if (0 ≤ h ∧ h < 6) ∧ (0 ≤ k ∧ k < 7) then (if 0 ≤ v ∧ v ≤ 20 then some (.inl (some (xw (V 76 (7 * h + k).toNat))), (T, z, xv (xup2 (xup2 V 56 28 0) 76 (7 * h + k).toNat v), J, R)) else some (.inl (some (xw 0)), (T, z, xv (xup2 V 56 28 2), J, R))) else some (.inl (some (xw 0)), (T, z, xv (xup2 V 56 28 1), J, R)) := by
  by_cases c1 : 0 ≤ h ∧ h < 6
  · by_cases c2 : 0 ≤ k ∧ k < 7
    · by_cases c3 : 0 ≤ v ∧ v ≤ 20 <;> simp (disch := (first | omega | assumption | exact iAnd_in | exact iShr_in | exact jCmp_in | (simp (disch := omega) only [xup2_o, xup2_i, xup2_j]; omega))) only [↓if_pos, ↓if_neg, xret_v, xret_n, xup2_o, xup2_i, xup2_j, eX7_flock, n_flock_0 hM, bX7_flock_15, bX7_flock_18, bX7_flock_22, bX7_flock_25, bX7_flock_29, n_flock_30 hM, bX7_flock_37, m_isSaddle, m_isSection, m_sets hM (kt_22 hM) (by decide)]
    · simp (disch := (first | omega | assumption | exact iAnd_in | exact iShr_in | exact jCmp_in | (simp (disch := omega) only [xup2_o, xup2_i, xup2_j]; omega))) only [↓if_pos, ↓if_neg, xret_v, xret_n, xup2_o, xup2_i, xup2_j, eX7_flock, n_flock_0 hM, bX7_flock_15, bX7_flock_18, bX7_flock_22, bX7_flock_25, bX7_flock_29, n_flock_30 hM, bX7_flock_37, m_isSaddle, m_isSection, m_sets hM (kt_22 hM) (by decide)]
  · simp (disch := (first | omega | assumption | exact iAnd_in | exact iShr_in | exact jCmp_in | (simp (disch := omega) only [xup2_o, xup2_i, xup2_j]; omega))) only [↓if_pos, ↓if_neg, xret_v, xret_n, xup2_o, xup2_i, xup2_j, eX7_flock, n_flock_0 hM, bX7_flock_15, bX7_flock_18, bX7_flock_22, bX7_flock_25, bX7_flock_29, n_flock_30 hM, bX7_flock_37, m_isSaddle, m_isSection, m_sets hM (kt_22 hM) (by decide)]
theorem m_gap {h s k : Int} (hM : xMo T R) (hh : 0 ≤ h ∧ h < 6) (hs : 0 ≤ s ∧ s < 6) (hk : 0 ≤ k ∧ k < 7) :
    X sc (d + 1) 139 [.ref 56, xw h, xw s, xw k] (T, z, xv V, J, R) = some (.inl (some (xw (xGp V h s k))), (T, z, xv (V), J, R)) := by
  rw [eX7_gap, n_gap_0 hM (by omega) (by omega) (by omega)]; rfl
theorem m_pressureAt {h s dp k : Int} (hM : xMo T R) (hB : xMh V) (hh : 0 ≤ h ∧ h < 6) (hs : 0 ≤ s ∧ s < 6) (hd : -5000 ≤ dp ∧ dp ≤ 5000) (hk : 0 ≤ k ∧ k < 7) :
    X sc (d + 2) 140 [.ref 56, xw h, xw s, xw dp, xw k] (T, z, xv V, J, R) = some (.inl (some (xw (4 * max 0 (dp - xGp V h s k)))), (T, z, xv (V), J, R)) := by
  have hg := xGp_in hB hh hs hk
  rw [eX7_pressureAt, n_pressureAt_0 hM, m_gap hM hh hs hk, xret_v, bX7_pressureAt_9 (by omega)]
  by_cases c : dp - xGp V h s k ≤ 0
  · rw [if_pos c, bX7_pressureAt_24, bX7_pressureAt_25, show max 0 (dp - xGp V h s k) = 0 by omega]; rfl
  · rw [if_neg c, bX7_pressureAt_17, bX7_pressureAt_25, show max 0 (dp - xGp V h s k) = dp - xGp V h s k by omega]
theorem m_depth_in {h s w dp : Int} (hM : xMo T R) (hB : xMh V) (hh : 0 ≤ h ∧ h < 6) (hs : 0 ≤ s ∧ s < 6) (hd : -5000 ≤ dp ∧ dp ≤ 5000) :
    ∀ (m k : Nat) (n : Int), k + m = 7 →
    XR sc (d + 2) 141 23 [some (.ref 56), some (xw h), some (xw s), some (xw w), some (xw dp), some (xw n), some (xw k)] [] (T, z, xv V, J, R) = XR sc (d + 2) 141 8 [some (.ref 56), some (xw h), some (xw s), some (xw w), some (xw dp), some (xw (n + xTo (xGG V h s) dp m k)), some (xw 7)] [] (T, z, xv V, J, R) := by
  intro m
  induction m with
  | zero =>
    intro k n hk
    obtain rfl : k = 7 := by omega
    rw [bX7_depthOf_23 (by omega), if_pos (by omega), bX7_depthOf_51, xTo, Int.add_zero]; rfl
  | succ m ih =>
    intro k n hk
    rw [bX7_depthOf_23 (by omega), if_neg (by omega), n_depthOf_30 hM, m_pressureAt hM hB hh hs hd (by omega), xret_v, bX7_depthOf_42, show (k : Int) + 1 = ((k + 1 : Nat) : Int) by omega, ih (k + 1) _ (by omega), xTo, Int.add_assoc]
    rfl
theorem m_depth_loop {h s w : Int} (hM : xMo T R) (hB : xMh V) (hh : 0 ≤ h ∧ h < 6) (hs : 0 ≤ s ∧ s < 6) (hw : 1 ≤ w ∧ w ≤ 3000) :
    ∀ (m : Nat) (dp : Int) (o6 : Option Value), dp + m = 4000 → -200 ≤ dp → xTo (xGG V h s) (dp - 1) 7 0 < w →
    ∃ r, -5000 ≤ r ∧ r ≤ 5000 ∧ xDe (xGG V h s) w r ∧ XR sc (d + 2) 141 8 [some (.ref 56), some (xw h), some (xw s), some (xw w), some (xw dp), some (xw (xTo (xGG V h s) dp 7 0)), o6] [] (T, z, xv V, J, R) = some (.inl (some (xw (r))), (T, z, xv (V), J, R)) := by
  have hG : ∀ k, k < 7 → -1000 ≤ xGG V h s k ∧ xGG V h s k ≤ 1000 := by
    intro k hk
    have := xGp_in (k := (k : Int)) hB hh hs (by omega)
    unfold xGG
    omega
  intro m
  induction m with
  | zero =>
    intro dp o6 hdp h2 hprev
    have h1 := xTo_one (G := xGG V h s) (p := dp) 7 0 0 (by omega) (by omega)
    have h3 := xTo_in hG (dp := dp) (by omega) 7 0 (by omega)
    have h0 := hG 0 (by omega)
    refine ⟨dp, by omega, by omega, ⟨hprev, by omega⟩, ?_⟩
    rw [bX7_depthOf_8 (by omega) (by omega), if_pos (by omega), bX7_depthOf_54]
  | succ m ih =>
    intro dp o6 hdp h2 hprev
    have h3 := xTo_in hG (dp := dp) (by omega) 7 0 (by omega)
    by_cases c : w ≤ xTo (xGG V h s) dp 7 0
    · refine ⟨dp, by omega, by omega, ⟨hprev, c⟩, ?_⟩
      rw [bX7_depthOf_8 (by omega) (by omega), if_pos c, bX7_depthOf_54]
    · obtain ⟨r, r1, r2, r3, r4⟩ := ih (dp + 1) (some (xw 7)) (by omega) (by omega) (by rw [Int.add_sub_cancel]; omega)
      refine ⟨r, r1, r2, r3, ?_⟩
      have key := m_depth_in (sc := sc) (d := d) (z := z) (J := J) (w := w) (dp := dp + 1) hM hB hh hs (by omega) 7 0 0 rfl
      rw [Int.zero_add] at key
      rw [bX7_depthOf_8 (by omega) (by omega), if_neg c, bX7_depthOf_14]
      exact key.trans r4
theorem m_depthOf {h s w : Int} (hM : xMo T R) (hB : xMh V) (hh : 0 ≤ h ∧ h < 6) (hs : 0 ≤ s ∧ s < 6) (hw : 1 ≤ w ∧ w ≤ 3000) :
    ∃ r, -5000 ≤ r ∧ r ≤ 5000 ∧ xDe (xGG V h s) w r ∧ X sc (d + 3) 141 [.ref 56, xw h, xw s, xw w] (T, z, xv V, J, R) = some (.inl (some (xw (r))), (T, z, xv (V), J, R)) := by
  have hG : ∀ k, 0 ≤ k → k < 0 + 7 → -200 ≤ xGG V h s k := by
    intro k _ hk
    have := xGp_in (k := (k : Int)) hB hh hs (by omega)
    unfold xGG
    omega
  have z1 := xTo_zero (G := xGG V h s) (p := -200) 7 0 hG
  have z2 := xTo_zero (G := xGG V h s) (p := -200 - 1) 7 0 (fun k h1 h2 => by have := hG k h1 h2; omega)
  obtain ⟨r, r1, r2, r3, r4⟩ := m_depth_loop (sc := sc) (d := d) (z := z) (J := J) (w := w) hM hB hh hs hw 4200 (-200) none (by omega) (by omega) (by rw [z2]; omega)
  refine ⟨r, r1, r2, r3, ?_⟩
  rw [z1] at r4
  rw [eX7_depthOf, bX7_depthOf_0]
  exact r4
theorem xMh_f {k : Int} (hB : xMh V) : xMh (xup2 V 56 28 k) := by
  intro j hj
  have := hB j hj
  rw [xup2_o (by decide), xup2_o (by decide), xup2_o (by decide)]
  exact this
theorem xGG_f {k h s : Int} : xGG (xup2 V 56 28 k) h s = xGG V h s := by
  funext j
  unfold xGG xGp
  rw [xup2_o (by decide), xup2_o (by decide), xup2_o (by decide)]
theorem m_sinks {h s w : Int} (hM : xMo T R) (hB : xMh V) (ok : (0 ≤ h ∧ h < 6) ∧ (0 ≤ s ∧ s < 6)) (hw : 1 ≤ w ∧ w ≤ 3000) :
    ∃ r, -5000 ≤ r ∧ r ≤ 5000 ∧ xDe (xGG V h s) w r ∧ X sc (d + 4) 144 [.ref 56, xw h, xw s, xw w] (T, z, xv V, J, R) = some (.inl (some (xw (r))), (T, z, xv (xup2 V 56 28 0), J, R)) := by
  obtain ⟨r, r1, r2, r3, r4⟩ := m_depthOf (sc := sc) (d := d) (T := T) (z := z) (V := xup2 V 56 28 0) (J := J) (R := R) (w := w) hM (xMh_f hB) ok.1 ok.2 hw
  rw [xGG_f] at r3
  refine ⟨r, r1, r2, r3, ?_⟩
  simp (disch := (first | omega | assumption | exact iAnd_in | exact iShr_in | exact jCmp_in | (simp (disch := omega) only [xup2_o, xup2_i, xup2_j]; omega))) only [↓if_pos, ↓if_neg, xret_v, xret_n, xup2_o, xup2_i, xup2_j, eX7_sinks, bX7_sinks_0, n_sinks_7 hM, bX7_sinks_11, bX7_sinks_14, n_sinks_18 hM, bX7_sinks_25, m_isWeight, m_missesSaddle hM, r4]
theorem m_sinks_x {h s w : Int} (hM : xMo T R) (hh : (-2147483648 ≤ h ∧ h ≤ 2147483647)) (hs : (-2147483648 ≤ s ∧ s ≤ 2147483647)) (hw : (-2147483648 ≤ w ∧ w ≤ 2147483647)) (no : ¬ (((0 ≤ h ∧ h < 6) ∧ (0 ≤ s ∧ s < 6)) ∧ (1 ≤ w ∧ w ≤ 3000))) :
    X sc (d + 4) 144 [.ref 56, xw h, xw s, xw w] (T, z, xv V, J, R) = if (0 ≤ h ∧ h < 6) ∧ (0 ≤ s ∧ s < 6) then some (.inl (some (xw 0)), (T, z, xv (xup2 V 56 28 2), J, R)) else some (.inl (some (xw 0)), (T, z, xv (xup2 V 56 28 1), J, R)) := by
  by_cases c : (0 ≤ h ∧ h < 6) ∧ (0 ≤ s ∧ s < 6)
  · simp (disch := (first | omega | assumption | exact iAnd_in | exact iShr_in | exact jCmp_in | (simp (disch := omega) only [xup2_o, xup2_i, xup2_j]; omega))) only [↓if_pos, ↓if_neg, xret_v, xret_n, xup2_o, xup2_i, xup2_j, eX7_sinks, bX7_sinks_0, n_sinks_7 hM, bX7_sinks_11, bX7_sinks_14, n_sinks_18 hM, bX7_sinks_25, m_isWeight, m_missesSaddle hM]
  · by_cases c2 : 1 ≤ w ∧ w ≤ 3000 <;> simp (disch := (first | omega | assumption | exact iAnd_in | exact iShr_in | exact jCmp_in | (simp (disch := omega) only [xup2_o, xup2_i, xup2_j]; omega))) only [↓if_pos, ↓if_neg, xret_v, xret_n, xup2_o, xup2_i, xup2_j, eX7_sinks, bX7_sinks_0, n_sinks_7 hM, bX7_sinks_11, bX7_sinks_14, n_sinks_18 hM, bX7_sinks_25, m_isWeight, m_missesSaddle hM]
theorem m_sinksAnew {h s w : Int} (hM : xMo T R) (hB : xMh V) (ok : (0 ≤ h ∧ h < 6) ∧ (0 ≤ s ∧ s < 6)) (hw : 1 ≤ w ∧ w ≤ 3000) :
    ∃ r, -5000 ≤ r ∧ r ≤ 5000 ∧ xDe (xGG V h s) w r ∧ X sc (d + 5) 145 [.ref 56, xw h, xw s, xw w] (T, z, xv V, J, R) = some (.inl (some (xw (r))), (T, z, xv (xup2 V 56 28 0), J, R)) := by
  obtain ⟨r, r1, r2, r3, r4⟩ := m_sinks (sc := sc) (d := d) (z := z) (J := J) hM hB ok hw
  exact ⟨r, r1, r2, r3, by rw [eX7_sinksAnew, n_sinksAnew_0 hM, r4, xret_v, bX7_sinksAnew_7]⟩
theorem m_sinksAnew_x {h s w : Int} (hM : xMo T R) (hh : (-2147483648 ≤ h ∧ h ≤ 2147483647)) (hs : (-2147483648 ≤ s ∧ s ≤ 2147483647)) (hw : (-2147483648 ≤ w ∧ w ≤ 2147483647)) (no : ¬ (((0 ≤ h ∧ h < 6) ∧ (0 ≤ s ∧ s < 6)) ∧ (1 ≤ w ∧ w ≤ 3000))) :
    X sc (d + 5) 145 [.ref 56, xw h, xw s, xw w] (T, z, xv V, J, R) = if (0 ≤ h ∧ h < 6) ∧ (0 ≤ s ∧ s < 6) then some (.inl (some (xw 0)), (T, z, xv (xup2 V 56 28 2), J, R)) else some (.inl (some (xw 0)), (T, z, xv (xup2 V 56 28 1), J, R)) := by
  rw [eX7_sinksAnew, n_sinksAnew_0 hM, m_sinks_x hM hh hs hw no]
  split <;> rw [xret_v, bX7_sinksAnew_7]
theorem m_pressure {h s w k : Int} (hM : xMo T R) (hB : xMh V) (ok : (0 ≤ h ∧ h < 6) ∧ (0 ≤ s ∧ s < 6)) (hw : 1 ≤ w ∧ w ≤ 3000) (hk : 0 ≤ k ∧ k < 7) :
    ∃ r, -5000 ≤ r ∧ r ≤ 5000 ∧ xDe (xGG V h s) w r ∧ X sc (d + 4) 146 [.ref 56, xw h, xw s, xw w, xw k] (T, z, xv V, J, R) = some (.inl (some (xw (4 * max 0 (r - xGp (xup2 V 56 28 0) h s k)))), (T, z, xv (xup2 V 56 28 0), J, R)) := by
  obtain ⟨r, r1, r2, r3, r4⟩ := m_depthOf (sc := sc) (d := d) (T := T) (z := z) (V := xup2 V 56 28 0) (J := J) (R := R) (w := w) hM (xMh_f hB) ok.1 ok.2 hw
  rw [xGG_f] at r3
  refine ⟨r, r1, r2, r3, ?_⟩
  simp (disch := (first | omega | assumption | exact iAnd_in | exact iShr_in | exact jCmp_in | (simp (disch := omega) only [xup2_o, xup2_i, xup2_j]; omega))) only [↓if_pos, ↓if_neg, xret_v, xret_n, xup2_o, xup2_i, xup2_j, eX7_pressure, bX7_pressure_0, bX7_pressure_7, n_pressure_12 hM, bX7_pressure_15, bX7_pressure_18, n_pressure_22 hM, n_pressure_32 hM, bX7_pressure_37, m_isWeight, m_isSection, m_missesSaddle hM, r4, m_pressureAt hM (xMh_f hB) ok.1 ok.2]
theorem m_pressure_x {h s w k : Int} (hM : xMo T R) (hh : (-2147483648 ≤ h ∧ h ≤ 2147483647)) (hs : (-2147483648 ≤ s ∧ s ≤ 2147483647)) (hw : (-2147483648 ≤ w ∧ w ≤ 2147483647)) (hk : (-2147483648 ≤ k ∧ k ≤ 2147483647)) (no : ¬ (((0 ≤ k ∧ k < 7) ∧ (0 ≤ h ∧ h < 6) ∧ (0 ≤ s ∧ s < 6)) ∧ (1 ≤ w ∧ w ≤ 3000))) :
    X sc (d + 4) 146 [.ref 56, xw h, xw s, xw w, xw k] (T, z, xv V, J, R) = if (0 ≤ k ∧ k < 7) ∧ (0 ≤ h ∧ h < 6) ∧ (0 ≤ s ∧ s < 6) then some (.inl (some (xw 0)), (T, z, xv (xup2 V 56 28 2), J, R)) else some (.inl (some (xw 0)), (T, z, xv (xup2 V 56 28 1), J, R)) := by
  by_cases c : (0 ≤ h ∧ h < 6) ∧ (0 ≤ s ∧ s < 6)
  · by_cases c2 : 1 ≤ w ∧ w ≤ 3000 <;> by_cases c3 : 0 ≤ k ∧ k < 7 <;> first | (exfalso; omega) | simp (disch := (first | omega | assumption | exact iAnd_in | exact iShr_in | exact jCmp_in | (simp (disch := omega) only [xup2_o, xup2_i, xup2_j]; omega))) only [↓if_pos, ↓if_neg, xret_v, xret_n, xup2_o, xup2_i, xup2_j, eX7_pressure, bX7_pressure_0, bX7_pressure_7, n_pressure_12 hM, bX7_pressure_15, bX7_pressure_18, n_pressure_22 hM, n_pressure_32 hM, bX7_pressure_37, m_isWeight, m_isSection, m_missesSaddle hM]
  · by_cases c2 : 1 ≤ w ∧ w ≤ 3000 <;> by_cases c3 : 0 ≤ k ∧ k < 7 <;> simp (disch := (first | omega | assumption | exact iAnd_in | exact iShr_in | exact jCmp_in | (simp (disch := omega) only [xup2_o, xup2_i, xup2_j]; omega))) only [↓if_pos, ↓if_neg, xret_v, xret_n, xup2_o, xup2_i, xup2_j, eX7_pressure, bX7_pressure_0, bX7_pressure_7, n_pressure_12 hM, bX7_pressure_15, bX7_pressure_18, n_pressure_22 hM, n_pressure_32 hM, bX7_pressure_37, m_isWeight, m_isSection, m_missesSaddle hM]
/-- the sections that bear, as bits -/
def xMq (G : Nat → Int) (dp : Int) : Nat → Nat → Int → Int
  | 0, _, b => b
  | m + 1, k, b => xMq G dp m (k + 1) (iOr b (if 4 * max 0 (dp - G k) ≤ 0 then 0 else iShl 1 k))
/-- the bridges out of those -/
def xMx (s : Int) : Nat → Nat → Int → Int
  | 0, _, b => b
  | m + 1, k, b => xMx s m (k + 1) (iOr b (if iAnd (iShr s k) 1 = 0 ∧ ¬ iAnd s (iShl 1 k - 1) = 0 ∧ ¬ iShr s k = 0 then iShl 1 k else 0))
theorem m_bridges_1 {h s dp : Int} {o3 o7 o8 : Option Value} (hM : xMo T R) (hB : xMh V) (hh : 0 ≤ h ∧ h < 6) (hs : 0 ≤ s ∧ s < 6) (hd : -5000 ≤ dp ∧ dp ≤ 5000) :
    ∀ (m k : Nat) (b : Int), k + m = 7 →
    XR sc (d + 2) 147 31 [some (.ref 56), some (xw h), some (xw s), o3, some (xw dp), some (xw b), some (xw k), o7, o8] [] (T, z, xv V, J, R) = XR sc (d + 2) 147 76 [some (.ref 56), some (xw h), some (xw s), o3, some (xw dp), some (xw (xMq (xGG V h s) dp m k b)), some (xw 0), some (xw 0), o8] [] (T, z, xv V, J, R) := by
  intro m
  induction m with
  | zero =>
    intro k b hk
    rw [bX7_bridges_31 (by omega), if_pos (by omega), bX7_bridges_70, xMq]
  | succ m ih =>
    intro k b hk
    have hg := xGp_in (k := (k : Int)) hB hh hs (by omega)
    rw [bX7_bridges_31 (by omega), if_neg (by omega), n_bridges_38 hM, m_pressureAt hM hB hh hs hd (by omega), xret_v, bX7_bridges_50 (by omega), xMq]
    show _ = XR sc (d + 2) 147 76 [some (.ref 56), some (xw h), some (xw s), o3, some (xw dp), some (xw (xMq (xGG V h s) dp m (k + 1) (iOr b (if 4 * max 0 (dp - xGp V h s k) ≤ 0 then 0 else iShl 1 k)))), some (xw 0), some (xw 0), o8] [] (T, z, xv V, J, R)
    by_cases c : 4 * max 0 (dp - xGp V h s k) ≤ 0
    · rw [if_pos c, if_pos c, bX7_bridges_60, bX7_bridges_61, show (k : Int) + 1 = ((k + 1 : Nat) : Int) by omega, ih (k + 1) _ (by omega)]
    · rw [if_neg c, if_neg c, bX7_bridges_53, bX7_bridges_61, show (k : Int) + 1 = ((k + 1 : Nat) : Int) by omega, ih (k + 1) _ (by omega)]
theorem m_bridges_2 {s : Int} {o0 o1 o2 o3 o4 : Option Value} :
    ∀ (m k : Nat) (b : Int) (o8 : Option Value), k + m = 7 →
    XR sc d 147 76 [o0, o1, o2, o3, o4, some (xw s), some (xw b), some (xw k), o8] [] (T, z, xv V, J, R) = some (.inl (some (xw (xMx s m k b))), (T, z, xv (V), J, R)) := by
  intro m
  induction m with
  | zero =>
    intro k b o8 hk
    rw [bX7_bridges_76 (by omega), if_pos (by omega), bX7_bridges_144, xMx]
  | succ m ih =>
    intro k b o8 hk
    rw [bX7_bridges_76 (by omega), if_neg (by omega), bX7_bridges_83 (io_in _), xMx]
    have no : ∀ o8 : Option Value, XR sc d 147 117 [o0, o1, o2, o3, o4, some (xw s), some (xw b), some (xw k), o8] [] (T, z, xv V, J, R) = some (.inl (some (xw (xMx s m (k + 1) (iOr b 0)))), (T, z, xv (V), J, R)) := by
      intro o8
      rw [bX7_bridges_117, bX7_bridges_118 (by decide), if_pos rfl, bX7_bridges_134, bX7_bridges_135, show (k : Int) + 1 = ((k + 1 : Nat) : Int) by omega, ih (k + 1) _ _ (by omega)]
    by_cases c1 : iAnd (iShr s k) 1 = 0
    · rw [if_pos c1, bX7_bridges_93 (io_in _)]
      by_cases c2 : iAnd s (iShl 1 k - 1) = 0
      · rw [if_pos c2, no, if_neg (fun q => q.2.1 c2)]
      · rw [if_neg c2, bX7_bridges_105 (io_in _)]
        by_cases c3 : iShr s k = 0
        · rw [if_pos c3, no, if_neg (fun q => q.2.2 c3)]
        · rw [if_neg c3, bX7_bridges_113, bX7_bridges_118 (by decide), if_neg (by decide), bX7_bridges_127, bX7_bridges_135, show (k : Int) + 1 = ((k + 1 : Nat) : Int) by omega, ih (k + 1) _ _ (by omega), if_pos ⟨c1, c2, c3⟩]
    · rw [if_neg c1, no, if_neg (fun q => c1 q.1)]
theorem m_bridges {h s w : Int} (hM : xMo T R) (hB : xMh V) (ok : (0 ≤ h ∧ h < 6) ∧ (0 ≤ s ∧ s < 6)) (hw : 1 ≤ w ∧ w ≤ 3000) :
    ∃ r, -5000 ≤ r ∧ r ≤ 5000 ∧ xDe (xGG V h s) w r ∧ X sc (d + 4) 147 [.ref 56, xw h, xw s, xw w] (T, z, xv V, J, R) = some (.inl (some (xw (xMx (xMq (xGG V h s) r 7 0 0) 7 0 0))), (T, z, xv (xup2 V 56 28 0), J, R)) := by
  obtain ⟨r, r1, r2, r3, r4⟩ := m_depthOf (sc := sc) (d := d) (T := T) (z := z) (V := xup2 V 56 28 0) (J := J) (R := R) (w := w) hM (xMh_f hB) ok.1 ok.2 hw
  have k1 := m_bridges_1 (sc := sc) (d := d + 1) (T := T) (z := z) (V := xup2 V 56 28 0) (J := J) (R := R) (dp := r) (o3 := some (xw w)) (o7 := none) (o8 := none) hM (xMh_f hB) ok.1 ok.2 (by omega) 7 0 0 rfl
  have k2 := m_bridges_2 (sc := sc) (d := d + 3) (T := T) (z := z) (V := xup2 V 56 28 0) (J := J) (R := R) (s := xMq (xGG (xup2 V 56 28 0) h s) r 7 0 0) (o0 := some (.ref 56)) (o1 := some (xw h)) (o2 := some (xw s)) (o3 := some (xw w)) (o4 := some (xw r)) 7 0 0 none rfl
  rw [xGG_f] at r3 k1 k2
  refine ⟨r, r1, r2, r3, ?_⟩
  simp (disch := (first | omega | assumption | exact iAnd_in | exact iShr_in | exact jCmp_in | (simp (disch := omega) only [xup2_o, xup2_i, xup2_j]; omega))) only [↓if_pos, ↓if_neg, xret_v, xret_n, xup2_o, xup2_i, xup2_j, eX7_bridges, bX7_bridges_0, n_bridges_7 hM, bX7_bridges_11, bX7_bridges_14, n_bridges_16 hM, bX7_bridges_23, n_bridges_38 hM, bX7_bridges_50, bX7_bridges_53, bX7_bridges_60, bX7_bridges_61, bX7_bridges_70, bX7_bridges_83, bX7_bridges_93, bX7_bridges_105, bX7_bridges_113, bX7_bridges_117, bX7_bridges_118, bX7_bridges_127, bX7_bridges_134, bX7_bridges_135, bX7_bridges_144, m_isWeight, m_missesSaddle hM, r4]
  exact k1.trans k2
theorem m_bridges_x {h s w : Int} (hM : xMo T R) (hh : (-2147483648 ≤ h ∧ h ≤ 2147483647)) (hs : (-2147483648 ≤ s ∧ s ≤ 2147483647)) (hw : (-2147483648 ≤ w ∧ w ≤ 2147483647)) (no : ¬ (((0 ≤ h ∧ h < 6) ∧ (0 ≤ s ∧ s < 6)) ∧ (1 ≤ w ∧ w ≤ 3000))) :
    X sc (d + 4) 147 [.ref 56, xw h, xw s, xw w] (T, z, xv V, J, R) = if (0 ≤ h ∧ h < 6) ∧ (0 ≤ s ∧ s < 6) then some (.inl (some (xw 0)), (T, z, xv (xup2 V 56 28 2), J, R)) else some (.inl (some (xw 0)), (T, z, xv (xup2 V 56 28 1), J, R)) := by
  by_cases c : (0 ≤ h ∧ h < 6) ∧ (0 ≤ s ∧ s < 6)
  · simp (disch := (first | omega | assumption | exact iAnd_in | exact iShr_in | exact jCmp_in | (simp (disch := omega) only [xup2_o, xup2_i, xup2_j]; omega))) only [↓if_pos, ↓if_neg, xret_v, xret_n, xup2_o, xup2_i, xup2_j, eX7_bridges, bX7_bridges_0, n_bridges_7 hM, bX7_bridges_11, bX7_bridges_14, n_bridges_16 hM, bX7_bridges_23, n_bridges_38 hM, bX7_bridges_50, bX7_bridges_53, bX7_bridges_60, bX7_bridges_61, bX7_bridges_70, bX7_bridges_83, bX7_bridges_93, bX7_bridges_105, bX7_bridges_113, bX7_bridges_117, bX7_bridges_118, bX7_bridges_127, bX7_bridges_134, bX7_bridges_135, bX7_bridges_144, m_isWeight, m_missesSaddle hM]
  · by_cases c2 : 1 ≤ w ∧ w ≤ 3000 <;> simp (disch := (first | omega | assumption | exact iAnd_in | exact iShr_in | exact jCmp_in | (simp (disch := omega) only [xup2_o, xup2_i, xup2_j]; omega))) only [↓if_pos, ↓if_neg, xret_v, xret_n, xup2_o, xup2_i, xup2_j, eX7_bridges, bX7_bridges_0, n_bridges_7 hM, bX7_bridges_11, bX7_bridges_14, n_bridges_16 hM, bX7_bridges_23, n_bridges_38 hM, bX7_bridges_50, bX7_bridges_53, bX7_bridges_60, bX7_bridges_61, bX7_bridges_70, bX7_bridges_83, bX7_bridges_93, bX7_bridges_105, bX7_bridges_113, bX7_bridges_117, bX7_bridges_118, bX7_bridges_127, bX7_bridges_134, bX7_bridges_135, bX7_bridges_144, m_isWeight, m_missesSaddle hM]
end SX7d
