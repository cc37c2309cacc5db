/-! what the model's small methods do -/
section SX7a
variable {sc : xS} {d : Nat} {T : Nat → Nat × Nat} {z : Nat × Nat} {V : Nat → Nat → Int} {J : Nat → Nat → Int64} {R : Nat → Nat → Option Nat}
theorem m_isIn {x l m : Int} (hx : (-2147483648 ≤ x ∧ x ≤ 2147483647)) (hl : (-2147483648 ≤ l ∧ l ≤ 2147483647)) (hm : (-2147483648 ≤ m ∧ m ≤ 2147483647)) :
    X sc (d + 1) 94 [xw x, xw l, xw m] (T, z, xv V, J, R) = some (.inl (some (xw (if l ≤ x ∧ x ≤ m then 1 else 0))), (T, z, xv (V), J, R)) := by
  rw [eX7_isIn, bX7_isIn_0 hx hl]
  by_cases c : x < l
  · rw [if_pos c, bX7_isIn_14, bX7_isIn_15 (by decide), if_neg (by omega)]
  · rw [if_neg c, bX7_isIn_5 hx hm]
    by_cases c2 : m < x
    · rw [if_pos c2, bX7_isIn_14, bX7_isIn_15 (by decide), if_neg (by omega)]
    · rw [if_neg c2, bX7_isIn_10, bX7_isIn_15 (by decide), if_pos (by omega)]
theorem m_fails {k : Int} (hM : xMo T R) (hk : 0 ≤ k ∧ k ≤ 3) :
    X sc (d + 1) 93 [.ref 56, xw k] (T, z, xv V, J, R) = some (.inl (some (xw (if k ≤ 0 then 0 else 1))), (T, z, xv (xup2 V 56 28 k), J, R)) := by
  by_cases c : k ≤ 0 <;> simp (disch := (first | omega | assumption | exact iAnd_in | exact iShr_in | exact jCmp_in | (simp (disch := omega) only [xup2_o, xup2_i, xup2_j]; omega))) only [↓if_pos, ↓if_neg, xret_v, xret_n, xup2_o, xup2_i, xup2_j, eX7_fails, n_fails_0 hM, bX7_fails_9, bX7_fails_13, bX7_fails_14]
theorem m_thrown (hM : xMo T R) : X sc (d + 1) 92 [.ref 56] (T, z, xv V, J, R) = some (.inl (some (xw (V 56 28))), (T, z, xv (V), J, R)) := by
  simp (disch := (first | omega | assumption | exact iAnd_in | exact iShr_in | exact jCmp_in | (simp (disch := omega) only [xup2_o, xup2_i, xup2_j]; omega))) only [↓if_pos, ↓if_neg, xret_v, xret_n, xup2_o, xup2_i, xup2_j, eX7_thrown, n_thrown_0 hM]
theorem m_isHide {x : Int} (hM : xMo T R) (hx : (-2147483648 ≤ x ∧ x ≤ 2147483647)) (h0 : 0 ≤ V 56 0 ∧ V 56 0 ≤ 8) :
    X sc (d + 2) 95 [.ref 56, xw x] (T, z, xv V, J, R) = some (.inl (some (xw (if 0 ≤ x ∧ x < V 56 0 then 1 else 0))), (T, z, xv (V), J, R)) := by
  by_cases c : 0 ≤ x ∧ x < V 56 0 <;> simp (disch := (first | omega | assumption | exact iAnd_in | exact iShr_in | exact jCmp_in | (simp (disch := omega) only [xup2_o, xup2_i, xup2_j]; omega))) only [↓if_pos, ↓if_neg, xret_v, xret_n, xup2_o, xup2_i, xup2_j, eX7_isHide, n_isHide_0 hM, bX7_isHide_11, m_isIn]
theorem m_isPart {x : Int} (hM : xMo T R) (hx : (-2147483648 ≤ x ∧ x ≤ 2147483647)) (h0 : 0 ≤ V 56 3 ∧ V 56 3 ≤ 40) :
    X sc (d + 2) 96 [.ref 56, xw x] (T, z, xv V, J, R) = some (.inl (some (xw (if 0 ≤ x ∧ x < V 56 3 then 1 else 0))), (T, z, xv (V), J, R)) := by
  by_cases c : 0 ≤ x ∧ x < V 56 3 <;> simp (disch := (first | omega | assumption | exact iAnd_in | exact iShr_in | exact jCmp_in | (simp (disch := omega) only [xup2_o, xup2_i, xup2_j]; omega))) only [↓if_pos, ↓if_neg, xret_v, xret_n, xup2_o, xup2_i, xup2_j, eX7_isPart, n_isPart_0 hM, bX7_isPart_11, m_isIn]
theorem m_isRing {x : Int} (hx : (-2147483648 ≤ x ∧ x ≤ 2147483647)) :
    X sc (d + 2) 97 [xw x] (T, z, xv V, J, R) = some (.inl (some (xw (if 0 ≤ x ∧ x < 8 then 1 else 0))), (T, z, xv (V), J, R)) := by
  by_cases c : 0 ≤ x ∧ x < 8 <;> simp (disch := (first | omega | assumption | exact iAnd_in | exact iShr_in | exact jCmp_in | (simp (disch := omega) only [xup2_o, xup2_i, xup2_j]; omega))) only [↓if_pos, ↓if_neg, xret_v, xret_n, xup2_o, xup2_i, xup2_j, eX7_isRing, bX7_isRing_0, bX7_isRing_7, m_isIn]
theorem m_isSquare {x y : Int} (hx : (-2147483648 ≤ x ∧ x ≤ 2147483647)) (hy : (-2147483648 ≤ y ∧ y ≤ 2147483647)) :
    X sc (d + 2) 98 [xw x, xw y] (T, z, xv V, J, R) = some (.inl (some (xw (if (0 ≤ x ∧ x < 12) ∧ (0 ≤ y ∧ y < 8) then 1 else 0))), (T, z, xv (V), J, R)) := by
  by_cases c : 0 ≤ x ∧ x < 12 <;> by_cases c2 : 0 ≤ y ∧ y < 8 <;> simp (disch := (first | omega | assumption | exact iAnd_in | exact iShr_in | exact jCmp_in | (simp (disch := omega) only [xup2_o, xup2_i, xup2_j]; omega))) only [↓if_pos, ↓if_neg, xret_v, xret_n, xup2_o, xup2_i, xup2_j, eX7_isSquare, bX7_isSquare_0, bX7_isSquare_7, bX7_isSquare_10, bX7_isSquare_17, bX7_isSquare_20, bX7_isSquare_24, bX7_isSquare_25, m_isIn]
theorem m_areSizes {x y : Int} (hx : (-2147483648 ≤ x ∧ x ≤ 2147483647)) (hy : (-2147483648 ≤ y ∧ y ≤ 2147483647)) :
    X sc (d + 2) 101 [xw x, xw y] (T, z, xv V, J, R) = some (.inl (some (xw (if (1 ≤ x ∧ x ≤ 12) ∧ (1 ≤ y ∧ y ≤ 8) then 1 else 0))), (T, z, xv (V), J, R)) := by
  by_cases c : 1 ≤ x ∧ x ≤ 12 <;> by_cases c2 : 1 ≤ y ∧ y ≤ 8 <;> simp (disch := (first | omega | assumption | exact iAnd_in | exact iShr_in | exact jCmp_in | (simp (disch := omega) only [xup2_o, xup2_i, xup2_j]; omega))) only [↓if_pos, ↓if_neg, xret_v, xret_n, xup2_o, xup2_i, xup2_j, eX7_areSizes, bX7_areSizes_0, bX7_areSizes_7, bX7_areSizes_10, bX7_areSizes_17, bX7_areSizes_20, bX7_areSizes_24, bX7_areSizes_25, m_isIn]
theorem m_isHorse {x : Int} (hx : (-2147483648 ≤ x ∧ x ≤ 2147483647)) :
    X sc (d + 2) 132 [xw x] (T, z, xv V, J, R) = some (.inl (some (xw (if 0 ≤ x ∧ x < 6 then 1 else 0))), (T, z, xv (V), J, R)) := by
  by_cases c : 0 ≤ x ∧ x < 6 <;> simp (disch := (first | omega | assumption | exact iAnd_in | exact iShr_in | exact jCmp_in | (simp (disch := omega) only [xup2_o, xup2_i, xup2_j]; omega))) only [↓if_pos, ↓if_neg, xret_v, xret_n, xup2_o, xup2_i, xup2_j, eX7_isHorse, bX7_isHorse_0, bX7_isHorse_6, m_isIn]
theorem m_isSaddle {x : Int} (hx : (-2147483648 ≤ x ∧ x ≤ 2147483647)) :
    X sc (d + 2) 133 [xw x] (T, z, xv V, J, R) = some (.inl (some (xw (if 0 ≤ x ∧ x < 6 then 1 else 0))), (T, z, xv (V), J, R)) := by
  by_cases c : 0 ≤ x ∧ x < 6 <;> simp (disch := (first | omega | assumption | exact iAnd_in | exact iShr_in | exact jCmp_in | (simp (disch := omega) only [xup2_o, xup2_i, xup2_j]; omega))) only [↓if_pos, ↓if_neg, xret_v, xret_n, xup2_o, xup2_i, xup2_j, eX7_isSaddle, bX7_isSaddle_0, bX7_isSaddle_6, m_isIn]
theorem m_isSection {x : Int} (hx : (-2147483648 ≤ x ∧ x ≤ 2147483647)) :
    X sc (d + 2) 134 [xw x] (T, z, xv V, J, R) = some (.inl (some (xw (if 0 ≤ x ∧ x < 7 then 1 else 0))), (T, z, xv (V), J, R)) := by
  by_cases c : 0 ≤ x ∧ x < 7 <;> simp (disch := (first | omega | assumption | exact iAnd_in | exact iShr_in | exact jCmp_in | (simp (disch := omega) only [xup2_o, xup2_i, xup2_j]; omega))) only [↓if_pos, ↓if_neg, xret_v, xret_n, xup2_o, xup2_i, xup2_j, eX7_isSection, bX7_isSection_0, bX7_isSection_7, m_isIn]
theorem m_isWeight {x : Int} (hx : (-2147483648 ≤ x ∧ x ≤ 2147483647)) :
    X sc (d + 2) 143 [xw x] (T, z, xv V, J, R) = some (.inl (some (xw (if 1 ≤ x ∧ x ≤ 3000 then 1 else 0))), (T, z, xv (V), J, R)) := by
  by_cases c : 1 ≤ x ∧ x ≤ 3000 <;> simp (disch := (first | omega | assumption | exact iAnd_in | exact iShr_in | exact jCmp_in | (simp (disch := omega) only [xup2_o, xup2_i, xup2_j]; omega))) only [↓if_pos, ↓if_neg, xret_v, xret_n, xup2_o, xup2_i, xup2_j, eX7_isWeight, bX7_isWeight_0, bX7_isWeight_8, m_isIn]
theorem m_missesSaddle {x y a b : Int} (hM : xMo T R) (hx : (-2147483648 ≤ x ∧ x ≤ 2147483647)) (hy : (-2147483648 ≤ y ∧ y ≤ 2147483647)) (ha : a = 0 ∨ a = 1) (hb : b = 0 ∨ b = 1) :
    X sc (d + 3) 142 [.ref 56, xw x, xw y, xw a, xw b] (T, z, xv V, J, R) = if (0 ≤ x ∧ x < 6) ∧ (0 ≤ y ∧ y < 6) ∧ b = 1 then (if a = 1 then some (.inl (some (xw (0))), (T, z, xv (xup2 V 56 28 0), J, R)) else some (.inl (some (xw (1))), (T, z, xv (xup2 V 56 28 2), J, R))) else some (.inl (some (xw (1))), (T, z, xv (xup2 V 56 28 1), J, R)) := by
  by_cases c : 0 ≤ x ∧ x < 6 <;> by_cases c2 : 0 ≤ y ∧ y < 6 <;> by_cases c3 : b = 0 <;> by_cases c4 : a = 0 <;> simp (disch := (first | omega | assumption | exact iAnd_in | exact iShr_in | exact jCmp_in | (simp (disch := omega) only [xup2_o, xup2_i, xup2_j]; omega))) only [↓if_pos, ↓if_neg, xret_v, xret_n, xup2_o, xup2_i, xup2_j, eX7_missesSaddle, bX7_missesSaddle_0, bX7_missesSaddle_5, bX7_missesSaddle_8, bX7_missesSaddle_12, bX7_missesSaddle_15, bX7_missesSaddle_20, bX7_missesSaddle_24, bX7_missesSaddle_28, bX7_missesSaddle_32, n_missesSaddle_33 hM, bX7_missesSaddle_36, m_isHorse, m_isSaddle, m_fails hM]
theorem m_missesShare {x y b : Int} (hM : xMo T R) (hx : (-2147483648 ≤ x ∧ x ≤ 2147483647)) (hy : (-2147483648 ≤ y ∧ y ≤ 2147483647)) (hb : (-2147483648 ≤ b ∧ b ≤ 2147483647)) :
    X sc (d + 3) 153 [.ref 56, xw x, xw y, xw b] (T, z, xv V, J, R) = if (0 ≤ x ∧ x < 6) ∧ (0 ≤ y ∧ y < 7) then (if 0 ≤ b ∧ b ≤ 2 then some (.inl (some (xw (0))), (T, z, xv (xup2 V 56 28 0), J, R)) else some (.inl (some (xw (1))), (T, z, xv (xup2 V 56 28 2), J, R))) else some (.inl (some (xw (1))), (T, z, xv (xup2 V 56 28 1), J, R)) := by
  by_cases c : 0 ≤ x ∧ x < 6 <;> by_cases c2 : 0 ≤ y ∧ y < 7 <;> by_cases c3 : 0 ≤ b ∧ b ≤ 2 <;> simp (disch := (first | omega | assumption | exact iAnd_in | exact iShr_in | exact jCmp_in | (simp (disch := omega) only [xup2_o, xup2_i, xup2_j]; omega))) only [↓if_pos, ↓if_neg, xret_v, xret_n, xup2_o, xup2_i, xup2_j, eX7_missesShare, bX7_missesShare_0, bX7_missesShare_5, bX7_missesShare_8, bX7_missesShare_12, bX7_missesShare_15, bX7_missesShare_19, bX7_missesShare_25, bX7_missesShare_28, bX7_missesShare_32, n_missesShare_33 hM, bX7_missesShare_36, m_isHorse, m_isSection, m_isIn, m_fails hM]
theorem m_hide {t : Int} (hM : xMo T R) (ht : (-2147483648 ≤ t ∧ t ≤ 2147483647)) (h0 : 0 ≤ V 56 0 ∧ V 56 0 ≤ 8) :
    X sc (d + 2) 99 [.ref 56, xw t] (T, z, xv V, J, R) = if 2 ≤ t ∧ t ≤ 9 then (if V 56 0 < 8 then some (.inl (some (xw (V 56 0 + 1 - 1))), (T, z, xv (xup2 (xup2 (xup2 V 56 28 0) 57 (V 56 0).toNat t) 56 0 (V 56 0 + 1)), J, R)) else some (.inl (some (xw 0)), (T, z, xv (xup2 V 56 28 2), J, R))) else some (.inl (some (xw 0)), (T, z, xv (xup2 V 56 28 1), J, R)) := by
  by_cases c : 2 ≤ t ∧ t ≤ 9 <;> by_cases c2 : V 56 0 < 8 <;> simp (disch := (first | omega | assumption | exact iAnd_in | exact iShr_in | exact jCmp_in | (simp (disch := omega) only [xup2_o, xup2_i, xup2_j]; omega))) only [↓if_pos, ↓if_neg, xret_v, xret_n, xup2_o, xup2_i, xup2_j, eX7_hide, bX7_hide_0, bX7_hide_8, bX7_hide_11, n_hide_15 hM, bX7_hide_24, bX7_hide_28, n_hide_29 hM, bX7_hide_32, bX7_hide_35, n_hide_37 hM, m_isIn, m_fails hM]
theorem m_rides (hM : xMo T R) : X sc (d + 1) 156 [.ref 56] (T, z, xv V, J, R) = some (.inl (some (xw (V 56 24))), (T, z, xv (xup2 V 56 28 0), J, R)) := by
  simp (disch := (first | omega | assumption | exact iAnd_in | exact iShr_in | exact jCmp_in | (simp (disch := omega) only [xup2_o, xup2_i, xup2_j]; omega))) only [↓if_pos, ↓if_neg, xret_v, xret_n, xup2_o, xup2_i, xup2_j, eX7_rides, n_rides_0 hM]
end SX7a
