/-! what the model does with parts -/
/-- a model's parts within their bounds -/
def xMr (V : Nat → Nat → Int) : Prop := (0 ≤ V 56 3 ∧ V 56 3 ≤ 40) ∧ ∀ k, k < 40 → (0 ≤ V 59 k ∧ V 59 k ≤ 12) ∧ (0 ≤ V 60 k ∧ V 60 k ≤ 8) ∧ (0 ≤ V 61 k ∧ V 61 k ≤ 9) ∧ (0 ≤ V 62 k ∧ V 62 k ≤ 8) ∧ (0 ≤ V 63 k ∧ V 63 k ≤ 1) ∧ (0 ≤ V 65 k ∧ V 65 k ≤ 10000000) ∧ (0 ≤ V 66 k ∧ V 66 k ≤ 4) ∧ (0 ≤ V 67 k ∧ V 67 k ≤ 1) ∧ (-1 ≤ V 68 k ∧ V 68 k ≤ 7) ∧ (-1 ≤ V 69 k ∧ V 69 k ≤ 7) ∧ (-1 ≤ V 70 k ∧ V 70 k ≤ 100)
/-- how many of the m bits from k on are set -/
def xHc (j : Int64) : Nat → Nat → Int
  | 0, _ => 0
  | m + 1, k => (if xBt j k = true then 1 else 0) + xHc j m (k + 1)
/-- the place of a hole by its number, from k on -/
def xPm (j : Int64) : Nat → Nat → Int → Int
  | 0, _, _ => -1
  | m + 1, k, l => if xBt j k = true then (if l = 0 then k else xPm j m (k + 1) (l - 1)) else xPm j m (k + 1) l
theorem xPm_in {j : Int64} : ∀ (m k : Nat) (l : Int), k + m ≤ 60 → -1 ≤ xPm j m k l ∧ xPm j m k l < 60 := by
  intro m
  induction m with
  | zero => intro k l _; simp only [xPm]; omega
  | succ m ih =>
    intro k l hk
    rw [xPm]
    split
    · split
      · omega
      · exact ih (k + 1) _ (by omega)
    · exact ih (k + 1) _ (by omega)
section SX7c
variable {sc : xS} {d : Nat} {T : Nat → Nat × Nat} {z : Nat × Nat} {V : Nat → Nat → Int} {J : Nat → Nat → Int64} {R : Nat → Nat → Option Nat}
theorem m_skive {p t : Int} (hM : xMo T R) (hr : xMr V) (hp : (-2147483648 ≤ p ∧ p ≤ 2147483647)) (ht : (-2147483648 ≤ t ∧ t ≤ 2147483647)) :
    X sc (d + 3) 107 [.ref 56, xw p, xw t] (T, z, xv V, J, R) =
      if 0 ≤ p ∧ p < V 56 3 then (if (1 ≤ t ∧ t ≤ 8) ∧ t < V 61 p.toNat then (if V 66 p.toNat ≤ 0 then some (.inl (some (xw (V 61 p.toNat))), (T, z, xv (xup2 (xup2 V 56 28 0) 61 p.toNat t), J, R)) else some (.inl (some (xw 0)), (T, z, xv (xup2 V 56 28 3), J, R))) else some (.inl (some (xw 0)), (T, z, xv (xup2 V 56 28 2), J, R))) else some (.inl (some (xw 0)), (T, z, xv (xup2 V 56 28 1), J, R)) := by
  obtain ⟨h3, hr⟩ := hr
  by_cases c1 : 0 ≤ p ∧ p < V 56 3
  · have hb := hr p.toNat (by omega)
    by_cases c2 : 1 ≤ t ∧ t ≤ 8
    · by_cases c3 : t < V 61 p.toNat
      · by_cases c4 : V 66 p.toNat ≤ 0 <;> simp (disch := (first | omega | assumption | exact iAnd_in | exact iShr_in | exact jCmp_in | (simp (disch := omega) only [xup2_o, xup2_i, xup2_j]; omega))) only [↓if_pos, ↓if_neg, xret_v, xret_n, xup2_o, xup2_i, xup2_j, eX7_skive, n_skive_0 hM, bX7_skive_6, bX7_skive_9, bX7_skive_13, bX7_skive_20, n_skive_23 hM, bX7_skive_33, n_skive_37 hM, bX7_skive_46, bX7_skive_50, n_skive_51 hM, bX7_skive_54, bX7_skive_57, n_skive_59 hM, m_isPart hM, m_isIn, m_fails hM]
      · simp (disch := (first | omega | assumption | exact iAnd_in | exact iShr_in | exact jCmp_in | (simp (disch := omega) only [xup2_o, xup2_i, xup2_j]; omega))) only [↓if_pos, ↓if_neg, xret_v, xret_n, xup2_o, xup2_i, xup2_j, eX7_skive, n_skive_0 hM, bX7_skive_6, bX7_skive_9, bX7_skive_13, bX7_skive_20, n_skive_23 hM, bX7_skive_33, n_skive_37 hM, bX7_skive_46, bX7_skive_50, n_skive_51 hM, bX7_skive_54, bX7_skive_57, n_skive_59 hM, m_isPart hM, m_isIn, m_fails hM]
    · simp (disch := (first | omega | assumption | exact iAnd_in | exact iShr_in | exact jCmp_in | (simp (disch := omega) only [xup2_o, xup2_i, xup2_j]; omega))) only [↓if_pos, ↓if_neg, xret_v, xret_n, xup2_o, xup2_i, xup2_j, eX7_skive, n_skive_0 hM, bX7_skive_6, bX7_skive_9, bX7_skive_13, bX7_skive_20, n_skive_23 hM, bX7_skive_33, n_skive_37 hM, bX7_skive_46, bX7_skive_50, n_skive_51 hM, bX7_skive_54, bX7_skive_57, n_skive_59 hM, m_isPart hM, m_isIn, m_fails hM]
  · simp (disch := (first | omega | assumption | exact iAnd_in | exact iShr_in | exact jCmp_in | (simp (disch := omega) only [xup2_o, xup2_i, xup2_j]; omega))) only [↓if_pos, ↓if_neg, xret_v, xret_n, xup2_o, xup2_i, xup2_j, eX7_skive, n_skive_0 hM, bX7_skive_6, bX7_skive_9, bX7_skive_13, bX7_skive_20, n_skive_23 hM, bX7_skive_33, n_skive_37 hM, bX7_skive_46, bX7_skive_50, n_skive_51 hM, bX7_skive_54, bX7_skive_57, n_skive_59 hM, m_isPart hM, m_isIn, m_fails hM]
theorem m_isBuckled {p : Int} (hM : xMo T R) (hp : 0 ≤ p ∧ p < 40) (hb : (-2147483648 ≤ V 68 p.toNat ∧ V 68 p.toNat ≤ 2147483647)) :
    X sc (d + 1) 108 [.ref 56, xw p] (T, z, xv V, J, R) = some (.inl (some (xw (if V 68 p.toNat = -1 then 0 else 1))), (T, z, xv (V), J, R)) := by
  by_cases c : V 68 p.toNat = -1 <;> simp (disch := (first | omega | assumption | exact iAnd_in | exact iShr_in | exact jCmp_in | (simp (disch := omega) only [xup2_o, xup2_i, xup2_j]; omega))) only [↓if_pos, ↓if_neg, xret_v, xret_n, xup2_o, xup2_i, xup2_j, eX7_isBuckled, n_isBuckled_0 hM, bX7_isBuckled_10, bX7_isBuckled_14, bX7_isBuckled_15]
theorem m_holes_loop {p : Int} {n : Nat} (hM : xMo T R) (hp : 0 ≤ p ∧ p < 40) (hn : 4 * V 59 p.toNat + 1 = n) (hn2 : n ≤ 60) :
    ∀ (m k : Nat) (c : Int), k + m = n →
    XR sc d 110 4 [some (.ref 56), some (xw p), some (xw c), some (xw k)] [] (T, z, xv V, J, R) = some (.inl (some (xw (c + xHc (J 64 p.toNat) m k))), (T, z, xv (V), J, R)) := by
  intro m
  induction m with
  | zero =>
    intro k c hk
    rw [n_holesOf_4 hM (by omega) (by omega) (by omega), if_pos (by omega), bX7_holesOf_36, xHc, Int.add_zero]
  | succ m ih =>
    intro k c hk
    rw [n_holesOf_4 hM (by omega) (by omega) (by omega), if_neg (by omega), n_holesOf_16 hM (by omega), j_get (by omega), Int.toNat_natCast, show (k : Int) + 1 = ((k + 1 : Nat) : Int) by omega, ih (k + 1) _ (by omega), xHc, Int.add_assoc]
theorem m_holesOf {p : Int} (hM : xMo T R) (hp : 0 ≤ p ∧ p < 40) (hb : 0 ≤ V 59 p.toNat ∧ V 59 p.toNat ≤ 12) :
    X sc (d + 1) 110 [.ref 56, xw p] (T, z, xv V, J, R) = some (.inl (some (xw (xHc (J 64 p.toNat) (4 * V 59 p.toNat + 1).toNat 0))), (T, z, xv (V), J, R)) := by
  have := m_holes_loop (sc := sc) (d := d) (T := T) (z := z) (V := V) (J := J) (R := R) (n := (4 * V 59 p.toNat + 1).toNat) hM hp (by omega) (by omega) (4 * V 59 p.toNat + 1).toNat 0 0 (by omega)
  rw [Int.zero_add] at this
  rw [eX7_holesOf, bX7_holesOf_0]
  exact this
theorem m_place_loop {p : Int} {o2 : Option Value} {n : Nat} (hM : xMo T R) (hp : 0 ≤ p ∧ p < 40) (hn : 4 * V 59 p.toNat + 1 = n) (hn2 : n ≤ 60) :
    ∀ (m k : Nat) (l : Int) (o5 : Option Value), k + m = n → 0 ≤ l ∧ l ≤ 2147483647 →
    XR sc d 114 5 [some (.ref 56), some (xw p), o2, some (xw l), some (xw k), o5] [] (T, z, xv V, J, R) = some (.inl (some (xw (xPm (J 64 p.toNat) m k l))), (T, z, xv (V), J, R)) := by
  intro m
  induction m with
  | zero =>
    intro k l o5 hk hl
    rw [n_placeOf_5 hM (by omega) (by omega) (by omega), if_pos (by omega), bX7_placeOf_72, xPm]
  | succ m ih =>
    intro k l o5 hk hl
    rw [n_placeOf_5 hM (by omega) (by omega) (by omega), if_neg (by omega), n_placeOf_18 hM (by omega) (io_in _)]
    simp only [j_is (j := J 64 p.toNat) (k := (k : Int)) (by omega), Int.toNat_natCast]
    rw [xPm]
    by_cases c : xBt (J 64 p.toNat) k = true
    · rw [if_pos c, if_pos c, bX7_placeOf_34, bX7_placeOf_39 (by omega), if_neg (by decide), bX7_placeOf_46 (by omega)]
      by_cases c2 : l = 0
      · rw [if_pos c2, if_pos c2, bX7_placeOf_50]
      · rw [if_neg c2, if_neg c2, bX7_placeOf_53 (by omega), if_neg (by decide), bX7_placeOf_59, bX7_placeOf_64, show (k : Int) + 1 = ((k + 1 : Nat) : Int) by omega, ih (k + 1) _ _ (by omega) (by omega)]
    · rw [if_neg c, if_neg c, bX7_placeOf_38, bX7_placeOf_39 (by omega), if_pos rfl, bX7_placeOf_53 (by omega), if_pos rfl, bX7_placeOf_63, bX7_placeOf_64, Int.sub_zero, show (k : Int) + 1 = ((k + 1 : Nat) : Int) by omega, ih (k + 1) _ _ (by omega) hl]
theorem m_placeOf {p l : Int} (hM : xMo T R) (hp : 0 ≤ p ∧ p < 40) (hb : 0 ≤ V 59 p.toNat ∧ V 59 p.toNat ≤ 12) (hl : 0 ≤ l ∧ l ≤ 2147483647) :
    X sc (d + 1) 114 [.ref 56, xw p, xw l] (T, z, xv V, J, R) = some (.inl (some (xw (xPm (J 64 p.toNat) (4 * V 59 p.toNat + 1).toNat 0 l))), (T, z, xv (V), J, R)) := by
  rw [eX7_placeOf, bX7_placeOf_0]
  exact m_place_loop (n := (4 * V 59 p.toNat + 1).toNat) hM hp (by omega) (by omega) (4 * V 59 p.toNat + 1).toNat 0 l none (by omega) hl
theorem m_pierce_loop {p t : Int} {o3 o4 o5 : Option Value} (hM : xMo T R) (hp : 0 ≤ p ∧ p < 40) (ht : 0 ≤ t ∧ t ≤ 60) :
    ∀ (m k : Nat) (c : Int), (k : Int) + m = t →
    XR sc d 109 146 [some (.ref 56), some (xw p), some (xw t), o3, o4, o5, some (xw c), some (xw k)] [] (T, z, xv V, J, R) = some (.inl (some (xw (c + xHc (J 64 p.toNat) m k))), (T, z, xv (V), J, R)) := by
  intro m
  induction m with
  | zero =>
    intro k c hk
    rw [bX7_pierce_146 (by omega) (by omega), if_pos (by omega), bX7_pierce_175, xHc, Int.add_zero]
  | succ m ih =>
    intro k c hk
    rw [bX7_pierce_146 (by omega) (by omega), if_neg (by omega), n_pierce_152 hM (by omega), j_get (by omega), Int.toNat_natCast, show (k : Int) + 1 = ((k + 1 : Nat) : Int) by omega, ih (k + 1) _ (by omega), xHc, Int.add_assoc]
/-- the longs behind a new hole -/
def xJp (J : Nat → Nat → Int64) (p t : Int) : Nat → Nat → Int64 := xup2 J 64 p.toNat (J 64 p.toNat ||| jShl (Int64.ofNat 1) t)
theorem m_pierce {p t : Int} (hM : xMo T R) (hr : xMr V) (hp : (-2147483648 ≤ p ∧ p ≤ 2147483647)) (ht : (-2147483648 ≤ t ∧ t ≤ 2147483647)) :
    X sc (d + 3) 109 [.ref 56, xw p, xw t] (T, z, xv V, J, R) =
      if 0 ≤ p ∧ p < V 56 3 then (if 3 ≤ t ∧ t ≤ 4 * V 59 p.toNat - 3 then
        (if (xBt (J 64 p.toNat) (t - 1).toNat = false ∧ xBt (J 64 p.toNat) t.toNat = false ∧ xBt (J 64 p.toNat) (t + 1).toNat = false) ∧ V 66 p.toNat = 0 ∧ V 68 p.toNat = -1 ∧ V 67 p.toNat = 0 then
          some (.inl (some (xw (0 + xHc (xJp J p t 64 p.toNat) t.toNat 0))), (T, z, xv (xup2 V 56 28 0), xJp J p t, R)) else some (.inl (some (xw 0)), (T, z, xv (xup2 V 56 28 3), J, R))) else some (.inl (some (xw 0)), (T, z, xv (xup2 V 56 28 2), J, R))) else some (.inl (some (xw 0)), (T, z, xv (xup2 V 56 28 1), J, R)) := by
  obtain ⟨h3, hr⟩ := hr
  by_cases c1 : 0 ≤ p ∧ p < V 56 3
  · have hb := hr p.toNat (by omega)
    by_cases c2 : 3 ≤ t ∧ t ≤ 4 * V 59 p.toNat - 3
    · have h7 := j_7 (j := J 64 p.toNat) (k := t) (by omega)
      by_cases c3 : jCmp (jShr (J 64 p.toNat) (t - 1) &&& (7 : Int64)) (Int64.ofNat 0) = 0
      · have c3' := h7.mp c3
        by_cases c4 : V 66 p.toNat = 0 ∧ V 68 p.toNat = -1 ∧ V 67 p.toNat = 0
        · rw [if_pos c1, if_pos c2, if_pos ⟨c3', c4⟩]
          simp (disch := (first | omega | assumption | exact iAnd_in | exact iShr_in | exact jCmp_in | (simp (disch := omega) only [xup2_o, xup2_i, xup2_j]; omega))) only [↓if_pos, ↓if_neg, xret_v, xret_n, xup2_o, xup2_i, xup2_j, eX7_pierce, n_pierce_0 hM, bX7_pierce_5, n_pierce_10 hM, bX7_pierce_25, bX7_pierce_28, bX7_pierce_32, bX7_pierce_33, n_pierce_40 hM, n_pierce_59 hM, n_pierce_68 hM, bX7_pierce_73, n_pierce_76 hM, bX7_pierce_85, bX7_pierce_89, bX7_pierce_90, bX7_pierce_97, bX7_pierce_101, bX7_pierce_106, bX7_pierce_110, bX7_pierce_115, bX7_pierce_119, n_pierce_120 hM, bX7_pierce_123, bX7_pierce_126, n_pierce_128 hM, m_isPart hM, m_isIn, m_isBuckled hM, m_fails hM]
          exact m_pierce_loop (sc := sc) (d := d + 2) (T := T) (z := z) (V := xup2 V 56 28 0) (J := xJp J p t) (R := R) hM (by omega) (by omega) t.toNat 0 0 (by omega)
        · rw [if_pos c1, if_pos c2, if_neg (fun q => c4 q.2)]
          by_cases d1 : V 66 p.toNat = 0
          · by_cases d2 : V 68 p.toNat = -1
            · simp (disch := (first | omega | assumption | exact iAnd_in | exact iShr_in | exact jCmp_in | (simp (disch := omega) only [xup2_o, xup2_i, xup2_j]; omega))) only [↓if_pos, ↓if_neg, xret_v, xret_n, xup2_o, xup2_i, xup2_j, eX7_pierce, n_pierce_0 hM, bX7_pierce_5, n_pierce_10 hM, bX7_pierce_25, bX7_pierce_28, bX7_pierce_32, bX7_pierce_33, n_pierce_40 hM, n_pierce_59 hM, n_pierce_68 hM, bX7_pierce_73, n_pierce_76 hM, bX7_pierce_85, bX7_pierce_89, bX7_pierce_90, bX7_pierce_97, bX7_pierce_101, bX7_pierce_106, bX7_pierce_110, bX7_pierce_115, bX7_pierce_119, n_pierce_120 hM, bX7_pierce_123, bX7_pierce_126, n_pierce_128 hM, m_isPart hM, m_isIn, m_isBuckled hM, m_fails hM]
            · simp (disch := (first | omega | assumption | exact iAnd_in | exact iShr_in | exact jCmp_in | (simp (disch := omega) only [xup2_o, xup2_i, xup2_j]; omega))) only [↓if_pos, ↓if_neg, xret_v, xret_n, xup2_o, xup2_i, xup2_j, eX7_pierce, n_pierce_0 hM, bX7_pierce_5, n_pierce_10 hM, bX7_pierce_25, bX7_pierce_28, bX7_pierce_32, bX7_pierce_33, n_pierce_40 hM, n_pierce_59 hM, n_pierce_68 hM, bX7_pierce_73, n_pierce_76 hM, bX7_pierce_85, bX7_pierce_89, bX7_pierce_90, bX7_pierce_97, bX7_pierce_101, bX7_pierce_106, bX7_pierce_110, bX7_pierce_115, bX7_pierce_119, n_pierce_120 hM, bX7_pierce_123, bX7_pierce_126, n_pierce_128 hM, m_isPart hM, m_isIn, m_isBuckled hM, m_fails hM]
          · simp (disch := (first | omega | assumption | exact iAnd_in | exact iShr_in | exact jCmp_in | (simp (disch := omega) only [xup2_o, xup2_i, xup2_j]; omega))) only [↓if_pos, ↓if_neg, xret_v, xret_n, xup2_o, xup2_i, xup2_j, eX7_pierce, n_pierce_0 hM, bX7_pierce_5, n_pierce_10 hM, bX7_pierce_25, bX7_pierce_28, bX7_pierce_32, bX7_pierce_33, n_pierce_40 hM, n_pierce_59 hM, n_pierce_68 hM, bX7_pierce_73, n_pierce_76 hM, bX7_pierce_85, bX7_pierce_89, bX7_pierce_90, bX7_pierce_97, bX7_pierce_101, bX7_pierce_106, bX7_pierce_110, bX7_pierce_115, bX7_pierce_119, n_pierce_120 hM, bX7_pierce_123, bX7_pierce_126, n_pierce_128 hM, m_isPart hM, m_isIn, m_isBuckled hM, m_fails hM]
      · rw [if_pos c1, if_pos c2, if_neg (fun q => c3 (h7.mpr q.1))]
        simp (disch := (first | omega | assumption | exact iAnd_in | exact iShr_in | exact jCmp_in | (simp (disch := omega) only [xup2_o, xup2_i, xup2_j]; omega))) only [↓if_pos, ↓if_neg, xret_v, xret_n, xup2_o, xup2_i, xup2_j, eX7_pierce, n_pierce_0 hM, bX7_pierce_5, n_pierce_10 hM, bX7_pierce_25, bX7_pierce_28, bX7_pierce_32, bX7_pierce_33, n_pierce_40 hM, n_pierce_59 hM, n_pierce_68 hM, bX7_pierce_73, n_pierce_76 hM, bX7_pierce_85, bX7_pierce_89, bX7_pierce_90, bX7_pierce_97, bX7_pierce_101, bX7_pierce_106, bX7_pierce_110, bX7_pierce_115, bX7_pierce_119, n_pierce_120 hM, bX7_pierce_123, bX7_pierce_126, n_pierce_128 hM, m_isPart hM, m_isIn, m_isBuckled hM, m_fails hM]
    · simp (disch := (first | omega | assumption | exact iAnd_in | exact iShr_in | exact jCmp_in | (simp (disch := omega) only [xup2_o, xup2_i, xup2_j]; omega))) only [↓if_pos, ↓if_neg, xret_v, xret_n, xup2_o, xup2_i, xup2_j, eX7_pierce, n_pierce_0 hM, bX7_pierce_5, n_pierce_10 hM, bX7_pierce_25, bX7_pierce_28, bX7_pierce_32, bX7_pierce_33, n_pierce_40 hM, n_pierce_59 hM, n_pierce_68 hM, bX7_pierce_73, n_pierce_76 hM, bX7_pierce_85, bX7_pierce_89, bX7_pierce_90, bX7_pierce_97, bX7_pierce_101, bX7_pierce_106, bX7_pierce_110, bX7_pierce_115, bX7_pierce_119, n_pierce_120 hM, bX7_pierce_123, bX7_pierce_126, n_pierce_128 hM, m_isPart hM, m_isIn, m_isBuckled hM, m_fails hM]
  · simp (disch := (first | omega | assumption | exact iAnd_in | exact iShr_in | exact jCmp_in | (simp (disch := omega) only [xup2_o, xup2_i, xup2_j]; omega))) only [↓if_pos, ↓if_neg, xret_v, xret_n, xup2_o, xup2_i, xup2_j, eX7_pierce, n_pierce_0 hM, bX7_pierce_5, n_pierce_10 hM, bX7_pierce_25, bX7_pierce_28, bX7_pierce_32, bX7_pierce_33, n_pierce_40 hM, n_pierce_59 hM, n_pierce_68 hM, bX7_pierce_73, n_pierce_76 hM, bX7_pierce_85, bX7_pierce_89, bX7_pierce_90, bX7_pierce_97, bX7_pierce_101, bX7_pierce_106, bX7_pierce_110, bX7_pierce_115, bX7_pierce_119, n_pierce_120 hM, bX7_pierce_123, bX7_pierce_126, n_pierce_128 hM, m_isPart hM, m_isIn, m_isBuckled hM, m_fails hM]
def xMm (V : Nat → Nat → Int) (p q : Nat) : Int := if V 63 p = V 63 q ∧ V 59 p = V 59 q ∧ V 60 p = V 60 q ∧ V 61 p = V 61 q ∧ V 62 p = V 62 q then 1 else 0
theorem m_match {p q : Int} (hM : xMo T R) (hr : xMr V) (hp : (-2147483648 ≤ p ∧ p ≤ 2147483647)) (hq : (-2147483648 ≤ q ∧ q ≤ 2147483647)) :
    X sc (d + 3) 111 [.ref 56, xw p, xw q] (T, z, xv V, J, R) =
      if (0 ≤ p ∧ p < V 56 3) ∧ (0 ≤ q ∧ q < V 56 3) then some (.inl (some (xw (xMm V p.toNat q.toNat))), (T, z, xv (xup2 V 56 28 0), J, R)) else some (.inl (some (xw 0)), (T, z, xv (xup2 V 56 28 1), J, R)) := by
  obtain ⟨h3, hr⟩ := hr
  by_cases c1 : 0 ≤ p ∧ p < V 56 3
  · have hb := hr p.toNat (by omega)
    by_cases c2 : 0 ≤ q ∧ q < V 56 3
    · have hb2 := hr q.toNat (by omega)
      unfold xMm
      by_cases d1 : V 63 p.toNat = V 63 q.toNat
      · by_cases d2 : V 59 p.toNat = V 59 q.toNat
        · by_cases d3 : V 60 p.toNat = V 60 q.toNat
          · by_cases d4 : V 61 p.toNat = V 61 q.toNat
            · by_cases d5 : V 62 p.toNat = V 62 q.toNat <;> simp (disch := (first | omega | assumption | exact iAnd_in | exact iShr_in | exact jCmp_in | (simp (disch := omega) only [xup2_o, xup2_i, xup2_j]; omega))) only [↓if_pos, ↓if_neg, xret_v, xret_n, xup2_o, xup2_i, xup2_j, eX7_match, n_match_0 hM, bX7_match_5, n_match_8 hM, bX7_match_13, bX7_match_16, bX7_match_20, bX7_match_21, bX7_match_27, bX7_match_31, n_match_32 hM, bX7_match_35, n_match_38 hM, n_match_53 hM, n_match_68 hM, n_match_83 hM, n_match_98 hM, bX7_match_113, bX7_match_117, bX7_match_118, m_isPart hM, m_fails hM]
            · simp (disch := (first | omega | assumption | exact iAnd_in | exact iShr_in | exact jCmp_in | (simp (disch := omega) only [xup2_o, xup2_i, xup2_j]; omega))) only [↓if_pos, ↓if_neg, xret_v, xret_n, xup2_o, xup2_i, xup2_j, eX7_match, n_match_0 hM, bX7_match_5, n_match_8 hM, bX7_match_13, bX7_match_16, bX7_match_20, bX7_match_21, bX7_match_27, bX7_match_31, n_match_32 hM, bX7_match_35, n_match_38 hM, n_match_53 hM, n_match_68 hM, n_match_83 hM, n_match_98 hM, bX7_match_113, bX7_match_117, bX7_match_118, m_isPart hM, m_fails hM]
          · simp (disch := (first | omega | assumption | exact iAnd_in | exact iShr_in | exact jCmp_in | (simp (disch := omega) only [xup2_o, xup2_i, xup2_j]; omega))) only [↓if_pos, ↓if_neg, xret_v, xret_n, xup2_o, xup2_i, xup2_j, eX7_match, n_match_0 hM, bX7_match_5, n_match_8 hM, bX7_match_13, bX7_match_16, bX7_match_20, bX7_match_21, bX7_match_27, bX7_match_31, n_match_32 hM, bX7_match_35, n_match_38 hM, n_match_53 hM, n_match_68 hM, n_match_83 hM, n_match_98 hM, bX7_match_113, bX7_match_117, bX7_match_118, m_isPart hM, m_fails hM]
        · simp (disch := (first | omega | assumption | exact iAnd_in | exact iShr_in | exact jCmp_in | (simp (disch := omega) only [xup2_o, xup2_i, xup2_j]; omega))) only [↓if_pos, ↓if_neg, xret_v, xret_n, xup2_o, xup2_i, xup2_j, eX7_match, n_match_0 hM, bX7_match_5, n_match_8 hM, bX7_match_13, bX7_match_16, bX7_match_20, bX7_match_21, bX7_match_27, bX7_match_31, n_match_32 hM, bX7_match_35, n_match_38 hM, n_match_53 hM, n_match_68 hM, n_match_83 hM, n_match_98 hM, bX7_match_113, bX7_match_117, bX7_match_118, m_isPart hM, m_fails hM]
      · simp (disch := (first | omega | assumption | exact iAnd_in | exact iShr_in | exact jCmp_in | (simp (disch := omega) only [xup2_o, xup2_i, xup2_j]; omega))) only [↓if_pos, ↓if_neg, xret_v, xret_n, xup2_o, xup2_i, xup2_j, eX7_match, n_match_0 hM, bX7_match_5, n_match_8 hM, bX7_match_13, bX7_match_16, bX7_match_20, bX7_match_21, bX7_match_27, bX7_match_31, n_match_32 hM, bX7_match_35, n_match_38 hM, n_match_53 hM, n_match_68 hM, n_match_83 hM, n_match_98 hM, bX7_match_113, bX7_match_117, bX7_match_118, m_isPart hM, m_fails hM]
    · simp (disch := (first | omega | assumption | exact iAnd_in | exact iShr_in | exact jCmp_in | (simp (disch := omega) only [xup2_o, xup2_i, xup2_j]; omega))) only [↓if_pos, ↓if_neg, xret_v, xret_n, xup2_o, xup2_i, xup2_j, eX7_match, n_match_0 hM, bX7_match_5, n_match_8 hM, bX7_match_13, bX7_match_16, bX7_match_20, bX7_match_21, bX7_match_27, bX7_match_31, n_match_32 hM, bX7_match_35, n_match_38 hM, n_match_53 hM, n_match_68 hM, n_match_83 hM, n_match_98 hM, bX7_match_113, bX7_match_117, bX7_match_118, m_isPart hM, m_fails hM]
  · simp (disch := (first | omega | assumption | exact iAnd_in | exact iShr_in | exact jCmp_in | (simp (disch := omega) only [xup2_o, xup2_i, xup2_j]; omega))) only [↓if_pos, ↓if_neg, xret_v, xret_n, xup2_o, xup2_i, xup2_j, eX7_match, n_match_0 hM, bX7_match_5, n_match_8 hM, bX7_match_13, bX7_match_16, bX7_match_20, bX7_match_21, bX7_match_27, bX7_match_31, n_match_32 hM, bX7_match_35, n_match_38 hM, n_match_53 hM, n_match_68 hM, n_match_83 hM, n_match_98 hM, bX7_match_113, bX7_match_117, bX7_match_118, m_isPart hM, m_fails hM]
/-- the strength of a part by the model -/
def xSm3 (V : Nat → Nat → Int) (J : Nat → Nat → Int64) (p : Nat) : Int := max 0 ((if J 64 p = Int64.ofNat 0 then 10 * V 60 p * V 61 p else 3 * (10 * V 60 p * V 61 p) / 4) - V 65 p)
theorem m_strength {p : Int} (hM : xMo T R) (hp : 0 ≤ p ∧ p < 40) (hw : 0 ≤ 10 * V 60 p.toNat * V 61 p.toNat ∧ 10 * V 60 p.toNat * V 61 p.toNat ≤ 1000) (h7 : 0 ≤ V 65 p.toNat ∧ V 65 p.toNat ≤ 100000000) :
    X sc (d + 1) 112 [.ref 56, xw p] (T, z, xv V, J, R) = some (.inl (some (xw (xSm3 V J p.toNat))), (T, z, xv (V), J, R)) := by
  unfold xSm3
  rw [eX7_strength, n_strength_0 hM hp hp hp (io_in _)]
  simp only [jCmp_0]
  by_cases c : J 64 p.toNat = Int64.ofNat 0
  · rw [if_pos c, if_pos c, bX7_strength_28, n_strength_37 hM hp (by omega)]
    by_cases c2 : 0 ≤ 10 * V 60 p.toNat * V 61 p.toNat - V 65 p.toNat
    · rw [if_pos c2, bX7_strength_53, bX7_strength_54, show max 0 (10 * V 60 p.toNat * V 61 p.toNat - V 65 p.toNat) = 10 * V 60 p.toNat * V 61 p.toNat - V 65 p.toNat by omega]
    · rw [if_neg c2, bX7_strength_49, bX7_strength_54, show max 0 (10 * V 60 p.toNat * V 61 p.toNat - V 65 p.toNat) = 0 by omega]
  · rw [if_neg c, if_neg c, bX7_strength_32 (by omega), n_strength_37 hM hp (by omega)]
    by_cases c2 : 0 ≤ 3 * (10 * V 60 p.toNat * V 61 p.toNat) / 4 - V 65 p.toNat
    · rw [if_pos c2, bX7_strength_53, bX7_strength_54, show max 0 (3 * (10 * V 60 p.toNat * V 61 p.toNat) / 4 - V 65 p.toNat) = 3 * (10 * V 60 p.toNat * V 61 p.toNat) / 4 - V 65 p.toNat by omega]
    · rw [if_neg c2, bX7_strength_49, bX7_strength_54, show max 0 (3 * (10 * V 60 p.toNat * V 61 p.toNat) / 4 - V 65 p.toNat) = 0 by omega]
theorem tq_0 {L : xL} {h : xH} : XR sc d 113 37 L [xw 0] h = XR sc d 113 92 L [] h := st_tableIn (x := Int32.ofInt 0) (off := 55) f_113_37 (by decide +kernel) (by decide +kernel) ⟨by decide, by decide +kernel⟩
theorem tq_1 {L : xL} {h : xH} : XR sc d 113 37 L [xw 1] h = XR sc d 113 99 L [] h := st_tableIn (x := Int32.ofInt 1) (off := 62) f_113_37 (by decide +kernel) (by decide +kernel) ⟨by decide, by decide +kernel⟩
theorem tq_2 {L : xL} {h : xH} : XR sc d 113 37 L [xw 2] h = XR sc d 113 106 L [] h := st_tableIn (x := Int32.ofInt 2) (off := 69) f_113_37 (by decide +kernel) (by decide +kernel) ⟨by decide, by decide +kernel⟩
theorem tq_3 {L : xL} {h : xH} : XR sc d 113 37 L [xw 3] h = XR sc d 113 113 L [] h := st_tableIn (x := Int32.ofInt 3) (off := 76) f_113_37 (by decide +kernel) (by decide +kernel) ⟨by decide, by decide +kernel⟩
theorem tq_4 {L : xL} {h : xH} : XR sc d 113 37 L [xw 4] h = XR sc d 113 120 L [] h := st_tableIn (x := Int32.ofInt 4) (off := 83) f_113_37 (by decide +kernel) (by decide +kernel) ⟨by decide, by decide +kernel⟩
theorem tq_5 {L : xL} {h : xH} : XR sc d 113 37 L [xw 5] h = XR sc d 113 126 L [] h := st_tableIn (x := Int32.ofInt 5) (off := 89) f_113_37 (by decide +kernel) (by decide +kernel) ⟨by decide, by decide +kernel⟩
theorem tq_6 {L : xL} {h : xH} : XR sc d 113 37 L [xw 6] h = XR sc d 113 133 L [] h := st_tableIn (x := Int32.ofInt 6) (off := 96) f_113_37 (by decide +kernel) (by decide +kernel) ⟨by decide, by decide +kernel⟩
theorem tq_7 {L : xL} {h : xH} : XR sc d 113 37 L [xw 7] h = XR sc d 113 139 L [] h := st_tableIn (x := Int32.ofInt 7) (off := 102) f_113_37 (by decide +kernel) (by decide +kernel) ⟨by decide, by decide +kernel⟩
theorem tq_8 {L : xL} {h : xH} : XR sc d 113 37 L [xw 8] h = XR sc d 113 170 L [] h := st_tableIn (x := Int32.ofInt 8) (off := 133) f_113_37 (by decide +kernel) (by decide +kernel) ⟨by decide, by decide +kernel⟩
theorem tq_9 {L : xL} {h : xH} : XR sc d 113 37 L [xw 9] h = XR sc d 113 201 L [] h := st_tableIn (x := Int32.ofInt 9) (off := 164) f_113_37 (by decide +kernel) (by decide +kernel) ⟨by decide, by decide +kernel⟩
theorem tq_10 {L : xL} {h : xH} : XR sc d 113 37 L [xw 10] h = XR sc d 113 208 L [] h := st_tableOut (x := Int32.ofInt 10) f_113_37 (by decide +kernel) ⟨by decide, by decide +kernel⟩
/-- what the model tells of a part -/
def xMtl (V : Nat → Nat → Int) (J : Nat → Nat → Int64) (p : Nat) (v : Int) : Int := if v = 0 then V 59 p else if v = 1 then V 60 p else if v = 2 then V 61 p else if v = 3 then V 62 p else if v = 4 then xHc (J 64 p) (4 * V 59 p + 1).toNat 0 else if v = 5 then V 65 p else if v = 6 then xSm3 V J p else if v = 7 then min (V 68 p) (V 69 p) else if v = 8 then max (V 68 p) (V 69 p) else if v = 9 then V 70 p else if V 67 p = 0 then 0 else 1
theorem m_part {p v : Int} (hM : xMo T R) (hr : xMr V) (hp : (-2147483648 ≤ p ∧ p ≤ 2147483647)) (hv : (-2147483648 ≤ v ∧ v ≤ 2147483647)) :
    X sc (d + 3) 113 [.ref 56, xw p, xw v] (T, z, xv V, J, R) =
      if 0 ≤ p ∧ p < V 56 3 then (if 0 ≤ v ∧ v ≤ 10 then some (.inl (some (xw (xMtl V J p.toNat v))), (T, z, xv (xup2 V 56 28 0), J, R)) else some (.inl (some (xw 0)), (T, z, xv (xup2 V 56 28 2), J, R))) else some (.inl (some (xw 0)), (T, z, xv (xup2 V 56 28 1), J, R)) := by
  obtain ⟨h3, hr⟩ := hr
  by_cases c1 : 0 ≤ p ∧ p < V 56 3
  · have hb := hr p.toNat (by omega)
    by_cases c2 : 0 ≤ v ∧ v ≤ 10
    · have hp40 : 0 ≤ p ∧ p < 40 := by omega
      have hw := mul_bd (mul_bd (a := 10) (A := 10) (by omega) hb.2.1) hb.2.2.1
      have es : xSm3 (xup2 V 56 28 0) J p.toNat = xSm3 V J p.toNat := by unfold xSm3; rw [xup2_o (by decide), xup2_o (by decide), xup2_o (by decide)]
      rw [if_pos c1, if_pos c2, eX7_part, n_part_0 hM, m_isPart hM hp h3, xret_v, bX7_part_6 (by split <;> omega), if_neg (by rw [if_pos c1]; decide), bX7_part_13, m_isIn hv (by decide) (by decide), xret_v, bX7_part_20 (by split <;> omega), if_neg (by rw [if_pos c2]; decide), bX7_part_23, n_part_28 hM, m_fails hM (by decide), xret_v, bX7_part_31 (by decide), if_pos (by decide), bX7_part_36]
      rcases (show v = 0 ∨ v = 1 ∨ v = 2 ∨ v = 3 ∨ v = 4 ∨ v = 5 ∨ v = 6 ∨ v = 7 ∨ v = 8 ∨ v = 9 ∨ v = 10 by omega) with rfl | rfl | rfl | rfl | rfl | rfl | rfl | rfl | rfl | rfl | rfl
      · rw [tq_0, n_part_92 hM hp40, xup2_o (by decide)]; rfl
      · rw [tq_1, n_part_99 hM hp40, xup2_o (by decide)]; rfl
      · rw [tq_2, n_part_106 hM hp40, xup2_o (by decide)]; rfl
      · rw [tq_3, n_part_113 hM hp40, xup2_o (by decide)]; rfl
      · rw [tq_4, n_part_120 hM, m_holesOf hM hp40 (by rw [xup2_o (by decide)]; exact hb.1), xret_v, bX7_part_125, xup2_o (by decide)]; rfl
      · rw [tq_5, n_part_126 hM hp40, xup2_o (by decide)]; rfl
      · rw [tq_6, n_part_133 hM, m_strength hM hp40 (by rw [xup2_o (by decide), xup2_o (by decide)]; omega) (by rw [xup2_o (by decide)]; omega), xret_v, bX7_part_138, es]; rfl
      · rw [tq_7, n_part_139 hM hp40 hp40 (by rw [xup2_o (by decide)]; omega) (by rw [xup2_o (by decide)]; omega), xup2_o (by decide), xup2_o (by decide)]
        show (_ : xR) = some (.inl (some (xw (min (V 68 p.toNat) (V 69 p.toNat)))), _)
        by_cases c : V 69 p.toNat ≤ V 68 p.toNat
        · rw [if_pos c, n_part_163 hM hp40, bX7_part_169, xup2_o (by decide), show min (V 68 p.toNat) (V 69 p.toNat) = V 69 p.toNat by omega]
        · rw [if_neg c, n_part_154 hM hp40, bX7_part_169, xup2_o (by decide), show min (V 68 p.toNat) (V 69 p.toNat) = V 68 p.toNat by omega]
      · rw [tq_8, n_part_170 hM hp40 hp40 (by rw [xup2_o (by decide)]; omega) (by rw [xup2_o (by decide)]; omega), xup2_o (by decide), xup2_o (by decide)]
        show (_ : xR) = some (.inl (some (xw (max (V 68 p.toNat) (V 69 p.toNat)))), _)
        by_cases c : V 69 p.toNat ≤ V 68 p.toNat
        · rw [if_pos c, n_part_194 hM hp40, bX7_part_200, xup2_o (by decide), show max (V 68 p.toNat) (V 69 p.toNat) = V 68 p.toNat by omega]
        · rw [if_neg c, n_part_185 hM hp40, bX7_part_200, xup2_o (by decide), show max (V 68 p.toNat) (V 69 p.toNat) = V 69 p.toNat by omega]
      · rw [tq_9, n_part_201 hM hp40, xup2_o (by decide)]; rfl
      · rw [tq_10, n_part_208 hM hp40 (by rw [xup2_o (by decide)]; omega), xup2_o (by decide)]
        show (_ : xR) = some (.inl (some (xw (if V 67 p.toNat = 0 then 0 else 1))), _)
        by_cases c : V 67 p.toNat = 0
        · rw [if_pos c, if_pos c, bX7_part_221, bX7_part_222]
        · rw [if_neg c, if_neg c, bX7_part_217, bX7_part_222]
    · simp (disch := (first | omega | assumption | exact iAnd_in | exact iShr_in | exact jCmp_in | (simp (disch := omega) only [xup2_o, xup2_i, xup2_j]; omega))) only [↓if_pos, ↓if_neg, xret_v, xret_n, xup2_o, xup2_i, xup2_j, eX7_part, n_part_0 hM, bX7_part_6, bX7_part_9, bX7_part_13, bX7_part_20, bX7_part_23, bX7_part_27, n_part_28 hM, bX7_part_31, bX7_part_34, n_part_92 hM, n_part_99 hM, n_part_106 hM, n_part_113 hM, n_part_120 hM, bX7_part_125, n_part_126 hM, n_part_133 hM, bX7_part_138, n_part_139 hM, n_part_154 hM, n_part_163 hM, bX7_part_169, n_part_170 hM, n_part_185 hM, n_part_194 hM, bX7_part_200, n_part_201 hM, n_part_208 hM, bX7_part_217, bX7_part_221, bX7_part_222, m_isPart hM, m_isIn, m_fails hM]
  · simp (disch := (first | omega | assumption | exact iAnd_in | exact iShr_in | exact jCmp_in | (simp (disch := omega) only [xup2_o, xup2_i, xup2_j]; omega))) only [↓if_pos, ↓if_neg, xret_v, xret_n, xup2_o, xup2_i, xup2_j, eX7_part, n_part_0 hM, bX7_part_6, bX7_part_9, bX7_part_13, bX7_part_20, bX7_part_23, bX7_part_27, n_part_28 hM, bX7_part_31, bX7_part_34, n_part_92 hM, n_part_99 hM, n_part_106 hM, n_part_113 hM, n_part_120 hM, bX7_part_125, n_part_126 hM, n_part_133 hM, bX7_part_138, n_part_139 hM, n_part_154 hM, n_part_163 hM, bX7_part_169, n_part_170 hM, n_part_185 hM, n_part_194 hM, bX7_part_200, n_part_201 hM, n_part_208 hM, bX7_part_217, bX7_part_221, bX7_part_222, m_isPart hM, m_isIn, m_fails hM]
/-- a part is freed -/
def xFe (V : Nat → Nat → Int) (p : Nat) : Nat → Nat → Int := xup2 (xup2 (xup2 V 68 p (-1)) 69 p (-1)) 70 p (-1)
theorem m_frees {p : Int} (hM : xMo T R) (hp : 0 ≤ p ∧ p < 40) :
    X sc (d + 1) 115 [.ref 56, xw p] (T, z, xv V, J, R) = some (.inl none, (T, z, xv (xFe V p.toNat), J, R)) := by
  rw [eX7_frees, n_frees_0 hM hp hp hp]; rfl
theorem m_buckle {p r q l : Int} (hM : xMo T R) (hr : xMr V) (hp : (-2147483648 ≤ p ∧ p ≤ 2147483647)) (hr2 : (-2147483648 ≤ r ∧ r ≤ 2147483647)) (hq : (-2147483648 ≤ q ∧ q ≤ 2147483647)) (hl : (-2147483648 ≤ l ∧ l ≤ 2147483647)) :
    X sc (d + 3) 116 [.ref 56, xw p, xw r, xw q, xw l] (T, z, xv V, J, R) =
      if (0 ≤ p ∧ p < V 56 3) ∧ (0 ≤ r ∧ r < 8) ∧ (0 ≤ q ∧ q < 8) ∧ 0 ≤ l ∧ ¬ xPm (J 64 p.toNat) (4 * V 59 p.toNat + 1).toNat 0 l = -1 then
        (if r = q then some (.inl (some (xw 0)), (T, z, xv (xup2 V 56 28 2), J, R)) else if V 63 p.toNat = 0 ∨ ¬ V 68 p.toNat = -1 ∨ ¬ V 67 p.toNat = 0 then some (.inl (some (xw 0)), (T, z, xv (xup2 V 56 28 3), J, R))
         else some (.inl (some (xw (xPm (J 64 p.toNat) (4 * V 59 p.toNat + 1).toNat 0 l))), (T, z, xv (xup2 (xup2 (xup2 (xup2 V 56 28 0) 68 p.toNat r) 69 p.toNat q) 70 p.toNat (xPm (J 64 p.toNat) (4 * V 59 p.toNat + 1).toNat 0 l)), J, R)))
      else some (.inl (some (xw 0)), (T, z, xv (xup2 V 56 28 1), J, R)) := by
  obtain ⟨h3, hr⟩ := hr
  by_cases c1 : 0 ≤ p ∧ p < V 56 3
  · have hb := hr p.toNat (by omega)
    have hpm := xPm_in (j := J 64 p.toNat) (4 * V 59 p.toNat + 1).toNat 0 l (by omega)
    by_cases c2 : 0 ≤ r ∧ r < 8
    · by_cases c3 : 0 ≤ q ∧ q < 8
      · by_cases c4 : 0 ≤ l
        · by_cases c5 : xPm (J 64 p.toNat) (4 * V 59 p.toNat + 1).toNat 0 l = -1
          · simp (disch := (first | omega | assumption | exact iAnd_in | exact iShr_in | exact jCmp_in | (simp (disch := omega) only [xup2_o, xup2_i, xup2_j]; omega))) only [↓if_pos, ↓if_neg, xret_v, xret_n, xup2_o, xup2_i, xup2_j, eX7_buckle, n_buckle_0 hM, bX7_buckle_5, bX7_buckle_8, bX7_buckle_12, bX7_buckle_15, bX7_buckle_19, bX7_buckle_22, n_buckle_27 hM, bX7_buckle_34, bX7_buckle_38, bX7_buckle_42, bX7_buckle_43, n_buckle_50 hM, n_buckle_59 hM, bX7_buckle_64, n_buckle_67 hM, bX7_buckle_76, bX7_buckle_80, bX7_buckle_81, bX7_buckle_89, bX7_buckle_93, bX7_buckle_98, bX7_buckle_102, bX7_buckle_107, bX7_buckle_111, n_buckle_112 hM, bX7_buckle_115, bX7_buckle_118, n_buckle_120 hM, n_buckle_146 hM, m_isPart hM, m_isRing, m_placeOf hM, m_isBuckled hM, m_fails hM]
          · by_cases c6 : V 63 p.toNat = 0
            · by_cases c7 : r = q <;> simp (disch := (first | omega | assumption | exact iAnd_in | exact iShr_in | exact jCmp_in | (simp (disch := omega) only [xup2_o, xup2_i, xup2_j]; omega))) only [↓if_pos, ↓if_neg, xret_v, xret_n, xup2_o, xup2_i, xup2_j, eX7_buckle, n_buckle_0 hM, bX7_buckle_5, bX7_buckle_8, bX7_buckle_12, bX7_buckle_15, bX7_buckle_19, bX7_buckle_22, n_buckle_27 hM, bX7_buckle_34, bX7_buckle_38, bX7_buckle_42, bX7_buckle_43, n_buckle_50 hM, n_buckle_59 hM, bX7_buckle_64, n_buckle_67 hM, bX7_buckle_76, bX7_buckle_80, bX7_buckle_81, bX7_buckle_89, bX7_buckle_93, bX7_buckle_98, bX7_buckle_102, bX7_buckle_107, bX7_buckle_111, n_buckle_112 hM, bX7_buckle_115, bX7_buckle_118, n_buckle_120 hM, n_buckle_146 hM, m_isPart hM, m_isRing, m_placeOf hM, m_isBuckled hM, m_fails hM]
            · by_cases c8 : V 68 p.toNat = -1
              · by_cases c9 : V 67 p.toNat = 0
                · by_cases c7 : r = q <;> simp (disch := (first | omega | assumption | exact iAnd_in | exact iShr_in | exact jCmp_in | (simp (disch := omega) only [xup2_o, xup2_i, xup2_j]; omega))) only [↓if_pos, ↓if_neg, xret_v, xret_n, xup2_o, xup2_i, xup2_j, eX7_buckle, n_buckle_0 hM, bX7_buckle_5, bX7_buckle_8, bX7_buckle_12, bX7_buckle_15, bX7_buckle_19, bX7_buckle_22, n_buckle_27 hM, bX7_buckle_34, bX7_buckle_38, bX7_buckle_42, bX7_buckle_43, n_buckle_50 hM, n_buckle_59 hM, bX7_buckle_64, n_buckle_67 hM, bX7_buckle_76, bX7_buckle_80, bX7_buckle_81, bX7_buckle_89, bX7_buckle_93, bX7_buckle_98, bX7_buckle_102, bX7_buckle_107, bX7_buckle_111, n_buckle_112 hM, bX7_buckle_115, bX7_buckle_118, n_buckle_120 hM, n_buckle_146 hM, m_isPart hM, m_isRing, m_placeOf hM, m_isBuckled hM, m_fails hM]
                · by_cases c7 : r = q <;> simp (disch := (first | omega | assumption | exact iAnd_in | exact iShr_in | exact jCmp_in | (simp (disch := omega) only [xup2_o, xup2_i, xup2_j]; omega))) only [↓if_pos, ↓if_neg, xret_v, xret_n, xup2_o, xup2_i, xup2_j, eX7_buckle, n_buckle_0 hM, bX7_buckle_5, bX7_buckle_8, bX7_buckle_12, bX7_buckle_15, bX7_buckle_19, bX7_buckle_22, n_buckle_27 hM, bX7_buckle_34, bX7_buckle_38, bX7_buckle_42, bX7_buckle_43, n_buckle_50 hM, n_buckle_59 hM, bX7_buckle_64, n_buckle_67 hM, bX7_buckle_76, bX7_buckle_80, bX7_buckle_81, bX7_buckle_89, bX7_buckle_93, bX7_buckle_98, bX7_buckle_102, bX7_buckle_107, bX7_buckle_111, n_buckle_112 hM, bX7_buckle_115, bX7_buckle_118, n_buckle_120 hM, n_buckle_146 hM, m_isPart hM, m_isRing, m_placeOf hM, m_isBuckled hM, m_fails hM]
              · by_cases c7 : r = q <;> simp (disch := (first | omega | assumption | exact iAnd_in | exact iShr_in | exact jCmp_in | (simp (disch := omega) only [xup2_o, xup2_i, xup2_j]; omega))) only [↓if_pos, ↓if_neg, xret_v, xret_n, xup2_o, xup2_i, xup2_j, eX7_buckle, n_buckle_0 hM, bX7_buckle_5, bX7_buckle_8, bX7_buckle_12, bX7_buckle_15, bX7_buckle_19, bX7_buckle_22, n_buckle_27 hM, bX7_buckle_34, bX7_buckle_38, bX7_buckle_42, bX7_buckle_43, n_buckle_50 hM, n_buckle_59 hM, bX7_buckle_64, n_buckle_67 hM, bX7_buckle_76, bX7_buckle_80, bX7_buckle_81, bX7_buckle_89, bX7_buckle_93, bX7_buckle_98, bX7_buckle_102, bX7_buckle_107, bX7_buckle_111, n_buckle_112 hM, bX7_buckle_115, bX7_buckle_118, n_buckle_120 hM, n_buckle_146 hM, m_isPart hM, m_isRing, m_placeOf hM, m_isBuckled hM, m_fails hM]
        · simp (disch := (first | omega | assumption | exact iAnd_in | exact iShr_in | exact jCmp_in | (simp (disch := omega) only [xup2_o, xup2_i, xup2_j]; omega))) only [↓if_pos, ↓if_neg, xret_v, xret_n, xup2_o, xup2_i, xup2_j, eX7_buckle, n_buckle_0 hM, bX7_buckle_5, bX7_buckle_8, bX7_buckle_12, bX7_buckle_15, bX7_buckle_19, bX7_buckle_22, n_buckle_27 hM, bX7_buckle_34, bX7_buckle_38, bX7_buckle_42, bX7_buckle_43, n_buckle_50 hM, n_buckle_59 hM, bX7_buckle_64, n_buckle_67 hM, bX7_buckle_76, bX7_buckle_80, bX7_buckle_81, bX7_buckle_89, bX7_buckle_93, bX7_buckle_98, bX7_buckle_102, bX7_buckle_107, bX7_buckle_111, n_buckle_112 hM, bX7_buckle_115, bX7_buckle_118, n_buckle_120 hM, n_buckle_146 hM, m_isPart hM, m_isRing, m_placeOf hM, m_isBuckled hM, m_fails hM]
      · simp (disch := (first | omega | assumption | exact iAnd_in | exact iShr_in | exact jCmp_in | (simp (disch := omega) only [xup2_o, xup2_i, xup2_j]; omega))) only [↓if_pos, ↓if_neg, xret_v, xret_n, xup2_o, xup2_i, xup2_j, eX7_buckle, n_buckle_0 hM, bX7_buckle_5, bX7_buckle_8, bX7_buckle_12, bX7_buckle_15, bX7_buckle_19, bX7_buckle_22, n_buckle_27 hM, bX7_buckle_34, bX7_buckle_38, bX7_buckle_42, bX7_buckle_43, n_buckle_50 hM, n_buckle_59 hM, bX7_buckle_64, n_buckle_67 hM, bX7_buckle_76, bX7_buckle_80, bX7_buckle_81, bX7_buckle_89, bX7_buckle_93, bX7_buckle_98, bX7_buckle_102, bX7_buckle_107, bX7_buckle_111, n_buckle_112 hM, bX7_buckle_115, bX7_buckle_118, n_buckle_120 hM, n_buckle_146 hM, m_isPart hM, m_isRing, m_placeOf hM, m_isBuckled hM, m_fails hM]
    · simp (disch := (first | omega | assumption | exact iAnd_in | exact iShr_in | exact jCmp_in | (simp (disch := omega) only [xup2_o, xup2_i, xup2_j]; omega))) only [↓if_pos, ↓if_neg, xret_v, xret_n, xup2_o, xup2_i, xup2_j, eX7_buckle, n_buckle_0 hM, bX7_buckle_5, bX7_buckle_8, bX7_buckle_12, bX7_buckle_15, bX7_buckle_19, bX7_buckle_22, n_buckle_27 hM, bX7_buckle_34, bX7_buckle_38, bX7_buckle_42, bX7_buckle_43, n_buckle_50 hM, n_buckle_59 hM, bX7_buckle_64, n_buckle_67 hM, bX7_buckle_76, bX7_buckle_80, bX7_buckle_81, bX7_buckle_89, bX7_buckle_93, bX7_buckle_98, bX7_buckle_102, bX7_buckle_107, bX7_buckle_111, n_buckle_112 hM, bX7_buckle_115, bX7_buckle_118, n_buckle_120 hM, n_buckle_146 hM, m_isPart hM, m_isRing, m_placeOf hM, m_isBuckled hM, m_fails hM]
  · simp (disch := (first | omega | assumption | exact iAnd_in | exact iShr_in | exact jCmp_in | (simp (disch := omega) only [xup2_o, xup2_i, xup2_j]; omega))) only [↓if_pos, ↓if_neg, xret_v, xret_n, xup2_o, xup2_i, xup2_j, eX7_buckle, n_buckle_0 hM, bX7_buckle_5, bX7_buckle_8, bX7_buckle_12, bX7_buckle_15, bX7_buckle_19, bX7_buckle_22, n_buckle_27 hM, bX7_buckle_34, bX7_buckle_38, bX7_buckle_42, bX7_buckle_43, n_buckle_50 hM, n_buckle_59 hM, bX7_buckle_64, n_buckle_67 hM, bX7_buckle_76, bX7_buckle_80, bX7_buckle_81, bX7_buckle_89, bX7_buckle_93, bX7_buckle_98, bX7_buckle_102, bX7_buckle_107, bX7_buckle_111, n_buckle_112 hM, bX7_buckle_115, bX7_buckle_118, n_buckle_120 hM, n_buckle_146 hM, m_isPart hM, m_isRing, m_placeOf hM, m_isBuckled hM, m_fails hM]
theorem m_unbuckle {p : Int} (hM : xMo T R) (hr : xMr V) (hp : (-2147483648 ≤ p ∧ p ≤ 2147483647)) :
    X sc (d + 3) 117 [.ref 56, xw p] (T, z, xv V, J, R) =
      if 0 ≤ p ∧ p < V 56 3 then (if V 68 p.toNat = -1 then some (.inl (some (xw 0)), (T, z, xv (xup2 V 56 28 2), J, R)) else some (.inl (some (xw (V 70 p.toNat))), (T, z, xv (xFe (xup2 V 56 28 0) p.toNat), J, R))) else some (.inl (some (xw 0)), (T, z, xv (xup2 V 56 28 1), J, R)) := by
  obtain ⟨h3, hr⟩ := hr
  by_cases c1 : 0 ≤ p ∧ p < V 56 3
  · have hb := hr p.toNat (by omega)
    by_cases c2 : V 68 p.toNat = -1 <;> simp (disch := (first | omega | assumption | exact iAnd_in | exact iShr_in | exact jCmp_in | (simp (disch := omega) only [xup2_o, xup2_i, xup2_j]; omega))) only [↓if_pos, ↓if_neg, xret_v, xret_n, xup2_o, xup2_i, xup2_j, eX7_unbuckle, n_unbuckle_0 hM, bX7_unbuckle_6, bX7_unbuckle_9, n_unbuckle_13 hM, bX7_unbuckle_18, bX7_unbuckle_21, bX7_unbuckle_25, n_unbuckle_26 hM, bX7_unbuckle_29, bX7_unbuckle_32, n_unbuckle_34 hM, bX7_unbuckle_46, m_isPart hM, m_isBuckled hM, m_frees hM, m_fails hM]
  · simp (disch := (first | omega | assumption | exact iAnd_in | exact iShr_in | exact jCmp_in | (simp (disch := omega) only [xup2_o, xup2_i, xup2_j]; omega))) only [↓if_pos, ↓if_neg, xret_v, xret_n, xup2_o, xup2_i, xup2_j, eX7_unbuckle, n_unbuckle_0 hM, bX7_unbuckle_6, bX7_unbuckle_9, n_unbuckle_13 hM, bX7_unbuckle_18, bX7_unbuckle_21, bX7_unbuckle_25, n_unbuckle_26 hM, bX7_unbuckle_29, bX7_unbuckle_32, n_unbuckle_34 hM, bX7_unbuckle_46, m_isPart hM, m_isBuckled hM, m_frees hM, m_fails hM]
theorem m_oil {p : Int} (hM : xMo T R) (hr : xMr V) (hp : (-2147483648 ≤ p ∧ p ≤ 2147483647)) :
    X sc (d + 3) 129 [.ref 56, xw p] (T, z, xv V, J, R) =
      if 0 ≤ p ∧ p < V 56 3 then some (.inl (some (xw (V 65 p.toNat / 2))), (T, z, xv (xup2 (xup2 V 56 28 0) 65 p.toNat (V 65 p.toNat / 2)), J, R)) else some (.inl (some (xw 0)), (T, z, xv (xup2 V 56 28 1), J, R)) := by
  obtain ⟨h3, hr⟩ := hr
  by_cases c1 : 0 ≤ p ∧ p < V 56 3
  · have hb := hr p.toNat (by omega)
    simp (disch := (first | omega | assumption | exact iAnd_in | exact iShr_in | exact jCmp_in | (simp (disch := omega) only [xup2_o, xup2_i, xup2_j]; omega))) only [↓if_pos, ↓if_neg, xret_v, xret_n, xup2_o, xup2_i, xup2_j, eX7_oil, n_oil_0 hM, bX7_oil_6, bX7_oil_9, bX7_oil_13, n_oil_14 hM, bX7_oil_17, bX7_oil_20, n_oil_22 hM, m_isPart hM, m_fails hM]
  · simp (disch := (first | omega | assumption | exact iAnd_in | exact iShr_in | exact jCmp_in | (simp (disch := omega) only [xup2_o, xup2_i, xup2_j]; omega))) only [↓if_pos, ↓if_neg, xret_v, xret_n, xup2_o, xup2_i, xup2_j, eX7_oil, n_oil_0 hM, bX7_oil_6, bX7_oil_9, bX7_oil_13, n_oil_14 hM, bX7_oil_17, bX7_oil_20, n_oil_22 hM, m_isPart hM, m_fails hM]
def xSw2 (V : Nat → Nat → Int) (p : Nat) : Int := if 4 ≤ V 66 p then 0 else if V 68 p = -1 then (if V 67 p = 0 then 1 else 0) else 0
theorem m_canSew {p : Int} (hM : xMo T R) (hp : 0 ≤ p ∧ p < 40) (hb : (-2147483648 ≤ V 66 p.toNat ∧ V 66 p.toNat ≤ 2147483647)) (hb2 : (-2147483648 ≤ V 68 p.toNat ∧ V 68 p.toNat ≤ 2147483647)) (hb3 : (-2147483648 ≤ V 67 p.toNat ∧ V 67 p.toNat ≤ 2147483647)) :
    X sc (d + 2) 130 [.ref 56, xw p] (T, z, xv V, J, R) = some (.inl (some (xw (xSw2 V p.toNat))), (T, z, xv (V), J, R)) := by
  unfold xSw2
  by_cases c1 : 4 ≤ V 66 p.toNat
  · simp (disch := (first | omega | assumption | exact iAnd_in | exact iShr_in | exact jCmp_in | (simp (disch := omega) only [xup2_o, xup2_i, xup2_j]; omega))) only [↓if_pos, ↓if_neg, xret_v, xret_n, xup2_o, xup2_i, xup2_j, eX7_canSew, n_canSew_0 hM, n_canSew_10 hM, bX7_canSew_15, n_canSew_18 hM, bX7_canSew_27, bX7_canSew_31, bX7_canSew_32, m_isBuckled hM]
  · by_cases c2 : V 68 p.toNat = -1
    · by_cases c3 : V 67 p.toNat = 0 <;> simp (disch := (first | omega | assumption | exact iAnd_in | exact iShr_in | exact jCmp_in | (simp (disch := omega) only [xup2_o, xup2_i, xup2_j]; omega))) only [↓if_pos, ↓if_neg, xret_v, xret_n, xup2_o, xup2_i, xup2_j, eX7_canSew, n_canSew_0 hM, n_canSew_10 hM, bX7_canSew_15, n_canSew_18 hM, bX7_canSew_27, bX7_canSew_31, bX7_canSew_32, m_isBuckled hM]
    · simp (disch := (first | omega | assumption | exact iAnd_in | exact iShr_in | exact jCmp_in | (simp (disch := omega) only [xup2_o, xup2_i, xup2_j]; omega))) only [↓if_pos, ↓if_neg, xret_v, xret_n, xup2_o, xup2_i, xup2_j, eX7_canSew, n_canSew_0 hM, n_canSew_10 hM, bX7_canSew_15, n_canSew_18 hM, bX7_canSew_27, bX7_canSew_31, bX7_canSew_32, m_isBuckled hM]
theorem m_sew {p q k t : Int} (hM : xMo T R) (hr : xMr V) (hp : (-2147483648 ≤ p ∧ p ≤ 2147483647)) (hq : (-2147483648 ≤ q ∧ q ≤ 2147483647)) (hk : (-2147483648 ≤ k ∧ k ≤ 2147483647)) (ht : (-2147483648 ≤ t ∧ t ≤ 2147483647)) :
    X sc (d + 3) 131 [.ref 56, xw p, xw q, xw k, xw t] (T, z, xv V, J, R) =
      if (0 ≤ p ∧ p < V 56 3) ∧ (0 ≤ q ∧ q < V 56 3) then
        (if (¬ p = q) ∧ (1 ≤ k ∧ k ≤ 12) ∧ (1 ≤ t ∧ t ≤ 50) then
          (if xSw2 V p.toNat = 0 ∨ xSw2 V q.toNat = 0 then some (.inl (some (xw 0)), (T, z, xv (xup2 V 56 28 3), J, R))
           else some (.inl (some (xw (min (k * min (V 59 p.toNat) (V 59 q.toNat) * t) (min (V 61 p.toNat) (V 61 q.toNat) * (20 - k) * min (V 59 p.toNat) (V 59 q.toNat))))), (T, z, xv (xup2 (xup2 (xup2 V 56 28 0) 66 p.toNat (V 66 p.toNat + 1)) 66 q.toNat (V 66 q.toNat + 1)), J, R)))
         else some (.inl (some (xw 0)), (T, z, xv (xup2 V 56 28 2), J, R)))
      else some (.inl (some (xw 0)), (T, z, xv (xup2 V 56 28 1), J, R)) := by
  obtain ⟨h3, hr⟩ := hr
  by_cases c1 : 0 ≤ p ∧ p < V 56 3
  · have hb := hr p.toNat (by omega)
    by_cases c2 : 0 ≤ q ∧ q < V 56 3
    · have hb2 := hr q.toNat (by omega)
      by_cases c3 : p = q
      · simp (disch := (first | omega | assumption | exact iAnd_in | exact iShr_in | exact jCmp_in | (simp (disch := omega) only [xup2_o, xup2_i, xup2_j]; omega))) only [↓if_pos, ↓if_neg, xret_v, xret_n, xup2_o, xup2_i, xup2_j, eX7_sew, n_sew_0 hM, bX7_sew_5, n_sew_8 hM, bX7_sew_13, bX7_sew_16, bX7_sew_20, bX7_sew_21, bX7_sew_28, bX7_sew_35, bX7_sew_38, bX7_sew_46, bX7_sew_49, bX7_sew_53, bX7_sew_54, bX7_sew_62, bX7_sew_66, bX7_sew_71, n_sew_75 hM, bX7_sew_80, n_sew_83 hM, bX7_sew_88, bX7_sew_91, bX7_sew_95, n_sew_96 hM, bX7_sew_99, bX7_sew_102, n_sew_104 hM, n_sew_139 hM, n_sew_148 hM, n_sew_154 hM, n_sew_171 hM, n_sew_180 hM, bX7_sew_186, bX7_sew_216, bX7_sew_221, bX7_sew_223, m_isPart hM, m_isIn, m_canSew hM, m_fails hM]
      · by_cases c4 : 1 ≤ k ∧ k ≤ 12
        · by_cases c5 : 1 ≤ t ∧ t ≤ 50
          · have s1 : xSw2 V p.toNat = 0 ∨ xSw2 V p.toNat = 1 := by unfold xSw2; repeat' split <;> omega
            have s2 : xSw2 V q.toNat = 0 ∨ xSw2 V q.toNat = 1 := by unfold xSw2; repeat' split <;> omega
            by_cases c6 : xSw2 V p.toNat = 0
            · simp (disch := (first | omega | assumption | exact iAnd_in | exact iShr_in | exact jCmp_in | (simp (disch := omega) only [xup2_o, xup2_i, xup2_j]; omega))) only [↓if_pos, ↓if_neg, xret_v, xret_n, xup2_o, xup2_i, xup2_j, eX7_sew, n_sew_0 hM, bX7_sew_5, n_sew_8 hM, bX7_sew_13, bX7_sew_16, bX7_sew_20, bX7_sew_21, bX7_sew_28, bX7_sew_35, bX7_sew_38, bX7_sew_46, bX7_sew_49, bX7_sew_53, bX7_sew_54, bX7_sew_62, bX7_sew_66, bX7_sew_71, n_sew_75 hM, bX7_sew_80, n_sew_83 hM, bX7_sew_88, bX7_sew_91, bX7_sew_95, n_sew_96 hM, bX7_sew_99, bX7_sew_102, n_sew_104 hM, n_sew_139 hM, n_sew_148 hM, n_sew_154 hM, n_sew_171 hM, n_sew_180 hM, bX7_sew_186, bX7_sew_216, bX7_sew_221, bX7_sew_223, m_isPart hM, m_isIn, m_canSew hM, m_fails hM]
            · by_cases c7 : xSw2 V q.toNat = 0
              · simp (disch := (first | omega | assumption | exact iAnd_in | exact iShr_in | exact jCmp_in | (simp (disch := omega) only [xup2_o, xup2_i, xup2_j]; omega))) only [↓if_pos, ↓if_neg, xret_v, xret_n, xup2_o, xup2_i, xup2_j, eX7_sew, n_sew_0 hM, bX7_sew_5, n_sew_8 hM, bX7_sew_13, bX7_sew_16, bX7_sew_20, bX7_sew_21, bX7_sew_28, bX7_sew_35, bX7_sew_38, bX7_sew_46, bX7_sew_49, bX7_sew_53, bX7_sew_54, bX7_sew_62, bX7_sew_66, bX7_sew_71, n_sew_75 hM, bX7_sew_80, n_sew_83 hM, bX7_sew_88, bX7_sew_91, bX7_sew_95, n_sew_96 hM, bX7_sew_99, bX7_sew_102, n_sew_104 hM, n_sew_139 hM, n_sew_148 hM, n_sew_154 hM, n_sew_171 hM, n_sew_180 hM, bX7_sew_186, bX7_sew_216, bX7_sew_221, bX7_sew_223, m_isPart hM, m_isIn, m_canSew hM, m_fails hM]
              · have hne : ¬ q.toNat = p.toNat := by omega
                have m1 : 0 ≤ min (V 59 p.toNat) (V 59 q.toNat) ∧ min (V 59 p.toNat) (V 59 q.toNat) ≤ 12 := by omega
                have m2 : 0 ≤ min (V 61 p.toNat) (V 61 q.toNat) ∧ min (V 61 p.toNat) (V 61 q.toNat) ≤ 9 := by omega
                have b1 := mul_bd (mul_bd (a := k) (A := 12) (by omega) m1) (b := t) (B := 50) (by omega)
                have b2 := mul_bd (mul_bd m2 (b := 20 - k) (B := 20) (by omega)) m1
                have fin : ∀ (a b : Int) (V : Nat → Nat → Int) (o0 o1 o2 o5 o6 o8 o9 o10 : Option Value), a = min (V 59 p.toNat) (V 59 q.toNat) → 0 ≤ k * a * t ∧ k * a * t ≤ 10000 → b = min (V 61 p.toNat) (V 61 q.toNat) → 0 ≤ b * (20 - k) * a ∧ b * (20 - k) * a ≤ 10000 →
                    XR sc (d + 2) 131 186 [o0, o1, o2, some (xw k), some (xw t), o5, o6, some (xw a), o8, o9, o10] [xw b] (T, z, xv V, J, R) = some (.inl (some (xw (min (k * a * t) (b * (20 - k) * a)))), (T, z, xv (V), J, R)) := by
                  intro a b V o0 o1 o2 o5 o6 o8 o9 o10 _ g1 _ g2
                  rw [bX7_sew_186 (by omega) (by omega)]
                  by_cases q1 : b * (20 - k) * a ≤ k * a * t
                  · rw [if_pos q1, bX7_sew_221, bX7_sew_223, show min (k * a * t) (b * (20 - k) * a) = b * (20 - k) * a by omega]
                  · rw [if_neg q1, bX7_sew_216, bX7_sew_223, show min (k * a * t) (b * (20 - k) * a) = k * a * t by omega]
                rcases (show (min (V 59 p.toNat) (V 59 q.toNat) = V 59 q.toNat ∧ V 59 q.toNat ≤ V 59 p.toNat) ∨ (min (V 59 p.toNat) (V 59 q.toNat) = V 59 p.toNat ∧ ¬ V 59 q.toNat ≤ V 59 p.toNat) by omega) with ⟨e1, g1⟩ | ⟨e1, g1⟩ <;>
                rcases (show (min (V 61 p.toNat) (V 61 q.toNat) = V 61 q.toNat ∧ V 61 q.toNat ≤ V 61 p.toNat) ∨ (min (V 61 p.toNat) (V 61 q.toNat) = V 61 p.toNat ∧ ¬ V 61 q.toNat ≤ V 61 p.toNat) by omega) with ⟨e2, g2⟩ | ⟨e2, g2⟩ <;>
                (rw [e1] at b1; rw [e1, e2] at b2; rw [e1, e2]
                 simp (disch := (first | omega | assumption | exact iAnd_in | exact iShr_in | exact jCmp_in | (simp (disch := omega) only [xup2_o, xup2_i, xup2_j]; omega))) only [↓if_pos, ↓if_neg, xret_v, xret_n, xup2_o, xup2_i, xup2_j, eX7_sew, n_sew_0 hM, bX7_sew_5, n_sew_8 hM, bX7_sew_13, bX7_sew_16, bX7_sew_20, bX7_sew_21, bX7_sew_28, bX7_sew_35, bX7_sew_38, bX7_sew_46, bX7_sew_49, bX7_sew_53, bX7_sew_54, bX7_sew_62, bX7_sew_66, bX7_sew_71, n_sew_75 hM, bX7_sew_80, n_sew_83 hM, bX7_sew_88, bX7_sew_91, bX7_sew_95, n_sew_96 hM, bX7_sew_99, bX7_sew_102, n_sew_104 hM, n_sew_139 hM, n_sew_148 hM, n_sew_154 hM, n_sew_171 hM, n_sew_180 hM, bX7_sew_216, bX7_sew_221, bX7_sew_223, m_isPart hM, m_isIn, m_canSew hM, m_fails hM]
                 refine fin _ _ _ _ _ _ _ _ _ _ _ ?_ (by omega) ?_ (by omega)
                 · rw [xup2_o (by decide), xup2_o (by decide), xup2_o (by decide)]; omega
                 · rw [xup2_o (by decide), xup2_o (by decide), xup2_o (by decide)]; omega)
          · simp (disch := (first | omega | assumption | exact iAnd_in | exact iShr_in | exact jCmp_in | (simp (disch := omega) only [xup2_o, xup2_i, xup2_j]; omega))) only [↓if_pos, ↓if_neg, xret_v, xret_n, xup2_o, xup2_i, xup2_j, eX7_sew, n_sew_0 hM, bX7_sew_5, n_sew_8 hM, bX7_sew_13, bX7_sew_16, bX7_sew_20, bX7_sew_21, bX7_sew_28, bX7_sew_35, bX7_sew_38, bX7_sew_46, bX7_sew_49, bX7_sew_53, bX7_sew_54, bX7_sew_62, bX7_sew_66, bX7_sew_71, n_sew_75 hM, bX7_sew_80, n_sew_83 hM, bX7_sew_88, bX7_sew_91, bX7_sew_95, n_sew_96 hM, bX7_sew_99, bX7_sew_102, n_sew_104 hM, n_sew_139 hM, n_sew_148 hM, n_sew_154 hM, n_sew_171 hM, n_sew_180 hM, bX7_sew_186, bX7_sew_216, bX7_sew_221, bX7_sew_223, m_isPart hM, m_isIn, m_canSew hM, m_fails hM]
        · simp (disch := (first | omega | assumption | exact iAnd_in | exact iShr_in | exact jCmp_in | (simp (disch := omega) only [xup2_o, xup2_i, xup2_j]; omega))) only [↓if_pos, ↓if_neg, xret_v, xret_n, xup2_o, xup2_i, xup2_j, eX7_sew, n_sew_0 hM, bX7_sew_5, n_sew_8 hM, bX7_sew_13, bX7_sew_16, bX7_sew_20, bX7_sew_21, bX7_sew_28, bX7_sew_35, bX7_sew_38, bX7_sew_46, bX7_sew_49, bX7_sew_53, bX7_sew_54, bX7_sew_62, bX7_sew_66, bX7_sew_71, n_sew_75 hM, bX7_sew_80, n_sew_83 hM, bX7_sew_88, bX7_sew_91, bX7_sew_95, n_sew_96 hM, bX7_sew_99, bX7_sew_102, n_sew_104 hM, n_sew_139 hM, n_sew_148 hM, n_sew_154 hM, n_sew_171 hM, n_sew_180 hM, bX7_sew_186, bX7_sew_216, bX7_sew_221, bX7_sew_223, m_isPart hM, m_isIn, m_canSew hM, m_fails hM]
    · by_cases c4 : 1 ≤ k ∧ k ≤ 12 <;> by_cases c5 : 1 ≤ t ∧ t ≤ 50 <;> simp (disch := (first | omega | assumption | exact iAnd_in | exact iShr_in | exact jCmp_in | (simp (disch := omega) only [xup2_o, xup2_i, xup2_j]; omega))) only [↓if_pos, ↓if_neg, xret_v, xret_n, xup2_o, xup2_i, xup2_j, eX7_sew, n_sew_0 hM, bX7_sew_5, n_sew_8 hM, bX7_sew_13, bX7_sew_16, bX7_sew_20, bX7_sew_21, bX7_sew_28, bX7_sew_35, bX7_sew_38, bX7_sew_46, bX7_sew_49, bX7_sew_53, bX7_sew_54, bX7_sew_62, bX7_sew_66, bX7_sew_71, n_sew_75 hM, bX7_sew_80, n_sew_83 hM, bX7_sew_88, bX7_sew_91, bX7_sew_95, n_sew_96 hM, bX7_sew_99, bX7_sew_102, n_sew_104 hM, n_sew_139 hM, n_sew_148 hM, n_sew_154 hM, n_sew_171 hM, n_sew_180 hM, bX7_sew_186, bX7_sew_216, bX7_sew_221, bX7_sew_223, m_isPart hM, m_isIn, m_canSew hM, m_fails hM]
  · by_cases c3 : p = q <;> by_cases c4 : 1 ≤ k ∧ k ≤ 12 <;> by_cases c5 : 1 ≤ t ∧ t ≤ 50 <;> simp (disch := (first | omega | assumption | exact iAnd_in | exact iShr_in | exact jCmp_in | (simp (disch := omega) only [xup2_o, xup2_i, xup2_j]; omega))) only [↓if_pos, ↓if_neg, xret_v, xret_n, xup2_o, xup2_i, xup2_j, eX7_sew, n_sew_0 hM, bX7_sew_5, n_sew_8 hM, bX7_sew_13, bX7_sew_16, bX7_sew_20, bX7_sew_21, bX7_sew_28, bX7_sew_35, bX7_sew_38, bX7_sew_46, bX7_sew_49, bX7_sew_53, bX7_sew_54, bX7_sew_62, bX7_sew_66, bX7_sew_71, n_sew_75 hM, bX7_sew_80, n_sew_83 hM, bX7_sew_88, bX7_sew_91, bX7_sew_95, n_sew_96 hM, bX7_sew_99, bX7_sew_102, n_sew_104 hM, n_sew_139 hM, n_sew_148 hM, n_sew_154 hM, n_sew_171 hM, n_sew_180 hM, bX7_sew_186, bX7_sew_216, bX7_sew_221, bX7_sew_223, m_isPart hM, m_isIn, m_canSew hM, m_fails hM]
end SX7c
