/-! what the methods of Route do: the route stands at 3, its arrays at 4 to 8 -/
section SX3
variable {sc : xS} {d : Nat} {T : Nat → Nat × Nat} {z : Nat × Nat} {V : Nat → Nat → Int} {J : Nat → Nat → Int64} {R : Nat → Nat → Option Nat}
def xRo (T : Nat → Nat × Nat) (R : Nat → Nat → Option Nat) : Prop := T 3 = (5, 0) ∧ R 3 0 = some 4 ∧ R 3 1 = some 5 ∧ R 3 2 = some 6 ∧ R 3 3 = some 7 ∧ R 3 4 = some 8 ∧ T 4 = (32, 64) ∧ T 5 = (32, 64) ∧ T 6 = (33, 64) ∧ T 7 = (32, 8) ∧ T 8 = (32, 8)
theorem s_pair {x y : Int} : X sc (d + 1) 31 [xw x, xw y] (T, z, xv V, J, R) = some (.inl (some (xw (x * 8 + y))), (T, z, xv V, J, R)) := by
  rw [eX3_pair, bX3_pair_0]
theorem s_exists (hR : xRo T R) (h : -2147483648 ≤ V 3 5 ∧ V 3 5 ≤ 2147483647) :
    X sc (d + 1) 26 [.ref 3] (T, z, xv V, J, R) = some (.inl (some (xw (if V 3 5 ≤ 0 then 0 else 1))), (T, z, xv V, J, R)) := by
  rw [eX3_exists, bX3_exists_0 hR.1 h]
  by_cases c : V 3 5 ≤ 0
  · rw [if_pos c, if_pos c, bX3_exists_11, bX3_exists_12 (by decide)]
  · rw [if_neg c, if_neg c, bX3_exists_7, bX3_exists_12 (by decide)]
theorem s_ringAt {x : Int} (hR : xRo T R) (h : 0 ≤ V 3 5 ∧ V 3 5 ≤ 8) (hx : -2147483648 ≤ x ∧ x ≤ 2147483647) :
    X sc (d + 1) 27 [.ref 3, xw x] (T, z, xv V, J, R) = some (.inl (some (xw (if 0 ≤ x ∧ x < V 3 5 then V 8 x.toNat else -1))), (T, z, xv V, J, R)) := by
  obtain ⟨h1, r0, r1, r2, r3, r4, t4, t5, t6, t7, t8⟩ := hR
  rw [eX3_ringAt, bX3_ringAt_0 hx]
  by_cases c : x < 0
  · rw [if_pos c, bX3_ringAt_30, bX3_ringAt_31, if_neg (by omega)]
  · rw [if_neg c, bX3_ringAt_4 h1 hx (by omega)]
    by_cases c2 : V 3 5 ≤ x
    · rw [if_pos c2, bX3_ringAt_30, bX3_ringAt_31, if_neg (by omega)]
    · rw [if_neg c2, bX3_ringAt_12 h1 (rgd r4) rfl (lgd r4 t8 (by decide)) hx (by rw [ted r4 t8]; decide), ted r4 t8, if_neg (show ¬ ((((32, 8) : Nat × Nat).2 : Nat) : Int) ≤ x by show ¬ (8 : Int) ≤ x; omega), bX3_ringAt_21 h1 (rgd r4) (tgd r4 t8) (igd r4 t8 (by omega)), bX3_ringAt_31, if_pos (by omega), r4]
      rfl
/-- whether a part bears: its pair of rings is taken, and it is shortest there -/
def xBe (V : Nat → Nat → Int) (a : Nat) : Int := if V a 11 = -1 then 0 else if V 6 (V a 9 * 8 + V a 10).toNat = 0 then 0 else if V a 11 = V 4 (V a 9 * 8 + V a 10).toNat then 1 else 0
theorem xBe_in {a : Nat} : -2147483648 ≤ xBe V a ∧ xBe V a ≤ 2147483647 := by
  unfold xBe
  split
  · decide
  · split
    · decide
    · split <;> decide
/-- a part's cells as they are ever: its rings -1 or below 8, its length as it stands in the route -/
def xPb (V : Nat → Nat → Int) (a : Nat) : Prop := (V a 11 = -1 ∨ (0 ≤ V a 9 ∧ V a 9 < 8 ∧ 0 ≤ V a 10 ∧ V a 10 < 8 ∧ 0 ≤ V a 11 ∧ V a 11 ≤ 100))
theorem s_isBearing {a : Nat} (hR : xRo T R) (hT : T a = (2, 0)) (hP : xPb V a) (h4 : ∀ k, k < 64 → 0 ≤ V 4 k ∧ V 4 k ≤ 100) (h6 : ∀ k, k < 64 → V 6 k = 0 ∨ V 6 k = 1) :
    X sc (d + 2) 28 [.ref 3, .ref a] (T, z, xv V, J, R) = some (.inl (some (xw (xBe V a))), (T, z, xv V, J, R)) := by
  obtain ⟨h1, r0, r1, r2, r3, r4, t4, t5, t6, t7, t8⟩ := hR
  rw [eX3_isBearing, bX3_isBearing_0 hT, s_isBuckled hT (by unfold xPb at hP; omega), xret_v, xBe]
  by_cases c : V a 11 = -1
  · rw [if_pos c, if_pos c, bX3_isBearing_4 (by decide), if_pos rfl, bX3_isBearing_7]
  · obtain hP := hP.resolve_left c
    have v4 := h4 (V a 9 * 8 + V a 10).toNat (by omega)
    have v6 := h6 (V a 9 * 8 + V a 10).toNat (by omega)
    have e2 : (R 3 2).getD 0 = 6 := by rw [r2]; rfl
    have e0 : (R 3 0).getD 0 = 4 := by rw [r0]; rfl
    rw [if_neg c, if_neg c, bX3_isBearing_4 (by decide), if_neg (by decide), bX3_isBearing_9 hT, s_pair, xret_v, bX3_isBearing_20 h1 (rgd r2) (tgd r2 t6) (igd r2 t6 (by omega)) (by rw [e2]; omega), e2]
    by_cases c2 : V 6 (V a 9 * 8 + V a 10).toNat = 0
    · rw [if_pos c2, if_pos c2, bX3_isBearing_47, bX3_isBearing_48 (by decide)]
    · rw [if_neg c2, if_neg c2, bX3_isBearing_30 hT h1 (rgd r0) (tgd r0 t4) (igd r0 t4 (by omega)) (by omega) (by rw [e0]; omega), e0]
      by_cases c3 : V a 11 = V 4 (V a 9 * 8 + V a 10).toNat
      · rw [if_pos c3, if_pos c3, bX3_isBearing_43, bX3_isBearing_48 (by decide)]
      · rw [if_neg c3, if_neg c3, bX3_isBearing_47, bX3_isBearing_48 (by decide)]
/-- how many share what a part bears; 0 where it bears none -/
def xSh (V : Nat → Nat → Int) (a : Nat) : Int := if xBe V a = 0 then 0 else V 5 (V a 9 * 8 + V a 10).toNat
def xBu (V : Nat → Nat → Int) (a : Nat) (f : Int) : Int := if xSh V a ≤ 0 then 0 else (f + xSh V a - 1) / xSh V a
theorem xBe_un {a : Nat} (h : ¬ xBe V a = 0) : ¬ V a 11 = -1 := by
  intro q
  exact h (by rw [xBe, if_pos q])
theorem s_burden {a : Nat} {f : Int} (hR : xRo T R) (hT : T a = (2, 0)) (hP : xPb V a) (h4 : ∀ k, k < 64 → 0 ≤ V 4 k ∧ V 4 k ≤ 100) (h5 : ∀ k, k < 64 → 0 ≤ V 5 k ∧ V 5 k ≤ 1000) (h6 : ∀ k, k < 64 → V 6 k = 0 ∨ V 6 k = 1) (hf : 1 ≤ f ∧ f ≤ 10000) :
    X sc (d + 3) 29 [.ref 3, .ref a, xw f] (T, z, xv V, J, R) = some (.inl (some (xw (xBu V a f))), (T, z, xv V, J, R)) := by
  have hR' := hR
  obtain ⟨h1, r0, r1, r2, r3, r4, t4, t5, t6, t7, t8⟩ := hR
  rw [eX3_burden, bX3_burden_0 h1, s_isBearing hR' hT hP h4 h6, xret_v, bX3_burden_5 xBe_in, xBu, xSh]
  by_cases c : xBe V a = 0
  · rw [if_pos c, if_pos c, bX3_burden_27, bX3_burden_28 (by decide), if_pos (by decide), if_pos (by decide), bX3_burden_43, bX3_burden_44]
  · have hP2 := hP.resolve_left (xBe_un c)
    have v5 := h5 (V a 9 * 8 + V a 10).toNat (by omega)
    have e1 : (R 3 1).getD 0 = 5 := by rw [r1]; rfl
    rw [if_neg c, if_neg c, bX3_burden_8 h1 (rgd r1) hT, s_pair, xret_v, e1, bX3_burden_23 (by rw [t5]) (by rw [t5]; omega), bX3_burden_28 (by omega)]
    by_cases c2 : V 5 (V a 9 * 8 + V a 10).toNat ≤ 0
    · rw [if_pos c2, if_pos c2, bX3_burden_43, bX3_burden_44]
    · rw [if_neg c2, if_neg c2, bX3_burden_33 (by omega), bX3_burden_44]
theorem s_mostFor {a : Nat} (hR : xRo T R) (hT : T a = (2, 0)) (hP : xPb V a) (h4 : ∀ k, k < 64 → 0 ≤ V 4 k ∧ V 4 k ≤ 100) (h5 : ∀ k, k < 64 → 0 ≤ V 5 k ∧ V 5 k ≤ 1000) (h6 : ∀ k, k < 64 → V 6 k = 0 ∨ V 6 k = 1)
    (g6 : -2147483648 ≤ V a 6 ∧ V a 6 ≤ 2147483647) (hw : 0 ≤ 10 * V a 1 * V a 5 ∧ 10 * V a 1 * V a 5 ≤ 1000) (h7 : 0 ≤ V a 7 ∧ V a 7 ≤ 100000000) :
    X sc (d + 3) 30 [.ref 3, .ref a] (T, z, xv V, J, R) = some (.inl (some (xw (xSh V a * xSt V a))), (T, z, xv V, J, R)) := by
  have hR' := hR
  obtain ⟨h1, r0, r1, r2, r3, r4, t4, t5, t6, t7, t8⟩ := hR
  rw [eX3_mostFor, bX3_mostFor_0 h1, s_isBearing hR' hT hP h4 h6, xret_v, bX3_mostFor_5 xBe_in, xSh]
  by_cases c : xBe V a = 0
  · rw [if_pos c, if_pos c, bX3_mostFor_27, bX3_mostFor_28 hT, s_strength hT g6 hw h7, xret_v, bX3_mostFor_34]
  · have hP2 := hP.resolve_left (xBe_un c)
    have e1 : (R 3 1).getD 0 = 5 := by rw [r1]; rfl
    rw [if_neg c, if_neg c, bX3_mostFor_8 h1 (rgd r1) hT, s_pair, xret_v, e1, bX3_mostFor_23 (by rw [t5]) (by rw [t5]; omega), bX3_mostFor_28 hT, s_strength hT g6 hw h7, xret_v, bX3_mostFor_34]
/-- the first k places of the three arrays of pairs are 0 -/
def xCl (V : Nat → Nat → Int) (k n : Nat) : Nat → Nat → Int := fun b j => if (b = 4 ∨ b = 5 ∨ b = 6) ∧ k ≤ j ∧ j < n then 0 else V b j
theorem clear_loop (hR : xRo T R) : ∀ (m k : Nat) (V : Nat → Nat → Int), k + m = 64 →
    XR sc d 32 2 [some (.ref 3), some (xw k)] [] (T, z, xv V, J, R) = some (.inl none, (T, z, xv (xup2 (xCl V k 64) 3 5 0), J, R)) := by
  obtain ⟨h1, r0, r1, r2, r3, r4, t4, t5, t6, t7, t8⟩ := hR
  intro m
  induction m with
  | zero =>
    intro k V hk
    rw [bX3_clear_2 (by omega), if_pos (by omega), bX3_clear_35 h1]
    have : xCl V k 64 = V := by
      funext b j
      simp only [xCl]
      rw [if_neg (by omega)]
    rw [this]
  | succ m ih =>
    intro k V hk
    have e0 : (R 3 0).getD 0 = 4 := by rw [r0]; rfl
    have e1 : (R 3 1).getD 0 = 5 := by rw [r1]; rfl
    have e2 : (R 3 2).getD 0 = 6 := by rw [r2]; rfl
    rw [bX3_clear_2 (by omega), if_neg (by omega), bX3_clear_8 h1 (rgd r0) (tgd r0 t4) (igd r0 t4 (by omega)) (rgd r1) (tgd r1 t5) (igd r1 t5 (by omega)) (rgd r2) (tgd r2 t6) (igd r2 t6 (by omega)), e0, e1, e2, Int.toNat_natCast, show (k : Int) + 1 = ((k + 1 : Nat) : Int) by omega, ih (k + 1) _ (by omega)]
    have : xCl (xup2 (xup2 (xup2 V 4 k 0) 5 k 0) 6 k 0) (k + 1) 64 = xCl V k 64 := by
      funext b j
      simp only [xCl, xup2]
      repeat' split
      all_goals first | rfl | omega
    rw [this]
theorem s_clear (hR : xRo T R) : X sc (d + 1) 32 [.ref 3] (T, z, xv V, J, R) = some (.inl none, (T, z, xv (xup2 (xCl V 0 64) 3 5 0), J, R)) := by
  rw [eX3_clear, bX3_clear_0]
  exact clear_loop hR 64 0 V rfl
/-- a strap between a pair is noted -/
def xNo (V : Nat → Nat → Int) (p : Nat) (l : Int) : Nat → Nat → Int :=
  if V 4 p = 0 ∨ l < V 4 p then xup2 (xup2 (xup2 V 4 p l) 5 p 0) 5 p 1
  else if l = V 4 p then xup2 V 5 p (V 5 p + 1) else V
theorem s_note {p : Nat} {l : Int} (hR : xRo T R) (hp : p < 64) (h4 : 0 ≤ V 4 p ∧ V 4 p ≤ 100) (hl : 0 ≤ l ∧ l ≤ 100) :
    X sc (d + 1) 33 [.ref 3, xw p, xw l] (T, z, xv V, J, R) = some (.inl none, (T, z, xv (xNo V p l), J, R)) := by
  obtain ⟨h1, r0, r1, r2, r3, r4, t4, t5, t6, t7, t8⟩ := hR
  have e0 : (R 3 0).getD 0 = 4 := by rw [r0]; rfl
  have e1 : (R 3 1).getD 0 = 5 := by rw [r1]; rfl
  have k19 : XR sc d 33 19 [some (.ref 3), some (xw p), some (xw l)] [] (T, z, xv V, J, R) = some (.inl none, (T, z, xv (xup2 (xup2 (xup2 V 4 p l) 5 p 0) 5 p 1), J, R)) := by
    have a4 : xup2 (xup2 V 4 p l) 5 p 0 4 p = l := by simp [xup2]
    have a5 : xup2 (xup2 V 4 p l) 5 p 0 5 p = 0 := by simp [xup2]
    rw [bX3_note_19 h1 (rgd r0) (tgd r0 t4) (igd r0 t4 (by omega)) (rgd r1) (tgd r1 t5) (igd r1 t5 (by omega)), e0, e1, Int.toNat_natCast, bX3_note_33 h1 (rgd r0) (tgd r0 t4) (igd r0 t4 (by omega)) (by omega) (by rw [e0, Int.toNat_natCast, a4]; omega), e0, Int.toNat_natCast, a4, if_pos rfl, bX3_note_43 h1 (rgd r1) (tgd r1 t5) (igd r1 t5 (by omega)), e1, Int.toNat_natCast, a5, bX3_note_53]
    rfl
  rw [eX3_note, bX3_note_0 h1 (rgd r0) (tgd r0 t4) (igd r0 t4 (by omega)) (by rw [e0, Int.toNat_natCast]; omega), e0, Int.toNat_natCast, xNo]
  by_cases c : V 4 p = 0
  · rw [if_pos c, if_pos (Or.inl c), k19]
  · rw [if_neg c, bX3_note_9 h1 (rgd r0) (tgd r0 t4) (igd r0 t4 (by omega)) (by omega) (by rw [e0, Int.toNat_natCast]; omega), e0, Int.toNat_natCast]
    by_cases c2 : V 4 p ≤ l
    · rw [if_pos c2, if_neg (by omega), bX3_note_33 h1 (rgd r0) (tgd r0 t4) (igd r0 t4 (by omega)) (by omega) (by rw [e0, Int.toNat_natCast]; omega), e0, Int.toNat_natCast]
      by_cases c3 : l = V 4 p
      · rw [if_pos c3, if_pos c3, bX3_note_43 h1 (rgd r1) (tgd r1 t5) (igd r1 t5 (by omega)), e1, Int.toNat_natCast, bX3_note_53]
      · rw [if_neg c3, if_neg c3, bX3_note_53]
    · rw [if_neg c2, if_pos (by omega), k19]
/-- how far the goal is from ring x by way of ring y -/
def xTh (s D : Nat → Int) (x y : Nat) : Int := if s (x * 8 + y) ≤ 0 then 1000000 else s (x * 8 + y) * 16 + 1 + D y
theorem s_through {x y : Nat} (hR : xRo T R) (hx : x < 8) (hy : y < 8) (h4 : 0 ≤ V 4 (x * 8 + y) ∧ V 4 (x * 8 + y) ≤ 100) :
    X sc (d + 2) 36 [.ref 3, xw x, xw y] (T, z, xv V, J, R) = some (.inl (some (xw (xTh (V 4) (V 7) x y))), (T, z, xv V, J, R)) := by
  obtain ⟨h1, r0, r1, r2, r3, r4, t4, t5, t6, t7, t8⟩ := hR
  have e0 : (R 3 0).getD 0 = 4 := by rw [r0]; rfl
  have e3 : (R 3 3).getD 0 = 7 := by rw [r3]; rfl
  have ep : ((x : Int) * 8 + (y : Int)).toNat = x * 8 + y := by omega
  rw [eX3_through, bX3_through_0 h1 (rgd r0), s_pair, xret_v, e0, bX3_through_9 (by rw [t4]) (by rw [t4]; omega) (by rw [ep]; omega), ep, xTh]
  by_cases c : V 4 (x * 8 + y) ≤ 0
  · rw [if_pos c, if_pos c, bX3_through_31, bX3_through_33]
  · rw [if_neg c, if_neg c, bX3_through_15 h1 (rgd r3) (tgd r3 t7) (igd r3 t7 (by omega)), e3, Int.toNat_natCast, bX3_through_33]
def xNr (s D : Nat → Int) (x : Nat) : Nat → Nat → Int → Int
  | 0, _, b => b
  | m + 1, k, b => xNr s D x m (k + 1) (min b (xTh s D x k))
theorem near_loop {x : Nat} (hR : xRo T R) (hx : x < 8) (h4 : ∀ k, k < 64 → 0 ≤ V 4 k ∧ V 4 k ≤ 100) (h7 : ∀ k, k < 8 → 0 ≤ V 7 k ∧ V 7 k ≤ 1000000) :
    ∀ (m k : Nat) (b : Int), k + m = 8 → 0 ≤ b ∧ b ≤ 1000000 →
    XR sc (d + 2) 35 5 [some (.ref 3), some (xw x), some (xw b), some (xw k)] [] (T, z, xv V, J, R) = some (.inl (some (xw (xNr (V 4) (V 7) x m k b))), (T, z, xv V, J, R)) := by
  intro m
  induction m with
  | zero =>
    intro k b hk hb
    rw [bX3_nearest_5 (by omega), if_pos (by omega), bX3_nearest_28]; rfl
  | succ m ih =>
    intro k b hk hb
    have a4 := h4 (x * 8 + k) (by omega)
    have a7 := h7 k (by omega)
    have ht : 0 ≤ xTh (V 4) (V 7) x k ∧ xTh (V 4) (V 7) x k ≤ 1100000 := by
      unfold xTh
      split <;> omega
    rw [bX3_nearest_5 (by omega), if_neg (by omega), bX3_nearest_11 hR.1, s_through hR hx (by omega) a4, xret_v, bX3_nearest_18, s_min (by omega) (by omega), xret_v, bX3_nearest_21, show (k : Int) + 1 = ((k + 1 : Nat) : Int) by omega, ih (k + 1) _ (by omega) (by omega), xNr]
theorem s_nearest {x : Nat} (hR : xRo T R) (hx : x < 8) (h4 : ∀ k, k < 64 → 0 ≤ V 4 k ∧ V 4 k ≤ 100) (h7 : ∀ k, k < 8 → 0 ≤ V 7 k ∧ V 7 k ≤ 1000000) :
    X sc (d + 3) 35 [.ref 3, xw x] (T, z, xv V, J, R) = some (.inl (some (xw (xNr (V 4) (V 7) x 8 0 1000000))), (T, z, xv V, J, R)) := by
  rw [eX3_nearest, bX3_nearest_0]
  exact near_loop hR hx h4 h7 8 0 1000000 rfl (by decide)
/-- the lowest next ring of the way -/
def xLn (s D : Nat → Int) (x : Nat) : Nat → Nat → Int
  | 0, _ => -1
  | m + 1, k => if xTh s D x k = D x then k else xLn s D x m (k + 1)
theorem next_loop {x : Nat} (hR : xRo T R) (hx : x < 8) (h4 : ∀ k, k < 64 → 0 ≤ V 4 k ∧ V 4 k ≤ 100) (h7 : ∀ k, k < 8 → 0 ≤ V 7 k ∧ V 7 k ≤ 1000000) :
    ∀ (m k : Nat), k + m = 8 →
    XR sc (d + 2) 38 2 [some (.ref 3), some (xw x), some (xw k)] [] (T, z, xv V, J, R) = some (.inl (some (xw (xLn (V 4) (V 7) x m k))), (T, z, xv V, J, R)) := by
  have e3 : (R 3 3).getD 0 = 7 := by rw [hR.2.2.2.2.1]; rfl
  intro m
  induction m with
  | zero =>
    intro k hk
    rw [bX3_lowestNext_2 (by omega), if_pos (by omega), bX3_lowestNext_31]; rfl
  | succ m ih =>
    intro k hk
    have a4 := h4 (x * 8 + k) (by omega)
    have a7 := h7 k (by omega)
    have ax := h7 x hx
    have ht : 0 ≤ xTh (V 4) (V 7) x k ∧ xTh (V 4) (V 7) x k ≤ 1100000 := by
      unfold xTh
      split <;> omega
    rw [bX3_lowestNext_2 (by omega), if_neg (by omega), bX3_lowestNext_8 hR.1, s_through hR hx (by omega) a4, xret_v, bX3_lowestNext_14 hR.1 (rgd hR.2.2.2.2.1) (tgd hR.2.2.2.2.1 hR.2.2.2.2.2.2.2.2.2.1) (igd hR.2.2.2.2.1 hR.2.2.2.2.2.2.2.2.2.1 (by omega)) (by omega) (by rw [e3, Int.toNat_natCast]; omega), e3, Int.toNat_natCast, xLn]
    by_cases c : xTh (V 4) (V 7) x k = V 7 x
    · rw [if_pos c, if_pos c, bX3_lowestNext_23]
    · rw [if_neg c, if_neg c, bX3_lowestNext_25, show (k : Int) + 1 = ((k + 1 : Nat) : Int) by omega, ih (k + 1) (by omega)]
theorem s_lowestNext {x : Nat} (hR : xRo T R) (hx : x < 8) (h4 : ∀ k, k < 64 → 0 ≤ V 4 k ∧ V 4 k ≤ 100) (h7 : ∀ k, k < 8 → 0 ≤ V 7 k ∧ V 7 k ≤ 1000000) :
    X sc (d + 3) 38 [.ref 3, xw x] (T, z, xv V, J, R) = some (.inl (some (xw (xLn (V 4) (V 7) x 8 0))), (T, z, xv V, J, R)) := by
  rw [eX3_lowestNext, bX3_lowestNext_0]
  exact next_loop hR hx h4 h7 8 0 rfl
/-- one sweep over the rings from k on, in place -/
def xSw (s : Nat → Int) : Nat → Nat → (Nat → Int) → (Nat → Int)
  | 0, _, D => D
  | m + 1, k, D => xSw s m (k + 1) (if D k ≤ xNr s D k 8 0 1000000 then D else va_up D k (xNr s D k 8 0 1000000))
def xIt (s : Nat → Int) : Nat → (Nat → Int) → (Nat → Int)
  | 0, D => D
  | m + 1, D => xIt s m (xSw s 8 0 D)
theorem xIt_id {s D : Nat → Int} (h : xSw s 8 0 D = D) : ∀ m, xIt s m D = D := by
  intro m
  induction m with
  | zero => rfl
  | succ m ih => rw [xIt, h, ih]
theorem xNr_in {s D : Nat → Int} {x : Nat} (hs : ∀ k, k < 64 → 0 ≤ s k ∧ s k ≤ 100) (hD : ∀ k, k < 8 → 0 ≤ D k ∧ D k ≤ 1000000) (hx : x < 8) : ∀ (m k : Nat) (b : Int), k + m = 8 → 0 ≤ b → 0 ≤ xNr s D x m k b ∧ xNr s D x m k b ≤ b := by
  intro m
  induction m with
  | zero => intro k b _ hb; exact ⟨hb, Int.le_refl _⟩
  | succ m ih =>
    intro k b hk hb
    have a4 := hs (x * 8 + k) (by omega)
    have a7 := hD k (by omega)
    have ht : 0 ≤ xTh s D x k := by
      unfold xTh
      split <;> omega
    have := ih (k + 1) (min b (xTh s D x k)) (by omega) (by omega)
    rw [xNr]
    omega
theorem va_in {D : Nat → Int} {k : Nat} {e : Int} (hD : ∀ k, k < 8 → 0 ≤ D k ∧ D k ≤ 1000000) (he : 0 ≤ e ∧ e ≤ 1000000) : ∀ j, j < 8 → 0 ≤ va_up D k e j ∧ va_up D k e j ≤ 1000000 := by
  intro j hj
  by_cases h : j = k
  · subst h; rw [va_same]; exact he
  · rw [va_ne h]; exact hD j hj
theorem xSw_in {s : Nat → Int} (hs : ∀ k, k < 64 → 0 ≤ s k ∧ s k ≤ 100) : ∀ (m k : Nat) (D : Nat → Int), k + m = 8 → (∀ k, k < 8 → 0 ≤ D k ∧ D k ≤ 1000000) → ∀ j, j < 8 → 0 ≤ xSw s m k D j ∧ xSw s m k D j ≤ 1000000 := by
  intro m
  induction m with
  | zero => intro k D _ hD; exact hD
  | succ m ih =>
    intro k D hk hD
    rw [xSw]
    refine ih (k + 1) _ (by omega) ?_
    split
    · exact hD
    · have := xNr_in hs hD (x := k) (by omega) 8 0 1000000 rfl (by decide)
      exact va_in hD this
theorem sweep_loop {W : Nat → Nat → Int} (hR : xRo T R) (h4 : ∀ k, k < 64 → 0 ≤ W 4 k ∧ W 4 k ≤ 100) {o1 : Option Value} {rnd : Int} :
    ∀ (m k : Nat) (fl : Int) (D : Nat → Int) (o5 : Option Value), k + m = 8 → fl = 0 ∨ fl = 1 → (∀ k, k < 8 → 0 ≤ D k ∧ D k ≤ 1000000) →
    ∃ (fl' : Int) (o4' o5' : Option Value), (fl' = 0 ∨ fl' = 1) ∧ (fl' = 0 → fl = 0 ∧ xSw (W 4) m k D = D) ∧
    XR sc (d + 3) 34 48 [some (.ref 3), o1, some (xw fl), some (xw rnd), some (xw k), o5] [] (T, z, xv (va_up W 7 D), J, R) = XR sc (d + 3) 34 33 [some (.ref 3), o1, some (xw fl'), some (xw (rnd + 1)), o4', o5'] [] (T, z, xv (va_up W 7 (xSw (W 4) m k D)), J, R) := by
  have r3 := hR.2.2.2.2.1
  have t7 := hR.2.2.2.2.2.2.2.2.2.1
  have e3 : (R 3 3).getD 0 = 7 := by rw [r3]; rfl
  intro m
  induction m with
  | zero =>
    intro k fl D o5 hk hf hD
    refine ⟨fl, some (xw k), o5, hf, fun q => ⟨q, rfl⟩, ?_⟩
    rw [bX3_reckon_48 (by omega), if_pos (by omega), bX3_reckon_92, xSw]
  | succ m ih =>
    intro k fl D o5 hk hf hD
    have w4 : va_up W 7 D 4 = W 4 := va_ne (by decide)
    have w7 : va_up W 7 D 7 = D := va_same
    have hn := xNr_in h4 hD (x := k) (by omega) 8 0 1000000 rfl (by decide)
    have hDk := hD k (by omega)
    have near := s_nearest (sc := sc) (d := d) (z := z) (V := va_up W 7 D) (J := J) (x := k) hR (by omega) (by rw [w4]; exact h4) (by rw [w7]; exact hD)
    rw [w4, w7] at near
    rw [xSw]
    by_cases c : D k ≤ xNr (W 4) D k 8 0 1000000
    · obtain ⟨fl', o4', o5', f1, f2, f3⟩ := ih (k + 1) fl D (some (xw (xNr (W 4) D k 8 0 1000000))) (by omega) hf hD
      refine ⟨fl', o4', o5', f1, ?_, ?_⟩
      · rw [if_pos c]; exact f2
      · rw [bX3_reckon_48 (by omega), if_neg (by omega), bX3_reckon_55 hR.1, near, xret_v, bX3_reckon_61 hR.1 (rgd r3) (tgd r3 t7) (igd r3 t7 (by omega)) (by omega) (by rw [e3, Int.toNat_natCast, w7]; omega), e3, Int.toNat_natCast, w7, if_pos c, if_pos c, bX3_reckon_86, show (k : Int) + 1 = ((k + 1 : Nat) : Int) by omega, f3]
    · obtain ⟨fl', o4', o5', f1, f2, f3⟩ := ih (k + 1) 1 (va_up D k (xNr (W 4) D k 8 0 1000000)) (some (xw (xNr (W 4) D k 8 0 1000000))) (by omega) (Or.inr rfl) (va_in hD hn)
      refine ⟨fl', o4', o5', f1, fun q => absurd (f2 q).1 (by decide), ?_⟩
      rw [bX3_reckon_48 (by omega), if_neg (by omega), bX3_reckon_55 hR.1, near, xret_v, bX3_reckon_61 hR.1 (rgd r3) (tgd r3 t7) (igd r3 t7 (by omega)) (by omega) (by rw [e3, Int.toNat_natCast, w7]; omega), e3, Int.toNat_natCast, w7, if_neg c, if_neg c, bX3_reckon_75 hR.1 (rgd r3) (tgd r3 t7) (igd r3 t7 (by omega)), e3, Int.toNat_natCast, up2_va, w7, va_two, bX3_reckon_86, show (k : Int) + 1 = ((k + 1 : Nat) : Int) by omega, f3]
theorem reckon_loop {W : Nat → Nat → Int} (hR : xRo T R) (h4 : ∀ k, k < 64 → 0 ≤ W 4 k ∧ W 4 k ≤ 100) {o1 : Option Value} :
    ∀ (m k : Nat) (fl : Int) (D : Nat → Int) (o4 o5 : Option Value), k + m = 8 → fl = 0 ∨ fl = 1 → (fl = 0 → xSw (W 4) 8 0 D = D) → (∀ k, k < 8 → 0 ≤ D k ∧ D k ≤ 1000000) →
    XR sc (d + 3) 34 33 [some (.ref 3), o1, some (xw fl), some (xw k), o4, o5] [] (T, z, xv (va_up W 7 D), J, R) = some (.inl none, (T, z, xv (va_up W 7 (xIt (W 4) m D)), J, R)) := by
  intro m
  induction m with
  | zero =>
    intro k fl D o4 o5 hk hf h0 hD
    rw [bX3_reckon_33 (by omega), if_pos (by omega), bX3_reckon_98, xIt]
  | succ m ih =>
    intro k fl D o4 o5 hk hf h0 hD
    rw [bX3_reckon_33 (by omega), if_neg (by omega), bX3_reckon_39 (by omega)]
    by_cases c : fl = 0
    · rw [if_pos c, bX3_reckon_98, xIt_id (h0 c)]
    · obtain ⟨fl', o4', o5', f1, f2, f3⟩ := sweep_loop (sc := sc) (d := d) (z := z) (J := J) (o1 := o1) (rnd := k) hR h4 8 0 0 D o5 rfl (Or.inl rfl) hD
      rw [show ((0 : Nat) : Int) = 0 from rfl] at f3
      rw [if_neg c, bX3_reckon_43, f3, show (k : Int) + 1 = ((k + 1 : Nat) : Int) by omega, ih (k + 1) fl' _ o4' o5' (by omega) f1 ?_ (xSw_in h4 8 0 D rfl hD), xIt]
      intro q
      rw [(f2 q).2, (f2 q).2]
/-- every ring is far at first, the goal is not -/
def xD0 (D : Nat → Int) (n : Nat) : Nat → Int := fun j => if j < n then 1000000 else D j
theorem far_loop (hR : xRo T R) {o1 o3 o4 o5 : Option Value} : ∀ (m k : Nat) (W : Nat → Nat → Int), k + m = 8 →
    XR sc d 34 2 [some (.ref 3), o1, some (xw k), o3, o4, o5] [] (T, z, xv (va_up W 7 (xD0 (W 7) k)), J, R) = XR sc d 34 22 [some (.ref 3), o1, some (xw 8), o3, o4, o5] [] (T, z, xv (va_up W 7 (xD0 (W 7) 8)), J, R) := by
  have r3 := hR.2.2.2.2.1
  have t7 := hR.2.2.2.2.2.2.2.2.2.1
  have e3 : (R 3 3).getD 0 = 7 := by rw [r3]; rfl
  intro m
  induction m with
  | zero =>
    intro k W hk
    obtain rfl : k = 8 := by omega
    rw [show ((8 : Nat) : Int) = 8 from rfl, bX3_reckon_2 (by decide), if_pos (by decide)]
  | succ m ih =>
    intro k W hk
    have : va_up (xD0 (W 7) k) k 1000000 = xD0 (W 7) (k + 1) := by
      funext j
      by_cases h : j = k
      · subst h; rw [va_same, xD0, if_pos (by omega)]
      · rw [va_ne h]
        simp only [xD0]
        split <;> split <;> first | rfl | omega
    rw [bX3_reckon_2 (by omega), if_neg (by omega), bX3_reckon_8 hR.1 (rgd r3) (tgd r3 t7) (igd r3 t7 (by omega)), e3, Int.toNat_natCast, up2_va, va_same, va_two, this, show (k : Int) + 1 = ((k + 1 : Nat) : Int) by omega, ih (k + 1) W (by omega)]
theorem s_reckon {t : Nat} (hR : xRo T R) (ht : t < 8) (h4 : ∀ k, k < 64 → 0 ≤ V 4 k ∧ V 4 k ≤ 100) :
    X sc (d + 4) 34 [.ref 3, xw t] (T, z, xv V, J, R) = some (.inl none, (T, z, xv (va_up V 7 (xIt (V 4) 8 (va_up (xD0 (V 7) 8) t 0))), J, R)) := by
  have r3 := hR.2.2.2.2.1
  have t7 := hR.2.2.2.2.2.2.2.2.2.1
  have e3 : (R 3 3).getD 0 = 7 := by rw [r3]; rfl
  have e0 : va_up V 7 (xD0 (V 7) 0) = V := by
    have : xD0 (V 7) 0 = V 7 := by funext j; simp [xD0]
    rw [this, va_id]
  have f := far_loop (sc := sc) (d := d + 3) (z := z) (J := J) (o1 := some (xw t)) (o3 := none) (o4 := none) (o5 := none) hR 8 0 V rfl
  rw [e0, show ((0 : Nat) : Int) = 0 from rfl] at f
  have hD : ∀ k, k < 8 → 0 ≤ va_up (xD0 (V 7) 8) t 0 k ∧ va_up (xD0 (V 7) 8) t 0 k ≤ 1000000 := by
    intro k hk
    by_cases h : k = t
    · subst h; rw [va_same]; decide
    · rw [va_ne h, xD0, if_pos hk]; decide
  rw [eX3_reckon, bX3_reckon_0, f, bX3_reckon_22 hR.1 (rgd r3) (tgd r3 t7) (igd r3 t7 (by omega)), e3, Int.toNat_natCast, up2_va, va_same, va_two]
  exact reckon_loop hR h4 8 0 1 _ _ _ rfl (Or.inr rfl) (fun q => absurd q (by decide)) hD
theorem xLn_in {s D : Nat → Int} {x : Nat} : ∀ m k, k + m = 8 → xLn s D x m k = -1 ∨ (0 ≤ xLn s D x m k ∧ xLn s D x m k < 8) := by
  intro m
  induction m with
  | zero => intro k _; exact Or.inl rfl
  | succ m ih =>
    intro k hk
    rw [xLn]
    split
    · right; omega
    · exact ih (k + 1) (by omega)
/-- the way goes on from ring c, at place p -/
def xWk (s D : Nat → Int) (t : Nat) : Nat → Nat → Nat → (Nat → Nat → Int) → (Nat → Nat → Int)
  | 0, _, _, V => V
  | m + 1, p, c, V => if c = t then V else if xLn s D c 8 0 = -1 then V else
      xWk s D t m (p + 1) (xLn s D c 8 0).toNat (xup2 (xup2 (xup2 (xup2 V 6 (c * 8 + (xLn s D c 8 0).toNat) 1) 6 ((xLn s D c 8 0).toNat * 8 + c) 1) 8 p (xLn s D c 8 0)) 3 5 (p + 1))
theorem walk_loop {s D : Nat → Int} {t : Nat} (hR : xRo T R) (ht : t < 8) (h4 : ∀ k, k < 64 → 0 ≤ s k ∧ s k ≤ 100) (h7 : ∀ k, k < 8 → 0 ≤ D k ∧ D k ≤ 1000000) {o1 : Option Value} :
    ∀ (m p c : Nat) (V : Nat → Nat → Int) (o5 : Option Value), p + m = 8 → 1 ≤ p → c < 8 → V 4 = s → V 7 = D →
    XR sc (d + 4) 37 29 [some (.ref 3), o1, some (xw t), some (xw c), some (xw p), o5] [] (T, z, xv V, J, R) = some (.inl none, (T, z, xv (xWk s D t m p c V), J, R)) := by
  obtain ⟨h1, r0, r1, r2, r3, r4, t4, t5, t6, t7, t8⟩ := hR
  have e2 : (R 3 2).getD 0 = 6 := by rw [r2]; rfl
  have e4 : (R 3 4).getD 0 = 8 := by rw [r4]; rfl
  intro m
  induction m with
  | zero =>
    intro p c V o5 hp hp1 hc v4 v7
    rw [bX3_walk_29 (by omega), if_pos (by omega), bX3_walk_105, xWk]
  | succ m ih =>
    intro p c V o5 hp hp1 hc v4 v7
    rw [bX3_walk_29 (by omega), if_neg (by omega), bX3_walk_36 (by omega) (by omega), xWk]
    by_cases q : c = t
    · rw [if_pos q, if_pos (by omega), bX3_walk_105]
    · have hln := xLn_in (s := s) (D := D) (x := c) 8 0 rfl
      have key := s_lowestNext (sc := sc) (d := d + 1) (z := z) (V := V) (J := J) (x := c) ⟨h1, r0, r1, r2, r3, r4, t4, t5, t6, t7, t8⟩ hc (by rw [v4]; exact h4) (by rw [v7]; exact h7)
      rw [v4, v7] at key
      rw [if_neg q, if_neg (by omega), bX3_walk_41 h1, key, xret_v, bX3_walk_46 (by omega)]
      by_cases q2 : xLn s D c 8 0 = -1
      · rw [if_pos q2, if_pos q2, bX3_walk_54]
      · have hl := hln.resolve_left q2
        obtain ⟨n, hn⟩ : ∃ n : Nat, xLn s D c 8 0 = n := ⟨(xLn s D c 8 0).toNat, by omega⟩
        rw [if_neg q2, if_neg q2, hn, Int.toNat_natCast]
        rw [hn] at hl
        have ea : ((c : Int) * 8 + (n : Int)).toNat = c * 8 + n := by omega
        have eb : ((n : Int) * 8 + (c : Int)).toNat = n * 8 + c := by omega
        rw [bX3_walk_55 h1 (rgd r2), s_pair, xret_v, e2, bX3_walk_65 (by rw [t6]) (by rw [t6]; omega) h1 (rgd r2), s_pair, xret_v, e2, ea, bX3_walk_77 (by rw [t6]) (by rw [t6]; omega) h1 (rgd r4) (tgd r4 t8) (igd r4 t8 (by omega)), e4, eb, Int.toNat_natCast, show (p : Int) + 1 = ((p + 1 : Nat) : Int) by omega, ih (p + 1) n _ _ (by omega) (by omega) (by omega) ?_ ?_]
        · rw [← v4]; funext j; simp [xup2]
        · rw [← v7]; funext j; simp [xup2]
/-- the way from f to t, once the goal is reckoned -/
def xWy (V : Nat → Nat → Int) (f t : Nat) : Nat → Nat → Int := if V 7 f < 1000000 then xWk (V 4) (V 7) t 7 1 f (xup2 (xup2 V 8 0 f) 3 5 1) else V
theorem s_walk {f t : Nat} (hR : xRo T R) (hf : f < 8) (ht : t < 8) (h4 : ∀ k, k < 64 → 0 ≤ V 4 k ∧ V 4 k ≤ 100) (h7 : ∀ k, k < 8 → 0 ≤ V 7 k ∧ V 7 k ≤ 1000000) :
    X sc (d + 5) 37 [.ref 3, xw f, xw t] (T, z, xv V, J, R) = some (.inl none, (T, z, xv (xWy V f t), J, R)) := by
  have hR' := hR
  obtain ⟨h1, r0, r1, r2, r3, r4, t4, t5, t6, t7, t8⟩ := hR
  have e3 : (R 3 3).getD 0 = 7 := by rw [r3]; rfl
  have e4 : (R 3 4).getD 0 = 8 := by rw [r4]; rfl
  have hv := h7 f hf
  rw [eX3_walk, bX3_walk_0 h1 (rgd r3) (tgd r3 t7) (igd r3 t7 (by omega)) (by rw [e3, Int.toNat_natCast]; omega), e3, Int.toNat_natCast, xWy]
  by_cases c : V 7 f < 1000000
  · rw [if_pos c, if_pos c, bX3_walk_12 h1 (rgd r4) (tgd r4 t8) (igd r4 t8 (by decide)), e4]
    exact walk_loop hR' ht h4 h7 7 1 f _ _ rfl (by decide) hf (by funext j; simp [xup2]) (by funext j; simp [xup2])
  · rw [if_neg c, if_neg c, bX3_walk_11]
theorem xNo_ne {V : Nat → Nat → Int} {p q : Nat} {l : Int} (h4 : ¬ q = 4) (h5 : ¬ q = 5) : xNo V p l q = V q := by
  funext j
  unfold xNo
  split
  · simp [xup2, h4, h5]
  · split
    · simp [xup2, h5]
    · rfl
theorem xNo_in {V : Nat → Nat → Int} {p : Nat} {l : Int} (hV : ∀ k, k < 64 → 0 ≤ V 4 k ∧ V 4 k ≤ 100) (hl : 0 ≤ l ∧ l ≤ 100) : ∀ k, k < 64 → 0 ≤ xNo V p l 4 k ∧ xNo V p l 4 k ≤ 100 := by
  intro k hk
  have := hV k hk
  unfold xNo
  split
  · simp only [xup2, show ¬ (4 : Nat) = 5 by decide, false_and, if_false, true_and]
    split
    · exact hl
    · exact this
  · split
    · simp only [xup2, show ¬ (4 : Nat) = 5 by decide, false_and, if_false]
      exact this
    · exact this
/-- a part that is buckled is noted, in both orders -/
def xNp (V : Nat → Nat → Int) : Option Nat → Nat → Nat → Int
  | none => V
  | some q => if V q 11 = -1 then V else xNo (xNo V (V q 9 * 8 + V q 10).toNat (V q 11)) (V q 10 * 8 + V q 9).toNat (V q 11)
theorem xNp_y {V : Nat → Nat → Int} {q : Nat} : xNp V (some q) = if V q 11 = -1 then V else xNo (xNo V (V q 9 * 8 + V q 10).toNat (V q 11)) (V q 10 * 8 + V q 9).toNat (V q 11) := rfl
def xLo (R : Nat → Nat → Option Nat) : Nat → Nat → (Nat → Nat → Int) → (Nat → Nat → Int)
  | 0, _, V => V
  | m + 1, k, V => xLo R m (k + 1) (xNp V (R 2 k))
/-- the parts as a look finds them -/
def xPs (T : Nat → Nat × Nat) (R : Nat → Nat → Option Nat) (V : Nat → Nat → Int) : Prop := ∀ k, k < 40 → ∀ q, R 2 k = some q → T q = (2, 0) ∧ xPb V q
theorem xNp_in {o : Option Nat} (hV : ∀ k, k < 64 → 0 ≤ V 4 k ∧ V 4 k ≤ 100) (hP : ∀ q, o = some q → xPb V q) : ∀ k, k < 64 → 0 ≤ xNp V o 4 k ∧ xNp V o 4 k ≤ 100 := by
  cases o with
  | none => exact hV
  | some q =>
    have h := hP q rfl
    rw [xNp_y]
    by_cases c : V q 11 = -1
    · rw [if_pos c]; exact hV
    · rw [if_neg c]
      have h := h.resolve_left c
      exact xNo_in (xNo_in hV (by omega)) (by omega)
theorem xNp_ne {o : Option Nat} {b : Nat} (h4 : ¬ b = 4) (h5 : ¬ b = 5) : xNp V o b = V b := by
  cases o with
  | none => rfl
  | some q =>
    rw [xNp_y]
    split
    · rfl
    · rw [xNo_ne h4 h5, xNo_ne h4 h5]
theorem look_loop (hR : xRo T R) (hT2 : T 2 = (41, 40)) {o2 o3 : Option Value} :
    ∀ (m k : Nat) (V : Nat → Nat → Int) (o7 : Option Value), k + m = 40 → xPs T R V → (∀ k, k < 64 → 0 ≤ V 4 k ∧ V 4 k ≤ 100) →
    ∃ o7' : Option Value, XR sc (d + 1) 25 15 [some (.ref 3), some (.ref 2), o2, o3, some (.ref 2), some (xw 40), some (xw k), o7] [] (T, z, xv V, J, R) = XR sc (d + 1) 25 92 [some (.ref 3), some (.ref 2), o2, o3, some (.ref 2), some (xw 40), some (xw 40), o7'] [] (T, z, xv (xLo R m k V), J, R) := by
  intro m
  induction m with
  | zero =>
    intro k V o7 hk hP hV
    obtain rfl : k = 40 := by omega
    refine ⟨o7, ?_⟩
    rw [show ((40 : Nat) : Int) = 40 from rfl, bX3_look_15 (by decide) (by decide), if_pos (by decide), xLo]
  | succ m ih =>
    intro k V o7 hk hP hV
    have hT4 := hR.2.2.2.2.2.2.1
    have hT5 := hR.2.2.2.2.2.2.2.1
    have hPk : ∀ q, R 2 k = some q → xPb V q := fun q h => (hP k (by omega) q h).2
    have hP' : xPs T R (xNp V (R 2 k)) := by
      intro k' hk' q hq
      have h := hP k' hk' q hq
      have n4 : ¬ q = 4 := by intro e; rw [e, hT4] at h; cases h.1
      have n5 : ¬ q = 5 := by intro e; rw [e, hT5] at h; cases h.1
      refine ⟨h.1, ?_⟩
      unfold xPb
      rw [xNp_ne n4 n5]
      exact h.2
    have hV' := xNp_in (V := V) (o := R 2 k) hV hPk
    cases hr : R 2 k with
    | none =>
      rw [hr] at hP' hV'
      obtain ⟨o7', h⟩ := ih (k + 1) _ (some .null) (by omega) hP' hV'
      refine ⟨o7', ?_⟩
      rw [bX3_look_15 (by omega) (by decide), if_neg (by omega), bX3_look_22rn (by rw [hT2]) (by rw [hT2]; decide) (by rw [hT2]; omega) (by rw [Int.toNat_natCast]; exact hr), bX3_look_86, show (k : Int) + 1 = ((k + 1 : Nat) : Int) by omega, xLo, hr]
      exact h
    | some q =>
      rw [hr] at hP' hV'
      obtain ⟨hTq, hb⟩ := hP k (by omega) q hr
      have n4 : ¬ q = 4 := by intro e; rw [e, hT4] at hTq; cases hTq
      have n5 : ¬ q = 5 := by intro e; rw [e, hT5] at hTq; cases hTq
      obtain ⟨o7', h⟩ := ih (k + 1) _ (some (.ref q)) (by omega) hP' hV'
      refine ⟨o7', ?_⟩
      rw [bX3_look_15 (by omega) (by decide), if_neg (by omega), bX3_look_22rr (by rw [hT2]) (by rw [hT2]; decide) (by rw [hT2]; omega) (by rw [Int.toNat_natCast, hr]; rfl), Int.toNat_natCast, hr, Option.getD_some, bX3_look_34r hTq, s_isBuckled hTq (by unfold xPb at hb; omega), xret_v, xLo, hr]
      by_cases c : V q 11 = -1
      · have e : xNp V (some q) = V := by rw [xNp_y, if_pos c]
        rw [e] at h ⊢
        rw [if_pos c, bX3_look_39 (by decide), if_pos rfl, bX3_look_86, show (k : Int) + 1 = ((k + 1 : Nat) : Int) by omega]
        exact h
      · have hb := hb.resolve_left c
        have e : xNp V (some q) = xNo (xNo V (V q 9 * 8 + V q 10).toNat (V q 11)) (V q 10 * 8 + V q 9).toNat (V q 11) := by rw [xNp_y, if_neg c]
        rw [e] at h ⊢
        obtain ⟨p1, hp1⟩ : ∃ n : Nat, V q 9 * 8 + V q 10 = n := ⟨(V q 9 * 8 + V q 10).toNat, by omega⟩
        obtain ⟨p2, hp2⟩ : ∃ n : Nat, V q 10 * 8 + V q 9 = n := ⟨(V q 10 * 8 + V q 9).toNat, by omega⟩
        have w : xNo V p1 (V q 11) q = V q := xNo_ne n4 n5
        rw [hp1, hp2, Int.toNat_natCast, Int.toNat_natCast] at h ⊢
        have s1 := s_note (sc := sc) (d := d) (z := z) (V := V) (J := J) (p := p1) (l := V q 11) hR (by omega) (hV p1 (by omega)) (by omega)
        have s2 := s_note (sc := sc) (d := d) (z := z) (V := xNo V p1 (V q 11)) (J := J) (p := p2) (l := V q 11) hR (by omega) (xNo_in hV (by omega) p2 (by omega)) (by omega)
        rw [if_neg c, bX3_look_39 (by decide), if_neg (by decide), bX3_look_42rr hTq, s_pair, xret_v, hp1, bX3_look_56rr hTq hR.1, s1, xret_n, bX3_look_64rr hTq, w, s_pair, xret_v, hp2, bX3_look_78rr hTq hR.1, w, s2, xret_n, bX3_look_86, show (k : Int) + 1 = ((k + 1 : Nat) : Int) by omega]
        exact h
theorem xLo_in : ∀ (m k : Nat) (V : Nat → Nat → Int), T 4 = (32, 64) → T 5 = (32, 64) → k + m = 40 → xPs T R V → (∀ k, k < 64 → 0 ≤ V 4 k ∧ V 4 k ≤ 100) → ∀ k', k' < 64 → 0 ≤ xLo R m k V 4 k' ∧ xLo R m k V 4 k' ≤ 100 := by
  intro m
  induction m with
  | zero => intro k V _ _ _ _ hV; exact hV
  | succ m ih =>
    intro k V hT4 hT5 hk hP hV
    rw [xLo]
    refine ih (k + 1) _ hT4 hT5 (by omega) ?_ (xNp_in hV (fun q h => (hP k (by omega) q h).2))
    intro k' hk' q hq
    have h := hP k' hk' q hq
    have n4 : ¬ q = 4 := by intro e; rw [e, hT4] at h; cases h.1
    have n5 : ¬ q = 5 := by intro e; rw [e, hT5] at h; cases h.1
    refine ⟨h.1, ?_⟩
    unfold xPb
    rw [xNp_ne n4 n5]
    exact h.2
/-- what a look makes of the route: cleared, noted, reckoned, walked -/
def xLk0 (R : Nat → Nat → Option Nat) (V : Nat → Nat → Int) : Nat → Nat → Int := xLo R 40 0 (xup2 (xCl V 0 64) 3 5 0)
def xLk1 (R : Nat → Nat → Option Nat) (V : Nat → Nat → Int) (t : Nat) : Nat → Nat → Int := va_up (xLk0 R V) 7 (xIt (xLk0 R V 4) 8 (va_up (xD0 (xLk0 R V 7) 8) t 0))
def xLk (R : Nat → Nat → Option Nat) (V : Nat → Nat → Int) (f t : Nat) : Nat → Nat → Int := xWy (xLk1 R V t) f t
theorem xIt_in {s : Nat → Int} (hs : ∀ k, k < 64 → 0 ≤ s k ∧ s k ≤ 100) : ∀ (m : Nat) (D : Nat → Int), (∀ k, k < 8 → 0 ≤ D k ∧ D k ≤ 1000000) → ∀ j, j < 8 → 0 ≤ xIt s m D j ∧ xIt s m D j ≤ 1000000 := by
  intro m
  induction m with
  | zero => intro D hD; exact hD
  | succ m ih => intro D hD; rw [xIt]; exact ih _ (xSw_in hs 8 0 D rfl hD)
theorem s_look {f t : Nat} (hR : xRo T R) (hT2 : T 2 = (41, 40)) (hf : f < 8) (ht : t < 8) (hP : xPs T R V) :
    X sc (d + 6) 25 [.ref 3, .ref 2, xw f, xw t] (T, z, xv V, J, R) = some (.inl none, (T, z, xv (xLk R V f t), J, R)) := by
  have h0 : ∀ k, k < 64 → 0 ≤ xup2 (xCl V 0 64) 3 5 0 4 k ∧ xup2 (xCl V 0 64) 3 5 0 4 k ≤ 100 := by
    intro k hk
    simp [xup2, xCl, hk]
  have hP0 : xPs T R (xup2 (xCl V 0 64) 3 5 0) := by
    intro k hk q hq
    have h := hP k hk q hq
    have n3 : ¬ q = 3 := by intro e; rw [e, hR.1] at h; cases h.1
    have n4 : ¬ q = 4 := by intro e; rw [e, hR.2.2.2.2.2.2.1] at h; cases h.1
    have n5 : ¬ q = 5 := by intro e; rw [e, hR.2.2.2.2.2.2.2.1] at h; cases h.1
    have n6 : ¬ q = 6 := by intro e; rw [e, hR.2.2.2.2.2.2.2.2.1] at h; cases h.1
    refine ⟨h.1, ?_⟩
    have e : xup2 (xCl V 0 64) 3 5 0 q = V q := by funext j; simp [xup2, xCl, n3, n4, n5, n6]
    unfold xPb
    rw [e]
    exact h.2
  have h1 := xLo_in 40 0 _ hR.2.2.2.2.2.2.1 hR.2.2.2.2.2.2.2.1 rfl hP0 h0
  obtain ⟨o7, hl⟩ := look_loop (sc := sc) (d := d + 4) (z := z) (J := J) (o2 := some (xw f)) (o3 := some (xw t)) hR hT2 40 0 _ none rfl hP0 h0
  have hD : ∀ k, k < 8 → 0 ≤ va_up (xD0 (xLk0 R V 7) 8) t 0 k ∧ va_up (xD0 (xLk0 R V 7) 8) t 0 k ≤ 1000000 := by
    intro k hk
    by_cases h : k = t
    · subst h; rw [va_same]; decide
    · rw [va_ne h, xD0, if_pos hk]; decide
  have hI := xIt_in (s := xLk0 R V 4) h1 8 _ hD
  rw [eX3_look, bX3_look_0r hR.1, s_clear hR, xret_n, bX3_look_4r (by rw [hT2]) (by rw [hT2]; decide), hT2]
  refine Eq.trans hl ?_
  rw [bX3_look_92r hR.1]
  have e := s_reckon (sc := sc) (d := d + 1) (z := z) (V := xLk0 R V) (J := J) hR ht h1
  refine Eq.trans (congrArg _ e) ?_
  rw [xret_n, bX3_look_97r hR.1]
  have e2 := s_walk (sc := sc) (d := d) (z := z) (V := xLk1 R V t) (J := J) hR hf ht (by unfold xLk1; rw [va_ne (by decide)]; exact h1) (by unfold xLk1; rw [va_same]; exact hI)
  refine Eq.trans (congrArg _ e2) ?_
  rw [xret_n, bX3_look_103]
  rfl
end SX3
