/-! bears, way, pull, holds of Saddletree -/
theorem w_60 : xmh 60 = [] := by decide +kernel
theorem w_63 : xmh 63 = [] := by decide +kernel
def xp (R : Nat → Nat → Option Nat) (k : Nat) : Nat := (R 2 k).getD 0
/-- a part's cells within their bounds -/
def xPx (V : Nat → Nat → Int) (a : Nat) : Prop := xPb V a ∧ (-2147483648 ≤ V a 6 ∧ V a 6 ≤ 2147483647) ∧ (0 ≤ 10 * V a 1 * V a 5 ∧ 10 * V a 1 * V a 5 ≤ 1000) ∧ (0 ≤ V a 7 ∧ V a 7 ≤ 100000000)
/-- n parts, all within their bounds -/
def xPq (T : Nat → Nat × Nat) (R : Nat → Nat → Option Nat) (V : Nat → Nat → Int) (n : Nat) : Prop := n ≤ 40 ∧ V 0 3 = n ∧ (∀ k, n ≤ k → k < 40 → R 2 k = none) ∧ ∀ k, k < n → R 2 k = some (xp R k) ∧ T (xp R k) = (2, 0) ∧ xPx V (xp R k)
/-- a route's arrays within their bounds -/
def xRb (V : Nat → Nat → Int) : Prop := (∀ k, k < 64 → 0 ≤ V 4 k ∧ V 4 k ≤ 100) ∧ (∀ k, k < 64 → 0 ≤ V 5 k ∧ V 5 k ≤ 1000) ∧ ∀ k, k < 64 → V 6 k = 0 ∨ V 6 k = 1
theorem xPq_s {T : Nat → Nat × Nat} {R : Nat → Nat → Option Nat} {V : Nat → Nat → Int} {n : Nat} (h : xPq T R V n) : xPs T R V := by
  obtain ⟨h1, h2, h3, h4⟩ := h
  intro k hk q hq
  by_cases c : k < n
  · obtain ⟨a1, a2, a3⟩ := h4 k c
    rw [a1] at hq
    cases hq
    exact ⟨a2, a3.1⟩
  · rw [h3 k (by omega) hk] at hq; cases hq
theorem xRb_l {T : Nat → Nat × Nat} {R : Nat → Nat → Option Nat} {V : Nat → Nat → Int} {f t : Nat} (hR : xRo T R) (hP : xPs T R V) : xRb (xLk R V f t) := ⟨xLk_4 hR hP, xLk_5, xLk_6⟩
theorem xPx_e {V W : Nat → Nat → Int} {a : Nat} (h : W a = V a) (hp : xPx V a) : xPx W a := by
  unfold xPx xPb at hp ⊢
  rw [h]; exact hp
theorem xPq_e {T : Nat → Nat × Nat} {R : Nat → Nat → Option Nat} {V W : Nat → Nat → Int} {n : Nat} (h : xPq T R V n) (h0 : W 0 = V 0) (hw : ∀ k, k < n → W (xp R k) = V (xp R k)) : xPq T R W n :=
  ⟨h.1, by rw [h0]; exact h.2.1, h.2.2.1, fun k hk => ⟨(h.2.2.2 k hk).1, (h.2.2.2 k hk).2.1, xPx_e (hw k hk) (h.2.2.2 k hk).2.2⟩⟩
theorem xRo_T {T : Nat → Nat × Nat} {R : Nat → Nat → Option Nat} {a : Nat} (hR : xRo T R) (h : T a = (2, 0)) : ¬ a = 3 ∧ ¬ a = 4 ∧ ¬ a = 5 ∧ ¬ a = 6 ∧ ¬ a = 7 ∧ ¬ a = 8 := by
  obtain ⟨h1, r0, r1, r2, r3, r4, t4, t5, t6, t7, t8⟩ := hR
  refine ⟨?_, ?_, ?_, ?_, ?_, ?_⟩ <;> (intro e; rw [e] at h; first | (rw [h1] at h; cases h; done) | (rw [t4] at h; cases h; done) | (rw [t5] at h; cases h; done) | (rw [t6] at h; cases h; done) | (rw [t7] at h; cases h; done) | (rw [t8] at h; cases h; done))
theorem xPq_l {T : Nat → Nat × Nat} {R : Nat → Nat → Option Nat} {V : Nat → Nat → Int} {n f t : Nat} (hR : xRo T R) (h : xPq T R V n) : xPq T R (xLk R V f t) n :=
  xPq_e h (xLk_ne (by decide)) (fun k hk => xLk_ne (xRo_T hR (h.2.2.2 k hk).2.1))
theorem xSt_in {V : Nat → Nat → Int} {a : Nat} (h : xPx V a) : 0 ≤ xSt V a ∧ xSt V a ≤ 1000 := by
  obtain ⟨h1, h2, h3, h4⟩ := h
  unfold xSt
  split <;> omega
theorem xSh_in {V : Nat → Nat → Int} {a : Nat} (h : xPx V a) (hr : xRb V) : 0 ≤ xSh V a ∧ xSh V a ≤ 1000 := by
  unfold xSh
  split
  · decide
  · next q =>
    have := h.1.resolve_left (xBe_un q)
    exact hr.2.1 _ (by omega)
theorem xBu_in {V : Nat → Nat → Int} {a : Nat} {f : Int} (hf : 1 ≤ f ∧ f ≤ 10000) : 0 ≤ xBu V a f ∧ xBu V a f ≤ 10000 := by
  unfold xBu
  split
  · decide
  · next q =>
    have h0 : 0 < xSh V a := by omega
    refine ⟨Int.ediv_nonneg (by omega) (by omega), ?_⟩
    refine Int.le_of_lt_add_one ((Int.ediv_lt_iff_lt_mul h0).mpr ?_)
    have : 10001 * 1 ≤ 10001 * xSh V a := Int.mul_le_mul_of_nonneg_left (by omega) (by decide)
    have e : 10000 * 1 ≤ 10000 * xSh V a := Int.mul_le_mul_of_nonneg_left (by omega) (by decide)
    omega
section SX6l
variable {sc : xS} {d : Nat} {T : Nat → Nat × Nat} {z : Nat × Nat} {V : Nat → Nat → Int} {J : Nat → Nat → Int64} {R : Nat → Nat → Option Nat}
theorem s_way {f t p : Int} {n : Nat} (hT : xTr T R) (hR : xRo T R) (hP : xPq T R V n) (hf : -2147483648 ≤ f ∧ f ≤ 2147483647) (ht : -2147483648 ≤ t ∧ t ≤ 2147483647) (hp : -2147483648 ≤ p ∧ p ≤ 2147483647) :
    X sc (d + 8) 61 [.ref 0, xw f, xw t, xw p] (T, z, xv V, J, R) =
      if (0 ≤ f ∧ f < 8) ∧ (0 ≤ t ∧ t < 8) ∧ 0 ≤ p then
        (if f = t then xTw 8 T z V J R else some (.inl (some (xw (if p < xLk R V f.toNat t.toNat 3 5 then xLk R V f.toNat t.toNat 8 p.toNat else -1))), (T, z, xv (xLk R V f.toNat t.toNat), J, R)))
      else xTw 10 T z V J R := by
  have r2 : R 0 2 = some 2 := hT.2.2.1
  have r4 : R 0 4 = some 3 := hT.2.2.2.1
  have e2 : (R 0 2).getD 0 = 2 := by rw [r2]; rfl
  have e4 : (R 0 4).getD 0 = 3 := by rw [r4]; rfl
  rw [eX6_way, bX6_way_0, s_checkIndex hf (by decide)]
  by_cases c1 : 0 ≤ f ∧ f < 8
  · rw [if_pos c1, xret_n, bX6_way_6, s_checkIndex ht (by decide)]
    by_cases c2 : 0 ≤ t ∧ t < 8
    · rw [if_pos c2, xret_n, bX6_way_12 hp]
      by_cases c3 : 0 ≤ p
      · rw [if_pos c3, bX6_way_26, s_checkDifferent hf ht, if_pos (And.intro c1 (And.intro c2 c3))]
        by_cases c4 : f = t
        · rw [if_pos c4, if_pos c4, xret_w w_61]
        · obtain ⟨f', rfl⟩ : ∃ m : Nat, f = m := ⟨f.toNat, by omega⟩
          obtain ⟨t', rfl⟩ : ∃ m : Nat, t = m := ⟨t.toNat, by omega⟩
          have e : (if 0 ≤ p ∧ p < xLk R V f' t' 3 5 then xLk R V f' t' 8 p.toNat else -1) = if p < xLk R V f' t' 3 5 then xLk R V f' t' 8 p.toNat else -1 := by
            simp only [c3, true_and]
          rw [if_neg c4, if_neg c4, xret_n, bX6_way_31 hT.1 (rgd r4) (rgd r2) (by rw [e4]; exact hR.1), e4, e2, s_look hR hT.2.2.2.2.2.2.2.2.1 (by omega) (by omega) (xPq_s hP), xret_n, bX6_way_44 hT.1 (rgd r4) (by rw [e4]; exact hR.1), e4, s_ringAt hR xLk_c hp, xret_v, bX6_way_52, Int.toNat_natCast, Int.toNat_natCast, e]
      · rw [if_neg c3, bX6_way_16 (by omega), if_neg (fun q => c3 q.2.2)]; rfl
    · rw [if_neg c2, xret_w w_61, if_neg (fun q => c2 q.2.1)]
  · rw [if_neg c1, xret_w w_61, if_neg (fun q => c1 q.1)]
theorem s_bears {x f t g : Int} {n : Nat} (hT : xTr T R) (hR : xRo T R) (hP : xPq T R V n) (hx : 0 ≤ x ∧ x < n) (hf : -2147483648 ≤ f ∧ f ≤ 2147483647) (ht : -2147483648 ≤ t ∧ t ≤ 2147483647) (hg : -2147483648 ≤ g ∧ g ≤ 2147483647) :
    X sc (d + 9) 60 [.ref 0, xw x, xw f, xw t, xw g] (T, z, xv V, J, R) =
      if (0 ≤ f ∧ f < 8) ∧ (0 ≤ t ∧ t < 8) then
        (if (¬ f = t) ∧ (1 ≤ g ∧ g ≤ 9999) then some (.inl (some (xw (xBu (xLk R V f.toNat t.toNat) (xp R x.toNat) g))), (T, z, xv (xLk R V f.toNat t.toNat), J, R)) else xTw 8 T z V J R)
      else xTw 10 T z V J R := by
  have r2 : R 0 2 = some 2 := hT.2.2.1
  have r4 : R 0 4 = some 3 := hT.2.2.2.1
  have e2 : (R 0 2).getD 0 = 2 := by rw [r2]; rfl
  have e4 : (R 0 4).getD 0 = 3 := by rw [r4]; rfl
  have hn := hP.1
  obtain ⟨a1, a2, a3⟩ := hP.2.2.2 x.toNat (by omega)
  rw [eX6_bears, bX6_bears_0 hT.1, s_part_y hT (by omega) a1, xret_v, bX6_bears_5, s_checkRings hf ht]
  by_cases c1 : (0 ≤ f ∧ f < 8) ∧ (0 ≤ t ∧ t < 8)
  · rw [if_pos c1, if_pos c1]
    by_cases c2 : f = t
    · rw [if_pos c2, xret_w w_60, if_neg (fun q => q.1 c2)]
    · rw [if_neg c2, xret_n, bX6_bears_12, s_checkArgument hg (by decide) (by decide)]
      by_cases c3 : 1 ≤ g ∧ g ≤ 9999
      · obtain ⟨f', rfl⟩ : ∃ m : Nat, f = m := ⟨f.toNat, by omega⟩
        obtain ⟨t', rfl⟩ : ∃ m : Nat, t = m := ⟨t.toNat, by omega⟩
        have hP' := xPq_l (f := f') (t := t') hR hP
        have hb := xRb_l (f := f') (t := t') hR (xPq_s hP)
        rw [if_pos c3, if_pos (And.intro c2 c3), xret_n, bX6_bears_21 hT.1 (rgd r4) (rgd r2) (by rw [e4]; exact hR.1), e4, e2, s_look hR hT.2.2.2.2.2.2.2.2.1 (by omega) (by omega) (xPq_s hP), xret_n, bX6_bears_34 hT.1 (rgd r4) (by rw [e4]; exact hR.1), e4, s_burden hR a2 (hP'.2.2.2 x.toNat (by omega)).2.2.1 hb.1 hb.2.1 hb.2.2 (by omega), xret_v, bX6_bears_45, Int.toNat_natCast, Int.toNat_natCast]
      · rw [if_neg c3, xret_w w_60, if_neg (fun q => c3 q.2)]
  · rw [if_neg c1, xret_w w_60, if_neg c1]
theorem s_bears_x {x f t g : Int} (hT : xTr T R) (hx : -2147483648 ≤ x ∧ x ≤ 2147483647) (ha : ¬ (0 ≤ x ∧ x < 40) ∨ R 2 x.toNat = none) :
    X sc (d + 9) 60 [.ref 0, xw x, xw f, xw t, xw g] (T, z, xv V, J, R) = xTw 10 T z V J R := by
  rw [eX6_bears, bX6_bears_0 hT.1, s_part_n hT hx ha, xret_w w_60]
/-- the least that straps hold, from k on -/
def xHd (R : Nat → Nat → Option Nat) (V : Nat → Nat → Int) : Nat → Nat → Int → Int
  | 0, _, b => b
  | m + 1, k, b => xHd R V m (k + 1) (if xBe V (xp R k) = 0 then b else min b (xSh V (xp R k) * xSt V (xp R k)))
theorem holds_loop {n : Nat} (hT : xTr T R) (hR : xRo T R) (hP : xPq T R V n) (hb : xRb V) {o1 o2 : Option Value} :
    ∀ (m k : Nat) (b : Int) (o5 : Option Value), k + m = n → 0 ≤ b ∧ b ≤ 9999 →
    XR sc (d + 3) 63 37 [some (.ref 0), o1, o2, some (xw b), some (xw k), o5] [] (T, z, xv V, J, R) = some (.inl (some (xw (xHd R V m k b))), (T, z, xv V, J, R)) := by
  have r2 : R 0 2 = some 2 := hT.2.2.1
  have r4 : R 0 4 = some 3 := hT.2.2.2.1
  have t2 : T 2 = (41, 40) := hT.2.2.2.2.2.2.2.2.1
  have e2 : (R 0 2).getD 0 = 2 := by rw [r2]; rfl
  have e4 : (R 0 4).getD 0 = 3 := by rw [r4]; rfl
  obtain ⟨h1, h2, h3, h4⟩ := hP
  intro m
  induction m with
  | zero =>
    intro k b o5 hk hb0
    rw [bX6_holds_37r hT.1 (by omega) (by omega), if_pos (by omega), bX6_holds_92]; rfl
  | succ m ih =>
    intro k b o5 hk hb0
    obtain ⟨a1, a2, a3⟩ := h4 k (by omega)
    have hs := xSt_in a3
    have hh := xSh_in a3 hb
    have hm := mul_bd hh hs
    rw [bX6_holds_37r hT.1 (by omega) (by omega), if_neg (by omega), bX6_holds_46rr hT.1 (rgd r2) rfl (by rw [e2, t2]; decide) (igd r2 t2 (by omega)) (by rw [e2, Int.toNat_natCast]; exact rgd a1), e2, Int.toNat_natCast]
    show XR sc (d + 3) 63 60 [some (.ref 0), o1, o2, some (xw b), some (xw k), some (.ref (xp R k))] [] (T, z, xv V, J, R) = _
    rw [bX6_holds_60rr hT.1 (rgd r4) (by rw [e4]; exact hR.1), e4, s_isBearing hR a2 a3.1 hb.1 hb.2.2, xret_v, bX6_holds_69 xBe_in, xHd]
    by_cases c : xBe V (xp R k) = 0
    · rw [if_pos c, if_pos c, bX6_holds_86, show (k : Int) + 1 = ((k + 1 : Nat) : Int) by omega, ih (k + 1) _ _ (by omega) hb0]
    · rw [if_neg c, if_neg c, bX6_holds_72rr hT.1 (rgd r4) (by rw [e4]; exact hR.1), e4, s_mostFor hR a2 a3.1 hb.1 hb.2.1 hb.2.2 a3.2.1 a3.2.2.1 a3.2.2.2, xret_v, bX6_holds_82, s_min (by omega) (by omega), xret_v, bX6_holds_85, bX6_holds_86, show (k : Int) + 1 = ((k + 1 : Nat) : Int) by omega, ih (k + 1) _ _ (by omega) (by omega)]
theorem s_holds {f t : Int} {n : Nat} (hT : xTr T R) (hR : xRo T R) (hP : xPq T R V n) (hf : -2147483648 ≤ f ∧ f ≤ 2147483647) (ht : -2147483648 ≤ t ∧ t ≤ 2147483647) :
    X sc (d + 9) 63 [.ref 0, xw f, xw t] (T, z, xv V, J, R) =
      if (0 ≤ f ∧ f < 8) ∧ (0 ≤ t ∧ t < 8) then
        (if f = t then xTw 8 T z V J R else some (.inl (some (xw (if xLk R V f.toNat t.toNat 3 5 ≤ 0 then -1 else xHd R (xLk R V f.toNat t.toNat) n 0 9999))), (T, z, xv (xLk R V f.toNat t.toNat), J, R)))
      else xTw 10 T z V J R := by
  have r2 : R 0 2 = some 2 := hT.2.2.1
  have r4 : R 0 4 = some 3 := hT.2.2.2.1
  have e2 : (R 0 2).getD 0 = 2 := by rw [r2]; rfl
  have e4 : (R 0 4).getD 0 = 3 := by rw [r4]; rfl
  rw [eX6_holds, bX6_holds_0, s_checkRings hf ht]
  by_cases c1 : (0 ≤ f ∧ f < 8) ∧ (0 ≤ t ∧ t < 8)
  · rw [if_pos c1, if_pos c1]
    by_cases c2 : f = t
    · rw [if_pos c2, if_pos c2, xret_w w_63]
    · obtain ⟨f', rfl⟩ : ∃ m : Nat, f = m := ⟨f.toNat, by omega⟩
      obtain ⟨t', rfl⟩ : ∃ m : Nat, t = m := ⟨t.toNat, by omega⟩
      have hP' := xPq_l (f := f') (t := t') hR hP
      have hb := xRb_l (f := f') (t := t') hR (xPq_s hP)
      have hc := xLk_c (R := R) (V := V) (f := f') (t := t')
      rw [if_neg c2, if_neg c2, xret_n, bX6_holds_5r hT.1 (rgd r4) (rgd r2) (by rw [e4]; exact hR.1), e4, e2, s_look hR hT.2.2.2.2.2.2.2.2.1 (by omega) (by omega) (xPq_s hP), xret_n, bX6_holds_18r hT.1 (rgd r4) (by rw [e4]; exact hR.1), e4, s_exists hR (by omega), xret_v, Int.toNat_natCast, Int.toNat_natCast]
      by_cases c3 : xLk R V f' t' 3 5 ≤ 0
      · rw [if_pos c3, if_pos c3, bX6_holds_25 (by decide), if_pos rfl, bX6_holds_28]
      · rw [if_neg c3, if_neg c3, bX6_holds_25 (by decide), if_neg (by decide), bX6_holds_30]
        exact holds_loop (d := d + 5) hT hR hP' hb n 0 9999 _ (by omega) (by decide)
  · rw [if_neg c1, xret_w w_63, if_neg c1]
/-- the first strap, from k on, that would bear more than its strength -/
def xFo (R : Nat → Nat → Option Nat) (V : Nat → Nat → Int) (g : Int) : Nat → Nat → Option Nat
  | 0, _ => none
  | m + 1, k => if xBu V (xp R k) g ≤ xSt V (xp R k) then xFo R V g m (k + 1) else some k
theorem first_loop {n : Nat} {g : Int} (hT : xTr T R) (hR : xRo T R) (hP : xPq T R V n) (hb : xRb V) (hg : 1 ≤ g ∧ g ≤ 9999) :
    ∀ (m k : Nat) (o3 : Option Value), k + m = n →
    XR sc (d + 3) 80 2 [some (.ref 0), some (xw g), some (xw k), o3] [] (T, z, xv V, J, R) = some (.inl (some (va_rf ((xFo R V g m k).map (xp R)))), (T, z, xv V, J, R)) := by
  have r2 : R 0 2 = some 2 := hT.2.2.1
  have r4 : R 0 4 = some 3 := hT.2.2.2.1
  have t2 : T 2 = (41, 40) := hT.2.2.2.2.2.2.2.2.1
  have e2 : (R 0 2).getD 0 = 2 := by rw [r2]; rfl
  have e4 : (R 0 4).getD 0 = 3 := by rw [r4]; rfl
  obtain ⟨h1, h2, h3, h4⟩ := hP
  intro m
  induction m with
  | zero =>
    intro k o3 hk
    rw [bX6_firstOverborne_2r hT.1 (by omega) (by omega), if_pos (by omega), bX6_firstOverborne_45]; rfl
  | succ m ih =>
    intro k o3 hk
    obtain ⟨a1, a2, a3⟩ := h4 k (by omega)
    have hs := xSt_in a3
    have hu := xBu_in (V := V) (a := xp R k) (f := g) (by omega)
    rw [bX6_firstOverborne_2r hT.1 (by omega) (by omega), if_neg (by omega), bX6_firstOverborne_10rr hT.1 (rgd r2) rfl (by rw [e2, t2]; decide) (igd r2 t2 (by omega)) (by rw [e2, Int.toNat_natCast]; exact rgd a1), e2, Int.toNat_natCast]
    show XR sc (d + 3) 80 21 [some (.ref 0), some (xw g), some (xw k), some (.ref (xp R k))] [] (T, z, xv V, J, R) = _
    rw [bX6_firstOverborne_21rr hT.1 (rgd r4) (by rw [e4]; exact hR.1), e4, s_burden hR a2 a3.1 hb.1 hb.2.1 hb.2.2 (by omega), xret_v, bX6_firstOverborne_30r a2, s_strength a2 a3.2.1 a3.2.2.1 a3.2.2.2, xret_v, bX6_firstOverborne_34 (by omega) (by omega), xFo]
    by_cases c : xBu V (xp R k) g ≤ xSt V (xp R k)
    · rw [if_pos c, if_pos c, bX6_firstOverborne_39, show (k : Int) + 1 = ((k + 1 : Nat) : Int) by omega, ih (k + 1) _ (by omega)]
    · rw [if_neg c, if_neg c, bX6_firstOverborne_37r]; rfl
theorem s_first {n : Nat} {g : Int} (hT : xTr T R) (hR : xRo T R) (hP : xPq T R V n) (hb : xRb V) (hg : 1 ≤ g ∧ g ≤ 9999) :
    X sc (d + 4) 80 [.ref 0, xw g] (T, z, xv V, J, R) = some (.inl (some (va_rf ((xFo R V g n 0).map (xp R)))), (T, z, xv V, J, R)) := by
  rw [eX6_firstOverborne, bX6_firstOverborne_0]
  exact first_loop hT hR hP hb hg n 0 _ (by omega)
theorem xFo_lt {V : Nat → Nat → Int} {g : Int} {n : Nat} : ∀ m k j, k + m = n → xFo R V g m k = some j → j < n ∧ ¬ xBu V (xp R j) g ≤ xSt V (xp R j) ∧ k ≤ j ∧ ∀ i, k ≤ i → i < j → xBu V (xp R i) g ≤ xSt V (xp R i) := by
  intro m
  induction m with
  | zero => intro k j _ h; cases h
  | succ m ih =>
    intro k j hk h
    rw [xFo] at h
    by_cases c : xBu V (xp R k) g ≤ xSt V (xp R k)
    · rw [if_pos c] at h
      obtain ⟨h1, h2, h3, h4⟩ := ih (k + 1) j (by omega) h
      refine ⟨h1, h2, by omega, fun i hi hj => ?_⟩
      by_cases e : i = k
      · subst e; exact c
      · exact h4 i (by omega) hj
    · rw [if_neg c] at h
      cases h
      exact ⟨by omega, c, by omega, fun i hi hj => by omega⟩
/-- a strap breaks, and the way is looked for anew -/
def xBr1 (R : Nat → Nat → Option Nat) (V : Nat → Nat → Int) (f t k : Nat) : Nat → Nat → Int := xLk R (xGo (xup2 V (xp R k) 12 1) (xp R k)) f t
/-- straps break, m at most -/
def xBs (R : Nat → Nat → Option Nat) (f t n : Nat) (g : Int) : Nat → Int → (Nat → Nat → Int) → Int × (Nat → Nat → Int)
  | 0, b, V => (b, V)
  | m + 1, b, V => match xFo R V g n 0 with
    | none => (b, V)
    | some k => xBs R f t n g m (b + 1) (xBr1 R V f t k)
theorem xGo_q {n k : Nat} (hR : xRo T R) (hP : xPq T R V n) (hT : xTr T R) (hk : k < n) : xPq T R (xGo (xup2 V (xp R k) 12 1) (xp R k)) n := by
  obtain ⟨h1, h2, h3, h4⟩ := hP
  obtain ⟨a1, a2, a3⟩ := h4 k hk
  have n0 : ¬ (0 : Nat) = xp R k := by intro e; rw [← e, hT.1] at a2; cases a2
  refine ⟨h1, ?_, h3, fun j hj => ?_⟩
  · simp [xGo, xup2, n0]; exact h2
  · obtain ⟨b1, b2, b3⟩ := h4 j hj
    refine ⟨b1, b2, ?_⟩
    by_cases e : xp R j = xp R k
    · rw [e]
      unfold xPx xPb
      simp only [xGo, xup2]
      refine ⟨Or.inl ?_, ?_, ?_, ?_⟩
      · simp
      · simpa using a3.2.1
      · simpa using a3.2.2.1
      · simpa using a3.2.2.2
    · refine xPx_e ?_ b3
      funext i
      simp [xGo, xup2, e]
theorem break_loop {n f t : Nat} {g : Int} (hT : xTr T R) (hR : xRo T R) (hg : 1 ≤ g ∧ g ≤ 9999) (hf : f < 8) (ht : t < 8) :
    ∀ (m k : Nat) (b : Int) (V : Nat → Nat → Int) (o6 : Option Value), k + m = 40 → xPq T R V n → xRb V →
    XR sc (d + 6) 79 6 [some (.ref 0), some (xw f), some (xw t), some (xw g), some (xw b), some (xw k), o6] [] (T, z, xv V, J, R) = some (.inl (some (xw (xBs R f t n g m b V).1)), (T, z, xv (xBs R f t n g m b V).2, J, R)) := by
  have r2 : R 0 2 = some 2 := hT.2.2.1
  have r4 : R 0 4 = some 3 := hT.2.2.2.1
  have e2 : (R 0 2).getD 0 = 2 := by rw [r2]; rfl
  have e4 : (R 0 4).getD 0 = 3 := by rw [r4]; rfl
  intro m
  induction m with
  | zero =>
    intro k b V o6 hk hP hb
    rw [bX6_breakStraps_6 (by omega), if_pos (by omega), bX6_breakStraps_55]; rfl
  | succ m ih =>
    intro k b V o6 hk hP hb
    rw [bX6_breakStraps_6 (by omega), if_neg (by omega), bX6_breakStraps_13r hT.1, s_first hT hR hP hb hg, xret_v, xBs]
    cases hx : xFo R V g n 0 with
    | none =>
      show XR sc (d + 6) 79 18 _ [.null] _ = _
      rw [bX6_breakStraps_18n, bX6_breakStraps_25]
    | some j =>
      have hj := (xFo_lt n 0 j (Nat.zero_add n) hx).1
      have a2 := (hP.2.2.2 j hj).2.1
      have hP' := xGo_q hR hP hT hj
      show XR sc (d + 6) 79 18 _ [.ref (xp R j)] _ = _
      rw [bX6_breakStraps_18r, bX6_breakStraps_28r a2, s_snap a2, xret_n, bX6_breakStraps_33r hT.1 (rgd r4) (rgd r2) (by rw [e4]; exact hR.1), e4, e2, s_look hR hT.2.2.2.2.2.2.2.2.1 hf ht (xPq_s hP'), xret_n, bX6_breakStraps_49, show (k : Int) + 1 = ((k + 1 : Nat) : Int) by omega]
      exact ih (k + 1) (b + 1) (xBr1 R V f t j) _ (by omega) (xPq_l hR hP') (xRb_l hR (xPq_s hP'))
theorem xBs_q {n f t : Nat} {g : Int} (hT : xTr T R) (hR : xRo T R) : ∀ (m : Nat) (b : Int) (V : Nat → Nat → Int), xPq T R V n → xRb V → xPq T R (xBs R f t n g m b V).2 n ∧ xRb (xBs R f t n g m b V).2 := by
  intro m
  induction m with
  | zero => intro b V h1 h2; exact ⟨h1, h2⟩
  | succ m ih =>
    intro b V h1 h2
    rw [xBs]
    cases hx : xFo R V g n 0 with
    | none => exact ⟨h1, h2⟩
    | some j =>
      have hP' := xGo_q hR h1 hT (xFo_lt n 0 j (Nat.zero_add n) hx).1
      exact ih (b + 1) (xBr1 R V f t j) (xPq_l hR hP') (xRb_l hR (xPq_s hP'))
theorem s_break {n f t : Nat} {g : Int} (hT : xTr T R) (hR : xRo T R) (hP : xPq T R V n) (hb : xRb V) (hg : 1 ≤ g ∧ g ≤ 9999) (hf : f < 8) (ht : t < 8) :
    X sc (d + 7) 79 [.ref 0, xw f, xw t, xw g] (T, z, xv V, J, R) = some (.inl (some (xw (xBs R f t n g 40 0 V).1)), (T, z, xv (xBs R f t n g 40 0 V).2, J, R)) := by
  rw [eX6_breakStraps, bX6_breakStraps_0]
  exact break_loop hT hR hg hf ht 40 0 0 V _ rfl hP hb
/-- straps wear, from k on -/
def xWs (R : Nat → Nat → Option Nat) (g : Int) : Nat → Nat → (Nat → Nat → Int) → (Nat → Nat → Int)
  | 0, _, V => V
  | m + 1, k, V => xWs R g m (k + 1) (xup2 V (xp R k) 7 (V (xp R k) 7 + xBu V (xp R k) g / 10))
theorem wear_loop {n : Nat} {g : Int} (hT : xTr T R) (hR : xRo T R) (hn : n ≤ 40) (hg : 1 ≤ g ∧ g ≤ 9999) (hq : ∀ k, k < n → R 2 k = some (xp R k) ∧ T (xp R k) = (2, 0)) :
    ∀ (m k : Nat) (V : Nat → Nat → Int) (o3 : Option Value), k + m = n → V 0 3 = n → (∀ k, k < n → xPb V (xp R k)) → xRb V →
    XR sc (d + 3) 81 2 [some (.ref 0), some (xw g), some (xw k), o3] [] (T, z, xv V, J, R) = some (.inl none, (T, z, xv (xWs R g m k V), J, R)) := by
  have r2 : R 0 2 = some 2 := hT.2.2.1
  have r4 : R 0 4 = some 3 := hT.2.2.2.1
  have t2 : T 2 = (41, 40) := hT.2.2.2.2.2.2.2.2.1
  have e2 : (R 0 2).getD 0 = 2 := by rw [r2]; rfl
  have e4 : (R 0 4).getD 0 = 3 := by rw [r4]; rfl
  intro m
  induction m with
  | zero =>
    intro k V o3 hk h0 hP hb
    rw [bX6_wearStraps_2r hT.1 (by omega) (by omega), if_pos (by omega), bX6_wearStraps_48]; rfl
  | succ m ih =>
    intro k V o3 hk h0 hP hb
    obtain ⟨a1, a2⟩ := hq k (by omega)
    have a3 := hP k (by omega)
    obtain ⟨n3, n4, n5, n6, n7, n8⟩ := xRo_T hR a2
    have n0 : ¬ (0 : Nat) = xp R k := by intro e; rw [← e, hT.1] at a2; cases a2
    have hu := xBu_in (V := V) (a := xp R k) (f := g) (by omega)
    rw [bX6_wearStraps_2r hT.1 (by omega) (by omega), if_neg (by omega), bX6_wearStraps_10rr hT.1 (rgd r2) rfl (by rw [e2, t2]; decide) (igd r2 t2 (by omega)) (by rw [e2, Int.toNat_natCast]; exact rgd a1), e2, Int.toNat_natCast]
    show XR sc (d + 3) 81 21 [some (.ref 0), some (xw g), some (xw k), some (.ref (xp R k))] [] (T, z, xv V, J, R) = _
    rw [bX6_wearStraps_21rr a2 hT.1 (rgd r4) (by rw [e4]; exact hR.1), e4, s_burden hR a2 a3 hb.1 hb.2.1 hb.2.2 (by omega), xret_v, bX6_wearStraps_35r (by omega) a2, bX6_wearStraps_42, show (k : Int) + 1 = ((k + 1 : Nat) : Int) by omega, xWs]
    refine ih (k + 1) _ _ (by omega) ?_ (fun j hj => ?_) ?_
    · simp [xup2, n0]; exact h0
    · have := hP j hj
      unfold xPb at this ⊢
      simpa [xup2] using this
    · refine ⟨?_, ?_, ?_⟩
      · simpa [xup2, show ¬ (4 : Nat) = xp R k from fun q => n4 q.symm] using hb.1
      · simpa [xup2, show ¬ (5 : Nat) = xp R k from fun q => n5 q.symm] using hb.2.1
      · simpa [xup2, show ¬ (6 : Nat) = xp R k from fun q => n6 q.symm] using hb.2.2
theorem s_wear {n : Nat} {g : Int} (hT : xTr T R) (hR : xRo T R) (hP : xPq T R V n) (hb : xRb V) (hg : 1 ≤ g ∧ g ≤ 9999) :
    X sc (d + 4) 81 [.ref 0, xw g] (T, z, xv V, J, R) = some (.inl none, (T, z, xv (xWs R g n 0 V), J, R)) := by
  rw [eX6_wearStraps, bX6_wearStraps_0]
  exact wear_loop hT hR hP.1 hg (fun k hk => ⟨(hP.2.2.2 k hk).1, (hP.2.2.2 k hk).2.1⟩) n 0 V _ (by omega) hP.2.1 (fun k hk => (hP.2.2.2 k hk).2.2.1) hb
theorem s_pull {f t g : Int} {n : Nat} (hT : xTr T R) (hR : xRo T R) (hP : xPq T R V n) (hf : -2147483648 ≤ f ∧ f ≤ 2147483647) (ht : -2147483648 ≤ t ∧ t ≤ 2147483647) (hg : -2147483648 ≤ g ∧ g ≤ 2147483647) :
    X sc (d + 9) 62 [.ref 0, xw f, xw t, xw g] (T, z, xv V, J, R) =
      if (0 ≤ f ∧ f < 8) ∧ (0 ≤ t ∧ t < 8) then
        (if (¬ f = t) ∧ (1 ≤ g ∧ g ≤ 9999) then
          (if xLk R V f.toNat t.toNat 3 5 ≤ 0 then xTw 9 T z (xLk R V f.toNat t.toNat) J R
           else some (.inl (some (xw (xBs R f.toNat t.toNat n g 40 0 (xLk R V f.toNat t.toNat)).1)), (T, z, xv (xWs R g n 0 (xBs R f.toNat t.toNat n g 40 0 (xLk R V f.toNat t.toNat)).2), J, R)))
         else xTw 8 T z V J R)
      else xTw 10 T z V J R := by
  have r2 : R 0 2 = some 2 := hT.2.2.1
  have r4 : R 0 4 = some 3 := hT.2.2.2.1
  have e2 : (R 0 2).getD 0 = 2 := by rw [r2]; rfl
  have e4 : (R 0 4).getD 0 = 3 := by rw [r4]; rfl
  rw [eX6_pull, bX6_pull_0, s_checkRings hf ht]
  by_cases c1 : (0 ≤ f ∧ f < 8) ∧ (0 ≤ t ∧ t < 8)
  · rw [if_pos c1, if_pos c1]
    by_cases c2 : f = t
    · rw [if_pos c2, xret_w w_62, if_neg (fun q => q.1 c2)]
    · rw [if_neg c2, xret_n, bX6_pull_5, s_checkArgument hg (by decide) (by decide)]
      by_cases c3 : 1 ≤ g ∧ g ≤ 9999
      · obtain ⟨f', rfl⟩ : ∃ m : Nat, f = m := ⟨f.toNat, by omega⟩
        obtain ⟨t', rfl⟩ : ∃ m : Nat, t = m := ⟨t.toNat, by omega⟩
        have hP' := xPq_l (f := f') (t := t') hR hP
        have hb := xRb_l (f := f') (t := t') hR (xPq_s hP)
        have hc := xLk_c (R := R) (V := V) (f := f') (t := t')
        have hq := xBs_q (f := f') (t := t') (g := g) hT hR 40 0 _ hP' hb
        rw [if_pos c3, if_pos (And.intro c2 c3), xret_n, bX6_pull_13 hT.1 (rgd r4) (rgd r2) (by rw [e4]; exact hR.1), e4, e2, s_look hR hT.2.2.2.2.2.2.2.2.1 (by omega) (by omega) (xPq_s hP), xret_n, bX6_pull_26 hT.1 (rgd r4) (by rw [e4]; exact hR.1), e4, s_exists hR (by omega), xret_v, Int.toNat_natCast, Int.toNat_natCast]
        by_cases c4 : xLk R V f' t' 3 5 ≤ 0
        · rw [if_pos c4, if_pos c4, bX6_pull_33 (by decide), if_pos rfl, bX6_pull_36 (by omega)]; rfl
        · rw [if_neg c4, if_neg c4, bX6_pull_33 (by decide), if_neg (by decide), bX6_pull_46 hT.1, s_break hT hR hP' hb c3 (by omega) (by omega), xret_v, bX6_pull_53 hT.1, s_wear hT hR hq.1 hq.2 c3, xret_n, bX6_pull_60]
      · rw [if_neg c3, xret_w w_62, if_neg (fun q => c3 q.2)]
  · rw [if_neg c1, xret_w w_62, if_neg c1]
end SX6l
