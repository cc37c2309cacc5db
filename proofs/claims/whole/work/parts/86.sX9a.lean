/-! the invariant between the class and the model -/
def iSta (T : Nat → Nat × Nat) (R : Nat → Nat → Option Nat) : Prop := xTr T R ∧ xRo T R ∧ xHs T R ∧ xSs T R ∧ xSe T R 53 54 55 ∧ xMo T R ∧ T 81 = (34, 1)
theorem iSta_e {T T' : Nat → Nat × Nat} {R R' : Nat → Nat → Option Nat} (h : iSta T R) (hT : ∀ b, b < 82 → T' b = T b) (hR : ∀ b, b < 82 → ¬ b = 1 → ¬ b = 2 → R' b = R b) : iSta T' R' := by
  obtain ⟨h1, h2, h3, h4, h5, h6, h7⟩ := h
  refine ⟨?_, ?_, ?_, ?_, ?_, ?_, ?_⟩
  · unfold xTr at h1 ⊢
    rw [hT 0 (by decide), hT 1 (by decide), hT 2 (by decide), hT 9 (by decide), hT 34 (by decide), hR 0 (by decide) (by decide) (by decide)]
    exact h1
  · unfold xRo at h2 ⊢
    rw [hT 3 (by decide), hT 4 (by decide), hT 5 (by decide), hT 6 (by decide), hT 7 (by decide), hT 8 (by decide), hR 3 (by decide) (by decide) (by decide)]
    exact h2
  · intro h hh
    have := h3 h hh
    unfold xHo at this ⊢
    rw [hR 9 (by decide) (by decide) (by decide), hR (10 + 4 * h) (by omega) (by omega) (by omega), hT (10 + 4 * h) (by omega), hT (11 + 4 * h) (by omega), hT (12 + 4 * h) (by omega), hT (13 + 4 * h) (by omega)]
    exact this
  · intro s hs
    have := h4 s hs
    unfold xSa at this ⊢
    rw [hR 34 (by decide) (by decide) (by decide), hR (35 + 3 * s) (by omega) (by omega) (by omega), hT (35 + 3 * s) (by omega), hT (36 + 3 * s) (by omega), hT (37 + 3 * s) (by omega)]
    exact this
  · unfold xSe at h5 ⊢
    rw [hT 53 (by decide), hT 54 (by decide), hT 55 (by decide), hR 53 (by decide) (by decide) (by decide)]
    exact h5
  · unfold xMo at h6 ⊢
    rw [hR 56 (by decide) (by decide) (by decide), hT 56 (by decide), hT 57 (by decide), hT 58 (by decide), hT 59 (by decide), hT 60 (by decide), hT 61 (by decide), hT 62 (by decide), hT 63 (by decide), hT 64 (by decide), hT 65 (by decide), hT 66 (by decide), hT 67 (by decide), hT 68 (by decide), hT 69 (by decide), hT 70 (by decide), hT 71 (by decide), hT 72 (by decide), hT 73 (by decide), hT 74 (by decide), hT 75 (by decide), hT 76 (by decide), hT 77 (by decide), hT 78 (by decide), hT 79 (by decide), hT 80 (by decide)]
    exact h6
  · rw [hT 81 (by decide)]; exact h7
def xh (R : Nat → Nat → Option Nat) (h : Nat) : Nat := (R 1 h).getD 0
/-- one hide: its cell a -/
def iHi1 (T : Nat → Nat × Nat) (n : Nat) (V : Nat → Nat → Int) (R : Nat → Nat → Option Nat) (h a : Nat) : Prop :=
  xHi T R a (a + 1) ∧ 82 ≤ a ∧ a + 1 < n ∧ V a 0 = V 57 h ∧ 2 ≤ V 57 h ∧ ∀ k, k < 96 → V (a + 1) k = if iBt (V 58 (8 * h + k / 12)) (k % 12) = true then 1 else 0
def iHid (T : Nat → Nat × Nat) (n : Nat) (V : Nat → Nat → Int) (R : Nat → Nat → Option Nat) (H : Nat) : Prop :=
  (H ≤ 8 ∧ V 0 1 = H ∧ V 56 0 = H) ∧ (∀ h, H ≤ h → h < 8 → R 1 h = none ∧ ∀ r, r < 8 → V 58 (8 * h + r) = 0) ∧ (∀ h, h < 8 → 0 ≤ V 57 h ∧ V 57 h ≤ 9) ∧
  (∀ h, h < H → R 1 h = some (xh R h) ∧ iHi1 T n V R h (xh R h)) ∧ ∀ h h', h < H → h' < H → xh R h = xh R h' → h = h'
/-- one part: its cell a -/
def iPa1 (i : Nat) (T : Nat → Nat × Nat) (n : Nat) (V : Nat → Nat → Int) (J : Nat → Nat → Int64) (R : Nat → Nat → Option Nat) (p a : Nat) : Prop :=
  (xPa T R a (a + 1) ∧ 82 ≤ a ∧ a + 1 < n) ∧ (V a 0 = V 59 p ∧ V a 1 = V 60 p ∧ V a 2 = V 62 p ∧ V a 3 = V 63 p ∧ V a 5 = V 61 p ∧ V a 4 = 0) ∧ (V a 7 = V 65 p ∧ V a 8 = V 66 p ∧ V a 12 = V 67 p) ∧
  (V a 9 = min (V 68 p) (V 69 p) ∧ V a 10 = max (V 68 p) (V 69 p) ∧ V a 11 = V 70 p) ∧ (1 ≤ V 59 p ∧ 1 ≤ V 60 p ∧ 1 ≤ V 61 p ∧ V 65 p ≤ 1000 * i) ∧ aSt (V 68) (V 69) (V 70) p ∧
  (∀ k, k < 49 → V (a + 1) k = if xBt (J 64 p) k = true then 1 else 0) ∧ (∀ k, k < 64 → xBt (J 64 p) k = true → 3 ≤ k ∧ (k : Int) ≤ 4 * V 59 p - 3) ∧ V a 6 = xHc (J 64 p) 49 0
def iPar (i : Nat) (T : Nat → Nat × Nat) (n : Nat) (V : Nat → Nat → Int) (J : Nat → Nat → Int64) (R : Nat → Nat → Option Nat) (P : Nat) : Prop :=
  (P ≤ 40 ∧ V 0 3 = P ∧ V 56 3 = P ∧ i ≤ 513) ∧ xMr V ∧ (∀ p, P ≤ p → p < 40 → R 2 p = none ∧ J 64 p = Int64.ofNat 0 ∧ V 65 p = 0 ∧ V 66 p = 0 ∧ V 67 p = 0) ∧
  (∀ p, p < P → R 2 p = some (xp R p) ∧ iPa1 i T n V J R p (xp R p)) ∧ ∀ p p', p < P → p' < P → xp R p = xp R p' → p = p'
def iHor (V : Nat → Nat → Int) : Prop :=
  (∀ h k, h < 6 → k < 7 → V (11 + 4 * h) k = V 74 (7 * h + k) ∧ V (12 + 4 * h) k = V 77 (7 * h + k)) ∧ (∀ s k, s < 6 → k < 7 → V (36 + 3 * s) k = V 75 (7 * s + k) ∧ V (37 + 3 * s) k = V 76 (7 * s + k)) ∧ xMh V ∧
  (∀ h k w, h < 6 → k < 7 → w < 6 → V (13 + 4 * h) ((k * 3 + 0) * 6 + w) = V 78 (6 * (7 * h + k) + w) ∧ V (13 + 4 * h) ((k * 3 + 1) * 6 + w) = (if w < 4 then V 79 (4 * (7 * h + k) + w) else 0) ∧ V (13 + 4 * h) ((k * 3 + 2) * 6 + w) = (if 1 ≤ w ∧ w < 4 then V 80 (4 * (7 * h + k) + w) else 0)) ∧
  (V 0 8 = V 56 24 ∧ 0 ≤ V 56 24 ∧ V 56 24 ≤ 60) ∧ ((∀ k, k < 42 → 0 ≤ V 77 k ∧ V 77 k ≤ 2000000 * V 56 24) ∧ (∀ k, k < 252 → 0 ≤ V 78 k ∧ V 78 k ≤ 2000000 * V 56 24) ∧ (∀ k, k < 168 → 0 ≤ V 79 k ∧ V 79 k ≤ 2000000 * V 56 24) ∧ (∀ k, k < 168 → 0 ≤ V 80 k ∧ V 80 k ≤ 2000000 * V 56 24)) ∧ (∀ k, k < 7 → -1000 ≤ V 55 k ∧ V 55 k ≤ 1000)
def iInv (i : Nat) (T : Nat → Nat × Nat) (z : Nat × Nat) (V : Nat → Nat → Int) (J : Nat → Nat → Int64) (R : Nat → Nat → Option Nat) : Prop :=
  iSta T R ∧ (82 ≤ z.1 ∧ z.1 ≤ 82 + 2 * i ∧ z.2 ≤ 10000 + 100 * i) ∧ (∃ H, iHid T z.1 V R H) ∧ (∃ P, iPar i T z.1 V J R P) ∧ iHor V
/-! frames -/
theorem iHi1_e {T T' : Nat → Nat × Nat} {n n' : Nat} {V V' : Nat → Nat → Int} {R R' : Nat → Nat → Option Nat} {h a : Nat} (hh : h < 8) (hx : iHi1 T n V R h a) (hn : n ≤ n') (hT : T' a = T a ∧ T' (a + 1) = T (a + 1)) (hR : R' a = R a) (h57 : V' 57 h = V 57 h) (h58 : ∀ r, r < 8 → V' 58 (8 * h + r) = V 58 (8 * h + r)) (ha : V' a 0 = V a 0) (hg : ∀ k, k < 96 → V' (a + 1) k = V (a + 1) k) : iHi1 T' n' V' R' h a := by
  obtain ⟨h1, h2, h3, h4, h5, h6⟩ := hx
  unfold xHi at h1
  refine ⟨?_, h2, by omega, by rw [ha, h57]; exact h4, by rw [h57]; exact h5, fun k hk => ?_⟩
  · unfold xHi; rw [hT.1, hT.2, hR]; exact h1
  · rw [hg k hk, h58 (k / 12) (by omega)]; exact h6 k hk
theorem iHid_e {T T' : Nat → Nat × Nat} {n n' : Nat} {V V' : Nat → Nat → Int} {R R' : Nat → Nat → Option Nat} {H : Nat} (hx : iHid T n V R H) (hn : n ≤ n') (hT : ∀ b, 82 ≤ b → b < n → T' b = T b) (hR1 : R' 1 = R 1) (hR : ∀ b, 82 ≤ b → b < n → R' b = R b) (h0 : V' 0 1 = V 0 1) (h56 : V' 56 0 = V 56 0) (h57 : V' 57 = V 57) (h58 : V' 58 = V 58) (hc : ∀ b, 82 ≤ b → b < n → (T b = (1, 0) ∨ T b = (33, 96)) → V' b = V b) : iHid T' n' V' R' H := by
  obtain ⟨h1, h2, h3, h4, h5⟩ := hx
  have ex : ∀ h, xh R' h = xh R h := fun h => by unfold xh; rw [hR1]
  refine ⟨by rw [h0, h56]; exact h1, fun h a b => by rw [hR1, h58]; exact h2 h a b, fun h a => by rw [h57]; exact h3 h a, fun h a => ?_, fun h h' a b c => h5 h h' a b (by rw [ex, ex] at c; exact c)⟩
  obtain ⟨q1, q2⟩ := h4 h a
  have q2' := q2
  obtain ⟨⟨p1, p2, p3⟩, p4, p5, _⟩ := q2'
  rw [ex, hR1]
  exact ⟨q1, iHi1_e (by omega) q2 hn ⟨hT _ p4 (by omega), hT _ (by omega) p5⟩ (hR _ p4 (by omega)) (by rw [h57]) (fun r _ => by rw [h58]) (by rw [hc _ p4 (by omega) (Or.inl p1)]) (fun k _ => by rw [hc _ (by omega) p5 (Or.inr p3)])⟩
theorem iPa1_e {i i' : Nat} {T T' : Nat → Nat × Nat} {n n' : Nat} {V V' : Nat → Nat → Int} {J J' : Nat → Nat → Int64} {R R' : Nat → Nat → Option Nat} {p a : Nat} (hx : iPa1 i T n V J R p a) (hi : i ≤ i') (hn : n ≤ n') (hT : T' a = T a ∧ T' (a + 1) = T (a + 1)) (hR : R' a = R a) (hV : ∀ r, 59 ≤ r → r < 71 → V' r p = V r p) (hJ : J' 64 p = J 64 p) (ha : ∀ j, j < 13 → V' a j = V a j) (hg : ∀ k, k < 49 → V' (a + 1) k = V (a + 1) k) : iPa1 i' T' n' V' J' R' p a := by
  unfold iPa1 xPa aSt at hx ⊢
  rw [hT.1, hT.2, hR, hJ, hV 59 (by decide) (by decide), hV 60 (by decide) (by decide), hV 61 (by decide) (by decide), hV 62 (by decide) (by decide), hV 63 (by decide) (by decide), hV 65 (by decide) (by decide), hV 66 (by decide) (by decide), hV 67 (by decide) (by decide), hV 68 (by decide) (by decide), hV 69 (by decide) (by decide), hV 70 (by decide) (by decide),
    ha 0 (by decide), ha 1 (by decide), ha 2 (by decide), ha 3 (by decide), ha 4 (by decide), ha 5 (by decide), ha 6 (by decide), ha 7 (by decide), ha 8 (by decide), ha 9 (by decide), ha 10 (by decide), ha 11 (by decide), ha 12 (by decide)]
  obtain ⟨⟨h1, h2, h3⟩, h4, h5, h6, ⟨h7, h8, h9, h0⟩, h10, h11, h12⟩ := hx
  exact ⟨⟨h1, h2, by omega⟩, h4, h5, h6, ⟨h7, h8, h9, by omega⟩, h10, fun k hk => by rw [hg k hk]; exact h11 k hk, h12⟩
theorem xMr_e {V V' : Nat → Nat → Int} (h : xMr V) (h3 : V' 56 3 = V 56 3) (hV : ∀ r, 59 ≤ r → r < 71 → V' r = V r) : xMr V' := by
  unfold xMr at h ⊢
  rw [h3, hV 59 (by decide) (by decide), hV 60 (by decide) (by decide), hV 61 (by decide) (by decide), hV 62 (by decide) (by decide), hV 63 (by decide) (by decide), hV 65 (by decide) (by decide), hV 66 (by decide) (by decide), hV 67 (by decide) (by decide), hV 68 (by decide) (by decide), hV 69 (by decide) (by decide), hV 70 (by decide) (by decide)]
  exact h
theorem iPar_e {i i' : Nat} {T T' : Nat → Nat × Nat} {n n' : Nat} {V V' : Nat → Nat → Int} {J J' : Nat → Nat → Int64} {R R' : Nat → Nat → Option Nat} {P : Nat} (hx : iPar i T n V J R P) (hi : i ≤ i' ∧ i' ≤ 513) (hn : n ≤ n') (hT : ∀ b, 82 ≤ b → b < n → T' b = T b) (hR2 : R' 2 = R 2) (hR : ∀ b, 82 ≤ b → b < n → R' b = R b) (h0 : V' 0 3 = V 0 3) (h56 : V' 56 3 = V 56 3) (hV : ∀ r, 59 ≤ r → r < 71 → V' r = V r) (hJ : J' 64 = J 64) (hc : ∀ b, 82 ≤ b → b < n → (T b = (2, 0) ∨ T b = (33, 49)) → V' b = V b) : iPar i' T' n' V' J' R' P := by
  obtain ⟨⟨h1, h1b, h1c, h1d⟩, h2, h3, h4, h5⟩ := hx
  have ex : ∀ p, xp R' p = xp R p := fun h => by unfold xp; rw [hR2]
  refine ⟨⟨h1, by rw [h0]; exact h1b, by rw [h56]; exact h1c, hi.2⟩, xMr_e h2 h56 hV, fun p a b => by rw [hR2, hJ, hV 65 (by decide) (by decide), hV 66 (by decide) (by decide), hV 67 (by decide) (by decide)]; exact h3 p a b, fun p a => ?_, fun p p' a b c => h5 p p' a b (by rw [ex, ex] at c; exact c)⟩
  obtain ⟨q1, q2⟩ := h4 p a
  have q2' := q2
  obtain ⟨⟨⟨p1, p2, p3⟩, p4, p5⟩, _⟩ := q2'
  rw [ex, hR2]
  exact ⟨q1, iPa1_e q2 hi.1 hn ⟨hT _ p4 (by omega), hT _ (by omega) p5⟩ (hR _ p4 (by omega)) (fun r r1 r2 => by rw [hV r r1 r2]) (by rw [hJ]) (fun j _ => by rw [hc _ p4 (by omega) (Or.inl p1)]) (fun k _ => by rw [hc _ (by omega) p5 (Or.inr p3)])⟩
theorem iHor_e {V V' : Nat → Nat → Int} (h : iHor V) (h0 : V' 0 8 = V 0 8) (h56 : V' 56 24 = V 56 24) (hV : ∀ b, (9 ≤ b ∧ b < 54) ∨ b = 55 ∨ (74 ≤ b ∧ b < 81) → V' b = V b) : iHor V' := by
  unfold iHor xMh at h ⊢
  rw [h0, h56, hV 55 (by omega), hV 74 (by omega), hV 75 (by omega), hV 76 (by omega), hV 77 (by omega), hV 78 (by omega), hV 79 (by omega), hV 80 (by omega)]
  obtain ⟨a1, a2, a3, a4, a5⟩ := h
  refine ⟨fun h k hh hk => ?_, fun s k hs hk => ?_, a3, fun h k w hh hk hw => ?_, a5⟩
  · rw [hV (11 + 4 * h) (by omega), hV (12 + 4 * h) (by omega)]; exact a1 h k hh hk
  · rw [hV (36 + 3 * s) (by omega), hV (37 + 3 * s) (by omega)]; exact a2 s k hs hk
  · rw [hV (13 + 4 * h) (by omega)]; exact a4 h k w hh hk hw
/-- rows that no promise shows -/
def iScr (V V' : Nat → Nat → Int) : Prop := (∀ b, ¬ (3 ≤ b ∧ b ≤ 8) → ¬ b = 54 → ¬ b = 56 → ¬ (71 ≤ b ∧ b ≤ 73) → V' b = V b) ∧ (∀ j, ¬ j = 17 → ¬ j = 28 → V' 56 j = V 56 j)
theorem iScr_r {V : Nat → Nat → Int} : iScr V V := ⟨fun b _ _ _ _ => rfl, fun j _ _ => rfl⟩
theorem iScr_t {V V' V'' : Nat → Nat → Int} (h : iScr V V') (h' : iScr V' V'') : iScr V V'' := ⟨fun b b1 b2 b3 b4 => by rw [h'.1 b b1 b2 b3 b4, h.1 b b1 b2 b3 b4], fun j j1 j2 => by rw [h'.2 j j1 j2, h.2 j j1 j2]⟩
theorem iScr_f {V : Nat → Nat → Int} {k : Int} : iScr V (xup2 V 56 28 k) := ⟨fun b _ _ b3 _ => xup2_o b3, fun j _ j2 => xup2_j j2⟩
theorem iScr_a {V V' : Nat → Nat → Int} (h : aFr V V') : iScr V V' := ⟨fun b b1 b2 b3 b4 => h.1 b b3 (by omega), h.2⟩
theorem iScr_l {R : Nat → Nat → Option Nat} {V : Nat → Nat → Int} {f t : Nat} : iScr V (xLk R V f t) := ⟨fun b b1 b2 b3 b4 => xLk_ne (by omega), fun j _ _ => by rw [xLk_ne (by decide)]⟩
theorem iInv_s {i i' : Nat} {T : Nat → Nat × Nat} {z : Nat × Nat} {V V' : Nat → Nat → Int} {J J' : Nat → Nat → Int64} {R : Nat → Nat → Option Nat} (h : iInv i T z V J R) (hi : i ≤ i' ∧ i' ≤ 513) (hs : iScr V V') (hJ : J' 64 = J 64) : iInv i' T z V' J' R := by
  obtain ⟨h1, h2, ⟨H, h3⟩, ⟨P, h4⟩, h5⟩ := h
  have s0 : V' 0 = V 0 := hs.1 0 (by decide) (by decide) (by decide) (by decide)
  refine ⟨h1, ⟨h2.1, by omega, by omega⟩, ⟨H, iHid_e h3 (Nat.le_refl _) (fun _ _ _ => rfl) rfl (fun _ _ _ => rfl) (by rw [s0]) (hs.2 0 (by decide) (by decide)) (hs.1 57 (by decide) (by decide) (by decide) (by decide)) (hs.1 58 (by decide) (by decide) (by decide) (by decide)) (fun b b1 _ _ => hs.1 b (by omega) (by omega) (by omega) (by omega))⟩, ⟨P, iPar_e h4 hi (Nat.le_refl _) (fun _ _ _ => rfl) rfl (fun _ _ _ => rfl) (by rw [s0]) (hs.2 3 (by decide) (by decide)) (fun r r1 r2 => hs.1 r (by omega) (by omega) (by omega) (by omega)) hJ (fun b b1 _ _ => hs.1 b (by omega) (by omega) (by omega) (by omega))⟩, iHor_e h5 (by rw [s0]) (hs.2 24 (by decide) (by decide)) (fun b hb => hs.1 b (by omega) (by omega) (by omega) (by omega))⟩
/-- behind a throw -/
theorem iInv_t {i : Nat} {e : Nat} {T : Nat → Nat × Nat} {z : Nat × Nat} {V : Nat → Nat → Int} {J : Nat → Nat → Int64} {R : Nat → Nat → Option Nat} (h : iInv i T z V J R) (hi : i ≤ 512) : iInv (i + 1) (va_up T z.1 (1 + e, 0)) (z.1 + 1, z.2 + 6) (va_up V z.1 (fun _ => 0)) (va_up J z.1 (fun _ => 0)) (va_up R z.1 (fun _ => none)) := by
  obtain ⟨h1, h2, ⟨H, h3⟩, ⟨P, h4⟩, h5⟩ := h
  have eT : ∀ b, b < z.1 → va_up T z.1 (1 + e, 0) b = T b := fun b hb => va_ne (by omega)
  have eR : ∀ b, b < z.1 → va_up R z.1 (fun _ => none) b = R b := fun b hb => va_ne (by omega)
  have eV : ∀ b, b < z.1 → va_up V z.1 (fun _ => 0) b = V b := fun b hb => va_ne (by omega)
  refine ⟨iSta_e h1 (fun b hb => eT b (by omega)) (fun b hb _ _ => eR b (by omega)), ⟨by show 82 ≤ z.1 + 1; omega, by show z.1 + 1 ≤ _; omega, by show z.2 + 6 ≤ _; omega⟩, ⟨H, ?_⟩, ⟨P, ?_⟩, ?_⟩
  · exact iHid_e h3 (by show z.1 ≤ z.1 + 1; omega) (fun b _ hb => eT b hb) (eR 1 (by omega)) (fun b _ hb => eR b hb) (by rw [eV 0 (by omega)]) (by rw [eV 56 (by omega)]) (eV 57 (by omega)) (eV 58 (by omega)) (fun b _ hb _ => eV b hb)
  · exact iPar_e h4 (by omega) (by show z.1 ≤ z.1 + 1; omega) (fun b _ hb => eT b hb) (eR 2 (by omega)) (fun b _ hb => eR b hb) (by rw [eV 0 (by omega)]) (by rw [eV 56 (by omega)]) (fun r _ hr => eV r (by omega)) (va_ne (by omega)) (fun b _ hb _ => eV b hb)
  · exact iHor_e h5 (by rw [eV 0 (by omega)]) (by rw [eV 56 (by omega)]) (fun b hb => eV b (by omega))
/-! what a call of the law's must come to -/
def iCs (sc : xS) (i jc jm : Nat) (as : List Value) (κ : Nat → Int) (T : Nat → Nat × Nat) (z : Nat × Nat) (V : Nat → Nat → Int) (J : Nat → Nat → Int64) (R : Nat → Nat → Option Nat) : Prop :=
  (∃ (v : Int) (T1 : Nat → Nat × Nat) (z1 : Nat × Nat) (V1 : Nat → Nat → Int) (J1 : Nat → Nat → Int64) (R1 : Nat → Nat → Option Nat) (V2 : Nat → Nat → Int) (J2 : Nat → Nat → Int64), (jm = 111 → v = 0 ∨ v = 1) ∧
    X sc 9 jc (.ref 0 :: as) (T, z, xv V, J, R) = some (.inl (some (xw v)), (T1, z1, xv V1, J1, R1)) ∧ T1 81 = (34, 1) ∧ T1 56 = (8, 0) ∧
    X sc 10 jm (.ref 56 :: as) (T1, z1, xv V1, xup2 J1 81 0 (jI v), R1) = some (.inl (some (xw v)), (T1, z1, xv V2, J2, R1)) ∧ J2 81 0 = jI v ∧ V2 56 28 = 0 ∧ iInv (i + 1) T1 z1 V2 J2 R1)
  ∨ (∃ (e : Nat) (b : Int) (V1 V2 : Nat → Nat → Int), X sc 9 jc (.ref 0 :: as) (T, z, xv V, J, R) = xTw e T z V1 J R ∧
    X sc 10 jm (.ref 56 :: as) (va_up T z.1 (1 + e, 0), (z.1 + 1, z.2 + 6), xv (va_up V1 z.1 (fun _ => 0)), va_up J z.1 (fun _ => 0), va_up R z.1 (fun _ => none)) = some (.inl (some (xw b)), (va_up T z.1 (1 + e, 0), (z.1 + 1, z.2 + 6), xv V2, va_up J z.1 (fun _ => 0), va_up R z.1 (fun _ => none))) ∧
    V2 56 28 = κ e ∧ (1 ≤ κ e ∧ κ e ≤ 3) ∧ (e = 8 ∨ e = 9 ∨ e = 10) ∧ iInv (i + 1) (va_up T z.1 (1 + e, 0)) (z.1 + 1, z.2 + 6) V2 (va_up J z.1 (fun _ => 0)) (va_up R z.1 (fun _ => none)))
/-- the exceptions' numbers where all three are told, in this order -/
def k123 : Nat → Int := fun e => if e = 10 then 1 else if e = 8 then 2 else 3
def k12 : Nat → Int := fun e => if e = 8 then 1 else if e = 9 then 2 else 0
def kA : Nat → Int := fun e => if e = 10 then 1 else 0
def kB : Nat → Int := fun e => if e = 10 then 1 else if e = 8 then 2 else 0
def kU : Nat → Int := fun e => if e = 10 then 1 else if e = 9 then 2 else 0
def kR : Nat → Int := fun e => if e = 8 then 1 else 0
/-- a refused call -/
theorem iCs_x {sc : xS} {i jc jm e : Nat} {as : List Value} {κ : Nat → Int} {T : Nat → Nat × Nat} {z : Nat × Nat} {V V1 : Nat → Nat → Int} {J : Nat → Nat → Int64} {R : Nat → Nat → Option Nat} {k : Int} (hI : iInv i T z V J R) (hi : i ≤ 512) (hs : iScr V V1) (hX : X sc 9 jc (.ref 0 :: as) (T, z, xv V, J, R) = xTw e T z V1 J R)
    (hM : ∀ (T : Nat → Nat × Nat) (z : Nat × Nat) (V : Nat → Nat → Int) (J' : Nat → Nat → Int64) (R : Nat → Nat → Option Nat), iInv (i + 1) T z V J' R → (∀ b, (b = 0 ∨ (9 ≤ b ∧ b ≤ 53) ∨ (57 ≤ b ∧ b ≤ 70) ∨ (74 ≤ b ∧ b ≤ 80)) → V b = V1 b) → (∀ j, V 56 j = V1 56 j) → J' 64 = J 64 → ∃ V2, X sc 10 jm (.ref 56 :: as) (T, z, xv V, J', R) = some (.inl (some (xw 0)), (T, z, xv V2, J', R)) ∧ V2 56 28 = κ e ∧ iScr V V2)
    (hk : 1 ≤ κ e ∧ κ e ≤ 3) (he : e = 8 ∨ e = 9 ∨ e = 10) : iCs sc i jc jm as κ T z V J R := by
  have hz := hI.2.1.1
  have hI1 : iInv i T z V1 J R := iInv_s hI ⟨Nat.le_refl i, by omega⟩ hs rfl
  have hI2 := iInv_t (e := e) hI1 hi
  obtain ⟨V2, m1, m2, m3⟩ := hM _ _ _ _ _ hI2 (fun b hb => va_ne (by omega)) (fun j => by rw [va_ne (by omega)]) (va_ne (by omega))
  exact Or.inr ⟨e, 0, V1, V2, hX, m1, m2, hk, he, iInv_s hI2 ⟨Nat.le_refl _, by omega⟩ m3 rfl⟩
