/-! the property's law: what holds between it and the class -/
def qSta (T : Nat → Nat × Nat) (R : Nat → Nat → Option Nat) : Prop := xTr T R ∧ xRo T R ∧ xHs T R ∧ xSs T R ∧ xSe T R 53 54 55 ∧ pAr T
theorem qSta_e {T T' : Nat → Nat × Nat} {R R' : Nat → Nat → Option Nat} (h : qSta T R) (hT : ∀ b, b < 64 → T' b = T b) (hR : ∀ b, b < 64 → ¬ b = 1 → ¬ b = 2 → R' b = R b) : qSta T' R' := by
  obtain ⟨h1, h2, h3, h4, h5, h6⟩ := h
  refine ⟨?_, ?_, ?_, ?_, ?_, ?_⟩
  · unfold xTr at h1 ⊢
    rw [hT 0 (by decide), hT 1 (by decide), hT 2 (by decide), hT 9 (by decide), hT 34 (by decide), hR 0 (by decide) (by decide) (by decide)]
    exact h1
  · unfold xRo at h2 ⊢
    rw [hT 3 (by decide), hT 4 (by decide), hT 5 (by decide), hT 6 (by decide), hT 7 (by decide), hT 8 (by decide), hR 3 (by decide) (by decide) (by decide)]
    exact h2
  · intro h hh
    have := h3 h hh
    unfold xHo at this ⊢
    rw [hR 9 (by decide) (by decide) (by decide), hR (10 + 4 * h) (by omega) (by omega) (by omega), hT (10 + 4 * h) (by omega), hT (11 + 4 * h) (by omega), hT (12 + 4 * h) (by omega), hT (13 + 4 * h) (by omega)]
    exact this
  · intro s hs
    have := h4 s hs
    unfold xSa at this ⊢
    rw [hR 34 (by decide) (by decide) (by decide), hR (35 + 3 * s) (by omega) (by omega) (by omega), hT (35 + 3 * s) (by omega), hT (36 + 3 * s) (by omega), hT (37 + 3 * s) (by omega)]
    exact this
  · unfold xSe at h5 ⊢
    rw [hT 53 (by decide), hT 54 (by decide), hT 55 (by decide), hR 53 (by decide) (by decide) (by decide)]
    exact h5
  · exact pAr_e h6 (fun b _ hb => hT b hb)
def xh (R : Nat → Nat → Option Nat) (h : Nat) : Nat := (R 1 h).getD 0
/-- one hide: its cell a -/
def qHi1 (T : Nat → Nat × Nat) (n : Nat) (V : Nat → Nat → Int) (R : Nat → Nat → Option Nat) (h a : Nat) : Prop :=
  xHi T R a (a + 1) ∧ 64 ≤ a ∧ a + 1 < n ∧ V a 0 = V 56 h ∧ (2 ≤ V 56 h ∧ V 56 h ≤ 9) ∧ ∀ k, k < 96 → V (a + 1) k = if iBt (V 56 (2 + 8 * h + k / 12)) (k % 12) = true then 1 else 0
def qHid (T : Nat → Nat × Nat) (n : Nat) (V : Nat → Nat → Int) (R : Nat → Nat → Option Nat) (H : Nat) : Prop :=
  (H ≤ 2 ∧ V 0 1 = H ∧ V 63 0 = H) ∧ (∀ h, H ≤ h → h < 8 → R 1 h = none) ∧ ((∀ h, H ≤ h → h < 2 → ∀ r, r < 8 → V 56 (2 + 8 * h + r) = 0) ∧ ∀ j, 2 ≤ j → j < 18 → ∀ k, 12 ≤ k → k < 32 → iBt (V 56 j) k = false) ∧
  (∀ h, h < H → R 1 h = some (xh R h) ∧ qHi1 T n V R h (xh R h)) ∧ ∀ h h', h < H → h' < H → xh R h = xh R h' → h = h'
/-- one part: its cell a -/
def qPa1 (i : Nat) (T : Nat → Nat × Nat) (n : Nat) (V : Nat → Nat → Int) (R : Nat → Nat → Option Nat) (p a : Nat) : Prop :=
  (xPa T R a (a + 1) ∧ 64 ≤ a ∧ a + 1 < n) ∧ (V a 0 = V 57 p % 16 ∧ V a 1 = V 57 p / 16 % 16 ∧ V a 2 = V 57 p / 4096 % 8 ∧ V a 3 = V 57 p / 32768 % 2 ∧ V a 5 = V 57 p / 256 % 16 ∧ V a 4 = 0) ∧ (V a 7 = V 58 p ∧ V a 8 = V 57 p / 65536 % 8 ∧ V a 12 = V 57 p / 524288) ∧
  (V a 9 = min (pO V p) (pQ V p) ∧ V a 10 = max (pO V p) (pQ V p) ∧ V a 11 = pL V p) ∧ ((1 ≤ V a 0 ∧ V a 0 ≤ 12) ∧ (1 ≤ V a 1 ∧ V a 1 ≤ 8) ∧ (1 ≤ V a 5 ∧ V a 5 ≤ 9) ∧ V a 8 ≤ 4 ∧ (0 ≤ V 57 p ∧ V 57 p < 1048576) ∧ (0 ≤ V 58 p ∧ V 58 p ≤ 1000 * i)) ∧
  (aSt (pO V) (pQ V) (pL V) p ∧ (0 ≤ V 60 p ∧ V 60 p ≤ 10000) ∧ (524288 ≤ V 57 p → V 60 p = 0)) ∧
  ((0 ≤ V 59 p ∧ V 59 p < 268435456) ∧ (∀ k, k < 49 → V (a + 1) k = if k < 28 ∧ iBt (V 59 p) k = true then 1 else 0) ∧ (∀ k, k < 28 → iBt (V 59 p) k = true → 3 ≤ k ∧ (k : Int) ≤ 4 * V a 0 - 3)) ∧ V a 6 = pMn (V 59 p) 30 0
def qPar (i : Nat) (T : Nat → Nat × Nat) (n : Nat) (V : Nat → Nat → Int) (R : Nat → Nat → Option Nat) (P : Nat) : Prop :=
  (P ≤ 10 ∧ V 0 3 = P ∧ V 63 1 = P) ∧ (∀ p, P ≤ p → p < 40 → R 2 p = none) ∧ ((∀ p, P ≤ p → p < 10 → V 58 p = 0 ∧ V 59 p = 0 ∧ V 60 p = 0) ∧ V 58 10 = 0) ∧
  (∀ p, p < P → R 2 p = some (xp R p) ∧ qPa1 i T n V R p (xp R p)) ∧ ∀ p p', p < P → p' < P → xp R p = xp R p' → p = p'
def qHor (i : Nat) (V : Nat → Nat → Int) : Prop :=
  (∀ h k, h < 2 → k < 7 → V (11 + 4 * h) k = V 61 (7 * h + k) ∧ V (12 + 4 * h) k = V 61 (42 + 7 * h + k)) ∧ (∀ s k, s < 2 → k < 7 → V (36 + 3 * s) k = V 61 (14 + 7 * s + k) ∧ V (37 + 3 * s) k = V 61 (28 + 7 * s + k)) ∧
  xBd V ∧ (∀ h k, 2 ≤ h → h < 6 → k < 7 → V (12 + 4 * h) k = 0) ∧
  (∀ h k, h < 2 → k < 7 → (∀ w, w < 6 → V (13 + 4 * h) ((k * 3 + 0) * 6 + w) = if w < 2 then V 62 (14 * h + 2 * k + w) else 0) ∧ V (13 + 4 * h) ((k * 3 + 1) * 6 + 2) = V 62 (14 * h + 2 * k) + V 62 (14 * h + 2 * k + 1) ∧ ∀ w, w < 2 → V (13 + 4 * h) ((k * 3 + 2) * 6 + (1 + w)) = V 62 (28 + 14 * h + 2 * k + w)) ∧
  (V 0 8 = V 63 2 ∧ 0 ≤ V 63 2 ∧ (V 63 2 = 0 ∨ V 63 2 + 14 ≤ i)) ∧ ((∀ k, k < 14 → 0 ≤ V 61 (42 + k) ∧ V 61 (42 + k) ≤ 2000000 * V 63 2) ∧ ∀ k, k < 56 → 0 ≤ V 62 k ∧ V 62 k ≤ 2000000 * V 63 2) ∧ (∀ h j, h < 6 → j < 126 → 0 ≤ V (13 + 4 * h) j ∧ V (13 + 4 * h) j ≤ 2000000 * V 63 2) ∧ ∀ k, k < 7 → -1000 ≤ V 55 k ∧ V 55 k ≤ 1000
def qInv (i : Nat) (T : Nat → Nat × Nat) (z : Nat × Nat) (V : Nat → Nat → Int) (R : Nat → Nat → Option Nat) : Prop :=
  qSta T R ∧ 64 ≤ z.1 ∧ (∃ H, qHid T z.1 V R H) ∧ (∃ P, qPar i T z.1 V R P) ∧ qHor i V
/-! frames -/
theorem qHi1_e {T T' : Nat → Nat × Nat} {n n' : Nat} {V V' : Nat → Nat → Int} {R R' : Nat → Nat → Option Nat} {h a : Nat} (hx : qHi1 T n V R h a) (hn : n ≤ n') (hT : T' a = T a ∧ T' (a + 1) = T (a + 1)) (hR : R' a = R a) (h56 : V' 56 h = V 56 h) (h58 : ∀ r, r < 8 → V' 56 (2 + 8 * h + r) = V 56 (2 + 8 * h + r)) (ha : V' a 0 = V a 0) (hg : ∀ k, k < 96 → V' (a + 1) k = V (a + 1) k) : qHi1 T' n' V' R' h a := by
  obtain ⟨h1, h2, h3, h4, h5, h6⟩ := hx
  unfold xHi at h1
  refine ⟨?_, h2, by omega, by rw [ha, h56]; exact h4, by rw [h56]; exact h5, fun k hk => ?_⟩
  · unfold xHi; rw [hT.1, hT.2, hR]; exact h1
  · rw [hg k hk, h58 (k / 12) (by omega)]; exact h6 k hk
theorem qHid_e {T T' : Nat → Nat × Nat} {n n' : Nat} {V V' : Nat → Nat → Int} {R R' : Nat → Nat → Option Nat} {H : Nat} (hx : qHid T n V R H) (hn : n ≤ n') (hT : ∀ b, 64 ≤ b → b < n → T' b = T b) (hR1 : R' 1 = R 1) (hR : ∀ b, 64 ≤ b → b < n → R' b = R b) (h0 : V' 0 1 = V 0 1) (h63 : V' 63 0 = V 63 0) (h56 : ∀ j, j < 18 → V' 56 j = V 56 j) (hc : ∀ b, 64 ≤ b → b < n → (T b = (1, 0) ∨ T b = (33, 96)) → V' b = V b) : qHid T' n' V' R' H := by
  obtain ⟨h1, h2, h3, h4, h5⟩ := hx
  have ex : ∀ h, xh R' h = xh R h := fun h => by unfold xh; rw [hR1]
  refine ⟨by rw [h0, h63]; exact h1, fun h a b => by rw [hR1]; exact h2 h a b, ⟨fun h a b r c => by rw [h56 _ (by omega)]; exact h3.1 h a b r c, fun j a b => by rw [h56 j b]; exact h3.2 j a b⟩, fun h a => ?_, fun h h' a b c => h5 h h' a b (by rw [ex, ex] at c; exact c)⟩
  obtain ⟨q1, q2⟩ := h4 h a
  have q2' := q2
  obtain ⟨⟨p1, p2, p3⟩, p4, p5, _⟩ := q2'
  rw [ex, hR1]
  exact ⟨q1, qHi1_e q2 hn ⟨hT _ p4 (by omega), hT _ (by omega) p5⟩ (hR _ p4 (by omega)) (h56 h (by omega)) (fun r hr => h56 _ (by omega)) (by rw [hc _ p4 (by omega) (Or.inl p1)]) (fun k _ => by rw [hc _ (by omega) p5 (Or.inr p3)])⟩
theorem pO_p {V V' : Nat → Nat → Int} {p : Nat} (h : V' 60 p = V 60 p) : pO V' p = pO V p ∧ pQ V' p = pQ V p ∧ pL V' p = pL V p := by
  unfold pO pQ pL
  rw [h]
  exact ⟨rfl, rfl, rfl⟩
theorem qPa1_e {i i' : Nat} {T T' : Nat → Nat × Nat} {n n' : Nat} {V V' : Nat → Nat → Int} {R R' : Nat → Nat → Option Nat} {p a : Nat} (hx : qPa1 i T n V R p a) (hi : i ≤ i') (hn : n ≤ n') (hT : T' a = T a ∧ T' (a + 1) = T (a + 1)) (hR : R' a = R a) (h57 : V' 57 p = V 57 p) (h58 : V' 58 p = V 58 p) (h59 : V' 59 p = V 59 p) (h60 : V' 60 p = V 60 p) (ha : ∀ j, j < 13 → V' a j = V a j) (hg : ∀ k, k < 49 → V' (a + 1) k = V (a + 1) k) : qPa1 i' T' n' V' R' p a := by
  obtain ⟨o1, o2, o3⟩ := pO_p h60
  unfold qPa1 xPa aSt at hx ⊢
  rw [hT.1, hT.2, hR, h57, h58, h59, h60, o1, o2, o3, ha 0 (by decide), ha 1 (by decide), ha 2 (by decide), ha 3 (by decide), ha 4 (by decide), ha 5 (by decide), ha 6 (by decide), ha 7 (by decide), ha 8 (by decide), ha 9 (by decide), ha 10 (by decide), ha 11 (by decide), ha 12 (by decide)]
  obtain ⟨⟨h1, h2, h3⟩, h4, h5, h6, ⟨h7, h8, h9, h10, h11, h12⟩, h13, ⟨h14, h15, h16⟩, h17⟩ := hx
  exact ⟨⟨h1, h2, by omega⟩, h4, h5, h6, ⟨h7, h8, h9, h10, h11, by omega⟩, h13, ⟨h14, fun k hk => by rw [hg k hk]; exact h15 k hk, h16⟩, h17⟩
theorem qPar_e {i i' : Nat} {T T' : Nat → Nat × Nat} {n n' : Nat} {V V' : Nat → Nat → Int} {R R' : Nat → Nat → Option Nat} {P : Nat} (hx : qPar i T n V R P) (hi : i ≤ i') (hn : n ≤ n') (hT : ∀ b, 64 ≤ b → b < n → T' b = T b) (hR2 : R' 2 = R 2) (hR : ∀ b, 64 ≤ b → b < n → R' b = R b) (h0 : V' 0 3 = V 0 3) (h63 : V' 63 1 = V 63 1) (hV : ∀ r q, 57 ≤ r → r < 61 → q < 10 → V' r q = V r q) (hd : V' 58 10 = V 58 10) (hc : ∀ b, 64 ≤ b → b < n → (T b = (2, 0) ∨ T b = (33, 49)) → V' b = V b) : qPar i' T' n' V' R' P := by
  obtain ⟨⟨h1, h1b, h1c⟩, h2, ⟨h3, h3b⟩, h4, h5⟩ := hx
  have ex : ∀ p, xp R' p = xp R p := fun h => by unfold xp; rw [hR2]
  refine ⟨⟨h1, by rw [h0]; exact h1b, by rw [h63]; exact h1c⟩, fun p a b => by rw [hR2]; exact h2 p a b, ⟨fun p a b => by rw [hV 58 p (by decide) (by decide) b, hV 59 p (by decide) (by decide) b, hV 60 p (by decide) (by decide) b]; exact h3 p a b, by rw [hd]; exact h3b⟩, fun p a => ?_, fun p p' a b c => h5 p p' a b (by rw [ex, ex] at c; exact c)⟩
  obtain ⟨q1, q2⟩ := h4 p a
  have q2' := q2
  obtain ⟨⟨⟨p1, p2, p3⟩, p4, p5⟩, _⟩ := q2'
  rw [ex, hR2]
  exact ⟨q1, qPa1_e q2 hi hn ⟨hT _ p4 (by omega), hT _ (by omega) p5⟩ (hR _ p4 (by omega)) (hV 57 p (by decide) (by decide) (by omega)) (hV 58 p (by decide) (by decide) (by omega)) (hV 59 p (by decide) (by decide) (by omega)) (hV 60 p (by decide) (by decide) (by omega)) (fun j _ => by rw [hc _ p4 (by omega) (Or.inl p1)]) (fun k _ => by rw [hc _ (by omega) p5 (Or.inr p3)])⟩
theorem qHor_e {i i' : Nat} {V V' : Nat → Nat → Int} (h : qHor i V) (hi : i ≤ i') (h0 : V' 0 8 = V 0 8) (h63 : V' 63 2 = V 63 2) (hV : ∀ b, 9 ≤ b → b < 54 → V' b = V b) (h61 : ∀ j, j < 56 → V' 61 j = V 61 j) (h62 : ∀ j, j < 56 → V' 62 j = V 62 j) (h55 : ∀ k, k < 7 → -1000 ≤ V' 55 k ∧ V' 55 k ≤ 1000) : qHor i' V' := by
  obtain ⟨a1, a2, a3, a4, a5, a6, ⟨a7, a8⟩, a9, a10⟩ := h
  refine ⟨fun h k hh hk => ?_, fun s k hs hk => ?_, ⟨fun h k hh hk => ?_, fun s k hs hk => ?_⟩, fun h k h2 hh hk => ?_, fun h k hh hk => ?_, ?_, ⟨fun k hk => ?_, fun k hk => ?_⟩, fun h j hh hj => ?_, h55⟩
  · rw [hV (11 + 4 * h) (by omega) (by omega), hV (12 + 4 * h) (by omega) (by omega), h61 _ (by omega), h61 _ (by omega)]; exact a1 h k hh hk
  · rw [hV (36 + 3 * s) (by omega) (by omega), hV (37 + 3 * s) (by omega) (by omega), h61 _ (by omega), h61 _ (by omega)]; exact a2 s k hs hk
  · rw [hV (11 + 4 * h) (by omega) (by omega)]; exact a3.1 h k hh hk
  · rw [hV (36 + 3 * s) (by omega) (by omega), hV (37 + 3 * s) (by omega) (by omega)]; exact a3.2 s k hs hk
  · rw [hV (12 + 4 * h) (by omega) (by omega)]; exact a4 h k h2 hh hk
  · rw [hV (13 + 4 * h) (by omega) (by omega), h62 _ (by omega), h62 _ (by omega)]
    obtain ⟨b1, b2, b3⟩ := a5 h k hh hk
    refine ⟨fun w hw => ?_, b2, fun w hw => by rw [h62 _ (by omega)]; exact b3 w hw⟩
    rw [b1 w hw]
    by_cases e : w < 2
    · rw [if_pos e, if_pos e, h62 _ (by omega)]
    · rw [if_neg e, if_neg e]
  · rw [h0, h63]
    exact ⟨a6.1, a6.2.1, by omega⟩
  · rw [h61 _ (by omega), h63]; exact a7 k hk
  · rw [h62 k hk, h63]; exact a8 k hk
  · rw [hV (13 + 4 * h) (by omega) (by omega), h63]; exact a9 h j hh hj
/-- what a call that changes nothing leaves: new cells, scratch rows, ways -/
def qKeep (z : Nat × Nat) (T : Nat → Nat × Nat) (V : Nat → Nat → Int) (R : Nat → Nat → Option Nat) (z' : Nat × Nat) (T' : Nat → Nat × Nat) (V' : Nat → Nat → Int) (R' : Nat → Nat → Option Nat) : Prop :=
  z.1 ≤ z'.1 ∧ (∀ b, b < z.1 → T' b = T b ∧ R' b = R b ∧ (¬ (3 ≤ b ∧ b ≤ 8) → ¬ b = 54 → ¬ b = 55 → ¬ T b = (32, 9) → V' b = V b)) ∧ ((∀ k, k < 7 → -1000 ≤ V 55 k ∧ V 55 k ≤ 1000) → ∀ k, k < 7 → -1000 ≤ V' 55 k ∧ V' 55 k ≤ 1000)
theorem qKeep_r {z : Nat × Nat} {T : Nat → Nat × Nat} {V : Nat → Nat → Int} {R : Nat → Nat → Option Nat} : qKeep z T V R z T V R := ⟨Nat.le_refl _, fun _ _ => ⟨rfl, rfl, fun _ _ _ _ => rfl⟩, fun h => h⟩
theorem qKeep_t {z z1 z2 : Nat × Nat} {T T1 T2 : Nat → Nat × Nat} {V V1 V2 : Nat → Nat → Int} {R R1 R2 : Nat → Nat → Option Nat} (h : qKeep z T V R z1 T1 V1 R1) (h' : qKeep z1 T1 V1 R1 z2 T2 V2 R2) : qKeep z T V R z2 T2 V2 R2 := by
  obtain ⟨a1, a2, a3⟩ := h
  obtain ⟨b1, b2, b3⟩ := h'
  refine ⟨by omega, fun b hb => ?_, fun q => b3 (a3 q)⟩
  obtain ⟨c1, c2, c3⟩ := a2 b hb
  obtain ⟨d1, d2, d3⟩ := b2 b (by omega)
  exact ⟨d1.trans c1, d2.trans c2, fun e1 e2 e3 e4 => (d3 e1 e2 e3 (by rw [c1]; exact e4)).trans (c3 e1 e2 e3 e4)⟩
theorem qSta_ne {T : Nat → Nat × Nat} {R : Nat → Nat → Option Nat} (h : qSta T R) {b : Nat} (hb : b < 64) (h5 : ¬ (3 ≤ b ∧ b ≤ 8)) : ¬ T b = (32, 9) := by
  obtain ⟨h1, h2, h3, h4, h5', h6⟩ := h
  intro q
  by_cases c1 : b < 3
  · rcases (show b = 0 ∨ b = 1 ∨ b = 2 by omega) with rfl | rfl | rfl
    · rw [h1.1] at q; exact absurd q (by decide)
    · rw [h1.2.2.2.2.2.2.2.1] at q; exact absurd q (by decide)
    · rw [h1.2.2.2.2.2.2.2.2.1] at q; exact absurd q (by decide)
  by_cases c2 : b = 9
  · subst c2; rw [h1.2.2.2.2.2.2.2.2.2.1] at q; exact absurd q (by decide)
  by_cases c3 : b < 34
  · obtain ⟨h, e⟩ : ∃ h, h < 6 ∧ (b = 10 + 4 * h ∨ b = 11 + 4 * h ∨ b = 12 + 4 * h ∨ b = 13 + 4 * h) := ⟨(b - 10) / 4, by omega, by omega⟩
    obtain ⟨_, t1, _, _, _, t2, t3, t4⟩ := h3 h e.1
    rcases e.2 with rfl | rfl | rfl | rfl
    · rw [t1] at q; exact absurd q (by decide)
    · rw [t2] at q; exact absurd q (by decide)
    · rw [t3] at q; exact absurd q (by decide)
    · rw [t4] at q; exact absurd q (by decide)
  by_cases c4 : b = 34
  · subst c4; rw [h1.2.2.2.2.2.2.2.2.2.2] at q; exact absurd q (by decide)
  by_cases c5 : b < 53
  · obtain ⟨s, e⟩ : ∃ s, s < 6 ∧ (b = 35 + 3 * s ∨ b = 36 + 3 * s ∨ b = 37 + 3 * s) := ⟨(b - 35) / 3, by omega, by omega⟩
    obtain ⟨_, t1, _, _, t2, t3⟩ := h4 s e.1
    rcases e.2 with rfl | rfl | rfl
    · rw [t1] at q; exact absurd q (by decide)
    · rw [t2] at q; exact absurd q (by decide)
    · rw [t3] at q; exact absurd q (by decide)
  by_cases c6 : b < 56
  · obtain ⟨t1, _, _, t2, t3⟩ := h5'
    rcases (show b = 53 ∨ b = 54 ∨ b = 55 by omega) with rfl | rfl | rfl
    · rw [t1] at q; exact absurd q (by decide)
    · rw [t2] at q; exact absurd q (by decide)
    · rw [t3] at q; exact absurd q (by decide)
  · rcases (show b = 56 ∨ b = 57 ∨ b = 58 ∨ b = 59 ∨ b = 60 ∨ b = 61 ∨ b = 62 ∨ b = 63 by omega) with rfl | rfl | rfl | rfl | rfl | rfl | rfl | rfl
    · rw [pA56 h6] at q; exact absurd q (by decide)
    · rw [pA57 h6] at q; exact absurd q (by decide)
    · rw [pA58 h6] at q; exact absurd q (by decide)
    · rw [pA59 h6] at q; exact absurd q (by decide)
    · rw [pA60 h6] at q; exact absurd q (by decide)
    · rw [pA61 h6] at q; exact absurd q (by decide)
    · rw [pA62 h6] at q; exact absurd q (by decide)
    · rw [pA63 h6] at q; exact absurd q (by decide)
theorem qInv_k {i i' : Nat} {T T' : Nat → Nat × Nat} {z z' : Nat × Nat} {V V' : Nat → Nat → Int} {R R' : Nat → Nat → Option Nat} (h : qInv i T z V R) (hi : i ≤ i') (hk : qKeep z T V R z' T' V' R') : qInv i' T' z' V' R' := by
  obtain ⟨h1, h2, ⟨H, h3⟩, ⟨P, h4⟩, h5⟩ := h
  obtain ⟨k1, k2, k3⟩ := hk
  have eT : ∀ b, b < z.1 → T' b = T b := fun b hb => (k2 b hb).1
  have eR : ∀ b, b < z.1 → R' b = R b := fun b hb => (k2 b hb).2.1
  have eV : ∀ b, b < 64 → ¬ (3 ≤ b ∧ b ≤ 8) → ¬ b = 54 → ¬ b = 55 → V' b = V b := fun b hb b1 b2 b3 => (k2 b (by omega)).2.2 b1 b2 b3 (qSta_ne h1 hb b1)
  have eC : ∀ b c, 64 ≤ b → b < z.1 → T b = c → ¬ c = (32, 9) → V' b = V b := fun b c hb hz hc hn => (k2 b hz).2.2 (by omega) (by omega) (by omega) (by rw [hc]; exact hn)
  refine ⟨qSta_e h1 (fun b hb => eT b (by omega)) (fun b hb _ _ => eR b (by omega)), by omega, ⟨H, qHid_e h3 k1 (fun b _ hb => eT b hb) (eR 1 (by omega)) (fun b _ hb => eR b hb) (by rw [eV 0 (by decide) (by decide) (by decide) (by decide)]) (by rw [eV 63 (by decide) (by decide) (by decide) (by decide)]) (fun j _ => by rw [eV 56 (by decide) (by decide) (by decide) (by decide)]) (fun b b1 b2 b3 => ?_)⟩, ⟨P, qPar_e h4 hi k1 (fun b _ hb => eT b hb) (eR 2 (by omega)) (fun b _ hb => eR b hb) (by rw [eV 0 (by decide) (by decide) (by decide) (by decide)]) (by rw [eV 63 (by decide) (by decide) (by decide) (by decide)]) (fun r q r1 r2 _ => by rw [eV r (by omega) (by omega) (by omega) (by omega)]) (by rw [eV 58 (by decide) (by decide) (by decide) (by decide)]) (fun b b1 b2 b3 => ?_)⟩, qHor_e h5 hi (by rw [eV 0 (by decide) (by decide) (by decide) (by decide)]) (by rw [eV 63 (by decide) (by decide) (by decide) (by decide)]) (fun b b1 b2 => eV b (by omega) (by omega) (by omega) (by omega)) (fun j _ => by rw [eV 61 (by decide) (by decide) (by decide) (by decide)]) (fun j _ => by rw [eV 62 (by decide) (by decide) (by decide) (by decide)]) (k3 h5.2.2.2.2.2.2.2.2)⟩
  · rcases b3 with q | q
    · exact eC b _ b1 b2 q (by decide)
    · exact eC b _ b1 b2 q (by decide)
  · rcases b3 with q | q
    · exact eC b _ b1 b2 q (by decide)
    · exact eC b _ b1 b2 q (by decide)
/-- scratch rows alone -/
theorem qKeep_s {z : Nat × Nat} {T : Nat → Nat × Nat} {V V' : Nat → Nat → Int} {R : Nat → Nat → Option Nat} (h : ∀ b, ¬ (3 ≤ b ∧ b ≤ 8) → ¬ b = 54 → V' b = V b) : qKeep z T V R z T V' R := ⟨Nat.le_refl _, fun b _ => ⟨rfl, rfl, fun h1 h2 _ _ => h b h1 h2⟩, fun q k hk => by rw [h 55 (by decide) (by decide)]; exact q k hk⟩
/-- behind a throw -/
theorem qKeep_x {e : Nat} {z : Nat × Nat} {T : Nat → Nat × Nat} {V V' : Nat → Nat → Int} {R : Nat → Nat → Option Nat} (hz : 64 ≤ z.1) (h : ∀ b, ¬ (3 ≤ b ∧ b ≤ 8) → ¬ b = 54 → V' b = V b) : qKeep z T V R (z.1 + 1, z.2 + 6) (va_up T z.1 (1 + e, 0)) (va_up V' z.1 (fun _ => 0)) (va_up R z.1 (fun _ => none)) :=
  ⟨by show z.1 ≤ z.1 + 1; omega, fun b hb => ⟨va_ne (by omega), va_ne (by omega), fun h1 h2 _ _ => by rw [va_ne (by omega)]; exact h b h1 h2⟩, fun q k hk => by rw [va_ne (by omega), h 55 (by decide) (by decide)]; exact q k hk⟩
/-- a new row for a way -/
theorem qKeep_w {z : Nat × Nat} {T : Nat → Nat × Nat} {V : Nat → Nat → Int} {R : Nat → Nat → Option Nat} (hz : 64 ≤ z.1) : qKeep z T V R (z.1 + 1, z.2 + 9) (va_up T z.1 (32, 9)) (va_up V z.1 (fun _ => 0)) (va_up R z.1 (fun _ => none)) :=
  ⟨by show z.1 ≤ z.1 + 1; omega, fun b hb => ⟨va_ne (by omega), va_ne (by omega), fun _ _ _ _ => va_ne (by omega)⟩, fun q k hk => by rw [va_ne (by omega)]; exact q k hk⟩
/-- behind finds -/
theorem qKeep_f {wy : Nat} {z : Nat × Nat} {T T' : Nat → Nat × Nat} {V V' : Nat → Nat → Int} {J J' : Nat → Nat → Int64} {R R' : Nat → Nat → Option Nat} (hz : 64 ≤ z.1) (hT : T wy = (32, 9)) (hw : 64 ≤ wy) (h : pEx z.1 wy T V J R T' V' J' R') : qKeep z T V R (z.1 + 3, z.2 + 9 + 9 + 9) T' V' R' :=
  ⟨by show z.1 ≤ z.1 + 3; omega, fun b hb => ⟨(h b hb).1, (h b hb).2.1, fun _ _ _ h4 => (h b hb).2.2.2 (fun e => h4 (by rw [e]; exact hT))⟩, fun q k hk => by rw [(h 55 (by omega)).2.2.2 (by omega)]; exact q k hk⟩
