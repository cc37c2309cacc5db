/-! the property's law: the way, found by trying all (a stack of rings), is the way by distances -/
theorem pigeon : ∀ (n : Nat) (g : Nat → Nat), (∀ i, i ≤ n → g i < n) → ∃ i j, i < j ∧ j ≤ n ∧ g i = g j := by
  intro n
  induction n with
  | zero => intro g h; exact absurd (h 0 (Nat.le_refl _)) (Nat.not_lt_zero _)
  | succ n ih =>
    intro g h
    by_cases c : ∃ i, i ≤ n ∧ g i = g (n + 1)
    · obtain ⟨i, h1, h2⟩ := c
      exact ⟨i, n + 1, by omega, Nat.le_refl _, h2⟩
    · have hno : ∀ i, i ≤ n → ¬ g i = g (n + 1) := fun i hi q => c ⟨i, hi, q⟩
      obtain ⟨i, j, h1, h2, h3⟩ := ih (fun i => if g i = n then g (n + 1) else g i) (fun i hi => by
        have a := h i (by omega)
        have b := h (n + 1) (Nat.le_refl _)
        have e := hno i hi
        show (if g i = n then g (n + 1) else g i) < n
        split <;> omega)
      have h3 : (if g i = n then g (n + 1) else g i) = (if g j = n then g (n + 1) else g j) := h3
      have ei := hno i (by omega)
      have ej := hno j (by omega)
      refine ⟨i, j, h1, by omega, ?_⟩
      by_cases c1 : g i = n
      · by_cases c2 : g j = n
        · omega
        · rw [if_pos c1, if_neg c2] at h3; omega
      · by_cases c2 : g j = n
        · rw [if_neg c1, if_pos c2] at h3; omega
        · rw [if_neg c1, if_neg c2] at h3; exact h3
/-- what a row of rings costs -/
def pCs (c : Nat → Nat → Int) (ρ : Nat → Nat) : Nat → Int
  | 0 => 0
  | i + 1 => pCs c ρ i + c (ρ i) (ρ (i + 1))
theorem pCs_e {c : Nat → Nat → Int} {ρ ρ' : Nat → Nat} : ∀ i, (∀ j, j ≤ i → ρ j = ρ' j) → pCs c ρ i = pCs c ρ' i := by
  intro i
  induction i with
  | zero => intro _; rfl
  | succ i ih => intro h; rw [pCs, pCs, ih (fun j hj => h j (by omega)), h i (by omega), h (i + 1) (Nat.le_refl _)]
/-- how much is left to try -/
def pMu (nx : Nat → Int) : Nat → Nat
  | 0 => (9 - nx 0).toNat * 10 ^ 9
  | i + 1 => pMu nx i + (9 - nx (i + 1)).toNat * 10 ^ (8 - i)
theorem pMu_e {nx nx' : Nat → Int} : ∀ i, (∀ j, j ≤ i → nx j = nx' j) → pMu nx i = pMu nx' i := by
  intro i
  induction i with
  | zero => intro h; rw [pMu, pMu, h 0 (Nat.le_refl _)]
  | succ i ih => intro h; rw [pMu, pMu, ih (fun j hj => h j (by omega)), h (i + 1) (Nat.le_refl _)]
theorem pMu_up {nx nx' : Nat → Int} {i : Nat} (h : ∀ j, j < i → nx' j = nx j) (h1 : nx' i = nx i + 1) (h2 : nx i ≤ 8) : pMu nx' i + 10 ^ (9 - i) = pMu nx i := by
  have key : ∀ P : Nat, (9 - nx' i).toNat * P + P = (9 - nx i).toNat * P := by
    intro P
    rw [show (9 - nx i).toNat = (9 - nx' i).toNat + 1 by omega, Nat.add_mul, Nat.one_mul]
  cases i with
  | zero =>
    rw [pMu, pMu]
    exact key _
  | succ i =>
    rw [pMu, pMu, pMu_e i (fun j hj => h j (by omega)), Nat.add_assoc, show 9 - (i + 1) = 8 - i by omega, key]
theorem pMu_pop {nx : Nat → Int} {i : Nat} (h : nx (i + 1) ≤ 8) : pMu nx i < pMu nx (i + 1) := by
  rw [pMu]
  have h1 : 1 ≤ 10 ^ (8 - i) := Nat.pow_pos (show 0 < 10 by decide)
  have h2 := Nat.mul_le_mul (show 1 ≤ (9 - nx (i + 1)).toNat by omega) h1
  omega
theorem pMu_pos {nx : Nat → Int} (h : nx 0 ≤ 8) : ∀ i, 1 ≤ pMu nx i := by
  intro i
  induction i with
  | zero =>
    rw [pMu]
    have h2 := Nat.mul_le_mul (show 1 ≤ (9 - nx 0).toNat by omega) (show 1 ≤ 10 ^ 9 by decide)
    omega
  | succ i ih => rw [pMu]; omega
section PW
variable {c : Nat → Nat → Int} {t f : Nat} {F : Nat → Int}
theorem aNx_min {x : Nat} : ∀ (m k n : Nat), aNx c F x m k = (n : Int) → ∀ q, k ≤ q → q < n → ¬ (0 < c x q ∧ c x q + F q = F x) := by
  intro m
  induction m with
  | zero => intro k n h; rw [aNx] at h; omega
  | succ m ih =>
    intro k n h q h1 h2
    rw [aNx] at h
    by_cases e : 0 < c x k ∧ c x k + F k = F x
    · rw [if_pos e] at h; omega
    · rw [if_neg e] at h
      by_cases e2 : q = k
      · subst e2; exact e
      · exact ih (k + 1) n h q (by omega) h2
/-- a row of rings, each joined to the next -/
def pRw (c : Nat → Nat → Int) (f : Nat) (ρ : Nat → Nat) (dp : Nat) : Prop := ρ 0 = f ∧ (∀ i, i ≤ dp → ρ i < 8) ∧ (∀ i j, i ≤ dp → j ≤ dp → ρ i = ρ j → i = j) ∧ ∀ i, i < dp → 0 < c (ρ i) (ρ (i + 1))
theorem pRw_pop {ρ : Nat → Nat} {dp : Nat} (h : pRw c f ρ (dp + 1)) : pRw c f ρ dp := ⟨h.1, fun i hi => h.2.1 i (by omega), fun i j hi hj => h.2.2.1 i j (by omega) (by omega), fun i hi => h.2.2.2 i (by omega)⟩
theorem pRw_7 {ρ : Nat → Nat} {dp : Nat} (h : pRw c f ρ dp) : dp ≤ 7 := by
  refine Nat.not_lt.mp fun q => ?_
  obtain ⟨i, j, h1, h2, h3⟩ := pigeon 8 ρ (fun i hi => h.2.1 i (by omega))
  have := h.2.2.1 i j (by omega) (by omega) h3
  omega
theorem pRw_le (hF : aB 1000000 c t F) {ρ : Nat → Nat} {dp : Nat} (h : pRw c f ρ dp) : ∀ m i, i + m ≤ dp → pCs c ρ i + F (ρ i) ≤ pCs c ρ (i + m) + F (ρ (i + m)) := by
  intro m
  induction m with
  | zero => intro i _; exact Int.le_refl _
  | succ m ih =>
    intro i hi
    have h1 := ih i (by omega)
    have h2 := hF.2.2.1 (ρ (i + m)) (ρ (i + m + 1)) (h.2.1 _ (by omega)) (h.2.1 _ (by omega)) (h.2.2.2 _ (by omega))
    rw [show i + (m + 1) = i + m + 1 by omega, pCs]
    omega
theorem pRw_hi (hc : ∀ r q, r < 8 → q < 8 → c r q ≤ 1601) {ρ : Nat → Nat} {dp : Nat} (h : pRw c f ρ dp) : ∀ i, i ≤ dp → (i : Int) ≤ pCs c ρ i ∧ pCs c ρ i ≤ 1601 * i := by
  intro i
  induction i with
  | zero => intro _; rw [pCs]; omega
  | succ i ih =>
    intro hi
    have h1 := ih (by omega)
    have h2 := hc (ρ i) (ρ (i + 1)) (h.2.1 _ (by omega)) (h.2.1 _ hi)
    have h3 := h.2.2.2 i (by omega)
    rw [pCs]
    omega
/-- along the way -/
theorem pG (hF : aB 1000000 c t F) (ht : t < 8) (hf : f < 8) (hN : F f < 1000000) : (∀ k, k ≤ aLen c F t 7 f → aAt c F f k < 8 ∧ F (aAt c F f k) < 1000000 ∧ pCs c (aAt c F f) k + F (aAt c F f k) = F f) ∧ aAt c F f (aLen c F t 7 f) = t ∧ aLen c F t 7 f ≤ 7 ∧
    ∀ k, k < aLen c F t 7 f → ¬ aAt c F f k = t ∧ 0 < c (aAt c F f k) (aAt c F f (k + 1)) ∧ F (aAt c F f (k + 1)) < F (aAt c F f k) ∧ ∀ q, q < 8 → q < aAt c F f (k + 1) → ¬ (0 < c (aAt c F f k) q ∧ c (aAt c F f k) q + F q = F (aAt c F f k)) := by
  obtain ⟨l1, l2, l3, l4⟩ := aLen_ok (by decide) ht hF 7 f hf hN (aK_7 hf)
  have step : ∀ k, k < aLen c F t 7 f → ¬ aAt c F f k = t ∧ 0 < c (aAt c F f k) (aAt c F f (k + 1)) ∧ F (aAt c F f k) = c (aAt c F f k) (aAt c F f (k + 1)) + F (aAt c F f (k + 1)) ∧ ∀ q, q < 8 → q < aAt c F f (k + 1) → ¬ (0 < c (aAt c F f k) q ∧ c (aAt c F f k) q + F q = F (aAt c F f k)) := by
    intro k hk
    obtain ⟨a1, a2⟩ := l4 k (by omega)
    obtain ⟨g1, g2, g3, g4⟩ := aGo_ok hF a1 (l3 k hk) a2
    refine ⟨l3 k hk, g3, g4, fun q hq hlt => ?_⟩
    exact aNx_min 8 0 _ g1 q (Nat.zero_le _) hlt
  refine ⟨fun k => ?_, l2, l1, fun k hk => ?_⟩
  · induction k with
    | zero => intro _; refine ⟨hf, hN, ?_⟩; rw [pCs, Int.zero_add]; rfl
    | succ k ih =>
      intro hk
      obtain ⟨i1, i2, i3⟩ := ih (by omega)
      obtain ⟨s1, s2, s3, s4⟩ := step k (by omega)
      obtain ⟨a1, a2⟩ := l4 (k + 1) hk
      refine ⟨a1, a2, ?_⟩
      rw [pCs]; omega
  · obtain ⟨s1, s2, s3, s4⟩ := step k hk
    exact ⟨s1, s2, by omega, s4⟩
theorem pG_inj (hF : aB 1000000 c t F) (ht : t < 8) (hf : f < 8) (hN : F f < 1000000) : ∀ j, j ≤ aLen c F t 7 f → ∀ i, i < j → F (aAt c F f j) < F (aAt c F f i) := by
  obtain ⟨_, _, _, h4⟩ := pG hF ht hf hN
  intro j
  induction j with
  | zero => intro _ i hi; omega
  | succ j ih =>
    intro hj i hi
    have h := (h4 j (by omega)).2.2.1
    by_cases e : i = j
    · subst e; exact h
    · have := ih (by omega) i (by omega); omega
/-- where the search stands: the way is had; or it lies ahead; or there is none -/
def pWs (F : Nat → Int) (c : Nat → Nat → Int) (t f : Nat) (ρ : Nat → Nat) (nx : Nat → Int) (dp : Nat) (best : Int) (w : Nat → Int) : Prop :=
  (F f < 1000000 ∧ best = F f ∧ ∀ k, k ≤ 8 → w k = if k ≤ aLen c F t 7 f then (aAt c F f k : Int) else -1) ∨
  (F f < 1000000 ∧ (best < 0 ∨ F f < best) ∧ ∃ m, m ≤ dp ∧ m ≤ aLen c F t 7 f ∧ (∀ i, i ≤ m → ρ i = aAt c F f i) ∧ (m < aLen c F t 7 f → nx m ≤ aAt c F f (m + 1)) ∧ (m = aLen c F t 7 f → m = dp) ∧ (m < dp → ρ (m + 1) < aAt c F f (m + 1))) ∨
  (¬ F f < 1000000 ∧ best = -1 ∧ ∀ k, k ≤ 8 → w k = -1)
/-- the same, and the way doesn't lie right ahead of the stack's end -/
def pWt (F : Nat → Int) (c : Nat → Nat → Int) (t f : Nat) (ρ : Nat → Nat) (nx : Nat → Int) (dp : Nat) (best : Int) (w : Nat → Int) : Prop :=
  (F f < 1000000 ∧ best = F f ∧ ∀ k, k ≤ 8 → w k = if k ≤ aLen c F t 7 f then (aAt c F f k : Int) else -1) ∨
  (F f < 1000000 ∧ (best < 0 ∨ F f < best) ∧ ∃ m, m < dp ∧ m < aLen c F t 7 f ∧ (∀ i, i ≤ m → ρ i = aAt c F f i) ∧ nx m ≤ aAt c F f (m + 1) ∧ ρ (m + 1) < aAt c F f (m + 1)) ∨
  (¬ F f < 1000000 ∧ best = -1 ∧ ∀ k, k ≤ 8 → w k = -1)
theorem pWt_pop {ρ : Nat → Nat} {nx : Nat → Int} {dp : Nat} {best : Int} {w : Nat → Int} (h : pWt F c t f ρ nx (dp + 1) best w) : pWs F c t f ρ nx dp best w := by
  rcases h with h | ⟨h1, h2, m, m1, m2, m3, m4, m5⟩ | h
  · exact Or.inl h
  · exact Or.inr (Or.inl ⟨h1, h2, m, by omega, by omega, m3, fun _ => m4, fun q => by omega, fun _ => m5⟩)
  · exact Or.inr (Or.inr h)
/-- behind a ring that is the goal -/
theorem pWs_goal (hF : aB 1000000 c t F) (hc : ∀ r q, r < 8 → q < 8 → c r q ≤ 1601) (ht : t < 8) (hf : f < 8) {ρ : Nat → Nat} {nx : Nat → Int} {dp : Nat} {best : Int} {w w' : Nat → Int} (hR : pRw c f ρ dp) (hg : ρ dp = t) (hb : -1 ≤ best) (h : pWs F c t f ρ nx dp best w) :
    (best < 0 ∨ pCs c ρ dp < best → (∀ k, k ≤ 8 → w' k = if k ≤ dp then (ρ k : Int) else -1) → pWt F c t f ρ nx dp (pCs c ρ dp) w') ∧ (¬ (best < 0 ∨ pCs c ρ dp < best) → pWt F c t f ρ nx dp best w) := by
  have hle := pRw_le hF hR dp 0 (by omega)
  rw [Nat.zero_add, hg, hF.1, hR.1, pCs] at hle
  have hhi := pRw_hi hc hR dp (Nat.le_refl _)
  have h7 := pRw_7 hR
  rcases h with ⟨h1, h2, h3⟩ | ⟨h1, h2, m, m1, m2, m3, m4, m5, m6⟩ | ⟨h1, h2, h3⟩
  · refine ⟨fun q => ?_, fun _ => Or.inl ⟨h1, h2, h3⟩⟩
    have := hF.2.1 f hf
    omega
  · obtain ⟨g1, g2, g3, g4⟩ := pG hF ht hf h1
    by_cases e : m = dp
    · subst e
      have eM : m = aLen c F t 7 f := by
        refine Classical.byContradiction fun q => ?_
        have := (g4 m (by omega)).1
        rw [← m3 m (Nat.le_refl _)] at this
        exact this hg
      have ec : pCs c ρ m = F f := by
        rw [pCs_e m m3]
        have := (g1 m m2).2.2
        rw [show aAt c F f m = t by rw [← m3 m (Nat.le_refl _)]; exact hg, hF.1] at this
        omega
      refine ⟨fun _ hw => Or.inl ⟨h1, ec, fun k hk => ?_⟩, fun q => ?_⟩
      · rw [hw k hk, ← eM]
        by_cases e : k ≤ m
        · rw [if_pos e, if_pos e, m3 k e]
        · rw [if_neg e, if_neg e]
      · exact absurd (by omega) q
    · have mlt : m < dp := by omega
      have mM : m < aLen c F t 7 f := by
        by_cases e2 : m = aLen c F t 7 f
        · exact absurd (m5 e2) e
        · omega
      have hst := hR.2.2.2 m mlt
      have hr1 := hR.2.1 (m + 1) (by omega)
      have hno := (g4 m mM).2.2.2 (ρ (m + 1)) hr1 (m6 mlt)
      rw [← m3 m (Nat.le_refl _)] at hno
      have hfe := hF.2.2.1 (ρ m) (ρ (m + 1)) (hR.2.1 m m1) hr1 hst
      have hgt : F (ρ m) < c (ρ m) (ρ (m + 1)) + F (ρ (m + 1)) := by
        have : ¬ c (ρ m) (ρ (m + 1)) + F (ρ (m + 1)) = F (ρ m) := fun q => hno ⟨hst, q⟩
        omega
      have hl2 := pRw_le hF hR (dp - (m + 1)) (m + 1) (by omega)
      rw [show m + 1 + (dp - (m + 1)) = dp by omega, hg, hF.1, pCs] at hl2
      have hm := (g1 m m2).2.2
      rw [← pCs_e m m3, ← m3 m (Nat.le_refl _)] at hm
      have hx : F f < pCs c ρ dp := by omega
      refine ⟨fun _ _ => Or.inr (Or.inl ⟨h1, Or.inr hx, m, mlt, mM, m3, m4 mM, m6 mlt⟩), fun q => Or.inr (Or.inl ⟨h1, ?_, m, mlt, mM, m3, m4 mM, m6 mlt⟩)⟩
      omega
  · omega
/-- where nothing is left to try, or no way through here can be better -/
theorem pWs_stop (hF : aB 1000000 c t F) (ht : t < 8) (hf : f < 8) {ρ : Nat → Nat} {nx : Nat → Int} {dp : Nat} {best : Int} {w : Nat → Int} (hR : pRw c f ρ dp) (hg : ¬ ρ dp = t) (hs : nx dp = 8 ∨ (0 ≤ best ∧ best ≤ pCs c ρ dp)) (h : pWs F c t f ρ nx dp best w) : pWt F c t f ρ nx dp best w := by
  rcases h with h | ⟨h1, h2, m, m1, m2, m3, m4, m5, m6⟩ | h
  · exact Or.inl h
  · obtain ⟨g1, g2, g3, g4⟩ := pG hF ht hf h1
    have mM : m < aLen c F t 7 f := by
      refine Classical.byContradiction fun q => hg ?_
      have e : m = aLen c F t 7 f := by omega
      rw [← m5 e, m3 m (Nat.le_refl _), e]; exact g2
    refine Or.inr (Or.inl ⟨h1, h2, m, ?_, mM, m3, m4 mM, ?_⟩)
    · refine Classical.byContradiction fun q => ?_
      have e : m = dp := by omega
      subst e
      rcases hs with hs | hs
      · have a := m4 mM
        have b := (g1 (m + 1) mM).1
        omega
      · have := (g1 m m2).2.2
        have h8 := hF.2.1 (aAt c F f m) (g1 m m2).1
        rw [← pCs_e m m3] at this
        omega
    · refine m6 (Classical.byContradiction fun q => ?_)
      have e : m = dp := by omega
      subst e
      rcases hs with hs | hs
      · have a := m4 mM
        have b := (g1 (m + 1) mM).1
        omega
      · have := (g1 m m2).2.2
        have h8 := hF.2.1 (aAt c F f m) (g1 m m2).1
        rw [← pCs_e m m3] at this
        omega
  · exact Or.inr (Or.inr h)
/-- a ring is tried that can't be the next -/
theorem pWs_skip (hF : aB 1000000 c t F) (ht : t < 8) (hf : f < 8) {ρ : Nat → Nat} {nx nx' : Nat → Int} {dp q : Nat} {best : Int} {w : Nat → Int} (hR : pRw c f ρ dp) (hg : ¬ ρ dp = t) (hq : nx dp = q) (hn : ∀ i, i < dp → nx' i = nx i) (hn2 : nx' dp = q + 1) (hno : ¬ (0 < c (ρ dp) q ∧ ∀ i, i ≤ dp → ¬ ρ i = q)) (h : pWs F c t f ρ nx dp best w) : pWs F c t f ρ nx' dp best w := by
  rcases h with h | ⟨h1, h2, m, m1, m2, m3, m4, m5, m6⟩ | h
  · exact Or.inl h
  · obtain ⟨g1, g2, g3, g4⟩ := pG hF ht hf h1
    refine Or.inr (Or.inl ⟨h1, h2, m, m1, m2, m3, fun mM => ?_, m5, m6⟩)
    by_cases e : m = dp
    · subst e
      have a := m4 mM
      rw [hn2]
      have hne : ¬ q = aAt c F f (m + 1) := by
        intro z
        refine hno ⟨?_, fun i hi => ?_⟩
        · rw [m3 m (Nat.le_refl _), z]; exact (g4 m mM).2.1
        · rw [m3 i hi, z]
          intro y
          have := pG_inj hF ht hf h1 (m + 1) mM i (by omega)
          rw [y] at this; omega
      omega
    · rw [hn m (by omega)]; exact m4 mM
  · exact Or.inr (Or.inr h)
/-- a ring is put on the stack -/
theorem pWs_push (hF : aB 1000000 c t F) (ht : t < 8) (hf : f < 8) {ρ ρ' : Nat → Nat} {nx nx' : Nat → Int} {dp q : Nat} {best : Int} {w : Nat → Int} (hR : pRw c f ρ dp) (hg : ¬ ρ dp = t) (hq : nx dp = q) (hn : ∀ i, i < dp → nx' i = nx i) (hn2 : nx' dp = q + 1) (hn3 : nx' (dp + 1) = 0) (hr : ∀ i, i ≤ dp → ρ' i = ρ i) (hr2 : ρ' (dp + 1) = q) (h : pWs F c t f ρ nx dp best w) : pWs F c t f ρ' nx' (dp + 1) best w := by
  rcases h with h | ⟨h1, h2, m, m1, m2, m3, m4, m5, m6⟩ | h
  · exact Or.inl h
  · obtain ⟨g1, g2, g3, g4⟩ := pG hF ht hf h1
    have mM : m < aLen c F t 7 f := by
      refine Classical.byContradiction fun q => hg ?_
      have e : m = aLen c F t 7 f := by omega
      rw [← m5 e, m3 m (Nat.le_refl _), e]; exact g2
    have a := m4 mM
    by_cases e : m = dp
    · subst e
      by_cases z : q = aAt c F f (m + 1)
      · refine Or.inr (Or.inl ⟨h1, h2, m + 1, Nat.le_refl _, by omega, fun i hi => ?_, fun _ => by rw [hn3]; omega, fun _ => rfl, fun y => by omega⟩)
        by_cases ei : i = m + 1
        · subst ei; rw [hr2, z]
        · rw [hr i (by omega), m3 i (by omega)]
      · refine Or.inr (Or.inl ⟨h1, h2, m, by omega, m2, fun i hi => by rw [hr i hi, m3 i hi], fun _ => by rw [hn2]; omega, fun y => by omega, fun _ => by rw [hr2]; omega⟩)
    · refine Or.inr (Or.inl ⟨h1, h2, m, by omega, m2, fun i hi => by rw [hr i (by omega), m3 i hi], fun _ => by rw [hn m (by omega)]; exact a, fun y => by omega, fun _ => by rw [hr (m + 1) (by omega)]; exact m6 (by omega)⟩)
  · exact Or.inr (Or.inr h)
end PW
