/-! ways: the distances to a goal, and the path; a cost of 0 or less is none, N stands for no way -/
def aB (N : Int) (c : Nat → Nat → Int) (t : Nat) (F : Nat → Int) : Prop :=
  F t = 0 ∧ (∀ r, r < 8 → 0 ≤ F r ∧ F r ≤ N) ∧ (∀ r q, r < 8 → q < 8 → 0 < c r q → F r ≤ c r q + F q) ∧ (∀ r, r < 8 → ¬ r = t → F r < N → ∃ q, q < 8 ∧ 0 < c r q ∧ F r = c r q + F q)
def aSum (D : Nat → Int) : Int := D 0 + D 1 + D 2 + D 3 + D 4 + D 5 + D 6 + D 7
theorem aSum_up {D : Nat → Int} {r : Nat} {v : Int} (hr : r < 8) : aSum (va_up D r v) = aSum D - D r + v := by
  unfold aSum va_up
  rcases (show r = 0 ∨ r = 1 ∨ r = 2 ∨ r = 3 ∨ r = 4 ∨ r = 5 ∨ r = 6 ∨ r = 7 by omega) with rfl | rfl | rfl | rfl | rfl | rfl | rfl | rfl <;> simp <;> omega
theorem aSum_le {D : Nat → Int} {r : Nat} (hr : r < 8) (hD : ∀ r, r < 8 → 0 ≤ D r) : D r ≤ aSum D := by
  have h0 := hD 0 (by decide)
  have h1 := hD 1 (by decide)
  have h2 := hD 2 (by decide)
  have h3 := hD 3 (by decide)
  have h4 := hD 4 (by decide)
  have h5 := hD 5 (by decide)
  have h6 := hD 6 (by decide)
  have h7 := hD 7 (by decide)
  unfold aSum
  rcases (show r = 0 ∨ r = 1 ∨ r = 2 ∨ r = 3 ∨ r = 4 ∨ r = 5 ∨ r = 6 ∨ r = 7 by omega) with rfl | rfl | rfl | rfl | rfl | rfl | rfl | rfl <;> omega
theorem aB_ex {N : Int} {c : Nat → Nat → Int} {t : Nat} : ∀ (m : Nat) (D : Nat → Int), (aSum D).toNat ≤ m → D t = 0 → (∀ r, r < 8 → 0 ≤ D r ∧ D r ≤ N) →
    (∀ r, r < 8 → ¬ r = t → D r < N → ∃ q, q < 8 ∧ 0 < c r q ∧ c r q + D q ≤ D r) → ∃ F, aB N c t F := by
  intro m
  induction m with
  | zero =>
    intro D hm h0 hD ht
    by_cases h : ∀ r q, r < 8 → q < 8 → 0 < c r q → D r ≤ c r q + D q
    · refine ⟨D, h0, hD, h, fun r hr hrt hN => ?_⟩
      obtain ⟨q, q1, q2, q3⟩ := ht r hr hrt hN
      have := h r q hr q1 q2
      exact ⟨q, q1, q2, by omega⟩
    · exfalso
      refine h fun r q hr hq hc => ?_
      have := aSum_le hr (fun r hr => (hD r hr).1)
      have := hD r hr
      have := hD q hq
      omega
  | succ m ih =>
    intro D hm h0 hD ht
    by_cases h : ∀ r q, r < 8 → q < 8 → 0 < c r q → D r ≤ c r q + D q
    · refine ⟨D, h0, hD, h, fun r hr hrt hN => ?_⟩
      obtain ⟨q, q1, q2, q3⟩ := ht r hr hrt hN
      have := h r q hr q1 q2
      exact ⟨q, q1, q2, by omega⟩
    · have hex : ∃ r q, r < 8 ∧ q < 8 ∧ 0 < c r q ∧ c r q + D q < D r :=
        Classical.byContradiction (fun hn => h (fun r q hr hq hc => Int.not_lt.mp (fun hl => hn ⟨r, q, hr, hq, hc, hl⟩)))
      obtain ⟨r, q, hr, hq, hc, hl⟩ := hex
      have d1 := hD r hr
      have d2 := hD q hq
      have hrt : ¬ r = t := by intro e; subst e; omega
      have hqr : ¬ q = r := by intro e; rw [e] at hl hc; omega
      refine ih (va_up D r (c r q + D q)) ?_ ?_ ?_ ?_
      · have := aSum_up (D := D) (v := c r q + D q) hr
        have := aSum_le hr (fun r hr => (hD r hr).1)
        omega
      · rw [va_ne (fun e => hrt e.symm), h0]
      · intro x hx
        by_cases e : x = r
        · subst e; rw [va_same]; omega
        · rw [va_ne e]; exact hD x hx
      · intro x hx hxt hxN
        by_cases e : x = r
        · subst e
          exact ⟨q, hq, hc, by rw [va_same, va_ne hqr]; omega⟩
        · rw [va_ne e] at hxN
          obtain ⟨y, y1, y2, y3⟩ := ht x hx hxt hxN
          refine ⟨y, y1, y2, ?_⟩
          rw [va_ne e]
          by_cases e2 : y = r
          · subst e2; rw [va_same]; omega
          · rw [va_ne e2]; exact y3
/-- how many rings are nearer -/
def aU1 (F : Nat → Int) (x : Int) (i : Nat) : Nat := if F i < x then 1 else 0
theorem aU1_b {F : Nat → Int} {x : Int} {i : Nat} : aU1 F x i ≤ 1 := by unfold aU1; split <;> omega
theorem aU1_m {F : Nat → Int} {x y : Int} (h : x ≤ y) (i : Nat) : aU1 F x i ≤ aU1 F y i := by unfold aU1; split <;> split <;> omega
theorem aU1_0 {F : Nat → Int} {x : Int} {i : Nat} (h : ¬ F i < x) : aU1 F x i = 0 := if_neg h
theorem aU1_1 {F : Nat → Int} {x : Int} {i : Nat} (h : F i < x) : aU1 F x i = 1 := if_pos h
def aK (F : Nat → Int) (r : Nat) : Nat := aU1 F (F r) 0 + aU1 F (F r) 1 + aU1 F (F r) 2 + aU1 F (F r) 3 + aU1 F (F r) 4 + aU1 F (F r) 5 + aU1 F (F r) 6 + aU1 F (F r) 7
theorem aK_lt {F : Nat → Int} {q r : Nat} (hq : q < 8) (h : F q < F r) : aK F q < aK F r := by
  have hm := aU1_m (F := F) (x := F q) (y := F r) (by omega)
  have h0 := hm 0
  have h1 := hm 1
  have h2 := hm 2
  have h3 := hm 3
  have h4 := hm 4
  have h5 := hm 5
  have h6 := hm 6
  have h7 := hm 7
  have e0 := aU1_0 (F := F) (x := F q) (i := q) (by omega)
  have e1 := aU1_1 (F := F) (x := F r) (i := q) h
  unfold aK
  rcases (show q = 0 ∨ q = 1 ∨ q = 2 ∨ q = 3 ∨ q = 4 ∨ q = 5 ∨ q = 6 ∨ q = 7 by omega) with rfl | rfl | rfl | rfl | rfl | rfl | rfl | rfl <;> omega
theorem aK_7 {F : Nat → Int} {r : Nat} (hr : r < 8) : aK F r ≤ 7 := by
  have h0 := aU1_b (F := F) (x := F r) (i := 0)
  have h1 := aU1_b (F := F) (x := F r) (i := 1)
  have h2 := aU1_b (F := F) (x := F r) (i := 2)
  have h3 := aU1_b (F := F) (x := F r) (i := 3)
  have h4 := aU1_b (F := F) (x := F r) (i := 4)
  have h5 := aU1_b (F := F) (x := F r) (i := 5)
  have h6 := aU1_b (F := F) (x := F r) (i := 6)
  have h7 := aU1_b (F := F) (x := F r) (i := 7)
  have e0 := aU1_0 (F := F) (x := F r) (i := r) (by omega)
  unfold aK
  rcases (show r = 0 ∨ r = 1 ∨ r = 2 ∨ r = 3 ∨ r = 4 ∨ r = 5 ∨ r = 6 ∨ r = 7 by omega) with rfl | rfl | rfl | rfl | rfl | rfl | rfl | rfl <;> omega
section WAYS
variable {N : Int} {c : Nat → Nat → Int} {t : Nat} {F : Nat → Int}
theorem aB_pos (hN : 0 < N) (h : aB N c t F) {r : Nat} (hr : r < 8) (hrt : ¬ r = t) : 0 < F r := by
  by_cases c1 : F r < N
  · obtain ⟨q, q1, q2, q3⟩ := h.2.2.2 r hr hrt c1
    have := h.2.1 q q1
    omega
  · omega
theorem aK_0 (hN : 0 < N) (ht : t < 8) (h : aB N c t F) {r : Nat} (hr : r < 8) (h0 : aK F r = 0) : r = t := by
  refine Classical.byContradiction fun hrt => ?_
  have hp := aB_pos hN h hr hrt
  have := aK_lt (F := F) (q := t) (r := r) ht (by rw [h.1]; exact hp)
  omega
theorem aK_t (h : aB N c t F) : aK F t = 0 := by
  have e : ∀ i, i < 8 → aU1 F (F t) i = 0 := fun i hi => aU1_0 (by have := h.2.1 i hi; rw [h.1]; omega)
  unfold aK
  rw [e 0 (by decide), e 1 (by decide), e 2 (by decide), e 3 (by decide), e 4 (by decide), e 5 (by decide), e 6 (by decide), e 7 (by decide)]
theorem aB_bd (h : aB N c t F) (hc : ∀ r q, r < 8 → q < 8 → c r q ≤ 1601) : ∀ (m r : Nat), aK F r ≤ m → r < 8 → F r < N → F r ≤ 1601 * aK F r := by
  intro m
  induction m with
  | zero =>
    intro r hm hr hN
    by_cases e : r = t
    · subst e; rw [h.1]; omega
    · obtain ⟨q, q1, q2, q3⟩ := h.2.2.2 r hr e hN
      have := aK_lt (F := F) (q := q) (r := r) q1 (by omega)
      omega
  | succ m ih =>
    intro r hm hr hN
    by_cases e : r = t
    · subst e; rw [h.1]; omega
    · obtain ⟨q, q1, q2, q3⟩ := h.2.2.2 r hr e hN
      have h1 := aK_lt (F := F) (q := q) (r := r) q1 (by omega)
      have h2 := ih q (by omega) q1 (by omega)
      have h3 := hc r q hr q1
      omega
theorem aB_bd2 (h : aB N c t F) (hc : ∀ r q, r < 8 → q < 8 → c r q ≤ 1601) {r : Nat} (hr : r < 8) (hN : F r < N) : F r ≤ 11207 := by
  have := aB_bd h hc (aK F r) r (Nat.le_refl _) hr hN
  have := aK_7 (F := F) hr
  omega
/-- the same distances, with another number for no way -/
theorem aB_conv {N' : Int} (h : aB N c t F) (hc : ∀ r q, r < 8 → q < 8 → c r q ≤ 1601) (hN : 20000 ≤ N) (hN' : 20000 ≤ N') : aB N' c t (fun r => if F r < N then F r else N') := by
  refine ⟨?_, fun r hr => ?_, fun r q hr hq hp => ?_, fun r hr hrt hl => ?_⟩
  · show (if F t < N then F t else N') = 0
    rw [h.1, if_pos (by omega)]
  · show 0 ≤ (if F r < N then F r else N') ∧ (if F r < N then F r else N') ≤ N'
    have := h.2.1 r hr
    split
    · next e => have := aB_bd2 h hc hr e; omega
    · omega
  · show (if F r < N then F r else N') ≤ c r q + (if F q < N then F q else N')
    have h1 := h.2.2.1 r q hr hq hp
    have h2 := hc r q hr hq
    by_cases e : F q < N
    · have := aB_bd2 h hc hq e
      rw [if_pos e, if_pos (by omega)]; omega
    · rw [if_neg e]
      split
      · next e2 => have := aB_bd2 h hc hr e2; omega
      · omega
  · have hl : (if F r < N then F r else N') < N' := hl
    by_cases e : F r < N
    · obtain ⟨q, q1, q2, q3⟩ := h.2.2.2 r hr hrt e
      refine ⟨q, q1, q2, ?_⟩
      show (if F r < N then F r else N') = c r q + (if F q < N then F q else N')
      rw [if_pos e, if_pos (by omega)]; exact q3
    · rw [if_neg e] at hl; omega
/-- a sweep -/
def aSwp (c : Nat → Nat → Int) (F D D' : Nat → Int) : Prop := (∀ r, r < 8 → F r ≤ D' r ∧ D' r ≤ D r) ∧ (∀ r q, r < 8 → q < 8 → 0 < c r q → D' r ≤ c r q + D q)
theorem aSwp_k {D D' : Nat → Int} {k : Nat} (h : aB N c t F) (ht : t < 8) (hD : ∀ r, r < 8 → F r ≤ D r ∧ D r ≤ N) (hk : ∀ r, r < 8 → aK F r ≤ k → D r = F r) (hs : aSwp c F D D') : ∀ r, r < 8 → aK F r ≤ k + 1 → D' r = F r := by
  intro r hr hkr
  have s1 := hs.1 r hr
  have d1 := hD r hr
  by_cases e : r = t
  · subst e
    have := hk r hr (by rw [aK_t h]; omega)
    omega
  · by_cases e2 : F r < N
    · obtain ⟨q, q1, q2, q3⟩ := h.2.2.2 r hr e e2
      have h1 := aK_lt (F := F) (q := q) (r := r) q1 (by omega)
      have h2 := hk q q1 (by omega)
      have h3 := hs.2 r q hr q1 q2
      omega
    · omega
/-- the next ring -/
def aNx (c : Nat → Nat → Int) (F : Nat → Int) (x : Nat) : Nat → Nat → Int
  | 0, _ => -1
  | m + 1, k => if 0 < c x k ∧ c x k + F k = F x then k else aNx c F x m (k + 1)
def aGo (c : Nat → Nat → Int) (F : Nat → Int) (x : Nat) : Nat := (aNx c F x 8 0).toNat
theorem aNx_at {x : Nat} : ∀ (m k q : Nat), k ≤ q → q < k + m → 0 < c x q ∧ c x q + F q = F x → ∃ n, n < k + m ∧ aNx c F x m k = (n : Int) ∧ 0 < c x n ∧ c x n + F n = F x := by
  intro m
  induction m with
  | zero => intro k q h1 h2; omega
  | succ m ih =>
    intro k q h1 h2 hq
    rw [aNx]
    by_cases e : 0 < c x k ∧ c x k + F k = F x
    · rw [if_pos e]; exact ⟨k, by omega, rfl, e⟩
    · rw [if_neg e]
      by_cases e2 : k = q
      · subst e2; exact absurd hq e
      · obtain ⟨n, n1, n2⟩ := ih (k + 1) q (by omega) (by omega) hq
        exact ⟨n, by omega, n2⟩
theorem aGo_ok (h : aB N c t F) {x : Nat} (hx : x < 8) (hxt : ¬ x = t) (hN : F x < N) : aNx c F x 8 0 = (aGo c F x : Int) ∧ aGo c F x < 8 ∧ 0 < c x (aGo c F x) ∧ F x = c x (aGo c F x) + F (aGo c F x) := by
  obtain ⟨q, q1, q2, q3⟩ := h.2.2.2 x hx hxt hN
  obtain ⟨n, n1, n2, n3, n4⟩ := aNx_at (c := c) (F := F) (x := x) 8 0 q (by omega) (by omega) ⟨q2, q3.symm⟩
  have e : aGo c F x = n := by unfold aGo; rw [n2]; rfl
  rw [e]
  exact ⟨n2, by omega, n3, n4.symm⟩
def aAt (c : Nat → Nat → Int) (F : Nat → Int) (f : Nat) : Nat → Nat
  | 0 => f
  | k + 1 => aGo c F (aAt c F f k)
theorem aAt_s {f : Nat} : ∀ k, aAt c F f (k + 1) = aAt c F (aGo c F f) k := by
  intro k
  induction k with
  | zero => rfl
  | succ k ih => rw [aAt, ih, aAt]
def aLen (c : Nat → Nat → Int) (F : Nat → Int) (t : Nat) : Nat → Nat → Nat
  | 0, _ => 0
  | m + 1, x => if x = t then 0 else aLen c F t m (aGo c F x) + 1
theorem aLen_ok (hN : 0 < N) (ht : t < 8) (h : aB N c t F) : ∀ (m x : Nat), x < 8 → F x < N → aK F x ≤ m →
    aLen c F t m x ≤ m ∧ aAt c F x (aLen c F t m x) = t ∧ (∀ k, k < aLen c F t m x → ¬ aAt c F x k = t) ∧ ∀ k, k ≤ aLen c F t m x → aAt c F x k < 8 ∧ F (aAt c F x k) < N := by
  intro m
  induction m with
  | zero =>
    intro x hx hxN hk
    have e := aK_0 hN ht h hx (by omega)
    refine ⟨Nat.le_refl _, e, fun k hk => absurd hk (Nat.not_lt_zero k), fun k hk => ?_⟩
    have hk : k ≤ 0 := hk
    obtain rfl : k = 0 := by omega
    exact ⟨hx, hxN⟩
  | succ m ih =>
    intro x hx hxN hk
    rw [aLen]
    by_cases e : x = t
    · rw [if_pos e]
      refine ⟨by omega, e, fun k hk => absurd hk (Nat.not_lt_zero k), fun k hk => ?_⟩
      obtain rfl : k = 0 := by omega
      exact ⟨hx, hxN⟩
    · rw [if_neg e]
      obtain ⟨g1, g2, g3, g4⟩ := aGo_ok h hx e hxN
      have hlt := aK_lt (F := F) (q := aGo c F x) (r := x) g2 (by omega)
      obtain ⟨i1, i2, i3, i4⟩ := ih (aGo c F x) g2 (by omega) (by omega)
      refine ⟨by omega, by rw [aAt_s]; exact i2, fun k hk => ?_, fun k hk => ?_⟩
      · cases k with
        | zero => exact e
        | succ k => rw [aAt_s]; exact i3 k (by omega)
      · cases k with
        | zero => exact ⟨hx, hxN⟩
        | succ k => rw [aAt_s]; exact i4 k (by omega)
end WAYS
