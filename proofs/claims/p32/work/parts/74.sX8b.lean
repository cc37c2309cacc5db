/-! ways: straps as three rows of numbers (a ring, the other one, the length), and what a look of the class makes of them -/
abbrev aJ (O Q : Nat → Int) (p x y : Nat) : Prop := (O p = x ∧ Q p = y) ∨ (O p = y ∧ Q p = x)
/-- the shortest length between two rings among the first parts; 100000000 is none -/
def aS (O Q L : Nat → Int) (x y : Nat) : Nat → Int
  | 0 => 100000000
  | k + 1 => if aJ O Q k x y ∧ L k < aS O Q L x y k then L k else aS O Q L x y k
/-- how many of the first parts join two rings by a length -/
def aC (O Q L : Nat → Int) (x y : Nat) (l : Int) : Nat → Int
  | 0 => 0
  | k + 1 => aC O Q L x y l k + (if aJ O Q k x y ∧ L k = l then 1 else 0)
def aSt (O Q L : Nat → Int) (p : Nat) : Prop := (O p = -1 ∧ Q p = -1 ∧ L p = -1) ∨ ((0 ≤ O p ∧ O p < 8) ∧ (0 ≤ Q p ∧ Q p < 8) ∧ ¬ O p = Q p ∧ 1 ≤ L p ∧ L p ≤ 100)
theorem aJ_s {O Q : Nat → Int} {p x y : Nat} : aJ O Q p x y ↔ aJ O Q p y x := Or.comm
theorem aJ_st {O Q L : Nat → Int} {p x y : Nat} (h : aSt O Q L p) (hj : aJ O Q p x y) : 1 ≤ L p ∧ L p ≤ 100 ∧ ¬ x = y := by
  unfold aSt at h
  rcases h with h | h <;> rcases hj with h2 | h2 <;> omega
theorem aS_s {O Q L : Nat → Int} {x y : Nat} : ∀ k, aS O Q L x y k = aS O Q L y x k := by
  intro k
  induction k with
  | zero => rfl
  | succ k ih =>
    rw [aS, aS, ih]
    by_cases c : aJ O Q k x y ∧ L k < aS O Q L y x k
    · rw [if_pos c, if_pos ⟨aJ_s.mp c.1, c.2⟩]
    · rw [if_neg c, if_neg (fun q => c ⟨aJ_s.mpr q.1, q.2⟩)]
theorem aC_s {O Q L : Nat → Int} {x y : Nat} {l : Int} : ∀ k, aC O Q L x y l k = aC O Q L y x l k := by
  intro k
  induction k with
  | zero => rfl
  | succ k ih =>
    rw [aC, aC, ih]
    by_cases c : aJ O Q k x y ∧ L k = l
    · rw [if_pos c, if_pos ⟨aJ_s.mp c.1, c.2⟩]
    · rw [if_neg c, if_neg (fun q => c ⟨aJ_s.mpr q.1, q.2⟩)]
theorem aS_in {O Q L : Nat → Int} {x y : Nat} : ∀ k, (∀ p, p < k → aSt O Q L p) → 1 ≤ aS O Q L x y k ∧ (aS O Q L x y k ≤ 100 ∨ aS O Q L x y k = 100000000) := by
  intro k
  induction k with
  | zero => intro _; rw [aS]; omega
  | succ k ih =>
    intro h
    have := ih (fun p hp => h p (by omega))
    rw [aS]
    split
    · next c => have := aJ_st (h k (by omega)) c.1; omega
    · exact this
theorem aS_le {O Q L : Nat → Int} {x y : Nat} : ∀ k p, p < k → aJ O Q p x y → aS O Q L x y k ≤ L p := by
  intro k
  induction k with
  | zero => intro p hp; omega
  | succ k ih =>
    intro p hp hj
    rw [aS]
    by_cases e : p = k
    · subst e
      split
      · omega
      · next c => by_cases c2 : L p < aS O Q L x y p
                  · exact absurd ⟨hj, c2⟩ c
                  · omega
    · have := ih p (by omega) hj
      split
      · next c => omega
      · exact this
theorem aC_0 {O Q L : Nat → Int} {x y : Nat} {l : Int} : ∀ k, l < aS O Q L x y k → aC O Q L x y l k = 0 := by
  intro k
  induction k with
  | zero => intro _; rfl
  | succ k ih =>
    intro h
    have h1 : ¬ (aJ O Q k x y ∧ L k = l) := by
      intro q
      have := aS_le (O := O) (Q := Q) (L := L) (k + 1) k (by omega) q.1
      omega
    have h2 : l < aS O Q L x y k := by
      rw [aS] at h
      split at h
      · next c => omega
      · exact h
    rw [aC, if_neg h1, ih h2]; rfl
theorem aC_in {O Q L : Nat → Int} {x y : Nat} {l : Int} : ∀ k, 0 ≤ aC O Q L x y l k ∧ aC O Q L x y l k ≤ k := by
  intro k
  induction k with
  | zero => rw [aC]; omega
  | succ k ih => rw [aC]; split <;> omega
theorem aC_1 {O Q L : Nat → Int} {x y : Nat} {l : Int} : ∀ k p, p < k → aJ O Q p x y ∧ L p = l → 1 ≤ aC O Q L x y l k := by
  intro k
  induction k with
  | zero => intro p hp; omega
  | succ k ih =>
    intro p hp hj
    rw [aC]
    have h0 := (aC_in (O := O) (Q := Q) (L := L) (x := x) (y := y) (l := l) k).1
    by_cases e : p = k
    · subst e; rw [if_pos hj]; omega
    · have := ih p (by omega) hj
      split <;> omega
/-- what the two arrays hold once the first k parts are noted -/
def aNt (V : Nat → Nat → Int) (O Q L : Nat → Int) (k : Nat) : Prop := ∀ x y, x < 8 → y < 8 →
  V 4 (x * 8 + y) = (if aS O Q L x y k < 100000000 then aS O Q L x y k else 0) ∧ V 5 (x * 8 + y) = (if aS O Q L x y k < 100000000 then aC O Q L x y (aS O Q L x y k) k else 0)
def a4 (a l : Int) : Int := if a = 0 ∨ l < a then l else a
def a5 (a b l : Int) : Int := if a = 0 ∨ l < a then 1 else if l = a then b + 1 else b
theorem xNo4 {V : Nat → Nat → Int} {p j : Nat} {l : Int} : xNo V p l 4 j = if j = p then a4 (V 4 j) l else V 4 j := by
  unfold xNo a4
  by_cases e : j = p
  · subst e
    rw [if_pos rfl]
    split
    · simp [xup2]
    · split <;> simp [xup2]
  · rw [if_neg e]
    split
    · simp [xup2, e]
    · split <;> simp [xup2]
theorem xNo5 {V : Nat → Nat → Int} {p j : Nat} {l : Int} : xNo V p l 5 j = if j = p then a5 (V 4 j) (V 5 j) l else V 5 j := by
  unfold xNo a5
  by_cases e : j = p
  · subst e
    rw [if_pos rfl]
    split
    · simp [xup2]
    · split <;> simp [xup2]
  · rw [if_neg e]
    split
    · simp [xup2, e]
    · split <;> simp [xup2, e]
theorem aNt_s {V : Nat → Nat → Int} {O Q L : Nat → Int} {k q : Nat} (h : aNt V O Q L k) (hs : ∀ p, p < k + 1 → aSt O Q L p) (h9 : V q 9 = min (O k) (Q k)) (h10 : V q 10 = max (O k) (Q k)) (h11 : V q 11 = L k) : aNt (xNp V (some q)) O Q L (k + 1) := by
  have hk := hs k (by omega)
  have hk' := hk
  rw [xNp_y, h9, h10, h11]
  unfold aSt at hk
  rcases hk with hk | hk
  · rw [if_pos hk.2.2]
    intro x y hx hy
    have nj : ¬ aJ O Q k x y := by rintro (q | q) <;> omega
    have eS : aS O Q L x y (k + 1) = aS O Q L x y k := by rw [aS, if_neg (fun q => nj q.1)]
    have eC : ∀ l, aC O Q L x y l (k + 1) = aC O Q L x y l k := by intro l; rw [aC, if_neg (fun q => nj q.1), Int.add_zero]
    rw [eS, eC]
    exact h x y hx hy
  · rw [if_neg (by omega)]
    obtain ⟨o, ho⟩ : ∃ o : Nat, O k = o := ⟨(O k).toNat, by omega⟩
    obtain ⟨q', hq⟩ : ∃ o : Nat, Q k = o := ⟨(Q k).toNat, by omega⟩
    -- the two places
    have key : ∀ p1 p2 : Nat, ¬ p1 = p2 → (∀ x y, x < 8 → y < 8 → (x * 8 + y = p1 ∨ x * 8 + y = p2 ↔ aJ O Q k x y)) → aNt (xNo (xNo V p1 (L k)) p2 (L k)) O Q L (k + 1) := by
      intro p1 p2 hne hj x y hx hy
      have e4 : xNo (xNo V p1 (L k)) p2 (L k) 4 (x * 8 + y) = if x * 8 + y = p1 ∨ x * 8 + y = p2 then a4 (V 4 (x * 8 + y)) (L k) else V 4 (x * 8 + y) := by
        rw [xNo4, xNo4]
        by_cases e1 : x * 8 + y = p1
        · rw [if_pos e1, if_neg (by omega), if_pos (Or.inl e1)]
        · by_cases e2 : x * 8 + y = p2
          · rw [if_pos e2, if_neg e1, if_pos (Or.inr e2)]
          · rw [if_neg e2, if_neg e1, if_neg (by omega)]
      have e5 : xNo (xNo V p1 (L k)) p2 (L k) 5 (x * 8 + y) = if x * 8 + y = p1 ∨ x * 8 + y = p2 then a5 (V 4 (x * 8 + y)) (V 5 (x * 8 + y)) (L k) else V 5 (x * 8 + y) := by
        rw [xNo5, xNo5, xNo4]
        by_cases e1 : x * 8 + y = p1
        · rw [if_neg (show ¬ x * 8 + y = p2 by omega), if_pos e1, if_pos (Or.inl e1)]
        · by_cases e2 : x * 8 + y = p2
          · rw [if_pos e2, if_neg e1, if_neg e1, if_pos (Or.inr e2)]
          · rw [if_neg e2, if_neg e1, if_neg (by omega)]
      obtain ⟨v4, v5⟩ := h x y hx hy
      have hin := aS_in (O := O) (Q := Q) (L := L) (x := x) (y := y) k (fun p hp => hs p (by omega))
      have hj' := hj x y hx hy
      rw [e4, e5, v4, v5]
      by_cases c : aJ O Q k x y
      · have hl := aJ_st hk' c
        rw [if_pos (hj'.mpr c), if_pos (hj'.mpr c)]
        by_cases c1 : L k < aS O Q L x y k
        · have z0 := aC_0 (O := O) (Q := Q) (L := L) (x := x) (y := y) (l := L k) k c1
          have eS : aS O Q L x y (k + 1) = L k := by rw [aS, if_pos ⟨c, c1⟩]
          have eC : aC O Q L x y (L k) (k + 1) = 1 := by rw [aC, z0, if_pos ⟨c, rfl⟩]; rfl
          rw [eS, eC, if_pos (show L k < 100000000 by omega)]
          unfold a4 a5
          by_cases c2 : aS O Q L x y k < 100000000
          · rw [if_pos c2, if_pos (show aS O Q L x y k = 0 ∨ L k < aS O Q L x y k by omega), if_pos (show aS O Q L x y k = 0 ∨ L k < aS O Q L x y k by omega), if_pos (show L k < 100000000 by omega)]; exact ⟨rfl, rfl⟩
          · rw [if_neg c2, if_pos (Or.inl rfl), if_pos (Or.inl rfl), if_pos (show L k < 100000000 by omega)]; exact ⟨rfl, rfl⟩
        · have c2 : aS O Q L x y k < 100000000 := by omega
          have eS : aS O Q L x y (k + 1) = aS O Q L x y k := by rw [aS, if_neg (fun q => c1 q.2)]
          have eC : aC O Q L x y (aS O Q L x y k) (k + 1) = aC O Q L x y (aS O Q L x y k) k + (if L k = aS O Q L x y k then 1 else 0) := by
            rw [aC]
            by_cases c3 : L k = aS O Q L x y k
            · rw [if_pos c3, if_pos ⟨c, c3⟩]
            · rw [if_neg c3, if_neg (fun q => c3 q.2)]
          rw [eS, eC]
          simp only [if_pos c2]
          unfold a4 a5
          rw [if_neg (show ¬ (aS O Q L x y k = 0 ∨ L k < aS O Q L x y k) by omega), if_neg (show ¬ (aS O Q L x y k = 0 ∨ L k < aS O Q L x y k) by omega)]
          refine ⟨rfl, ?_⟩
          by_cases c3 : L k = aS O Q L x y k
          · rw [if_pos c3, if_pos c3]
          · rw [if_neg c3, if_neg c3, Int.add_zero]
      · have eS : aS O Q L x y (k + 1) = aS O Q L x y k := by rw [aS, if_neg (fun q => c q.1)]
        have eC : ∀ l, aC O Q L x y l (k + 1) = aC O Q L x y l k := by intro l; rw [aC, if_neg (fun q => c q.1), Int.add_zero]
        rw [if_neg (fun q => c (hj'.mp q)), if_neg (fun q => c (hj'.mp q)), eS, eC]
        exact ⟨rfl, rfl⟩
    rw [ho, hq] at hk
    rw [ho, hq]
    rcases (show o < q' ∨ q' < o by omega) with hlt | hlt
    · have m1 : min (o : Int) (q' : Int) = o := by omega
      have m2 : max (o : Int) (q' : Int) = q' := by omega
      rw [m1, m2]
      refine key _ _ (by omega) (fun x y hx hy => ?_)
      rw [aJ, ho, hq]
      omega
    · have m1 : min (o : Int) (q' : Int) = q' := by omega
      have m2 : max (o : Int) (q' : Int) = o := by omega
      rw [m1, m2]
      refine key _ _ (by omega) (fun x y hx hy => ?_)
      rw [aJ, ho, hq]
      omega
/-- the class's parts hold the straps -/
def aCl (R : Nat → Nat → Option Nat) (V : Nat → Nat → Int) (O Q L : Nat → Int) (n : Nat) : Prop := ∀ p, p < n → aSt O Q L p ∧ V (xp R p) 9 = min (O p) (Q p) ∧ V (xp R p) 10 = max (O p) (Q p) ∧ V (xp R p) 11 = L p
theorem aNt_l {T : Nat → Nat × Nat} {R : Nat → Nat → Option Nat} {O Q L : Nat → Int} {n : Nat} (hR : xRo T R) (hn : n ≤ 40) (hno : ∀ k, n ≤ k → k < 40 → R 2 k = none) (hyes : ∀ k, k < n → R 2 k = some (xp R k) ∧ T (xp R k) = (2, 0)) :
    ∀ (m k : Nat) (V : Nat → Nat → Int), k + m = 40 → aCl R V O Q L n → aNt V O Q L (min k n) → aNt (xLo R m k V) O Q L n := by
  intro m
  induction m with
  | zero =>
    intro k V hk hC hN
    rw [show min k n = n by omega] at hN
    rw [xLo]; exact hN
  | succ m ih =>
    intro k V hk hC hN
    rw [xLo]
    by_cases c : k < n
    · obtain ⟨y1, y2⟩ := hyes k c
      obtain ⟨c1, c2, c3, c4⟩ := hC k c
      rw [show min k n = k by omega] at hN
      refine ih (k + 1) _ (by omega) ?_ ?_
      · intro p hp
        have hT := xRo_T hR (hyes p hp).2
        rw [xNp_ne hT.2.1 hT.2.2.1]
        exact hC p hp
      · rw [show min (k + 1) n = k + 1 by omega, y1]
        exact aNt_s hN (fun p hp => (hC p (by omega)).1) c2 c3 c4
    · rw [hno k (by omega) (by omega)]
      refine ih (k + 1) _ (by omega) hC ?_
      rw [show min (k + 1) n = min k n by omega]; exact hN
/-- the costs -/
def aCo (O Q L : Nat → Int) (n x y : Nat) : Int := if aS O Q L x y n < 100000000 then aS O Q L x y n * 16 + 1 else 0
theorem aCo_in {O Q L : Nat → Int} {n x y : Nat} (h : ∀ p, p < n → aSt O Q L p) : 0 ≤ aCo O Q L n x y ∧ aCo O Q L n x y ≤ 1601 := by
  have := aS_in (O := O) (Q := Q) (L := L) (x := x) (y := y) n h
  unfold aCo
  split <;> omega
theorem xTh_c {s D : Nat → Int} {c : Nat → Nat → Int} {x y : Nat} (hs : (0 < c x y ∧ 0 < s (x * 8 + y) ∧ c x y = s (x * 8 + y) * 16 + 1) ∨ (¬ 0 < c x y ∧ s (x * 8 + y) = 0)) : xTh s D x y = if 0 < c x y then c x y + D y else 1000000 := by
  unfold xTh
  rcases hs with ⟨h1, h2, h3⟩ | ⟨h1, h2⟩
  · rw [if_neg (by omega), if_pos h1, h3]
  · rw [if_pos (by omega), if_neg h1]
/-- s is c in the class's form -/
def aSc (s : Nat → Int) (c : Nat → Nat → Int) : Prop := ∀ x y, x < 8 → y < 8 → (0 < c x y ∧ 0 < s (x * 8 + y) ∧ c x y = s (x * 8 + y) * 16 + 1) ∨ (¬ 0 < c x y ∧ s (x * 8 + y) = 0)
theorem xNr_b {s D : Nat → Int} {x : Nat} : ∀ (m k : Nat) (b : Int), xNr s D x m k b ≤ b ∧ (∀ q, k ≤ q → q < k + m → xNr s D x m k b ≤ xTh s D x q) ∧ ∀ v, v ≤ b → (∀ q, k ≤ q → q < k + m → v ≤ xTh s D x q) → v ≤ xNr s D x m k b := by
  intro m
  induction m with
  | zero => intro k b; exact ⟨Int.le_refl _, fun q h1 h2 => by omega, fun v hv _ => hv⟩
  | succ m ih =>
    intro k b
    obtain ⟨i1, i2, i3⟩ := ih (k + 1) (min b (xTh s D x k))
    rw [xNr]
    refine ⟨by omega, fun q h1 h2 => ?_, fun v hv hq => ?_⟩
    · by_cases e : q = k
      · subst e; omega
      · exact i2 q (by omega) (by omega)
    · have := hq k (by omega) (by omega)
      exact i3 v (by omega) (fun q h1 h2 => hq q (by omega) (by omega))
theorem xSw_s {s F : Nat → Int} {c : Nat → Nat → Int} {t : Nat} (hs : aSc s c) (h : aB 1000000 c t F) : ∀ (m k : Nat) (D : Nat → Int), k + m = 8 → (∀ r, r < 8 → F r ≤ D r ∧ D r ≤ 1000000) →
    (∀ r, r < 8 → F r ≤ xSw s m k D r ∧ xSw s m k D r ≤ D r) ∧ (∀ r q, k ≤ r → r < 8 → q < 8 → 0 < c r q → xSw s m k D r ≤ c r q + D q) := by
  intro m
  induction m with
  | zero => intro k D hk hD; exact ⟨fun r hr => ⟨(hD r hr).1, Int.le_refl _⟩, fun r q h1 h2 => by omega⟩
  | succ m ih =>
    intro k D hk hD
    obtain ⟨b1, b2, b3⟩ := xNr_b (s := s) (D := D) (x := k) 8 0 1000000
    have hF : F k ≤ xNr s D k 8 0 1000000 := by
      refine b3 _ (h.2.1 k (by omega)).2 (fun q _ hq => ?_)
      rw [xTh_c (hs k q (by omega) (by omega))]
      split
      · next cp =>
        have := h.2.2.1 k q (by omega) (by omega) cp
        have := hD q (by omega)
        omega
      · exact (h.2.1 k (by omega)).2
    have hle : ∀ q, q < 8 → 0 < c k q → xNr s D k 8 0 1000000 ≤ c k q + D q := by
      intro q hq cp
      have := b2 q (by omega) (by omega)
      rw [xTh_c (hs k q (by omega) (by omega)), if_pos cp] at this
      exact this
    have dk := hD k (by omega)
    rw [xSw]
    have d1 : ∀ r, r < 8 → F r ≤ (if D k ≤ xNr s D k 8 0 1000000 then D else va_up D k (xNr s D k 8 0 1000000)) r ∧ (if D k ≤ xNr s D k 8 0 1000000 then D else va_up D k (xNr s D k 8 0 1000000)) r ≤ D r := by
      intro r hr
      have := hD r hr
      split
      · omega
      · by_cases e : r = k
        · subst e; rw [va_same]; omega
        · rw [va_ne e]; omega
    have dk2 : (if D k ≤ xNr s D k 8 0 1000000 then D else va_up D k (xNr s D k 8 0 1000000)) k ≤ xNr s D k 8 0 1000000 := by
      split
      · assumption
      · rw [va_same]; omega
    obtain ⟨i1, i2⟩ := ih (k + 1) (if D k ≤ xNr s D k 8 0 1000000 then D else va_up D k (xNr s D k 8 0 1000000)) (by omega) (fun r hr => by have := d1 r hr; have := hD r hr; omega)
    refine ⟨fun r hr => ?_, fun r q h1 hr hq cp => ?_⟩
    · have := i1 r hr
      have := d1 r hr
      omega
    · by_cases e : r = k
      · subst e
        have := i1 r hr
        have := hle q hq cp
        omega
      · have := i2 r q (by omega) hr hq cp
        have := d1 q hq
        omega
theorem xIt_s {s F : Nat → Int} {c : Nat → Nat → Int} {t : Nat} (hs : aSc s c) (ht : t < 8) (h : aB 1000000 c t F) : ∀ (m k : Nat) (D : Nat → Int), (∀ r, r < 8 → F r ≤ D r ∧ D r ≤ 1000000) → (∀ r, r < 8 → aK F r ≤ k → D r = F r) → ∀ r, r < 8 → aK F r ≤ k + m → xIt s m D r = F r := by
  intro m
  induction m with
  | zero => intro k D _ hk r hr hkr; exact hk r hr hkr
  | succ m ih =>
    intro k D hD hk r hr hkr
    obtain ⟨w1, w2⟩ := xSw_s hs h 8 0 D rfl hD
    rw [xIt]
    refine ih (k + 1) _ (fun r hr => by have := w1 r hr; have := hD r hr; omega) ?_ r hr (by omega)
    exact aSwp_k h ht hD hk ⟨w1, fun r q hr hq cp => w2 r q (by omega) hr hq cp⟩
theorem xIt_F {s F D0 : Nat → Int} {c : Nat → Nat → Int} {t : Nat} (hs : aSc s c) (ht : t < 8) (h : aB 1000000 c t F) (h0 : D0 t = 0) (h1 : ∀ r, r < 8 → ¬ r = t → D0 r = 1000000) : ∀ r, r < 8 → xIt s 8 D0 r = F r := by
  intro r hr
  refine xIt_s hs ht h 8 0 D0 (fun r hr => ?_) (fun r hr hk => ?_) r hr (by have := aK_7 (F := F) hr; omega)
  · have := h.2.1 r hr
    by_cases e : r = t
    · subst e; rw [h0, h.1]; omega
    · rw [h1 r hr e]; omega
  · have e := aK_0 (by decide) ht h hr (by omega)
    subst e; rw [h0, h.1]
