/-! ways: what a look of the class leaves -/
def aA (O Q L : Nat → Int) (n : Nat) (F : Nat → Int) (f : Nat) : Nat → Nat := aAt (aCo O Q L n) F f
def aM (O Q L : Nat → Int) (n : Nat) (F : Nat → Int) (t f : Nat) : Nat := if F f < 1000000 then aLen (aCo O Q L n) F t 7 f else 0
def aTk (a : Nat → Nat) (m x y : Nat) : Prop := ∃ k, k < m ∧ ((x = a k ∧ y = a (k + 1)) ∨ (x = a (k + 1) ∧ y = a k))
theorem xLn_c {s D F : Nat → Int} {c : Nat → Nat → Int} {x : Nat} (hs : aSc s c) (hD : ∀ r, r < 8 → D r = F r) (hx : x < 8) (hN : F x < 1000000) : ∀ m k, k + m = 8 → xLn s D x m k = aNx c F x m k := by
  intro m
  induction m with
  | zero => intro k _; rfl
  | succ m ih =>
    intro k hk
    rw [xLn, aNx, ih (k + 1) (by omega), xTh_c (hs x k hx (by omega)), hD x hx, hD k (by omega)]
    by_cases c1 : 0 < c x k
    · rw [if_pos c1]
      by_cases c2 : c x k + F k = F x
      · rw [if_pos c2, if_pos ⟨c1, c2⟩]
      · rw [if_neg c2, if_neg (fun q => c2 q.2)]
    · rw [if_neg c1, if_neg (by omega), if_neg (fun q => c1 q.1)]
theorem xWk_ok {s D F : Nat → Int} {c : Nat → Nat → Int} {t f : Nat} (hs : aSc s c) (hD : ∀ r, r < 8 → D r = F r) (ht : t < 8) (h : aB 1000000 c t F) (hf : f < 8) (hN : F f < 1000000) :
    ∀ (m q : Nat) (V : Nat → Nat → Int), q + 1 + m = 8 → q ≤ aLen c F t 7 f → V 3 5 = (q : Int) + 1 → (∀ k, k ≤ q → V 8 k = (aAt c F f k : Int)) → (∀ x y, x < 8 → y < 8 → (V 6 (x * 8 + y) = 0 ∨ V 6 (x * 8 + y) = 1) ∧ (V 6 (x * 8 + y) = 1 ↔ aTk (aAt c F f) q x y)) →
    xWk s D t m (q + 1) (aAt c F f q) V 3 5 = (aLen c F t 7 f : Int) + 1 ∧ (∀ k, k ≤ aLen c F t 7 f → xWk s D t m (q + 1) (aAt c F f q) V 8 k = (aAt c F f k : Int)) ∧ ∀ x y, x < 8 → y < 8 → (xWk s D t m (q + 1) (aAt c F f q) V 6 (x * 8 + y) = 0 ∨ xWk s D t m (q + 1) (aAt c F f q) V 6 (x * 8 + y) = 1) ∧ (xWk s D t m (q + 1) (aAt c F f q) V 6 (x * 8 + y) = 1 ↔ aTk (aAt c F f) (aLen c F t 7 f) x y) := by
  obtain ⟨l1, l2, l3, l4⟩ := aLen_ok (by decide) ht h 7 f hf hN (aK_7 hf)
  intro m
  induction m with
  | zero =>
    intro q V hq hle v3 v8 v6
    obtain rfl : q = aLen c F t 7 f := by omega
    rw [xWk]
    exact ⟨v3, v8, v6⟩
  | succ m ih =>
    intro q V hq hle v3 v8 v6
    rw [xWk]
    by_cases e : aAt c F f q = t
    · have : q = aLen c F t 7 f := by
        refine Classical.byContradiction fun hne => l3 q (by omega) e
      rw [if_pos e, ← this]
      exact ⟨v3, v8, v6⟩
    · have hlt : q < aLen c F t 7 f := by
        refine Classical.byContradiction fun hne => ?_
        have : q = aLen c F t 7 f := by omega
        rw [this] at e; exact e l2
      obtain ⟨a1, a2⟩ := l4 q hle
      obtain ⟨g1, g2, g3, g4⟩ := aGo_ok h a1 e a2
      have en : xLn s D (aAt c F f q) 8 0 = (aAt c F f (q + 1) : Int) := by rw [xLn_c hs hD a1 a2 8 0 rfl, g1]; rfl
      have g2' : aAt c F f (q + 1) < 8 := g2
      have hdif : ¬ aAt c F f q = aAt c F f (q + 1) := by
        intro e2
        have e3 : F (aAt c F f q) = F (aAt c F f (q + 1)) := by rw [← e2]
        have e4 : F (aAt c F f q) = c (aAt c F f q) (aGo c F (aAt c F f q)) + F (aAt c F f (q + 1)) := g4
        omega
      rw [if_neg e, if_neg (by rw [en]; omega), en, Int.toNat_natCast]
      refine ih (q + 1) _ (by omega) (by omega) ?_ (fun k hk => ?_) (fun x y hx hy => ?_)
      · rw [xup2_i]
      · rw [xup2_o (by decide)]
        by_cases e2 : k = q + 1
        · subst e2; rw [xup2_i]
        · rw [xup2_j e2, xup2_o (by decide), xup2_o (by decide)]; exact v8 k (by omega)
      · rw [xup2_o (by decide), xup2_o (by decide)]
        obtain ⟨w1, w2⟩ := v6 x y hx hy
        by_cases p1 : x = aAt c F f q ∧ y = aAt c F f (q + 1)
        · rw [p1.1, p1.2, xup2_j (by omega), xup2_i]
          exact ⟨Or.inr rfl, fun _ => ⟨q, by omega, Or.inl ⟨rfl, rfl⟩⟩, fun _ => rfl⟩
        · by_cases p2 : x = aAt c F f (q + 1) ∧ y = aAt c F f q
          · rw [p2.1, p2.2, xup2_i]
            exact ⟨Or.inr rfl, fun _ => ⟨q, by omega, Or.inr ⟨rfl, rfl⟩⟩, fun _ => rfl⟩
          · rw [xup2_j (by omega), xup2_j (by omega)]
            refine ⟨w1, w2.trans ⟨fun ⟨k, k1, k2⟩ => ⟨k, by omega, k2⟩, fun ⟨k, k1, k2⟩ => ?_⟩⟩
            by_cases e2 : k = q
            · subst e2
              exact absurd k2 (fun q => q.elim p1 p2)
            · exact ⟨k, by omega, k2⟩
/-- what a look leaves of the way -/
def aRt (W : Nat → Nat → Int) (O Q L : Nat → Int) (n : Nat) (F : Nat → Int) (t f : Nat) : Prop :=
  W 3 5 = (if F f < 1000000 then (aM O Q L n F t f : Int) + 1 else 0) ∧ (F f < 1000000 → ∀ k, k ≤ aM O Q L n F t f → W 8 k = (aA O Q L n F f k : Int)) ∧
  (∀ x y, x < 8 → y < 8 → (W 6 (x * 8 + y) = 0 ∨ W 6 (x * 8 + y) = 1) ∧ (W 6 (x * 8 + y) = 1 ↔ aTk (aA O Q L n F f) (aM O Q L n F t f) x y)) ∧ aNt W O Q L n
theorem aSc_of {V : Nat → Nat → Int} {O Q L : Nat → Int} {n : Nat} (hN : aNt V O Q L n) (hst : ∀ p, p < n → aSt O Q L p) : aSc (V 4) (aCo O Q L n) := by
  intro x y hx hy
  have h1 := (hN x y hx hy).1
  have h2 := aS_in (O := O) (Q := Q) (L := L) (x := x) (y := y) n hst
  unfold aCo
  rw [h1]
  split
  · left; omega
  · right; omega
theorem look_ok {T : Nat → Nat × Nat} {R : Nat → Nat → Option Nat} {V : Nat → Nat → Int} {O Q L F : Nat → Int} {n t f : Nat} (hR : xRo T R) (hP : xPq T R V n) (hC : aCl R V O Q L n) (ht : t < 8) (hf : f < 8) (h : aB 1000000 (aCo O Q L n) t F) : aRt (xLk R V f t) O Q L n F t f := by
  have hst : ∀ p, p < n → aSt O Q L p := fun p hp => (hC p hp).1
  -- noted
  have hV0 : ∀ p, p < n → xup2 (xCl V 0 64) 3 5 0 (xp R p) = V (xp R p) := by
    intro p hp
    have hT := xRo_T hR (hP.2.2.2 p hp).2.1
    funext j
    simp [xup2, xCl, hT.1, hT.2.1, hT.2.2.1, hT.2.2.2.1]
  have h0 : aNt (xup2 (xCl V 0 64) 3 5 0) O Q L (min 0 n) := by
    intro x y hx hy
    have e0 : min 0 n = 0 := by omega
    rw [e0]
    have l : x * 8 + y < 64 := by omega
    simp [xup2, xCl, aS, l]
  have hN : aNt (xLk0 R V) O Q L n := by
    refine aNt_l hR hP.1 hP.2.2.1 (fun k hk => ⟨(hP.2.2.2 k hk).1, (hP.2.2.2 k hk).2.1⟩) 40 0 _ rfl ?_ h0
    intro p hp
    rw [hV0 p hp]
    exact hC p hp
  have hs := aSc_of hN hst
  have hD : ∀ r, r < 8 → xIt (xLk0 R V 4) 8 (va_up (xD0 (xLk0 R V 7) 8) t 0) r = F r := by
    refine xIt_F hs ht h va_same (fun r hr hrt => ?_)
    rw [va_ne hrt, xD0, if_pos hr]
  have e14 : xLk1 R V t 4 = xLk0 R V 4 := by unfold xLk1; rw [va_ne (by decide)]
  have e15 : xLk1 R V t 5 = xLk0 R V 5 := by unfold xLk1; rw [va_ne (by decide)]
  have e16 : ∀ k, k < 64 → xLk1 R V t 6 k = 0 := by
    intro k hk
    unfold xLk1
    rw [va_ne (by decide)]
    unfold xLk0
    rw [xLo_ne (by decide) (by decide)]
    simp [xup2, xCl, hk]
  have e13 : xLk1 R V t 3 5 = 0 := by
    unfold xLk1
    rw [va_ne (by decide)]
    unfold xLk0
    rw [xLo_ne (by decide) (by decide)]
    simp [xup2]
  have e17 : ∀ r, r < 8 → xLk1 R V t 7 r = F r := by
    intro r hr
    unfold xLk1
    rw [va_same]
    exact hD r hr
  have hNf : aNt (xLk R V f t) O Q L n := by
    intro x y hx hy
    rw [xLk_1 (by decide) (by decide) (by decide), xLk_1 (by decide) (by decide) (by decide), e14, e15]
    exact hN x y hx hy
  have hs1 : aSc (xLk1 R V t 4) (aCo O Q L n) := by rw [e14]; exact hs
  by_cases c : F f < 1000000
  · have w := xWk_ok (s := xLk1 R V t 4) (D := xLk1 R V t 7) hs1 e17 ht h hf c 7 0 (xup2 (xup2 (xLk1 R V t) 8 0 f) 3 5 1) rfl (Nat.zero_le _) (by rw [xup2_i]; rfl) (fun k hk => ?_) (fun x y hx hy => ?_)
    · have e : xLk R V f t = xWk (xLk1 R V t 4) (xLk1 R V t 7) t 7 (0 + 1) (aAt (aCo O Q L n) F f 0) (xup2 (xup2 (xLk1 R V t) 8 0 f) 3 5 1) := by
        unfold xLk xWy
        rw [if_pos (by rw [e17 f hf]; exact c)]
        rfl
      have em : aM O Q L n F t f = aLen (aCo O Q L n) F t 7 f := by unfold aM; rw [if_pos c]
      unfold aRt
      rw [em, if_pos c]
      refine ⟨?_, fun _ => ?_, ?_, hNf⟩
      · rw [e]; exact w.1
      · rw [e]; exact w.2.1
      · rw [e]; exact w.2.2
    · obtain rfl : k = 0 := by omega
      rw [xup2_o (by decide), xup2_i]; rfl
    · rw [xup2_o (by decide), xup2_o (by decide), e16 _ (by omega)]
      exact ⟨Or.inl rfl, fun q => absurd q (by decide), fun ⟨k, k1, _⟩ => absurd k1 (Nat.not_lt_zero k)⟩
  · have e : xLk R V f t = xLk1 R V t := by
      unfold xLk xWy
      rw [if_neg (by rw [e17 f hf]; exact c)]
    have em : aM O Q L n F t f = 0 := by unfold aM; rw [if_neg c]
    unfold aRt
    rw [em, if_neg c]
    refine ⟨by rw [e]; exact e13, fun q => absurd q c, fun x y hx hy => ?_, hNf⟩
    rw [e, e16 _ (by omega)]
    exact ⟨Or.inl rfl, fun q => absurd q (by decide), fun ⟨k, k1, _⟩ => absurd k1 (Nat.not_lt_zero k)⟩
/-- whether a part is on the way and shortest there, among the first steps -/
def aBk (O Q L : Nat → Int) (n : Nat) (a : Nat → Nat) (p : Nat) : Nat → Bool
  | 0 => false
  | k + 1 => aBk O Q L n a p k || decide (aJ O Q p (a k) (a (k + 1)) ∧ L p = aS O Q L (a k) (a (k + 1)) n)
theorem aBk_iff {O Q L : Nat → Int} {n : Nat} {a : Nat → Nat} {p : Nat} : ∀ m, aBk O Q L n a p m = true ↔ ∃ k, k < m ∧ aJ O Q p (a k) (a (k + 1)) ∧ L p = aS O Q L (a k) (a (k + 1)) n := by
  intro m
  induction m with
  | zero => exact ⟨fun q => (by cases q), fun ⟨k, k1, _⟩ => absurd k1 (Nat.not_lt_zero k)⟩
  | succ m ih =>
    rw [aBk, Bool.or_eq_true, ih, decide_eq_true_eq]
    constructor
    · rintro (⟨k, k1, k2⟩ | h)
      · exact ⟨k, by omega, k2⟩
      · exact ⟨m, by omega, h⟩
    · rintro ⟨k, k1, k2⟩
      by_cases e : k = m
      · subst e; exact Or.inr k2
      · exact Or.inl ⟨k, by omega, k2⟩
/-- how many share with a part; 0 where it bears nothing -/
def aSh (O Q L : Nat → Int) (n : Nat) (F : Nat → Int) (t f p : Nat) : Int := if aBk O Q L n (aA O Q L n F f) p (aM O Q L n F t f) = true then aC O Q L (O p).toNat (Q p).toNat (L p) n else 0
def aBu (O Q L : Nat → Int) (n : Nat) (F : Nat → Int) (t f : Nat) (g : Int) (p : Nat) : Int := if aSh O Q L n F t f p ≤ 0 then 0 else (g + aSh O Q L n F t f p - 1) / aSh O Q L n F t f p
theorem aSh_1 {O Q L F : Nat → Int} {n t f p : Nat} (hp : p < n) (hst : aSt O Q L p) (h : aBk O Q L n (aA O Q L n F f) p (aM O Q L n F t f) = true) : 1 ≤ aSh O Q L n F t f p := by
  unfold aSh
  rw [if_pos h]
  obtain ⟨k, k1, k2, k3⟩ := (aBk_iff _).mp h
  refine aC_1 n p hp ⟨?_, rfl⟩
  rcases hst with q | q
  · rcases k2 with q2 | q2 <;> omega
  · left; omega
theorem xBe_ok {W : Nat → Nat → Int} {O Q L F : Nat → Int} {n t f p a : Nat} (hr : aRt W O Q L n F t f) (hall : ∀ p, p < n → aSt O Q L p) (hp : p < n) (h9 : W a 9 = min (O p) (Q p)) (h10 : W a 10 = max (O p) (Q p)) (h11 : W a 11 = L p) :
    xBe W a = (if aBk O Q L n (aA O Q L n F f) p (aM O Q L n F t f) = true then 1 else 0) ∧ xSh W a = aSh O Q L n F t f p := by
  have hst := hall p hp
  have hst' := hst
  unfold xSh aSh xBe
  rw [h9, h10, h11]
  rcases hst with q | q
  · have hno : ¬ aBk O Q L n (aA O Q L n F f) p (aM O Q L n F t f) = true := by
      intro hb
      obtain ⟨k, k1, k2, k3⟩ := (aBk_iff _).mp hb
      rcases k2 with q2 | q2 <;> omega
    rw [if_pos q.2.2, if_neg hno, if_neg hno, if_pos rfl]; exact ⟨rfl, rfl⟩
  · obtain ⟨o, ho⟩ : ∃ o : Nat, O p = o := ⟨(O p).toNat, by omega⟩
    obtain ⟨q', hq⟩ : ∃ o : Nat, Q p = o := ⟨(Q p).toNat, by omega⟩
    obtain ⟨lo, hlo⟩ : ∃ x : Nat, min (O p) (Q p) = x := ⟨(min (O p) (Q p)).toNat, by omega⟩
    obtain ⟨hi, hhi⟩ : ∃ x : Nat, max (O p) (Q p) = x := ⟨(max (O p) (Q p)).toNat, by omega⟩
    have hlh : lo < 8 ∧ hi < 8 ∧ ((lo = o ∧ hi = q') ∨ (lo = q' ∧ hi = o)) := by omega
    have hj : aJ O Q p lo hi := by
      rw [aJ, ho, hq]
      rcases hlh.2.2 with e | e <;> omega
    obtain ⟨r1, r2, r3, r4⟩ := hr
    obtain ⟨v1, v2⟩ := r3 lo hi hlh.1 hlh.2.1
    obtain ⟨n1, n2⟩ := r4 lo hi hlh.1 hlh.2.1
    have hle := aS_le (O := O) (Q := Q) (L := L) n p hp hj
    rw [if_pos (by omega)] at n1 n2
    have ei : ((lo : Int) * 8 + (hi : Int)).toNat = lo * 8 + hi := by omega
    rw [hlo, hhi, ei, if_neg (by omega), n1, n2]
    -- taken, in terms of the part
    have tk : aTk (aA O Q L n F f) (aM O Q L n F t f) lo hi → ∃ k, k < aM O Q L n F t f ∧ aJ O Q p (aA O Q L n F f k) (aA O Q L n F f (k + 1)) ∧ aS O Q L (aA O Q L n F f k) (aA O Q L n F f (k + 1)) n = aS O Q L lo hi n := by
      rintro ⟨k, k1, ⟨k2, k3⟩ | ⟨k2, k3⟩⟩
      · exact ⟨k, k1, by rw [← k2, ← k3]; exact hj, by rw [← k2, ← k3]⟩
      · exact ⟨k, k1, by rw [← k2, ← k3]; exact aJ_s.mp hj, by rw [← k2, ← k3]; exact aS_s n⟩
    have kt : ∀ k, k < aM O Q L n F t f → aJ O Q p (aA O Q L n F f k) (aA O Q L n F f (k + 1)) → aTk (aA O Q L n F f) (aM O Q L n F t f) lo hi ∧ aS O Q L (aA O Q L n F f k) (aA O Q L n F f (k + 1)) n = aS O Q L lo hi n := by
      intro k k1 k2
      rcases (show (lo = aA O Q L n F f k ∧ hi = aA O Q L n F f (k + 1)) ∨ (lo = aA O Q L n F f (k + 1) ∧ hi = aA O Q L n F f k) by rw [aJ, ho, hq] at k2; omega) with ⟨e1, e2⟩ | ⟨e1, e2⟩
      · exact ⟨⟨k, k1, Or.inl ⟨e1, e2⟩⟩, by rw [← e1, ← e2]⟩
      · exact ⟨⟨k, k1, Or.inr ⟨e1, e2⟩⟩, by rw [← e1, ← e2]; exact aS_s n⟩
    have ec : aC O Q L lo hi (L p) n = aC O Q L (O p).toNat (Q p).toNat (L p) n := by
      rw [ho, hq, Int.toNat_natCast, Int.toNat_natCast]
      rcases hlh.2.2 with ⟨e1, e2⟩ | ⟨e1, e2⟩
      · rw [e1, e2]
      · rw [e1, e2]; exact aC_s n
    by_cases c1 : aBk O Q L n (aA O Q L n F f) p (aM O Q L n F t f) = true
    · obtain ⟨k, k1, k2, k3⟩ := (aBk_iff _).mp c1
      obtain ⟨t1, t2⟩ := kt k k1 k2
      have hv := v2.mpr t1
      have e11 : L p = aS O Q L lo hi n := by rw [k3, t2]
      rw [if_pos c1, if_pos c1, if_neg (by omega), if_pos e11, if_neg (by decide), ← e11, ec]
      exact ⟨rfl, rfl⟩
    · rw [if_neg c1, if_neg c1]
      by_cases c2 : W 6 (lo * 8 + hi) = 0
      · rw [if_pos c2, if_pos rfl]; exact ⟨rfl, rfl⟩
      · rw [if_neg c2]
        have hne : ¬ L p = aS O Q L lo hi n := by
          intro e
          obtain ⟨k, k1, k2, k3⟩ := tk (v2.mp (v1.resolve_left c2))
          exact c1 ((aBk_iff _).mpr ⟨k, k1, k2, by rw [k3]; exact e⟩)
        rw [if_neg hne, if_pos rfl]; exact ⟨rfl, rfl⟩
theorem xBu_ok {W : Nat → Nat → Int} {O Q L F : Nat → Int} {n t f p a : Nat} {g : Int} (hr : aRt W O Q L n F t f) (hall : ∀ p, p < n → aSt O Q L p) (hp : p < n) (h9 : W a 9 = min (O p) (Q p)) (h10 : W a 10 = max (O p) (Q p)) (h11 : W a 11 = L p) : xBu W a g = aBu O Q L n F t f g p := by
  unfold xBu aBu
  rw [(xBe_ok hr hall hp h9 h10 h11).2]
