/-! the depth by gaps is the depth -/
/-- what f makes of n places together -/
def xSm (f : Int → Int) (S : Nat → Int) : Nat → Int
  | 0 => 0
  | n + 1 => xSm f S n + f (S n)
theorem xSm_eq {f : Int → Int} {S S' : Nat → Int} : ∀ n, (∀ k, k < n → S k = S' k) → xSm f S n = xSm f S' n := by
  intro n
  induction n with
  | zero => intro _; rfl
  | succ n ih =>
    intro h
    rw [xSm, xSm, ih (fun k hk => h k (by omega)), h n (by omega)]
theorem xIn_at {gap : Int} : ∀ (n : Nat) (S : Nat → Int) (j : Nat), n < j → xIn gap n S j = S j := by
  intro n
  induction n with
  | zero => intro S j hj; rw [xIn, va_ne (by omega)]
  | succ n ih =>
    intro S j hj
    rw [xIn]
    split
    · rw [va_ne (by omega)]
    · rw [ih _ _ (by omega), va_ne (by omega)]
theorem xIn_sum {f : Int → Int} {gap : Int} : ∀ (n : Nat) (S : Nat → Int), xSm f (xIn gap n S) (n + 1) = xSm f S n + f gap := by
  intro n
  induction n with
  | zero => intro S; rw [xIn]; simp only [xSm, va_same]
  | succ n ih =>
    intro S
    rw [xIn]
    split
    · rw [xSm, va_same, xSm_eq (S' := S) (n + 1) (fun k hk => va_ne (by omega))]
    · rw [xSm, ih, xIn_at _ _ _ (by omega), va_same, xSm_eq (S' := S) n (fun k hk => va_ne (by omega)), xSm]
      omega
/-- the first n places stand in order -/
def xOr (S : Nat → Int) (n : Nat) : Prop := ∀ i j, i ≤ j → j < n → S i ≤ S j
theorem xIn_le {gap B : Int} : ∀ (n : Nat) (S : Nat → Int), gap ≤ B → (∀ k, k < n → S k ≤ B) → ∀ k, k < n + 1 → xIn gap n S k ≤ B := by
  intro n
  induction n with
  | zero =>
    intro S hg _ k hk
    obtain rfl : k = 0 := by omega
    rw [xIn, va_same]; exact hg
  | succ n ih =>
    intro S hg hS k hk
    rw [xIn]
    split
    · by_cases h : k = n + 1
      · subst h; rw [va_same]; exact hg
      · rw [va_ne h]; exact hS k (by omega)
    · by_cases h : k = n + 1
      · subst h; rw [xIn_at _ _ _ (by omega), va_same]; exact hS n (by omega)
      · exact ih _ hg (fun q hq => by rw [va_ne (by omega)]; exact hS q (by omega)) k (by omega)
theorem xIn_or {gap : Int} : ∀ (n : Nat) (S : Nat → Int), xOr S n → xOr (xIn gap n S) (n + 1) := by
  intro n
  induction n with
  | zero =>
    intro S _ i j hi hj
    obtain rfl : j = 0 := by omega
    obtain rfl : i = 0 := by omega
    exact Int.le_refl _
  | succ n ih =>
    intro S hS
    rw [xIn]
    by_cases c : S n ≤ gap
    · rw [if_pos c]
      intro i j hi hj
      by_cases h : j = n + 1
      · subst h
        rw [va_same]
        by_cases h2 : i = n + 1
        · subst h2; rw [va_same]; exact Int.le_refl _
        · rw [va_ne h2]
          have := hS i n (by omega) (by omega)
          omega
      · rw [va_ne h, va_ne (by omega)]
        exact hS i j hi (by omega)
    · rw [if_neg c]
      have hS' : xOr (va_up S (n + 1) (S n)) n := by
        intro i j hi hj
        rw [va_ne (by omega), va_ne (by omega)]
        exact hS i j hi (by omega)
      have h1 := ih _ hS'
      have h2 := xIn_le (gap := gap) (B := S n) n (va_up S (n + 1) (S n)) (by omega) (fun k hk => by rw [va_ne (by omega)]; exact hS k n (by omega) (by omega))
      intro i j hi hj
      by_cases h : j = n + 1
      · subst h
        rw [xIn_at n _ (n + 1) (by omega), va_same]
        by_cases h3 : i = n + 1
        · subst h3; rw [xIn_at n _ (n + 1) (by omega), va_same]; exact Int.le_refl _
        · exact h2 i (by omega)
      · exact h1 i j hi (by omega)
theorem xSo_all {G : Nat → Int} {f : Int → Int} : ∀ (m k : Nat) (S : Nat → Int), xOr S k → xSm f S k = xSm f G k → xOr (xSo G m k S) (k + m) ∧ xSm f (xSo G m k S) (k + m) = xSm f G (k + m) := by
  intro m
  induction m with
  | zero => intro k S h1 h2; exact ⟨h1, h2⟩
  | succ m ih =>
    intro k S h1 h2
    rw [xSo, show k + (m + 1) = k + 1 + m by omega]
    exact ih (k + 1) _ (xIn_or k S h1) (by rw [xIn_sum, h2, xSm])
theorem xTo_sm {G : Nat → Int} {dp : Int} : ∀ m k, xTo G dp m k + xSm (fun x => 4 * max 0 (dp - x)) G k = xSm (fun x => 4 * max 0 (dp - x)) G (k + m) := by
  intro m
  induction m with
  | zero => intro k; rw [xTo, Int.zero_add, Nat.add_zero]
  | succ m ih =>
    intro k
    have := ih (k + 1)
    rw [xTo, show k + (m + 1) = k + 1 + m by omega, ← this, xSm]
    omega
theorem xTo_so {G S : Nat → Int} {dp : Int} : xTo (xSo G 7 0 S) dp 7 0 = xTo G dp 7 0 := by
  have h1 := xTo_sm (G := xSo G 7 0 S) (dp := dp) 7 0
  have h2 := xTo_sm (G := G) (dp := dp) 7 0
  have h3 := (xSo_all (G := G) (f := fun x => 4 * max 0 (dp - x)) 7 0 S (fun i j _ hj => by omega) rfl).2
  simp only [xSm, Nat.zero_add] at h1 h2 h3
  omega
/-- the search of depthByGaps, from b bearing on -/
def xDg (S : Nat → Int) (w : Int) : Nat → Nat → Int → Int → Int
  | 0, _, _, dp => dp
  | m + 1, b, sum, _ =>
    let dp := (w + 4 * (sum + S (b - 1)) + 4 * b - 1) / (4 * b)
    if b < 7 then (if S b < dp then xDg S w m (b + 1) (sum + S (b - 1)) dp else dp) else xDg S w m (b + 1) (sum + S (b - 1)) dp
section SX5b
variable {sc : xS} {d : Nat} {T : Nat → Nat × Nat} {z : Nat × Nat} {V : Nat → Nat → Int} {J : Nat → Nat → Int64} {R : Nat → Nat → Option Nat}
theorem gaps_loop {a g s : Nat} {w : Int} (hS : xSe T R a g s) (hs : ∀ k, k < 7 → -1000 ≤ V s k ∧ V s k ≤ 1000) (hw : 1 ≤ w ∧ w ≤ 10000) :
    ∀ (m b : Nat) (sum dp : Int) (o5 : Option Value), b + m = 8 → 1 ≤ b → -1000 * b ≤ sum ∧ sum ≤ 1000 * b → 
    XR sc (d + 1) 44 11 [some (.ref a), some (xw w), some (xw sum), some (xw dp), some (xw b), o5] [] (T, z, xv V, J, R) = some (.inl (some (xw (xDg (V s) w m b sum dp))), (T, z, xv V, J, R)) := by
  obtain ⟨s1, s2, s3, s4, s5⟩ := hS
  have e : (R a 1).getD 0 = s := by rw [s3]; rfl
  intro m
  induction m with
  | zero =>
    intro b sum dp o5 hb h1 hsum
    rw [bX5_depthByGaps_11 (by omega), if_pos (by omega), bX5_depthByGaps_78, xDg]
  | succ m ih =>
    intro b sum dp o5 hb h1 hsum
    have hv := hs (b - 1) (by omega)
    have en : ((b : Int) - 1).toNat = b - 1 := by omega
    have hbd : -1000000 ≤ w + 4 * (sum + V s (b - 1)) + 4 * b - 1 ∧ w + 4 * (sum + V s (b - 1)) + 4 * b - 1 ≤ 1000000 := by omega
    obtain ⟨q, hq⟩ : ∃ q : Int, (w + 4 * (sum + V s (b - 1)) + 4 * (b : Int) - 1) / (4 * (b : Int)) = q := ⟨_, rfl⟩
    have hqi : -1000000 ≤ q ∧ q ≤ 1000000 := by
      rw [← hq]
      constructor
      · exact Int.le_ediv_of_mul_le (by omega) (by omega)
      · exact Int.le_of_lt_add_one (Int.ediv_lt_of_lt_mul (by omega) (by omega))
    rw [bX5_depthByGaps_11 (by omega), if_neg (by omega), bX5_depthByGaps_18 s1 (rgd s3) (tgd s3 s5) (igd s3 s5 (by omega)), e, en, s_floorDiv (by omega) (by omega), xret_v, hq, bX5_depthByGaps_51 (by omega), xDg]
    simp only [hq]
    by_cases c : b < 7
    · have hvb := hs b c
      rw [if_neg (by omega), if_pos c, bX5_depthByGaps_59 s1 (rgd s3) (tgd s3 s5) (igd s3 s5 (by omega)) (by omega) (by rw [e, Int.toNat_natCast]; omega), e, Int.toNat_natCast]
      by_cases c2 : V s b < q
      · rw [if_pos c2, if_pos c2, bX5_depthByGaps_72, show (b : Int) + 1 = ((b + 1 : Nat) : Int) by omega, ih (b + 1) _ _ _ (by omega) (by omega) (by omega)]
      · rw [if_neg c2, if_neg c2, bX5_depthByGaps_70]
    · rw [if_pos (by omega), if_neg c, bX5_depthByGaps_72, show (b : Int) + 1 = ((b + 1 : Nat) : Int) by omega, ih (b + 1) _ _ _ (by omega) (by omega) (by omega)]
theorem s_depthByGaps {a g s : Nat} {w : Int} (hS : xSe T R a g s) (hne : ¬ g = s) (hg : ∀ k, k < 7 → -1000 ≤ V g k ∧ V g k ≤ 1000) (hs : ∀ k, k < 7 → -1000 ≤ V s k ∧ V s k ≤ 1000) (hw : 1 ≤ w ∧ w ≤ 10000) :
    X sc (d + 2) 44 [.ref a, xw w] (T, z, xv V, J, R) = some (.inl (some (xw (xDg (xSo (V g) 7 0 (V s)) w 7 1 0 0))), (T, z, xv (va_up V s (xSo (V g) 7 0 (V s))), J, R)) := by
  have rg : ∀ (m k : Nat) (S : Nat → Int), k + m = 7 → (∀ k, k < 7 → -1000 ≤ S k ∧ S k ≤ 1000) → ∀ k', k' < 7 → -1000 ≤ xSo (V g) m k S k' ∧ xSo (V g) m k S k' ≤ 1000 := by
    intro m
    induction m with
    | zero => intro k S _ h; exact h
    | succ m ih => intro k S hk h; rw [xSo]; exact ih (k + 1) _ (by omega) (xIn_rg (hg k (by omega)) k S (by omega) h)
  have key := gaps_loop (sc := sc) (d := d) (z := z) (V := va_up V s (xSo (V g) 7 0 (V s))) (J := J) hS (by rw [va_same]; exact rg 7 0 (V s) rfl hs) hw 7 1 0 0 none rfl (by decide) (by decide)
  rw [va_same] at key
  rw [eX5_depthByGaps, bX5_depthByGaps_0 hS.1, s_sortGaps hS hne hg hs, xret_n, bX5_depthByGaps_4]
  exact key
end SX5b
theorem xDg_ok {S : Nat → Int} {w : Int} (hw : 1 ≤ w) (hS : xOr S 7) : xDe S w (xDg S w 7 1 0 0) := by
  have o1 := hS 0 1 (by decide) (by decide)
  have o2 := hS 1 2 (by decide) (by decide)
  have o3 := hS 2 3 (by decide) (by decide)
  have o4 := hS 3 4 (by decide) (by decide)
  have o5 := hS 4 5 (by decide) (by decide)
  have o6 := hS 5 6 (by decide) (by decide)
  have e : ∀ dp, xTo S dp 7 0 = 4 * max 0 (dp - S 0) + (4 * max 0 (dp - S 1) + (4 * max 0 (dp - S 2) + (4 * max 0 (dp - S 3) + (4 * max 0 (dp - S 4) + (4 * max 0 (dp - S 5) + (4 * max 0 (dp - S 6) + 0)))))) := fun dp => rfl
  unfold xDe
  rw [e, e]
  simp only [xDg, Nat.reduceLT, Nat.reduceSub, Nat.reduceAdd, if_true, if_false, Int.zero_add, Int.cast_ofNat_Int, Int.reduceMul, Int.natCast_one]
  generalize S 0 = s0 at *
  generalize S 1 = s1 at *
  generalize S 2 = s2 at *
  generalize S 3 = s3 at *
  generalize S 4 = s4 at *
  generalize S 5 = s5 at *
  generalize S 6 = s6 at *
  clear e hS
  split
  · split
    · split
      · split
        · split
          · split
            · omega
            · omega
          · omega
        · omega
      · omega
    · omega
  · omega
