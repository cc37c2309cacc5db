/-! ways: how the model finds them -/
/-- n parts of the model, straps among them -/
def aMo (V : Nat → Nat → Int) (n : Nat) : Prop := V 56 3 = n ∧ n ≤ 40 ∧ ∀ p, p < n → aSt (V 68) (V 69) (V 70) p
theorem aSt_in {O Q L : Nat → Int} {p : Nat} (h : aSt O Q L p) : (-1 ≤ O p ∧ O p < 8) ∧ (-1 ≤ Q p ∧ Q p < 8) ∧ (-1 ≤ L p ∧ L p ≤ 100) := by
  rcases h with h | h <;> omega
theorem aMo_e {V W : Nat → Nat → Int} {n : Nat} (h : aMo V n) (h3 : W 56 3 = V 56 3) (h68 : W 68 = V 68) (h69 : W 69 = V 69) (h70 : W 70 = V 70) : aMo W n := by
  unfold aMo
  rw [h3, h68, h69, h70]; exact h
/-- the first, and the first again by going down -/
def aFst (P : Nat → Bool) : Nat → Nat → Int
  | 0, _ => -1
  | m + 1, k => if P k = true then k else aFst P m (k + 1)
def aDst (P : Nat → Bool) : Nat → Int → Int
  | 0, x => x
  | m + 1, x => aDst P m (if P m = true then m else x)
theorem aFst_s {P : Nat → Bool} : ∀ m k, aFst P (m + 1) k = if aFst P m k = -1 then (if P (k + m) = true then ((k + m : Nat) : Int) else -1) else aFst P m k := by
  intro m
  induction m with
  | zero => intro k; rfl
  | succ m ih =>
    intro k
    rw [aFst, ih (k + 1), aFst]
    by_cases c : P k = true
    · rw [if_pos c, if_pos c, if_neg (by omega)]
    · rw [if_neg c, if_neg c, show k + 1 + m = k + (m + 1) by omega]
theorem aDst_f {P : Nat → Bool} : ∀ m x, aDst P m x = if aFst P m 0 = -1 then x else aFst P m 0 := by
  intro m
  induction m with
  | zero => intro x; rfl
  | succ m ih =>
    intro x
    rw [aDst, ih, aFst_s, Nat.zero_add]
    by_cases c : aFst P m 0 = -1
    · rw [if_pos c, if_pos c]
      by_cases c2 : P m = true
      · rw [if_pos c2, if_pos c2, if_neg (show ¬ (m : Int) = -1 by omega)]
      · rw [if_neg c2, if_neg c2, if_pos rfl]
    · rw [if_neg c, if_neg c, if_neg c]
theorem aNx_f {c : Nat → Nat → Int} {F : Nat → Int} {x : Nat} : ∀ m k, aNx c F x m k = aFst (fun q => decide (0 < c x q ∧ c x q + F q = F x)) m k := by
  intro m
  induction m with
  | zero => intro k; rfl
  | succ m ih =>
    intro k
    rw [aNx, aFst, ih (k + 1)]
    by_cases c1 : 0 < c x k ∧ c x k + F k = F x
    · rw [if_pos c1, if_pos (decide_eq_true c1)]
    · rw [if_neg c1, if_neg (by rw [decide_eq_true_eq]; exact c1)]
section SX8d
variable {sc : xS} {d : Nat} {T : Nat → Nat × Nat} {z : Nat × Nat} {V : Nat → Nat → Int} {J : Nat → Nat → Int64} {R : Nat → Nat → Option Nat}
theorem m_joins {p x y : Nat} (hM : xMo T R) (hp : p < 40) (hs : aSt (V 68) (V 69) (V 70) p) (hx : x < 8) (hy : y < 8) :
    X sc (d + 1) 118 [.ref 56, xw p, xw x, xw y] (T, z, xv V, J, R) = some (.inl (some (xw (if aJ (V 68) (V 69) p x y then 1 else 0))), (T, z, xv (V), J, R)) := by
  have h1 := aSt_in hs
  have ep : ((p : Int)).toNat = p := Int.toNat_natCast p
  rw [eX7_joins, n_joins_0 hM (by omega) (by rw [ep]; omega) (by omega), ep]
  have k44 : (¬ aJ (V 68) (V 69) p x y) → XR sc d 118 44 [some (.ref 56), some (xw p), some (xw x), some (xw y)] [] (T, z, xv V, J, R) = some (.inl (some (xw (if aJ (V 68) (V 69) p x y then 1 else 0))), (T, z, xv (V), J, R)) := by
    intro q
    rw [bX7_joins_44, bX7_joins_45 (by decide), if_neg q]
  have k40 : aJ (V 68) (V 69) p x y → XR sc d 118 40 [some (.ref 56), some (xw p), some (xw x), some (xw y)] [] (T, z, xv V, J, R) = some (.inl (some (xw (if aJ (V 68) (V 69) p x y then 1 else 0))), (T, z, xv (V), J, R)) := by
    intro q
    rw [bX7_joins_40, bX7_joins_45 (by decide), if_pos q]
  have k20 : ¬ (V 68 p = x ∧ V 69 p = y) → XR sc d 118 20 [some (.ref 56), some (xw p), some (xw x), some (xw y)] [] (T, z, xv V, J, R) = some (.inl (some (xw (if aJ (V 68) (V 69) p x y then 1 else 0))), (T, z, xv (V), J, R)) := by
    intro q
    rw [n_joins_20 hM (by omega) (by rw [ep]; omega) (by omega), ep]
    by_cases c1 : V 68 p = y
    · rw [if_pos c1, n_joins_30 hM (by omega) (by rw [ep]; omega) (by omega), ep]
      by_cases c2 : V 69 p = x
      · rw [if_pos c2, k40 (Or.inr ⟨c1, c2⟩)]
      · rw [if_neg c2, k44 (fun z => z.elim q (fun z => c2 z.2))]
    · rw [if_neg c1, k44 (fun z => z.elim q (fun z => c1 z.1))]
  by_cases c1 : V 68 p = x
  · rw [if_pos c1, n_joins_10 hM (by omega) (by rw [ep]; omega) (by omega), ep]
    by_cases c2 : V 69 p = y
    · rw [if_pos c2, k40 (Or.inl ⟨c1, c2⟩)]
    · rw [if_neg c2, k20 (fun z => c2 z.2)]
  · rw [if_neg c1, k20 (fun z => c1 z.1)]
theorem m_short_loop {x y n : Nat} (hM : xMo T R) (hA : aMo V n) (hx : x < 8) (hy : y < 8) :
    ∀ (m p : Nat), p + m = n →
    XR sc (d + 1) 119 6 [some (.ref 56), some (xw x), some (xw y), some (xw (aS (V 68) (V 69) (V 70) x y p)), some (xw p)] [] (T, z, xv V, J, R) = some (.inl (some (xw (aS (V 68) (V 69) (V 70) x y n))), (T, z, xv (V), J, R)) := by
  obtain ⟨h3, hn, hst⟩ := hA
  intro m
  induction m with
  | zero =>
    intro p hp
    obtain rfl : p = n := by omega
    rw [n_shortest_6 hM (by omega) (by omega), if_pos (by omega), bX7_shortest_55]
  | succ m ih =>
    intro p hp
    have hs := hst p (by omega)
    have h1 := aSt_in hs
    have h2 := aS_in (O := V 68) (Q := V 69) (L := V 70) (x := x) (y := y) p (fun p hp => hst p (by omega))
    have ep : ((p : Int)).toNat = p := Int.toNat_natCast p
    have nxt := ih (p + 1) (by omega)
    rw [aS] at nxt
    rw [n_shortest_6 hM (by omega) (by omega), if_neg (by omega), n_shortest_15 hM, m_joins hM (by omega) hs hx hy, xret_v, bX7_shortest_23 (by split <;> omega)]
    by_cases c1 : aJ (V 68) (V 69) p x y
    · rw [if_neg (by rw [if_pos c1]; decide), n_shortest_26 hM (by omega) (by rw [ep]; omega) (by omega), ep]
      by_cases c2 : aS (V 68) (V 69) (V 70) x y p ≤ V 70 p
      · rw [if_neg (fun q => by omega)] at nxt
        rw [if_pos c2, bX7_shortest_47, bX7_shortest_48, show (p : Int) + 1 = ((p + 1 : Nat) : Int) by omega, nxt]
      · rw [if_pos ⟨c1, by omega⟩] at nxt
        rw [if_neg c2, n_shortest_37 hM (by omega), ep, bX7_shortest_48, show (p : Int) + 1 = ((p + 1 : Nat) : Int) by omega, nxt]
    · rw [if_neg (fun q => c1 q.1)] at nxt
      rw [if_pos (by rw [if_neg c1]), bX7_shortest_47, bX7_shortest_48, show (p : Int) + 1 = ((p + 1 : Nat) : Int) by omega, nxt]
theorem m_shortest {x y n : Nat} (hM : xMo T R) (hA : aMo V n) (hx : x < 8) (hy : y < 8) :
    X sc (d + 2) 119 [.ref 56, xw x, xw y] (T, z, xv V, J, R) = some (.inl (some (xw (aS (V 68) (V 69) (V 70) x y n))), (T, z, xv (V), J, R)) := by
  rw [eX7_shortest, bX7_shortest_0]
  exact m_short_loop hM hA hx hy n 0 (Nat.zero_add n)
/-- all far but the goal, from k on -/
def aI0 (t : Nat) : Nat → Nat → (Nat → Int) → (Nat → Int)
  | 0, _, D => D
  | m + 1, k, D => aI0 t m (k + 1) (va_up D k (if k = t then 0 else 100000000))
theorem aI0_at {t : Nat} : ∀ (m k : Nat) (D : Nat → Int) (r : Nat), aI0 t m k D r = if k ≤ r ∧ r < k + m then (if r = t then 0 else 100000000) else D r := by
  intro m
  induction m with
  | zero => intro k D r; rw [aI0, if_neg (by omega)]
  | succ m ih =>
    intro k D r
    rw [aI0, ih]
    by_cases e : r = k
    · subst e; rw [if_neg (show ¬ (r + 1 ≤ r ∧ r < r + 1 + m) by omega), if_pos (show r ≤ r ∧ r < r + (m + 1) by omega), va_same]
    · rw [va_ne e]
      by_cases c : k + 1 ≤ r ∧ r < k + 1 + m
      · rw [if_pos c, if_pos (show k ≤ r ∧ r < k + (m + 1) by omega)]
      · rw [if_neg c, if_neg (show ¬ (k ≤ r ∧ r < k + (m + 1)) by omega)]
theorem m_far_loop {f t : Nat} {W : Nat → Nat → Int} {o4 o5 o6 o7 : Option Value} (hM : xMo T R) (ht : t < 8) :
    ∀ (m k : Nat) (D : Nat → Int), k + m = 8 →
    XR sc d 120 2 [some (.ref 56), some (xw f), some (xw t), some (xw k), o4, o5, o6, o7] [] (T, z, xv (va_up W 71 D), J, R) = XR sc d 120 33 [some (.ref 56), some (xw f), some (xw t), some (xw 1), o4, o5, o6, o7] [] (T, z, xv (va_up W 71 (aI0 t m k D)), J, R) := by
  intro m
  induction m with
  | zero =>
    intro k D hk
    rw [bX7_finds_2 (by omega), if_pos (by omega), bX7_finds_31, aI0]
  | succ m ih =>
    intro k D hk
    rw [bX7_finds_2 (by omega), if_neg (by omega), n_finds_8 hM (by omega) (by omega), aI0]
    by_cases e : k = t
    · rw [if_pos (by omega), bX7_finds_18, n_finds_24 hM (by omega), up2_va, va_same, va_two, Int.toNat_natCast, if_pos e, show (k : Int) + 1 = ((k + 1 : Nat) : Int) by omega, ih (k + 1) _ (by omega)]
    · rw [if_neg (by omega), bX7_finds_22, n_finds_24 hM (by omega), up2_va, va_same, va_two, Int.toNat_natCast, if_neg e, show (k : Int) + 1 = ((k + 1 : Nat) : Int) by omega, ih (k + 1) _ (by omega)]
/-- one step of the model's sweep -/
def aD1 (S : Nat → Nat → Int) (r q : Nat) (D : Nat → Int) : Int := if S r q < 100000000 ∧ D q < 100000000 ∧ D q + 16 * S r q + 1 < D r then D q + 16 * S r q + 1 else D r
def aQ (S : Nat → Nat → Int) (r : Nat) : Nat → Nat → (Nat → Int) → (Nat → Int)
  | 0, _, D => D
  | m + 1, q, D => aQ S r m (q + 1) (va_up D r (aD1 S r q D))
def aR (S : Nat → Nat → Int) : Nat → Nat → (Nat → Int) → (Nat → Int)
  | 0, _, D => D
  | m + 1, r, D => aR S m (r + 1) (aQ S r 8 0 D)
def aI (S : Nat → Nat → Int) : Nat → (Nat → Int) → (Nat → Int)
  | 0, D => D
  | m + 1, D => aI S m (aR S 8 0 D)
theorem aD1_in {S : Nat → Nat → Int} {r q : Nat} {D : Nat → Int} (hS : 1 ≤ S r q) (hr : 0 ≤ D r ∧ D r ≤ 100000000) (hq : 0 ≤ D q) : 0 ≤ aD1 S r q D ∧ aD1 S r q D ≤ 100000000 := by
  unfold aD1
  split <;> omega
theorem aQ_in {S : Nat → Nat → Int} {r : Nat} (hS : ∀ q, 1 ≤ S r q) (hr : r < 8) : ∀ (m q : Nat) (D : Nat → Int), q + m = 8 → (∀ k, k < 8 → 0 ≤ D k ∧ D k ≤ 100000000) → ∀ k, k < 8 → 0 ≤ aQ S r m q D k ∧ aQ S r m q D k ≤ 100000000 := by
  intro m
  induction m with
  | zero => intro q D _ hD; exact hD
  | succ m ih =>
    intro q D hq hD
    rw [aQ]
    refine ih (q + 1) _ (by omega) (fun k hk => ?_)
    by_cases e : k = r
    · subst e; rw [va_same]; exact aD1_in (hS q) (hD _ hr) (hD q (by omega)).1
    · rw [va_ne e]; exact hD k hk
theorem aR_in {S : Nat → Nat → Int} (hS : ∀ r q, 1 ≤ S r q) : ∀ (m r : Nat) (D : Nat → Int), r + m = 8 → (∀ k, k < 8 → 0 ≤ D k ∧ D k ≤ 100000000) → ∀ k, k < 8 → 0 ≤ aR S m r D k ∧ aR S m r D k ≤ 100000000 := by
  intro m
  induction m with
  | zero => intro r D _ hD; exact hD
  | succ m ih =>
    intro r D hr hD
    rw [aR]
    exact ih (r + 1) _ (by omega) (aQ_in (hS r) (by omega) 8 0 D rfl hD)
theorem m_q_loop {f t r n : Nat} {rnd : Int} {W : Nat → Nat → Int} (hM : xMo T R) (hA : aMo W n) (hr : r < 8) :
    ∀ (m q : Nat) (D : Nat → Int) (o6 o7 : Option Value), q + m = 8 → (∀ k, k < 8 → 0 ≤ D k ∧ D k ≤ 100000000) →
    ∃ o5' o6' o7' : Option Value, XR sc (d + 2) 120 52 [some (.ref 56), some (xw f), some (xw t), some (xw rnd), some (xw r), some (xw q), o6, o7] [] (T, z, xv (va_up W 71 D), J, R) = XR sc (d + 2) 120 42 [some (.ref 56), some (xw f), some (xw t), some (xw rnd), some (xw (r + 1 : Nat)), o5', o6', o7'] [] (T, z, xv (va_up W 71 (aQ (fun x y => aS (W 68) (W 69) (W 70) x y n) r m q D)), J, R) := by
  intro m
  induction m with
  | zero =>
    intro q D o6 o7 hq hD
    refine ⟨some (xw q), o6, o7, ?_⟩
    rw [bX7_finds_52 (by omega), if_pos (by omega), bX7_finds_163, show (r : Int) + 1 = ((r + 1 : Nat) : Int) by omega, aQ]
  | succ m ih =>
    intro q D o6 o7 hq hD
    have hin := aS_in (O := W 68) (Q := W 69) (L := W 70) (x := r) (y := q) n hA.2.2
    have hDq := hD q (by omega)
    have hDr := hD r hr
    have hd := aD1_in (S := fun x y => aS (W 68) (W 69) (W 70) x y n) (r := r) (q := q) (D := D) hin.1 hDr hDq.1
    have hA' : aMo (va_up W 71 D) n := aMo_e hA (by rw [va_ne (by decide)]) (va_ne (by decide)) (va_ne (by decide)) (va_ne (by decide))
    have sh := m_shortest (sc := sc) (d := d) (T := T) (z := z) (V := va_up W 71 D) (J := J) (R := R) (x := r) (y := q) hM hA' hr (by omega)
    rw [va_ne (show ¬ (68 : Nat) = 71 by decide), va_ne (show ¬ (69 : Nat) = 71 by decide), va_ne (show ¬ (70 : Nat) = 71 by decide)] at sh
    have eq7 : ((q : Int)).toNat = q := Int.toNat_natCast q
    have er7 : ((r : Int)).toNat = r := Int.toNat_natCast r
    have yes : ∀ o7 : Option Value, (aS (W 68) (W 69) (W 70) r q n < 100000000 ∧ D q < 100000000 ∧ D q + 16 * aS (W 68) (W 69) (W 70) r q n + 1 < D r) → XR sc (d + 2) 120 113 [some (.ref 56), some (xw f), some (xw t), some (xw rnd), some (xw r), some (xw q), some (xw (aS (W 68) (W 69) (W 70) r q n)), o7] [] (T, z, xv (va_up W 71 D), J, R) = XR sc (d + 2) 120 52 [some (.ref 56), some (xw f), some (xw t), some (xw rnd), some (xw r), some (xw (q + 1 : Nat)), some (xw (aS (W 68) (W 69) (W 70) r q n)), some (xw 1)] [] (T, z, xv (va_up W 71 (va_up D r (aD1 (fun x y => aS (W 68) (W 69) (W 70) x y n) r q D))), J, R) := by
      intro o7 c
      have e : aD1 (fun x y => aS (W 68) (W 69) (W 70) x y n) r q D = D q + 16 * aS (W 68) (W 69) (W 70) r q n + 1 := if_pos c
      rw [bX7_finds_113, n_finds_118 hM (by omega), if_neg (by decide), n_finds_131 hM (by omega), n_finds_156 hM (by omega), eq7, er7, va_same, up2_va, va_same, va_two, e, show (q : Int) + 1 = ((q + 1 : Nat) : Int) by omega]
    have no : ∀ o7 : Option Value, ¬ (aS (W 68) (W 69) (W 70) r q n < 100000000 ∧ D q < 100000000 ∧ D q + 16 * aS (W 68) (W 69) (W 70) r q n + 1 < D r) → XR sc (d + 2) 120 117 [some (.ref 56), some (xw f), some (xw t), some (xw rnd), some (xw r), some (xw q), some (xw (aS (W 68) (W 69) (W 70) r q n)), o7] [] (T, z, xv (va_up W 71 D), J, R) = XR sc (d + 2) 120 52 [some (.ref 56), some (xw f), some (xw t), some (xw rnd), some (xw r), some (xw (q + 1 : Nat)), some (xw (aS (W 68) (W 69) (W 70) r q n)), some (xw 0)] [] (T, z, xv (va_up W 71 (va_up D r (aD1 (fun x y => aS (W 68) (W 69) (W 70) x y n) r q D))), J, R) := by
      intro o7 c
      have e : aD1 (fun x y => aS (W 68) (W 69) (W 70) x y n) r q D = D r := if_neg c
      rw [bX7_finds_117, n_finds_118 hM (by omega), if_pos rfl, n_finds_149 hM (by omega), n_finds_156 hM (by omega), er7, va_same, up2_va, va_same, va_two, e, show (q : Int) + 1 = ((q + 1 : Nat) : Int) by omega]
    have hD' : ∀ k, k < 8 → 0 ≤ va_up D r (aD1 (fun x y => aS (W 68) (W 69) (W 70) x y n) r q D) k ∧ va_up D r (aD1 (fun x y => aS (W 68) (W 69) (W 70) x y n) r q D) k ≤ 100000000 := by
      intro k hk
      by_cases e : k = r
      · subst e; rw [va_same]; exact hd
      · rw [va_ne e]; exact hD k hk
    rw [bX7_finds_52 (by omega), if_neg (by omega), n_finds_59 hM, sh, xret_v, bX7_finds_67 (by omega), aQ]
    by_cases c1 : 100000000 ≤ aS (W 68) (W 69) (W 70) r q n
    · obtain ⟨o5', o6', o7', h⟩ := ih (q + 1) _ (some (xw (aS (W 68) (W 69) (W 70) r q n))) (some (xw 0)) (by omega) hD'
      refine ⟨o5', o6', o7', ?_⟩
      rw [if_pos c1, no _ (by omega)]; exact h
    · rw [if_neg c1, n_finds_76 hM (by omega) (by rw [va_same, eq7]; omega), va_same, eq7]
      by_cases c2 : 100000000 ≤ D q
      · obtain ⟨o5', o6', o7', h⟩ := ih (q + 1) _ (some (xw (aS (W 68) (W 69) (W 70) r q n))) (some (xw 0)) (by omega) hD'
        refine ⟨o5', o6', o7', ?_⟩
        rw [if_pos c2, no _ (by omega)]; exact h
      · rw [if_neg c2, n_finds_88 hM (by omega) (by omega) (by rw [va_same, eq7]; omega) (by rw [va_same, er7]; omega), va_same, eq7, er7]
        by_cases c3 : D r ≤ D q + 16 * aS (W 68) (W 69) (W 70) r q n + 1
        · obtain ⟨o5', o6', o7', h⟩ := ih (q + 1) _ (some (xw (aS (W 68) (W 69) (W 70) r q n))) (some (xw 0)) (by omega) hD'
          refine ⟨o5', o6', o7', ?_⟩
          rw [if_pos c3, no _ (by omega)]; exact h
        · obtain ⟨o5', o6', o7', h⟩ := ih (q + 1) _ (some (xw (aS (W 68) (W 69) (W 70) r q n))) (some (xw 1)) (by omega) hD'
          refine ⟨o5', o6', o7', ?_⟩
          rw [if_neg c3, yes _ (by omega)]; exact h
theorem m_r_loop {f t n : Nat} {rnd : Int} {W : Nat → Nat → Int} (hM : xMo T R) (hA : aMo W n) :
    ∀ (m r : Nat) (D : Nat → Int) (o5 o6 o7 : Option Value), r + m = 8 → (∀ k, k < 8 → 0 ≤ D k ∧ D k ≤ 100000000) →
    ∃ o4' o5' o6' o7' : Option Value, XR sc (d + 2) 120 42 [some (.ref 56), some (xw f), some (xw t), some (xw rnd), some (xw r), o5, o6, o7] [] (T, z, xv (va_up W 71 D), J, R) = XR sc (d + 2) 120 33 [some (.ref 56), some (xw f), some (xw t), some (xw (rnd + 1)), o4', o5', o6', o7'] [] (T, z, xv (va_up W 71 (aR (fun x y => aS (W 68) (W 69) (W 70) x y n) m r D)), J, R) := by
  have hS : ∀ r q, 1 ≤ aS (W 68) (W 69) (W 70) r q n := fun r q => (aS_in n hA.2.2).1
  intro m
  induction m with
  | zero =>
    intro r D o5 o6 o7 hr hD
    refine ⟨some (xw r), o5, o6, o7, ?_⟩
    rw [bX7_finds_42 (by omega), if_pos (by omega), bX7_finds_169, aR]
  | succ m ih =>
    intro r D o5 o6 o7 hr hD
    obtain ⟨p5, p6, p7, h1⟩ := m_q_loop (sc := sc) (d := d) (z := z) (J := J) (f := f) (t := t) (r := r) (rnd := rnd) hM hA (by omega) 8 0 D o6 o7 rfl hD
    obtain ⟨q4, q5, q6, q7, h2⟩ := ih (r + 1) _ p5 p6 p7 (by omega) (aQ_in (S := fun x y => aS (W 68) (W 69) (W 70) x y n) (r := r) (hS r) (by omega) 8 0 D rfl hD)
    refine ⟨q4, q5, q6, q7, ?_⟩
    rw [bX7_finds_42 (by omega), if_neg (by omega), bX7_finds_49, aR, ← h2]
    exact h1
theorem m_rnd_loop {f t n : Nat} {W : Nat → Nat → Int} (hM : xMo T R) (hA : aMo W n) :
    ∀ (m k : Nat) (D : Nat → Int) (o4 o5 o6 o7 : Option Value), k + m = 8 → (∀ k, k < 8 → 0 ≤ D k ∧ D k ≤ 100000000) →
    ∃ o3' o4' o5' o6' o7' : Option Value, XR sc (d + 2) 120 33 [some (.ref 56), some (xw f), some (xw t), some (xw k), o4, o5, o6, o7] [] (T, z, xv (va_up W 71 D), J, R) = XR sc (d + 2) 120 175 [some (.ref 56), some (xw f), some (xw t), o3', o4', o5', o6', o7'] [] (T, z, xv (va_up W 71 (aI (fun x y => aS (W 68) (W 69) (W 70) x y n) m D)), J, R) := by
  have hS : ∀ r q, 1 ≤ aS (W 68) (W 69) (W 70) r q n := fun r q => (aS_in n hA.2.2).1
  intro m
  induction m with
  | zero =>
    intro k D o4 o5 o6 o7 hk hD
    refine ⟨some (xw k), o4, o5, o6, o7, ?_⟩
    rw [bX7_finds_33 (by omega), if_pos (by omega), aI]
  | succ m ih =>
    intro k D o4 o5 o6 o7 hk hD
    obtain ⟨p4, p5, p6, p7, h1⟩ := m_r_loop (sc := sc) (d := d) (z := z) (J := J) (f := f) (t := t) (rnd := k) hM hA 8 0 D o5 o6 o7 rfl hD
    obtain ⟨q3, q4, q5, q6, q7, h2⟩ := ih (k + 1) _ p4 p5 p6 p7 (by omega) (aR_in (S := fun x y => aS (W 68) (W 69) (W 70) x y n) hS 8 0 D rfl hD)
    refine ⟨q3, q4, q5, q6, q7, ?_⟩
    rw [bX7_finds_33 (by omega), if_neg (by omega), bX7_finds_39, aI, ← h2]
    exact h1
end SX8d
/-! the model's sweeps come to the same distances -/
theorem aQ_s {S : Nat → Nat → Int} {F : Nat → Int} {c : Nat → Nat → Int} {t : Nat} (hc : ∀ r q, c r q = if S r q < 100000000 then S r q * 16 + 1 else 0) (hS : ∀ r q, 1 ≤ S r q) (h : aB 100000000 c t F) {r : Nat} (hr : r < 8) (hrr : ¬ 0 < c r r) : ∀ (m q : Nat) (D : Nat → Int), q + m = 8 → (∀ r, r < 8 → F r ≤ D r ∧ D r ≤ 100000000) →
    (∀ x, x < 8 → F x ≤ aQ S r m q D x ∧ aQ S r m q D x ≤ D x) ∧ (∀ x, ¬ x = r → aQ S r m q D x = D x) ∧ (∀ j, q ≤ j → j < 8 → 0 < c r j → aQ S r m q D r ≤ c r j + D j) := by
  intro m
  induction m with
  | zero => intro q D hq hD; exact ⟨fun x hx => ⟨(hD x hx).1, Int.le_refl _⟩, fun x _ => rfl, fun j h1 h2 => by omega⟩
  | succ m ih =>
    intro q D hq hD
    have dr := hD r hr
    have dq := hD q (by omega)
    have hrq := hc r q
    have e1 : F r ≤ aD1 S r q D ∧ aD1 S r q D ≤ D r := by
      unfold aD1
      split
      · next g =>
        rw [if_pos g.1] at hrq
        have := h.2.2.1 r q hr (by omega) (by have := hS r q; omega)
        omega
      · omega
    have e2 : 0 < c r q → aD1 S r q D ≤ c r q + D q := by
      intro cp
      by_cases g : S r q < 100000000
      · rw [if_pos g] at hrq
        unfold aD1
        split <;> omega
      · rw [if_neg g] at hrq; omega
    rw [aQ]
    have d1 : ∀ x, x < 8 → F x ≤ va_up D r (aD1 S r q D) x ∧ va_up D r (aD1 S r q D) x ≤ D x := by
      intro x hx
      by_cases e : x = r
      · subst e; rw [va_same]; exact e1
      · rw [va_ne e]; exact ⟨(hD x hx).1, Int.le_refl _⟩
    obtain ⟨i1, i2, i3⟩ := ih (q + 1) (va_up D r (aD1 S r q D)) (by omega) (fun x hx => ⟨(d1 x hx).1, by have := d1 x hx; have := hD x hx; omega⟩)
    refine ⟨fun x hx => ?_, fun x hx => ?_, fun j h1 h2 cp => ?_⟩
    · have := i1 x hx
      have := d1 x hx
      omega
    · rw [i2 x hx, va_ne hx]
    · have hjr : ¬ j = r := by intro e; subst e; exact hrr cp
      by_cases e : j = q
      · subst e
        have := i1 r hr
        rw [va_same] at this
        have := e2 cp
        omega
      · have := i3 j (by omega) h2 cp
        rw [va_ne hjr] at this
        exact this
theorem aR_s {S : Nat → Nat → Int} {F : Nat → Int} {c : Nat → Nat → Int} {t : Nat} (hc : ∀ r q, c r q = if S r q < 100000000 then S r q * 16 + 1 else 0) (hS : ∀ r q, 1 ≤ S r q) (h : aB 100000000 c t F) (hrr : ∀ r, ¬ 0 < c r r) : ∀ (m k : Nat) (D : Nat → Int), k + m = 8 → (∀ r, r < 8 → F r ≤ D r ∧ D r ≤ 100000000) →
    (∀ r, r < 8 → F r ≤ aR S m k D r ∧ aR S m k D r ≤ D r) ∧ (∀ r q, k ≤ r → r < 8 → q < 8 → 0 < c r q → aR S m k D r ≤ c r q + D q) := by
  intro m
  induction m with
  | zero => intro k D hk hD; exact ⟨fun r hr => ⟨(hD r hr).1, Int.le_refl _⟩, fun r q h1 h2 => by omega⟩
  | succ m ih =>
    intro k D hk hD
    obtain ⟨a1, a2, a3⟩ := aQ_s hc hS h (show k < 8 by omega) (hrr k) 8 0 D rfl hD
    rw [aR]
    obtain ⟨i1, i2⟩ := ih (k + 1) (aQ S k 8 0 D) (by omega) (fun r hr => by have := a1 r hr; have := hD r hr; omega)
    refine ⟨fun r hr => ?_, fun r q h1 hr hq cp => ?_⟩
    · have := i1 r hr
      have := a1 r hr
      omega
    · by_cases e : r = k
      · subst e
        have := i1 r hr
        have := a3 q (by omega) hq cp
        omega
      · have := i2 r q (by omega) hr hq cp
        have := a1 q hq
        omega
theorem aI_s {S : Nat → Nat → Int} {F : Nat → Int} {c : Nat → Nat → Int} {t : Nat} (hc : ∀ r q, c r q = if S r q < 100000000 then S r q * 16 + 1 else 0) (hS : ∀ r q, 1 ≤ S r q) (ht : t < 8) (h : aB 100000000 c t F) (hrr : ∀ r, ¬ 0 < c r r) : ∀ (m k : Nat) (D : Nat → Int), (∀ r, r < 8 → F r ≤ D r ∧ D r ≤ 100000000) → (∀ r, r < 8 → aK F r ≤ k → D r = F r) → ∀ r, r < 8 → aK F r ≤ k + m → aI S m D r = F r := by
  intro m
  induction m with
  | zero => intro k D _ hk r hr hkr; exact hk r hr hkr
  | succ m ih =>
    intro k D hD hk r hr hkr
    obtain ⟨w1, w2⟩ := aR_s hc hS h hrr 8 0 D rfl hD
    rw [aI]
    refine ih (k + 1) _ (fun r hr => by have := w1 r hr; have := hD r hr; omega) ?_ r hr (by omega)
    exact aSwp_k h ht hD hk ⟨w1, fun r q hr hq cp => w2 r q (by omega) hr hq cp⟩
theorem aI_F {S : Nat → Nat → Int} {F D0 : Nat → Int} {c : Nat → Nat → Int} {t : Nat} (hc : ∀ r q, c r q = if S r q < 100000000 then S r q * 16 + 1 else 0) (hS : ∀ r q, 1 ≤ S r q) (ht : t < 8) (h : aB 100000000 c t F) (hrr : ∀ r, ¬ 0 < c r r) (h0 : ∀ r, r < 8 → D0 r = if r = t then 0 else 100000000) : ∀ r, r < 8 → aI S 7 D0 r = F r := by
  intro r hr
  refine aI_s hc hS ht h hrr 7 0 D0 (fun r hr => ?_) (fun r hr hk => ?_) r hr (by have := aK_7 (F := F) hr; omega)
  · have := h.2.1 r hr
    rw [h0 r hr]
    by_cases e : r = t
    · subst e; rw [if_pos rfl, h.1]; omega
    · rw [if_neg e]; omega
  · have e := aK_0 (by decide) ht h hr (by omega)
    subst e; rw [h0 r hr, if_pos rfl, h.1]
