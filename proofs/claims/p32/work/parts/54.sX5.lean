/-! what the methods of Seat do -/
section SX5
variable {sc : xS} {d : Nat} {T : Nat → Nat × Nat} {z : Nat × Nat} {V : Nat → Nat → Int} {J : Nat → Nat → Int64} {R : Nat → Nat → Option Nat}
/-- the seat stands at a: gaps at g, sorted at s -/
def xSe (T : Nat → Nat × Nat) (R : Nat → Nat → Option Nat) (a g s : Nat) : Prop := T a = (6, 0) ∧ R a 0 = some g ∧ R a 1 = some s ∧ T g = (32, 7) ∧ T s = (32, 7)
/-- a saddle stands at a: heights at e, flocks at f -/
def xSa (T : Nat → Nat × Nat) (R : Nat → Nat → Option Nat) (a e f : Nat) : Prop := T a = (4, 0) ∧ R a 0 = some e ∧ R a 1 = some f ∧ T e = (32, 7) ∧ T f = (32, 7)
def xMe (V : Nat → Nat → Int) (g e f h : Nat) (n : Nat) : Nat → Nat → Int := fun b j => if b = g ∧ n ≤ j ∧ j < 7 then V e j - V f j - V h j else V b j
theorem measure_loop {a g s sa e f ho h p q : Nat} (hS : xSe T R a g s) (hA : xSa T R sa e f) (hO : xHo T R ho h p q) (hd : ¬ e = g ∧ ¬ f = g ∧ ¬ h = g) :
    ∀ (m k : Nat) (V : Nat → Nat → Int), k + m = 7 →
    XR sc d 41 2 [some (.ref a), some (.ref ho), some (.ref sa), some (xw k)] [] (T, z, xv V, J, R) = some (.inl none, (T, z, xv (xMe V g e f h k), J, R)) := by
  obtain ⟨s1, s2, s3, s4, s5⟩ := hS
  obtain ⟨a1, a2, a3, a4, a5⟩ := hA
  obtain ⟨o1, o2, o3, o4, o5, o6, o7⟩ := hO
  intro m
  induction m with
  | zero =>
    intro k V hk
    rw [bX5_measure_2 (by omega), if_pos (by omega), bX5_measure_40]
    have : xMe V g e f h k = V := by
      funext b j
      simp only [xMe]
      split
      · omega
      · rfl
    rw [this]
  | succ m ih =>
    intro k V hk
    have e1 : xMe (xup2 V g k (V e k - V f k - V h k)) g e f h (k + 1) = xMe V g e f h k := by
      funext b j
      simp only [xMe, xup2, hd.1, hd.2.1, hd.2.2, false_and, if_false]
      by_cases hb : b = g
      · subst hb
        by_cases hj : j = k
        · subst hj
          rw [if_neg (by omega), if_pos ⟨rfl, rfl⟩, if_pos (by omega)]
        · simp only [true_and, hj, if_false]
          split <;> split <;> first | rfl | omega
      · simp only [hb, false_and, if_false]
    rw [bX5_measure_2 (by omega), if_neg (by omega), bX5_measure_8 s1 (rgd s2) a1 (rgd a2) (tgd a2 a4) (igd a2 a4 (by omega)) (rgd a3) (tgd a3 a5) (igd a3 a5 (by omega)) o1 (rgd o2) (tgd o2 o5) (igd o2 o5 (by omega)) (tgd s2 s4) (igd s2 s4 (by omega)), s2, a2, a3, o2]
    simp only [Option.getD_some, Int.toNat_natCast]
    rw [show (k : Int) + 1 = ((k + 1 : Nat) : Int) by omega, ih (k + 1) _ (by omega), e1]
theorem s_measure {a g s sa e f ho h p q : Nat} (hS : xSe T R a g s) (hA : xSa T R sa e f) (hO : xHo T R ho h p q) (hd : ¬ e = g ∧ ¬ f = g ∧ ¬ h = g) :
    X sc (d + 1) 41 [.ref a, .ref ho, .ref sa] (T, z, xv V, J, R) = some (.inl none, (T, z, xv (xMe V g e f h 0), J, R)) := by
  rw [eX5_measure, bX5_measure_0]
  exact measure_loop hS hA hO hd 7 0 V rfl
theorem s_pressureAt {a g s : Nat} {k dp : Int} (hS : xSe T R a g s) (hk : 0 ≤ k ∧ k < 7) (hg : -1000 ≤ V g k.toNat ∧ V g k.toNat ≤ 1000) (hd : -5000 ≤ dp ∧ dp ≤ 5000) :
    X sc (d + 2) 42 [.ref a, xw k, xw dp] (T, z, xv V, J, R) = some (.inl (some (xw (4 * max 0 (dp - V g k.toNat)))), (T, z, xv V, J, R)) := by
  obtain ⟨s1, s2, s3, s4, s5⟩ := hS
  have e : (R a 0).getD 0 = g := by rw [s2]; rfl
  rw [eX5_pressureAt, bX5_pressureAt_0 s1 (rgd s2) (tgd s2 s4) (igd s2 s4 (by omega)), e, s_max (by decide) (by omega), xret_v, bX5_pressureAt_13]
/-- what m sections from k on bear together at a depth -/
def xTo (G : Nat → Int) (dp : Int) : Nat → Nat → Int
  | 0, _ => 0
  | m + 1, k => 4 * max 0 (dp - G k) + xTo G dp m (k + 1)
theorem xTo_in {G : Nat → Int} {dp : Int} (hG : ∀ k, k < 7 → -1000 ≤ G k ∧ G k ≤ 1000) (hd : -5000 ≤ dp ∧ dp ≤ 5000) : ∀ m k, k + m ≤ 7 → 0 ≤ xTo G dp m k ∧ xTo G dp m k ≤ 24000 * m := by
  intro m
  induction m with
  | zero => intro k hk; simp [xTo]
  | succ m ih =>
    intro k hk
    have h1 := ih (k + 1) (by omega)
    have h2 := hG k (by omega)
    simp only [xTo]
    omega
theorem together_loop {a g s : Nat} {dp : Int} (hS : xSe T R a g s) (hg : ∀ k, k < 7 → -1000 ≤ V g k ∧ V g k ≤ 1000) (hd : -5000 ≤ dp ∧ dp ≤ 5000) :
    ∀ (m k : Nat) (n : Int), k + m = 7 →
    XR sc (d + 2) 47 4 [some (.ref a), some (xw dp), some (xw n), some (xw k)] [] (T, z, xv V, J, R) = some (.inl (some (xw (n + xTo (V g) dp m k))), (T, z, xv V, J, R)) := by
  intro m
  induction m with
  | zero =>
    intro k n hk
    rw [bX5_together_4 (by omega), if_pos (by omega), bX5_together_25, xTo, Int.add_zero]
  | succ m ih =>
    intro k n hk
    rw [bX5_together_4 (by omega), if_neg (by omega), bX5_together_10 hS.1, s_pressureAt hS (by omega) (by rw [Int.toNat_natCast]; exact hg k (by omega)) hd, xret_v, bX5_together_17, Int.toNat_natCast, show (k : Int) + 1 = ((k + 1 : Nat) : Int) by omega, ih (k + 1) _ (by omega), xTo, Int.add_assoc]
theorem s_together {a g s : Nat} {dp : Int} (hS : xSe T R a g s) (hg : ∀ k, k < 7 → -1000 ≤ V g k ∧ V g k ≤ 1000) (hd : -5000 ≤ dp ∧ dp ≤ 5000) :
    X sc (d + 3) 47 [.ref a, xw dp] (T, z, xv V, J, R) = some (.inl (some (xw (xTo (V g) dp 7 0))), (T, z, xv V, J, R)) := by
  have := together_loop (sc := sc) (d := d) (z := z) (J := J) hS hg hd 7 0 0 rfl
  rw [Int.zero_add] at this
  rw [eX5_together, bX5_together_0]
  exact this
/-- the depth of a weight: there it is borne, a step above it is not -/
def xDe (G : Nat → Int) (w r : Int) : Prop := xTo G (r - 1) 7 0 < w ∧ w ≤ xTo G r 7 0
theorem xTo_mono {G : Nat → Int} {p q : Int} (h : p ≤ q) : ∀ m k, xTo G p m k ≤ xTo G q m k := by
  intro m
  induction m with
  | zero => intro k; exact Int.le_refl _
  | succ m ih =>
    intro k
    have := ih (k + 1)
    simp only [xTo]
    omega
theorem xDe_one {G : Nat → Int} {w r r' : Int} (h : xDe G w r) (h' : xDe G w r') : r = r' := by
  obtain ⟨a1, a2⟩ := h
  obtain ⟨b1, b2⟩ := h'
  by_cases c : r < r'
  · have := xTo_mono (G := G) (show r ≤ r' - 1 by omega) 7 0; omega
  · by_cases c' : r' < r
    · have := xTo_mono (G := G) (show r' ≤ r - 1 by omega) 7 0; omega
    · omega
/-- the least of m gaps from k on and of x -/
def xMi (G : Nat → Int) : Nat → Nat → Int → Int
  | 0, _, x => x
  | m + 1, k, x => xMi G m (k + 1) (min x (G k))
theorem xMi_le {G : Nat → Int} : ∀ m k x, xMi G m k x ≤ x ∧ ∀ j, k ≤ j → j < k + m → xMi G m k x ≤ G j := by
  intro m
  induction m with
  | zero => intro k x; exact ⟨Int.le_refl _, fun j h1 h2 => by omega⟩
  | succ m ih =>
    intro k x
    have h := ih (k + 1) (min x (G k))
    simp only [xMi]
    refine ⟨by omega, fun j h1 h2 => ?_⟩
    by_cases c : j = k
    · subst c; omega
    · exact h.2 j (by omega) (by omega)
theorem xMi_at {G : Nat → Int} : ∀ m k x, xMi G m k x = x ∨ ∃ j, k ≤ j ∧ j < k + m ∧ xMi G m k x = G j := by
  intro m
  induction m with
  | zero => intro k x; exact Or.inl rfl
  | succ m ih =>
    intro k x
    simp only [xMi]
    rcases ih (k + 1) (min x (G k)) with h | ⟨j, h1, h2, h3⟩
    · by_cases c : x ≤ G k
      · left; omega
      · right; exact ⟨k, by omega, by omega, by omega⟩
    · right; exact ⟨j, by omega, by omega, h3⟩
theorem xTo_zero {G : Nat → Int} {p : Int} : ∀ m k, (∀ j, k ≤ j → j < k + m → p ≤ G j) → xTo G p m k = 0 := by
  intro m
  induction m with
  | zero => intro k _; rfl
  | succ m ih =>
    intro k h
    have h1 := ih (k + 1) (fun j a b => h j (by omega) (by omega))
    have h2 := h k (by omega) (by omega)
    simp only [xTo]
    omega
theorem xTo_one {G : Nat → Int} {p : Int} : ∀ m k j, k ≤ j → j < k + m → 4 * (p - G j) ≤ xTo G p m k := by
  have pos : ∀ m k, 0 ≤ xTo G p m k := by
    intro m
    induction m with
    | zero => intro k; exact Int.le_refl _
    | succ m ih => intro k; have := ih (k + 1); simp only [xTo]; omega
  intro m
  induction m with
  | zero => intro k j h1 h2; omega
  | succ m ih =>
    intro k j h1 h2
    simp only [xTo]
    by_cases c : j = k
    · subst c; have := pos m (j + 1); omega
    · have := ih (k + 1) j (by omega) (by omega); omega
theorem least_loop {a g s : Nat} (hS : xSe T R a g s) (hg : ∀ k, k < 7 → -1000 ≤ V g k ∧ V g k ≤ 1000) {o1 : Option Value} :
    ∀ (m k : Nat) (x : Int) (o6 : Option Value), k + m = 7 → -1000 ≤ x ∧ x ≤ 1000 →
    ∃ o6' : Option Value, XR sc (d + 1) 43 19 [some (.ref a), o1, some (xw x), some (.ref g), some (xw 7), some (xw k), o6] [] (T, z, xv V, J, R) = XR sc (d + 1) 43 45 [some (.ref a), o1, some (xw (xMi (V g) m k x)), some (.ref g), some (xw 7), some (xw 7), o6'] [] (T, z, xv V, J, R) := by
  intro m
  induction m with
  | zero =>
    intro k x o6 hk hx
    obtain rfl : k = 7 := by omega
    refine ⟨o6, ?_⟩
    rw [show ((7 : Nat) : Int) = 7 from rfl, bX5_depthBySearch_19 (by decide) (by decide), if_pos (by decide), xMi]
  | succ m ih =>
    intro k x o6 hk hx
    have hv := hg k (by omega)
    obtain ⟨o6', h⟩ := ih (k + 1) (min x (V g k)) (some (xw (V g k))) (by omega) (by omega)
    refine ⟨o6', ?_⟩
    rw [bX5_depthBySearch_19 (by omega) (by decide), if_neg (by omega), bX5_depthBySearch_26 (by rw [hS.2.2.2.1]) (by rw [hS.2.2.2.1]; omega), Int.toNat_natCast, s_min (by omega) (by omega), xret_v, bX5_depthBySearch_38, show (k : Int) + 1 = ((k + 1 : Nat) : Int) by omega, h, xMi]
theorem halve_loop {a g s : Nat} {w : Int} (hS : xSe T R a g s) (hg : ∀ k, k < 7 → -1000 ≤ V g k ∧ V g k ≤ 1000) (hw : 1 ≤ w ∧ w ≤ 10000) {o2 o3 o4 : Option Value} :
    ∀ (m k : Nat) (lo hi : Int) (o6 : Option Value), k + m = 40 → -5000 ≤ lo ∧ lo < hi ∧ hi ≤ 5000 → hi - lo ≤ 2 ^ m → xTo (V g) lo 7 0 < w → w ≤ xTo (V g) hi 7 0 →
    ∃ r, -5000 ≤ r ∧ r ≤ 5000 ∧ xDe (V g) w r ∧ XR sc (d + 4) 43 61 [some (.ref a), some (xw w), o2, some (xw lo), some (xw hi), some (xw k), o6] [] (T, z, xv V, J, R) = some (.inl (some (xw r)), (T, z, xv V, J, R)) := by
  intro m
  induction m with
  | zero =>
    intro k lo hi o6 hk hb hp h1 h2
    refine ⟨hi, by omega, by omega, ⟨?_, h2⟩, ?_⟩
    · rw [show hi - 1 = lo by omega]; exact h1
    · rw [bX5_depthBySearch_61 (by omega), if_pos (by omega), bX5_depthBySearch_112]
  | succ m ih =>
    intro k lo hi o6 hk hb hp h1 h2
    rw [bX5_depthBySearch_61 (by omega), if_neg (by omega), bX5_depthBySearch_68 (by omega)]
    by_cases c : hi - lo ≤ 1
    · refine ⟨hi, by omega, by omega, ⟨?_, h2⟩, ?_⟩
      · rw [show hi - 1 = lo by omega]; exact h1
      · rw [if_pos c, bX5_depthBySearch_112]
    · have hq : -5000 ≤ lo + (hi - lo) / 2 ∧ lo + (hi - lo) / 2 ≤ 5000 := by omega
      have ht := xTo_in (G := V g) hg hq 7 0 (by omega)
      have e2 : (2 : Int) ^ (m + 1) = 2 * 2 ^ m := by rw [Int.pow_succ, Int.mul_comm]
      rw [if_neg c, bX5_depthBySearch_76 (by omega) hS.1, s_together hS hg hq, xret_v, bX5_depthBySearch_92 (by omega) (by omega)]
      by_cases c2 : xTo (V g) (lo + (hi - lo) / 2) 7 0 < w
      · obtain ⟨r, r1, r2, r3, r4⟩ := ih (k + 1) (lo + (hi - lo) / 2) hi (some (xw (lo + (hi - lo) / 2))) (by omega) (by omega) (by omega) c2 h2
        refine ⟨r, r1, r2, r3, ?_⟩
        rw [if_pos c2, bX5_depthBySearch_103, bX5_depthBySearch_106, show (k : Int) + 1 = ((k + 1 : Nat) : Int) by omega, r4]
      · obtain ⟨r, r1, r2, r3, r4⟩ := ih (k + 1) lo (lo + (hi - lo) / 2) (some (xw (lo + (hi - lo) / 2))) (by omega) (by omega) (by omega) h1 (by omega)
        refine ⟨r, r1, r2, r3, ?_⟩
        rw [if_neg c2, bX5_depthBySearch_96, bX5_depthBySearch_106, show (k : Int) + 1 = ((k + 1 : Nat) : Int) by omega, r4]
theorem s_depthBySearch {a g s : Nat} {w : Int} (hS : xSe T R a g s) (hg : ∀ k, k < 7 → -1000 ≤ V g k ∧ V g k ≤ 1000) (hw : 1 ≤ w ∧ w ≤ 10000) :
    ∃ r, -5000 ≤ r ∧ r ≤ 5000 ∧ xDe (V g) w r ∧ X sc (d + 5) 43 [.ref a, xw w] (T, z, xv V, J, R) = some (.inl (some (xw r)), (T, z, xv V, J, R)) := by
  obtain ⟨s1, s2, s3, s4, s5⟩ := hS
  have e : (R a 0).getD 0 = g := by rw [s2]; rfl
  have h0 := hg 0 (by omega)
  obtain ⟨o6, h⟩ := least_loop (sc := sc) (d := d + 3) (z := z) (J := J) (o1 := some (xw w)) ⟨s1, s2, s3, s4, s5⟩ hg 7 0 (V g 0) none rfl h0
  have hl := xMi_le (G := V g) 7 0 (V g 0)
  have ha : ∃ j, j < 7 ∧ xMi (V g) 7 0 (V g 0) = V g j := by
    rcases xMi_at (G := V g) 7 0 (V g 0) with q | ⟨j, q1, q2, q3⟩
    · exact ⟨0, by omega, q⟩
    · exact ⟨j, by omega, q3⟩
  obtain ⟨j, hj, hjm⟩ := ha
  have hjv := hg j hj
  have hb : -1000 ≤ xMi (V g) 7 0 (V g 0) ∧ xMi (V g) 7 0 (V g 0) ≤ 1000 := by rw [hjm]; exact hjv
  have t1 : xTo (V g) (xMi (V g) 7 0 (V g 0)) 7 0 = 0 := xTo_zero 7 0 (fun q q1 q2 => hl.2 q q1 q2)
  have t2 : w ≤ xTo (V g) (xMi (V g) 7 0 (V g 0) + (w + 4 - 1) / 4) 7 0 := by
    have := xTo_one (G := V g) (p := xMi (V g) 7 0 (V g 0) + (w + 4 - 1) / 4) 7 0 j (by omega) (by omega)
    rw [← hjm] at this
    omega
  have hp40 : (2 : Int) ^ 40 = 1099511627776 := by decide
  obtain ⟨r, r1, r2, r3, r4⟩ := halve_loop (sc := sc) (d := d) (z := z) (J := J) (o2 := some (xw (xMi (V g) 7 0 (V g 0)))) (o3 := none) (o4 := none) ⟨s1, s2, s3, s4, s5⟩ hg hw 40 0 (xMi (V g) 7 0 (V g 0)) (xMi (V g) 7 0 (V g 0) + (w + 4 - 1) / 4) o6 rfl (by omega) (by rw [hp40]; omega) (by omega) t2
  refine ⟨r, r1, r2, r3, ?_⟩
  rw [eX5_depthBySearch, bX5_depthBySearch_0 s1 (rgd s2) (tgd s2 s4) (igd s2 s4 (by omega)) rfl (lgd s2 s4 (by decide)), e, s4]
  refine Eq.trans h ?_
  rw [bX5_depthBySearch_45 (by omega)]
  exact r4
/-- whether one of m sections from k on is pressed -/
def xPr (G : Nat → Int) (dp : Int) : Nat → Nat → Bool
  | 0, _ => false
  | m + 1, k => if 4 * max 0 (dp - G k) ≤ 0 then xPr G dp m (k + 1) else true
theorem pressed_loop {a g s en : Nat} {dp : Int} (hS : xSe T R a g s) (hg : ∀ k, k < 7 → -1000 ≤ V g k ∧ V g k ≤ 1000) (hd : -5000 ≤ dp ∧ dp ≤ 5000) (he : en ≤ 7) {o1 : Option Value} :
    ∀ (m k : Nat), k + m = en →
    XR sc (d + 2) 46 3 [some (.ref a), o1, some (xw en), some (xw dp), some (xw k)] [] (T, z, xv V, J, R) = some (.inl (some (xw (xB (xPr (V g) dp m k)))), (T, z, xv V, J, R)) := by
  intro m
  induction m with
  | zero =>
    intro k hk
    rw [bX5_isPressed_3 (by omega) (by omega), if_pos (by omega), bX5_isPressed_27]; rfl
  | succ m ih =>
    intro k hk
    have hv := hg k (by omega)
    rw [bX5_isPressed_3 (by omega) (by omega), if_neg (by omega), bX5_isPressed_9 hS.1, s_pressureAt hS (by omega) (by rw [Int.toNat_natCast]; exact hv) hd, xret_v, Int.toNat_natCast, bX5_isPressed_16 (by omega), xPr]
    by_cases c : 4 * max 0 (dp - V g k) ≤ 0
    · rw [if_pos c, if_pos c, bX5_isPressed_21, show (k : Int) + 1 = ((k + 1 : Nat) : Int) by omega, ih (k + 1) (by omega)]
    · rw [if_neg c, if_neg c, bX5_isPressed_19]; rfl
theorem s_isPressed {a g s st m : Nat} {dp : Int} (hS : xSe T R a g s) (hg : ∀ k, k < 7 → -1000 ≤ V g k ∧ V g k ≤ 1000) (hd : -5000 ≤ dp ∧ dp ≤ 5000) (he : st + m ≤ 7) :
    X sc (d + 3) 46 [.ref a, xw st, xw ((st + m : Nat) : Int), xw dp] (T, z, xv V, J, R) = some (.inl (some (xw (xB (xPr (V g) dp m st)))), (T, z, xv V, J, R)) := by
  rw [eX5_isPressed, bX5_isPressed_0]
  exact pressed_loop hS hg hd he m st rfl
def xBr (G : Nat → Int) (dp : Int) : Nat → Nat → Int → Int
  | 0, _, b => b
  | m + 1, k, b => xBr G dp m (k + 1) (if 4 * max 0 (dp - G k) = 0 ∧ xPr G dp k 0 = true ∧ xPr G dp (6 - k) (k + 1) = true then iOr b (iShl 1 k) else b)
theorem bits_loop {a g s : Nat} {dp : Int} (hS : xSe T R a g s) (hg : ∀ k, k < 7 → -1000 ≤ V g k ∧ V g k ≤ 1000) (hd : -5000 ≤ dp ∧ dp ≤ 5000) :
    ∀ (m k : Nat) (b : Int), k + m = 6 → 1 ≤ k →
    XR sc (d + 3) 45 4 [some (.ref a), some (xw dp), some (xw b), some (xw k)] [] (T, z, xv V, J, R) = some (.inl (some (xw (xBr (V g) dp m k b))), (T, z, xv V, J, R)) := by
  intro m
  induction m with
  | zero =>
    intro k b hk h1
    rw [bX5_bridgeBits_4 (by omega), if_pos (by omega), bX5_bridgeBits_54]; rfl
  | succ m ih =>
    intro k b hk h1
    have hv := hg k (by omega)
    have no : ∀ b : Int, XR sc (d + 3) 45 48 [some (.ref a), some (xw dp), some (xw b), some (xw k)] [] (T, z, xv V, J, R) = some (.inl (some (xw (xBr (V g) dp m (k + 1) b))), (T, z, xv V, J, R)) := by
      intro b
      rw [bX5_bridgeBits_48, show (k : Int) + 1 = ((k + 1 : Nat) : Int) by omega, ih (k + 1) b (by omega) (by omega)]
    have p1 := s_isPressed (sc := sc) (d := d) (z := z) (J := J) (st := 0) (m := k) hS hg hd (by omega)
    have p2 := s_isPressed (sc := sc) (d := d) (z := z) (J := J) (st := k + 1) (m := 6 - k) hS hg hd (by omega)
    rw [Nat.zero_add, show ((0 : Nat) : Int) = 0 from rfl] at p1
    rw [show k + 1 + (6 - k) = 7 by omega, show ((7 : Nat) : Int) = 7 from rfl, show ((k + 1 : Nat) : Int) = (k : Int) + 1 by omega] at p2
    rw [bX5_bridgeBits_4 (by omega), if_neg (by omega), bX5_bridgeBits_10 hS.1, s_pressureAt hS (by omega) (by rw [Int.toNat_natCast]; exact hv) hd, xret_v, Int.toNat_natCast, bX5_bridgeBits_16 (by omega), xBr]
    by_cases c : 4 * max 0 (dp - V g k) = 0
    · rw [if_pos c, bX5_bridgeBits_19 hS.1, p1, xret_v, bX5_bridgeBits_26 (xB_in _)]
      cases c1 : xPr (V g) dp k 0
      · rw [if_pos (show xB false = 0 from rfl), no, if_neg (fun q => by cases q.2.1)]
      · rw [if_neg (show ¬ xB true = 0 by decide), bX5_bridgeBits_29 hS.1, p2, xret_v, bX5_bridgeBits_39 (xB_in _)]
        cases c2 : xPr (V g) dp (6 - k) (k + 1)
        · rw [if_pos (show xB false = 0 from rfl), no, if_neg (fun q => by cases q.2.2)]
        · rw [if_neg (show ¬ xB true = 0 by decide), bX5_bridgeBits_42, no, if_pos ⟨c, rfl, rfl⟩]
    · rw [if_neg c, no, if_neg (fun q => c q.1)]
theorem s_bridgeBits {a g s : Nat} {dp : Int} (hS : xSe T R a g s) (hg : ∀ k, k < 7 → -1000 ≤ V g k ∧ V g k ≤ 1000) (hd : -5000 ≤ dp ∧ dp ≤ 5000) :
    X sc (d + 4) 45 [.ref a, xw dp] (T, z, xv V, J, R) = some (.inl (some (xw (xBr (V g) dp 5 1 0))), (T, z, xv V, J, R)) := by
  rw [eX5_bridgeBits, bX5_bridgeBits_0]
  exact bits_loop hS hg hd 5 1 0 rfl (by decide)
/-- a gap is put in its place among the first n -/
def xIn (gap : Int) : Nat → (Nat → Int) → (Nat → Int)
  | 0, S => va_up S 0 gap
  | n + 1, S => if S n ≤ gap then va_up S (n + 1) gap else xIn gap n (va_up S (n + 1) (S n))
def xSo (G : Nat → Int) : Nat → Nat → (Nat → Int) → (Nat → Int)
  | 0, _, S => S
  | m + 1, k, S => xSo G m (k + 1) (xIn (G k) k S)
theorem va_rg {D : Nat → Int} {k : Nat} {e : Int} (hD : ∀ k, k < 7 → -1000 ≤ D k ∧ D k ≤ 1000) (he : -1000 ≤ e ∧ e ≤ 1000) : ∀ j, j < 7 → -1000 ≤ va_up D k e j ∧ va_up D k e j ≤ 1000 := by
  intro j hj
  by_cases h : j = k
  · subst h; rw [va_same]; exact he
  · rw [va_ne h]; exact hD j hj
theorem xIn_rg {gap : Int} (hg : -1000 ≤ gap ∧ gap ≤ 1000) : ∀ (n : Nat) (S : Nat → Int), n < 7 → (∀ k, k < 7 → -1000 ≤ S k ∧ S k ≤ 1000) → ∀ k, k < 7 → -1000 ≤ xIn gap n S k ∧ xIn gap n S k ≤ 1000 := by
  intro n
  induction n with
  | zero => intro S _ hS; exact va_rg hS hg
  | succ n ih =>
    intro S hn hS
    rw [xIn]
    split
    · exact va_rg hS hg
    · exact ih _ (by omega) (va_rg hS (hS n (by omega)))
theorem insert_loop {a g s i : Nat} {gap : Int} (hS : xSe T R a g s) (hi : i < 7) (hgap : -1000 ≤ gap ∧ gap ≤ 1000) :
    ∀ (n : Nat) (S : Nat → Int), n ≤ i → (∀ k, k < 7 → -1000 ≤ S k ∧ S k ≤ 1000) →
    ∃ o3 : Option Value, XR sc d 48 17 [some (.ref a), some (xw i), some (xw gap), some (xw n)] [] (T, z, xv (va_up V s S), J, R) = XR sc d 48 2 [some (.ref a), some (xw (i + 1 : Nat)), some (xw gap), o3] [] (T, z, xv (va_up V s (xIn gap n S)), J, R) := by
  obtain ⟨s1, s2, s3, s4, s5⟩ := hS
  have e : (R a 1).getD 0 = s := by rw [s3]; rfl
  intro n
  induction n with
  | zero =>
    intro S hn hr
    refine ⟨some (xw (0 : Nat)), ?_⟩
    rw [bX5_sortGaps_17 (by omega), if_pos (by omega), bX5_sortGaps_53 s1 (rgd s3) (tgd s3 s5) (igd s3 s5 (by omega)), e, Int.toNat_natCast, up2_va, va_same, va_two, show (i : Int) + 1 = ((i + 1 : Nat) : Int) by omega, xIn]
  | succ n ih =>
    intro S hn hr
    have hv := hr n (by omega)
    have en : (((n + 1 : Nat) : Int) - 1).toNat = n := by omega
    rw [bX5_sortGaps_17 (by omega), if_neg (by omega), bX5_sortGaps_21 s1 (rgd s3) (tgd s3 s5) (igd s3 s5 (by omega)) (by rw [e, en, va_same]; omega) (by omega), e, en, va_same, xIn]
    by_cases c : S n ≤ gap
    · refine ⟨some (xw (n + 1 : Nat)), ?_⟩
      rw [if_pos c, if_pos c, bX5_sortGaps_53 s1 (rgd s3) (tgd s3 s5) (igd s3 s5 (by omega)), e, Int.toNat_natCast, up2_va, va_same, va_two, show (i : Int) + 1 = ((i + 1 : Nat) : Int) by omega]
    · obtain ⟨o3, h⟩ := ih (va_up S (n + 1) (S n)) (by omega) (va_rg hr hv)
      refine ⟨o3, ?_⟩
      rw [if_neg c, if_neg c, bX5_sortGaps_33 s1 (rgd s3) (tgd s3 s5) (igd s3 s5 (by omega)) (igd s3 s5 (by omega)), e, en, Int.toNat_natCast, va_same, up2_va, va_same, va_two, show ((n + 1 : Nat) : Int) + -1 = (n : Int) by omega, h]
theorem sort_loop {a g s : Nat} (hS : xSe T R a g s) (hne : ¬ g = s) (hg : ∀ k, k < 7 → -1000 ≤ V g k ∧ V g k ≤ 1000) :
    ∀ (m k : Nat) (S : Nat → Int) (o2 o3 : Option Value), k + m = 7 → (∀ k, k < 7 → -1000 ≤ S k ∧ S k ≤ 1000) →
    XR sc d 48 2 [some (.ref a), some (xw k), o2, o3] [] (T, z, xv (va_up V s S), J, R) = some (.inl none, (T, z, xv (va_up V s (xSo (V g) m k S)), J, R)) := by
  have s2 := hS.2.1
  have s4 := hS.2.2.2.1
  have e : (R a 0).getD 0 = g := by rw [s2]; rfl
  intro m
  induction m with
  | zero =>
    intro k S o2 o3 hk hr
    rw [bX5_sortGaps_2 (by omega), if_pos (by omega), bX5_sortGaps_66, xSo]
  | succ m ih =>
    intro k S o2 o3 hk hr
    have hv := hg k (by omega)
    obtain ⟨o3', h⟩ := insert_loop (sc := sc) (d := d) (z := z) (V := V) (J := J) hS (show k < 7 by omega) hv k S (Nat.le_refl _) hr
    rw [bX5_sortGaps_2 (by omega), if_neg (by omega), bX5_sortGaps_8 hS.1 (rgd s2) (tgd s2 s4) (igd s2 s4 (by omega)), e, Int.toNat_natCast, va_ne hne, h, ih (k + 1) _ _ _ (by omega) (xIn_rg hv k S (by omega) hr), xSo]
theorem s_sortGaps {a g s : Nat} (hS : xSe T R a g s) (hne : ¬ g = s) (hg : ∀ k, k < 7 → -1000 ≤ V g k ∧ V g k ≤ 1000) (hs : ∀ k, k < 7 → -1000 ≤ V s k ∧ V s k ≤ 1000) :
    X sc (d + 1) 48 [.ref a] (T, z, xv V, J, R) = some (.inl none, (T, z, xv (va_up V s (xSo (V g) 7 0 (V s))), J, R)) := by
  have := sort_loop (sc := sc) (d := d) (z := z) (J := J) hS hne hg 7 0 (V s) none none rfl hs
  rw [va_id] at this
  rw [eX5_sortGaps, bX5_sortGaps_0]
  exact this
end SX5
