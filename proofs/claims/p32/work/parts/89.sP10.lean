/-! the property's law: hides, faults, finds -/
theorem xSp_at {V : Nat → Nat → Int} {g k : Nat} {c r al wi : Nat} : xSp V g c r al wi g k = if r ≤ k / 12 ∧ k / 12 < r + wi ∧ c ≤ k % 12 ∧ k % 12 < c + al then 1 else V g k := by
  unfold xSp
  by_cases e : r ≤ k / 12 ∧ k / 12 < r + wi ∧ c ≤ k % 12 ∧ k % 12 < c + al
  · rw [if_pos e, if_pos ⟨rfl, by omega⟩]
  · rw [if_neg e, if_neg (by omega)]
theorem xLeft_add {V : Nat → Nat → Int} {g : Nat} : ∀ a b k, xLeft V g (a + b) k = xLeft V g a k + xLeft V g b (k + a) := by
  intro a
  induction a with
  | zero => intro b k; rw [Nat.zero_add, xLeft, Int.zero_add, Nat.add_zero]
  | succ a ih => intro b k; rw [show a + 1 + b = (a + b) + 1 by omega, xLeft, xLeft, ih b (k + 1), show k + 1 + a = k + (a + 1) by omega, Int.add_assoc]
theorem pMn_add {v : Int} : ∀ a b k, pMn v (a + b) k = pMn v a k + pMn v b (k + a) := by
  intro a
  induction a with
  | zero => intro b k; rw [Nat.zero_add, pMn, Int.zero_add, Nat.add_zero]
  | succ a ih => intro b k; rw [show a + 1 + b = (a + b) + 1 by omega, pMn, pMn, ih b (k + 1), show k + 1 + a = k + (a + 1) by omega, Int.add_assoc]
theorem pMn_0 {v : Int} : ∀ m k, (∀ q, k ≤ q → q < k + m → iBt v q = false) → pMn v m k = 0 := by
  intro m
  induction m with
  | zero => intro k _; rfl
  | succ m ih => intro k h; rw [pMn, h k (Nat.le_refl k) (by omega), ih (k + 1) (fun q a b => h q (by omega) (by omega))]; rfl
/-- the squares that are gone, m rows from n on -/
def pGo (B : Nat → Int) : Nat → Nat → Int
  | 0, _ => 0
  | m + 1, n => pMn (B n) 30 0 + pGo B m (n + 1)
theorem pGo_in {B : Nat → Int} : ∀ m n, 0 ≤ pGo B m n ∧ pGo B m n ≤ 30 * m := by
  intro m
  induction m with
  | zero => intro n; rw [pGo]; omega
  | succ m ih =>
    intro n
    have h1 := ih (n + 1)
    have h2 := pMn_in (v := B n) 30 0
    rw [pGo]; omega
theorem row_left {V : Nat → Nat → Int} {B : Nat → Int} {g n : Nat} (e : ∀ k, k < 96 → V g k = if iBt (B (k / 12)) (k % 12) = true then 1 else 0) (hn : n < 8) : ∀ m k, k + m = 12 → xLeft V g m (12 * n + k) + pMn (B n) m k = m := by
  intro m
  induction m with
  | zero => intro k _; rfl
  | succ m ih =>
    intro k hk
    have h := ih (k + 1) (by omega)
    rw [xLeft, pMn, e (12 * n + k) (by omega), show (12 * n + k) / 12 = n by omega, show (12 * n + k) % 12 = k by omega]
    rw [show 12 * n + (k + 1) = 12 * n + k + 1 by omega] at h
    by_cases c : iBt (B n) k = true
    · rw [if_pos c, if_neg (show ¬ (1 : Int) = 0 by decide)]; omega
    · rw [if_neg c, if_pos rfl]; omega
theorem go_left {V : Nat → Nat → Int} {B : Nat → Int} {g : Nat} (e : ∀ k, k < 96 → V g k = if iBt (B (k / 12)) (k % 12) = true then 1 else 0) (hb : ∀ n, n < 8 → ∀ k, 12 ≤ k → k < 32 → iBt (B n) k = false) : ∀ m n, n + m = 8 → xLeft V g (12 * m) (12 * n) + pGo B m n = 12 * m := by
  intro m
  induction m with
  | zero => intro n _; rfl
  | succ m ih =>
    intro n hn
    have h := ih (n + 1) (by omega)
    have r := row_left e (show n < 8 by omega) 12 0 rfl
    have p : pMn (B n) 30 0 = pMn (B n) 12 0 := by
      rw [show 30 = 12 + 18 from rfl, pMn_add, pMn_0 18 (0 + 12) (fun q a b => hb n (by omega) q (by omega) (by omega)), Int.add_zero]
    rw [show 12 * (m + 1) = 12 + 12 * m by omega, xLeft_add, pGo, p, show 12 * n + 12 = 12 * (n + 1) by omega]
    rw [Nat.add_zero] at r
    omega
/-- the class's test for a piece, in the law's bits -/
theorem can_eq {T : Nat → Nat × Nat} {R : Nat → Nat → Option Nat} {V : Nat → Nat → Int} {n h a c r al wi : Nat} {st : Int} (h1 : qHi1 T n V R h a) (hc : c + al ≤ 12) (hr : r + wi ≤ 8) : xCan V (a + 1) c r al wi st = true ↔ (st = 0 ∨ r + wi ≤ 5) ∧ pFr V h c r al wi := by
  obtain ⟨_, _, _, _, _, h6⟩ := h1
  unfold xCan xWh
  rw [Int.toNat_natCast, Int.toNat_natCast, Bool.and_eq_true, Bool.or_eq_true, decide_eq_true_eq, decide_eq_true_eq, xR1_ok]
  have e1 : (st = 0 ∨ (r : Int) + (wi : Int) ≤ 5) ↔ (st = 0 ∨ r + wi ≤ 5) := by omega
  refine ⟨fun q => ⟨e1.mp q.1, fun y x a1 a2 a3 a4 => ?_⟩, fun q => ⟨e1.mpr q.1, fun y x a1 a2 a3 a4 => ?_⟩⟩
  · have := q.2 y x a1 a2 a3 a4
    rw [h6 (y * 12 + x) (by omega), show (y * 12 + x) / 12 = y by omega, show (y * 12 + x) % 12 = x by omega] at this
    by_cases e : iBt (V 56 (2 + 8 * h + y)) x = true
    · rw [if_pos e] at this; exact absurd this (by decide)
    · exact Bool.eq_false_iff.mpr e
  · rw [h6 (y * 12 + x) (by omega), show (y * 12 + x) / 12 = y by omega, show (y * 12 + x) % 12 = x by omega, q.2 y x a1 a2 a3 a4]; rfl
/-- the best place of those in S: of least worth, then the lowest -/
def pOpt (S : Nat → Prop) (wo : Nat → Int) (f : Int) : Prop := (f = -1 ∧ ∀ n, ¬ S n) ∨ ∃ m : Nat, S m ∧ f = m ∧ ∀ n, S n → wo (m / 12) < wo (n / 12) ∨ (wo (m / 12) = wo (n / 12) ∧ m ≤ n)
theorem pOpt_one {S : Nat → Prop} {wo : Nat → Int} {f f' : Int} (h : pOpt S wo f) (h' : pOpt S wo f') : f = f' := by
  rcases h with ⟨h1, h2⟩ | ⟨m, h1, h2, h3⟩
  · rcases h' with ⟨k1, k2⟩ | ⟨m', k1, k2, k3⟩
    · omega
    · exact absurd k1 (h2 m')
  · rcases h' with ⟨k1, k2⟩ | ⟨m', k1, k2, k3⟩
    · exact absurd h1 (k2 m)
    · have a := h3 m' k1
      have b := k3 m h1
      omega
theorem pOpt_e {S S' : Nat → Prop} {wo : Nat → Int} {f : Int} (e : ∀ n, S n ↔ S' n) (h : pOpt S wo f) : pOpt S' wo f := by
  rcases h with ⟨h1, h2⟩ | ⟨m, h1, h2, h3⟩
  · exact Or.inl ⟨h1, fun n q => h2 n ((e n).mpr q)⟩
  · exact Or.inr ⟨m, (e m).mp h1, h2, fun n q => h3 n ((e n).mpr q)⟩
theorem xCol_ok {V : Nat → Nat → Int} {g : Nat} {row al wi st : Int} : ∀ (m c : Nat), (xCol V g row al wi st m c = -1 ∧ ∀ x : Nat, c ≤ x → x < c + m → ¬ xCan V g x row al wi st = true) ∨ ∃ x : Nat, c ≤ x ∧ x < c + m ∧ xCol V g row al wi st m c = x ∧ xCan V g x row al wi st = true ∧ ∀ y : Nat, c ≤ y → y < x → ¬ xCan V g y row al wi st = true := by
  intro m
  induction m with
  | zero => intro c; exact Or.inl ⟨rfl, fun x a b => by omega⟩
  | succ m ih =>
    intro c
    rw [xCol]
    by_cases e : xCan V g c row al wi st = true
    · rw [if_pos e]; exact Or.inr ⟨c, Nat.le_refl c, by omega, rfl, e, fun y a b => by omega⟩
    · rw [if_neg e, show (c : Int) + 1 = ((c + 1 : Nat) : Int) by omega]
      rcases ih (c + 1) with ⟨h1, h2⟩ | ⟨x, h1, h2, h3, h4, h5⟩
      · refine Or.inl ⟨h1, fun x a b => ?_⟩
        by_cases ex : x = c
        · subst ex; exact e
        · exact h2 x (by omega) (by omega)
      · refine Or.inr ⟨x, by omega, by omega, h3, h4, fun y a b => ?_⟩
        by_cases ey : y = c
        · subst ey; exact e
        · exact h5 y (by omega) b
/-- where the class can cut a piece -/
def pPc (V : Nat → Nat → Int) (a al wi : Nat) (st le : Int) (n : Nat) : Prop := n % 12 + al ≤ 12 ∧ n / 12 + wi ≤ 8 ∧ le ≤ (if ((n / 12 : Nat) : Int) + wi ≤ 5 then V a 0 else V a 0 - 1) ∧ xCan V (a + 1) ((n % 12 : Nat) : Int) ((n / 12 : Nat) : Int) al wi st = true
theorem xFi_ok {V : Nat → Nat → Int} {a al wi : Nat} {st le : Int} (hal : 1 ≤ al ∧ al ≤ 12) (hwi : 1 ≤ wi ∧ wi ≤ 8) :
    ∀ (m r : Nat) (f w : Int), r + m = 9 - wi → pOpt (fun n => n < 12 * r ∧ pPc V a al wi st le n) (fun q => xWo al wi q) f → (0 ≤ f → w = xWo al wi ((f.toNat / 12 : Nat) : Int)) →
    pOpt (pPc V a al wi st le) (fun q => xWo al wi q) (xFi V a (a + 1) al wi st le m r f w) := by
  intro m
  induction m with
  | zero =>
    intro r f w hr hf _
    rw [xFi]
    exact pOpt_e (fun n => ⟨fun q => q.2, fun q => ⟨by have := q.2.1; omega, q⟩⟩) hf
  | succ m ih =>
    intro r f w hr hf hw
    rw [xFi]
    rw [Int.toNat_natCast, show (13 - (al : Int)).toNat = 13 - al by omega]
    have inrow : ∀ n, n / 12 = r → (pPc V a al wi st le n ↔ n % 12 + al ≤ 12 ∧ le ≤ (if (r : Int) + wi ≤ 5 then V a 0 else V a 0 - 1) ∧ xCan V (a + 1) ((n % 12 : Nat) : Int) r al wi st = true) := fun n hn => by
      unfold pPc
      rw [hn]
      exact ⟨fun q => ⟨q.1, q.2.2⟩, fun q => ⟨q.1, by omega, q.2⟩⟩
    have fneg : f = -1 ∨ ∃ k : Nat, f = k := by
      rcases hf with ⟨h1, _⟩ | ⟨k, _, h2, _⟩
      · exact Or.inl h1
      · exact Or.inr ⟨k, h2⟩
    -- the row gives nothing that is better
    have stay : (∀ n, n / 12 = r → pPc V a al wi st le n → 0 ≤ f ∧ w ≤ xWo al wi r) → pOpt (fun n => n < 12 * (r + 1) ∧ pPc V a al wi st le n) (fun q => xWo al wi q) f := by
      intro hno
      rcases hf with ⟨h1, h2⟩ | ⟨k, h1, h2, h3⟩
      · refine Or.inl ⟨h1, fun n q => ?_⟩
        by_cases e : n / 12 = r
        · have := hno n e q.2; omega
        · exact h2 n ⟨by omega, q.2⟩
      · refine Or.inr ⟨k, ⟨by omega, h1.2⟩, h2, fun n q => ?_⟩
        by_cases e : n / 12 = r
        · have := hno n e q.2
          have hw := hw (by omega)
          rw [h2, Int.toNat_natCast] at hw
          show xWo al wi ((k / 12 : Nat) : Int) < xWo al wi ((n / 12 : Nat) : Int) ∨ (xWo al wi ((k / 12 : Nat) : Int) = xWo al wi ((n / 12 : Nat) : Int) ∧ k ≤ n)
          rw [e]; omega
        · exact h3 n ⟨by omega, q.2⟩
    by_cases c : (f = -1 ∨ xWo al wi (r : Int) < w) ∧ le ≤ (if (r : Int) + wi ≤ 5 then V a 0 else V a 0 - 1)
    · rw [if_pos c]
      rcases xCol_ok (V := V) (g := a + 1) (row := (r : Int)) (al := al) (wi := wi) (st := st) (13 - al) 0 with ⟨h1, h2⟩ | ⟨x, h1, h2, h3, h4, h5⟩
      · have h1 : xCol V (a + 1) r al wi st (13 - al) 0 = -1 := h1
        rw [h1, if_pos rfl, show (r : Int) + 1 = ((r + 1 : Nat) : Int) by omega]
        refine ih (r + 1) f w (by omega) (stay fun n e q => ?_) hw
        have := (inrow n e).mp q
        exact absurd this.2.2 (h2 (n % 12) (Nat.zero_le _) (by omega))
      · have h3 : xCol V (a + 1) r al wi st (13 - al) 0 = x := h3
        rw [h3, if_neg (by omega), show (r : Int) + 1 = ((r + 1 : Nat) : Int) by omega, show 12 * (r : Int) + (x : Int) = ((12 * r + x : Nat) : Int) by omega]
        refine ih (r + 1) _ _ (by omega) (Or.inr ⟨12 * r + x, ⟨by omega, (inrow _ (by omega)).mpr ⟨by omega, c.2, ?_⟩⟩, rfl, fun n q => ?_⟩) (fun _ => by rw [Int.toNat_natCast, show (12 * r + x) / 12 = r by omega])
        · rw [show (12 * r + x) % 12 = x by omega]; exact h4
        · show xWo al wi (((12 * r + x) / 12 : Nat) : Int) < xWo al wi ((n / 12 : Nat) : Int) ∨ (xWo al wi (((12 * r + x) / 12 : Nat) : Int) = xWo al wi ((n / 12 : Nat) : Int) ∧ 12 * r + x ≤ n)
          rw [show (12 * r + x) / 12 = r by omega]
          by_cases e : n / 12 = r
          · rw [e]
            refine Or.inr ⟨rfl, ?_⟩
            have q2 := ((inrow n e).mp q.2).2.2
            have : ¬ n % 12 < x := fun y => h5 (n % 12) (Nat.zero_le _) y q2
            omega
          · refine Or.inl ?_
            rcases hf with ⟨g1, g2⟩ | ⟨k, g1, g2, g3⟩
            · exact absurd ⟨by omega, q.2⟩ (g2 n)
            · have hw := hw (by omega)
              rw [g2, Int.toNat_natCast] at hw
              have g := g3 n ⟨by omega, q.2⟩
              have c1 := c.1
              have g : xWo al wi ((k / 12 : Nat) : Int) < xWo al wi ((n / 12 : Nat) : Int) ∨ (xWo al wi ((k / 12 : Nat) : Int) = xWo al wi ((n / 12 : Nat) : Int) ∧ k ≤ n) := g
              omega
    · rw [if_neg c, if_pos rfl, show (r : Int) + 1 = ((r + 1 : Nat) : Int) by omega]
      refine ih (r + 1) f w (by omega) (stay fun n e q => ?_) hw
      have := ((inrow n e).mp q).2.1
      rcases fneg with e1 | ⟨k, e1⟩ <;> omega
section P10
variable {sc : xS} {d : Nat} {T : Nat → Nat × Nat} {z : Nat × Nat} {V : Nat → Nat → Int} {J : Nat → Nat → Int64} {R : Nat → Nat → Option Nat}
theorem qd_y {n H h : Nat} (hx : qHid T n V R H) (hh : h < H) : ∃ a, xh R h = a ∧ R 1 h = some a ∧ qHi1 T n V R h a := by
  obtain ⟨q1, q2⟩ := hx.2.2.2.1 h hh
  exact ⟨_, rfl, q1, q2⟩
theorem qd_no {n H : Nat} (hx : qHid T n V R H) {x : Int} (c : ¬ (0 ≤ x ∧ x < H)) : ¬ (0 ≤ x ∧ x < 8) ∨ R 1 x.toNat = none := by
  obtain ⟨⟨h1, h2, h3⟩, hn, _⟩ := hx
  by_cases q : 0 ≤ x ∧ x < 8
  · exact Or.inr (hn x.toNat (by omega) (by omega))
  · exact Or.inl q
theorem qd_01 {n h a : Nat} (h1 : qHi1 T n V R h a) : ∀ k, k < 96 → V (a + 1) k = 0 ∨ V (a + 1) k = 1 := fun k hk => by
  rw [h1.2.2.2.2.2 k hk]; split <;> omega
/-- a hide's rows change -/
theorem qHid_u {n n' H h a : Nat} {T' : Nat → Nat × Nat} {V' : Nat → Nat → Int} {R' : Nat → Nat → Option Nat} (hx : qHid T n V R H) (hh : h < H) (ea : xh R h = a) (hn : n ≤ n') (hT : ∀ b, 64 ≤ b → b < n → T' b = T b) (hR1 : R' 1 = R 1) (hR : ∀ b, 64 ≤ b → b < n → R' b = R b) (h0 : V' 0 1 = V 0 1) (h63 : V' 63 0 = V 63 0) (h56 : ∀ q, q < 18 → ¬ (2 + 8 * h ≤ q ∧ q < 2 + 8 * h + 8) → V' 56 q = V 56 q) (hbit : ∀ r, r < 8 → ∀ k, 12 ≤ k → k < 32 → iBt (V' 56 (2 + 8 * h + r)) k = false) (hc : ∀ b, 64 ≤ b → b < n → ¬ b = a + 1 → (T b = (1, 0) ∨ T b = (33, 96)) → V' b = V b) (hg : ∀ k, k < 96 → V' (a + 1) k = if iBt (V' 56 (2 + 8 * h + k / 12)) (k % 12) = true then 1 else 0) : qHid T' n' V' R' H := by
  obtain ⟨h1, h2, ⟨h3, h3b⟩, h4, h5⟩ := hx
  have ex : ∀ h, xh R' h = xh R h := fun h => by unfold xh; rw [hR1]
  refine ⟨by rw [h0, h63]; exact h1, fun q x y => by rw [hR1]; exact h2 q x y, ⟨fun q x y r hr => by rw [h56 _ (by omega) (by omega)]; exact h3 q x y r hr, fun j x y => ?_⟩, fun q x => ?_, fun q q' x y w => h5 q q' x y (by rw [ex, ex] at w; exact w)⟩
  · by_cases e : 2 + 8 * h ≤ j ∧ j < 2 + 8 * h + 8
    · have := hbit (j - (2 + 8 * h)) (by omega)
      rw [show 2 + 8 * h + (j - (2 + 8 * h)) = j by omega] at this
      exact this
    · rw [h56 j y e]; exact h3b j x y
  · have old := h4 h hh
    rw [ea] at old
    obtain ⟨o1, o2⟩ := old
    obtain ⟨p1, p2, p3, p4, p5, p6⟩ := o2
    by_cases e : q = h
    · subst e
      rw [ex, hR1, ea]
      refine ⟨o1, ?_, p2, by omega, by rw [hc a p2 (by omega) (by omega) (Or.inl p1.1), h56 q (by omega) (by omega)]; exact p4, by rw [h56 q (by omega) (by omega)]; exact p5, hg⟩
      unfold xHi; rw [hT a p2 (by omega), hT (a + 1) (by omega) p3, hR a p2 (by omega)]; exact p1
    · obtain ⟨q1, q2⟩ := h4 q x
      have q2' := q2
      obtain ⟨⟨r1, r2, r3⟩, r4, r5, _⟩ := q2'
      have d1 : ¬ xh R q = a := fun w => e (h5 q h x hh (by rw [w, ea]))
      have d2 : ¬ xh R q = a + 1 := fun w => by rw [w, p1.2.2] at r1; exact absurd r1 (by decide)
      rw [ex, hR1]
      exact ⟨q1, qHi1_e q2 hn ⟨hT _ r4 (by omega), hT _ (by omega) r5⟩ (hR _ r4 (by omega)) (h56 q (by omega) (by omega)) (fun r hr => h56 _ (by omega) (by omega)) (by rw [hc _ r4 (by omega) d2 (Or.inl r1)]) (fun k _ => by rw [hc _ (by omega) r5 (by omega) (Or.inr r3)])⟩
/-- which hide and square are meant -/
theorem hd_start {H : Nat} {what one two : Int} {o2 o3 o4 o5 o14 o15 o16 o17 o18 o19 o20 o21 o22 o23 o24 o25 o26 o27 : Option Value} (hA : pAr T) (hH : H ≤ 2 ∧ V 63 0 = H) (h1 : 0 ≤ one ∧ one < 60000) (h2 : 0 ≤ two ∧ two < 60000) :
    ∃ hd co ro : Nat, hd ≤ H ∧ co ≤ 12 ∧ ro ≤ 8 ∧ XR sc d 106 119 [some (.ref 0), some (.ref 56), o2, o3, o4, o5, some (.ref 63), some (xw what), some (xw one), some (xw two), none, none, none, none, o14, o15, o16, o17, o18, o19, o20, o21, o22, o23, o24, o25, o26, o27] [] (T, z, xv V, J, R) =
      XR sc d 106 186 [some (.ref 0), some (.ref 56), o2, o3, o4, o5, some (.ref 63), some (xw what), some (xw one), some (xw two), some (xw hd), some (xw (xB (decide (hd < H)))), some (xw co), some (xw ro), o14, o15, o16, o17, o18, o19, o20, o21, o22, o23, o24, o25, o26, o27] [xw (xB (decide (hd < H ∧ co < 12 ∧ ro < 8)))] (T, z, xv V, J, R) := by
  have m0 := Int.emod_nonneg one (show V 63 0 + 1 ≠ 0 by omega)
  have m1 := Int.emod_lt_of_pos one (show 0 < V 63 0 + 1 by omega)
  obtain ⟨hd, ehd⟩ : ∃ m : Nat, one % (V 63 0 + 1) = m := ⟨(one % (V 63 0 + 1)).toNat, by omega⟩
  obtain ⟨co, eco⟩ : ∃ m : Nat, one / 3 % 13 = m := ⟨(one / 3 % 13).toNat, by omega⟩
  obtain ⟨ro, ero⟩ : ∃ m : Nat, two % 9 = m := ⟨(two % 9).toNat, by omega⟩
  refine ⟨hd, co, ro, by omega, by omega, by omega, ?_⟩
  rw [bL_isHide_119 (by rw [pA63 hA]) (by rw [pA63 hA]; omega) (by omega) (by omega) (by omega), ehd]
  by_cases c : hd < H
  · rw [if_neg (by omega), bL_isHide_139, bL_isHide_144 (by first | omega | exact xB_in _ | exact xB_01 _ | exact iAnd_in | exact iShr_in | (simp only [Int.toNat_natCast]; omega) | decide) (by first | omega | exact xB_in _ | exact xB_01 _ | exact iAnd_in | exact iShr_in | (simp only [Int.toNat_natCast]; omega) | decide) (by first | omega | exact xB_in _ | exact xB_01 _ | exact iAnd_in | exact iShr_in | (simp only [Int.toNat_natCast]; omega) | decide) (by first | omega | exact xB_in _ | exact xB_01 _ | exact iAnd_in | exact iShr_in | (simp only [Int.toNat_natCast]; omega) | decide), if_neg (by first | omega | decide), eco, ero, decide_eq_true c]
    by_cases c2 : 12 ≤ co
    · rw [decide_eq_false (show ¬ (hd < H ∧ co < 12 ∧ ro < 8) by omega), bL_isHide_167 (by first | omega | exact xB_in _ | exact xB_01 _ | exact iAnd_in | exact iShr_in | (simp only [Int.toNat_natCast]; omega) | decide), if_pos (by first | omega | decide), bL_isHide_185]; rfl
    · by_cases c3 : 8 ≤ ro
      · rw [decide_eq_false (show ¬ (hd < H ∧ co < 12 ∧ ro < 8) by omega), bL_isHide_167 (by first | omega | exact xB_in _ | exact xB_01 _ | exact iAnd_in | exact iShr_in | (simp only [Int.toNat_natCast]; omega) | decide), if_neg (by first | omega | decide), bL_isHide_174 (by first | omega | exact xB_in _ | exact xB_01 _ | exact iAnd_in | exact iShr_in | (simp only [Int.toNat_natCast]; omega) | decide), if_pos (by first | omega | decide), bL_isHide_185]; rfl
      · rw [decide_eq_true (show hd < H ∧ co < 12 ∧ ro < 8 by omega), bL_isHide_167 (by first | omega | exact xB_in _ | exact xB_01 _ | exact iAnd_in | exact iShr_in | (simp only [Int.toNat_natCast]; omega) | decide), if_neg (by first | omega | decide), bL_isHide_174 (by first | omega | exact xB_in _ | exact xB_01 _ | exact iAnd_in | exact iShr_in | (simp only [Int.toNat_natCast]; omega) | decide), if_neg (by first | omega | decide), bL_isHide_181]; rfl
  · rw [if_pos (by omega), bL_isHide_143, bL_isHide_144 (by first | omega | exact xB_in _ | exact xB_01 _ | exact iAnd_in | exact iShr_in | (simp only [Int.toNat_natCast]; omega) | decide) (by first | omega | exact xB_in _ | exact xB_01 _ | exact iAnd_in | exact iShr_in | (simp only [Int.toNat_natCast]; omega) | decide) (by first | omega | exact xB_in _ | exact xB_01 _ | exact iAnd_in | exact iShr_in | (simp only [Int.toNat_natCast]; omega) | decide) (by first | omega | exact xB_in _ | exact xB_01 _ | exact iAnd_in | exact iShr_in | (simp only [Int.toNat_natCast]; omega) | decide), if_pos (by first | omega | decide), eco, ero, decide_eq_false c, decide_eq_false (show ¬ (hd < H ∧ co < 12 ∧ ro < 8) by omega), bL_isHide_185]; rfl
end P10
