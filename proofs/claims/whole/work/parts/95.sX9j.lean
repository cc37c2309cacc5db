/-! the law's cases: hides -/
theorem hd_left {V : Nat → Nat → Int} {B : Nat → Int} {g h : Nat} (e : ∀ k, k < 96 → V g k = if iBt (B (8 * h + k / 12)) (k % 12) = true then 1 else 0) : ∀ m k, k + m ≤ 96 → xLeft V g m k + xMc B h m k = m := by
  intro m
  induction m with
  | zero => intro k _; rfl
  | succ m ih =>
    intro k hk
    have i1 := ih (k + 1) (by omega)
    rw [xLeft, xMc, e k (by omega), i_get (by omega), show (8 * (h : Int) + (k : Int) / 12).toNat = 8 * h + k / 12 by omega, show ((k : Int) % 12).toNat = k % 12 by omega]
    by_cases c : iBt (B (8 * h + k / 12)) (k % 12) = true
    · rw [if_pos c, if_neg (show ¬ (1 : Int) = 0 by decide)]; omega
    · rw [if_neg c, if_pos rfl]; omega
/-- the squares of some rows -/
def aWh (V : Nat → Nat → Int) (g : Nat) (c r al wi : Nat) : Prop := ∀ q x, r ≤ q → q < r + wi → c ≤ x → x < c + al → V g (q * 12 + x) = 0
theorem xR0_ok {V : Nat → Nat → Int} {g r : Nat} : ∀ m c : Nat, xR0 V g r m c = true ↔ ∀ x, c ≤ x → x < c + m → V g (r * 12 + x) = 0 := by
  intro m
  induction m with
  | zero => intro c; exact ⟨fun _ x a b => by omega, fun _ => rfl⟩
  | succ m ih =>
    intro c
    rw [xR0, show ((r : Int) * 12 + (c : Int)).toNat = r * 12 + c by omega, show ((c : Int) + 1) = ((c + 1 : Nat) : Int) by omega, Bool.and_eq_true, ih (c + 1), decide_eq_true_eq]
    refine ⟨fun h x a b => ?_, fun h => ⟨h c (Nat.le_refl c) (by omega), fun x a b => h x (by omega) (by omega)⟩⟩
    by_cases e : x = c
    · subst e; exact h.1
    · exact h.2 x (by omega) (by omega)
theorem xR1_ok {V : Nat → Nat → Int} {g c al : Nat} : ∀ m r : Nat, xR1 V g c al m r = true ↔ aWh V g c r al m := by
  intro m
  induction m with
  | zero => intro r; exact ⟨fun _ q x a b => by omega, fun _ => rfl⟩
  | succ m ih =>
    intro r
    rw [xR1, show ((r : Int) + 1) = ((r + 1 : Nat) : Int) by omega, Bool.and_eq_true, ih (r + 1), xR0_ok]
    refine ⟨fun h q x a b c d => ?_, fun h => ⟨fun x a b => h r x (Nat.le_refl r) (by omega) a b, fun q x a b c d => h q x (by omega) (by omega) c d⟩⟩
    by_cases e : q = r
    · subst e; exact h.1 x c d
    · exact h.2 q x (by omega) (by omega) c d
theorem xMw_ok {V : Nat → Nat → Int} {B : Nat → Int} {g h c al : Nat} (e : ∀ k, k < 96 → V g k = if iBt (B (8 * h + k / 12)) (k % 12) = true then 1 else 0) (hc : c < 12 ∧ 1 ≤ al ∧ c + al ≤ 12) : ∀ m r : Nat, r + m ≤ 8 → ∀ b, b = 0 ∨ b = 1 → (xMw B h (xMsk c al) m r b = 1 ↔ b = 1 ∧ aWh V g c r al m) := by
  intro m
  induction m with
  | zero => intro r _ b hb; exact ⟨fun h => ⟨h, fun q x a b => by omega⟩, fun h => h.1⟩
  | succ m ih =>
    intro r hr b hb
    rw [xMw, show ((r : Int) + 1) = ((r + 1 : Nat) : Int) by omega, show (8 * (h : Int) + (r : Int)).toNat = 8 * h + r by omega]
    have row : iAnd (B (8 * h + r)) (xMsk c al) = 0 ↔ ∀ x, c ≤ x → x < c + al → V g (r * 12 + x) = 0 := by
      unfold xMsk
      rw [i_and0]
      have ek : ∀ x, x < 12 → (V g (r * 12 + x) = 0 ↔ iBt (B (8 * h + r)) x = false) := fun x hx => by
        rw [e (r * 12 + x) (by omega), show (r * 12 + x) / 12 = r by omega, show (r * 12 + x) % 12 = x by omega]
        by_cases q : iBt (B (8 * h + r)) x = true
        · rw [if_pos q, q]; exact ⟨fun q => absurd q (by decide), fun q => absurd q (by decide)⟩
        · rw [if_neg q]; exact ⟨fun _ => Bool.eq_false_iff.mpr q, fun _ => rfl⟩
      refine ⟨fun f x a b => ?_, fun f k hk => ?_⟩
      · have := f x (by omega)
        rw [i_mask al (by omega) c hc.1 hc.2.2 x (by omega), decide_eq_true ⟨a, b⟩, Bool.and_true] at this
        exact (ek x (by omega)).mpr this
      · rw [i_mask al (by omega) c hc.1 hc.2.2 k hk]
        by_cases q : c ≤ k ∧ k < c + al
        · rw [(ek k (by omega)).mp (f k q.1 q.2), Bool.false_and]
        · rw [decide_eq_false q, Bool.and_false]
    have st : aWh V g c r al (m + 1) ↔ (∀ x, c ≤ x → x < c + al → V g (r * 12 + x) = 0) ∧ aWh V g c (r + 1) al m := by
      refine ⟨fun h => ⟨fun x a b => h r x (Nat.le_refl r) (by omega) a b, fun q x a b c d => h q x (by omega) (by omega) c d⟩, fun h q x a b c d => ?_⟩
      by_cases e : q = r
      · subst e; exact h.1 x c d
      · exact h.2 q x (by omega) (by omega) c d
    rw [ih (r + 1) (by omega) _ (by split <;> (try split) <;> omega), st, ← row]
    rcases hb with rfl | rfl
    · rw [if_pos rfl]; exact ⟨fun h => absurd h.1 (by decide), fun h => absurd h.1 (by decide)⟩
    · rw [if_neg (by decide)]
      by_cases q : iAnd (B (8 * h + r)) (xMsk c al) = 0
      · rw [if_pos q]; exact ⟨fun h => ⟨rfl, q, h.2⟩, fun h => ⟨rfl, h.2.2⟩⟩
      · rw [if_neg q]; exact ⟨fun h => absurd h.1 (by decide), fun h => absurd h.2.1 q⟩
theorem can_eq {V : Nat → Nat → Int} {B : Nat → Int} {g h : Nat} {c r al wi st : Int} (e : ∀ k, k < 96 → V g k = if iBt (B (8 * h + k / 12)) (k % 12) = true then 1 else 0) (hc : 0 ≤ c ∧ 1 ≤ al ∧ c + al ≤ 12) (hr : 0 ≤ r ∧ 1 ≤ wi ∧ r + wi ≤ 8) : xCan V g c r al wi st = true ↔ xMW B h c r al wi st = 1 := by
  obtain ⟨c', rfl⟩ : ∃ m : Nat, c = m := ⟨c.toNat, by omega⟩
  obtain ⟨r', rfl⟩ : ∃ m : Nat, r = m := ⟨r.toNat, by omega⟩
  obtain ⟨al', rfl⟩ : ∃ m : Nat, al = m := ⟨al.toNat, by omega⟩
  obtain ⟨wi', rfl⟩ : ∃ m : Nat, wi = m := ⟨wi.toNat, by omega⟩
  unfold xMW xCan xWh
  rw [Int.toNat_natCast, Int.toNat_natCast, xMw_ok e (by omega) wi' r' (by omega) _ (by split <;> omega), Bool.and_eq_true, Bool.or_eq_true, decide_eq_true_eq, decide_eq_true_eq, xR1_ok]
  by_cases q : st = 0 ∨ (r' : Int) + (wi' : Int) ≤ 5
  · rw [if_pos q]; exact ⟨fun h => ⟨rfl, h.2⟩, fun h => ⟨q, h.2⟩⟩
  · rw [if_neg q]; exact ⟨fun h => absurd h.1 q, fun h => absurd h.1 (by decide)⟩
/-! find -/
theorem xFc_skip {ok : Int → Int} {W : Int → Int} {r : Int} : ∀ m c f, ¬ (f = -1 ∨ W r < W (f / 12)) → xFc ok W r m c f = f := by
  intro m
  induction m with
  | zero => intro c f _; rfl
  | succ m ih => intro c f h; rw [xFc, if_neg (fun q => h q.2)]; exact ih (c + 1) f h
theorem xFc_none {ok : Int → Int} {W : Int → Int} {r : Int} (h : ∀ c, ¬ ok c = 1) : ∀ m c f, xFc ok W r m c f = f := by
  intro m
  induction m with
  | zero => intro c f; rfl
  | succ m ih => intro c f; rw [xFc, if_neg (fun q => h c q.1)]; exact ih (c + 1) f
theorem xFc_go {V : Nat → Nat → Int} {g : Nat} {ok : Int → Int} {W : Int → Int} {r al wi st : Int} (hr : 0 ≤ r) (hal : 1 ≤ al ∧ al ≤ 12) (h : ∀ c, 0 ≤ c → c + al ≤ 12 → (ok c = 1 ↔ xCan V g c r al wi st = true)) : ∀ (m : Nat) (c f : Int), 0 ≤ c → c + m = 13 - al → (f = -1 ∨ W r < W (f / 12)) → xFc ok W r m c f = (if xCol V g r al wi st m c = -1 then f else 12 * r + xCol V g r al wi st m c) ∧ (xCol V g r al wi st m c = -1 ∨ (0 ≤ xCol V g r al wi st m c ∧ xCol V g r al wi st m c < 12)) := by
  intro m
  induction m with
  | zero => intro c f _ _ _; exact ⟨rfl, Or.inl rfl⟩
  | succ m ih =>
    intro c f hc hm hf
    rw [xFc, xCol]
    by_cases q : xCan V g c r al wi st = true
    · rw [if_pos q, if_pos ⟨(h c hc (by omega)).mpr q, hf⟩, xFc_skip m (c + 1) (12 * r + c) (by rw [show (12 * r + c) / 12 = r by omega]; omega), if_neg (by omega)]
      exact ⟨rfl, Or.inr (by omega)⟩
    · rw [if_neg q, if_neg (fun x => q ((h c hc (by omega)).mp x.1))]
      exact ih (c + 1) f (by omega) (by omega) hf
theorem xFi_s {V : Nat → Nat → Int} {a g m : Nat} {al wi st le r f w : Int} : xFi V a g al wi st le (m + 1) r f w = if (if (f = -1 ∨ xWo al wi.toNat r < w) ∧ le ≤ (if r + wi ≤ 5 then V a 0 else V a 0 - 1) then xCol V g r al wi st (13 - al).toNat 0 else -1) = -1 then xFi V a g al wi st le m (r + 1) f w else xFi V a g al wi st le m (r + 1) (12 * r + (if (f = -1 ∨ xWo al wi.toNat r < w) ∧ le ≤ (if r + wi ≤ 5 then V a 0 else V a 0 - 1) then xCol V g r al wi st (13 - al).toNat 0 else -1)) (xWo al wi.toNat r) := rfl
theorem find_eq {V W : Nat → Nat → Int} {a g h : Nat} {al wi st le : Int} (e : ∀ k, k < 96 → V g k = if iBt (W 58 (8 * h + k / 12)) (k % 12) = true then 1 else 0) (ea : V a 0 = W 57 h) (hal : 1 ≤ al ∧ al ≤ 12) (hwi : 1 ≤ wi ∧ wi ≤ 8) : ∀ (m : Nat) (r f w : Int), 0 ≤ r → r + m = 9 - wi → (f = -1 ∨ (0 ≤ f ∧ w = xWo al wi.toNat (f / 12))) → xFi V a g al wi st le m r f w = xFr (xOk W h al wi st le) (xWo al wi.toNat) (13 - al).toNat m r f := by
  intro m
  induction m with
  | zero => intro r f w _ _ _; rfl
  | succ m ih =>
    intro r f w hr hm hf
    rw [xFi_s, xFr]
    have key : (f = -1 ∨ xWo al wi.toNat r < w) ↔ (f = -1 ∨ xWo al wi.toNat r < xWo al wi.toNat (f / 12)) := by
      rcases hf with q | ⟨q, q2⟩
      · exact ⟨fun _ => Or.inl q, fun _ => Or.inl q⟩
      · rw [q2]
    have th : (le ≤ if r + wi ≤ 5 then V a 0 else V a 0 - 1) ↔ ¬ W 57 (h : Int).toNat - (if r + wi ≤ 5 then 0 else 1) < le := by
      rw [ea, Int.toNat_natCast]
      split <;> omega
    by_cases c1 : (f = -1 ∨ xWo al wi.toNat r < w)
    · by_cases c2 : le ≤ if r + wi ≤ 5 then V a 0 else V a 0 - 1
      · have okc : ∀ c, 0 ≤ c → c + al ≤ 12 → (xOk W h al wi st le r c = 1 ↔ xCan V g c r al wi st = true) := fun c q1 q2 => by
          rw [can_eq e ⟨q1, hal.1, q2⟩ (by omega)]
          unfold xOk
          rw [if_neg (th.mp c2)]
          rcases xMW_01 (B := W 58) (h := h) (c := c) (r := r) (al := al) (wi := wi) (st := st) with q | q
          · rw [if_pos q, q]
          · rw [if_neg (by omega), q]
        obtain ⟨g1, g2⟩ := xFc_go (V := V) (g := g) (ok := xOk W h al wi st le r) (W := xWo al wi.toNat) (wi := wi) (st := st) hr hal okc (13 - al).toNat 0 f (Int.le_refl 0) (by omega) (key.mp c1)
        rw [g1]
        rw [if_pos (show (f = -1 ∨ xWo al wi.toNat r < w) ∧ le ≤ (if r + wi ≤ 5 then V a 0 else V a 0 - 1) from ⟨c1, c2⟩)]
        by_cases c3 : xCol V g r al wi st (13 - al).toNat 0 = -1
        · rw [if_pos c3, if_pos c3]; exact ih (r + 1) f w (by omega) (by omega) hf
        · rw [if_neg c3, if_neg c3]; exact ih (r + 1) _ _ (by omega) (by omega) (Or.inr ⟨by omega, by rw [show (12 * r + xCol V g r al wi st (13 - al).toNat 0) / 12 = r by omega]⟩)
      · rw [xFc_none (fun c q => by
          unfold xOk at q
          rw [if_pos (Classical.not_not.mp (fun x => c2 (th.mpr x)))] at q
          split at q <;> exact absurd q (by decide))]
        rw [if_neg (show ¬ ((f = -1 ∨ xWo al wi.toNat r < w) ∧ le ≤ (if r + wi ≤ 5 then V a 0 else V a 0 - 1)) from fun q => c2 q.2), if_pos rfl]
        exact ih (r + 1) f w (by omega) (by omega) hf
    · rw [xFc_skip _ _ _ (fun q => c1 (key.mpr q))]
      rw [if_neg (show ¬ ((f = -1 ∨ xWo al wi.toNat r < w) ∧ le ≤ (if r + wi ≤ 5 then V a 0 else V a 0 - 1)) from fun q => c1 q.1), if_pos rfl]
      exact ih (r + 1) f w (by omega) (by omega) hf
