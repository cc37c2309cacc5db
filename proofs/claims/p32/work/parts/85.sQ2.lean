theorem xHe_s {V : Nat → Nat → Int} {s : Nat} {am : Int} {j : Nat} (hj : j < 7) : xHe V s am 0 s j = max 0 (V s j - am) := by
  unfold xHe; rw [if_pos ⟨rfl, by omega, hj⟩]
theorem xHe_o {V : Nat → Nat → Int} {s b : Nat} {am : Int} (hb : ¬ b = s) : xHe V s am 0 b = V b := by
  funext j; unfold xHe; rw [if_neg (fun q => hb q.1)]
theorem xRv_at {am : Int} : ∀ m k V, k + m = 6 → (∀ b, (∀ h, k ≤ h → h < 6 → ¬ b = 12 + 4 * h) → xRv am m k V b = V b) ∧ (∀ h j, k ≤ h → h < 6 → j < 7 → xRv am m k V (12 + 4 * h) j = max 0 (V (12 + 4 * h) j - am)) := by
  intro m
  induction m with
  | zero => intro k V hk; exact ⟨fun b _ => rfl, fun h j a b => by omega⟩
  | succ m ih =>
    intro k V hk
    obtain ⟨h1, h2⟩ := ih (k + 1) (xHe V (12 + 4 * k) am 0) (by omega)
    refine ⟨fun b hb => ?_, fun h j a b c => ?_⟩
    · rw [xRv, h1 b (fun h x y => hb h (by omega) y), xHe_o (hb k (Nat.le_refl k) (by omega))]
    · rw [xRv]
      by_cases e : h = k
      · subst e; rw [h1 _ (fun h' x y => by omega), xHe_s c]
      · rw [h2 h j (by omega) b c, xHe_o (by omega)]
def xAm (its hr : Int) : Int := if its ≤ 40 then 0 else (its - 40) * hr
theorem xRa_pt {V : Nat → Nat → Int} {so bl k : Nat} {s r g am : Int} {p0 p1 p2 : Nat} (hne : ¬ so = bl) (h0 : (((k : Int) * 3 + 0) * 6 + s).toNat = p0) (h1 : (((k : Int) * 3 + 1) * 6 + r).toNat = p1) (h2 : (((k : Int) * 3 + 2) * 6 + g).toNat = p2) (d1 : ¬ p0 = p1) (d2 : ¬ p0 = p2) (d3 : ¬ p1 = p2) {b j : Nat} :
    xRa V so bl k s r g am b j = V b j + (if b = so ∧ j = k then am else 0) + (if b = bl ∧ (j = p0 ∨ j = p1 ∨ j = p2) then am else 0) := by
  unfold xRa
  rw [h0, h1, h2]
  unfold xBl
  by_cases e : b = bl
  · subst e
    rw [if_neg (fun q => hne q.1.symm), xup2_o (V := V) (fun q => hne q.symm)]
    by_cases j2 : j = p2
    · subst j2; rw [if_pos (by omega), xup2_i, xup2_j (by omega), xup2_j (by omega), xup2_o (fun q => hne q.symm)]; omega
    · rw [xup2_j j2]
      by_cases j1 : j = p1
      · subst j1; rw [if_pos (by omega), xup2_i, xup2_j (by omega), xup2_o (fun q => hne q.symm)]; omega
      · rw [xup2_j j1]
        by_cases j0 : j = p0
        · subst j0; rw [if_pos (by omega), xup2_i]; omega
        · rw [xup2_j j0, if_neg (by omega), xup2_o (fun q => hne q.symm)]; omega
  · rw [xup2_o e, xup2_o e, xup2_o e, if_neg (show ¬ (b = bl ∧ (j = p0 ∨ j = p1 ∨ j = p2)) from fun q => e q.1)]
    by_cases e2 : b = so
    · subst e2
      by_cases j0 : j = k
      · subst j0; rw [if_pos ⟨rfl, rfl⟩, xup2_i]; omega
      · rw [if_neg (fun q => j0 q.2), xup2_j j0]; omega
    · rw [if_neg (fun q => e2 q.1), xup2_o e2]; omega
theorem xRs_pt {V : Nat → Nat → Int} {so bl fl k : Nat} {s r g hr dp : Int} {p0 p1 p2 : Nat} (hne : ¬ so = bl) (hn2 : ¬ fl = so) (hn3 : ¬ fl = bl) (h0 : (((k : Int) * 3 + 0) * 6 + s).toNat = p0) (h1 : (((k : Int) * 3 + 1) * 6 + r).toNat = p1) (h2 : (((k : Int) * 3 + 2) * 6 + g).toNat = p2) (d1 : ¬ p0 = p1) (d2 : ¬ p0 = p2) (d3 : ¬ p1 = p2) {b j : Nat} :
    xRs so bl fl s r g hr dp k V b j = V b j + (if b = so ∧ j = k then xAm (4 * max 0 (dp - V 54 k)) hr else 0) + (if b = bl ∧ (j = p0 ∨ j = p1 ∨ j = p2) then xAm (4 * max 0 (dp - V 54 k)) hr else 0) - (if b = fl ∧ j = k then (if 4 * max 0 (dp - V 54 k) ≤ 20 then 0 else if V fl k ≤ 0 then 0 else 1) else 0) := by
  have e1 : ∀ b j, xRs1 so bl s r g hr dp k V b j = V b j + (if b = so ∧ j = k then xAm (4 * max 0 (dp - V 54 k)) hr else 0) + (if b = bl ∧ (j = p0 ∨ j = p1 ∨ j = p2) then xAm (4 * max 0 (dp - V 54 k)) hr else 0) := by
    intro b j
    unfold xRs1 xAm
    by_cases c : 4 * max 0 (dp - V 54 k) ≤ 40
    · rw [if_pos c, if_pos c, ite_self, ite_self]; omega
    · rw [if_neg c, if_neg c]; exact xRa_pt hne h0 h1 h2 d1 d2 d3
  have e2 : xRs1 so bl s r g hr dp k V fl k = V fl k := by rw [xRs1_ne hn2 hn3]
  unfold xRs
  rw [e2]
  by_cases c : 4 * max 0 (dp - V 54 k) ≤ 20
  · rw [if_pos c, if_pos c, ite_self, e1]; omega
  · rw [if_neg c, if_neg c]
    by_cases c2 : V fl k ≤ 0
    · rw [if_pos c2, if_pos c2, ite_self, e1]; omega
    · rw [if_neg c2, if_neg c2]
      by_cases e : b = fl ∧ j = k
      · rw [if_pos e, e.1, e.2, xup2_i, if_neg (fun q => hn2 q.1), if_neg (fun q => hn3 q.1)]; omega
      · rw [if_neg e]
        by_cases eb : b = fl
        · subst eb; rw [xup2_j (fun q => e ⟨rfl, q⟩), e1]; omega
        · rw [xup2_o eb, e1]; omega
theorem xTo_e {G G' : Nat → Int} {dp : Int} : ∀ m k, (∀ j, k ≤ j → j < k + m → G j = G' j) → xTo G dp m k = xTo G' dp m k := by
  intro m
  induction m with
  | zero => intro k _; rfl
  | succ m ih => intro k h; rw [xTo, xTo, h k (by omega) (by omega), ih (k + 1) (fun j a b => h j (by omega) (by omega))]
theorem xDe_e {G G' : Nat → Int} {w r : Int} (h : ∀ j, j < 7 → G j = G' j) (hr : xDe G w r) : xDe G' w r := by
  unfold xDe at hr ⊢
  rw [← xTo_e (G := G) 7 0 (fun j _ b => h j (by omega)), ← xTo_e (G := G) 7 0 (fun j _ b => h j (by omega))]
  exact hr
theorem xPr_e {G G' : Nat → Int} {dp dp' : Int} : ∀ m k, (∀ j, k ≤ j → j < k + m → (4 * max 0 (dp - G j) ≤ 0 ↔ 4 * max 0 (dp' - G' j) ≤ 0)) → xPr G dp m k = xPr G' dp' m k := by
  intro m
  induction m with
  | zero => intro k _; rfl
  | succ m ih =>
    intro k h
    have hk := h k (by omega) (by omega)
    rw [xPr, xPr, ih (k + 1) (fun j a b => h j (by omega) (by omega))]
    by_cases c : 4 * max 0 (dp - G k) ≤ 0
    · rw [if_pos c, if_pos (hk.mp c)]
    · rw [if_neg c, if_neg (fun q => c (hk.mpr q))]
theorem xBr_e {G G' : Nat → Int} {dp dp' : Int} (h : ∀ j, j < 7 → (4 * max 0 (dp - G j) ≤ 0 ↔ 4 * max 0 (dp' - G' j) ≤ 0)) : ∀ m k b, k + m = 6 → 1 ≤ k → xBr G dp m k b = xBr G' dp' m k b := by
  intro m
  induction m with
  | zero => intro k b _ _; rfl
  | succ m ih =>
    intro k b hk h1
    have hk2 := h k (by omega)
    rw [xBr, xBr, xPr_e k 0 (fun j _ a => h j (by omega)), xPr_e (6 - k) (k + 1) (fun j _ a => h j (by omega)), ih (k + 1) _ (by omega) (by omega)]
    have e : (4 * max 0 (dp - G k) = 0) ↔ (4 * max 0 (dp' - G' k) = 0) := by omega
    congr 1
    by_cases c : 4 * max 0 (dp - G k) = 0 ∧ xPr G' dp' k 0 = true ∧ xPr G' dp' (6 - k) (k + 1) = true
    · rw [if_pos c, if_pos ⟨e.mp c.1, c.2⟩]
    · rw [if_neg c, if_neg (fun q => c ⟨e.mpr q.1, q.2⟩)]
def aWh (V : Nat → Nat → Int) (g : Nat) (c r al wi : Nat) : Prop := ∀ q x, r ≤ q → q < r + wi → c ≤ x → x < c + al → V g (q * 12 + x) = 0
theorem xR0_ok {V : Nat → Nat → Int} {g r : Nat} : ∀ m c : Nat, xR0 V g r m c = true ↔ ∀ x, c ≤ x → x < c + m → V g (r * 12 + x) = 0 := by
  intro m
  induction m with
  | zero => intro c; exact ⟨fun _ x a b => by omega, fun _ => rfl⟩
  | succ m ih =>
    intro c
    rw [xR0, show ((r : Int) * 12 + (c : Int)).toNat = r * 12 + c by omega, show ((c : Int) + 1) = ((c + 1 : Nat) : Int) by omega, Bool.and_eq_true, ih (c + 1), decide_eq_true_eq]
    refine ⟨fun h x a b => ?_, fun h => ⟨h c (Nat.le_refl c) (by omega), fun x a b => h x (by omega) (by omega)⟩⟩
    by_cases e : x = c
    · subst e; exact h.1
    · exact h.2 x (by omega) (by omega)
theorem xR1_ok {V : Nat → Nat → Int} {g c al : Nat} : ∀ m r : Nat, xR1 V g c al m r = true ↔ aWh V g c r al m := by
  intro m
  induction m with
  | zero => intro r; exact ⟨fun _ q x a b => by omega, fun _ => rfl⟩
  | succ m ih =>
    intro r
    rw [xR1, show ((r : Int) + 1) = ((r + 1 : Nat) : Int) by omega, Bool.and_eq_true, ih (r + 1), xR0_ok]
    refine ⟨fun h q x a b c d => ?_, fun h => ⟨fun x a b => h r x (Nat.le_refl r) (by omega) a b, fun q x a b c d => h q x (by omega) (by omega) c d⟩⟩
    by_cases e : q = r
    · subst e; exact h.1 x c d
    · exact h.2 q x (by omega) (by omega) c d
theorem xSp_o {V : Nat → Nat → Int} {g b : Nat} {c r al wi : Int} (h : ¬ b = g) : xSp V g c r al wi b = V b := by
  funext j; unfold xSp; rw [if_neg (fun q => h q.1)]
