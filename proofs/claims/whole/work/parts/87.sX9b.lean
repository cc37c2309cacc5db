/-! the law's cases: backs, saddles -/
theorem xTo_e {G G' : Nat → Int} {dp : Int} : ∀ m k, (∀ j, k ≤ j → j < k + m → G j = G' j) → xTo G dp m k = xTo G' dp m k := by
  intro m
  induction m with
  | zero => intro k _; rfl
  | succ m ih => intro k h; rw [xTo, xTo, h k (by omega) (by omega), ih (k + 1) (fun j a b => h j (by omega) (by omega))]
theorem xDe_e {G G' : Nat → Int} {w r : Int} (h : ∀ j, j < 7 → G j = G' j) (hr : xDe G w r) : xDe G' w r := by
  unfold xDe at hr ⊢
  rw [← xTo_e (G := G) 7 0 (fun j _ b => h j (by omega)), ← xTo_e (G := G) 7 0 (fun j _ b => h j (by omega))]
  exact hr
/-- bridges by both ways -/
def aG (a b c d e f g : Bool) : Nat → Int
  | 0 => if a = true then 1 else 0
  | 1 => if b = true then 1 else 0
  | 2 => if c = true then 1 else 0
  | 3 => if d = true then 1 else 0
  | 4 => if e = true then 1 else 0
  | 5 => if f = true then 1 else 0
  | _ => if g = true then 1 else 0
theorem aG_all : ∀ a b c d e f g : Bool, xBr (aG a b c d e f g) 1 5 1 0 = xMx (xMq (aG a b c d e f g) 1 7 0 0) 7 0 0 := by decide +kernel
theorem xPr_e {G G' : Nat → Int} {dp dp' : Int} : ∀ m k, (∀ j, k ≤ j → j < k + m → (4 * max 0 (dp - G j) ≤ 0 ↔ 4 * max 0 (dp' - G' j) ≤ 0)) → xPr G dp m k = xPr G' dp' m k := by
  intro m
  induction m with
  | zero => intro k _; rfl
  | succ m ih =>
    intro k h
    have hk := h k (by omega) (by omega)
    rw [xPr, xPr, ih (k + 1) (fun j a b => h j (by omega) (by omega))]
    by_cases c : 4 * max 0 (dp - G k) ≤ 0
    · rw [if_pos c, if_pos (hk.mp c)]
    · rw [if_neg c, if_neg (fun q => c (hk.mpr q))]
theorem xBr_e {G G' : Nat → Int} {dp dp' : Int} (h : ∀ j, j < 7 → (4 * max 0 (dp - G j) ≤ 0 ↔ 4 * max 0 (dp' - G' j) ≤ 0)) : ∀ m k b, k + m = 6 → 1 ≤ k → xBr G dp m k b = xBr G' dp' m k b := by
  intro m
  induction m with
  | zero => intro k b _ _; rfl
  | succ m ih =>
    intro k b hk h1
    have hk2 := h k (by omega)
    rw [xBr, xBr, xPr_e k 0 (fun j _ a => h j (by omega)), xPr_e (6 - k) (k + 1) (fun j _ a => h j (by omega)), ih (k + 1) _ (by omega) (by omega)]
    have e : (4 * max 0 (dp - G k) = 0) ↔ (4 * max 0 (dp' - G' k) = 0) := by omega
    congr 1
    by_cases c : 4 * max 0 (dp - G k) = 0 ∧ xPr G' dp' k 0 = true ∧ xPr G' dp' (6 - k) (k + 1) = true
    · rw [if_pos c, if_pos ⟨e.mp c.1, c.2⟩]
    · rw [if_neg c, if_neg (fun q => c ⟨e.mpr q.1, q.2⟩)]
theorem xMq_e {G G' : Nat → Int} {dp dp' : Int} : ∀ m k b, (∀ j, k ≤ j → j < k + m → (4 * max 0 (dp - G j) ≤ 0 ↔ 4 * max 0 (dp' - G' j) ≤ 0)) → xMq G dp m k b = xMq G' dp' m k b := by
  intro m
  induction m with
  | zero => intro k b _; rfl
  | succ m ih =>
    intro k b h
    have hk := h k (by omega) (by omega)
    rw [xMq, xMq, ih (k + 1) _ (fun j a b => h j (by omega) (by omega))]
    by_cases c : 4 * max 0 (dp - G k) ≤ 0
    · rw [if_pos c, if_pos (hk.mp c)]
    · rw [if_neg c, if_neg (fun q => c (hk.mpr q))]
theorem bridges_eq {G G' : Nat → Int} {r : Int} (h : ∀ j, j < 7 → G j = G' j) : xBr G r 5 1 0 = xMx (xMq G' r 7 0 0) 7 0 0 := by
  have key : ∀ j, j < 7 → (4 * max 0 (r - G' j) ≤ 0 ↔ 4 * max 0 (1 - aG (decide (4 * max 0 (r - G' 0) ≤ 0)) (decide (4 * max 0 (r - G' 1) ≤ 0)) (decide (4 * max 0 (r - G' 2) ≤ 0)) (decide (4 * max 0 (r - G' 3) ≤ 0)) (decide (4 * max 0 (r - G' 4) ≤ 0)) (decide (4 * max 0 (r - G' 5) ≤ 0)) (decide (4 * max 0 (r - G' 6) ≤ 0)) j) ≤ 0) := by
    intro j hj
    have one : ∀ q : Prop, ∀ _ : Decidable q, (q ↔ 4 * max 0 (1 - (if decide q = true then (1 : Int) else 0)) ≤ 0) := by
      intro q _
      by_cases c : q
      · rw [decide_eq_true c, if_pos rfl]; exact ⟨fun _ => by decide, fun _ => c⟩
      · rw [decide_eq_false c, if_neg (by decide)]; exact ⟨fun z => absurd z c, fun z => absurd z (by decide)⟩
    rcases (show j = 0 ∨ j = 1 ∨ j = 2 ∨ j = 3 ∨ j = 4 ∨ j = 5 ∨ j = 6 by omega) with rfl | rfl | rfl | rfl | rfl | rfl | rfl <;> exact one _ _
  rw [xBr_e (G := G) (G' := aG _ _ _ _ _ _ _) (dp' := 1) (fun j hj => by rw [h j hj]; exact key j hj) 5 1 0 rfl (by decide), xMq_e (G := G') (G' := aG _ _ _ _ _ _ _) (dp' := 1) 7 0 0 (fun j _ b => key j (by omega))]
  exact aG_all _ _ _ _ _ _ _
theorem iHor_bd {V : Nat → Nat → Int} (h : iHor V) : xBd V := by
  obtain ⟨a1, a2, a3, _⟩ := h
  refine ⟨fun h k hh hk => ?_, fun s k hs hk => ?_⟩
  · rw [(a1 h k hh hk).1]; exact (a3 _ (by omega)).1
  · rw [(a2 s k hs hk).1, (a2 s k hs hk).2]; exact ⟨(a3 _ (by omega)).2.1, (a3 _ (by omega)).2.2⟩
theorem iHor_s2 {V : Nat → Nat → Int} (h : iHor V) : xMs2 V := by
  obtain ⟨_, _, _, _, a5, ⟨b1, b2, b3, b4⟩, _⟩ := h
  refine ⟨fun k hk => ?_, fun k hk => ?_, fun k hk => ?_, fun k hk => ?_⟩
  · have := b1 k hk; omega
  · have := b2 k hk; omega
  · have := b3 k hk; omega
  · have := b4 k hk; omega
theorem iHor_gap {V W : Nat → Nat → Int} {h s : Nat} (hO : iHor V) (hh : h < 6) (hs : s < 6) (w4 : W 74 = V 74) (w5 : W 75 = V 75) (w6 : W 76 = V 76) : ∀ j, j < 7 → xMg V h s 54 j = xGG W h s j := by
  intro j hj
  obtain ⟨a1, a2, _⟩ := hO
  have e1 : (7 * (s : Int) + (j : Int)).toNat = 7 * s + j := by omega
  have e2 : (7 * (h : Int) + (j : Int)).toNat = 7 * h + j := by omega
  rw [xMg_at hj, Int.toNat_natCast, Int.toNat_natCast, (a1 h j hh hj).1, (a2 s j hs hj).1, (a2 s j hs hj).2]
  unfold xGG xGp
  rw [e1, e2, w4, w5, w6]
theorem iInv_h {i i' : Nat} {T : Nat → Nat × Nat} {z : Nat × Nat} {V V' : Nat → Nat → Int} {J J' : Nat → Nat → Int64} {R : Nat → Nat → Option Nat} (h : iInv i T z V J R) (hi : i ≤ i' ∧ i' ≤ 513) (hr : ∀ b, (57 ≤ b ∧ b ≤ 70) ∨ 81 < b → V' b = V b) (h0 : ∀ j, ¬ j = 8 → V' 0 j = V 0 j) (h56 : ∀ j, ¬ j = 17 → ¬ j = 28 → ¬ j = 24 → V' 56 j = V 56 j) (hJ : J' 64 = J 64) (hO : iHor V') : iInv i' T z V' J' R := by
  obtain ⟨h1, h2, ⟨H, h3⟩, ⟨P, h4⟩, h5⟩ := h
  refine ⟨h1, ⟨h2.1, by omega, by omega⟩, ⟨H, iHid_e h3 (Nat.le_refl _) (fun _ _ _ => rfl) rfl (fun _ _ _ => rfl) (h0 1 (by decide)) (h56 0 (by decide) (by decide) (by decide)) (hr 57 (by omega)) (hr 58 (by omega)) (fun b b1 _ _ => hr b (by omega))⟩, ⟨P, iPar_e h4 hi (Nat.le_refl _) (fun _ _ _ => rfl) rfl (fun _ _ _ => rfl) (h0 3 (by decide)) (h56 3 (by decide) (by decide) (by decide)) (fun r r1 r2 => hr r (by omega)) hJ (fun b b1 _ _ => hr b (by omega))⟩, hO⟩
/-- the rows that a horse's or a saddle's heights and flocks need -/
theorem iHor_w {V V' : Nat → Nat → Int} (h : iHor V) (hh : ∀ h k, h < 6 → k < 7 → V' (11 + 4 * h) k = V' 74 (7 * h + k)) (hs : ∀ s k, s < 6 → k < 7 → V' (36 + 3 * s) k = V' 75 (7 * s + k) ∧ V' (37 + 3 * s) k = V' 76 (7 * s + k)) (hm : xMh V') (h12 : ∀ h, h < 6 → V' (12 + 4 * h) = V (12 + 4 * h) ∧ V' (13 + 4 * h) = V (13 + 4 * h)) (h55 : V' 55 = V 55) (hr : ∀ b, 77 ≤ b → b ≤ 80 → V' b = V b) (h0 : V' 0 8 = V 0 8) (h56 : V' 56 24 = V 56 24) : iHor V' := by
  obtain ⟨a1, a2, a3, a4, a5, a6, a7⟩ := h
  refine ⟨fun h k b c => ⟨hh h k b c, ?_⟩, hs, hm, fun h k w b c e => ?_, by rw [h0, h56]; exact a5, ?_, by rw [h55]; exact a7⟩
  · rw [(h12 h b).1, hr 77 (by omega) (by omega)]; exact (a1 h k b c).2
  · rw [(h12 h b).2, hr 78 (by omega) (by omega), hr 79 (by omega) (by omega), hr 80 (by omega) (by omega)]; exact a4 h k w b c e
  · rw [hr 77 (by omega) (by omega), hr 78 (by omega) (by omega), hr 79 (by omega) (by omega), hr 80 (by omega) (by omega), h56]; exact a6
section SX9b
variable {sc : xS} {i : Nat} {T : Nat → Nat × Nat} {z : Nat × Nat} {V : Nat → Nat → Int} {J : Nat → Nat → Int64} {R : Nat → Nat → Option Nat}
theorem jc_in {J : Nat → Nat → Int64} {v : Int64} : xup2 J 81 0 v 81 0 = v ∧ xup2 J 81 0 v 64 = J 64 := ⟨xup2_i, xup2_o (by decide)⟩
theorem c_back {h k v : Int} (hI : iInv i T z V J R) (hi : i ≤ 512) (hh : (-2147483648 ≤ h ∧ h ≤ 2147483647)) (hk : (-2147483648 ≤ k ∧ k ≤ 2147483647)) (hv : (-2147483648 ≤ v ∧ v ≤ 2147483647)) : iCs sc i 66 136 [xw h, xw k, xw v] kB T z V J R := by
  obtain ⟨⟨hT, hR, hH, hS, hE, hM, h81⟩, hz, hH', hP', hO⟩ := id hI
  have cls := s_back (sc := sc) (d := 1) (z := z) (V := V) (J := J) hT hH hh hk hv
  by_cases c : (0 ≤ h ∧ h < 6) ∧ (0 ≤ k ∧ k < 7)
  · by_cases c2 : -50 ≤ v ∧ v ≤ 50
    · rw [if_pos c, if_pos c2] at cls
      obtain ⟨h', rfl⟩ : ∃ m : Nat, h = m := ⟨h.toNat, by omega⟩
      obtain ⟨k', rfl⟩ : ∃ m : Nat, k = m := ⟨k.toNat, by omega⟩
      have ei : (7 * (h' : Int) + (k' : Int)).toNat = 7 * h' + k' := by omega
      rw [Int.toNat_natCast, Int.toNat_natCast] at cls
      have mod := m_back (sc := sc) (d := 7) (z := z) (V := xup2 V (11 + 4 * h') k' v) (J := xup2 J 81 0 (jI (V (11 + 4 * h') k'))) hM hh hk hv
      rw [if_pos c, if_pos c2, ei, xup2_o (by omega), ← (hO.1 h' k' (by omega) (by omega)).1] at mod
      refine Or.inl ⟨_, _, _, _, _, _, _, _, (by intro h; exact absurd h (by decide)), cls, h81, hM.1, mod, jc_in.1, ?_, ?_⟩
      · rw [xup2_o (by decide), xup2_i]
      · have ro : ∀ b, ¬ b = 11 + 4 * h' → ¬ b = 56 → ¬ b = 74 → xup2 (xup2 (xup2 V (11 + 4 * h') k' v) 56 28 0) 74 (7 * h' + k') v b = V b := fun b b1 b2 b3 => by rw [xup2_o b3, xup2_o b2, xup2_o b1]
        have r56 : ∀ j, ¬ j = 28 → xup2 (xup2 (xup2 V (11 + 4 * h') k' v) 56 28 0) 74 (7 * h' + k') v 56 j = V 56 j := fun j hj => by rw [xup2_o (by decide), xup2_j hj, xup2_o (by omega)]
        refine iInv_h hI ⟨by omega, by omega⟩ (fun b hb => ro b (by omega) (by omega) (by omega)) (fun j _ => by rw [ro 0 (by omega) (by decide) (by decide)]) (fun j _ j2 _ => r56 j j2) jc_in.2 (iHor_w hO (fun a b ha hb => ?_) (fun a b ha hb => ?_) (fun j hj => ?_) (fun a ha => ⟨ro _ (by omega) (by omega) (by omega), ro _ (by omega) (by omega) (by omega)⟩) (ro 55 (by omega) (by decide) (by decide)) (fun b _ _ => ro b (by omega) (by omega) (by omega)) (by rw [ro 0 (by omega) (by decide) (by decide)]) (r56 24 (by decide)))
        · by_cases e : a = h' ∧ b = k'
          · rw [e.1, e.2, xup2_i, xup2_o (by omega), xup2_o (by omega), xup2_i]
          · rw [xup2_j (show ¬ 7 * a + b = 7 * h' + k' by omega), xup2_o (show ¬ (74 : Nat) = 56 by decide), xup2_o (show ¬ (74 : Nat) = 11 + 4 * h' by omega), xup2_o (show ¬ 11 + 4 * a = 74 by omega), xup2_o (show ¬ 11 + 4 * a = 56 by omega), ← (hO.1 a b ha hb).1]
            by_cases e2 : a = h'
            · subst e2; rw [xup2_j (fun q => e ⟨rfl, q⟩)]
            · rw [xup2_o (by omega)]
        · rw [ro (36 + 3 * a) (by omega) (by omega) (by omega), ro (37 + 3 * a) (by omega) (by omega) (by omega), ro 75 (by omega) (by decide) (by decide), ro 76 (by omega) (by decide) (by decide)]; exact hO.2.1 a b ha hb
        · rw [ro 75 (by omega) (by decide) (by decide), ro 76 (by omega) (by decide) (by decide)]
          have := hO.2.2.1 j hj
          refine ⟨?_, this.2⟩
          by_cases e : j = 7 * h' + k'
          · subst e; rw [xup2_i]; omega
          · rw [xup2_j e, xup2_o (by decide), xup2_o (by omega)]; exact this.1
    · rw [if_pos c, if_neg c2] at cls
      (refine iCs_x (k := 0) hI hi iScr_r cls (fun T z V J R hI2 eV eM eJ => ?_) (by decide) (by decide); obtain ⟨⟨_, _, _, _, _, hM, _⟩, hz, hH9, hP9, hO⟩ := id hI2; have mod := m_back (sc := sc) (d := 7) (T := T) (z := z) (V := V) (J := J) (R := R) hM hh hk hv; rw [if_pos c, if_neg c2] at mod; exact ⟨_, mod, by rw [xup2_i]; rfl, iScr_f⟩)
  · rw [if_neg c] at cls
    (refine iCs_x (k := 0) hI hi iScr_r cls (fun T z V J R hI2 eV eM eJ => ?_) (by decide) (by decide); obtain ⟨⟨_, _, _, _, _, hM, _⟩, hz, hH9, hP9, hO⟩ := id hI2; have mod := m_back (sc := sc) (d := 7) (T := T) (z := z) (V := V) (J := J) (R := R) hM hh hk hv; rw [if_neg c] at mod; exact ⟨_, mod, by rw [xup2_i]; rfl, iScr_f⟩)
theorem c_tree {h k v : Int} (hI : iInv i T z V J R) (hi : i ≤ 512) (hh : (-2147483648 ≤ h ∧ h ≤ 2147483647)) (hk : (-2147483648 ≤ k ∧ k ≤ 2147483647)) (hv : (-2147483648 ≤ v ∧ v ≤ 2147483647)) : iCs sc i 67 137 [xw h, xw k, xw v] kB T z V J R := by
  obtain ⟨⟨hT, hR, hH, hS, hE, hM, h81⟩, hz, hH9, hP9, hO⟩ := id hI
  have cls := s_tree (sc := sc) (d := 1) (z := z) (V := V) (J := J) hT hS hh hk hv
  by_cases c : (0 ≤ h ∧ h < 6) ∧ (0 ≤ k ∧ k < 7)
  · by_cases c2 : -50 ≤ v ∧ v ≤ 50
    · rw [if_pos c, if_pos c2] at cls
      obtain ⟨h', rfl⟩ : ∃ m : Nat, h = m := ⟨h.toNat, by omega⟩
      obtain ⟨k', rfl⟩ : ∃ m : Nat, k = m := ⟨k.toNat, by omega⟩
      have ei : (7 * (h' : Int) + (k' : Int)).toNat = 7 * h' + k' := by omega
      rw [Int.toNat_natCast, Int.toNat_natCast] at cls
      have mod := m_tree (sc := sc) (d := 7) (z := z) (V := xup2 V (36 + 3 * h') k' v) (J := xup2 J 81 0 (jI (V (36 + 3 * h') k'))) hM hh hk hv
      rw [if_pos c, if_pos c2, ei, xup2_o (by omega), ← (hO.2.1 h' k' (by omega) (by omega)).1] at mod
      refine Or.inl ⟨_, _, _, _, _, _, _, _, (by intro h; exact absurd h (by decide)), cls, h81, hM.1, mod, jc_in.1, ?_, ?_⟩
      · rw [xup2_o (by decide), xup2_i]
      · have ro : ∀ b, ¬ b = 36 + 3 * h' → ¬ b = 56 → ¬ b = 75 → xup2 (xup2 (xup2 V (36 + 3 * h') k' v) 56 28 0) 75 (7 * h' + k') v b = V b := fun b b1 b2 b3 => by rw [xup2_o b3, xup2_o b2, xup2_o b1]
        have r56 : ∀ j, ¬ j = 28 → xup2 (xup2 (xup2 V (36 + 3 * h') k' v) 56 28 0) 75 (7 * h' + k') v 56 j = V 56 j := fun j hj => by rw [xup2_o (by decide), xup2_j hj, xup2_o (by omega)]
        refine iInv_h hI ⟨by omega, by omega⟩ (fun b hb => ro b (by omega) (by omega) (by omega)) (fun j _ => by rw [ro 0 (by omega) (by decide) (by decide)]) (fun j _ j2 _ => r56 j j2) jc_in.2 (iHor_w hO (fun a b ha hb => ?_) (fun a b ha hb => ?_) (fun j hj => ?_) (fun a ha => ⟨ro _ (by omega) (by omega) (by omega), ro _ (by omega) (by omega) (by omega)⟩) (ro 55 (by omega) (by decide) (by decide)) (fun b _ _ => ro b (by omega) (by omega) (by omega)) (by rw [ro 0 (by omega) (by decide) (by decide)]) (r56 24 (by decide)))
        · rw [ro (11 + 4 * a) (by omega) (by omega) (by omega), ro 74 (by omega) (by decide) (by decide)]; exact (hO.1 a b ha hb).1
        · have old := hO.2.1 a b ha hb
          have one : xup2 (xup2 (xup2 V (36 + 3 * h') k' v) 56 28 0) 75 (7 * h' + k') v (36 + 3 * a) b = xup2 (xup2 (xup2 V (36 + 3 * h') k' v) 56 28 0) 75 (7 * h' + k') v 75 (7 * a + b) := by
            by_cases e : a = h' ∧ b = k'
            · rw [e.1, e.2, xup2_i, xup2_o (by omega), xup2_o (by omega), xup2_i]
            · rw [xup2_j (show ¬ 7 * a + b = 7 * h' + k' by omega), xup2_o (show ¬ (75 : Nat) = 56 by decide), xup2_o (show ¬ (75 : Nat) = 36 + 3 * h' by omega), xup2_o (show ¬ 36 + 3 * a = 75 by omega), xup2_o (show ¬ 36 + 3 * a = 56 by omega), ← old.1]
              by_cases e2 : a = h'
              · subst e2; rw [xup2_j (fun q => e ⟨rfl, q⟩)]
              · rw [xup2_o (by omega)]
          have two : xup2 (xup2 (xup2 V (36 + 3 * h') k' v) 56 28 0) 75 (7 * h' + k') v (37 + 3 * a) b = xup2 (xup2 (xup2 V (36 + 3 * h') k' v) 56 28 0) 75 (7 * h' + k') v 76 (7 * a + b) := by
            rw [ro (37 + 3 * a) (by omega) (by omega) (by omega), ro 76 (by omega) (by decide) (by decide)]; exact old.2
          exact ⟨one, two⟩
        · rw [ro 74 (by omega) (by decide) (by decide), ro 76 (by omega) (by decide) (by decide)]
          have := hO.2.2.1 j hj
          have key : -50 ≤ xup2 (xup2 (xup2 V (36 + 3 * h') k' v) 56 28 0) 75 (7 * h' + k') v 75 j ∧ xup2 (xup2 (xup2 V (36 + 3 * h') k' v) 56 28 0) 75 (7 * h' + k') v 75 j ≤ 50 := by
            by_cases e : j = 7 * h' + k'
            · subst e; rw [xup2_i]; omega
            · rw [xup2_j e, xup2_o (by decide), xup2_o (by omega)]; exact this.2.1
          exact ⟨this.1, key, this.2.2⟩
    · rw [if_pos c, if_neg c2] at cls
      (refine iCs_x (k := 0) hI hi iScr_r cls (fun T z V J R hI2 eV eM eJ => ?_) (by decide) (by decide); obtain ⟨⟨_, _, _, _, _, hM, _⟩, hz, hH9, hP9, hO⟩ := id hI2; have mod := m_tree (sc := sc) (d := 7) (T := T) (z := z) (V := V) (J := J) (R := R) hM hh hk hv; rw [if_pos c, if_neg c2] at mod; exact ⟨_, mod, by rw [xup2_i]; rfl, iScr_f⟩)
  · rw [if_neg c] at cls
    (refine iCs_x (k := 0) hI hi iScr_r cls (fun T z V J R hI2 eV eM eJ => ?_) (by decide) (by decide); obtain ⟨⟨_, _, _, _, _, hM, _⟩, hz, hH9, hP9, hO⟩ := id hI2; have mod := m_tree (sc := sc) (d := 7) (T := T) (z := z) (V := V) (J := J) (R := R) hM hh hk hv; rw [if_neg c] at mod; exact ⟨_, mod, by rw [xup2_i]; rfl, iScr_f⟩)
theorem c_flock {h k v : Int} (hI : iInv i T z V J R) (hi : i ≤ 512) (hh : (-2147483648 ≤ h ∧ h ≤ 2147483647)) (hk : (-2147483648 ≤ k ∧ k ≤ 2147483647)) (hv : (-2147483648 ≤ v ∧ v ≤ 2147483647)) : iCs sc i 68 138 [xw h, xw k, xw v] kB T z V J R := by
  obtain ⟨⟨hT, hR, hH, hS, hE, hM, h81⟩, hz, hH9, hP9, hO⟩ := id hI
  have cls := s_flock (sc := sc) (d := 1) (z := z) (V := V) (J := J) hT hS hh hk hv
  by_cases c : (0 ≤ h ∧ h < 6) ∧ (0 ≤ k ∧ k < 7)
  · by_cases c2 : 0 ≤ v ∧ v ≤ 20
    · rw [if_pos c, if_pos c2] at cls
      obtain ⟨h', rfl⟩ : ∃ m : Nat, h = m := ⟨h.toNat, by omega⟩
      obtain ⟨k', rfl⟩ : ∃ m : Nat, k = m := ⟨k.toNat, by omega⟩
      have ei : (7 * (h' : Int) + (k' : Int)).toNat = 7 * h' + k' := by omega
      rw [Int.toNat_natCast, Int.toNat_natCast] at cls
      have mod := m_flock (sc := sc) (d := 7) (z := z) (V := xup2 V (37 + 3 * h') k' v) (J := xup2 J 81 0 (jI (V (37 + 3 * h') k'))) hM hh hk hv
      rw [if_pos c, if_pos c2, ei, xup2_o (by omega), ← (hO.2.1 h' k' (by omega) (by omega)).2] at mod
      refine Or.inl ⟨_, _, _, _, _, _, _, _, (by intro h; exact absurd h (by decide)), cls, h81, hM.1, mod, jc_in.1, ?_, ?_⟩
      · rw [xup2_o (by decide), xup2_i]
      · have ro : ∀ b, ¬ b = 37 + 3 * h' → ¬ b = 56 → ¬ b = 76 → xup2 (xup2 (xup2 V (37 + 3 * h') k' v) 56 28 0) 76 (7 * h' + k') v b = V b := fun b b1 b2 b3 => by rw [xup2_o b3, xup2_o b2, xup2_o b1]
        have r56 : ∀ j, ¬ j = 28 → xup2 (xup2 (xup2 V (37 + 3 * h') k' v) 56 28 0) 76 (7 * h' + k') v 56 j = V 56 j := fun j hj => by rw [xup2_o (by decide), xup2_j hj, xup2_o (by omega)]
        refine iInv_h hI ⟨by omega, by omega⟩ (fun b hb => ro b (by omega) (by omega) (by omega)) (fun j _ => by rw [ro 0 (by omega) (by decide) (by decide)]) (fun j _ j2 _ => r56 j j2) jc_in.2 (iHor_w hO (fun a b ha hb => ?_) (fun a b ha hb => ?_) (fun j hj => ?_) (fun a ha => ⟨ro _ (by omega) (by omega) (by omega), ro _ (by omega) (by omega) (by omega)⟩) (ro 55 (by omega) (by decide) (by decide)) (fun b _ _ => ro b (by omega) (by omega) (by omega)) (by rw [ro 0 (by omega) (by decide) (by decide)]) (r56 24 (by decide)))
        · rw [ro (11 + 4 * a) (by omega) (by omega) (by omega), ro 74 (by omega) (by decide) (by decide)]; exact (hO.1 a b ha hb).1
        · have old := hO.2.1 a b ha hb
          have one : xup2 (xup2 (xup2 V (37 + 3 * h') k' v) 56 28 0) 76 (7 * h' + k') v (37 + 3 * a) b = xup2 (xup2 (xup2 V (37 + 3 * h') k' v) 56 28 0) 76 (7 * h' + k') v 76 (7 * a + b) := by
            by_cases e : a = h' ∧ b = k'
            · rw [e.1, e.2, xup2_i, xup2_o (by omega), xup2_o (by omega), xup2_i]
            · rw [xup2_j (show ¬ 7 * a + b = 7 * h' + k' by omega), xup2_o (show ¬ (76 : Nat) = 56 by decide), xup2_o (show ¬ (76 : Nat) = 37 + 3 * h' by omega), xup2_o (show ¬ 37 + 3 * a = 76 by omega), xup2_o (show ¬ 37 + 3 * a = 56 by omega), ← old.2]
              by_cases e2 : a = h'
              · subst e2; rw [xup2_j (fun q => e ⟨rfl, q⟩)]
              · rw [xup2_o (by omega)]
          have two : xup2 (xup2 (xup2 V (37 + 3 * h') k' v) 56 28 0) 76 (7 * h' + k') v (36 + 3 * a) b = xup2 (xup2 (xup2 V (37 + 3 * h') k' v) 56 28 0) 76 (7 * h' + k') v 75 (7 * a + b) := by
            rw [ro (36 + 3 * a) (by omega) (by omega) (by omega), ro 75 (by omega) (by decide) (by decide)]; exact old.1
          exact ⟨two, one⟩
        · rw [ro 74 (by omega) (by decide) (by decide), ro 75 (by omega) (by decide) (by decide)]
          have := hO.2.2.1 j hj
          have key : 0 ≤ xup2 (xup2 (xup2 V (37 + 3 * h') k' v) 56 28 0) 76 (7 * h' + k') v 76 j ∧ xup2 (xup2 (xup2 V (37 + 3 * h') k' v) 56 28 0) 76 (7 * h' + k') v 76 j ≤ 20 := by
            by_cases e : j = 7 * h' + k'
            · subst e; rw [xup2_i]; omega
            · rw [xup2_j e, xup2_o (by decide), xup2_o (by omega)]; exact this.2.2
          exact ⟨this.1, this.2.1, key⟩
    · rw [if_pos c, if_neg c2] at cls
      (refine iCs_x (k := 0) hI hi iScr_r cls (fun T z V J R hI2 eV eM eJ => ?_) (by decide) (by decide); obtain ⟨⟨_, _, _, _, _, hM, _⟩, hz, hH9, hP9, hO⟩ := id hI2; have mod := m_flock (sc := sc) (d := 7) (T := T) (z := z) (V := V) (J := J) (R := R) hM hh hk hv; rw [if_pos c, if_neg c2] at mod; exact ⟨_, mod, by rw [xup2_i]; rfl, iScr_f⟩)
  · rw [if_neg c] at cls
    (refine iCs_x (k := 0) hI hi iScr_r cls (fun T z V J R hI2 eV eM eJ => ?_) (by decide) (by decide); obtain ⟨⟨_, _, _, _, _, hM, _⟩, hz, hH9, hP9, hO⟩ := id hI2; have mod := m_flock (sc := sc) (d := 7) (T := T) (z := z) (V := V) (J := J) (R := R) hM hh hk hv; rw [if_neg c] at mod; exact ⟨_, mod, by rw [xup2_i]; rfl, iScr_f⟩)
end SX9b
