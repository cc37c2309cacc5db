/-! the law's cases: ride -/
def iRd (C : Int) (A B : Nat → Nat → Int) : Prop :=
  (∀ h k, h < 6 → k < 7 → A (12 + 4 * h) k = B 77 (7 * h + k)) ∧ (∀ s k, s < 6 → k < 7 → A (37 + 3 * s) k = B 76 (7 * s + k)) ∧ (∀ k, k < 42 → 0 ≤ B 76 k ∧ B 76 k ≤ 20) ∧
  (∀ h k w, h < 6 → k < 7 → w < 6 → A (13 + 4 * h) ((k * 3 + 0) * 6 + w) = B 78 (6 * (7 * h + k) + w)) ∧ (∀ h k w, h < 6 → k < 7 → w < 6 → A (13 + 4 * h) ((k * 3 + 1) * 6 + w) = (if w < 4 then B 79 (4 * (7 * h + k) + w) else 0)) ∧ (∀ h k w, h < 6 → k < 7 → w < 6 → A (13 + 4 * h) ((k * 3 + 2) * 6 + w) = (if 1 ≤ w ∧ w < 4 then B 80 (4 * (7 * h + k) + w) else 0)) ∧
  ((∀ k, k < 42 → 0 ≤ B 77 k ∧ B 77 k ≤ C) ∧ (∀ k, k < 252 → 0 ≤ B 78 k ∧ B 78 k ≤ C) ∧ (∀ k, k < 168 → 0 ≤ B 79 k ∧ B 79 k ≤ C) ∧ (∀ k, k < 168 → 0 ≤ B 80 k ∧ B 80 k ≤ C))
theorem xAm_in {its hr : Int} (hr2 : 1 ≤ hr ∧ hr ≤ 10) (hi : its ≤ 24000) : 0 ≤ xAm its hr ∧ xAm its hr ≤ 240000 := by
  unfold xAm
  by_cases c : its ≤ 40
  · rw [if_pos c]; decide
  · rw [if_neg c]
    rcases (show hr = 1 ∨ hr = 2 ∨ hr = 3 ∨ hr = 4 ∨ hr = 5 ∨ hr = 6 ∨ hr = 7 ∨ hr = 8 ∨ hr = 9 ∨ hr = 10 by omega) with rfl | rfl | rfl | rfl | rfl | rfl | rfl | rfl | rfl | rfl <;> omega
theorem iRd_s {C : Int} {A B : Nat → Nat → Int} {h s r g k : Nat} {hr dp : Int} (hP : iRd C A B) (hh : h < 6) (hs : s < 6) (hr2 : r < 4) (hg : 1 ≤ g ∧ g < 4) (hk : k < 7) (hhr : 1 ≤ hr ∧ hr ≤ 10) (hd : -5000 ≤ dp ∧ dp ≤ 5000) (hG : -1000 ≤ A 54 k ∧ A 54 k ≤ 1000) (e : A 54 k = xGp B h s k) :
    iRd (C + 240000) (xRs (12 + 4 * h) (13 + 4 * h) (37 + 3 * s) s r g hr dp k A) (xMR1 B h s r g hr dp k) := by
  obtain ⟨a1, a2, a3, a4, a5, a6, b1, b2, b3, b4⟩ := hP
  have cl := @xRs_pt A (12 + 4 * h) (13 + 4 * h) (37 + 3 * s) k s r g hr dp ((k * 3 + 0) * 6 + s) ((k * 3 + 1) * 6 + r) ((k * 3 + 2) * 6 + g) (by omega) (by omega) (by omega) (by omega) (by omega) (by omega) (by omega) (by omega) (by omega)
  obtain ⟨m7, m8, m9, m0, m6, _⟩ := @xMR1_pt B h s r g hr dp k (7 * h + k) (6 * (7 * h + k) + s) (4 * (7 * h + k) + r) (4 * (7 * h + k) + g) (7 * s + k) (by omega) (by omega) (by omega) (by omega) (by omega)
  have ei : xIts B h s dp k = 4 * max 0 (dp - A 54 k) := by unfold xIts; rw [e]
  rw [ei] at m7 m8 m9 m0 m6
  have fl := a2 s k hs hk
  rw [← fl] at m6
  have am := xAm_in (its := 4 * max 0 (dp - A 54 k)) hhr (by omega)
  generalize xAm (4 * max 0 (dp - A 54 k)) hr = am at cl m7 m8 m9 m0 am
  have hx : ∀ x, x = (if 4 * max 0 (dp - A 54 k) ≤ 20 then (0 : Int) else if A (37 + 3 * s) k ≤ 0 then 0 else 1) → 0 ≤ x ∧ x ≤ max 0 (A (37 + 3 * s) k) := by
    intro x hx
    subst hx
    split
    · omega
    · split <;> omega
  have hx := hx _ rfl
  generalize (if 4 * max 0 (dp - A 54 k) ≤ 20 then (0 : Int) else if A (37 + 3 * s) k ≤ 0 then 0 else 1) = dx at cl m6 hx
  generalize xRs (12 + 4 * h) (13 + 4 * h) (37 + 3 * s) s r g hr dp k A = A' at cl ⊢
  generalize xMR1 B h s r g hr dp k = B' at m7 m8 m9 m0 m6 ⊢
  refine ⟨fun h' k' x y => ?_, fun s' k' x y => ?_, fun k' x => ?_, fun h' k' w x y zz => ?_, fun h' k' w x y zz => ?_, fun h' k' w x y zz => ?_, fun k' x => ?_, fun k' x => ?_, fun k' x => ?_, fun k' x => ?_⟩
  · rw [cl, m7, a1 h' k' x y, if_neg (show ¬ (12 + 4 * h' = 13 + 4 * h ∧ _) by omega), if_neg (show ¬ (12 + 4 * h' = 37 + 3 * s ∧ _) by omega)]
    by_cases c : h' = h ∧ k' = k
    · rw [if_pos (by omega), if_pos (by omega)]; omega
    · rw [if_neg (by omega), if_neg (by omega)]; omega
  · rw [cl, m6, a2 s' k' x y, if_neg (show ¬ (37 + 3 * s' = 13 + 4 * h ∧ _) by omega), if_neg (show ¬ (37 + 3 * s' = 12 + 4 * h ∧ _) by omega)]
    by_cases c : s' = s ∧ k' = k
    · rw [if_pos (by omega), if_pos (by omega)]; omega
    · rw [if_neg (by omega), if_neg (by omega)]; omega
  · rw [m6]
    have := a3 k' x
    by_cases c : k' = 7 * s + k
    · rw [if_pos c]; rw [c] at this ⊢; omega
    · rw [if_neg c]; omega
  · rw [cl, m8, a4 h' k' w x y zz, if_neg (show ¬ (13 + 4 * h' = 12 + 4 * h ∧ _) by omega), if_neg (show ¬ (13 + 4 * h' = 37 + 3 * s ∧ _) by omega)]
    by_cases c : h' = h ∧ k' = k ∧ w = s
    · rw [if_pos (by omega), if_pos (by omega)]; omega
    · rw [if_neg (by omega), if_neg (by omega)]; omega
  · rw [cl, m9, a5 h' k' w x y zz, if_neg (show ¬ (13 + 4 * h' = 12 + 4 * h ∧ _) by omega), if_neg (show ¬ (13 + 4 * h' = 37 + 3 * s ∧ _) by omega)]
    by_cases c : h' = h ∧ k' = k ∧ w = r
    · rw [if_pos (show w < 4 by omega), if_pos (show w < 4 by omega), if_pos (by omega), if_pos (by omega)]; omega
    · by_cases c2 : w < 4
      · rw [if_pos c2, if_pos c2, if_neg (by omega), if_neg (by omega)]; omega
      · rw [if_neg c2, if_neg c2, if_neg (by omega)]; rfl
  · rw [cl, m0, a6 h' k' w x y zz, if_neg (show ¬ (13 + 4 * h' = 12 + 4 * h ∧ _) by omega), if_neg (show ¬ (13 + 4 * h' = 37 + 3 * s ∧ _) by omega)]
    by_cases c : h' = h ∧ k' = k ∧ w = g
    · rw [if_pos (show 1 ≤ w ∧ w < 4 by omega), if_pos (show 1 ≤ w ∧ w < 4 by omega), if_pos (by omega), if_pos (by omega)]; omega
    · by_cases c2 : 1 ≤ w ∧ w < 4
      · rw [if_pos c2, if_pos c2, if_neg (by omega), if_neg (by omega)]; omega
      · rw [if_neg c2, if_neg c2, if_neg (by omega)]; rfl
  · rw [m7]; have := b1 k' x; split <;> omega
  · rw [m8]; have := b2 k' x; split <;> omega
  · rw [m9]; have := b3 k' x; split <;> omega
  · rw [m0]; have := b4 k' x; split <;> omega
theorem iRd_l {h s r g : Nat} {hr dp : Int} (hh : h < 6) (hs : s < 6) (hr2 : r < 4) (hg : 1 ≤ g ∧ g < 4) (hhr : 1 ≤ hr ∧ hr ≤ 10) (hd : -5000 ≤ dp ∧ dp ≤ 5000) :
    ∀ (m k : Nat) (C n : Int) (A B : Nat → Nat → Int), k + m = 7 → iRd C A B → (∀ j, j < 7 → -1000 ≤ A 54 j ∧ A 54 j ≤ 1000) → (∀ j : Nat, k ≤ j → j < 7 → A 54 j = xGp B h s j) →
    iRd (C + 240000 * m) (xRl (12 + 4 * h) (13 + 4 * h) (37 + 3 * s) s r g hr dp m k A) (xMRl h s r g hr dp m k B) ∧ xRm (A 54) dp m k n = xMRn h s r g hr dp m k B n ∧ (∀ b, ¬ b = 12 + 4 * h → ¬ b = 13 + 4 * h → ¬ b = 37 + 3 * s → xRl (12 + 4 * h) (13 + 4 * h) (37 + 3 * s) s r g hr dp m k A b = A b) ∧ ∀ b, ¬ (76 ≤ b ∧ b ≤ 80) → xMRl h s r g hr dp m k B b = B b := by
  intro m
  induction m with
  | zero => intro k C n A B _ hP _ _; exact ⟨by rw [show C + 240000 * ((0 : Nat) : Int) = C by omega]; exact hP, rfl, fun b _ _ _ => rfl, fun b _ => rfl⟩
  | succ m ih =>
    intro k C n A B hk hP hG e
    have st := iRd_s (r := r) (g := g) (hr := hr) (dp := dp) hP hh hs hr2 hg (show k < 7 by omega) hhr hd (hG k (by omega)) (e k (Nat.le_refl k) (by omega))
    have h54 : xRs (12 + 4 * h) (13 + 4 * h) (37 + 3 * s) s r g hr dp k A 54 = A 54 := xRs_ne (by omega) (by omega) (by omega)
    obtain ⟨_, _, _, _, m6, mo⟩ := @xMR1_pt B h s r g hr dp k (7 * h + k) (6 * (7 * h + k) + s) (4 * (7 * h + k) + r) (4 * (7 * h + k) + g) (7 * s + k) (by omega) (by omega) (by omega) (by omega) (by omega)
    obtain ⟨i1, i2, i3, i4⟩ := ih (k + 1) (C + 240000) (if 4 * max 0 (dp - A 54 k) ≤ 40 then n else n + 1) _ _ (by omega) st (by rw [h54]; exact hG) (fun j x y => by
      rw [h54, e j (by omega) y]
      unfold xGp
      rw [show (7 * (s : Int) + (j : Int)).toNat = 7 * s + j by omega, mo 75 (by decide), mo 74 (by decide), m6, if_neg (by omega)]; omega)
    rw [h54] at i2
    refine ⟨?_, ?_, fun b x y zz => ?_, fun b x => ?_⟩
    · rw [xRl, xMRl, show C + 240000 * ((m + 1 : Nat) : Int) = C + 240000 + 240000 * (m : Int) by omega]; exact i1
    · rw [xRm, xMRn, i2]
      congr 1
      unfold xIts
      rw [← e k (Nat.le_refl k) (by omega)]
      by_cases c : 4 * max 0 (dp - A 54 k) ≤ 40
      · rw [if_pos c, if_pos c]; omega
      · rw [if_neg c, if_neg c]
    · rw [xRl, i3 b x y zz, xRs_ne x y zz]
    · rw [xMRl, i4 b x, mo b x]
section SX9e
variable {sc : xS} {i : Nat} {T : Nat → Nat × Nat} {z : Nat × Nat} {V : Nat → Nat → Int} {J : Nat → Nat → Int64} {R : Nat → Nat → Option Nat}
theorem sore_in (hO : iHor V) {h : Int} (hh : 0 ≤ h ∧ h < 6) : ∀ j, j < 7 → -2147483648 ≤ V (12 + 4 * h.toNat) j ∧ V (12 + 4 * h.toNat) j ≤ 2147483647 := by
  intro j hj
  have e := (hO.1 h.toNat j (by omega) hj).2
  have b := hO.2.2.2.2.2.1.1 (7 * h.toNat + j) (by omega)
  have c5 := hO.2.2.2.2.1
  omega
theorem lame_h (hO : iHor V) {h : Int} (hh : 0 ≤ h ∧ h < 6) : xMl (V 77) h 7 0 0 = 0 ↔ xLa V (12 + 4 * h.toNat) 7 0 = false := by
  have lm := (lame_eq (V := V) (B := V 77) (s := 12 + 4 * h.toNat) (h := h.toNat) (fun j hj => (hO.1 h.toNat j (by omega) hj).2) 7 0 rfl).1
  rw [Int.toNat_of_nonneg hh.1] at lm
  exact lm
theorem c_ride {h s r w g hr : Int} (hI : iInv i T z V J R) (hi : i ≤ 512) (hh : (-2147483648 ≤ h ∧ h ≤ 2147483647)) (hs : (-2147483648 ≤ s ∧ s ≤ 2147483647)) (hr2 : (-2147483648 ≤ r ∧ r ≤ 2147483647)) (hw : (-2147483648 ≤ w ∧ w ≤ 2147483647)) (hg : (-2147483648 ≤ g ∧ g ≤ 2147483647)) (hhr : (-2147483648 ≤ hr ∧ hr ≤ 2147483647)) : iCs sc i 73 149 [xw h, xw s, xw r, xw w, xw g, xw hr] k123 T z V J R := by
  obtain ⟨⟨hT, hR, hH, hS, hE, hM, h81⟩, hz, hH9, hP9, hO⟩ := id hI
  have i24 : ∀ {V : Nat → Nat → Int}, iHor V → (-2147483648 ≤ V 56 24 ∧ V 56 24 ≤ 2147483647) := fun h => by have := h.2.2.2.2.1; omega
  by_cases c1 : (0 ≤ h ∧ h < 6) ∧ (0 ≤ s ∧ s < 6) ∧ (0 ≤ r ∧ r < 4)
  · have cls := s_ride_checks (sc := sc) (d := 1) (z := z) (V := V) (J := J) hT hH hS (sore_in hO c1.1) (by have := hO.2.2.2.2.1; omega) hh hs hr2 hw hg hhr
    by_cases c2 : (1 ≤ w ∧ w ≤ 1000) ∧ (1 ≤ g ∧ g ≤ 3) ∧ (1 ≤ hr ∧ hr ≤ 10)
    · by_cases c3 : xLa V (12 + 4 * h.toNat) 7 0 = false ∧ V 0 8 < 60
      · rw [if_pos c1, if_pos c2, if_pos c3] at cls
        have V08 := hO.2.2.2.2.1
        have go := ride_go (sc := sc) (d := 2) (z := z) (V := V) (J := J) (w := w) (hr := hr) (o9 := none) (o10 := none) (o11 := none) (o12 := none) (o13 := none) hT hE hH hS (iHor_bd hO) c1.1 c1.2.1 c1.2.2 c2.1 c2.2.1 c2.2.2
        obtain ⟨q, q1, q2, q3, q4⟩ := go
        rw [q4] at cls
        clear q4
        have lm := lame_h hO c1.1
        obtain ⟨h', rfl⟩ : ∃ m : Nat, h = m := ⟨h.toNat, by omega⟩
        obtain ⟨s', rfl⟩ : ∃ m : Nat, s = m := ⟨s.toNat, by omega⟩
        obtain ⟨r', rfl⟩ : ∃ m : Nat, r = m := ⟨r.toNat, by omega⟩
        obtain ⟨g', rfl⟩ : ∃ m : Nat, g = m := ⟨g.toNat, by omega⟩
        rw [Int.toNat_natCast, Int.toNat_natCast] at cls
        have h1 : h' < 6 := by omega
        have s1 : s' < 6 := by omega
        have ro0 : ∀ b, ¬ b = 0 → ¬ b = 54 → xMg (xup2 V 0 8 (V 0 8 + 1)) h' s' b = V b := fun b x y => by rw [xMg_ne y, xup2_o x]
        have gp0 : ∀ j, j < 7 → xMg (xup2 V 0 8 (V 0 8 + 1)) h' s' 54 j = xGG V h' s' j := by
          intro j hj
          have := iHor_g (W := V) hO ⟨c1.1, c1.2.1⟩ rfl rfl rfl j hj
          rw [← this, xMg_at hj, xMg_at hj, xup2_o (by omega), xup2_o (by omega), xup2_o (by omega)]
        have gi : ∀ j, j < 7 → -1000 ≤ xMg (xup2 V 0 8 (V 0 8 + 1)) h' s' 54 j ∧ xMg (xup2 V 0 8 (V 0 8 + 1)) h' s' 54 j ≤ 1000 := by
          intro j hj
          rw [gp0 j hj]
          unfold xGG xGp
          have x1 := hO.2.2.1 (7 * (s' : Int) + (j : Int)).toNat (by omega)
          have x2 := hO.2.2.1 (7 * (h' : Int) + (j : Int)).toNat (by omega)
          omega
        generalize hA0 : xMg (xup2 V 0 8 (V 0 8 + 1)) h' s' = A0 at *
        have a08 : A0 0 8 = V 56 24 + 1 := by rw [← hA0, xMg_ne (by decide), xup2_i]; omega
        have a0 : ∀ j, ¬ j = 8 → A0 0 j = V 0 j := fun j hj => by rw [← hA0, xMg_ne (by decide), xup2_j hj]
        obtain ⟨a1, a2, a3, a4, a5, a6, a7⟩ := id hO
        -- the class's rows against the model's, before
        have P0 : ∀ B : Nat → Nat → Int, (∀ b, 74 ≤ b → b ≤ 80 → B b = V b) → iRd (2000000 * V 56 24) A0 B := by
          intro B hB
          refine ⟨fun h k x y => ?_, fun s k x y => ?_, fun k x => ?_, fun h k w x y zz => ?_, fun h k w x y zz => ?_, fun h k w x y zz => ?_, ?_, ?_, ?_, ?_⟩
          · rw [ro0 _ (by omega) (by omega), hB 77 (by decide) (by decide)]; exact (a1 h k x y).2
          · rw [ro0 _ (by omega) (by omega), hB 76 (by decide) (by decide)]; exact (a2 s k x y).2
          · rw [hB 76 (by decide) (by decide)]; exact (a3 k x).2.2
          · rw [ro0 _ (by omega) (by omega), hB 78 (by decide) (by decide)]; exact (a4 h k w x y zz).1
          · rw [ro0 _ (by omega) (by omega), hB 79 (by decide) (by decide)]; exact (a4 h k w x y zz).2.1
          · rw [ro0 _ (by omega) (by omega), hB 80 (by decide) (by decide)]; exact (a4 h k w x y zz).2.2
          · rw [hB 77 (by decide) (by decide)]; exact a6.1
          · rw [hB 78 (by decide) (by decide)]; exact a6.2.1
          · rw [hB 79 (by decide) (by decide)]; exact a6.2.2.1
          · rw [hB 80 (by decide) (by decide)]; exact a6.2.2.2
        have L := fun (B : Nat → Nat → Int) (hB : ∀ b, 74 ≤ b → b ≤ 80 → B b = V b) => iRd_l (hr := hr) (dp := q) (r := r') (g := g') h1 s1 (by omega) (by omega) c2.2.2 ⟨q1, q2⟩ 7 0 _ 0 A0 B rfl (P0 B hB) gi (fun j _ y => by
          rw [gp0 j y]; unfold xGG xGp; rw [hB 74 (by decide) (by decide), hB 75 (by decide) (by decide), hB 76 (by decide) (by decide)])
        -- the state behind the class's call
        have ro1 := (L V (fun _ _ _ => rfl)).2.2.1
        generalize hA7 : xRl (12 + 4 * h') (13 + 4 * h') (37 + 3 * s') s' r' g' hr q 7 0 A0 = A7 at *
        have ro : ∀ b, 55 ≤ b → A7 b = V b := fun b x => by rw [ro1 b (by omega) (by omega) (by omega), ro0 b (by omega) (by omega)]
        have hS7 : xMs2 A7 := by
          have := iHor_s2 hO
          unfold xMs2 at this ⊢
          rw [ro 77 (by decide), ro 78 (by decide), ro 79 (by decide), ro 80 (by decide)]; exact this
        have hB7 : xMh A7 := by unfold xMh; rw [ro 74 (by decide), ro 75 (by decide), ro 76 (by decide)]; exact a3
        obtain ⟨q', p1, p2, p3, mod⟩ := m_ride (sc := sc) (d := 6) (z := z) (T := T) (R := R) (V := A7) (J := xup2 J 81 0 (jI (xRm (A0 54) q 7 0 0))) (hr := hr) hM hB7 hS7 (by rw [ro 56 (by decide)]; exact i24 hO) c1.1 c1.2.1 (show 0 ≤ (r' : Int) ∧ (r' : Int) ≤ 3 by omega) c2.1 c2.2.1 c2.2.2 (by rw [ro 77 (by decide)]; exact lm.mpr c3.1) (by rw [ro 56 (by decide)]; omega)
        have eq : q' = q := xDe_one p3 (xDe_e (fun j hj => by rw [gp0 j hj]; unfold xGG xGp; rw [ro 74 (by decide), ro 75 (by decide), ro 76 (by decide)]) q3)
        subst eq
        obtain ⟨l1, l2, l3, l4⟩ := L (xup2 A7 56 28 0) (fun b x y => by rw [xup2_o (by omega), ro b (by omega)])
        rw [← l2] at mod
        generalize hB : xMRl h' s' r' g' hr q' 7 0 (xup2 A7 56 28 0) = B7 at *
        have rb : ∀ b, ¬ (76 ≤ b ∧ b ≤ 80) → ¬ b = 56 → B7 b = A7 b := fun b x y => by rw [l4 b x, xup2_o y]
        have r56 : ∀ j, ¬ j = 28 → ¬ j = 24 → xup2 B7 56 24 (B7 56 24 + 1) 56 j = V 56 j := fun j x y => by rw [xup2_j y, l4 56 (by decide), xup2_j x, ro 56 (by decide)]
        have r24 : xup2 B7 56 24 (B7 56 24 + 1) 56 24 = V 56 24 + 1 := by rw [xup2_i, l4 56 (by decide), xup2_j (by decide), ro 56 (by decide)]
        have rV : ∀ b, ¬ b = 56 → xup2 B7 56 24 (B7 56 24 + 1) b = B7 b := fun b x => xup2_o x
        refine Or.inl ⟨_, _, _, _, _, _, _, _, (by intro h; exact absurd h (by decide)), cls, h81, hM.1, mod, jc_in.1, ?_, ?_⟩
        · rw [xup2_j (by decide), l4 56 (by decide), xup2_i]
        · have r0 : ∀ j, xup2 B7 56 24 (B7 56 24 + 1) 0 j = A0 0 j := fun j => by rw [rV 0 (by decide), rb 0 (by decide) (by decide), ro1 0 (by omega) (by omega) (by omega)]
          refine iInv_h hI ⟨by omega, by omega⟩ (fun b hb => by rw [rV b (by omega), rb b (by omega) (by omega), ro b (by omega)]) (fun j x => by rw [r0, a0 j x]) (fun j _ x y => r56 j x y) jc_in.2 ?_
          obtain ⟨p1, p2, p3, p4, p5, p6, p7, p8, p9, p0⟩ := l1
          have cr : ∀ b, b < 56 → xup2 B7 56 24 (B7 56 24 + 1) b = A7 b := fun b x => by rw [rV b (by omega), rb b (by omega) (by omega)]
          refine ⟨fun h k x y => ?_, fun s k x y => ?_, fun k x => ?_, fun h k w x y zz => ?_, ?_, ⟨fun k x => ?_, fun k x => ?_, fun k x => ?_, fun k x => ?_⟩, ?_⟩
          · rw [cr (11 + 4 * h) (by omega), cr (12 + 4 * h) (by omega), rV 74 (by decide), rV 77 (by decide), rb 74 (by decide) (by decide), ro 74 (by decide), ro1 (11 + 4 * h) (by omega) (by omega) (by omega), ro0 (11 + 4 * h) (by omega) (by omega)]
            exact ⟨(a1 h k x y).1, p1 h k x y⟩
          · rw [cr (36 + 3 * s) (by omega), cr (37 + 3 * s) (by omega), rV 75 (by decide), rV 76 (by decide), rb 75 (by decide) (by decide), ro 75 (by decide), ro1 (36 + 3 * s) (by omega) (by omega) (by omega), ro0 (36 + 3 * s) (by omega) (by omega)]
            exact ⟨(a2 s k x y).1, p2 s k x y⟩
          · rw [rV 74 (by decide), rV 75 (by decide), rV 76 (by decide), rb 74 (by decide) (by decide), rb 75 (by decide) (by decide), ro 74 (by decide), ro 75 (by decide)]
            exact ⟨(a3 k x).1, (a3 k x).2.1, p3 k x⟩
          · rw [cr (13 + 4 * h) (by omega), rV 78 (by decide), rV 79 (by decide), rV 80 (by decide)]
            exact ⟨p4 h k w x y zz, p5 h k w x y zz, p6 h k w x y zz⟩
          · rw [r0, a08, r24]; omega
          · rw [rV 77 (by decide), r24]; have := p7 k x; omega
          · rw [rV 78 (by decide), r24]; have := p8 k x; omega
          · rw [rV 79 (by decide), r24]; have := p9 k x; omega
          · rw [rV 80 (by decide), r24]; have := p0 k x; omega
          · rw [cr 55 (by decide), ro 55 (by decide)]; exact a7
      · rw [if_pos c1, if_pos c2, if_neg c3] at cls
        have lm := lame_h hO c1.1
        have V08 := hO.2.2.2.2.1
        (refine iCs_x (k := 0) hI hi iScr_r cls (fun T z V J R hI2 eV eM eJ => ?_) (by decide) (by decide); obtain ⟨⟨_, _, _, _, _, hM, _⟩, hz, hH9, hP9, hO⟩ := id hI2; have mod := m_ride_x (sc := sc) (d := 6) (T := T) (z := z) (V := V) (J := J) (R := R) hM (iHor_s2 hO) (i24 hO) hh hs hr2 hw hg hhr (fun q => c3 ⟨lm.mp (by rw [← eV 77 (by omega)]; exact q.2.2.1), by have := q.2.2.2; rw [eM] at this; omega⟩); rw [if_pos (show (0 ≤ h ∧ h < 6) ∧ (0 ≤ s ∧ s < 6) ∧ (0 ≤ r ∧ r ≤ 3) by omega), if_pos c2] at mod; exact ⟨_, mod, by rw [xup2_i]; rfl, iScr_f⟩)
    · rw [if_pos c1, if_neg c2] at cls
      (refine iCs_x (k := 0) hI hi iScr_r cls (fun T z V J R hI2 eV eM eJ => ?_) (by decide) (by decide); obtain ⟨⟨_, _, _, _, _, hM, _⟩, hz, hH9, hP9, hO⟩ := id hI2; have mod := m_ride_x (sc := sc) (d := 6) (T := T) (z := z) (V := V) (J := J) (R := R) hM (iHor_s2 hO) (i24 hO) hh hs hr2 hw hg hhr (fun q => c2 q.2.1); rw [if_pos (show (0 ≤ h ∧ h < 6) ∧ (0 ≤ s ∧ s < 6) ∧ (0 ≤ r ∧ r ≤ 3) by omega), if_neg c2] at mod; exact ⟨_, mod, by rw [xup2_i]; rfl, iScr_f⟩)
  · have cls : X sc 9 73 [.ref 0, xw h, xw s, xw r, xw w, xw g, xw hr] (T, z, xv V, J, R) = xTw 10 T z V J R := by
      by_cases ch : 0 ≤ h ∧ h < 6
      · have cls := s_ride_checks (sc := sc) (d := 1) (z := z) (V := V) (J := J) hT hH hS (sore_in hO ch) (by have := hO.2.2.2.2.1; omega) hh hs hr2 hw hg hhr
        rw [if_neg c1] at cls; exact cls
      · rw [eX6_ride, bX6_ride_0 hT.1, s_horse hT hH hh, if_neg ch, xret_w w_73]
    (refine iCs_x (k := 0) hI hi iScr_r cls (fun T z V J R hI2 eV eM eJ => ?_) (by decide) (by decide); obtain ⟨⟨_, _, _, _, _, hM, _⟩, hz, hH9, hP9, hO⟩ := id hI2; have mod := m_ride_x (sc := sc) (d := 6) (T := T) (z := z) (V := V) (J := J) (R := R) hM (iHor_s2 hO) (i24 hO) hh hs hr2 hw hg hhr (fun q => c1 (by omega)); rw [if_neg (show ¬ ((0 ≤ h ∧ h < 6) ∧ (0 ≤ s ∧ s < 6) ∧ (0 ≤ r ∧ r ≤ 3)) by omega)] at mod; exact ⟨_, mod, by rw [xup2_i]; rfl, iScr_f⟩)
end SX9e
