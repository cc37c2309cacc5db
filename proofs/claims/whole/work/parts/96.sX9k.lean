/-! the law's cases: hide, fault, find, cut -/
theorem xSp_o {V : Nat → Nat → Int} {g b : Nat} {c r al wi : Int} (h : ¬ b = g) : xSp V g c r al wi b = V b := by
  funext j; unfold xSp; rw [if_neg (fun q => h q.1)]
theorem xMb_at {h s : Int} {h' : Nat} (eh : h = (h' : Int)) : ∀ (m r : Nat) (V : Nat → Nat → Int) (q : Nat), xMb h s m (r : Int) V 58 q = if 8 * h' + r ≤ q ∧ q < 8 * h' + r + m then iOr (V 58 q) s else V 58 q := by
  intro m
  induction m with
  | zero => intro r V q; rw [if_neg (by omega)]; rfl
  | succ m ih =>
    intro r V q
    rw [xMb, show (8 * h + (r : Int)).toNat = 8 * h' + r by omega, show ((r : Int) + 1) = ((r + 1 : Nat) : Int) by omega, ih (r + 1)]
    by_cases e : q = 8 * h' + r
    · subst e; rw [if_neg (by omega), if_pos (by omega), xup2_i]
    · rw [xup2_j e]
      by_cases c : 8 * h' + r ≤ q ∧ q < 8 * h' + r + (m + 1)
      · rw [if_pos c, if_pos (by omega)]
      · rw [if_neg c, if_neg (by omega)]
theorem xMk_at {V : Nat → Nat → Int} {h c r al wi st : Int} {P : Nat} (hP : (V 56 3).toNat = P) :
    (∀ b, ¬ b = 56 → ¬ (58 ≤ b ∧ b ≤ 63) → ¬ (68 ≤ b ∧ b ≤ 70) → xMk V h c r al wi st b = V b) ∧ (∀ j, ¬ j = 28 → ¬ j = 3 → xMk V h c r al wi st 56 j = V 56 j) ∧ xMk V h c r al wi st 56 28 = 0 ∧ xMk V h c r al wi st 56 3 = V 56 3 + 1 ∧
    (∀ b q, (59 ≤ b ∧ b ≤ 63) ∨ (68 ≤ b ∧ b ≤ 70) → ¬ q = P → xMk V h c r al wi st b q = V b q) ∧
    (xMk V h c r al wi st 59 P = al ∧ xMk V h c r al wi st 60 P = wi ∧ xMk V h c r al wi st 61 P = V 57 h.toNat - (if r + wi ≤ 5 then 0 else 1) ∧ xMk V h c r al wi st 62 P = r ∧ xMk V h c r al wi st 63 P = st ∧ xMk V h c r al wi st 68 P = -1 ∧ xMk V h c r al wi st 69 P = -1 ∧ xMk V h c r al wi st 70 P = -1) ∧
    xMk V h c r al wi st 58 = xMb h (xMsk c al) wi.toNat r (xup2 V 56 28 0) 58 := by
  unfold xMk
  rw [hP]
  refine ⟨fun b b1 b2 b3 => ?_, fun j j1 j2 => ?_, ?_, ?_, fun b q hb hq => ?_, ⟨?_, ?_, ?_, ?_, ?_, ?_, ?_, ?_⟩, ?_⟩
  · simp (disch := omega) only [xup2_o, xMb_o]
  · simp (disch := omega) only [xup2_o, xup2_j, xMb_o]
  · simp (disch := omega) only [xup2_o, xup2_j, xup2_i, xMb_o]
  · rw [xup2_i]
  · rcases (show b = 59 ∨ b = 60 ∨ b = 61 ∨ b = 62 ∨ b = 63 ∨ b = 68 ∨ b = 69 ∨ b = 70 by omega) with rfl | rfl | rfl | rfl | rfl | rfl | rfl | rfl <;> simp (disch := omega) only [xup2_o, xup2_j, xMb_o]
  all_goals simp (disch := omega) only [xup2_o, xup2_i]
section SX9k
variable {sc : xS} {i : Nat} {T T' : Nat → Nat × Nat} {n n' : Nat} {z : Nat × Nat} {V V' : Nat → Nat → Int} {J J' : Nat → Nat → Int64} {R R' : Nat → Nat → Option Nat} {H h a : Nat}
theorem hd_y (hx : iHid T n V R H) (hh : h < H) : ∃ a, xh R h = a ∧ R 1 h = some a ∧ iHi1 T n V R h a := by
  obtain ⟨q1, q2⟩ := hx.2.2.2.1 h hh
  exact ⟨_, rfl, q1, q2⟩
theorem hd_no (hx : iHid T n V R H) {x : Int} (c : ¬ (0 ≤ x ∧ x < V 56 0)) : ¬ (0 ≤ x ∧ x < 8) ∨ R 1 x.toNat = none := by
  obtain ⟨⟨h1, h2, h3⟩, hn, _⟩ := hx
  by_cases q : 0 ≤ x ∧ x < 8
  · exact Or.inr (hn x.toNat (by omega) (by omega)).1
  · exact Or.inl q
theorem iInv_h0 (hx : iInv i T z V J R) : 0 ≤ V 56 0 ∧ V 56 0 ≤ 8 := by
  obtain ⟨_, _, ⟨H, h3⟩, _⟩ := hx
  have := h3.1
  omega
theorem iInv_th (hx : iInv i T z V J R) : ∀ k, k < 8 → 0 ≤ V 57 k ∧ V 57 k ≤ 9 := by
  obtain ⟨_, _, ⟨H, h3⟩, _⟩ := hx
  exact h3.2.2.1
theorem hd_01 (h1 : iHi1 T n V R h a) : ∀ k, k < 96 → V (a + 1) k = 0 ∨ V (a + 1) k = 1 := fun k hk => by
  rw [h1.2.2.2.2.2 k hk]; split <;> omega
theorem iHid_u (hx : iHid T n V R H) (hh : h < H) (ea : xh R h = a) (hn : n ≤ n') (hT : ∀ b, 82 ≤ b → b < n → T' b = T b) (hR1 : R' 1 = R 1) (hR : ∀ b, 82 ≤ b → b < n → R' b = R b) (h0 : V' 0 1 = V 0 1) (h56 : V' 56 0 = V 56 0) (h57 : V' 57 = V 57) (h58 : ∀ q, ¬ (8 * h ≤ q ∧ q < 8 * h + 8) → V' 58 q = V 58 q) (hc : ∀ b, 82 ≤ b → b < n → ¬ b = a + 1 → (T b = (1, 0) ∨ T b = (33, 96)) → V' b = V b) (hg : ∀ k, k < 96 → V' (a + 1) k = if iBt (V' 58 (8 * h + k / 12)) (k % 12) = true then 1 else 0) : iHid T' n' V' R' H := by
  obtain ⟨h1, h2, h3, h4, h5⟩ := hx
  have ex : ∀ h, xh R' h = xh R h := fun h => by unfold xh; rw [hR1]
  have hh8 : H ≤ 8 := h1.1
  refine ⟨by rw [h0, h56]; exact h1, fun q x y => ⟨by rw [hR1]; exact (h2 q x y).1, fun r hr => by rw [h58 _ (by omega)]; exact (h2 q x y).2 r hr⟩, fun q x => by rw [h57]; exact h3 q x, fun q x => ?_, fun q q' x y w => h5 q q' x y (by rw [ex, ex] at w; exact w)⟩
  have old := h4 h hh
  rw [ea] at old
  obtain ⟨o1, o2⟩ := old
  obtain ⟨p1, p2, p3, p4, p5, p6⟩ := o2
  by_cases e : q = h
  · subst e
    rw [ex, hR1, ea]
    refine ⟨o1, ?_, p2, by omega, by rw [hc a p2 (by omega) (by omega) (Or.inl p1.1), h57]; exact p4, by rw [h57]; exact p5, hg⟩
    unfold xHi; rw [hT a p2 (by omega), hT (a + 1) (by omega) p3, hR a p2 (by omega)]; exact p1
  · obtain ⟨q1, q2⟩ := h4 q x
    have q2' := q2
    obtain ⟨⟨r1, r2, r3⟩, r4, r5, _⟩ := q2'
    have d1 : ¬ xh R q = a := fun w => e (h5 q h x hh (by rw [w, ea]))
    have d2 : ¬ xh R q = a + 1 := fun w => by rw [w, p1.2.2] at r1; exact absurd r1 (by decide)
    rw [ex, hR1]
    exact ⟨q1, iHi1_e (by omega) q2 hn ⟨hT _ r4 (by omega), hT _ (by omega) r5⟩ (hR _ r4 (by omega)) (by rw [h57]) (fun r _ => h58 _ (by omega)) (by rw [hc _ r4 (by omega) d2 (Or.inl r1)]) (fun k _ => by rw [hc _ (by omega) r5 (by omega) (Or.inr r3)])⟩
theorem c_find {x al wi st le : Int} (hI : iInv i T z V J R) (hi : i ≤ 512) (hx : (-2147483648 ≤ x ∧ x ≤ 2147483647)) (hal : (-2147483648 ≤ al ∧ al ≤ 2147483647)) (hwi : (-2147483648 ≤ wi ∧ wi ≤ 2147483647)) (hst : st = 0 ∨ st = 1) (hle : (-2147483648 ≤ le ∧ le ≤ 2147483647)) : iCs sc i 53 106 [xw x, xw al, xw wi, xw st, xw le] kB T z V J R := by
  obtain ⟨⟨hT, hR, hH, hS, hE, hM, h81⟩, hz, hH9, hP9, hO⟩ := id hI
  obtain ⟨H, hH2⟩ := id hH9
  have h0 := iInv_h0 hI
  have hH1 := hH2.1
  by_cases c : 0 ≤ x ∧ x < V 56 0
  · obtain ⟨h, rfl⟩ : ∃ m : Nat, x = m := ⟨x.toNat, by omega⟩
    obtain ⟨a, ea, ha, h1⟩ := hd_y hH2 (show h < H by omega)
    have hth := iInv_th hI h (by omega)
    have cls := s_find (sc := sc) (d := 1) (z := z) (V := V) (J := J) (al := al) (wi := wi) (st := st) (le := le) hT (show 0 ≤ (h : Int) ∧ (h : Int) < 8 by omega) (by rw [Int.toNat_natCast]; exact ha) h1.1 (hd_01 h1) (by rw [h1.2.2.2.1]; exact hth) hal hwi hst hle
    by_cases c2 : (1 ≤ al ∧ al ≤ 12) ∧ (1 ≤ wi ∧ wi ≤ 8) ∧ (1 ≤ le ∧ le ≤ 9)
    · rw [if_pos c2] at cls
      refine iCs_o hI hi (by intro h; exact absurd h (by decide)) cls ?_
      have mod := m_find (sc := sc) (d := 7) (z := z) (T := T) (R := R) (V := V) (J := xup2 J 81 0 (jI (xFi V a (a + 1) al wi st le (9 - wi).toNat 0 (-1) 0))) hM h0 (iInv_th hI) hx hal hwi hst hle
      rw [if_pos c, if_pos ⟨⟨c2.1, c2.2.1⟩, c2.2.2⟩, ← find_eq (V := V) (a := a) (g := a + 1) (by rw [xup2_o (by decide)]; exact h1.2.2.2.2.2) (by rw [xup2_o (by decide)]; exact h1.2.2.2.1) c2.1 c2.2.1 (9 - wi).toNat 0 (-1) 0 (Int.le_refl 0) (by omega) (Or.inl rfl)] at mod
      exact mod
    · rw [if_neg c2] at cls
      (refine iCs_x (k := 0) hI hi iScr_r cls (fun T z V J R hI2 eV eM eJ => ?_) (by decide) (by decide); obtain ⟨⟨_, _, _, _, _, hM, _⟩, hz, hH9, hP9, hO⟩ := id hI2; have mod := m_find (sc := sc) (d := 7) (T := T) (z := z) (V := V) (J := J) (R := R) hM (iInv_h0 hI2) (iInv_th hI2) hx hal hwi hst hle; rw [eM, if_pos c, if_neg (fun q => c2 ⟨q.1.1, q.1.2, q.2⟩)] at mod; exact ⟨_, mod, by rw [xup2_i]; rfl, iScr_f⟩)
  · have cls := s_find_x (sc := sc) (d := 1) (z := z) (V := V) (J := J) (al := al) (wi := wi) (st := st) (le := le) hT hx (hd_no hH2 c)
    (refine iCs_x (k := 0) hI hi iScr_r cls (fun T z V J R hI2 eV eM eJ => ?_) (by decide) (by decide); obtain ⟨⟨_, _, _, _, _, hM, _⟩, hz, hH9, hP9, hO⟩ := id hI2; have mod := m_find (sc := sc) (d := 7) (T := T) (z := z) (V := V) (J := J) (R := R) hM (iInv_h0 hI2) (iInv_th hI2) hx hal hwi hst hle; rw [eM, if_neg c] at mod; exact ⟨_, mod, by rw [xup2_i]; rfl, iScr_f⟩)
theorem c_fault {x c r : Int} (hI : iInv i T z V J R) (hi : i ≤ 512) (hx : (-2147483648 ≤ x ∧ x ≤ 2147483647)) (hc : (-2147483648 ≤ c ∧ c ≤ 2147483647)) (hr : (-2147483648 ≤ r ∧ r ≤ 2147483647)) : iCs sc i 51 100 [xw x, xw c, xw r] kA T z V J R := by
  obtain ⟨⟨hT, hR, hH, hS, hE, hM, h81⟩, hz, hH9, hP9, hO⟩ := id hI
  obtain ⟨H, hH2⟩ := id hH9
  have h0 := iInv_h0 hI
  have hH1 := hH2.1
  by_cases cx : 0 ≤ x ∧ x < V 56 0
  · obtain ⟨h, rfl⟩ : ∃ m : Nat, x = m := ⟨x.toNat, by omega⟩
    have hH' : h < H := by omega
    obtain ⟨a, ea, ha, h1⟩ := hd_y hH2 hH'
    obtain ⟨⟨p1a, p1b, p1c⟩, p2, p3, p4, p5, p6⟩ := id h1
    have cls := s_fault (sc := sc) (d := 1) (z := z) (V := V) (J := J) hT (show 0 ≤ (h : Int) ∧ (h : Int) < 8 by omega) (by rw [Int.toNat_natCast]; exact ha) h1.1 (hd_01 h1) hc hr
    by_cases c2 : (0 ≤ c ∧ c < 12) ∧ (0 ≤ r ∧ r < 8)
    · rw [if_pos c2] at cls
      obtain ⟨c', rfl⟩ : ∃ m : Nat, c = m := ⟨c.toNat, by omega⟩
      obtain ⟨r', rfl⟩ : ∃ m : Nat, r = m := ⟨r.toNat, by omega⟩
      have hI' : xSp V (a + 1) c' r' 1 1 56 = V 56 := xSp_o (by omega)
      have mod := m_fault (sc := sc) (d := 7) (z := z) (T := T) (R := R) (V := xSp V (a + 1) c' r' 1 1) (J := xup2 J 81 0 (jI (xLeft (xSp V (a + 1) c' r' 1 1) (a + 1) 96 0))) hM (by rw [hI']; exact h0) hx hc hr
      rw [hI', if_pos ⟨cx, c2⟩, show (8 * (h : Int) + (r' : Int)).toNat = 8 * h + r' by omega, xSp_o (show ¬ 58 = a + 1 by omega)] at mod
      have rg : ∀ k, k < 96 → xSp V (a + 1) c' r' 1 1 (a + 1) k = if iBt (xup2 (xup2 (xSp V (a + 1) c' r' 1 1) 56 28 0) 58 (8 * h + r') (iOr (V 58 (8 * h + r')) (iShl 1 c')) 58 (8 * h + k / 12)) (k % 12) = true then 1 else 0 := fun k hk => by
        have lhs : xSp V (a + 1) c' r' 1 1 (a + 1) k = if k / 12 = r' ∧ k % 12 = c' then 1 else V (a + 1) k := by
          unfold xSp
          by_cases e : k / 12 = r' ∧ k % 12 = c'
          · rw [if_pos e, if_pos ⟨rfl, by omega⟩]
          · rw [if_neg e, if_neg (by omega)]
        rw [lhs]
        by_cases e : k / 12 = r'
        · rw [e, xup2_i, i_or, i_one c' (by omega) (k % 12) (by omega)]
          by_cases e2 : k % 12 = c'
          · rw [decide_eq_true e2, Bool.or_true, if_pos rfl, if_pos ⟨rfl, e2⟩]
          · rw [decide_eq_false e2, Bool.or_false, if_neg (fun q => e2 q.2), ← e]; exact p6 k hk
        · rw [xup2_j (by omega), xup2_o (by decide), xSp_o (show ¬ 58 = a + 1 by omega), if_neg (fun q => e q.1)]; exact p6 k hk
      have lf := hd_left rg 96 0 (Nat.le_refl 96)
      rw [show 96 - (0 + xMc (xup2 (xup2 (xSp V (a + 1) c' r' 1 1) 56 28 0) 58 (8 * h + r') (iOr (V 58 (8 * h + r')) (iShl 1 c')) 58) h 96 0) = xLeft (xSp V (a + 1) c' r' 1 1) (a + 1) 96 0 by omega] at mod
      have ro : ∀ b, ¬ b = a + 1 → ¬ b = 56 → ¬ b = 58 → xup2 (xup2 (xSp V (a + 1) c' r' 1 1) 56 28 0) 58 (8 * h + r') (iOr (V 58 (8 * h + r')) (iShl 1 c')) b = V b := fun b b1 b2 b3 => by rw [xup2_o b3, xup2_o b2, xSp_o b1]
      have r56 : ∀ j, ¬ j = 28 → xup2 (xup2 (xSp V (a + 1) c' r' 1 1) 56 28 0) 58 (8 * h + r') (iOr (V 58 (8 * h + r')) (iShl 1 c')) 56 j = V 56 j := fun j hj => by rw [xup2_o (by decide), xup2_j hj, hI']
      have r58 : ∀ q, ¬ q = 8 * h + r' → xup2 (xup2 (xSp V (a + 1) c' r' 1 1) 56 28 0) 58 (8 * h + r') (iOr (V 58 (8 * h + r')) (iShl 1 c')) 58 q = V 58 q := fun q hq => by rw [xup2_j hq, xup2_o (by decide), xSp_o (by omega)]
      have rga : xup2 (xup2 (xSp V (a + 1) c' r' 1 1) 56 28 0) 58 (8 * h + r') (iOr (V 58 (8 * h + r')) (iShl 1 c')) (a + 1) = xSp V (a + 1) c' r' 1 1 (a + 1) := by rw [xup2_o (by omega), xup2_o (by omega)]
      refine Or.inl ⟨_, _, _, _, _, _, _, _, (by intro h; exact absurd h (by decide)), cls, h81, hM.1, mod, jc_in.1, by rw [xup2_o (by decide), xup2_i], ?_⟩
      rw [← rga] at rg
      generalize xup2 (xup2 (xSp V (a + 1) c' r' 1 1) 56 28 0) 58 (8 * h + r') (iOr (V 58 (8 * h + r')) (iShl 1 c')) = W at *
      obtain ⟨P, hP⟩ := hP9
      have i1 := hI.1
      refine ⟨i1, ⟨hz.1, by omega, by omega⟩, ⟨H, iHid_u hH2 hH' ea (Nat.le_refl _) (fun _ _ _ => rfl) rfl (fun _ _ _ => rfl) (by rw [ro 0 (by omega) (by decide) (by decide)]) (r56 0 (by decide)) (ro 57 (by omega) (by decide) (by decide)) (fun q hq => r58 q (by omega)) (fun b b1 b2 b3 _ => ro b b3 (by omega) (by omega)) rg⟩, ⟨P, iPar_e hP ⟨by omega, by omega⟩ (Nat.le_refl _) (fun _ _ _ => rfl) rfl (fun _ _ _ => rfl) (by rw [ro 0 (by omega) (by decide) (by decide)]) (r56 3 (by decide)) (fun r r1 r2 => ro r (by omega) (by omega) (by omega)) jc_in.2 (fun b b1 b2 b3 => ro b (fun e => ?_) (by omega) (by omega))⟩, iHor_e hO (by rw [ro 0 (by omega) (by decide) (by decide)]) (r56 24 (by decide)) (fun b hb => ro b (by omega) (by omega) (by omega))⟩
      rw [e, p1c] at b3; rcases b3 with q | q <;> exact absurd q (by decide)
    · rw [if_neg c2] at cls
      (refine iCs_x (k := 0) hI hi iScr_r cls (fun T z V J R hI2 eV eM eJ => ?_) (by decide) (by decide); obtain ⟨⟨_, _, _, _, _, hM, _⟩, hz, hH9, hP9, hO⟩ := id hI2; have mod := m_fault (sc := sc) (d := 7) (T := T) (z := z) (V := V) (J := J) (R := R) hM (iInv_h0 hI2) hx hc hr; rw [if_neg (fun q => c2 q.2)] at mod; exact ⟨_, mod, by rw [xup2_i]; rfl, iScr_f⟩)
  · have cls := s_fault_x (sc := sc) (d := 1) (z := z) (V := V) (J := J) (c := c) (r := r) hT hx (hd_no hH2 cx)
    (refine iCs_x (k := 0) hI hi iScr_r cls (fun T z V J R hI2 eV eM eJ => ?_) (by decide) (by decide); obtain ⟨⟨_, _, _, _, _, hM, _⟩, hz, hH9, hP9, hO⟩ := id hI2; have mod := m_fault (sc := sc) (d := 7) (T := T) (z := z) (V := V) (J := J) (R := R) hM (iInv_h0 hI2) hx hc hr; rw [eM, if_neg (fun q => cx q.1)] at mod; exact ⟨_, mod, by rw [xup2_i]; rfl, iScr_f⟩)
theorem iBt_0 : ∀ k : Nat, k < 32 → iBt 0 k = false := by decide +kernel
theorem c_hide {t : Int} (hI : iInv i T z V J R) (hi : i ≤ 512) (ht : (-2147483648 ≤ t ∧ t ≤ 2147483647)) : iCs sc i 50 99 [xw t] k12 T z V J R := by
  obtain ⟨⟨hT, hR, hH, hS, hE, hM, h81⟩, hz, hH9, hP9, hO⟩ := id hI
  obtain ⟨H, hH2⟩ := id hH9
  obtain ⟨P, hP⟩ := id hP9
  have h0 := iInv_h0 hI
  obtain ⟨hH1, hH3, hH4, hH5, hH6⟩ := id hH2
  have cls := s_hide (sc := sc) (d := 1) (z := z) (V := V) (J := J) hT (by omega) ht (by omega)
  by_cases c : 2 ≤ t ∧ t ≤ 9
  · by_cases c2 : V 0 1 < 8
    · rw [if_pos c, if_pos c2] at cls
      have e0 : (V 0 1).toNat = H := by omega
      rw [e0] at cls
      generalize hn : z.1 = n at *
      have vo : ∀ b, ¬ b = 0 → ¬ b = n → ¬ b = n + 1 → xup2 (xHV V n t) 0 1 (V 0 1 + 1) b = V b := fun b b0 b1 b2 => by unfold xHV; rw [xup2_o b0, va_ne b2, xup2_o b1, va_ne b1]
      have v0 : ∀ j, ¬ j = 1 → xup2 (xHV V n t) 0 1 (V 0 1 + 1) 0 j = V 0 j := fun j hj => by unfold xHV; rw [xup2_j hj, va_ne (by omega), xup2_o (by omega), va_ne (by omega)]
      have v01 : xup2 (xHV V n t) 0 1 (V 0 1 + 1) 0 1 = V 0 1 + 1 := xup2_i
      have vn : xup2 (xHV V n t) 0 1 (V 0 1 + 1) n 0 = t := by unfold xHV; rw [xup2_o (by omega), va_ne (by omega), xup2_i]
      have vg : ∀ k, xup2 (xHV V n t) 0 1 (V 0 1 + 1) (n + 1) k = 0 := fun k => by unfold xHV; rw [xup2_o (by omega), va_same]
      generalize xup2 (xHV V n t) 0 1 (V 0 1 + 1) = V1 at *
      have to : ∀ b, ¬ b = n → ¬ b = n + 1 → xHT T n b = T b := fun b b1 b2 => by unfold xHT; rw [va_ne b2, va_ne b1]
      have tn : xHT T n n = (1, 0) := by unfold xHT; rw [va_ne (by omega), va_same]
      have tg : xHT T n (n + 1) = (33, 96) := by unfold xHT; rw [va_same]
      have rO : ∀ b, ¬ b = 1 → ¬ b = n → ¬ b = n + 1 → xup2 (xHR R n) 1 H (some n) b = R b := fun b b0 b1 b2 => by unfold xHR; rw [xup2_o b0, xup2_o b1, va_ne b2, va_ne b1]
      have r1 : ∀ q, ¬ q = H → xup2 (xHR R n) 1 H (some n) 1 q = R 1 q := fun q hq => by unfold xHR; rw [xup2_j hq, xup2_o (by omega), va_ne (by omega), va_ne (by omega)]
      have r1H : xup2 (xHR R n) 1 H (some n) 1 H = some n := xup2_i
      have rn : xup2 (xHR R n) 1 H (some n) n 1 = some (n + 1) := by unfold xHR; rw [xup2_o (by omega), xup2_i]
      generalize xup2 (xHR R n) 1 H (some n) = R1 at *
      generalize xHT T n = T1 at *
      have j64 : xHJ J n 64 = J 64 := by unfold xHJ; rw [va_ne (by omega), va_ne (by omega)]
      generalize xHJ J n = J1 at *
      have hS1 : iSta T1 R1 := iSta_e hI.1 (fun b hb => to b (by omega) (by omega)) (fun b hb x _ => rO b x (by omega) (by omega))
      have mod := m_hide (sc := sc) (d := 8) (z := (n + 1 + 1, z.2 + 2 + 96)) (T := T1) (R := R1) (V := V1) (J := xup2 J1 81 0 (jI (V 0 1))) hS1.2.2.2.2.2.1 ht (by rw [vo 56 (by decide) (by omega) (by omega)]; exact h0)
      have e56 : V1 56 0 = H := by rw [vo 56 (by decide) (by omega) (by omega)]; exact hH1.2.2
      rw [if_pos c, if_pos (by omega), e56, Int.toNat_natCast, show (H : Int) + 1 - 1 = V 0 1 by omega] at mod
      refine Or.inl ⟨_, _, _, _, _, _, _, _, (by intro h; exact absurd h (by decide)), cls, hS1.2.2.2.2.2.2, hS1.2.2.2.2.2.1.1, mod, jc_in.1, by rw [xup2_j (by decide), xup2_o (by decide), xup2_i], ?_⟩
      have ro : ∀ b, ¬ b = 0 → ¬ b = n → ¬ b = n + 1 → ¬ b = 56 → ¬ b = 57 → xup2 (xup2 (xup2 V1 56 28 0) 57 H t) 56 0 ((H : Int) + 1) b = V b := fun b b0 b1 b2 b3 b4 => by rw [xup2_o b3, xup2_o b4, xup2_o b3]; exact vo b b0 b1 b2
      have rr : ∀ b, ¬ b = 56 → ¬ b = 57 → xup2 (xup2 (xup2 V1 56 28 0) 57 H t) 56 0 ((H : Int) + 1) b = V1 b := fun b b3 b4 => by rw [xup2_o b3, xup2_o b4, xup2_o b3]
      have r56 : ∀ j, ¬ j = 28 → ¬ j = 0 → xup2 (xup2 (xup2 V1 56 28 0) 57 H t) 56 0 ((H : Int) + 1) 56 j = V 56 j := fun j j1 j2 => by rw [xup2_j j2, xup2_o (by decide), xup2_j j1, vo 56 (by decide) (by omega) (by omega)]
      have r560 : xup2 (xup2 (xup2 V1 56 28 0) 57 H t) 56 0 ((H : Int) + 1) 56 0 = (H : Int) + 1 := xup2_i
      have r57 : ∀ q, ¬ q = H → xup2 (xup2 (xup2 V1 56 28 0) 57 H t) 56 0 ((H : Int) + 1) 57 q = V 57 q := fun q hq => by rw [xup2_o (by decide), xup2_j hq, xup2_o (by decide), vo 57 (by decide) (by omega) (by omega)]
      have r57H : xup2 (xup2 (xup2 V1 56 28 0) 57 H t) 56 0 ((H : Int) + 1) 57 H = t := by rw [xup2_o (by decide), xup2_i]
      generalize xup2 (xup2 (xup2 V1 56 28 0) 57 H t) 56 0 ((H : Int) + 1) = W at *
      refine ⟨hS1, ⟨by show 82 ≤ n + 1 + 1; omega, by show n + 1 + 1 ≤ _; omega, by show z.2 + 2 + 96 ≤ _; omega⟩, ⟨H + 1, ?_⟩, ⟨P, ?_⟩, ?_⟩
      · have xo : ∀ q, ¬ q = H → xh R1 q = xh R q := fun q hq => by unfold xh; rw [r1 q hq]
        have xH : xh R1 H = n := by unfold xh; rw [r1H]; rfl
        have r58 : W 58 = V 58 := ro 58 (by decide) (by omega) (by omega) (by decide) (by decide)
        refine ⟨⟨by omega, by rw [rr 0 (by decide) (by decide), v01]; omega, by rw [r560]; omega⟩, fun q q1 q2 => ⟨by rw [r1 q (by omega)]; exact (hH3 q (by omega) q2).1, by rw [r58]; exact (hH3 q (by omega) q2).2⟩, fun q q1 => ?_, fun q q1 => ?_, fun q q' q1 q2 q3 => ?_⟩
        · by_cases e : q = H
          · rw [e, r57H]; omega
          · rw [r57 q e]; exact hH4 q q1
        · by_cases e : q = H
          · subst e
            rw [xH]
            refine ⟨r1H, ⟨tn, rn, tg⟩, by omega, by show n + 1 < n + 1 + 1; omega, by rw [rr n (by omega) (by omega), vn, r57H], by rw [r57H]; exact c.1, fun k hk => ?_⟩
            rw [rr (n + 1) (by omega) (by omega), vg, r58, (hH3 q (Nat.le_refl q) (by omega)).2 (k / 12) (by omega), iBt_0 (k % 12) (by omega)]; rfl
          · obtain ⟨q4, q5⟩ := hH5 q (by omega)
            have g := q5
            obtain ⟨_, g1, g2, _⟩ := g
            rw [xo q e]
            exact ⟨by rw [r1 q e]; exact q4, iHi1_e (by omega) q5 (show n ≤ n + 1 + 1 by omega) ⟨to _ (by omega) (by omega), to _ (by omega) (by omega)⟩ (rO _ (by omega) (by omega) (by omega)) (r57 q e) (fun r _ => by rw [r58]) (by rw [ro _ (by omega) (by omega) (by omega) (by omega) (by omega)]) (fun k _ => by rw [ro _ (by omega) (by omega) (by omega) (by omega) (by omega)])⟩
        · by_cases e : q = H
          · by_cases e' : q' = H
            · omega
            · have g := (hH5 q' (by omega)).2.2.2.1
              rw [e, xH, xo q' e'] at q3
              omega
          · have g := (hH5 q (by omega)).2.2.2.1
            by_cases e' : q' = H
            · rw [e', xH, xo q e] at q3
              omega
            · rw [xo q e, xo q' e'] at q3
              exact hH6 q q' (by omega) (by omega) q3
      · exact iPar_e hP ⟨by omega, by omega⟩ (show n ≤ n + 1 + 1 by omega) (fun b _ hb => to b (by omega) (by omega)) (rO 2 (by decide) (by omega) (by omega)) (fun b b1 hb => rO b (by omega) (by omega) (by omega)) (by rw [rr 0 (by decide) (by decide), v0 3 (by decide)]) (r56 3 (by decide) (by decide)) (fun r r1 r2 => ro r (by omega) (by omega) (by omega) (by omega) (by omega)) (by rw [jc_in.2, j64]) (fun b b1 b2 _ => ro b (by omega) (by omega) (by omega) (by omega) (by omega))
      · exact iHor_e hO (by rw [rr 0 (by decide) (by decide), v0 8 (by decide)]) (r56 24 (by decide) (by decide)) (fun b hb => ro b (by omega) (by omega) (by omega) (by omega) (by omega))
    · rw [if_pos c, if_neg c2] at cls
      (refine iCs_x (k := 0) hI hi iScr_r cls (fun T z V J R hI2 eV eM eJ => ?_) (by decide) (by decide); obtain ⟨⟨_, _, _, _, _, hM, _⟩, hz, hH9, hP9, hO⟩ := id hI2; have mod := m_hide (sc := sc) (d := 8) (T := T) (z := z) (V := V) (J := J) (R := R) hM ht (iInv_h0 hI2); rw [eM, if_pos c, if_neg (by omega)] at mod; exact ⟨_, mod, by rw [xup2_i]; rfl, iScr_f⟩)
  · rw [if_neg c] at cls
    (refine iCs_x (k := 0) hI hi iScr_r cls (fun T z V J R hI2 eV eM eJ => ?_) (by decide) (by decide); obtain ⟨⟨_, _, _, _, _, hM, _⟩, hz, hH9, hP9, hO⟩ := id hI2; have mod := m_hide (sc := sc) (d := 8) (T := T) (z := z) (V := V) (J := J) (R := R) hM ht (iInv_h0 hI2); rw [if_neg c] at mod; exact ⟨_, mod, by rw [xup2_i]; rfl, iScr_f⟩)
end SX9k
