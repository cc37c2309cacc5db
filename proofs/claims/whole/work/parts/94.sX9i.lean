/-! the law's cases: ways -/
theorem aPl_r {n t f : Nat} {g : Int} {st : Nat → Int} : ∀ (m : Nat) (b : Int) (S : Nat → Nat → Int), (∀ x, ¬ (67 ≤ x ∧ x ≤ 70) → (aPl n t f g st m b S).2 x = S x) ∧ (∀ x q, n ≤ q → (aPl n t f g st m b S).2 x q = S x q) ∧ (∀ q, (aPl n t f g st m b S).2 67 q = S 67 q ∨ (aPl n t f g st m b S).2 67 q = 1) := by
  intro m
  induction m with
  | zero => intro b S; exact ⟨fun _ _ => rfl, fun _ _ _ => rfl, fun _ => Or.inl rfl⟩
  | succ m ih =>
    intro b S
    rw [aPl]
    by_cases c : aBr S n t f g st = -1
    · rw [if_pos c]; exact ⟨fun _ _ => rfl, fun _ _ _ => rfl, fun _ => Or.inl rfl⟩
    · rw [if_neg c]
      obtain ⟨k, k1, k2, _⟩ := aBr_c c
      have ek : (aBr S n t f g st).toNat = k := by rw [k2]; exact Int.toNat_natCast k
      rw [ek]
      obtain ⟨p8, p9, p0, p7, po⟩ := aFr1_r (V := S) (k := k)
      obtain ⟨i1, i2, i3⟩ := ih (b + 1) (aFr1 S k)
      have q : ∀ x q, n ≤ q → aFr1 S k x q = S x q := by
        intro x q hq
        by_cases e8 : x = 68
        · subst e8; rw [p8, va_ne (by omega)]
        · by_cases e9 : x = 69
          · subst e9; rw [p9, va_ne (by omega)]
          · by_cases e0 : x = 70
            · subst e0; rw [p0, va_ne (by omega)]
            · by_cases e7 : x = 67
              · subst e7; rw [p7, va_ne (by omega)]
              · rw [po x e7 e8 e9 e0]
      refine ⟨fun x hx => (i1 x hx).trans (po x (by omega) (by omega) (by omega) (by omega)), fun x q' hq => (i2 x q' hq).trans (q x q' hq), fun q' => ?_⟩
      rcases i3 q' with e | e
      · rw [p7] at e
        by_cases e2 : q' = k
        · subst e2; rw [va_same] at e; exact Or.inr e
        · rw [va_ne e2] at e; exact Or.inl e
      · exact Or.inr e
section SX9i
variable {sc : xS} {i : Nat} {T : Nat → Nat × Nat} {n : Nat} {z : Nat × Nat} {V : Nat → Nat → Int} {J : Nat → Nat → Int64} {R : Nat → Nat → Option Nat} {P : Nat}
theorem pt_aMo (hP : iPar i T n V J R P) : aMo V P := by
  obtain ⟨⟨h1, h1b, h1c, h1d⟩, h2, h3, h4, h5⟩ := hP
  exact ⟨h1c, h1, fun p hp => (h4 p hp).2.2.2.2.2.2.1⟩
theorem pt_aMb (hP : iPar i T n V J R P) : aMb V P := by
  intro p hp
  have mr := hP.2.1.2 p (by have := hP.1.1; omega)
  exact ⟨mul_in mr.2.1 mr.2.2.1, by omega, by omega⟩
theorem pt_aCl (hP : iPar i T n V J R P) : aCl R V (V 68) (V 69) (V 70) P := by
  intro p hp
  obtain ⟨_, _, _, _, ⟨w9, w10, w11⟩, _, st, _⟩ := hP.2.2.2.1 p hp
  exact ⟨st, w9, w10, w11⟩
theorem pt_xPq (hP : iPar i T n V J R P) : xPq T R V P := by
  have mr := hP.2.1
  obtain ⟨⟨h1, h1b, h1c, h1d⟩, h2, h3, h4, h5⟩ := hP
  refine ⟨h1, h1b, fun k a b => (h3 k a b).1, fun k hk => ?_⟩
  obtain ⟨q1, q2⟩ := h4 k hk
  have h6 := pt_h6 q2
  obtain ⟨⟨hPa, ga, gn⟩, ⟨w0, w1, w2, w3, w5, w4⟩, ⟨w7, w8, w12⟩, ⟨w9, w10, w11⟩, ⟨b59, b60, b61, b65⟩, st, wh, bt, w6⟩ := q2
  have m := mr.2 k (by omega)
  refine ⟨q1, hPa.1, ?_, ⟨by omega, by omega⟩, by rw [w1, w5]; exact mul_in m.2.1 m.2.2.1, by omega⟩
  unfold xPb
  unfold aSt at st
  omega
theorem iInv_aMo (h : iInv i T z V J R) (e : V 56 3 = P) : aMo V P := by
  obtain ⟨_, _, _, ⟨P', h4⟩, _⟩ := h
  have := h4.1.2.2.1
  obtain rfl : P' = P := by omega
  exact pt_aMo h4
theorem iInv_aMb (h : iInv i T z V J R) (e : V 56 3 = P) : aMb V P := by
  obtain ⟨_, _, _, ⟨P', h4⟩, _⟩ := h
  have := h4.1.2.2.1
  obtain rfl : P' = P := by omega
  exact pt_aMb h4
theorem lk_hi {f t b : Nat} (h : 9 ≤ b) : xLk R V f t b = V b := xLk_ne (by omega)
theorem c_way {f t p : Int} (hI : iInv i T z V J R) (hi : i ≤ 512) (hf : (-2147483648 ≤ f ∧ f ≤ 2147483647)) (ht : (-2147483648 ≤ t ∧ t ≤ 2147483647)) (hp : (-2147483648 ≤ p ∧ p ≤ 2147483647)) : iCs sc i 61 125 [xw f, xw t, xw p] kB T z V J R := by
  obtain ⟨⟨hT, hR, hH, hS, hE, hM, h81⟩, hz, hH9, hP9, hO⟩ := id hI
  obtain ⟨P, hP⟩ := id hP9
  have cls := s_way (sc := sc) (d := 1) (z := z) (J := J) hT hR (pt_xPq hP) hf ht hp
  by_cases c : (0 ≤ f ∧ f < 8) ∧ (0 ≤ t ∧ t < 8) ∧ 0 ≤ p
  · by_cases c2 : f = t
    · rw [if_pos c, if_pos c2] at cls
      (refine iCs_x (k := 0) hI hi iScr_r cls (fun T z V J R hI2 eV eM eJ => ?_) (by decide) (by decide); obtain ⟨⟨_, _, _, _, _, hM, _⟩, hz, hH9, hP9, hO⟩ := id hI2; have mod := m_way_x (sc := sc) (d := 6) (T := T) (z := z) (V := V) (J := J) (R := R) hM hf ht hp (fun q => q.2 c2); rw [if_pos c] at mod; exact ⟨_, mod, by rw [xup2_i]; rfl, iScr_f⟩)
    · rw [if_pos c, if_neg c2] at cls
      obtain ⟨f', rfl⟩ : ∃ m : Nat, f = m := ⟨f.toNat, by omega⟩
      obtain ⟨t', rfl⟩ : ∃ m : Nat, t = m := ⟨t.toNat, by omega⟩
      rw [Int.toNat_natCast, Int.toNat_natCast] at cls
      have f8 : f' < 8 := by omega
      have t8 : t' < 8 := by omega
      have hD := aDs_ok (O := V 68) (Q := V 69) (L := V 70) (n := P) t8
      obtain ⟨r1, r2, _⟩ := look_ok hR (pt_xPq hP) (pt_aCl hP) t8 f8 hD
      have hI' : iInv i T z (xLk R V f' t') (xup2 J 81 0 (jI (if p < xLk R V f' t' 3 5 then xLk R V f' t' 8 p.toNat else -1))) R := iInv_s hI ⟨Nat.le_refl i, by omega⟩ iScr_l jc_in.2
      obtain ⟨V', mod, m2, m3⟩ := m_way (sc := sc) (d := 6) (z := z) (T := T) (R := R) (V := xLk R V f' t') (J := xup2 J 81 0 (jI (if p < xLk R V f' t' 3 5 then xLk R V f' t' 8 p.toNat else -1))) (pl := p) hM (iInv_aMo hI' (by rw [lk_hi (by decide)]; exact hP.1.2.2.1)) f8 t8 (fun e => c2 (by rw [e])) (by omega) (F := aDs (V 68) (V 69) (V 70) P t') (by rw [lk_hi (by decide), lk_hi (by decide), lk_hi (by decide)]; exact hD)
      rw [lk_hi (b := 68) (by decide), lk_hi (b := 69) (by decide), lk_hi (b := 70) (by decide)] at mod
      have e : (if aDs (V 68) (V 69) (V 70) P t' f' < 1000000 ∧ p < (aM (V 68) (V 69) (V 70) P (aDs (V 68) (V 69) (V 70) P t') t' f' : Int) + 1 then (aA (V 68) (V 69) (V 70) P (aDs (V 68) (V 69) (V 70) P t') f' p.toNat : Int) else -1) = if p < xLk R V f' t' 3 5 then xLk R V f' t' 8 p.toNat else -1 := by
        rw [r1]
        by_cases c3 : aDs (V 68) (V 69) (V 70) P t' f' < 1000000
        · rw [if_pos c3]
          by_cases c4 : p < (aM (V 68) (V 69) (V 70) P (aDs (V 68) (V 69) (V 70) P t') t' f' : Int) + 1
          · rw [if_pos ⟨c3, c4⟩, if_pos c4, r2 c3 p.toNat (by omega)]
          · rw [if_neg (fun q => c4 q.2), if_neg c4]
        · rw [if_neg c3, if_neg (fun q => c3 q.1), if_neg (by omega)]
      rw [e] at mod
      exact Or.inl ⟨_, _, _, _, _, _, _, _, (by intro h; exact absurd h (by decide)), cls, h81, hM.1, mod, jc_in.1, m3, iInv_s hI' ⟨by omega, by omega⟩ (iScr_a m2) rfl⟩
  · rw [if_neg c] at cls
    (refine iCs_x (k := 0) hI hi iScr_r cls (fun T z V J R hI2 eV eM eJ => ?_) (by decide) (by decide); obtain ⟨⟨_, _, _, _, _, hM, _⟩, hz, hH9, hP9, hO⟩ := id hI2; have mod := m_way_x (sc := sc) (d := 6) (T := T) (z := z) (V := V) (J := J) (R := R) hM hf ht hp (fun q => c q.1); rw [if_neg c] at mod; exact ⟨_, mod, by rw [xup2_i]; rfl, iScr_f⟩)
theorem c_bears {x f t g : Int} (hI : iInv i T z V J R) (hi : i ≤ 512) (hx : (-2147483648 ≤ x ∧ x ≤ 2147483647)) (hf : (-2147483648 ≤ f ∧ f ≤ 2147483647)) (ht : (-2147483648 ≤ t ∧ t ≤ 2147483647)) (hg : (-2147483648 ≤ g ∧ g ≤ 2147483647)) : iCs sc i 60 124 [xw x, xw f, xw t, xw g] kB T z V J R := by
  obtain ⟨⟨hT, hR, hH, hS, hE, hM, h81⟩, hz, hH9, hP9, hO⟩ := id hI
  obtain ⟨P, hP⟩ := id hP9
  have hP3 := hP.1.2.2.1
  by_cases cx : 0 ≤ x ∧ x < (P : Int)
  · have cls := s_bears (sc := sc) (d := 0) (z := z) (J := J) hT hR (pt_xPq hP) cx hf ht hg
    by_cases c : (0 ≤ f ∧ f < 8) ∧ (0 ≤ t ∧ t < 8)
    · by_cases c2 : (¬ f = t) ∧ (1 ≤ g ∧ g ≤ 9999)
      · rw [if_pos c, if_pos c2] at cls
        obtain ⟨p, rfl⟩ : ∃ m : Nat, x = m := ⟨x.toNat, by omega⟩
        obtain ⟨f', rfl⟩ : ∃ m : Nat, f = m := ⟨f.toNat, by omega⟩
        obtain ⟨t', rfl⟩ : ∃ m : Nat, t = m := ⟨t.toNat, by omega⟩
        rw [Int.toNat_natCast, Int.toNat_natCast, Int.toNat_natCast] at cls
        have f8 : f' < 8 := by omega
        have t8 : t' < 8 := by omega
        have pP : p < P := by omega
        have hD := aDs_ok (O := V 68) (Q := V 69) (L := V 70) (n := P) t8
        have hr := look_ok hR (pt_xPq hP) (pt_aCl hP) t8 f8 hD
        have hPp := pt_xPq hP
        have ec : xLk R V f' t' (xp R p) = V (xp R p) := xLk_ne (xRo_T hR (hPp.2.2.2 p pP).2.1)
        have hC := pt_aCl hP
        have eb := xBu_ok (g := g) hr (fun p hp => (hC p hp).1) pP (by rw [ec]; exact (hC p pP).2.1) (by rw [ec]; exact (hC p pP).2.2.1) (by rw [ec]; exact (hC p pP).2.2.2)
        rw [eb] at cls
        have hI' : iInv i T z (xLk R V f' t') (xup2 J 81 0 (jI (aBu (V 68) (V 69) (V 70) P (aDs (V 68) (V 69) (V 70) P t') t' f' g p))) R := iInv_s hI ⟨Nat.le_refl i, by omega⟩ iScr_l jc_in.2
        obtain ⟨V', mod, m2, m3⟩ := m_bears (sc := sc) (d := 4) (z := z) (T := T) (R := R) (V := xLk R V f' t') (J := xup2 J 81 0 (jI (aBu (V 68) (V 69) (V 70) P (aDs (V 68) (V 69) (V 70) P t') t' f' g p))) (g := g) hM (iInv_aMo hI' (by rw [lk_hi (by decide)]; exact hP3)) pP f8 t8 (fun e => c2.1 (by rw [e])) c2.2 (F := aDs (V 68) (V 69) (V 70) P t') (by rw [lk_hi (by decide), lk_hi (by decide), lk_hi (by decide)]; exact hD)
        rw [lk_hi (b := 68) (by decide), lk_hi (b := 69) (by decide), lk_hi (b := 70) (by decide)] at mod
        exact Or.inl ⟨_, _, _, _, _, _, _, _, (by intro h; exact absurd h (by decide)), cls, h81, hM.1, mod, jc_in.1, m3, iInv_s hI' ⟨by omega, by omega⟩ (iScr_a m2) rfl⟩
      · rw [if_pos c, if_neg c2] at cls
        (refine iCs_x (k := 0) hI hi iScr_r cls (fun T z V J R hI2 eV eM eJ => ?_) (by decide) (by decide); obtain ⟨⟨_, _, _, _, _, hM, _⟩, hz, hH9, hP9, hO⟩ := id hI2; have mod := m_bears_x (sc := sc) (d := 4) (T := T) (z := z) (V := V) (J := J) (R := R) hM (iInv_aMo hI2 (by rw [eM]; exact hP3)) hx hf ht hg (fun q => c2 q.2); rw [if_pos ⟨cx, c⟩] at mod; exact ⟨_, mod, by rw [xup2_i]; rfl, iScr_f⟩)
    · rw [if_neg c] at cls
      (refine iCs_x (k := 0) hI hi iScr_r cls (fun T z V J R hI2 eV eM eJ => ?_) (by decide) (by decide); obtain ⟨⟨_, _, _, _, _, hM, _⟩, hz, hH9, hP9, hO⟩ := id hI2; have mod := m_bears_x (sc := sc) (d := 4) (T := T) (z := z) (V := V) (J := J) (R := R) hM (iInv_aMo hI2 (by rw [eM]; exact hP3)) hx hf ht hg (fun q => c q.1.2); rw [if_neg (fun q => c q.2)] at mod; exact ⟨_, mod, by rw [xup2_i]; rfl, iScr_f⟩)
  · have cls := s_bears_x (sc := sc) (d := 0) (z := z) (V := V) (J := J) (f := f) (t := t) (g := g) hT hx (pt_no hP (by rw [hP3]; exact cx))
    (refine iCs_x (k := 0) hI hi iScr_r cls (fun T z V J R hI2 eV eM eJ => ?_) (by decide) (by decide); obtain ⟨⟨_, _, _, _, _, hM, _⟩, hz, hH9, hP9, hO⟩ := id hI2; have mod := m_bears_x (sc := sc) (d := 4) (T := T) (z := z) (V := V) (J := J) (R := R) hM (iInv_aMo hI2 (by rw [eM]; exact hP3)) hx hf ht hg (fun q => cx q.1.1); rw [if_neg (fun q => cx q.1)] at mod; exact ⟨_, mod, by rw [xup2_i]; rfl, iScr_f⟩)
theorem c_holds {f t : Int} (hI : iInv i T z V J R) (hi : i ≤ 512) (hf : (-2147483648 ≤ f ∧ f ≤ 2147483647)) (ht : (-2147483648 ≤ t ∧ t ≤ 2147483647)) : iCs sc i 63 128 [xw f, xw t] kB T z V J R := by
  obtain ⟨⟨hT, hR, hH, hS, hE, hM, h81⟩, hz, hH9, hP9, hO⟩ := id hI
  obtain ⟨P, hP⟩ := id hP9
  have hP3 := hP.1.2.2.1
  have cls := s_holds (sc := sc) (d := 0) (z := z) (J := J) hT hR (pt_xPq hP) hf ht
  by_cases c : (0 ≤ f ∧ f < 8) ∧ (0 ≤ t ∧ t < 8)
  · by_cases c2 : f = t
    · rw [if_pos c, if_pos c2] at cls
      (refine iCs_x (k := 0) hI hi iScr_r cls (fun T z V J R hI2 eV eM eJ => ?_) (by decide) (by decide); obtain ⟨⟨_, _, _, _, _, hM, _⟩, hz, hH9, hP9, hO⟩ := id hI2; have mod := m_holds_x (sc := sc) (d := 4) (T := T) (z := z) (V := V) (J := J) (R := R) hM hf ht (fun q => q.2 c2); rw [if_pos c] at mod; exact ⟨_, mod, by rw [xup2_i]; rfl, iScr_f⟩)
    · rw [if_pos c, if_neg c2] at cls
      obtain ⟨f', rfl⟩ : ∃ m : Nat, f = m := ⟨f.toNat, by omega⟩
      obtain ⟨t', rfl⟩ : ∃ m : Nat, t = m := ⟨t.toNat, by omega⟩
      rw [Int.toNat_natCast, Int.toNat_natCast] at cls
      have f8 : f' < 8 := by omega
      have t8 : t' < 8 := by omega
      have hD := aDs_ok (O := V 68) (Q := V 69) (L := V 70) (n := P) t8
      have hr := look_ok hR (pt_xPq hP) (pt_aCl hP) t8 f8 hD
      have hPp := pt_xPq hP
      have hC := pt_aCl hP
      have ec : ∀ p, p < P → xLk R V f' t' (xp R p) = V (xp R p) := fun p hp => xLk_ne (xRo_T hR (hPp.2.2.2 p hp).2.1)
      generalize hv : (if xLk R V f' t' 3 5 ≤ 0 then -1 else xHd R (xLk R V f' t') P 0 9999) = v at cls
      have hI' : iInv i T z (xLk R V f' t') (xup2 J 81 0 (jI v)) R := iInv_s hI ⟨Nat.le_refl i, by omega⟩ iScr_l jc_in.2
      obtain ⟨V', r, mod, m2, m3, m4⟩ := m_holds (sc := sc) (d := 4) (z := z) (T := T) (R := R) (V := xLk R V f' t') (J := xup2 J 81 0 (jI v)) hM (iInv_aMo hI' (by rw [lk_hi (by decide)]; exact hP3)) (iInv_aMb hI' (by rw [lk_hi (by decide)]; exact hP3)) f8 t8 (fun e => c2 (by rw [e])) (F := aDs (V 68) (V 69) (V 70) P t') (by rw [lk_hi (by decide), lk_hi (by decide), lk_hi (by decide)]; exact hD)
      rw [lk_hi (b := 68) (by decide), lk_hi (b := 69) (by decide), lk_hi (b := 70) (by decide)] at m4
      have e3 : ∀ q, xSm3 (xLk R V f' t') (xup2 J 81 0 (jI v)) q = xSm3 V J q := fun q => by
        unfold xSm3
        rw [jc_in.2, lk_hi (by decide), lk_hi (by decide), lk_hi (by decide)]
      have er : r = v := by
        obtain ⟨r1, _⟩ := id hr
        by_cases c3 : aDs (V 68) (V 69) (V 70) P t' f' < 1000000
        · rw [if_pos c3] at m4 r1
          simp only [e3] at m4
          rw [if_neg (by omega)] at hv
          have hd := xHd_ok (R := R) (V := xLk R V f' t') (n := P) (Q := fun q => aBk (V 68) (V 69) (V 70) P (aA (V 68) (V 69) (V 70) P (aDs (V 68) (V 69) (V 70) P t') f') q (aM (V 68) (V 69) (V 70) P (aDs (V 68) (V 69) (V 70) P t') t' f')) (w := fun q => aC (V 68) (V 69) (V 70) (V 68 q).toNat (V 69 q).toNat (V 70 q) P * xSm3 V J q) (fun p hp => ?_) P 0 9999 (by omega) ⟨⟨Int.le_refl _, fun q _ h => absurd h.1 (by omega)⟩, Or.inl rfl⟩
          · rw [hv] at hd; exact aMin_one m4 hd
          · have eb := xBe_ok hr (fun p hp => (hC p hp).1) hp (by rw [ec p hp]; exact (hC p hp).2.1) (by rw [ec p hp]; exact (hC p hp).2.2.1) (by rw [ec p hp]; exact (hC p hp).2.2.2)
            refine ⟨eb.1, fun h => ?_⟩
            rw [eb.2]
            unfold aSh
            rw [if_pos h]
            show _ = aC (V 68) (V 69) (V 70) (V 68 p).toNat (V 69 p).toNat (V 70 p) P * xSm3 V J p
            congr 1
            rw [← pt_st hP.2.1 (by have := hP.1.1; omega) (hP.2.2.2.1 p hp).2]
            unfold xSt
            rw [ec p hp]
        · rw [if_neg c3] at m4 r1
          rw [if_pos (by omega)] at hv
          omega
      rw [er] at mod
      exact Or.inl ⟨_, _, _, _, _, _, _, _, (by intro h; exact absurd h (by decide)), cls, h81, hM.1, mod, jc_in.1, m3, iInv_s hI' ⟨by omega, by omega⟩ (iScr_a m2) rfl⟩
  · rw [if_neg c] at cls
    (refine iCs_x (k := 0) hI hi iScr_r cls (fun T z V J R hI2 eV eM eJ => ?_) (by decide) (by decide); obtain ⟨⟨_, _, _, _, _, hM, _⟩, hz, hH9, hP9, hO⟩ := id hI2; have mod := m_holds_x (sc := sc) (d := 4) (T := T) (z := z) (V := V) (J := J) (R := R) hM hf ht (fun q => c q.1); rw [if_neg c] at mod; exact ⟨_, mod, by rw [xup2_i]; rfl, iScr_f⟩)
theorem c_pull {f t g : Int} (hI : iInv i T z V J R) (hi : i ≤ 512) (hf : (-2147483648 ≤ f ∧ f ≤ 2147483647)) (ht : (-2147483648 ≤ t ∧ t ≤ 2147483647)) (hg : (-2147483648 ≤ g ∧ g ≤ 2147483647)) : iCs sc i 62 127 [xw f, xw t, xw g] k123 T z V J R := by
  obtain ⟨⟨hT, hR, hH, hS, hE, hM, h81⟩, hz, hH9, hP9, hO⟩ := id hI
  obtain ⟨P, hP⟩ := id hP9
  have hP3 := hP.1.2.2.1
  have mr := hP.2.1
  have cls := s_pull (sc := sc) (d := 0) (z := z) (J := J) hT hR (pt_xPq hP) hf ht hg
  by_cases c : (0 ≤ f ∧ f < 8) ∧ (0 ≤ t ∧ t < 8)
  · by_cases c2 : (¬ f = t) ∧ (1 ≤ g ∧ g ≤ 9999)
    · rw [if_pos c, if_pos c2] at cls
      obtain ⟨f', rfl⟩ : ∃ m : Nat, f = m := ⟨f.toNat, by omega⟩
      obtain ⟨t', rfl⟩ : ∃ m : Nat, t = m := ⟨t.toNat, by omega⟩
      rw [Int.toNat_natCast, Int.toNat_natCast] at cls
      have f8 : f' < 8 := by omega
      have t8 : t' < 8 := by omega
      have nft : ¬ f' = t' := fun e => c2.1 (by rw [e])
      have hD := aDs_ok (O := V 68) (Q := V 69) (L := V 70) (n := P) t8
      have hPp := pt_xPq hP
      have hC := pt_aCl hP
      have hinj := hP.2.2.2.2
      have hTp : ∀ p, p < P → T (xp R p) = (2, 0) := fun p hp => (hPp.2.2.2 p hp).2.1
      have hr := look_ok hR hPp hC t8 f8 hD
      have ec : ∀ p, p < P → xLk R V f' t' (xp R p) = V (xp R p) := fun p hp => xLk_ne (xRo_T hR (hTp p hp))
      by_cases c3 : aDs (V 68) (V 69) (V 70) P t' f' < 1000000
      · have r1 := hr.1
        rw [if_pos c3] at r1
        rw [if_neg (by omega)] at cls
        have hst : ∀ p, p < P → xSt (xLk R V f' t') (xp R p) = xSm3 V J p := fun p hp => by
          rw [← pt_st mr (by have := hP.1.1; omega) (hP.2.2.2.1 p hp).2]
          unfold xSt
          rw [ec p hp]
        have hCl : aCl R (xLk R V f' t') (V 68) (V 69) (V 70) P := fun p hp => by rw [ec p hp]; exact hC p hp
        have hK : ∀ p, p < P → xLk R V f' t' (xp R p) 12 = V 67 p := fun p hp => by rw [ec p hp]; exact (hP.2.2.2.1 p hp).2.2.2.1.2.2
        -- the frame of what breaks
        obtain ⟨_, ⟨_, _, fr, frp⟩, _⟩ := xBs_ok (g := g) (st := xSm3 V J) hT hR t8 f8 hinj 40 0 (xLk R V f' t') V (xPq_l hR hPp) (xRb_l hR (xPq_s hPp)) hCl hr hst hK
        generalize hVb : (xBs R f' t' P g 40 0 (xLk R V f' t')).2 = Vb at fr frp cls
        obtain ⟨ws1, ws2, ws3⟩ := xWs_ok (T := T) (R := R) (n := P) (g := g) hR hTp hinj P 0 Vb (by omega)
        generalize hV1 : xWs R g P 0 Vb = V1 at ws1 ws2 ws3 cls
        have nc : ∀ b, ¬ T b = (2, 0) → ∀ p, p < P → ¬ b = xp R p := fun b hb p hp e => hb (by rw [e]; exact hTp p hp)
        have ge : ∀ p, p < P → 82 ≤ xp R p ∧ xp R p + 1 < z.1 := fun p hp => (hP.2.2.2.1 p hp).2.1.2
        have lo : ∀ b, b < 82 → ∀ p, p < P → ¬ b = xp R p := fun b hb p hp e => by have := ge p hp; omega
        have ro : ∀ b, 9 ≤ b ∨ b = 0 → (∀ p, p < P → ¬ b = xp R p) → V1 b = V b := fun b x y => by rw [ws1 b y, fr b (by omega) y]; exact xLk_ne (by omega)
        have rl : ∀ b, 9 ≤ b → b < 82 → V1 b = V b := fun b x y => ro b (Or.inl x) (lo b y)
        have r0 : V1 0 = V 0 := ro 0 (Or.inr rfl) (lo 0 (by decide))
        generalize hv : (xBs R f' t' P g 40 0 (xLk R V f' t')).1 = v at cls
        have hst1 : ∀ p, p < P → xSt (xLk R V f' t') (xp R p) = xSm3 V1 (xup2 J 81 0 (jI v)) p := fun p hp => by
          rw [hst p hp]
          unfold xSm3
          rw [jc_in.2, rl 60 (by decide) (by decide), rl 61 (by decide) (by decide), rl 65 (by decide) (by decide)]
        have b68 := rl 68 (by decide) (by decide)
        have b69 := rl 69 (by decide) (by decide)
        have b70 := rl 70 (by decide) (by decide)
        have hA1 : aMo V1 P := aMo_e (pt_aMo hP) (by rw [rl 56 (by decide) (by decide)]) b68 b69 b70
        have hB1 : aMb V1 P := by
          have := pt_aMb hP
          unfold aMb at this ⊢
          rw [rl 60 (by decide) (by decide), rl 61 (by decide) (by decide), rl 65 (by decide) (by decide)]; exact this
        obtain ⟨V', mod⟩ := m_pull (sc := sc) (d := 4) (z := z) (T := T) (R := R) (V := V1) (J := xup2 J 81 0 (jI v)) (g := g) hM hA1 hB1 f8 t8 nft c2.2
        rw [b68, b69, b70, if_pos c3] at mod
        obtain ⟨x1, ⟨x2, x3, _, _⟩, x4⟩ := xBs_ok (g := g) (st := xSm3 V1 (xup2 J 81 0 (jI v))) hT hR t8 f8 hinj 40 0 (xLk R V f' t') V1 (xPq_l hR hPp) (xRb_l hR (xPq_s hPp)) (by rw [b68, b69, b70]; exact hCl) (by rw [b68, b69, b70]; exact hr) hst1 (fun p hp => by rw [rl 67 (by decide) (by decide)]; exact hK p hp)
        rw [hv] at x1
        rw [hVb] at x2 x3 x4
        obtain ⟨mod, pe1, pe2, pe3, pe4⟩ := mod
        rw [← x1] at mod
        obtain ⟨s1, s2, s3⟩ := aPl_r (n := P) (t := t') (f := f') (g := g) (st := xSm3 V1 (xup2 J 81 0 (jI v))) 40 0 V1
        generalize (aPl P t' f' g (xSm3 V1 (xup2 J 81 0 (jI v))) 40 0 V1).2 = S' at pe1 pe4 x2 x3 x4 s1 s2 s3
        -- rows behind the call
        have w : ∀ b, 9 ≤ b ∨ b = 0 → ¬ b = 56 → ¬ (65 ≤ b ∧ b ≤ 73 ∧ ¬ b = 66) → (∀ p, p < P → ¬ b = xp R p) → V' b = V b := fun b q1 q2 q3 q4 => by rw [pe1 b q2 (by omega) (by omega), s1 b (by omega)]; exact ro b q1 q4
        have wl : ∀ b, 9 ≤ b → b < 82 → ¬ b = 56 → ¬ (65 ≤ b ∧ b ≤ 73 ∧ ¬ b = 66) → V' b = V b := fun b q1 q2 q3 q4 => w b (Or.inl q1) q3 q4 (lo b q2)
        have w0 : V' 0 = V 0 := w 0 (Or.inr rfl) (by decide) (by decide) (lo 0 (by decide))
        have w56 : ∀ j, ¬ j = 17 → ¬ j = 28 → V' 56 j = V 56 j := fun j j1 j2 => by rw [pe2 j j1 j2, rl 56 (by decide) (by decide)]
        have wS : ∀ b, 67 ≤ b → b ≤ 70 → V' b = S' b := fun b q1 q2 => pe1 b (by omega) (by omega) (by omega)
        have w65 : ∀ p, V' 65 p = if p < P then V 65 p + aBu (S' 68) (S' 69) (S' 70) P (aDs (S' 68) (S' 69) (S' 70) P t') t' f' g p / 10 else V 65 p := fun p => by rw [pe4 p, rl 65 (by decide) (by decide)]
        have wq : ∀ x q, 67 ≤ x → x ≤ 70 → P ≤ q → V' x q = V x q := fun x q q1 q2 q3 => by rw [wS x q1 q2, s2 x q q3, rl x (by omega) (by omega)]
        refine Or.inl ⟨_, _, _, _, _, _, _, _, (by intro h; exact absurd h (by decide)), cls, h81, hM.1, mod, jc_in.1, pe3, ?_⟩
        have i1 := hI.1
        obtain ⟨H, h3⟩ := hH9
        refine ⟨i1, ⟨hz.1, by omega, by omega⟩, ⟨H, iHid_e h3 (Nat.le_refl _) (fun _ _ _ => rfl) rfl (fun _ _ _ => rfl) (by rw [w0]) (w56 0 (by decide) (by decide)) (wl 57 (by decide) (by decide) (by decide) (by decide)) (wl 58 (by decide) (by decide) (by decide) (by decide)) (fun b b1 b2 b3 => w b (Or.inl (by omega)) (by omega) (by omega) (nc b (fun e => by rw [e] at b3; rcases b3 with q | q <;> exact absurd q (by decide))))⟩, ⟨P, ?_⟩, iHor_e hO (by rw [w0]) (w56 24 (by decide) (by decide)) (fun b hb => wl b (by omega) (by omega) (by omega) (by omega))⟩
        have aBi : ∀ p, 0 ≤ aBu (S' 68) (S' 69) (S' 70) P (aDs (S' 68) (S' 69) (S' 70) P t') t' f' g p / 10 ∧ aBu (S' 68) (S' 69) (S' 70) P (aDs (S' 68) (S' 69) (S' 70) P t') t' f' g p / 10 ≤ 1000 := fun p => by
          have := aBu_in (O := S' 68) (Q := S' 69) (L := S' 70) (F := aDs (S' 68) (S' 69) (S' 70) P t') (n := P) (t := t') (f := f') (p := p) (g := g) (by omega)
          omega
        have hP40 := hP.1
        have wr : xMr V' := by
          refine ⟨by rw [w56 3 (by decide) (by decide)]; exact mr.1, fun k hk => ?_⟩
          obtain ⟨l59, l60, l61, l62, l63, l65, l66, l67, l68, l69, l70⟩ := mr.2 k hk
          rw [wl 59 (by decide) (by decide) (by decide) (by decide), wl 60 (by decide) (by decide) (by decide) (by decide), wl 61 (by decide) (by decide) (by decide) (by decide), wl 62 (by decide) (by decide) (by decide) (by decide), wl 63 (by decide) (by decide) (by decide) (by decide), wl 66 (by decide) (by decide) (by decide) (by decide)]
          by_cases ck : k < P
          · have st := (x2 k ck).1
            have q7 := s3 k
            rw [rl 67 (by decide) (by decide)] at q7
            have p1 := (hP.2.2.2.1 k ck).2.2.2.2.2.1.2.2.2
            have p2 := aBi k
            rw [w65 k, if_pos ck, wS 67 (by decide) (by decide), wS 68 (by decide) (by decide), wS 69 (by decide) (by decide), wS 70 (by decide) (by decide)]
            unfold aSt at st
            exact ⟨l59, l60, l61, l62, l63, by omega, l66, by omega, by omega, by omega, by omega⟩
          · rw [w65 k, if_neg ck, wq 67 k (by decide) (by decide) (by omega), wq 68 k (by decide) (by decide) (by omega), wq 69 k (by decide) (by decide) (by omega), wq 70 k (by decide) (by decide) (by omega)]
            exact ⟨l59, l60, l61, l62, l63, l65, l66, l67, l68, l69, l70⟩
        refine ⟨⟨hP40.1, by rw [w0]; exact hP40.2.1, by rw [w56 3 (by decide) (by decide)]; exact hP3, by omega⟩, wr, fun p q1 q2 => ?_, fun p hp => ⟨(hP.2.2.2.1 p hp).1, ?_⟩, hinj⟩
        · rw [jc_in.2, w65 p, if_neg (by omega), wl 66 (by decide) (by decide) (by decide) (by decide), wq 67 p (by decide) (by decide) q1]
          exact hP.2.2.1 p q1 q2
        · have h1 := (hP.2.2.2.1 p hp).2
          obtain ⟨⟨hPa, ga, gn⟩, ⟨w0, w1, w2, w3, w5, w4⟩, ⟨w7, w8, w12⟩, ⟨w9, w10, w11⟩, ⟨b59, b60, b61, b65⟩, st, wh, bt, w6⟩ := id h1
          have va : V' (xp R p) = V1 (xp R p) := by rw [pe1 _ (by omega) (by omega) (by omega), s1 _ (by omega)]
          have vj : ∀ j, ¬ j = 7 → j < 9 → V' (xp R p) j = V (xp R p) j := fun j j1 j2 => by rw [va, ws2 p hp j j1, frp p hp j (Or.inl j2), ec p hp]
          have vk : ∀ j, ¬ j = 7 → V' (xp R p) j = Vb (xp R p) j := fun j j1 => by rw [va, ws2 p hp j j1]
          have v7 : V' (xp R p) 7 = V' 65 p := by
            rw [va, ws3 p hp, if_pos (Nat.zero_le p), frp p hp 7 (by omega), ec p hp, w65 p, if_pos hp, w7, xBu_ok x4 (fun p hp => (x2 p hp).1) hp (x2 p hp).2.1 (x2 p hp).2.2.1 (x2 p hp).2.2.2]
          have vg : V' (xp R p + 1) = V (xp R p + 1) := w _ (Or.inl (by omega)) (by omega) (by omega) (nc _ (by rw [hPa.2.2]; decide))
          obtain ⟨c1, c9, c10, c11⟩ := x2 p hp
          have p2 := aBi p
          refine ⟨⟨hPa, ga, gn⟩, ?_, ?_, ?_, ?_, ?_, ?_, ?_, ?_⟩
          · rw [vj 0 (by decide) (by decide), vj 1 (by decide) (by decide), vj 2 (by decide) (by decide), vj 3 (by decide) (by decide), vj 4 (by decide) (by decide), vj 5 (by decide) (by decide), wl 59 (by decide) (by decide) (by decide) (by decide), wl 60 (by decide) (by decide) (by decide) (by decide), wl 61 (by decide) (by decide) (by decide) (by decide), wl 62 (by decide) (by decide) (by decide) (by decide), wl 63 (by decide) (by decide) (by decide) (by decide)]
            exact ⟨w0, w1, w2, w3, w5, w4⟩
          · rw [v7, vj 8 (by decide) (by decide), vk 12 (by decide), x3 p hp, wl 66 (by decide) (by decide) (by decide) (by decide), wS 67 (by decide) (by decide)]
            exact ⟨rfl, w8, rfl⟩
          · rw [vk 9 (by decide), vk 10 (by decide), vk 11 (by decide), wS 68 (by decide) (by decide), wS 69 (by decide) (by decide), wS 70 (by decide) (by decide)]
            exact ⟨c9, c10, c11⟩
          · rw [w65 p, if_pos hp, wl 59 (by decide) (by decide) (by decide) (by decide), wl 60 (by decide) (by decide) (by decide) (by decide), wl 61 (by decide) (by decide) (by decide) (by decide)]
            exact ⟨b59, b60, b61, by omega⟩
          · rw [wS 68 (by decide) (by decide), wS 69 (by decide) (by decide), wS 70 (by decide) (by decide)]; exact c1
          · rw [vg, jc_in.2]; exact wh
          · rw [jc_in.2, wl 59 (by decide) (by decide) (by decide) (by decide)]; exact bt
          · rw [jc_in.2, vj 6 (by decide) (by decide)]; exact w6
      · have r1 := hr.1
        rw [if_neg c3] at r1
        rw [if_pos (by omega)] at cls
        refine iCs_x (k := 0) hI hi iScr_l cls (fun T z V2 J R hI2 eV eM eJ => ?_) (by decide) (by decide)
        obtain ⟨⟨_, _, _, _, _, hM, _⟩, hz, hH9, hP9, hO⟩ := id hI2
        have e3 : V2 56 3 = P := by rw [eM, lk_hi (by decide)]; exact hP3
        obtain ⟨V', mod⟩ := m_pull (sc := sc) (d := 4) (z := z) (T := T) (R := R) (V := V2) (J := J) (g := g) hM (iInv_aMo hI2 e3) (iInv_aMb hI2 e3) f8 t8 nft c2.2
        rw [eV 68 (by omega), eV 69 (by omega), eV 70 (by omega), lk_hi (b := 68) (by decide), lk_hi (b := 69) (by decide), lk_hi (b := 70) (by decide), if_neg c3] at mod
        exact ⟨V', mod.1, by rw [mod.2.2]; rfl, iScr_a mod.2.1⟩
    · rw [if_pos c, if_neg c2] at cls
      (refine iCs_x (k := 0) hI hi iScr_r cls (fun T z V J R hI2 eV eM eJ => ?_) (by decide) (by decide); obtain ⟨⟨_, _, _, _, _, hM, _⟩, hz, hH9, hP9, hO⟩ := id hI2; have mod := m_pull_x (sc := sc) (d := 4) (T := T) (z := z) (V := V) (J := J) (R := R) hM hf ht hg (fun q => c2 q.2); rw [if_pos c] at mod; exact ⟨_, mod, by rw [xup2_i]; rfl, iScr_f⟩)
  · rw [if_neg c] at cls
    (refine iCs_x (k := 0) hI hi iScr_r cls (fun T z V J R hI2 eV eM eJ => ?_) (by decide) (by decide); obtain ⟨⟨_, _, _, _, _, hM, _⟩, hz, hH9, hP9, hO⟩ := id hI2; have mod := m_pull_x (sc := sc) (d := 4) (T := T) (z := z) (V := V) (J := J) (R := R) hM hf ht hg (fun q => c q.1); rw [if_neg c] at mod; exact ⟨_, mod, by rw [xup2_i]; rfl, iScr_f⟩)
end SX9i
