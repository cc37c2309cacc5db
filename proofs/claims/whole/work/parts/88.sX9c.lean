/-! the law's cases: what a saddle does to a back -/
theorem iScr_g {V : Nat → Nat → Int} {h s : Int} : iScr V (xMg V h s) := ⟨fun b _ b2 _ _ => xMg_ne b2, fun j _ _ => by rw [xMg_ne (by decide)]⟩
theorem iHor_55 {V : Nat → Nat → Int} {S : Nat → Int} (h : iHor V) (hS : ∀ k, k < 7 → -1000 ≤ S k ∧ S k ≤ 1000) : iHor (va_up V 55 S) := by
  have e : ∀ b, ¬ b = 55 → va_up V 55 S b = V b := fun b hb => va_ne hb
  unfold iHor xMh at h ⊢
  obtain ⟨a1, a2, a3, a4, a5, a6, a7⟩ := h
  rw [e 0 (by decide), e 56 (by decide), e 74 (by decide), e 75 (by decide), e 76 (by decide), e 77 (by decide), e 78 (by decide), e 79 (by decide), e 80 (by decide), va_same]
  refine ⟨fun h k hh hk => ?_, fun s k hs hk => ?_, a3, fun h k w hh hk hw => ?_, a5, a6, hS⟩
  · rw [e (11 + 4 * h) (by omega), e (12 + 4 * h) (by omega)]; exact a1 h k hh hk
  · rw [e (36 + 3 * s) (by omega), e (37 + 3 * s) (by omega)]; exact a2 s k hs hk
  · rw [e (13 + 4 * h) (by omega)]; exact a4 h k w hh hk hw
theorem lame_eq {V : Nat → Nat → Int} {B : Nat → Int} {s h : Nat} (e : ∀ j, j < 7 → V s j = B (7 * h + j)) : ∀ m k, k + m = 7 → (xMl B h m k 0 = 0 ↔ xLa V s m k = false) ∧ xMl B h m k 1 = 1 := by
  intro m
  induction m with
  | zero => intro k _; exact ⟨⟨fun _ => rfl, fun _ => rfl⟩, rfl⟩
  | succ m ih =>
    intro k hk
    have h1 := ih (k + 1) (by omega)
    have ej : (7 * (h : Int) + (k : Int)).toNat = 7 * h + k := by omega
    have hv := e k (by omega)
    rw [xMl, xMl, xLa, ej, if_pos rfl, if_neg (show ¬ (1 : Int) = 0 by decide)]
    refine ⟨?_, h1.2⟩
    by_cases c : B (7 * h + k) < 100
    · rw [if_pos c, if_pos (by omega)]; exact h1.1
    · rw [if_neg c, if_neg (by omega), h1.2]; exact ⟨fun q => absurd q (by decide), fun q => absurd q (by decide)⟩
theorem lame_in {B : Nat → Int} {h : Int} : ∀ m k b, b = 0 ∨ b = 1 → xMl B h m k b = 0 ∨ xMl B h m k b = 1 := by
  intro m
  induction m with
  | zero => intro k b hb; exact hb
  | succ m ih =>
    intro k b hb
    rw [xMl]
    refine ih _ _ ?_
    split
    · split
      · exact Or.inl rfl
      · exact Or.inr rfl
    · exact Or.inr rfl
theorem share_eq {V : Nat → Nat → Int} {h k : Nat} {b w : Int} (hO : iHor V) (hh : h < 6) (hk : k < 7) (hb : 0 ≤ b ∧ b ≤ 2) (hw : 0 ≤ w ∧ w < 6) : V (13 + 4 * h) (((k : Int) * 3 + b) * 6 + w).toNat = xMo2 V (7 * h + k) b w := by
  obtain ⟨w', rfl⟩ : ∃ m : Nat, w = m := ⟨w.toNat, by omega⟩
  obtain ⟨_, _, _, a4, _⟩ := hO
  obtain ⟨q1, q2, q3⟩ := a4 h k w' hh hk (by omega)
  unfold xMo2
  have e6 : (6 * (7 * (h : Int) + (k : Int)) + (w' : Int)).toNat = 6 * (7 * h + k) + w' := by omega
  have e4 : (4 * (7 * (h : Int) + (k : Int)) + (w' : Int)).toNat = 4 * (7 * h + k) + w' := by omega
  rw [e6, e4]
  rcases (show b = 0 ∨ b = 1 ∨ b = 2 by omega) with rfl | rfl | rfl
  · rw [if_pos rfl, if_pos (by omega), ← q1]; congr 1
  · rw [if_neg (by decide), if_pos rfl, show (((k : Int) * 3 + 1) * 6 + (w' : Int)).toNat = (k * 3 + 1) * 6 + w' by omega, q2]
    by_cases c : w' < 4
    · rw [if_pos c, if_pos (by omega)]
    · rw [if_neg c, if_neg (by omega)]
  · rw [if_neg (by decide), if_neg (by decide), show (((k : Int) * 3 + 2) * 6 + (w' : Int)).toNat = (k * 3 + 2) * 6 + w' by omega, q3]
    by_cases c : 1 ≤ w' ∧ w' < 4
    · rw [if_pos c, if_pos (by omega)]
    · rw [if_neg c, if_neg (by omega)]
theorem cause_eq {B S : Int → Int} : ∀ (m k : Nat) (g f : Int), k + m = 6 → (f = -1 ∧ g = 0 ∨ 0 ≤ f ∧ 1 ≤ g ∧ S f = g) → (∀ w, 0 ≤ w → w < 6 → B w = S w) → xCa B m k g f = xMca S m k f := by
  intro m
  induction m with
  | zero => intro k g f _ _ _; rfl
  | succ m ih =>
    intro k g f hk hf e
    rw [xCa, xMca, e k (by omega) (by omega)]
    by_cases c : S k ≤ 0
    · rw [if_pos c, if_pos (by omega)]; exact ih (k + 1) g f (by omega) hf e
    · rw [if_neg c]
      by_cases c2 : f = -1
      · rw [if_pos c2, if_neg (by omega)]; exact ih (k + 1) _ _ (by omega) (Or.inr ⟨by omega, by omega, rfl⟩) e
      · rw [if_neg c2]
        have q : 0 ≤ f ∧ 1 ≤ g ∧ S f = g := by omega
        by_cases c3 : S k ≤ S f
        · rw [if_pos c3, if_pos (by omega)]; exact ih (k + 1) g f (by omega) hf e
        · rw [if_neg c3, if_neg (by omega)]; exact ih (k + 1) _ _ (by omega) (Or.inr ⟨by omega, by omega, rfl⟩) e
section SX9c
variable {sc : xS} {i : Nat} {T : Nat → Nat × Nat} {z : Nat × Nat} {V : Nat → Nat → Int} {J : Nat → Nat → Int64} {R : Nat → Nat → Option Nat}
theorem iHor_g {h s : Int} (hO : iHor V) (ok : (0 ≤ h ∧ h < 6) ∧ (0 ≤ s ∧ s < 6)) {W : Nat → Nat → Int} (w4 : W 74 = V 74) (w5 : W 75 = V 75) (w6 : W 76 = V 76) : ∀ j, j < 7 → xMg V h s 54 j = xGG W h s j := by
  obtain ⟨h', rfl⟩ : ∃ m : Nat, h = m := ⟨h.toNat, by omega⟩
  obtain ⟨s', rfl⟩ : ∃ m : Nat, s = m := ⟨s.toNat, by omega⟩
  exact iHor_gap hO (by omega) (by omega) w4 w5 w6
theorem c_sinks {h s w : Int} (hI : iInv i T z V J R) (hi : i ≤ 512) (hh : (-2147483648 ≤ h ∧ h ≤ 2147483647)) (hs : (-2147483648 ≤ s ∧ s ≤ 2147483647)) (hw : (-2147483648 ≤ w ∧ w ≤ 2147483647)) : iCs sc i 69 144 [xw h, xw s, xw w] kB T z V J R := by
  obtain ⟨⟨hT, hR, hH, hS, hE, hM, h81⟩, hz, hH9, hP9, hO⟩ := id hI
  by_cases c : ((0 ≤ h ∧ h < 6) ∧ (0 ≤ s ∧ s < 6)) ∧ (1 ≤ w ∧ w ≤ 3000)
  · obtain ⟨r, r1, r2, r3, cls⟩ := s_sinks (sc := sc) (d := 0) (z := z) (V := V) (J := J) hT hE hH hS (iHor_bd hO) c.1 c.2
    have hI' : iInv i T z (xMg V h s) (xup2 J 81 0 (jI r)) R := iInv_s hI ⟨Nat.le_refl i, by omega⟩ iScr_g jc_in.2
    obtain ⟨r', _, _, r3', mod⟩ := m_sinks (sc := sc) (d := 6) (z := z) (V := xMg V h s) (J := xup2 J 81 0 (jI r)) hM hI'.2.2.2.2.2.2.1 c.1 c.2
    have e : r' = r := xDe_one r3' (xDe_e (iHor_g hO c.1 (xMg_ne (by decide)) (xMg_ne (by decide)) (xMg_ne (by decide))) r3)
    subst e
    exact Or.inl ⟨_, _, _, _, _, _, _, _, (by intro h; exact absurd h (by decide)), cls, h81, hM.1, mod, jc_in.1, xup2_i, iInv_s hI' ⟨by omega, by omega⟩ iScr_f rfl⟩
  · have cls := s_sinks_x (sc := sc) (d := 0) (z := z) (V := V) (J := J) hT hE hH hS hh hs hw c
    by_cases c2 : (0 ≤ h ∧ h < 6) ∧ (0 ≤ s ∧ s < 6)
    · rw [if_pos c2] at cls
      (refine iCs_x (k := 0) hI hi iScr_r cls (fun T z V J R hI2 eV eM eJ => ?_) (by decide) (by decide); obtain ⟨⟨_, _, _, _, _, hM, _⟩, hz, hH9, hP9, hO⟩ := id hI2; have mod := m_sinks_x (sc := sc) (d := 6) (T := T) (z := z) (V := V) (J := J) (R := R) hM hh hs hw c; rw [if_pos c2] at mod; exact ⟨_, mod, by rw [xup2_i]; rfl, iScr_f⟩)
    · rw [if_neg c2] at cls
      (refine iCs_x (k := 0) hI hi iScr_r cls (fun T z V J R hI2 eV eM eJ => ?_) (by decide) (by decide); obtain ⟨⟨_, _, _, _, _, hM, _⟩, hz, hH9, hP9, hO⟩ := id hI2; have mod := m_sinks_x (sc := sc) (d := 6) (T := T) (z := z) (V := V) (J := J) (R := R) hM hh hs hw c; rw [if_neg c2] at mod; exact ⟨_, mod, by rw [xup2_i]; rfl, iScr_f⟩)
theorem c_sinksAnew {h s w : Int} (hI : iInv i T z V J R) (hi : i ≤ 512) (hh : (-2147483648 ≤ h ∧ h ≤ 2147483647)) (hs : (-2147483648 ≤ s ∧ s ≤ 2147483647)) (hw : (-2147483648 ≤ w ∧ w ≤ 2147483647)) : iCs sc i 70 145 [xw h, xw s, xw w] kB T z V J R := by
  obtain ⟨⟨hT, hR, hH, hS, hE, hM, h81⟩, hz, hH9, hP9, hO⟩ := id hI
  by_cases c : ((0 ≤ h ∧ h < 6) ∧ (0 ≤ s ∧ s < 6)) ∧ (1 ≤ w ∧ w ≤ 3000)
  · obtain ⟨r, S, r3, r4, cls⟩ := s_sinksAnew (sc := sc) (d := 0) (z := z) (V := V) (J := J) hT hE hH hS (iHor_bd hO) hO.2.2.2.2.2.2 c.1 c.2
    have hI1 : iInv i T z (xMg V h s) (xup2 J 81 0 (jI r)) R := iInv_s hI ⟨Nat.le_refl i, by omega⟩ iScr_g jc_in.2
    have hI' : iInv i T z (va_up (xMg V h s) 55 S) (xup2 J 81 0 (jI r)) R := iInv_h hI1 ⟨Nat.le_refl i, by omega⟩ (fun b hb => va_ne (by omega)) (fun j _ => by rw [va_ne (by decide)]) (fun j _ _ _ => by rw [va_ne (by decide)]) rfl (iHor_55 hI1.2.2.2.2 r4)
    obtain ⟨r', _, _, r3', mod⟩ := m_sinksAnew (sc := sc) (d := 5) (z := z) (V := va_up (xMg V h s) 55 S) (J := xup2 J 81 0 (jI r)) hM hI'.2.2.2.2.2.2.1 c.1 c.2
    have e : r' = r := xDe_one r3' (xDe_e (iHor_g hO c.1 (by rw [va_ne (by decide)]; exact xMg_ne (by decide)) (by rw [va_ne (by decide)]; exact xMg_ne (by decide)) (by rw [va_ne (by decide)]; exact xMg_ne (by decide))) r3)
    subst e
    exact Or.inl ⟨_, _, _, _, _, _, _, _, (by intro h; exact absurd h (by decide)), cls, h81, hM.1, mod, jc_in.1, xup2_i, iInv_s hI' ⟨by omega, by omega⟩ iScr_f rfl⟩
  · have cls := s_sinksAnew_x (sc := sc) (d := 0) (z := z) (V := V) (J := J) hT hE hH hS hh hs hw c
    by_cases c2 : (0 ≤ h ∧ h < 6) ∧ (0 ≤ s ∧ s < 6)
    · rw [if_pos c2] at cls
      (refine iCs_x (k := 0) hI hi iScr_r cls (fun T z V J R hI2 eV eM eJ => ?_) (by decide) (by decide); obtain ⟨⟨_, _, _, _, _, hM, _⟩, hz, hH9, hP9, hO⟩ := id hI2; have mod := m_sinksAnew_x (sc := sc) (d := 5) (T := T) (z := z) (V := V) (J := J) (R := R) hM hh hs hw c; rw [if_pos c2] at mod; exact ⟨_, mod, by rw [xup2_i]; rfl, iScr_f⟩)
    · rw [if_neg c2] at cls
      (refine iCs_x (k := 0) hI hi iScr_r cls (fun T z V J R hI2 eV eM eJ => ?_) (by decide) (by decide); obtain ⟨⟨_, _, _, _, _, hM, _⟩, hz, hH9, hP9, hO⟩ := id hI2; have mod := m_sinksAnew_x (sc := sc) (d := 5) (T := T) (z := z) (V := V) (J := J) (R := R) hM hh hs hw c; rw [if_neg c2] at mod; exact ⟨_, mod, by rw [xup2_i]; rfl, iScr_f⟩)
theorem c_bridges {h s w : Int} (hI : iInv i T z V J R) (hi : i ≤ 512) (hh : (-2147483648 ≤ h ∧ h ≤ 2147483647)) (hs : (-2147483648 ≤ s ∧ s ≤ 2147483647)) (hw : (-2147483648 ≤ w ∧ w ≤ 2147483647)) : iCs sc i 72 147 [xw h, xw s, xw w] kB T z V J R := by
  obtain ⟨⟨hT, hR, hH, hS, hE, hM, h81⟩, hz, hH9, hP9, hO⟩ := id hI
  by_cases c : ((0 ≤ h ∧ h < 6) ∧ (0 ≤ s ∧ s < 6)) ∧ (1 ≤ w ∧ w ≤ 3000)
  · obtain ⟨r, r1, r2, r3, cls⟩ := s_bridges (sc := sc) (d := 0) (z := z) (V := V) (J := J) hT hE hH hS (iHor_bd hO) c.1 c.2
    have hI' : iInv i T z (xMg V h s) (xup2 J 81 0 (jI (xBr (xMg V h s 54) r 5 1 0))) R := iInv_s hI ⟨Nat.le_refl i, by omega⟩ iScr_g jc_in.2
    obtain ⟨r', _, _, r3', mod⟩ := m_bridges (sc := sc) (d := 6) (z := z) (V := xMg V h s) (J := xup2 J 81 0 (jI (xBr (xMg V h s 54) r 5 1 0))) hM hI'.2.2.2.2.2.2.1 c.1 c.2
    have gp := iHor_g hO c.1 (W := xMg V h s) (xMg_ne (by decide)) (xMg_ne (by decide)) (xMg_ne (by decide))
    have e : r' = r := xDe_one r3' (xDe_e gp r3)
    subst e
    rw [← bridges_eq gp] at mod
    exact Or.inl ⟨_, _, _, _, _, _, _, _, (by intro h; exact absurd h (by decide)), cls, h81, hM.1, mod, jc_in.1, xup2_i, iInv_s hI' ⟨by omega, by omega⟩ iScr_f rfl⟩
  · have cls := s_bridges_x (sc := sc) (d := 0) (z := z) (V := V) (J := J) hT hE hH hS hh hs hw c
    by_cases c2 : (0 ≤ h ∧ h < 6) ∧ (0 ≤ s ∧ s < 6)
    · rw [if_pos c2] at cls
      (refine iCs_x (k := 0) hI hi iScr_r cls (fun T z V J R hI2 eV eM eJ => ?_) (by decide) (by decide); obtain ⟨⟨_, _, _, _, _, hM, _⟩, hz, hH9, hP9, hO⟩ := id hI2; have mod := m_bridges_x (sc := sc) (d := 6) (T := T) (z := z) (V := V) (J := J) (R := R) hM hh hs hw c; rw [if_pos c2] at mod; exact ⟨_, mod, by rw [xup2_i]; rfl, iScr_f⟩)
    · rw [if_neg c2] at cls
      (refine iCs_x (k := 0) hI hi iScr_r cls (fun T z V J R hI2 eV eM eJ => ?_) (by decide) (by decide); obtain ⟨⟨_, _, _, _, _, hM, _⟩, hz, hH9, hP9, hO⟩ := id hI2; have mod := m_bridges_x (sc := sc) (d := 6) (T := T) (z := z) (V := V) (J := J) (R := R) hM hh hs hw c; rw [if_neg c2] at mod; exact ⟨_, mod, by rw [xup2_i]; rfl, iScr_f⟩)
theorem c_pressure {h s w k : Int} (hI : iInv i T z V J R) (hi : i ≤ 512) (hh : (-2147483648 ≤ h ∧ h ≤ 2147483647)) (hs : (-2147483648 ≤ s ∧ s ≤ 2147483647)) (hw : (-2147483648 ≤ w ∧ w ≤ 2147483647)) (hk : (-2147483648 ≤ k ∧ k ≤ 2147483647)) : iCs sc i 71 146 [xw h, xw s, xw w, xw k] kB T z V J R := by
  obtain ⟨⟨hT, hR, hH, hS, hE, hM, h81⟩, hz, hH9, hP9, hO⟩ := id hI
  by_cases c : ((0 ≤ k ∧ k < 7) ∧ (0 ≤ h ∧ h < 6) ∧ (0 ≤ s ∧ s < 6)) ∧ (1 ≤ w ∧ w ≤ 3000)
  · obtain ⟨r, r1, r2, r3, cls⟩ := s_pressure (sc := sc) (d := 0) (z := z) (V := V) (J := J) hT hE hH hS (iHor_bd hO) c.1.2 c.2 c.1.1
    have hI' : iInv i T z (xMg V h s) (xup2 J 81 0 (jI (4 * max 0 (r - xMg V h s 54 k.toNat)))) R := iInv_s hI ⟨Nat.le_refl i, by omega⟩ iScr_g jc_in.2
    obtain ⟨r', _, _, r3', mod⟩ := m_pressure (sc := sc) (d := 6) (z := z) (V := xMg V h s) (J := xup2 J 81 0 (jI (4 * max 0 (r - xMg V h s 54 k.toNat)))) hM hI'.2.2.2.2.2.2.1 c.1.2 c.2 c.1.1
    have e : r' = r := xDe_one r3' (xDe_e (iHor_g hO c.1.2 (xMg_ne (by decide)) (xMg_ne (by decide)) (xMg_ne (by decide))) r3)
    subst e
    have gk := iHor_g hO c.1.2 (W := xup2 (xMg V h s) 56 28 0) (by rw [xup2_o (by decide)]; exact xMg_ne (by decide)) (by rw [xup2_o (by decide)]; exact xMg_ne (by decide)) (by rw [xup2_o (by decide)]; exact xMg_ne (by decide)) k.toNat (by omega)
    unfold xGG at gk
    rw [Int.toNat_of_nonneg c.1.1.1] at gk
    rw [← gk] at mod
    exact Or.inl ⟨_, _, _, _, _, _, _, _, (by intro h; exact absurd h (by decide)), cls, h81, hM.1, mod, jc_in.1, xup2_i, iInv_s hI' ⟨by omega, by omega⟩ iScr_f rfl⟩
  · have cls := s_pressure_x (sc := sc) (d := 0) (z := z) (V := V) (J := J) hT hE hH hS hh hs hw hk c
    by_cases c2 : (0 ≤ k ∧ k < 7) ∧ (0 ≤ h ∧ h < 6) ∧ (0 ≤ s ∧ s < 6)
    · rw [if_pos c2] at cls
      (refine iCs_x (k := 0) hI hi iScr_r cls (fun T z V J R hI2 eV eM eJ => ?_) (by decide) (by decide); obtain ⟨⟨_, _, _, _, _, hM, _⟩, hz, hH9, hP9, hO⟩ := id hI2; have mod := m_pressure_x (sc := sc) (d := 6) (T := T) (z := z) (V := V) (J := J) (R := R) hM hh hs hw hk c; rw [if_pos c2] at mod; exact ⟨_, mod, by rw [xup2_i]; rfl, iScr_f⟩)
    · rw [if_neg c2] at cls
      (refine iCs_x (k := 0) hI hi iScr_r cls (fun T z V J R hI2 eV eM eJ => ?_) (by decide) (by decide); obtain ⟨⟨_, _, _, _, _, hM, _⟩, hz, hH9, hP9, hO⟩ := id hI2; have mod := m_pressure_x (sc := sc) (d := 6) (T := T) (z := z) (V := V) (J := J) (R := R) hM hh hs hw hk c; rw [if_neg c2] at mod; exact ⟨_, mod, by rw [xup2_i]; rfl, iScr_f⟩)
/-- a call that changes nothing -/
theorem iCs_o {jc jm : Nat} {as : List Value} {κ : Nat → Int} {v : Int} (hI : iInv i T z V J R) (hi : i ≤ 512) (h1 : jm = 111 → v = 0 ∨ v = 1) (cls : X sc 9 jc (.ref 0 :: as) (T, z, xv V, J, R) = some (.inl (some (xw v)), (T, z, xv V, J, R)))
    (mod : X sc 10 jm (.ref 56 :: as) (T, z, xv V, xup2 J 81 0 (jI v), R) = some (.inl (some (xw v)), (T, z, xv (xup2 V 56 28 0), xup2 J 81 0 (jI v), R))) : iCs sc i jc jm as κ T z V J R :=
  Or.inl ⟨_, _, _, _, _, _, _, _, h1, cls, hI.1.2.2.2.2.2.2, hI.1.2.2.2.2.2.1.1, mod, jc_in.1, xup2_i, iInv_s hI ⟨by omega, by omega⟩ iScr_f jc_in.2⟩
theorem c_sore {h k v : Int} (hI : iInv i T z V J R) (hi : i ≤ 512) (hh : (-2147483648 ≤ h ∧ h ≤ 2147483647)) (hk : (-2147483648 ≤ k ∧ k ≤ 2147483647)) (hv : (-2147483648 ≤ v ∧ v ≤ 2147483647)) : iCs sc i 75 151 [xw h, xw k, xw v] kB T z V J R := by
  obtain ⟨⟨hT, hR, hH, hS, hE, hM, h81⟩, hz, hH9, hP9, hO⟩ := id hI
  have hB2 := hO.2.2.2.2.2.1.1
  by_cases c : (0 ≤ h ∧ h < 6) ∧ (0 ≤ k ∧ k < 7)
  · have hV : ∀ j, j < 7 → -2147483648 ≤ V (12 + 4 * h.toNat) j ∧ V (12 + 4 * h.toNat) j ≤ 2147483647 := by
      intro j hj
      have e := (hO.1 h.toNat j (by omega) hj).2
      have b := hB2 (7 * h.toNat + j) (by omega)
      have c5 := hO.2.2.2.2.1
      omega
    have cls := s_sore (sc := sc) (d := 1) (z := z) (V := V) (J := J) hT hH hV hh hk hv
    by_cases c2 : 0 ≤ v ∧ v ≤ 2
    · rw [if_pos c, if_pos c2] at cls
      refine iCs_o hI hi (by intro h; exact absurd h (by decide)) cls ?_
      have mod := m_sore (sc := sc) (d := 7) (T := T) (z := z) (V := V) (R := R) (J := xup2 J 81 0 (jI (if v = 0 then V (12 + 4 * h.toNat) k.toNat else if v = 1 then V (11 + 4 * h.toNat) k.toNat else xB (xLa V (12 + 4 * h.toNat) 7 0)))) hM (iHor_s2 hO) hh hk hv
      rw [if_pos c, if_pos c2] at mod
      have ej : (7 * h + k).toNat = 7 * h.toNat + k.toNat := by omega
      obtain ⟨q1, q2⟩ := hO.1 h.toNat k.toNat (by omega) (by omega)
      have lm := (lame_eq (V := V) (B := V 77) (s := 12 + 4 * h.toNat) (h := h.toNat) (fun j hj => (hO.1 h.toNat j (by omega) hj).2) 7 0 rfl).1
      have e1 : (if xMl (V 77) h 7 0 0 = 0 then (0 : Int) else 1) = xB (xLa V (12 + 4 * h.toNat) 7 0) := by
        rw [Int.toNat_of_nonneg c.1.1] at lm
        by_cases c3 : xMl (V 77) h 7 0 0 = 0
        · rw [if_pos c3, lm.mp c3]; rfl
        · have := fun q => c3 (lm.mpr q)
          rw [if_neg c3, eq_true_of_ne_false this]; rfl
      rw [e1, ej, ← q1, ← q2] at mod
      exact mod
    · rw [if_pos c, if_neg c2] at cls
      (refine iCs_x (k := 0) hI hi iScr_r cls (fun T z V J R hI2 eV eM eJ => ?_) (by decide) (by decide); obtain ⟨⟨_, _, _, _, _, hM, _⟩, hz, hH9, hP9, hO⟩ := id hI2; have mod := m_sore (sc := sc) (d := 7) (T := T) (z := z) (V := V) (J := J) (R := R) hM (iHor_s2 hO) hh hk hv; rw [if_pos c, if_neg c2] at mod; exact ⟨_, mod, by rw [xup2_i]; rfl, iScr_f⟩)
  · have cls : X sc 9 75 [.ref 0, xw h, xw k, xw v] (T, z, xv V, J, R) = xTw 10 T z V J R := by
      by_cases c1 : 0 ≤ h ∧ h < 6
      · have hV : ∀ j, j < 7 → -2147483648 ≤ V (12 + 4 * h.toNat) j ∧ V (12 + 4 * h.toNat) j ≤ 2147483647 := by
          intro j hj
          have e := (hO.1 h.toNat j (by omega) hj).2
          have b := hB2 (7 * h.toNat + j) (by omega)
          have c5 := hO.2.2.2.2.1
          omega
        have cls := s_sore (sc := sc) (d := 1) (z := z) (V := V) (J := J) hT hH hV hh hk hv
        rw [if_neg c] at cls; exact cls
      · rw [eX6_sore, bX6_sore_0 hT.1, s_horse hT hH hh, if_neg c1, xret_w w_75]
    (refine iCs_x (k := 0) hI hi iScr_r cls (fun T z V J R hI2 eV eM eJ => ?_) (by decide) (by decide); obtain ⟨⟨_, _, _, _, _, hM, _⟩, hz, hH9, hP9, hO⟩ := id hI2; have mod := m_sore (sc := sc) (d := 7) (T := T) (z := z) (V := V) (J := J) (R := R) hM (iHor_s2 hO) hh hk hv; rw [if_neg c] at mod; exact ⟨_, mod, by rw [xup2_i]; rfl, iScr_f⟩)
theorem c_share {h k b w : Int} (hI : iInv i T z V J R) (hi : i ≤ 512) (hh : (-2147483648 ≤ h ∧ h ≤ 2147483647)) (hk : (-2147483648 ≤ k ∧ k ≤ 2147483647)) (hb : (-2147483648 ≤ b ∧ b ≤ 2147483647)) (hw : (-2147483648 ≤ w ∧ w ≤ 2147483647)) : iCs sc i 76 154 [xw h, xw k, xw b, xw w] kB T z V J R := by
  obtain ⟨⟨hT, hR, hH, hS, hE, hM, h81⟩, hz, hH9, hP9, hO⟩ := id hI
  have cls := s_share (sc := sc) (d := 1) (z := z) (V := V) (J := J) hT hH hh hk hb hw
  by_cases c : (0 ≤ h ∧ h < 6) ∧ (0 ≤ k ∧ k < 7)
  · by_cases c2 : 0 ≤ b ∧ b ≤ 2
    · rw [if_pos c, if_pos c2] at cls
      refine iCs_o hI hi (by intro h; exact absurd h (by decide)) cls ?_
      obtain ⟨h', rfl⟩ : ∃ m : Nat, h = m := ⟨h.toNat, by omega⟩
      obtain ⟨k', rfl⟩ : ∃ m : Nat, k = m := ⟨k.toNat, by omega⟩
      have e : (if 0 ≤ w ∧ w < 6 then V (13 + 4 * (h' : Int).toNat) (((k' : Int) * 3 + b) * 6 + w).toNat else 0) = xMo2 V (7 * h' + k') b w := by
        by_cases c3 : 0 ≤ w ∧ w < 6
        · rw [if_pos c3, Int.toNat_natCast]; exact share_eq hO (by omega) (by omega) c2 c3
        · rw [if_neg c3]
          unfold xMo2
          rw [if_neg c3, if_neg (show ¬ (0 ≤ w ∧ w ≤ 3) by omega), if_neg (show ¬ (1 ≤ w ∧ w ≤ 3) by omega)]
          simp only [ite_self]
      have mod := m_share (sc := sc) (d := 6) (T := T) (z := z) (V := V) (R := R) (J := xup2 J 81 0 (jI (xMo2 V (7 * h' + k') b w))) hM hh hk hb hw
      rw [if_pos c, if_pos c2] at mod
      rw [e]; exact mod
    · rw [if_pos c, if_neg c2] at cls
      (refine iCs_x (k := 0) hI hi iScr_r cls (fun T z V J R hI2 eV eM eJ => ?_) (by decide) (by decide); obtain ⟨⟨_, _, _, _, _, hM, _⟩, hz, hH9, hP9, hO⟩ := id hI2; have mod := m_share (sc := sc) (d := 6) (T := T) (z := z) (V := V) (J := J) (R := R) hM hh hk hb hw; rw [if_pos c, if_neg c2] at mod; exact ⟨_, mod, by rw [xup2_i]; rfl, iScr_f⟩)
  · rw [if_neg c] at cls
    (refine iCs_x (k := 0) hI hi iScr_r cls (fun T z V J R hI2 eV eM eJ => ?_) (by decide) (by decide); obtain ⟨⟨_, _, _, _, _, hM, _⟩, hz, hH9, hP9, hO⟩ := id hI2; have mod := m_share (sc := sc) (d := 6) (T := T) (z := z) (V := V) (J := J) (R := R) hM hh hk hb hw; rw [if_neg c] at mod; exact ⟨_, mod, by rw [xup2_i]; rfl, iScr_f⟩)
theorem cause_in (hO : iHor V) {h : Int} (hh : 0 ≤ h ∧ h < 6) : ∀ j, j < 126 → -2147483648 ≤ V (13 + 4 * h.toNat) j ∧ V (13 + 4 * h.toNat) j ≤ 2147483647 := by
  intro j hj
  obtain ⟨_, _, _, a4, a5, ⟨_, b2, b3, b4⟩, _⟩ := hO
  have q := a4 h.toNat (j / 18) (j % 6) (by omega) (by omega) (by omega)
  have d2 := b2 (6 * (7 * h.toNat + j / 18) + j % 6) (by omega)
  rcases (show j / 6 % 3 = 0 ∨ j / 6 % 3 = 1 ∨ j / 6 % 3 = 2 by omega) with e | e | e
  · rw [show (j / 18 * 3 + 0) * 6 + j % 6 = j by omega] at q
    rw [q.1]; omega
  · rw [show (j / 18 * 3 + 1) * 6 + j % 6 = j by omega] at q
    rw [q.2.1]
    split
    · have d3 := b3 (4 * (7 * h.toNat + j / 18) + j % 6) (by omega)
      omega
    · decide
  · rw [show (j / 18 * 3 + 2) * 6 + j % 6 = j by omega] at q
    rw [q.2.2]
    split
    · have d3 := b4 (4 * (7 * h.toNat + j / 18) + j % 6) (by omega)
      omega
    · decide
theorem c_cause {h k b : Int} (hI : iInv i T z V J R) (hi : i ≤ 512) (hh : (-2147483648 ≤ h ∧ h ≤ 2147483647)) (hk : (-2147483648 ≤ k ∧ k ≤ 2147483647)) (hb : (-2147483648 ≤ b ∧ b ≤ 2147483647)) : iCs sc i 77 155 [xw h, xw k, xw b] kB T z V J R := by
  obtain ⟨⟨hT, hR, hH, hS, hE, hM, h81⟩, hz, hH9, hP9, hO⟩ := id hI
  by_cases c1 : 0 ≤ h ∧ h < 6
  · have cls := s_cause (sc := sc) (d := 1) (z := z) (V := V) (J := J) hT hH (cause_in hO c1) hh hk hb
    by_cases c : 0 ≤ k ∧ k < 7
    · by_cases c2 : 0 ≤ b ∧ b ≤ 2
      · rw [if_pos (And.intro c1 c), if_pos c2] at cls
        refine iCs_o hI hi (by intro h; exact absurd h (by decide)) cls ?_
        obtain ⟨h', rfl⟩ : ∃ m : Nat, h = m := ⟨h.toNat, by omega⟩
        obtain ⟨k', rfl⟩ : ∃ m : Nat, k = m := ⟨k.toNat, by omega⟩
        have e : xCa (fun who => V (13 + 4 * (h' : Int).toNat) (((k' : Int) * 3 + b) * 6 + who).toNat) 6 0 0 (-1) = xMca (xMo2 (xup2 V 56 28 0) (7 * h' + k') b) 6 0 (-1) := by
          refine cause_eq 6 0 0 (-1) rfl (Or.inl ⟨rfl, rfl⟩) (fun w w1 w2 => ?_)
          have := share_eq (w := w) hO (show h' < 6 by omega) (show k' < 7 by omega) c2 ⟨w1, w2⟩
          unfold xMo2 at this ⊢
          rw [xup2_o (by decide), xup2_o (by decide), xup2_o (by decide)]
          show V (13 + 4 * (h' : Int).toNat) (((k' : Int) * 3 + b) * 6 + w).toNat = _
          rw [Int.toNat_natCast]; exact this
        have mod := m_cause (sc := sc) (d := 6) (T := T) (z := z) (V := V) (R := R) (J := xup2 J 81 0 (jI (xMca (xMo2 (xup2 V 56 28 0) (7 * h' + k') b) 6 0 (-1)))) hM (iHor_s2 hO) hh hk hb
        rw [if_pos (And.intro c1 c), if_pos c2] at mod
        rw [e]; exact mod
      · rw [if_pos (And.intro c1 c), if_neg c2] at cls
        (refine iCs_x (k := 0) hI hi iScr_r cls (fun T z V J R hI2 eV eM eJ => ?_) (by decide) (by decide); obtain ⟨⟨_, _, _, _, _, hM, _⟩, hz, hH9, hP9, hO⟩ := id hI2; have mod := m_cause (sc := sc) (d := 6) (T := T) (z := z) (V := V) (J := J) (R := R) hM (iHor_s2 hO) hh hk hb; rw [if_pos (And.intro c1 c), if_neg c2] at mod; exact ⟨_, mod, by rw [xup2_i]; rfl, iScr_f⟩)
    · rw [if_neg (fun q => c q.2)] at cls
      (refine iCs_x (k := 0) hI hi iScr_r cls (fun T z V J R hI2 eV eM eJ => ?_) (by decide) (by decide); obtain ⟨⟨_, _, _, _, _, hM, _⟩, hz, hH9, hP9, hO⟩ := id hI2; have mod := m_cause (sc := sc) (d := 6) (T := T) (z := z) (V := V) (J := J) (R := R) hM (iHor_s2 hO) hh hk hb; rw [if_neg (fun q => c q.2)] at mod; exact ⟨_, mod, by rw [xup2_i]; rfl, iScr_f⟩)
  · have cls : X sc 9 77 [.ref 0, xw h, xw k, xw b] (T, z, xv V, J, R) = xTw 10 T z V J R := by
      rw [eX6_cause, bX6_cause_0 hT.1, s_horse hT hH hh, if_neg c1, xret_w w_77]
    (refine iCs_x (k := 0) hI hi iScr_r cls (fun T z V J R hI2 eV eM eJ => ?_) (by decide) (by decide); obtain ⟨⟨_, _, _, _, _, hM, _⟩, hz, hH9, hP9, hO⟩ := id hI2; have mod := m_cause (sc := sc) (d := 6) (T := T) (z := z) (V := V) (J := J) (R := R) hM (iHor_s2 hO) hh hk hb; rw [if_neg (fun q => c1 q.1)] at mod; exact ⟨_, mod, by rw [xup2_i]; rfl, iScr_f⟩)
end SX9c
