/-! the law's cases: rest and ride -/
theorem xMz_at {am : Int} : ∀ m j V, j + m = 42 → (∀ b, ¬ b = 77 → xMz am m j V b = V b) ∧ (∀ k, xMz am m j V 77 k = if j ≤ k ∧ k < 42 then (if V 77 k ≤ am then 0 else V 77 k - am) else V 77 k) := by
  intro m
  induction m with
  | zero => intro j V hj; exact ⟨fun b _ => rfl, fun k => by rw [if_neg (by omega)]; rfl⟩
  | succ m ih =>
    intro j V hj
    obtain ⟨h1, h2⟩ := ih (j + 1) (xup2 V 77 j (if V 77 j ≤ am then 0 else V 77 j - am)) (by omega)
    refine ⟨fun b hb => by rw [xMz, h1 b hb, xup2_o hb], fun k => ?_⟩
    rw [xMz, h2 k]
    by_cases e : k = j
    · subst e; rw [if_neg (show ¬ (k + 1 ≤ k ∧ k < 42) by omega), if_pos (show k ≤ k ∧ k < 42 by omega), xup2_i]
    · rw [xup2_j e]
      by_cases c : j ≤ k ∧ k < 42
      · rw [if_pos c, if_pos (by omega)]
      · rw [if_neg c, if_neg (by omega)]
theorem xHe_s {V : Nat → Nat → Int} {s : Nat} {am : Int} {j : Nat} (hj : j < 7) : xHe V s am 0 s j = max 0 (V s j - am) := by
  unfold xHe; rw [if_pos ⟨rfl, by omega, hj⟩]
theorem xHe_o {V : Nat → Nat → Int} {s b : Nat} {am : Int} (hb : ¬ b = s) : xHe V s am 0 b = V b := by
  funext j; unfold xHe; rw [if_neg (fun q => hb q.1)]
theorem xRv_at {am : Int} : ∀ m k V, k + m = 6 → (∀ b, (∀ h, k ≤ h → h < 6 → ¬ b = 12 + 4 * h) → xRv am m k V b = V b) ∧ (∀ h j, k ≤ h → h < 6 → j < 7 → xRv am m k V (12 + 4 * h) j = max 0 (V (12 + 4 * h) j - am)) := by
  intro m
  induction m with
  | zero => intro k V hk; exact ⟨fun b _ => rfl, fun h j a b => by omega⟩
  | succ m ih =>
    intro k V hk
    obtain ⟨h1, h2⟩ := ih (k + 1) (xHe V (12 + 4 * k) am 0) (by omega)
    refine ⟨fun b hb => ?_, fun h j a b c => ?_⟩
    · rw [xRv, h1 b (fun h x y => hb h (by omega) y), xHe_o (hb k (Nat.le_refl k) (by omega))]
    · rw [xRv]
      by_cases e : h = k
      · subst e; rw [h1 _ (fun h' x y => by omega), xHe_s c]
      · rw [h2 h j (by omega) b c, xHe_o (by omega)]
theorem xRn_eq {am : Int} {B : Nat → Int} : ∀ m k V n, k + m = 6 → (∀ h j, k ≤ h → h < 6 → j < 7 → max 0 (V (12 + 4 * h) j - am) = B (7 * h + j)) → xRn am m k V n = xMzn B m k n := by
  intro m
  induction m with
  | zero => intro k V n _ _; rfl
  | succ m ih =>
    intro k V n hk e
    have lm := (lame_eq (V := xHe V (12 + 4 * k) am 0) (B := B) (s := 12 + 4 * k) (h := k) (fun j hj => by rw [xHe_s hj]; exact e k j (Nat.le_refl k) (by omega) hj) 7 0 rfl).1
    rw [xRn, xMzn, ih (k + 1) _ _ (by omega) (fun h j a b c => by rw [xHe_o (by omega)]; exact e h j (by omega) b c)]
    congr 2
    by_cases c3 : xMl B k 7 0 0 = 0
    · rw [if_pos c3, lm.mp c3]; rfl
    · have := fun q => c3 (lm.mpr q)
      rw [if_neg c3, eq_true_of_ne_false this]; rfl
section SX9d
variable {sc : xS} {i : Nat} {T : Nat → Nat × Nat} {z : Nat × Nat} {V : Nat → Nat → Int} {J : Nat → Nat → Int64} {R : Nat → Nat → Option Nat}
theorem c_rest {dy : Int} (hI : iInv i T z V J R) (hi : i ≤ 512) (hd : (-2147483648 ≤ dy ∧ dy ≤ 2147483647)) : iCs sc i 74 150 [xw dy] kR T z V J R := by
  obtain ⟨⟨hT, hR, hH, hS, hE, hM, h81⟩, hz, hH9, hP9, hO⟩ := id hI
  obtain ⟨a1, a2, a3, a4, a5, ⟨b1, b2⟩, a7⟩ := id hO
  have cls := s_rest (sc := sc) (d := 1) (z := z) (V := V) (J := J) hT hH (fun h j hh hj => by
    have e := (a1 h j hh hj).2
    have b := b1 (7 * h + j) (by omega)
    omega) hd
  by_cases c : 1 ≤ dy ∧ dy ≤ 100
  · rw [if_pos c] at cls
    obtain ⟨v1, v2⟩ := xRv_at (am := dy * 10) 6 0 V rfl
    have vo : ∀ b, ¬ (12 ≤ b ∧ b ≤ 32) → xRv (dy * 10) 6 0 V b = V b := fun b hb => v1 b (fun h x y => by omega)
    have hS1 : xMs2 (xRv (dy * 10) 6 0 V) := by
      have := iHor_s2 hO
      unfold xMs2 at this ⊢
      rw [vo 77 (by decide), vo 78 (by decide), vo 79 (by decide), vo 80 (by decide)]; exact this
    have mod := m_rest (sc := sc) (d := 7) (z := z) (T := T) (R := R) (V := xRv (dy * 10) 6 0 V) (J := xup2 J 81 0 (jI (xRn (dy * 10) 6 0 V 0))) hM hS1 hd
    rw [if_pos c, Int.mul_comm 10 dy] at mod
    obtain ⟨m1, m2⟩ := xMz_at (am := dy * 10) 42 0 (xup2 (xRv (dy * 10) 6 0 V) 56 28 0) rfl
    have m3 : ∀ k, k < 42 → xMz (dy * 10) 42 0 (xup2 (xRv (dy * 10) 6 0 V) 56 28 0) 77 k = max 0 (V 77 k - dy * 10) := by
      intro k hk
      rw [m2 k, if_pos ⟨Nat.zero_le k, hk⟩, xup2_o (by decide), vo 77 (by decide)]
      by_cases c4 : V 77 k ≤ dy * 10
      · rw [if_pos c4]; omega
      · rw [if_neg c4]; omega
    have er : xRn (dy * 10) 6 0 V 0 = xMzn (xMz (dy * 10) 42 0 (xup2 (xRv (dy * 10) 6 0 V) 56 28 0) 77) 6 0 0 := xRn_eq 6 0 V 0 rfl (fun h j x y zz => by rw [m3 (7 * h + j) (by omega), (a1 h j y zz).2])
    rw [← er] at mod
    have ro : ∀ b, ¬ (12 ≤ b ∧ b ≤ 32) → ¬ b = 56 → ¬ b = 77 → xMz (dy * 10) 42 0 (xup2 (xRv (dy * 10) 6 0 V) 56 28 0) b = V b := fun b x y w => by rw [m1 b w, xup2_o y, vo b x]
    have r56 : ∀ j, ¬ j = 28 → xMz (dy * 10) 42 0 (xup2 (xRv (dy * 10) 6 0 V) 56 28 0) 56 j = V 56 j := fun j hj => by rw [m1 56 (by decide), xup2_j hj, vo 56 (by decide)]
    have rc : ∀ b, b < 56 → (∀ h, h < 6 → ¬ b = 12 + 4 * h) → xMz (dy * 10) 42 0 (xup2 (xRv (dy * 10) 6 0 V) 56 28 0) b = V b := fun b x y => by rw [m1 b (by omega), xup2_o (by omega), v1 b (fun h _ q => y h q)]
    refine Or.inl ⟨_, _, _, _, _, _, _, _, (by intro h; exact absurd h (by decide)), cls, h81, hM.1, mod, jc_in.1, ?_, ?_⟩
    · rw [m1 56 (by decide), xup2_i]
    · refine iInv_h hI ⟨by omega, by omega⟩ (fun b hb => ro b (by omega) (by omega) (by omega)) (fun j _ => by rw [ro 0 (by decide) (by decide) (by decide)]) (fun j _ j2 _ => r56 j j2) jc_in.2 ⟨fun h k hh hk => ?_, fun s k hs hk => ?_, ?_, fun h k w hh hk hw => ?_, ?_, ⟨fun k hk => ?_, ?_⟩, ?_⟩
      · rw [rc (11 + 4 * h) (by omega) (fun h' _ => by omega), ro 74 (by decide) (by decide) (by decide), m1 (12 + 4 * h) (by omega), xup2_o (by omega), v2 h k (by omega) hh hk, m3 (7 * h + k) (by omega), ← (a1 h k hh hk).2]
        exact ⟨(a1 h k hh hk).1, rfl⟩
      · rw [ro (36 + 3 * s) (by omega) (by omega) (by omega), ro (37 + 3 * s) (by omega) (by omega) (by omega), ro 75 (by decide) (by decide) (by decide), ro 76 (by decide) (by decide) (by decide)]; exact a2 s k hs hk
      · unfold xMh; rw [ro 74 (by decide) (by decide) (by decide), ro 75 (by decide) (by decide) (by decide), ro 76 (by decide) (by decide) (by decide)]; exact a3
      · rw [rc (13 + 4 * h) (by omega) (fun h' _ => by omega), ro 78 (by decide) (by decide) (by decide), ro 79 (by decide) (by decide) (by decide), ro 80 (by decide) (by decide) (by decide)]; exact a4 h k w hh hk hw
      · rw [ro 0 (by decide) (by decide) (by decide), r56 24 (by decide)]; exact a5
      · rw [m3 k hk, r56 24 (by decide)]
        have := b1 k hk
        omega
      · rw [ro 78 (by decide) (by decide) (by decide), ro 79 (by decide) (by decide) (by decide), ro 80 (by decide) (by decide) (by decide), r56 24 (by decide)]; exact b2
      · rw [ro 55 (by decide) (by decide) (by decide)]; exact a7
  · rw [if_neg c] at cls
    (refine iCs_x (k := 0) hI hi iScr_r cls (fun T z V J R hI2 eV eM eJ => ?_) (by decide) (by decide); obtain ⟨⟨_, _, _, _, _, hM, _⟩, hz, hH9, hP9, hO⟩ := id hI2; have mod := m_rest (sc := sc) (d := 7) (T := T) (z := z) (V := V) (J := J) (R := R) hM (iHor_s2 hO) hd; rw [if_neg c] at mod; exact ⟨_, mod, by rw [xup2_i]; rfl, iScr_f⟩)
end SX9d
/-! ride -/
def xAm (its hr : Int) : Int := if its ≤ 40 then 0 else (its - 40) * hr
theorem xRa_pt {V : Nat → Nat → Int} {so bl k : Nat} {s r g am : Int} {p0 p1 p2 : Nat} (hne : ¬ so = bl) (h0 : (((k : Int) * 3 + 0) * 6 + s).toNat = p0) (h1 : (((k : Int) * 3 + 1) * 6 + r).toNat = p1) (h2 : (((k : Int) * 3 + 2) * 6 + g).toNat = p2) (d1 : ¬ p0 = p1) (d2 : ¬ p0 = p2) (d3 : ¬ p1 = p2) {b j : Nat} :
    xRa V so bl k s r g am b j = V b j + (if b = so ∧ j = k then am else 0) + (if b = bl ∧ (j = p0 ∨ j = p1 ∨ j = p2) then am else 0) := by
  unfold xRa
  rw [h0, h1, h2]
  unfold xBl
  by_cases e : b = bl
  · subst e
    rw [if_neg (fun q => hne q.1.symm), xup2_o (V := V) (fun q => hne q.symm)]
    by_cases j2 : j = p2
    · subst j2; rw [if_pos (by omega), xup2_i, xup2_j (by omega), xup2_j (by omega), xup2_o (fun q => hne q.symm)]; omega
    · rw [xup2_j j2]
      by_cases j1 : j = p1
      · subst j1; rw [if_pos (by omega), xup2_i, xup2_j (by omega), xup2_o (fun q => hne q.symm)]; omega
      · rw [xup2_j j1]
        by_cases j0 : j = p0
        · subst j0; rw [if_pos (by omega), xup2_i]; omega
        · rw [xup2_j j0, if_neg (by omega), xup2_o (fun q => hne q.symm)]; omega
  · rw [xup2_o e, xup2_o e, xup2_o e, if_neg (show ¬ (b = bl ∧ (j = p0 ∨ j = p1 ∨ j = p2)) from fun q => e q.1)]
    by_cases e2 : b = so
    · subst e2
      by_cases j0 : j = k
      · subst j0; rw [if_pos ⟨rfl, rfl⟩, xup2_i]; omega
      · rw [if_neg (fun q => j0 q.2), xup2_j j0]; omega
    · rw [if_neg (fun q => e2 q.1), xup2_o e2]; omega
theorem xRs_pt {V : Nat → Nat → Int} {so bl fl k : Nat} {s r g hr dp : Int} {p0 p1 p2 : Nat} (hne : ¬ so = bl) (hn2 : ¬ fl = so) (hn3 : ¬ fl = bl) (h0 : (((k : Int) * 3 + 0) * 6 + s).toNat = p0) (h1 : (((k : Int) * 3 + 1) * 6 + r).toNat = p1) (h2 : (((k : Int) * 3 + 2) * 6 + g).toNat = p2) (d1 : ¬ p0 = p1) (d2 : ¬ p0 = p2) (d3 : ¬ p1 = p2) {b j : Nat} :
    xRs so bl fl s r g hr dp k V b j = V b j + (if b = so ∧ j = k then xAm (4 * max 0 (dp - V 54 k)) hr else 0) + (if b = bl ∧ (j = p0 ∨ j = p1 ∨ j = p2) then xAm (4 * max 0 (dp - V 54 k)) hr else 0) - (if b = fl ∧ j = k then (if 4 * max 0 (dp - V 54 k) ≤ 20 then 0 else if V fl k ≤ 0 then 0 else 1) else 0) := by
  have e1 : ∀ b j, xRs1 so bl s r g hr dp k V b j = V b j + (if b = so ∧ j = k then xAm (4 * max 0 (dp - V 54 k)) hr else 0) + (if b = bl ∧ (j = p0 ∨ j = p1 ∨ j = p2) then xAm (4 * max 0 (dp - V 54 k)) hr else 0) := by
    intro b j
    unfold xRs1 xAm
    by_cases c : 4 * max 0 (dp - V 54 k) ≤ 40
    · rw [if_pos c, if_pos c, ite_self, ite_self]; omega
    · rw [if_neg c, if_neg c]; exact xRa_pt hne h0 h1 h2 d1 d2 d3
  have e2 : xRs1 so bl s r g hr dp k V fl k = V fl k := by rw [xRs1_ne hn2 hn3]
  unfold xRs
  rw [e2]
  by_cases c : 4 * max 0 (dp - V 54 k) ≤ 20
  · rw [if_pos c, if_pos c, ite_self, e1]; omega
  · rw [if_neg c, if_neg c]
    by_cases c2 : V fl k ≤ 0
    · rw [if_pos c2, if_pos c2, ite_self, e1]; omega
    · rw [if_neg c2, if_neg c2]
      by_cases e : b = fl ∧ j = k
      · rw [if_pos e, e.1, e.2, xup2_i, if_neg (fun q => hn2 q.1), if_neg (fun q => hn3 q.1)]; omega
      · rw [if_neg e]
        by_cases eb : b = fl
        · subst eb; rw [xup2_j (fun q => e ⟨rfl, q⟩), e1]; omega
        · rw [xup2_o eb, e1]; omega
theorem xMR1_pt {B : Nat → Nat → Int} {h s r g hr dp k : Int} {q7 q8 q9 q0 q6 : Nat} (h7 : (7 * h + k).toNat = q7) (h8 : (6 * (7 * h + k) + s).toNat = q8) (h9 : (4 * (7 * h + k) + r).toNat = q9) (h0 : (4 * (7 * h + k) + g).toNat = q0) (h6 : (7 * s + k).toNat = q6) :
    (∀ j, xMR1 B h s r g hr dp k 77 j = B 77 j + if j = q7 then xAm (xIts B h s dp k) hr else 0) ∧ (∀ j, xMR1 B h s r g hr dp k 78 j = B 78 j + if j = q8 then xAm (xIts B h s dp k) hr else 0) ∧ (∀ j, xMR1 B h s r g hr dp k 79 j = B 79 j + if j = q9 then xAm (xIts B h s dp k) hr else 0) ∧ (∀ j, xMR1 B h s r g hr dp k 80 j = B 80 j + if j = q0 then xAm (xIts B h s dp k) hr else 0) ∧
    (∀ j, xMR1 B h s r g hr dp k 76 j = B 76 j - if j = q6 then (if xIts B h s dp k ≤ 20 then 0 else if B 76 q6 ≤ 0 then 0 else 1) else 0) ∧ ∀ b, ¬ (76 ≤ b ∧ b ≤ 80) → xMR1 B h s r g hr dp k b = B b := by
  unfold xMR1
  rw [h7, h8, h9, h0, h6]
  unfold xAm
  refine ⟨fun j => ?_, fun j => ?_, fun j => ?_, fun j => ?_, fun j => ?_, fun b hb => ?_⟩
  · rw [xup2_o (by decide), xup2_o (by decide), xup2_o (by decide), xup2_o (by decide)]
    by_cases e : j = q7
    · subst e; rw [xup2_i, if_pos rfl]
    · rw [xup2_j e, if_neg e]; omega
  · rw [xup2_o (by decide), xup2_o (by decide), xup2_o (by decide)]
    by_cases e : j = q8
    · subst e; rw [xup2_i, if_pos rfl]
    · rw [xup2_j e, if_neg e, xup2_o (by decide)]; omega
  · rw [xup2_o (by decide), xup2_o (by decide)]
    by_cases e : j = q9
    · subst e; rw [xup2_i, if_pos rfl]
    · rw [xup2_j e, if_neg e, xup2_o (by decide), xup2_o (by decide)]; omega
  · rw [xup2_o (by decide)]
    by_cases e : j = q0
    · subst e; rw [xup2_i, if_pos rfl]
    · rw [xup2_j e, if_neg e, xup2_o (by decide), xup2_o (by decide), xup2_o (by decide)]; omega
  · by_cases e : j = q6
    · subst e; rw [xup2_i, if_pos rfl]
    · rw [xup2_j e, if_neg e, xup2_o (by decide), xup2_o (by decide), xup2_o (by decide), xup2_o (by decide)]; omega
  · rw [xup2_o (by omega), xup2_o (by omega), xup2_o (by omega), xup2_o (by omega), xup2_o (by omega)]
