/-! what Saddletree answers of a saddle on a horse -/
/-- heights and flocks within their bounds -/
def xBd (V : Nat → Nat → Int) : Prop := (∀ h k, h < 6 → k < 7 → -50 ≤ V (11 + 4 * h) k ∧ V (11 + 4 * h) k ≤ 50) ∧ (∀ s k, s < 6 → k < 7 → (-50 ≤ V (36 + 3 * s) k ∧ V (36 + 3 * s) k ≤ 50) ∧ 0 ≤ V (37 + 3 * s) k ∧ V (37 + 3 * s) k ≤ 20)
theorem xMg_at {V : Nat → Nat → Int} {h s : Int} {k : Nat} (hk : k < 7) : xMg V h s 54 k = V (36 + 3 * s.toNat) k - V (37 + 3 * s.toNat) k - V (11 + 4 * h.toNat) k := by
  unfold xMg xMe
  rw [if_pos ⟨rfl, by omega, hk⟩]
theorem xMg_ne {V : Nat → Nat → Int} {h s : Int} {b : Nat} (hb : ¬ b = 54) : xMg V h s b = V b := by
  funext j
  unfold xMg xMe
  rw [if_neg (fun q => hb q.1)]
theorem xMg_in {V : Nat → Nat → Int} {h s : Int} (hB : xBd V) (ok : (0 ≤ h ∧ h < 6) ∧ (0 ≤ s ∧ s < 6)) : ∀ k, k < 7 → -1000 ≤ xMg V h s 54 k ∧ xMg V h s 54 k ≤ 1000 := by
  intro k hk
  have h1 := hB.1 h.toNat k (by omega) hk
  have h2 := hB.2 s.toNat k (by omega) hk
  rw [xMg_at hk]
  omega
section SX6c
variable {sc : xS} {d : Nat} {T : Nat → Nat × Nat} {z : Nat × Nat} {V : Nat → Nat → Int} {J : Nat → Nat → Int64} {R : Nat → Nat → Option Nat}
theorem s_sinks {h s w : Int} (hT : xTr T R) (hE : xSe T R 53 54 55) (hH : xHs T R) (hS : xSs T R) (hB : xBd V) (ok : (0 ≤ h ∧ h < 6) ∧ (0 ≤ s ∧ s < 6)) (hw : 1 ≤ w ∧ w ≤ 3000) :
    ∃ r, -5000 ≤ r ∧ r ≤ 5000 ∧ xDe (xMg V h s 54) w r ∧ X sc (d + 9) 69 [.ref 0, xw h, xw s, xw w] (T, z, xv V, J, R) = some (.inl (some (xw r)), (T, z, xv (xMg V h s), J, R)) := by
  have r7 : R 0 7 = some 53 := hT.2.2.2.2.2.2.1
  have e : (R 0 7).getD 0 = 53 := by rw [r7]; rfl
  obtain ⟨r, r1, r2, r3, r4⟩ := s_depthBySearch (sc := sc) (d := d + 3) (z := z) (V := xMg V h s) (J := J) (w := w) hE (xMg_in hB ok) (by omega)
  refine ⟨r, r1, r2, r3, ?_⟩
  rw [eX6_sinks, bX6_sinks_0 hT.1, s_measureGaps hT hE hH hS (by omega) (by omega) (by omega), if_pos ok, if_pos hw, xret_n, bX6_sinks_7 hT.1 (rgd r7) (by rw [e]; exact hE.1), e, r4, xret_v, bX6_sinks_15]
theorem s_sinks_x {h s w : Int} (hT : xTr T R) (hE : xSe T R 53 54 55) (hH : xHs T R) (hS : xSs T R) (hh : -2147483648 ≤ h ∧ h ≤ 2147483647) (hs : -2147483648 ≤ s ∧ s ≤ 2147483647) (hw : -2147483648 ≤ w ∧ w ≤ 2147483647) (no : ¬ (((0 ≤ h ∧ h < 6) ∧ (0 ≤ s ∧ s < 6)) ∧ (1 ≤ w ∧ w ≤ 3000))) :
    X sc (d + 9) 69 [.ref 0, xw h, xw s, xw w] (T, z, xv V, J, R) = if (0 ≤ h ∧ h < 6) ∧ (0 ≤ s ∧ s < 6) then xTw 8 T z V J R else xTw 10 T z V J R := by
  rw [eX6_sinks, bX6_sinks_0 hT.1, s_measureGaps hT hE hH hS hh hs hw]
  by_cases c : (0 ≤ h ∧ h < 6) ∧ (0 ≤ s ∧ s < 6)
  · rw [if_pos c, if_pos c, if_neg (fun q => no ⟨c, q⟩), xret_w w_69]
  · rw [if_neg c, if_neg c, xret_w w_69]
theorem s_sinksAnew {h s w : Int} (hT : xTr T R) (hE : xSe T R 53 54 55) (hH : xHs T R) (hS : xSs T R) (hB : xBd V) (h55 : ∀ k, k < 7 → -1000 ≤ V 55 k ∧ V 55 k ≤ 1000) (ok : (0 ≤ h ∧ h < 6) ∧ (0 ≤ s ∧ s < 6)) (hw : 1 ≤ w ∧ w ≤ 3000) :
    ∃ r S, xDe (xMg V h s 54) w r ∧ (∀ k, k < 7 → -1000 ≤ S k ∧ S k ≤ 1000) ∧ X sc (d + 9) 70 [.ref 0, xw h, xw s, xw w] (T, z, xv V, J, R) = some (.inl (some (xw r)), (T, z, xv (va_up (xMg V h s) 55 S), J, R)) := by
  have r7 : R 0 7 = some 53 := hT.2.2.2.2.2.2.1
  have e : (R 0 7).getD 0 = 53 := by rw [r7]; rfl
  have hg := xMg_in hB ok
  have h55' : ∀ k, k < 7 → -1000 ≤ xMg V h s 55 k ∧ xMg V h s 55 k ≤ 1000 := by rw [xMg_ne (by decide)]; exact h55
  have rg : ∀ (m k : Nat) (S : Nat → Int), k + m = 7 → (∀ k, k < 7 → -1000 ≤ S k ∧ S k ≤ 1000) → ∀ k', k' < 7 → -1000 ≤ xSo (xMg V h s 54) m k S k' ∧ xSo (xMg V h s 54) m k S k' ≤ 1000 := by
    intro m
    induction m with
    | zero => intro k S _ h; exact h
    | succ m ih => intro k S hk h; rw [xSo]; exact ih (k + 1) _ (by omega) (xIn_rg (hg k (by omega)) k S (by omega) h)
  have hor := (xSo_all (G := xMg V h s 54) (f := fun x => x) 7 0 (xMg V h s 55) (fun i j _ hj => by omega) rfl).1
  rw [Nat.zero_add] at hor
  have hd := xDg_ok hw.1 hor
  refine ⟨xDg (xSo (xMg V h s 54) 7 0 (xMg V h s 55)) w 7 1 0 0, xSo (xMg V h s 54) 7 0 (xMg V h s 55), ?_, rg 7 0 _ rfl h55', ?_⟩
  · unfold xDe at hd ⊢
    rw [xTo_so, xTo_so] at hd
    exact hd
  · rw [eX6_sinksAnew, bX6_sinksAnew_0 hT.1, s_measureGaps hT hE hH hS (by omega) (by omega) (by omega), if_pos ok, if_pos hw, xret_n, bX6_sinksAnew_7 hT.1 (rgd r7) (by rw [e]; exact hE.1), e, s_depthByGaps hE (by decide) hg h55' (by omega), xret_v, bX6_sinksAnew_15]
theorem s_sinksAnew_x {h s w : Int} (hT : xTr T R) (hE : xSe T R 53 54 55) (hH : xHs T R) (hS : xSs T R) (hh : -2147483648 ≤ h ∧ h ≤ 2147483647) (hs : -2147483648 ≤ s ∧ s ≤ 2147483647) (hw : -2147483648 ≤ w ∧ w ≤ 2147483647) (no : ¬ (((0 ≤ h ∧ h < 6) ∧ (0 ≤ s ∧ s < 6)) ∧ (1 ≤ w ∧ w ≤ 3000))) :
    X sc (d + 9) 70 [.ref 0, xw h, xw s, xw w] (T, z, xv V, J, R) = if (0 ≤ h ∧ h < 6) ∧ (0 ≤ s ∧ s < 6) then xTw 8 T z V J R else xTw 10 T z V J R := by
  rw [eX6_sinksAnew, bX6_sinksAnew_0 hT.1, s_measureGaps hT hE hH hS hh hs hw]
  by_cases c : (0 ≤ h ∧ h < 6) ∧ (0 ≤ s ∧ s < 6)
  · rw [if_pos c, if_pos c, if_neg (fun q => no ⟨c, q⟩), xret_w w_70]
  · rw [if_neg c, if_neg c, xret_w w_70]
theorem s_bridges {h s w : Int} (hT : xTr T R) (hE : xSe T R 53 54 55) (hH : xHs T R) (hS : xSs T R) (hB : xBd V) (ok : (0 ≤ h ∧ h < 6) ∧ (0 ≤ s ∧ s < 6)) (hw : 1 ≤ w ∧ w ≤ 3000) :
    ∃ r, -5000 ≤ r ∧ r ≤ 5000 ∧ xDe (xMg V h s 54) w r ∧ X sc (d + 9) 72 [.ref 0, xw h, xw s, xw w] (T, z, xv V, J, R) = some (.inl (some (xw (xBr (xMg V h s 54) r 5 1 0))), (T, z, xv (xMg V h s), J, R)) := by
  have r7 : R 0 7 = some 53 := hT.2.2.2.2.2.2.1
  have e : (R 0 7).getD 0 = 53 := by rw [r7]; rfl
  obtain ⟨r, r1, r2, r3, r4⟩ := s_depthBySearch (sc := sc) (d := d + 3) (z := z) (V := xMg V h s) (J := J) (w := w) hE (xMg_in hB ok) (by omega)
  refine ⟨r, r1, r2, r3, ?_⟩
  rw [eX6_bridges, bX6_bridges_0 hT.1, s_measureGaps hT hE hH hS (by omega) (by omega) (by omega), if_pos ok, if_pos hw, xret_n, bX6_bridges_7 hT.1 (rgd r7) (by rw [e]; exact hE.1), e, r4, xret_v, bX6_bridges_19 hE.1, s_bridgeBits hE (xMg_in hB ok) (by omega), xret_v, bX6_bridges_22]
theorem s_bridges_x {h s w : Int} (hT : xTr T R) (hE : xSe T R 53 54 55) (hH : xHs T R) (hS : xSs T R) (hh : -2147483648 ≤ h ∧ h ≤ 2147483647) (hs : -2147483648 ≤ s ∧ s ≤ 2147483647) (hw : -2147483648 ≤ w ∧ w ≤ 2147483647) (no : ¬ (((0 ≤ h ∧ h < 6) ∧ (0 ≤ s ∧ s < 6)) ∧ (1 ≤ w ∧ w ≤ 3000))) :
    X sc (d + 9) 72 [.ref 0, xw h, xw s, xw w] (T, z, xv V, J, R) = if (0 ≤ h ∧ h < 6) ∧ (0 ≤ s ∧ s < 6) then xTw 8 T z V J R else xTw 10 T z V J R := by
  rw [eX6_bridges, bX6_bridges_0 hT.1, s_measureGaps hT hE hH hS hh hs hw]
  by_cases c : (0 ≤ h ∧ h < 6) ∧ (0 ≤ s ∧ s < 6)
  · rw [if_pos c, if_pos c, if_neg (fun q => no ⟨c, q⟩), xret_w w_72]
  · rw [if_neg c, if_neg c, xret_w w_72]
theorem s_pressure {h s w k : Int} (hT : xTr T R) (hE : xSe T R 53 54 55) (hH : xHs T R) (hS : xSs T R) (hB : xBd V) (ok : (0 ≤ h ∧ h < 6) ∧ (0 ≤ s ∧ s < 6)) (hw : 1 ≤ w ∧ w ≤ 3000) (hk : 0 ≤ k ∧ k < 7) :
    ∃ r, -5000 ≤ r ∧ r ≤ 5000 ∧ xDe (xMg V h s 54) w r ∧ X sc (d + 9) 71 [.ref 0, xw h, xw s, xw w, xw k] (T, z, xv V, J, R) = some (.inl (some (xw (4 * max 0 (r - xMg V h s 54 k.toNat)))), (T, z, xv (xMg V h s), J, R)) := by
  have r7 : R 0 7 = some 53 := hT.2.2.2.2.2.2.1
  have e : (R 0 7).getD 0 = 53 := by rw [r7]; rfl
  obtain ⟨r, r1, r2, r3, r4⟩ := s_depthBySearch (sc := sc) (d := d + 3) (z := z) (V := xMg V h s) (J := J) (w := w) hE (xMg_in hB ok) (by omega)
  refine ⟨r, r1, r2, r3, ?_⟩
  rw [eX6_pressure, bX6_pressure_0, s_checkIndex (by omega) (by decide), if_pos hk, xret_n, bX6_pressure_7 hT.1, s_measureGaps hT hE hH hS (by omega) (by omega) (by omega), if_pos ok, if_pos hw, xret_n, bX6_pressure_14 hT.1 (rgd r7) (by rw [e]; exact hE.1), e, r4, xret_v, bX6_pressure_28 hE.1, s_pressureAt hE hk (xMg_in hB ok k.toNat (by omega)) (by omega), xret_v, bX6_pressure_31]
theorem s_pressure_x {h s w k : Int} (hT : xTr T R) (hE : xSe T R 53 54 55) (hH : xHs T R) (hS : xSs T R) (hh : -2147483648 ≤ h ∧ h ≤ 2147483647) (hs : -2147483648 ≤ s ∧ s ≤ 2147483647) (hw : -2147483648 ≤ w ∧ w ≤ 2147483647) (hk : -2147483648 ≤ k ∧ k ≤ 2147483647) (no : ¬ (((0 ≤ k ∧ k < 7) ∧ (0 ≤ h ∧ h < 6) ∧ (0 ≤ s ∧ s < 6)) ∧ (1 ≤ w ∧ w ≤ 3000))) :
    X sc (d + 9) 71 [.ref 0, xw h, xw s, xw w, xw k] (T, z, xv V, J, R) = if (0 ≤ k ∧ k < 7) ∧ (0 ≤ h ∧ h < 6) ∧ (0 ≤ s ∧ s < 6) then xTw 8 T z V J R else xTw 10 T z V J R := by
  rw [eX6_pressure, bX6_pressure_0, s_checkIndex hk (by decide)]
  by_cases c0 : 0 ≤ k ∧ k < 7
  · rw [if_pos c0, xret_n, bX6_pressure_7 hT.1, s_measureGaps hT hE hH hS hh hs hw]
    by_cases c : (0 ≤ h ∧ h < 6) ∧ (0 ≤ s ∧ s < 6)
    · rw [if_pos c, if_neg (fun q => no ⟨⟨c0, c⟩, q⟩), xret_w w_71, if_pos (And.intro c0 c)]
    · rw [if_neg c, xret_w w_71, if_neg (fun q => c q.2)]
  · rw [if_neg c0, xret_w w_71, if_neg (fun q => c0 q.1)]
theorem s_sore {h k v : Int} (hT : xTr T R) (hH : xHs T R) (hV : ∀ j, j < 7 → -2147483648 ≤ V (12 + 4 * h.toNat) j ∧ V (12 + 4 * h.toNat) j ≤ 2147483647) (hh : -2147483648 ≤ h ∧ h ≤ 2147483647) (hk : -2147483648 ≤ k ∧ k ≤ 2147483647) (hv : -2147483648 ≤ v ∧ v ≤ 2147483647) :
    X sc (d + 8) 75 [.ref 0, xw h, xw k, xw v] (T, z, xv V, J, R) =
      if (0 ≤ h ∧ h < 6) ∧ (0 ≤ k ∧ k < 7) then (if 0 ≤ v ∧ v ≤ 2 then some (.inl (some (xw (if v = 0 then V (12 + 4 * h.toNat) k.toNat else if v = 1 then V (11 + 4 * h.toNat) k.toNat else xB (xLa V (12 + 4 * h.toNat) 7 0)))), (T, z, xv V, J, R)) else xTw 8 T z V J R) else xTw 10 T z V J R := by
  rw [eX6_sore, bX6_sore_0 hT.1, s_horse hT hH hh]
  by_cases c : 0 ≤ h ∧ h < 6
  · have hO := (hH h.toNat (by omega)).2
    obtain ⟨h1, h2, h3, h4, h5, h6, h7⟩ := hO
    have e0 : (R (10 + 4 * h.toNat) 0).getD 0 = 11 + 4 * h.toNat := by rw [h2]; rfl
    have e1 : (R (10 + 4 * h.toNat) 1).getD 0 = 12 + 4 * h.toNat := by rw [h3]; rfl
    rw [if_pos c, xret_v, bX6_sore_5, s_checkIndex hk (by decide)]
    by_cases c2 : 0 ≤ k ∧ k < 7
    · rw [if_pos c2, xret_n, bX6_sore_13, s_checkArgument hv (by decide) (by decide), if_pos (And.intro c c2)]
      by_cases c3 : 0 ≤ v ∧ v ≤ 2
      · rw [if_pos c3, if_pos c3, xret_n, bX6_sore_19 hv]
        by_cases v0 : v = 0
        · rw [if_pos v0, if_pos v0, bX6_sore_23 h1 (rgd h3) (tgd h3 h6) (igd h3 h6 (by omega)), e1]
        · rw [if_neg v0, if_neg v0, bX6_sore_31 hv]
          by_cases v1 : v = 1
          · rw [if_pos v1, if_pos v1, bX6_sore_36 h1 (rgd h2) (tgd h2 h5) (igd h2 h5 (by omega)), e0]
          · rw [if_neg v1, if_neg v1, bX6_sore_44 h1, s_isLame ⟨h1, h2, h3, h4, h5, h6, h7⟩ hV, xret_v, bX6_sore_49 (xB_in _)]
            cases xLa V (12 + 4 * h.toNat) 7 0
            · rw [if_pos (show xB false = 0 from rfl), bX6_sore_56, bX6_sore_57]; rfl
            · rw [if_neg (show ¬ xB true = 0 by decide), bX6_sore_52, bX6_sore_57]; rfl
      · rw [if_neg c3, if_neg c3, xret_w w_75]
    · rw [if_neg c2, xret_w w_75, if_neg (fun q => c2 q.2)]
  · rw [if_neg c, xret_w w_75, if_neg (fun q => c q.1)]
end SX6c
