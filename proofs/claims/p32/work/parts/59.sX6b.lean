/-! what Saddletree does with horses and saddles -/
def xHs (T : Nat → Nat × Nat) (R : Nat → Nat → Option Nat) : Prop := ∀ h, h < 6 → R 9 h = some (10 + 4 * h) ∧ xHo T R (10 + 4 * h) (11 + 4 * h) (12 + 4 * h) (13 + 4 * h)
def xSs (T : Nat → Nat × Nat) (R : Nat → Nat → Option Nat) : Prop := ∀ s, s < 6 → R 34 s = some (35 + 3 * s) ∧ xSa T R (35 + 3 * s) (36 + 3 * s) (37 + 3 * s)
theorem w_66 : xmh 66 = [] := by decide +kernel
theorem w_67 : xmh 67 = [] := by decide +kernel
theorem w_68 : xmh 68 = [] := by decide +kernel
theorem w_69 : xmh 69 = [] := by decide +kernel
theorem w_70 : xmh 70 = [] := by decide +kernel
theorem w_71 : xmh 71 = [] := by decide +kernel
theorem w_72 : xmh 72 = [] := by decide +kernel
theorem w_74 : xmh 74 = [] := by decide +kernel
theorem w_75 : xmh 75 = [] := by decide +kernel
theorem w_76 : xmh 76 = [] := by decide +kernel
theorem w_77 : xmh 77 = [] := by decide +kernel
theorem w_82 : xmh 82 = [] := by decide +kernel
section SX6b
variable {sc : xS} {d : Nat} {T : Nat → Nat × Nat} {z : Nat × Nat} {V : Nat → Nat → Int} {J : Nat → Nat → Int64} {R : Nat → Nat → Option Nat}
theorem s_horse {x : Int} (hT : xTr T R) (hH : xHs T R) (hx : -2147483648 ≤ x ∧ x ≤ 2147483647) :
    X sc (d + 7) 85 [.ref 0, xw x] (T, z, xv V, J, R) = if 0 ≤ x ∧ x < 6 then some (.inl (some (.ref (10 + 4 * x.toNat))), (T, z, xv V, J, R)) else xTw 10 T z V J R := by
  rw [s_horseAt hT hx]
  by_cases c : 0 ≤ x ∧ x < 6
  · have := (hH x.toNat (by omega)).1
    rw [if_pos c, this, if_pos ⟨c.1, c.2, rfl⟩]; rfl
  · rw [if_neg c, if_neg (fun q => c ⟨q.1, q.2.1⟩)]
theorem s_saddle {x : Int} (hT : xTr T R) (hS : xSs T R) (hx : -2147483648 ≤ x ∧ x ≤ 2147483647) :
    X sc (d + 7) 86 [.ref 0, xw x] (T, z, xv V, J, R) = if 0 ≤ x ∧ x < 6 then some (.inl (some (.ref (35 + 3 * x.toNat))), (T, z, xv V, J, R)) else xTw 10 T z V J R := by
  rw [s_saddleAt hT hx]
  by_cases c : 0 ≤ x ∧ x < 6
  · have := (hS x.toNat (by omega)).1
    rw [if_pos c, this, if_pos ⟨c.1, c.2, rfl⟩]; rfl
  · rw [if_neg c, if_neg (fun q => c ⟨q.1, q.2.1⟩)]
theorem s_back {h k v : Int} (hT : xTr T R) (hH : xHs T R) (hh : -2147483648 ≤ h ∧ h ≤ 2147483647) (hk : -2147483648 ≤ k ∧ k ≤ 2147483647) (hv : -2147483648 ≤ v ∧ v ≤ 2147483647) :
    X sc (d + 8) 66 [.ref 0, xw h, xw k, xw v] (T, z, xv V, J, R) =
      if (0 ≤ h ∧ h < 6) ∧ (0 ≤ k ∧ k < 7) then (if -50 ≤ v ∧ v ≤ 50 then some (.inl (some (xw (V (11 + 4 * h.toNat) k.toNat))), (T, z, xv (xup2 V (11 + 4 * h.toNat) k.toNat v), J, R)) else xTw 8 T z V J R) else xTw 10 T z V J R := by
  rw [eX6_back, bX6_back_0 hT.1, s_horse hT hH hh]
  by_cases c : 0 ≤ h ∧ h < 6
  · obtain ⟨h0, h1, h2, h3, h4, h5, h6, h7⟩ := hH h.toNat (by omega)
    have e : (R (10 + 4 * h.toNat) 0).getD 0 = 11 + 4 * h.toNat := by rw [h2]; rfl
    rw [if_pos c, xret_v, bX6_back_5, s_checkIndex hk (by decide)]
    by_cases c2 : 0 ≤ k ∧ k < 7
    · rw [if_pos c2, xret_n, bX6_back_13, s_checkArgument hv (by decide) (by decide), if_pos (And.intro c c2)]
      by_cases c3 : -50 ≤ v ∧ v ≤ 50
      · rw [if_pos c3, if_pos c3, xret_n, bX6_back_21 h1 (rgd h2) (tgd h2 h5) (igd h2 h5 (by omega)), e]
      · rw [if_neg c3, if_neg c3, xret_w w_66]
    · rw [if_neg c2, xret_w w_66, if_neg (fun q => c2 q.2)]
  · rw [if_neg c, xret_w w_66, if_neg (fun q => c q.1)]
theorem s_tree {h k v : Int} (hT : xTr T R) (hH : xSs T R) (hh : -2147483648 ≤ h ∧ h ≤ 2147483647) (hk : -2147483648 ≤ k ∧ k ≤ 2147483647) (hv : -2147483648 ≤ v ∧ v ≤ 2147483647) :
    X sc (d + 8) 67 [.ref 0, xw h, xw k, xw v] (T, z, xv V, J, R) =
      if (0 ≤ h ∧ h < 6) ∧ (0 ≤ k ∧ k < 7) then (if -50 ≤ v ∧ v ≤ 50 then some (.inl (some (xw (V (36 + 3 * h.toNat) k.toNat))), (T, z, xv (xup2 V (36 + 3 * h.toNat) k.toNat v), J, R)) else xTw 8 T z V J R) else xTw 10 T z V J R := by
  rw [eX6_tree, bX6_tree_0 hT.1, s_saddle hT hH hh]
  by_cases c : 0 ≤ h ∧ h < 6
  · obtain ⟨h0, h1, h2, h3, h4, h5⟩ := hH h.toNat (by omega)
    have e : (R (35 + 3 * h.toNat) 0).getD 0 = 36 + 3 * h.toNat := by rw [h2]; rfl
    rw [if_pos c, xret_v, bX6_tree_5, s_checkIndex hk (by decide)]
    by_cases c2 : 0 ≤ k ∧ k < 7
    · rw [if_pos c2, xret_n, bX6_tree_13, s_checkArgument hv (by decide) (by decide), if_pos (And.intro c c2)]
      by_cases c3 : -50 ≤ v ∧ v ≤ 50
      · rw [if_pos c3, if_pos c3, xret_n, bX6_tree_21 h1 (rgd h2) (tgd h2 h4) (igd h2 h4 (by omega)), e]
      · rw [if_neg c3, if_neg c3, xret_w w_67]
    · rw [if_neg c2, xret_w w_67, if_neg (fun q => c2 q.2)]
  · rw [if_neg c, xret_w w_67, if_neg (fun q => c q.1)]
theorem s_flock {h k v : Int} (hT : xTr T R) (hH : xSs T R) (hh : -2147483648 ≤ h ∧ h ≤ 2147483647) (hk : -2147483648 ≤ k ∧ k ≤ 2147483647) (hv : -2147483648 ≤ v ∧ v ≤ 2147483647) :
    X sc (d + 8) 68 [.ref 0, xw h, xw k, xw v] (T, z, xv V, J, R) =
      if (0 ≤ h ∧ h < 6) ∧ (0 ≤ k ∧ k < 7) then (if 0 ≤ v ∧ v ≤ 20 then some (.inl (some (xw (V (37 + 3 * h.toNat) k.toNat))), (T, z, xv (xup2 V (37 + 3 * h.toNat) k.toNat v), J, R)) else xTw 8 T z V J R) else xTw 10 T z V J R := by
  rw [eX6_flock, bX6_flock_0 hT.1, s_saddle hT hH hh]
  by_cases c : 0 ≤ h ∧ h < 6
  · obtain ⟨h0, h1, h2, h3, h4, h5⟩ := hH h.toNat (by omega)
    have e : (R (35 + 3 * h.toNat) 1).getD 0 = 37 + 3 * h.toNat := by rw [h3]; rfl
    rw [if_pos c, xret_v, bX6_flock_5, s_checkIndex hk (by decide)]
    by_cases c2 : 0 ≤ k ∧ k < 7
    · rw [if_pos c2, xret_n, bX6_flock_13, s_checkArgument hv (by decide) (by decide), if_pos (And.intro c c2)]
      by_cases c3 : 0 ≤ v ∧ v ≤ 20
      · rw [if_pos c3, if_pos c3, xret_n, bX6_flock_20 h1 (rgd h3) (tgd h3 h5) (igd h3 h5 (by omega)), e]
      · rw [if_neg c3, if_neg c3, xret_w w_68]
    · rw [if_neg c2, xret_w w_68, if_neg (fun q => c2 q.2)]
  · rw [if_neg c, xret_w w_68, if_neg (fun q => c q.1)]
/-- the gaps of a saddle on a horse stand measured -/
def xMg (V : Nat → Nat → Int) (h s : Int) : Nat → Nat → Int := xMe V 54 (36 + 3 * s.toNat) (37 + 3 * s.toNat) (11 + 4 * h.toNat) 0
theorem s_measureGaps {h s w : Int} (hT : xTr T R) (hE : xSe T R 53 54 55) (hH : xHs T R) (hS : xSs T R) (hh : -2147483648 ≤ h ∧ h ≤ 2147483647) (hs : -2147483648 ≤ s ∧ s ≤ 2147483647) (hw : -2147483648 ≤ w ∧ w ≤ 2147483647) :
    X sc (d + 8) 82 [.ref 0, xw h, xw s, xw w] (T, z, xv V, J, R) =
      if (0 ≤ h ∧ h < 6) ∧ (0 ≤ s ∧ s < 6) then (if 1 ≤ w ∧ w ≤ 3000 then some (.inl none, (T, z, xv (xMg V h s), J, R)) else xTw 8 T z V J R) else xTw 10 T z V J R := by
  have r7 : R 0 7 = some 53 := hT.2.2.2.2.2.2.1
  have e : (R 0 7).getD 0 = 53 := by rw [r7]; rfl
  rw [eX6_measureGaps, bX6_measureGaps_0 hT.1, s_horse hT hH hh]
  by_cases c : 0 ≤ h ∧ h < 6
  · rw [if_pos c, xret_v, bX6_measureGaps_5 hT.1, s_saddle hT hS hs]
    by_cases c2 : 0 ≤ s ∧ s < 6
    · rw [if_pos c2, xret_v, bX6_measureGaps_12, s_checkArgument hw (by decide) (by decide), if_pos (And.intro c c2)]
      by_cases c3 : 1 ≤ w ∧ w ≤ 3000
      · rw [if_pos c3, if_pos c3, xret_n, bX6_measureGaps_22 hT.1 (rgd r7) (by rw [e]; exact hE.1), e, s_measure hE (hS s.toNat (by omega)).2 (hH h.toNat (by omega)).2 (by omega), xret_n, bX6_measureGaps_33]
        rfl
      · rw [if_neg c3, if_neg c3, xret_w w_82]
    · rw [if_neg c2, xret_w w_82, if_neg (fun q => c2 q.2)]
  · rw [if_neg c, xret_w w_82, if_neg (fun q => c q.1)]
theorem s_share {h k by_ who : Int} (hT : xTr T R) (hH : xHs T R) (hh : -2147483648 ≤ h ∧ h ≤ 2147483647) (hk : -2147483648 ≤ k ∧ k ≤ 2147483647) (hb : -2147483648 ≤ by_ ∧ by_ ≤ 2147483647) (hw : -2147483648 ≤ who ∧ who ≤ 2147483647) :
    X sc (d + 8) 76 [.ref 0, xw h, xw k, xw by_, xw who] (T, z, xv V, J, R) =
      if (0 ≤ h ∧ h < 6) ∧ (0 ≤ k ∧ k < 7) then (if 0 ≤ by_ ∧ by_ ≤ 2 then some (.inl (some (xw (if 0 ≤ who ∧ who < 6 then V (13 + 4 * h.toNat) ((k * 3 + by_) * 6 + who).toNat else 0))), (T, z, xv V, J, R)) else xTw 8 T z V J R) else xTw 10 T z V J R := by
  rw [eX6_share, bX6_share_0 hT.1, s_horse hT hH hh]
  by_cases c : 0 ≤ h ∧ h < 6
  · have h0 := (hH h.toNat (by omega)).2
    rw [if_pos c, xret_v, bX6_share_5, s_checkIndex hk (by decide)]
    by_cases c2 : 0 ≤ k ∧ k < 7
    · rw [if_pos c2, xret_n, bX6_share_13, s_checkArgument hb (by decide) (by decide), if_pos (And.intro c c2)]
      by_cases c3 : 0 ≤ by_ ∧ by_ ≤ 2
      · rw [if_pos c3, if_pos c3, xret_n, bX6_share_19 h0.1, s_blameOf h0 c2 (by omega) hw, xret_v, bX6_share_28]
      · rw [if_neg c3, if_neg c3, xret_w w_76]
    · rw [if_neg c2, xret_w w_76, if_neg (fun q => c2 q.2)]
  · rw [if_neg c, xret_w w_76, if_neg (fun q => c q.1)]
theorem s_rides (hT : xTr T R) : X sc (d + 1) 78 [.ref 0] (T, z, xv V, J, R) = some (.inl (some (xw (V 0 8))), (T, z, xv V, J, R)) := by
  rw [eX6_rides, bX6_rides_0 hT.1]
end SX6b
