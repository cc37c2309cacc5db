/-! what the checks of Saddletree do -/
section SX6a
variable {sc : xS} {d : Nat} {T : Nat → Nat × Nat} {z : Nat × Nat} {V : Nat → Nat → Int} {J : Nat → Nat → Int64} {R : Nat → Nat → Option Nat}
/-- a throw of class e -/
def xTw (e : Nat) (T : Nat → Nat × Nat) (z : Nat × Nat) (V : Nat → Nat → Int) (J : Nat → Nat → Int64) (R : Nat → Nat → Option Nat) : Option (xO × xH) :=
  some (.inr e, (va_up T z.1 (1 + e, 0), (z.1 + 1, z.2 + 6), xv (va_up V z.1 (fun _ => 0)), va_up J z.1 (fun _ => 0), va_up R z.1 (fun _ => none)))
theorem xret_w {i pc pc2 e : Nat} {k : xK1} {L : xL} {S : List Value} (hh : xmh i = []) : xret i k pc pc2 L S (xTw e T z V J R) = xTw e T z V J R := xret_t hh
theorem s_checkIndex {x n : Int} (hx : -2147483648 ≤ x ∧ x ≤ 2147483647) (hn : -2147483648 ≤ n ∧ n ≤ 2147483647) :
    X sc (d + 7) 87 [xw x, xw n] (T, z, xv V, J, R) = if 0 ≤ x ∧ x < n then some (.inl none, (T, z, xv V, J, R)) else xTw 10 T z V J R := by
  rw [eX6_checkIndex, bX6_checkIndex_0 hx]
  by_cases c : x < 0
  · rw [if_pos c, bX6_checkIndex_9 (by omega), if_neg (by omega)]; rfl
  · rw [if_neg c, bX6_checkIndex_4 hx hn]
    by_cases c2 : x < n
    · rw [if_pos c2, bX6_checkIndex_20, if_pos (by omega)]
    · rw [if_neg c2, bX6_checkIndex_9 (by omega), if_neg (by omega)]; rfl
theorem s_checkArgument {x l m : Int} (hx : -2147483648 ≤ x ∧ x ≤ 2147483647) (hl : -2147483648 ≤ l ∧ l ≤ 2147483647) (hm : -2147483648 ≤ m ∧ m ≤ 2147483647) :
    X sc (d + 7) 88 [xw x, xw l, xw m] (T, z, xv V, J, R) = if l ≤ x ∧ x ≤ m then some (.inl none, (T, z, xv V, J, R)) else xTw 8 T z V J R := by
  rw [eX6_checkArgument, bX6_checkArgument_0 hx hl]
  by_cases c : x < l
  · rw [if_pos c, bX6_checkArgument_10 (by omega), if_neg (by omega)]; rfl
  · rw [if_neg c, bX6_checkArgument_5 hx hm]
    by_cases c2 : x ≤ m
    · rw [if_pos c2, bX6_checkArgument_21, if_pos (by omega)]
    · rw [if_neg c2, bX6_checkArgument_10 (by omega), if_neg (by omega)]; rfl
theorem s_checkDifferent {x y : Int} (hx : -2147483648 ≤ x ∧ x ≤ 2147483647) (hy : -2147483648 ≤ y ∧ y ≤ 2147483647) :
    X sc (d + 7) 89 [xw x, xw y] (T, z, xv V, J, R) = if x = y then xTw 8 T z V J R else some (.inl none, (T, z, xv V, J, R)) := by
  rw [eX6_checkDifferent, bX6_checkDifferent_0 hx hy]
  by_cases c : x = y
  · rw [if_pos c, if_pos c, bX6_checkDifferent_5 (by omega)]; rfl
  · rw [if_neg c, if_neg c, bX6_checkDifferent_16]
theorem w_90 : xmh 90 = [] := by decide +kernel
theorem s_checkRings {x y : Int} (hx : -2147483648 ≤ x ∧ x ≤ 2147483647) (hy : -2147483648 ≤ y ∧ y ≤ 2147483647) :
    X sc (d + 8) 90 [xw x, xw y] (T, z, xv V, J, R) = if (0 ≤ x ∧ x < 8) ∧ (0 ≤ y ∧ y < 8) then (if x = y then xTw 8 T z V J R else some (.inl none, (T, z, xv V, J, R))) else xTw 10 T z V J R := by
  rw [eX6_checkRings, bX6_checkRings_0, s_checkIndex hx (by decide)]
  by_cases c : 0 ≤ x ∧ x < 8
  · rw [if_pos c, xret_n, bX6_checkRings_6, s_checkIndex hy (by decide)]
    by_cases c2 : 0 ≤ y ∧ y < 8
    · rw [if_pos c2, xret_n, bX6_checkRings_12, s_checkDifferent hx hy, if_pos (And.intro c c2)]
      by_cases c3 : x = y
      · rw [if_pos c3, xret_w w_90]
      · rw [if_neg c3, xret_n, bX6_checkRings_17]
    · rw [if_neg c2, xret_w w_90, if_neg (fun q => c2 q.2)]
  · rw [if_neg c, xret_w w_90, if_neg (fun q => c q.1)]
/-- the saddletree stands at 0: hides at 1, parts at 2, route at 3, horses at 9, saddles at 34, seat at 53 -/
def xTr (T : Nat → Nat × Nat) (R : Nat → Nat → Option Nat) : Prop := T 0 = (7, 0) ∧ R 0 0 = some 1 ∧ R 0 2 = some 2 ∧ R 0 4 = some 3 ∧ R 0 5 = some 9 ∧ R 0 6 = some 34 ∧ R 0 7 = some 53 ∧ T 1 = (40, 8) ∧ T 2 = (41, 40) ∧ T 9 = (42, 6) ∧ T 34 = (43, 6)
theorem s_hideAt_no {x : Int} {o2 : Option Value} : XR sc (d + 6) 83 23 [some (.ref 0), some (xw x), o2] [.null] (T, z, xv V, J, R) = xTw 10 T z V J R := by
  rw [bX6_hideAt_23n, bX6_hideAt_28 (by omega)]; rfl
theorem s_hideAt {x : Int} (hT : xTr T R) (hx : -2147483648 ≤ x ∧ x ≤ 2147483647) :
    X sc (d + 7) 83 [.ref 0, xw x] (T, z, xv V, J, R) = if 0 ≤ x ∧ x < 8 ∧ (R 1 x.toNat).isSome = true then some (.inl (some (.ref ((R 1 x.toNat).getD 0))), (T, z, xv V, J, R)) else xTw 10 T z V J R := by
  have e : (R 0 0).getD 0 = 1 := by rw [hT.2.1]; rfl
  have ta := hT.2.2.2.2.2.2.2.1
  rw [eX6_hideAt, bX6_hideAt_0 hx]
  by_cases c : x < 0
  · rw [if_pos c, bX6_hideAt_22, s_hideAt_no, if_neg (by omega)]
  · rw [if_neg c, bX6_hideAt_4r hT.1 (rgd hT.2.1) rfl (lgd hT.2.1 ta (by decide)) hx (by rw [e, ta]; decide), e, ta]
    by_cases c2 : 8 ≤ x
    · rw [if_pos (show (((40, 8) : Nat × Nat).2 : Int) ≤ x from c2), bX6_hideAt_22, s_hideAt_no, if_neg (by omega)]
    · rw [if_neg (show ¬ (((40, 8) : Nat × Nat).2 : Int) ≤ x from c2)]
      cases hr : R 1 x.toNat with
      | none => rw [bX6_hideAt_13rn hT.1 (rgd hT.2.1) rfl (by rw [e, ta]; decide) (igd hT.2.1 ta (by omega)) (by rw [e]; exact hr), s_hideAt_no, if_neg (fun q => by cases q.2.2)]
      | some q => rw [bX6_hideAt_13rr hT.1 (rgd hT.2.1) rfl (by rw [e, ta]; decide) (igd hT.2.1 ta (by omega)) (by rw [e, hr]; rfl), e, hr, bX6_hideAt_23r, bX6_hideAt_39r, if_pos ⟨by omega, by omega, rfl⟩]
theorem s_partAt_no {x : Int} {o2 : Option Value} : XR sc (d + 6) 84 23 [some (.ref 0), some (xw x), o2] [.null] (T, z, xv V, J, R) = xTw 10 T z V J R := by
  rw [bX6_partAt_23n, bX6_partAt_28 (by omega)]; rfl
theorem s_partAt {x : Int} (hT : xTr T R) (hx : -2147483648 ≤ x ∧ x ≤ 2147483647) :
    X sc (d + 7) 84 [.ref 0, xw x] (T, z, xv V, J, R) = if 0 ≤ x ∧ x < 40 ∧ (R 2 x.toNat).isSome = true then some (.inl (some (.ref ((R 2 x.toNat).getD 0))), (T, z, xv V, J, R)) else xTw 10 T z V J R := by
  have e : (R 0 2).getD 0 = 2 := by rw [hT.2.2.1]; rfl
  have ta := hT.2.2.2.2.2.2.2.2.1
  rw [eX6_partAt, bX6_partAt_0 hx]
  by_cases c : x < 0
  · rw [if_pos c, bX6_partAt_22, s_partAt_no, if_neg (by omega)]
  · rw [if_neg c, bX6_partAt_4r hT.1 (rgd hT.2.2.1) rfl (lgd hT.2.2.1 ta (by decide)) hx (by rw [e, ta]; decide), e, ta]
    by_cases c2 : 40 ≤ x
    · rw [if_pos (show (((41, 40) : Nat × Nat).2 : Int) ≤ x from c2), bX6_partAt_22, s_partAt_no, if_neg (by omega)]
    · rw [if_neg (show ¬ (((41, 40) : Nat × Nat).2 : Int) ≤ x from c2)]
      cases hr : R 2 x.toNat with
      | none => rw [bX6_partAt_13rn hT.1 (rgd hT.2.2.1) rfl (by rw [e, ta]; decide) (igd hT.2.2.1 ta (by omega)) (by rw [e]; exact hr), s_partAt_no, if_neg (fun q => by cases q.2.2)]
      | some q => rw [bX6_partAt_13rr hT.1 (rgd hT.2.2.1) rfl (by rw [e, ta]; decide) (igd hT.2.2.1 ta (by omega)) (by rw [e, hr]; rfl), e, hr, bX6_partAt_23r, bX6_partAt_39r, if_pos ⟨by omega, by omega, rfl⟩]
theorem s_horseAt_no {x : Int} {o2 : Option Value} : XR sc (d + 6) 85 23 [some (.ref 0), some (xw x), o2] [.null] (T, z, xv V, J, R) = xTw 10 T z V J R := by
  rw [bX6_horseAt_23n, bX6_horseAt_28 (by omega)]; rfl
theorem s_horseAt {x : Int} (hT : xTr T R) (hx : -2147483648 ≤ x ∧ x ≤ 2147483647) :
    X sc (d + 7) 85 [.ref 0, xw x] (T, z, xv V, J, R) = if 0 ≤ x ∧ x < 6 ∧ (R 9 x.toNat).isSome = true then some (.inl (some (.ref ((R 9 x.toNat).getD 0))), (T, z, xv V, J, R)) else xTw 10 T z V J R := by
  have e : (R 0 5).getD 0 = 9 := by rw [hT.2.2.2.2.1]; rfl
  have ta := hT.2.2.2.2.2.2.2.2.2.1
  rw [eX6_horseAt, bX6_horseAt_0 hx]
  by_cases c : x < 0
  · rw [if_pos c, bX6_horseAt_22, s_horseAt_no, if_neg (by omega)]
  · rw [if_neg c, bX6_horseAt_4r hT.1 (rgd hT.2.2.2.2.1) rfl (lgd hT.2.2.2.2.1 ta (by decide)) hx (by rw [e, ta]; decide), e, ta]
    by_cases c2 : 6 ≤ x
    · rw [if_pos (show (((42, 6) : Nat × Nat).2 : Int) ≤ x from c2), bX6_horseAt_22, s_horseAt_no, if_neg (by omega)]
    · rw [if_neg (show ¬ (((42, 6) : Nat × Nat).2 : Int) ≤ x from c2)]
      cases hr : R 9 x.toNat with
      | none => rw [bX6_horseAt_13rn hT.1 (rgd hT.2.2.2.2.1) rfl (by rw [e, ta]; decide) (igd hT.2.2.2.2.1 ta (by omega)) (by rw [e]; exact hr), s_horseAt_no, if_neg (fun q => by cases q.2.2)]
      | some q => rw [bX6_horseAt_13rr hT.1 (rgd hT.2.2.2.2.1) rfl (by rw [e, ta]; decide) (igd hT.2.2.2.2.1 ta (by omega)) (by rw [e, hr]; rfl), e, hr, bX6_horseAt_23r, bX6_horseAt_39r, if_pos ⟨by omega, by omega, rfl⟩]
theorem s_saddleAt_no {x : Int} {o2 : Option Value} : XR sc (d + 6) 86 23 [some (.ref 0), some (xw x), o2] [.null] (T, z, xv V, J, R) = xTw 10 T z V J R := by
  rw [bX6_saddleAt_23n, bX6_saddleAt_28 (by omega)]; rfl
theorem s_saddleAt {x : Int} (hT : xTr T R) (hx : -2147483648 ≤ x ∧ x ≤ 2147483647) :
    X sc (d + 7) 86 [.ref 0, xw x] (T, z, xv V, J, R) = if 0 ≤ x ∧ x < 6 ∧ (R 34 x.toNat).isSome = true then some (.inl (some (.ref ((R 34 x.toNat).getD 0))), (T, z, xv V, J, R)) else xTw 10 T z V J R := by
  have e : (R 0 6).getD 0 = 34 := by rw [hT.2.2.2.2.2.1]; rfl
  have ta := hT.2.2.2.2.2.2.2.2.2.2
  rw [eX6_saddleAt, bX6_saddleAt_0 hx]
  by_cases c : x < 0
  · rw [if_pos c, bX6_saddleAt_22, s_saddleAt_no, if_neg (by omega)]
  · rw [if_neg c, bX6_saddleAt_4r hT.1 (rgd hT.2.2.2.2.2.1) rfl (lgd hT.2.2.2.2.2.1 ta (by decide)) hx (by rw [e, ta]; decide), e, ta]
    by_cases c2 : 6 ≤ x
    · rw [if_pos (show (((43, 6) : Nat × Nat).2 : Int) ≤ x from c2), bX6_saddleAt_22, s_saddleAt_no, if_neg (by omega)]
    · rw [if_neg (show ¬ (((43, 6) : Nat × Nat).2 : Int) ≤ x from c2)]
      cases hr : R 34 x.toNat with
      | none => rw [bX6_saddleAt_13rn hT.1 (rgd hT.2.2.2.2.2.1) rfl (by rw [e, ta]; decide) (igd hT.2.2.2.2.2.1 ta (by omega)) (by rw [e]; exact hr), s_saddleAt_no, if_neg (fun q => by cases q.2.2)]
      | some q => rw [bX6_saddleAt_13rr hT.1 (rgd hT.2.2.2.2.2.1) rfl (by rw [e, ta]; decide) (igd hT.2.2.2.2.2.1 ta (by omega)) (by rw [e, hr]; rfl), e, hr, bX6_saddleAt_23r, bX6_saddleAt_39r, if_pos ⟨by omega, by omega, rfl⟩]
end SX6a
