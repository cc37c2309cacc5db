/-! what Saddletree does with one part -/
theorem w_56 : xmh 56 = [] := by decide +kernel
theorem w_64 : xmh 64 = [] := by decide +kernel
section SX6g
variable {sc : xS} {d : Nat} {T : Nat → Nat × Nat} {z : Nat × Nat} {V : Nat → Nat → Int} {J : Nat → Nat → Int64} {R : Nat → Nat → Option Nat}
theorem s_part_y {x : Int} {a : Nat} (hT : xTr T R) (hx : 0 ≤ x ∧ x < 40) (ha : R 2 x.toNat = some a) :
    X sc (d + 7) 84 [.ref 0, xw x] (T, z, xv V, J, R) = some (.inl (some (.ref a)), (T, z, xv V, J, R)) := by
  rw [s_partAt hT (by omega), ha, if_pos ⟨hx.1, hx.2, rfl⟩]; rfl
theorem s_part_n {x : Int} (hT : xTr T R) (hx : -2147483648 ≤ x ∧ x ≤ 2147483647) (ha : ¬ (0 ≤ x ∧ x < 40) ∨ R 2 x.toNat = none) :
    X sc (d + 7) 84 [.ref 0, xw x] (T, z, xv V, J, R) = xTw 10 T z V J R := by
  rw [s_partAt hT hx, if_neg]
  rintro ⟨q1, q2, q3⟩
  rcases ha with h | h
  · exact h ⟨q1, q2⟩
  · rw [h] at q3; cases q3
theorem s_oil {x : Int} {a : Nat} (hT : xTr T R) (hx : 0 ≤ x ∧ x < 40) (ha : R 2 x.toNat = some a) (hTa : T a = (2, 0)) (hv : 0 ≤ V a 7 ∧ V a 7 ≤ 2147483647) :
    X sc (d + 8) 64 [.ref 0, xw x] (T, z, xv V, J, R) = some (.inl (some (xw (V a 7 / 2))), (T, z, xv (xup2 V a 7 (V a 7 / 2)), J, R)) := by
  have e : xup2 V a 7 (V a 7 / 2) a 7 = V a 7 / 2 := by simp [xup2]
  rw [eX6_oil, bX6_oil_0 hT.1, s_part_y hT hx ha, xret_v, bX6_oil_5 hTa hv, e]
theorem s_oil_x {x : Int} (hT : xTr T R) (hx : -2147483648 ≤ x ∧ x ≤ 2147483647) (ha : ¬ (0 ≤ x ∧ x < 40) ∨ R 2 x.toNat = none) :
    X sc (d + 8) 64 [.ref 0, xw x] (T, z, xv V, J, R) = xTw 10 T z V J R := by
  rw [eX6_oil, bX6_oil_0 hT.1, s_part_n hT hx ha, xret_w w_64]
theorem s_unbuckle {x : Int} {a : Nat} (hT : xTr T R) (hx : 0 ≤ x ∧ x < 40) (ha : R 2 x.toNat = some a) (hTa : T a = (2, 0)) (hv : -2147483648 ≤ V a 11 ∧ V a 11 ≤ 2147483647) :
    X sc (d + 8) 59 [.ref 0, xw x] (T, z, xv V, J, R) = if V a 11 = -1 then xTw 9 T z V J R else some (.inl (some (xw (V a 11))), (T, z, xv (xGo V a), J, R)) := by
  rw [eX6_unbuckle, bX6_unbuckle_0 hT.1, s_part_y hT hx ha, xret_v, bX6_unbuckle_5 hTa, s_isBuckled hTa hv, xret_v]
  by_cases c : V a 11 = -1
  · rw [if_pos c, if_pos c, bX6_unbuckle_10 (by decide), if_pos rfl, bX6_unbuckle_13 (by omega)]; rfl
  · rw [if_neg c, if_neg c, bX6_unbuckle_10 (by decide), if_neg (by decide), bX6_unbuckle_23 hTa, s_letGo hTa, xret_n, bX6_unbuckle_32]
theorem s_unbuckle_x {x : Int} (hT : xTr T R) (hx : -2147483648 ≤ x ∧ x ≤ 2147483647) (ha : ¬ (0 ≤ x ∧ x < 40) ∨ R 2 x.toNat = none) :
    X sc (d + 8) 59 [.ref 0, xw x] (T, z, xv V, J, R) = xTw 10 T z V J R := by
  rw [eX6_unbuckle, bX6_unbuckle_0 hT.1, s_part_n hT hx ha, xret_w w_59]
theorem s_skive {x v : Int} {a : Nat} (hT : xTr T R) (hx : 0 ≤ x ∧ x < 40) (ha : R 2 x.toNat = some a) (hTa : T a = (2, 0)) (hv : -2147483648 ≤ v ∧ v ≤ 2147483647) (h5 : 0 ≤ V a 5 ∧ V a 5 ≤ 100) (h8 : 0 ≤ V a 8 ∧ V a 8 ≤ 100) :
    X sc (d + 8) 54 [.ref 0, xw x, xw v] (T, z, xv V, J, R) = if 1 ≤ v ∧ v ≤ V a 5 - 1 then (if V a 8 ≤ 0 then some (.inl (some (xw (V a 5))), (T, z, xv (xup2 V a 5 v), J, R)) else xTw 9 T z V J R) else xTw 8 T z V J R := by
  rw [eX6_skive, bX6_skive_0 hT.1, s_part_y hT hx ha, xret_v, bX6_skive_5 hTa, s_checkArgument hv (by decide) (by omega)]
  by_cases c : 1 ≤ v ∧ v ≤ V a 5 - 1
  · rw [if_pos c, if_pos c, xret_n, bX6_skive_17 hTa (by omega)]
    by_cases c2 : V a 8 ≤ 0
    · rw [if_pos c2, if_pos c2, bX6_skive_34 hTa]
    · rw [if_neg c2, if_neg c2, bX6_skive_24 (by omega)]; rfl
  · rw [if_neg c, if_neg c, xret_w w_54]
theorem s_skive_x {x v : Int} (hT : xTr T R) (hx : -2147483648 ≤ x ∧ x ≤ 2147483647) (ha : ¬ (0 ≤ x ∧ x < 40) ∨ R 2 x.toNat = none) :
    X sc (d + 8) 54 [.ref 0, xw x, xw v] (T, z, xv V, J, R) = xTw 10 T z V J R := by
  rw [eX6_skive, bX6_skive_0 hT.1, s_part_n hT hx ha, xret_w w_54]
end SX6g
