/-! match, pierce, fault, find of Saddletree -/
theorem w_51 : xmh 51 = [] := by decide +kernel
theorem w_53 : xmh 53 = [] := by decide +kernel
section SX6h
variable {sc : xS} {d : Nat} {T : Nat → Nat × Nat} {z : Nat × Nat} {V : Nat → Nat → Int} {J : Nat → Nat → Int64} {R : Nat → Nat → Option Nat}
def xMa (V : Nat → Nat → Int) (a b : Nat) : Int := if V a 3 = V b 3 ∧ V a 0 = V b 0 ∧ V a 1 = V b 1 ∧ V a 5 = V b 5 ∧ V a 2 = V b 2 then 1 else 0
theorem s_match {x y : Int} {a b : Nat} (hT : xTr T R) (hx : 0 ≤ x ∧ x < 40) (ha : R 2 x.toNat = some a) (hTa : T a = (2, 0)) (hy : 0 ≤ y ∧ y < 40) (hb : R 2 y.toNat = some b) (hTb : T b = (2, 0))
    (va : ∀ k, k < 13 → -2147483648 ≤ V a k ∧ V a k ≤ 2147483647) (vb : ∀ k, k < 13 → -2147483648 ≤ V b k ∧ V b k ≤ 2147483647) :
    X sc (d + 8) 56 [.ref 0, xw x, xw y] (T, z, xv V, J, R) = some (.inl (some (xw (xMa V a b))), (T, z, xv V, J, R)) := by
  rw [eX6_match, bX6_match_0 hT.1, s_part_y hT hx ha, xret_v, bX6_match_5 hT.1, s_part_y hT hy hb, xret_v, bX6_match_11 hTa hTb (va 3 (by decide)) (vb 3 (by decide)), xMa]
  by_cases c1 : V a 3 = V b 3
  · rw [if_pos c1, bX6_match_25 hTa hTb (va 0 (by decide)) (vb 0 (by decide))]
    by_cases c2 : V a 0 = V b 0
    · rw [if_pos c2, bX6_match_37 hTa hTb (va 1 (by decide)) (vb 1 (by decide))]
      by_cases c3 : V a 1 = V b 1
      · rw [if_pos c3, bX6_match_49 hTa hTb (va 5 (by decide)) (vb 5 (by decide))]
        by_cases c4 : V a 5 = V b 5
        · rw [if_pos c4, bX6_match_61 hTa hTb (va 2 (by decide)) (vb 2 (by decide))]
          by_cases c5 : V a 2 = V b 2
          · rw [if_pos c5, bX6_match_73, bX6_match_78 (by decide), if_pos ⟨c1, c2, c3, c4, c5⟩]
          · rw [if_neg c5, bX6_match_77, bX6_match_78 (by decide), if_neg (fun q => c5 q.2.2.2.2)]
        · rw [if_neg c4, bX6_match_77, bX6_match_78 (by decide), if_neg (fun q => c4 q.2.2.2.1)]
      · rw [if_neg c3, bX6_match_77, bX6_match_78 (by decide), if_neg (fun q => c3 q.2.2.1)]
    · rw [if_neg c2, bX6_match_77, bX6_match_78 (by decide), if_neg (fun q => c2 q.2.1)]
  · rw [if_neg c1, bX6_match_77, bX6_match_78 (by decide), if_neg (fun q => c1 q.1)]
theorem s_match_x1 {x y : Int} (hT : xTr T R) (hx : -2147483648 ≤ x ∧ x ≤ 2147483647) (ha : ¬ (0 ≤ x ∧ x < 40) ∨ R 2 x.toNat = none) :
    X sc (d + 8) 56 [.ref 0, xw x, xw y] (T, z, xv V, J, R) = xTw 10 T z V J R := by
  rw [eX6_match, bX6_match_0 hT.1, s_part_n hT hx ha, xret_w w_56]
theorem s_match_x2 {x y : Int} {a : Nat} (hT : xTr T R) (hx : 0 ≤ x ∧ x < 40) (ha : R 2 x.toNat = some a) (hy : -2147483648 ≤ y ∧ y ≤ 2147483647) (hb : ¬ (0 ≤ y ∧ y < 40) ∨ R 2 y.toNat = none) :
    X sc (d + 8) 56 [.ref 0, xw x, xw y] (T, z, xv V, J, R) = xTw 10 T z V J R := by
  rw [eX6_match, bX6_match_0 hT.1, s_part_y hT hx ha, xret_v, bX6_match_5 hT.1, s_part_n hT hy hb, xret_w w_56]
theorem s_hide_y {x : Int} {a : Nat} (hT : xTr T R) (hx : 0 ≤ x ∧ x < 8) (ha : R 1 x.toNat = some a) :
    X sc (d + 7) 83 [.ref 0, xw x] (T, z, xv V, J, R) = some (.inl (some (.ref a)), (T, z, xv V, J, R)) := by
  rw [s_hideAt hT (by omega), ha, if_pos ⟨hx.1, hx.2, rfl⟩]; rfl
theorem s_hide_n {x : Int} (hT : xTr T R) (hx : -2147483648 ≤ x ∧ x ≤ 2147483647) (ha : ¬ (0 ≤ x ∧ x < 8) ∨ R 1 x.toNat = none) :
    X sc (d + 7) 83 [.ref 0, xw x] (T, z, xv V, J, R) = xTw 10 T z V J R := by
  rw [s_hideAt hT hx, if_neg]
  rintro ⟨q1, q2, q3⟩
  rcases ha with h | h
  · exact h ⟨q1, q2⟩
  · rw [h] at q3; cases q3
theorem s_fault {x c r : Int} {a g : Nat} (hT : xTr T R) (hx : 0 ≤ x ∧ x < 8) (ha : R 1 x.toNat = some a) (hH : xHi T R a g) (hV : ∀ k, k < 96 → V g k = 0 ∨ V g k = 1) (hc : -2147483648 ≤ c ∧ c ≤ 2147483647) (hr : -2147483648 ≤ r ∧ r ≤ 2147483647) :
    X sc (d + 8) 51 [.ref 0, xw x, xw c, xw r] (T, z, xv V, J, R) = if (0 ≤ c ∧ c < 12) ∧ (0 ≤ r ∧ r < 8) then some (.inl (some (xw (xLeft (xSp V g c r 1 1) g 96 0))), (T, z, xv (xSp V g c r 1 1), J, R)) else xTw 10 T z V J R := by
  rw [eX6_fault, bX6_fault_0 hT.1, s_hide_y hT hx ha, xret_v, bX6_fault_5, s_checkIndex hc (by decide)]
  by_cases c1 : 0 ≤ c ∧ c < 12
  · rw [if_pos c1, xret_n, bX6_fault_13, s_checkIndex hr (by decide)]
    by_cases c2 : 0 ≤ r ∧ r < 8
    · rw [if_pos c2, xret_n, bX6_fault_19 hH.1, s_spoil hH (by omega) (by omega), xret_n, bX6_fault_28 hH.1, s_squaresLeft hH ?_, xret_v, bX6_fault_33, if_pos (And.intro c1 c2)]
      intro k hk
      have := hV k hk
      simp only [xSp]
      split
      · exact Or.inr rfl
      · exact this
    · rw [if_neg c2, xret_w w_51, if_neg (fun q => c2 q.2)]
  · rw [if_neg c1, xret_w w_51, if_neg (fun q => c1 q.1)]
theorem s_fault_x {x c r : Int} (hT : xTr T R) (hx : -2147483648 ≤ x ∧ x ≤ 2147483647) (ha : ¬ (0 ≤ x ∧ x < 8) ∨ R 1 x.toNat = none) :
    X sc (d + 8) 51 [.ref 0, xw x, xw c, xw r] (T, z, xv V, J, R) = xTw 10 T z V J R := by
  rw [eX6_fault, bX6_fault_0 hT.1, s_hide_n hT hx ha, xret_w w_51]
theorem s_find {x al wi st le : Int} {a g : Nat} (hT : xTr T R) (hx : 0 ≤ x ∧ x < 8) (ha : R 1 x.toNat = some a) (hH : xHi T R a g) (hV : ∀ k, k < 96 → V g k = 0 ∨ V g k = 1) (hth : 0 ≤ V a 0 ∧ V a 0 ≤ 9) (h1 : -2147483648 ≤ al ∧ al ≤ 2147483647) (h2 : -2147483648 ≤ wi ∧ wi ≤ 2147483647) (h3 : st = 0 ∨ st = 1) (h4 : -2147483648 ≤ le ∧ le ≤ 2147483647) :
    X sc (d + 8) 53 [.ref 0, xw x, xw al, xw wi, xw st, xw le] (T, z, xv V, J, R) = if (1 ≤ al ∧ al ≤ 12) ∧ (1 ≤ wi ∧ wi ≤ 8) ∧ (1 ≤ le ∧ le ≤ 9) then some (.inl (some (xw (xFi V a g al wi st le (9 - wi).toNat 0 (-1) 0))), (T, z, xv V, J, R)) else xTw 8 T z V J R := by
  rw [eX6_find, bX6_find_0 hT.1, s_hide_y hT hx ha, xret_v, bX6_find_5, s_checkArgument h1 (by decide) (by decide)]
  by_cases c1 : 1 ≤ al ∧ al ≤ 12
  · rw [if_pos c1, xret_n, bX6_find_14, s_checkArgument h2 (by decide) (by decide)]
    by_cases c2 : 1 ≤ wi ∧ wi ≤ 8
    · rw [if_pos c2, xret_n, bX6_find_21, s_checkArgument h4 (by decide) (by decide)]
      by_cases c3 : 1 ≤ le ∧ le ≤ 9
      · rw [if_pos c3, xret_n, bX6_find_29 hH.1, s_leastWorth hH hV (by omega) (by omega) h3 (by omega) hth, xret_v, bX6_find_40, if_pos (And.intro c1 (And.intro c2 c3))]
      · rw [if_neg c3, xret_w w_53, if_neg (fun q => c3 q.2.2)]
    · rw [if_neg c2, xret_w w_53, if_neg (fun q => c2 q.2.1)]
  · rw [if_neg c1, xret_w w_53, if_neg (fun q => c1 q.1)]
theorem s_find_x {x al wi st le : Int} (hT : xTr T R) (hx : -2147483648 ≤ x ∧ x ≤ 2147483647) (ha : ¬ (0 ≤ x ∧ x < 8) ∨ R 1 x.toNat = none) :
    X sc (d + 8) 53 [.ref 0, xw x, xw al, xw wi, xw st, xw le] (T, z, xv V, J, R) = xTw 10 T z V J R := by
  rw [eX6_find, bX6_find_0 hT.1, s_hide_n hT hx ha, xret_w w_53]
end SX6h
