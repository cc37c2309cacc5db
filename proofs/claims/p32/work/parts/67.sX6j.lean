/-! buckle and pierce of Saddletree -/
theorem xPl_eq {V W : Nat → Nat → Int} {g : Nat} (h : W g = V g) : ∀ m k l, xPl W g m k l = xPl V g m k l := by
  intro m
  induction m with
  | zero => intro k l; rfl
  | succ m ih => intro k l; rw [xPl, xPl, h, ih, ih]
section SX6j
variable {sc : xS} {d : Nat} {T : Nat → Nat × Nat} {z : Nat × Nat} {V : Nat → Nat → Int} {J : Nat → Nat → Int64} {R : Nat → Nat → Option Nat}
def xBk (V : Nat → Nat → Int) (a g : Nat) (r o hl : Int) : Nat → Nat → Int := xup2 (xup2 (xup2 V a 9 (min r o)) a 10 (max r o)) a 11 (xPl V g 49 0 hl)
theorem s_buckle {x r o hl : Int} {a g : Nat} (hT : xTr T R) (hx : 0 ≤ x ∧ x < 40) (ha : R 2 x.toNat = some a) (hP : xPa T R a g) (hV : ∀ k, k < 49 → V g k = 0 ∨ V g k = 1) (va : ∀ k, k < 13 → -2147483648 ≤ V a k ∧ V a k ≤ 2147483647)
    (hr : -2147483648 ≤ r ∧ r ≤ 2147483647) (ho : -2147483648 ≤ o ∧ o ≤ 2147483647) (hh : -2147483648 ≤ hl ∧ hl ≤ 2147483647) :
    X sc (d + 8) 58 [.ref 0, xw x, xw r, xw o, xw hl] (T, z, xv V, J, R) =
      if (0 ≤ r ∧ r < 8) ∧ (0 ≤ o ∧ o < 8) ∧ (0 ≤ hl ∧ hl < V a 6) then
        (if r = o then xTw 8 T z V J R else if V a 3 = 0 ∨ ¬ V a 11 = -1 ∨ ¬ V a 12 = 0 then xTw 9 T z V J R
         else some (.inl (some (xw (xPl V g 49 0 hl))), (T, z, xv (xBk V a g r o hl), J, R)))
      else xTw 10 T z V J R := by
  have hTa := hP.1
  have ne : ¬ g = a := by intro q; have := hP.2.2; rw [q, hTa] at this; cases this
  rw [eX6_buckle, bX6_buckle_0 hT.1, s_part_y hT hx ha, xret_v, bX6_buckle_5, s_checkIndex hr (by decide)]
  by_cases c1 : 0 ≤ r ∧ r < 8
  · rw [if_pos c1, xret_n, bX6_buckle_13, s_checkIndex ho (by decide)]
    by_cases c2 : 0 ≤ o ∧ o < 8
    · rw [if_pos c2, xret_n, bX6_buckle_19 hTa, s_checkIndex hh (va 6 (by decide))]
      by_cases c3 : 0 ≤ hl ∧ hl < V a 6
      · rw [if_pos c3, xret_n, bX6_buckle_29, s_checkDifferent hr ho, if_pos (And.intro c1 (And.intro c2 c3))]
        by_cases c4 : r = o
        · rw [if_pos c4, if_pos c4, xret_w w_58]
        · rw [if_neg c4, if_neg c4, xret_n, bX6_buckle_34 hTa (va 3 (by decide))]
          by_cases c5 : V a 3 = 0
          · rw [if_pos c5, bX6_buckle_58 (by omega), if_pos (Or.inl c5)]; rfl
          · rw [if_neg c5, bX6_buckle_42 hTa, s_isBuckled hTa (va 11 (by decide)), xret_v]
            by_cases c6 : V a 11 = -1
            · rw [if_pos c6, bX6_buckle_47 (by decide), if_pos rfl, bX6_buckle_50 hTa (va 12 (by decide))]
              by_cases c7 : V a 12 = 0
              · have w : xup2 (xup2 V a 9 (min r o)) a 10 (max r o) g = V g := by rw [up2_va, va_ne ne, up2_va, va_ne ne]
                have e : xup2 (xup2 (xup2 V a 9 (min r o)) a 10 (max r o)) a 11 (xPl V g 49 0 hl) a 11 = xPl V g 49 0 hl := by simp [xup2]
                rw [if_pos c7, if_neg (fun q => q.elim c5 (fun q => q.elim (fun q => q c6) (fun q => q c7))), bX6_buckle_68, s_min hr ho, xret_v, bX6_buckle_75 hTa, s_max hr ho, xret_v, bX6_buckle_85 hTa hTa, s_placeOf hP (by rw [w]; exact hV) (by omega), xret_v, xPl_eq w, bX6_buckle_97 hTa hTa, e]
                rfl
              · rw [if_neg c7, bX6_buckle_58 (by omega), if_pos (Or.inr (Or.inr c7))]; rfl
            · rw [if_neg c6, bX6_buckle_47 (by decide), if_neg (by decide), bX6_buckle_58 (by omega), if_pos (Or.inr (Or.inl c6))]; rfl
      · rw [if_neg c3, xret_w w_58, if_neg (fun q => c3 q.2.2)]
    · rw [if_neg c2, xret_w w_58, if_neg (fun q => c2 q.2.1)]
  · rw [if_neg c1, xret_w w_58, if_neg (fun q => c1 q.1)]
theorem s_buckle_x {x r o hl : Int} (hT : xTr T R) (hx : -2147483648 ≤ x ∧ x ≤ 2147483647) (ha : ¬ (0 ≤ x ∧ x < 40) ∨ R 2 x.toNat = none) :
    X sc (d + 8) 58 [.ref 0, xw x, xw r, xw o, xw hl] (T, z, xv V, J, R) = xTw 10 T z V J R := by
  rw [eX6_buckle, bX6_buckle_0 hT.1, s_part_n hT hx ha, xret_w w_58]
theorem s_pierce {x n : Int} {a g : Nat} (hT : xTr T R) (hx : 0 ≤ x ∧ x < 40) (ha : R 2 x.toNat = some a) (hP : xPa T R a g) (hV : ∀ k, k < 49 → V g k = 0 ∨ V g k = 1) (va : ∀ k, k < 13 → -2147483648 ≤ V a k ∧ V a k ≤ 2147483647) (h0 : 1 ≤ V a 0 ∧ V a 0 ≤ 12) (hn : -2147483648 ≤ n ∧ n ≤ 2147483647) :
    X sc (d + 8) 55 [.ref 0, xw x, xw n] (T, z, xv V, J, R) =
      if 3 ≤ n ∧ n ≤ 4 * V a 0 - 3 then
        (if xHN V g n = true ∨ 0 < V a 8 ∨ ¬ V a 11 = -1 ∨ ¬ V a 12 = 0 then xTw 9 T z V J R
         else some (.inl (some (xw (xCn (xup2 (xup2 V g n.toNat 1) a 6 (V a 6 + 1)) g n.toNat 0))), (T, z, xv (xup2 (xup2 V g n.toNat 1) a 6 (V a 6 + 1)), J, R)))
      else xTw 8 T z V J R := by
  have hTa := hP.1
  rw [eX6_pierce, bX6_pierce_0 hT.1, s_part_y hT hx ha, xret_v, bX6_pierce_5 hTa, s_checkArgument hn (by decide) (by omega)]
  by_cases c1 : 3 ≤ n ∧ n ≤ 4 * V a 0 - 3
  · obtain ⟨m, hm⟩ : ∃ m : Nat, n = m := ⟨n.toNat, by omega⟩
    rw [if_pos c1, if_pos c1, xret_n, bX6_pierce_19 hTa, s_hasHoleNear hP hV (by omega), xret_v, bX6_pierce_24 (xB_in _)]
    cases c2 : xHN V g n
    · rw [if_pos (show xB false = 0 from rfl), bX6_pierce_37 hTa (va 8 (by decide))]
      by_cases c3 : 0 < V a 8
      · rw [if_pos c3, bX6_pierce_58 (by omega), if_pos (Or.inr (Or.inl c3))]; rfl
      · rw [if_neg c3, bX6_pierce_44 hTa, s_isBuckled hTa (va 11 (by decide)), xret_v]
        by_cases c4 : V a 11 = -1
        · rw [if_pos c4, bX6_pierce_48 (by decide), if_pos rfl, bX6_pierce_51 hTa (va 12 (by decide))]
          by_cases c5 : V a 12 = 0
          · rw [if_pos c5, bX6_pierce_68 hTa, hm, s_addHole hP hV (by omega), xret_v, bX6_pierce_73, Int.toNat_natCast]
            rw [if_neg (fun q => q.elim (fun q => by cases q) (fun q => q.elim c3 (fun q => q.elim (fun q => q c4) (fun q => q c5))))]
          · rw [if_neg c5, bX6_pierce_58 (by omega), if_pos (Or.inr (Or.inr (Or.inr c5)))]; rfl
        · rw [if_neg c4, bX6_pierce_48 (by decide), if_neg (by decide), bX6_pierce_58 (by omega), if_pos (Or.inr (Or.inr (Or.inl c4)))]; rfl
    · rw [if_neg (show ¬ xB true = 0 by decide), bX6_pierce_27 (by omega), if_pos (Or.inl rfl)]; rfl
  · rw [if_neg c1, if_neg c1, xret_w w_55]
theorem s_pierce_x {x n : Int} (hT : xTr T R) (hx : -2147483648 ≤ x ∧ x ≤ 2147483647) (ha : ¬ (0 ≤ x ∧ x < 40) ∨ R 2 x.toNat = none) :
    X sc (d + 8) 55 [.ref 0, xw x, xw n] (T, z, xv V, J, R) = xTw 10 T z V J R := by
  rw [eX6_pierce, bX6_pierce_0 hT.1, s_part_n hT hx ha, xret_w w_55]
end SX6j
