/-! part, cut, sew of Saddletree -/
theorem w_57 : xmh 57 = [] := by decide +kernel
section SX6k
variable {sc : xS} {d : Nat} {T : Nat → Nat × Nat} {z : Nat × Nat} {V : Nat → Nat → Int} {J : Nat → Nat → Int64} {R : Nat → Nat → Option Nat}
theorem tp_0 {L : xL} {h : xH} : XR sc d 57 14 L [xw 0] h = XR sc d 57 68 L [] h := st_tableIn (x := Int32.ofInt 0) (off := 54) f_57_14 (by decide +kernel) (by decide +kernel) ⟨by decide, by decide +kernel⟩
theorem tp_1 {L : xL} {h : xH} : XR sc d 57 14 L [xw 1] h = XR sc d 57 73 L [] h := st_tableIn (x := Int32.ofInt 1) (off := 59) f_57_14 (by decide +kernel) (by decide +kernel) ⟨by decide, by decide +kernel⟩
theorem tp_2 {L : xL} {h : xH} : XR sc d 57 14 L [xw 2] h = XR sc d 57 78 L [] h := st_tableIn (x := Int32.ofInt 2) (off := 64) f_57_14 (by decide +kernel) (by decide +kernel) ⟨by decide, by decide +kernel⟩
theorem tp_3 {L : xL} {h : xH} : XR sc d 57 14 L [xw 3] h = XR sc d 57 83 L [] h := st_tableIn (x := Int32.ofInt 3) (off := 69) f_57_14 (by decide +kernel) (by decide +kernel) ⟨by decide, by decide +kernel⟩
theorem tp_4 {L : xL} {h : xH} : XR sc d 57 14 L [xw 4] h = XR sc d 57 88 L [] h := st_tableIn (x := Int32.ofInt 4) (off := 74) f_57_14 (by decide +kernel) (by decide +kernel) ⟨by decide, by decide +kernel⟩
theorem tp_5 {L : xL} {h : xH} : XR sc d 57 14 L [xw 5] h = XR sc d 57 93 L [] h := st_tableIn (x := Int32.ofInt 5) (off := 79) f_57_14 (by decide +kernel) (by decide +kernel) ⟨by decide, by decide +kernel⟩
theorem tp_6 {L : xL} {h : xH} : XR sc d 57 14 L [xw 6] h = XR sc d 57 98 L [] h := st_tableIn (x := Int32.ofInt 6) (off := 84) f_57_14 (by decide +kernel) (by decide +kernel) ⟨by decide, by decide +kernel⟩
theorem tp_7 {L : xL} {h : xH} : XR sc d 57 14 L [xw 7] h = XR sc d 57 103 L [] h := st_tableIn (x := Int32.ofInt 7) (off := 89) f_57_14 (by decide +kernel) (by decide +kernel) ⟨by decide, by decide +kernel⟩
theorem tp_8 {L : xL} {h : xH} : XR sc d 57 14 L [xw 8] h = XR sc d 57 108 L [] h := st_tableIn (x := Int32.ofInt 8) (off := 94) f_57_14 (by decide +kernel) (by decide +kernel) ⟨by decide, by decide +kernel⟩
theorem tp_9 {L : xL} {h : xH} : XR sc d 57 14 L [xw 9] h = XR sc d 57 113 L [] h := st_tableIn (x := Int32.ofInt 9) (off := 99) f_57_14 (by decide +kernel) (by decide +kernel) ⟨by decide, by decide +kernel⟩
theorem tp_10 {L : xL} {h : xH} : XR sc d 57 14 L [xw 10] h = XR sc d 57 118 L [] h := st_tableOut (x := Int32.ofInt 10) f_57_14 (by decide +kernel) ⟨by decide, by decide +kernel⟩
/-- what is told of a part -/
def xTl (V : Nat → Nat → Int) (a : Nat) (v : Int) : Int := if v = 0 then V a 0 else if v = 1 then V a 1 else if v = 2 then V a 5 else if v = 3 then V a 2 else if v = 4 then V a 6 else if v = 5 then V a 7 else if v = 6 then xSt V a else if v = 7 then V a 9 else if v = 8 then V a 10 else if v = 9 then V a 11 else if V a 12 = 0 then 0 else 1
theorem s_part {x v : Int} {a : Nat} (hT : xTr T R) (hx : 0 ≤ x ∧ x < 40) (ha : R 2 x.toNat = some a) (hTa : T a = (2, 0)) (h6 : -2147483648 ≤ V a 6 ∧ V a 6 ≤ 2147483647) (hw : 0 ≤ 10 * V a 1 * V a 5 ∧ 10 * V a 1 * V a 5 ≤ 1000) (h7 : 0 ≤ V a 7 ∧ V a 7 ≤ 100000000) (h12 : -2147483648 ≤ V a 12 ∧ V a 12 ≤ 2147483647) (hv : -2147483648 ≤ v ∧ v ≤ 2147483647) :
    X sc (d + 8) 57 [.ref 0, xw x, xw v] (T, z, xv V, J, R) = if 0 ≤ v ∧ v ≤ 10 then some (.inl (some (xw (xTl V a v))), (T, z, xv V, J, R)) else xTw 8 T z V J R := by
  rw [eX6_part, bX6_part_0 hT.1, s_part_y hT hx ha, xret_v, bX6_part_5, s_checkArgument hv (by decide) (by decide)]
  by_cases c : 0 ≤ v ∧ v ≤ 10
  · rw [if_pos c, if_pos c, xret_n, bX6_part_13]
    rcases (show v = 0 ∨ v = 1 ∨ v = 2 ∨ v = 3 ∨ v = 4 ∨ v = 5 ∨ v = 6 ∨ v = 7 ∨ v = 8 ∨ v = 9 ∨ v = 10 by omega) with rfl | rfl | rfl | rfl | rfl | rfl | rfl | rfl | rfl | rfl | rfl
    · rw [tp_0, bX6_part_68 hTa]; rfl
    · rw [tp_1, bX6_part_73 hTa]; rfl
    · rw [tp_2, bX6_part_78 hTa]; rfl
    · rw [tp_3, bX6_part_83 hTa]; rfl
    · rw [tp_4, bX6_part_88 hTa]; rfl
    · rw [tp_5, bX6_part_93 hTa]; rfl
    · rw [tp_6, bX6_part_98 hTa, s_strength hTa h6 hw h7, xret_v, bX6_part_102]; rfl
    · rw [tp_7, bX6_part_103 hTa]; rfl
    · rw [tp_8, bX6_part_108 hTa]; rfl
    · rw [tp_9, bX6_part_113 hTa]; rfl
    · rw [tp_10, bX6_part_118 hTa h12]
      have e : xTl V a 10 = if V a 12 = 0 then 0 else 1 := rfl
      rw [e]
      by_cases c2 : V a 12 = 0
      · rw [if_pos c2, if_pos c2, bX6_part_129, bX6_part_130]
      · rw [if_neg c2, if_neg c2, bX6_part_125, bX6_part_130]
  · rw [if_neg c, if_neg c, xret_w w_57]
theorem s_part_x {x v : Int} (hT : xTr T R) (hx : -2147483648 ≤ x ∧ x ≤ 2147483647) (ha : ¬ (0 ≤ x ∧ x < 40) ∨ R 2 x.toNat = none) :
    X sc (d + 8) 57 [.ref 0, xw x, xw v] (T, z, xv V, J, R) = xTw 10 T z V J R := by
  rw [eX6_part, bX6_part_0 hT.1, s_part_n hT hx ha, xret_w w_57]
/-- the cells behind a new part -/
def xPT (T : Nat → Nat × Nat) (n : Nat) : Nat → Nat × Nat := va_up (va_up T n (2, 0)) (n + 1) (33, 49)
def xPR (R : Nat → Nat → Option Nat) (n : Nat) : Nat → Nat → Option Nat := xup2 (va_up (va_up R n (fun _ => none)) (n + 1) (fun _ => none)) n 4 (some (n + 1))
def xPV (V : Nat → Nat → Int) (n : Nat) (al wi r th st : Int) : Nat → Nat → Int := xup2 (xup2 (xup2 (va_up (xup2 (xup2 (xup2 (xup2 (xup2 (va_up V n (fun _ => 0)) n 0 al) n 1 wi) n 2 r) n 5 th) n 3 st) (n + 1) (fun _ => 0)) n 9 (-1)) n 10 (-1)) n 11 (-1)
theorem xPV_ne {V : Nat → Nat → Int} {n : Nat} {al wi r th st : Int} {b : Nat} (h : ¬ b = n) (h2 : ¬ b = n + 1) : xPV V n al wi r th st b = V b := by
  funext j
  simp [xPV, xup2, va_up, h, h2]
def xCut (V : Nat → Nat → Int) (n a g : Nat) (c r al wi st : Int) : Nat → Nat → Int := xSp (xup2 (xPV V n al wi r (if r + wi ≤ 5 then V a 0 else V a 0 - 1) st) 0 3 (V 0 3 + 1)) g c r al wi
theorem s_cut {x c r al wi st : Int} {a g : Nat} (hT : xTr T R) (hz : 60 ≤ z.1) (hx : 0 ≤ x ∧ x < 8) (ha : R 1 x.toNat = some a) (hH : xHi T R a g) (haz : a < z.1 ∧ g < z.1) (hV : ∀ k, k < 96 → V g k = 0 ∨ V g k = 1) (hc : -2147483648 ≤ c ∧ c ≤ 2147483647) (hr : -2147483648 ≤ r ∧ r ≤ 2147483647) (hal : -2147483648 ≤ al ∧ al ≤ 2147483647) (hwi : -2147483648 ≤ wi ∧ wi ≤ 2147483647) (hst : st = 0 ∨ st = 1) (h3 : 0 ≤ V 0 3 ∧ V 0 3 ≤ 40) :
    X sc (d + 8) 52 [.ref 0, xw x, xw c, xw r, xw al, xw wi, xw st] (T, z, xv V, J, R) =
      if (0 ≤ c ∧ c < 12) ∧ (0 ≤ r ∧ r < 8) then
        (if (1 ≤ al ∧ al ≤ 12 - c) ∧ (1 ≤ wi ∧ wi ≤ 8 - r) then
          (if xCan V g c r al wi st = true ∧ V 0 3 < 40 then some (.inl (some (xw (V 0 3))), (xPT T z.1, (z.1 + 1 + 1, z.2 + 13 + 49), xv (xCut V z.1 a g c r al wi st), xHJ J z.1, xup2 (xPR R z.1) 2 (V 0 3).toNat (some z.1)))
           else xTw 9 T z V J R)
         else xTw 8 T z V J R)
      else xTw 10 T z V J R := by
  have r2 : R 0 2 = some 2 := hT.2.2.1
  have e2 : (R 0 2).getD 0 = 2 := by rw [r2]; rfl
  have hH' := hH
  obtain ⟨k1, k2, k3⟩ := hH
  rw [eX6_cut, bX6_cut_0 hT.1, s_hide_y hT hx ha, xret_v, bX6_cut_5, s_checkIndex hc (by decide)]
  by_cases c1 : 0 ≤ c ∧ c < 12
  · rw [if_pos c1, xret_n, bX6_cut_13, s_checkIndex hr (by decide)]
    by_cases c2 : 0 ≤ r ∧ r < 8
    · rw [if_pos c2, xret_n, bX6_cut_19, s_checkArgument hal (by decide) (by omega), if_pos (And.intro c1 c2)]
      by_cases c3 : 1 ≤ al ∧ al ≤ 12 - c
      · rw [if_pos c3, xret_n, bX6_cut_29, s_checkArgument hwi (by decide) (by omega)]
        by_cases c4 : 1 ≤ wi ∧ wi ≤ 8 - r
        · rw [if_pos c4, xret_n, bX6_cut_39 k1, s_canGive hH' hV (by omega) (by omega) hst, xret_v, bX6_cut_52 (xB_in _), if_pos (And.intro c3 c4)]
          cases c5 : xCan V g c r al wi st
          · rw [if_pos (show xB false = 0 from rfl), bX6_cut_55 (by omega), if_neg (fun q => by cases q.1)]; rfl
          · rw [if_neg (show ¬ xB true = 0 by decide), bX6_cut_65 hT.1 (by omega)]
            by_cases c6 : V 0 3 < 40
            · have n1 : ¬ a = z.1 := by omega
              have n2 : ¬ a = z.1 + 1 := by omega
              have a2 : ¬ a = 2 := by intro q; rw [q, hT.2.2.2.2.2.2.2.2.1] at k1; cases k1
              have ea : va_up V z.1 (fun _ => 0) a 0 = V a 0 := by rw [va_ne n1]
              have ta : xPT T z.1 a = (1, 0) := by unfold xPT; rw [va_ne n2, va_ne n1]; exact k1
              have tg : xPT T z.1 g = (33, 96) := by unfold xPT; rw [va_ne (by omega), va_ne (by omega)]; exact k3
              have t2 : xPT T z.1 2 = (41, 40) := by unfold xPT; rw [va_ne (by omega), va_ne (by omega)]; exact hT.2.2.2.2.2.2.2.2.1
              have t0 : xPT T z.1 0 = (7, 0) := by unfold xPT; rw [va_ne (by omega), va_ne (by omega)]; exact hT.1
              have tz : xPT T z.1 z.1 = (2, 0) := by unfold xPT; rw [va_ne (by omega), va_same]
              have ra : xup2 (xPR R z.1) 2 (V 0 3).toNat (some z.1) a 1 = some g := by
                unfold xPR
                simp only [xup2, a2, n1, false_and, if_false]
                rw [va_ne n2, va_ne n1]; exact k2
              have v03 : ∀ th, xPV V z.1 al wi r th st 0 3 = V 0 3 := by intro th; rw [xPV_ne (by omega) (by omega)]
              have k : ∀ th, XR sc (d + 7) 52 118 [some (.ref 0), some (xw x), some (xw c), some (xw r), some (xw al), some (xw wi), some (xw st), some (.ref a), some (xw (V 0 3))] [.ref z.1, xw (V 0 3), .ref 2] (xPT T z.1, (z.1 + 1 + 1, z.2 + 13 + 49), xv (xPV V z.1 al wi r th st), xHJ J z.1, xPR R z.1) = some (.inl (some (xw (V 0 3))), (xPT T z.1, (z.1 + 1 + 1, z.2 + 13 + 49), xv (xSp (xup2 (xPV V z.1 al wi r th st) 0 3 (V 0 3 + 1)) g c r al wi), xHJ J z.1, xup2 (xPR R z.1) 2 (V 0 3).toNat (some z.1))) := by
                intro th
                rw [bX6_cut_118 (by rw [t2]) (by rw [t2]; omega) (by show z.1 < z.1 + 1 + 1; omega) tz t0 ta, s_spoil ⟨ta, ra, tg⟩ (by omega) (by omega), xret_n, bX6_cut_140, v03]
              rw [if_pos c6, if_pos ⟨rfl, c6⟩, bX6_cut_84 hT.1 (rgd r2) (by rw [va_ne n1]; exact k1), e2, s_thinnest (by rw [va_ne n1]; exact k1) (by omega), xret_v, ea, bX6_cut_113 va_same, eX2_init, bX2_init_0 (by omega) va_same hst (by rw [va_ne (by omega), va_same]), xret_n]
              exact k _
            · rw [if_neg c6, bX6_cut_74 (by omega), if_neg (fun q => c6 q.2)]; rfl
        · rw [if_neg c4, xret_w w_52, if_neg (fun q => c4 q.2)]
      · rw [if_neg c3, xret_w w_52, if_neg (fun q => c3 q.1)]
    · rw [if_neg c2, xret_w w_52, if_neg (fun q => c2 q.2)]
  · rw [if_neg c1, xret_w w_52, if_neg (fun q => c1 q.1)]
theorem s_cut_x {x c r al wi st : Int} (hT : xTr T R) (hx : -2147483648 ≤ x ∧ x ≤ 2147483647) (ha : ¬ (0 ≤ x ∧ x < 8) ∨ R 1 x.toNat = none) :
    X sc (d + 8) 52 [.ref 0, xw x, xw c, xw r, xw al, xw wi, xw st] (T, z, xv V, J, R) = xTw 10 T z V J R := by
  rw [eX6_cut, bX6_cut_0 hT.1, s_hide_n hT hx ha, xret_w w_52]
/-- two parts are in one more seam -/
def xSm2 (V : Nat → Nat → Int) (a b : Nat) : Nat → Nat → Int := xup2 (xup2 V a 8 (V a 8 + 1)) b 8 (V b 8 + 1)
theorem s_sew {x y p t : Int} {a b : Nat} (hT : xTr T R) (hx : 0 ≤ x ∧ x < 40) (ha : R 2 x.toNat = some a) (hTa : T a = (2, 0)) (hy : 0 ≤ y ∧ y < 40) (hb : R 2 y.toNat = some b) (hTb : T b = (2, 0)) (hab : ¬ x = y → ¬ a = b)
    (va : ∀ k, k < 13 → -2147483648 ≤ V a k ∧ V a k ≤ 2147483647) (vb : ∀ k, k < 13 → -2147483648 ≤ V b k ∧ V b k ≤ 2147483647) (a0 : 0 ≤ V a 0 ∧ V a 0 ≤ 12) (b0 : 0 ≤ V b 0 ∧ V b 0 ≤ 12) (a5 : 0 ≤ V a 5 ∧ V a 5 ≤ 9) (b5 : 0 ≤ V b 5 ∧ V b 5 ≤ 9) (hp : -2147483648 ≤ p ∧ p ≤ 2147483647) (ht : -2147483648 ≤ t ∧ t ≤ 2147483647) :
    X sc (d + 8) 65 [.ref 0, xw x, xw y, xw p, xw t] (T, z, xv V, J, R) =
      if (¬ x = y) ∧ (1 ≤ p ∧ p ≤ 12) ∧ (1 ≤ t ∧ t ≤ 50) then
        (if xSew V a = 0 ∨ xSew V b = 0 then xTw 9 T z V J R
         else some (.inl (some (xw (min (p * min (V a 0) (V b 0) * t) (min (V a 5) (V b 5) * (20 - p) * min (V a 0) (V b 0))))), (T, z, xv (xSm2 V a b), J, R)))
      else xTw 8 T z V J R := by
  have sin : ∀ q, -2147483648 ≤ xSew V q ∧ xSew V q ≤ 2147483647 := by
    intro q
    unfold xSew
    repeat' split
    all_goals decide
  rw [eX6_sew, bX6_sew_0 hT.1, s_part_y hT hx ha, xret_v, bX6_sew_5 hT.1, s_part_y hT hy hb, xret_v, bX6_sew_12, s_checkDifferent (by omega) (by omega)]
  by_cases c1 : x = y
  · rw [if_pos c1, xret_w w_65, if_neg (fun q => q.1 c1)]
  · have nab := hab c1
    rw [if_neg c1, xret_n, bX6_sew_19, s_checkArgument hp (by decide) (by decide)]
    by_cases c2 : 1 ≤ p ∧ p ≤ 12
    · rw [if_pos c2, xret_n, bX6_sew_26, s_checkArgument ht (by decide) (by decide)]
      by_cases c3 : 1 ≤ t ∧ t ≤ 50
      · rw [if_pos c3, xret_n, if_pos (And.intro c1 (And.intro c2 c3)), bX6_sew_34 hTa, s_canBeSewn hTa (va 8 (by decide)) (va 11 (by decide)) (va 12 (by decide)), xret_v, bX6_sew_39 (sin _)]
        by_cases c4 : xSew V a = 0
        · rw [if_pos c4, bX6_sew_50 (by omega), if_pos (Or.inl c4)]; rfl
        · rw [if_neg c4, bX6_sew_42 hTb, s_canBeSewn hTb (vb 8 (by decide)) (vb 11 (by decide)) (vb 12 (by decide)), xret_v, bX6_sew_47 (sin _)]
          by_cases c5 : xSew V b = 0
          · rw [if_pos c5, bX6_sew_50 (by omega), if_pos (Or.inr c5)]; rfl
          · have e1 : xup2 V a 8 (V a 8 + 1) b 8 = V b 8 := by
              simp only [xup2, show ¬ b = a from fun q => nab q.symm, false_and, if_false]
            have ea : ∀ k, ¬ k = 8 → xSm2 V a b a k = V a k := by intro k hk; simp [xSm2, xup2, hk]
            have eb : ∀ k, ¬ k = 8 → xSm2 V a b b k = V b k := by intro k hk; simp [xSm2, xup2, hk]
            have m1 : 0 ≤ min (V a 0) (V b 0) ∧ min (V a 0) (V b 0) ≤ 12 := by omega
            have m2 : 0 ≤ min (V a 5) (V b 5) ∧ min (V a 5) (V b 5) ≤ 9 := by omega
            have b1 := mul_bd (mul_bd (a := p) (A := 12) (by omega) m1) (b := t) (B := 50) (by omega)
            have b2 := mul_bd (mul_bd m2 (b := 20 - p) (B := 20) (by omega)) m1
            have k : XR sc (d + 7) 65 95 [some (.ref 0), some (xw x), some (xw y), some (xw p), some (xw t), some (.ref a), some (.ref b), none, none, none, none] [xw (min (V a 0) (V b 0))] (T, z, xv (xSm2 V a b), J, R) = some (.inl (some (xw (min (p * min (V a 0) (V b 0) * t) (min (V a 5) (V b 5) * (20 - p) * min (V a 0) (V b 0))))), (T, z, xv (xSm2 V a b), J, R)) := by
              rw [bX6_sew_95 hTa hTb, ea 5 (by decide), eb 5 (by decide), s_min (va 5 (by decide)) (vb 5 (by decide)), xret_v, bX6_sew_110, s_min (by omega) (by omega), xret_v, bX6_sew_140]
            rw [if_neg c5, if_neg (fun q => q.elim c4 c5), bX6_sew_60 hTa hTb, e1]
            show xret 65 (XR sc (d + 7) 65) 92 95 _ _ (X sc (d + 7) 159 [xw (xSm2 V a b a 0), xw (xSm2 V a b b 0)] (T, z, xv (xSm2 V a b), J, R)) = _
            rw [ea 0 (by decide), eb 0 (by decide), s_min (va 0 (by decide)) (vb 0 (by decide)), xret_v]
            exact k
      · rw [if_neg c3, xret_w w_65, if_neg (fun q => c3 q.2.2)]
    · rw [if_neg c2, xret_w w_65, if_neg (fun q => c2 q.2.1)]
theorem s_sew_x1 {x y p t : Int} (hT : xTr T R) (hx : -2147483648 ≤ x ∧ x ≤ 2147483647) (ha : ¬ (0 ≤ x ∧ x < 40) ∨ R 2 x.toNat = none) :
    X sc (d + 8) 65 [.ref 0, xw x, xw y, xw p, xw t] (T, z, xv V, J, R) = xTw 10 T z V J R := by
  rw [eX6_sew, bX6_sew_0 hT.1, s_part_n hT hx ha, xret_w w_65]
theorem s_sew_x2 {x y p t : Int} {a : Nat} (hT : xTr T R) (hx : 0 ≤ x ∧ x < 40) (ha : R 2 x.toNat = some a) (hy : -2147483648 ≤ y ∧ y ≤ 2147483647) (hb : ¬ (0 ≤ y ∧ y < 40) ∨ R 2 y.toNat = none) :
    X sc (d + 8) 65 [.ref 0, xw x, xw y, xw p, xw t] (T, z, xv V, J, R) = xTw 10 T z V J R := by
  rw [eX6_sew, bX6_sew_0 hT.1, s_part_y hT hx ha, xret_v, bX6_sew_5 hT.1, s_part_n hT hy hb, xret_w w_65]
end SX6k
