/-! the model at its own addresses, by program (gen4.py) -/
theorem xup2_o {α : Type} {V : Nat → Nat → α} {a b k : Nat} {v : α} (h : ¬ b = a) : xup2 V a k v b = V b := by funext j; simp [xup2, h]
theorem xup2_i {α : Type} {V : Nat → Nat → α} {a k : Nat} {v : α} : xup2 V a k v a k = v := by simp [xup2]
theorem xup2_j {α : Type} {V : Nat → Nat → α} {a k j : Nat} {v : α} (h : ¬ j = k) : xup2 V a k v a j = V a j := by simp [xup2, h]
/-- the model stands at 56, its arrays behind it -/
def xMo (T : Nat → Nat × Nat) (R : Nat → Nat → Option Nat) : Prop := T 56 = (8, 0) ∧ (R 56 1 = some 57 ∧ T 57 = (32, 8)) ∧ (R 56 2 = some 58 ∧ T 58 = (32, 64)) ∧ (R 56 4 = some 59 ∧ T 59 = (32, 40)) ∧ (R 56 5 = some 60 ∧ T 60 = (32, 40)) ∧ (R 56 6 = some 61 ∧ T 61 = (32, 40)) ∧ (R 56 7 = some 62 ∧ T 62 = (32, 40)) ∧ (R 56 8 = some 63 ∧ T 63 = (33, 40)) ∧ (R 56 9 = some 64 ∧ T 64 = (34, 40)) ∧ (R 56 10 = some 65 ∧ T 65 = (32, 40)) ∧ (R 56 11 = some 66 ∧ T 66 = (32, 40)) ∧ (R 56 12 = some 67 ∧ T 67 = (33, 40)) ∧ (R 56 13 = some 68 ∧ T 68 = (32, 40)) ∧ (R 56 14 = some 69 ∧ T 69 = (32, 40)) ∧ (R 56 15 = some 70 ∧ T 70 = (32, 40)) ∧ (R 56 16 = some 71 ∧ T 71 = (32, 8)) ∧ (R 56 18 = some 72 ∧ T 72 = (32, 8)) ∧ (R 56 19 = some 73 ∧ T 73 = (32, 40)) ∧ (R 56 20 = some 74 ∧ T 74 = (32, 42)) ∧ (R 56 21 = some 75 ∧ T 75 = (32, 42)) ∧ (R 56 22 = some 76 ∧ T 76 = (32, 42)) ∧ (R 56 23 = some 77 ∧ T 77 = (32, 42)) ∧ (R 56 25 = some 78 ∧ T 78 = (32, 252)) ∧ (R 56 26 = some 79 ∧ T 79 = (32, 168)) ∧ (R 56 27 = some 80 ∧ T 80 = (32, 168))
section NBLK
variable {sc : xS} {d : Nat} {T : Nat → Nat × Nat} {z : Nat × Nat} {V : Nat → Nat → Int} {J : Nat → Nat → Int64} {R : Nat → Nat → Option Nat}
theorem kq_1 (hM : xMo T R) : R 56 1 = some 57 ∧ T 57 = (32, 8) := hM.2.1
theorem kg_1 (hM : xMo T R) : (R 56 1).getD 0 = 57 := by rw [(kq_1 hM).1]; rfl
theorem kt_1 (hM : xMo T R) : T 57 = (32, 8) := (kq_1 hM).2
theorem kq_2 (hM : xMo T R) : R 56 2 = some 58 ∧ T 58 = (32, 64) := hM.2.2.1
theorem kg_2 (hM : xMo T R) : (R 56 2).getD 0 = 58 := by rw [(kq_2 hM).1]; rfl
theorem kt_2 (hM : xMo T R) : T 58 = (32, 64) := (kq_2 hM).2
theorem kq_4 (hM : xMo T R) : R 56 4 = some 59 ∧ T 59 = (32, 40) := hM.2.2.2.1
theorem kg_4 (hM : xMo T R) : (R 56 4).getD 0 = 59 := by rw [(kq_4 hM).1]; rfl
theorem kt_4 (hM : xMo T R) : T 59 = (32, 40) := (kq_4 hM).2
theorem kq_5 (hM : xMo T R) : R 56 5 = some 60 ∧ T 60 = (32, 40) := hM.2.2.2.2.1
theorem kg_5 (hM : xMo T R) : (R 56 5).getD 0 = 60 := by rw [(kq_5 hM).1]; rfl
theorem kt_5 (hM : xMo T R) : T 60 = (32, 40) := (kq_5 hM).2
theorem kq_6 (hM : xMo T R) : R 56 6 = some 61 ∧ T 61 = (32, 40) := hM.2.2.2.2.2.1
theorem kg_6 (hM : xMo T R) : (R 56 6).getD 0 = 61 := by rw [(kq_6 hM).1]; rfl
theorem kt_6 (hM : xMo T R) : T 61 = (32, 40) := (kq_6 hM).2
theorem kq_7 (hM : xMo T R) : R 56 7 = some 62 ∧ T 62 = (32, 40) := hM.2.2.2.2.2.2.1
theorem kg_7 (hM : xMo T R) : (R 56 7).getD 0 = 62 := by rw [(kq_7 hM).1]; rfl
theorem kt_7 (hM : xMo T R) : T 62 = (32, 40) := (kq_7 hM).2
theorem kq_8 (hM : xMo T R) : R 56 8 = some 63 ∧ T 63 = (33, 40) := hM.2.2.2.2.2.2.2.1
theorem kg_8 (hM : xMo T R) : (R 56 8).getD 0 = 63 := by rw [(kq_8 hM).1]; rfl
theorem kt_8 (hM : xMo T R) : T 63 = (33, 40) := (kq_8 hM).2
theorem kq_9 (hM : xMo T R) : R 56 9 = some 64 ∧ T 64 = (34, 40) := hM.2.2.2.2.2.2.2.2.1
theorem kg_9 (hM : xMo T R) : (R 56 9).getD 0 = 64 := by rw [(kq_9 hM).1]; rfl
theorem kt_9 (hM : xMo T R) : T 64 = (34, 40) := (kq_9 hM).2
theorem kq_10 (hM : xMo T R) : R 56 10 = some 65 ∧ T 65 = (32, 40) := hM.2.2.2.2.2.2.2.2.2.1
theorem kg_10 (hM : xMo T R) : (R 56 10).getD 0 = 65 := by rw [(kq_10 hM).1]; rfl
theorem kt_10 (hM : xMo T R) : T 65 = (32, 40) := (kq_10 hM).2
theorem kq_11 (hM : xMo T R) : R 56 11 = some 66 ∧ T 66 = (32, 40) := hM.2.2.2.2.2.2.2.2.2.2.1
theorem kg_11 (hM : xMo T R) : (R 56 11).getD 0 = 66 := by rw [(kq_11 hM).1]; rfl
theorem kt_11 (hM : xMo T R) : T 66 = (32, 40) := (kq_11 hM).2
theorem kq_12 (hM : xMo T R) : R 56 12 = some 67 ∧ T 67 = (33, 40) := hM.2.2.2.2.2.2.2.2.2.2.2.1
theorem kg_12 (hM : xMo T R) : (R 56 12).getD 0 = 67 := by rw [(kq_12 hM).1]; rfl
theorem kt_12 (hM : xMo T R) : T 67 = (33, 40) := (kq_12 hM).2
theorem kq_13 (hM : xMo T R) : R 56 13 = some 68 ∧ T 68 = (32, 40) := hM.2.2.2.2.2.2.2.2.2.2.2.2.1
theorem kg_13 (hM : xMo T R) : (R 56 13).getD 0 = 68 := by rw [(kq_13 hM).1]; rfl
theorem kt_13 (hM : xMo T R) : T 68 = (32, 40) := (kq_13 hM).2
theorem kq_14 (hM : xMo T R) : R 56 14 = some 69 ∧ T 69 = (32, 40) := hM.2.2.2.2.2.2.2.2.2.2.2.2.2.1
theorem kg_14 (hM : xMo T R) : (R 56 14).getD 0 = 69 := by rw [(kq_14 hM).1]; rfl
theorem kt_14 (hM : xMo T R) : T 69 = (32, 40) := (kq_14 hM).2
theorem kq_15 (hM : xMo T R) : R 56 15 = some 70 ∧ T 70 = (32, 40) := hM.2.2.2.2.2.2.2.2.2.2.2.2.2.2.1
theorem kg_15 (hM : xMo T R) : (R 56 15).getD 0 = 70 := by rw [(kq_15 hM).1]; rfl
theorem kt_15 (hM : xMo T R) : T 70 = (32, 40) := (kq_15 hM).2
theorem kq_16 (hM : xMo T R) : R 56 16 = some 71 ∧ T 71 = (32, 8) := hM.2.2.2.2.2.2.2.2.2.2.2.2.2.2.2.1
theorem kg_16 (hM : xMo T R) : (R 56 16).getD 0 = 71 := by rw [(kq_16 hM).1]; rfl
theorem kt_16 (hM : xMo T R) : T 71 = (32, 8) := (kq_16 hM).2
theorem kq_18 (hM : xMo T R) : R 56 18 = some 72 ∧ T 72 = (32, 8) := hM.2.2.2.2.2.2.2.2.2.2.2.2.2.2.2.2.1
theorem kg_18 (hM : xMo T R) : (R 56 18).getD 0 = 72 := by rw [(kq_18 hM).1]; rfl
theorem kt_18 (hM : xMo T R) : T 72 = (32, 8) := (kq_18 hM).2
theorem kq_19 (hM : xMo T R) : R 56 19 = some 73 ∧ T 73 = (32, 40) := hM.2.2.2.2.2.2.2.2.2.2.2.2.2.2.2.2.2.1
theorem kg_19 (hM : xMo T R) : (R 56 19).getD 0 = 73 := by rw [(kq_19 hM).1]; rfl
theorem kt_19 (hM : xMo T R) : T 73 = (32, 40) := (kq_19 hM).2
theorem kq_20 (hM : xMo T R) : R 56 20 = some 74 ∧ T 74 = (32, 42) := hM.2.2.2.2.2.2.2.2.2.2.2.2.2.2.2.2.2.2.1
theorem kg_20 (hM : xMo T R) : (R 56 20).getD 0 = 74 := by rw [(kq_20 hM).1]; rfl
theorem kt_20 (hM : xMo T R) : T 74 = (32, 42) := (kq_20 hM).2
theorem kq_21 (hM : xMo T R) : R 56 21 = some 75 ∧ T 75 = (32, 42) := hM.2.2.2.2.2.2.2.2.2.2.2.2.2.2.2.2.2.2.2.1
theorem kg_21 (hM : xMo T R) : (R 56 21).getD 0 = 75 := by rw [(kq_21 hM).1]; rfl
theorem kt_21 (hM : xMo T R) : T 75 = (32, 42) := (kq_21 hM).2
theorem kq_22 (hM : xMo T R) : R 56 22 = some 76 ∧ T 76 = (32, 42) := hM.2.2.2.2.2.2.2.2.2.2.2.2.2.2.2.2.2.2.2.2.1
theorem kg_22 (hM : xMo T R) : (R 56 22).getD 0 = 76 := by rw [(kq_22 hM).1]; rfl
theorem kt_22 (hM : xMo T R) : T 76 = (32, 42) := (kq_22 hM).2
theorem kq_23 (hM : xMo T R) : R 56 23 = some 77 ∧ T 77 = (32, 42) := hM.2.2.2.2.2.2.2.2.2.2.2.2.2.2.2.2.2.2.2.2.2.1
theorem kg_23 (hM : xMo T R) : (R 56 23).getD 0 = 77 := by rw [(kq_23 hM).1]; rfl
theorem kt_23 (hM : xMo T R) : T 77 = (32, 42) := (kq_23 hM).2
theorem kq_25 (hM : xMo T R) : R 56 25 = some 78 ∧ T 78 = (32, 252) := hM.2.2.2.2.2.2.2.2.2.2.2.2.2.2.2.2.2.2.2.2.2.2.1
theorem kg_25 (hM : xMo T R) : (R 56 25).getD 0 = 78 := by rw [(kq_25 hM).1]; rfl
theorem kt_25 (hM : xMo T R) : T 78 = (32, 252) := (kq_25 hM).2
theorem kq_26 (hM : xMo T R) : R 56 26 = some 79 ∧ T 79 = (32, 168) := hM.2.2.2.2.2.2.2.2.2.2.2.2.2.2.2.2.2.2.2.2.2.2.2.1
theorem kg_26 (hM : xMo T R) : (R 56 26).getD 0 = 79 := by rw [(kq_26 hM).1]; rfl
theorem kt_26 (hM : xMo T R) : T 79 = (32, 168) := (kq_26 hM).2
theorem kq_27 (hM : xMo T R) : R 56 27 = some 80 ∧ T 80 = (32, 168) := hM.2.2.2.2.2.2.2.2.2.2.2.2.2.2.2.2.2.2.2.2.2.2.2.2
theorem kg_27 (hM : xMo T R) : (R 56 27).getD 0 = 80 := by rw [(kq_27 hM).1]; rfl
theorem kt_27 (hM : xMo T R) : T 80 = (32, 168) := (kq_27 hM).2
theorem n_thrown_0  (hM : xMo T R)  : XR sc d 92 0 [some (.ref 56)] [] (T, z, xv V, J, R) = some (.inl (some (xw (V 56 28))), (T, z, xv V, J, R)) := by
  have h := bX7_thrown_0 (sc := sc) (d := d) (T := T) (z := z) (V := V) (J := J) (R := R) (a0 := 56) hM.1
  exact h
theorem n_fails_0 {x1 : Int} (hM : xMo T R) (g2 : -2147483648 ≤ x1 ∧ x1 ≤ 2147483647) : XR sc d 93 0 [some (.ref 56), some (xw x1)] [] (T, z, xv V, J, R) = if x1 ≤ 0 then XR sc d 93 13 [some (.ref 56), some (xw x1)] [] (T, z, xv (xup2 V 56 28 x1), J, R) else XR sc d 93 9 [some (.ref 56), some (xw x1)] [] (T, z, xv (xup2 V 56 28 x1), J, R) := by
  have h := bX7_fails_0 (sc := sc) (d := d) (T := T) (z := z) (V := V) (J := J) (R := R) (x1 := x1) (a0 := 56) hM.1 (by first | exact g2 | (simp (disch := decide) only [xup2_j, xup2_o, xup2_i]; exact g2))
  exact h
theorem n_isHide_0 {x1 : Int} (hM : xMo T R)  : XR sc d 95 0 [some (.ref 56), some (xw x1)] [] (T, z, xv V, J, R) = xret 95 (XR sc d 95) 8 11 [some (.ref 56), some (xw x1)] [] (X sc d 94 [xw x1, xw 0, xw ((V 56 0) - 1)] (T, z, xv V, J, R)) := by
  have h := bX7_isHide_0 (sc := sc) (d := d) (T := T) (z := z) (V := V) (J := J) (R := R) (x1 := x1) (a0 := 56) hM.1
  exact h
theorem n_isPart_0 {x1 : Int} (hM : xMo T R)  : XR sc d 96 0 [some (.ref 56), some (xw x1)] [] (T, z, xv V, J, R) = xret 96 (XR sc d 96) 8 11 [some (.ref 56), some (xw x1)] [] (X sc d 94 [xw x1, xw 0, xw ((V 56 3) - 1)] (T, z, xv V, J, R)) := by
  have h := bX7_isPart_0 (sc := sc) (d := d) (T := T) (z := z) (V := V) (J := J) (R := R) (x1 := x1) (a0 := 56) hM.1
  exact h
theorem n_hide_15 {o1 : Option Value} {s0 : Value} (hM : xMo T R) (g2 : -2147483648 ≤ (V 56 0) ∧ (V 56 0) ≤ 2147483647) : XR sc d 99 15 [some (.ref 56), o1] [s0] (T, z, xv V, J, R) = if (V 56 0) = 8 then XR sc d 99 24 [some (.ref 56), o1] [s0] (T, z, xv V, J, R) else XR sc d 99 28 [some (.ref 56), o1] [s0] (T, z, xv V, J, R) := by
  have h := bX7_hide_15 (sc := sc) (d := d) (T := T) (z := z) (V := V) (J := J) (R := R) (o1 := o1) (s0 := s0) (a0 := 56) hM.1 (by first | exact g2 | (simp (disch := decide) only [xup2_j, xup2_o, xup2_i]; exact g2))
  exact h
theorem n_hide_29 {o0 o1 : Option Value} {y0 : Int} (hM : xMo T R)  : XR sc d 99 29 [o0, o1] [xw y0, .ref 56] (T, z, xv V, J, R) = xret 99 (XR sc d 99) 29 32 [o0, o1] [] (X sc d 93 [.ref 56, xw y0] (T, z, xv V, J, R)) := by
  have h := bX7_hide_29 (sc := sc) (d := d) (T := T) (z := z) (V := V) (J := J) (R := R) (o0 := o0) (o1 := o1) (y0 := y0) (b1 := 56) hM.1
  exact h
theorem n_hide_37 {x1 : Int} (hM : xMo T R) (g4 : 0 ≤ (V 56 0) ∧ (V 56 0) < 8) : XR sc d 99 37 [some (.ref 56), some (xw x1)] [] (T, z, xv V, J, R) = some (.inl (some (xw ((((V 56 0) + 1)) - 1))), (T, z, xv (xup2 (xup2 V 57 (V 56 0).toNat x1) 56 0 ((V 56 0) + 1)), J, R)) := by
  have h := bX7_hide_37 (sc := sc) (d := d) (T := T) (z := z) (V := V) (J := J) (R := R) (x1 := x1) (a0 := 56) hM.1 (rgd (kq_1 hM).1) (tgd (kq_1 hM).1 (kq_1 hM).2) (by simp (disch := decide) only [kg_1 hM, kt_1 hM, xup2_o, xup2_i]; omega)
  simp (disch := decide) only [kg_1 hM, xup2_o, xup2_i] at h
  exact h
theorem n_fault_0 {o2 o3 o4 o5 : Option Value} {x1 : Int} (hM : xMo T R)  : XR sc d 100 0 [some (.ref 56), some (xw x1), o2, o3, o4, o5] [] (T, z, xv V, J, R) = xret 100 (XR sc d 100) 3 6 [some (.ref 56), some (xw x1), o2, o3, o4, o5] [.ref 56] (X sc d 95 [.ref 56, xw x1] (T, z, xv V, J, R)) := by
  have h := bX7_fault_0 (sc := sc) (d := d) (T := T) (z := z) (V := V) (J := J) (R := R) (o2 := o2) (o3 := o3) (o4 := o4) (o5 := o5) (x1 := x1) (a0 := 56) hM.1
  exact h
theorem n_fault_22 {o0 o1 o2 o3 o4 o5 : Option Value} {y0 : Int} (hM : xMo T R)  : XR sc d 100 22 [o0, o1, o2, o3, o4, o5] [xw y0, .ref 56] (T, z, xv V, J, R) = xret 100 (XR sc d 100) 22 25 [o0, o1, o2, o3, o4, o5] [] (X sc d 93 [.ref 56, xw y0] (T, z, xv V, J, R)) := by
  have h := bX7_fault_22 (sc := sc) (d := d) (T := T) (z := z) (V := V) (J := J) (R := R) (o0 := o0) (o1 := o1) (o2 := o2) (o3 := o3) (o4 := o4) (o5 := o5) (y0 := y0) (b1 := 56) hM.1
  exact h
theorem n_fault_30 {o4 o5 : Option Value} {x1 x3 x2 : Int} (hM : xMo T R) (g4 : 0 ≤ ((8 * x1) + x3) ∧ ((8 * x1) + x3) < 64) : XR sc d 100 30 [some (.ref 56), some (xw x1), some (xw x2), some (xw x3), o4, o5] [] (T, z, xv V, J, R) = XR sc d 100 53 [some (.ref 56), some (xw x1), some (xw x2), some (xw x3), some (xw 0), some (xw 0)] [] (T, z, xv (xup2 V 58 ((8 * x1) + x3).toNat (iOr (V 58 ((8 * x1) + x3).toNat) (iShl 1 x2))), J, R) := by
  have h := bX7_fault_30 (sc := sc) (d := d) (T := T) (z := z) (V := V) (J := J) (R := R) (o4 := o4) (o5 := o5) (x1 := x1) (x3 := x3) (x2 := x2) (a0 := 56) hM.1 (rgd (kq_2 hM).1) (tgd (kq_2 hM).1 (kq_2 hM).2) (by simp (disch := decide) only [kg_2 hM, kt_2 hM, xup2_o, xup2_i]; omega)
  simp (disch := decide) only [kg_2 hM, xup2_o, xup2_i] at h
  exact h
theorem n_fault_60 {o2 o3 : Option Value} {x4 x1 x5 : Int} (hM : xMo T R) (g3 : 0 ≤ x5 ∧ x5 ≤ 2147483647) (g5 : 0 ≤ ((8 * x1) + (x5 / 12)) ∧ ((8 * x1) + (x5 / 12)) < 64) : XR sc d 100 60 [some (.ref 56), some (xw x1), o2, o3, some (xw x4), some (xw x5)] [] (T, z, xv V, J, R) = XR sc d 100 53 [some (.ref 56), some (xw x1), o2, o3, some (xw (x4 + (iAnd (iShr (V 58 ((8 * x1) + (x5 / 12)).toNat) (x5 % 12)) 1))), some (xw (x5 + 1))] [] (T, z, xv V, J, R) := by
  have h := bX7_fault_60 (sc := sc) (d := d) (T := T) (z := z) (V := V) (J := J) (R := R) (o2 := o2) (o3 := o3) (x4 := x4) (x1 := x1) (x5 := x5) (a0 := 56) hM.1 (rgd (kq_2 hM).1) (by first | exact g3 | (simp (disch := decide) only [kg_2 hM, kt_2 hM, xup2_o, xup2_i]; exact g3)) (tgd (kq_2 hM).1 (kq_2 hM).2) (by simp (disch := decide) only [kg_2 hM, kt_2 hM, xup2_o, xup2_i]; omega)
  simp (disch := decide) only [kg_2 hM, xup2_o, xup2_i] at h
  exact h
theorem n_isWhole_47 {o2 o3 o4 o5 o6 o8 : Option Value} {x1 x9 x7 : Int} (hM : xMo T R) (g4 : 0 ≤ ((8 * x1) + x9) ∧ ((8 * x1) + x9) < 64) (g5 : -2147483648 ≤ (iAnd (V 58 ((8 * x1) + x9).toNat) x7) ∧ (iAnd (V 58 ((8 * x1) + x9).toNat) x7) ≤ 2147483647) : XR sc d 102 47 [some (.ref 56), some (xw x1), o2, o3, o4, o5, o6, some (xw x7), o8, some (xw x9)] [] (T, z, xv V, J, R) = if (iAnd (V 58 ((8 * x1) + x9).toNat) x7) = 0 then XR sc d 102 65 [some (.ref 56), some (xw x1), o2, o3, o4, o5, o6, some (xw x7), o8, some (xw x9)] [] (T, z, xv V, J, R) else XR sc d 102 69 [some (.ref 56), some (xw x1), o2, o3, o4, o5, o6, some (xw x7), o8, some (xw x9)] [] (T, z, xv V, J, R) := by
  have h := bX7_isWhole_47 (sc := sc) (d := d) (T := T) (z := z) (V := V) (J := J) (R := R) (o2 := o2) (o3 := o3) (o4 := o4) (o5 := o5) (o6 := o6) (o8 := o8) (x1 := x1) (x9 := x9) (x7 := x7) (a0 := 56) hM.1 (rgd (kq_2 hM).1) (tgd (kq_2 hM).1 (kq_2 hM).2) (by simp (disch := decide) only [kg_2 hM, kt_2 hM, xup2_o, xup2_i]; omega) (by first | exact g5 | (simp (disch := decide) only [kg_2 hM, kt_2 hM, xup2_o, xup2_i]; exact g5))
  simp (disch := decide) only [kg_2 hM, xup2_o, xup2_i] at h
  exact h
theorem n_thicknessOf_0 {x1 x2 x3 : Int} (hM : xMo T R) (g4 : 0 ≤ x1 ∧ x1 < 8) (g5 : -2147483648 ≤ (x2 + x3) ∧ (x2 + x3) ≤ 2147483647) : XR sc d 103 0 [some (.ref 56), some (xw x1), some (xw x2), some (xw x3)] [] (T, z, xv V, J, R) = if (x2 + x3) ≤ 5 then XR sc d 103 17 [some (.ref 56), some (xw x1), some (xw x2), some (xw x3)] [xw (V 57 x1.toNat)] (T, z, xv V, J, R) else XR sc d 103 13 [some (.ref 56), some (xw x1), some (xw x2), some (xw x3)] [xw (V 57 x1.toNat)] (T, z, xv V, J, R) := by
  have h := bX7_thicknessOf_0 (sc := sc) (d := d) (T := T) (z := z) (V := V) (J := J) (R := R) (x1 := x1) (x2 := x2) (x3 := x3) (a0 := 56) hM.1 (rgd (kq_1 hM).1) (tgd (kq_1 hM).1 (kq_1 hM).2) (by simp (disch := decide) only [kg_1 hM, kt_1 hM, xup2_o, xup2_i]; omega) (by first | exact g5 | (simp (disch := decide) only [kg_1 hM, kt_1 hM, xup2_o, xup2_i]; exact g5))
  simp (disch := decide) only [kg_1 hM, xup2_o, xup2_i] at h
  exact h
theorem n_cut_0 {o2 o3 o4 o5 o6 o7 o8 o9 o10 : Option Value} {x1 : Int} (hM : xMo T R)  : XR sc d 104 0 [some (.ref 56), some (xw x1), o2, o3, o4, o5, o6, o7, o8, o9, o10] [] (T, z, xv V, J, R) = xret 104 (XR sc d 104) 2 5 [some (.ref 56), some (xw x1), o2, o3, o4, o5, o6, o7, o8, o9, o10] [] (X sc d 95 [.ref 56, xw x1] (T, z, xv V, J, R)) := by
  have h := bX7_cut_0 (sc := sc) (d := d) (T := T) (z := z) (V := V) (J := J) (R := R) (o2 := o2) (o3 := o3) (o4 := o4) (o5 := o5) (o6 := o6) (o7 := o7) (o8 := o8) (o9 := o9) (o10 := o10) (x1 := x1) (a0 := 56) hM.1
  exact h
theorem n_cut_68 {o7 o8 o9 o10 : Option Value} {x1 x2 x3 x4 x5 x6 : Int} (hM : xMo T R)  : XR sc d 104 68 [some (.ref 56), some (xw x1), some (xw x2), some (xw x3), some (xw x4), some (xw x5), some (xw x6), o7, o8, o9, o10] [] (T, z, xv V, J, R) = xret 104 (XR sc d 104) 78 81 [some (.ref 56), some (xw x1), some (xw x2), some (xw x3), some (xw x4), some (xw x5), some (xw x6), o7, o8, o9, o10] [] (X sc d 102 [.ref 56, xw x1, xw x2, xw x3, xw x4, xw x5, xw x6] (T, z, xv V, J, R)) := by
  have h := bX7_cut_68 (sc := sc) (d := d) (T := T) (z := z) (V := V) (J := J) (R := R) (o7 := o7) (o8 := o8) (o9 := o9) (o10 := o10) (x1 := x1) (x2 := x2) (x3 := x3) (x4 := x4) (x5 := x5) (x6 := x6) (a0 := 56) hM.1
  exact h
theorem n_cut_84 {o1 o2 o3 o4 o5 o6 o7 o8 o9 o10 : Option Value} (hM : xMo T R) (g2 : -2147483648 ≤ (V 56 3) ∧ (V 56 3) ≤ 2147483647) : XR sc d 104 84 [some (.ref 56), o1, o2, o3, o4, o5, o6, o7, o8, o9, o10] [] (T, z, xv V, J, R) = if 40 ≤ (V 56 3) then XR sc d 104 97 [some (.ref 56), o1, o2, o3, o4, o5, o6, o7, o8, o9, o10] [] (T, z, xv V, J, R) else XR sc d 104 93 [some (.ref 56), o1, o2, o3, o4, o5, o6, o7, o8, o9, o10] [] (T, z, xv V, J, R) := by
  have h := bX7_cut_84 (sc := sc) (d := d) (T := T) (z := z) (V := V) (J := J) (R := R) (o1 := o1) (o2 := o2) (o3 := o3) (o4 := o4) (o5 := o5) (o6 := o6) (o7 := o7) (o8 := o8) (o9 := o9) (o10 := o10) (a0 := 56) hM.1 (by first | exact g2 | (simp (disch := decide) only [xup2_j, xup2_o, xup2_i]; exact g2))
  exact h
theorem n_cut_129 {o0 o1 o2 o3 o4 o5 o6 o7 o8 o9 o10 : Option Value} {y0 : Int} (hM : xMo T R)  : XR sc d 104 129 [o0, o1, o2, o3, o4, o5, o6, o7, o8, o9, o10] [xw y0, .ref 56] (T, z, xv V, J, R) = xret 104 (XR sc d 104) 129 132 [o0, o1, o2, o3, o4, o5, o6, o7, o8, o9, o10] [] (X sc d 93 [.ref 56, xw y0] (T, z, xv V, J, R)) := by
  have h := bX7_cut_129 (sc := sc) (d := d) (T := T) (z := z) (V := V) (J := J) (R := R) (o0 := o0) (o1 := o1) (o2 := o2) (o3 := o3) (o4 := o4) (o5 := o5) (o6 := o6) (o7 := o7) (o8 := o8) (o9 := o9) (o10 := o10) (y0 := y0) (b1 := 56) hM.1
  exact h
theorem n_cut_149 {o3 o5 o6 o7 o8 o9 : Option Value} {x1 x10 x4 x2 : Int} (hM : xMo T R) (g4 : 0 ≤ ((8 * x1) + x10) ∧ ((8 * x1) + x10) < 64) : XR sc d 104 149 [some (.ref 56), some (xw x1), some (xw x2), o3, some (xw x4), o5, o6, o7, o8, o9, some (xw x10)] [] (T, z, xv V, J, R) = XR sc d 104 140 [some (.ref 56), some (xw x1), some (xw x2), o3, some (xw x4), o5, o6, o7, o8, o9, some (xw (x10 + 1))] [] (T, z, xv (xup2 V 58 ((8 * x1) + x10).toNat (iOr (V 58 ((8 * x1) + x10).toNat) (iShl ((iShl 1 x4) - 1) x2))), J, R) := by
  have h := bX7_cut_149 (sc := sc) (d := d) (T := T) (z := z) (V := V) (J := J) (R := R) (o3 := o3) (o5 := o5) (o6 := o6) (o7 := o7) (o8 := o8) (o9 := o9) (x1 := x1) (x10 := x10) (x4 := x4) (x2 := x2) (a0 := 56) hM.1 (rgd (kq_2 hM).1) (tgd (kq_2 hM).1 (kq_2 hM).2) (by simp (disch := decide) only [kg_2 hM, kt_2 hM, xup2_o, xup2_i]; omega)
  simp (disch := decide) only [kg_2 hM, xup2_o, xup2_i] at h
  exact h
theorem n_cut_178 {o2 o6 o7 o8 o9 o10 : Option Value} {x4 x5 x1 x3 : Int} (hM : xMo T R) (g4 : 0 ≤ (V 56 3) ∧ (V 56 3) < 40) (g7 : 0 ≤ (V 56 3) ∧ (V 56 3) < 40) : XR sc d 104 178 [some (.ref 56), some (xw x1), o2, some (xw x3), some (xw x4), some (xw x5), o6, o7, o8, o9, o10] [] (T, z, xv V, J, R) = xret 104 (XR sc d 104) 213 216 [some (.ref 56), some (xw x1), o2, some (xw x3), some (xw x4), some (xw x5), o6, o7, o8, o9, o10] [xw (V 56 3), .ref 61] (X sc d 103 [.ref 56, xw x1, xw x3, xw x5] (T, z, xv (xup2 (xup2 V 59 (V 56 3).toNat x4) 60 (V 56 3).toNat x5), J, R)) := by
  have h := bX7_cut_178 (sc := sc) (d := d) (T := T) (z := z) (V := V) (J := J) (R := R) (o2 := o2) (o6 := o6) (o7 := o7) (o8 := o8) (o9 := o9) (o10 := o10) (x4 := x4) (x5 := x5) (x1 := x1) (x3 := x3) (a0 := 56) hM.1 (rgd (kq_4 hM).1) (tgd (kq_4 hM).1 (kq_4 hM).2) (by simp (disch := decide) only [kg_4 hM, kt_4 hM, kg_5 hM, kt_5 hM, kg_6 hM, kt_6 hM, xup2_o, xup2_i]; omega) (rgd (kq_5 hM).1) (tgd (kq_5 hM).1 (kq_5 hM).2) (by simp (disch := decide) only [kg_4 hM, kt_4 hM, kg_5 hM, kt_5 hM, kg_6 hM, kt_6 hM, xup2_o, xup2_i]; omega) (rgd (kq_6 hM).1)
  simp (disch := decide) only [kg_4 hM, kg_5 hM, kg_6 hM, xup2_o, xup2_i] at h
  exact h
theorem n_cut_216 {o1 o2 o4 o5 o7 o8 o9 o10 : Option Value} {y0 y1 x3 x6 : Int} (hM : xMo T R) (g2 : 0 ≤ y1 ∧ y1 < 40) (g6 : 0 ≤ (V 56 3) ∧ (V 56 3) < 40) (g9 : 0 ≤ (V 56 3) ∧ (V 56 3) < 40) (g10 : x6 = 0 ∨ x6 = 1) (g13 : 0 ≤ (V 56 3) ∧ (V 56 3) < 40) (g16 : 0 ≤ (V 56 3) ∧ (V 56 3) < 40) (g19 : 0 ≤ (V 56 3) ∧ (V 56 3) < 40) : XR sc d 104 216 [some (.ref 56), o1, o2, some (xw x3), o4, o5, some (xw x6), o7, o8, o9, o10] [xw y0, xw y1, .ref 61] (T, z, xv V, J, R) = some (.inl (some (xw ((((V 56 3) + 1)) - 1))), (T, z, xv (xup2 (xup2 (xup2 (xup2 (xup2 (xup2 (xup2 V 61 y1.toNat y0) 62 (V 56 3).toNat x3) 63 (V 56 3).toNat x6) 68 (V 56 3).toNat (-1)) 69 (V 56 3).toNat (-1)) 70 (V 56 3).toNat (-1)) 56 3 ((V 56 3) + 1)), J, R)) := by
  have h := bX7_cut_216 (sc := sc) (d := d) (T := T) (z := z) (V := V) (J := J) (R := R) (o1 := o1) (o2 := o2) (o4 := o4) (o5 := o5) (o7 := o7) (o8 := o8) (o9 := o9) (o10 := o10) (y0 := y0) (y1 := y1) (x3 := x3) (x6 := x6) (b2 := 61) (a0 := 56) (by rw [kt_6 hM]) (by simp (disch := decide) only [kg_6 hM, kt_6 hM, kg_7 hM, kt_7 hM, kg_8 hM, kt_8 hM, kg_13 hM, kt_13 hM, kg_14 hM, kt_14 hM, kg_15 hM, kt_15 hM, xup2_o, xup2_i]; omega) hM.1 (rgd (kq_7 hM).1) (tgd (kq_7 hM).1 (kq_7 hM).2) (by simp (disch := decide) only [kg_6 hM, kt_6 hM, kg_7 hM, kt_7 hM, kg_8 hM, kt_8 hM, kg_13 hM, kt_13 hM, kg_14 hM, kt_14 hM, kg_15 hM, kt_15 hM, xup2_o, xup2_i]; omega) (rgd (kq_8 hM).1) (tgd (kq_8 hM).1 (kq_8 hM).2) (by simp (disch := decide) only [kg_6 hM, kt_6 hM, kg_7 hM, kt_7 hM, kg_8 hM, kt_8 hM, kg_13 hM, kt_13 hM, kg_14 hM, kt_14 hM, kg_15 hM, kt_15 hM, xup2_o, xup2_i]; omega) (by first | exact g10 | (simp (disch := decide) only [kg_6 hM, kt_6 hM, kg_7 hM, kt_7 hM, kg_8 hM, kt_8 hM, kg_13 hM, kt_13 hM, kg_14 hM, kt_14 hM, kg_15 hM, kt_15 hM, xup2_o, xup2_i]; exact g10)) (rgd (kq_13 hM).1) (tgd (kq_13 hM).1 (kq_13 hM).2) (by simp (disch := decide) only [kg_6 hM, kt_6 hM, kg_7 hM, kt_7 hM, kg_8 hM, kt_8 hM, kg_13 hM, kt_13 hM, kg_14 hM, kt_14 hM, kg_15 hM, kt_15 hM, xup2_o, xup2_i]; omega) (rgd (kq_14 hM).1) (tgd (kq_14 hM).1 (kq_14 hM).2) (by simp (disch := decide) only [kg_6 hM, kt_6 hM, kg_7 hM, kt_7 hM, kg_8 hM, kt_8 hM, kg_13 hM, kt_13 hM, kg_14 hM, kt_14 hM, kg_15 hM, kt_15 hM, xup2_o, xup2_i]; omega) (rgd (kq_15 hM).1) (tgd (kq_15 hM).1 (kq_15 hM).2) (by simp (disch := decide) only [kg_6 hM, kt_6 hM, kg_7 hM, kt_7 hM, kg_8 hM, kt_8 hM, kg_13 hM, kt_13 hM, kg_14 hM, kt_14 hM, kg_15 hM, kt_15 hM, xup2_o, xup2_i]; omega)
  simp (disch := decide) only [kg_6 hM, kg_7 hM, kg_8 hM, kg_13 hM, kg_14 hM, kg_15 hM, xup2_o, xup2_i] at h
  exact h
theorem n_find_24 {o2 o3 o4 o5 o6 o7 o8 o9 o10 o11 : Option Value} {y0 x1 : Int} (hM : xMo T R)  : XR sc d 106 24 [some (.ref 56), some (xw x1), o2, o3, o4, o5, o6, o7, o8, o9, o10, o11] [xw y0] (T, z, xv V, J, R) = xret 106 (XR sc d 106) 29 32 [some (.ref 56), some (xw x1), o2, o3, o4, o5, some (xw y0), o7, o8, o9, o10, o11] [.ref 56] (X sc d 95 [.ref 56, xw x1] (T, z, xv V, J, R)) := by
  have h := bX7_find_24 (sc := sc) (d := d) (T := T) (z := z) (V := V) (J := J) (R := R) (o2 := o2) (o3 := o3) (o4 := o4) (o5 := o5) (o6 := o6) (o7 := o7) (o8 := o8) (o9 := o9) (o10 := o10) (o11 := o11) (y0 := y0) (x1 := x1) (a0 := 56) hM.1
  exact h
theorem n_find_49 {o0 o1 o2 o3 o4 o5 o6 o7 o8 o9 o10 o11 : Option Value} {y0 : Int} (hM : xMo T R)  : XR sc d 106 49 [o0, o1, o2, o3, o4, o5, o6, o7, o8, o9, o10, o11] [xw y0, .ref 56] (T, z, xv V, J, R) = xret 106 (XR sc d 106) 49 52 [o0, o1, o2, o3, o4, o5, o6, o7, o8, o9, o10, o11] [] (X sc d 93 [.ref 56, xw y0] (T, z, xv V, J, R)) := by
  have h := bX7_find_49 (sc := sc) (d := d) (T := T) (z := z) (V := V) (J := J) (R := R) (o0 := o0) (o1 := o1) (o2 := o2) (o3 := o3) (o4 := o4) (o5 := o5) (o6 := o6) (o7 := o7) (o8 := o8) (o9 := o9) (o10 := o10) (o11 := o11) (y0 := y0) (b1 := 56) hM.1
  exact h
theorem n_find_84 {o5 o6 o7 o10 o11 : Option Value} {x1 x9 x8 x2 x3 x4 : Int} (hM : xMo T R)  : XR sc d 106 84 [some (.ref 56), some (xw x1), some (xw x2), some (xw x3), some (xw x4), o5, o6, o7, some (xw x8), some (xw x9), o10, o11] [] (T, z, xv V, J, R) = xret 106 (XR sc d 106) 94 97 [some (.ref 56), some (xw x1), some (xw x2), some (xw x3), some (xw x4), o5, o6, o7, some (xw x8), some (xw x9), o10, o11] [] (X sc d 102 [.ref 56, xw x1, xw x9, xw x8, xw x2, xw x3, xw x4] (T, z, xv V, J, R)) := by
  have h := bX7_find_84 (sc := sc) (d := d) (T := T) (z := z) (V := V) (J := J) (R := R) (o5 := o5) (o6 := o6) (o7 := o7) (o10 := o10) (o11 := o11) (x1 := x1) (x9 := x9) (x8 := x8) (x2 := x2) (x3 := x3) (x4 := x4) (a0 := 56) hM.1
  exact h
theorem n_find_100 {o2 o4 o5 o6 o7 o9 o10 o11 : Option Value} {x1 x8 x3 : Int} (hM : xMo T R)  : XR sc d 106 100 [some (.ref 56), some (xw x1), o2, some (xw x3), o4, o5, o6, o7, some (xw x8), o9, o10, o11] [] (T, z, xv V, J, R) = xret 106 (XR sc d 106) 105 108 [some (.ref 56), some (xw x1), o2, some (xw x3), o4, o5, o6, o7, some (xw x8), o9, o10, o11] [] (X sc d 103 [.ref 56, xw x1, xw x8, xw x3] (T, z, xv V, J, R)) := by
  have h := bX7_find_100 (sc := sc) (d := d) (T := T) (z := z) (V := V) (J := J) (R := R) (o2 := o2) (o4 := o4) (o5 := o5) (o6 := o6) (o7 := o7) (o9 := o9) (o10 := o10) (o11 := o11) (x1 := x1) (x8 := x8) (x3 := x3) (a0 := 56) hM.1
  exact h
theorem n_skive_0 {o2 o3 : Option Value} {x1 : Int} (hM : xMo T R)  : XR sc d 107 0 [some (.ref 56), some (xw x1), o2, o3] [] (T, z, xv V, J, R) = xret 107 (XR sc d 107) 3 6 [some (.ref 56), some (xw x1), o2, o3] [.ref 56] (X sc d 96 [.ref 56, xw x1] (T, z, xv V, J, R)) := by
  have h := bX7_skive_0 (sc := sc) (d := d) (T := T) (z := z) (V := V) (J := J) (R := R) (o2 := o2) (o3 := o3) (x1 := x1) (a0 := 56) hM.1
  exact h
theorem n_skive_23 {o3 : Option Value} {s0 : Value} {x2 x1 : Int} (hM : xMo T R) (g4 : 0 ≤ x1 ∧ x1 < 40) (g5 : -2147483648 ≤ x2 ∧ x2 ≤ 2147483647) (g6 : -2147483648 ≤ (V 61 x1.toNat) ∧ (V 61 x1.toNat) ≤ 2147483647) : XR sc d 107 23 [some (.ref 56), some (xw x1), some (xw x2), o3] [s0] (T, z, xv V, J, R) = if x2 < (V 61 x1.toNat) then XR sc d 107 37 [some (.ref 56), some (xw x1), some (xw x2), o3] [s0] (T, z, xv V, J, R) else XR sc d 107 33 [some (.ref 56), some (xw x1), some (xw x2), o3] [s0] (T, z, xv V, J, R) := by
  have h := bX7_skive_23 (sc := sc) (d := d) (T := T) (z := z) (V := V) (J := J) (R := R) (o3 := o3) (s0 := s0) (x2 := x2) (x1 := x1) (a0 := 56) hM.1 (rgd (kq_6 hM).1) (tgd (kq_6 hM).1 (kq_6 hM).2) (by simp (disch := decide) only [kg_6 hM, kt_6 hM, xup2_o, xup2_i]; omega) (by first | exact g5 | (simp (disch := decide) only [kg_6 hM, kt_6 hM, xup2_o, xup2_i]; exact g5)) (by first | exact g6 | (simp (disch := decide) only [kg_6 hM, kt_6 hM, xup2_o, xup2_i]; exact g6))
  simp (disch := decide) only [kg_6 hM, xup2_o, xup2_i] at h
  exact h
theorem n_skive_37 {o2 o3 : Option Value} {s0 : Value} {x1 : Int} (hM : xMo T R) (g4 : 0 ≤ x1 ∧ x1 < 40) (g5 : -2147483648 ≤ (V 66 x1.toNat) ∧ (V 66 x1.toNat) ≤ 2147483647) : XR sc d 107 37 [some (.ref 56), some (xw x1), o2, o3] [s0] (T, z, xv V, J, R) = if (V 66 x1.toNat) ≤ 0 then XR sc d 107 50 [some (.ref 56), some (xw x1), o2, o3] [s0] (T, z, xv V, J, R) else XR sc d 107 46 [some (.ref 56), some (xw x1), o2, o3] [s0] (T, z, xv V, J, R) := by
  have h := bX7_skive_37 (sc := sc) (d := d) (T := T) (z := z) (V := V) (J := J) (R := R) (o2 := o2) (o3 := o3) (s0 := s0) (x1 := x1) (a0 := 56) hM.1 (rgd (kq_11 hM).1) (tgd (kq_11 hM).1 (kq_11 hM).2) (by simp (disch := decide) only [kg_11 hM, kt_11 hM, xup2_o, xup2_i]; omega) (by first | exact g5 | (simp (disch := decide) only [kg_11 hM, kt_11 hM, xup2_o, xup2_i]; exact g5))
  simp (disch := decide) only [kg_11 hM, xup2_o, xup2_i] at h
  exact h
theorem n_skive_51 {o0 o1 o2 o3 : Option Value} {y0 : Int} (hM : xMo T R)  : XR sc d 107 51 [o0, o1, o2, o3] [xw y0, .ref 56] (T, z, xv V, J, R) = xret 107 (XR sc d 107) 51 54 [o0, o1, o2, o3] [] (X sc d 93 [.ref 56, xw y0] (T, z, xv V, J, R)) := by
  have h := bX7_skive_51 (sc := sc) (d := d) (T := T) (z := z) (V := V) (J := J) (R := R) (o0 := o0) (o1 := o1) (o2 := o2) (o3 := o3) (y0 := y0) (b1 := 56) hM.1
  exact h
theorem n_skive_59 {o3 : Option Value} {x1 x2 : Int} (hM : xMo T R) (g4 : 0 ≤ x1 ∧ x1 < 40) : XR sc d 107 59 [some (.ref 56), some (xw x1), some (xw x2), o3] [] (T, z, xv V, J, R) = some (.inl (some (xw (V 61 x1.toNat))), (T, z, xv (xup2 V 61 x1.toNat x2), J, R)) := by
  have h := bX7_skive_59 (sc := sc) (d := d) (T := T) (z := z) (V := V) (J := J) (R := R) (o3 := o3) (x1 := x1) (x2 := x2) (a0 := 56) hM.1 (rgd (kq_6 hM).1) (tgd (kq_6 hM).1 (kq_6 hM).2) (by simp (disch := decide) only [kg_6 hM, kt_6 hM, xup2_o, xup2_i]; omega)
  simp (disch := decide) only [kg_6 hM, xup2_o, xup2_i] at h
  exact h
theorem n_isBuckled_0 {x1 : Int} (hM : xMo T R) (g4 : 0 ≤ x1 ∧ x1 < 40) (g5 : -2147483648 ≤ (V 68 x1.toNat) ∧ (V 68 x1.toNat) ≤ 2147483647) : XR sc d 108 0 [some (.ref 56), some (xw x1)] [] (T, z, xv V, J, R) = if (V 68 x1.toNat) = (-1) then XR sc d 108 14 [some (.ref 56), some (xw x1)] [] (T, z, xv V, J, R) else XR sc d 108 10 [some (.ref 56), some (xw x1)] [] (T, z, xv V, J, R) := by
  have h := bX7_isBuckled_0 (sc := sc) (d := d) (T := T) (z := z) (V := V) (J := J) (R := R) (x1 := x1) (a0 := 56) hM.1 (rgd (kq_13 hM).1) (tgd (kq_13 hM).1 (kq_13 hM).2) (by simp (disch := decide) only [kg_13 hM, kt_13 hM, xup2_o, xup2_i]; omega) (by first | exact g5 | (simp (disch := decide) only [kg_13 hM, kt_13 hM, xup2_o, xup2_i]; exact g5))
  simp (disch := decide) only [kg_13 hM, xup2_o, xup2_i] at h
  exact h
theorem n_pierce_0 {o2 o3 o4 o5 o6 o7 : Option Value} {x1 : Int} (hM : xMo T R)  : XR sc d 109 0 [some (.ref 56), some (xw x1), o2, o3, o4, o5, o6, o7] [] (T, z, xv V, J, R) = xret 109 (XR sc d 109) 2 5 [some (.ref 56), some (xw x1), o2, o3, o4, o5, o6, o7] [] (X sc d 96 [.ref 56, xw x1] (T, z, xv V, J, R)) := by
  have h := bX7_pierce_0 (sc := sc) (d := d) (T := T) (z := z) (V := V) (J := J) (R := R) (o2 := o2) (o3 := o3) (o4 := o4) (o5 := o5) (o6 := o6) (o7 := o7) (x1 := x1) (a0 := 56) hM.1
  exact h
theorem n_pierce_10 {o3 o4 o5 o6 o7 : Option Value} {x2 x1 : Int} (hM : xMo T R) (g4 : 0 ≤ x1 ∧ x1 < 40) : XR sc d 109 10 [some (.ref 56), some (xw x1), some (xw x2), o3, o4, o5, o6, o7] [] (T, z, xv V, J, R) = xret 109 (XR sc d 109) 22 25 [some (.ref 56), some (xw x1), some (xw x2), o3, o4, o5, o6, o7] [] (X sc d 94 [xw x2, xw 3, xw ((4 * (V 59 x1.toNat)) - 3)] (T, z, xv V, J, R)) := by
  have h := bX7_pierce_10 (sc := sc) (d := d) (T := T) (z := z) (V := V) (J := J) (R := R) (o3 := o3) (o4 := o4) (o5 := o5) (o6 := o6) (o7 := o7) (x2 := x2) (x1 := x1) (a0 := 56) hM.1 (rgd (kq_4 hM).1) (tgd (kq_4 hM).1 (kq_4 hM).2) (by simp (disch := decide) only [kg_4 hM, kt_4 hM, xup2_o, xup2_i]; omega)
  simp (disch := decide) only [kg_4 hM, xup2_o, xup2_i] at h
  exact h
theorem n_pierce_40 {o3 o4 o5 o6 o7 : Option Value} {x1 x2 : Int} (hM : xMo T R) (g4 : 0 ≤ x1 ∧ x1 < 40) (g5 : -2147483648 ≤ (jCmp ((jShr (J 64 x1.toNat) (x2 - 1)) &&& (7 : Int64)) (Int64.ofNat 0)) ∧ (jCmp ((jShr (J 64 x1.toNat) (x2 - 1)) &&& (7 : Int64)) (Int64.ofNat 0)) ≤ 2147483647) : XR sc d 109 40 [some (.ref 56), some (xw x1), some (xw x2), o3, o4, o5, o6, o7] [] (T, z, xv V, J, R) = if (jCmp ((jShr (J 64 x1.toNat) (x2 - 1)) &&& (7 : Int64)) (Int64.ofNat 0)) = 0 then XR sc d 109 59 [some (.ref 56), some (xw x1), some (xw x2), o3, o4, o5, o6, o7] [] (T, z, xv V, J, R) else XR sc d 109 89 [some (.ref 56), some (xw x1), some (xw x2), o3, o4, o5, o6, o7] [] (T, z, xv V, J, R) := by
  have h := bX7_pierce_40 (sc := sc) (d := d) (T := T) (z := z) (V := V) (J := J) (R := R) (o3 := o3) (o4 := o4) (o5 := o5) (o6 := o6) (o7 := o7) (x1 := x1) (x2 := x2) (a0 := 56) hM.1 (rgd (kq_9 hM).1) (tgd (kq_9 hM).1 (kq_9 hM).2) (by simp (disch := decide) only [kg_9 hM, kt_9 hM, xup2_o, xup2_i]; omega) (by first | exact g5 | (simp (disch := decide) only [kg_9 hM, kt_9 hM, xup2_o, xup2_i]; exact g5))
  simp (disch := decide) only [kg_9 hM, xup2_o, xup2_i] at h
  exact h
theorem n_pierce_59 {o2 o3 o4 o5 o6 o7 : Option Value} {x1 : Int} (hM : xMo T R) (g4 : 0 ≤ x1 ∧ x1 < 40) (g5 : -2147483648 ≤ (V 66 x1.toNat) ∧ (V 66 x1.toNat) ≤ 2147483647) : XR sc d 109 59 [some (.ref 56), some (xw x1), o2, o3, o4, o5, o6, o7] [] (T, z, xv V, J, R) = if (V 66 x1.toNat) = 0 then XR sc d 109 68 [some (.ref 56), some (xw x1), o2, o3, o4, o5, o6, o7] [] (T, z, xv V, J, R) else XR sc d 109 89 [some (.ref 56), some (xw x1), o2, o3, o4, o5, o6, o7] [] (T, z, xv V, J, R) := by
  have h := bX7_pierce_59 (sc := sc) (d := d) (T := T) (z := z) (V := V) (J := J) (R := R) (o2 := o2) (o3 := o3) (o4 := o4) (o5 := o5) (o6 := o6) (o7 := o7) (x1 := x1) (a0 := 56) hM.1 (rgd (kq_11 hM).1) (tgd (kq_11 hM).1 (kq_11 hM).2) (by simp (disch := decide) only [kg_11 hM, kt_11 hM, xup2_o, xup2_i]; omega) (by first | exact g5 | (simp (disch := decide) only [kg_11 hM, kt_11 hM, xup2_o, xup2_i]; exact g5))
  simp (disch := decide) only [kg_11 hM, xup2_o, xup2_i] at h
  exact h
theorem n_pierce_68 {o2 o3 o4 o5 o6 o7 : Option Value} {x1 : Int} (hM : xMo T R)  : XR sc d 109 68 [some (.ref 56), some (xw x1), o2, o3, o4, o5, o6, o7] [] (T, z, xv V, J, R) = xret 109 (XR sc d 109) 70 73 [some (.ref 56), some (xw x1), o2, o3, o4, o5, o6, o7] [] (X sc d 108 [.ref 56, xw x1] (T, z, xv V, J, R)) := by
  have h := bX7_pierce_68 (sc := sc) (d := d) (T := T) (z := z) (V := V) (J := J) (R := R) (o2 := o2) (o3 := o3) (o4 := o4) (o5 := o5) (o6 := o6) (o7 := o7) (x1 := x1) (a0 := 56) hM.1
  exact h
theorem n_pierce_76 {o2 o3 o4 o5 o6 o7 : Option Value} {x1 : Int} (hM : xMo T R) (g4 : 0 ≤ x1 ∧ x1 < 40) (g5 : -2147483648 ≤ (V 67 x1.toNat) ∧ (V 67 x1.toNat) ≤ 2147483647) : XR sc d 109 76 [some (.ref 56), some (xw x1), o2, o3, o4, o5, o6, o7] [] (T, z, xv V, J, R) = if (V 67 x1.toNat) = 0 then XR sc d 109 85 [some (.ref 56), some (xw x1), o2, o3, o4, o5, o6, o7] [] (T, z, xv V, J, R) else XR sc d 109 89 [some (.ref 56), some (xw x1), o2, o3, o4, o5, o6, o7] [] (T, z, xv V, J, R) := by
  have h := bX7_pierce_76 (sc := sc) (d := d) (T := T) (z := z) (V := V) (J := J) (R := R) (o2 := o2) (o3 := o3) (o4 := o4) (o5 := o5) (o6 := o6) (o7 := o7) (x1 := x1) (a0 := 56) hM.1 (rgd (kq_12 hM).1) (tgd (kq_12 hM).1 (kq_12 hM).2) (by simp (disch := decide) only [kg_12 hM, kt_12 hM, xup2_o, xup2_i]; omega) (by first | exact g5 | (simp (disch := decide) only [kg_12 hM, kt_12 hM, xup2_o, xup2_i]; exact g5))
  simp (disch := decide) only [kg_12 hM, xup2_o, xup2_i] at h
  exact h
theorem n_pierce_120 {o0 o1 o2 o3 o4 o5 o6 o7 : Option Value} {y0 : Int} (hM : xMo T R)  : XR sc d 109 120 [o0, o1, o2, o3, o4, o5, o6, o7] [xw y0, .ref 56] (T, z, xv V, J, R) = xret 109 (XR sc d 109) 120 123 [o0, o1, o2, o3, o4, o5, o6, o7] [] (X sc d 93 [.ref 56, xw y0] (T, z, xv V, J, R)) := by
  have h := bX7_pierce_120 (sc := sc) (d := d) (T := T) (z := z) (V := V) (J := J) (R := R) (o0 := o0) (o1 := o1) (o2 := o2) (o3 := o3) (o4 := o4) (o5 := o5) (o6 := o6) (o7 := o7) (y0 := y0) (b1 := 56) hM.1
  exact h
theorem n_pierce_128 {o3 o4 o5 o6 o7 : Option Value} {x1 x2 : Int} (hM : xMo T R) (g4 : 0 ≤ x1 ∧ x1 < 40) : XR sc d 109 128 [some (.ref 56), some (xw x1), some (xw x2), o3, o4, o5, o6, o7] [] (T, z, xv V, J, R) = XR sc d 109 146 [some (.ref 56), some (xw x1), some (xw x2), o3, o4, o5, some (xw 0), some (xw 0)] [] (T, z, xv V, (xup2 J 64 x1.toNat ((J 64 x1.toNat) ||| (jShl (Int64.ofNat 1) x2))), R) := by
  have h := bX7_pierce_128 (sc := sc) (d := d) (T := T) (z := z) (V := V) (J := J) (R := R) (o3 := o3) (o4 := o4) (o5 := o5) (o6 := o6) (o7 := o7) (x1 := x1) (x2 := x2) (a0 := 56) hM.1 (rgd (kq_9 hM).1) (tgd (kq_9 hM).1 (kq_9 hM).2) (by simp (disch := decide) only [kg_9 hM, kt_9 hM, xup2_o, xup2_i]; omega)
  simp (disch := decide) only [kg_9 hM, xup2_o, xup2_i] at h
  exact h
theorem n_pierce_152 {o2 o3 o4 o5 : Option Value} {x6 x1 x7 : Int} (hM : xMo T R) (g4 : 0 ≤ x1 ∧ x1 < 40) : XR sc d 109 152 [some (.ref 56), some (xw x1), o2, o3, o4, o5, some (xw x6), some (xw x7)] [] (T, z, xv V, J, R) = XR sc d 109 146 [some (.ref 56), some (xw x1), o2, o3, o4, o5, some (xw (x6 + (jToI ((jShr (J 64 x1.toNat) x7) &&& (Int64.ofNat 1))))), some (xw (x7 + 1))] [] (T, z, xv V, J, R) := by
  have h := bX7_pierce_152 (sc := sc) (d := d) (T := T) (z := z) (V := V) (J := J) (R := R) (o2 := o2) (o3 := o3) (o4 := o4) (o5 := o5) (x6 := x6) (x1 := x1) (x7 := x7) (a0 := 56) hM.1 (rgd (kq_9 hM).1) (tgd (kq_9 hM).1 (kq_9 hM).2) (by simp (disch := decide) only [kg_9 hM, kt_9 hM, xup2_o, xup2_i]; omega)
  simp (disch := decide) only [kg_9 hM, xup2_o, xup2_i] at h
  exact h
theorem n_holesOf_4 {o2 : Option Value} {x3 x1 : Int} (hM : xMo T R) (g4 : 0 ≤ x1 ∧ x1 < 40) (g5 : -2147483648 ≤ x3 ∧ x3 ≤ 2147483647) (g6 : -2147483648 ≤ (4 * (V 59 x1.toNat)) ∧ (4 * (V 59 x1.toNat)) ≤ 2147483647) : XR sc d 110 4 [some (.ref 56), some (xw x1), o2, some (xw x3)] [] (T, z, xv V, J, R) = if (4 * (V 59 x1.toNat)) < x3 then XR sc d 110 36 [some (.ref 56), some (xw x1), o2, some (xw x3)] [] (T, z, xv V, J, R) else XR sc d 110 16 [some (.ref 56), some (xw x1), o2, some (xw x3)] [] (T, z, xv V, J, R) := by
  have h := bX7_holesOf_4 (sc := sc) (d := d) (T := T) (z := z) (V := V) (J := J) (R := R) (o2 := o2) (x3 := x3) (x1 := x1) (a0 := 56) hM.1 (rgd (kq_4 hM).1) (tgd (kq_4 hM).1 (kq_4 hM).2) (by simp (disch := decide) only [kg_4 hM, kt_4 hM, xup2_o, xup2_i]; omega) (by first | exact g5 | (simp (disch := decide) only [kg_4 hM, kt_4 hM, xup2_o, xup2_i]; exact g5)) (by first | exact g6 | (simp (disch := decide) only [kg_4 hM, kt_4 hM, xup2_o, xup2_i]; exact g6))
  simp (disch := decide) only [kg_4 hM, xup2_o, xup2_i] at h
  exact h
theorem n_holesOf_16 {x2 x1 x3 : Int} (hM : xMo T R) (g4 : 0 ≤ x1 ∧ x1 < 40) : XR sc d 110 16 [some (.ref 56), some (xw x1), some (xw x2), some (xw x3)] [] (T, z, xv V, J, R) = XR sc d 110 4 [some (.ref 56), some (xw x1), some (xw (x2 + (jToI ((jShr (J 64 x1.toNat) x3) &&& (Int64.ofNat 1))))), some (xw (x3 + 1))] [] (T, z, xv V, J, R) := by
  have h := bX7_holesOf_16 (sc := sc) (d := d) (T := T) (z := z) (V := V) (J := J) (R := R) (x2 := x2) (x1 := x1) (x3 := x3) (a0 := 56) hM.1 (rgd (kq_9 hM).1) (tgd (kq_9 hM).1 (kq_9 hM).2) (by simp (disch := decide) only [kg_9 hM, kt_9 hM, xup2_o, xup2_i]; omega)
  simp (disch := decide) only [kg_9 hM, xup2_o, xup2_i] at h
  exact h
theorem n_match_0 {o2 o3 : Option Value} {x1 : Int} (hM : xMo T R)  : XR sc d 111 0 [some (.ref 56), some (xw x1), o2, o3] [] (T, z, xv V, J, R) = xret 111 (XR sc d 111) 2 5 [some (.ref 56), some (xw x1), o2, o3] [] (X sc d 96 [.ref 56, xw x1] (T, z, xv V, J, R)) := by
  have h := bX7_match_0 (sc := sc) (d := d) (T := T) (z := z) (V := V) (J := J) (R := R) (o2 := o2) (o3 := o3) (x1 := x1) (a0 := 56) hM.1
  exact h
theorem n_match_8 {o1 o3 : Option Value} {x2 : Int} (hM : xMo T R)  : XR sc d 111 8 [some (.ref 56), o1, some (xw x2), o3] [] (T, z, xv V, J, R) = xret 111 (XR sc d 111) 10 13 [some (.ref 56), o1, some (xw x2), o3] [] (X sc d 96 [.ref 56, xw x2] (T, z, xv V, J, R)) := by
  have h := bX7_match_8 (sc := sc) (d := d) (T := T) (z := z) (V := V) (J := J) (R := R) (o1 := o1) (o3 := o3) (x2 := x2) (a0 := 56) hM.1
  exact h
theorem n_match_32 {o0 o1 o2 o3 : Option Value} {y0 : Int} (hM : xMo T R)  : XR sc d 111 32 [o0, o1, o2, o3] [xw y0, .ref 56] (T, z, xv V, J, R) = xret 111 (XR sc d 111) 32 35 [o0, o1, o2, o3] [] (X sc d 93 [.ref 56, xw y0] (T, z, xv V, J, R)) := by
  have h := bX7_match_32 (sc := sc) (d := d) (T := T) (z := z) (V := V) (J := J) (R := R) (o0 := o0) (o1 := o1) (o2 := o2) (o3 := o3) (y0 := y0) (b1 := 56) hM.1
  exact h
theorem n_match_38 {o3 : Option Value} {x1 x2 : Int} (hM : xMo T R) (g4 : 0 ≤ x1 ∧ x1 < 40) (g5 : 0 ≤ x2 ∧ x2 < 40) (g6 : -2147483648 ≤ (V 63 x1.toNat) ∧ (V 63 x1.toNat) ≤ 2147483647) (g7 : -2147483648 ≤ (V 63 x2.toNat) ∧ (V 63 x2.toNat) ≤ 2147483647) : XR sc d 111 38 [some (.ref 56), some (xw x1), some (xw x2), o3] [] (T, z, xv V, J, R) = if (V 63 x1.toNat) = (V 63 x2.toNat) then XR sc d 111 53 [some (.ref 56), some (xw x1), some (xw x2), o3] [] (T, z, xv V, J, R) else XR sc d 111 117 [some (.ref 56), some (xw x1), some (xw x2), o3] [] (T, z, xv V, J, R) := by
  have h := bX7_match_38 (sc := sc) (d := d) (T := T) (z := z) (V := V) (J := J) (R := R) (o3 := o3) (x1 := x1) (x2 := x2) (a0 := 56) hM.1 (rgd (kq_8 hM).1) (tgd (kq_8 hM).1 (kq_8 hM).2) (by simp (disch := decide) only [kg_8 hM, kt_8 hM, xup2_o, xup2_i]; omega) (by simp (disch := decide) only [kg_8 hM, kt_8 hM, xup2_o, xup2_i]; omega) (by first | exact g6 | (simp (disch := decide) only [kg_8 hM, kt_8 hM, xup2_o, xup2_i]; exact g6)) (by first | exact g7 | (simp (disch := decide) only [kg_8 hM, kt_8 hM, xup2_o, xup2_i]; exact g7))
  simp (disch := decide) only [kg_8 hM, xup2_o, xup2_i] at h
  exact h
theorem n_match_53 {o3 : Option Value} {x1 x2 : Int} (hM : xMo T R) (g4 : 0 ≤ x1 ∧ x1 < 40) (g5 : 0 ≤ x2 ∧ x2 < 40) (g6 : -2147483648 ≤ (V 59 x1.toNat) ∧ (V 59 x1.toNat) ≤ 2147483647) (g7 : -2147483648 ≤ (V 59 x2.toNat) ∧ (V 59 x2.toNat) ≤ 2147483647) : XR sc d 111 53 [some (.ref 56), some (xw x1), some (xw x2), o3] [] (T, z, xv V, J, R) = if (V 59 x1.toNat) = (V 59 x2.toNat) then XR sc d 111 68 [some (.ref 56), some (xw x1), some (xw x2), o3] [] (T, z, xv V, J, R) else XR sc d 111 117 [some (.ref 56), some (xw x1), some (xw x2), o3] [] (T, z, xv V, J, R) := by
  have h := bX7_match_53 (sc := sc) (d := d) (T := T) (z := z) (V := V) (J := J) (R := R) (o3 := o3) (x1 := x1) (x2 := x2) (a0 := 56) hM.1 (rgd (kq_4 hM).1) (tgd (kq_4 hM).1 (kq_4 hM).2) (by simp (disch := decide) only [kg_4 hM, kt_4 hM, xup2_o, xup2_i]; omega) (by simp (disch := decide) only [kg_4 hM, kt_4 hM, xup2_o, xup2_i]; omega) (by first | exact g6 | (simp (disch := decide) only [kg_4 hM, kt_4 hM, xup2_o, xup2_i]; exact g6)) (by first | exact g7 | (simp (disch := decide) only [kg_4 hM, kt_4 hM, xup2_o, xup2_i]; exact g7))
  simp (disch := decide) only [kg_4 hM, xup2_o, xup2_i] at h
  exact h
theorem n_match_68 {o3 : Option Value} {x1 x2 : Int} (hM : xMo T R) (g4 : 0 ≤ x1 ∧ x1 < 40) (g5 : 0 ≤ x2 ∧ x2 < 40) (g6 : -2147483648 ≤ (V 60 x1.toNat) ∧ (V 60 x1.toNat) ≤ 2147483647) (g7 : -2147483648 ≤ (V 60 x2.toNat) ∧ (V 60 x2.toNat) ≤ 2147483647) : XR sc d 111 68 [some (.ref 56), some (xw x1), some (xw x2), o3] [] (T, z, xv V, J, R) = if (V 60 x1.toNat) = (V 60 x2.toNat) then XR sc d 111 83 [some (.ref 56), some (xw x1), some (xw x2), o3] [] (T, z, xv V, J, R) else XR sc d 111 117 [some (.ref 56), some (xw x1), some (xw x2), o3] [] (T, z, xv V, J, R) := by
  have h := bX7_match_68 (sc := sc) (d := d) (T := T) (z := z) (V := V) (J := J) (R := R) (o3 := o3) (x1 := x1) (x2 := x2) (a0 := 56) hM.1 (rgd (kq_5 hM).1) (tgd (kq_5 hM).1 (kq_5 hM).2) (by simp (disch := decide) only [kg_5 hM, kt_5 hM, xup2_o, xup2_i]; omega) (by simp (disch := decide) only [kg_5 hM, kt_5 hM, xup2_o, xup2_i]; omega) (by first | exact g6 | (simp (disch := decide) only [kg_5 hM, kt_5 hM, xup2_o, xup2_i]; exact g6)) (by first | exact g7 | (simp (disch := decide) only [kg_5 hM, kt_5 hM, xup2_o, xup2_i]; exact g7))
  simp (disch := decide) only [kg_5 hM, xup2_o, xup2_i] at h
  exact h
theorem n_match_83 {o3 : Option Value} {x1 x2 : Int} (hM : xMo T R) (g4 : 0 ≤ x1 ∧ x1 < 40) (g5 : 0 ≤ x2 ∧ x2 < 40) (g6 : -2147483648 ≤ (V 61 x1.toNat) ∧ (V 61 x1.toNat) ≤ 2147483647) (g7 : -2147483648 ≤ (V 61 x2.toNat) ∧ (V 61 x2.toNat) ≤ 2147483647) : XR sc d 111 83 [some (.ref 56), some (xw x1), some (xw x2), o3] [] (T, z, xv V, J, R) = if (V 61 x1.toNat) = (V 61 x2.toNat) then XR sc d 111 98 [some (.ref 56), some (xw x1), some (xw x2), o3] [] (T, z, xv V, J, R) else XR sc d 111 117 [some (.ref 56), some (xw x1), some (xw x2), o3] [] (T, z, xv V, J, R) := by
  have h := bX7_match_83 (sc := sc) (d := d) (T := T) (z := z) (V := V) (J := J) (R := R) (o3 := o3) (x1 := x1) (x2 := x2) (a0 := 56) hM.1 (rgd (kq_6 hM).1) (tgd (kq_6 hM).1 (kq_6 hM).2) (by simp (disch := decide) only [kg_6 hM, kt_6 hM, xup2_o, xup2_i]; omega) (by simp (disch := decide) only [kg_6 hM, kt_6 hM, xup2_o, xup2_i]; omega) (by first | exact g6 | (simp (disch := decide) only [kg_6 hM, kt_6 hM, xup2_o, xup2_i]; exact g6)) (by first | exact g7 | (simp (disch := decide) only [kg_6 hM, kt_6 hM, xup2_o, xup2_i]; exact g7))
  simp (disch := decide) only [kg_6 hM, xup2_o, xup2_i] at h
  exact h
theorem n_match_98 {o3 : Option Value} {x1 x2 : Int} (hM : xMo T R) (g4 : 0 ≤ x1 ∧ x1 < 40) (g5 : 0 ≤ x2 ∧ x2 < 40) (g6 : -2147483648 ≤ (V 62 x1.toNat) ∧ (V 62 x1.toNat) ≤ 2147483647) (g7 : -2147483648 ≤ (V 62 x2.toNat) ∧ (V 62 x2.toNat) ≤ 2147483647) : XR sc d 111 98 [some (.ref 56), some (xw x1), some (xw x2), o3] [] (T, z, xv V, J, R) = if (V 62 x1.toNat) = (V 62 x2.toNat) then XR sc d 111 113 [some (.ref 56), some (xw x1), some (xw x2), o3] [] (T, z, xv V, J, R) else XR sc d 111 117 [some (.ref 56), some (xw x1), some (xw x2), o3] [] (T, z, xv V, J, R) := by
  have h := bX7_match_98 (sc := sc) (d := d) (T := T) (z := z) (V := V) (J := J) (R := R) (o3 := o3) (x1 := x1) (x2 := x2) (a0 := 56) hM.1 (rgd (kq_7 hM).1) (tgd (kq_7 hM).1 (kq_7 hM).2) (by simp (disch := decide) only [kg_7 hM, kt_7 hM, xup2_o, xup2_i]; omega) (by simp (disch := decide) only [kg_7 hM, kt_7 hM, xup2_o, xup2_i]; omega) (by first | exact g6 | (simp (disch := decide) only [kg_7 hM, kt_7 hM, xup2_o, xup2_i]; exact g6)) (by first | exact g7 | (simp (disch := decide) only [kg_7 hM, kt_7 hM, xup2_o, xup2_i]; exact g7))
  simp (disch := decide) only [kg_7 hM, xup2_o, xup2_i] at h
  exact h
theorem n_strength_0 {o2 : Option Value} {x1 : Int} (hM : xMo T R) (g4 : 0 ≤ x1 ∧ x1 < 40) (g7 : 0 ≤ x1 ∧ x1 < 40) (g10 : 0 ≤ x1 ∧ x1 < 40) (g11 : -2147483648 ≤ (jCmp (J 64 x1.toNat) (Int64.ofNat 0)) ∧ (jCmp (J 64 x1.toNat) (Int64.ofNat 0)) ≤ 2147483647) : XR sc d 112 0 [some (.ref 56), some (xw x1), o2] [] (T, z, xv V, J, R) = if (jCmp (J 64 x1.toNat) (Int64.ofNat 0)) = 0 then XR sc d 112 28 [some (.ref 56), some (xw x1), some (xw ((10 * (V 60 x1.toNat)) * (V 61 x1.toNat)))] [] (T, z, xv V, J, R) else XR sc d 112 32 [some (.ref 56), some (xw x1), some (xw ((10 * (V 60 x1.toNat)) * (V 61 x1.toNat)))] [] (T, z, xv V, J, R) := by
  have h := bX7_strength_0 (sc := sc) (d := d) (T := T) (z := z) (V := V) (J := J) (R := R) (o2 := o2) (x1 := x1) (a0 := 56) hM.1 (rgd (kq_5 hM).1) (tgd (kq_5 hM).1 (kq_5 hM).2) (by simp (disch := decide) only [kg_5 hM, kt_5 hM, kg_6 hM, kt_6 hM, kg_9 hM, kt_9 hM, xup2_o, xup2_i]; omega) (rgd (kq_6 hM).1) (tgd (kq_6 hM).1 (kq_6 hM).2) (by simp (disch := decide) only [kg_5 hM, kt_5 hM, kg_6 hM, kt_6 hM, kg_9 hM, kt_9 hM, xup2_o, xup2_i]; omega) (rgd (kq_9 hM).1) (tgd (kq_9 hM).1 (kq_9 hM).2) (by simp (disch := decide) only [kg_5 hM, kt_5 hM, kg_6 hM, kt_6 hM, kg_9 hM, kt_9 hM, xup2_o, xup2_i]; omega) (by first | exact g11 | (simp (disch := decide) only [kg_5 hM, kt_5 hM, kg_6 hM, kt_6 hM, kg_9 hM, kt_9 hM, xup2_o, xup2_i]; exact g11))
  simp (disch := decide) only [kg_5 hM, kg_6 hM, kg_9 hM, xup2_o, xup2_i] at h
  exact h
theorem n_strength_37 {o2 : Option Value} {x1 y0 : Int} (hM : xMo T R) (g4 : 0 ≤ x1 ∧ x1 < 40) (g5 : -2147483648 ≤ (y0 - (V 65 x1.toNat)) ∧ (y0 - (V 65 x1.toNat)) ≤ 2147483647) : XR sc d 112 37 [some (.ref 56), some (xw x1), o2] [xw y0] (T, z, xv V, J, R) = if 0 ≤ (y0 - (V 65 x1.toNat)) then XR sc d 112 53 [some (.ref 56), some (xw x1), some (xw (y0 - (V 65 x1.toNat)))] [] (T, z, xv V, J, R) else XR sc d 112 49 [some (.ref 56), some (xw x1), some (xw (y0 - (V 65 x1.toNat)))] [] (T, z, xv V, J, R) := by
  have h := bX7_strength_37 (sc := sc) (d := d) (T := T) (z := z) (V := V) (J := J) (R := R) (o2 := o2) (x1 := x1) (y0 := y0) (a0 := 56) hM.1 (rgd (kq_10 hM).1) (tgd (kq_10 hM).1 (kq_10 hM).2) (by simp (disch := decide) only [kg_10 hM, kt_10 hM, xup2_o, xup2_i]; omega) (by first | exact g5 | (simp (disch := decide) only [kg_10 hM, kt_10 hM, xup2_o, xup2_i]; exact g5))
  simp (disch := decide) only [kg_10 hM, xup2_o, xup2_i] at h
  exact h
theorem n_part_0 {o2 : Option Value} {x1 : Int} (hM : xMo T R)  : XR sc d 113 0 [some (.ref 56), some (xw x1), o2] [] (T, z, xv V, J, R) = xret 113 (XR sc d 113) 3 6 [some (.ref 56), some (xw x1), o2] [.ref 56] (X sc d 96 [.ref 56, xw x1] (T, z, xv V, J, R)) := by
  have h := bX7_part_0 (sc := sc) (d := d) (T := T) (z := z) (V := V) (J := J) (R := R) (o2 := o2) (x1 := x1) (a0 := 56) hM.1
  exact h
theorem n_part_28 {o0 o1 o2 : Option Value} {y0 : Int} (hM : xMo T R)  : XR sc d 113 28 [o0, o1, o2] [xw y0, .ref 56] (T, z, xv V, J, R) = xret 113 (XR sc d 113) 28 31 [o0, o1, o2] [] (X sc d 93 [.ref 56, xw y0] (T, z, xv V, J, R)) := by
  have h := bX7_part_28 (sc := sc) (d := d) (T := T) (z := z) (V := V) (J := J) (R := R) (o0 := o0) (o1 := o1) (o2 := o2) (y0 := y0) (b1 := 56) hM.1
  exact h
theorem n_part_92 {o2 : Option Value} {x1 : Int} (hM : xMo T R) (g4 : 0 ≤ x1 ∧ x1 < 40) : XR sc d 113 92 [some (.ref 56), some (xw x1), o2] [] (T, z, xv V, J, R) = some (.inl (some (xw (V 59 x1.toNat))), (T, z, xv V, J, R)) := by
  have h := bX7_part_92 (sc := sc) (d := d) (T := T) (z := z) (V := V) (J := J) (R := R) (o2 := o2) (x1 := x1) (a0 := 56) hM.1 (rgd (kq_4 hM).1) (tgd (kq_4 hM).1 (kq_4 hM).2) (by simp (disch := decide) only [kg_4 hM, kt_4 hM, xup2_o, xup2_i]; omega)
  simp (disch := decide) only [kg_4 hM, xup2_o, xup2_i] at h
  exact h
theorem n_part_99 {o2 : Option Value} {x1 : Int} (hM : xMo T R) (g4 : 0 ≤ x1 ∧ x1 < 40) : XR sc d 113 99 [some (.ref 56), some (xw x1), o2] [] (T, z, xv V, J, R) = some (.inl (some (xw (V 60 x1.toNat))), (T, z, xv V, J, R)) := by
  have h := bX7_part_99 (sc := sc) (d := d) (T := T) (z := z) (V := V) (J := J) (R := R) (o2 := o2) (x1 := x1) (a0 := 56) hM.1 (rgd (kq_5 hM).1) (tgd (kq_5 hM).1 (kq_5 hM).2) (by simp (disch := decide) only [kg_5 hM, kt_5 hM, xup2_o, xup2_i]; omega)
  simp (disch := decide) only [kg_5 hM, xup2_o, xup2_i] at h
  exact h
theorem n_part_106 {o2 : Option Value} {x1 : Int} (hM : xMo T R) (g4 : 0 ≤ x1 ∧ x1 < 40) : XR sc d 113 106 [some (.ref 56), some (xw x1), o2] [] (T, z, xv V, J, R) = some (.inl (some (xw (V 61 x1.toNat))), (T, z, xv V, J, R)) := by
  have h := bX7_part_106 (sc := sc) (d := d) (T := T) (z := z) (V := V) (J := J) (R := R) (o2 := o2) (x1 := x1) (a0 := 56) hM.1 (rgd (kq_6 hM).1) (tgd (kq_6 hM).1 (kq_6 hM).2) (by simp (disch := decide) only [kg_6 hM, kt_6 hM, xup2_o, xup2_i]; omega)
  simp (disch := decide) only [kg_6 hM, xup2_o, xup2_i] at h
  exact h
theorem n_part_113 {o2 : Option Value} {x1 : Int} (hM : xMo T R) (g4 : 0 ≤ x1 ∧ x1 < 40) : XR sc d 113 113 [some (.ref 56), some (xw x1), o2] [] (T, z, xv V, J, R) = some (.inl (some (xw (V 62 x1.toNat))), (T, z, xv V, J, R)) := by
  have h := bX7_part_113 (sc := sc) (d := d) (T := T) (z := z) (V := V) (J := J) (R := R) (o2 := o2) (x1 := x1) (a0 := 56) hM.1 (rgd (kq_7 hM).1) (tgd (kq_7 hM).1 (kq_7 hM).2) (by simp (disch := decide) only [kg_7 hM, kt_7 hM, xup2_o, xup2_i]; omega)
  simp (disch := decide) only [kg_7 hM, xup2_o, xup2_i] at h
  exact h
theorem n_part_120 {o2 : Option Value} {x1 : Int} (hM : xMo T R)  : XR sc d 113 120 [some (.ref 56), some (xw x1), o2] [] (T, z, xv V, J, R) = xret 113 (XR sc d 113) 122 125 [some (.ref 56), some (xw x1), o2] [] (X sc d 110 [.ref 56, xw x1] (T, z, xv V, J, R)) := by
  have h := bX7_part_120 (sc := sc) (d := d) (T := T) (z := z) (V := V) (J := J) (R := R) (o2 := o2) (x1 := x1) (a0 := 56) hM.1
  exact h
theorem n_part_126 {o2 : Option Value} {x1 : Int} (hM : xMo T R) (g4 : 0 ≤ x1 ∧ x1 < 40) : XR sc d 113 126 [some (.ref 56), some (xw x1), o2] [] (T, z, xv V, J, R) = some (.inl (some (xw (V 65 x1.toNat))), (T, z, xv V, J, R)) := by
  have h := bX7_part_126 (sc := sc) (d := d) (T := T) (z := z) (V := V) (J := J) (R := R) (o2 := o2) (x1 := x1) (a0 := 56) hM.1 (rgd (kq_10 hM).1) (tgd (kq_10 hM).1 (kq_10 hM).2) (by simp (disch := decide) only [kg_10 hM, kt_10 hM, xup2_o, xup2_i]; omega)
  simp (disch := decide) only [kg_10 hM, xup2_o, xup2_i] at h
  exact h
theorem n_part_133 {o2 : Option Value} {x1 : Int} (hM : xMo T R)  : XR sc d 113 133 [some (.ref 56), some (xw x1), o2] [] (T, z, xv V, J, R) = xret 113 (XR sc d 113) 135 138 [some (.ref 56), some (xw x1), o2] [] (X sc d 112 [.ref 56, xw x1] (T, z, xv V, J, R)) := by
  have h := bX7_part_133 (sc := sc) (d := d) (T := T) (z := z) (V := V) (J := J) (R := R) (o2 := o2) (x1 := x1) (a0 := 56) hM.1
  exact h
theorem n_part_139 {o2 : Option Value} {x1 : Int} (hM : xMo T R) (g4 : 0 ≤ x1 ∧ x1 < 40) (g7 : 0 ≤ x1 ∧ x1 < 40) (g8 : -2147483648 ≤ (V 68 x1.toNat) ∧ (V 68 x1.toNat) ≤ 2147483647) (g9 : -2147483648 ≤ (V 69 x1.toNat) ∧ (V 69 x1.toNat) ≤ 2147483647) : XR sc d 113 139 [some (.ref 56), some (xw x1), o2] [] (T, z, xv V, J, R) = if (V 69 x1.toNat) ≤ (V 68 x1.toNat) then XR sc d 113 163 [some (.ref 56), some (xw x1), o2] [] (T, z, xv V, J, R) else XR sc d 113 154 [some (.ref 56), some (xw x1), o2] [] (T, z, xv V, J, R) := by
  have h := bX7_part_139 (sc := sc) (d := d) (T := T) (z := z) (V := V) (J := J) (R := R) (o2 := o2) (x1 := x1) (a0 := 56) hM.1 (rgd (kq_13 hM).1) (tgd (kq_13 hM).1 (kq_13 hM).2) (by simp (disch := decide) only [kg_13 hM, kt_13 hM, kg_14 hM, kt_14 hM, xup2_o, xup2_i]; omega) (rgd (kq_14 hM).1) (tgd (kq_14 hM).1 (kq_14 hM).2) (by simp (disch := decide) only [kg_13 hM, kt_13 hM, kg_14 hM, kt_14 hM, xup2_o, xup2_i]; omega) (by first | exact g8 | (simp (disch := decide) only [kg_13 hM, kt_13 hM, kg_14 hM, kt_14 hM, xup2_o, xup2_i]; exact g8)) (by first | exact g9 | (simp (disch := decide) only [kg_13 hM, kt_13 hM, kg_14 hM, kt_14 hM, xup2_o, xup2_i]; exact g9))
  simp (disch := decide) only [kg_13 hM, kg_14 hM, xup2_o, xup2_i] at h
  exact h
theorem n_part_154 {o2 : Option Value} {x1 : Int} (hM : xMo T R) (g4 : 0 ≤ x1 ∧ x1 < 40) : XR sc d 113 154 [some (.ref 56), some (xw x1), o2] [] (T, z, xv V, J, R) = XR sc d 113 169 [some (.ref 56), some (xw x1), o2] [xw (V 68 x1.toNat)] (T, z, xv V, J, R) := by
  have h := bX7_part_154 (sc := sc) (d := d) (T := T) (z := z) (V := V) (J := J) (R := R) (o2 := o2) (x1 := x1) (a0 := 56) hM.1 (rgd (kq_13 hM).1) (tgd (kq_13 hM).1 (kq_13 hM).2) (by simp (disch := decide) only [kg_13 hM, kt_13 hM, xup2_o, xup2_i]; omega)
  simp (disch := decide) only [kg_13 hM, xup2_o, xup2_i] at h
  exact h
theorem n_part_163 {o2 : Option Value} {x1 : Int} (hM : xMo T R) (g4 : 0 ≤ x1 ∧ x1 < 40) : XR sc d 113 163 [some (.ref 56), some (xw x1), o2] [] (T, z, xv V, J, R) = XR sc d 113 169 [some (.ref 56), some (xw x1), o2] [xw (V 69 x1.toNat)] (T, z, xv V, J, R) := by
  have h := bX7_part_163 (sc := sc) (d := d) (T := T) (z := z) (V := V) (J := J) (R := R) (o2 := o2) (x1 := x1) (a0 := 56) hM.1 (rgd (kq_14 hM).1) (tgd (kq_14 hM).1 (kq_14 hM).2) (by simp (disch := decide) only [kg_14 hM, kt_14 hM, xup2_o, xup2_i]; omega)
  simp (disch := decide) only [kg_14 hM, xup2_o, xup2_i] at h
  exact h
theorem n_part_170 {o2 : Option Value} {x1 : Int} (hM : xMo T R) (g4 : 0 ≤ x1 ∧ x1 < 40) (g7 : 0 ≤ x1 ∧ x1 < 40) (g8 : -2147483648 ≤ (V 68 x1.toNat) ∧ (V 68 x1.toNat) ≤ 2147483647) (g9 : -2147483648 ≤ (V 69 x1.toNat) ∧ (V 69 x1.toNat) ≤ 2147483647) : XR sc d 113 170 [some (.ref 56), some (xw x1), o2] [] (T, z, xv V, J, R) = if (V 69 x1.toNat) ≤ (V 68 x1.toNat) then XR sc d 113 194 [some (.ref 56), some (xw x1), o2] [] (T, z, xv V, J, R) else XR sc d 113 185 [some (.ref 56), some (xw x1), o2] [] (T, z, xv V, J, R) := by
  have h := bX7_part_170 (sc := sc) (d := d) (T := T) (z := z) (V := V) (J := J) (R := R) (o2 := o2) (x1 := x1) (a0 := 56) hM.1 (rgd (kq_13 hM).1) (tgd (kq_13 hM).1 (kq_13 hM).2) (by simp (disch := decide) only [kg_13 hM, kt_13 hM, kg_14 hM, kt_14 hM, xup2_o, xup2_i]; omega) (rgd (kq_14 hM).1) (tgd (kq_14 hM).1 (kq_14 hM).2) (by simp (disch := decide) only [kg_13 hM, kt_13 hM, kg_14 hM, kt_14 hM, xup2_o, xup2_i]; omega) (by first | exact g8 | (simp (disch := decide) only [kg_13 hM, kt_13 hM, kg_14 hM, kt_14 hM, xup2_o, xup2_i]; exact g8)) (by first | exact g9 | (simp (disch := decide) only [kg_13 hM, kt_13 hM, kg_14 hM, kt_14 hM, xup2_o, xup2_i]; exact g9))
  simp (disch := decide) only [kg_13 hM, kg_14 hM, xup2_o, xup2_i] at h
  exact h
theorem n_part_185 {o2 : Option Value} {x1 : Int} (hM : xMo T R) (g4 : 0 ≤ x1 ∧ x1 < 40) : XR sc d 113 185 [some (.ref 56), some (xw x1), o2] [] (T, z, xv V, J, R) = XR sc d 113 200 [some (.ref 56), some (xw x1), o2] [xw (V 69 x1.toNat)] (T, z, xv V, J, R) := by
  have h := bX7_part_185 (sc := sc) (d := d) (T := T) (z := z) (V := V) (J := J) (R := R) (o2 := o2) (x1 := x1) (a0 := 56) hM.1 (rgd (kq_14 hM).1) (tgd (kq_14 hM).1 (kq_14 hM).2) (by simp (disch := decide) only [kg_14 hM, kt_14 hM, xup2_o, xup2_i]; omega)
  simp (disch := decide) only [kg_14 hM, xup2_o, xup2_i] at h
  exact h
theorem n_part_194 {o2 : Option Value} {x1 : Int} (hM : xMo T R) (g4 : 0 ≤ x1 ∧ x1 < 40) : XR sc d 113 194 [some (.ref 56), some (xw x1), o2] [] (T, z, xv V, J, R) = XR sc d 113 200 [some (.ref 56), some (xw x1), o2] [xw (V 68 x1.toNat)] (T, z, xv V, J, R) := by
  have h := bX7_part_194 (sc := sc) (d := d) (T := T) (z := z) (V := V) (J := J) (R := R) (o2 := o2) (x1 := x1) (a0 := 56) hM.1 (rgd (kq_13 hM).1) (tgd (kq_13 hM).1 (kq_13 hM).2) (by simp (disch := decide) only [kg_13 hM, kt_13 hM, xup2_o, xup2_i]; omega)
  simp (disch := decide) only [kg_13 hM, xup2_o, xup2_i] at h
  exact h
theorem n_part_201 {o2 : Option Value} {x1 : Int} (hM : xMo T R) (g4 : 0 ≤ x1 ∧ x1 < 40) : XR sc d 113 201 [some (.ref 56), some (xw x1), o2] [] (T, z, xv V, J, R) = some (.inl (some (xw (V 70 x1.toNat))), (T, z, xv V, J, R)) := by
  have h := bX7_part_201 (sc := sc) (d := d) (T := T) (z := z) (V := V) (J := J) (R := R) (o2 := o2) (x1 := x1) (a0 := 56) hM.1 (rgd (kq_15 hM).1) (tgd (kq_15 hM).1 (kq_15 hM).2) (by simp (disch := decide) only [kg_15 hM, kt_15 hM, xup2_o, xup2_i]; omega)
  simp (disch := decide) only [kg_15 hM, xup2_o, xup2_i] at h
  exact h
theorem n_part_208 {o2 : Option Value} {x1 : Int} (hM : xMo T R) (g4 : 0 ≤ x1 ∧ x1 < 40) (g5 : -2147483648 ≤ (V 67 x1.toNat) ∧ (V 67 x1.toNat) ≤ 2147483647) : XR sc d 113 208 [some (.ref 56), some (xw x1), o2] [] (T, z, xv V, J, R) = if (V 67 x1.toNat) = 0 then XR sc d 113 221 [some (.ref 56), some (xw x1), o2] [] (T, z, xv V, J, R) else XR sc d 113 217 [some (.ref 56), some (xw x1), o2] [] (T, z, xv V, J, R) := by
  have h := bX7_part_208 (sc := sc) (d := d) (T := T) (z := z) (V := V) (J := J) (R := R) (o2 := o2) (x1 := x1) (a0 := 56) hM.1 (rgd (kq_12 hM).1) (tgd (kq_12 hM).1 (kq_12 hM).2) (by simp (disch := decide) only [kg_12 hM, kt_12 hM, xup2_o, xup2_i]; omega) (by first | exact g5 | (simp (disch := decide) only [kg_12 hM, kt_12 hM, xup2_o, xup2_i]; exact g5))
  simp (disch := decide) only [kg_12 hM, xup2_o, xup2_i] at h
  exact h
theorem n_placeOf_5 {o2 o3 o5 : Option Value} {x4 x1 : Int} (hM : xMo T R) (g4 : 0 ≤ x1 ∧ x1 < 40) (g5 : -2147483648 ≤ x4 ∧ x4 ≤ 2147483647) (g6 : -2147483648 ≤ (4 * (V 59 x1.toNat)) ∧ (4 * (V 59 x1.toNat)) ≤ 2147483647) : XR sc d 114 5 [some (.ref 56), some (xw x1), o2, o3, some (xw x4), o5] [] (T, z, xv V, J, R) = if (4 * (V 59 x1.toNat)) < x4 then XR sc d 114 72 [some (.ref 56), some (xw x1), o2, o3, some (xw x4), o5] [] (T, z, xv V, J, R) else XR sc d 114 18 [some (.ref 56), some (xw x1), o2, o3, some (xw x4), o5] [] (T, z, xv V, J, R) := by
  have h := bX7_placeOf_5 (sc := sc) (d := d) (T := T) (z := z) (V := V) (J := J) (R := R) (o2 := o2) (o3 := o3) (o5 := o5) (x4 := x4) (x1 := x1) (a0 := 56) hM.1 (rgd (kq_4 hM).1) (tgd (kq_4 hM).1 (kq_4 hM).2) (by simp (disch := decide) only [kg_4 hM, kt_4 hM, xup2_o, xup2_i]; omega) (by first | exact g5 | (simp (disch := decide) only [kg_4 hM, kt_4 hM, xup2_o, xup2_i]; exact g5)) (by first | exact g6 | (simp (disch := decide) only [kg_4 hM, kt_4 hM, xup2_o, xup2_i]; exact g6))
  simp (disch := decide) only [kg_4 hM, xup2_o, xup2_i] at h
  exact h
theorem n_placeOf_18 {o2 o3 o5 : Option Value} {x1 x4 : Int} (hM : xMo T R) (g4 : 0 ≤ x1 ∧ x1 < 40) (g5 : -2147483648 ≤ (jCmp ((jShr (J 64 x1.toNat) x4) &&& (Int64.ofNat 1)) (Int64.ofNat 1)) ∧ (jCmp ((jShr (J 64 x1.toNat) x4) &&& (Int64.ofNat 1)) (Int64.ofNat 1)) ≤ 2147483647) : XR sc d 114 18 [some (.ref 56), some (xw x1), o2, o3, some (xw x4), o5] [] (T, z, xv V, J, R) = if (jCmp ((jShr (J 64 x1.toNat) x4) &&& (Int64.ofNat 1)) (Int64.ofNat 1)) = 0 then XR sc d 114 34 [some (.ref 56), some (xw x1), o2, o3, some (xw x4), o5] [] (T, z, xv V, J, R) else XR sc d 114 38 [some (.ref 56), some (xw x1), o2, o3, some (xw x4), o5] [] (T, z, xv V, J, R) := by
  have h := bX7_placeOf_18 (sc := sc) (d := d) (T := T) (z := z) (V := V) (J := J) (R := R) (o2 := o2) (o3 := o3) (o5 := o5) (x1 := x1) (x4 := x4) (a0 := 56) hM.1 (rgd (kq_9 hM).1) (tgd (kq_9 hM).1 (kq_9 hM).2) (by simp (disch := decide) only [kg_9 hM, kt_9 hM, xup2_o, xup2_i]; omega) (by first | exact g5 | (simp (disch := decide) only [kg_9 hM, kt_9 hM, xup2_o, xup2_i]; exact g5))
  simp (disch := decide) only [kg_9 hM, xup2_o, xup2_i] at h
  exact h
theorem n_frees_0 {x1 : Int} (hM : xMo T R) (g4 : 0 ≤ x1 ∧ x1 < 40) (g7 : 0 ≤ x1 ∧ x1 < 40) (g10 : 0 ≤ x1 ∧ x1 < 40) : XR sc d 115 0 [some (.ref 56), some (xw x1)] [] (T, z, xv V, J, R) = some (.inl none, (T, z, xv (xup2 (xup2 (xup2 V 68 x1.toNat (-1)) 69 x1.toNat (-1)) 70 x1.toNat (-1)), J, R)) := by
  have h := bX7_frees_0 (sc := sc) (d := d) (T := T) (z := z) (V := V) (J := J) (R := R) (x1 := x1) (a0 := 56) hM.1 (rgd (kq_13 hM).1) (tgd (kq_13 hM).1 (kq_13 hM).2) (by simp (disch := decide) only [kg_13 hM, kt_13 hM, kg_14 hM, kt_14 hM, kg_15 hM, kt_15 hM, xup2_o, xup2_i]; omega) (rgd (kq_14 hM).1) (tgd (kq_14 hM).1 (kq_14 hM).2) (by simp (disch := decide) only [kg_13 hM, kt_13 hM, kg_14 hM, kt_14 hM, kg_15 hM, kt_15 hM, xup2_o, xup2_i]; omega) (rgd (kq_15 hM).1) (tgd (kq_15 hM).1 (kq_15 hM).2) (by simp (disch := decide) only [kg_13 hM, kt_13 hM, kg_14 hM, kt_14 hM, kg_15 hM, kt_15 hM, xup2_o, xup2_i]; omega)
  simp (disch := decide) only [kg_13 hM, kg_14 hM, kg_15 hM, xup2_o, xup2_i] at h
  exact h
theorem n_buckle_0 {o2 o3 o4 o5 o6 : Option Value} {x1 : Int} (hM : xMo T R)  : XR sc d 116 0 [some (.ref 56), some (xw x1), o2, o3, o4, o5, o6] [] (T, z, xv V, J, R) = xret 116 (XR sc d 116) 2 5 [some (.ref 56), some (xw x1), o2, o3, o4, o5, o6] [] (X sc d 96 [.ref 56, xw x1] (T, z, xv V, J, R)) := by
  have h := bX7_buckle_0 (sc := sc) (d := d) (T := T) (z := z) (V := V) (J := J) (R := R) (o2 := o2) (o3 := o3) (o4 := o4) (o5 := o5) (o6 := o6) (x1 := x1) (a0 := 56) hM.1
  exact h
theorem n_buckle_27 {o2 o3 o5 o6 : Option Value} {x1 x4 : Int} (hM : xMo T R)  : XR sc d 116 27 [some (.ref 56), some (xw x1), o2, o3, some (xw x4), o5, o6] [] (T, z, xv V, J, R) = xret 116 (XR sc d 116) 31 34 [some (.ref 56), some (xw x1), o2, o3, some (xw x4), o5, o6] [] (X sc d 114 [.ref 56, xw x1, xw x4] (T, z, xv V, J, R)) := by
  have h := bX7_buckle_27 (sc := sc) (d := d) (T := T) (z := z) (V := V) (J := J) (R := R) (o2 := o2) (o3 := o3) (o5 := o5) (o6 := o6) (x1 := x1) (x4 := x4) (a0 := 56) hM.1
  exact h
theorem n_buckle_50 {o2 o3 o4 o5 o6 : Option Value} {x1 : Int} (hM : xMo T R) (g4 : 0 ≤ x1 ∧ x1 < 40) (g5 : -2147483648 ≤ (V 63 x1.toNat) ∧ (V 63 x1.toNat) ≤ 2147483647) : XR sc d 116 50 [some (.ref 56), some (xw x1), o2, o3, o4, o5, o6] [] (T, z, xv V, J, R) = if (V 63 x1.toNat) = 0 then XR sc d 116 80 [some (.ref 56), some (xw x1), o2, o3, o4, o5, o6] [] (T, z, xv V, J, R) else XR sc d 116 59 [some (.ref 56), some (xw x1), o2, o3, o4, o5, o6] [] (T, z, xv V, J, R) := by
  have h := bX7_buckle_50 (sc := sc) (d := d) (T := T) (z := z) (V := V) (J := J) (R := R) (o2 := o2) (o3 := o3) (o4 := o4) (o5 := o5) (o6 := o6) (x1 := x1) (a0 := 56) hM.1 (rgd (kq_8 hM).1) (tgd (kq_8 hM).1 (kq_8 hM).2) (by simp (disch := decide) only [kg_8 hM, kt_8 hM, xup2_o, xup2_i]; omega) (by first | exact g5 | (simp (disch := decide) only [kg_8 hM, kt_8 hM, xup2_o, xup2_i]; exact g5))
  simp (disch := decide) only [kg_8 hM, xup2_o, xup2_i] at h
  exact h
theorem n_buckle_59 {o2 o3 o4 o5 o6 : Option Value} {x1 : Int} (hM : xMo T R)  : XR sc d 116 59 [some (.ref 56), some (xw x1), o2, o3, o4, o5, o6] [] (T, z, xv V, J, R) = xret 116 (XR sc d 116) 61 64 [some (.ref 56), some (xw x1), o2, o3, o4, o5, o6] [] (X sc d 108 [.ref 56, xw x1] (T, z, xv V, J, R)) := by
  have h := bX7_buckle_59 (sc := sc) (d := d) (T := T) (z := z) (V := V) (J := J) (R := R) (o2 := o2) (o3 := o3) (o4 := o4) (o5 := o5) (o6 := o6) (x1 := x1) (a0 := 56) hM.1
  exact h
theorem n_buckle_67 {o2 o3 o4 o5 o6 : Option Value} {x1 : Int} (hM : xMo T R) (g4 : 0 ≤ x1 ∧ x1 < 40) (g5 : -2147483648 ≤ (V 67 x1.toNat) ∧ (V 67 x1.toNat) ≤ 2147483647) : XR sc d 116 67 [some (.ref 56), some (xw x1), o2, o3, o4, o5, o6] [] (T, z, xv V, J, R) = if (V 67 x1.toNat) = 0 then XR sc d 116 76 [some (.ref 56), some (xw x1), o2, o3, o4, o5, o6] [] (T, z, xv V, J, R) else XR sc d 116 80 [some (.ref 56), some (xw x1), o2, o3, o4, o5, o6] [] (T, z, xv V, J, R) := by
  have h := bX7_buckle_67 (sc := sc) (d := d) (T := T) (z := z) (V := V) (J := J) (R := R) (o2 := o2) (o3 := o3) (o4 := o4) (o5 := o5) (o6 := o6) (x1 := x1) (a0 := 56) hM.1 (rgd (kq_12 hM).1) (tgd (kq_12 hM).1 (kq_12 hM).2) (by simp (disch := decide) only [kg_12 hM, kt_12 hM, xup2_o, xup2_i]; omega) (by first | exact g5 | (simp (disch := decide) only [kg_12 hM, kt_12 hM, xup2_o, xup2_i]; exact g5))
  simp (disch := decide) only [kg_12 hM, xup2_o, xup2_i] at h
  exact h
theorem n_buckle_112 {o0 o1 o2 o3 o4 o5 o6 : Option Value} {y0 : Int} (hM : xMo T R)  : XR sc d 116 112 [o0, o1, o2, o3, o4, o5, o6] [xw y0, .ref 56] (T, z, xv V, J, R) = xret 116 (XR sc d 116) 112 115 [o0, o1, o2, o3, o4, o5, o6] [] (X sc d 93 [.ref 56, xw y0] (T, z, xv V, J, R)) := by
  have h := bX7_buckle_112 (sc := sc) (d := d) (T := T) (z := z) (V := V) (J := J) (R := R) (o0 := o0) (o1 := o1) (o2 := o2) (o3 := o3) (o4 := o4) (o5 := o5) (o6 := o6) (y0 := y0) (b1 := 56) hM.1
  exact h
theorem n_buckle_120 {o5 o6 : Option Value} {x1 x2 x3 x4 : Int} (hM : xMo T R) (g4 : 0 ≤ x1 ∧ x1 < 40) (g7 : 0 ≤ x1 ∧ x1 < 40) : XR sc d 116 120 [some (.ref 56), some (xw x1), some (xw x2), some (xw x3), some (xw x4), o5, o6] [] (T, z, xv V, J, R) = xret 116 (XR sc d 116) 143 146 [some (.ref 56), some (xw x1), some (xw x2), some (xw x3), some (xw x4), o5, o6] [xw x1, .ref 70] (X sc d 114 [.ref 56, xw x1, xw x4] (T, z, xv (xup2 (xup2 V 68 x1.toNat x2) 69 x1.toNat x3), J, R)) := by
  have h := bX7_buckle_120 (sc := sc) (d := d) (T := T) (z := z) (V := V) (J := J) (R := R) (o5 := o5) (o6 := o6) (x1 := x1) (x2 := x2) (x3 := x3) (x4 := x4) (a0 := 56) hM.1 (rgd (kq_13 hM).1) (tgd (kq_13 hM).1 (kq_13 hM).2) (by simp (disch := decide) only [kg_13 hM, kt_13 hM, kg_14 hM, kt_14 hM, kg_15 hM, kt_15 hM, xup2_o, xup2_i]; omega) (rgd (kq_14 hM).1) (tgd (kq_14 hM).1 (kq_14 hM).2) (by simp (disch := decide) only [kg_13 hM, kt_13 hM, kg_14 hM, kt_14 hM, kg_15 hM, kt_15 hM, xup2_o, xup2_i]; omega) (rgd (kq_15 hM).1)
  simp (disch := decide) only [kg_13 hM, kg_14 hM, kg_15 hM, xup2_o, xup2_i] at h
  exact h
theorem n_buckle_146 {o2 o3 o4 o5 o6 : Option Value} {y0 y1 x1 : Int} (hM : xMo T R) (g2 : 0 ≤ y1 ∧ y1 < 40) (g6 : 0 ≤ x1 ∧ x1 < 40) : XR sc d 116 146 [some (.ref 56), some (xw x1), o2, o3, o4, o5, o6] [xw y0, xw y1, .ref 70] (T, z, xv V, J, R) = some (.inl (some (xw ((xup2 V 70 y1.toNat y0) 70 x1.toNat))), (T, z, xv (xup2 V 70 y1.toNat y0), J, R)) := by
  have h := bX7_buckle_146 (sc := sc) (d := d) (T := T) (z := z) (V := V) (J := J) (R := R) (o2 := o2) (o3 := o3) (o4 := o4) (o5 := o5) (o6 := o6) (y0 := y0) (y1 := y1) (x1 := x1) (b2 := 70) (a0 := 56) (by rw [kt_15 hM]) (by simp (disch := decide) only [kg_15 hM, kt_15 hM, xup2_o, xup2_i]; omega) hM.1 (rgd (kq_15 hM).1) (tgd (kq_15 hM).1 (kq_15 hM).2) (by simp (disch := decide) only [kg_15 hM, kt_15 hM, xup2_o, xup2_i]; omega)
  simp (disch := decide) only [kg_15 hM, xup2_o, xup2_i] at h
  exact h
theorem n_unbuckle_0 {o2 : Option Value} {x1 : Int} (hM : xMo T R)  : XR sc d 117 0 [some (.ref 56), some (xw x1), o2] [] (T, z, xv V, J, R) = xret 117 (XR sc d 117) 3 6 [some (.ref 56), some (xw x1), o2] [.ref 56] (X sc d 96 [.ref 56, xw x1] (T, z, xv V, J, R)) := by
  have h := bX7_unbuckle_0 (sc := sc) (d := d) (T := T) (z := z) (V := V) (J := J) (R := R) (o2 := o2) (x1 := x1) (a0 := 56) hM.1
  exact h
theorem n_unbuckle_13 {o2 : Option Value} {s0 : Value} {x1 : Int} (hM : xMo T R)  : XR sc d 117 13 [some (.ref 56), some (xw x1), o2] [s0] (T, z, xv V, J, R) = xret 117 (XR sc d 117) 15 18 [some (.ref 56), some (xw x1), o2] [s0] (X sc d 108 [.ref 56, xw x1] (T, z, xv V, J, R)) := by
  have h := bX7_unbuckle_13 (sc := sc) (d := d) (T := T) (z := z) (V := V) (J := J) (R := R) (o2 := o2) (s0 := s0) (x1 := x1) (a0 := 56) hM.1
  exact h
theorem n_unbuckle_26 {o0 o1 o2 : Option Value} {y0 : Int} (hM : xMo T R)  : XR sc d 117 26 [o0, o1, o2] [xw y0, .ref 56] (T, z, xv V, J, R) = xret 117 (XR sc d 117) 26 29 [o0, o1, o2] [] (X sc d 93 [.ref 56, xw y0] (T, z, xv V, J, R)) := by
  have h := bX7_unbuckle_26 (sc := sc) (d := d) (T := T) (z := z) (V := V) (J := J) (R := R) (o0 := o0) (o1 := o1) (o2 := o2) (y0 := y0) (b1 := 56) hM.1
  exact h
theorem n_unbuckle_34 {o2 : Option Value} {x1 : Int} (hM : xMo T R) (g4 : 0 ≤ x1 ∧ x1 < 40) : XR sc d 117 34 [some (.ref 56), some (xw x1), o2] [] (T, z, xv V, J, R) = xret 117 (XR sc d 117) 43 46 [some (.ref 56), some (xw x1), some (xw (V 70 x1.toNat))] [] (X sc d 115 [.ref 56, xw x1] (T, z, xv V, J, R)) := by
  have h := bX7_unbuckle_34 (sc := sc) (d := d) (T := T) (z := z) (V := V) (J := J) (R := R) (o2 := o2) (x1 := x1) (a0 := 56) hM.1 (rgd (kq_15 hM).1) (tgd (kq_15 hM).1 (kq_15 hM).2) (by simp (disch := decide) only [kg_15 hM, kt_15 hM, xup2_o, xup2_i]; omega)
  simp (disch := decide) only [kg_15 hM, xup2_o, xup2_i] at h
  exact h
theorem n_joins_0 {o3 : Option Value} {x1 x2 : Int} (hM : xMo T R) (g4 : 0 ≤ x1 ∧ x1 < 40) (g5 : -2147483648 ≤ (V 68 x1.toNat) ∧ (V 68 x1.toNat) ≤ 2147483647) (g6 : -2147483648 ≤ x2 ∧ x2 ≤ 2147483647) : XR sc d 118 0 [some (.ref 56), some (xw x1), some (xw x2), o3] [] (T, z, xv V, J, R) = if (V 68 x1.toNat) = x2 then XR sc d 118 10 [some (.ref 56), some (xw x1), some (xw x2), o3] [] (T, z, xv V, J, R) else XR sc d 118 20 [some (.ref 56), some (xw x1), some (xw x2), o3] [] (T, z, xv V, J, R) := by
  have h := bX7_joins_0 (sc := sc) (d := d) (T := T) (z := z) (V := V) (J := J) (R := R) (o3 := o3) (x1 := x1) (x2 := x2) (a0 := 56) hM.1 (rgd (kq_13 hM).1) (tgd (kq_13 hM).1 (kq_13 hM).2) (by simp (disch := decide) only [kg_13 hM, kt_13 hM, xup2_o, xup2_i]; omega) (by first | exact g5 | (simp (disch := decide) only [kg_13 hM, kt_13 hM, xup2_o, xup2_i]; exact g5)) (by first | exact g6 | (simp (disch := decide) only [kg_13 hM, kt_13 hM, xup2_o, xup2_i]; exact g6))
  simp (disch := decide) only [kg_13 hM, xup2_o, xup2_i] at h
  exact h
theorem n_joins_10 {o2 : Option Value} {x1 x3 : Int} (hM : xMo T R) (g4 : 0 ≤ x1 ∧ x1 < 40) (g5 : -2147483648 ≤ (V 69 x1.toNat) ∧ (V 69 x1.toNat) ≤ 2147483647) (g6 : -2147483648 ≤ x3 ∧ x3 ≤ 2147483647) : XR sc d 118 10 [some (.ref 56), some (xw x1), o2, some (xw x3)] [] (T, z, xv V, J, R) = if (V 69 x1.toNat) = x3 then XR sc d 118 40 [some (.ref 56), some (xw x1), o2, some (xw x3)] [] (T, z, xv V, J, R) else XR sc d 118 20 [some (.ref 56), some (xw x1), o2, some (xw x3)] [] (T, z, xv V, J, R) := by
  have h := bX7_joins_10 (sc := sc) (d := d) (T := T) (z := z) (V := V) (J := J) (R := R) (o2 := o2) (x1 := x1) (x3 := x3) (a0 := 56) hM.1 (rgd (kq_14 hM).1) (tgd (kq_14 hM).1 (kq_14 hM).2) (by simp (disch := decide) only [kg_14 hM, kt_14 hM, xup2_o, xup2_i]; omega) (by first | exact g5 | (simp (disch := decide) only [kg_14 hM, kt_14 hM, xup2_o, xup2_i]; exact g5)) (by first | exact g6 | (simp (disch := decide) only [kg_14 hM, kt_14 hM, xup2_o, xup2_i]; exact g6))
  simp (disch := decide) only [kg_14 hM, xup2_o, xup2_i] at h
  exact h
theorem n_joins_20 {o2 : Option Value} {x1 x3 : Int} (hM : xMo T R) (g4 : 0 ≤ x1 ∧ x1 < 40) (g5 : -2147483648 ≤ (V 68 x1.toNat) ∧ (V 68 x1.toNat) ≤ 2147483647) (g6 : -2147483648 ≤ x3 ∧ x3 ≤ 2147483647) : XR sc d 118 20 [some (.ref 56), some (xw x1), o2, some (xw x3)] [] (T, z, xv V, J, R) = if (V 68 x1.toNat) = x3 then XR sc d 118 30 [some (.ref 56), some (xw x1), o2, some (xw x3)] [] (T, z, xv V, J, R) else XR sc d 118 44 [some (.ref 56), some (xw x1), o2, some (xw x3)] [] (T, z, xv V, J, R) := by
  have h := bX7_joins_20 (sc := sc) (d := d) (T := T) (z := z) (V := V) (J := J) (R := R) (o2 := o2) (x1 := x1) (x3 := x3) (a0 := 56) hM.1 (rgd (kq_13 hM).1) (tgd (kq_13 hM).1 (kq_13 hM).2) (by simp (disch := decide) only [kg_13 hM, kt_13 hM, xup2_o, xup2_i]; omega) (by first | exact g5 | (simp (disch := decide) only [kg_13 hM, kt_13 hM, xup2_o, xup2_i]; exact g5)) (by first | exact g6 | (simp (disch := decide) only [kg_13 hM, kt_13 hM, xup2_o, xup2_i]; exact g6))
  simp (disch := decide) only [kg_13 hM, xup2_o, xup2_i] at h
  exact h
theorem n_joins_30 {o3 : Option Value} {x1 x2 : Int} (hM : xMo T R) (g4 : 0 ≤ x1 ∧ x1 < 40) (g5 : -2147483648 ≤ (V 69 x1.toNat) ∧ (V 69 x1.toNat) ≤ 2147483647) (g6 : -2147483648 ≤ x2 ∧ x2 ≤ 2147483647) : XR sc d 118 30 [some (.ref 56), some (xw x1), some (xw x2), o3] [] (T, z, xv V, J, R) = if (V 69 x1.toNat) = x2 then XR sc d 118 40 [some (.ref 56), some (xw x1), some (xw x2), o3] [] (T, z, xv V, J, R) else XR sc d 118 44 [some (.ref 56), some (xw x1), some (xw x2), o3] [] (T, z, xv V, J, R) := by
  have h := bX7_joins_30 (sc := sc) (d := d) (T := T) (z := z) (V := V) (J := J) (R := R) (o3 := o3) (x1 := x1) (x2 := x2) (a0 := 56) hM.1 (rgd (kq_14 hM).1) (tgd (kq_14 hM).1 (kq_14 hM).2) (by simp (disch := decide) only [kg_14 hM, kt_14 hM, xup2_o, xup2_i]; omega) (by first | exact g5 | (simp (disch := decide) only [kg_14 hM, kt_14 hM, xup2_o, xup2_i]; exact g5)) (by first | exact g6 | (simp (disch := decide) only [kg_14 hM, kt_14 hM, xup2_o, xup2_i]; exact g6))
  simp (disch := decide) only [kg_14 hM, xup2_o, xup2_i] at h
  exact h
theorem n_shortest_6 {o1 o2 o3 : Option Value} {x4 : Int} (hM : xMo T R) (g2 : -2147483648 ≤ x4 ∧ x4 ≤ 2147483647) (g3 : -2147483648 ≤ (V 56 3) ∧ (V 56 3) ≤ 2147483647) : XR sc d 119 6 [some (.ref 56), o1, o2, o3, some (xw x4)] [] (T, z, xv V, J, R) = if (V 56 3) ≤ x4 then XR sc d 119 55 [some (.ref 56), o1, o2, o3, some (xw x4)] [] (T, z, xv V, J, R) else XR sc d 119 15 [some (.ref 56), o1, o2, o3, some (xw x4)] [] (T, z, xv V, J, R) := by
  have h := bX7_shortest_6 (sc := sc) (d := d) (T := T) (z := z) (V := V) (J := J) (R := R) (o1 := o1) (o2 := o2) (o3 := o3) (x4 := x4) (a0 := 56) hM.1 (by first | exact g2 | (simp (disch := decide) only [xup2_j, xup2_o, xup2_i]; exact g2)) (by first | exact g3 | (simp (disch := decide) only [xup2_j, xup2_o, xup2_i]; exact g3))
  exact h
theorem n_shortest_15 {o3 : Option Value} {x4 x1 x2 : Int} (hM : xMo T R)  : XR sc d 119 15 [some (.ref 56), some (xw x1), some (xw x2), o3, some (xw x4)] [] (T, z, xv V, J, R) = xret 119 (XR sc d 119) 20 23 [some (.ref 56), some (xw x1), some (xw x2), o3, some (xw x4)] [] (X sc d 118 [.ref 56, xw x4, xw x1, xw x2] (T, z, xv V, J, R)) := by
  have h := bX7_shortest_15 (sc := sc) (d := d) (T := T) (z := z) (V := V) (J := J) (R := R) (o3 := o3) (x4 := x4) (x1 := x1) (x2 := x2) (a0 := 56) hM.1
  exact h
theorem n_shortest_26 {o1 o2 : Option Value} {x4 x3 : Int} (hM : xMo T R) (g4 : 0 ≤ x4 ∧ x4 < 40) (g5 : -2147483648 ≤ (V 70 x4.toNat) ∧ (V 70 x4.toNat) ≤ 2147483647) (g6 : -2147483648 ≤ x3 ∧ x3 ≤ 2147483647) : XR sc d 119 26 [some (.ref 56), o1, o2, some (xw x3), some (xw x4)] [] (T, z, xv V, J, R) = if x3 ≤ (V 70 x4.toNat) then XR sc d 119 47 [some (.ref 56), o1, o2, some (xw x3), some (xw x4)] [] (T, z, xv V, J, R) else XR sc d 119 37 [some (.ref 56), o1, o2, some (xw x3), some (xw x4)] [] (T, z, xv V, J, R) := by
  have h := bX7_shortest_26 (sc := sc) (d := d) (T := T) (z := z) (V := V) (J := J) (R := R) (o1 := o1) (o2 := o2) (x4 := x4) (x3 := x3) (a0 := 56) hM.1 (rgd (kq_15 hM).1) (tgd (kq_15 hM).1 (kq_15 hM).2) (by simp (disch := decide) only [kg_15 hM, kt_15 hM, xup2_o, xup2_i]; omega) (by first | exact g5 | (simp (disch := decide) only [kg_15 hM, kt_15 hM, xup2_o, xup2_i]; exact g5)) (by first | exact g6 | (simp (disch := decide) only [kg_15 hM, kt_15 hM, xup2_o, xup2_i]; exact g6))
  simp (disch := decide) only [kg_15 hM, xup2_o, xup2_i] at h
  exact h
theorem n_shortest_37 {o1 o2 o3 : Option Value} {x4 : Int} (hM : xMo T R) (g4 : 0 ≤ x4 ∧ x4 < 40) : XR sc d 119 37 [some (.ref 56), o1, o2, o3, some (xw x4)] [] (T, z, xv V, J, R) = XR sc d 119 48 [some (.ref 56), o1, o2, o3, some (xw x4)] [xw (V 70 x4.toNat)] (T, z, xv V, J, R) := by
  have h := bX7_shortest_37 (sc := sc) (d := d) (T := T) (z := z) (V := V) (J := J) (R := R) (o1 := o1) (o2 := o2) (o3 := o3) (x4 := x4) (a0 := 56) hM.1 (rgd (kq_15 hM).1) (tgd (kq_15 hM).1 (kq_15 hM).2) (by simp (disch := decide) only [kg_15 hM, kt_15 hM, xup2_o, xup2_i]; omega)
  simp (disch := decide) only [kg_15 hM, xup2_o, xup2_i] at h
  exact h
theorem n_finds_8 {o1 o4 o5 o6 o7 : Option Value} {x3 x2 : Int} (hM : xMo T R) (g3 : -2147483648 ≤ x3 ∧ x3 ≤ 2147483647) (g4 : -2147483648 ≤ x2 ∧ x2 ≤ 2147483647) : XR sc d 120 8 [some (.ref 56), o1, some (xw x2), some (xw x3), o4, o5, o6, o7] [] (T, z, xv V, J, R) = if x3 = x2 then XR sc d 120 18 [some (.ref 56), o1, some (xw x2), some (xw x3), o4, o5, o6, o7] [xw x3, .ref 71] (T, z, xv V, J, R) else XR sc d 120 22 [some (.ref 56), o1, some (xw x2), some (xw x3), o4, o5, o6, o7] [xw x3, .ref 71] (T, z, xv V, J, R) := by
  have h := bX7_finds_8 (sc := sc) (d := d) (T := T) (z := z) (V := V) (J := J) (R := R) (o1 := o1) (o4 := o4) (o5 := o5) (o6 := o6) (o7 := o7) (x3 := x3) (x2 := x2) (a0 := 56) hM.1 (rgd (kq_16 hM).1) (by first | exact g3 | (simp (disch := decide) only [kg_16 hM, kt_16 hM, xup2_o, xup2_i]; exact g3)) (by first | exact g4 | (simp (disch := decide) only [kg_16 hM, kt_16 hM, xup2_o, xup2_i]; exact g4))
  simp (disch := decide) only [kg_16 hM, xup2_o, xup2_i] at h
  exact h
theorem n_finds_24 {o0 o1 o2 o4 o5 o6 o7 : Option Value} {y0 y1 x3 : Int} (hM : xMo T R) (g2 : 0 ≤ y1 ∧ y1 < 8) : XR sc d 120 24 [o0, o1, o2, some (xw x3), o4, o5, o6, o7] [xw y0, xw y1, .ref 71] (T, z, xv V, J, R) = XR sc d 120 2 [o0, o1, o2, some (xw (x3 + 1)), o4, o5, o6, o7] [] (T, z, xv (xup2 V 71 y1.toNat y0), J, R) := by
  have h := bX7_finds_24 (sc := sc) (d := d) (T := T) (z := z) (V := V) (J := J) (R := R) (o0 := o0) (o1 := o1) (o2 := o2) (o4 := o4) (o5 := o5) (o6 := o6) (o7 := o7) (y0 := y0) (y1 := y1) (x3 := x3) (b2 := 71) (by rw [kt_16 hM]) (by simp (disch := decide) only [kg_16 hM, kt_16 hM, xup2_o, xup2_i]; omega)
  exact h
theorem n_finds_59 {o1 o2 o3 o6 o7 : Option Value} {x4 x5 : Int} (hM : xMo T R)  : XR sc d 120 59 [some (.ref 56), o1, o2, o3, some (xw x4), some (xw x5), o6, o7] [] (T, z, xv V, J, R) = xret 120 (XR sc d 120) 64 67 [some (.ref 56), o1, o2, o3, some (xw x4), some (xw x5), o6, o7] [] (X sc d 119 [.ref 56, xw x4, xw x5] (T, z, xv V, J, R)) := by
  have h := bX7_finds_59 (sc := sc) (d := d) (T := T) (z := z) (V := V) (J := J) (R := R) (o1 := o1) (o2 := o2) (o3 := o3) (o6 := o6) (o7 := o7) (x4 := x4) (x5 := x5) (a0 := 56) hM.1
  exact h
theorem n_finds_76 {o1 o2 o3 o4 o6 o7 : Option Value} {x5 : Int} (hM : xMo T R) (g4 : 0 ≤ x5 ∧ x5 < 8) (g5 : -2147483648 ≤ (V 71 x5.toNat) ∧ (V 71 x5.toNat) ≤ 2147483647) : XR sc d 120 76 [some (.ref 56), o1, o2, o3, o4, some (xw x5), o6, o7] [] (T, z, xv V, J, R) = if 100000000 ≤ (V 71 x5.toNat) then XR sc d 120 117 [some (.ref 56), o1, o2, o3, o4, some (xw x5), o6, o7] [] (T, z, xv V, J, R) else XR sc d 120 88 [some (.ref 56), o1, o2, o3, o4, some (xw x5), o6, o7] [] (T, z, xv V, J, R) := by
  have h := bX7_finds_76 (sc := sc) (d := d) (T := T) (z := z) (V := V) (J := J) (R := R) (o1 := o1) (o2 := o2) (o3 := o3) (o4 := o4) (o6 := o6) (o7 := o7) (x5 := x5) (a0 := 56) hM.1 (rgd (kq_16 hM).1) (tgd (kq_16 hM).1 (kq_16 hM).2) (by simp (disch := decide) only [kg_16 hM, kt_16 hM, xup2_o, xup2_i]; omega) (by first | exact g5 | (simp (disch := decide) only [kg_16 hM, kt_16 hM, xup2_o, xup2_i]; exact g5))
  simp (disch := decide) only [kg_16 hM, xup2_o, xup2_i] at h
  exact h
theorem n_finds_88 {o1 o2 o3 o7 : Option Value} {x5 x6 x4 : Int} (hM : xMo T R) (g4 : 0 ≤ x5 ∧ x5 < 8) (g5 : 0 ≤ x4 ∧ x4 < 8) (g6 : -2147483648 ≤ (((V 71 x5.toNat) + (16 * x6)) + 1) ∧ (((V 71 x5.toNat) + (16 * x6)) + 1) ≤ 2147483647) (g7 : -2147483648 ≤ (V 71 x4.toNat) ∧ (V 71 x4.toNat) ≤ 2147483647) : XR sc d 120 88 [some (.ref 56), o1, o2, o3, some (xw x4), some (xw x5), some (xw x6), o7] [] (T, z, xv V, J, R) = if (V 71 x4.toNat) ≤ (((V 71 x5.toNat) + (16 * x6)) + 1) then XR sc d 120 117 [some (.ref 56), o1, o2, o3, some (xw x4), some (xw x5), some (xw x6), o7] [] (T, z, xv V, J, R) else XR sc d 120 113 [some (.ref 56), o1, o2, o3, some (xw x4), some (xw x5), some (xw x6), o7] [] (T, z, xv V, J, R) := by
  have h := bX7_finds_88 (sc := sc) (d := d) (T := T) (z := z) (V := V) (J := J) (R := R) (o1 := o1) (o2 := o2) (o3 := o3) (o7 := o7) (x5 := x5) (x6 := x6) (x4 := x4) (a0 := 56) hM.1 (rgd (kq_16 hM).1) (tgd (kq_16 hM).1 (kq_16 hM).2) (by simp (disch := decide) only [kg_16 hM, kt_16 hM, xup2_o, xup2_i]; omega) (by simp (disch := decide) only [kg_16 hM, kt_16 hM, xup2_o, xup2_i]; omega) (by first | exact g6 | (simp (disch := decide) only [kg_16 hM, kt_16 hM, xup2_o, xup2_i]; exact g6)) (by first | exact g7 | (simp (disch := decide) only [kg_16 hM, kt_16 hM, xup2_o, xup2_i]; exact g7))
  simp (disch := decide) only [kg_16 hM, xup2_o, xup2_i] at h
  exact h
theorem n_finds_118 {o1 o2 o3 o5 o6 o7 : Option Value} {y0 x4 : Int} (hM : xMo T R) (g3 : -2147483648 ≤ y0 ∧ y0 ≤ 2147483647) : XR sc d 120 118 [some (.ref 56), o1, o2, o3, some (xw x4), o5, o6, o7] [xw y0] (T, z, xv V, J, R) = if y0 = 0 then XR sc d 120 149 [some (.ref 56), o1, o2, o3, some (xw x4), o5, o6, some (xw y0)] [xw x4, .ref 71] (T, z, xv V, J, R) else XR sc d 120 131 [some (.ref 56), o1, o2, o3, some (xw x4), o5, o6, some (xw y0)] [xw x4, .ref 71] (T, z, xv V, J, R) := by
  have h := bX7_finds_118 (sc := sc) (d := d) (T := T) (z := z) (V := V) (J := J) (R := R) (o1 := o1) (o2 := o2) (o3 := o3) (o5 := o5) (o6 := o6) (o7 := o7) (y0 := y0) (x4 := x4) (a0 := 56) hM.1 (rgd (kq_16 hM).1) (by first | exact g3 | (simp (disch := decide) only [kg_16 hM, kt_16 hM, xup2_o, xup2_i]; exact g3))
  simp (disch := decide) only [kg_16 hM, xup2_o, xup2_i] at h
  exact h
theorem n_finds_131 {o1 o2 o3 o4 o7 : Option Value} {s0 s1 : Value} {x5 x6 : Int} (hM : xMo T R) (g4 : 0 ≤ x5 ∧ x5 < 8) : XR sc d 120 131 [some (.ref 56), o1, o2, o3, o4, some (xw x5), some (xw x6), o7] [s0, s1] (T, z, xv V, J, R) = XR sc d 120 156 [some (.ref 56), o1, o2, o3, o4, some (xw x5), some (xw x6), o7] [xw (((V 71 x5.toNat) + (16 * x6)) + 1), s0, s1] (T, z, xv V, J, R) := by
  have h := bX7_finds_131 (sc := sc) (d := d) (T := T) (z := z) (V := V) (J := J) (R := R) (o1 := o1) (o2 := o2) (o3 := o3) (o4 := o4) (o7 := o7) (s0 := s0) (s1 := s1) (x5 := x5) (x6 := x6) (a0 := 56) hM.1 (rgd (kq_16 hM).1) (tgd (kq_16 hM).1 (kq_16 hM).2) (by simp (disch := decide) only [kg_16 hM, kt_16 hM, xup2_o, xup2_i]; omega)
  simp (disch := decide) only [kg_16 hM, xup2_o, xup2_i] at h
  exact h
theorem n_finds_149 {o1 o2 o3 o5 o6 o7 : Option Value} {s0 s1 : Value} {x4 : Int} (hM : xMo T R) (g4 : 0 ≤ x4 ∧ x4 < 8) : XR sc d 120 149 [some (.ref 56), o1, o2, o3, some (xw x4), o5, o6, o7] [s0, s1] (T, z, xv V, J, R) = XR sc d 120 156 [some (.ref 56), o1, o2, o3, some (xw x4), o5, o6, o7] [xw (V 71 x4.toNat), s0, s1] (T, z, xv V, J, R) := by
  have h := bX7_finds_149 (sc := sc) (d := d) (T := T) (z := z) (V := V) (J := J) (R := R) (o1 := o1) (o2 := o2) (o3 := o3) (o5 := o5) (o6 := o6) (o7 := o7) (s0 := s0) (s1 := s1) (x4 := x4) (a0 := 56) hM.1 (rgd (kq_16 hM).1) (tgd (kq_16 hM).1 (kq_16 hM).2) (by simp (disch := decide) only [kg_16 hM, kt_16 hM, xup2_o, xup2_i]; omega)
  simp (disch := decide) only [kg_16 hM, xup2_o, xup2_i] at h
  exact h
theorem n_finds_156 {o0 o1 o2 o3 o4 o6 o7 : Option Value} {y0 y1 x5 : Int} (hM : xMo T R) (g2 : 0 ≤ y1 ∧ y1 < 8) : XR sc d 120 156 [o0, o1, o2, o3, o4, some (xw x5), o6, o7] [xw y0, xw y1, .ref 71] (T, z, xv V, J, R) = XR sc d 120 52 [o0, o1, o2, o3, o4, some (xw (x5 + 1)), o6, o7] [] (T, z, xv (xup2 V 71 y1.toNat y0), J, R) := by
  have h := bX7_finds_156 (sc := sc) (d := d) (T := T) (z := z) (V := V) (J := J) (R := R) (o0 := o0) (o1 := o1) (o2 := o2) (o3 := o3) (o4 := o4) (o6 := o6) (o7 := o7) (y0 := y0) (y1 := y1) (x5 := x5) (b2 := 71) (by rw [kt_16 hM]) (by simp (disch := decide) only [kg_16 hM, kt_16 hM, xup2_o, xup2_i]; omega)
  exact h
theorem n_finds_175 {o2 o3 o4 o5 o6 o7 : Option Value} {x1 : Int} (hM : xMo T R)  : XR sc d 120 175 [some (.ref 56), some (xw x1), o2, o3, o4, o5, o6, o7] [] (T, z, xv V, J, R) = XR sc d 120 182 [some (.ref 56), some (xw x1), o2, some (xw x1), o4, o5, o6, o7] [] (T, z, xv (xup2 V 56 17 0), J, R) := by
  have h := bX7_finds_175 (sc := sc) (d := d) (T := T) (z := z) (V := V) (J := J) (R := R) (o2 := o2) (o3 := o3) (o4 := o4) (o5 := o5) (o6 := o6) (o7 := o7) (x1 := x1) (a0 := 56) hM.1
  exact h
theorem n_finds_182 {o2 o3 o4 o5 o6 o7 : Option Value} {x1 : Int} (hM : xMo T R) (g4 : 0 ≤ x1 ∧ x1 < 8) (g5 : -2147483648 ≤ (V 71 x1.toNat) ∧ (V 71 x1.toNat) ≤ 2147483647) : XR sc d 120 182 [some (.ref 56), some (xw x1), o2, o3, o4, o5, o6, o7] [] (T, z, xv V, J, R) = if 100000000 ≤ (V 71 x1.toNat) then XR sc d 120 302 [some (.ref 56), some (xw x1), o2, o3, o4, o5, o6, o7] [] (T, z, xv V, J, R) else XR sc d 120 193 [some (.ref 56), some (xw x1), o2, o3, o4, o5, o6, o7] [] (T, z, xv V, J, R) := by
  have h := bX7_finds_182 (sc := sc) (d := d) (T := T) (z := z) (V := V) (J := J) (R := R) (o2 := o2) (o3 := o3) (o4 := o4) (o5 := o5) (o6 := o6) (o7 := o7) (x1 := x1) (a0 := 56) hM.1 (rgd (kq_16 hM).1) (tgd (kq_16 hM).1 (kq_16 hM).2) (by simp (disch := decide) only [kg_16 hM, kt_16 hM, xup2_o, xup2_i]; omega) (by first | exact g5 | (simp (disch := decide) only [kg_16 hM, kt_16 hM, xup2_o, xup2_i]; exact g5))
  simp (disch := decide) only [kg_16 hM, xup2_o, xup2_i] at h
  exact h
theorem n_finds_193 {o1 o2 o3 o4 o5 o6 o7 : Option Value} (hM : xMo T R) (g2 : -2147483648 ≤ (V 56 17) ∧ (V 56 17) ≤ 2147483647) : XR sc d 120 193 [some (.ref 56), o1, o2, o3, o4, o5, o6, o7] [] (T, z, xv V, J, R) = if 8 ≤ (V 56 17) then XR sc d 120 302 [some (.ref 56), o1, o2, o3, o4, o5, o6, o7] [] (T, z, xv V, J, R) else XR sc d 120 202 [some (.ref 56), o1, o2, o3, o4, o5, o6, o7] [] (T, z, xv V, J, R) := by
  have h := bX7_finds_193 (sc := sc) (d := d) (T := T) (z := z) (V := V) (J := J) (R := R) (o1 := o1) (o2 := o2) (o3 := o3) (o4 := o4) (o5 := o5) (o6 := o6) (o7 := o7) (a0 := 56) hM.1 (by first | exact g2 | (simp (disch := decide) only [xup2_j, xup2_o, xup2_i]; exact g2))
  exact h
theorem n_finds_202 {o1 o4 o5 o6 o7 : Option Value} {x3 x2 : Int} (hM : xMo T R) (g4 : 0 ≤ (V 56 17) ∧ (V 56 17) < 8) (g5 : -2147483648 ≤ x3 ∧ x3 ≤ 2147483647) (g6 : -2147483648 ≤ x2 ∧ x2 ≤ 2147483647) : XR sc d 120 202 [some (.ref 56), o1, some (xw x2), some (xw x3), o4, o5, o6, o7] [] (T, z, xv V, J, R) = if x3 = x2 then XR sc d 120 227 [some (.ref 56), o1, some (xw x2), some (xw x3), o4, o5, o6, o7] [] (T, z, xv (xup2 (xup2 V 72 (V 56 17).toNat x3) 56 17 ((V 56 17) + 1)), J, R) else XR sc d 120 229 [some (.ref 56), o1, some (xw x2), some (xw x3), o4, o5, o6, o7] [] (T, z, xv (xup2 (xup2 V 72 (V 56 17).toNat x3) 56 17 ((V 56 17) + 1)), J, R) := by
  have h := bX7_finds_202 (sc := sc) (d := d) (T := T) (z := z) (V := V) (J := J) (R := R) (o1 := o1) (o4 := o4) (o5 := o5) (o6 := o6) (o7 := o7) (x3 := x3) (x2 := x2) (a0 := 56) hM.1 (rgd (kq_18 hM).1) (tgd (kq_18 hM).1 (kq_18 hM).2) (by simp (disch := decide) only [kg_18 hM, kt_18 hM, xup2_o, xup2_i]; omega) (by first | exact g5 | (simp (disch := decide) only [kg_18 hM, kt_18 hM, xup2_o, xup2_i]; exact g5)) (by first | exact g6 | (simp (disch := decide) only [kg_18 hM, kt_18 hM, xup2_o, xup2_i]; exact g6))
  simp (disch := decide) only [kg_18 hM, xup2_o, xup2_i] at h
  exact h
theorem n_finds_241 {o1 o2 o4 o6 o7 : Option Value} {x3 x5 : Int} (hM : xMo T R)  : XR sc d 120 241 [some (.ref 56), o1, o2, some (xw x3), o4, some (xw x5), o6, o7] [] (T, z, xv V, J, R) = xret 120 (XR sc d 120) 245 248 [some (.ref 56), o1, o2, some (xw x3), o4, some (xw x5), o6, o7] [] (X sc d 119 [.ref 56, xw x3, xw x5] (T, z, xv V, J, R)) := by
  have h := bX7_finds_241 (sc := sc) (d := d) (T := T) (z := z) (V := V) (J := J) (R := R) (o1 := o1) (o2 := o2) (o4 := o4) (o6 := o6) (o7 := o7) (x3 := x3) (x5 := x5) (a0 := 56) hM.1
  exact h
theorem n_finds_257 {o1 o2 o4 o7 : Option Value} {x5 x6 x3 : Int} (hM : xMo T R) (g4 : 0 ≤ x5 ∧ x5 < 8) (g5 : 0 ≤ x3 ∧ x3 < 8) (g6 : -2147483648 ≤ (((V 71 x5.toNat) + (16 * x6)) + 1) ∧ (((V 71 x5.toNat) + (16 * x6)) + 1) ≤ 2147483647) (g7 : -2147483648 ≤ (V 71 x3.toNat) ∧ (V 71 x3.toNat) ≤ 2147483647) : XR sc d 120 257 [some (.ref 56), o1, o2, some (xw x3), o4, some (xw x5), some (xw x6), o7] [] (T, z, xv V, J, R) = if (((V 71 x5.toNat) + (16 * x6)) + 1) = (V 71 x3.toNat) then XR sc d 120 281 [some (.ref 56), o1, o2, some (xw x3), o4, some (xw x5), some (xw x6), o7] [] (T, z, xv V, J, R) else XR sc d 120 286 [some (.ref 56), o1, o2, some (xw x3), o4, some (xw x5), some (xw x6), o7] [] (T, z, xv V, J, R) := by
  have h := bX7_finds_257 (sc := sc) (d := d) (T := T) (z := z) (V := V) (J := J) (R := R) (o1 := o1) (o2 := o2) (o4 := o4) (o7 := o7) (x5 := x5) (x6 := x6) (x3 := x3) (a0 := 56) hM.1 (rgd (kq_16 hM).1) (tgd (kq_16 hM).1 (kq_16 hM).2) (by simp (disch := decide) only [kg_16 hM, kt_16 hM, xup2_o, xup2_i]; omega) (by simp (disch := decide) only [kg_16 hM, kt_16 hM, xup2_o, xup2_i]; omega) (by first | exact g6 | (simp (disch := decide) only [kg_16 hM, kt_16 hM, xup2_o, xup2_i]; exact g6)) (by first | exact g7 | (simp (disch := decide) only [kg_16 hM, kt_16 hM, xup2_o, xup2_i]; exact g7))
  simp (disch := decide) only [kg_16 hM, xup2_o, xup2_i] at h
  exact h
theorem n_sharers_4 {o1 o2 : Option Value} {x3 : Int} (hM : xMo T R) (g2 : -2147483648 ≤ x3 ∧ x3 ≤ 2147483647) (g3 : -2147483648 ≤ (V 56 3) ∧ (V 56 3) ≤ 2147483647) : XR sc d 121 4 [some (.ref 56), o1, o2, some (xw x3)] [] (T, z, xv V, J, R) = if (V 56 3) ≤ x3 then XR sc d 121 35 [some (.ref 56), o1, o2, some (xw x3)] [] (T, z, xv V, J, R) else XR sc d 121 12 [some (.ref 56), o1, o2, some (xw x3)] [] (T, z, xv V, J, R) := by
  have h := bX7_sharers_4 (sc := sc) (d := d) (T := T) (z := z) (V := V) (J := J) (R := R) (o1 := o1) (o2 := o2) (x3 := x3) (a0 := 56) hM.1 (by first | exact g2 | (simp (disch := decide) only [xup2_j, xup2_o, xup2_i]; exact g2)) (by first | exact g3 | (simp (disch := decide) only [xup2_j, xup2_o, xup2_i]; exact g3))
  exact h
theorem n_sharers_12 {x2 x3 x1 : Int} (hM : xMo T R)  : XR sc d 121 12 [some (.ref 56), some (xw x1), some (xw x2), some (xw x3)] [] (T, z, xv V, J, R) = xret 121 (XR sc d 121) 16 19 [some (.ref 56), some (xw x1), some (xw x2), some (xw x3)] [xw x2] (X sc d 122 [.ref 56, xw x3, xw x1] (T, z, xv V, J, R)) := by
  have h := bX7_sharers_12 (sc := sc) (d := d) (T := T) (z := z) (V := V) (J := J) (R := R) (x2 := x2) (x3 := x3) (x1 := x1) (a0 := 56) hM.1
  exact h
theorem n_isSharer_0 {x1 x2 : Int} (hM : xMo T R) (g4 : 0 ≤ x2 ∧ x2 < 8) (g5 : 0 ≤ (x2 + 1) ∧ (x2 + 1) < 8) : XR sc d 122 0 [some (.ref 56), some (xw x1), some (xw x2)] [] (T, z, xv V, J, R) = xret 122 (XR sc d 122) 16 19 [some (.ref 56), some (xw x1), some (xw x2)] [] (X sc d 118 [.ref 56, xw x1, xw (V 72 x2.toNat), xw (V 72 (x2 + 1).toNat)] (T, z, xv V, J, R)) := by
  have h := bX7_isSharer_0 (sc := sc) (d := d) (T := T) (z := z) (V := V) (J := J) (R := R) (x1 := x1) (x2 := x2) (a0 := 56) hM.1 (rgd (kq_18 hM).1) (tgd (kq_18 hM).1 (kq_18 hM).2) (by simp (disch := decide) only [kg_18 hM, kt_18 hM, xup2_o, xup2_i]; omega) (by simp (disch := decide) only [kg_18 hM, kt_18 hM, xup2_o, xup2_i]; omega)
  simp (disch := decide) only [kg_18 hM, xup2_o, xup2_i] at h
  exact h
theorem n_isSharer_22 {x1 x2 : Int} (hM : xMo T R) (g4 : 0 ≤ x1 ∧ x1 < 40) (g7 : 0 ≤ x2 ∧ x2 < 8) (g8 : 0 ≤ (x2 + 1) ∧ (x2 + 1) < 8) : XR sc d 122 22 [some (.ref 56), some (xw x1), some (xw x2)] [] (T, z, xv V, J, R) = xret 122 (XR sc d 122) 43 46 [some (.ref 56), some (xw x1), some (xw x2)] [xw (V 70 x1.toNat)] (X sc d 119 [.ref 56, xw (V 72 x2.toNat), xw (V 72 (x2 + 1).toNat)] (T, z, xv V, J, R)) := by
  have h := bX7_isSharer_22 (sc := sc) (d := d) (T := T) (z := z) (V := V) (J := J) (R := R) (x1 := x1) (x2 := x2) (a0 := 56) hM.1 (rgd (kq_15 hM).1) (tgd (kq_15 hM).1 (kq_15 hM).2) (by simp (disch := decide) only [kg_15 hM, kt_15 hM, kg_18 hM, kt_18 hM, xup2_o, xup2_i]; omega) (rgd (kq_18 hM).1) (tgd (kq_18 hM).1 (kq_18 hM).2) (by simp (disch := decide) only [kg_15 hM, kt_15 hM, kg_18 hM, kt_18 hM, xup2_o, xup2_i]; omega) (by simp (disch := decide) only [kg_15 hM, kt_15 hM, kg_18 hM, kt_18 hM, xup2_o, xup2_i]; omega)
  simp (disch := decide) only [kg_15 hM, kg_18 hM, xup2_o, xup2_i] at h
  exact h
theorem n_loads_2 {o1 o3 o4 : Option Value} {x2 : Int} (hM : xMo T R) (g2 : -2147483648 ≤ x2 ∧ x2 ≤ 2147483647) (g3 : -2147483648 ≤ (V 56 3) ∧ (V 56 3) ≤ 2147483647) : XR sc d 123 2 [some (.ref 56), o1, some (xw x2), o3, o4] [] (T, z, xv V, J, R) = if (V 56 3) ≤ x2 then XR sc d 123 81 [some (.ref 56), o1, some (xw x2), o3, o4] [] (T, z, xv V, J, R) else XR sc d 123 10 [some (.ref 56), o1, some (xw x2), o3, o4] [] (T, z, xv V, J, R) := by
  have h := bX7_loads_2 (sc := sc) (d := d) (T := T) (z := z) (V := V) (J := J) (R := R) (o1 := o1) (o3 := o3) (o4 := o4) (x2 := x2) (a0 := 56) hM.1 (by first | exact g2 | (simp (disch := decide) only [xup2_j, xup2_o, xup2_i]; exact g2)) (by first | exact g3 | (simp (disch := decide) only [xup2_j, xup2_o, xup2_i]; exact g3))
  exact h
theorem n_loads_10 {o1 o3 o4 : Option Value} {x2 : Int} (hM : xMo T R) (g4 : 0 ≤ x2 ∧ x2 < 40) : XR sc d 123 10 [some (.ref 56), o1, some (xw x2), o3, o4] [] (T, z, xv V, J, R) = XR sc d 123 19 [some (.ref 56), o1, some (xw x2), some (xw 0), o4] [] (T, z, xv (xup2 V 73 x2.toNat 0), J, R) := by
  have h := bX7_loads_10 (sc := sc) (d := d) (T := T) (z := z) (V := V) (J := J) (R := R) (o1 := o1) (o3 := o3) (o4 := o4) (x2 := x2) (a0 := 56) hM.1 (rgd (kq_19 hM).1) (tgd (kq_19 hM).1 (kq_19 hM).2) (by simp (disch := decide) only [kg_19 hM, kt_19 hM, xup2_o, xup2_i]; omega)
  simp (disch := decide) only [kg_19 hM, xup2_o, xup2_i] at h
  exact h
theorem n_loads_19 {o1 o2 o4 : Option Value} {x3 : Int} (hM : xMo T R) (g2 : -2147483648 ≤ (x3 + 1) ∧ (x3 + 1) ≤ 2147483647) (g3 : -2147483648 ≤ (V 56 17) ∧ (V 56 17) ≤ 2147483647) : XR sc d 123 19 [some (.ref 56), o1, o2, some (xw x3), o4] [] (T, z, xv V, J, R) = if (V 56 17) ≤ (x3 + 1) then XR sc d 123 75 [some (.ref 56), o1, o2, some (xw x3), o4] [] (T, z, xv V, J, R) else XR sc d 123 29 [some (.ref 56), o1, o2, some (xw x3), o4] [] (T, z, xv V, J, R) := by
  have h := bX7_loads_19 (sc := sc) (d := d) (T := T) (z := z) (V := V) (J := J) (R := R) (o1 := o1) (o2 := o2) (o4 := o4) (x3 := x3) (a0 := 56) hM.1 (by first | exact g2 | (simp (disch := decide) only [xup2_j, xup2_o, xup2_i]; exact g2)) (by first | exact g3 | (simp (disch := decide) only [xup2_j, xup2_o, xup2_i]; exact g3))
  exact h
theorem n_loads_29 {o1 o2 o4 : Option Value} {x3 : Int} (hM : xMo T R)  : XR sc d 123 29 [some (.ref 56), o1, o2, some (xw x3), o4] [] (T, z, xv V, J, R) = xret 123 (XR sc d 123) 31 34 [some (.ref 56), o1, o2, some (xw x3), o4] [] (X sc d 121 [.ref 56, xw x3] (T, z, xv V, J, R)) := by
  have h := bX7_loads_29 (sc := sc) (d := d) (T := T) (z := z) (V := V) (J := J) (R := R) (o1 := o1) (o2 := o2) (o4 := o4) (x3 := x3) (a0 := 56) hM.1
  exact h
theorem n_loads_34 {o1 o4 : Option Value} {y0 x2 x3 : Int} (hM : xMo T R)  : XR sc d 123 34 [some (.ref 56), o1, some (xw x2), some (xw x3), o4] [xw y0] (T, z, xv V, J, R) = xret 123 (XR sc d 123) 44 47 [some (.ref 56), o1, some (xw x2), some (xw x3), some (xw y0)] [xw x2, .ref 73] (X sc d 122 [.ref 56, xw x2, xw x3] (T, z, xv V, J, R)) := by
  have h := bX7_loads_34 (sc := sc) (d := d) (T := T) (z := z) (V := V) (J := J) (R := R) (o1 := o1) (o4 := o4) (y0 := y0) (x2 := x2) (x3 := x3) (a0 := 56) hM.1 (rgd (kq_19 hM).1)
  simp (disch := decide) only [kg_19 hM, xup2_o, xup2_i] at h
  exact h
theorem n_loads_62 {o1 o3 o4 : Option Value} {s0 s1 : Value} {x2 : Int} (hM : xMo T R) (g4 : 0 ≤ x2 ∧ x2 < 40) : XR sc d 123 62 [some (.ref 56), o1, some (xw x2), o3, o4] [s0, s1] (T, z, xv V, J, R) = XR sc d 123 68 [some (.ref 56), o1, some (xw x2), o3, o4] [xw (V 73 x2.toNat), s0, s1] (T, z, xv V, J, R) := by
  have h := bX7_loads_62 (sc := sc) (d := d) (T := T) (z := z) (V := V) (J := J) (R := R) (o1 := o1) (o3 := o3) (o4 := o4) (s0 := s0) (s1 := s1) (x2 := x2) (a0 := 56) hM.1 (rgd (kq_19 hM).1) (tgd (kq_19 hM).1 (kq_19 hM).2) (by simp (disch := decide) only [kg_19 hM, kt_19 hM, xup2_o, xup2_i]; omega)
  simp (disch := decide) only [kg_19 hM, xup2_o, xup2_i] at h
  exact h
theorem n_loads_68 {o0 o1 o2 o4 : Option Value} {y0 y1 x3 : Int} (hM : xMo T R) (g2 : 0 ≤ y1 ∧ y1 < 40) : XR sc d 123 68 [o0, o1, o2, some (xw x3), o4] [xw y0, xw y1, .ref 73] (T, z, xv V, J, R) = XR sc d 123 19 [o0, o1, o2, some (xw (x3 + 1)), o4] [] (T, z, xv (xup2 V 73 y1.toNat y0), J, R) := by
  have h := bX7_loads_68 (sc := sc) (d := d) (T := T) (z := z) (V := V) (J := J) (R := R) (o0 := o0) (o1 := o1) (o2 := o2) (o4 := o4) (y0 := y0) (y1 := y1) (x3 := x3) (b2 := 73) (by rw [kt_19 hM]) (by simp (disch := decide) only [kg_19 hM, kt_19 hM, xup2_o, xup2_i]; omega)
  exact h
theorem n_bears_0 {o2 o3 o4 o5 : Option Value} {x1 : Int} (hM : xMo T R)  : XR sc d 124 0 [some (.ref 56), some (xw x1), o2, o3, o4, o5] [] (T, z, xv V, J, R) = xret 124 (XR sc d 124) 2 5 [some (.ref 56), some (xw x1), o2, o3, o4, o5] [] (X sc d 96 [.ref 56, xw x1] (T, z, xv V, J, R)) := by
  have h := bX7_bears_0 (sc := sc) (d := d) (T := T) (z := z) (V := V) (J := J) (R := R) (o2 := o2) (o3 := o3) (o4 := o4) (o5 := o5) (x1 := x1) (a0 := 56) hM.1
  exact h
theorem n_bears_61 {o0 o1 o2 o3 o4 o5 : Option Value} {y0 : Int} (hM : xMo T R)  : XR sc d 124 61 [o0, o1, o2, o3, o4, o5] [xw y0, .ref 56] (T, z, xv V, J, R) = xret 124 (XR sc d 124) 61 64 [o0, o1, o2, o3, o4, o5] [] (X sc d 93 [.ref 56, xw y0] (T, z, xv V, J, R)) := by
  have h := bX7_bears_61 (sc := sc) (d := d) (T := T) (z := z) (V := V) (J := J) (R := R) (o0 := o0) (o1 := o1) (o2 := o2) (o3 := o3) (o4 := o4) (o5 := o5) (y0 := y0) (b1 := 56) hM.1
  exact h
theorem n_bears_69 {o1 o4 o5 : Option Value} {x2 x3 : Int} (hM : xMo T R)  : XR sc d 124 69 [some (.ref 56), o1, some (xw x2), some (xw x3), o4, o5] [] (T, z, xv V, J, R) = xret 124 (XR sc d 124) 72 75 [some (.ref 56), o1, some (xw x2), some (xw x3), o4, o5] [] (X sc d 120 [.ref 56, xw x2, xw x3] (T, z, xv V, J, R)) := by
  have h := bX7_bears_69 (sc := sc) (d := d) (T := T) (z := z) (V := V) (J := J) (R := R) (o1 := o1) (o4 := o4) (o5 := o5) (x2 := x2) (x3 := x3) (a0 := 56) hM.1
  exact h
theorem n_bears_80 {o1 o2 o3 o5 : Option Value} {x4 : Int} (hM : xMo T R)  : XR sc d 124 80 [some (.ref 56), o1, o2, o3, some (xw x4), o5] [] (T, z, xv V, J, R) = xret 124 (XR sc d 124) 83 86 [some (.ref 56), o1, o2, o3, some (xw x4), o5] [] (X sc d 123 [.ref 56, xw x4] (T, z, xv V, J, R)) := by
  have h := bX7_bears_80 (sc := sc) (d := d) (T := T) (z := z) (V := V) (J := J) (R := R) (o1 := o1) (o2 := o2) (o3 := o3) (o5 := o5) (x4 := x4) (a0 := 56) hM.1
  exact h
theorem n_bears_86 {o2 o3 o4 o5 : Option Value} {x1 : Int} (hM : xMo T R) (g4 : 0 ≤ x1 ∧ x1 < 40) : XR sc d 124 86 [some (.ref 56), some (xw x1), o2, o3, o4, o5] [] (T, z, xv V, J, R) = some (.inl (some (xw (V 73 x1.toNat))), (T, z, xv V, J, R)) := by
  have h := bX7_bears_86 (sc := sc) (d := d) (T := T) (z := z) (V := V) (J := J) (R := R) (o2 := o2) (o3 := o3) (o4 := o4) (o5 := o5) (x1 := x1) (a0 := 56) hM.1 (rgd (kq_19 hM).1) (tgd (kq_19 hM).1 (kq_19 hM).2) (by simp (disch := decide) only [kg_19 hM, kt_19 hM, xup2_o, xup2_i]; omega)
  simp (disch := decide) only [kg_19 hM, xup2_o, xup2_i] at h
  exact h
theorem n_way_45 {o0 o1 o2 o3 o4 : Option Value} {y0 : Int} (hM : xMo T R)  : XR sc d 125 45 [o0, o1, o2, o3, o4] [xw y0, .ref 56] (T, z, xv V, J, R) = xret 125 (XR sc d 125) 45 48 [o0, o1, o2, o3, o4] [] (X sc d 93 [.ref 56, xw y0] (T, z, xv V, J, R)) := by
  have h := bX7_way_45 (sc := sc) (d := d) (T := T) (z := z) (V := V) (J := J) (R := R) (o0 := o0) (o1 := o1) (o2 := o2) (o3 := o3) (o4 := o4) (y0 := y0) (b1 := 56) hM.1
  exact h
theorem n_way_53 {o3 o4 : Option Value} {x1 x2 : Int} (hM : xMo T R)  : XR sc d 125 53 [some (.ref 56), some (xw x1), some (xw x2), o3, o4] [] (T, z, xv V, J, R) = xret 125 (XR sc d 125) 56 59 [some (.ref 56), some (xw x1), some (xw x2), o3, o4] [] (X sc d 120 [.ref 56, xw x1, xw x2] (T, z, xv V, J, R)) := by
  have h := bX7_way_53 (sc := sc) (d := d) (T := T) (z := z) (V := V) (J := J) (R := R) (o3 := o3) (o4 := o4) (x1 := x1) (x2 := x2) (a0 := 56) hM.1
  exact h
theorem n_way_62 {o1 o2 o4 : Option Value} {x3 : Int} (hM : xMo T R) (g2 : -2147483648 ≤ x3 ∧ x3 ≤ 2147483647) (g3 : -2147483648 ≤ (V 56 17) ∧ (V 56 17) ≤ 2147483647) : XR sc d 125 62 [some (.ref 56), o1, o2, some (xw x3), o4] [] (T, z, xv V, J, R) = if (V 56 17) ≤ x3 then XR sc d 125 79 [some (.ref 56), o1, o2, some (xw x3), o4] [] (T, z, xv V, J, R) else XR sc d 125 70 [some (.ref 56), o1, o2, some (xw x3), o4] [] (T, z, xv V, J, R) := by
  have h := bX7_way_62 (sc := sc) (d := d) (T := T) (z := z) (V := V) (J := J) (R := R) (o1 := o1) (o2 := o2) (o4 := o4) (x3 := x3) (a0 := 56) hM.1 (by first | exact g2 | (simp (disch := decide) only [xup2_j, xup2_o, xup2_i]; exact g2)) (by first | exact g3 | (simp (disch := decide) only [xup2_j, xup2_o, xup2_i]; exact g3))
  exact h
theorem n_way_70 {o1 o2 o4 : Option Value} {x3 : Int} (hM : xMo T R) (g4 : 0 ≤ x3 ∧ x3 < 8) : XR sc d 125 70 [some (.ref 56), o1, o2, some (xw x3), o4] [] (T, z, xv V, J, R) = XR sc d 125 80 [some (.ref 56), o1, o2, some (xw x3), o4] [xw (V 72 x3.toNat)] (T, z, xv V, J, R) := by
  have h := bX7_way_70 (sc := sc) (d := d) (T := T) (z := z) (V := V) (J := J) (R := R) (o1 := o1) (o2 := o2) (o4 := o4) (x3 := x3) (a0 := 56) hM.1 (rgd (kq_18 hM).1) (tgd (kq_18 hM).1 (kq_18 hM).2) (by simp (disch := decide) only [kg_18 hM, kt_18 hM, xup2_o, xup2_i]; omega)
  simp (disch := decide) only [kg_18 hM, xup2_o, xup2_i] at h
  exact h
theorem n_breaking_0 {o1 o2 : Option Value} (hM : xMo T R)  : XR sc d 126 0 [some (.ref 56), o1, o2] [] (T, z, xv V, J, R) = XR sc d 126 9 [some (.ref 56), some (xw (-1)), some (xw ((V 56 3) - 1))] [] (T, z, xv V, J, R) := by
  have h := bX7_breaking_0 (sc := sc) (d := d) (T := T) (z := z) (V := V) (J := J) (R := R) (o1 := o1) (o2 := o2) (a0 := 56) hM.1
  exact h
theorem n_breaking_13 {o1 : Option Value} {x2 : Int} (hM : xMo T R) (g4 : 0 ≤ x2 ∧ x2 < 40) : XR sc d 126 13 [some (.ref 56), o1, some (xw x2)] [] (T, z, xv V, J, R) = xret 126 (XR sc d 126) 21 24 [some (.ref 56), o1, some (xw x2)] [xw (V 73 x2.toNat)] (X sc d 112 [.ref 56, xw x2] (T, z, xv V, J, R)) := by
  have h := bX7_breaking_13 (sc := sc) (d := d) (T := T) (z := z) (V := V) (J := J) (R := R) (o1 := o1) (x2 := x2) (a0 := 56) hM.1 (rgd (kq_19 hM).1) (tgd (kq_19 hM).1 (kq_19 hM).2) (by simp (disch := decide) only [kg_19 hM, kt_19 hM, xup2_o, xup2_i]; omega)
  simp (disch := decide) only [kg_19 hM, xup2_o, xup2_i] at h
  exact h
theorem n_pull_63 {o3 o4 o5 o6 o7 o8 o9 : Option Value} {s0 : Value} {x1 x2 : Int} (hM : xMo T R)  : XR sc d 127 63 [some (.ref 56), some (xw x1), some (xw x2), o3, o4, o5, o6, o7, o8, o9] [s0] (T, z, xv V, J, R) = xret 127 (XR sc d 127) 66 69 [some (.ref 56), some (xw x1), some (xw x2), o3, o4, o5, o6, o7, o8, o9] [s0] (X sc d 120 [.ref 56, xw x1, xw x2] (T, z, xv V, J, R)) := by
  have h := bX7_pull_63 (sc := sc) (d := d) (T := T) (z := z) (V := V) (J := J) (R := R) (o3 := o3) (o4 := o4) (o5 := o5) (o6 := o6) (o7 := o7) (o8 := o8) (o9 := o9) (s0 := s0) (x1 := x1) (x2 := x2) (a0 := 56) hM.1
  exact h
theorem n_pull_77 {o0 o1 o2 o3 o4 o5 o6 o7 o8 o9 : Option Value} {y0 : Int} (hM : xMo T R)  : XR sc d 127 77 [o0, o1, o2, o3, o4, o5, o6, o7, o8, o9] [xw y0, .ref 56] (T, z, xv V, J, R) = xret 127 (XR sc d 127) 77 80 [o0, o1, o2, o3, o4, o5, o6, o7, o8, o9] [] (X sc d 93 [.ref 56, xw y0] (T, z, xv V, J, R)) := by
  have h := bX7_pull_77 (sc := sc) (d := d) (T := T) (z := z) (V := V) (J := J) (R := R) (o0 := o0) (o1 := o1) (o2 := o2) (o3 := o3) (o4 := o4) (o5 := o5) (o6 := o6) (o7 := o7) (o8 := o8) (o9 := o9) (y0 := y0) (b1 := 56) hM.1
  exact h
theorem n_pull_85 {o1 o2 o4 o5 o6 o7 o8 o9 : Option Value} {x3 : Int} (hM : xMo T R)  : XR sc d 127 85 [some (.ref 56), o1, o2, some (xw x3), o4, o5, o6, o7, o8, o9] [] (T, z, xv V, J, R) = xret 127 (XR sc d 127) 90 93 [some (.ref 56), o1, o2, some (xw x3), o4, o5, some (xw 0), o7, o8, o9] [] (X sc d 123 [.ref 56, xw x3] (T, z, xv V, J, R)) := by
  have h := bX7_pull_85 (sc := sc) (d := d) (T := T) (z := z) (V := V) (J := J) (R := R) (o1 := o1) (o2 := o2) (o4 := o4) (o5 := o5) (o6 := o6) (o7 := o7) (o8 := o8) (o9 := o9) (x3 := x3) (a0 := 56) hM.1
  exact h
theorem n_pull_93 {o1 o2 o3 o4 o5 o6 o7 o8 o9 : Option Value} (hM : xMo T R)  : XR sc d 127 93 [some (.ref 56), o1, o2, o3, o4, o5, o6, o7, o8, o9] [] (T, z, xv V, J, R) = xret 127 (XR sc d 127) 94 97 [some (.ref 56), o1, o2, o3, o4, o5, o6, o7, o8, o9] [] (X sc d 126 [.ref 56] (T, z, xv V, J, R)) := by
  have h := bX7_pull_93 (sc := sc) (d := d) (T := T) (z := z) (V := V) (J := J) (R := R) (o1 := o1) (o2 := o2) (o3 := o3) (o4 := o4) (o5 := o5) (o6 := o6) (o7 := o7) (o8 := o8) (o9 := o9) (a0 := 56) hM.1
  exact h
theorem n_pull_113 {o1 o2 o3 o4 o5 o6 o8 o9 : Option Value} {x7 : Int} (hM : xMo T R) (g4 : 0 ≤ x7 ∧ x7 < 40) : XR sc d 127 113 [some (.ref 56), o1, o2, o3, o4, o5, o6, some (xw x7), o8, o9] [] (T, z, xv V, J, R) = xret 127 (XR sc d 127) 124 127 [some (.ref 56), o1, o2, o3, o4, o5, o6, some (xw x7), o8, o9] [] (X sc d 115 [.ref 56, xw x7] (T, z, xv (xup2 V 67 x7.toNat 1), J, R)) := by
  have h := bX7_pull_113 (sc := sc) (d := d) (T := T) (z := z) (V := V) (J := J) (R := R) (o1 := o1) (o2 := o2) (o3 := o3) (o4 := o4) (o5 := o5) (o6 := o6) (o8 := o8) (o9 := o9) (x7 := x7) (a0 := 56) hM.1 (rgd (kq_12 hM).1) (tgd (kq_12 hM).1 (kq_12 hM).2) (by simp (disch := decide) only [kg_12 hM, kt_12 hM, xup2_o, xup2_i]; omega)
  simp (disch := decide) only [kg_12 hM, xup2_o, xup2_i] at h
  exact h
theorem n_pull_127 {o3 o4 o5 o7 o8 o9 : Option Value} {x6 x1 x2 : Int} (hM : xMo T R)  : XR sc d 127 127 [some (.ref 56), some (xw x1), some (xw x2), o3, o4, o5, some (xw x6), o7, o8, o9] [] (T, z, xv V, J, R) = xret 127 (XR sc d 127) 133 136 [some (.ref 56), some (xw x1), some (xw x2), o3, o4, o5, some (xw (x6 + 1)), o7, o8, o9] [] (X sc d 120 [.ref 56, xw x1, xw x2] (T, z, xv V, J, R)) := by
  have h := bX7_pull_127 (sc := sc) (d := d) (T := T) (z := z) (V := V) (J := J) (R := R) (o3 := o3) (o4 := o4) (o5 := o5) (o7 := o7) (o8 := o8) (o9 := o9) (x6 := x6) (x1 := x1) (x2 := x2) (a0 := 56) hM.1
  exact h
theorem n_pull_143 {o1 o2 o4 o5 o6 o7 o8 o9 : Option Value} {x3 : Int} (hM : xMo T R)  : XR sc d 127 143 [some (.ref 56), o1, o2, some (xw x3), o4, o5, o6, o7, o8, o9] [] (T, z, xv V, J, R) = xret 127 (XR sc d 127) 145 148 [some (.ref 56), o1, o2, some (xw x3), o4, o5, o6, o7, o8, o9] [] (X sc d 123 [.ref 56, xw x3] (T, z, xv V, J, R)) := by
  have h := bX7_pull_143 (sc := sc) (d := d) (T := T) (z := z) (V := V) (J := J) (R := R) (o1 := o1) (o2 := o2) (o4 := o4) (o5 := o5) (o6 := o6) (o7 := o7) (o8 := o8) (o9 := o9) (x3 := x3) (a0 := 56) hM.1
  exact h
theorem n_pull_148 {o1 o2 o3 o4 o5 o6 o7 o8 o9 : Option Value} (hM : xMo T R)  : XR sc d 127 148 [some (.ref 56), o1, o2, o3, o4, o5, o6, o7, o8, o9] [] (T, z, xv V, J, R) = xret 127 (XR sc d 127) 149 152 [some (.ref 56), o1, o2, o3, o4, o5, o6, o7, o8, o9] [] (X sc d 126 [.ref 56] (T, z, xv V, J, R)) := by
  have h := bX7_pull_148 (sc := sc) (d := d) (T := T) (z := z) (V := V) (J := J) (R := R) (o1 := o1) (o2 := o2) (o3 := o3) (o4 := o4) (o5 := o5) (o6 := o6) (o7 := o7) (o8 := o8) (o9 := o9) (a0 := 56) hM.1
  exact h
theorem n_pull_160 {o1 o2 o3 o4 o5 o6 o7 o8 : Option Value} {x9 : Int} (hM : xMo T R) (g2 : -2147483648 ≤ x9 ∧ x9 ≤ 2147483647) (g3 : -2147483648 ≤ (V 56 3) ∧ (V 56 3) ≤ 2147483647) : XR sc d 127 160 [some (.ref 56), o1, o2, o3, o4, o5, o6, o7, o8, some (xw x9)] [] (T, z, xv V, J, R) = if (V 56 3) ≤ x9 then XR sc d 127 200 [some (.ref 56), o1, o2, o3, o4, o5, o6, o7, o8, some (xw x9)] [] (T, z, xv V, J, R) else XR sc d 127 169 [some (.ref 56), o1, o2, o3, o4, o5, o6, o7, o8, some (xw x9)] [] (T, z, xv V, J, R) := by
  have h := bX7_pull_160 (sc := sc) (d := d) (T := T) (z := z) (V := V) (J := J) (R := R) (o1 := o1) (o2 := o2) (o3 := o3) (o4 := o4) (o5 := o5) (o6 := o6) (o7 := o7) (o8 := o8) (x9 := x9) (a0 := 56) hM.1 (by first | exact g2 | (simp (disch := decide) only [xup2_j, xup2_o, xup2_i]; exact g2)) (by first | exact g3 | (simp (disch := decide) only [xup2_j, xup2_o, xup2_i]; exact g3))
  exact h
theorem n_pull_174 {o1 o2 o3 o4 o5 o6 o7 o8 : Option Value} {x9 : Int} (hM : xMo T R) (g4 : 0 ≤ x9 ∧ x9 < 40) (g7 : 0 ≤ x9 ∧ x9 < 40) (g8 : 0 ≤ (V 73 x9.toNat) ∧ (V 73 x9.toNat) ≤ 2147483647) : XR sc d 127 174 [some (.ref 56), o1, o2, o3, o4, o5, o6, o7, o8, some (xw x9)] [] (T, z, xv V, J, R) = XR sc d 127 160 [some (.ref 56), o1, o2, o3, o4, o5, o6, o7, o8, some (xw (x9 + 1))] [] (T, z, xv (xup2 V 65 x9.toNat ((V 65 x9.toNat) + ((V 73 x9.toNat) / 10))), J, R) := by
  have h := bX7_pull_174 (sc := sc) (d := d) (T := T) (z := z) (V := V) (J := J) (R := R) (o1 := o1) (o2 := o2) (o3 := o3) (o4 := o4) (o5 := o5) (o6 := o6) (o7 := o7) (o8 := o8) (x9 := x9) (a0 := 56) hM.1 (rgd (kq_10 hM).1) (tgd (kq_10 hM).1 (kq_10 hM).2) (by simp (disch := decide) only [kg_10 hM, kt_10 hM, kg_19 hM, kt_19 hM, xup2_o, xup2_i]; omega) (rgd (kq_19 hM).1) (tgd (kq_19 hM).1 (kq_19 hM).2) (by simp (disch := decide) only [kg_10 hM, kt_10 hM, kg_19 hM, kt_19 hM, xup2_o, xup2_i]; omega) (by first | exact g8 | (simp (disch := decide) only [kg_10 hM, kt_10 hM, kg_19 hM, kt_19 hM, xup2_o, xup2_i]; exact g8))
  simp (disch := decide) only [kg_10 hM, kg_19 hM, xup2_o, xup2_i] at h
  exact h
theorem n_holds_39 {o0 o1 o2 o3 o4 o5 o6 o7 o8 : Option Value} {y0 : Int} (hM : xMo T R)  : XR sc d 128 39 [o0, o1, o2, o3, o4, o5, o6, o7, o8] [xw y0, .ref 56] (T, z, xv V, J, R) = xret 128 (XR sc d 128) 39 42 [o0, o1, o2, o3, o4, o5, o6, o7, o8] [] (X sc d 93 [.ref 56, xw y0] (T, z, xv V, J, R)) := by
  have h := bX7_holds_39 (sc := sc) (d := d) (T := T) (z := z) (V := V) (J := J) (R := R) (o0 := o0) (o1 := o1) (o2 := o2) (o3 := o3) (o4 := o4) (o5 := o5) (o6 := o6) (o7 := o7) (o8 := o8) (y0 := y0) (b1 := 56) hM.1
  exact h
theorem n_holds_47 {o3 o4 o5 o6 o7 o8 : Option Value} {x1 x2 : Int} (hM : xMo T R)  : XR sc d 128 47 [some (.ref 56), some (xw x1), some (xw x2), o3, o4, o5, o6, o7, o8] [] (T, z, xv V, J, R) = xret 128 (XR sc d 128) 50 53 [some (.ref 56), some (xw x1), some (xw x2), o3, o4, o5, o6, o7, o8] [] (X sc d 120 [.ref 56, xw x1, xw x2] (T, z, xv V, J, R)) := by
  have h := bX7_holds_47 (sc := sc) (d := d) (T := T) (z := z) (V := V) (J := J) (R := R) (o3 := o3) (o4 := o4) (o5 := o5) (o6 := o6) (o7 := o7) (o8 := o8) (x1 := x1) (x2 := x2) (a0 := 56) hM.1
  exact h
theorem n_holds_66 {o1 o2 o3 o4 o6 o7 o8 : Option Value} {x5 : Int} (hM : xMo T R) (g2 : -2147483648 ≤ (x5 + 1) ∧ (x5 + 1) ≤ 2147483647) (g3 : -2147483648 ≤ (V 56 17) ∧ (V 56 17) ≤ 2147483647) : XR sc d 128 66 [some (.ref 56), o1, o2, o3, o4, some (xw x5), o6, o7, o8] [] (T, z, xv V, J, R) = if (V 56 17) ≤ (x5 + 1) then XR sc d 128 162 [some (.ref 56), o1, o2, o3, o4, some (xw x5), o6, o7, o8] [] (T, z, xv V, J, R) else XR sc d 128 77 [some (.ref 56), o1, o2, o3, o4, some (xw x5), o6, o7, o8] [] (T, z, xv V, J, R) := by
  have h := bX7_holds_66 (sc := sc) (d := d) (T := T) (z := z) (V := V) (J := J) (R := R) (o1 := o1) (o2 := o2) (o3 := o3) (o4 := o4) (o6 := o6) (o7 := o7) (o8 := o8) (x5 := x5) (a0 := 56) hM.1 (by first | exact g2 | (simp (disch := decide) only [xup2_j, xup2_o, xup2_i]; exact g2)) (by first | exact g3 | (simp (disch := decide) only [xup2_j, xup2_o, xup2_i]; exact g3))
  exact h
theorem n_holds_77 {o1 o2 o3 o4 o6 o7 o8 : Option Value} {x5 : Int} (hM : xMo T R)  : XR sc d 128 77 [some (.ref 56), o1, o2, o3, o4, some (xw x5), o6, o7, o8] [] (T, z, xv V, J, R) = xret 128 (XR sc d 128) 80 83 [some (.ref 56), o1, o2, o3, o4, some (xw x5), o6, o7, o8] [] (X sc d 121 [.ref 56, xw x5] (T, z, xv V, J, R)) := by
  have h := bX7_holds_77 (sc := sc) (d := d) (T := T) (z := z) (V := V) (J := J) (R := R) (o1 := o1) (o2 := o2) (o3 := o3) (o4 := o4) (o6 := o6) (o7 := o7) (o8 := o8) (x5 := x5) (a0 := 56) hM.1
  exact h
theorem n_holds_88 {o1 o2 o3 o4 o5 o6 o8 : Option Value} {x7 : Int} (hM : xMo T R) (g2 : -2147483648 ≤ x7 ∧ x7 ≤ 2147483647) (g3 : -2147483648 ≤ (V 56 3) ∧ (V 56 3) ≤ 2147483647) : XR sc d 128 88 [some (.ref 56), o1, o2, o3, o4, o5, o6, some (xw x7), o8] [] (T, z, xv V, J, R) = if (V 56 3) ≤ x7 then XR sc d 128 156 [some (.ref 56), o1, o2, o3, o4, o5, o6, some (xw x7), o8] [] (T, z, xv V, J, R) else XR sc d 128 97 [some (.ref 56), o1, o2, o3, o4, o5, o6, some (xw x7), o8] [] (T, z, xv V, J, R) := by
  have h := bX7_holds_88 (sc := sc) (d := d) (T := T) (z := z) (V := V) (J := J) (R := R) (o1 := o1) (o2 := o2) (o3 := o3) (o4 := o4) (o5 := o5) (o6 := o6) (o8 := o8) (x7 := x7) (a0 := 56) hM.1 (by first | exact g2 | (simp (disch := decide) only [xup2_j, xup2_o, xup2_i]; exact g2)) (by first | exact g3 | (simp (disch := decide) only [xup2_j, xup2_o, xup2_i]; exact g3))
  exact h
theorem n_holds_97 {o1 o2 o3 o4 o6 o8 : Option Value} {x7 x5 : Int} (hM : xMo T R)  : XR sc d 128 97 [some (.ref 56), o1, o2, o3, o4, some (xw x5), o6, some (xw x7), o8] [] (T, z, xv V, J, R) = xret 128 (XR sc d 128) 102 105 [some (.ref 56), o1, o2, o3, o4, some (xw x5), o6, some (xw x7), o8] [] (X sc d 122 [.ref 56, xw x7, xw x5] (T, z, xv V, J, R)) := by
  have h := bX7_holds_97 (sc := sc) (d := d) (T := T) (z := z) (V := V) (J := J) (R := R) (o1 := o1) (o2 := o2) (o3 := o3) (o4 := o4) (o6 := o6) (o8 := o8) (x7 := x7) (x5 := x5) (a0 := 56) hM.1
  exact h
theorem n_holds_108 {o1 o2 o3 o4 o5 o8 : Option Value} {x6 x7 : Int} (hM : xMo T R)  : XR sc d 128 108 [some (.ref 56), o1, o2, o3, o4, o5, some (xw x6), some (xw x7), o8] [] (T, z, xv V, J, R) = xret 128 (XR sc d 128) 113 116 [some (.ref 56), o1, o2, o3, o4, o5, some (xw x6), some (xw x7), o8] [xw x6] (X sc d 112 [.ref 56, xw x7] (T, z, xv V, J, R)) := by
  have h := bX7_holds_108 (sc := sc) (d := d) (T := T) (z := z) (V := V) (J := J) (R := R) (o1 := o1) (o2 := o2) (o3 := o3) (o4 := o4) (o5 := o5) (o8 := o8) (x6 := x6) (x7 := x7) (a0 := 56) hM.1
  exact h
theorem n_holds_134 {o1 o2 o3 o4 o5 o8 : Option Value} {x6 x7 : Int} (hM : xMo T R)  : XR sc d 128 134 [some (.ref 56), o1, o2, o3, o4, o5, some (xw x6), some (xw x7), o8] [] (T, z, xv V, J, R) = xret 128 (XR sc d 128) 139 142 [some (.ref 56), o1, o2, o3, o4, o5, some (xw x6), some (xw x7), o8] [xw x6] (X sc d 112 [.ref 56, xw x7] (T, z, xv V, J, R)) := by
  have h := bX7_holds_134 (sc := sc) (d := d) (T := T) (z := z) (V := V) (J := J) (R := R) (o1 := o1) (o2 := o2) (o3 := o3) (o4 := o4) (o5 := o5) (o8 := o8) (x6 := x6) (x7 := x7) (a0 := 56) hM.1
  exact h
theorem n_oil_0 {x1 : Int} (hM : xMo T R)  : XR sc d 129 0 [some (.ref 56), some (xw x1)] [] (T, z, xv V, J, R) = xret 129 (XR sc d 129) 3 6 [some (.ref 56), some (xw x1)] [.ref 56] (X sc d 96 [.ref 56, xw x1] (T, z, xv V, J, R)) := by
  have h := bX7_oil_0 (sc := sc) (d := d) (T := T) (z := z) (V := V) (J := J) (R := R) (x1 := x1) (a0 := 56) hM.1
  exact h
theorem n_oil_14 {o0 o1 : Option Value} {y0 : Int} (hM : xMo T R)  : XR sc d 129 14 [o0, o1] [xw y0, .ref 56] (T, z, xv V, J, R) = xret 129 (XR sc d 129) 14 17 [o0, o1] [] (X sc d 93 [.ref 56, xw y0] (T, z, xv V, J, R)) := by
  have h := bX7_oil_14 (sc := sc) (d := d) (T := T) (z := z) (V := V) (J := J) (R := R) (o0 := o0) (o1 := o1) (y0 := y0) (b1 := 56) hM.1
  exact h
theorem n_oil_22 {x1 : Int} (hM : xMo T R) (g4 : 0 ≤ x1 ∧ x1 < 40) (g5 : 0 ≤ (V 65 x1.toNat) ∧ (V 65 x1.toNat) ≤ 2147483647) : XR sc d 129 22 [some (.ref 56), some (xw x1)] [] (T, z, xv V, J, R) = some (.inl (some (xw ((V 65 x1.toNat) / 2))), (T, z, xv (xup2 V 65 x1.toNat ((V 65 x1.toNat) / 2)), J, R)) := by
  have h := bX7_oil_22 (sc := sc) (d := d) (T := T) (z := z) (V := V) (J := J) (R := R) (x1 := x1) (a0 := 56) hM.1 (rgd (kq_10 hM).1) (tgd (kq_10 hM).1 (kq_10 hM).2) (by simp (disch := decide) only [kg_10 hM, kt_10 hM, xup2_o, xup2_i]; omega) (by first | exact g5 | (simp (disch := decide) only [kg_10 hM, kt_10 hM, xup2_o, xup2_i]; exact g5))
  simp (disch := decide) only [kg_10 hM, xup2_o, xup2_i] at h
  exact h
theorem n_canSew_0 {x1 : Int} (hM : xMo T R) (g4 : 0 ≤ x1 ∧ x1 < 40) (g5 : -2147483648 ≤ (V 66 x1.toNat) ∧ (V 66 x1.toNat) ≤ 2147483647) : XR sc d 130 0 [some (.ref 56), some (xw x1)] [] (T, z, xv V, J, R) = if 4 ≤ (V 66 x1.toNat) then XR sc d 130 31 [some (.ref 56), some (xw x1)] [] (T, z, xv V, J, R) else XR sc d 130 10 [some (.ref 56), some (xw x1)] [] (T, z, xv V, J, R) := by
  have h := bX7_canSew_0 (sc := sc) (d := d) (T := T) (z := z) (V := V) (J := J) (R := R) (x1 := x1) (a0 := 56) hM.1 (rgd (kq_11 hM).1) (tgd (kq_11 hM).1 (kq_11 hM).2) (by simp (disch := decide) only [kg_11 hM, kt_11 hM, xup2_o, xup2_i]; omega) (by first | exact g5 | (simp (disch := decide) only [kg_11 hM, kt_11 hM, xup2_o, xup2_i]; exact g5))
  simp (disch := decide) only [kg_11 hM, xup2_o, xup2_i] at h
  exact h
theorem n_canSew_10 {x1 : Int} (hM : xMo T R)  : XR sc d 130 10 [some (.ref 56), some (xw x1)] [] (T, z, xv V, J, R) = xret 130 (XR sc d 130) 12 15 [some (.ref 56), some (xw x1)] [] (X sc d 108 [.ref 56, xw x1] (T, z, xv V, J, R)) := by
  have h := bX7_canSew_10 (sc := sc) (d := d) (T := T) (z := z) (V := V) (J := J) (R := R) (x1 := x1) (a0 := 56) hM.1
  exact h
theorem n_canSew_18 {x1 : Int} (hM : xMo T R) (g4 : 0 ≤ x1 ∧ x1 < 40) (g5 : -2147483648 ≤ (V 67 x1.toNat) ∧ (V 67 x1.toNat) ≤ 2147483647) : XR sc d 130 18 [some (.ref 56), some (xw x1)] [] (T, z, xv V, J, R) = if (V 67 x1.toNat) = 0 then XR sc d 130 27 [some (.ref 56), some (xw x1)] [] (T, z, xv V, J, R) else XR sc d 130 31 [some (.ref 56), some (xw x1)] [] (T, z, xv V, J, R) := by
  have h := bX7_canSew_18 (sc := sc) (d := d) (T := T) (z := z) (V := V) (J := J) (R := R) (x1 := x1) (a0 := 56) hM.1 (rgd (kq_12 hM).1) (tgd (kq_12 hM).1 (kq_12 hM).2) (by simp (disch := decide) only [kg_12 hM, kt_12 hM, xup2_o, xup2_i]; omega) (by first | exact g5 | (simp (disch := decide) only [kg_12 hM, kt_12 hM, xup2_o, xup2_i]; exact g5))
  simp (disch := decide) only [kg_12 hM, xup2_o, xup2_i] at h
  exact h
theorem n_sew_0 {o2 o3 o4 o5 o6 o7 o8 o9 o10 : Option Value} {x1 : Int} (hM : xMo T R)  : XR sc d 131 0 [some (.ref 56), some (xw x1), o2, o3, o4, o5, o6, o7, o8, o9, o10] [] (T, z, xv V, J, R) = xret 131 (XR sc d 131) 2 5 [some (.ref 56), some (xw x1), o2, o3, o4, o5, o6, o7, o8, o9, o10] [] (X sc d 96 [.ref 56, xw x1] (T, z, xv V, J, R)) := by
  have h := bX7_sew_0 (sc := sc) (d := d) (T := T) (z := z) (V := V) (J := J) (R := R) (o2 := o2) (o3 := o3) (o4 := o4) (o5 := o5) (o6 := o6) (o7 := o7) (o8 := o8) (o9 := o9) (o10 := o10) (x1 := x1) (a0 := 56) hM.1
  exact h
theorem n_sew_8 {o1 o3 o4 o5 o6 o7 o8 o9 o10 : Option Value} {x2 : Int} (hM : xMo T R)  : XR sc d 131 8 [some (.ref 56), o1, some (xw x2), o3, o4, o5, o6, o7, o8, o9, o10] [] (T, z, xv V, J, R) = xret 131 (XR sc d 131) 10 13 [some (.ref 56), o1, some (xw x2), o3, o4, o5, o6, o7, o8, o9, o10] [] (X sc d 96 [.ref 56, xw x2] (T, z, xv V, J, R)) := by
  have h := bX7_sew_8 (sc := sc) (d := d) (T := T) (z := z) (V := V) (J := J) (R := R) (o1 := o1) (o3 := o3) (o4 := o4) (o5 := o5) (o6 := o6) (o7 := o7) (o8 := o8) (o9 := o9) (o10 := o10) (x2 := x2) (a0 := 56) hM.1
  exact h
theorem n_sew_75 {o2 o3 o4 o5 o6 o7 o8 o9 o10 : Option Value} {s0 : Value} {x1 : Int} (hM : xMo T R)  : XR sc d 131 75 [some (.ref 56), some (xw x1), o2, o3, o4, o5, o6, o7, o8, o9, o10] [s0] (T, z, xv V, J, R) = xret 131 (XR sc d 131) 77 80 [some (.ref 56), some (xw x1), o2, o3, o4, o5, o6, o7, o8, o9, o10] [s0] (X sc d 130 [.ref 56, xw x1] (T, z, xv V, J, R)) := by
  have h := bX7_sew_75 (sc := sc) (d := d) (T := T) (z := z) (V := V) (J := J) (R := R) (o2 := o2) (o3 := o3) (o4 := o4) (o5 := o5) (o6 := o6) (o7 := o7) (o8 := o8) (o9 := o9) (o10 := o10) (s0 := s0) (x1 := x1) (a0 := 56) hM.1
  exact h
theorem n_sew_83 {o1 o3 o4 o5 o6 o7 o8 o9 o10 : Option Value} {s0 : Value} {x2 : Int} (hM : xMo T R)  : XR sc d 131 83 [some (.ref 56), o1, some (xw x2), o3, o4, o5, o6, o7, o8, o9, o10] [s0] (T, z, xv V, J, R) = xret 131 (XR sc d 131) 85 88 [some (.ref 56), o1, some (xw x2), o3, o4, o5, o6, o7, o8, o9, o10] [s0] (X sc d 130 [.ref 56, xw x2] (T, z, xv V, J, R)) := by
  have h := bX7_sew_83 (sc := sc) (d := d) (T := T) (z := z) (V := V) (J := J) (R := R) (o1 := o1) (o3 := o3) (o4 := o4) (o5 := o5) (o6 := o6) (o7 := o7) (o8 := o8) (o9 := o9) (o10 := o10) (s0 := s0) (x2 := x2) (a0 := 56) hM.1
  exact h
theorem n_sew_96 {o0 o1 o2 o3 o4 o5 o6 o7 o8 o9 o10 : Option Value} {y0 : Int} (hM : xMo T R)  : XR sc d 131 96 [o0, o1, o2, o3, o4, o5, o6, o7, o8, o9, o10] [xw y0, .ref 56] (T, z, xv V, J, R) = xret 131 (XR sc d 131) 96 99 [o0, o1, o2, o3, o4, o5, o6, o7, o8, o9, o10] [] (X sc d 93 [.ref 56, xw y0] (T, z, xv V, J, R)) := by
  have h := bX7_sew_96 (sc := sc) (d := d) (T := T) (z := z) (V := V) (J := J) (R := R) (o0 := o0) (o1 := o1) (o2 := o2) (o3 := o3) (o4 := o4) (o5 := o5) (o6 := o6) (o7 := o7) (o8 := o8) (o9 := o9) (o10 := o10) (y0 := y0) (b1 := 56) hM.1
  exact h
theorem n_sew_104 {o3 o4 o5 o6 o7 o8 o9 o10 : Option Value} {x1 x2 : Int} (hM : xMo T R) (g4 : 0 ≤ x1 ∧ x1 < 40) (g5 : 0 ≤ x2 ∧ x2 < 40) (g8 : 0 ≤ x1 ∧ x1 < 40) (g9 : 0 ≤ x2 ∧ x2 < 40) (g10 : -2147483648 ≤ (V 59 x1.toNat) ∧ (V 59 x1.toNat) ≤ 2147483647) (g11 : -2147483648 ≤ (V 59 x2.toNat) ∧ (V 59 x2.toNat) ≤ 2147483647) : XR sc d 131 104 [some (.ref 56), some (xw x1), some (xw x2), o3, o4, o5, o6, o7, o8, o9, o10] [] (T, z, xv V, J, R) = if (V 59 x2.toNat) ≤ (V 59 x1.toNat) then XR sc d 131 148 [some (.ref 56), some (xw x1), some (xw x2), o3, o4, o5, o6, o7, o8, o9, o10] [] (T, z, xv (xup2 (xup2 V 66 x1.toNat ((V 66 x1.toNat) + 1)) 66 x2.toNat (((xup2 V 66 x1.toNat ((V 66 x1.toNat) + 1)) 66 x2.toNat) + 1)), J, R) else XR sc d 131 139 [some (.ref 56), some (xw x1), some (xw x2), o3, o4, o5, o6, o7, o8, o9, o10] [] (T, z, xv (xup2 (xup2 V 66 x1.toNat ((V 66 x1.toNat) + 1)) 66 x2.toNat (((xup2 V 66 x1.toNat ((V 66 x1.toNat) + 1)) 66 x2.toNat) + 1)), J, R) := by
  have h := bX7_sew_104 (sc := sc) (d := d) (T := T) (z := z) (V := V) (J := J) (R := R) (o3 := o3) (o4 := o4) (o5 := o5) (o6 := o6) (o7 := o7) (o8 := o8) (o9 := o9) (o10 := o10) (x1 := x1) (x2 := x2) (a0 := 56) hM.1 (rgd (kq_11 hM).1) (tgd (kq_11 hM).1 (kq_11 hM).2) (by simp (disch := decide) only [kg_4 hM, kt_4 hM, kg_11 hM, kt_11 hM, xup2_o, xup2_i]; omega) (by simp (disch := decide) only [kg_4 hM, kt_4 hM, kg_11 hM, kt_11 hM, xup2_o, xup2_i]; omega) (rgd (kq_4 hM).1) (tgd (kq_4 hM).1 (kq_4 hM).2) (by simp (disch := decide) only [kg_4 hM, kt_4 hM, kg_11 hM, kt_11 hM, xup2_o, xup2_i]; omega) (by simp (disch := decide) only [kg_4 hM, kt_4 hM, kg_11 hM, kt_11 hM, xup2_o, xup2_i]; omega) (by first | exact g10 | (simp (disch := decide) only [kg_4 hM, kt_4 hM, kg_11 hM, kt_11 hM, xup2_o, xup2_i]; exact g10)) (by first | exact g11 | (simp (disch := decide) only [kg_4 hM, kt_4 hM, kg_11 hM, kt_11 hM, xup2_o, xup2_i]; exact g11))
  simp (disch := decide) only [kg_4 hM, kg_11 hM, xup2_o, xup2_i] at h
  exact h
theorem n_sew_139 {o2 o3 o4 o5 o6 o7 o8 o9 o10 : Option Value} {x1 : Int} (hM : xMo T R) (g4 : 0 ≤ x1 ∧ x1 < 40) : XR sc d 131 139 [some (.ref 56), some (xw x1), o2, o3, o4, o5, o6, o7, o8, o9, o10] [] (T, z, xv V, J, R) = XR sc d 131 154 [some (.ref 56), some (xw x1), o2, o3, o4, o5, o6, o7, o8, o9, o10] [xw (V 59 x1.toNat)] (T, z, xv V, J, R) := by
  have h := bX7_sew_139 (sc := sc) (d := d) (T := T) (z := z) (V := V) (J := J) (R := R) (o2 := o2) (o3 := o3) (o4 := o4) (o5 := o5) (o6 := o6) (o7 := o7) (o8 := o8) (o9 := o9) (o10 := o10) (x1 := x1) (a0 := 56) hM.1 (rgd (kq_4 hM).1) (tgd (kq_4 hM).1 (kq_4 hM).2) (by simp (disch := decide) only [kg_4 hM, kt_4 hM, xup2_o, xup2_i]; omega)
  simp (disch := decide) only [kg_4 hM, xup2_o, xup2_i] at h
  exact h
theorem n_sew_148 {o1 o3 o4 o5 o6 o7 o8 o9 o10 : Option Value} {x2 : Int} (hM : xMo T R) (g4 : 0 ≤ x2 ∧ x2 < 40) : XR sc d 131 148 [some (.ref 56), o1, some (xw x2), o3, o4, o5, o6, o7, o8, o9, o10] [] (T, z, xv V, J, R) = XR sc d 131 154 [some (.ref 56), o1, some (xw x2), o3, o4, o5, o6, o7, o8, o9, o10] [xw (V 59 x2.toNat)] (T, z, xv V, J, R) := by
  have h := bX7_sew_148 (sc := sc) (d := d) (T := T) (z := z) (V := V) (J := J) (R := R) (o1 := o1) (o3 := o3) (o4 := o4) (o5 := o5) (o6 := o6) (o7 := o7) (o8 := o8) (o9 := o9) (o10 := o10) (x2 := x2) (a0 := 56) hM.1 (rgd (kq_4 hM).1) (tgd (kq_4 hM).1 (kq_4 hM).2) (by simp (disch := decide) only [kg_4 hM, kt_4 hM, xup2_o, xup2_i]; omega)
  simp (disch := decide) only [kg_4 hM, xup2_o, xup2_i] at h
  exact h
theorem n_sew_154 {o3 o4 o5 o6 o7 o8 o9 o10 : Option Value} {y0 x1 x2 : Int} (hM : xMo T R) (g4 : 0 ≤ x1 ∧ x1 < 40) (g5 : 0 ≤ x2 ∧ x2 < 40) (g6 : -2147483648 ≤ (V 61 x1.toNat) ∧ (V 61 x1.toNat) ≤ 2147483647) (g7 : -2147483648 ≤ (V 61 x2.toNat) ∧ (V 61 x2.toNat) ≤ 2147483647) : XR sc d 131 154 [some (.ref 56), some (xw x1), some (xw x2), o3, o4, o5, o6, o7, o8, o9, o10] [xw y0] (T, z, xv V, J, R) = if (V 61 x2.toNat) ≤ (V 61 x1.toNat) then XR sc d 131 180 [some (.ref 56), some (xw x1), some (xw x2), o3, o4, o5, o6, some (xw y0), o8, o9, o10] [] (T, z, xv V, J, R) else XR sc d 131 171 [some (.ref 56), some (xw x1), some (xw x2), o3, o4, o5, o6, some (xw y0), o8, o9, o10] [] (T, z, xv V, J, R) := by
  have h := bX7_sew_154 (sc := sc) (d := d) (T := T) (z := z) (V := V) (J := J) (R := R) (o3 := o3) (o4 := o4) (o5 := o5) (o6 := o6) (o7 := o7) (o8 := o8) (o9 := o9) (o10 := o10) (y0 := y0) (x1 := x1) (x2 := x2) (a0 := 56) hM.1 (rgd (kq_6 hM).1) (tgd (kq_6 hM).1 (kq_6 hM).2) (by simp (disch := decide) only [kg_6 hM, kt_6 hM, xup2_o, xup2_i]; omega) (by simp (disch := decide) only [kg_6 hM, kt_6 hM, xup2_o, xup2_i]; omega) (by first | exact g6 | (simp (disch := decide) only [kg_6 hM, kt_6 hM, xup2_o, xup2_i]; exact g6)) (by first | exact g7 | (simp (disch := decide) only [kg_6 hM, kt_6 hM, xup2_o, xup2_i]; exact g7))
  simp (disch := decide) only [kg_6 hM, xup2_o, xup2_i] at h
  exact h
theorem n_sew_171 {o2 o3 o4 o5 o6 o7 o8 o9 o10 : Option Value} {x1 : Int} (hM : xMo T R) (g4 : 0 ≤ x1 ∧ x1 < 40) : XR sc d 131 171 [some (.ref 56), some (xw x1), o2, o3, o4, o5, o6, o7, o8, o9, o10] [] (T, z, xv V, J, R) = XR sc d 131 186 [some (.ref 56), some (xw x1), o2, o3, o4, o5, o6, o7, o8, o9, o10] [xw (V 61 x1.toNat)] (T, z, xv V, J, R) := by
  have h := bX7_sew_171 (sc := sc) (d := d) (T := T) (z := z) (V := V) (J := J) (R := R) (o2 := o2) (o3 := o3) (o4 := o4) (o5 := o5) (o6 := o6) (o7 := o7) (o8 := o8) (o9 := o9) (o10 := o10) (x1 := x1) (a0 := 56) hM.1 (rgd (kq_6 hM).1) (tgd (kq_6 hM).1 (kq_6 hM).2) (by simp (disch := decide) only [kg_6 hM, kt_6 hM, xup2_o, xup2_i]; omega)
  simp (disch := decide) only [kg_6 hM, xup2_o, xup2_i] at h
  exact h
theorem n_sew_180 {o1 o3 o4 o5 o6 o7 o8 o9 o10 : Option Value} {x2 : Int} (hM : xMo T R) (g4 : 0 ≤ x2 ∧ x2 < 40) : XR sc d 131 180 [some (.ref 56), o1, some (xw x2), o3, o4, o5, o6, o7, o8, o9, o10] [] (T, z, xv V, J, R) = XR sc d 131 186 [some (.ref 56), o1, some (xw x2), o3, o4, o5, o6, o7, o8, o9, o10] [xw (V 61 x2.toNat)] (T, z, xv V, J, R) := by
  have h := bX7_sew_180 (sc := sc) (d := d) (T := T) (z := z) (V := V) (J := J) (R := R) (o1 := o1) (o3 := o3) (o4 := o4) (o5 := o5) (o6 := o6) (o7 := o7) (o8 := o8) (o9 := o9) (o10 := o10) (x2 := x2) (a0 := 56) hM.1 (rgd (kq_6 hM).1) (tgd (kq_6 hM).1 (kq_6 hM).2) (by simp (disch := decide) only [kg_6 hM, kt_6 hM, xup2_o, xup2_i]; omega)
  simp (disch := decide) only [kg_6 hM, xup2_o, xup2_i] at h
  exact h
theorem n_sets_26 {o0 o1 o2 o3 o4 o5 o6 o7 : Option Value} {y0 : Int} (hM : xMo T R)  : XR sc d 135 26 [o0, o1, o2, o3, o4, o5, o6, o7] [xw y0, .ref 56] (T, z, xv V, J, R) = xret 135 (XR sc d 135) 26 29 [o0, o1, o2, o3, o4, o5, o6, o7] [] (X sc d 93 [.ref 56, xw y0] (T, z, xv V, J, R)) := by
  have h := bX7_sets_26 (sc := sc) (d := d) (T := T) (z := z) (V := V) (J := J) (R := R) (o0 := o0) (o1 := o1) (o2 := o2) (o3 := o3) (o4 := o4) (o5 := o5) (o6 := o6) (o7 := o7) (y0 := y0) (b1 := 56) hM.1
  exact h
theorem n_back_0 {o3 : Option Value} {x1 x2 : Int} (hM : xMo T R)  : XR sc d 136 0 [some (.ref 56), some (xw x1), some (xw x2), o3] [] (T, z, xv V, J, R) = xret 136 (XR sc d 136) 12 15 [some (.ref 56), some (xw x1), some (xw x2), o3] [xw ((7 * x1) + x2), .ref 74, .ref 56] (X sc d 132 [xw x1] (T, z, xv V, J, R)) := by
  have h := bX7_back_0 (sc := sc) (d := d) (T := T) (z := z) (V := V) (J := J) (R := R) (o3 := o3) (x1 := x1) (x2 := x2) (a0 := 56) hM.1 (rgd (kq_20 hM).1)
  simp (disch := decide) only [kg_20 hM, xup2_o, xup2_i] at h
  exact h
theorem n_back_30 {o0 o1 o2 : Option Value} {x3 y0 y1 : Int} {b2 : Nat} (hM : xMo T R)  : XR sc d 136 30 [o0, o1, o2, some (xw x3)] [xw y0, xw y1, .ref b2, .ref 56] (T, z, xv V, J, R) = xret 136 (XR sc d 136) 35 38 [o0, o1, o2, some (xw x3)] [] (X sc d 135 [.ref 56, .ref b2, xw y1, xw y0, xw x3, xw (-50), xw 50] (T, z, xv V, J, R)) := by
  have h := bX7_back_30 (sc := sc) (d := d) (T := T) (z := z) (V := V) (J := J) (R := R) (o0 := o0) (o1 := o1) (o2 := o2) (x3 := x3) (y0 := y0) (y1 := y1) (b2 := b2) (b3 := 56) hM.1
  exact h
theorem n_tree_0 {o3 : Option Value} {x1 x2 : Int} (hM : xMo T R)  : XR sc d 137 0 [some (.ref 56), some (xw x1), some (xw x2), o3] [] (T, z, xv V, J, R) = xret 137 (XR sc d 137) 12 15 [some (.ref 56), some (xw x1), some (xw x2), o3] [xw ((7 * x1) + x2), .ref 75, .ref 56] (X sc d 133 [xw x1] (T, z, xv V, J, R)) := by
  have h := bX7_tree_0 (sc := sc) (d := d) (T := T) (z := z) (V := V) (J := J) (R := R) (o3 := o3) (x1 := x1) (x2 := x2) (a0 := 56) hM.1 (rgd (kq_21 hM).1)
  simp (disch := decide) only [kg_21 hM, xup2_o, xup2_i] at h
  exact h
theorem n_tree_30 {o0 o1 o2 : Option Value} {x3 y0 y1 : Int} {b2 : Nat} (hM : xMo T R)  : XR sc d 137 30 [o0, o1, o2, some (xw x3)] [xw y0, xw y1, .ref b2, .ref 56] (T, z, xv V, J, R) = xret 137 (XR sc d 137) 35 38 [o0, o1, o2, some (xw x3)] [] (X sc d 135 [.ref 56, .ref b2, xw y1, xw y0, xw x3, xw (-50), xw 50] (T, z, xv V, J, R)) := by
  have h := bX7_tree_30 (sc := sc) (d := d) (T := T) (z := z) (V := V) (J := J) (R := R) (o0 := o0) (o1 := o1) (o2 := o2) (x3 := x3) (y0 := y0) (y1 := y1) (b2 := b2) (b3 := 56) hM.1
  exact h
theorem n_flock_0 {o3 : Option Value} {x1 x2 : Int} (hM : xMo T R)  : XR sc d 138 0 [some (.ref 56), some (xw x1), some (xw x2), o3] [] (T, z, xv V, J, R) = xret 138 (XR sc d 138) 12 15 [some (.ref 56), some (xw x1), some (xw x2), o3] [xw ((7 * x1) + x2), .ref 76, .ref 56] (X sc d 133 [xw x1] (T, z, xv V, J, R)) := by
  have h := bX7_flock_0 (sc := sc) (d := d) (T := T) (z := z) (V := V) (J := J) (R := R) (o3 := o3) (x1 := x1) (x2 := x2) (a0 := 56) hM.1 (rgd (kq_22 hM).1)
  simp (disch := decide) only [kg_22 hM, xup2_o, xup2_i] at h
  exact h
theorem n_flock_30 {o0 o1 o2 : Option Value} {x3 y0 y1 : Int} {b2 : Nat} (hM : xMo T R)  : XR sc d 138 30 [o0, o1, o2, some (xw x3)] [xw y0, xw y1, .ref b2, .ref 56] (T, z, xv V, J, R) = xret 138 (XR sc d 138) 34 37 [o0, o1, o2, some (xw x3)] [] (X sc d 135 [.ref 56, .ref b2, xw y1, xw y0, xw x3, xw 0, xw 20] (T, z, xv V, J, R)) := by
  have h := bX7_flock_30 (sc := sc) (d := d) (T := T) (z := z) (V := V) (J := J) (R := R) (o0 := o0) (o1 := o1) (o2 := o2) (x3 := x3) (y0 := y0) (y1 := y1) (b2 := b2) (b3 := 56) hM.1
  exact h
theorem n_gap_0 {x2 x3 x1 : Int} (hM : xMo T R) (g4 : 0 ≤ ((7 * x2) + x3) ∧ ((7 * x2) + x3) < 42) (g7 : 0 ≤ ((7 * x2) + x3) ∧ ((7 * x2) + x3) < 42) (g10 : 0 ≤ ((7 * x1) + x3) ∧ ((7 * x1) + x3) < 42) : XR sc d 139 0 [some (.ref 56), some (xw x1), some (xw x2), some (xw x3)] [] (T, z, xv V, J, R) = some (.inl (some (xw (((V 75 ((7 * x2) + x3).toNat) - (V 76 ((7 * x2) + x3).toNat)) - (V 74 ((7 * x1) + x3).toNat)))), (T, z, xv V, J, R)) := by
  have h := bX7_gap_0 (sc := sc) (d := d) (T := T) (z := z) (V := V) (J := J) (R := R) (x2 := x2) (x3 := x3) (x1 := x1) (a0 := 56) hM.1 (rgd (kq_21 hM).1) (tgd (kq_21 hM).1 (kq_21 hM).2) (by simp (disch := decide) only [kg_20 hM, kt_20 hM, kg_21 hM, kt_21 hM, kg_22 hM, kt_22 hM, xup2_o, xup2_i]; omega) (rgd (kq_22 hM).1) (tgd (kq_22 hM).1 (kq_22 hM).2) (by simp (disch := decide) only [kg_20 hM, kt_20 hM, kg_21 hM, kt_21 hM, kg_22 hM, kt_22 hM, xup2_o, xup2_i]; omega) (rgd (kq_20 hM).1) (tgd (kq_20 hM).1 (kq_20 hM).2) (by simp (disch := decide) only [kg_20 hM, kt_20 hM, kg_21 hM, kt_21 hM, kg_22 hM, kt_22 hM, xup2_o, xup2_i]; omega)
  simp (disch := decide) only [kg_20 hM, kg_21 hM, kg_22 hM, xup2_o, xup2_i] at h
  exact h
theorem n_pressureAt_0 {o5 : Option Value} {x3 x1 x2 x4 : Int} (hM : xMo T R)  : XR sc d 140 0 [some (.ref 56), some (xw x1), some (xw x2), some (xw x3), some (xw x4), o5] [] (T, z, xv V, J, R) = xret 140 (XR sc d 140) 6 9 [some (.ref 56), some (xw x1), some (xw x2), some (xw x3), some (xw x4), o5] [xw x3] (X sc d 139 [.ref 56, xw x1, xw x2, xw x4] (T, z, xv V, J, R)) := by
  have h := bX7_pressureAt_0 (sc := sc) (d := d) (T := T) (z := z) (V := V) (J := J) (R := R) (o5 := o5) (x3 := x3) (x1 := x1) (x2 := x2) (x4 := x4) (a0 := 56) hM.1
  exact h
theorem n_depthOf_30 {o3 : Option Value} {x5 x1 x2 x4 x6 : Int} (hM : xMo T R)  : XR sc d 141 30 [some (.ref 56), some (xw x1), some (xw x2), o3, some (xw x4), some (xw x5), some (xw x6)] [] (T, z, xv V, J, R) = xret 141 (XR sc d 141) 39 42 [some (.ref 56), some (xw x1), some (xw x2), o3, some (xw x4), some (xw x5), some (xw x6)] [xw x5] (X sc d 140 [.ref 56, xw x1, xw x2, xw x4, xw x6] (T, z, xv V, J, R)) := by
  have h := bX7_depthOf_30 (sc := sc) (d := d) (T := T) (z := z) (V := V) (J := J) (R := R) (o3 := o3) (x5 := x5) (x1 := x1) (x2 := x2) (x4 := x4) (x6 := x6) (a0 := 56) hM.1
  exact h
theorem n_missesSaddle_33 {o0 o1 o2 o3 o4 : Option Value} {y0 : Int} (hM : xMo T R)  : XR sc d 142 33 [o0, o1, o2, o3, o4] [xw y0, .ref 56] (T, z, xv V, J, R) = xret 142 (XR sc d 142) 33 36 [o0, o1, o2, o3, o4] [] (X sc d 93 [.ref 56, xw y0] (T, z, xv V, J, R)) := by
  have h := bX7_missesSaddle_33 (sc := sc) (d := d) (T := T) (z := z) (V := V) (J := J) (R := R) (o0 := o0) (o1 := o1) (o2 := o2) (o3 := o3) (o4 := o4) (y0 := y0) (b1 := 56) hM.1
  exact h
theorem n_sinks_7 {o0 o1 o2 o3 : Option Value} {y0 y1 y2 : Int} (hM : xMo T R)  : XR sc d 144 7 [o0, o1, o2, o3] [xw y0, xw y1, xw y2, .ref 56] (T, z, xv V, J, R) = xret 144 (XR sc d 144) 8 11 [o0, o1, o2, o3] [] (X sc d 142 [.ref 56, xw y2, xw y1, xw y0, xw 1] (T, z, xv V, J, R)) := by
  have h := bX7_sinks_7 (sc := sc) (d := d) (T := T) (z := z) (V := V) (J := J) (R := R) (o0 := o0) (o1 := o1) (o2 := o2) (o3 := o3) (y0 := y0) (y1 := y1) (y2 := y2) (b3 := 56) hM.1
  exact h
theorem n_sinks_18 {x1 x2 x3 : Int} (hM : xMo T R)  : XR sc d 144 18 [some (.ref 56), some (xw x1), some (xw x2), some (xw x3)] [] (T, z, xv V, J, R) = xret 144 (XR sc d 144) 22 25 [some (.ref 56), some (xw x1), some (xw x2), some (xw x3)] [] (X sc d 141 [.ref 56, xw x1, xw x2, xw x3] (T, z, xv V, J, R)) := by
  have h := bX7_sinks_18 (sc := sc) (d := d) (T := T) (z := z) (V := V) (J := J) (R := R) (x1 := x1) (x2 := x2) (x3 := x3) (a0 := 56) hM.1
  exact h
theorem n_sinksAnew_0 {x1 x2 x3 : Int} (hM : xMo T R)  : XR sc d 145 0 [some (.ref 56), some (xw x1), some (xw x2), some (xw x3)] [] (T, z, xv V, J, R) = xret 145 (XR sc d 145) 4 7 [some (.ref 56), some (xw x1), some (xw x2), some (xw x3)] [] (X sc d 144 [.ref 56, xw x1, xw x2, xw x3] (T, z, xv V, J, R)) := by
  have h := bX7_sinksAnew_0 (sc := sc) (d := d) (T := T) (z := z) (V := V) (J := J) (R := R) (x1 := x1) (x2 := x2) (x3 := x3) (a0 := 56) hM.1
  exact h
theorem n_pressure_12 {o0 o1 o2 o3 o4 : Option Value} {y0 y1 y2 y3 : Int} (hM : xMo T R)  : XR sc d 146 12 [o0, o1, o2, o3, o4] [xw y0, xw y1, xw y2, xw y3, .ref 56] (T, z, xv V, J, R) = xret 146 (XR sc d 146) 12 15 [o0, o1, o2, o3, o4] [] (X sc d 142 [.ref 56, xw y3, xw y2, xw y1, xw y0] (T, z, xv V, J, R)) := by
  have h := bX7_pressure_12 (sc := sc) (d := d) (T := T) (z := z) (V := V) (J := J) (R := R) (o0 := o0) (o1 := o1) (o2 := o2) (o3 := o3) (o4 := o4) (y0 := y0) (y1 := y1) (y2 := y2) (y3 := y3) (b4 := 56) hM.1
  exact h
theorem n_pressure_22 {o4 : Option Value} {x1 x2 x3 : Int} (hM : xMo T R)  : XR sc d 146 22 [some (.ref 56), some (xw x1), some (xw x2), some (xw x3), o4] [] (T, z, xv V, J, R) = xret 146 (XR sc d 146) 29 32 [some (.ref 56), some (xw x1), some (xw x2), some (xw x3), o4] [xw x2, xw x1, .ref 56] (X sc d 141 [.ref 56, xw x1, xw x2, xw x3] (T, z, xv V, J, R)) := by
  have h := bX7_pressure_22 (sc := sc) (d := d) (T := T) (z := z) (V := V) (J := J) (R := R) (o4 := o4) (x1 := x1) (x2 := x2) (x3 := x3) (a0 := 56) hM.1
  exact h
theorem n_pressure_32 {o0 o1 o2 o3 : Option Value} {x4 y0 y1 y2 : Int} (hM : xMo T R)  : XR sc d 146 32 [o0, o1, o2, o3, some (xw x4)] [xw y0, xw y1, xw y2, .ref 56] (T, z, xv V, J, R) = xret 146 (XR sc d 146) 34 37 [o0, o1, o2, o3, some (xw x4)] [] (X sc d 140 [.ref 56, xw y2, xw y1, xw y0, xw x4] (T, z, xv V, J, R)) := by
  have h := bX7_pressure_32 (sc := sc) (d := d) (T := T) (z := z) (V := V) (J := J) (R := R) (o0 := o0) (o1 := o1) (o2 := o2) (o3 := o3) (x4 := x4) (y0 := y0) (y1 := y1) (y2 := y2) (b3 := 56) hM.1
  exact h
theorem n_bridges_7 {o0 o1 o2 o3 o4 o5 o6 o7 o8 : Option Value} {y0 y1 y2 : Int} (hM : xMo T R)  : XR sc d 147 7 [o0, o1, o2, o3, o4, o5, o6, o7, o8] [xw y0, xw y1, xw y2, .ref 56] (T, z, xv V, J, R) = xret 147 (XR sc d 147) 8 11 [o0, o1, o2, o3, o4, o5, o6, o7, o8] [] (X sc d 142 [.ref 56, xw y2, xw y1, xw y0, xw 1] (T, z, xv V, J, R)) := by
  have h := bX7_bridges_7 (sc := sc) (d := d) (T := T) (z := z) (V := V) (J := J) (R := R) (o0 := o0) (o1 := o1) (o2 := o2) (o3 := o3) (o4 := o4) (o5 := o5) (o6 := o6) (o7 := o7) (o8 := o8) (y0 := y0) (y1 := y1) (y2 := y2) (b3 := 56) hM.1
  exact h
theorem n_bridges_16 {o4 o5 o6 o7 o8 : Option Value} {x1 x2 x3 : Int} (hM : xMo T R)  : XR sc d 147 16 [some (.ref 56), some (xw x1), some (xw x2), some (xw x3), o4, o5, o6, o7, o8] [] (T, z, xv V, J, R) = xret 147 (XR sc d 147) 20 23 [some (.ref 56), some (xw x1), some (xw x2), some (xw x3), o4, o5, o6, o7, o8] [] (X sc d 141 [.ref 56, xw x1, xw x2, xw x3] (T, z, xv V, J, R)) := by
  have h := bX7_bridges_16 (sc := sc) (d := d) (T := T) (z := z) (V := V) (J := J) (R := R) (o4 := o4) (o5 := o5) (o6 := o6) (o7 := o7) (o8 := o8) (x1 := x1) (x2 := x2) (x3 := x3) (a0 := 56) hM.1
  exact h
theorem n_bridges_38 {o3 o7 o8 : Option Value} {x5 x1 x2 x4 x6 : Int} (hM : xMo T R)  : XR sc d 147 38 [some (.ref 56), some (xw x1), some (xw x2), o3, some (xw x4), some (xw x5), some (xw x6), o7, o8] [] (T, z, xv V, J, R) = xret 147 (XR sc d 147) 47 50 [some (.ref 56), some (xw x1), some (xw x2), o3, some (xw x4), some (xw x5), some (xw x6), o7, o8] [xw x5] (X sc d 140 [.ref 56, xw x1, xw x2, xw x4, xw x6] (T, z, xv V, J, R)) := by
  have h := bX7_bridges_38 (sc := sc) (d := d) (T := T) (z := z) (V := V) (J := J) (R := R) (o3 := o3) (o7 := o7) (o8 := o8) (x5 := x5) (x1 := x1) (x2 := x2) (x4 := x4) (x6 := x6) (a0 := 56) hM.1
  exact h
theorem n_isLame_14 {o2 : Option Value} {x1 x3 : Int} (hM : xMo T R) (g4 : 0 ≤ ((7 * x1) + x3) ∧ ((7 * x1) + x3) < 42) (g5 : -2147483648 ≤ (V 77 ((7 * x1) + x3).toNat) ∧ (V 77 ((7 * x1) + x3).toNat) ≤ 2147483647) : XR sc d 148 14 [some (.ref 56), some (xw x1), o2, some (xw x3)] [] (T, z, xv V, J, R) = if (V 77 ((7 * x1) + x3).toNat) < 100 then XR sc d 148 34 [some (.ref 56), some (xw x1), o2, some (xw x3)] [] (T, z, xv V, J, R) else XR sc d 148 30 [some (.ref 56), some (xw x1), o2, some (xw x3)] [] (T, z, xv V, J, R) := by
  have h := bX7_isLame_14 (sc := sc) (d := d) (T := T) (z := z) (V := V) (J := J) (R := R) (o2 := o2) (x1 := x1) (x3 := x3) (a0 := 56) hM.1 (rgd (kq_23 hM).1) (tgd (kq_23 hM).1 (kq_23 hM).2) (by simp (disch := decide) only [kg_23 hM, kt_23 hM, xup2_o, xup2_i]; omega) (by first | exact g5 | (simp (disch := decide) only [kg_23 hM, kt_23 hM, xup2_o, xup2_i]; exact g5))
  simp (disch := decide) only [kg_23 hM, xup2_o, xup2_i] at h
  exact h
theorem n_ride_89 {o2 o3 o4 o5 o6 o7 o8 o9 o10 o11 o12 o13 o14 : Option Value} {s0 : Value} {x1 : Int} (hM : xMo T R)  : XR sc d 149 89 [some (.ref 56), some (xw x1), o2, o3, o4, o5, o6, o7, o8, o9, o10, o11, o12, o13, o14] [s0] (T, z, xv V, J, R) = xret 149 (XR sc d 149) 91 94 [some (.ref 56), some (xw x1), o2, o3, o4, o5, o6, o7, o8, o9, o10, o11, o12, o13, o14] [s0] (X sc d 148 [.ref 56, xw x1] (T, z, xv V, J, R)) := by
  have h := bX7_ride_89 (sc := sc) (d := d) (T := T) (z := z) (V := V) (J := J) (R := R) (o2 := o2) (o3 := o3) (o4 := o4) (o5 := o5) (o6 := o6) (o7 := o7) (o8 := o8) (o9 := o9) (o10 := o10) (o11 := o11) (o12 := o12) (o13 := o13) (o14 := o14) (s0 := s0) (x1 := x1) (a0 := 56) hM.1
  exact h
theorem n_ride_97 {o1 o2 o3 o4 o5 o6 o7 o8 o9 o10 o11 o12 o13 o14 : Option Value} {s0 : Value} (hM : xMo T R) (g2 : -2147483648 ≤ (V 56 24) ∧ (V 56 24) ≤ 2147483647) : XR sc d 149 97 [some (.ref 56), o1, o2, o3, o4, o5, o6, o7, o8, o9, o10, o11, o12, o13, o14] [s0] (T, z, xv V, J, R) = if (V 56 24) = 60 then XR sc d 149 106 [some (.ref 56), o1, o2, o3, o4, o5, o6, o7, o8, o9, o10, o11, o12, o13, o14] [s0] (T, z, xv V, J, R) else XR sc d 149 110 [some (.ref 56), o1, o2, o3, o4, o5, o6, o7, o8, o9, o10, o11, o12, o13, o14] [s0] (T, z, xv V, J, R) := by
  have h := bX7_ride_97 (sc := sc) (d := d) (T := T) (z := z) (V := V) (J := J) (R := R) (o1 := o1) (o2 := o2) (o3 := o3) (o4 := o4) (o5 := o5) (o6 := o6) (o7 := o7) (o8 := o8) (o9 := o9) (o10 := o10) (o11 := o11) (o12 := o12) (o13 := o13) (o14 := o14) (s0 := s0) (a0 := 56) hM.1 (by first | exact g2 | (simp (disch := decide) only [xup2_j, xup2_o, xup2_i]; exact g2))
  exact h
theorem n_ride_111 {o0 o1 o2 o3 o4 o5 o6 o7 o8 o9 o10 o11 o12 o13 o14 : Option Value} {y0 : Int} (hM : xMo T R)  : XR sc d 149 111 [o0, o1, o2, o3, o4, o5, o6, o7, o8, o9, o10, o11, o12, o13, o14] [xw y0, .ref 56] (T, z, xv V, J, R) = xret 149 (XR sc d 149) 111 114 [o0, o1, o2, o3, o4, o5, o6, o7, o8, o9, o10, o11, o12, o13, o14] [] (X sc d 93 [.ref 56, xw y0] (T, z, xv V, J, R)) := by
  have h := bX7_ride_111 (sc := sc) (d := d) (T := T) (z := z) (V := V) (J := J) (R := R) (o0 := o0) (o1 := o1) (o2 := o2) (o3 := o3) (o4 := o4) (o5 := o5) (o6 := o6) (o7 := o7) (o8 := o8) (o9 := o9) (o10 := o10) (o11 := o11) (o12 := o12) (o13 := o13) (o14 := o14) (y0 := y0) (b1 := 56) hM.1
  exact h
theorem n_ride_119 {o3 o6 o7 o8 o9 o10 o11 o12 o13 o14 : Option Value} {x1 x2 x4 x5 : Int} (hM : xMo T R)  : XR sc d 149 119 [some (.ref 56), some (xw x1), some (xw x2), o3, some (xw x4), some (xw x5), o6, o7, o8, o9, o10, o11, o12, o13, o14] [] (T, z, xv V, J, R) = xret 149 (XR sc d 149) 127 130 [some (.ref 56), some (xw x1), some (xw x2), o3, some (xw x4), some (xw x5), o6, o7, o8, o9, o10, o11, o12, o13, o14] [] (X sc d 141 [.ref 56, xw x1, xw x2, xw (x4 * x5)] (T, z, xv V, J, R)) := by
  have h := bX7_ride_119 (sc := sc) (d := d) (T := T) (z := z) (V := V) (J := J) (R := R) (o3 := o3) (o6 := o6) (o7 := o7) (o8 := o8) (o9 := o9) (o10 := o10) (o11 := o11) (o12 := o12) (o13 := o13) (o14 := o14) (x1 := x1) (x2 := x2) (x4 := x4) (x5 := x5) (a0 := 56) hM.1
  exact h
theorem n_ride_145 {o3 o4 o5 o6 o7 o8 o10 o12 o13 o14 : Option Value} {x1 x2 x9 x11 : Int} (hM : xMo T R)  : XR sc d 149 145 [some (.ref 56), some (xw x1), some (xw x2), o3, o4, o5, o6, o7, o8, some (xw x9), o10, some (xw x11), o12, o13, o14] [] (T, z, xv V, J, R) = xret 149 (XR sc d 149) 152 155 [some (.ref 56), some (xw x1), some (xw x2), o3, o4, o5, o6, o7, o8, some (xw x9), o10, some (xw x11), o12, o13, o14] [] (X sc d 140 [.ref 56, xw x1, xw x2, xw x9, xw x11] (T, z, xv V, J, R)) := by
  have h := bX7_ride_145 (sc := sc) (d := d) (T := T) (z := z) (V := V) (J := J) (R := R) (o3 := o3) (o4 := o4) (o5 := o5) (o6 := o6) (o7 := o7) (o8 := o8) (o10 := o10) (o12 := o12) (o13 := o13) (o14 := o14) (x1 := x1) (x2 := x2) (x9 := x9) (x11 := x11) (a0 := 56) hM.1
  exact h
theorem n_ride_201 {o1 o4 o6 o7 o8 o9 o10 : Option Value} {y0 y1 x14 x13 x2 x3 x5 x11 x12 : Int} (hM : xMo T R) (g4 : 0 ≤ x14 ∧ x14 < 42) (g7 : 0 ≤ ((6 * x14) + x2) ∧ ((6 * x14) + x2) < 252) (g10 : 0 ≤ ((4 * x14) + x3) ∧ ((4 * x14) + x3) < 168) (g13 : 0 ≤ ((4 * x14) + x5) ∧ ((4 * x14) + x5) < 168) (g16 : 0 ≤ ((7 * x2) + x11) ∧ ((7 * x2) + x11) < 42) (g17 : -2147483648 ≤ x12 ∧ x12 ≤ 2147483647) : XR sc d 149 201 [some (.ref 56), o1, some (xw x2), some (xw x3), o4, some (xw x5), o6, o7, o8, o9, o10, some (xw x11), some (xw x12), some (xw x13), some (xw x14)] [xw y0, xw y1] (T, z, xv V, J, R) = if x12 ≤ 20 then XR sc d 149 305 [some (.ref 56), o1, some (xw x2), some (xw x3), o4, some (xw x5), o6, o7, o8, o9, some (xw (y1 + y0)), some (xw x11), some (xw x12), some (xw x13), some (xw x14)] [xw (V 76 ((7 * x2) + x11).toNat), xw ((7 * x2) + x11), .ref 76] (T, z, xv (xup2 (xup2 (xup2 (xup2 V 77 x14.toNat ((V 77 x14.toNat) + x13)) 78 ((6 * x14) + x2).toNat ((V 78 ((6 * x14) + x2).toNat) + x13)) 79 ((4 * x14) + x3).toNat ((V 79 ((4 * x14) + x3).toNat) + x13)) 80 ((4 * x14) + x5).toNat ((V 80 ((4 * x14) + x5).toNat) + x13)), J, R) else XR sc d 149 286 [some (.ref 56), o1, some (xw x2), some (xw x3), o4, some (xw x5), o6, o7, o8, o9, some (xw (y1 + y0)), some (xw x11), some (xw x12), some (xw x13), some (xw x14)] [xw (V 76 ((7 * x2) + x11).toNat), xw ((7 * x2) + x11), .ref 76] (T, z, xv (xup2 (xup2 (xup2 (xup2 V 77 x14.toNat ((V 77 x14.toNat) + x13)) 78 ((6 * x14) + x2).toNat ((V 78 ((6 * x14) + x2).toNat) + x13)) 79 ((4 * x14) + x3).toNat ((V 79 ((4 * x14) + x3).toNat) + x13)) 80 ((4 * x14) + x5).toNat ((V 80 ((4 * x14) + x5).toNat) + x13)), J, R) := by
  have h := bX7_ride_201 (sc := sc) (d := d) (T := T) (z := z) (V := V) (J := J) (R := R) (o1 := o1) (o4 := o4) (o6 := o6) (o7 := o7) (o8 := o8) (o9 := o9) (o10 := o10) (y0 := y0) (y1 := y1) (x14 := x14) (x13 := x13) (x2 := x2) (x3 := x3) (x5 := x5) (x11 := x11) (x12 := x12) (a0 := 56) hM.1 (rgd (kq_23 hM).1) (tgd (kq_23 hM).1 (kq_23 hM).2) (by simp (disch := decide) only [kg_22 hM, kt_22 hM, kg_23 hM, kt_23 hM, kg_25 hM, kt_25 hM, kg_26 hM, kt_26 hM, kg_27 hM, kt_27 hM, xup2_o, xup2_i]; omega) (rgd (kq_25 hM).1) (tgd (kq_25 hM).1 (kq_25 hM).2) (by simp (disch := decide) only [kg_22 hM, kt_22 hM, kg_23 hM, kt_23 hM, kg_25 hM, kt_25 hM, kg_26 hM, kt_26 hM, kg_27 hM, kt_27 hM, xup2_o, xup2_i]; omega) (rgd (kq_26 hM).1) (tgd (kq_26 hM).1 (kq_26 hM).2) (by simp (disch := decide) only [kg_22 hM, kt_22 hM, kg_23 hM, kt_23 hM, kg_25 hM, kt_25 hM, kg_26 hM, kt_26 hM, kg_27 hM, kt_27 hM, xup2_o, xup2_i]; omega) (rgd (kq_27 hM).1) (tgd (kq_27 hM).1 (kq_27 hM).2) (by simp (disch := decide) only [kg_22 hM, kt_22 hM, kg_23 hM, kt_23 hM, kg_25 hM, kt_25 hM, kg_26 hM, kt_26 hM, kg_27 hM, kt_27 hM, xup2_o, xup2_i]; omega) (rgd (kq_22 hM).1) (tgd (kq_22 hM).1 (kq_22 hM).2) (by simp (disch := decide) only [kg_22 hM, kt_22 hM, kg_23 hM, kt_23 hM, kg_25 hM, kt_25 hM, kg_26 hM, kt_26 hM, kg_27 hM, kt_27 hM, xup2_o, xup2_i]; omega) (by first | exact g17 | (simp (disch := decide) only [kg_22 hM, kt_22 hM, kg_23 hM, kt_23 hM, kg_25 hM, kt_25 hM, kg_26 hM, kt_26 hM, kg_27 hM, kt_27 hM, xup2_o, xup2_i]; exact g17))
  simp (disch := decide) only [kg_22 hM, kg_23 hM, kg_25 hM, kg_26 hM, kg_27 hM, xup2_o, xup2_i] at h
  exact h
theorem n_ride_286 {o1 o3 o4 o5 o6 o7 o8 o9 o10 o12 o13 o14 : Option Value} {s0 s1 s2 : Value} {x2 x11 : Int} (hM : xMo T R) (g4 : 0 ≤ ((7 * x2) + x11) ∧ ((7 * x2) + x11) < 42) (g5 : -2147483648 ≤ (V 76 ((7 * x2) + x11).toNat) ∧ (V 76 ((7 * x2) + x11).toNat) ≤ 2147483647) : XR sc d 149 286 [some (.ref 56), o1, some (xw x2), o3, o4, o5, o6, o7, o8, o9, o10, some (xw x11), o12, o13, o14] [s0, s1, s2] (T, z, xv V, J, R) = if (V 76 ((7 * x2) + x11).toNat) ≤ 0 then XR sc d 149 305 [some (.ref 56), o1, some (xw x2), o3, o4, o5, o6, o7, o8, o9, o10, some (xw x11), o12, o13, o14] [s0, s1, s2] (T, z, xv V, J, R) else XR sc d 149 301 [some (.ref 56), o1, some (xw x2), o3, o4, o5, o6, o7, o8, o9, o10, some (xw x11), o12, o13, o14] [s0, s1, s2] (T, z, xv V, J, R) := by
  have h := bX7_ride_286 (sc := sc) (d := d) (T := T) (z := z) (V := V) (J := J) (R := R) (o1 := o1) (o3 := o3) (o4 := o4) (o5 := o5) (o6 := o6) (o7 := o7) (o8 := o8) (o9 := o9) (o10 := o10) (o12 := o12) (o13 := o13) (o14 := o14) (s0 := s0) (s1 := s1) (s2 := s2) (x2 := x2) (x11 := x11) (a0 := 56) hM.1 (rgd (kq_22 hM).1) (tgd (kq_22 hM).1 (kq_22 hM).2) (by simp (disch := decide) only [kg_22 hM, kt_22 hM, xup2_o, xup2_i]; omega) (by first | exact g5 | (simp (disch := decide) only [kg_22 hM, kt_22 hM, xup2_o, xup2_i]; exact g5))
  simp (disch := decide) only [kg_22 hM, xup2_o, xup2_i] at h
  exact h
theorem n_ride_306 {o0 o1 o2 o3 o4 o5 o6 o7 o8 o9 o10 o12 o13 o14 : Option Value} {y0 y1 y2 x11 : Int} (hM : xMo T R) (g2 : 0 ≤ y2 ∧ y2 < 42) : XR sc d 149 306 [o0, o1, o2, o3, o4, o5, o6, o7, o8, o9, o10, some (xw x11), o12, o13, o14] [xw y0, xw y1, xw y2, .ref 76] (T, z, xv V, J, R) = XR sc d 149 138 [o0, o1, o2, o3, o4, o5, o6, o7, o8, o9, o10, some (xw (x11 + 1)), o12, o13, o14] [] (T, z, xv (xup2 V 76 y2.toNat (y1 - y0)), J, R) := by
  have h := bX7_ride_306 (sc := sc) (d := d) (T := T) (z := z) (V := V) (J := J) (R := R) (o0 := o0) (o1 := o1) (o2 := o2) (o3 := o3) (o4 := o4) (o5 := o5) (o6 := o6) (o7 := o7) (o8 := o8) (o9 := o9) (o10 := o10) (o12 := o12) (o13 := o13) (o14 := o14) (y0 := y0) (y1 := y1) (y2 := y2) (x11 := x11) (b3 := 76) (by rw [kt_22 hM]) (by simp (disch := decide) only [kg_22 hM, kt_22 hM, xup2_o, xup2_i]; omega)
  exact h
theorem n_ride_314 {o1 o2 o3 o4 o5 o6 o7 o8 o9 o11 o12 o13 o14 : Option Value} {x10 : Int} (hM : xMo T R)  : XR sc d 149 314 [some (.ref 56), o1, o2, o3, o4, o5, o6, o7, o8, o9, some (xw x10), o11, o12, o13, o14] [] (T, z, xv V, J, R) = some (.inl (some (xw x10)), (T, z, xv (xup2 V 56 24 ((V 56 24) + 1)), J, R)) := by
  have h := bX7_ride_314 (sc := sc) (d := d) (T := T) (z := z) (V := V) (J := J) (R := R) (o1 := o1) (o2 := o2) (o3 := o3) (o4 := o4) (o5 := o5) (o6 := o6) (o7 := o7) (o8 := o8) (o9 := o9) (o11 := o11) (o12 := o12) (o13 := o13) (o14 := o14) (x10 := x10) (a0 := 56) hM.1
  exact h
theorem n_rest_16 {o0 o1 o2 o3 : Option Value} {y0 : Int} (hM : xMo T R)  : XR sc d 150 16 [o0, o1, o2, o3] [xw y0, .ref 56] (T, z, xv V, J, R) = xret 150 (XR sc d 150) 16 19 [o0, o1, o2, o3] [] (X sc d 93 [.ref 56, xw y0] (T, z, xv V, J, R)) := by
  have h := bX7_rest_16 (sc := sc) (d := d) (T := T) (z := z) (V := V) (J := J) (R := R) (o0 := o0) (o1 := o1) (o2 := o2) (o3 := o3) (y0 := y0) (b1 := 56) hM.1
  exact h
theorem n_rest_32 {o3 : Option Value} {x2 x1 : Int} (hM : xMo T R) (g4 : 0 ≤ x2 ∧ x2 < 42) (g5 : -2147483648 ≤ (V 77 x2.toNat) ∧ (V 77 x2.toNat) ≤ 2147483647) (g6 : -2147483648 ≤ (10 * x1) ∧ (10 * x1) ≤ 2147483647) : XR sc d 150 32 [some (.ref 56), some (xw x1), some (xw x2), o3] [] (T, z, xv V, J, R) = if (V 77 x2.toNat) ≤ (10 * x1) then XR sc d 150 64 [some (.ref 56), some (xw x1), some (xw x2), o3] [xw x2, .ref 77] (T, z, xv V, J, R) else XR sc d 150 50 [some (.ref 56), some (xw x1), some (xw x2), o3] [xw x2, .ref 77] (T, z, xv V, J, R) := by
  have h := bX7_rest_32 (sc := sc) (d := d) (T := T) (z := z) (V := V) (J := J) (R := R) (o3 := o3) (x2 := x2) (x1 := x1) (a0 := 56) hM.1 (rgd (kq_23 hM).1) (tgd (kq_23 hM).1 (kq_23 hM).2) (by simp (disch := decide) only [kg_23 hM, kt_23 hM, xup2_o, xup2_i]; omega) (by first | exact g5 | (simp (disch := decide) only [kg_23 hM, kt_23 hM, xup2_o, xup2_i]; exact g5)) (by first | exact g6 | (simp (disch := decide) only [kg_23 hM, kt_23 hM, xup2_o, xup2_i]; exact g6))
  simp (disch := decide) only [kg_23 hM, xup2_o, xup2_i] at h
  exact h
theorem n_rest_50 {o3 : Option Value} {s0 s1 : Value} {x2 x1 : Int} (hM : xMo T R) (g4 : 0 ≤ x2 ∧ x2 < 42) : XR sc d 150 50 [some (.ref 56), some (xw x1), some (xw x2), o3] [s0, s1] (T, z, xv V, J, R) = XR sc d 150 65 [some (.ref 56), some (xw x1), some (xw x2), o3] [xw ((V 77 x2.toNat) - (10 * x1)), s0, s1] (T, z, xv V, J, R) := by
  have h := bX7_rest_50 (sc := sc) (d := d) (T := T) (z := z) (V := V) (J := J) (R := R) (o3 := o3) (s0 := s0) (s1 := s1) (x2 := x2) (x1 := x1) (a0 := 56) hM.1 (rgd (kq_23 hM).1) (tgd (kq_23 hM).1 (kq_23 hM).2) (by simp (disch := decide) only [kg_23 hM, kt_23 hM, xup2_o, xup2_i]; omega)
  simp (disch := decide) only [kg_23 hM, xup2_o, xup2_i] at h
  exact h
theorem n_rest_65 {o0 o1 o3 : Option Value} {y0 y1 x2 : Int} (hM : xMo T R) (g2 : 0 ≤ y1 ∧ y1 < 42) : XR sc d 150 65 [o0, o1, some (xw x2), o3] [xw y0, xw y1, .ref 77] (T, z, xv V, J, R) = XR sc d 150 26 [o0, o1, some (xw (x2 + 1)), o3] [] (T, z, xv (xup2 V 77 y1.toNat y0), J, R) := by
  have h := bX7_rest_65 (sc := sc) (d := d) (T := T) (z := z) (V := V) (J := J) (R := R) (o0 := o0) (o1 := o1) (o3 := o3) (y0 := y0) (y1 := y1) (x2 := x2) (b2 := 77) (by rw [kt_23 hM]) (by simp (disch := decide) only [kg_23 hM, kt_23 hM, xup2_o, xup2_i]; omega)
  exact h
theorem n_rest_82 {o1 : Option Value} {x2 x3 : Int} (hM : xMo T R)  : XR sc d 150 82 [some (.ref 56), o1, some (xw x2), some (xw x3)] [] (T, z, xv V, J, R) = xret 150 (XR sc d 150) 85 88 [some (.ref 56), o1, some (xw x2), some (xw x3)] [xw x2] (X sc d 148 [.ref 56, xw x3] (T, z, xv V, J, R)) := by
  have h := bX7_rest_82 (sc := sc) (d := d) (T := T) (z := z) (V := V) (J := J) (R := R) (o1 := o1) (x2 := x2) (x3 := x3) (a0 := 56) hM.1
  exact h
theorem n_sore_33 {o0 o1 o2 o3 : Option Value} {y0 : Int} (hM : xMo T R)  : XR sc d 151 33 [o0, o1, o2, o3] [xw y0, .ref 56] (T, z, xv V, J, R) = xret 151 (XR sc d 151) 33 36 [o0, o1, o2, o3] [] (X sc d 93 [.ref 56, xw y0] (T, z, xv V, J, R)) := by
  have h := bX7_sore_33 (sc := sc) (d := d) (T := T) (z := z) (V := V) (J := J) (R := R) (o0 := o0) (o1 := o1) (o2 := o2) (o3 := o3) (y0 := y0) (b1 := 56) hM.1
  exact h
theorem n_sore_45 {o3 : Option Value} {x1 x2 : Int} (hM : xMo T R) (g4 : 0 ≤ ((7 * x1) + x2) ∧ ((7 * x1) + x2) < 42) : XR sc d 151 45 [some (.ref 56), some (xw x1), some (xw x2), o3] [] (T, z, xv V, J, R) = XR sc d 151 91 [some (.ref 56), some (xw x1), some (xw x2), o3] [xw (V 77 ((7 * x1) + x2).toNat)] (T, z, xv V, J, R) := by
  have h := bX7_sore_45 (sc := sc) (d := d) (T := T) (z := z) (V := V) (J := J) (R := R) (o3 := o3) (x1 := x1) (x2 := x2) (a0 := 56) hM.1 (rgd (kq_23 hM).1) (tgd (kq_23 hM).1 (kq_23 hM).2) (by simp (disch := decide) only [kg_23 hM, kt_23 hM, xup2_o, xup2_i]; omega)
  simp (disch := decide) only [kg_23 hM, xup2_o, xup2_i] at h
  exact h
theorem n_sore_64 {o3 : Option Value} {x1 x2 : Int} (hM : xMo T R) (g4 : 0 ≤ ((7 * x1) + x2) ∧ ((7 * x1) + x2) < 42) : XR sc d 151 64 [some (.ref 56), some (xw x1), some (xw x2), o3] [] (T, z, xv V, J, R) = XR sc d 151 91 [some (.ref 56), some (xw x1), some (xw x2), o3] [xw (V 74 ((7 * x1) + x2).toNat)] (T, z, xv V, J, R) := by
  have h := bX7_sore_64 (sc := sc) (d := d) (T := T) (z := z) (V := V) (J := J) (R := R) (o3 := o3) (x1 := x1) (x2 := x2) (a0 := 56) hM.1 (rgd (kq_20 hM).1) (tgd (kq_20 hM).1 (kq_20 hM).2) (by simp (disch := decide) only [kg_20 hM, kt_20 hM, xup2_o, xup2_i]; omega)
  simp (disch := decide) only [kg_20 hM, xup2_o, xup2_i] at h
  exact h
theorem n_sore_78 {o2 o3 : Option Value} {x1 : Int} (hM : xMo T R)  : XR sc d 151 78 [some (.ref 56), some (xw x1), o2, o3] [] (T, z, xv V, J, R) = xret 151 (XR sc d 151) 80 83 [some (.ref 56), some (xw x1), o2, o3] [] (X sc d 148 [.ref 56, xw x1] (T, z, xv V, J, R)) := by
  have h := bX7_sore_78 (sc := sc) (d := d) (T := T) (z := z) (V := V) (J := J) (R := R) (o2 := o2) (o3 := o3) (x1 := x1) (a0 := 56) hM.1
  exact h
theorem n_shareOf_11 {o2 o4 : Option Value} {x1 x3 : Int} (hM : xMo T R) (g4 : 0 ≤ ((6 * x1) + x3) ∧ ((6 * x1) + x3) < 252) : XR sc d 152 11 [some (.ref 56), some (xw x1), o2, some (xw x3), o4] [] (T, z, xv V, J, R) = XR sc d 152 26 [some (.ref 56), some (xw x1), o2, some (xw x3), o4] [xw (V 78 ((6 * x1) + x3).toNat)] (T, z, xv V, J, R) := by
  have h := bX7_shareOf_11 (sc := sc) (d := d) (T := T) (z := z) (V := V) (J := J) (R := R) (o2 := o2) (o4 := o4) (x1 := x1) (x3 := x3) (a0 := 56) hM.1 (rgd (kq_25 hM).1) (tgd (kq_25 hM).1 (kq_25 hM).2) (by simp (disch := decide) only [kg_25 hM, kt_25 hM, xup2_o, xup2_i]; omega)
  simp (disch := decide) only [kg_25 hM, xup2_o, xup2_i] at h
  exact h
theorem n_shareOf_58 {o2 o4 : Option Value} {x1 x3 : Int} (hM : xMo T R) (g4 : 0 ≤ ((4 * x1) + x3) ∧ ((4 * x1) + x3) < 168) : XR sc d 152 58 [some (.ref 56), some (xw x1), o2, some (xw x3), o4] [] (T, z, xv V, J, R) = XR sc d 152 81 [some (.ref 56), some (xw x1), o2, some (xw x3), o4] [xw (V 79 ((4 * x1) + x3).toNat)] (T, z, xv V, J, R) := by
  have h := bX7_shareOf_58 (sc := sc) (d := d) (T := T) (z := z) (V := V) (J := J) (R := R) (o2 := o2) (o4 := o4) (x1 := x1) (x3 := x3) (a0 := 56) hM.1 (rgd (kq_26 hM).1) (tgd (kq_26 hM).1 (kq_26 hM).2) (by simp (disch := decide) only [kg_26 hM, kt_26 hM, xup2_o, xup2_i]; omega)
  simp (disch := decide) only [kg_26 hM, xup2_o, xup2_i] at h
  exact h
theorem n_shareOf_71 {o2 o4 : Option Value} {x1 x3 : Int} (hM : xMo T R) (g4 : 0 ≤ ((4 * x1) + x3) ∧ ((4 * x1) + x3) < 168) : XR sc d 152 71 [some (.ref 56), some (xw x1), o2, some (xw x3), o4] [] (T, z, xv V, J, R) = XR sc d 152 81 [some (.ref 56), some (xw x1), o2, some (xw x3), o4] [xw (V 80 ((4 * x1) + x3).toNat)] (T, z, xv V, J, R) := by
  have h := bX7_shareOf_71 (sc := sc) (d := d) (T := T) (z := z) (V := V) (J := J) (R := R) (o2 := o2) (o4 := o4) (x1 := x1) (x3 := x3) (a0 := 56) hM.1 (rgd (kq_27 hM).1) (tgd (kq_27 hM).1 (kq_27 hM).2) (by simp (disch := decide) only [kg_27 hM, kt_27 hM, xup2_o, xup2_i]; omega)
  simp (disch := decide) only [kg_27 hM, xup2_o, xup2_i] at h
  exact h
theorem n_missesShare_33 {o0 o1 o2 o3 : Option Value} {y0 : Int} (hM : xMo T R)  : XR sc d 153 33 [o0, o1, o2, o3] [xw y0, .ref 56] (T, z, xv V, J, R) = xret 153 (XR sc d 153) 33 36 [o0, o1, o2, o3] [] (X sc d 93 [.ref 56, xw y0] (T, z, xv V, J, R)) := by
  have h := bX7_missesShare_33 (sc := sc) (d := d) (T := T) (z := z) (V := V) (J := J) (R := R) (o0 := o0) (o1 := o1) (o2 := o2) (o3 := o3) (y0 := y0) (b1 := 56) hM.1
  exact h
theorem n_share_0 {o4 : Option Value} {x1 x2 x3 : Int} (hM : xMo T R)  : XR sc d 154 0 [some (.ref 56), some (xw x1), some (xw x2), some (xw x3), o4] [] (T, z, xv V, J, R) = xret 154 (XR sc d 154) 4 7 [some (.ref 56), some (xw x1), some (xw x2), some (xw x3), o4] [] (X sc d 153 [.ref 56, xw x1, xw x2, xw x3] (T, z, xv V, J, R)) := by
  have h := bX7_share_0 (sc := sc) (d := d) (T := T) (z := z) (V := V) (J := J) (R := R) (o4 := o4) (x1 := x1) (x2 := x2) (x3 := x3) (a0 := 56) hM.1
  exact h
theorem n_share_14 {x1 x2 x3 x4 : Int} (hM : xMo T R)  : XR sc d 154 14 [some (.ref 56), some (xw x1), some (xw x2), some (xw x3), some (xw x4)] [] (T, z, xv V, J, R) = xret 154 (XR sc d 154) 24 27 [some (.ref 56), some (xw x1), some (xw x2), some (xw x3), some (xw x4)] [] (X sc d 152 [.ref 56, xw ((7 * x1) + x2), xw x3, xw x4] (T, z, xv V, J, R)) := by
  have h := bX7_share_14 (sc := sc) (d := d) (T := T) (z := z) (V := V) (J := J) (R := R) (x1 := x1) (x2 := x2) (x3 := x3) (x4 := x4) (a0 := 56) hM.1
  exact h
theorem n_cause_0 {o4 o5 o6 : Option Value} {x1 x2 x3 : Int} (hM : xMo T R)  : XR sc d 155 0 [some (.ref 56), some (xw x1), some (xw x2), some (xw x3), o4, o5, o6] [] (T, z, xv V, J, R) = xret 155 (XR sc d 155) 4 7 [some (.ref 56), some (xw x1), some (xw x2), some (xw x3), o4, o5, o6] [] (X sc d 153 [.ref 56, xw x1, xw x2, xw x3] (T, z, xv V, J, R)) := by
  have h := bX7_cause_0 (sc := sc) (d := d) (T := T) (z := z) (V := V) (J := J) (R := R) (o4 := o4) (o5 := o5) (o6 := o6) (x1 := x1) (x2 := x2) (x3 := x3) (a0 := 56) hM.1
  exact h
theorem n_cause_25 {o4 o6 : Option Value} {x1 x2 x3 x5 : Int} (hM : xMo T R)  : XR sc d 155 25 [some (.ref 56), some (xw x1), some (xw x2), some (xw x3), o4, some (xw x5), o6] [] (T, z, xv V, J, R) = xret 155 (XR sc d 155) 35 38 [some (.ref 56), some (xw x1), some (xw x2), some (xw x3), o4, some (xw x5), o6] [] (X sc d 152 [.ref 56, xw ((7 * x1) + x2), xw x3, xw x5] (T, z, xv V, J, R)) := by
  have h := bX7_cause_25 (sc := sc) (d := d) (T := T) (z := z) (V := V) (J := J) (R := R) (o4 := o4) (o6 := o6) (x1 := x1) (x2 := x2) (x3 := x3) (x5 := x5) (a0 := 56) hM.1
  exact h
theorem n_cause_51 {o5 : Option Value} {x6 x1 x2 x3 x4 : Int} (hM : xMo T R)  : XR sc d 155 51 [some (.ref 56), some (xw x1), some (xw x2), some (xw x3), some (xw x4), o5, some (xw x6)] [] (T, z, xv V, J, R) = xret 155 (XR sc d 155) 63 66 [some (.ref 56), some (xw x1), some (xw x2), some (xw x3), some (xw x4), o5, some (xw x6)] [xw x6] (X sc d 152 [.ref 56, xw ((7 * x1) + x2), xw x3, xw x4] (T, z, xv V, J, R)) := by
  have h := bX7_cause_51 (sc := sc) (d := d) (T := T) (z := z) (V := V) (J := J) (R := R) (o5 := o5) (x6 := x6) (x1 := x1) (x2 := x2) (x3 := x3) (x4 := x4) (a0 := 56) hM.1
  exact h
theorem n_rides_0  (hM : xMo T R)  : XR sc d 156 0 [some (.ref 56)] [] (T, z, xv V, J, R) = some (.inl (some (xw ((xup2 V 56 28 0) 56 24))), (T, z, xv (xup2 V 56 28 0), J, R)) := by
  have h := bX7_rides_0 (sc := sc) (d := d) (T := T) (z := z) (V := V) (J := J) (R := R) (a0 := 56) hM.1
  exact h
end NBLK
