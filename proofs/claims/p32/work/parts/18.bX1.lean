/-! instructions, by program (gen2.py) -/
set_option maxRecDepth 100000 in
theorem f_10_0 : xft 10 0 = some (.aload_n 0) := by decide +kernel
set_option maxRecDepth 100000 in
theorem f_10_1 : xft 10 1 = some (.invokespecial 3) := by decide +kernel
set_option maxRecDepth 100000 in
theorem f_10_4 : xft 10 4 = some (.aload_n 0) := by decide +kernel
set_option maxRecDepth 100000 in
theorem f_10_5 : xft 10 5 = some (.bipush 7) := by decide +kernel
set_option maxRecDepth 100000 in
theorem f_10_7 : xft 10 7 = some (.newarray .int) := by decide +kernel
set_option maxRecDepth 100000 in
theorem f_10_9 : xft 10 9 = some (.putfield 9) := by decide +kernel
set_option maxRecDepth 100000 in
theorem f_10_12 : xft 10 12 = some (.aload_n 0) := by decide +kernel
set_option maxRecDepth 100000 in
theorem f_10_13 : xft 10 13 = some (.bipush 7) := by decide +kernel
set_option maxRecDepth 100000 in
theorem f_10_15 : xft 10 15 = some (.newarray .int) := by decide +kernel
set_option maxRecDepth 100000 in
theorem f_10_17 : xft 10 17 = some (.putfield 15) := by decide +kernel
set_option maxRecDepth 100000 in
theorem f_10_20 : xft 10 20 = some (.aload_n 0) := by decide +kernel
set_option maxRecDepth 100000 in
theorem f_10_21 : xft 10 21 = some (.bipush 126) := by decide +kernel
set_option maxRecDepth 100000 in
theorem f_10_23 : xft 10 23 = some (.newarray .int) := by decide +kernel
set_option maxRecDepth 100000 in
theorem f_10_25 : xft 10 25 = some (.putfield 18) := by decide +kernel
set_option maxRecDepth 100000 in
theorem f_10_28 : xft 10 28 = some (.return_) := by decide +kernel
set_option maxRecDepth 100000 in
theorem f_11_0 : xft 11 0 = some (.aload_n 0) := by decide +kernel
set_option maxRecDepth 100000 in
theorem f_11_1 : xft 11 1 = some (.getfield 15) := by decide +kernel
set_option maxRecDepth 100000 in
theorem f_11_4 : xft 11 4 = some (.astore_n 1) := by decide +kernel
set_option maxRecDepth 100000 in
theorem f_11_5 : xft 11 5 = some (.aload_n 1) := by decide +kernel
set_option maxRecDepth 100000 in
theorem f_11_6 : xft 11 6 = some (.arraylength) := by decide +kernel
set_option maxRecDepth 100000 in
theorem f_11_7 : xft 11 7 = some (.istore_n 2) := by decide +kernel
set_option maxRecDepth 100000 in
theorem f_11_8 : xft 11 8 = some (.iconst 0) := by decide +kernel
set_option maxRecDepth 100000 in
theorem f_11_9 : xft 11 9 = some (.istore_n 3) := by decide +kernel
set_option maxRecDepth 100000 in
theorem f_11_10 : xft 11 10 = some (.iload_n 3) := by decide +kernel
set_option maxRecDepth 100000 in
theorem f_11_11 : xft 11 11 = some (.iload_n 2) := by decide +kernel
set_option maxRecDepth 100000 in
theorem f_11_12 : xft 11 12 = some (.if_icmp .ge 23) := by decide +kernel
set_option maxRecDepth 100000 in
theorem f_11_15 : xft 11 15 = some (.aload_n 1) := by decide +kernel
set_option maxRecDepth 100000 in
theorem f_11_16 : xft 11 16 = some (.iload_n 3) := by decide +kernel
set_option maxRecDepth 100000 in
theorem f_11_17 : xft 11 17 = some (.iaload) := by decide +kernel
set_option maxRecDepth 100000 in
theorem f_11_18 : xft 11 18 = some (.istore 4) := by decide +kernel
set_option maxRecDepth 100000 in
theorem f_11_20 : xft 11 20 = some (.iload 4) := by decide +kernel
set_option maxRecDepth 100000 in
theorem f_11_22 : xft 11 22 = some (.bipush 100) := by decide +kernel
set_option maxRecDepth 100000 in
theorem f_11_24 : xft 11 24 = some (.if_icmp .lt 5) := by decide +kernel
set_option maxRecDepth 100000 in
theorem f_11_27 : xft 11 27 = some (.iconst 1) := by decide +kernel
set_option maxRecDepth 100000 in
theorem f_11_28 : xft 11 28 = some (.ireturn) := by decide +kernel
set_option maxRecDepth 100000 in
theorem f_11_29 : xft 11 29 = some (.iinc 3 1) := by decide +kernel
set_option maxRecDepth 100000 in
theorem f_11_32 : xft 11 32 = some (.goto (-22)) := by decide +kernel
set_option maxRecDepth 100000 in
theorem f_11_35 : xft 11 35 = some (.iconst 0) := by decide +kernel
set_option maxRecDepth 100000 in
theorem f_11_36 : xft 11 36 = some (.ireturn) := by decide +kernel
set_option maxRecDepth 100000 in
theorem f_12_0 : xft 12 0 = some (.iconst 0) := by decide +kernel
set_option maxRecDepth 100000 in
theorem f_12_1 : xft 12 1 = some (.istore_n 2) := by decide +kernel
set_option maxRecDepth 100000 in
theorem f_12_2 : xft 12 2 = some (.iload_n 2) := by decide +kernel
set_option maxRecDepth 100000 in
theorem f_12_3 : xft 12 3 = some (.bipush 7) := by decide +kernel
set_option maxRecDepth 100000 in
theorem f_12_5 : xft 12 5 = some (.if_icmp .ge 27) := by decide +kernel
set_option maxRecDepth 100000 in
theorem f_12_8 : xft 12 8 = some (.aload_n 0) := by decide +kernel
set_option maxRecDepth 100000 in
theorem f_12_9 : xft 12 9 = some (.getfield 15) := by decide +kernel
set_option maxRecDepth 100000 in
theorem f_12_12 : xft 12 12 = some (.iload_n 2) := by decide +kernel
set_option maxRecDepth 100000 in
theorem f_12_13 : xft 12 13 = some (.iconst 0) := by decide +kernel
set_option maxRecDepth 100000 in
theorem f_12_14 : xft 12 14 = some (.aload_n 0) := by decide +kernel
set_option maxRecDepth 100000 in
theorem f_12_15 : xft 12 15 = some (.getfield 15) := by decide +kernel
set_option maxRecDepth 100000 in
theorem f_12_18 : xft 12 18 = some (.iload_n 2) := by decide +kernel
set_option maxRecDepth 100000 in
theorem f_12_19 : xft 12 19 = some (.iaload) := by decide +kernel
set_option maxRecDepth 100000 in
theorem f_12_20 : xft 12 20 = some (.iload_n 1) := by decide +kernel
set_option maxRecDepth 100000 in
theorem f_12_21 : xft 12 21 = some (.isub) := by decide +kernel
set_option maxRecDepth 100000 in
theorem f_12_22 : xft 12 22 = some (.invokestatic 21) := by decide +kernel
set_option maxRecDepth 100000 in
theorem f_12_25 : xft 12 25 = some (.iastore) := by decide +kernel
set_option maxRecDepth 100000 in
theorem f_12_26 : xft 12 26 = some (.iinc 2 1) := by decide +kernel
set_option maxRecDepth 100000 in
theorem f_12_29 : xft 12 29 = some (.goto (-27)) := by decide +kernel
set_option maxRecDepth 100000 in
theorem f_12_32 : xft 12 32 = some (.return_) := by decide +kernel
set_option maxRecDepth 100000 in
theorem f_13_0 : xft 13 0 = some (.aload_n 0) := by decide +kernel
set_option maxRecDepth 100000 in
theorem f_13_1 : xft 13 1 = some (.getfield 18) := by decide +kernel
set_option maxRecDepth 100000 in
theorem f_13_4 : xft 13 4 = some (.iload_n 1) := by decide +kernel
set_option maxRecDepth 100000 in
theorem f_13_5 : xft 13 5 = some (.iconst 3) := by decide +kernel
set_option maxRecDepth 100000 in
theorem f_13_6 : xft 13 6 = some (.imul) := by decide +kernel
set_option maxRecDepth 100000 in
theorem f_13_7 : xft 13 7 = some (.iload_n 2) := by decide +kernel
set_option maxRecDepth 100000 in
theorem f_13_8 : xft 13 8 = some (.iadd) := by decide +kernel
set_option maxRecDepth 100000 in
theorem f_13_9 : xft 13 9 = some (.bipush 6) := by decide +kernel
set_option maxRecDepth 100000 in
theorem f_13_11 : xft 13 11 = some (.imul) := by decide +kernel
set_option maxRecDepth 100000 in
theorem f_13_12 : xft 13 12 = some (.iload_n 3) := by decide +kernel
set_option maxRecDepth 100000 in
theorem f_13_13 : xft 13 13 = some (.iadd) := by decide +kernel
set_option maxRecDepth 100000 in
theorem f_13_14 : xft 13 14 = some (.dup2) := by decide +kernel
set_option maxRecDepth 100000 in
theorem f_13_15 : xft 13 15 = some (.iaload) := by decide +kernel
set_option maxRecDepth 100000 in
theorem f_13_16 : xft 13 16 = some (.iload 4) := by decide +kernel
set_option maxRecDepth 100000 in
theorem f_13_18 : xft 13 18 = some (.iadd) := by decide +kernel
set_option maxRecDepth 100000 in
theorem f_13_19 : xft 13 19 = some (.iastore) := by decide +kernel
set_option maxRecDepth 100000 in
theorem f_13_20 : xft 13 20 = some (.return_) := by decide +kernel
set_option maxRecDepth 100000 in
theorem f_14_0 : xft 14 0 = some (.iload_n 3) := by decide +kernel
set_option maxRecDepth 100000 in
theorem f_14_1 : xft 14 1 = some (.ifCond .lt 27) := by decide +kernel
set_option maxRecDepth 100000 in
theorem f_14_4 : xft 14 4 = some (.iload_n 3) := by decide +kernel
set_option maxRecDepth 100000 in
theorem f_14_5 : xft 14 5 = some (.bipush 6) := by decide +kernel
set_option maxRecDepth 100000 in
theorem f_14_7 : xft 14 7 = some (.if_icmp .ge 21) := by decide +kernel
set_option maxRecDepth 100000 in
theorem f_14_10 : xft 14 10 = some (.aload_n 0) := by decide +kernel
set_option maxRecDepth 100000 in
theorem f_14_11 : xft 14 11 = some (.getfield 18) := by decide +kernel
set_option maxRecDepth 100000 in
theorem f_14_14 : xft 14 14 = some (.iload_n 1) := by decide +kernel
set_option maxRecDepth 100000 in
theorem f_14_15 : xft 14 15 = some (.iconst 3) := by decide +kernel
set_option maxRecDepth 100000 in
theorem f_14_16 : xft 14 16 = some (.imul) := by decide +kernel
set_option maxRecDepth 100000 in
theorem f_14_17 : xft 14 17 = some (.iload_n 2) := by decide +kernel
set_option maxRecDepth 100000 in
theorem f_14_18 : xft 14 18 = some (.iadd) := by decide +kernel
set_option maxRecDepth 100000 in
theorem f_14_19 : xft 14 19 = some (.bipush 6) := by decide +kernel
set_option maxRecDepth 100000 in
theorem f_14_21 : xft 14 21 = some (.imul) := by decide +kernel
set_option maxRecDepth 100000 in
theorem f_14_22 : xft 14 22 = some (.iload_n 3) := by decide +kernel
set_option maxRecDepth 100000 in
theorem f_14_23 : xft 14 23 = some (.iadd) := by decide +kernel
set_option maxRecDepth 100000 in
theorem f_14_24 : xft 14 24 = some (.iaload) := by decide +kernel
set_option maxRecDepth 100000 in
theorem f_14_25 : xft 14 25 = some (.goto 4) := by decide +kernel
set_option maxRecDepth 100000 in
theorem f_14_28 : xft 14 28 = some (.iconst 0) := by decide +kernel
set_option maxRecDepth 100000 in
theorem f_14_29 : xft 14 29 = some (.ireturn) := by decide +kernel
set_option maxRecDepth 100000 in
theorem f_189_0 : xft 189 0 = some (.aload_n 0) := by decide +kernel
set_option maxRecDepth 100000 in
theorem f_189_1 : xft 189 1 = some (.getfield 15) := by decide +kernel
set_option maxRecDepth 100000 in
theorem f_189_4 : xft 189 4 = some (.iload_n 1) := by decide +kernel
set_option maxRecDepth 100000 in
theorem f_189_5 : xft 189 5 = some (.dup2) := by decide +kernel
set_option maxRecDepth 100000 in
theorem f_189_6 : xft 189 6 = some (.iaload) := by decide +kernel
set_option maxRecDepth 100000 in
theorem f_189_7 : xft 189 7 = some (.iload_n 2) := by decide +kernel
set_option maxRecDepth 100000 in
theorem f_189_8 : xft 189 8 = some (.iadd) := by decide +kernel
set_option maxRecDepth 100000 in
theorem f_189_9 : xft 189 9 = some (.iastore) := by decide +kernel
set_option maxRecDepth 100000 in
theorem f_189_10 : xft 189 10 = some (.aload_n 0) := by decide +kernel
set_option maxRecDepth 100000 in
theorem f_189_11 : xft 189 11 = some (.iload_n 1) := by decide +kernel
set_option maxRecDepth 100000 in
theorem f_189_12 : xft 189 12 = some (.iconst 0) := by decide +kernel
set_option maxRecDepth 100000 in
theorem f_189_13 : xft 189 13 = some (.iload_n 3) := by decide +kernel
set_option maxRecDepth 100000 in
theorem f_189_14 : xft 189 14 = some (.iload_n 2) := by decide +kernel
set_option maxRecDepth 100000 in
theorem f_189_15 : xft 189 15 = some (.invokevirtual 27) := by decide +kernel
set_option maxRecDepth 100000 in
theorem f_189_18 : xft 189 18 = some (.aload_n 0) := by decide +kernel
set_option maxRecDepth 100000 in
theorem f_189_19 : xft 189 19 = some (.iload_n 1) := by decide +kernel
set_option maxRecDepth 100000 in
theorem f_189_20 : xft 189 20 = some (.iconst 1) := by decide +kernel
set_option maxRecDepth 100000 in
theorem f_189_21 : xft 189 21 = some (.iload 4) := by decide +kernel
set_option maxRecDepth 100000 in
theorem f_189_23 : xft 189 23 = some (.iload_n 2) := by decide +kernel
set_option maxRecDepth 100000 in
theorem f_189_24 : xft 189 24 = some (.invokevirtual 27) := by decide +kernel
set_option maxRecDepth 100000 in
theorem f_189_27 : xft 189 27 = some (.aload_n 0) := by decide +kernel
set_option maxRecDepth 100000 in
theorem f_189_28 : xft 189 28 = some (.iload_n 1) := by decide +kernel
set_option maxRecDepth 100000 in
theorem f_189_29 : xft 189 29 = some (.iconst 2) := by decide +kernel
set_option maxRecDepth 100000 in
theorem f_189_30 : xft 189 30 = some (.iload 5) := by decide +kernel
set_option maxRecDepth 100000 in
theorem f_189_32 : xft 189 32 = some (.iload_n 2) := by decide +kernel
set_option maxRecDepth 100000 in
theorem f_189_33 : xft 189 33 = some (.invokevirtual 27) := by decide +kernel
set_option maxRecDepth 100000 in
theorem f_189_36 : xft 189 36 = some (.return_) := by decide +kernel
/-! blocks, by program (gen2.py) -/
section BLK
variable {sc : xS} {d : Nat} {T : Nat → Nat × Nat} {z : Nat × Nat} {V : Nat → Nat → Int} {J : Nat → Nat → Int64} {R : Nat → Nat → Option Nat}
theorem eX1_init {a0 : Nat} : X sc (d + 1) 10 [.ref a0] (T, z, xv V, J, R) = XR sc d 10 0 [some (.ref a0)] [] (T, z, xv V, J, R) :=
  (X_eq ⟨jl_10, by rw [mn_10]; rfl, rfl, by rw [lm_10]; exact Nat.le_of_ble_eq_true rfl⟩).trans (by unfold xent; rw [lm_10]; rfl)
theorem bX1_init_0 {a0 : Nat} (g1 : 1 ≤ d) (g2 : (va_up T z.1 (32, 7)) a0 = (3, 0)) (g3 : (va_up (va_up T z.1 (32, 7)) (z.1 + 1) (32, 7)) a0 = (3, 0)) (g4 : (va_up (va_up (va_up T z.1 (32, 7)) (z.1 + 1) (32, 7)) (z.1 + 2) (32, 126)) a0 = (3, 0)) : XR sc d 10 0 [some (.ref a0)] [] (T, z, xv V, J, R) = some (.inl none, ((va_up (va_up (va_up T z.1 (32, 7)) (z.1 + 1) (32, 7)) (z.1 + 2) (32, 126)), (z.1 + 3, z.2 + 7 + 7 + 126), xv (va_up (va_up (va_up V z.1 (fun _ => 0)) (z.1 + 1) (fun _ => 0)) (z.1 + 2) (fun _ => 0)), (va_up (va_up (va_up J z.1 (fun _ => 0)) (z.1 + 1) (fun _ => 0)) (z.1 + 2) (fun _ => 0)), (xup2 (va_up (xup2 (va_up (xup2 (va_up R z.1 (fun _ => none)) a0 0 (some z.1)) (z.1 + 1) (fun _ => none)) a0 1 (some (z.1 + 1))) (z.1 + 2) (fun _ => none)) a0 2 (some (z.1 + 2))))) :=
  (st_aload_n f_10_0 rfl).trans ((st_objinit f_10_1 r_10_3 t_10_3 ⟨g1, Nat.le_of_ble_eq_true rfl⟩).trans ((st_aload_n f_10_4 rfl).trans ((sw_bipush f_10_5 c8_7).trans ((sw_newI 7 f_10_7 ⟨rfl, by decide⟩).trans ((st_putR f_10_9 e_10_9 rfl (Or.inr n_10) g2).trans ((st_aload_n f_10_12 rfl).trans ((sw_bipush f_10_13 c8_7).trans ((sw_newI 7 f_10_15 ⟨rfl, by decide⟩).trans ((st_putR f_10_17 e_10_15 rfl (Or.inr n_10) g3).trans ((st_aload_n f_10_20 rfl).trans ((sw_bipush f_10_21 c8_126).trans ((sw_newI 126 f_10_23 ⟨rfl, by decide⟩).trans ((st_putR f_10_25 e_10_18 rfl (Or.inr n_10) g4).trans (st_return f_10_28 mr_10))))))))))))))
theorem eX1_isLame {a0 : Nat} : X sc (d + 1) 11 [.ref a0] (T, z, xv V, J, R) = XR sc d 11 0 [some (.ref a0), none, none, none, none] [] (T, z, xv V, J, R) :=
  (X_eq ⟨jl_11, by rw [mn_11]; rfl, rfl, by rw [lm_11]; exact Nat.le_of_ble_eq_true rfl⟩).trans (by unfold xent; rw [lm_11]; rfl)
theorem bX1_isLame_0 {o1 o2 o3 o4 : Option Value} {a0 : Nat} (g1 : T a0 = (3, 0)) (g2 : R a0 1 = some ((R a0 1).getD 0)) (g3 : T ((R a0 1).getD 0) = ((T ((R a0 1).getD 0)).1, (T ((R a0 1).getD 0)).2)) (g4 : (32 ≤ (T ((R a0 1).getD 0)).1 ∧ (T ((R a0 1).getD 0)).1 < 35) ∨ (40 ≤ (T ((R a0 1).getD 0)).1 ∧ (T ((R a0 1).getD 0)).1 < 44)) : XR sc d 11 0 [some (.ref a0), o1, o2, o3, o4] [] (T, z, xv V, J, R) = XR sc d 11 10 [some (.ref a0), some (.ref ((R a0 1).getD 0)), some (xw ((T ((R a0 1).getD 0)).2 : Int)), some (xw 0), o4] [] (T, z, xv V, J, R) :=
  (st_aload_n f_11_0 rfl).trans ((st_getR f_11_1 e_11_15 (by decide) g1 g2).trans ((st_astore_n (L' := [some (.ref a0), some (.ref ((R a0 1).getD 0)), o2, o3, o4]) f_11_4 (Nat.le_of_ble_eq_true rfl) rfl).trans ((st_aload_n f_11_5 rfl).trans ((sw_alenI f_11_6 g3 g4).trans ((sw_istore_n (L' := [some (.ref a0), some (.ref ((R a0 1).getD 0)), some (xw ((T ((R a0 1).getD 0)).2 : Int)), o3, o4]) f_11_7 (Nat.le_of_ble_eq_true rfl) rfl).trans ((sw_iconst f_11_8).trans (sw_istore_n (L' := [some (.ref a0), some (.ref ((R a0 1).getD 0)), some (xw ((T ((R a0 1).getD 0)).2 : Int)), some (xw 0), o4]) f_11_9 (Nat.le_of_ble_eq_true rfl) rfl)))))))
theorem bX1_isLame_10 {o0 o1 o4 : Option Value} {x3 x2 : Int} (g1 : -2147483648 ≤ x3 ∧ x3 ≤ 2147483647) (g2 : -2147483648 ≤ x2 ∧ x2 ≤ 2147483647) : XR sc d 11 10 [o0, o1, some (xw x2), some (xw x3), o4] [] (T, z, xv V, J, R) = if x2 ≤ x3 then XR sc d 11 35 [o0, o1, some (xw x2), some (xw x3), o4] [] (T, z, xv V, J, R) else XR sc d 11 15 [o0, o1, some (xw x2), some (xw x3), o4] [] (T, z, xv V, J, R) :=
  (sw_iload_n f_11_10 rfl).trans ((sw_iload_n f_11_11 rfl).trans (sw_icmp_ge (t := 35) f_11_12 ⟨by decide, rfl⟩ g1 g2))
theorem bX1_isLame_15 {o0 o2 o4 : Option Value} {x3 : Int} {a1 : Nat} (g1 : T a1 = (32, (T a1).2)) (g2 : (0 : Int) ≤ x3 ∧ x3 < ((T a1).2 : Int) ∧ (T a1).2 ≤ 3584) (g3 : -2147483648 ≤ (V a1 x3.toNat) ∧ (V a1 x3.toNat) ≤ 2147483647) : XR sc d 11 15 [o0, some (.ref a1), o2, some (xw x3), o4] [] (T, z, xv V, J, R) = if (V a1 x3.toNat) < 100 then XR sc d 11 29 [o0, some (.ref a1), o2, some (xw x3), some (xw (V a1 x3.toNat))] [] (T, z, xv V, J, R) else XR sc d 11 27 [o0, some (.ref a1), o2, some (xw x3), some (xw (V a1 x3.toNat))] [] (T, z, xv V, J, R) :=
  (st_aload_n f_11_15 rfl).trans ((sw_iload_n f_11_16 rfl).trans ((sw_iaload f_11_17 g1 g2).trans ((sw_istore (L' := [o0, some (.ref a1), o2, some (xw x3), some (xw (V a1 x3.toNat))]) f_11_18 (Nat.le_of_ble_eq_true rfl) rfl).trans ((sw_iload f_11_20 rfl).trans ((sw_bipush f_11_22 c8_100).trans (sw_icmp_lt (t := 29) f_11_24 ⟨by decide, rfl⟩ g3 ⟨by decide, by decide⟩))))))
theorem bX1_isLame_27 {o0 o1 o2 o3 o4 : Option Value} : XR sc d 11 27 [o0, o1, o2, o3, o4] [] (T, z, xv V, J, R) = some (.inl (some (xw 1)), (T, z, xv V, J, R)) :=
  (sw_iconst f_11_27).trans (sw_zreturn f_11_28 mr_11 (by decide))
theorem bX1_isLame_29 {o0 o1 o2 o4 : Option Value} {x3 : Int} : XR sc d 11 29 [o0, o1, o2, some (xw x3), o4] [] (T, z, xv V, J, R) = XR sc d 11 10 [o0, o1, o2, some (xw (x3 + 1)), o4] [] (T, z, xv V, J, R) :=
  (sw_iinc (L' := [o0, o1, o2, some (xw (x3 + 1)), o4]) f_11_29 rfl (Nat.le_of_ble_eq_true rfl) rfl).trans (st_goto (t := 10) f_11_32 ⟨by decide, rfl⟩)
theorem bX1_isLame_35 {o0 o1 o2 o3 o4 : Option Value} : XR sc d 11 35 [o0, o1, o2, o3, o4] [] (T, z, xv V, J, R) = some (.inl (some (xw 0)), (T, z, xv V, J, R)) :=
  (sw_iconst f_11_35).trans (sw_zreturn f_11_36 mr_11 (by decide))
theorem eX1_heal {x1 : Int} {a0 : Nat} : X sc (d + 1) 12 [.ref a0, xw x1] (T, z, xv V, J, R) = XR sc d 12 0 [some (.ref a0), some (xw x1), none] [] (T, z, xv V, J, R) :=
  (X_eq ⟨jl_12, by rw [mn_12]; rfl, rfl, by rw [lm_12]; exact Nat.le_of_ble_eq_true rfl⟩).trans (by unfold xent; rw [lm_12]; rfl)
theorem bX1_heal_0 {o0 o1 o2 : Option Value} : XR sc d 12 0 [o0, o1, o2] [] (T, z, xv V, J, R) = XR sc d 12 2 [o0, o1, some (xw 0)] [] (T, z, xv V, J, R) :=
  (sw_iconst f_12_0).trans (sw_istore_n (L' := [o0, o1, some (xw 0)]) f_12_1 (Nat.le_of_ble_eq_true rfl) rfl)
theorem bX1_heal_2 {o0 o1 : Option Value} {x2 : Int} (g1 : -2147483648 ≤ x2 ∧ x2 ≤ 2147483647) : XR sc d 12 2 [o0, o1, some (xw x2)] [] (T, z, xv V, J, R) = if 7 ≤ x2 then XR sc d 12 32 [o0, o1, some (xw x2)] [] (T, z, xv V, J, R) else XR sc d 12 8 [o0, o1, some (xw x2)] [] (T, z, xv V, J, R) :=
  (sw_iload_n f_12_2 rfl).trans ((sw_bipush f_12_3 c8_7).trans (sw_icmp_ge (t := 32) f_12_5 ⟨by decide, rfl⟩ g1 ⟨by decide, by decide⟩))
theorem bX1_heal_8 {x2 x1 : Int} {a0 : Nat} (g1 : T a0 = (3, 0)) (g2 : R a0 1 = some ((R a0 1).getD 0)) (g3 : T ((R a0 1).getD 0) = (32, (T ((R a0 1).getD 0)).2)) (g4 : (0 : Int) ≤ x2 ∧ x2 < ((T ((R a0 1).getD 0)).2 : Int) ∧ (T ((R a0 1).getD 0)).2 ≤ 3584) : XR sc d 12 8 [some (.ref a0), some (xw x1), some (xw x2)] [] (T, z, xv V, J, R) = xret 12 (XR sc d 12) 22 25 [some (.ref a0), some (xw x1), some (xw x2)] [xw x2, .ref ((R a0 1).getD 0)] (X sc d 158 [xw 0, xw ((V ((R a0 1).getD 0) x2.toNat) - x1)] (T, z, xv V, J, R)) :=
  (st_aload_n f_12_8 rfl).trans ((st_getR f_12_9 e_12_15 (by decide) g1 g2).trans ((sw_iload_n f_12_12 rfl).trans ((sw_iconst f_12_13).trans ((st_aload_n f_12_14 rfl).trans ((st_getR f_12_15 e_12_15 (by decide) g1 g2).trans ((sw_iload_n f_12_18 rfl).trans ((sw_iaload f_12_19 g3 g4).trans ((sw_iload_n f_12_20 rfl).trans ((sw_isub f_12_21).trans (st_callS' f_12_22 h_12_21 mn_158 rfl rfl rfl rfl))))))))))
theorem bX1_heal_25 {o0 o1 : Option Value} {y0 y1 x2 : Int} {b2 : Nat} (g1 : T b2 = (32, (T b2).2)) (g2 : (0 : Int) ≤ y1 ∧ y1 < ((T b2).2 : Int) ∧ (T b2).2 ≤ 3584) : XR sc d 12 25 [o0, o1, some (xw x2)] [xw y0, xw y1, .ref b2] (T, z, xv V, J, R) = XR sc d 12 2 [o0, o1, some (xw (x2 + 1))] [] (T, z, xv (xup2 V b2 y1.toNat y0), J, R) :=
  (sw_iastore f_12_25 g1 g2).trans ((sw_iinc (L' := [o0, o1, some (xw (x2 + 1))]) f_12_26 rfl (Nat.le_of_ble_eq_true rfl) rfl).trans (st_goto (t := 2) f_12_29 ⟨by decide, rfl⟩))
theorem bX1_heal_32 {o0 o1 o2 : Option Value} : XR sc d 12 32 [o0, o1, o2] [] (T, z, xv V, J, R) = some (.inl none, (T, z, xv V, J, R)) :=
  st_return f_12_32 mr_12
theorem eX1_blame {x1 x2 x3 x4 : Int} {a0 : Nat} : X sc (d + 1) 13 [.ref a0, xw x1, xw x2, xw x3, xw x4] (T, z, xv V, J, R) = XR sc d 13 0 [some (.ref a0), some (xw x1), some (xw x2), some (xw x3), some (xw x4)] [] (T, z, xv V, J, R) :=
  (X_eq ⟨jl_13, by rw [mn_13]; rfl, rfl, by rw [lm_13]; exact Nat.le_of_ble_eq_true rfl⟩).trans (by unfold xent; rw [lm_13]; rfl)
theorem bX1_blame_0 {x1 x2 x3 x4 : Int} {a0 : Nat} (g1 : T a0 = (3, 0)) (g2 : R a0 2 = some ((R a0 2).getD 0)) (g3 : T ((R a0 2).getD 0) = (32, (T ((R a0 2).getD 0)).2)) (g4 : (0 : Int) ≤ ((((x1 * 3) + x2) * 6) + x3) ∧ ((((x1 * 3) + x2) * 6) + x3) < ((T ((R a0 2).getD 0)).2 : Int) ∧ (T ((R a0 2).getD 0)).2 ≤ 3584) : XR sc d 13 0 [some (.ref a0), some (xw x1), some (xw x2), some (xw x3), some (xw x4)] [] (T, z, xv V, J, R) = some (.inl none, (T, z, xv (xup2 V ((R a0 2).getD 0) ((((x1 * 3) + x2) * 6) + x3).toNat ((V ((R a0 2).getD 0) ((((x1 * 3) + x2) * 6) + x3).toNat) + x4)), J, R)) :=
  (st_aload_n f_13_0 rfl).trans ((st_getR f_13_1 e_13_18 (by decide) g1 g2).trans ((sw_iload_n f_13_4 rfl).trans ((sw_iconst f_13_5).trans ((sw_imul f_13_6).trans ((sw_iload_n f_13_7 rfl).trans ((sw_iadd f_13_8).trans ((sw_bipush f_13_9 c8_6).trans ((sw_imul f_13_11).trans ((sw_iload_n f_13_12 rfl).trans ((sw_iadd f_13_13).trans ((st_dup2 f_13_14 rfl rfl).trans ((sw_iaload f_13_15 g3 g4).trans ((sw_iload f_13_16 rfl).trans ((sw_iadd f_13_18).trans ((sw_iastore f_13_19 g3 g4).trans (st_return f_13_20 mr_13))))))))))))))))
theorem eX1_blameOf {x1 x2 x3 : Int} {a0 : Nat} : X sc (d + 1) 14 [.ref a0, xw x1, xw x2, xw x3] (T, z, xv V, J, R) = XR sc d 14 0 [some (.ref a0), some (xw x1), some (xw x2), some (xw x3)] [] (T, z, xv V, J, R) :=
  (X_eq ⟨jl_14, by rw [mn_14]; rfl, rfl, by rw [lm_14]; exact Nat.le_of_ble_eq_true rfl⟩).trans (by unfold xent; rw [lm_14]; rfl)
theorem bX1_blameOf_0 {o0 o1 o2 : Option Value} {x3 : Int} (g1 : -2147483648 ≤ x3 ∧ x3 ≤ 2147483647) : XR sc d 14 0 [o0, o1, o2, some (xw x3)] [] (T, z, xv V, J, R) = if x3 < 0 then XR sc d 14 28 [o0, o1, o2, some (xw x3)] [] (T, z, xv V, J, R) else XR sc d 14 4 [o0, o1, o2, some (xw x3)] [] (T, z, xv V, J, R) :=
  (sw_iload_n f_14_0 rfl).trans (sw_if_lt (t := 28) f_14_1 ⟨by decide, rfl⟩ g1)
theorem bX1_blameOf_4 {o0 o1 o2 : Option Value} {x3 : Int} (g1 : -2147483648 ≤ x3 ∧ x3 ≤ 2147483647) : XR sc d 14 4 [o0, o1, o2, some (xw x3)] [] (T, z, xv V, J, R) = if 6 ≤ x3 then XR sc d 14 28 [o0, o1, o2, some (xw x3)] [] (T, z, xv V, J, R) else XR sc d 14 10 [o0, o1, o2, some (xw x3)] [] (T, z, xv V, J, R) :=
  (sw_iload_n f_14_4 rfl).trans ((sw_bipush f_14_5 c8_6).trans (sw_icmp_ge (t := 28) f_14_7 ⟨by decide, rfl⟩ g1 ⟨by decide, by decide⟩))
theorem bX1_blameOf_10 {x1 x2 x3 : Int} {a0 : Nat} (g1 : T a0 = (3, 0)) (g2 : R a0 2 = some ((R a0 2).getD 0)) (g3 : T ((R a0 2).getD 0) = (32, (T ((R a0 2).getD 0)).2)) (g4 : (0 : Int) ≤ ((((x1 * 3) + x2) * 6) + x3) ∧ ((((x1 * 3) + x2) * 6) + x3) < ((T ((R a0 2).getD 0)).2 : Int) ∧ (T ((R a0 2).getD 0)).2 ≤ 3584) : XR sc d 14 10 [some (.ref a0), some (xw x1), some (xw x2), some (xw x3)] [] (T, z, xv V, J, R) = XR sc d 14 29 [some (.ref a0), some (xw x1), some (xw x2), some (xw x3)] [xw (V ((R a0 2).getD 0) ((((x1 * 3) + x2) * 6) + x3).toNat)] (T, z, xv V, J, R) :=
  (st_aload_n f_14_10 rfl).trans ((st_getR f_14_11 e_14_18 (by decide) g1 g2).trans ((sw_iload_n f_14_14 rfl).trans ((sw_iconst f_14_15).trans ((sw_imul f_14_16).trans ((sw_iload_n f_14_17 rfl).trans ((sw_iadd f_14_18).trans ((sw_bipush f_14_19 c8_6).trans ((sw_imul f_14_21).trans ((sw_iload_n f_14_22 rfl).trans ((sw_iadd f_14_23).trans ((sw_iaload f_14_24 g3 g4).trans (st_goto (t := 29) f_14_25 ⟨by decide, rfl⟩))))))))))))
theorem bX1_blameOf_28 {o0 o1 o2 o3 : Option Value} : XR sc d 14 28 [o0, o1, o2, o3] [] (T, z, xv V, J, R) = XR sc d 14 29 [o0, o1, o2, o3] [xw 0] (T, z, xv V, J, R) :=
  sw_iconst f_14_28
theorem bX1_blameOf_29 {o0 o1 o2 o3 : Option Value} {y0 : Int} : XR sc d 14 29 [o0, o1, o2, o3] [xw y0] (T, z, xv V, J, R) = some (.inl (some (xw y0)), (T, z, xv V, J, R)) :=
  sw_ireturn f_14_29 mr_14
theorem eX1_makeSorer {x1 x2 x3 x4 x5 : Int} {a0 : Nat} : X sc (d + 1) 189 [.ref a0, xw x1, xw x2, xw x3, xw x4, xw x5] (T, z, xv V, J, R) = XR sc d 189 0 [some (.ref a0), some (xw x1), some (xw x2), some (xw x3), some (xw x4), some (xw x5)] [] (T, z, xv V, J, R) :=
  (X_eq ⟨jl_189, by rw [mn_189]; rfl, rfl, by rw [lm_189]; exact Nat.le_of_ble_eq_true rfl⟩).trans (by unfold xent; rw [lm_189]; rfl)
theorem bX1_makeSorer_0 {o4 o5 : Option Value} {x1 x2 x3 : Int} {a0 : Nat} (g1 : T a0 = (3, 0)) (g2 : R a0 1 = some ((R a0 1).getD 0)) (g3 : T ((R a0 1).getD 0) = (32, (T ((R a0 1).getD 0)).2)) (g4 : (0 : Int) ≤ x1 ∧ x1 < ((T ((R a0 1).getD 0)).2 : Int) ∧ (T ((R a0 1).getD 0)).2 ≤ 3584) : XR sc d 189 0 [some (.ref a0), some (xw x1), some (xw x2), some (xw x3), o4, o5] [] (T, z, xv V, J, R) = xret 189 (XR sc d 189) 15 18 [some (.ref a0), some (xw x1), some (xw x2), some (xw x3), o4, o5] [] (X sc d 13 [.ref a0, xw x1, xw 0, xw x3, xw x2] (T, z, xv (xup2 V ((R a0 1).getD 0) x1.toNat ((V ((R a0 1).getD 0) x1.toNat) + x2)), J, R)) :=
  (st_aload_n f_189_0 rfl).trans ((st_getR f_189_1 e_189_15 (by decide) g1 g2).trans ((sw_iload_n f_189_4 rfl).trans ((st_dup2 f_189_5 rfl rfl).trans ((sw_iaload f_189_6 g3 g4).trans ((sw_iload_n f_189_7 rfl).trans ((sw_iadd f_189_8).trans ((sw_iastore f_189_9 g3 g4).trans ((st_aload_n f_189_10 rfl).trans ((sw_iload_n f_189_11 rfl).trans ((sw_iconst f_189_12).trans ((sw_iload_n f_189_13 rfl).trans ((sw_iload_n f_189_14 rfl).trans (st_callV' f_189_15 h_189_27 mn_13 rfl rfl rfl rfl mo_13 g1 rfl)))))))))))))
theorem bX1_makeSorer_18 {o3 o5 : Option Value} {x1 x4 x2 : Int} {a0 : Nat} (g1 : T a0 = (3, 0)) : XR sc d 189 18 [some (.ref a0), some (xw x1), some (xw x2), o3, some (xw x4), o5] [] (T, z, xv V, J, R) = xret 189 (XR sc d 189) 24 27 [some (.ref a0), some (xw x1), some (xw x2), o3, some (xw x4), o5] [] (X sc d 13 [.ref a0, xw x1, xw 1, xw x4, xw x2] (T, z, xv V, J, R)) :=
  (st_aload_n f_189_18 rfl).trans ((sw_iload_n f_189_19 rfl).trans ((sw_iconst f_189_20).trans ((sw_iload f_189_21 rfl).trans ((sw_iload_n f_189_23 rfl).trans (st_callV' f_189_24 h_189_27 mn_13 rfl rfl rfl rfl mo_13 g1 rfl)))))
theorem bX1_makeSorer_27 {o3 o4 : Option Value} {x1 x5 x2 : Int} {a0 : Nat} (g1 : T a0 = (3, 0)) : XR sc d 189 27 [some (.ref a0), some (xw x1), some (xw x2), o3, o4, some (xw x5)] [] (T, z, xv V, J, R) = xret 189 (XR sc d 189) 33 36 [some (.ref a0), some (xw x1), some (xw x2), o3, o4, some (xw x5)] [] (X sc d 13 [.ref a0, xw x1, xw 2, xw x5, xw x2] (T, z, xv V, J, R)) :=
  (st_aload_n f_189_27 rfl).trans ((sw_iload_n f_189_28 rfl).trans ((sw_iconst f_189_29).trans ((sw_iload f_189_30 rfl).trans ((sw_iload_n f_189_32 rfl).trans (st_callV' f_189_33 h_189_27 mn_13 rfl rfl rfl rfl mo_13 g1 rfl)))))
theorem bX1_makeSorer_36 {o0 o1 o2 o3 o4 o5 : Option Value} : XR sc d 189 36 [o0, o1, o2, o3, o4, o5] [] (T, z, xv V, J, R) = some (.inl none, (T, z, xv V, J, R)) :=
  st_return f_189_36 mr_189
end BLK
