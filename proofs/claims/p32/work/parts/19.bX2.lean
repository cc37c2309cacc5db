/-! instructions, by program (gen2.py) -/
set_option maxRecDepth 100000 in
theorem f_15_0 : xft 15 0 = some (.aload_n 0) := by decide +kernel
set_option maxRecDepth 100000 in
theorem f_15_1 : xft 15 1 = some (.invokespecial 3) := by decide +kernel
set_option maxRecDepth 100000 in
theorem f_15_4 : xft 15 4 = some (.aload_n 0) := by decide +kernel
set_option maxRecDepth 100000 in
theorem f_15_5 : xft 15 5 = some (.iload_n 1) := by decide +kernel
set_option maxRecDepth 100000 in
theorem f_15_6 : xft 15 6 = some (.putfield 9) := by decide +kernel
set_option maxRecDepth 100000 in
theorem f_15_9 : xft 15 9 = some (.aload_n 0) := by decide +kernel
set_option maxRecDepth 100000 in
theorem f_15_10 : xft 15 10 = some (.iload_n 2) := by decide +kernel
set_option maxRecDepth 100000 in
theorem f_15_11 : xft 15 11 = some (.putfield 15) := by decide +kernel
set_option maxRecDepth 100000 in
theorem f_15_14 : xft 15 14 = some (.aload_n 0) := by decide +kernel
set_option maxRecDepth 100000 in
theorem f_15_15 : xft 15 15 = some (.iload_n 3) := by decide +kernel
set_option maxRecDepth 100000 in
theorem f_15_16 : xft 15 16 = some (.putfield 18) := by decide +kernel
set_option maxRecDepth 100000 in
theorem f_15_19 : xft 15 19 = some (.aload_n 0) := by decide +kernel
set_option maxRecDepth 100000 in
theorem f_15_20 : xft 15 20 = some (.iload 4) := by decide +kernel
set_option maxRecDepth 100000 in
theorem f_15_22 : xft 15 22 = some (.putfield 21) := by decide +kernel
set_option maxRecDepth 100000 in
theorem f_15_25 : xft 15 25 = some (.aload_n 0) := by decide +kernel
set_option maxRecDepth 100000 in
theorem f_15_26 : xft 15 26 = some (.iload 5) := by decide +kernel
set_option maxRecDepth 100000 in
theorem f_15_28 : xft 15 28 = some (.putfield 24) := by decide +kernel
set_option maxRecDepth 100000 in
theorem f_15_31 : xft 15 31 = some (.aload_n 0) := by decide +kernel
set_option maxRecDepth 100000 in
theorem f_15_32 : xft 15 32 = some (.bipush 49) := by decide +kernel
set_option maxRecDepth 100000 in
theorem f_15_34 : xft 15 34 = some (.newarray .boolean) := by decide +kernel
set_option maxRecDepth 100000 in
theorem f_15_36 : xft 15 36 = some (.putfield 28) := by decide +kernel
set_option maxRecDepth 100000 in
theorem f_15_39 : xft 15 39 = some (.aload_n 0) := by decide +kernel
set_option maxRecDepth 100000 in
theorem f_15_40 : xft 15 40 = some (.iconst (-1)) := by decide +kernel
set_option maxRecDepth 100000 in
theorem f_15_41 : xft 15 41 = some (.putfield 32) := by decide +kernel
set_option maxRecDepth 100000 in
theorem f_15_44 : xft 15 44 = some (.aload_n 0) := by decide +kernel
set_option maxRecDepth 100000 in
theorem f_15_45 : xft 15 45 = some (.iconst (-1)) := by decide +kernel
set_option maxRecDepth 100000 in
theorem f_15_46 : xft 15 46 = some (.putfield 35) := by decide +kernel
set_option maxRecDepth 100000 in
theorem f_15_49 : xft 15 49 = some (.aload_n 0) := by decide +kernel
set_option maxRecDepth 100000 in
theorem f_15_50 : xft 15 50 = some (.iconst (-1)) := by decide +kernel
set_option maxRecDepth 100000 in
theorem f_15_51 : xft 15 51 = some (.putfield 38) := by decide +kernel
set_option maxRecDepth 100000 in
theorem f_15_54 : xft 15 54 = some (.return_) := by decide +kernel
set_option maxRecDepth 100000 in
theorem f_16_0 : xft 16 0 = some (.aload_n 0) := by decide +kernel
set_option maxRecDepth 100000 in
theorem f_16_1 : xft 16 1 = some (.getfield 28) := by decide +kernel
set_option maxRecDepth 100000 in
theorem f_16_4 : xft 16 4 = some (.iload_n 1) := by decide +kernel
set_option maxRecDepth 100000 in
theorem f_16_5 : xft 16 5 = some (.iconst 1) := by decide +kernel
set_option maxRecDepth 100000 in
theorem f_16_6 : xft 16 6 = some (.isub) := by decide +kernel
set_option maxRecDepth 100000 in
theorem f_16_7 : xft 16 7 = some (.baload) := by decide +kernel
set_option maxRecDepth 100000 in
theorem f_16_8 : xft 16 8 = some (.ifCond .ne 23) := by decide +kernel
set_option maxRecDepth 100000 in
theorem f_16_11 : xft 16 11 = some (.aload_n 0) := by decide +kernel
set_option maxRecDepth 100000 in
theorem f_16_12 : xft 16 12 = some (.getfield 28) := by decide +kernel
set_option maxRecDepth 100000 in
theorem f_16_15 : xft 16 15 = some (.iload_n 1) := by decide +kernel
set_option maxRecDepth 100000 in
theorem f_16_16 : xft 16 16 = some (.baload) := by decide +kernel
set_option maxRecDepth 100000 in
theorem f_16_17 : xft 16 17 = some (.ifCond .ne 14) := by decide +kernel
set_option maxRecDepth 100000 in
theorem f_16_20 : xft 16 20 = some (.aload_n 0) := by decide +kernel
set_option maxRecDepth 100000 in
theorem f_16_21 : xft 16 21 = some (.getfield 28) := by decide +kernel
set_option maxRecDepth 100000 in
theorem f_16_24 : xft 16 24 = some (.iload_n 1) := by decide +kernel
set_option maxRecDepth 100000 in
theorem f_16_25 : xft 16 25 = some (.iconst 1) := by decide +kernel
set_option maxRecDepth 100000 in
theorem f_16_26 : xft 16 26 = some (.iadd) := by decide +kernel
set_option maxRecDepth 100000 in
theorem f_16_27 : xft 16 27 = some (.baload) := by decide +kernel
set_option maxRecDepth 100000 in
theorem f_16_28 : xft 16 28 = some (.ifCond .eq 7) := by decide +kernel
set_option maxRecDepth 100000 in
theorem f_16_31 : xft 16 31 = some (.iconst 1) := by decide +kernel
set_option maxRecDepth 100000 in
theorem f_16_32 : xft 16 32 = some (.goto 4) := by decide +kernel
set_option maxRecDepth 100000 in
theorem f_16_35 : xft 16 35 = some (.iconst 0) := by decide +kernel
set_option maxRecDepth 100000 in
theorem f_16_36 : xft 16 36 = some (.ireturn) := by decide +kernel
set_option maxRecDepth 100000 in
theorem f_17_0 : xft 17 0 = some (.aload_n 0) := by decide +kernel
set_option maxRecDepth 100000 in
theorem f_17_1 : xft 17 1 = some (.getfield 28) := by decide +kernel
set_option maxRecDepth 100000 in
theorem f_17_4 : xft 17 4 = some (.iload_n 1) := by decide +kernel
set_option maxRecDepth 100000 in
theorem f_17_5 : xft 17 5 = some (.iconst 1) := by decide +kernel
set_option maxRecDepth 100000 in
theorem f_17_6 : xft 17 6 = some (.bastore) := by decide +kernel
set_option maxRecDepth 100000 in
theorem f_17_7 : xft 17 7 = some (.aload_n 0) := by decide +kernel
set_option maxRecDepth 100000 in
theorem f_17_8 : xft 17 8 = some (.dup) := by decide +kernel
set_option maxRecDepth 100000 in
theorem f_17_9 : xft 17 9 = some (.getfield 41) := by decide +kernel
set_option maxRecDepth 100000 in
theorem f_17_12 : xft 17 12 = some (.iconst 1) := by decide +kernel
set_option maxRecDepth 100000 in
theorem f_17_13 : xft 17 13 = some (.iadd) := by decide +kernel
set_option maxRecDepth 100000 in
theorem f_17_14 : xft 17 14 = some (.putfield 41) := by decide +kernel
set_option maxRecDepth 100000 in
theorem f_17_17 : xft 17 17 = some (.iconst 0) := by decide +kernel
set_option maxRecDepth 100000 in
theorem f_17_18 : xft 17 18 = some (.istore_n 2) := by decide +kernel
set_option maxRecDepth 100000 in
theorem f_17_19 : xft 17 19 = some (.iconst 0) := by decide +kernel
set_option maxRecDepth 100000 in
theorem f_17_20 : xft 17 20 = some (.istore_n 3) := by decide +kernel
set_option maxRecDepth 100000 in
theorem f_17_21 : xft 17 21 = some (.iload_n 3) := by decide +kernel
set_option maxRecDepth 100000 in
theorem f_17_22 : xft 17 22 = some (.iload_n 1) := by decide +kernel
set_option maxRecDepth 100000 in
theorem f_17_23 : xft 17 23 = some (.if_icmp .ge 26) := by decide +kernel
set_option maxRecDepth 100000 in
theorem f_17_26 : xft 17 26 = some (.iload_n 2) := by decide +kernel
set_option maxRecDepth 100000 in
theorem f_17_27 : xft 17 27 = some (.aload_n 0) := by decide +kernel
set_option maxRecDepth 100000 in
theorem f_17_28 : xft 17 28 = some (.getfield 28) := by decide +kernel
set_option maxRecDepth 100000 in
theorem f_17_31 : xft 17 31 = some (.iload_n 3) := by decide +kernel
set_option maxRecDepth 100000 in
theorem f_17_32 : xft 17 32 = some (.baload) := by decide +kernel
set_option maxRecDepth 100000 in
theorem f_17_33 : xft 17 33 = some (.ifCond .eq 7) := by decide +kernel
set_option maxRecDepth 100000 in
theorem f_17_36 : xft 17 36 = some (.iconst 1) := by decide +kernel
set_option maxRecDepth 100000 in
theorem f_17_37 : xft 17 37 = some (.goto 4) := by decide +kernel
set_option maxRecDepth 100000 in
theorem f_17_40 : xft 17 40 = some (.iconst 0) := by decide +kernel
set_option maxRecDepth 100000 in
theorem f_17_41 : xft 17 41 = some (.iadd) := by decide +kernel
set_option maxRecDepth 100000 in
theorem f_17_42 : xft 17 42 = some (.istore_n 2) := by decide +kernel
set_option maxRecDepth 100000 in
theorem f_17_43 : xft 17 43 = some (.iinc 3 1) := by decide +kernel
set_option maxRecDepth 100000 in
theorem f_17_46 : xft 17 46 = some (.goto (-25)) := by decide +kernel
set_option maxRecDepth 100000 in
theorem f_17_49 : xft 17 49 = some (.iload_n 2) := by decide +kernel
set_option maxRecDepth 100000 in
theorem f_17_50 : xft 17 50 = some (.ireturn) := by decide +kernel
set_option maxRecDepth 100000 in
theorem f_18_0 : xft 18 0 = some (.iload_n 1) := by decide +kernel
set_option maxRecDepth 100000 in
theorem f_18_1 : xft 18 1 = some (.istore_n 2) := by decide +kernel
set_option maxRecDepth 100000 in
theorem f_18_2 : xft 18 2 = some (.iconst 0) := by decide +kernel
set_option maxRecDepth 100000 in
theorem f_18_3 : xft 18 3 = some (.istore_n 3) := by decide +kernel
set_option maxRecDepth 100000 in
theorem f_18_4 : xft 18 4 = some (.iload_n 3) := by decide +kernel
set_option maxRecDepth 100000 in
theorem f_18_5 : xft 18 5 = some (.aload_n 0) := by decide +kernel
set_option maxRecDepth 100000 in
theorem f_18_6 : xft 18 6 = some (.getfield 28) := by decide +kernel
set_option maxRecDepth 100000 in
theorem f_18_9 : xft 18 9 = some (.arraylength) := by decide +kernel
set_option maxRecDepth 100000 in
theorem f_18_10 : xft 18 10 = some (.if_icmp .ge 27) := by decide +kernel
set_option maxRecDepth 100000 in
theorem f_18_13 : xft 18 13 = some (.aload_n 0) := by decide +kernel
set_option maxRecDepth 100000 in
theorem f_18_14 : xft 18 14 = some (.getfield 28) := by decide +kernel
set_option maxRecDepth 100000 in
theorem f_18_17 : xft 18 17 = some (.iload_n 3) := by decide +kernel
set_option maxRecDepth 100000 in
theorem f_18_18 : xft 18 18 = some (.baload) := by decide +kernel
set_option maxRecDepth 100000 in
theorem f_18_19 : xft 18 19 = some (.ifCond .eq 12) := by decide +kernel
set_option maxRecDepth 100000 in
theorem f_18_22 : xft 18 22 = some (.iload_n 2) := by decide +kernel
set_option maxRecDepth 100000 in
theorem f_18_23 : xft 18 23 = some (.ifCond .ne 5) := by decide +kernel
set_option maxRecDepth 100000 in
theorem f_18_26 : xft 18 26 = some (.iload_n 3) := by decide +kernel
set_option maxRecDepth 100000 in
theorem f_18_27 : xft 18 27 = some (.ireturn) := by decide +kernel
set_option maxRecDepth 100000 in
theorem f_18_28 : xft 18 28 = some (.iinc 2 (-1)) := by decide +kernel
set_option maxRecDepth 100000 in
theorem f_18_31 : xft 18 31 = some (.iinc 3 1) := by decide +kernel
set_option maxRecDepth 100000 in
theorem f_18_34 : xft 18 34 = some (.goto (-30)) := by decide +kernel
set_option maxRecDepth 100000 in
theorem f_18_37 : xft 18 37 = some (.iconst (-1)) := by decide +kernel
set_option maxRecDepth 100000 in
theorem f_18_38 : xft 18 38 = some (.ireturn) := by decide +kernel
set_option maxRecDepth 100000 in
theorem f_19_0 : xft 19 0 = some (.bipush 10) := by decide +kernel
set_option maxRecDepth 100000 in
theorem f_19_2 : xft 19 2 = some (.aload_n 0) := by decide +kernel
set_option maxRecDepth 100000 in
theorem f_19_3 : xft 19 3 = some (.getfield 15) := by decide +kernel
set_option maxRecDepth 100000 in
theorem f_19_6 : xft 19 6 = some (.imul) := by decide +kernel
set_option maxRecDepth 100000 in
theorem f_19_7 : xft 19 7 = some (.aload_n 0) := by decide +kernel
set_option maxRecDepth 100000 in
theorem f_19_8 : xft 19 8 = some (.getfield 21) := by decide +kernel
set_option maxRecDepth 100000 in
theorem f_19_11 : xft 19 11 = some (.imul) := by decide +kernel
set_option maxRecDepth 100000 in
theorem f_19_12 : xft 19 12 = some (.istore_n 1) := by decide +kernel
set_option maxRecDepth 100000 in
theorem f_19_13 : xft 19 13 = some (.aload_n 0) := by decide +kernel
set_option maxRecDepth 100000 in
theorem f_19_14 : xft 19 14 = some (.getfield 41) := by decide +kernel
set_option maxRecDepth 100000 in
theorem f_19_17 : xft 19 17 = some (.ifCond .le 11) := by decide +kernel
set_option maxRecDepth 100000 in
theorem f_19_20 : xft 19 20 = some (.iload_n 1) := by decide +kernel
set_option maxRecDepth 100000 in
theorem f_19_21 : xft 19 21 = some (.iconst 3) := by decide +kernel
set_option maxRecDepth 100000 in
theorem f_19_22 : xft 19 22 = some (.imul) := by decide +kernel
set_option maxRecDepth 100000 in
theorem f_19_23 : xft 19 23 = some (.iconst 4) := by decide +kernel
set_option maxRecDepth 100000 in
theorem f_19_24 : xft 19 24 = some (.idiv) := by decide +kernel
set_option maxRecDepth 100000 in
theorem f_19_25 : xft 19 25 = some (.goto 4) := by decide +kernel
set_option maxRecDepth 100000 in
theorem f_19_28 : xft 19 28 = some (.iload_n 1) := by decide +kernel
set_option maxRecDepth 100000 in
theorem f_19_29 : xft 19 29 = some (.istore_n 2) := by decide +kernel
set_option maxRecDepth 100000 in
theorem f_19_30 : xft 19 30 = some (.iconst 0) := by decide +kernel
set_option maxRecDepth 100000 in
theorem f_19_31 : xft 19 31 = some (.iload_n 2) := by decide +kernel
set_option maxRecDepth 100000 in
theorem f_19_32 : xft 19 32 = some (.aload_n 0) := by decide +kernel
set_option maxRecDepth 100000 in
theorem f_19_33 : xft 19 33 = some (.getfield 44) := by decide +kernel
set_option maxRecDepth 100000 in
theorem f_19_36 : xft 19 36 = some (.isub) := by decide +kernel
set_option maxRecDepth 100000 in
theorem f_19_37 : xft 19 37 = some (.invokestatic 47) := by decide +kernel
set_option maxRecDepth 100000 in
theorem f_19_40 : xft 19 40 = some (.ireturn) := by decide +kernel
set_option maxRecDepth 100000 in
theorem f_20_0 : xft 20 0 = some (.aload_n 0) := by decide +kernel
set_option maxRecDepth 100000 in
theorem f_20_1 : xft 20 1 = some (.getfield 38) := by decide +kernel
set_option maxRecDepth 100000 in
theorem f_20_4 : xft 20 4 = some (.iconst (-1)) := by decide +kernel
set_option maxRecDepth 100000 in
theorem f_20_5 : xft 20 5 = some (.if_icmp .eq 7) := by decide +kernel
set_option maxRecDepth 100000 in
theorem f_20_8 : xft 20 8 = some (.iconst 1) := by decide +kernel
set_option maxRecDepth 100000 in
theorem f_20_9 : xft 20 9 = some (.goto 4) := by decide +kernel
set_option maxRecDepth 100000 in
theorem f_20_12 : xft 20 12 = some (.iconst 0) := by decide +kernel
set_option maxRecDepth 100000 in
theorem f_20_13 : xft 20 13 = some (.ireturn) := by decide +kernel
set_option maxRecDepth 100000 in
theorem f_21_0 : xft 21 0 = some (.aload_n 0) := by decide +kernel
set_option maxRecDepth 100000 in
theorem f_21_1 : xft 21 1 = some (.getfield 53) := by decide +kernel
set_option maxRecDepth 100000 in
theorem f_21_4 : xft 21 4 = some (.iconst 4) := by decide +kernel
set_option maxRecDepth 100000 in
theorem f_21_5 : xft 21 5 = some (.if_icmp .ge 21) := by decide +kernel
set_option maxRecDepth 100000 in
theorem f_21_8 : xft 21 8 = some (.aload_n 0) := by decide +kernel
set_option maxRecDepth 100000 in
theorem f_21_9 : xft 21 9 = some (.invokevirtual 56) := by decide +kernel
set_option maxRecDepth 100000 in
theorem f_21_12 : xft 21 12 = some (.ifCond .ne 14) := by decide +kernel
set_option maxRecDepth 100000 in
theorem f_21_15 : xft 21 15 = some (.aload_n 0) := by decide +kernel
set_option maxRecDepth 100000 in
theorem f_21_16 : xft 21 16 = some (.getfield 60) := by decide +kernel
set_option maxRecDepth 100000 in
theorem f_21_19 : xft 21 19 = some (.ifCond .ne 7) := by decide +kernel
set_option maxRecDepth 100000 in
theorem f_21_22 : xft 21 22 = some (.iconst 1) := by decide +kernel
set_option maxRecDepth 100000 in
theorem f_21_23 : xft 21 23 = some (.goto 4) := by decide +kernel
set_option maxRecDepth 100000 in
theorem f_21_26 : xft 21 26 = some (.iconst 0) := by decide +kernel
set_option maxRecDepth 100000 in
theorem f_21_27 : xft 21 27 = some (.ireturn) := by decide +kernel
set_option maxRecDepth 100000 in
theorem f_22_0 : xft 22 0 = some (.aload_n 0) := by decide +kernel
set_option maxRecDepth 100000 in
theorem f_22_1 : xft 22 1 = some (.iconst (-1)) := by decide +kernel
set_option maxRecDepth 100000 in
theorem f_22_2 : xft 22 2 = some (.putfield 32) := by decide +kernel
set_option maxRecDepth 100000 in
theorem f_22_5 : xft 22 5 = some (.aload_n 0) := by decide +kernel
set_option maxRecDepth 100000 in
theorem f_22_6 : xft 22 6 = some (.iconst (-1)) := by decide +kernel
set_option maxRecDepth 100000 in
theorem f_22_7 : xft 22 7 = some (.putfield 35) := by decide +kernel
set_option maxRecDepth 100000 in
theorem f_22_10 : xft 22 10 = some (.aload_n 0) := by decide +kernel
set_option maxRecDepth 100000 in
theorem f_22_11 : xft 22 11 = some (.iconst (-1)) := by decide +kernel
set_option maxRecDepth 100000 in
theorem f_22_12 : xft 22 12 = some (.putfield 38) := by decide +kernel
set_option maxRecDepth 100000 in
theorem f_22_15 : xft 22 15 = some (.return_) := by decide +kernel
set_option maxRecDepth 100000 in
theorem f_23_0 : xft 23 0 = some (.aload_n 0) := by decide +kernel
set_option maxRecDepth 100000 in
theorem f_23_1 : xft 23 1 = some (.iconst 1) := by decide +kernel
set_option maxRecDepth 100000 in
theorem f_23_2 : xft 23 2 = some (.putfield 60) := by decide +kernel
set_option maxRecDepth 100000 in
theorem f_23_5 : xft 23 5 = some (.aload_n 0) := by decide +kernel
set_option maxRecDepth 100000 in
theorem f_23_6 : xft 23 6 = some (.invokevirtual 63) := by decide +kernel
set_option maxRecDepth 100000 in
theorem f_23_9 : xft 23 9 = some (.return_) := by decide +kernel
/-! blocks, by program (gen2.py) -/
section BLK
variable {sc : xS} {d : Nat} {T : Nat → Nat × Nat} {z : Nat × Nat} {V : Nat → Nat → Int} {J : Nat → Nat → Int64} {R : Nat → Nat → Option Nat}
theorem eX2_init {x1 x2 x3 x4 x5 : Int} {a0 : Nat} : X sc (d + 1) 15 [.ref a0, xw x1, xw x2, xw x3, xw x4, xw x5] (T, z, xv V, J, R) = XR sc d 15 0 [some (.ref a0), some (xw x1), some (xw x2), some (xw x3), some (xw x4), some (xw x5)] [] (T, z, xv V, J, R) :=
  (X_eq ⟨jl_15, by rw [mn_15]; rfl, rfl, by rw [lm_15]; exact Nat.le_of_ble_eq_true rfl⟩).trans (by unfold xent; rw [lm_15]; rfl)
theorem bX2_init_0 {x1 x2 x3 x4 x5 : Int} {a0 : Nat} (g1 : 1 ≤ d) (g2 : T a0 = (2, 0)) (g3 : x5 = 0 ∨ x5 = 1) (g4 : (va_up T z.1 (33, 49)) a0 = (2, 0)) : XR sc d 15 0 [some (.ref a0), some (xw x1), some (xw x2), some (xw x3), some (xw x4), some (xw x5)] [] (T, z, xv V, J, R) = some (.inl none, ((va_up T z.1 (33, 49)), (z.1 + 1, z.2 + 49), xv (xup2 (xup2 (xup2 (va_up (xup2 (xup2 (xup2 (xup2 (xup2 V a0 0 x1) a0 1 x2) a0 2 x3) a0 5 x4) a0 3 x5) z.1 (fun _ => 0)) a0 9 (-1)) a0 10 (-1)) a0 11 (-1)), (va_up J z.1 (fun _ => 0)), (xup2 (va_up R z.1 (fun _ => none)) a0 4 (some z.1)))) :=
  (st_aload_n f_15_0 rfl).trans ((st_objinit f_15_1 r_15_3 t_15_3 ⟨g1, Nat.le_of_ble_eq_true rfl⟩).trans ((st_aload_n f_15_4 rfl).trans ((sw_iload_n f_15_5 rfl).trans ((sw_putI f_15_6 e_15_9 (Or.inl rfl) (Or.inr n_15) g2).trans ((st_aload_n f_15_9 rfl).trans ((sw_iload_n f_15_10 rfl).trans ((sw_putI f_15_11 e_15_15 (Or.inl rfl) (Or.inr n_15) g2).trans ((st_aload_n f_15_14 rfl).trans ((sw_iload_n f_15_15 rfl).trans ((sw_putI f_15_16 e_15_18 (Or.inl rfl) (Or.inr n_15) g2).trans ((st_aload_n f_15_19 rfl).trans ((sw_iload f_15_20 rfl).trans ((sw_putI f_15_22 e_15_21 (Or.inl rfl) (Or.inl rfl) g2).trans ((st_aload_n f_15_25 rfl).trans ((sw_iload f_15_26 rfl).trans ((sw_putI f_15_28 e_15_24 (Or.inr ⟨rfl, g3⟩) (Or.inr n_15) g2).trans ((st_aload_n f_15_31 rfl).trans ((sw_bipush f_15_32 c8_49).trans ((sw_newZ 49 f_15_34 ⟨rfl, by decide⟩).trans ((st_putR f_15_36 e_15_28 rfl (Or.inr n_15) g4).trans ((st_aload_n f_15_39 rfl).trans ((sw_iconst f_15_40).trans ((sw_putI f_15_41 e_15_32 (Or.inl rfl) (Or.inl rfl) g4).trans ((st_aload_n f_15_44 rfl).trans ((sw_iconst f_15_45).trans ((sw_putI f_15_46 e_15_35 (Or.inl rfl) (Or.inl rfl) g4).trans ((st_aload_n f_15_49 rfl).trans ((sw_iconst f_15_50).trans ((sw_putI f_15_51 e_15_38 (Or.inl rfl) (Or.inl rfl) g4).trans (st_return f_15_54 mr_15))))))))))))))))))))))))))))))
theorem eX2_hasHoleNear {x1 : Int} {a0 : Nat} : X sc (d + 1) 16 [.ref a0, xw x1] (T, z, xv V, J, R) = XR sc d 16 0 [some (.ref a0), some (xw x1)] [] (T, z, xv V, J, R) :=
  (X_eq ⟨jl_16, by rw [mn_16]; rfl, rfl, by rw [lm_16]; exact Nat.le_of_ble_eq_true rfl⟩).trans (by unfold xent; rw [lm_16]; rfl)
theorem bX2_hasHoleNear_0 {x1 : Int} {a0 : Nat} (g1 : T a0 = (2, 0)) (g2 : R a0 4 = some ((R a0 4).getD 0)) (g3 : T ((R a0 4).getD 0) = (33, (T ((R a0 4).getD 0)).2)) (g4 : (0 : Int) ≤ (x1 - 1) ∧ (x1 - 1) < ((T ((R a0 4).getD 0)).2 : Int) ∧ (T ((R a0 4).getD 0)).2 ≤ 3584) (g5 : -2147483648 ≤ (V ((R a0 4).getD 0) (x1 - 1).toNat) ∧ (V ((R a0 4).getD 0) (x1 - 1).toNat) ≤ 2147483647) : XR sc d 16 0 [some (.ref a0), some (xw x1)] [] (T, z, xv V, J, R) = if (V ((R a0 4).getD 0) (x1 - 1).toNat) = 0 then XR sc d 16 11 [some (.ref a0), some (xw x1)] [] (T, z, xv V, J, R) else XR sc d 16 31 [some (.ref a0), some (xw x1)] [] (T, z, xv V, J, R) :=
  (st_aload_n f_16_0 rfl).trans ((st_getR f_16_1 e_16_28 (by decide) g1 g2).trans ((sw_iload_n f_16_4 rfl).trans ((sw_iconst f_16_5).trans ((sw_isub f_16_6).trans ((sw_baload f_16_7 g3 g4).trans (sw_if_ne (t := 31) f_16_8 ⟨by decide, rfl⟩ g5))))))
theorem bX2_hasHoleNear_11 {x1 : Int} {a0 : Nat} (g1 : T a0 = (2, 0)) (g2 : R a0 4 = some ((R a0 4).getD 0)) (g3 : T ((R a0 4).getD 0) = (33, (T ((R a0 4).getD 0)).2)) (g4 : (0 : Int) ≤ x1 ∧ x1 < ((T ((R a0 4).getD 0)).2 : Int) ∧ (T ((R a0 4).getD 0)).2 ≤ 3584) (g5 : -2147483648 ≤ (V ((R a0 4).getD 0) x1.toNat) ∧ (V ((R a0 4).getD 0) x1.toNat) ≤ 2147483647) : XR sc d 16 11 [some (.ref a0), some (xw x1)] [] (T, z, xv V, J, R) = if (V ((R a0 4).getD 0) x1.toNat) = 0 then XR sc d 16 20 [some (.ref a0), some (xw x1)] [] (T, z, xv V, J, R) else XR sc d 16 31 [some (.ref a0), some (xw x1)] [] (T, z, xv V, J, R) :=
  (st_aload_n f_16_11 rfl).trans ((st_getR f_16_12 e_16_28 (by decide) g1 g2).trans ((sw_iload_n f_16_15 rfl).trans ((sw_baload f_16_16 g3 g4).trans (sw_if_ne (t := 31) f_16_17 ⟨by decide, rfl⟩ g5))))
theorem bX2_hasHoleNear_20 {x1 : Int} {a0 : Nat} (g1 : T a0 = (2, 0)) (g2 : R a0 4 = some ((R a0 4).getD 0)) (g3 : T ((R a0 4).getD 0) = (33, (T ((R a0 4).getD 0)).2)) (g4 : (0 : Int) ≤ (x1 + 1) ∧ (x1 + 1) < ((T ((R a0 4).getD 0)).2 : Int) ∧ (T ((R a0 4).getD 0)).2 ≤ 3584) (g5 : -2147483648 ≤ (V ((R a0 4).getD 0) (x1 + 1).toNat) ∧ (V ((R a0 4).getD 0) (x1 + 1).toNat) ≤ 2147483647) : XR sc d 16 20 [some (.ref a0), some (xw x1)] [] (T, z, xv V, J, R) = if (V ((R a0 4).getD 0) (x1 + 1).toNat) = 0 then XR sc d 16 35 [some (.ref a0), some (xw x1)] [] (T, z, xv V, J, R) else XR sc d 16 31 [some (.ref a0), some (xw x1)] [] (T, z, xv V, J, R) :=
  (st_aload_n f_16_20 rfl).trans ((st_getR f_16_21 e_16_28 (by decide) g1 g2).trans ((sw_iload_n f_16_24 rfl).trans ((sw_iconst f_16_25).trans ((sw_iadd f_16_26).trans ((sw_baload f_16_27 g3 g4).trans (sw_if_eq (t := 35) f_16_28 ⟨by decide, rfl⟩ g5))))))
theorem bX2_hasHoleNear_31 {o0 o1 : Option Value} : XR sc d 16 31 [o0, o1] [] (T, z, xv V, J, R) = XR sc d 16 36 [o0, o1] [xw 1] (T, z, xv V, J, R) :=
  (sw_iconst f_16_31).trans (st_goto (t := 36) f_16_32 ⟨by decide, rfl⟩)
theorem bX2_hasHoleNear_35 {o0 o1 : Option Value} : XR sc d 16 35 [o0, o1] [] (T, z, xv V, J, R) = XR sc d 16 36 [o0, o1] [xw 0] (T, z, xv V, J, R) :=
  sw_iconst f_16_35
theorem bX2_hasHoleNear_36 {o0 o1 : Option Value} {y0 : Int} (g1 : y0 = 0 ∨ y0 = 1) : XR sc d 16 36 [o0, o1] [xw y0] (T, z, xv V, J, R) = some (.inl (some (xw y0)), (T, z, xv V, J, R)) :=
  sw_zreturn f_16_36 mr_16 g1
theorem eX2_addHole {x1 : Int} {a0 : Nat} : X sc (d + 1) 17 [.ref a0, xw x1] (T, z, xv V, J, R) = XR sc d 17 0 [some (.ref a0), some (xw x1), none, none] [] (T, z, xv V, J, R) :=
  (X_eq ⟨jl_17, by rw [mn_17]; rfl, rfl, by rw [lm_17]; exact Nat.le_of_ble_eq_true rfl⟩).trans (by unfold xent; rw [lm_17]; rfl)
theorem bX2_addHole_0 {o2 o3 : Option Value} {x1 : Int} {a0 : Nat} (g1 : T a0 = (2, 0)) (g2 : R a0 4 = some ((R a0 4).getD 0)) (g3 : T ((R a0 4).getD 0) = (33, (T ((R a0 4).getD 0)).2)) (g4 : (0 : Int) ≤ x1 ∧ x1 < ((T ((R a0 4).getD 0)).2 : Int) ∧ (T ((R a0 4).getD 0)).2 ≤ 3584) : XR sc d 17 0 [some (.ref a0), some (xw x1), o2, o3] [] (T, z, xv V, J, R) = XR sc d 17 21 [some (.ref a0), some (xw x1), some (xw 0), some (xw 0)] [] (T, z, xv (xup2 (xup2 V ((R a0 4).getD 0) x1.toNat 1) a0 6 (((xup2 V ((R a0 4).getD 0) x1.toNat 1) a0 6) + 1)), J, R) :=
  (st_aload_n f_17_0 rfl).trans ((st_getR f_17_1 e_17_28 (by decide) g1 g2).trans ((sw_iload_n f_17_4 rfl).trans ((sw_iconst f_17_5).trans ((sw_bastore f_17_6 g3 g4 (by decide)).trans ((st_aload_n f_17_7 rfl).trans ((st_dup f_17_8 rfl).trans ((sw_getI f_17_9 e_17_41 (by decide) g1).trans ((sw_iconst f_17_12).trans ((sw_iadd f_17_13).trans ((sw_putI f_17_14 e_17_41 (Or.inl rfl) (Or.inl rfl) g1).trans ((sw_iconst f_17_17).trans ((sw_istore_n (L' := [some (.ref a0), some (xw x1), some (xw 0), o3]) f_17_18 (Nat.le_of_ble_eq_true rfl) rfl).trans ((sw_iconst f_17_19).trans (sw_istore_n (L' := [some (.ref a0), some (xw x1), some (xw 0), some (xw 0)]) f_17_20 (Nat.le_of_ble_eq_true rfl) rfl))))))))))))))
theorem bX2_addHole_21 {o0 o2 : Option Value} {x3 x1 : Int} (g1 : -2147483648 ≤ x3 ∧ x3 ≤ 2147483647) (g2 : -2147483648 ≤ x1 ∧ x1 ≤ 2147483647) : XR sc d 17 21 [o0, some (xw x1), o2, some (xw x3)] [] (T, z, xv V, J, R) = if x1 ≤ x3 then XR sc d 17 49 [o0, some (xw x1), o2, some (xw x3)] [] (T, z, xv V, J, R) else XR sc d 17 26 [o0, some (xw x1), o2, some (xw x3)] [] (T, z, xv V, J, R) :=
  (sw_iload_n f_17_21 rfl).trans ((sw_iload_n f_17_22 rfl).trans (sw_icmp_ge (t := 49) f_17_23 ⟨by decide, rfl⟩ g1 g2))
theorem bX2_addHole_26 {o1 : Option Value} {x2 x3 : Int} {a0 : Nat} (g1 : T a0 = (2, 0)) (g2 : R a0 4 = some ((R a0 4).getD 0)) (g3 : T ((R a0 4).getD 0) = (33, (T ((R a0 4).getD 0)).2)) (g4 : (0 : Int) ≤ x3 ∧ x3 < ((T ((R a0 4).getD 0)).2 : Int) ∧ (T ((R a0 4).getD 0)).2 ≤ 3584) (g5 : -2147483648 ≤ (V ((R a0 4).getD 0) x3.toNat) ∧ (V ((R a0 4).getD 0) x3.toNat) ≤ 2147483647) : XR sc d 17 26 [some (.ref a0), o1, some (xw x2), some (xw x3)] [] (T, z, xv V, J, R) = if (V ((R a0 4).getD 0) x3.toNat) = 0 then XR sc d 17 40 [some (.ref a0), o1, some (xw x2), some (xw x3)] [xw x2] (T, z, xv V, J, R) else XR sc d 17 36 [some (.ref a0), o1, some (xw x2), some (xw x3)] [xw x2] (T, z, xv V, J, R) :=
  (sw_iload_n f_17_26 rfl).trans ((st_aload_n f_17_27 rfl).trans ((st_getR f_17_28 e_17_28 (by decide) g1 g2).trans ((sw_iload_n f_17_31 rfl).trans ((sw_baload f_17_32 g3 g4).trans (sw_if_eq (t := 40) f_17_33 ⟨by decide, rfl⟩ g5)))))
theorem bX2_addHole_36 {o0 o1 o2 o3 : Option Value} {s0 : Value} : XR sc d 17 36 [o0, o1, o2, o3] [s0] (T, z, xv V, J, R) = XR sc d 17 41 [o0, o1, o2, o3] [xw 1, s0] (T, z, xv V, J, R) :=
  (sw_iconst f_17_36).trans (st_goto (t := 41) f_17_37 ⟨by decide, rfl⟩)
theorem bX2_addHole_40 {o0 o1 o2 o3 : Option Value} {s0 : Value} : XR sc d 17 40 [o0, o1, o2, o3] [s0] (T, z, xv V, J, R) = XR sc d 17 41 [o0, o1, o2, o3] [xw 0, s0] (T, z, xv V, J, R) :=
  sw_iconst f_17_40
theorem bX2_addHole_41 {o0 o1 o2 : Option Value} {y0 y1 x3 : Int} : XR sc d 17 41 [o0, o1, o2, some (xw x3)] [xw y0, xw y1] (T, z, xv V, J, R) = XR sc d 17 21 [o0, o1, some (xw (y1 + y0)), some (xw (x3 + 1))] [] (T, z, xv V, J, R) :=
  (sw_iadd f_17_41).trans ((sw_istore_n (L' := [o0, o1, some (xw (y1 + y0)), some (xw x3)]) f_17_42 (Nat.le_of_ble_eq_true rfl) rfl).trans ((sw_iinc (L' := [o0, o1, some (xw (y1 + y0)), some (xw (x3 + 1))]) f_17_43 rfl (Nat.le_of_ble_eq_true rfl) rfl).trans (st_goto (t := 21) f_17_46 ⟨by decide, rfl⟩)))
theorem bX2_addHole_49 {o0 o1 o3 : Option Value} {x2 : Int} : XR sc d 17 49 [o0, o1, some (xw x2), o3] [] (T, z, xv V, J, R) = some (.inl (some (xw x2)), (T, z, xv V, J, R)) :=
  (sw_iload_n f_17_49 rfl).trans (sw_ireturn f_17_50 mr_17)
theorem eX2_placeOf {x1 : Int} {a0 : Nat} : X sc (d + 1) 18 [.ref a0, xw x1] (T, z, xv V, J, R) = XR sc d 18 0 [some (.ref a0), some (xw x1), none, none] [] (T, z, xv V, J, R) :=
  (X_eq ⟨jl_18, by rw [mn_18]; rfl, rfl, by rw [lm_18]; exact Nat.le_of_ble_eq_true rfl⟩).trans (by unfold xent; rw [lm_18]; rfl)
theorem bX2_placeOf_0 {o0 o2 o3 : Option Value} {x1 : Int} : XR sc d 18 0 [o0, some (xw x1), o2, o3] [] (T, z, xv V, J, R) = XR sc d 18 4 [o0, some (xw x1), some (xw x1), some (xw 0)] [] (T, z, xv V, J, R) :=
  (sw_iload_n f_18_0 rfl).trans ((sw_istore_n (L' := [o0, some (xw x1), some (xw x1), o3]) f_18_1 (Nat.le_of_ble_eq_true rfl) rfl).trans ((sw_iconst f_18_2).trans (sw_istore_n (L' := [o0, some (xw x1), some (xw x1), some (xw 0)]) f_18_3 (Nat.le_of_ble_eq_true rfl) rfl)))
theorem bX2_placeOf_4 {o1 o2 : Option Value} {x3 : Int} {a0 : Nat} (g1 : T a0 = (2, 0)) (g2 : R a0 4 = some ((R a0 4).getD 0)) (g3 : T ((R a0 4).getD 0) = ((T ((R a0 4).getD 0)).1, (T ((R a0 4).getD 0)).2)) (g4 : (32 ≤ (T ((R a0 4).getD 0)).1 ∧ (T ((R a0 4).getD 0)).1 < 35) ∨ (40 ≤ (T ((R a0 4).getD 0)).1 ∧ (T ((R a0 4).getD 0)).1 < 44)) (g5 : -2147483648 ≤ x3 ∧ x3 ≤ 2147483647) (g6 : -2147483648 ≤ ((T ((R a0 4).getD 0)).2 : Int) ∧ ((T ((R a0 4).getD 0)).2 : Int) ≤ 2147483647) : XR sc d 18 4 [some (.ref a0), o1, o2, some (xw x3)] [] (T, z, xv V, J, R) = if ((T ((R a0 4).getD 0)).2 : Int) ≤ x3 then XR sc d 18 37 [some (.ref a0), o1, o2, some (xw x3)] [] (T, z, xv V, J, R) else XR sc d 18 13 [some (.ref a0), o1, o2, some (xw x3)] [] (T, z, xv V, J, R) :=
  (sw_iload_n f_18_4 rfl).trans ((st_aload_n f_18_5 rfl).trans ((st_getR f_18_6 e_18_28 (by decide) g1 g2).trans ((sw_alenI f_18_9 g3 g4).trans (sw_icmp_ge (t := 37) f_18_10 ⟨by decide, rfl⟩ g5 g6))))
theorem bX2_placeOf_13 {o1 o2 : Option Value} {x3 : Int} {a0 : Nat} (g1 : T a0 = (2, 0)) (g2 : R a0 4 = some ((R a0 4).getD 0)) (g3 : T ((R a0 4).getD 0) = (33, (T ((R a0 4).getD 0)).2)) (g4 : (0 : Int) ≤ x3 ∧ x3 < ((T ((R a0 4).getD 0)).2 : Int) ∧ (T ((R a0 4).getD 0)).2 ≤ 3584) (g5 : -2147483648 ≤ (V ((R a0 4).getD 0) x3.toNat) ∧ (V ((R a0 4).getD 0) x3.toNat) ≤ 2147483647) : XR sc d 18 13 [some (.ref a0), o1, o2, some (xw x3)] [] (T, z, xv V, J, R) = if (V ((R a0 4).getD 0) x3.toNat) = 0 then XR sc d 18 31 [some (.ref a0), o1, o2, some (xw x3)] [] (T, z, xv V, J, R) else XR sc d 18 22 [some (.ref a0), o1, o2, some (xw x3)] [] (T, z, xv V, J, R) :=
  (st_aload_n f_18_13 rfl).trans ((st_getR f_18_14 e_18_28 (by decide) g1 g2).trans ((sw_iload_n f_18_17 rfl).trans ((sw_baload f_18_18 g3 g4).trans (sw_if_eq (t := 31) f_18_19 ⟨by decide, rfl⟩ g5))))
theorem bX2_placeOf_22 {o0 o1 o3 : Option Value} {x2 : Int} (g1 : -2147483648 ≤ x2 ∧ x2 ≤ 2147483647) : XR sc d 18 22 [o0, o1, some (xw x2), o3] [] (T, z, xv V, J, R) = if x2 = 0 then XR sc d 18 26 [o0, o1, some (xw x2), o3] [] (T, z, xv V, J, R) else XR sc d 18 28 [o0, o1, some (xw x2), o3] [] (T, z, xv V, J, R) :=
  (sw_iload_n f_18_22 rfl).trans (sw_if_ne (t := 28) f_18_23 ⟨by decide, rfl⟩ g1)
theorem bX2_placeOf_26 {o0 o1 o2 : Option Value} {x3 : Int} : XR sc d 18 26 [o0, o1, o2, some (xw x3)] [] (T, z, xv V, J, R) = some (.inl (some (xw x3)), (T, z, xv V, J, R)) :=
  (sw_iload_n f_18_26 rfl).trans (sw_ireturn f_18_27 mr_18)
theorem bX2_placeOf_28 {o0 o1 o3 : Option Value} {x2 : Int} : XR sc d 18 28 [o0, o1, some (xw x2), o3] [] (T, z, xv V, J, R) = XR sc d 18 31 [o0, o1, some (xw (x2 + (-1))), o3] [] (T, z, xv V, J, R) :=
  sw_iinc (L' := [o0, o1, some (xw (x2 + (-1))), o3]) f_18_28 rfl (Nat.le_of_ble_eq_true rfl) rfl
theorem bX2_placeOf_31 {o0 o1 o2 : Option Value} {x3 : Int} : XR sc d 18 31 [o0, o1, o2, some (xw x3)] [] (T, z, xv V, J, R) = XR sc d 18 4 [o0, o1, o2, some (xw (x3 + 1))] [] (T, z, xv V, J, R) :=
  (sw_iinc (L' := [o0, o1, o2, some (xw (x3 + 1))]) f_18_31 rfl (Nat.le_of_ble_eq_true rfl) rfl).trans (st_goto (t := 4) f_18_34 ⟨by decide, rfl⟩)
theorem bX2_placeOf_37 {o0 o1 o2 o3 : Option Value} : XR sc d 18 37 [o0, o1, o2, o3] [] (T, z, xv V, J, R) = some (.inl (some (xw (-1))), (T, z, xv V, J, R)) :=
  (sw_iconst f_18_37).trans (sw_ireturn f_18_38 mr_18)
theorem eX2_strength {a0 : Nat} : X sc (d + 1) 19 [.ref a0] (T, z, xv V, J, R) = XR sc d 19 0 [some (.ref a0), none, none] [] (T, z, xv V, J, R) :=
  (X_eq ⟨jl_19, by rw [mn_19]; rfl, rfl, by rw [lm_19]; exact Nat.le_of_ble_eq_true rfl⟩).trans (by unfold xent; rw [lm_19]; rfl)
theorem bX2_strength_0 {o1 o2 : Option Value} {a0 : Nat} (g1 : T a0 = (2, 0)) (g2 : -2147483648 ≤ (V a0 6) ∧ (V a0 6) ≤ 2147483647) : XR sc d 19 0 [some (.ref a0), o1, o2] [] (T, z, xv V, J, R) = if (V a0 6) ≤ 0 then XR sc d 19 28 [some (.ref a0), some (xw ((10 * (V a0 1)) * (V a0 5))), o2] [] (T, z, xv V, J, R) else XR sc d 19 20 [some (.ref a0), some (xw ((10 * (V a0 1)) * (V a0 5))), o2] [] (T, z, xv V, J, R) :=
  (sw_bipush f_19_0 c8_10).trans ((st_aload_n f_19_2 rfl).trans ((sw_getI f_19_3 e_19_15 (by decide) g1).trans ((sw_imul f_19_6).trans ((st_aload_n f_19_7 rfl).trans ((sw_getI f_19_8 e_19_21 (by decide) g1).trans ((sw_imul f_19_11).trans ((sw_istore_n (L' := [some (.ref a0), some (xw ((10 * (V a0 1)) * (V a0 5))), o2]) f_19_12 (Nat.le_of_ble_eq_true rfl) rfl).trans ((st_aload_n f_19_13 rfl).trans ((sw_getI f_19_14 e_19_41 (by decide) g1).trans (sw_if_le (t := 28) f_19_17 ⟨by decide, rfl⟩ g2))))))))))
theorem bX2_strength_20 {o0 o2 : Option Value} {x1 : Int} (g1 : 0 ≤ (x1 * 3) ∧ (x1 * 3) ≤ 2147483647) : XR sc d 19 20 [o0, some (xw x1), o2] [] (T, z, xv V, J, R) = XR sc d 19 29 [o0, some (xw x1), o2] [xw ((x1 * 3) / 4)] (T, z, xv V, J, R) :=
  (sw_iload_n f_19_20 rfl).trans ((sw_iconst f_19_21).trans ((sw_imul f_19_22).trans ((sw_iconst f_19_23).trans ((sw_idiv f_19_24 ⟨by decide, by decide, g1⟩).trans (st_goto (t := 29) f_19_25 ⟨by decide, rfl⟩)))))
theorem bX2_strength_28 {o0 o2 : Option Value} {x1 : Int} : XR sc d 19 28 [o0, some (xw x1), o2] [] (T, z, xv V, J, R) = XR sc d 19 29 [o0, some (xw x1), o2] [xw x1] (T, z, xv V, J, R) :=
  sw_iload_n f_19_28 rfl
theorem bX2_strength_29 {o1 o2 : Option Value} {y0 : Int} {a0 : Nat} (g1 : T a0 = (2, 0)) : XR sc d 19 29 [some (.ref a0), o1, o2] [xw y0] (T, z, xv V, J, R) = xret 19 (XR sc d 19) 37 40 [some (.ref a0), o1, some (xw y0)] [] (X sc d 158 [xw 0, xw (y0 - (V a0 7))] (T, z, xv V, J, R)) :=
  (sw_istore_n (L' := [some (.ref a0), o1, some (xw y0)]) f_19_29 (Nat.le_of_ble_eq_true rfl) rfl).trans ((sw_iconst f_19_30).trans ((sw_iload_n f_19_31 rfl).trans ((st_aload_n f_19_32 rfl).trans ((sw_getI f_19_33 e_19_44 (by decide) g1).trans ((sw_isub f_19_36).trans (st_callS' f_19_37 h_19_47 mn_158 rfl rfl rfl rfl))))))
theorem bX2_strength_40 {o0 o1 o2 : Option Value} {y0 : Int} : XR sc d 19 40 [o0, o1, o2] [xw y0] (T, z, xv V, J, R) = some (.inl (some (xw y0)), (T, z, xv V, J, R)) :=
  sw_ireturn f_19_40 mr_19
theorem eX2_isBuckled {a0 : Nat} : X sc (d + 1) 20 [.ref a0] (T, z, xv V, J, R) = XR sc d 20 0 [some (.ref a0)] [] (T, z, xv V, J, R) :=
  (X_eq ⟨jl_20, by rw [mn_20]; rfl, rfl, by rw [lm_20]; exact Nat.le_of_ble_eq_true rfl⟩).trans (by unfold xent; rw [lm_20]; rfl)
theorem bX2_isBuckled_0 {a0 : Nat} (g1 : T a0 = (2, 0)) (g2 : -2147483648 ≤ (V a0 11) ∧ (V a0 11) ≤ 2147483647) : XR sc d 20 0 [some (.ref a0)] [] (T, z, xv V, J, R) = if (V a0 11) = (-1) then XR sc d 20 12 [some (.ref a0)] [] (T, z, xv V, J, R) else XR sc d 20 8 [some (.ref a0)] [] (T, z, xv V, J, R) :=
  (st_aload_n f_20_0 rfl).trans ((sw_getI f_20_1 e_20_38 (by decide) g1).trans ((sw_iconst f_20_4).trans (sw_icmp_eq (t := 12) f_20_5 ⟨by decide, rfl⟩ g2 ⟨by decide, by decide⟩)))
theorem bX2_isBuckled_8 {o0 : Option Value} : XR sc d 20 8 [o0] [] (T, z, xv V, J, R) = XR sc d 20 13 [o0] [xw 1] (T, z, xv V, J, R) :=
  (sw_iconst f_20_8).trans (st_goto (t := 13) f_20_9 ⟨by decide, rfl⟩)
theorem bX2_isBuckled_12 {o0 : Option Value} : XR sc d 20 12 [o0] [] (T, z, xv V, J, R) = XR sc d 20 13 [o0] [xw 0] (T, z, xv V, J, R) :=
  sw_iconst f_20_12
theorem bX2_isBuckled_13 {o0 : Option Value} {y0 : Int} (g1 : y0 = 0 ∨ y0 = 1) : XR sc d 20 13 [o0] [xw y0] (T, z, xv V, J, R) = some (.inl (some (xw y0)), (T, z, xv V, J, R)) :=
  sw_zreturn f_20_13 mr_20 g1
theorem eX2_canBeSewn {a0 : Nat} : X sc (d + 1) 21 [.ref a0] (T, z, xv V, J, R) = XR sc d 21 0 [some (.ref a0)] [] (T, z, xv V, J, R) :=
  (X_eq ⟨jl_21, by rw [mn_21]; rfl, rfl, by rw [lm_21]; exact Nat.le_of_ble_eq_true rfl⟩).trans (by unfold xent; rw [lm_21]; rfl)
theorem bX2_canBeSewn_0 {a0 : Nat} (g1 : T a0 = (2, 0)) (g2 : -2147483648 ≤ (V a0 8) ∧ (V a0 8) ≤ 2147483647) : XR sc d 21 0 [some (.ref a0)] [] (T, z, xv V, J, R) = if 4 ≤ (V a0 8) then XR sc d 21 26 [some (.ref a0)] [] (T, z, xv V, J, R) else XR sc d 21 8 [some (.ref a0)] [] (T, z, xv V, J, R) :=
  (st_aload_n f_21_0 rfl).trans ((sw_getI f_21_1 e_21_53 (by decide) g1).trans ((sw_iconst f_21_4).trans (sw_icmp_ge (t := 26) f_21_5 ⟨by decide, rfl⟩ g2 ⟨by decide, by decide⟩)))
theorem bX2_canBeSewn_8 {a0 : Nat} (g1 : T a0 = (2, 0)) : XR sc d 21 8 [some (.ref a0)] [] (T, z, xv V, J, R) = xret 21 (XR sc d 21) 9 12 [some (.ref a0)] [] (X sc d 20 [.ref a0] (T, z, xv V, J, R)) :=
  (st_aload_n f_21_8 rfl).trans (st_callV' f_21_9 h_21_56 mn_20 rfl rfl rfl rfl mo_20 g1 rfl)
theorem bX2_canBeSewn_12 {o0 : Option Value} {y0 : Int} (g1 : -2147483648 ≤ y0 ∧ y0 ≤ 2147483647) : XR sc d 21 12 [o0] [xw y0] (T, z, xv V, J, R) = if y0 = 0 then XR sc d 21 15 [o0] [] (T, z, xv V, J, R) else XR sc d 21 26 [o0] [] (T, z, xv V, J, R) :=
  sw_if_ne (t := 26) f_21_12 ⟨by decide, rfl⟩ g1
theorem bX2_canBeSewn_15 {a0 : Nat} (g1 : T a0 = (2, 0)) (g2 : -2147483648 ≤ (V a0 12) ∧ (V a0 12) ≤ 2147483647) : XR sc d 21 15 [some (.ref a0)] [] (T, z, xv V, J, R) = if (V a0 12) = 0 then XR sc d 21 22 [some (.ref a0)] [] (T, z, xv V, J, R) else XR sc d 21 26 [some (.ref a0)] [] (T, z, xv V, J, R) :=
  (st_aload_n f_21_15 rfl).trans ((sw_getI f_21_16 e_21_60 (by decide) g1).trans (sw_if_ne (t := 26) f_21_19 ⟨by decide, rfl⟩ g2))
theorem bX2_canBeSewn_22 {o0 : Option Value} : XR sc d 21 22 [o0] [] (T, z, xv V, J, R) = XR sc d 21 27 [o0] [xw 1] (T, z, xv V, J, R) :=
  (sw_iconst f_21_22).trans (st_goto (t := 27) f_21_23 ⟨by decide, rfl⟩)
theorem bX2_canBeSewn_26 {o0 : Option Value} : XR sc d 21 26 [o0] [] (T, z, xv V, J, R) = XR sc d 21 27 [o0] [xw 0] (T, z, xv V, J, R) :=
  sw_iconst f_21_26
theorem bX2_canBeSewn_27 {o0 : Option Value} {y0 : Int} (g1 : y0 = 0 ∨ y0 = 1) : XR sc d 21 27 [o0] [xw y0] (T, z, xv V, J, R) = some (.inl (some (xw y0)), (T, z, xv V, J, R)) :=
  sw_zreturn f_21_27 mr_21 g1
theorem eX2_letGo {a0 : Nat} : X sc (d + 1) 22 [.ref a0] (T, z, xv V, J, R) = XR sc d 22 0 [some (.ref a0)] [] (T, z, xv V, J, R) :=
  (X_eq ⟨jl_22, by rw [mn_22]; rfl, rfl, by rw [lm_22]; exact Nat.le_of_ble_eq_true rfl⟩).trans (by unfold xent; rw [lm_22]; rfl)
theorem bX2_letGo_0 {a0 : Nat} (g1 : T a0 = (2, 0)) : XR sc d 22 0 [some (.ref a0)] [] (T, z, xv V, J, R) = some (.inl none, (T, z, xv (xup2 (xup2 (xup2 V a0 9 (-1)) a0 10 (-1)) a0 11 (-1)), J, R)) :=
  (st_aload_n f_22_0 rfl).trans ((sw_iconst f_22_1).trans ((sw_putI f_22_2 e_22_32 (Or.inl rfl) (Or.inl rfl) g1).trans ((st_aload_n f_22_5 rfl).trans ((sw_iconst f_22_6).trans ((sw_putI f_22_7 e_22_35 (Or.inl rfl) (Or.inl rfl) g1).trans ((st_aload_n f_22_10 rfl).trans ((sw_iconst f_22_11).trans ((sw_putI f_22_12 e_22_38 (Or.inl rfl) (Or.inl rfl) g1).trans (st_return f_22_15 mr_22)))))))))
theorem eX2_snap {a0 : Nat} : X sc (d + 1) 23 [.ref a0] (T, z, xv V, J, R) = XR sc d 23 0 [some (.ref a0)] [] (T, z, xv V, J, R) :=
  (X_eq ⟨jl_23, by rw [mn_23]; rfl, rfl, by rw [lm_23]; exact Nat.le_of_ble_eq_true rfl⟩).trans (by unfold xent; rw [lm_23]; rfl)
theorem bX2_snap_0 {a0 : Nat} (g1 : T a0 = (2, 0)) : XR sc d 23 0 [some (.ref a0)] [] (T, z, xv V, J, R) = xret 23 (XR sc d 23) 6 9 [some (.ref a0)] [] (X sc d 22 [.ref a0] (T, z, xv (xup2 V a0 12 1), J, R)) :=
  (st_aload_n f_23_0 rfl).trans ((sw_iconst f_23_1).trans ((sw_putI f_23_2 e_23_60 (Or.inr ⟨rfl, (by decide)⟩) (Or.inl rfl) g1).trans ((st_aload_n f_23_5 rfl).trans (st_callV' f_23_6 h_23_63 mn_22 rfl rfl rfl rfl mo_22 g1 rfl))))
theorem bX2_snap_9 {o0 : Option Value} : XR sc d 23 9 [o0] [] (T, z, xv V, J, R) = some (.inl none, (T, z, xv V, J, R)) :=
  st_return f_23_9 mr_23
end BLK
