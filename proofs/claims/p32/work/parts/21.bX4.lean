/-! instructions, by program (gen2.py) -/
set_option maxRecDepth 100000 in
theorem f_39_0 : xft 39 0 = some (.aload_n 0) := by decide +kernel
set_option maxRecDepth 100000 in
theorem f_39_1 : xft 39 1 = some (.invokespecial 3) := by decide +kernel
set_option maxRecDepth 100000 in
theorem f_39_4 : xft 39 4 = some (.aload_n 0) := by decide +kernel
set_option maxRecDepth 100000 in
theorem f_39_5 : xft 39 5 = some (.bipush 7) := by decide +kernel
set_option maxRecDepth 100000 in
theorem f_39_7 : xft 39 7 = some (.newarray .int) := by decide +kernel
set_option maxRecDepth 100000 in
theorem f_39_9 : xft 39 9 = some (.putfield 9) := by decide +kernel
set_option maxRecDepth 100000 in
theorem f_39_12 : xft 39 12 = some (.aload_n 0) := by decide +kernel
set_option maxRecDepth 100000 in
theorem f_39_13 : xft 39 13 = some (.bipush 7) := by decide +kernel
set_option maxRecDepth 100000 in
theorem f_39_15 : xft 39 15 = some (.newarray .int) := by decide +kernel
set_option maxRecDepth 100000 in
theorem f_39_17 : xft 39 17 = some (.putfield 15) := by decide +kernel
set_option maxRecDepth 100000 in
theorem f_39_20 : xft 39 20 = some (.return_) := by decide +kernel
set_option maxRecDepth 100000 in
theorem f_190_0 : xft 190 0 = some (.aload_n 0) := by decide +kernel
set_option maxRecDepth 100000 in
theorem f_190_1 : xft 190 1 = some (.getfield 15) := by decide +kernel
set_option maxRecDepth 100000 in
theorem f_190_4 : xft 190 4 = some (.iload_n 1) := by decide +kernel
set_option maxRecDepth 100000 in
theorem f_190_5 : xft 190 5 = some (.iconst 0) := by decide +kernel
set_option maxRecDepth 100000 in
theorem f_190_6 : xft 190 6 = some (.aload_n 0) := by decide +kernel
set_option maxRecDepth 100000 in
theorem f_190_7 : xft 190 7 = some (.getfield 15) := by decide +kernel
set_option maxRecDepth 100000 in
theorem f_190_10 : xft 190 10 = some (.iload_n 1) := by decide +kernel
set_option maxRecDepth 100000 in
theorem f_190_11 : xft 190 11 = some (.iaload) := by decide +kernel
set_option maxRecDepth 100000 in
theorem f_190_12 : xft 190 12 = some (.iconst 1) := by decide +kernel
set_option maxRecDepth 100000 in
theorem f_190_13 : xft 190 13 = some (.isub) := by decide +kernel
set_option maxRecDepth 100000 in
theorem f_190_14 : xft 190 14 = some (.invokestatic 18) := by decide +kernel
set_option maxRecDepth 100000 in
theorem f_190_17 : xft 190 17 = some (.iastore) := by decide +kernel
set_option maxRecDepth 100000 in
theorem f_190_18 : xft 190 18 = some (.return_) := by decide +kernel
/-! blocks, by program (gen2.py) -/
section BLK
variable {sc : xS} {d : Nat} {T : Nat → Nat × Nat} {z : Nat × Nat} {V : Nat → Nat → Int} {J : Nat → Nat → Int64} {R : Nat → Nat → Option Nat}
theorem eX4_init {a0 : Nat} : X sc (d + 1) 39 [.ref a0] (T, z, xv V, J, R) = XR sc d 39 0 [some (.ref a0)] [] (T, z, xv V, J, R) :=
  (X_eq ⟨jl_39, by rw [mn_39]; rfl, rfl, by rw [lm_39]; exact Nat.le_of_ble_eq_true rfl⟩).trans (by unfold xent; rw [lm_39]; rfl)
theorem bX4_init_0 {a0 : Nat} (g1 : 1 ≤ d) (g2 : (va_up T z.1 (32, 7)) a0 = (4, 0)) (g3 : (va_up (va_up T z.1 (32, 7)) (z.1 + 1) (32, 7)) a0 = (4, 0)) : XR sc d 39 0 [some (.ref a0)] [] (T, z, xv V, J, R) = some (.inl none, ((va_up (va_up T z.1 (32, 7)) (z.1 + 1) (32, 7)), (z.1 + 2, z.2 + 7 + 7), xv (va_up (va_up V z.1 (fun _ => 0)) (z.1 + 1) (fun _ => 0)), (va_up (va_up J z.1 (fun _ => 0)) (z.1 + 1) (fun _ => 0)), (xup2 (va_up (xup2 (va_up R z.1 (fun _ => none)) a0 0 (some z.1)) (z.1 + 1) (fun _ => none)) a0 1 (some (z.1 + 1))))) :=
  (st_aload_n f_39_0 rfl).trans ((st_objinit f_39_1 r_39_3 t_39_3 ⟨g1, Nat.le_of_ble_eq_true rfl⟩).trans ((st_aload_n f_39_4 rfl).trans ((sw_bipush f_39_5 c8_7).trans ((sw_newI 7 f_39_7 ⟨rfl, by decide⟩).trans ((st_putR f_39_9 e_39_9 rfl (Or.inr n_39) g2).trans ((st_aload_n f_39_12 rfl).trans ((sw_bipush f_39_13 c8_7).trans ((sw_newI 7 f_39_15 ⟨rfl, by decide⟩).trans ((st_putR f_39_17 e_39_15 rfl (Or.inr n_39) g3).trans (st_return f_39_20 mr_39))))))))))
theorem eX4_settle {x1 : Int} {a0 : Nat} : X sc (d + 1) 190 [.ref a0, xw x1] (T, z, xv V, J, R) = XR sc d 190 0 [some (.ref a0), some (xw x1)] [] (T, z, xv V, J, R) :=
  (X_eq ⟨jl_190, by rw [mn_190]; rfl, rfl, by rw [lm_190]; exact Nat.le_of_ble_eq_true rfl⟩).trans (by unfold xent; rw [lm_190]; rfl)
theorem bX4_settle_0 {x1 : Int} {a0 : Nat} (g1 : T a0 = (4, 0)) (g2 : R a0 1 = some ((R a0 1).getD 0)) (g3 : T ((R a0 1).getD 0) = (32, (T ((R a0 1).getD 0)).2)) (g4 : (0 : Int) ≤ x1 ∧ x1 < ((T ((R a0 1).getD 0)).2 : Int) ∧ (T ((R a0 1).getD 0)).2 ≤ 3584) : XR sc d 190 0 [some (.ref a0), some (xw x1)] [] (T, z, xv V, J, R) = xret 190 (XR sc d 190) 14 17 [some (.ref a0), some (xw x1)] [xw x1, .ref ((R a0 1).getD 0)] (X sc d 158 [xw 0, xw ((V ((R a0 1).getD 0) x1.toNat) - 1)] (T, z, xv V, J, R)) :=
  (st_aload_n f_190_0 rfl).trans ((st_getR f_190_1 e_190_15 (by decide) g1 g2).trans ((sw_iload_n f_190_4 rfl).trans ((sw_iconst f_190_5).trans ((st_aload_n f_190_6 rfl).trans ((st_getR f_190_7 e_190_15 (by decide) g1 g2).trans ((sw_iload_n f_190_10 rfl).trans ((sw_iaload f_190_11 g3 g4).trans ((sw_iconst f_190_12).trans ((sw_isub f_190_13).trans (st_callS' f_190_14 h_190_18 mn_158 rfl rfl rfl rfl))))))))))
theorem bX4_settle_17 {o0 o1 : Option Value} {y0 y1 : Int} {b2 : Nat} (g1 : T b2 = (32, (T b2).2)) (g2 : (0 : Int) ≤ y1 ∧ y1 < ((T b2).2 : Int) ∧ (T b2).2 ≤ 3584) : XR sc d 190 17 [o0, o1] [xw y0, xw y1, .ref b2] (T, z, xv V, J, R) = some (.inl none, (T, z, xv (xup2 V b2 y1.toNat y0), J, R)) :=
  (sw_iastore f_190_17 g1 g2).trans (st_return f_190_18 mr_190)
end BLK
