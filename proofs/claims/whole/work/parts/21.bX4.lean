/-! instructions, by program (gen2.py) -/
set_option maxRecDepth 100000 in
theorem f_39_0 : xft 39 0 = some (.aload_n 0) := by decide +kernel
set_option maxRecDepth 100000 in
theorem f_39_1 : xft 39 1 = some (.invokespecial 3) := by decide +kernel
set_option maxRecDepth 100000 in
theorem f_39_4 : xft 39 4 = some (.aload_n 0) := by decide +kernel
set_option maxRecDepth 100000 in
theorem f_39_5 : xft 39 5 = some (.bipush 7) := by decide +kernel
set_option maxRecDepth 100000 in
theorem f_39_7 : xft 39 7 = some (.newarray .int) := by decide +kernel
set_option maxRecDepth 100000 in
theorem f_39_9 : xft 39 9 = some (.putfield 9) := by decide +kernel
set_option maxRecDepth 100000 in
theorem f_39_12 : xft 39 12 = some (.aload_n 0) := by decide +kernel
set_option maxRecDepth 100000 in
theorem f_39_13 : xft 39 13 = some (.bipush 7) := by decide +kernel
set_option maxRecDepth 100000 in
theorem f_39_15 : xft 39 15 = some (.newarray .int) := by decide +kernel
set_option maxRecDepth 100000 in
theorem f_39_17 : xft 39 17 = some (.putfield 15) := by decide +kernel
set_option maxRecDepth 100000 in
theorem f_39_20 : xft 39 20 = some (.return_) := by decide +kernel
/-! blocks, by program (gen2.py) -/
section BLK
variable {sc : xS} {d : Nat} {T : Nat → Nat × Nat} {z : Nat × Nat} {V : Nat → Nat → Int} {J : Nat → Nat → Int64} {R : Nat → Nat → Option Nat}
theorem eX4_init {a0 : Nat} : X sc (d + 1) 39 [.ref a0] (T, z, xv V, J, R) = XR sc d 39 0 [some (.ref a0)] [] (T, z, xv V, J, R) :=
  (X_eq ⟨jl_39, by rw [mn_39]; rfl, rfl, by rw [lm_39]; exact Nat.le_of_ble_eq_true rfl⟩).trans (by unfold xent; rw [lm_39]; rfl)
theorem bX4_init_0 {a0 : Nat} (g1 : 1 ≤ d) (g2 : (va_up T z.1 (32, 7)) a0 = (4, 0)) (g3 : (va_up (va_up T z.1 (32, 7)) (z.1 + 1) (32, 7)) a0 = (4, 0)) : XR sc d 39 0 [some (.ref a0)] [] (T, z, xv V, J, R) = some (.inl none, ((va_up (va_up T z.1 (32, 7)) (z.1 + 1) (32, 7)), (z.1 + 2, z.2 + 7 + 7), xv (va_up (va_up V z.1 (fun _ => 0)) (z.1 + 1) (fun _ => 0)), (va_up (va_up J z.1 (fun _ => 0)) (z.1 + 1) (fun _ => 0)), (xup2 (va_up (xup2 (va_up R z.1 (fun _ => none)) a0 0 (some z.1)) (z.1 + 1) (fun _ => none)) a0 1 (some (z.1 + 1))))) :=
  (st_aload_n f_39_0 rfl).trans ((st_objinit f_39_1 r_39_3 t_39_3 ⟨g1, Nat.le_of_ble_eq_true rfl⟩).trans ((st_aload_n f_39_4 rfl).trans ((sw_bipush f_39_5 c8_7).trans ((sw_newI 7 f_39_7 ⟨rfl, by decide⟩).trans ((st_putR f_39_9 e_39_9 rfl (Or.inr n_39) g2).trans ((st_aload_n f_39_12 rfl).trans ((sw_bipush f_39_13 c8_7).trans ((sw_newI 7 f_39_15 ⟨rfl, by decide⟩).trans ((st_putR f_39_17 e_39_15 rfl (Or.inr n_39) g3).trans (st_return f_39_20 mr_39))))))))))
end BLK
