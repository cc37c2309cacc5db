/-! instructions, by program (gen2.py) -/
set_option maxRecDepth 100000 in
theorem f_157_0 : xft 157 0 = some (.iload_n 0) := by decide +kernel
set_option maxRecDepth 100000 in
theorem f_157_1 : xft 157 1 = some (.iload_n 1) := by decide +kernel
set_option maxRecDepth 100000 in
theorem f_157_2 : xft 157 2 = some (.idiv) := by decide +kernel
set_option maxRecDepth 100000 in
theorem f_157_3 : xft 157 3 = some (.istore_n 2) := by decide +kernel
set_option maxRecDepth 100000 in
theorem f_157_4 : xft 157 4 = some (.iload_n 0) := by decide +kernel
set_option maxRecDepth 100000 in
theorem f_157_5 : xft 157 5 = some (.iload_n 1) := by decide +kernel
set_option maxRecDepth 100000 in
theorem f_157_6 : xft 157 6 = some (.ixor) := by decide +kernel
set_option maxRecDepth 100000 in
theorem f_157_7 : xft 157 7 = some (.ifCond .ge 14) := by decide +kernel
set_option maxRecDepth 100000 in
theorem f_157_10 : xft 157 10 = some (.iload_n 2) := by decide +kernel
set_option maxRecDepth 100000 in
theorem f_157_11 : xft 157 11 = some (.iload_n 1) := by decide +kernel
set_option maxRecDepth 100000 in
theorem f_157_12 : xft 157 12 = some (.imul) := by decide +kernel
set_option maxRecDepth 100000 in
theorem f_157_13 : xft 157 13 = some (.iload_n 0) := by decide +kernel
set_option maxRecDepth 100000 in
theorem f_157_14 : xft 157 14 = some (.if_icmp .eq 7) := by decide +kernel
set_option maxRecDepth 100000 in
theorem f_157_17 : xft 157 17 = some (.iload_n 2) := by decide +kernel
set_option maxRecDepth 100000 in
theorem f_157_18 : xft 157 18 = some (.iconst 1) := by decide +kernel
set_option maxRecDepth 100000 in
theorem f_157_19 : xft 157 19 = some (.isub) := by decide +kernel
set_option maxRecDepth 100000 in
theorem f_157_20 : xft 157 20 = some (.ireturn) := by decide +kernel
set_option maxRecDepth 100000 in
theorem f_157_21 : xft 157 21 = some (.iload_n 2) := by decide +kernel
set_option maxRecDepth 100000 in
theorem f_157_22 : xft 157 22 = some (.ireturn) := by decide +kernel
set_option maxRecDepth 100000 in
theorem f_158_0 : xft 158 0 = some (.iload_n 0) := by decide +kernel
set_option maxRecDepth 100000 in
theorem f_158_1 : xft 158 1 = some (.iload_n 1) := by decide +kernel
set_option maxRecDepth 100000 in
theorem f_158_2 : xft 158 2 = some (.if_icmp .lt 7) := by decide +kernel
set_option maxRecDepth 100000 in
theorem f_158_5 : xft 158 5 = some (.iload_n 0) := by decide +kernel
set_option maxRecDepth 100000 in
theorem f_158_6 : xft 158 6 = some (.goto 4) := by decide +kernel
set_option maxRecDepth 100000 in
theorem f_158_9 : xft 158 9 = some (.iload_n 1) := by decide +kernel
set_option maxRecDepth 100000 in
theorem f_158_10 : xft 158 10 = some (.ireturn) := by decide +kernel
set_option maxRecDepth 100000 in
theorem f_159_0 : xft 159 0 = some (.iload_n 0) := by decide +kernel
set_option maxRecDepth 100000 in
theorem f_159_1 : xft 159 1 = some (.iload_n 1) := by decide +kernel
set_option maxRecDepth 100000 in
theorem f_159_2 : xft 159 2 = some (.if_icmp .gt 7) := by decide +kernel
set_option maxRecDepth 100000 in
theorem f_159_5 : xft 159 5 = some (.iload_n 0) := by decide +kernel
set_option maxRecDepth 100000 in
theorem f_159_6 : xft 159 6 = some (.goto 4) := by decide +kernel
set_option maxRecDepth 100000 in
theorem f_159_9 : xft 159 9 = some (.iload_n 1) := by decide +kernel
set_option maxRecDepth 100000 in
theorem f_159_10 : xft 159 10 = some (.ireturn) := by decide +kernel
/-! blocks, by program (gen2.py) -/
section BLK
variable {sc : xS} {d : Nat} {T : Nat → Nat × Nat} {z : Nat × Nat} {V : Nat → Nat → Int} {J : Nat → Nat → Int64} {R : Nat → Nat → Option Nat}
theorem eJ9_floorDiv_7cf53 {x0 x1 : Int} : X sc (d + 1) 157 [xw x0, xw x1] (T, z, xv V, J, R) = XR sc d 157 0 [some (xw x0), some (xw x1), none] [] (T, z, xv V, J, R) :=
  (X_eq ⟨jl_157, by rw [mn_157]; rfl, rfl, by rw [lm_157]; exact Nat.le_of_ble_eq_true rfl⟩).trans (by unfold xent; rw [lm_157]; rfl)
theorem bJ9_floorDiv_7cf53_0 {o2 : Option Value} {x0 x1 : Int} (g1 : ¬ x1 = 0 ∧ ¬ (x0 = -2147483648 ∧ x1 = -1) ∧ (-2147483648 ≤ x0 ∧ x0 ≤ 2147483647) ∧ -2147483648 ≤ x1 ∧ x1 ≤ 2147483647) (g2 : -2147483648 ≤ (iXor x0 x1) ∧ (iXor x0 x1) ≤ 2147483647) : XR sc d 157 0 [some (xw x0), some (xw x1), o2] [] (T, z, xv V, J, R) = if 0 ≤ (iXor x0 x1) then XR sc d 157 21 [some (xw x0), some (xw x1), some (xw (x0.tdiv x1))] [] (T, z, xv V, J, R) else XR sc d 157 10 [some (xw x0), some (xw x1), some (xw (x0.tdiv x1))] [] (T, z, xv V, J, R) :=
  (sw_iload_n f_157_0 rfl).trans ((sw_iload_n f_157_1 rfl).trans ((sw_idivT f_157_2 g1).trans ((sw_istore_n (L' := [some (xw x0), some (xw x1), some (xw (x0.tdiv x1))]) f_157_3 (Nat.le_of_ble_eq_true rfl) rfl).trans ((sw_iload_n f_157_4 rfl).trans ((sw_iload_n f_157_5 rfl).trans ((sw_ixor f_157_6).trans (sw_if_ge (t := 21) f_157_7 ⟨by decide, rfl⟩ g2)))))))
theorem bJ9_floorDiv_7cf53_10 {x2 x1 x0 : Int} (g1 : -2147483648 ≤ (x2 * x1) ∧ (x2 * x1) ≤ 2147483647) (g2 : -2147483648 ≤ x0 ∧ x0 ≤ 2147483647) : XR sc d 157 10 [some (xw x0), some (xw x1), some (xw x2)] [] (T, z, xv V, J, R) = if (x2 * x1) = x0 then XR sc d 157 21 [some (xw x0), some (xw x1), some (xw x2)] [] (T, z, xv V, J, R) else XR sc d 157 17 [some (xw x0), some (xw x1), some (xw x2)] [] (T, z, xv V, J, R) :=
  (sw_iload_n f_157_10 rfl).trans ((sw_iload_n f_157_11 rfl).trans ((sw_imul f_157_12).trans ((sw_iload_n f_157_13 rfl).trans (sw_icmp_eq (t := 21) f_157_14 ⟨by decide, rfl⟩ g1 g2))))
theorem bJ9_floorDiv_7cf53_17 {o0 o1 : Option Value} {x2 : Int} : XR sc d 157 17 [o0, o1, some (xw x2)] [] (T, z, xv V, J, R) = some (.inl (some (xw (x2 - 1))), (T, z, xv V, J, R)) :=
  (sw_iload_n f_157_17 rfl).trans ((sw_iconst f_157_18).trans ((sw_isub f_157_19).trans (sw_ireturn f_157_20 mr_157)))
theorem bJ9_floorDiv_7cf53_21 {o0 o1 : Option Value} {x2 : Int} : XR sc d 157 21 [o0, o1, some (xw x2)] [] (T, z, xv V, J, R) = some (.inl (some (xw x2)), (T, z, xv V, J, R)) :=
  (sw_iload_n f_157_21 rfl).trans (sw_ireturn f_157_22 mr_157)
theorem eJ9_max_7cf53 {x0 x1 : Int} : X sc (d + 1) 158 [xw x0, xw x1] (T, z, xv V, J, R) = XR sc d 158 0 [some (xw x0), some (xw x1)] [] (T, z, xv V, J, R) :=
  (X_eq ⟨jl_158, by rw [mn_158]; rfl, rfl, by rw [lm_158]; exact Nat.le_of_ble_eq_true rfl⟩).trans (by unfold xent; rw [lm_158]; rfl)
theorem bJ9_max_7cf53_0 {x0 x1 : Int} (g1 : -2147483648 ≤ x0 ∧ x0 ≤ 2147483647) (g2 : -2147483648 ≤ x1 ∧ x1 ≤ 2147483647) : XR sc d 158 0 [some (xw x0), some (xw x1)] [] (T, z, xv V, J, R) = if x0 < x1 then XR sc d 158 9 [some (xw x0), some (xw x1)] [] (T, z, xv V, J, R) else XR sc d 158 5 [some (xw x0), some (xw x1)] [] (T, z, xv V, J, R) :=
  (sw_iload_n f_158_0 rfl).trans ((sw_iload_n f_158_1 rfl).trans (sw_icmp_lt (t := 9) f_158_2 ⟨by decide, rfl⟩ g1 g2))
theorem bJ9_max_7cf53_5 {o1 : Option Value} {x0 : Int} : XR sc d 158 5 [some (xw x0), o1] [] (T, z, xv V, J, R) = XR sc d 158 10 [some (xw x0), o1] [xw x0] (T, z, xv V, J, R) :=
  (sw_iload_n f_158_5 rfl).trans (st_goto (t := 10) f_158_6 ⟨by decide, rfl⟩)
theorem bJ9_max_7cf53_9 {o0 : Option Value} {x1 : Int} : XR sc d 158 9 [o0, some (xw x1)] [] (T, z, xv V, J, R) = XR sc d 158 10 [o0, some (xw x1)] [xw x1] (T, z, xv V, J, R) :=
  sw_iload_n f_158_9 rfl
theorem bJ9_max_7cf53_10 {o0 o1 : Option Value} {y0 : Int} : XR sc d 158 10 [o0, o1] [xw y0] (T, z, xv V, J, R) = some (.inl (some (xw y0)), (T, z, xv V, J, R)) :=
  sw_ireturn f_158_10 mr_158
theorem eJ9_min_7cf53 {x0 x1 : Int} : X sc (d + 1) 159 [xw x0, xw x1] (T, z, xv V, J, R) = XR sc d 159 0 [some (xw x0), some (xw x1)] [] (T, z, xv V, J, R) :=
  (X_eq ⟨jl_159, by rw [mn_159]; rfl, rfl, by rw [lm_159]; exact Nat.le_of_ble_eq_true rfl⟩).trans (by unfold xent; rw [lm_159]; rfl)
theorem bJ9_min_7cf53_0 {x0 x1 : Int} (g1 : -2147483648 ≤ x0 ∧ x0 ≤ 2147483647) (g2 : -2147483648 ≤ x1 ∧ x1 ≤ 2147483647) : XR sc d 159 0 [some (xw x0), some (xw x1)] [] (T, z, xv V, J, R) = if x1 < x0 then XR sc d 159 9 [some (xw x0), some (xw x1)] [] (T, z, xv V, J, R) else XR sc d 159 5 [some (xw x0), some (xw x1)] [] (T, z, xv V, J, R) :=
  (sw_iload_n f_159_0 rfl).trans ((sw_iload_n f_159_1 rfl).trans (sw_icmp_gt (t := 9) f_159_2 ⟨by decide, rfl⟩ g1 g2))
theorem bJ9_min_7cf53_5 {o1 : Option Value} {x0 : Int} : XR sc d 159 5 [some (xw x0), o1] [] (T, z, xv V, J, R) = XR sc d 159 10 [some (xw x0), o1] [xw x0] (T, z, xv V, J, R) :=
  (sw_iload_n f_159_5 rfl).trans (st_goto (t := 10) f_159_6 ⟨by decide, rfl⟩)
theorem bJ9_min_7cf53_9 {o0 : Option Value} {x1 : Int} : XR sc d 159 9 [o0, some (xw x1)] [] (T, z, xv V, J, R) = XR sc d 159 10 [o0, some (xw x1)] [xw x1] (T, z, xv V, J, R) :=
  sw_iload_n f_159_9 rfl
theorem bJ9_min_7cf53_10 {o0 o1 : Option Value} {y0 : Int} : XR sc d 159 10 [o0, o1] [xw y0] (T, z, xv V, J, R) = some (.inl (some (xw y0)), (T, z, xv V, J, R)) :=
  sw_ireturn f_159_10 mr_159
end BLK
