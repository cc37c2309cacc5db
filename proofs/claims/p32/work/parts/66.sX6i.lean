/-! hide and pierce of Saddletree -/
section SX6i
variable {sc : xS} {d : Nat} {T : Nat → Nat × Nat} {z : Nat × Nat} {V : Nat → Nat → Int} {J : Nat → Nat → Int64} {R : Nat → Nat → Option Nat}
/-- the ints behind a new hide -/
def xHV (V : Nat → Nat → Int) (n : Nat) (t : Int) : Nat → Nat → Int := va_up (xup2 (va_up V n (fun _ => 0)) n 0 t) (n + 1) (fun _ => 0)
def xHT (T : Nat → Nat × Nat) (n : Nat) : Nat → Nat × Nat := va_up (va_up T n (1, 0)) (n + 1) (33, 96)
def xHR (R : Nat → Nat → Option Nat) (n : Nat) : Nat → Nat → Option Nat := xup2 (va_up (va_up R n (fun _ => none)) (n + 1) (fun _ => none)) n 1 (some (n + 1))
def xHJ (J : Nat → Nat → Int64) (n : Nat) : Nat → Nat → Int64 := va_up (va_up J n (fun _ => 0)) (n + 1) (fun _ => 0)
theorem s_hide {t : Int} (hT : xTr T R) (hz : 60 ≤ z.1) (ht : -2147483648 ≤ t ∧ t ≤ 2147483647) (h1 : 0 ≤ V 0 1 ∧ V 0 1 ≤ 8) :
    X sc (d + 8) 50 [.ref 0, xw t] (T, z, xv V, J, R) = if 2 ≤ t ∧ t ≤ 9 then (if V 0 1 < 8 then some (.inl (some (xw (V 0 1))), (xHT T z.1, (z.1 + 1 + 1, z.2 + 2 + 96), xv (xup2 (xHV V z.1 t) 0 1 (V 0 1 + 1)), xHJ J z.1, xup2 (xHR R z.1) 1 (V 0 1).toNat (some z.1))) else xTw 9 T z V J R) else xTw 8 T z V J R := by
  have r0 : R 0 0 = some 1 := hT.2.1
  have e : (R 0 0).getD 0 = 1 := by rw [r0]; rfl
  rw [eX6_hide, bX6_hide_0, s_checkArgument ht (by decide) (by decide)]
  by_cases c : 2 ≤ t ∧ t ≤ 9
  · rw [if_pos c, if_pos c, xret_n, bX6_hide_7 hT.1 (by omega)]
    by_cases c2 : V 0 1 < 8
    · have v01 : xHV V z.1 t 0 1 = V 0 1 := by
        unfold xHV
        rw [va_ne (by omega), up2_va, va_ne (by omega), va_ne (by omega)]
      have k : XR sc (d + 7) 50 44 [some (.ref 0), some (xw t), some (xw (V 0 1))] [.ref z.1, xw (V 0 1), .ref 1] (xHT T z.1, (z.1 + 1 + 1, z.2 + 2 + 96), xv (xHV V z.1 t), xHJ J z.1, xHR R z.1) = some (.inl (some (xw (V 0 1))), (xHT T z.1, (z.1 + 1 + 1, z.2 + 2 + 96), xv (xup2 (xHV V z.1 t) 0 1 (V 0 1 + 1)), xHJ J z.1, xup2 (xHR R z.1) 1 (V 0 1).toNat (some z.1))) := by
        have t1 : xHT T z.1 1 = (40, 8) := by unfold xHT; rw [va_ne (by omega), va_ne (by omega)]; exact hT.2.2.2.2.2.2.2.1
        have t0 : xHT T z.1 0 = (7, 0) := by unfold xHT; rw [va_ne (by omega), va_ne (by omega)]; exact hT.1
        have tz : xHT T z.1 z.1 = (1, 0) := by unfold xHT; rw [va_ne (by omega), va_same]
        rw [bX6_hide_44 (by rw [t1]) (by rw [t1]; omega) (by show z.1 < z.1 + 1 + 1; omega) tz t0, v01]
      rw [if_pos c2, if_pos c2, bX6_hide_26 hT.1 (rgd r0) va_same, e, eX0_init, bX0_init_0 (by omega) va_same (by rw [va_ne (by omega), va_same]), xret_n]
      exact k
    · rw [if_neg c2, if_neg c2, bX6_hide_16 (by omega)]; rfl
  · rw [if_neg c, if_neg c, xret_w (by decide +kernel)]
end SX6i
