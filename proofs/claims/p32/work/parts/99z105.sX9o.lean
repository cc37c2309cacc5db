/-! the law's start: both objects -/
def i0 {α : Type} (x : α) : Nat → Nat → α := fun _ _ => x
theorem i0_va {α : Type} {x : α} {n : Nat} : va_up (i0 x) n (fun _ => x) = i0 x := by
  funext b j; unfold va_up i0; split <;> rfl
section SX9o
variable {sc : xS} {d : Nat} {T : Nat → Nat × Nat} {n u : Nat} {J : Nat → Nat → Int64} {R : Nat → Nat → Option Nat}
theorem st_horse {k : Int} {g : Nat} (hd : 1 ≤ d) (h0 : T 0 = (7, 0)) (h5 : R 0 5 = some g) (hg : T g = (42, 6)) (hk : 0 ≤ k ∧ k < 6) (hn : 0 < n ∧ g < n) :
    XR sc (d + 1) 49 50 [some (.ref 0), some (xw k)] [] (T, (n, u), xv (i0 0), i0 0, R) = XR sc (d + 1) 49 44 [some (.ref 0), some (xw (k + 1))] [] (va_up (va_up (va_up (va_up T n (3, 0)) (n + 1) (32, 7)) (n + 2) (32, 7)) (n + 3) (32, 126), (n + 4, u + 143), xv (i0 0), i0 0,
      xup2 (xup2 (va_up (xup2 (va_up (xup2 (va_up (va_up R n (fun _ => none)) (n + 1) (fun _ => none)) n 0 (some (n + 1))) (n + 2) (fun _ => none)) n 1 (some (n + 2))) (n + 3) (fun _ => none)) n 2 (some (n + 3))) g k.toNat (some n)) := by
  have e : (R 0 5).getD 0 = g := by rw [h5]; rfl
  rw [bX6_init_50 h0 (rgd h5) va_same, e, eX1_init, bX1_init_0 hd (by show va_up (va_up T n (3, 0)) (n + 1) (32, 7) n = _; rw [va_ne (by omega), va_same]) (by show va_up (va_up (va_up T n (3, 0)) (n + 1) (32, 7)) (n + 1 + 1) (32, 7) n = _; rw [va_ne (by omega), va_ne (by omega), va_same]) (by show va_up (va_up (va_up (va_up T n (3, 0)) (n + 1) (32, 7)) (n + 1 + 1) (32, 7)) (n + 1 + 2) (32, 126) n = _; rw [va_ne (by omega), va_ne (by omega), va_ne (by omega), va_same]), xret_n]
  have eg : va_up (va_up (va_up (va_up T n (3, 0)) (n + 1) (32, 7)) (n + 1 + 1) (32, 7)) (n + 1 + 2) (32, 126) g = (42, 6) := by rw [va_ne (by omega), va_ne (by omega), va_ne (by omega), va_ne (by omega), hg]
  rw [bX6_init_62 (by show va_up (va_up (va_up (va_up T n (3, 0)) (n + 1) (32, 7)) (n + 1 + 1) (32, 7)) (n + 1 + 2) (32, 126) g = (42, (va_up (va_up (va_up (va_up T n (3, 0)) (n + 1) (32, 7)) (n + 1 + 1) (32, 7)) (n + 1 + 2) (32, 126) g).2); rw [eg]) (by show 0 ≤ k ∧ k < (((va_up (va_up (va_up (va_up T n (3, 0)) (n + 1) (32, 7)) (n + 1 + 1) (32, 7)) (n + 1 + 2) (32, 126) g).2 : Nat) : Int) ∧ _ ≤ 3584; rw [eg]; exact ⟨hk.1, hk.2, by decide⟩) (by show n < n + 1 + 3; omega) (by show va_up (va_up (va_up (va_up T n (3, 0)) (n + 1) (32, 7)) (n + 1 + 1) (32, 7)) (n + 1 + 2) (32, 126) n = _; rw [va_ne (by omega), va_ne (by omega), va_ne (by omega), va_same])]
  simp only [i0_va]
theorem st_saddle {k : Int} {g : Nat} (hd : 1 ≤ d) (h0 : T 0 = (7, 0)) (h6 : R 0 6 = some g) (hg : T g = (43, 6)) (hk : 0 ≤ k ∧ k < 6) (hn : 0 < n ∧ g < n) :
    XR sc (d + 1) 49 86 [some (.ref 0), some (xw k)] [] (T, (n, u), xv (i0 0), i0 0, R) = XR sc (d + 1) 49 80 [some (.ref 0), some (xw (k + 1))] [] (va_up (va_up (va_up T n (4, 0)) (n + 1) (32, 7)) (n + 2) (32, 7), (n + 3, u + 16), xv (i0 0), i0 0,
      xup2 (xup2 (va_up (xup2 (va_up (va_up R n (fun _ => none)) (n + 1) (fun _ => none)) n 0 (some (n + 1))) (n + 2) (fun _ => none)) n 1 (some (n + 2))) g k.toNat (some n)) := by
  have e : (R 0 6).getD 0 = g := by rw [h6]; rfl
  rw [bX6_init_86 h0 (rgd h6) va_same, e, eX4_init, bX4_init_0 hd (by show va_up (va_up T n (4, 0)) (n + 1) (32, 7) n = _; rw [va_ne (by omega), va_same]) (by show va_up (va_up (va_up T n (4, 0)) (n + 1) (32, 7)) (n + 1 + 1) (32, 7) n = _; rw [va_ne (by omega), va_ne (by omega), va_same]), xret_n]
  have eg : va_up (va_up (va_up T n (4, 0)) (n + 1) (32, 7)) (n + 1 + 1) (32, 7) g = (43, 6) := by rw [va_ne (by omega), va_ne (by omega), va_ne (by omega), hg]
  rw [bX6_init_98 (by show va_up (va_up (va_up T n (4, 0)) (n + 1) (32, 7)) (n + 1 + 1) (32, 7) g = (43, (va_up (va_up (va_up T n (4, 0)) (n + 1) (32, 7)) (n + 1 + 1) (32, 7) g).2); rw [eg]) (by show 0 ≤ k ∧ k < (((va_up (va_up (va_up T n (4, 0)) (n + 1) (32, 7)) (n + 1 + 1) (32, 7) g).2 : Nat) : Int) ∧ _ ≤ 3584; rw [eg]; exact ⟨hk.1, hk.2, by decide⟩) (by show n < n + 1 + 2; omega) (by show va_up (va_up (va_up T n (4, 0)) (n + 1) (32, 7)) (n + 1 + 1) (32, 7) n = _; rw [va_ne (by omega), va_ne (by omega), va_same])]
  simp only [i0_va]
end SX9o
