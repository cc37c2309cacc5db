/-! cause and rest of Saddletree -/
section SX6d
variable {sc : xS} {d : Nat} {T : Nat → Nat × Nat} {z : Nat × Nat} {V : Nat → Nat → Int} {J : Nat → Nat → Int64} {R : Nat → Nat → Option Nat}
/-- who has the greatest part, from w on -/
def xCa (B : Int → Int) : Nat → Nat → Int → Int → Int
  | 0, _, _, f => f
  | m + 1, w, g, f => if B w ≤ g then xCa B m (w + 1) g f else xCa B m (w + 1) (B w) w
theorem cause_loop {a e s b : Nat} {k by_ : Int} (hO : xHo T R a e s b) (hk : 0 ≤ k ∧ k < 7) (hb : 0 ≤ by_ ∧ by_ ≤ 2) (hV : ∀ j, j < 126 → -2147483648 ≤ V b j ∧ V b j ≤ 2147483647) {o0 o1 : Option Value} :
    ∀ (m w : Nat) (g f : Int) (o8 : Option Value), w + m = 6 → -2147483648 ≤ g ∧ g ≤ 2147483647 →
    XR sc (d + 1) 77 28 [o0, o1, some (xw k), some (xw by_), some (.ref a), some (xw g), some (xw f), some (xw w), o8] [] (T, z, xv V, J, R) = some (.inl (some (xw (xCa (fun who => V b ((k * 3 + by_) * 6 + who).toNat) m w g f))), (T, z, xv V, J, R)) := by
  intro m
  induction m with
  | zero =>
    intro w g f o8 hw hg
    rw [bX6_cause_28 (by omega), if_pos (by omega), bX6_cause_67]; rfl
  | succ m ih =>
    intro w g f o8 hw hg
    have hv := hV ((k * 3 + by_) * 6 + (w : Int)).toNat (by omega)
    rw [bX6_cause_28 (by omega), if_neg (by omega), bX6_cause_35 hO.1, s_blameOf hO hk (by omega) (by omega), if_pos (show 0 ≤ (w : Int) ∧ (w : Int) < 6 by omega), xret_v, bX6_cause_44 hv hg, xCa]
    by_cases c : V b ((k * 3 + by_) * 6 + (w : Int)).toNat ≤ g
    · rw [if_pos c, if_pos c, bX6_cause_61, show (w : Int) + 1 = ((w + 1 : Nat) : Int) by omega, ih (w + 1) _ _ _ (by omega) hg]
    · rw [if_neg c, if_neg c, bX6_cause_53, bX6_cause_61, show (w : Int) + 1 = ((w + 1 : Nat) : Int) by omega, ih (w + 1) _ _ _ (by omega) hv]
theorem s_cause {h k by_ : Int} (hT : xTr T R) (hH : xHs T R) (hV : ∀ j, j < 126 → -2147483648 ≤ V (13 + 4 * h.toNat) j ∧ V (13 + 4 * h.toNat) j ≤ 2147483647) (hh : -2147483648 ≤ h ∧ h ≤ 2147483647) (hk : -2147483648 ≤ k ∧ k ≤ 2147483647) (hb : -2147483648 ≤ by_ ∧ by_ ≤ 2147483647) :
    X sc (d + 8) 77 [.ref 0, xw h, xw k, xw by_] (T, z, xv V, J, R) =
      if (0 ≤ h ∧ h < 6) ∧ (0 ≤ k ∧ k < 7) then (if 0 ≤ by_ ∧ by_ ≤ 2 then some (.inl (some (xw (xCa (fun who => V (13 + 4 * h.toNat) ((k * 3 + by_) * 6 + who).toNat) 6 0 0 (-1)))), (T, z, xv V, J, R)) else xTw 8 T z V J R) else xTw 10 T z V J R := by
  rw [eX6_cause, bX6_cause_0 hT.1, s_horse hT hH hh]
  by_cases c : 0 ≤ h ∧ h < 6
  · have h0 := (hH h.toNat (by omega)).2
    rw [if_pos c, xret_v, bX6_cause_5, s_checkIndex hk (by decide)]
    by_cases c2 : 0 ≤ k ∧ k < 7
    · rw [if_pos c2, xret_n, bX6_cause_13, s_checkArgument hb (by decide) (by decide), if_pos (And.intro c c2)]
      by_cases c3 : 0 ≤ by_ ∧ by_ ≤ 2
      · rw [if_pos c3, if_pos c3, xret_n, bX6_cause_19]
        exact cause_loop (d := d + 6) h0 c2 c3 hV 6 0 0 (-1) _ rfl (by decide)
      · rw [if_neg c3, if_neg c3, xret_w w_77]
    · rw [if_neg c2, xret_w w_77, if_neg (fun q => c2 q.2)]
  · rw [if_neg c, xret_w w_77, if_neg (fun q => c q.1)]
/-- the horses from k on heal; how many of them are lame then -/
def xRv (am : Int) : Nat → Nat → (Nat → Nat → Int) → (Nat → Nat → Int)
  | 0, _, V => V
  | m + 1, k, V => xRv am m (k + 1) (xHe V (12 + 4 * k) am 0)
def xRn (am : Int) : Nat → Nat → (Nat → Nat → Int) → Int → Int
  | 0, _, _, n => n
  | m + 1, k, V, n => xRn am m (k + 1) (xHe V (12 + 4 * k) am 0) (n + xB (xLa (xHe V (12 + 4 * k) am 0) (12 + 4 * k) 7 0))
theorem xHe_in {am : Int} {s : Nat} (ha : 0 ≤ am) {b j : Nat} (hV : 0 ≤ V b j ∧ V b j ≤ 2147483647) : 0 ≤ xHe V s am 0 b j ∧ xHe V s am 0 b j ≤ 2147483647 := by
  unfold xHe
  split
  · next q => rw [← q.1]; omega
  · exact hV
theorem rest_loop {dy : Int} (hT9 : T 9 = (42, 6)) (hH : xHs T R) (hd : 1 ≤ dy ∧ dy ≤ 100) {o0 : Option Value} :
    ∀ (m k : Nat) (n : Int) (V : Nat → Nat → Int) (o6 : Option Value), k + m = 6 → (∀ h j, h < 6 → j < 7 → 0 ≤ V (12 + 4 * h) j ∧ V (12 + 4 * h) j ≤ 2147483647) →
    XR sc (d + 2) 74 21 [o0, some (xw dy), some (xw n), some (.ref 9), some (xw 6), some (xw k), o6] [] (T, z, xv V, J, R) = some (.inl (some (xw (xRn (dy * 10) m k V n))), (T, z, xv (xRv (dy * 10) m k V), J, R)) := by
  intro m
  induction m with
  | zero =>
    intro k n V o6 hk hV
    rw [bX6_rest_21 (by omega) (by decide), if_pos (by omega), bX6_rest_70]; rfl
  | succ m ih =>
    intro k n V o6 hk hV
    obtain ⟨hr, hO⟩ := hH k (by omega)
    have h1 := fun j hj => hV k j (by omega) hj
    have hV' : ∀ h j, h < 6 → j < 7 → 0 ≤ xHe V (12 + 4 * k) (dy * 10) 0 (12 + 4 * h) j ∧ xHe V (12 + 4 * k) (dy * 10) 0 (12 + 4 * h) j ≤ 2147483647 := fun h j a b => xHe_in (by omega) (hV h j a b)
    have hl := s_isLame (sc := sc) (d := d + 1) (z := z) (V := xHe V (12 + 4 * k) (dy * 10) 0) (J := J) hO (fun j hj => by have := hV' k j (by omega) hj; omega)
    rw [bX6_rest_21 (by omega) (by decide), if_neg (by omega), bX6_rest_28rr (by rw [hT9]) (by rw [hT9]; decide) (by rw [hT9]; omega) (by rw [Int.toNat_natCast, hr]; rfl), Int.toNat_natCast, hr, Option.getD_some, bX6_rest_39r hO.1, s_heal hO (by omega) h1, xret_n, bX6_rest_48r hO.1, hl, xret_v, bX6_rest_54 (xB_in _), xRn, xRv]
    cases xLa (xHe V (12 + 4 * k) (dy * 10) 0) (12 + 4 * k) 7 0
    · rw [if_pos (show xB false = 0 from rfl), bX6_rest_61, bX6_rest_62, bX6_rest_64, show (k : Int) + 1 = ((k + 1 : Nat) : Int) by omega, ih (k + 1) _ _ _ (by omega) hV']
      rfl
    · rw [if_neg (show ¬ xB true = 0 by decide), bX6_rest_57, bX6_rest_62, bX6_rest_64, show (k : Int) + 1 = ((k + 1 : Nat) : Int) by omega, ih (k + 1) _ _ _ (by omega) hV']
      rfl
theorem s_rest {dy : Int} (hT : xTr T R) (hH : xHs T R) (hV : ∀ h j, h < 6 → j < 7 → 0 ≤ V (12 + 4 * h) j ∧ V (12 + 4 * h) j ≤ 2147483647) (hd : -2147483648 ≤ dy ∧ dy ≤ 2147483647) :
    X sc (d + 8) 74 [.ref 0, xw dy] (T, z, xv V, J, R) =
      if 1 ≤ dy ∧ dy ≤ 100 then some (.inl (some (xw (xRn (dy * 10) 6 0 V 0))), (T, z, xv (xRv (dy * 10) 6 0 V), J, R)) else xTw 8 T z V J R := by
  have r5 : R 0 5 = some 9 := hT.2.2.2.2.1
  have t9 : T 9 = (42, 6) := hT.2.2.2.2.2.2.2.2.2.1
  have e : (R 0 5).getD 0 = 9 := by rw [r5]; rfl
  rw [eX6_rest, bX6_rest_0, s_checkArgument hd (by decide) (by decide)]
  by_cases c : 1 ≤ dy ∧ dy ≤ 100
  · rw [if_pos c, if_pos c, xret_n, bX6_rest_7r hT.1 (rgd r5) rfl (lgd r5 t9 (by decide)), e, t9]
    exact rest_loop (d := d + 5) t9 hH c 6 0 0 V _ rfl hV
  · rw [if_neg c, if_neg c, xret_w w_74]
end SX6d
