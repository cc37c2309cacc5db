/-! the property's law: its arrays, its small methods -/
/-- the law's arrays: hides and squares, parts, wears, holes, straps, backs trees flocks sores, shares, counts -/
def pAr (T : Nat → Nat × Nat) : Prop := T 56 = (32, 19) ∧ T 57 = (32, 11) ∧ T 58 = (32, 11) ∧ T 59 = (32, 11) ∧ T 60 = (32, 11) ∧ T 61 = (32, 57) ∧ T 62 = (32, 56) ∧ T 63 = (32, 3)
theorem pA56 {T : Nat → Nat × Nat} (h : pAr T) : T 56 = (32, 19) := h.1
theorem pA57 {T : Nat → Nat × Nat} (h : pAr T) : T 57 = (32, 11) := h.2.1
theorem pA58 {T : Nat → Nat × Nat} (h : pAr T) : T 58 = (32, 11) := h.2.2.1
theorem pA59 {T : Nat → Nat × Nat} (h : pAr T) : T 59 = (32, 11) := h.2.2.2.1
theorem pA60 {T : Nat → Nat × Nat} (h : pAr T) : T 60 = (32, 11) := h.2.2.2.2.1
theorem pA61 {T : Nat → Nat × Nat} (h : pAr T) : T 61 = (32, 57) := h.2.2.2.2.2.1
theorem pA62 {T : Nat → Nat × Nat} (h : pAr T) : T 62 = (32, 56) := h.2.2.2.2.2.2.1
theorem pA63 {T : Nat → Nat × Nat} (h : pAr T) : T 63 = (32, 3) := h.2.2.2.2.2.2.2
theorem iAnd_nn (y : Int) : 0 ≤ iAnd y 2147483647 := by
  have h : decide (iAnd y 2147483647 < 0) = false := by
    unfold iAnd
    have hw : ∀ w : Int32, decide (w.toInt < 0) = w.toBitVec.msb := by
      intro w
      rw [BitVec.msb_eq_toInt]; rfl
    rw [hw, Int32.toBitVec_and, BitVec.msb_and, show (Int32.ofInt 2147483647).toBitVec.msb = false by decide +kernel, Bool.and_false]
  have := of_decide_eq_false h
  omega
/-- how many of m bits from k on are set -/
def pMn (v : Int) : Nat → Nat → Int
  | 0, _ => 0
  | m + 1, k => (if iBt v k = true then 1 else 0) + pMn v m (k + 1)
theorem pMn_in {v : Int} : ∀ m k, 0 ≤ pMn v m k ∧ pMn v m k ≤ m := by
  intro m
  induction m with
  | zero => intro k; exact ⟨Int.le_refl _, Int.le_refl _⟩
  | succ m ih =>
    intro k
    have := ih (k + 1)
    rw [pMn]
    split <;> omega
/-- a part's strength: packed numbers, wear, holes -/
def pSt (p w k : Int) : Int := max 0 ((if k = 0 then 10 * (p / 16 % 16) * (p / 256 % 16) else 10 * (p / 16 % 16) * (p / 256 % 16) * 3 / 4) - w)
/-- how many of m gaps from k on are dp at most -/
def pLe (G : Nat → Int) (dp : Int) : Nat → Nat → Int
  | 0, _ => 0
  | m + 1, k => (if G k ≤ dp then 1 else 0) + pLe G dp m (k + 1)
theorem pLe_in {G : Nat → Int} {dp : Int} : ∀ m k, 0 ≤ pLe G dp m k ∧ pLe G dp m k ≤ m := by
  intro m
  induction m with
  | zero => intro k; exact ⟨Int.le_refl _, Int.le_refl _⟩
  | succ m ih =>
    intro k
    have := ih (k + 1)
    rw [pLe]
    split <;> omega
theorem pLe_to {G : Nat → Int} {dp : Int} : ∀ m k, xTo G (dp + 1) m k = xTo G dp m k + 4 * pLe G dp m k := by
  intro m
  induction m with
  | zero => intro k; rfl
  | succ m ih =>
    intro k
    rw [xTo, xTo, pLe, ih (k + 1)]
    split <;> omega
/-- the law's gaps -/
def pGa (V : Nat → Nat → Int) (h s : Nat) : Nat → Int := fun k => V 61 (14 + 7 * s + k) - V 61 (28 + 7 * s + k) - V 61 (7 * h + k)
section P1
variable {sc : xS} {d : Nat} {T : Nat → Nat × Nat} {z : Nat × Nat} {V : Nat → Nat → Int} {J : Nat → Nat → Int64} {R : Nat → Nat → Option Nat}
theorem l_part {k n : Int} (hk : 0 ≤ k ∧ k ≤ 1000) (hn : 0 < n ∧ n ≤ 1000000) (hc : sc.1 ≤ 3584) : ∃ r : Int, 0 ≤ r ∧ r < n ∧ X sc (d + 1) 91 [.retAddr 0, xw k, xw n] (T, z, xv V, J, R) = some (.inl (some (xw (r))), (T, z, xv (V), J, R)) := by
  by_cases c : (sc.1 : Int) ≤ k
  · refine ⟨_, Int.emod_nonneg (iAnd (1031 * k + 911 * k * k) 2147483647) (by omega), Int.emod_lt_of_pos _ hn.1, ?_⟩
    rw [eL_part, bL_part_0 (by omega) (by omega), if_pos c, bL_part_12, bL_part_25 ⟨hn.1, by omega, iAnd_nn _, iAnd_in.2⟩]
  · refine ⟨_, Int.emod_nonneg (iAnd ((sc.2 k.toNat).toInt) 2147483647) (by omega), Int.emod_lt_of_pos _ hn.1, ?_⟩
    rw [eL_part, bL_part_0 (by omega) (by omega), if_neg c, bL_part_6 (by omega), bL_part_25 ⟨hn.1, by omega, iAnd_nn _, iAnd_in.2⟩]
theorem many_loop {v : Int} : ∀ (m k : Nat) (c : Int), k + m = 30 → XR sc d 103 4 [some (xw v), some (xw c), some (xw k)] [] (T, z, xv V, J, R) = some (.inl (some (xw (c + pMn v m k))), (T, z, xv (V), J, R)) := by
  intro m
  induction m with
  | zero =>
    intro k c hk
    rw [bL_many_4 (by omega), if_pos (by omega), bL_many_24, pMn, Int.add_zero]
  | succ m ih =>
    intro k c hk
    rw [bL_many_4 (by omega), if_neg (by omega), bL_many_10, i_get (by omega), Int.toNat_natCast, show (k : Int) + 1 = ((k + 1 : Nat) : Int) by omega, ih (k + 1) _ (by omega), pMn, Int.add_assoc]
theorem l_many {v : Int} : X sc (d + 1) 103 [xw v] (T, z, xv V, J, R) = some (.inl (some (xw (pMn v 30 0))), (T, z, xv (V), J, R)) := by
  rw [eL_many, bL_many_0]
  refine (many_loop (sc := sc) (d := d) (T := T) (z := z) (V := V) (J := J) (R := R) (v := v) 30 0 0 rfl).trans ?_
  rw [Int.zero_add]
theorem l_strength {n : Nat} (hA : pAr T) (hn : n < 11) (hp : 0 ≤ V 57 n ∧ V 57 n ≤ 2000000) (hw : -1000000 ≤ V 58 n ∧ V 58 n ≤ 1000000) (hk : (-2147483648 ≤ V 59 n ∧ V 59 n ≤ 2147483647)) : X sc (d + 1) 93 [.ref 57, .ref 58, .ref 59, xw n] (T, z, xv V, J, R) = some (.inl (some (xw (pSt (V 57 n) (V 58 n) (V 59 n)))), (T, z, xv (V), J, R)) := by
  have hm := mul_bd (a := 10 * (V 57 n / 16 % 16)) (b := V 57 n / 256 % 16) (A := 150) (B := 15) (by omega) (by omega)
  rw [eL_strength, bL_strength_0 (by rw [pA57 hA]) (by rw [pA57 hA]; omega) (by rw [Int.toNat_natCast]; omega) (by rw [Int.toNat_natCast]; omega) (by rw [Int.toNat_natCast]; omega) (by rw [pA59 hA]) (by rw [pA59 hA]; omega) (by rw [Int.toNat_natCast]; exact hk), Int.toNat_natCast]
  unfold pSt
  have fin : ∀ y : Int, 0 ≤ y ∧ y ≤ 2250 → ∀ o4 : Option Value, XR sc d 93 42 [some (.ref 57), some (.ref 58), some (.ref 59), some (xw n), o4] [xw y] (T, z, xv V, J, R) = some (.inl (some (xw (max 0 (y - V 58 n)))), (T, z, xv (V), J, R)) := by
    intro y hy o4
    rw [bL_strength_42 (by rw [pA58 hA]) (by rw [pA58 hA]; omega) (by rw [Int.toNat_natCast]; omega), Int.toNat_natCast]
    by_cases c : y - V 58 n ≤ 0
    · rw [if_pos c, bL_strength_58, bL_strength_59, show max 0 (y - V 58 n) = 0 by omega]
    · rw [if_neg c, bL_strength_53, bL_strength_59, show max 0 (y - V 58 n) = y - V 58 n by omega]
  by_cases c : V 59 n = 0
  · rw [if_pos c, if_pos c, bL_strength_31, fin _ (by omega)]
  · rw [if_neg c, if_neg c, bL_strength_36 (by omega), fin _ (by omega)]
theorem depth_in {h s : Nat} {dp : Int} {o3 o5 : Option Value} (hA : pAr T) (hh : h < 2) (hs : s < 2) (hG : ∀ k, k < 7 → -1000 ≤ pGa V h s k ∧ pGa V h s k ≤ 1000) (hd : -5000 ≤ dp ∧ dp ≤ 5000) :
    ∀ (m k : Nat) (c : Int), k + m = 7 → XR sc d 100 18 [some (.ref 61), some (xw h), some (xw s), o3, some (xw dp), o5, some (xw c), some (xw k)] [] (T, z, xv V, J, R) = XR sc d 100 81 [some (.ref 61), some (xw h), some (xw s), o3, some (xw dp), o5, some (xw (c + pLe (pGa V h s) dp m k)), some (xw 7)] [] (T, z, xv V, J, R) := by
  intro m
  induction m with
  | zero =>
    intro k c hk
    obtain rfl : k = 7 := by omega
    rw [bL_depth_18 (by omega), if_pos (by omega), pLe, Int.add_zero]; rfl
  | succ m ih =>
    intro k c hk
    have hg := hG k (by omega)
    unfold pGa at hg
    have e1 : (14 + 7 * (s : Int) + (k : Int)).toNat = 14 + 7 * s + k := by omega
    have e2 : (28 + 7 * (s : Int) + (k : Int)).toNat = 28 + 7 * s + k := by omega
    have e3 : (7 * (h : Int) + (k : Int)).toNat = 7 * h + k := by omega
    rw [bL_depth_18 (by omega), if_neg (by omega), bL_depth_25 (by rw [pA61 hA]) (by rw [pA61 hA]; omega) (by rw [pA61 hA]; omega) (by rw [pA61 hA]; omega) (by rw [e1, e2, e3]; omega) (by omega), e1, e2, e3, pLe]
    by_cases q : dp < V 61 (14 + 7 * s + k) - V 61 (28 + 7 * s + k) - V 61 (7 * h + k)
    · rw [if_pos q, bL_depth_71, bL_depth_72, if_neg (show ¬ pGa V h s k ≤ dp by unfold pGa; omega), show (k : Int) + 1 = ((k + 1 : Nat) : Int) by omega, ih (k + 1) _ (by omega), Int.add_zero, Int.zero_add]
    · rw [if_neg q, bL_depth_67, bL_depth_72, if_pos (show pGa V h s k ≤ dp by unfold pGa; omega), show (k : Int) + 1 = ((k + 1 : Nat) : Int) by omega, ih (k + 1) _ (by omega), Int.add_assoc]
theorem depth_out {h s : Nat} {w : Int} (hA : pAr T) (hh : h < 2) (hs : s < 2) (hG : ∀ k, k < 7 → -1000 ≤ pGa V h s k ∧ pGa V h s k ≤ 1000) (hw : 1 ≤ w ∧ w ≤ 3000) :
    ∀ (m : Nat) (dp : Int) (o6 o7 : Option Value), dp + m = 3000 → -2000 ≤ dp → xTo (pGa V h s) (dp - 1) 7 0 < w →
    ∃ q, -5000 ≤ q ∧ q ≤ 5000 ∧ xDe (pGa V h s) w q ∧ XR sc d 100 7 [some (.ref 61), some (xw h), some (xw s), some (xw w), some (xw dp), some (xw (w - xTo (pGa V h s) dp 7 0)), o6, o7] [] (T, z, xv V, J, R) = some (.inl (some (xw (q))), (T, z, xv (V), J, R)) := by
  intro m
  induction m with
  | zero =>
    intro dp o6 o7 hm hd hl
    have h1 := xTo_one (G := pGa V h s) (p := dp - 1) 7 0 0 (by omega) (by omega)
    have := hG 0 (by omega)
    omega
  | succ m ih =>
    intro dp o6 o7 hm hd hl
    have hb := xTo_in (dp := dp) hG (by omega) 7 0 (by omega)
    rw [bL_depth_7 (by omega)]
    by_cases c : w - xTo (pGa V h s) dp 7 0 ≤ 0
    · rw [if_pos c, bL_depth_96]
      exact ⟨dp, by omega, by omega, ⟨hl, by omega⟩, rfl⟩
    · rw [if_neg c, bL_depth_12]
      have hin := depth_in (sc := sc) (d := d) (T := T) (z := z) (V := V) (J := J) (R := R) (o3 := some (xw w)) (o5 := some (xw (w - xTo (pGa V h s) dp 7 0))) (dp := dp) hA hh hs hG (by omega) 7 0 0 rfl
      have hin : XR sc d 100 18 [some (.ref 61), some (xw h), some (xw s), some (xw w), some (xw dp), some (xw (w - xTo (pGa V h s) dp 7 0)), some (xw 0), some (xw 0)] [] (T, z, xv V, J, R) = _ := hin
      have ht := pLe_to (G := pGa V h s) (dp := dp) 7 0
      obtain ⟨q, q1, q2, q3, q4⟩ := ih (dp + 1) (some (xw (0 + pLe (pGa V h s) dp 7 0))) (some (xw 7)) (by omega) (by omega) (by rw [show dp + 1 - 1 = dp by omega]; omega)
      refine ⟨q, q1, q2, q3, ?_⟩
      rw [hin, bL_depth_81, show w - xTo (pGa V h s) dp 7 0 - 4 * (0 + pLe (pGa V h s) dp 7 0) = w - xTo (pGa V h s) (dp + 1) 7 0 by omega]
      exact q4
theorem l_depth {h s : Nat} {w : Int} (hA : pAr T) (hh : h < 2) (hs : s < 2) (hG : ∀ k, k < 7 → -120 ≤ pGa V h s k ∧ pGa V h s k ≤ 1000) (hw : 1 ≤ w ∧ w ≤ 3000) :
    ∃ q, -5000 ≤ q ∧ q ≤ 5000 ∧ xDe (pGa V h s) w q ∧ X sc (d + 1) 100 [.ref 61, xw h, xw s, xw w] (T, z, xv V, J, R) = some (.inl (some (xw (q))), (T, z, xv (V), J, R)) := by
  have z1 : xTo (pGa V h s) (-121) 7 0 = 0 := xTo_zero 7 0 (fun j _ hj => by have := hG j (by omega); omega)
  have z2 : xTo (pGa V h s) (-121 - 1) 7 0 = 0 := xTo_zero 7 0 (fun j _ hj => by have := hG j (by omega); omega)
  obtain ⟨q, q1, q2, q3, q4⟩ := depth_out (sc := sc) (d := d) (T := T) (z := z) (V := V) (J := J) (R := R) hA hh hs (fun k hk => by have := hG k hk; omega) hw 3121 (-121) none none (by omega) (by omega) (by rw [z2]; omega)
  refine ⟨q, q1, q2, q3, ?_⟩
  rw [eL_depth, bL_depth_0]
  rw [z1, Int.sub_zero] at q4
  exact q4
theorem l_pressure {h s k : Nat} {dp : Int} (hA : pAr T) (hh : h < 2) (hs : s < 2) (hk : k < 7) (hG : -1000 ≤ pGa V h s k ∧ pGa V h s k ≤ 1000) (hd : -5000 ≤ dp ∧ dp ≤ 5000) :
    X sc (d + 1) 101 [.ref 61, xw h, xw s, xw dp, xw k] (T, z, xv V, J, R) = some (.inl (some (xw (4 * max 0 (dp - pGa V h s k)))), (T, z, xv (V), J, R)) := by
  have e1 : (14 + 7 * (s : Int) + (k : Int)).toNat = 14 + 7 * s + k := by omega
  have e2 : (28 + 7 * (s : Int) + (k : Int)).toNat = 28 + 7 * s + k := by omega
  have e3 : (7 * (h : Int) + (k : Int)).toNat = 7 * h + k := by omega
  unfold pGa at hG
  rw [eL_pressure, bL_pressure_0 (by rw [pA61 hA]) (by rw [pA61 hA]; omega) (by rw [pA61 hA]; omega) (by rw [pA61 hA]; omega) (by rw [e1, e2, e3]; omega), e1, e2, e3]
  unfold pGa
  by_cases c : 0 ≤ dp - (V 61 (14 + 7 * s + k) - V 61 (28 + 7 * s + k) - V 61 (7 * h + k))
  · rw [if_pos c, bL_pressure_48, bL_pressure_52, show max 0 (dp - (V 61 (14 + 7 * s + k) - V 61 (28 + 7 * s + k) - V 61 (7 * h + k))) = dp - (V 61 (14 + 7 * s + k) - V 61 (28 + 7 * s + k) - V 61 (7 * h + k)) by omega]
  · rw [if_neg c, bL_pressure_44, bL_pressure_52, show max 0 (dp - (V 61 (14 + 7 * s + k) - V 61 (28 + 7 * s + k) - V 61 (7 * h + k))) = 0 by omega]; rfl
/-- the law's sores of a horse, as a cell -/
def pSo (V : Nat → Nat → Int) (h : Nat) : Nat → Nat → Int := fun _ k => V 61 (42 + 7 * h + k)
theorem lame_lp {h : Nat} (hA : pAr T) (hh : h < 2) (hV : ∀ k, k < 7 → (-2147483648 ≤ V 61 (42 + 7 * h + k) ∧ V 61 (42 + 7 * h + k) ≤ 2147483647)) :
    ∀ (m k : Nat) (b : Bool), k + m = 7 → XR sc d 102 4 [some (.ref 61), some (xw h), some (xw (xB b)), some (xw k)] [] (T, z, xv V, J, R) = some (.inl (some (xw (xB (or b (xLa (pSo V h) 0 m k))))), (T, z, xv (V), J, R)) := by
  intro m
  induction m with
  | zero =>
    intro k b hk
    rw [bL_isLame_4 (by omega), if_pos (by omega), bL_isLame_42 (xB_01 b), xLa, Bool.or_false]
  | succ m ih =>
    intro k b hk
    have hv := hV k (by omega)
    have e : (42 + 7 * (h : Int) + (k : Int)).toNat = 42 + 7 * h + k := by omega
    rw [bL_isLame_4 (by omega), if_neg (by omega), bL_isLame_10 (xB_in b), xLa]
    have i1 := ih (k + 1) true (by omega)
    have i0 := ih (k + 1) false (by omega)
    rw [Bool.true_or] at i1
    rw [Bool.false_or] at i0
    cases b with
    | true => rw [if_neg (show ¬ xB true = 0 by decide), bL_isLame_30, bL_isLame_35, show (k : Int) + 1 = ((k + 1 : Nat) : Int) by omega, Bool.true_or]; exact i1
    | false =>
      rw [if_pos (show xB false = 0 from rfl), bL_isLame_14 (by rw [pA61 hA]) (by rw [pA61 hA]; omega) (by rw [e]; exact hv), e, Bool.false_or]
      by_cases c : V 61 (42 + 7 * h + k) ≤ 99
      · rw [if_pos c, bL_isLame_34, bL_isLame_35, show (k : Int) + 1 = ((k + 1 : Nat) : Int) by omega, if_pos (show pSo V h 0 k < 100 by unfold pSo; omega)]; exact i0
      · rw [if_neg c, bL_isLame_30, bL_isLame_35, show (k : Int) + 1 = ((k + 1 : Nat) : Int) by omega, if_neg (show ¬ pSo V h 0 k < 100 by unfold pSo; omega)]; exact i1
theorem l_isLame {h : Nat} (hA : pAr T) (hh : h < 2) (hV : ∀ k, k < 7 → (-2147483648 ≤ V 61 (42 + 7 * h + k) ∧ V 61 (42 + 7 * h + k) ≤ 2147483647)) : X sc (d + 1) 102 [.ref 61, xw h] (T, z, xv V, J, R) = some (.inl (some (xw (xB (xLa (pSo V h) 0 7 0)))), (T, z, xv (V), J, R)) := by
  rw [eL_isLame, bL_isLame_0]
  refine (lame_lp (sc := sc) (d := d) (T := T) (z := z) (V := V) (J := J) (R := R) hA hh hV 7 0 false rfl).trans ?_
  rw [Bool.false_or]
/-- the squares of a hide, as the law has them: those of a rectangle are left -/
def pFr (V : Nat → Nat → Int) (hd c r al wi : Nat) : Prop := ∀ q x, r ≤ q → q < r + wi → c ≤ x → x < c + al → iBt (V 56 (2 + 8 * hd + q)) x = false
theorem can_loop {hd c r al wi : Nat} {st : Int} (hA : pAr T) (hh : hd < 2) (hc : c + al ≤ 12) (hr : r + wi ≤ 8) (hal : 1 ≤ al) :
    ∀ (m k : Nat) (b : Bool), k + m = al * wi → ∃ b' : Bool, (b' = true ↔ b = true ∧ ∀ j, k ≤ j → j < al * wi → iBt (V 56 (2 + 8 * hd + r + j / al)) (c + j % al) = false) ∧
      XR sc d 105 24 [some (.ref 56), some (xw hd), some (xw c), some (xw r), some (xw al), some (xw wi), some (xw st), some (xw (xB b)), some (xw k)] [] (T, z, xv V, J, R) = some (.inl (some (xw (xB b'))), (T, z, xv (V), J, R)) := by
  have hm : al * wi ≤ 96 := Nat.le_trans (Nat.mul_le_mul (show al ≤ 12 by omega) (show wi ≤ 8 by omega)) (by decide)
  intro m
  induction m with
  | zero =>
    intro k b hk
    refine ⟨b, ⟨fun q => ⟨q, fun j a e => by omega⟩, fun q => q.1⟩, ?_⟩
    rw [bL_canCut_24 (by omega) (by rw [← Int.natCast_mul]; omega), if_pos (by rw [← Int.natCast_mul]; omega), bL_canCut_81 (xB_01 b)]
  | succ m ih =>
    intro k b hk
    rw [bL_canCut_24 (by omega) (by rw [← Int.natCast_mul]; omega), if_neg (by rw [← Int.natCast_mul]; omega), bL_canCut_34 (xB_in b)]
    cases b with
    | false =>
      obtain ⟨b', h1, h2⟩ := ih (k + 1) false (by omega)
      refine ⟨b', ⟨fun q => absurd (h1.mp q).1 (by decide), fun q => absurd q.1 (by decide)⟩, ?_⟩
      rw [if_pos (show xB false = 0 from rfl), bL_canCut_72, bL_canCut_73, show (k : Int) + 1 = ((k + 1 : Nat) : Int) by omega]
      exact h2
    | true =>
      have hdv : k / al < wi := (Nat.div_lt_iff_lt_mul (by omega)).mpr (by rw [Nat.mul_comm]; omega)
      have hmd : k % al < al := Nat.mod_lt _ (by omega)
      obtain ⟨u, hu⟩ : ∃ u, k / al = u := ⟨_, rfl⟩
      obtain ⟨v, hv⟩ : ∃ v, k % al = v := ⟨_, rfl⟩
      have hqu : (k : Int) / (al : Int) = (u : Int) := by rw [← hu]; exact (Int.natCast_ediv k al).symm
      have hqv : (k : Int) % (al : Int) = (v : Int) := by rw [← hv]; exact (Int.natCast_emod k al).symm
      rw [hu] at hdv; rw [hv] at hmd
      have e1 : (2 + 8 * (hd : Int) + (r : Int) + (u : Int)).toNat = 2 + 8 * hd + r + u := by omega
      have e2 : ((c : Int) + (v : Int)) = ((c + v : Nat) : Int) := by omega
      rw [if_neg (show ¬ xB true = 0 by decide), bL_canCut_39 (by omega) (by rw [pA56 hA]) (by rw [pA56 hA, hqu]; omega) iAnd_in, hqu, hqv, e1, e2, i_get (by omega), Int.toNat_natCast]
      by_cases q : iBt (V 56 (2 + 8 * hd + r + u)) (c + v) = true
      · obtain ⟨b', h1, h2⟩ := ih (k + 1) false (by omega)
        refine ⟨b', ⟨fun q => absurd (h1.mp q).1 (by decide), fun f => ?_⟩, ?_⟩
        · have := f.2 k (Nat.le_refl k) (by omega)
          rw [hu, hv, q] at this; cases this
        · rw [if_pos q, if_neg (by decide), bL_canCut_72, bL_canCut_73, show (k : Int) + 1 = ((k + 1 : Nat) : Int) by omega]
          exact h2
      · obtain ⟨b', h1, h2⟩ := ih (k + 1) true (by omega)
        refine ⟨b', h1.trans ⟨fun f => ⟨rfl, fun j a e => ?_⟩, fun f => ⟨rfl, fun j a e => f.2 j (by omega) e⟩⟩, ?_⟩
        · by_cases ej : j = k
          · subst ej; rw [hu, hv]; exact Bool.eq_false_iff.mpr q
          · exact f.2 j (by omega) e
        · rw [if_neg q, if_pos rfl, bL_canCut_68, bL_canCut_73, show (k : Int) + 1 = ((k + 1 : Nat) : Int) by omega]
          exact h2
theorem l_canCut {hd c r al wi : Nat} {st : Int} (hA : pAr T) (hh : hd < 2) (hc : c + al ≤ 12) (hr : r + wi ≤ 8) (hal : 1 ≤ al) (hst : st = 0 ∨ st = 1) :
    ∃ b : Bool, (b = true ↔ (st = 0 ∨ r + wi ≤ 5) ∧ pFr V hd c r al wi) ∧ X sc (d + 1) 105 [.ref 56, xw hd, xw c, xw r, xw al, xw wi, xw st] (T, z, xv V, J, R) = some (.inl (some (xw (xB b))), (T, z, xv (V), J, R)) := by
  have key : ∀ b0 : Bool, ∃ b' : Bool, (b' = true ↔ b0 = true ∧ pFr V hd c r al wi) ∧ XR sc d 105 24 [some (.ref 56), some (xw hd), some (xw c), some (xw r), some (xw al), some (xw wi), some (xw st), some (xw (xB b0)), some (xw 0)] [] (T, z, xv V, J, R) = some (.inl (some (xw (xB b'))), (T, z, xv (V), J, R)) := by
    intro b0
    obtain ⟨b', h1, h2⟩ := can_loop (sc := sc) (d := d) (T := T) (z := z) (V := V) (J := J) (R := R) (st := st) hA hh hc hr hal (al * wi) 0 b0 (Nat.zero_add _)
    refine ⟨b', h1.trans ⟨fun f => ⟨f.1, fun q x a1 a2 a3 a4 => ?_⟩, fun f => ⟨f.1, fun j _ a2 => ?_⟩⟩, h2⟩
    · obtain ⟨u, rfl⟩ := Nat.exists_eq_add_of_le a1
      obtain ⟨v, rfl⟩ := Nat.exists_eq_add_of_le a3
      have hv : v < al := by omega
      have hu : u < wi := by omega
      have hlt : u * al + v < al * wi := by
        have := Nat.mul_le_mul_left al (show u + 1 ≤ wi from hu)
        rw [Nat.mul_add, Nat.mul_one, Nat.mul_comm al u] at this
        omega
      have := f.2 (u * al + v) (Nat.zero_le _) hlt
      rw [show (u * al + v) / al = u by rw [Nat.add_comm, Nat.add_mul_div_right _ _ (by omega), Nat.div_eq_of_lt hv, Nat.zero_add], show (u * al + v) % al = v by rw [Nat.add_comm, Nat.add_mul_mod_self_right, Nat.mod_eq_of_lt hv], Nat.add_assoc (2 + 8 * hd)] at this
      exact this
    · have hdv : j / al < wi := (Nat.div_lt_iff_lt_mul (by omega)).mpr (by rw [Nat.mul_comm]; omega)
      have hmd : j % al < al := Nat.mod_lt _ (by omega)
      rw [Nat.add_assoc (2 + 8 * hd)]
      exact f.2 (r + j / al) (c + j % al) (Nat.le_add_right _ _) (Nat.add_lt_add_left hdv r) (Nat.le_add_right _ _) (Nat.add_lt_add_left hmd c)
  rw [eL_canCut, bL_canCut_0 (by omega)]
  by_cases c0 : st = 0
  · obtain ⟨b', h1, h2⟩ := key true
    refine ⟨b', h1.trans ⟨fun f => ⟨Or.inl c0, f.2⟩, fun f => ⟨rfl, f.2⟩⟩, ?_⟩
    rw [if_pos c0, bL_canCut_14, bL_canCut_19]; exact h2
  · rw [if_neg c0, bL_canCut_5 (by omega)]
    by_cases c1 : 6 ≤ (r : Int) + (wi : Int)
    · obtain ⟨b', h1, h2⟩ := key false
      refine ⟨b', ⟨fun f => absurd (h1.mp f).1 (by decide), fun f => absurd f.1 (by omega)⟩, ?_⟩
      rw [if_pos c1, bL_canCut_18, bL_canCut_19]; exact h2
    · obtain ⟨b', h1, h2⟩ := key true
      refine ⟨b', h1.trans ⟨fun f => ⟨Or.inr (by omega), f.2⟩, fun f => ⟨rfl, f.2⟩⟩, ?_⟩
      rw [if_neg c1, bL_canCut_14, bL_canCut_19]; exact h2
end P1
