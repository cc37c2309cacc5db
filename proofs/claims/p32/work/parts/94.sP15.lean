/-! the property's law: skive, pierce -/
theorem i_sbit {v : Int} {m i : Nat} (hm : m < 32) (hi : m + i < 32) : iBt (iShr v (m : Int)) i = iBt v (m + i) := by
  unfold iBt iShr
  rw [Int32.ofInt_toInt]
  have h : (Int32.ofInt v >>> (Int32.ofInt (m : Int) &&& 31)).toBitVec = (Int32.ofInt v).toBitVec.sshiftRight ((Int32.ofInt (m : Int) &&& 31).toBitVec.smod 32).toNat := rfl
  rw [h, ish_n m hm, BitVec.getLsbD_sshiftRight, if_pos hi, decide_eq_false (show ¬ 32 ≤ i by omega)]
  rfl
theorem i_7 : ∀ k, k < 32 → iBt 7 k = decide (k < 3) := by decide +kernel
theorem i_near {v : Int} {n : Nat} (h1 : 1 ≤ n) (hn : n < 31) : iAnd (iShr v ((n : Int) - 1)) 7 = 0 ↔ iBt v (n - 1) = false ∧ iBt v n = false ∧ iBt v (n + 1) = false := by
  rw [show (n : Int) - 1 = ((n - 1 : Nat) : Int) by omega, i_and0]
  have b : ∀ k, k < 3 → iBt (iShr v ((n - 1 : Nat) : Int)) k = iBt v (n - 1 + k) := fun k hk => i_sbit (by omega) (by omega)
  refine ⟨fun h => ?_, fun ⟨h0, h1', h2⟩ k hk => ?_⟩
  · have q0 := h 0 (by decide)
    have q1 := h 1 (by decide)
    have q2 := h 2 (by decide)
    rw [b 0 (by decide), i_7 0 (by decide), decide_eq_true (by decide), Bool.and_true] at q0
    rw [b 1 (by decide), i_7 1 (by decide), decide_eq_true (by decide), Bool.and_true, show n - 1 + 1 = n by omega] at q1
    rw [b 2 (by decide), i_7 2 (by decide), decide_eq_true (by decide), Bool.and_true, show n - 1 + 2 = n + 1 by omega] at q2
    exact ⟨q0, q1, q2⟩
  · rw [i_7 k hk]
    by_cases c : k < 3
    · rw [b k c, decide_eq_true c, Bool.and_true]
      rcases (show k = 0 ∨ k = 1 ∨ k = 2 by omega) with rfl | rfl | rfl
      · exact h0
      · rw [show n - 1 + 1 = n by omega]; exact h1'
      · rw [show n - 1 + 2 = n + 1 by omega]; exact h2
    · rw [decide_eq_false c, Bool.and_false]
theorem iBt_nat {m k : Nat} (hk : k < 32) : iBt (m : Int) k = m.testBit k := by
  unfold iBt
  rw [show (Int32.ofInt (m : Int)).toBitVec = BitVec.ofInt 32 (m : Int) from rfl, BitVec.ofInt_natCast, BitVec.getLsbD_ofNat, decide_eq_true hk, Bool.true_and]
theorem iBt_hi {v : Int} (hv : 0 ≤ v ∧ v < 268435456) {k : Nat} (hk : 28 ≤ k) : iBt v k = false := by
  by_cases c : k < 32
  · obtain ⟨m, rfl⟩ : ∃ m : Nat, v = m := ⟨v.toNat, by omega⟩
    rw [iBt_nat c]
    exact Nat.testBit_lt_two_pow (Nat.lt_of_lt_of_le (show m < 2 ^ 28 by omega) (Nat.pow_le_pow_right (by decide) hk))
  · unfold iBt
    exact BitVec.getLsbD_of_ge _ _ (by omega)
theorem iShl_n : ∀ n : Nat, n < 30 → iShl 1 (n : Int) = ((2 ^ n : Nat) : Int) := by decide +kernel
theorem iShl_p {n : Nat} (hn : n < 30) : 0 < iShl 1 (n : Int) ∧ iShl 1 (n : Int) ≤ 536870912 := by
  rw [iShl_n n hn]
  have h1 : 0 < 2 ^ n := Nat.pow_pos (by decide)
  have h2 : 2 ^ n ≤ 2 ^ 29 := Nat.pow_le_pow_right (by decide) (by omega)
  omega
theorem iBt_md {v : Int} {n k : Nat} (hv : 0 ≤ v) (hn : n < 30) (hk : k < 32) : iBt (v % iShl 1 (n : Int)) k = (decide (k < n) && iBt v k) := by
  obtain ⟨m, rfl⟩ : ∃ m : Nat, v = m := ⟨v.toNat, by omega⟩
  rw [iShl_n n hn, show (m : Int) % ((2 ^ n : Nat) : Int) = ((m % 2 ^ n : Nat) : Int) from (Int.natCast_emod m (2 ^ n)).symm, iBt_nat hk, iBt_nat hk, Nat.testBit_mod_two_pow]
theorem i_or_in {v w : Int} (hv : 0 ≤ v ∧ v < 268435456) (hw : 0 ≤ w ∧ w < 268435456) : 0 ≤ iOr v w ∧ iOr v w < 268435456 := by
  obtain ⟨m, rfl⟩ : ∃ m : Nat, v = m := ⟨v.toNat, by omega⟩
  obtain ⟨n, rfl⟩ : ∃ m : Nat, w = m := ⟨w.toNat, by omega⟩
  have hlt : m ||| n < 2 ^ 28 := Nat.or_lt_two_pow (show m < 2 ^ 28 by omega) (show n < 2 ^ 28 by omega)
  have e : Int32.ofInt (m : Int) ||| Int32.ofInt (n : Int) = Int32.ofInt ((m ||| n : Nat) : Int) := by
    apply Int32.toBitVec.inj
    show BitVec.ofInt 32 (m : Int) ||| BitVec.ofInt 32 (n : Int) = BitVec.ofInt 32 ((m ||| n : Nat) : Int)
    rw [BitVec.ofInt_natCast, BitVec.ofInt_natCast, BitVec.ofInt_natCast]
    refine BitVec.eq_of_getLsbD_eq fun i hi => ?_
    rw [BitVec.getLsbD_or, BitVec.getLsbD_ofNat, BitVec.getLsbD_ofNat, BitVec.getLsbD_ofNat, decide_eq_true hi, Bool.true_and, Bool.true_and, Bool.true_and, Nat.testBit_or]
  have e2 : iOr (m : Int) (n : Int) = ((m ||| n : Nat) : Int) := by
    unfold iOr
    rw [e, io_to (by omega)]
  rw [e2]
  omega
theorem pMn_e {v w : Int} : ∀ m k, (∀ q, k ≤ q → q < k + m → iBt v q = iBt w q) → pMn v m k = pMn w m k := by
  intro m
  induction m with
  | zero => intro k _; rfl
  | succ m ih => intro k h; rw [pMn, pMn, h k (Nat.le_refl k) (by omega), ih (k + 1) (fun q a b => h q (by omega) (by omega))]
theorem pMn_md {v : Int} {n : Nat} (hv : 0 ≤ v) (hn : n < 30) : pMn (v % iShl 1 (n : Int)) 30 0 = pMn v n 0 := by
  rw [show 30 = n + (30 - n) by omega, pMn_add, pMn_0 (30 - n) (0 + n) (fun q a b => by rw [iBt_md hv hn (by omega), decide_eq_false (by omega)]; rfl), Int.add_zero]
  exact pMn_e n 0 (fun q _ b => by rw [iBt_md hv hn (by omega), decide_eq_true (by omega), Bool.true_and])
theorem pMn_s {v w : Int} {n : Nat} (h1 : iBt w n = true) (h0 : iBt v n = false) (ho : ∀ q, ¬ q = n → iBt w q = iBt v q) : ∀ m k, k ≤ n → n < k + m → pMn w m k = pMn v m k + 1 := by
  intro m
  induction m with
  | zero => intro k a b; omega
  | succ m ih =>
    intro k a b
    rw [pMn, pMn]
    by_cases e : k = n
    · subst e
      rw [if_pos h1, if_neg (by rw [h0]; decide), pMn_e m (k + 1) (fun q x _ => ho q (by omega))]
      omega
    · rw [ho k e, ih (k + 1) (by omega) (by omega)]
      omega
theorem xCn_pm {V : Nat → Nat → Int} {g : Nat} {v : Int} : ∀ m k, (∀ q, k ≤ q → q < k + m → V g q = if iBt v q = true then 1 else 0) → xCn V g m k = pMn v m k := by
  intro m
  induction m with
  | zero => intro k _; rfl
  | succ m ih =>
    intro k h
    rw [xCn, pMn, h k (Nat.le_refl k) (by omega), ih (k + 1) (fun q a b => h q (by omega) (by omega))]
    by_cases c : iBt v k = true
    · rw [if_pos c, if_neg (by decide)]
    · rw [if_neg c, if_pos rfl]
/-- the packed numbers of a part, apart -/
theorem pk_a {r t u : Int} (hr : 0 ≤ r ∧ r < 256) (ht : 0 ≤ t ∧ t < 16) : (r + 256 * t + 4096 * u) / 4096 = u := by omega
theorem pk_b {r t u : Int} (hr : 0 ≤ r ∧ r < 256) (ht : 0 ≤ t ∧ t < 16) : (r + 256 * t + 4096 * u) / 256 % 16 = t := by omega
theorem pk_c {r t u : Int} : (r + 256 * t + 4096 * u) % 16 = r % 16 := by omega
theorem pk_d {r t u : Int} : (r + 256 * t + 4096 * u) / 16 % 16 = r / 16 % 16 := by omega
theorem pk_e {y : Int} : y / 32768 = y / 4096 / 8 := by omega
theorem pk_f {y : Int} : y / 65536 = y / 4096 / 16 := by omega
theorem pk_g {y : Int} : y / 524288 = y / 4096 / 128 := by omega
theorem pk_h {x : Int} : x = x % 256 + 256 * (x / 256 % 16) + 4096 * (x / 4096) := by omega
/-- another thickness -/
theorem pk_s {x y v : Int} (hy : y = x + 256 * (v - x / 256 % 16)) (hx : 0 ≤ x ∧ x < 1048576) (hv : 0 ≤ v ∧ v ≤ 15) : (y % 16 = x % 16 ∧ y / 16 % 16 = x / 16 % 16 ∧ y / 256 % 16 = v) ∧ (y / 4096 % 8 = x / 4096 % 8 ∧ y / 32768 % 2 = x / 32768 % 2 ∧ y / 65536 % 8 = x / 65536 % 8 ∧ y / 524288 = x / 524288) ∧ (0 ≤ y ∧ y < 1048576) ∧ (524288 ≤ y → 524288 ≤ x) := by
  have ex := pk_h (x := x)
  have hr : 0 ≤ x % 256 ∧ x % 256 < 256 := by omega
  have hu : 0 ≤ x / 4096 ∧ x / 4096 < 256 := by omega
  have ht : 0 ≤ x / 256 % 16 ∧ x / 256 % 16 < 16 := by omega
  generalize x % 256 = r at *
  generalize x / 256 % 16 = t at *
  generalize hu' : x / 4096 = u at *
  have ey : y = r + 256 * v + 4096 * u := by clear hu'; omega
  have h4 : y / 4096 = u := by rw [ey]; exact pk_a hr (by omega)
  refine ⟨⟨by rw [ey, ex, pk_c, pk_c], by rw [ey, ex, pk_d, pk_d], by rw [ey]; exact pk_b hr (by omega)⟩, ⟨by rw [h4], by rw [pk_e, pk_e (y := x), h4, hu'], by rw [pk_f, pk_f (y := x), h4, hu'], by rw [pk_g, pk_g (y := x), h4, hu']⟩, by clear hu' h4; omega, by clear hu' h4; omega⟩
section P15
variable {sc : xS} {d : Nat} {T : Nat → Nat × Nat} {z : Nat × Nat} {V : Nat → Nat → Int} {J : Nat → Nat → Int64} {R : Nat → Nat → Option Nat}
theorem qp_g {i n p a : Nat} (h1 : qPa1 i T n V R p a) : ∀ k, k < 49 → V (a + 1) k = if iBt (V 59 p) k = true then 1 else 0 := fun k hk => by
  obtain ⟨_, _, _, _, _, _, ⟨b, h, _⟩, _⟩ := h1
  rw [h k hk]
  by_cases c : k < 28
  · by_cases c2 : iBt (V 59 p) k = true
    · rw [if_pos ⟨c, c2⟩, if_pos c2]
    · rw [if_neg (fun q => c2 q.2), if_neg c2]
  · rw [if_neg (fun q => c q.1), iBt_hi b (by omega), if_neg (by decide)]
/-- buckled or not -/
theorem qp_11 {i n p a : Nat} (h1 : qPa1 i T n V R p a) : V a 11 = -1 ↔ V 60 p = 0 := by
  obtain ⟨_, _, _, ⟨w9, w10, w11⟩, _, ⟨st, b60, _⟩, _⟩ := h1
  rw [w11]
  unfold aSt at st
  by_cases c : V 60 p ≤ 0
  · have := (pL_0 c).2.2; omega
  · have := pL_v (V := V) (p := p) (by omega); omega
/-- skive -/
theorem t_skive {i : Nat} {one two : Int} (hI : qInv i T z V R) (hi : i ≤ 63) (h1 : 0 ≤ one ∧ one < 60000) (h2 : 0 ≤ two ∧ two < 60000) : qDone (X sc 11 107 [.ref 0, .ref 57, .ref 58, .ref 59, .ref 60, .ref 63, xw 0, xw one, xw two] (T, z, xv V, J, R)) i z := by
  obtain ⟨hT, hRo, hHs, hSs, hSe, hA⟩ := hI.1
  have hz := hI.2.1
  obtain ⟨P, hP⟩ := hI.2.2.2.1
  obtain ⟨⟨r1, r2, r3⟩, r4, ⟨r5, r5b⟩, r6, r7⟩ := id hP
  obtain ⟨p, its, a1, a2, a0, a3⟩ := pt_start (sc := sc) (d := 10) (T := T) (z := z) (V := V) (J := J) (R := R) (what := 0) (two := two) hA ⟨r1, r3⟩ (qp_b hP) h1
  obtain ⟨v, ev⟩ : ∃ v : Int, two % 10 = v := ⟨_, rfl⟩
  have hv : 0 ≤ v ∧ v ≤ 9 := by omega
  rw [a3, bL_isPart_67 (by first | omega | exact xB_in _ | exact xB_01 _ | exact iAnd_in | exact iShr_in | (simp only [Int.toNat_natCast]; omega) | decide), if_pos (by first | omega | decide)]
  by_cases c : p < P
  · rw [if_pos c] at a2
    obtain ⟨a, ea, ha, g1⟩ := qp_y hP c
    have va := qp_va g1 (by omega)
    obtain ⟨⟨hPa, ga, gn⟩, ⟨w0, w1, w2, w3, w5, w4⟩, ⟨w7, w8, w12⟩, ⟨w9, w10, w11⟩, ⟨b0, b1, b5, b8, b57, b58⟩, ⟨st, b60, s60⟩, bt, w6⟩ := id g1
    have clsOf : ∀ W : Nat → Nat → Int, W a = V a → X sc 9 54 [.ref 0, xw p, xw v] (T, z, xv W, J, R) = if 1 ≤ v ∧ v ≤ V a 5 - 1 then (if V a 8 ≤ 0 then some (.inl (some (xw (V a 5))), (T, z, xv (xup2 W a 5 v), J, R)) else xTw 9 T z W J R) else xTw 8 T z W J R := fun W hW => by
      have cls := s_skive (sc := sc) (d := 1) (T := T) (z := z) (V := W) (J := J) (R := R) (x := (p : Int)) (v := v) (a := a) hT (by omega) (by rw [Int.toNat_natCast]; exact ha) hPa.1 (by omega) (by rw [hW]; omega) (by rw [hW]; omega)
      rw [hW] at cls
      exact cls
    rw [decide_eq_true c]
    by_cases c2 : 1 ≤ v ∧ v ≤ V a 5 - 1
    · by_cases c3 : its / 65536 % 8 = 0
      · have Wa : xup2 V 57 p (V 57 p + 256 * (v - its / 256 % 16)) a = V a := xup2_o (by omega)
        have cls := clsOf _ Wa
        rw [if_pos c2, if_pos (by omega)] at cls
        have go : ∀ b, ¬ b = a → xup2 (xup2 V 57 p (V 57 p + 256 * (v - its / 256 % 16))) a 5 v b = xup2 V 57 p (V 57 p + 256 * (v - its / 256 % 16)) b := fun b hb => xup2_o hb
        have ro : ∀ b, ¬ b = a → ¬ b = a + 1 → ¬ (57 ≤ b ∧ b ≤ 60) → xup2 (xup2 V 57 p (V 57 p + 256 * (v - its / 256 % 16))) a 5 v b = V b := fun b b1 b2 b3 => by rw [go b b1, xup2_o (by omega)]
        have rr : ∀ r q, 57 ≤ r → r ≤ 60 → ¬ q = p → xup2 (xup2 V 57 p (V 57 p + 256 * (v - its / 256 % 16))) a 5 v r q = V r q := fun r q r1 r2 hq => by
          rw [go r (by omega)]
          by_cases e : r = 57
          · subst e; rw [xup2_j hq]
          · rw [xup2_o e]
        have e57 : xup2 (xup2 V 57 p (V 57 p + 256 * (v - its / 256 % 16))) a 5 v 57 p = V 57 p + 256 * (v - its / 256 % 16) := by rw [go 57 (by omega), xup2_i]
        have e58 : xup2 (xup2 V 57 p (V 57 p + 256 * (v - its / 256 % 16))) a 5 v 58 p = V 58 p := by rw [go 58 (by omega), xup2_o (by decide)]
        have e59 : xup2 (xup2 V 57 p (V 57 p + 256 * (v - its / 256 % 16))) a 5 v 59 p = V 59 p := by rw [go 59 (by omega), xup2_o (by decide)]
        have e60 : xup2 (xup2 V 57 p (V 57 p + 256 * (v - its / 256 % 16))) a 5 v 60 p = V 60 p := by rw [go 60 (by omega), xup2_o (by decide)]
        have eg : xup2 (xup2 V 57 p (V 57 p + 256 * (v - its / 256 % 16))) a 5 v (a + 1) = V (a + 1) := by rw [go (a + 1) (by omega), xup2_o (by omega)]
        have ra : ∀ j, xup2 (xup2 V 57 p (V 57 p + 256 * (v - its / 256 % 16))) a 5 v a j = if j = 5 then v else V a j := fun j => by
          by_cases e : j = 5
          · subst e; rw [xup2_i, if_pos rfl]
          · rw [xup2_j e, if_neg e, Wa]
        rw [bL_isPart_74 (by first | omega | exact xB_in _ | exact xB_01 _ | exact iAnd_in | exact iShr_in | (simp only [Int.toNat_natCast]; omega) | decide) (by first | omega | exact xB_in _ | exact xB_01 _ | exact iAnd_in | exact iShr_in | (simp only [Int.toNat_natCast]; omega) | decide), if_neg (by first | omega | decide), ev, bL_isPart_86 (by first | omega | exact xB_in _ | exact xB_01 _ | exact iAnd_in | exact iShr_in | (simp only [Int.toNat_natCast]; omega) | decide), if_neg (by first | omega | decide), bL_isPart_91 (by first | omega | exact xB_in _ | exact xB_01 _ | exact iAnd_in | exact iShr_in | (simp only [Int.toNat_natCast]; omega) | decide), if_neg (by first | omega | decide), bL_isPart_98 (by first | omega | exact xB_in _ | exact xB_01 _ | exact iAnd_in | exact iShr_in | (simp only [Int.toNat_natCast]; omega) | decide) (by first | omega | exact xB_in _ | exact xB_01 _ | exact iAnd_in | exact iShr_in | (simp only [Int.toNat_natCast]; omega) | decide) (by first | omega | exact xB_in _ | exact xB_01 _ | exact iAnd_in | exact iShr_in | (simp only [Int.toNat_natCast]; omega) | decide) (by first | omega | exact xB_in _ | exact xB_01 _ | exact iAnd_in | exact iShr_in | (simp only [Int.toNat_natCast]; omega) | decide), if_neg (by first | omega | decide), bL_isPart_112, bL_isPart_117 (by first | omega | exact xB_in _ | exact xB_01 _ | exact iAnd_in | exact iShr_in | (simp only [Int.toNat_natCast]; omega) | decide), if_neg (by first | omega | decide), bL_isPart_124 (by first | omega | exact xB_in _ | exact xB_01 _ | exact iAnd_in | exact iShr_in | (simp only [Int.toNat_natCast]; omega) | decide) (by first | omega | exact xB_in _ | exact xB_01 _ | exact iAnd_in | exact iShr_in | (simp only [Int.toNat_natCast]; omega) | decide) (by first | omega | exact xB_in _ | exact xB_01 _ | exact iAnd_in | exact iShr_in | (simp only [Int.toNat_natCast]; omega) | decide), if_pos (by first | omega | decide), bL_isPart_135, bL_isPart_140 (by first | omega | exact xB_in _ | exact xB_01 _ | exact iAnd_in | exact iShr_in | (simp only [Int.toNat_natCast]; omega) | decide), if_neg (by first | omega | decide), bL_isPart_148, bL_isPart_155 (by rw [pA57 hA]) (by rw [pA57 hA]; omega) (by first | omega | exact xB_in _ | exact xB_01 _ | exact iAnd_in | exact iShr_in | (simp only [Int.toNat_natCast]; omega) | decide), if_neg (by first | omega | decide), bL_isPart_162 (by first | omega | exact xB_in _ | exact xB_01 _ | exact iAnd_in | exact iShr_in | (simp only [Int.toNat_natCast]; omega) | decide) (by first | omega | exact xB_in _ | exact xB_01 _ | exact iAnd_in | exact iShr_in | (simp only [Int.toNat_natCast]; omega) | decide), bL_isPart_182 (by rw [pA57 hA]) (by rw [pA57 hA]; omega), Int.toNat_natCast, dv_skive hT.1 cls, xret_v, bL_isPart_197 (by first | omega | exact xB_in _ | exact xB_01 _ | exact iAnd_in | exact iShr_in | (simp only [Int.toNat_natCast]; omega) | decide), if_neg (by first | omega | decide), bL_isPart_207 (by first | omega | exact xB_in _ | exact xB_01 _ | exact iAnd_in | exact iShr_in | (simp only [Int.toNat_natCast]; omega) | decide), if_neg (by first | omega | decide), bL_isPart_217 (by first | omega | exact xB_in _ | exact xB_01 _ | exact iAnd_in | exact iShr_in | (simp only [Int.toNat_natCast]; omega) | decide), if_neg (by first | omega | decide), bL_isPart_222 (by first | omega | exact xB_in _ | exact xB_01 _ | exact iAnd_in | exact iShr_in | (simp only [Int.toNat_natCast]; omega) | decide) (by first | omega | exact xB_in _ | exact xB_01 _ | exact iAnd_in | exact iShr_in | (simp only [Int.toNat_natCast]; omega) | decide), bL_isPart_236 (va 5 (by decide)) (by omega), if_pos (by omega), bL_isPart_239, bL_isPart_244 (by first | omega | exact xB_in _ | exact xB_01 _ | exact iAnd_in | exact iShr_in | (simp only [Int.toNat_natCast]; omega) | decide)]
        revert ro rr e57 e58 e59 e60 eg ra
        generalize xup2 (xup2 V 57 p (V 57 p + 256 * (v - its / 256 % 16))) a 5 v = W
        intro ro rr e57 e58 e59 e60 eg ra
        obtain ⟨o1, o2, o3⟩ := pO_p e60
        obtain ⟨⟨k1, k2, k3⟩, ⟨k4, k5, k6, k7⟩, k8, k9⟩ := pk_s (y := V 57 p + 256 * (v - its / 256 % 16)) (x := V 57 p) (v := v) (by rw [a2]) b57 (by omega)
        have hv9 : 1 ≤ v ∧ v ≤ 9 := by clear k1 k2 k3 k4 k5 k6 k7 k8 k9; omega
        have hwi : 0 ≤ V 58 p ∧ V 58 p ≤ 1000 * ((i + 1 : Nat) : Int) := by clear k1 k2 k3 k4 k5 k6 k7 k8 k9; omega
        have g2 : qPa1 (i + 1) T z.1 W R p a := by
          unfold qPa1 aSt at g1 ⊢
          rw [e57, e58, e59, e60, eg, o1, o2, o3, k1, k2, k3, k4, k5, k6, k7]
          simp only [ra, Nat.reduceEqDiff, if_true, if_false]
          exact ⟨g1.1, ⟨w0, w1, w2, w3, trivial, w4⟩, ⟨w7, w8, w12⟩, g1.2.2.2.1, ⟨b0, b1, hv9, b8, k8, hwi⟩, ⟨g1.2.2.2.2.2.1.1, b60, fun q => s60 (k9 q)⟩, bt, w6⟩
        exact done_v (qInv_p hI (Nat.le_succ i) hP c ea ro rr g2)
      · have cls := clsOf (xup2 V 57 10 (V 57 10 + 0)) (xup2_o (by omega))
        rw [if_pos c2, if_neg (by omega)] at cls
        rw [bL_isPart_74 (by first | omega | exact xB_in _ | exact xB_01 _ | exact iAnd_in | exact iShr_in | (simp only [Int.toNat_natCast]; omega) | decide) (by first | omega | exact xB_in _ | exact xB_01 _ | exact iAnd_in | exact iShr_in | (simp only [Int.toNat_natCast]; omega) | decide), if_neg (by first | omega | decide), ev, bL_isPart_86 (by first | omega | exact xB_in _ | exact xB_01 _ | exact iAnd_in | exact iShr_in | (simp only [Int.toNat_natCast]; omega) | decide), if_neg (by first | omega | decide), bL_isPart_91 (by first | omega | exact xB_in _ | exact xB_01 _ | exact iAnd_in | exact iShr_in | (simp only [Int.toNat_natCast]; omega) | decide), if_neg (by first | omega | decide), bL_isPart_98 (by first | omega | exact xB_in _ | exact xB_01 _ | exact iAnd_in | exact iShr_in | (simp only [Int.toNat_natCast]; omega) | decide) (by first | omega | exact xB_in _ | exact xB_01 _ | exact iAnd_in | exact iShr_in | (simp only [Int.toNat_natCast]; omega) | decide) (by first | omega | exact xB_in _ | exact xB_01 _ | exact iAnd_in | exact iShr_in | (simp only [Int.toNat_natCast]; omega) | decide) (by first | omega | exact xB_in _ | exact xB_01 _ | exact iAnd_in | exact iShr_in | (simp only [Int.toNat_natCast]; omega) | decide), if_neg (by first | omega | decide), bL_isPart_112, bL_isPart_117 (by first | omega | exact xB_in _ | exact xB_01 _ | exact iAnd_in | exact iShr_in | (simp only [Int.toNat_natCast]; omega) | decide), if_neg (by first | omega | decide), bL_isPart_124 (by first | omega | exact xB_in _ | exact xB_01 _ | exact iAnd_in | exact iShr_in | (simp only [Int.toNat_natCast]; omega) | decide) (by first | omega | exact xB_in _ | exact xB_01 _ | exact iAnd_in | exact iShr_in | (simp only [Int.toNat_natCast]; omega) | decide) (by first | omega | exact xB_in _ | exact xB_01 _ | exact iAnd_in | exact iShr_in | (simp only [Int.toNat_natCast]; omega) | decide), if_neg (by first | omega | decide), bL_isPart_139, bL_isPart_140 (by first | omega | exact xB_in _ | exact xB_01 _ | exact iAnd_in | exact iShr_in | (simp only [Int.toNat_natCast]; omega) | decide), if_pos (by first | omega | decide), bL_isPart_153, bL_isPart_155 (by rw [pA57 hA]) (by rw [pA57 hA]; omega) (by first | omega | exact xB_in _ | exact xB_01 _ | exact iAnd_in | exact iShr_in | (simp only [Int.toNat_natCast]; omega) | decide), if_pos (by first | omega | decide), bL_isPart_181, bL_isPart_182 (by rw [pA57 hA]) (by rw [pA57 hA]; omega), show Int.toNat 10 = 10 from rfl, dx_skive hT.1 (by decide) cls, xret_v, bL_isPart_197 (by first | omega | exact xB_in _ | exact xB_01 _ | exact iAnd_in | exact iShr_in | (simp only [Int.toNat_natCast]; omega) | decide), if_neg (by first | omega | decide), bL_isPart_207 (by first | omega | exact xB_in _ | exact xB_01 _ | exact iAnd_in | exact iShr_in | (simp only [Int.toNat_natCast]; omega) | decide), if_neg (by first | omega | decide), bL_isPart_217 (by first | omega | exact xB_in _ | exact xB_01 _ | exact iAnd_in | exact iShr_in | (simp only [Int.toNat_natCast]; omega) | decide), if_pos (by first | omega | decide), bL_isPart_234, bL_isPart_236 (by decide) (by decide), if_pos (by decide), bL_isPart_239, bL_isPart_244 (by first | omega | exact xB_in _ | exact xB_01 _ | exact iAnd_in | exact iShr_in | (simp only [Int.toNat_natCast]; omega) | decide)]
        exact done_x hI (pDu_u (by decide))
    · have cls := clsOf (xup2 V 57 10 (V 57 10 + 0)) (xup2_o (by omega))
      rw [if_neg c2] at cls
      rw [bL_isPart_74 (by first | omega | exact xB_in _ | exact xB_01 _ | exact iAnd_in | exact iShr_in | (simp only [Int.toNat_natCast]; omega) | decide) (by first | omega | exact xB_in _ | exact xB_01 _ | exact iAnd_in | exact iShr_in | (simp only [Int.toNat_natCast]; omega) | decide), if_neg (by first | omega | decide), ev]
      by_cases d1 : v ≤ 0
      · rw [bL_isPart_86 (by first | omega | exact xB_in _ | exact xB_01 _ | exact iAnd_in | exact iShr_in | (simp only [Int.toNat_natCast]; omega) | decide), if_pos (by first | omega | decide), bL_isPart_116, bL_isPart_117 (by first | omega | exact xB_in _ | exact xB_01 _ | exact iAnd_in | exact iShr_in | (simp only [Int.toNat_natCast]; omega) | decide), if_pos (by first | omega | decide), bL_isPart_139, bL_isPart_140 (by first | omega | exact xB_in _ | exact xB_01 _ | exact iAnd_in | exact iShr_in | (simp only [Int.toNat_natCast]; omega) | decide), if_pos (by first | omega | decide), bL_isPart_153, bL_isPart_155 (by rw [pA57 hA]) (by rw [pA57 hA]; omega) (by first | omega | exact xB_in _ | exact xB_01 _ | exact iAnd_in | exact iShr_in | (simp only [Int.toNat_natCast]; omega) | decide), if_pos (by first | omega | decide), bL_isPart_181, bL_isPart_182 (by rw [pA57 hA]) (by rw [pA57 hA]; omega), show Int.toNat 10 = 10 from rfl, dx_skive hT.1 (by decide) cls, xret_v, bL_isPart_197 (by first | omega | exact xB_in _ | exact xB_01 _ | exact iAnd_in | exact iShr_in | (simp only [Int.toNat_natCast]; omega) | decide), if_neg (by first | omega | decide), bL_isPart_207 (by first | omega | exact xB_in _ | exact xB_01 _ | exact iAnd_in | exact iShr_in | (simp only [Int.toNat_natCast]; omega) | decide), if_pos (by first | omega | decide), bL_isPart_212, bL_isPart_236 (by decide) (by decide), if_pos (by decide), bL_isPart_239, bL_isPart_244 (by first | omega | exact xB_in _ | exact xB_01 _ | exact iAnd_in | exact iShr_in | (simp only [Int.toNat_natCast]; omega) | decide)]
        exact done_x hI (pDu_u (by decide))
      · by_cases d2 : 9 ≤ v
        · rw [bL_isPart_86 (by first | omega | exact xB_in _ | exact xB_01 _ | exact iAnd_in | exact iShr_in | (simp only [Int.toNat_natCast]; omega) | decide), if_neg (by first | omega | decide), bL_isPart_91 (by first | omega | exact xB_in _ | exact xB_01 _ | exact iAnd_in | exact iShr_in | (simp only [Int.toNat_natCast]; omega) | decide), if_pos (by first | omega | decide), bL_isPart_116, bL_isPart_117 (by first | omega | exact xB_in _ | exact xB_01 _ | exact iAnd_in | exact iShr_in | (simp only [Int.toNat_natCast]; omega) | decide), if_pos (by first | omega | decide), bL_isPart_139, bL_isPart_140 (by first | omega | exact xB_in _ | exact xB_01 _ | exact iAnd_in | exact iShr_in | (simp only [Int.toNat_natCast]; omega) | decide), if_pos (by first | omega | decide), bL_isPart_153, bL_isPart_155 (by rw [pA57 hA]) (by rw [pA57 hA]; omega) (by first | omega | exact xB_in _ | exact xB_01 _ | exact iAnd_in | exact iShr_in | (simp only [Int.toNat_natCast]; omega) | decide), if_pos (by first | omega | decide), bL_isPart_181, bL_isPart_182 (by rw [pA57 hA]) (by rw [pA57 hA]; omega), show Int.toNat 10 = 10 from rfl, dx_skive hT.1 (by decide) cls, xret_v, bL_isPart_197 (by first | omega | exact xB_in _ | exact xB_01 _ | exact iAnd_in | exact iShr_in | (simp only [Int.toNat_natCast]; omega) | decide), if_neg (by first | omega | decide), bL_isPart_207 (by first | omega | exact xB_in _ | exact xB_01 _ | exact iAnd_in | exact iShr_in | (simp only [Int.toNat_natCast]; omega) | decide), if_pos (by first | omega | decide), bL_isPart_212, bL_isPart_236 (by decide) (by decide), if_pos (by decide), bL_isPart_239, bL_isPart_244 (by first | omega | exact xB_in _ | exact xB_01 _ | exact iAnd_in | exact iShr_in | (simp only [Int.toNat_natCast]; omega) | decide)]
          exact done_x hI (pDu_u (by decide))
        · rw [bL_isPart_86 (by first | omega | exact xB_in _ | exact xB_01 _ | exact iAnd_in | exact iShr_in | (simp only [Int.toNat_natCast]; omega) | decide), if_neg (by first | omega | decide), bL_isPart_91 (by first | omega | exact xB_in _ | exact xB_01 _ | exact iAnd_in | exact iShr_in | (simp only [Int.toNat_natCast]; omega) | decide), if_neg (by first | omega | decide), bL_isPart_98 (by first | omega | exact xB_in _ | exact xB_01 _ | exact iAnd_in | exact iShr_in | (simp only [Int.toNat_natCast]; omega) | decide) (by first | omega | exact xB_in _ | exact xB_01 _ | exact iAnd_in | exact iShr_in | (simp only [Int.toNat_natCast]; omega) | decide) (by first | omega | exact xB_in _ | exact xB_01 _ | exact iAnd_in | exact iShr_in | (simp only [Int.toNat_natCast]; omega) | decide) (by first | omega | exact xB_in _ | exact xB_01 _ | exact iAnd_in | exact iShr_in | (simp only [Int.toNat_natCast]; omega) | decide), if_pos (by first | omega | decide), bL_isPart_116, bL_isPart_117 (by first | omega | exact xB_in _ | exact xB_01 _ | exact iAnd_in | exact iShr_in | (simp only [Int.toNat_natCast]; omega) | decide), if_pos (by first | omega | decide), bL_isPart_139, bL_isPart_140 (by first | omega | exact xB_in _ | exact xB_01 _ | exact iAnd_in | exact iShr_in | (simp only [Int.toNat_natCast]; omega) | decide), if_pos (by first | omega | decide), bL_isPart_153, bL_isPart_155 (by rw [pA57 hA]) (by rw [pA57 hA]; omega) (by first | omega | exact xB_in _ | exact xB_01 _ | exact iAnd_in | exact iShr_in | (simp only [Int.toNat_natCast]; omega) | decide), if_pos (by first | omega | decide), bL_isPart_181, bL_isPart_182 (by rw [pA57 hA]) (by rw [pA57 hA]; omega), show Int.toNat 10 = 10 from rfl, dx_skive hT.1 (by decide) cls, xret_v, bL_isPart_197 (by first | omega | exact xB_in _ | exact xB_01 _ | exact iAnd_in | exact iShr_in | (simp only [Int.toNat_natCast]; omega) | decide), if_neg (by first | omega | decide), bL_isPart_207 (by first | omega | exact xB_in _ | exact xB_01 _ | exact iAnd_in | exact iShr_in | (simp only [Int.toNat_natCast]; omega) | decide), if_pos (by first | omega | decide), bL_isPart_212, bL_isPart_236 (by decide) (by decide), if_pos (by decide), bL_isPart_239, bL_isPart_244 (by first | omega | exact xB_in _ | exact xB_01 _ | exact iAnd_in | exact iShr_in | (simp only [Int.toNat_natCast]; omega) | decide)]
          exact done_x hI (pDu_u (by decide))
  · have cls := s_skive_x (sc := sc) (d := 1) (T := T) (z := z) (V := xup2 V 57 10 (V 57 10 + 0)) (J := J) (R := R) (x := (p : Int)) (v := v) hT (by omega) (qp_no hP (by omega))
    rw [decide_eq_false c, bL_isPart_74 (by first | omega | exact xB_in _ | exact xB_01 _ | exact iAnd_in | exact iShr_in | (simp only [Int.toNat_natCast]; omega) | decide) (by first | omega | exact xB_in _ | exact xB_01 _ | exact iAnd_in | exact iShr_in | (simp only [Int.toNat_natCast]; omega) | decide), if_pos (by first | omega | decide), ev, bL_isPart_116, bL_isPart_117 (by first | omega | exact xB_in _ | exact xB_01 _ | exact iAnd_in | exact iShr_in | (simp only [Int.toNat_natCast]; omega) | decide), if_pos (by first | omega | decide), bL_isPart_139, bL_isPart_140 (by first | omega | exact xB_in _ | exact xB_01 _ | exact iAnd_in | exact iShr_in | (simp only [Int.toNat_natCast]; omega) | decide), if_pos (by first | omega | decide), bL_isPart_153, bL_isPart_155 (by rw [pA57 hA]) (by rw [pA57 hA]; omega) (by first | omega | exact xB_in _ | exact xB_01 _ | exact iAnd_in | exact iShr_in | (simp only [Int.toNat_natCast]; omega) | decide), if_pos (by first | omega | decide), bL_isPart_181, bL_isPart_182 (by rw [pA57 hA]) (by rw [pA57 hA]; omega), show Int.toNat 10 = 10 from rfl, dx_skive hT.1 (by decide) cls, xret_v, bL_isPart_197 (by first | omega | exact xB_in _ | exact xB_01 _ | exact iAnd_in | exact iShr_in | (simp only [Int.toNat_natCast]; omega) | decide), if_pos (by first | omega | decide), bL_isPart_202, bL_isPart_236 (by decide) (by decide), if_pos (by decide), bL_isPart_239, bL_isPart_244 (by first | omega | exact xB_in _ | exact xB_01 _ | exact iAnd_in | exact iShr_in | (simp only [Int.toNat_natCast]; omega) | decide)]
    exact done_x hI (pDu_u (by decide))
/-- pierce -/
theorem t_pierce {i : Nat} {one two : Int} (hI : qInv i T z V R) (hi : i ≤ 63) (h1 : 0 ≤ one ∧ one < 60000) (h2 : 0 ≤ two ∧ two < 60000) : qDone (X sc 11 107 [.ref 0, .ref 57, .ref 58, .ref 59, .ref 60, .ref 63, xw 1, xw one, xw two] (T, z, xv V, J, R)) i z := by
  obtain ⟨hT, hRo, hHs, hSs, hSe, hA⟩ := hI.1
  have hz := hI.2.1
  obtain ⟨P, hP⟩ := hI.2.2.2.1
  obtain ⟨⟨r1, r2, r3⟩, r4, ⟨r5, r5b⟩, r6, r7⟩ := id hP
  obtain ⟨p, its, a1, a2, a0, a3⟩ := pt_start (sc := sc) (d := 10) (T := T) (z := z) (V := V) (J := J) (R := R) (what := 1) (two := two) hA ⟨r1, r3⟩ (qp_b hP) h1
  obtain ⟨n, en⟩ : ∃ n : Nat, two % 28 = n := ⟨(two % 28).toNat, by omega⟩
  have hn : n ≤ 27 := by omega
  rw [a3, bL_isPart_67 (by first | omega | exact xB_in _ | exact xB_01 _ | exact iAnd_in | exact iShr_in | (simp only [Int.toNat_natCast]; omega) | decide), if_neg (by first | omega | decide), bL_isPart_245 (by first | omega | exact xB_in _ | exact xB_01 _ | exact iAnd_in | exact iShr_in | (simp only [Int.toNat_natCast]; omega) | decide), if_pos (by first | omega | decide)]
  by_cases c : p < P
  · rw [if_pos c] at a2
    obtain ⟨a, ea, ha, g1⟩ := qp_y hP c
    have va := qp_va g1 (by omega)
    have v01 := qp_01 g1
    have vg := qp_g g1
    have v11 := qp_11 g1
    obtain ⟨⟨hPa, ga, gn⟩, ⟨w0, w1, w2, w3, w5, w4⟩, ⟨w7, w8, w12⟩, ⟨w9, w10, w11⟩, ⟨b0, b1, b5, b8, b57, b58⟩, ⟨st, b60, s60⟩, ⟨b59, t2, t3⟩, w6⟩ := id g1
    have clsOf : ∀ W : Nat → Nat → Int, W a = V a → W (a + 1) = V (a + 1) → X sc 9 55 [.ref 0, xw p, xw n] (T, z, xv W, J, R) = if 3 ≤ (n : Int) ∧ (n : Int) ≤ 4 * V a 0 - 3 then (if xHN W (a + 1) n = true ∨ 0 < V a 8 ∨ ¬ V a 11 = -1 ∨ ¬ V a 12 = 0 then xTw 9 T z W J R else some (.inl (some (xw (xCn (xup2 (xup2 W (a + 1) n 1) a 6 (V a 6 + 1)) (a + 1) n 0))), (T, z, xv (xup2 (xup2 W (a + 1) n 1) a 6 (V a 6 + 1)), J, R))) else xTw 8 T z W J R := fun W hW hg => by
      have cls := s_pierce (sc := sc) (d := 1) (T := T) (z := z) (V := W) (J := J) (R := R) (x := (p : Int)) (n := (n : Int)) (a := a) (g := a + 1) hT (by omega) (by rw [Int.toNat_natCast]; exact ha) hPa (by rw [hg]; exact v01) (by rw [hW]; exact va) (by rw [hW]; exact b0) (by omega)
      rw [hW, Int.toNat_natCast] at cls
      exact cls
    rw [decide_eq_true c]
    by_cases c2 : 3 ≤ (n : Int) ∧ (n : Int) ≤ 4 * V a 0 - 3
    · have near := i_near (v := V 59 p) (n := n) (by omega) (by omega)
      have hnr : ∀ W : Nat → Nat → Int, W (a + 1) = V (a + 1) → (xHN W (a + 1) n = true ↔ ¬ iAnd (iShr (V 59 p) ((n : Int) - 1)) 7 = 0) := fun W hg => by
        unfold xHN
        rw [near, hg, show ((n : Int) - 1).toNat = n - 1 by omega, Int.toNat_natCast, show ((n : Int) + 1).toNat = n + 1 by omega, vg (n - 1) (by omega), vg n (by omega), vg (n + 1) (by omega)]
        cases iBt (V 59 p) (n - 1) <;> cases iBt (V 59 p) n <;> cases iBt (V 59 p) (n + 1) <;> decide
      by_cases c3 : iAnd (iShr (V 59 p) ((n : Int) - 1)) 7 = 0 ∧ its / 65536 % 8 = 0 ∧ V 60 p = 0 ∧ its < 524288
      · have hn30 : n < 30 := by omega
        have sp := iShl_p hn30
        have Wa : xup2 V 59 p (iOr (V 59 p) (iShl 1 (n : Int))) a = V a := xup2_o (by omega)
        have Wg : xup2 V 59 p (iOr (V 59 p) (iShl 1 (n : Int))) (a + 1) = V (a + 1) := xup2_o (by omega)
        have cls := clsOf _ Wa Wg
        have hN : ¬ xHN (xup2 V 59 p (iOr (V 59 p) (iShl 1 (n : Int)))) (a + 1) n = true := fun q => (hnr _ Wg).mp q c3.1
        rw [if_pos c2, if_neg (fun q => q.elim hN (fun q => q.elim (by omega) (fun q => q.elim (fun q => q (v11.mpr c3.2.2.1)) (by omega))))] at cls
        have bn := (near.mp c3.1).2.1
        have ob : ∀ q, q < 32 → iBt (iOr (V 59 p) (iShl 1 (n : Int))) q = (iBt (V 59 p) q || decide (q = n)) := fun q hq => by rw [i_or, i_one n (by omega) q hq]
        have oin := i_or_in (v := V 59 p) (w := iShl 1 (n : Int)) b59 (by
          rw [iShl_n n hn30]
          have : 2 ^ n < 2 ^ 28 := Nat.pow_lt_pow_right (by decide) (by omega)
          generalize 2 ^ n = y at this ⊢
          omega)
        have obs : ∀ q, ¬ q = n → iBt (iOr (V 59 p) (iShl 1 (n : Int))) q = iBt (V 59 p) q := fun q hq => by
          by_cases c32 : q < 32
          · rw [ob q c32, decide_eq_false hq, Bool.or_false]
          · rw [iBt_hi oin (by omega), iBt_hi b59 (by omega)]
        have obn : iBt (iOr (V 59 p) (iShl 1 (n : Int))) n = true := by rw [ob n (by omega), decide_eq_true rfl, Bool.or_true]
        generalize hw : iOr (V 59 p) (iShl 1 (n : Int)) = w at *
        have xc : xCn (xup2 (xup2 (xup2 V 59 p w) (a + 1) n 1) a 6 (V a 6 + 1)) (a + 1) n 0 = pMn (V 59 p) n 0 := xCn_pm n 0 (fun q _ hq => by rw [xup2_o (by omega), xup2_j (by omega), Wg]; exact vg q (by omega))
        rw [xc] at cls
        have go : ∀ b, ¬ b = a → ¬ b = a + 1 → xup2 (xup2 (xup2 V 59 p w) (a + 1) n 1) a 6 (V a 6 + 1) b = xup2 V 59 p w b := fun b hb hb2 => by rw [xup2_o hb, xup2_o hb2]
        have ro : ∀ b, ¬ b = a → ¬ b = a + 1 → ¬ (57 ≤ b ∧ b ≤ 60) → xup2 (xup2 (xup2 V 59 p w) (a + 1) n 1) a 6 (V a 6 + 1) b = V b := fun b b1 b2 b3 => by rw [go b b1 b2, xup2_o (by omega)]
        have rr : ∀ r q, 57 ≤ r → r ≤ 60 → ¬ q = p → xup2 (xup2 (xup2 V 59 p w) (a + 1) n 1) a 6 (V a 6 + 1) r q = V r q := fun r q r1 r2 hq => by
          rw [go r (by omega) (by omega)]
          by_cases e : r = 59
          · subst e; rw [xup2_j hq]
          · rw [xup2_o e]
        have e57 : xup2 (xup2 (xup2 V 59 p w) (a + 1) n 1) a 6 (V a 6 + 1) 57 p = V 57 p := by rw [go 57 (by omega) (by omega), xup2_o (by decide)]
        have e58 : xup2 (xup2 (xup2 V 59 p w) (a + 1) n 1) a 6 (V a 6 + 1) 58 p = V 58 p := by rw [go 58 (by omega) (by omega), xup2_o (by decide)]
        have e59 : xup2 (xup2 (xup2 V 59 p w) (a + 1) n 1) a 6 (V a 6 + 1) 59 p = w := by rw [go 59 (by omega) (by omega), xup2_i]
        have e60 : xup2 (xup2 (xup2 V 59 p w) (a + 1) n 1) a 6 (V a 6 + 1) 60 p = V 60 p := by rw [go 60 (by omega) (by omega), xup2_o (by decide)]
        have eg : ∀ k, xup2 (xup2 (xup2 V 59 p w) (a + 1) n 1) a 6 (V a 6 + 1) (a + 1) k = if k = n then 1 else V (a + 1) k := fun k => by
          rw [xup2_o (by omega)]
          by_cases e : k = n
          · subst e; rw [xup2_i, if_pos rfl]
          · rw [xup2_j e, if_neg e, Wg]
        have ra : ∀ j, xup2 (xup2 (xup2 V 59 p w) (a + 1) n 1) a 6 (V a 6 + 1) a j = if j = 6 then V a 6 + 1 else V a j := fun j => by
          by_cases e : j = 6
          · subst e; rw [xup2_i, if_pos rfl]
          · rw [xup2_j e, if_neg e, xup2_o (by omega), Wa]
        have nin := pMn_in (v := V 59 p) n 0
        rw [bL_isPart_251 (by first | omega | exact xB_in _ | exact xB_01 _ | exact iAnd_in | exact iShr_in | (simp only [Int.toNat_natCast]; omega) | decide) (by first | omega | exact xB_in _ | exact xB_01 _ | exact iAnd_in | exact iShr_in | (simp only [Int.toNat_natCast]; omega) | decide), if_neg (by first | omega | decide), en, bL_isPart_263 (by first | omega | exact xB_in _ | exact xB_01 _ | exact iAnd_in | exact iShr_in | (simp only [Int.toNat_natCast]; omega) | decide), if_neg (by first | omega | decide), bL_isPart_269 (by first | omega | exact xB_in _ | exact xB_01 _ | exact iAnd_in | exact iShr_in | (simp only [Int.toNat_natCast]; omega) | decide) (by first | omega | exact xB_in _ | exact xB_01 _ | exact iAnd_in | exact iShr_in | (simp only [Int.toNat_natCast]; omega) | decide) (by first | omega | exact xB_in _ | exact xB_01 _ | exact iAnd_in | exact iShr_in | (simp only [Int.toNat_natCast]; omega) | decide), if_neg (by first | omega | decide), bL_isPart_283, bL_isPart_288 (by first | omega | exact xB_in _ | exact xB_01 _ | exact iAnd_in | exact iShr_in | (simp only [Int.toNat_natCast]; omega) | decide), if_neg (by first | omega | decide), bL_isPart_295 (by rw [pA59 hA]) (by rw [pA59 hA]; omega), Int.toNat_natCast, bL_isPart_311 (by first | omega | exact xB_in _ | exact xB_01 _ | exact iAnd_in | exact iShr_in | (simp only [Int.toNat_natCast]; omega) | decide), if_neg (by first | omega | decide), bL_isPart_318 (by first | omega | exact xB_in _ | exact xB_01 _ | exact iAnd_in | exact iShr_in | (simp only [Int.toNat_natCast]; omega) | decide), if_pos (by first | omega | decide), bL_isPart_323 (by first | omega | exact xB_in _ | exact xB_01 _ | exact iAnd_in | exact iShr_in | (simp only [Int.toNat_natCast]; omega) | decide) (by first | omega | exact xB_in _ | exact xB_01 _ | exact iAnd_in | exact iShr_in | (simp only [Int.toNat_natCast]; omega) | decide) (by first | omega | exact xB_in _ | exact xB_01 _ | exact iAnd_in | exact iShr_in | (simp only [Int.toNat_natCast]; omega) | decide), if_pos (by first | omega | decide), decide_eq_true (show p < P ∧ V 60 p = 0 ∧ its < 524288 from ⟨c, c3.2.2⟩), bL_isPart_334 (by first | omega | exact xB_in _ | exact xB_01 _ | exact iAnd_in | exact iShr_in | (simp only [Int.toNat_natCast]; omega) | decide), if_neg (by first | omega | decide), bL_isPart_339, bL_isPart_344 (by first | omega | exact xB_in _ | exact xB_01 _ | exact iAnd_in | exact iShr_in | (simp only [Int.toNat_natCast]; omega) | decide), if_neg (by first | omega | decide), bL_isPart_351 (by rw [pA59 hA]) (by rw [pA59 hA]; omega) (by rw [Int.toNat_natCast]; omega), Int.toNat_natCast, l_many, xret_v, pMn_md b59.1 hn30, bL_isPart_363, bL_isPart_367 (by decide), if_neg (by decide), bL_isPart_375, bL_isPart_382 (by rw [pA59 hA]) (by rw [pA59 hA]; omega), Int.toNat_natCast, hw, dv_pierce hT.1 cls, xret_v, bL_isPart_403 (by first | omega | exact xB_in _ | exact xB_01 _ | exact iAnd_in | exact iShr_in | (simp only [Int.toNat_natCast]; omega) | decide), if_neg (by first | omega | decide), bL_isPart_413 (by first | omega | exact xB_in _ | exact xB_01 _ | exact iAnd_in | exact iShr_in | (simp only [Int.toNat_natCast]; omega) | decide), if_neg (by first | omega | decide), bL_isPart_423 (by first | omega | exact xB_in _ | exact xB_01 _ | exact iAnd_in | exact iShr_in | (simp only [Int.toNat_natCast]; omega) | decide), if_neg (by first | omega | decide), bL_isPart_428, bL_isPart_435 (by omega) (by omega), if_pos rfl, bL_isPart_438, bL_isPart_443 (by first | omega | exact xB_in _ | exact xB_01 _ | exact iAnd_in | exact iShr_in | (simp only [Int.toNat_natCast]; omega) | decide)]
        revert ro rr e57 e58 e59 e60 eg ra
        clear xc go cls
        generalize xup2 (xup2 (xup2 V 59 p w) (a + 1) n 1) a 6 (V a 6 + 1) = W
        intro ro rr e57 e58 e59 e60 eg ra
        obtain ⟨o1, o2, o3⟩ := pO_p e60
        have g2 : qPa1 (i + 1) T z.1 W R p a := by
          have ps := pMn_s obn bn obs 30 0 (Nat.zero_le n) (by omega)
          unfold qPa1 aSt at g1 ⊢
          rw [e57, e58, e59, e60, o1, o2, o3]
          simp only [ra, Nat.reduceEqDiff, if_true, if_false]
          refine ⟨g1.1, g1.2.1, g1.2.2.1, g1.2.2.2.1, ⟨b0, b1, b5, b8, b57, by omega⟩, g1.2.2.2.2.2.1, ⟨oin, fun k hk => ?_, fun k hk q => ?_⟩, by omega⟩
          · rw [eg k]
            by_cases e : k = n
            · subst e; rw [if_pos rfl, if_pos ⟨by omega, obn⟩]
            · rw [if_neg e, obs k e]; exact t2 k hk
          · by_cases e : k = n
            · subst e; omega
            · rw [obs k e] at q; exact t3 k hk q
        exact done_v (qInv_p hI (Nat.le_succ i) hP c ea ro rr g2)
      · have cls := clsOf (xup2 V 59 10 (iOr (V 59 10) (iShl 1 (n : Int)))) (xup2_o (by omega)) (xup2_o (by omega))
        have hn' := hnr (xup2 V 59 10 (iOr (V 59 10) (iShl 1 (n : Int)))) (xup2_o (by omega))
        have thr : xHN (xup2 V 59 10 (iOr (V 59 10) (iShl 1 (n : Int)))) (a + 1) n = true ∨ 0 < V a 8 ∨ ¬ V a 11 = -1 ∨ ¬ V a 12 = 0 := by
          by_cases q1 : iAnd (iShr (V 59 p) ((n : Int) - 1)) 7 = 0
          · refine Or.inr ?_
            by_cases q2 : its / 65536 % 8 = 0
            · refine Or.inr ?_
              by_cases q3 : V 60 p = 0
              · exact Or.inr (by have := c3; omega)
              · exact Or.inl (fun q => q3 (v11.mp q))
            · exact Or.inl (by omega)
          · exact Or.inl (hn'.mpr q1)
        rw [if_pos c2, if_pos thr] at cls
        have fin : ∀ o15 : Option Value, ∀ o12 : Option Value, qDone (XR sc 10 107 343 [some (.ref 0), some (.ref 57), some (.ref 58), some (.ref 59), some (.ref 60), some (.ref 63), some (xw 1), some (xw one), some (xw two), some (xw p), some (xw (xB true)), some (xw its), o12, some (xw n), some (xw 1), o15, none, none, none, none, none, none] [] (T, z, xv V, J, R)) i z := fun o15 o12 => by
          rw [bL_isPart_343, bL_isPart_344 (by first | omega | exact xB_in _ | exact xB_01 _ | exact iAnd_in | exact iShr_in | (simp only [Int.toNat_natCast]; omega) | decide), if_pos (by first | omega | decide), bL_isPart_366, bL_isPart_367 (by decide), if_pos rfl, bL_isPart_380, bL_isPart_382 (by rw [pA59 hA]) (by rw [pA59 hA]; omega), show Int.toNat 10 = 10 from rfl, dx_pierce hT.1 (by decide) cls, xret_v, bL_isPart_403 (by first | omega | exact xB_in _ | exact xB_01 _ | exact iAnd_in | exact iShr_in | (simp only [Int.toNat_natCast]; omega) | decide), if_neg (by first | omega | decide), bL_isPart_413 (by first | omega | exact xB_in _ | exact xB_01 _ | exact iAnd_in | exact iShr_in | (simp only [Int.toNat_natCast]; omega) | decide), if_neg (by first | omega | decide), bL_isPart_423 (by first | omega | exact xB_in _ | exact xB_01 _ | exact iAnd_in | exact iShr_in | (simp only [Int.toNat_natCast]; omega) | decide), if_pos (by first | omega | decide), bL_isPart_433, bL_isPart_435 (by decide) (by decide), if_pos (by decide), bL_isPart_438, bL_isPart_443 (by first | omega | exact xB_in _ | exact xB_01 _ | exact iAnd_in | exact iShr_in | (simp only [Int.toNat_natCast]; omega) | decide)]
          exact done_x hI (pDu_u (by decide))
        rw [bL_isPart_251 (by first | omega | exact xB_in _ | exact xB_01 _ | exact iAnd_in | exact iShr_in | (simp only [Int.toNat_natCast]; omega) | decide) (by first | omega | exact xB_in _ | exact xB_01 _ | exact iAnd_in | exact iShr_in | (simp only [Int.toNat_natCast]; omega) | decide), if_neg (by first | omega | decide), en, bL_isPart_263 (by first | omega | exact xB_in _ | exact xB_01 _ | exact iAnd_in | exact iShr_in | (simp only [Int.toNat_natCast]; omega) | decide), if_neg (by first | omega | decide), bL_isPart_269 (by first | omega | exact xB_in _ | exact xB_01 _ | exact iAnd_in | exact iShr_in | (simp only [Int.toNat_natCast]; omega) | decide) (by first | omega | exact xB_in _ | exact xB_01 _ | exact iAnd_in | exact iShr_in | (simp only [Int.toNat_natCast]; omega) | decide) (by first | omega | exact xB_in _ | exact xB_01 _ | exact iAnd_in | exact iShr_in | (simp only [Int.toNat_natCast]; omega) | decide), if_neg (by first | omega | decide), bL_isPart_283, bL_isPart_288 (by first | omega | exact xB_in _ | exact xB_01 _ | exact iAnd_in | exact iShr_in | (simp only [Int.toNat_natCast]; omega) | decide), if_neg (by first | omega | decide), bL_isPart_295 (by rw [pA59 hA]) (by rw [pA59 hA]; omega), Int.toNat_natCast, bL_isPart_311 (by first | omega | exact xB_in _ | exact xB_01 _ | exact iAnd_in | exact iShr_in | (simp only [Int.toNat_natCast]; omega) | decide), if_neg (by first | omega | decide)]
        by_cases q1 : iAnd (iShr (V 59 p) ((n : Int) - 1)) 7 = 0
        · rw [bL_isPart_318 (by first | omega | exact xB_in _ | exact xB_01 _ | exact iAnd_in | exact iShr_in | (simp only [Int.toNat_natCast]; omega) | decide), if_pos (by first | omega | decide)]
          by_cases q2 : its / 65536 % 8 = 0
          · rw [bL_isPart_323 (by first | omega | exact xB_in _ | exact xB_01 _ | exact iAnd_in | exact iShr_in | (simp only [Int.toNat_natCast]; omega) | decide) (by first | omega | exact xB_in _ | exact xB_01 _ | exact iAnd_in | exact iShr_in | (simp only [Int.toNat_natCast]; omega) | decide) (by first | omega | exact xB_in _ | exact xB_01 _ | exact iAnd_in | exact iShr_in | (simp only [Int.toNat_natCast]; omega) | decide), if_pos (by first | omega | decide), decide_eq_false (show ¬ (p < P ∧ V 60 p = 0 ∧ its < 524288) from fun q => c3 ⟨q1, q2, q.2⟩), bL_isPart_334 (by first | omega | exact xB_in _ | exact xB_01 _ | exact iAnd_in | exact iShr_in | (simp only [Int.toNat_natCast]; omega) | decide), if_pos (by first | omega | decide)]
            exact fin _ _
          · rw [bL_isPart_323 (by first | omega | exact xB_in _ | exact xB_01 _ | exact iAnd_in | exact iShr_in | (simp only [Int.toNat_natCast]; omega) | decide) (by first | omega | exact xB_in _ | exact xB_01 _ | exact iAnd_in | exact iShr_in | (simp only [Int.toNat_natCast]; omega) | decide) (by first | omega | exact xB_in _ | exact xB_01 _ | exact iAnd_in | exact iShr_in | (simp only [Int.toNat_natCast]; omega) | decide), if_neg (by first | omega | decide)]; exact fin _ _
        · rw [bL_isPart_318 iAnd_in, if_neg q1]; exact fin _ _
    · have cls := clsOf (xup2 V 59 10 (iOr (V 59 10) (iShl 1 (n : Int)))) (xup2_o (by omega)) (xup2_o (by omega))
      rw [if_neg c2] at cls
      have fin : ∀ o12 : Option Value, qDone (XR sc 10 107 287 [some (.ref 0), some (.ref 57), some (.ref 58), some (.ref 59), some (.ref 60), some (.ref 63), some (xw 1), some (xw one), some (xw two), some (xw p), some (xw (xB true)), some (xw its), o12, some (xw n), none, none, none, none, none, none, none, none] [] (T, z, xv V, J, R)) i z := fun o12 => by
        rw [bL_isPart_287, bL_isPart_288 (by first | omega | exact xB_in _ | exact xB_01 _ | exact iAnd_in | exact iShr_in | (simp only [Int.toNat_natCast]; omega) | decide), if_pos (by first | omega | decide), bL_isPart_310, bL_isPart_311 (by first | omega | exact xB_in _ | exact xB_01 _ | exact iAnd_in | exact iShr_in | (simp only [Int.toNat_natCast]; omega) | decide), if_pos (by first | omega | decide), bL_isPart_343, bL_isPart_344 (by first | omega | exact xB_in _ | exact xB_01 _ | exact iAnd_in | exact iShr_in | (simp only [Int.toNat_natCast]; omega) | decide), if_pos (by first | omega | decide), bL_isPart_366, bL_isPart_367 (by decide), if_pos rfl, bL_isPart_380, bL_isPart_382 (by rw [pA59 hA]) (by rw [pA59 hA]; omega), show Int.toNat 10 = 10 from rfl, dx_pierce hT.1 (by decide) cls, xret_v, bL_isPart_403 (by first | omega | exact xB_in _ | exact xB_01 _ | exact iAnd_in | exact iShr_in | (simp only [Int.toNat_natCast]; omega) | decide), if_neg (by first | omega | decide), bL_isPart_413 (by first | omega | exact xB_in _ | exact xB_01 _ | exact iAnd_in | exact iShr_in | (simp only [Int.toNat_natCast]; omega) | decide), if_pos (by first | omega | decide), bL_isPart_418, bL_isPart_435 (by decide) (by decide), if_pos (by decide), bL_isPart_438, bL_isPart_443 (by first | omega | exact xB_in _ | exact xB_01 _ | exact iAnd_in | exact iShr_in | (simp only [Int.toNat_natCast]; omega) | decide)]
        exact done_x hI (pDu_u (by decide))
      rw [bL_isPart_251 (by first | omega | exact xB_in _ | exact xB_01 _ | exact iAnd_in | exact iShr_in | (simp only [Int.toNat_natCast]; omega) | decide) (by first | omega | exact xB_in _ | exact xB_01 _ | exact iAnd_in | exact iShr_in | (simp only [Int.toNat_natCast]; omega) | decide), if_neg (by first | omega | decide), en]
      by_cases d1 : n ≤ 2
      · rw [bL_isPart_263 (by first | omega | exact xB_in _ | exact xB_01 _ | exact iAnd_in | exact iShr_in | (simp only [Int.toNat_natCast]; omega) | decide), if_pos (by first | omega | decide)]; exact fin _
      · rw [bL_isPart_263 (by first | omega | exact xB_in _ | exact xB_01 _ | exact iAnd_in | exact iShr_in | (simp only [Int.toNat_natCast]; omega) | decide), if_neg (by first | omega | decide), bL_isPart_269 (by first | omega | exact xB_in _ | exact xB_01 _ | exact iAnd_in | exact iShr_in | (simp only [Int.toNat_natCast]; omega) | decide) (by first | omega | exact xB_in _ | exact xB_01 _ | exact iAnd_in | exact iShr_in | (simp only [Int.toNat_natCast]; omega) | decide) (by first | omega | exact xB_in _ | exact xB_01 _ | exact iAnd_in | exact iShr_in | (simp only [Int.toNat_natCast]; omega) | decide), if_pos (by first | omega | decide)]; exact fin _
  · have cls := s_pierce_x (sc := sc) (d := 1) (T := T) (z := z) (V := xup2 V 59 10 (iOr (V 59 10) (iShl 1 (n : Int)))) (J := J) (R := R) (x := (p : Int)) (n := (n : Int)) hT (by omega) (qp_no hP (by omega))
    rw [decide_eq_false c, bL_isPart_251 (by first | omega | exact xB_in _ | exact xB_01 _ | exact iAnd_in | exact iShr_in | (simp only [Int.toNat_natCast]; omega) | decide) (by first | omega | exact xB_in _ | exact xB_01 _ | exact iAnd_in | exact iShr_in | (simp only [Int.toNat_natCast]; omega) | decide), if_pos (by first | omega | decide), en, bL_isPart_287, bL_isPart_288 (by first | omega | exact xB_in _ | exact xB_01 _ | exact iAnd_in | exact iShr_in | (simp only [Int.toNat_natCast]; omega) | decide), if_pos (by first | omega | decide), bL_isPart_310, bL_isPart_311 (by first | omega | exact xB_in _ | exact xB_01 _ | exact iAnd_in | exact iShr_in | (simp only [Int.toNat_natCast]; omega) | decide), if_pos (by first | omega | decide), bL_isPart_343, bL_isPart_344 (by first | omega | exact xB_in _ | exact xB_01 _ | exact iAnd_in | exact iShr_in | (simp only [Int.toNat_natCast]; omega) | decide), if_pos (by first | omega | decide), bL_isPart_366, bL_isPart_367 (by decide), if_pos rfl, bL_isPart_380, bL_isPart_382 (by rw [pA59 hA]) (by rw [pA59 hA]; omega), show Int.toNat 10 = 10 from rfl, dx_pierce hT.1 (by decide) cls, xret_v, bL_isPart_403 (by first | omega | exact xB_in _ | exact xB_01 _ | exact iAnd_in | exact iShr_in | (simp only [Int.toNat_natCast]; omega) | decide), if_pos (by first | omega | decide), bL_isPart_408, bL_isPart_435 (by decide) (by decide), if_pos (by decide), bL_isPart_438, bL_isPart_443 (by first | omega | exact xB_in _ | exact xB_01 _ | exact iAnd_in | exact iShr_in | (simp only [Int.toNat_natCast]; omega) | decide)]
    exact done_x hI (pDu_u (by decide))
end P15
