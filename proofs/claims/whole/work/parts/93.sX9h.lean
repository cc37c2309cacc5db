/-! the law's cases: sew, buckle, pierce -/
theorem xup2_comm {α : Type} {f : Nat → Nat → α} {a k b j : Nat} {v w : α} (h : ¬ (a = b ∧ k = j)) : xup2 (xup2 f a k v) b j w = xup2 (xup2 f b j w) a k v := by
  funext x y
  unfold xup2
  by_cases e1 : x = b ∧ y = j
  · rw [if_pos e1, if_neg (fun q => h ⟨q.1.symm.trans e1.1, q.2.symm.trans e1.2⟩), if_pos e1]
  · rw [if_neg e1]
    by_cases e2 : x = a ∧ y = k
    · rw [if_pos e2, if_pos e2]
    · rw [if_neg e2, if_neg e2, if_neg e1]
theorem xPm_cut {j : Int64} : ∀ m e k l, (∀ q, k + m ≤ q → q < k + m + e → xBt j q = false) → xPm j (m + e) k l = xPm j m k l := by
  intro m
  induction m with
  | zero =>
    intro e
    induction e with
    | zero => intro k l _; rfl
    | succ e ih2 =>
      intro k l h
      have u : xPm j (0 + (e + 1)) k l = if xBt j k = true then (if l = 0 then (k : Int) else xPm j (0 + e) (k + 1) (l - 1)) else xPm j (0 + e) (k + 1) l := rfl
      rw [u, h k (by omega) (by omega), if_neg (by decide), ih2 (k + 1) l (fun q a b => h q (by omega) (by omega))]
      rfl
  | succ m ih =>
    intro e k l h
    rw [show m + 1 + e = (m + e) + 1 by omega, xPm, xPm, ih e (k + 1) (l - 1) (fun q a b => h q (by omega) (by omega)), ih e (k + 1) l (fun q a b => h q (by omega) (by omega))]
theorem xPm_or {j : Int64} : ∀ m k l, 0 ≤ l → (xPm j m k l = -1 ∧ xHc j m k ≤ l) ∨ (l < xHc j m k ∧ ∃ r : Nat, xPm j m k l = r ∧ k ≤ r ∧ r < k + m ∧ xBt j r = true) := by
  intro m
  induction m with
  | zero => intro k l hl; exact Or.inl ⟨rfl, hl⟩
  | succ m ih =>
    intro k l hl
    rw [xPm, xHc]
    have q := xHc_in (j := j) m (k + 1)
    by_cases c : xBt j k = true
    · rw [if_pos c, if_pos c]
      by_cases c2 : l = 0
      · rw [if_pos c2]; exact Or.inr ⟨by omega, k, rfl, Nat.le_refl k, by omega, c⟩
      · rw [if_neg c2]
        rcases ih (k + 1) (l - 1) (by omega) with h | ⟨h, r, h1, h2, h3, h4⟩
        · exact Or.inl ⟨h.1, by omega⟩
        · exact Or.inr ⟨by omega, r, h1, by omega, by omega, h4⟩
    · rw [if_neg c, if_neg c]
      rcases ih (k + 1) l hl with h | ⟨h, r, h1, h2, h3, h4⟩
      · exact Or.inl ⟨h.1, by omega⟩
      · exact Or.inr ⟨by omega, r, h1, by omega, by omega, h4⟩
theorem xPl_pm {V : Nat → Nat → Int} {g : Nat} {j : Int64} : ∀ m k l, (∀ q, k ≤ q → q < k + m → V g q = if xBt j q = true then 1 else 0) → xPl V g m k l = xPm j m k l := by
  intro m
  induction m with
  | zero => intro k l _; rfl
  | succ m ih =>
    intro k l h
    rw [xPl, xPm, h k (Nat.le_refl k) (by omega), ih (k + 1) l (fun q a b => h q (by omega) (by omega)), ih (k + 1) (l - 1) (fun q a b => h q (by omega) (by omega))]
    by_cases c : xBt j k = true
    · rw [if_pos c, if_pos c, if_neg (by decide)]
    · rw [if_neg c, if_neg c, if_pos rfl]
theorem xCn_eq {V : Nat → Nat → Int} {g : Nat} {j : Int64} : ∀ m k, (∀ q, k ≤ q → q < k + m → V g q = if xBt j q = true then 1 else 0) → xCn V g m k = xHc j m k := by
  intro m
  induction m with
  | zero => intro k _; rfl
  | succ m ih =>
    intro k h
    rw [xCn, xHc, h k (Nat.le_refl k) (by omega), ih (k + 1) (fun q a b => h q (by omega) (by omega))]
    by_cases c : xBt j k = true
    · rw [if_pos c, if_neg (by decide)]
    · rw [if_neg c, if_pos rfl]
theorem xHc_or {j : Int64} {n : Nat} (hn : n < 64) (h0 : xBt j n = false) : ∀ m k, k + m ≤ 64 → xHc (j ||| jShl (Int64.ofNat 1) (n : Int)) m k = xHc j m k + if k ≤ n ∧ n < k + m then 1 else 0 := by
  intro m
  induction m with
  | zero => intro k _; rw [if_neg (by omega)]; rfl
  | succ m ih =>
    intro k hk
    rw [xHc, xHc, ih (k + 1) (by omega), j_or (by omega) (by omega), Int.toNat_natCast]
    by_cases e : k = n
    · subst e; rw [h0, decide_eq_true rfl, if_pos (by decide), if_neg (by omega), if_neg (by decide), if_pos (by omega)]; omega
    · rw [decide_eq_false e, Bool.or_false]
      by_cases c : k ≤ n ∧ n < k + (m + 1)
      · rw [if_pos c, if_pos (show k + 1 ≤ n ∧ n < k + 1 + m by omega)]; omega
      · rw [if_neg c, if_neg (show ¬ (k + 1 ≤ n ∧ n < k + 1 + m) by omega)]; omega
section SX9h
variable {sc : xS} {i : Nat} {T : Nat → Nat × Nat} {z : Nat × Nat} {V : Nat → Nat → Int} {J : Nat → Nat → Int64} {R : Nat → Nat → Option Nat}
theorem sew_one {P p a : Nat} (hI : iInv i T z V J R) (hi : i ≤ 513) (hP : iPar i T z.1 V J R P) (hp : p < P) (ea : xp R p = a) (h66 : V 66 p ≤ 3) : iInv i T z (xup2 (xup2 V a 8 (V a 8 + 1)) 66 p (V 66 p + 1)) J R := by
  have mr := hP.2.1
  have hP40 := hP.1
  have p40 : p < 40 := by omega
  obtain ⟨a', ea', ha, h1⟩ := pt_y hP hp
  obtain rfl : a' = a := ea'.symm.trans ea
  obtain ⟨⟨hPa, ga, gn⟩, ⟨w0, w1, w2, w3, w5, w4⟩, ⟨w7, w8, w12⟩, ⟨w9, w10, w11⟩, ⟨b59, b60, b61, b65⟩, st, wh, bt, w6⟩ := id h1
  obtain ⟨l59, l60, l61, l62, l63, l65, l66, l67, l68, l69, l70⟩ := mr.2 p p40
  have ro : ∀ b, ¬ b = a' → ¬ b = 66 → xup2 (xup2 V a' 8 (V a' 8 + 1)) 66 p (V 66 p + 1) b = V b := fun b b1 b3 => by rw [xup2_o b3, xup2_o b1]
  have r56 : ∀ j, ¬ j = 28 → xup2 (xup2 V a' 8 (V a' 8 + 1)) 66 p (V 66 p + 1) 56 j = V 56 j := fun j hj => by rw [xup2_o (by decide), xup2_o (by omega)]
  have rr : ∀ r q, 59 ≤ r → r < 71 → ¬ q = p → xup2 (xup2 V a' 8 (V a' 8 + 1)) 66 p (V 66 p + 1) r q = V r q := fun r q r1 r2 hq => by
    by_cases e : r = 66
    · subst e; rw [xup2_j hq, xup2_o (by omega)]
    · rw [ro r (by omega) e]
  have r66 : xup2 (xup2 V a' 8 (V a' 8 + 1)) 66 p (V 66 p + 1) 66 p = V 66 p + 1 := xup2_i
  have ra : ∀ j, xup2 (xup2 V a' 8 (V a' 8 + 1)) 66 p (V 66 p + 1) a' j = if j = 8 then V a' 8 + 1 else V a' j := fun j => by
    rw [xup2_o (by omega)]
    by_cases e : j = 8
    · subst e; rw [xup2_i, if_pos rfl]
    · rw [xup2_j e, if_neg e]
  generalize xup2 (xup2 V a' 8 (V a' 8 + 1)) 66 p (V 66 p + 1) = W at *
  refine iInv_p hI ⟨Nat.le_refl i, hi⟩ hP hp ea (fun b b1 b2 b3 b4 => ro b b1 (by omega)) r56 rr (fun q hq => rfl) ?_ (xMr_u (p := p) mr (r56 3 (by decide)) rr ?_)
  · unfold iPa1 aSt at h1 ⊢
    rw [ro 59 (by omega) (by decide), ro 60 (by omega) (by decide), ro 61 (by omega) (by decide), ro 62 (by omega) (by decide), ro 63 (by omega) (by decide), ro 65 (by omega) (by decide), r66, ro 67 (by omega) (by decide), ro 68 (by omega) (by decide), ro 69 (by omega) (by decide), ro 70 (by omega) (by decide), ro (a' + 1) (by omega) (by omega)]
    simp only [ra, Nat.reduceEqDiff, if_true, if_false]
    exact ⟨h1.1, h1.2.1, ⟨w7, by omega, w12⟩, h1.2.2.2.1, ⟨b59, b60, b61, by omega⟩, h1.2.2.2.2.2⟩
  · rw [ro 59 (by omega) (by decide), ro 60 (by omega) (by decide), ro 61 (by omega) (by decide), ro 62 (by omega) (by decide), ro 63 (by omega) (by decide), ro 65 (by omega) (by decide), r66, ro 67 (by omega) (by decide), ro 68 (by omega) (by decide), ro 69 (by omega) (by decide), ro 70 (by omega) (by decide)]
    exact ⟨l59, l60, l61, l62, l63, l65, by omega, l67, l68, l69, l70⟩
theorem sew_eq {P p a : Nat} (hP : iPar i T z.1 V J R P) (hp : p < P) (h1 : iPa1 i T z.1 V J R p a) : xSew V a = xSw2 V p := by
  obtain ⟨⟨hPa, ga, gn⟩, ⟨w0, w1, w2, w3, w5, w4⟩, ⟨w7, w8, w12⟩, ⟨w9, w10, w11⟩, ⟨b59, b60, b61, b65⟩, st, wh, bt, w6⟩ := id h1
  have st' : V 68 p = -1 ↔ V a 11 = -1 := by unfold aSt at st; omega
  unfold xSew xSw2
  rw [w8, w12]
  by_cases c : V 68 p = -1
  · rw [if_pos c, if_pos (st'.mp c)]
  · rw [if_neg c, if_neg (fun q => c (st'.mpr q))]
theorem c_sew {x y k t : Int} (hI : iInv i T z V J R) (hi : i ≤ 512) (hx : (-2147483648 ≤ x ∧ x ≤ 2147483647)) (hy : (-2147483648 ≤ y ∧ y ≤ 2147483647)) (hk : (-2147483648 ≤ k ∧ k ≤ 2147483647)) (ht : (-2147483648 ≤ t ∧ t ≤ 2147483647)) : iCs sc i 65 131 [xw x, xw y, xw k, xw t] k123 T z V J R := by
  obtain ⟨⟨hT, hR, hH, hS, hE, hM, h81⟩, hz, hH9, hP9, hO⟩ := id hI
  obtain ⟨P, hP⟩ := id hP9
  have mr := hP.2.1
  have hP40 := hP.1
  by_cases c : 0 ≤ x ∧ x < V 56 3
  · obtain ⟨p, rfl⟩ : ∃ m : Nat, x = m := ⟨x.toNat, by omega⟩
    have pP : p < P := by omega
    have p40 : p < 40 := by omega
    obtain ⟨a, ea, ha, h1⟩ := pt_y hP pP
    have va := pt_va mr p40 h1
    have hx40 : 0 ≤ (p : Int) ∧ (p : Int) < 40 := by omega
    have ha' : R 2 (p : Int).toNat = some a := by rw [Int.toNat_natCast]; exact ha
    by_cases c2 : 0 ≤ y ∧ y < V 56 3
    · obtain ⟨q, rfl⟩ : ∃ m : Nat, y = m := ⟨y.toNat, by omega⟩
      have qP : q < P := by omega
      have q40 : q < 40 := by omega
      obtain ⟨b, eb, hb, h2⟩ := pt_y hP qP
      have vb := pt_va mr q40 h2
      have ab : ¬ (p : Int) = (q : Int) → ¬ a = b := fun n e => n (by rw [hP.2.2.2.2 p q pP qP (by rw [ea, eb, e])])
      have sa := sew_eq hP pP h1
      have sb := sew_eq hP qP h2
      obtain ⟨⟨hPa, ga, gn⟩, ⟨w0, w1, w2, w3, w5, w4⟩, ⟨w7, w8, w12⟩, _⟩ := id h1
      obtain ⟨⟨hPb, gb, gm⟩, ⟨u0, u1, u2, u3, u5, u4⟩, ⟨u7, u8, u12⟩, _⟩ := id h2
      have lp := mr.2 p p40
      have lq := mr.2 q q40
      have cls := s_sew (sc := sc) (d := 1) (z := z) (V := V) (J := J) (p := k) (t := t) hT hx40 ha' hPa.1 (show 0 ≤ (q : Int) ∧ (q : Int) < 40 by omega) (by rw [Int.toNat_natCast]; exact hb) hPb.1 ab va vb (by omega) (by omega) (by omega) (by omega) hk ht
      rw [sa, sb] at cls
      by_cases c3 : (¬ (p : Int) = (q : Int)) ∧ (1 ≤ k ∧ k ≤ 12) ∧ (1 ≤ t ∧ t ≤ 50)
      · by_cases c4 : xSw2 V p = 0 ∨ xSw2 V q = 0
        · rw [if_pos c3, if_pos c4] at cls
          have c4' : ∀ W : Nat → Nat → Int, W 66 = V 66 → W 67 = V 67 → W 68 = V 68 → xSw2 W p = 0 ∨ xSw2 W q = 0 := fun W e1 e2 e3 => by unfold xSw2 at c4 ⊢; rw [e1, e2, e3]; exact c4
          (refine iCs_x (k := 0) hI hi iScr_r cls (fun T z V J R hI2 eV eM eJ => ?_) (by decide) (by decide); obtain ⟨⟨_, _, _, _, _, hM, _⟩, hz, hH9, hP9, hO⟩ := id hI2; have mod := m_sew (sc := sc) (d := 7) (T := T) (z := z) (V := V) (J := J) (R := R) hM (iInv_mr hI2) hx hy hk ht; rw [eM, if_pos ⟨c, c2⟩, if_pos c3, Int.toNat_natCast, Int.toNat_natCast, if_pos (c4' V (eV 66 (by omega)) (eV 67 (by omega)) (eV 68 (by omega)))] at mod; exact ⟨_, mod, by rw [xup2_i]; rfl, iScr_f⟩)
        · rw [if_pos c3, if_neg c4, w0, w5, u0, u5] at cls
          have nab := ab c3.1
          have npq : ¬ p = q := fun e => c3.1 (by rw [e])
          have so : ∀ r, ¬ r = a → ¬ r = b → xSm2 V a b r = V r := fun r r1 r2 => by unfold xSm2; rw [xup2_o r2, xup2_o r1]
          have mod := m_sew (sc := sc) (d := 7) (z := z) (T := T) (R := R) (V := xSm2 V a b) (J := xup2 J 81 0 (jI (min (k * min (V 59 p) (V 59 q) * t) (min (V 61 p) (V 61 q) * (20 - k) * min (V 59 p) (V 59 q))))) hM (xMr_e mr (by rw [so 56 (by omega) (by omega)]) (fun r r1 r2 => so r (by omega) (by omega))) hx hy hk ht
          have e2 : ∀ p, xSw2 (xSm2 V a b) p = xSw2 V p := fun p => by unfold xSw2; rw [so 66 (by omega) (by omega), so 67 (by omega) (by omega), so 68 (by omega) (by omega)]
          rw [so 56 (by omega) (by omega), if_pos ⟨c, c2⟩, if_pos c3, Int.toNat_natCast, Int.toNat_natCast, e2, e2, if_neg c4, so 59 (by omega) (by omega), so 61 (by omega) (by omega), so 66 (by omega) (by omega)] at mod
          refine Or.inl ⟨_, _, _, _, _, _, _, _, (by intro h; exact absurd h (by decide)), cls, h81, hM.1, mod, jc_in.1, by rw [xup2_o (by decide), xup2_o (by decide), xup2_i], ?_⟩
          have p66 : V 66 p ≤ 3 := by unfold xSw2 at c4; split at c4 <;> omega
          have q66 : V 66 q ≤ 3 := by
            have : ¬ xSw2 V q = 0 := fun e => c4 (Or.inr e)
            unfold xSw2 at this; split at this <;> omega
          have i1 := sew_one hI (by omega) hP pP ea p66
          generalize hf1 : xup2 (xup2 V a 8 (V a 8 + 1)) 66 p (V 66 p + 1) = f1 at i1
          obtain ⟨P', hP'⟩ := i1.2.2.2.1
          have fP : P' = P := by
            have := hP'.1.2.2.1
            rw [← hf1, xup2_o (by decide), xup2_o (by omega), hP40.2.2.1] at this
            omega
          subst fP
          have f66 : f1 66 q = V 66 q := by rw [← hf1, xup2_j (fun e => npq e.symm), xup2_o (by omega)]
          have fb : f1 b 8 = V b 8 := by rw [← hf1, xup2_o (by omega), xup2_o (fun e => nab e.symm)]
          have i2 := sew_one i1 (by omega) hP' qP eb (by rw [f66]; exact q66)
          rw [f66, fb] at i2
          have fin : xup2 (xup2 (xup2 (xSm2 V a b) 56 28 0) 66 p (V 66 p + 1)) 66 q (V 66 q + 1) = xup2 (xup2 (xup2 f1 b 8 (V b 8 + 1)) 66 q (V 66 q + 1)) 56 28 0 := by
            unfold xSm2
            rw [xup2_comm (a := 56) (k := 28) (b := 66) (j := p) (by omega), xup2_comm (a := 56) (k := 28) (b := 66) (j := q) (by omega), xup2_comm (a := b) (k := 8) (b := 66) (j := p) (by omega), hf1]
          rw [fin]
          exact iInv_s i2 ⟨by omega, by omega⟩ iScr_f jc_in.2
      · rw [if_neg c3] at cls
        (refine iCs_x (k := 0) hI hi iScr_r cls (fun T z V J R hI2 eV eM eJ => ?_) (by decide) (by decide); obtain ⟨⟨_, _, _, _, _, hM, _⟩, hz, hH9, hP9, hO⟩ := id hI2; have mod := m_sew (sc := sc) (d := 7) (T := T) (z := z) (V := V) (J := J) (R := R) hM (iInv_mr hI2) hx hy hk ht; rw [eM, if_pos ⟨c, c2⟩, if_neg c3] at mod; exact ⟨_, mod, by rw [xup2_i]; rfl, iScr_f⟩)
    · have cls := s_sew_x2 (sc := sc) (d := 1) (z := z) (V := V) (J := J) (p := k) (t := t) hT hx40 ha' hy (pt_no hP c2)
      (refine iCs_x (k := 0) hI hi iScr_r cls (fun T z V J R hI2 eV eM eJ => ?_) (by decide) (by decide); obtain ⟨⟨_, _, _, _, _, hM, _⟩, hz, hH9, hP9, hO⟩ := id hI2; have mod := m_sew (sc := sc) (d := 7) (T := T) (z := z) (V := V) (J := J) (R := R) hM (iInv_mr hI2) hx hy hk ht; rw [eM, if_neg (fun q => c2 q.2)] at mod; exact ⟨_, mod, by rw [xup2_i]; rfl, iScr_f⟩)
  · have cls := s_sew_x1 (sc := sc) (d := 1) (z := z) (V := V) (J := J) (y := y) (p := k) (t := t) hT hx (pt_no hP c)
    (refine iCs_x (k := 0) hI hi iScr_r cls (fun T z V J R hI2 eV eM eJ => ?_) (by decide) (by decide); obtain ⟨⟨_, _, _, _, _, hM, _⟩, hz, hH9, hP9, hO⟩ := id hI2; have mod := m_sew (sc := sc) (d := 7) (T := T) (z := z) (V := V) (J := J) (R := R) hM (iInv_mr hI2) hx hy hk ht; rw [eM, if_neg (fun q => c q.1)] at mod; exact ⟨_, mod, by rw [xup2_i]; rfl, iScr_f⟩)
theorem c_buckle {x r o l : Int} (hI : iInv i T z V J R) (hi : i ≤ 512) (hx : (-2147483648 ≤ x ∧ x ≤ 2147483647)) (hr : (-2147483648 ≤ r ∧ r ≤ 2147483647)) (ho : (-2147483648 ≤ o ∧ o ≤ 2147483647)) (hl : (-2147483648 ≤ l ∧ l ≤ 2147483647)) : iCs sc i 58 116 [xw x, xw r, xw o, xw l] k123 T z V J R := by
  obtain ⟨⟨hT, hR, hH, hS, hE, hM, h81⟩, hz, hH9, hP9, hO⟩ := id hI
  obtain ⟨P, hP⟩ := id hP9
  have mr := hP.2.1
  have hP40 := hP.1
  by_cases c : 0 ≤ x ∧ x < V 56 3
  · obtain ⟨p, rfl⟩ : ∃ m : Nat, x = m := ⟨x.toNat, by omega⟩
    have pP : p < P := by omega
    have p40 : p < 40 := by omega
    obtain ⟨a, ea, ha, h1⟩ := pt_y hP pP
    obtain ⟨⟨hPa, ga, gn⟩, ⟨w0, w1, w2, w3, w5, w4⟩, ⟨w7, w8, w12⟩, ⟨w9, w10, w11⟩, ⟨b59, b60, b61, b65⟩, st, wh, bt, w6⟩ := id h1
    obtain ⟨l59, l60, l61, l62, l63, l65, l66, l67, l68, l69, l70⟩ := mr.2 p p40
    have va := pt_va mr p40 h1
    have hx40 : 0 ≤ (p : Int) ∧ (p : Int) < 40 := by omega
    have ha' : R 2 (p : Int).toNat = some a := by rw [Int.toNat_natCast]; exact ha
    have cls := s_buckle (sc := sc) (d := 1) (z := z) (V := V) (J := J) (r := r) (o := o) (hl := l) hT hx40 ha' hPa (fun k hk => by rw [wh k hk]; split <;> omega) va hr ho hl
    have hHc := pt_hc mr p40 h1
    have hPm : xPl V (a + 1) 49 0 l = xPm (J 64 p) (4 * V 59 p + 1).toNat 0 l := by
      rw [xPl_pm 49 0 l (fun q _ b => wh q (by omega)), show 49 = (4 * V 59 p + 1).toNat + (49 - (4 * V 59 p + 1).toNat) by omega, xPm_cut]
      intro q a b
      by_cases c : xBt (J 64 p) q = true
      · have := bt q (by omega) c; omega
      · exact Bool.eq_false_iff.mpr c
    rw [hPm] at cls
    have st' : V 68 p = -1 ↔ V a 11 = -1 := by unfold aSt at st; omega
    by_cases c2 : (0 ≤ r ∧ r < 8) ∧ (0 ≤ o ∧ o < 8) ∧ (0 ≤ l ∧ l < V a 6)
    · have pm := xPm_or (j := J 64 p) (4 * V 59 p + 1).toNat 0 l c2.2.2.1
      rw [hHc] at pm
      have pm2 : ∃ r : Nat, xPm (J 64 p) (4 * V 59 p + 1).toNat 0 l = r ∧ r < 64 ∧ xBt (J 64 p) r = true := by
        rcases pm with q | ⟨_, r, q1, q2, q3, q4⟩
        · omega
        · exact ⟨r, q1, by omega, q4⟩
      obtain ⟨k, k1, k2, k3⟩ := pm2
      have kb := bt k k2 k3
      rw [if_pos c2] at cls
      have mc : ∀ (W : Nat → Nat → Int) (K : Nat → Nat → Int64), W 59 = V 59 → W 56 3 = V 56 3 → K 64 = J 64 → (0 ≤ (p : Int) ∧ (p : Int) < W 56 3) ∧ (0 ≤ r ∧ r < 8) ∧ (0 ≤ o ∧ o < 8) ∧ 0 ≤ l ∧ ¬ xPm (K 64 (p : Int).toNat) (4 * W 59 (p : Int).toNat + 1).toNat 0 l = -1 := by
        intro W K e1 e2 e3
        rw [e1, e2, e3, Int.toNat_natCast, k1]
        exact ⟨c, c2.1, c2.2.1, c2.2.2.1, by omega⟩
      rw [k1] at cls
      by_cases c3 : r = o
      · rw [if_pos c3] at cls
        (refine iCs_x (k := 0) hI hi iScr_r cls (fun T z V J R hI2 eV eM eJ => ?_) (by decide) (by decide); obtain ⟨⟨_, _, _, _, _, hM, _⟩, hz, hH9, hP9, hO⟩ := id hI2; have mod := m_buckle (sc := sc) (d := 7) (T := T) (z := z) (V := V) (J := J) (R := R) hM (iInv_mr hI2) hx hr ho hl; rw [if_pos (mc V _ (eV 59 (by omega)) (eM 3) eJ), if_pos c3] at mod; exact ⟨_, mod, by rw [xup2_i]; rfl, iScr_f⟩)
      · by_cases c4 : V a 3 = 0 ∨ ¬ V a 11 = -1 ∨ ¬ V a 12 = 0
        · rw [if_neg c3, if_pos c4] at cls
          rw [w3, w12, ← st'] at c4
          (refine iCs_x (k := 0) hI hi iScr_r cls (fun T z V J R hI2 eV eM eJ => ?_) (by decide) (by decide); obtain ⟨⟨_, _, _, _, _, hM, _⟩, hz, hH9, hP9, hO⟩ := id hI2; have mod := m_buckle (sc := sc) (d := 7) (T := T) (z := z) (V := V) (J := J) (R := R) hM (iInv_mr hI2) hx hr ho hl; rw [if_pos (mc V _ (eV 59 (by omega)) (eM 3) eJ), if_neg c3, Int.toNat_natCast, eV 63 (by omega), eV 67 (by omega), eV 68 (by omega), if_pos c4] at mod; exact ⟨_, mod, by rw [xup2_i]; rfl, iScr_f⟩)
        · rw [if_neg c3, if_neg c4] at cls
          rw [w3, w12, ← st'] at c4
          have eb : xBk V a (a + 1) r o l = xup2 (xup2 (xup2 V a 9 (min r o)) a 10 (max r o)) a 11 k := by unfold xBk; rw [hPm, k1]
          rw [eb] at cls
          have go : ∀ b, ¬ b = a → xup2 (xup2 (xup2 V a 9 (min r o)) a 10 (max r o)) a 11 k b = V b := fun b hb => by rw [xup2_o hb, xup2_o hb, xup2_o hb]
          have mod := m_buckle (sc := sc) (d := 7) (z := z) (T := T) (R := R) (V := xup2 (xup2 (xup2 V a 9 (min r o)) a 10 (max r o)) a 11 (k : Int)) (J := xup2 J 81 0 (jI (k : Int))) hM (xMr_e mr (by rw [go 56 (by omega)]) (fun r r1 r2 => go r (by omega))) hx hr ho hl
          rw [if_pos (mc _ _ (go 59 (by omega)) (by rw [go 56 (by omega)]) jc_in.2), if_neg c3, Int.toNat_natCast, go 63 (by omega), go 68 (by omega), go 67 (by omega), go 59 (by omega), jc_in.2, k1, if_neg c4] at mod
          have fo : ∀ b, ¬ (68 ≤ b ∧ b ≤ 70) → (xup2 (xup2 (xup2 (xup2 (xup2 (xup2 (xup2 V a 9 (min r o)) a 10 (max r o)) a 11 (k : Int)) 56 28 0) 68 p r) 69 p o) 70 p (k : Int)) b = xup2 (xup2 (xup2 (xup2 V a 9 (min r o)) a 10 (max r o)) a 11 k) 56 28 0 b := fun b hb => by rw [xup2_o (by omega), xup2_o (by omega), xup2_o (by omega)]
          have ro : ∀ b, ¬ b = a → ¬ b = 56 → ¬ (68 ≤ b ∧ b ≤ 70) → (xup2 (xup2 (xup2 (xup2 (xup2 (xup2 (xup2 V a 9 (min r o)) a 10 (max r o)) a 11 (k : Int)) 56 28 0) 68 p r) 69 p o) 70 p (k : Int)) b = V b := fun b b1 b2 b3 => by rw [fo b b3, xup2_o b2, go b b1]
          have r56 : ∀ j, ¬ j = 28 → (xup2 (xup2 (xup2 (xup2 (xup2 (xup2 (xup2 V a 9 (min r o)) a 10 (max r o)) a 11 (k : Int)) 56 28 0) 68 p r) 69 p o) 70 p (k : Int)) 56 j = V 56 j := fun j hj => by rw [fo 56 (by decide), xup2_j hj, go 56 (by omega)]
          have rr : ∀ r' q, 59 ≤ r' → r' < 71 → ¬ q = p → (xup2 (xup2 (xup2 (xup2 (xup2 (xup2 (xup2 V a 9 (min r o)) a 10 (max r o)) a 11 (k : Int)) 56 28 0) 68 p r) 69 p o) 70 p (k : Int)) r' q = V r' q := fun r' q r1 r2 hq => by
            by_cases e : 68 ≤ r'
            · rcases (show r' = 68 ∨ r' = 69 ∨ r' = 70 by omega) with rfl | rfl | rfl
              · rw [xup2_o (by decide), xup2_o (by decide), xup2_j hq, xup2_o (by decide), go 68 (by omega)]
              · rw [xup2_o (by decide), xup2_j hq, xup2_o (by decide), xup2_o (by decide), go 69 (by omega)]
              · rw [xup2_j hq, xup2_o (by decide), xup2_o (by decide), xup2_o (by decide), go 70 (by omega)]
            · rw [ro r' (by omega) (by omega) (by omega)]
          have r68 : (xup2 (xup2 (xup2 (xup2 (xup2 (xup2 (xup2 V a 9 (min r o)) a 10 (max r o)) a 11 (k : Int)) 56 28 0) 68 p r) 69 p o) 70 p (k : Int)) 68 p = r := by rw [xup2_o (by decide), xup2_o (by decide), xup2_i]
          have r69 : (xup2 (xup2 (xup2 (xup2 (xup2 (xup2 (xup2 V a 9 (min r o)) a 10 (max r o)) a 11 (k : Int)) 56 28 0) 68 p r) 69 p o) 70 p (k : Int)) 69 p = o := by rw [xup2_o (by decide), xup2_i]
          have r70 : (xup2 (xup2 (xup2 (xup2 (xup2 (xup2 (xup2 V a 9 (min r o)) a 10 (max r o)) a 11 (k : Int)) 56 28 0) 68 p r) 69 p o) 70 p (k : Int)) 70 p = k := by rw [xup2_i]
          have ga' : ∀ j, xup2 (xup2 (xup2 V a 9 (min r o)) a 10 (max r o)) a 11 (k : Int) a j = if j = 11 then (k : Int) else if j = 10 then max r o else if j = 9 then min r o else V a j := fun j => by
            by_cases e1 : j = 11
            · subst e1; rw [xup2_i, if_pos rfl]
            · rw [xup2_j e1, if_neg e1]
              by_cases e2 : j = 10
              · subst e2; rw [xup2_i, if_pos rfl]
              · rw [xup2_j e2, if_neg e2]
                by_cases e3 : j = 9
                · subst e3; rw [xup2_i, if_pos rfl]
                · rw [xup2_j e3, if_neg e3]
          have ra : ∀ j, (xup2 (xup2 (xup2 (xup2 (xup2 (xup2 (xup2 V a 9 (min r o)) a 10 (max r o)) a 11 (k : Int)) 56 28 0) 68 p r) 69 p o) 70 p (k : Int)) a j = if j = 11 then (k : Int) else if j = 10 then max r o else if j = 9 then min r o else V a j := fun j => by rw [fo a (by omega), xup2_o (by omega), ga']
          have h28 : (xup2 (xup2 (xup2 (xup2 (xup2 (xup2 (xup2 V a 9 (min r o)) a 10 (max r o)) a 11 (k : Int)) 56 28 0) 68 p r) 69 p o) 70 p (k : Int)) 56 28 = 0 := by rw [fo 56 (by decide), xup2_i]
          refine Or.inl ⟨_, _, _, _, _, _, _, _, (by intro h; exact absurd h (by decide)), cls, h81, hM.1, mod, jc_in.1, h28, ?_⟩
          generalize (xup2 (xup2 (xup2 (xup2 (xup2 (xup2 (xup2 V a 9 (min r o)) a 10 (max r o)) a 11 (k : Int)) 56 28 0) 68 p r) 69 p o) 70 p (k : Int)) = W at *
          refine iInv_p hI ⟨by omega, by omega⟩ hP pP ea (fun b b1 b2 b3 b4 => ro b b1 b3 (by omega)) r56 rr (fun q hq => by rw [jc_in.2]) ?_ (xMr_u (p := p) mr (r56 3 (by decide)) rr ?_)
          · unfold iPa1 aSt at h1 ⊢
            rw [jc_in.2, ro 59 (by omega) (by decide) (by decide), ro 60 (by omega) (by decide) (by decide), ro 61 (by omega) (by decide) (by decide), ro 62 (by omega) (by decide) (by decide), ro 63 (by omega) (by decide) (by decide), ro 65 (by omega) (by decide) (by decide), ro 66 (by omega) (by decide) (by decide), ro 67 (by omega) (by decide) (by decide), r68, r69, r70, ro (a + 1) (by omega) (by omega) (by omega)]
            simp only [ra, Nat.reduceEqDiff, if_true, if_false]
            exact ⟨h1.1, h1.2.1, h1.2.2.1, ⟨trivial, trivial, trivial⟩, ⟨b59, b60, b61, by omega⟩, Or.inr ⟨c2.1, c2.2.1, c3, by omega, by omega⟩, h1.2.2.2.2.2.2⟩
          · rw [ro 59 (by omega) (by decide) (by decide), ro 60 (by omega) (by decide) (by decide), ro 61 (by omega) (by decide) (by decide), ro 62 (by omega) (by decide) (by decide), ro 63 (by omega) (by decide) (by decide), ro 65 (by omega) (by decide) (by decide), ro 66 (by omega) (by decide) (by decide), ro 67 (by omega) (by decide) (by decide), r68, r69, r70]
            exact ⟨l59, l60, l61, l62, l63, l65, l66, l67, by omega, by omega, by omega⟩
    · rw [if_neg c2] at cls
      have mc : ∀ (W : Nat → Nat → Int) (K : Nat → Nat → Int64), W 59 = V 59 → K 64 = J 64 → ¬ ((0 ≤ (p : Int) ∧ (p : Int) < W 56 3) ∧ (0 ≤ r ∧ r < 8) ∧ (0 ≤ o ∧ o < 8) ∧ 0 ≤ l ∧ ¬ xPm (K 64 (p : Int).toNat) (4 * W 59 (p : Int).toNat + 1).toNat 0 l = -1) := by
        intro W K e1 e3 q
        rw [e1, e3, Int.toNat_natCast] at q
        obtain ⟨_, q1, q2, q3, q4⟩ := q
        rcases xPm_or (j := J 64 p) (4 * V 59 p + 1).toNat 0 l q3 with e | ⟨e, _⟩
        · exact q4 e.1
        · rw [hHc] at e; exact c2 ⟨q1, q2, q3, e⟩
      (refine iCs_x (k := 0) hI hi iScr_r cls (fun T z V J R hI2 eV eM eJ => ?_) (by decide) (by decide); obtain ⟨⟨_, _, _, _, _, hM, _⟩, hz, hH9, hP9, hO⟩ := id hI2; have mod := m_buckle (sc := sc) (d := 7) (T := T) (z := z) (V := V) (J := J) (R := R) hM (iInv_mr hI2) hx hr ho hl; rw [if_neg (mc V _ (eV 59 (by omega)) eJ)] at mod; exact ⟨_, mod, by rw [xup2_i]; rfl, iScr_f⟩)
  · have cls := s_buckle_x (sc := sc) (d := 1) (z := z) (V := V) (J := J) (r := r) (o := o) (hl := l) hT hx (pt_no hP c)
    (refine iCs_x (k := 0) hI hi iScr_r cls (fun T z V J R hI2 eV eM eJ => ?_) (by decide) (by decide); obtain ⟨⟨_, _, _, _, _, hM, _⟩, hz, hH9, hP9, hO⟩ := id hI2; have mod := m_buckle (sc := sc) (d := 7) (T := T) (z := z) (V := V) (J := J) (R := R) hM (iInv_mr hI2) hx hr ho hl; rw [if_neg (fun q => c (by rw [← eM 3]; exact q.1))] at mod; exact ⟨_, mod, by rw [xup2_i]; rfl, iScr_f⟩)
theorem c_pierce {x n : Int} (hI : iInv i T z V J R) (hi : i ≤ 512) (hx : (-2147483648 ≤ x ∧ x ≤ 2147483647)) (hn : (-2147483648 ≤ n ∧ n ≤ 2147483647)) : iCs sc i 55 109 [xw x, xw n] k123 T z V J R := by
  obtain ⟨⟨hT, hR, hH, hS, hE, hM, h81⟩, hz, hH9, hP9, hO⟩ := id hI
  obtain ⟨P, hP⟩ := id hP9
  have mr := hP.2.1
  have hP40 := hP.1
  by_cases c : 0 ≤ x ∧ x < V 56 3
  · obtain ⟨p, rfl⟩ : ∃ m : Nat, x = m := ⟨x.toNat, by omega⟩
    have pP : p < P := by omega
    have p40 : p < 40 := by omega
    obtain ⟨a, ea, ha, h1⟩ := pt_y hP pP
    obtain ⟨⟨hPa, ga, gn⟩, ⟨w0, w1, w2, w3, w5, w4⟩, ⟨w7, w8, w12⟩, ⟨w9, w10, w11⟩, ⟨b59, b60, b61, b65⟩, st, wh, bt, w6⟩ := id h1
    obtain ⟨l59, l60, l61, l62, l63, l65, l66, l67, l68, l69, l70⟩ := mr.2 p p40
    have va := pt_va mr p40 h1
    have hx40 : 0 ≤ (p : Int) ∧ (p : Int) < 40 := by omega
    have ha' : R 2 (p : Int).toNat = some a := by rw [Int.toNat_natCast]; exact ha
    have cls := s_pierce (sc := sc) (d := 1) (z := z) (V := V) (J := J) hT hx40 ha' hPa (fun k hk => by rw [wh k hk]; split <;> omega) va (by omega) hn
    have st' : V 68 p = -1 ↔ V a 11 = -1 := by unfold aSt at st; omega
    by_cases c2 : 3 ≤ n ∧ n ≤ 4 * V a 0 - 3
    · rw [if_pos c2] at cls
      obtain ⟨k, rfl⟩ : ∃ m : Nat, n = m := ⟨n.toNat, by omega⟩
      have k45 : 3 ≤ k ∧ k ≤ 45 := by omega
      have z0 : ∀ q, q < 49 → (V (a + 1) q = 0 ↔ xBt (J 64 p) q = false) := fun q hq => by
        rw [wh q hq]
        by_cases e : xBt (J 64 p) q = true
        · rw [if_pos e, e]; exact ⟨fun q => absurd q (by decide), fun q => absurd q (by decide)⟩
        · rw [if_neg e]; exact ⟨fun _ => Bool.eq_false_iff.mpr e, fun _ => rfl⟩
      have hn3 : xHN V (a + 1) k = true ↔ ¬ (xBt (J 64 p) ((k : Int) - 1).toNat = false ∧ xBt (J 64 p) (k : Int).toNat = false ∧ xBt (J 64 p) ((k : Int) + 1).toNat = false) := by
        rw [← z0 _ (by omega), ← z0 _ (by omega), ← z0 _ (by omega)]
        by_cases e1 : V (a + 1) ((k : Int) - 1).toNat = 0 <;> by_cases e2 : V (a + 1) (k : Int).toNat = 0 <;> by_cases e3 : V (a + 1) ((k : Int) + 1).toNat = 0 <;> simp only [xHN, e1, e2, e3, decide_true, decide_false, Bool.and_true, Bool.true_and, Bool.and_false, Bool.false_and, Bool.not_true, Bool.not_false, and_true, true_and, and_false, false_and, not_true, not_false_iff, Bool.false_eq_true]
      have cc : (xHN V (a + 1) k = true ∨ 0 < V a 8 ∨ ¬ V a 11 = -1 ∨ ¬ V a 12 = 0) ↔ ¬ ((xBt (J 64 p) ((k : Int) - 1).toNat = false ∧ xBt (J 64 p) (k : Int).toNat = false ∧ xBt (J 64 p) ((k : Int) + 1).toNat = false) ∧ V 66 p = 0 ∧ V 68 p = -1 ∧ V 67 p = 0) := by
        rw [hn3, w8, w12, ← st']
        refine ⟨fun h q => ?_, fun h => ?_⟩
        · rcases h with h | h
          · exact h q.1
          · have := q.2; omega
        · by_cases hF : xBt (J 64 p) ((k : Int) - 1).toNat = false ∧ xBt (J 64 p) (k : Int).toNat = false ∧ xBt (J 64 p) ((k : Int) + 1).toNat = false
          · have : ¬ (V 66 p = 0 ∧ V 68 p = -1 ∧ V 67 p = 0) := fun q => h ⟨hF, q⟩
            exact Or.inr (by omega)
          · exact Or.inl hF
      by_cases c3 : xHN V (a + 1) k = true ∨ 0 < V a 8 ∨ ¬ V a 11 = -1 ∨ ¬ V a 12 = 0
      · rw [if_pos c3] at cls
        (refine iCs_x (k := 0) hI hi iScr_r cls (fun T z V J R hI2 eV eM eJ => ?_) (by decide) (by decide); obtain ⟨⟨_, _, _, _, _, hM, _⟩, hz, hH9, hP9, hO⟩ := id hI2; have mod := m_pierce (sc := sc) (d := 7) (T := T) (z := z) (V := V) (J := J) (R := R) hM (iInv_mr hI2) hx hn; rw [eM, if_pos c, Int.toNat_natCast, eJ, eV 59 (by omega), eV 66 (by omega), eV 67 (by omega), eV 68 (by omega), if_pos (by omega), if_neg (cc.mp c3)] at mod; exact ⟨_, mod, by rw [xup2_i]; rfl, iScr_f⟩)
      · rw [if_neg c3] at cls
        have free := Classical.not_not.mp (fun q => c3 (cc.mpr q))
        rw [Int.toNat_natCast] at cls
        have hJ' : ∀ q, q < 49 → xup2 (xup2 V (a + 1) k 1) a 6 (V a 6 + 1) (a + 1) q = if xBt (J 64 p ||| jShl (Int64.ofNat 1) (k : Int)) q = true then 1 else 0 := fun q hq => by
          rw [xup2_o (by omega), j_or (by omega) (by omega), Int.toNat_natCast]
          by_cases e : q = k
          · subst e; rw [xup2_i, decide_eq_true rfl, Bool.or_true, if_pos rfl]
          · rw [xup2_j e, decide_eq_false e, Bool.or_false]; exact wh q hq
        rw [xCn_eq (j := J 64 p ||| jShl (Int64.ofNat 1) (k : Int)) k 0 (fun q _ b => hJ' q (by omega))] at cls
        have go : ∀ b, ¬ b = a → ¬ b = a + 1 → xup2 (xup2 V (a + 1) k 1) a 6 (V a 6 + 1) b = V b := fun b hb hb2 => by rw [xup2_o hb, xup2_o hb2]
        have mod := m_pierce (sc := sc) (d := 7) (z := z) (T := T) (R := R) (V := xup2 (xup2 V (a + 1) k 1) a 6 (V a 6 + 1)) (J := xup2 J 81 0 (jI (xHc (J 64 p ||| jShl (Int64.ofNat 1) (k : Int)) k 0))) hM (xMr_e mr (by rw [go 56 (by omega) (by omega)]) (fun r r1 r2 => go r (by omega) (by omega))) hx hn
        rw [go 56 (by omega) (by omega), if_pos c, go 59 (by omega) (by omega), go 66 (by omega) (by omega), go 67 (by omega) (by omega), go 68 (by omega) (by omega), Int.toNat_natCast, if_pos (show 3 ≤ (k : Int) ∧ (k : Int) ≤ 4 * V 59 p - 3 by omega), jc_in.2, if_pos free] at mod
        have eJ2 : xJp (xup2 J 81 0 (jI (xHc (J 64 p ||| jShl (Int64.ofNat 1) (k : Int)) k 0))) (p : Int) (k : Int) 64 p = J 64 p ||| jShl (Int64.ofNat 1) (k : Int) := by unfold xJp; rw [Int.toNat_natCast, xup2_i, jc_in.2]
        rw [eJ2, Int.toNat_natCast, Int.zero_add] at mod
        have ro : ∀ b, ¬ b = a → ¬ b = a + 1 → ¬ b = 56 → xup2 (xup2 (xup2 V (a + 1) k 1) a 6 (V a 6 + 1)) 56 28 0 b = V b := fun b b1 b2 b3 => by rw [xup2_o b3, go b b1 b2]
        have r56 : ∀ j, ¬ j = 28 → xup2 (xup2 (xup2 V (a + 1) k 1) a 6 (V a 6 + 1)) 56 28 0 56 j = V 56 j := fun j hj => by rw [xup2_j hj, go 56 (by omega) (by omega)]
        have ra : ∀ j, xup2 (xup2 (xup2 V (a + 1) k 1) a 6 (V a 6 + 1)) 56 28 0 a j = if j = 6 then V a 6 + 1 else V a j := fun j => by
          rw [xup2_o (by omega)]
          by_cases e : j = 6
          · subst e; rw [xup2_i, if_pos rfl]
          · rw [xup2_j e, if_neg e, xup2_o (by omega)]
        have rg : ∀ q, q < 49 → xup2 (xup2 (xup2 V (a + 1) k 1) a 6 (V a 6 + 1)) 56 28 0 (a + 1) q = if xBt (J 64 p ||| jShl (Int64.ofNat 1) (k : Int)) q = true then 1 else 0 := fun q hq => by rw [xup2_o (by omega)]; exact hJ' q hq
        refine Or.inl ⟨_, _, _, _, _, _, _, _, (by intro h; exact absurd h (by decide)), cls, h81, hM.1, mod, by unfold xJp; rw [xup2_o (by decide), xup2_i], xup2_i, ?_⟩
        generalize xup2 (xup2 (xup2 V (a + 1) k 1) a 6 (V a 6 + 1)) 56 28 0 = W at *
        have rr : ∀ r, 59 ≤ r → r < 71 → W r = V r := fun r r1 r2 => ro r (by omega) (by omega) (by omega)
        refine iInv_p hI ⟨by omega, by omega⟩ hP pP ea (fun b b1 b2 b3 b4 => ro b b1 b2 b3) r56 (fun r q r1 r2 _ => by rw [rr r r1 r2]) (fun q hq => by unfold xJp; rw [xup2_j (by rw [Int.toNat_natCast]; exact hq), jc_in.2]) ?_ (xMr_e mr (r56 3 (by decide)) rr)
        unfold iPa1 aSt at h1 ⊢
        rw [eJ2, rr 59 (by omega) (by decide), rr 60 (by omega) (by decide), rr 61 (by omega) (by decide), rr 62 (by omega) (by decide), rr 63 (by omega) (by decide), rr 65 (by omega) (by decide), rr 66 (by omega) (by decide), rr 67 (by omega) (by decide), rr 68 (by omega) (by decide), rr 69 (by omega) (by decide), rr 70 (by omega) (by decide)]
        simp only [ra, Nat.reduceEqDiff, if_true, if_false]
        refine ⟨h1.1, h1.2.1, h1.2.2.1, h1.2.2.2.1, ⟨b59, b60, b61, by omega⟩, h1.2.2.2.2.2.1, rg, fun q hq e => ?_, ?_⟩
        · rw [j_or (by omega) hq, Int.toNat_natCast, Bool.or_eq_true, decide_eq_true_eq] at e
          rcases e with e | e
          · exact bt q hq e
          · subst e; omega
        · rw [xHc_or (by omega) (by have := free.1.2.1; rwa [Int.toNat_natCast] at this) 49 0 (by decide), if_pos (by omega), w6]
    · rw [if_neg c2] at cls
      (refine iCs_x (k := 0) hI hi iScr_r cls (fun T z V J R hI2 eV eM eJ => ?_) (by decide) (by decide); obtain ⟨⟨_, _, _, _, _, hM, _⟩, hz, hH9, hP9, hO⟩ := id hI2; have mod := m_pierce (sc := sc) (d := 7) (T := T) (z := z) (V := V) (J := J) (R := R) hM (iInv_mr hI2) hx hn; rw [eM, if_pos c, Int.toNat_natCast, eV 59 (by omega), if_neg (by omega)] at mod; exact ⟨_, mod, by rw [xup2_i]; rfl, iScr_f⟩)
  · have cls := s_pierce_x (sc := sc) (d := 1) (z := z) (V := V) (J := J) (n := n) hT hx (pt_no hP c)
    (refine iCs_x (k := 0) hI hi iScr_r cls (fun T z V J R hI2 eV eM eJ => ?_) (by decide) (by decide); obtain ⟨⟨_, _, _, _, _, hM, _⟩, hz, hH9, hP9, hO⟩ := id hI2; have mod := m_pierce (sc := sc) (d := 7) (T := T) (z := z) (V := V) (J := J) (R := R) hM (iInv_mr hI2) hx hn; rw [eM, if_neg c] at mod; exact ⟨_, mod, by rw [xup2_i]; rfl, iScr_f⟩)
end SX9h
