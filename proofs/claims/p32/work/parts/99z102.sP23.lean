/-! the property's law: what is asked of sections -/
def sSe (G : Nat → Int) (dp : Int) : Nat → Nat → Int → Int
  | 0, _, s => s
  | m + 1, k, s => sSe G dp m (k + 1) (iOr s (if 4 * max 0 (dp - G k) ≤ 0 then 0 else iShl 1 k))
def sBr (s : Int) : Nat → Nat → Int → Int
  | 0, _, b => b
  | m + 1, k, b => sBr s m (k + 1) (iOr b (if iAnd (iShr s k) 1 = 0 ∧ ¬ s % iShl 1 k ≤ 0 ∧ ¬ iShr s ((k : Int) + 1) ≤ 0 then iShl 1 k else 0))
theorem sSe_e {G G' : Nat → Int} {dp dp' : Int} : ∀ m k s, (∀ j, k ≤ j → j < k + m → (4 * max 0 (dp - G j) ≤ 0 ↔ 4 * max 0 (dp' - G' j) ≤ 0)) → sSe G dp m k s = sSe G' dp' m k s := by
  intro m
  induction m with
  | zero => intro k s _; rfl
  | succ m ih =>
    intro k s h
    have hk := h k (Nat.le_refl k) (by omega)
    rw [sSe, sSe, ih (k + 1) _ (fun j a b => h j (by omega) (by omega))]
    by_cases c : 4 * max 0 (dp - G k) ≤ 0
    · rw [if_pos c, if_pos (hk.mp c)]
    · rw [if_neg c, if_neg (fun q => c (hk.mpr q))]
/-- seven sections, pressed or not -/
def bl (b0 b1 b2 b3 b4 b5 b6 : Bool) (j : Nat) : Int := if (if j = 0 then b0 else if j = 1 then b1 else if j = 2 then b2 else if j = 3 then b3 else if j = 4 then b4 else if j = 5 then b5 else b6) = true then 0 else 1
theorem br_fin : ∀ b0 b1 b2 b3 b4 b5 b6 : Bool, sBr (sSe (bl b0 b1 b2 b3 b4 b5 b6) 1 7 0 0) 5 1 0 = xBr (bl b0 b1 b2 b3 b4 b5 b6) 1 5 1 0 ∧ 0 ≤ sSe (bl b0 b1 b2 b3 b4 b5 b6) 1 7 0 0 ∧ sSe (bl b0 b1 b2 b3 b4 b5 b6) 1 7 0 0 ≤ 127 := by decide +kernel
theorem br_ok {G : Nat → Int} {dp : Int} : sBr (sSe G dp 7 0 0) 5 1 0 = xBr G dp 5 1 0 ∧ 0 ≤ sSe G dp 7 0 0 ∧ sSe G dp 7 0 0 ≤ 127 := by
  have e : ∀ j, j < 7 → (4 * max 0 (dp - G j) ≤ 0 ↔ 4 * max 0 (1 - bl (decide (G 0 < dp)) (decide (G 1 < dp)) (decide (G 2 < dp)) (decide (G 3 < dp)) (decide (G 4 < dp)) (decide (G 5 < dp)) (decide (G 6 < dp)) j) ≤ 0) := by
    intro j hj
    have one : ∀ b : Bool, 4 * max 0 (1 - if b = true then (0 : Int) else 1) ≤ 0 ↔ b = false := by intro b; cases b <;> decide
    have key : 4 * max 0 (dp - G j) ≤ 0 ↔ decide (G j < dp) = false := by rw [decide_eq_false_iff_not]; omega
    rw [key]
    unfold bl
    rw [one]
    rcases (show j = 0 ∨ j = 1 ∨ j = 2 ∨ j = 3 ∨ j = 4 ∨ j = 5 ∨ j = 6 by omega) with rfl | rfl | rfl | rfl | rfl | rfl | rfl <;> exact Iff.rfl
  rw [sSe_e 7 0 0 (fun j _ b => e j (by omega)), xBr_e e 5 1 0 rfl (Nat.le_refl 1)]
  exact br_fin _ _ _ _ _ _ _
section P23
variable {sc : xS} {d : Nat} {T : Nat → Nat × Nat} {z : Nat × Nat} {V : Nat → Nat → Int} {J : Nat → Nat → Int64} {R : Nat → Nat → Option Nat}
theorem so_sec {i h s : Nat} {w dp : Int} {o8 o9 o11 o12 o13 o14 o15 o16 o22 : Option Value} (hI : qInv i T z V R) (hi : i ≤ 64) (hh : h < 2) (hs : s < 2) (hw : 1 ≤ w ∧ w ≤ 3000) (hd : -5000 ≤ dp ∧ dp ≤ 5000) (hD : xDe (pGa V h s) w dp) :
    ∀ (m k : Nat) (W : Nat → Nat → Int) (set : Int) (o24 o25 o26 : Option Value), k + m = 7 → (∀ b, ¬ b = 54 → W b = V b) →
    ∃ (W' : Nat → Nat → Int) (o24' o25' o26' : Option Value), XR sc 10 104 702 [some (.ref 0), some (.ref 57), some (.ref 58), some (.ref 59), some (.ref 60), some (.ref 61), some (.ref 62), some (.ref 63), o8, o9, some (xw 1), o11, o12, o13, o14, o15, o16, some (xw h), some (xw s), some (xw w), some (xw dp), some (xw set), o22, some (xw k), o24, o25, o26] [] (T, z, xv W, J, R) = XR sc 10 104 1018 [some (.ref 0), some (.ref 57), some (.ref 58), some (.ref 59), some (.ref 60), some (.ref 61), some (.ref 62), some (.ref 63), o8, o9, some (xw 1), o11, o12, o13, o14, o15, o16, some (xw h), some (xw s), some (xw w), some (xw dp), some (xw (sSe (pGa V h s) dp m k set)), o22, some (xw ((7 : Nat) : Int)), o24', o25', o26'] [] (T, z, xv W', J, R) ∧ ∀ b, ¬ b = 54 → W' b = V b := by
  obtain ⟨hT, hRo, hHs, hSs, hSe, hA⟩ := hI.1
  obtain ⟨a1, a2, a3, a4, a5, a6, ⟨a7, a8⟩, a9, a10⟩ := id hI.2.2.2.2
  have h0 := hT.1
  have hr60 : 0 ≤ V 63 2 ∧ V 63 2 ≤ 64 := by omega
  have eG : ∀ (W : Nat → Nat → Int), (∀ b, ¬ b = 54 → W b = V b) → ∀ j, j < 7 → xMg W (h : Int) (s : Int) 54 j = pGa V h s j := fun W hW j hj => by
    rw [xMg_at hj, Int.toNat_natCast, Int.toNat_natCast, hW _ (by omega), hW _ (by omega), hW _ (by omega), (a2 s j hs hj).1, (a2 s j hs hj).2, (a1 h j hh hj).1]
    rfl
  have gb : ∀ j, j < 7 → -120 ≤ pGa V h s j ∧ pGa V h s j ≤ 100 := fun j hj => by
    have b1 := a3.1 h j (by omega) hj
    have b2 := a3.2 s j (by omega) hj
    rw [(a1 h j hh hj).1] at b1
    rw [(a2 s j hs hj).1, (a2 s j hs hj).2] at b2
    unfold pGa
    omega
  intro m
  induction m with
  | zero =>
    intro k W set o24 o25 o26 hk hW
    obtain rfl : k = 7 := by omega
    refine ⟨W, o24, o25, o26, ?_, hW⟩
    rw [bL_isSo_702 (by omega), if_pos (by omega), sSe]
  | succ m ih =>
    intro k W set o24 o25 o26 hk hW
    have hk7 : k < 7 := by omega
    have gk := gb k hk7
    -- pressures
    have lp := l_pressure (sc := sc) (d := 9) (T := T) (z := z) (V := W) (J := J) (R := R) (h := h) (s := s) (k := k) (dp := dp) hA hh hs hk7 (by unfold pGa; rw [hW 61 (by decide)]; unfold pGa at gk; omega) hd
    rw [show pGa W h s k = pGa V h s k by unfold pGa; rw [hW 61 (by decide)]] at lp
    have hB : xBd W := by
      refine ⟨fun h k x y => ?_, fun s k x y => ?_⟩
      · rw [hW _ (by omega)]; exact a3.1 h k x y
      · rw [hW _ (by omega), hW _ (by omega)]; exact a3.2 s k x y
    obtain ⟨r, q1, q2, q3, cp⟩ := s_pressure (sc := sc) (d := 1) (T := T) (z := z) (V := W) (J := J) (R := R) (h := (h : Int)) (s := (s : Int)) (w := w) (k := (k : Int)) hT hSe hHs hSs hB ⟨by omega, by omega⟩ hw (by omega)
    have er : r = dp := xDe_one (xDe_e (eG W hW) q3) hD
    rw [er, Int.toNat_natCast, eG W hW k hk7] at cp
    have hW1 : ∀ b, ¬ b = 54 → xMg W (h : Int) (s : Int) b = V b := fun b hb => (xMg_ne hb).trans (hW b hb)
    generalize xMg W (h : Int) (s : Int) = W1 at cp hW1
    -- sores, shares, causes
    have vs : ∀ j, j < 7 → W1 (12 + 4 * h) j = V 61 (42 + 7 * h + j) := fun j hj => by rw [hW1 _ (by omega)]; exact (a1 h j hh hj).2
    have sb : ∀ j, j < 14 → 0 ≤ V 61 (42 + j) ∧ V 61 (42 + j) ≤ 2000000 * V 63 2 := fun j hj => a7 j hj
    have so : ∀ v : Int, 0 ≤ v ∧ v ≤ 2 → X sc 10 75 [.ref 0, xw h, xw k, xw v] (T, z, xv W1, J, R) = some (.inl (some (xw (if v = 0 then V 61 (42 + 7 * h + k) else if v = 1 then V 61 (7 * h + k) else xB (xLa (pSo V h) 0 7 0)))), (T, z, xv W1, J, R)) := fun v hv => by
      have := s_sore (sc := sc) (d := 2) (T := T) (z := z) (V := W1) (J := J) (R := R) (h := (h : Int)) (k := (k : Int)) (v := v) hT hHs (fun j hj => by rw [Int.toNat_natCast, vs j hj]; have := sb (7 * h + j) (by omega); rw [← Nat.add_assoc] at this; omega) (by omega) (by omega) (by omega)
      rw [if_pos ⟨by omega, by omega⟩, if_pos hv, Int.toNat_natCast, Int.toNat_natCast, vs k hk7, hW1 (11 + 4 * h) (by omega), (a1 h k hh hk7).1, show xLa W1 (12 + 4 * h) 7 0 = xLa (pSo V h) 0 7 0 from xLa_row 7 0 (fun j _ hj => vs j (by omega))] at this
      exact this
    have so0 := so 0 (by decide)
    have so1 := so 1 (by decide)
    have so2 := so 2 (by decide)
    rw [if_pos rfl] at so0
    rw [if_neg (by decide), if_pos rfl] at so1
    rw [if_neg (by decide), if_neg (by decide)] at so2
    have sk := sb (7 * h + k) (by omega)
    rw [← Nat.add_assoc] at sk
    have hk61 : -50 ≤ V 61 (7 * h + k) ∧ V 61 (7 * h + k) ≤ 50 := by have := a3.1 h k (by omega) hk7; rw [(a1 h k hh hk7).1] at this; exact this
    have lame := l_isLame (sc := sc) (d := 9) (T := T) (z := z) (V := W1) (J := J) (R := R) (h := h) hA hh (fun j hj => by rw [hW1 61 (by decide)]; have := sb (7 * h + j) (by omega); rw [← Nat.add_assoc] at this; omega)
    rw [show pSo W1 h = pSo V h by unfold pSo; rw [hW1 61 (by decide)]] at lame
    obtain ⟨c1, c2, c3⟩ := a5 h k hh hk7
    have wb : W1 (13 + 4 * h) = V (13 + 4 * h) := hW1 _ (by omega)
    have sh : ∀ by_ who : Nat, by_ ≤ 2 → who < 6 → X sc 10 76 [.ref 0, xw h, xw k, xw by_, xw who] (T, z, xv W1, J, R) = some (.inl (some (xw (V (13 + 4 * h) ((k * 3 + by_) * 6 + who)))), (T, z, xv W1, J, R)) := fun by_ who hb hwho => by
      have := s_share (sc := sc) (d := 2) (T := T) (z := z) (V := W1) (J := J) (R := R) (h := (h : Int)) (k := (k : Int)) (by_ := (by_ : Int)) (who := (who : Int)) hT hHs (by omega) (by omega) (by omega) (by omega)
      rw [if_pos ⟨by omega, by omega⟩, if_pos (by omega), if_pos (by omega), Int.toNat_natCast, show (((k : Int) * 3 + (by_ : Int)) * 6 + (who : Int)).toNat = (k * 3 + by_) * 6 + who by omega, wb] at this
      exact this
    have sh0 := sh 0 s (by decide) (by omega)
    rw [c1 s (by omega), if_pos hs] at sh0
    have sh2 := sh 2 (1 + s) (by decide) (by omega)
    rw [c3 s hs] at sh2
    have sh1 := sh 1 2 (by decide) (by decide)
    rw [c2] at sh1
    have ca := s_cause (sc := sc) (d := 2) (T := T) (z := z) (V := W1) (J := J) (R := R) (h := (h : Int)) (k := (k : Int)) (by_ := 0) hT hHs (fun j hj => by rw [Int.toNat_natCast, wb]; have := a9 h j (by omega) hj; omega) (by omega) (by omega) (by decide)
    rw [if_pos ⟨by omega, by omega⟩, if_pos (by decide), Int.toNat_natCast, wb] at ca
    have f0 := a8 (14 * h + 2 * k) (by omega)
    have f1 := a8 (14 * h + 2 * k + 1) (by omega)
    have g0 := a8 (14 * h + 2 * k + s) (by omega)
    have g1 := a8 (28 + 14 * h + 2 * k + s) (by omega)
    have cw : ∀ who : Nat, who < 6 → V (13 + 4 * h) (((k : Int) * 3 + 0) * 6 + ((who : Nat) : Int)).toNat = if who < 2 then V 62 (14 * h + 2 * k + who) else 0 := fun who hwho => by
      rw [show (((k : Int) * 3 + 0) * 6 + ((who : Nat) : Int)).toNat = (k * 3 + 0) * 6 + who by omega]
      exact c1 who hwho
    have ecs : xCa (fun who => V (13 + 4 * h) (((k : Int) * 3 + 0) * 6 + who).toNat) 6 0 0 (-1) = if V 62 (14 * h + 2 * k) = 0 ∧ V 62 (14 * h + 2 * k + 1) = 0 then -1 else if V 62 (14 * h + 2 * k) < V 62 (14 * h + 2 * k + 1) then 1 else 0 := by
      have u0 := cw 0 (by decide)
      have u1 := cw 1 (by decide)
      have u2 := cw 2 (by decide)
      have u3 := cw 3 (by decide)
      have u4 := cw 4 (by decide)
      have u5 := cw 5 (by decide)
      rw [if_pos (by decide)] at u0 u1
      rw [if_neg (by decide)] at u2 u3 u4 u5
      generalize hB : (fun who : Int => V (13 + 4 * h) (((k : Int) * 3 + 0) * 6 + who).toNat) = B
      have v0 : B 0 = V 62 (14 * h + 2 * k) := by rw [← hB]; exact u0
      have v1 : B 1 = V 62 (14 * h + 2 * k + 1) := by rw [← hB]; exact u1
      have v2 : B 2 = 0 := by rw [← hB]; exact u2
      have v3 : B 3 = 0 := by rw [← hB]; exact u3
      have v4 : B 4 = 0 := by rw [← hB]; exact u4
      have v5 : B 5 = 0 := by rw [← hB]; exact u5
      have tail : ∀ g f : Int, 0 ≤ g → xCa B 4 2 g f = f := fun g f hg => by
        have s2 : xCa B 4 2 g f = xCa B 3 3 g f := by
          show (if B 2 ≤ g then xCa B 3 3 g f else xCa B 3 3 (B 2) 2) = _
          rw [if_pos (by omega)]
        have s3 : xCa B 3 3 g f = xCa B 2 4 g f := by
          show (if B 3 ≤ g then xCa B 2 4 g f else xCa B 2 4 (B 3) 3) = _
          rw [if_pos (by omega)]
        have s4 : xCa B 2 4 g f = xCa B 1 5 g f := by
          show (if B 4 ≤ g then xCa B 1 5 g f else xCa B 1 5 (B 4) 4) = _
          rw [if_pos (by omega)]
        have s5 : xCa B 1 5 g f = f := by
          show (if B 5 ≤ g then xCa B 0 6 g f else xCa B 0 6 (B 5) 5) = _
          rw [if_pos (by omega)]; rfl
        rw [s2, s3, s4, s5]
      have s1 : ∀ g f : Int, 0 ≤ g → xCa B 5 1 g f = if B 1 ≤ g then f else 1 := fun g f hg => by
        show (if B 1 ≤ g then xCa B 4 2 g f else xCa B 4 2 (B 1) 1) = _
        by_cases c : B 1 ≤ g
        · rw [if_pos c, if_pos c, tail g f hg]
        · rw [if_neg c, if_neg c, tail _ _ (by omega)]
      show (if B 0 ≤ 0 then xCa B 5 1 0 (-1) else xCa B 5 1 (B 0) 0) = _
      by_cases c : B 0 ≤ 0
      · rw [if_pos c, s1 0 _ (by decide)]
        by_cases c' : B 1 ≤ 0
        · rw [if_pos c', if_pos (by omega)]
        · rw [if_neg c', if_neg (by omega), if_pos (by omega)]
      · rw [if_neg c, s1 _ _ (by omega)]
        by_cases c' : B 1 ≤ B 0
        · rw [if_pos c', if_neg (by omega), if_neg (by omega)]
        · rw [if_neg c', if_neg (by omega), if_pos (by omega)]
    rw [ecs] at ca
    -- the law's
    obtain ⟨W', o24', o25', o26', i1, i2⟩ := ih (k + 1) W1 (iOr set (if 4 * max 0 (dp - pGa V h s k) ≤ 0 then 0 else iShl 1 k)) (some (xw (4 * max 0 (dp - pGa V h s k)))) (some (xw (V 62 (14 * h + 2 * k)))) (some (xw (V 62 (14 * h + 2 * k + 1)))) (by omega) hW1
    refine ⟨W', o24', o25', o26', ?_, i2⟩
    rw [sSe, ← i1]
    have e744 : XR sc 10 104 727 [some (.ref 0), some (.ref 57), some (.ref 58), some (.ref 59), some (.ref 60), some (.ref 61), some (.ref 62), some (.ref 63), o8, o9, some (xw 1), o11, o12, o13, o14, o15, o16, some (xw h), some (xw s), some (xw w), some (xw dp), some (xw set), o22, some (xw k), o24, o25, o26] [xw (4 * max 0 (dp - pGa V h s k))] (T, z, xv W, J, R) = XR sc 10 104 744 [some (.ref 0), some (.ref 57), some (.ref 58), some (.ref 59), some (.ref 60), some (.ref 61), some (.ref 62), some (.ref 63), o8, o9, some (xw 1), o11, o12, o13, o14, o15, o16, some (xw h), some (xw s), some (xw w), some (xw dp), some (xw set), o22, some (xw k), some (xw (4 * max 0 (dp - pGa V h s k))), o25, o26] [xw (if 4 * max 0 (dp - pGa V h s k) ≤ 0 then 0 else iShl 1 k), xw set] (T, z, xv W, J, R) := by
      rw [bL_isSo_727 (by omega)]
      by_cases c : 4 * max 0 (dp - pGa V h s k) ≤ 0
      · rw [if_pos c, if_pos c, bL_isSo_743]
      · rw [if_neg c, if_neg c, bL_isSo_736]
    have w61 : W1 61 = V 61 := hW1 61 (by decide)
    have w62 : W1 62 = V 62 := hW1 62 (by decide)
    have x1 : (42 + 7 * (h : Int) + (k : Int)).toNat = 42 + 7 * h + k := by omega
    have x2 : (7 * (h : Int) + (k : Int)).toNat = 7 * h + k := by omega
    have x3 : (14 * (h : Int) + 2 * (k : Int) + (s : Int)).toNat = 14 * h + 2 * k + s := by omega
    have x4 : (28 + 14 * (h : Int) + 2 * (k : Int) + (s : Int)).toNat = 28 + 14 * h + 2 * k + s := by omega
    have x5 : (14 * (h : Int) + 2 * (k : Int)).toNat = 14 * h + 2 * k := by omega
    have x6 : (14 * (h : Int) + 2 * (k : Int) + 1).toNat = 14 * h + 2 * k + 1 := by omega
    rw [bL_isSo_702 (by omega), if_neg (by omega), bL_isSo_709 (by first | omega | exact xB_in _ | exact xB_01 _ | exact iAnd_in | exact iShr_in | (simp only [Int.toNat_natCast]; omega) | decide), if_neg (by first | omega | decide), bL_isSo_714, lp, xret_v, e744, bL_isSo_744 h0, cp, xret_v, bL_isSo_759 (by omega) (by omega), if_pos rfl, bL_isSo_764 h0, so0, xret_v, bL_isSo_773 (by rw [pA61 hA]) (by rw [pA61 hA]; omega) (by omega) (by rw [x1, w61]; omega), x1, w61, if_pos rfl, bL_isSo_790 h0, so1, xret_v, bL_isSo_799 (by rw [pA61 hA]) (by rw [pA61 hA]; omega) (by omega) (by rw [x2, w61]; omega), x2, w61, if_pos rfl, bL_isSo_813 h0, so2, xret_v, bL_isSo_822, lame, xret_v, bL_isSo_829 (xB_in _)]
    have e837 : ∀ lm : Bool, (if xB lm = 0 then XR sc 10 104 836 [some (.ref 0), some (.ref 57), some (.ref 58), some (.ref 59), some (.ref 60), some (.ref 61), some (.ref 62), some (.ref 63), o8, o9, some (xw 1), o11, o12, o13, o14, o15, o16, some (xw h), some (xw s), some (xw w), some (xw dp), some (xw (iOr set (if 4 * max 0 (dp - pGa V h s k) ≤ 0 then 0 else iShl 1 k))), o22, some (xw k), some (xw (4 * max 0 (dp - pGa V h s k))), o25, o26] [xw (xB lm)] (T, z, xv W1, J, R) else XR sc 10 104 832 [some (.ref 0), some (.ref 57), some (.ref 58), some (.ref 59), some (.ref 60), some (.ref 61), some (.ref 62), some (.ref 63), o8, o9, some (xw 1), o11, o12, o13, o14, o15, o16, some (xw h), some (xw s), some (xw w), some (xw dp), some (xw (iOr set (if 4 * max 0 (dp - pGa V h s k) ≤ 0 then 0 else iShl 1 k))), o22, some (xw k), some (xw (4 * max 0 (dp - pGa V h s k))), o25, o26] [xw (xB lm)] (T, z, xv W1, J, R)) = XR sc 10 104 840 [some (.ref 0), some (.ref 57), some (.ref 58), some (.ref 59), some (.ref 60), some (.ref 61), some (.ref 62), some (.ref 63), o8, o9, some (xw 1), o11, o12, o13, o14, o15, o16, some (xw h), some (xw s), some (xw w), some (xw dp), some (xw (iOr set (if 4 * max 0 (dp - pGa V h s k) ≤ 0 then 0 else iShl 1 k))), o22, some (xw k), some (xw (4 * max 0 (dp - pGa V h s k))), o25, o26] [] (T, z, xv W1, J, R) := by
      intro lm
      cases lm with
      | false => rw [if_pos (show xB false = 0 from rfl), bL_isSo_836, bL_isSo_837 (by decide) (by decide), if_pos (show xB false = 0 from rfl), bL_isSo_840 h0]
      | true => rw [if_neg (show ¬ xB true = 0 by decide), bL_isSo_832, bL_isSo_837 (by decide) (by decide), if_pos (show xB true = 1 from rfl), bL_isSo_840 h0]
    have e984 : ∀ (S : Value) (A B : Int), (-2147483648 ≤ A ∧ A ≤ 2147483647) → (-2147483648 ≤ B ∧ B ≤ 2147483647) → XR sc 10 104 958 [some (.ref 0), some (.ref 57), some (.ref 58), some (.ref 59), some (.ref 60), some (.ref 61), some (.ref 62), some (.ref 63), o8, o9, some (xw 1), o11, o12, o13, o14, o15, o16, some (xw h), some (xw s), some (xw w), some (xw dp), some (xw (iOr set (if 4 * max 0 (dp - pGa V h s k) ≤ 0 then 0 else iShl 1 k))), o22, some (xw k), some (xw (4 * max 0 (dp - pGa V h s k))), some (xw A), some (xw B)] [S] (T, z, xv W1, J, R) = XR sc 10 104 984 [some (.ref 0), some (.ref 57), some (.ref 58), some (.ref 59), some (.ref 60), some (.ref 61), some (.ref 62), some (.ref 63), o8, o9, some (xw 1), o11, o12, o13, o14, o15, o16, some (xw h), some (xw s), some (xw w), some (xw dp), some (xw (iOr set (if 4 * max 0 (dp - pGa V h s k) ≤ 0 then 0 else iShl 1 k))), o22, some (xw k), some (xw (4 * max 0 (dp - pGa V h s k))), some (xw A), some (xw B)] [xw (if A = 0 ∧ B = 0 then -1 else if A < B then 1 else 0), S] (T, z, xv W1, J, R) := by
      intro S A B hA hB
      have e972 : ¬ (A = 0 ∧ B = 0) → XR sc 10 104 972 [some (.ref 0), some (.ref 57), some (.ref 58), some (.ref 59), some (.ref 60), some (.ref 61), some (.ref 62), some (.ref 63), o8, o9, some (xw 1), o11, o12, o13, o14, o15, o16, some (xw h), some (xw s), some (xw w), some (xw dp), some (xw (iOr set (if 4 * max 0 (dp - pGa V h s k) ≤ 0 then 0 else iShl 1 k))), o22, some (xw k), some (xw (4 * max 0 (dp - pGa V h s k))), some (xw A), some (xw B)] [S] (T, z, xv W1, J, R) = XR sc 10 104 984 [some (.ref 0), some (.ref 57), some (.ref 58), some (.ref 59), some (.ref 60), some (.ref 61), some (.ref 62), some (.ref 63), o8, o9, some (xw 1), o11, o12, o13, o14, o15, o16, some (xw h), some (xw s), some (xw w), some (xw dp), some (xw (iOr set (if 4 * max 0 (dp - pGa V h s k) ≤ 0 then 0 else iShl 1 k))), o22, some (xw k), some (xw (4 * max 0 (dp - pGa V h s k))), some (xw A), some (xw B)] [xw (if A = 0 ∧ B = 0 then -1 else if A < B then 1 else 0), S] (T, z, xv W1, J, R) := fun c => by
        rw [if_neg c, bL_isSo_972 hA hB]
        by_cases c2 : A < B
        · rw [if_pos c2, if_pos c2, bL_isSo_983]
        · rw [if_neg c2, if_neg c2, bL_isSo_979]
      rw [bL_isSo_958 hA]
      by_cases c : A = 0
      · rw [if_pos c, bL_isSo_963 hB]
        by_cases c2 : B = 0
        · rw [if_pos c2, if_pos (show A = 0 ∧ B = 0 from ⟨c, c2⟩), bL_isSo_968]
        · rw [if_neg c2, e972 (fun q => c2 q.2)]
      · rw [if_neg c, e972 (fun q => c q.1)]
    have sh0 : X sc 10 76 [.ref 0, xw h, xw k, xw 0, xw s] (T, z, xv W1, J, R) = some (.inl (some (xw (V 62 (14 * h + 2 * k + s)))), (T, z, xv W1, J, R)) := sh0
    have sh1 : X sc 10 76 [.ref 0, xw h, xw k, xw 1, xw 2] (T, z, xv W1, J, R) = some (.inl (some (xw (V 62 (14 * h + 2 * k) + V 62 (14 * h + 2 * k + 1)))), (T, z, xv W1, J, R)) := sh1
    rw [show ((1 + s : Nat) : Int) = 1 + (s : Int) by omega] at sh2
    have sh2 : X sc 10 76 [.ref 0, xw h, xw k, xw 2, xw (1 + (s : Int))] (T, z, xv W1, J, R) = some (.inl (some (xw (V 62 (28 + 14 * h + 2 * k + s)))), (T, z, xv W1, J, R)) := sh2
    rw [e837, bL_isSo_840 h0, sh0, xret_v, bL_isSo_851 (by rw [pA62 hA]) (by rw [pA62 hA]; omega) (by omega) (by rw [x3, w62]; omega), x3, w62, if_pos rfl, bL_isSo_870 h0, sh2, xret_v, bL_isSo_883 (by rw [pA62 hA]) (by rw [pA62 hA]; omega) (by omega) (by rw [x4, w62]; omega), x4, w62, if_pos rfl, bL_isSo_905, bL_isSo_910 (by rw [pA62 hA]) (by rw [pA62 hA]; omega) (by rw [pA62 hA]; omega) (by decide), if_neg (by decide), x5, x6, w62, bL_isSo_949 h0, ca, xret_v, e984 _ _ _ (by omega) (by omega), bL_isSo_984 (by split <;> omega) (by split <;> omega), if_pos rfl, bL_isSo_987 h0, sh1, xret_v, bL_isSo_997 (by omega) (by omega), if_pos rfl, bL_isSo_1005, bL_isSo_1010, show (k : Int) + 1 = ((k + 1 : Nat) : Int) by omega]
end P23
