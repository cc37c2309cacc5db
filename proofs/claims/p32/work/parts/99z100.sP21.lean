/-! the property's law: what is asked of ways -/
/-- what holds at most, by shares and strengths -/
def sHd (w st : Nat → Int) : Nat → Nat → Int → Int
  | 0, _, h => h
  | m + 1, k, h => sHd w st m (k + 1) (if w k ≤ 0 then h else min h (w k * st k))
theorem sHd_no {w st : Nat → Int} : ∀ m k h, (∀ p, k ≤ p → p < k + m → w p ≤ 0) → sHd w st m k h = h := by
  intro m
  induction m with
  | zero => intro k h _; rfl
  | succ m ih => intro k h hw; rw [sHd, if_pos (hw k (Nat.le_refl k) (by omega)), ih (k + 1) h (fun p a b => hw p (by omega) (by omega))]
theorem sHd_in {w st : Nat → Int} : ∀ m k h, 0 ≤ h ∧ h ≤ 9999 → (∀ p, k ≤ p → p < k + m → 0 ≤ w p ∧ 0 ≤ st p) → 0 ≤ sHd w st m k h ∧ sHd w st m k h ≤ 9999 := by
  intro m
  induction m with
  | zero => intro k h hh _; exact hh
  | succ m ih =>
    intro k h hh hw
    rw [sHd]
    refine ih (k + 1) _ ?_ (fun p a b => hw p (by omega) (by omega))
    obtain ⟨w1, w2⟩ := hw k (Nat.le_refl k) (by omega)
    have := Int.mul_nonneg w1 w2
    split <;> omega
theorem xHd_s {R : Nat → Nat → Option Nat} {V : Nat → Nat → Int} {w st : Nat → Int} {n : Nat} (hx : ∀ p, p < n → (xBe V (xp R p) = 0 ↔ w p ≤ 0) ∧ xSh V (xp R p) = w p ∧ xSt V (xp R p) = st p) : ∀ m k h, k + m ≤ n → xHd R V m k h = sHd w st m k h := by
  intro m
  induction m with
  | zero => intro k h _; rfl
  | succ m ih =>
    intro k h hk
    obtain ⟨h1, h2, h3⟩ := hx k (by omega)
    rw [xHd, sHd, h2, h3, ih (k + 1) _ (by omega)]
    by_cases c : xBe V (xp R k) = 0
    · rw [if_pos c, if_pos (h1.mp c)]
    · rw [if_neg c, if_neg (fun q => c (h1.mpr q))]
theorem al_c {c : Int} (hc : 1 ≤ c ∧ c ≤ 10) : 1 ≤ (5040 + c - 1) / c ∧ (5040 + c - 1) / c ≤ 5040 ∧ 5040 / ((5040 + c - 1) / c) = c := by
  rcases (show c = 1 ∨ c = 2 ∨ c = 3 ∨ c = 4 ∨ c = 5 ∨ c = 6 ∨ c = 7 ∨ c = 8 ∨ c = 9 ∨ c = 10 by omega) with rfl | rfl | rfl | rfl | rfl | rfl | rfl | rfl | rfl | rfl <;> decide
/-- the law's shares of straps -/
noncomputable def pSh (V : Nat → Nat → Int) (n t f p : Nat) : Int := aSh (pO V) (pQ V) (pL V) n (pDs V n t) t f p
theorem pSh_in {V : Nat → Nat → Int} {n t f p : Nat} (hn : n ≤ 10) : 0 ≤ pSh V n t f p ∧ pSh V n t f p ≤ 10 := by
  unfold pSh aSh
  split
  · have := aC_in (O := pO V) (Q := pQ V) (L := pL V) (x := (pO V p).toNat) (y := (pQ V p).toNat) (l := pL V p) n
    omega
  · decide
theorem pSh_no {V : Nat → Nat → Int} {n t f p : Nat} (hN : ¬ pDs V n t f < 1000000) : pSh V n t f p = 0 := by
  unfold pSh aSh
  rw [if_neg]
  unfold aM
  rw [if_neg hN]
  intro q; cases q
theorem pAb_s {V : Nat → Nat → Int} {n t f p : Nat} {g : Int} : pAb V n t f g p = if pSh V n t f p ≤ 0 then 0 else (g + pSh V n t f p - 1) / pSh V n t f p := rfl
/-- the law's row of the way -/
def pRw2 (V : Nat → Nat → Int) (P t f wy : Nat) : Prop := ∀ k, k ≤ 8 → V wy k = if pDs V P t f < 1000000 ∧ k ≤ aLen (pCo V P) (pDs V P t) t 7 f then (aAt (pCo V P) (pDs V P t) f k : Int) else -1
section P21
variable {sc : xS} {d : Nat} {T : Nat → Nat × Nat} {z : Nat × Nat} {V : Nat → Nat → Int} {J : Nat → Nat → Int64} {R : Nat → Nat → Option Nat}
theorem so_law {i P f t wy k : Nat} {g : Int} {W : Nat → Nat → Int} (hA : pAr T) (hP : qPar i T z.1 V R P) (ht : t < 8) (hf : f < 8) (hg : 1 ≤ g ∧ g ≤ 10000) (hTw : T wy = (32, 9)) (hwy : 64 ≤ wy) (hw : pRw2 V P t f wy) (hk : k < P) (hN : pDs V P t f < 1000000) (hW : ∀ b, ¬ (3 ≤ b ∧ b ≤ 8) → W b = V b) : X sc 10 97 [.ref 60, .ref 63, .ref wy, xw k, xw g] (T, z, xv W, J, R) = some (.inl (some (xw (pAb V P t f g k))), (T, z, xv W, J, R)) := by
  have e60 : W 60 = V 60 := hW 60 (by decide)
  have hM := qp_mo hP
  have wy0 := pWy_of ht hf (pDs_ok ht) hN hw
  have wy1 : pWy W wy (aAt (pCo V P) (pDs V P t) f) (aLen (pCo V P) (pDs V P t) t 7 f) := by
    unfold pWy
    rw [hW wy (by omega)]
    exact wy0
  have := l_bears (sc := sc) (d := 7) (z := z) (J := J) (R := R) (g := g) hA (pMo_e e60 (by rw [hW 63 (by decide)]) hM) hTw wy1 hk hg
  rw [show pBu W P (aAt (pCo V P) (pDs V P t) f) (aLen (pCo V P) (pDs V P t) t 7 f) g k = pBu V P (aAt (pCo V P) (pDs V P t) f) (aLen (pCo V P) (pDs V P t) t 7 f) g k by unfold pBu; rw [(pO_e e60).1, (pO_e e60).2.1, (pO_e e60).2.2], pBu_a hM.2.2.2 hk hN] at this
  exact this
/-- the class's way, as it stands behind the law's rows -/
theorem so_cls {i P f t : Nat} {W : Nat → Nat → Int} (hRo : xRo T R) (hP : qPar i T z.1 V R P) (hi : i ≤ 64) (ht : t < 8) (hf : f < 8) (hz : 64 ≤ z.1) (hW : ∀ b, ¬ (3 ≤ b ∧ b ≤ 8) → W b = V b) :
    xPq T R W P ∧ aRt (xLk R W f t) (pO V) (pQ V) (pL V) P (pDs V P t) t f ∧ ∀ p, p < P → xLk R W f t (xp R p) = V (xp R p) := by
  have hPp := qp_xPq hP hi
  have ge : ∀ p, p < P → 64 ≤ xp R p := fun p hp => (hP.2.2.2.1 p hp).2.1.2.1
  have hq : xPq T R W P := xPq_e hPp (hW 0 (by decide)) (fun k hk => hW _ (by have := ge k hk; omega))
  have hC : aCl R W (pO V) (pQ V) (pL V) P := fun p hp => by rw [hW _ (by have := ge p hp; omega)]; exact qp_aCl hP p hp
  exact ⟨hq, look_ok hRo hq hC ht hf (pDs_ok ht), fun p hp => by rw [xLk_ne (xRo_T hRo (hPp.2.2.2 p hp).2.1), hW _ (by have := ge p hp; omega)]⟩
theorem so_bears {i P f t wy : Nat} {g : Int} {o8 o9 o21 o22 o23 o24 o25 o26 : Option Value} (hT : xTr T R) (hRo : xRo T R) (hA : pAr T) (hz : 64 ≤ z.1) (hP : qPar i T z.1 V R P) (hi : i ≤ 64) (ht : t < 8) (hf : f < 8) (nft : ¬ f = t) (hg : 1 ≤ g ∧ g ≤ 9999) (hTw : T wy = (32, 9)) (hwy : 64 ≤ wy) (hw : pRw2 V P t f wy) :
    ∀ (m k : Nat) (W : Nat → Nat → Int) (h : Int) (o18 o19 o20 : Option Value), k + m = P → (∀ b, ¬ (3 ≤ b ∧ b ≤ 8) → W b = V b) → (-1 ≤ h ∧ h ≤ 9999) → (h = -1 → ¬ pDs V P t f < 1000000) →
    ∃ (W' : Nat → Nat → Int) (o18' o19' o20' : Option Value), XR sc 10 104 450 [some (.ref 0), some (.ref 57), some (.ref 58), some (.ref 59), some (.ref 60), some (.ref 61), some (.ref 62), some (.ref 63), o8, o9, some (xw 1), some (xw f), some (xw t), some (xw g), some (.ref wy), some (xw (xB (decide (pDs V P t f < 1000000)))), some (xw h), some (xw k), o18, o19, o20, o21, o22, o23, o24, o25, o26] [] (T, z, xv W, J, R) = XR sc 10 104 591 [some (.ref 0), some (.ref 57), some (.ref 58), some (.ref 59), some (.ref 60), some (.ref 61), some (.ref 62), some (.ref 63), o8, o9, some (xw 1), some (xw f), some (xw t), some (xw g), some (.ref wy), some (xw (xB (decide (pDs V P t f < 1000000)))), some (xw (sHd (pSh V P t f) (pSs V) m k h)), some (xw P), o18', o19', o20', o21, o22, o23, o24, o25, o26] [] (T, z, xv W', J, R) ∧ ∀ b, ¬ (3 ≤ b ∧ b ≤ 8) → W' b = V b := by
  have hP1 := hP.1.2.2
  have hP10 := hP.1.1
  intro m
  induction m with
  | zero =>
    intro k W h o18 o19 o20 hk hW hh hN
    obtain rfl : k = P := by omega
    refine ⟨W, o18, o19, o20, ?_, hW⟩
    rw [bL_isSo_450 (by rw [pA63 hA]) (by rw [pA63 hA]; omega) (by omega) (by rw [hW 63 (by decide)]; omega), hW 63 (by decide), if_pos (by omega), sHd]
  | succ m ih =>
    intro k W h o18 o19 o20 hk hW hh hN
    have hkP : k < P := by omega
    obtain ⟨a, ea, ha, g1⟩ := qp_y hP hkP
    obtain ⟨_, _, _, _, ⟨b0, b1, b5, b8, b57, b58⟩, _, ⟨b59, _, _⟩, _⟩ := id g1
    have shi := pSh_in (V := V) (n := P) (t := t) (f := f) (p := k) hP10
    obtain ⟨hq, hr, hc⟩ := so_cls (z := z) (W := W) hRo hP hi ht hf hz hW
    have cls := s_bears (sc := sc) (d := 0) (T := T) (z := z) (V := W) (J := J) (R := R) (x := (k : Int)) (f := (f : Int)) (t := (t : Int)) (g := g) (n := P) hT hRo hq (by omega) (by omega) (by omega) (by omega)
    have hC := qp_aCl hP
    have eb : xBu (xLk R W f t) (xp R k) g = pAb V P t f g k := xBu_ok (g := g) hr (fun p hp => (hC p hp).1) hkP (by rw [hc k hkP]; exact (hC k hkP).2.1) (by rw [hc k hkP]; exact (hC k hkP).2.2.1) (by rw [hc k hkP]; exact (hC k hkP).2.2.2)
    rw [if_pos (by omega), if_pos ⟨by omega, hg⟩, Int.toNat_natCast, Int.toNat_natCast, Int.toNat_natCast, eb] at cls
    have hW1 : ∀ b, ¬ (3 ≤ b ∧ b ≤ 8) → xLk R W f t b = V b := fun b hb => (xLk_ne (by omega)).trans (hW b hb)
    generalize xLk R W f t = W1 at cls hW1
    have abin : ∀ g : Int, 1 ≤ g ∧ g ≤ 10000 → 0 ≤ pAb V P t f g k ∧ pAb V P t f g k ≤ 10000 := fun g hg => aBu_in hg
    have ab1 := abin g (by omega)
    -- what is borne, by the law
    have e1 : XR sc 10 104 464 [some (.ref 0), some (.ref 57), some (.ref 58), some (.ref 59), some (.ref 60), some (.ref 61), some (.ref 62), some (.ref 63), o8, o9, some (xw 1), some (xw f), some (xw t), some (xw g), some (.ref wy), some (xw (xB (decide (pDs V P t f < 1000000)))), some (xw h), some (xw k), o18, o19, o20, o21, o22, o23, o24, o25, o26] [] (T, z, xv W, J, R) = XR sc 10 104 486 [some (.ref 0), some (.ref 57), some (.ref 58), some (.ref 59), some (.ref 60), some (.ref 61), some (.ref 62), some (.ref 63), o8, o9, some (xw 1), some (xw f), some (xw t), some (xw g), some (.ref wy), some (xw (xB (decide (pDs V P t f < 1000000)))), some (xw h), some (xw k), o18, o19, o20, o21, o22, o23, o24, o25, o26] [xw (pAb V P t f g k)] (T, z, xv W, J, R) := by
      by_cases c : pDs V P t f < 1000000
      · rw [decide_eq_true c, bL_isSo_464 (by first | omega | exact xB_in _ | exact xB_01 _ | exact iAnd_in | exact iShr_in | (simp only [Int.toNat_natCast]; omega) | decide), if_neg (by first | omega | decide), bL_isSo_469, so_law hA hP ht hf (by omega) hTw hwy hw hkP c hW, xret_v, bL_isSo_482]
      · rw [decide_eq_false c, bL_isSo_464 (by first | omega | exact xB_in _ | exact xB_01 _ | exact iAnd_in | exact iShr_in | (simp only [Int.toNat_natCast]; omega) | decide), if_pos (by first | omega | decide), bL_isSo_485, pAb_s, pSh_no c]; rfl
    have e2 : ∀ o18 o19 : Option Value, XR sc 10 104 514 [some (.ref 0), some (.ref 57), some (.ref 58), some (.ref 59), some (.ref 60), some (.ref 61), some (.ref 62), some (.ref 63), o8, o9, some (xw 1), some (xw f), some (xw t), some (xw g), some (.ref wy), some (xw (xB (decide (pDs V P t f < 1000000)))), some (xw h), some (xw k), o18, o19, o20, o21, o22, o23, o24, o25, o26] [xw 1] (T, z, xv W1, J, R) = XR sc 10 104 539 [some (.ref 0), some (.ref 57), some (.ref 58), some (.ref 59), some (.ref 60), some (.ref 61), some (.ref 62), some (.ref 63), o8, o9, some (xw 1), some (xw f), some (xw t), some (xw g), some (.ref wy), some (xw (xB (decide (pDs V P t f < 1000000)))), some (xw h), some (xw k), o18, o19, o20, o21, o22, o23, o24, o25, o26] [xw (pAb V P t f 5040 k)] (T, z, xv W1, J, R) := by
      intro o18 o19
      by_cases c : pDs V P t f < 1000000
      · rw [decide_eq_true c, bL_isSo_514 (by first | omega | exact xB_in _ | exact xB_01 _ | exact iAnd_in | exact iShr_in | (simp only [Int.toNat_natCast]; omega) | decide), if_neg (by first | omega | decide), bL_isSo_521, so_law hA hP ht hf (by decide) hTw hwy hw hkP c hW1, xret_v, bL_isSo_535]
      · rw [decide_eq_false c, bL_isSo_514 (by first | omega | exact xB_in _ | exact xB_01 _ | exact iAnd_in | exact iShr_in | (simp only [Int.toNat_natCast]; omega) | decide), if_pos (by first | omega | decide), bL_isSo_538, pAb_s, pSh_no c]; rfl
    rw [bL_isSo_450 (by rw [pA63 hA]) (by rw [pA63 hA]; omega) (by omega) (by rw [hW 63 (by decide)]; omega), hW 63 (by decide), if_neg (by omega), bL_isSo_459 (by first | omega | exact xB_in _ | exact xB_01 _ | exact iAnd_in | exact iShr_in | (simp only [Int.toNat_natCast]; omega) | decide), if_neg (by first | omega | decide), e1, bL_isSo_486, dv_bears hT.1 cls, xret_v, bL_isSo_504 (by omega) (by omega), if_pos rfl, bL_isSo_509, e2]
    by_cases c : pSh V P t f k ≤ 0
    · have ea : pAb V P t f 5040 k = 0 := by rw [pAb_s, if_pos c]
      obtain ⟨W', o18', o19', o20', i1, i2⟩ := ih (k + 1) W1 h (some (xw (pAb V P t f g k))) (some (xw 0)) (some (xw 9999)) (by omega) hW1 hh hN
      refine ⟨W', o18', o19', o20', ?_, i2⟩
      rw [ea, bL_isSo_539 (by first | omega | exact xB_in _ | exact xB_01 _ | exact iAnd_in | exact iShr_in | (simp only [Int.toNat_natCast]; omega) | decide), if_pos (by first | omega | decide), bL_isSo_546, bL_isSo_567 (by first | omega | exact xB_in _ | exact xB_01 _ | exact iAnd_in | exact iShr_in | (simp only [Int.toNat_natCast]; omega) | decide) (by first | omega | exact xB_in _ | exact xB_01 _ | exact iAnd_in | exact iShr_in | (simp only [Int.toNat_natCast]; omega) | decide), if_pos (by first | omega | decide), bL_isSo_581, bL_isSo_583, show (k : Int) + 1 = ((k + 1 : Nat) : Int) by omega, i1, sHd, if_pos c]
    · have ac := al_c (c := pSh V P t f k) (by omega)
      have ea : pAb V P t f 5040 k = (5040 + pSh V P t f k - 1) / pSh V P t f k := by rw [pAb_s, if_neg c]
      have cN : pDs V P t f < 1000000 := by
        by_cases q : pDs V P t f < 1000000
        · exact q
        · rw [pSh_no q] at c; omega
      have hh0 : 0 ≤ h := by
        by_cases q : h = -1
        · exact absurd cN (hN q)
        · omega
      rw [← ea] at ac
      have ls := l_strength (sc := sc) (d := 9) (T := T) (z := z) (V := W1) (J := J) (R := R) (n := k) hA (by omega) (by rw [hW1 57 (by decide)]; omega) (by rw [hW1 58 (by decide)]; omega) (by rw [hW1 59 (by decide)]; omega)
      rw [hW1 57 (by decide), hW1 58 (by decide), hW1 59 (by decide)] at ls
      have sIn : 0 ≤ pSs V k ∧ pSs V k ≤ 2250 := by
        have hm := mul_bd (a := 10 * (V 57 k / 16 % 16)) (b := V 57 k / 256 % 16) (A := 150) (B := 15) (by omega) (by omega)
        unfold pSs pSt
        by_cases c : V 59 k = 0
        · rw [if_pos c]; omega
        · rw [if_neg c]; omega
      have ls : X sc 10 93 [.ref 57, .ref 58, .ref 59, xw k] (T, z, xv W1, J, R) = some (.inl (some (xw (pSs V k))), (T, z, xv W1, J, R)) := ls
      have mb := mul_bd (a := pSh V P t f k) (b := pSs V k) (A := 10) (B := 2250) (by omega) sIn
      obtain ⟨W', o18', o19', o20', i1, i2⟩ := ih (k + 1) W1 (min h (pSh V P t f k * pSs V k)) (some (xw (pAb V P t f g k))) (some (xw (pAb V P t f 5040 k))) (some (xw (pSh V P t f k * pSs V k))) (by omega) hW1 (by omega) (by omega)
      refine ⟨W', o18', o19', o20', ?_, i2⟩
      rw [bL_isSo_539 (by omega), if_neg (by omega), bL_isSo_552 (by omega), ls, xret_v, bL_isSo_566, ac.2.2, bL_isSo_567 (by omega) (by omega)]
      rw [sHd, if_neg c, ← i1]
      by_cases le : h ≤ pSh V P t f k * pSs V k
      · rw [if_pos le, bL_isSo_581, bL_isSo_583, show (k : Int) + 1 = ((k + 1 : Nat) : Int) by omega, Int.min_eq_left le]
      · rw [if_neg le, bL_isSo_576, bL_isSo_583, show (k : Int) + 1 = ((k + 1 : Nat) : Int) by omega, Int.min_eq_right (by omega)]
end P21
