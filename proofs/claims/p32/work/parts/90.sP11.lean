/-! the property's law: hides are told, faults, finds -/
section P11
variable {sc : xS} {d : Nat} {T : Nat → Nat × Nat} {z : Nat × Nat} {V : Nat → Nat → Int} {J : Nat → Nat → Int64} {R : Nat → Nat → Option Nat}
theorem hide_t {one : Int} {o0 o1 o2 o3 o4 o5 o6 o7 o9 : Option Value} (h1 : 0 ≤ one ∧ one < 60000) : ∃ t : Int, (0 ≤ t ∧ t ≤ 10) ∧ XR sc d 106 13 [o0, o1, o2, o3, o4, o5, o6, o7, some (xw one), o9, none, none, none, none, none, none, none, none, none, none, none, none, none, none, none, none, none, none] [] (T, z, xv V, J, R) = XR sc d 106 39 [o0, o1, o2, o3, o4, o5, o6, o7, some (xw one), o9, none, none, none, none, none, none, none, none, none, none, none, none, none, none, none, none, none, none] [xw t] (T, z, xv V, J, R) := by
  by_cases c : one % 9 = 0
  · exact ⟨one / 9 % 11, by omega, by rw [bL_isHide_13 (by first | omega | exact xB_in _ | exact xB_01 _ | exact iAnd_in | exact iShr_in | (simp only [Int.toNat_natCast]; omega) | decide) (by first | omega | exact xB_in _ | exact xB_01 _ | exact iAnd_in | exact iShr_in | (simp only [Int.toNat_natCast]; omega) | decide), if_pos (by first | omega | decide), bL_isHide_21 (by first | omega | exact xB_in _ | exact xB_01 _ | exact iAnd_in | exact iShr_in | (simp only [Int.toNat_natCast]; omega) | decide) (by first | omega | exact xB_in _ | exact xB_01 _ | exact iAnd_in | exact iShr_in | (simp only [Int.toNat_natCast]; omega) | decide)]⟩
  · exact ⟨3 + one % 7, by omega, by rw [bL_isHide_13 (by first | omega | exact xB_in _ | exact xB_01 _ | exact iAnd_in | exact iShr_in | (simp only [Int.toNat_natCast]; omega) | decide) (by first | omega | exact xB_in _ | exact xB_01 _ | exact iAnd_in | exact iShr_in | (simp only [Int.toNat_natCast]; omega) | decide), if_neg (by first | omega | decide), bL_isHide_32 (by first | omega | exact xB_in _ | exact xB_01 _ | exact iAnd_in | exact iShr_in | (simp only [Int.toNat_natCast]; omega) | decide)]⟩
theorem iBt_0 : ∀ k, k < 32 → iBt 0 k = false := by decide +kernel
theorem h_hide {i : Nat} {one two : Int} (hI : qInv i T z V R) (h0 : V 63 0 < 2) (h1 : 0 ≤ one ∧ one < 60000) : qDone (X sc 11 106 [.ref 0, .ref 56, .ref 57, .ref 58, .ref 59, .ref 60, .ref 63, xw 0, xw one, xw two] (T, z, xv V, J, R)) i z := by
  obtain ⟨hT, hRo, hHs, hSs, hSe, hA⟩ := hI.1
  have hz := hI.2.1
  obtain ⟨H, hH⟩ := hI.2.2.1
  obtain ⟨P, hP⟩ := hI.2.2.2.1
  have hor := hI.2.2.2.2
  obtain ⟨⟨q1, q2, q3⟩, q4, ⟨q5, q5b⟩, q6, q7⟩ := id hH
  obtain ⟨t, t1, t2⟩ := hide_t (sc := sc) (d := 10) (T := T) (z := z) (V := V) (J := J) (R := R) (o0 := some (.ref 0)) (o1 := some (.ref 56)) (o2 := some (.ref 57)) (o3 := some (.ref 58)) (o4 := some (.ref 59)) (o5 := some (.ref 60)) (o6 := some (.ref 63)) (o7 := some (xw 0)) (o9 := some (xw two)) h1
  rw [eL_isHide, bL_isHide_0 (by first | omega | exact xB_in _ | exact xB_01 _ | exact iAnd_in | exact iShr_in | (simp only [Int.toNat_natCast]; omega) | decide), if_pos (by first | omega | decide), bL_isHide_5 (by rw [pA63 hA]) (by rw [pA63 hA]; omega) (by first | omega | exact xB_in _ | exact xB_01 _ | exact iAnd_in | exact iShr_in | (simp only [Int.toNat_natCast]; omega) | decide), if_neg (by first | omega | decide), t2]
  by_cases c : 2 ≤ t ∧ t ≤ 9
  · rw [bL_isHide_39 (by first | omega | exact xB_in _ | exact xB_01 _ | exact iAnd_in | exact iShr_in | (simp only [Int.toNat_natCast]; omega) | decide), if_neg (by first | omega | decide), bL_isHide_47 (by first | omega | exact xB_in _ | exact xB_01 _ | exact iAnd_in | exact iShr_in | (simp only [Int.toNat_natCast]; omega) | decide), if_neg (by first | omega | decide), bL_isHide_54, bL_isHide_59 (by first | omega | exact xB_in _ | exact xB_01 _ | exact iAnd_in | exact iShr_in | (simp only [Int.toNat_natCast]; omega) | decide), if_neg (by first | omega | decide), bL_isHide_66 (by rw [pA63 hA]) (by rw [pA63 hA]; omega) (by rw [pA56 hA]) (by rw [pA56 hA]; omega), xup2_o (V := V) (show ¬ 63 = 56 by decide), q3, Int.toNat_natCast, bL_isHide_82]
    have W : ∀ b, ¬ b = 56 → ¬ b = 63 → xup2 (xup2 V 56 H t) 63 0 ((H : Int) + 1) b = V b := fun b x y => by rw [xup2_o y, xup2_o x]
    have cls := s_hide (sc := sc) (d := 1) (T := T) (z := z) (V := xup2 (xup2 V 56 H t) 63 0 ((H : Int) + 1)) (J := J) (R := R) (t := t) hT (by omega) (by omega) (by rw [W 0 (by decide) (by decide)]; omega)
    rw [if_pos c, if_pos (by rw [W 0 (by decide) (by decide)]; omega), W 0 (by decide) (by decide), q2, Int.toNat_natCast] at cls
    have eT : ∀ b, b < z.1 → xHT T z.1 b = T b := fun b hb => by unfold xHT; rw [va_ne (by omega), va_ne (by omega)]
    have eR : ∀ b, b < z.1 → ¬ b = 1 → xup2 (xHR R z.1) 1 H (some z.1) b = R b := fun b hb b1 => by unfold xHR; rw [xup2_o b1, xup2_o (by omega), va_ne (by omega), va_ne (by omega)]
    have eR1 : ∀ k, xup2 (xHR R z.1) 1 H (some z.1) 1 k = if k = H then some z.1 else R 1 k := fun k => by
      by_cases e : k = H
      · subst e; rw [xup2_i, if_pos rfl]
      · unfold xHR; rw [xup2_j e, if_neg e, xup2_o (by omega), va_ne (by omega), va_ne (by omega)]
    have eV : ∀ b, b < z.1 → ¬ b = 0 → ¬ b = 56 → ¬ b = 63 → xup2 (xHV (xup2 (xup2 V 56 H t) 63 0 ((H : Int) + 1)) z.1 t) 0 1 ((H : Int) + 1) b = V b := fun b hb b0 b1 b2 => by unfold xHV; rw [xup2_o b0, va_ne (by omega), xup2_o (by omega), va_ne (by omega), W b b1 b2]
    have e63 : ∀ j, xup2 (xHV (xup2 (xup2 V 56 H t) 63 0 ((H : Int) + 1)) z.1 t) 0 1 ((H : Int) + 1) 63 j = if j = 0 then (H : Int) + 1 else V 63 j := fun j => by
      unfold xHV; rw [xup2_o (by decide), va_ne (by omega), xup2_o (by omega), va_ne (by omega)]
      by_cases e : j = 0
      · subst e; rw [xup2_i, if_pos rfl]
      · rw [xup2_j e, if_neg e, xup2_o (by decide)]
    have e56 : ∀ j, xup2 (xHV (xup2 (xup2 V 56 H t) 63 0 ((H : Int) + 1)) z.1 t) 0 1 ((H : Int) + 1) 56 j = if j = H then t else V 56 j := fun j => by
      unfold xHV; rw [xup2_o (by decide), va_ne (by omega), xup2_o (by omega), va_ne (by omega), xup2_o (by decide)]
      by_cases e : j = H
      · subst e; rw [xup2_i, if_pos rfl]
      · rw [xup2_j e, if_neg e]
    have e0 : ∀ j, xup2 (xHV (xup2 (xup2 V 56 H t) 63 0 ((H : Int) + 1)) z.1 t) 0 1 ((H : Int) + 1) 0 j = if j = 1 then (H : Int) + 1 else V 0 j := fun j => by
      by_cases e : j = 1
      · subst e; rw [xup2_i, if_pos rfl]
      · unfold xHV; rw [xup2_j e, if_neg e, va_ne (by omega), xup2_o (by omega), va_ne (by omega), W 0 (by decide) (by decide)]
    have en : xup2 (xHV (xup2 (xup2 V 56 H t) 63 0 ((H : Int) + 1)) z.1 t) 0 1 ((H : Int) + 1) z.1 0 = t := by unfold xHV; rw [xup2_o (by omega), va_ne (by omega), xup2_i]
    have en1 : ∀ k, xup2 (xHV (xup2 (xup2 V 56 H t) 63 0 ((H : Int) + 1)) z.1 t) 0 1 ((H : Int) + 1) (z.1 + 1) k = 0 := fun k => by unfold xHV; rw [xup2_o (by omega), va_same]
    have hTn : xHT T z.1 z.1 = (1, 0) ∧ xHT T z.1 (z.1 + 1) = (33, 96) := by unfold xHT; exact ⟨by rw [va_ne (by omega), va_same], va_same⟩
    have hRn : xup2 (xHR R z.1) 1 H (some z.1) z.1 1 = some (z.1 + 1) := by unfold xHR; rw [xup2_o (by omega), xup2_i]
    rw [dv_hide hT.1 cls, xret_v]
    revert eT eR eR1 eV e63 e56 e0 en en1 hTn hRn
    generalize xup2 (xHV (xup2 (xup2 V 56 H t) 63 0 ((H : Int) + 1)) z.1 t) 0 1 ((H : Int) + 1) = V2
    generalize xHT T z.1 = T2
    generalize xup2 (xHR R z.1) 1 H (some z.1) = R2
    intro eT eR eR1 eV e63 e56 e0 en en1 hTn hRn
    have hA : pAr T2 := pAr_e hA (fun b _ hb => eT b (by omega))
    rw [bL_isHide_94 (by first | omega | exact xB_in _ | exact xB_01 _ | exact iAnd_in | exact iShr_in | (simp only [Int.toNat_natCast]; omega) | decide), if_neg (by first | omega | decide), bL_isHide_99 (by rw [pA63 hA]) (by rw [pA63 hA]; omega), e63, if_pos rfl, bL_isHide_110 (by first | omega | exact xB_in _ | exact xB_01 _ | exact iAnd_in | exact iShr_in | (simp only [Int.toNat_natCast]; omega) | decide) (by first | omega | exact xB_in _ | exact xB_01 _ | exact iAnd_in | exact iShr_in | (simp only [Int.toNat_natCast]; omega) | decide), if_pos (by first | omega | decide), bL_isHide_113, bL_isHide_118 (by first | omega | exact xB_in _ | exact xB_01 _ | exact iAnd_in | exact iShr_in | (simp only [Int.toNat_natCast]; omega) | decide)]
    refine ⟨_, _, _, _, _, rfl, ⟨qSta_e hI.1 (fun b hb => eT b (by omega)) (fun b hb b1 _ => eR b (by omega) b1), by show 64 ≤ z.1 + 1 + 1; omega, ⟨H + 1, ?_⟩, ⟨P, ?_⟩, ?_⟩, by show z.1 + 1 + 1 ≤ _; omega, by show z.2 + 2 + 96 ≤ _; omega⟩
    · have ex : ∀ h, h < H → xh R2 h = xh R h := fun h hh => by unfold xh; rw [eR1, if_neg (by omega)]
      have exn : xh R2 H = z.1 := by unfold xh; rw [eR1, if_pos rfl]; rfl
      refine ⟨⟨by omega, by rw [e0, if_pos rfl]; rfl, by rw [e63, if_pos rfl]; rfl⟩, fun h a b => by rw [eR1, if_neg (by omega)]; exact q4 h (by omega) b, ⟨fun h a b r c => by rw [e56, if_neg (by omega)]; exact q5 h (by omega) b r c, fun j a b => by rw [e56, if_neg (by omega)]; exact q5b j a b⟩, fun h a => ?_, fun h h' a b c => ?_⟩
      · by_cases e : h = H
        · subst e
          rw [exn, eR1, if_pos rfl]
          refine ⟨rfl, ⟨hTn.1, hRn, hTn.2⟩, by omega, by show z.1 + 1 < z.1 + 1 + 1; omega, by rw [en, e56, if_pos rfl], by rw [e56, if_pos rfl]; exact c, fun k hk => ?_⟩
          rw [en1, e56, if_neg (show ¬ 2 + 8 * h + k / 12 = h by omega), q5 h (Nat.le_refl _) (by omega) (k / 12) (by omega), iBt_0 _ (by omega)]; rfl
        · obtain ⟨u1, u2⟩ := q6 h (by omega)
          have u2' := u2
          obtain ⟨⟨r1, r2, r3⟩, r4, r5, _⟩ := u2'
          rw [ex h (by omega), eR1, if_neg e]
          exact ⟨u1, qHi1_e u2 (by show z.1 ≤ z.1 + 1 + 1; omega) ⟨eT _ (by omega), eT _ (by omega)⟩ (eR _ (by omega) (by omega)) (by rw [e56, if_neg e]) (fun r hr => by rw [e56, if_neg (by omega)]) (by rw [eV _ (by omega) (by omega) (by omega) (by omega)]) (fun k _ => by rw [eV _ (by omega) (by omega) (by omega) (by omega)])⟩
      · have lt : ∀ x, x < H → xh R x < z.1 := fun x hx => by have := (q6 x hx).2.2.2.1; omega
        by_cases e : h = H
        · by_cases e' : h' = H
          · omega
          · subst e; rw [exn, ex h' (by omega)] at c; have := lt h' (by omega); omega
        · by_cases e' : h' = H
          · subst e'; rw [exn, ex h (by omega)] at c; have := lt h (by omega); omega
          · rw [ex h (by omega), ex h' (by omega)] at c; exact q7 h h' (by omega) (by omega) c
    · exact qPar_e hP (Nat.le_succ i) (by show z.1 ≤ z.1 + 1 + 1; omega) (fun b _ hb => eT b hb) (eR 2 (by omega) (by decide)) (fun b _ hb => eR b hb (by omega)) (by rw [e0, if_neg (by decide)]) (by rw [e63, if_neg (by decide)]) (fun r q r1 r2 _ => by rw [eV r (by omega) (by omega) (by omega) (by omega)]) (by rw [eV 58 (by omega) (by decide) (by decide) (by decide)]) (fun b b1 b2 _ => eV b b2 (by omega) (by omega) (by omega))
    · exact qHor_e hor (Nat.le_succ i) (by rw [e0, if_neg (by decide)]) (by rw [e63, if_neg (by decide)]) (fun b b1 b2 => eV b (by omega) (by omega) (by omega) (by omega)) (fun j _ => by rw [eV 61 (by omega) (by decide) (by decide) (by decide)]) (fun j _ => by rw [eV 62 (by omega) (by decide) (by decide) (by decide)]) (by rw [eV 55 (by omega) (by decide) (by decide) (by decide)]; exact hor.2.2.2.2.2.2.2.2)
  · have cls := s_hide (sc := sc) (d := 1) (T := T) (z := z) (V := V) (J := J) (R := R) (t := t) hT (by omega) (by omega) (by omega)
    rw [if_neg c] at cls
    have go : XR sc 10 106 39 [some (.ref 0), some (.ref 56), some (.ref 57), some (.ref 58), some (.ref 59), some (.ref 60), some (.ref 63), some (xw 0), some (xw one), some (xw two), none, none, none, none, none, none, none, none, none, none, none, none, none, none, none, none, none, none] [xw t] (T, z, xv V, J, R) = XR sc 10 106 82 [some (.ref 0), some (.ref 56), some (.ref 57), some (.ref 58), some (.ref 59), some (.ref 60), some (.ref 63), some (xw 0), some (xw one), some (xw two), some (xw t), some (xw 0), none, none, none, none, none, none, none, none, none, none, none, none, none, none, none, none] [] (T, z, xv V, J, R) := by
      by_cases c2 : t ≤ 1
      · rw [bL_isHide_39 (by first | omega | exact xB_in _ | exact xB_01 _ | exact iAnd_in | exact iShr_in | (simp only [Int.toNat_natCast]; omega) | decide), if_pos (by first | omega | decide), bL_isHide_58, bL_isHide_59 (by first | omega | exact xB_in _ | exact xB_01 _ | exact iAnd_in | exact iShr_in | (simp only [Int.toNat_natCast]; omega) | decide), if_pos (by first | omega | decide)]
      · rw [bL_isHide_39 (by first | omega | exact xB_in _ | exact xB_01 _ | exact iAnd_in | exact iShr_in | (simp only [Int.toNat_natCast]; omega) | decide), if_neg (by first | omega | decide), bL_isHide_47 (by first | omega | exact xB_in _ | exact xB_01 _ | exact iAnd_in | exact iShr_in | (simp only [Int.toNat_natCast]; omega) | decide), if_pos (by first | omega | decide), bL_isHide_58, bL_isHide_59 (by first | omega | exact xB_in _ | exact xB_01 _ | exact iAnd_in | exact iShr_in | (simp only [Int.toNat_natCast]; omega) | decide), if_pos (by first | omega | decide)]
    rw [go, bL_isHide_82, dx_hide hT.1 (by decide) cls, xret_v, show pK 8 = -2000000 from rfl, bL_isHide_94 (by first | omega | exact xB_in _ | exact xB_01 _ | exact iAnd_in | exact iShr_in | (simp only [Int.toNat_natCast]; omega) | decide), if_pos (by first | omega | decide), bL_isHide_108, bL_isHide_110 (by first | omega | exact xB_in _ | exact xB_01 _ | exact iAnd_in | exact iShr_in | (simp only [Int.toNat_natCast]; omega) | decide) (by first | omega | exact xB_in _ | exact xB_01 _ | exact iAnd_in | exact iShr_in | (simp only [Int.toNat_natCast]; omega) | decide), if_pos (by first | omega | decide), bL_isHide_113, bL_isHide_118 (by first | omega | exact xB_in _ | exact xB_01 _ | exact iAnd_in | exact iShr_in | (simp only [Int.toNat_natCast]; omega) | decide)]
    refine ⟨_, _, _, _, _, rfl, qInv_k hI (Nat.le_succ i) (qKeep_x hz (fun _ _ _ => rfl)), ?_, ?_⟩
    · show z.1 + 1 ≤ _; omega
    · show z.2 + 6 ≤ _; omega
/-- the squares that are gone are counted -/
theorem gone_lp {hd : Nat} {o0 o2 o3 o4 o5 o6 o7 o8 o9 o11 o12 o13 o17 o18 o19 o20 o21 o22 o23 o24 o25 o26 o27 : Option Value} (hA : pAr T) (hh : hd < 2) :
    ∀ (m n : Nat) (g : Int), n + m = 8 → ∃ o16 : Option Value, XR sc (d + 1) 106 229 [o0, some (.ref 56), o2, o3, o4, o5, o6, o7, o8, o9, some (xw hd), o11, o12, o13, some (xw 1), some (xw g), some (xw n), o17, o18, o19, o20, o21, o22, o23, o24, o25, o26, o27] [] (T, z, xv V, J, R) = XR sc (d + 1) 106 267 [o0, some (.ref 56), o2, o3, o4, o5, o6, o7, o8, o9, some (xw hd), o11, o12, o13, some (xw 1), some (xw (g + pGo (fun n => V 56 (2 + 8 * hd + n)) m n)), o16, o17, o18, o19, o20, o21, o22, o23, o24, o25, o26, o27] [] (T, z, xv V, J, R) := by
  intro m
  induction m with
  | zero =>
    intro n g hn
    exact ⟨some (xw n), by rw [bL_isHide_229 (by first | omega | exact xB_in _ | exact xB_01 _ | exact iAnd_in | exact iShr_in | (simp only [Int.toNat_natCast]; omega) | decide), if_pos (by first | omega | decide), pGo, Int.add_zero]⟩
  | succ m ih =>
    intro n g hn
    obtain ⟨o16, h⟩ := ih (n + 1) (g + pMn (V 56 (2 + 8 * hd + n)) 30 0) (by omega)
    refine ⟨o16, ?_⟩
    rw [bL_isHide_229 (by first | omega | exact xB_in _ | exact xB_01 _ | exact iAnd_in | exact iShr_in | (simp only [Int.toNat_natCast]; omega) | decide), if_neg (by first | omega | decide), bL_isHide_236 (by first | omega | exact xB_in _ | exact xB_01 _ | exact iAnd_in | exact iShr_in | (simp only [Int.toNat_natCast]; omega) | decide), if_neg (by first | omega | decide), bL_isHide_241 (by rw [pA56 hA]) (by rw [pA56 hA]; omega), show (2 + 8 * (hd : Int) + (n : Int)).toNat = 2 + 8 * hd + n by omega, l_many, xret_v, bL_isHide_258, show (n : Int) + 1 = ((n + 1 : Nat) : Int) by omega, h, pGo, Int.add_assoc]
theorem h_fault {i : Nat} {what one two : Int} (hI : qInv i T z V R) (hw : what = 1 ∨ (what = 0 ∧ 2 ≤ V 63 0)) (h1 : 0 ≤ one ∧ one < 60000) (h2 : 0 ≤ two ∧ two < 60000) : qDone (X sc 11 106 [.ref 0, .ref 56, .ref 57, .ref 58, .ref 59, .ref 60, .ref 63, xw what, xw one, xw two] (T, z, xv V, J, R)) i z := by
  obtain ⟨hT, hRo, hHs, hSs, hSe, hA⟩ := hI.1
  have hz := hI.2.1
  obtain ⟨H, hH⟩ := hI.2.2.1
  obtain ⟨P, hP⟩ := hI.2.2.2.1
  have hor := hI.2.2.2.2
  obtain ⟨⟨q1, q2, q3⟩, q4, ⟨q5, q5b⟩, q6, q7⟩ := id hH
  have go : X sc 11 106 [.ref 0, .ref 56, .ref 57, .ref 58, .ref 59, .ref 60, .ref 63, xw what, xw one, xw two] (T, z, xv V, J, R) = XR sc 10 106 119 [some (.ref 0), some (.ref 56), some (.ref 57), some (.ref 58), some (.ref 59), some (.ref 60), some (.ref 63), some (xw what), some (xw one), some (xw two), none, none, none, none, none, none, none, none, none, none, none, none, none, none, none, none, none, none] [] (T, z, xv V, J, R) := by
    rw [eL_isHide]
    rcases hw with e | ⟨e, e2⟩
    · rw [bL_isHide_0 (by first | omega | exact xB_in _ | exact xB_01 _ | exact iAnd_in | exact iShr_in | (simp only [Int.toNat_natCast]; omega) | decide), if_neg (by first | omega | decide)]
    · rw [bL_isHide_0 (by first | omega | exact xB_in _ | exact xB_01 _ | exact iAnd_in | exact iShr_in | (simp only [Int.toNat_natCast]; omega) | decide), if_pos (by first | omega | decide), bL_isHide_5 (by rw [pA63 hA]) (by rw [pA63 hA]; omega) (by first | omega | exact xB_in _ | exact xB_01 _ | exact iAnd_in | exact iShr_in | (simp only [Int.toNat_natCast]; omega) | decide), if_pos (by first | omega | decide)]
  obtain ⟨hd, co, ro, a1, a2, a3, a4⟩ := hd_start (sc := sc) (d := 10) (T := T) (z := z) (V := V) (J := J) (R := R) (what := what) (o2 := some (.ref 57)) (o3 := some (.ref 58)) (o4 := some (.ref 59)) (o5 := some (.ref 60)) (o14 := none) (o15 := none) (o16 := none) (o17 := none) (o18 := none) (o19 := none) (o20 := none) (o21 := none) (o22 := none) (o23 := none) (o24 := none) (o25 := none) (o26 := none) (o27 := none) hA ⟨q1, q3⟩ h1 h2
  rw [go, a4]
  by_cases c : hd < H ∧ co < 12 ∧ ro < 8
  · obtain ⟨a, ea, ha, g1⟩ := qd_y hH c.1
    obtain ⟨⟨p1a, p1b, p1c⟩, p2, p3, p4, p5, p6⟩ := id g1
    rw [decide_eq_true c, bL_isHide_186 (by first | omega | exact xB_in _ | exact xB_01 _ | exact iAnd_in | exact iShr_in | (simp only [Int.toNat_natCast]; omega) | decide), if_neg (by first | omega | decide), bL_isHide_194 (by first | omega | exact xB_in _ | exact xB_01 _ | exact iAnd_in | exact iShr_in | (simp only [Int.toNat_natCast]; omega) | decide), if_neg (by first | omega | decide), bL_isHide_200, bL_isHide_215 (by rw [pA56 hA]) (by rw [pA56 hA]; omega), show (2 + 8 * (hd : Int) + (ro : Int)).toNat = 2 + 8 * hd + ro by omega]
    have w56 : ∀ j, xup2 V 56 (2 + 8 * hd + ro) (iOr (V 56 (2 + 8 * hd + ro)) (iShl 1 co)) 56 j = if j = 2 + 8 * hd + ro then iOr (V 56 (2 + 8 * hd + ro)) (iShl 1 co) else V 56 j := fun j => by
      by_cases e : j = 2 + 8 * hd + ro
      · subst e; rw [xup2_i, if_pos rfl]
      · rw [xup2_j e, if_neg e]
    have wo : ∀ b, ¬ b = 56 → xup2 V 56 (2 + 8 * hd + ro) (iOr (V 56 (2 + 8 * hd + ro)) (iShl 1 co)) b = V b := fun b hb => xup2_o hb
    revert w56 wo
    generalize xup2 V 56 (2 + 8 * hd + ro) (iOr (V 56 (2 + 8 * hd + ro)) (iShl 1 co)) = W
    intro w56 wo
    obtain ⟨o16, gl⟩ := gone_lp (sc := sc) (d := 9) (T := T) (z := z) (V := W) (J := J) (R := R) (hd := hd) (o0 := some (.ref 0)) (o2 := some (.ref 57)) (o3 := some (.ref 58)) (o4 := some (.ref 59)) (o5 := some (.ref 60)) (o6 := some (.ref 63)) (o7 := some (xw what)) (o8 := some (xw one)) (o9 := some (xw two)) (o11 := some (xw (xB (decide (hd < H))))) (o12 := some (xw co)) (o13 := some (xw ro)) (o17 := none) (o18 := none) (o19 := none) (o20 := none) (o21 := none) (o22 := none) (o23 := none) (o24 := none) (o25 := none) (o26 := none) (o27 := none) hA (by omega) 8 0 0 rfl
    have gl : XR sc 10 106 229 [some (.ref 0), some (.ref 56), some (.ref 57), some (.ref 58), some (.ref 59), some (.ref 60), some (.ref 63), some (xw what), some (xw one), some (xw two), some (xw hd), some (xw (xB (decide (hd < H)))), some (xw co), some (xw ro), some (xw (xB true)), some (xw 0), some (xw 0), none, none, none, none, none, none, none, none, none, none, none] [] (T, z, xv W, J, R) = _ := gl
    have ga : W (a + 1) = V (a + 1) := wo _ (by omega)
    have cls := s_fault (sc := sc) (d := 1) (z := z) (V := W) (J := J) (x := (hd : Int)) (c := (co : Int)) (r := (ro : Int)) hT (by omega) (by rw [Int.toNat_natCast]; exact ha) g1.1 (fun k hk => by rw [ga]; exact qd_01 g1 k hk) (by omega) (by omega)
    rw [if_pos (by omega), show (1 : Int) = ((1 : Nat) : Int) from rfl] at cls
    -- the squares behind it
    have rg : ∀ k, k < 96 → xSp W (a + 1) co ro ((1 : Nat) : Int) ((1 : Nat) : Int) (a + 1) k = if iBt (W 56 (2 + 8 * hd + k / 12)) (k % 12) = true then 1 else 0 := fun k hk => by
      rw [xSp_at, ga, w56]
      by_cases e : k / 12 = ro
      · rw [if_pos (show 2 + 8 * hd + k / 12 = 2 + 8 * hd + ro by omega), i_or, i_one co (by omega) (k % 12) (by omega)]
        by_cases e2 : k % 12 = co
        · rw [decide_eq_true e2, Bool.or_true, if_pos rfl, if_pos (by omega)]
        · rw [decide_eq_false e2, Bool.or_false, if_neg (by omega), ← e]; exact p6 k hk
      · rw [if_neg (show ¬ 2 + 8 * hd + k / 12 = 2 + 8 * hd + ro by omega), if_neg (by omega)]; exact p6 k hk
    have bits : ∀ r, r < 8 → ∀ k, 12 ≤ k → k < 32 → iBt (W 56 (2 + 8 * hd + r)) k = false := fun r hr k k1 k2 => by
      rw [w56]
      by_cases e : 2 + 8 * hd + r = 2 + 8 * hd + ro
      · rw [if_pos e, i_or, i_one co (by omega) k k2, q5b (2 + 8 * hd + ro) (by omega) (by omega) k k1 k2, decide_eq_false (by omega)]; rfl
      · rw [if_neg e]; exact q5b (2 + 8 * hd + r) (by omega) (by omega) k k1 k2
    have lf := go_left (V := xSp W (a + 1) co ro ((1 : Nat) : Int) ((1 : Nat) : Int)) (B := fun n => W 56 (2 + 8 * hd + n)) (g := a + 1) rg bits 8 0 rfl
    have lf : xLeft (xSp W (a + 1) co ro ((1 : Nat) : Int) ((1 : Nat) : Int)) (a + 1) 96 0 + pGo (fun n => W 56 (2 + 8 * hd + n)) 8 0 = 96 := lf
    have gb := pGo_in (B := fun n => W 56 (2 + 8 * hd + n)) 8 0
    rw [gl, bL_isHide_267, dv_fault hT.1 cls, xret_v]
    rw [bL_isHide_281 (by first | omega | exact xB_in _ | exact xB_01 _ | exact iAnd_in | exact iShr_in | (simp only [Int.toNat_natCast]; omega) | decide), if_neg (by first | omega | decide), bL_isHide_286, show 96 - (0 + pGo (fun n => W 56 (2 + 8 * hd + n)) 8 0) = xLeft (xSp W (a + 1) co ro ((1 : Nat) : Int) ((1 : Nat) : Int)) (a + 1) 96 0 by omega, bL_isHide_296 (by first | omega | exact xB_in _ | exact xB_01 _ | exact iAnd_in | exact iShr_in | (simp only [Int.toNat_natCast]; omega) | decide) (by first | omega | exact xB_in _ | exact xB_01 _ | exact iAnd_in | exact iShr_in | (simp only [Int.toNat_natCast]; omega) | decide), if_pos (by first | omega | decide), bL_isHide_299, bL_isHide_304 (by first | omega | exact xB_in _ | exact xB_01 _ | exact iAnd_in | exact iShr_in | (simp only [Int.toNat_natCast]; omega) | decide)]
    have so : ∀ b, ¬ b = a + 1 → xSp W (a + 1) co ro ((1 : Nat) : Int) ((1 : Nat) : Int) b = W b := fun b hb => xSp_o hb
    have e56 : xSp W (a + 1) co ro ((1 : Nat) : Int) ((1 : Nat) : Int) 56 = W 56 := so 56 (by omega)
    refine ⟨_, _, _, _, _, rfl, ⟨hI.1, hz, ⟨H, ?_⟩, ⟨P, ?_⟩, ?_⟩, by omega, by omega⟩
    · refine qHid_u hH c.1 ea (Nat.le_refl _) (fun _ _ _ => rfl) rfl (fun _ _ _ => rfl) (by rw [so 0 (by omega), wo 0 (by decide)]) (by rw [so 63 (by omega), wo 63 (by decide)]) (fun q x y => by rw [e56, w56, if_neg (by omega)]) (by rw [e56]; exact bits) (fun b b1 b2 b3 _ => by rw [so b b3, wo b (by omega)]) (by rw [e56]; exact rg)
    · exact qPar_e hP (Nat.le_succ i) (Nat.le_refl _) (fun _ _ _ => rfl) rfl (fun _ _ _ => rfl) (by rw [so 0 (by omega), wo 0 (by decide)]) (by rw [so 63 (by omega), wo 63 (by decide)]) (fun r q r1 r2 _ => by rw [so r (by omega), wo r (by omega)]) (by rw [so 58 (by omega), wo 58 (by decide)]) (fun b b1 b2 b3 => by
        rw [so b (fun e => by rw [e, p1c] at b3; rcases b3 with q | q <;> exact absurd q (by decide)), wo b (by omega)])
    · exact qHor_e hor (Nat.le_succ i) (by rw [so 0 (by omega), wo 0 (by decide)]) (by rw [so 63 (by omega), wo 63 (by decide)]) (fun b b1 b2 => by rw [so b (by omega), wo b (by omega)]) (fun j _ => by rw [so 61 (by omega), wo 61 (by decide)]) (fun j _ => by rw [so 62 (by omega), wo 62 (by decide)]) (by rw [so 55 (by omega), wo 55 (by decide)]; exact hor.2.2.2.2.2.2.2.2)
  · have cls : X sc 9 51 [.ref 0, xw hd, xw co, xw ro] (T, z, xv (xup2 V 56 18 (iOr (V 56 18) (iShl 1 co))), J, R) = xTw 10 T z (xup2 V 56 18 (iOr (V 56 18) (iShl 1 co))) J R := by
      by_cases ch : hd < H
      · obtain ⟨a, ea, ha, g1⟩ := qd_y hH ch
        have := g1.2.1
        have cls := s_fault (sc := sc) (d := 1) (z := z) (V := xup2 V 56 18 (iOr (V 56 18) (iShl 1 co))) (J := J) (x := (hd : Int)) (c := (co : Int)) (r := (ro : Int)) hT (by omega) (by rw [Int.toNat_natCast]; exact ha) g1.1 (fun k hk => by rw [xup2_o (by omega)]; exact qd_01 g1 k hk) (by omega) (by omega)
        rw [if_neg (by omega)] at cls
        exact cls
      · exact s_fault_x (sc := sc) (d := 1) hT (by omega) (qd_no hH (by omega))
    rw [decide_eq_false c, bL_isHide_186 (by first | omega | exact xB_in _ | exact xB_01 _ | exact iAnd_in | exact iShr_in | (simp only [Int.toNat_natCast]; omega) | decide), if_neg (by first | omega | decide), bL_isHide_194 (by first | omega | exact xB_in _ | exact xB_01 _ | exact iAnd_in | exact iShr_in | (simp only [Int.toNat_natCast]; omega) | decide), if_pos (by first | omega | decide), bL_isHide_213, bL_isHide_215 (by rw [pA56 hA]) (by rw [pA56 hA]; omega), show (18 : Int).toNat = 18 from rfl, bL_isHide_229 (by first | omega | exact xB_in _ | exact xB_01 _ | exact iAnd_in | exact iShr_in | (simp only [Int.toNat_natCast]; omega) | decide), if_neg (by first | omega | decide), bL_isHide_236 (by first | omega | exact xB_in _ | exact xB_01 _ | exact iAnd_in | exact iShr_in | (simp only [Int.toNat_natCast]; omega) | decide), if_pos (by first | omega | decide), bL_isHide_267, dx_fault hT.1 (by decide) cls, xret_v, show pK 10 = -3000000 from rfl, bL_isHide_281 (by first | omega | exact xB_in _ | exact xB_01 _ | exact iAnd_in | exact iShr_in | (simp only [Int.toNat_natCast]; omega) | decide), if_pos (by first | omega | decide), bL_isHide_294, bL_isHide_296 (by first | omega | exact xB_in _ | exact xB_01 _ | exact iAnd_in | exact iShr_in | (simp only [Int.toNat_natCast]; omega) | decide) (by first | omega | exact xB_in _ | exact xB_01 _ | exact iAnd_in | exact iShr_in | (simp only [Int.toNat_natCast]; omega) | decide), if_pos (by first | omega | decide), bL_isHide_299, bL_isHide_304 (by first | omega | exact xB_in _ | exact xB_01 _ | exact iAnd_in | exact iShr_in | (simp only [Int.toNat_natCast]; omega) | decide)]
    have hI1 : qInv (i + 1) T z (xup2 V 56 18 (iOr (V 56 18) (iShl 1 co))) R := ⟨hI.1, hz, ⟨H, qHid_e hH (Nat.le_refl _) (fun _ _ _ => rfl) rfl (fun _ _ _ => rfl) (by rw [xup2_o (by decide)]) (by rw [xup2_o (by decide)]) (fun j hj => xup2_j (by omega)) (fun b b1 _ _ => xup2_o (by omega))⟩, ⟨P, qPar_e hP (Nat.le_succ i) (Nat.le_refl _) (fun _ _ _ => rfl) rfl (fun _ _ _ => rfl) (by rw [xup2_o (by decide)]) (by rw [xup2_o (by decide)]) (fun r q r1 r2 _ => by rw [xup2_o (by omega)]) (by rw [xup2_o (by decide)]) (fun b b1 _ _ => xup2_o (by omega))⟩, qHor_e hor (Nat.le_succ i) (by rw [xup2_o (by decide)]) (by rw [xup2_o (by decide)]) (fun b b1 b2 => xup2_o (by omega)) (fun j _ => by rw [xup2_o (by decide)]) (fun j _ => by rw [xup2_o (by decide)]) (by rw [xup2_o (by decide)]; exact hor.2.2.2.2.2.2.2.2)⟩
    refine ⟨_, _, _, _, _, rfl, qInv_k hI1 (Nat.le_refl _) (qKeep_x hz (fun _ _ _ => rfl)), ?_, ?_⟩
    · show z.1 + 1 ≤ _; omega
    · show z.2 + 6 ≤ _; omega
/-- the sizes of a piece -/
theorem hd_size {what one two : Int} {o0 o1 o2 o3 o4 o5 o6 o10 o11 o12 o13 o18 o19 o20 o21 o22 o23 o24 o25 o26 o27 : Option Value} {y : Bool} (hw : 2 ≤ what ∧ what ≤ 3) (h1 : 0 ≤ one ∧ one < 60000) (h2 : 0 ≤ two ∧ two < 60000) :
    ∃ (al wi : Nat) (st : Bool), al ≤ 13 ∧ wi ≤ 9 ∧ XR sc d 106 186 [o0, o1, o2, o3, o4, o5, o6, some (xw what), some (xw one), some (xw two), o10, o11, o12, o13, none, none, none, none, o18, o19, o20, o21, o22, o23, o24, o25, o26, o27] [xw (xB y)] (T, z, xv V, J, R) =
      XR sc d 106 420 [o0, o1, o2, o3, o4, o5, o6, some (xw what), some (xw one), some (xw two), o10, o11, o12, o13, some (xw (xB y)), some (xw al), some (xw wi), some (xw (xB st)), o18, o19, o20, o21, o22, o23, o24, o25, o26, o27] [xw (xB (decide ((1 ≤ al ∧ al ≤ 12) ∧ 1 ≤ wi ∧ wi ≤ 8)))] (T, z, xv V, J, R) := by
  have fin : ∀ (al wi : Nat) (st : Bool), al ≤ 13 → wi ≤ 9 → XR sc d 106 389 [o0, o1, o2, o3, o4, o5, o6, some (xw what), some (xw one), some (xw two), o10, o11, o12, o13, some (xw (xB y)), some (xw al), some (xw wi), none, o18, o19, o20, o21, o22, o23, o24, o25, o26, o27] [xw (xB st)] (T, z, xv V, J, R) =
      XR sc d 106 420 [o0, o1, o2, o3, o4, o5, o6, some (xw what), some (xw one), some (xw two), o10, o11, o12, o13, some (xw (xB y)), some (xw al), some (xw wi), some (xw (xB st)), o18, o19, o20, o21, o22, o23, o24, o25, o26, o27] [xw (xB (decide ((1 ≤ al ∧ al ≤ 12) ∧ 1 ≤ wi ∧ wi ≤ 8)))] (T, z, xv V, J, R) := by
    intro al wi st hal hwi
    by_cases c1 : al ≤ 0
    · rw [decide_eq_false (by omega), bL_isHide_389 (by first | omega | exact xB_in _ | exact xB_01 _ | exact iAnd_in | exact iShr_in | (simp only [Int.toNat_natCast]; omega) | decide), if_pos (by first | omega | decide), bL_isHide_419]; rfl
    by_cases c2 : 13 ≤ al
    · rw [decide_eq_false (by omega), bL_isHide_389 (by first | omega | exact xB_in _ | exact xB_01 _ | exact iAnd_in | exact iShr_in | (simp only [Int.toNat_natCast]; omega) | decide), if_neg (by first | omega | decide), bL_isHide_396 (by first | omega | exact xB_in _ | exact xB_01 _ | exact iAnd_in | exact iShr_in | (simp only [Int.toNat_natCast]; omega) | decide), if_pos (by first | omega | decide), bL_isHide_419]; rfl
    by_cases c3 : wi ≤ 0
    · rw [decide_eq_false (by omega), bL_isHide_389 (by first | omega | exact xB_in _ | exact xB_01 _ | exact iAnd_in | exact iShr_in | (simp only [Int.toNat_natCast]; omega) | decide), if_neg (by first | omega | decide), bL_isHide_396 (by first | omega | exact xB_in _ | exact xB_01 _ | exact iAnd_in | exact iShr_in | (simp only [Int.toNat_natCast]; omega) | decide), if_neg (by first | omega | decide), bL_isHide_403 (by first | omega | exact xB_in _ | exact xB_01 _ | exact iAnd_in | exact iShr_in | (simp only [Int.toNat_natCast]; omega) | decide), if_pos (by first | omega | decide), bL_isHide_419]; rfl
    by_cases c4 : 9 ≤ wi
    · rw [decide_eq_false (by omega), bL_isHide_389 (by first | omega | exact xB_in _ | exact xB_01 _ | exact iAnd_in | exact iShr_in | (simp only [Int.toNat_natCast]; omega) | decide), if_neg (by first | omega | decide), bL_isHide_396 (by first | omega | exact xB_in _ | exact xB_01 _ | exact iAnd_in | exact iShr_in | (simp only [Int.toNat_natCast]; omega) | decide), if_neg (by first | omega | decide), bL_isHide_403 (by first | omega | exact xB_in _ | exact xB_01 _ | exact iAnd_in | exact iShr_in | (simp only [Int.toNat_natCast]; omega) | decide), if_neg (by first | omega | decide), bL_isHide_408 (by first | omega | exact xB_in _ | exact xB_01 _ | exact iAnd_in | exact iShr_in | (simp only [Int.toNat_natCast]; omega) | decide), if_pos (by first | omega | decide), bL_isHide_419]; rfl
    · rw [decide_eq_true (by omega), bL_isHide_389 (by first | omega | exact xB_in _ | exact xB_01 _ | exact iAnd_in | exact iShr_in | (simp only [Int.toNat_natCast]; omega) | decide), if_neg (by first | omega | decide), bL_isHide_396 (by first | omega | exact xB_in _ | exact xB_01 _ | exact iAnd_in | exact iShr_in | (simp only [Int.toNat_natCast]; omega) | decide), if_neg (by first | omega | decide), bL_isHide_403 (by first | omega | exact xB_in _ | exact xB_01 _ | exact iAnd_in | exact iShr_in | (simp only [Int.toNat_natCast]; omega) | decide), if_neg (by first | omega | decide), bL_isHide_408 (by first | omega | exact xB_in _ | exact xB_01 _ | exact iAnd_in | exact iShr_in | (simp only [Int.toNat_natCast]; omega) | decide), if_neg (by first | omega | decide), bL_isHide_415]; rfl
  have strap : ∀ (al wi : Nat), al ≤ 13 → wi ≤ 9 → ∃ st : Bool, XR sc d 106 371 [o0, o1, o2, o3, o4, o5, o6, some (xw what), some (xw one), some (xw two), o10, o11, o12, o13, some (xw (xB y)), some (xw al), none, none, o18, o19, o20, o21, o22, o23, o24, o25, o26, o27] [xw wi] (T, z, xv V, J, R) =
      XR sc d 106 420 [o0, o1, o2, o3, o4, o5, o6, some (xw what), some (xw one), some (xw two), o10, o11, o12, o13, some (xw (xB y)), some (xw al), some (xw wi), some (xw (xB st)), o18, o19, o20, o21, o22, o23, o24, o25, o26, o27] [xw (xB (decide ((1 ≤ al ∧ al ≤ 12) ∧ 1 ≤ wi ∧ wi ≤ 8)))] (T, z, xv V, J, R) := by
    intro al wi hal hwi
    have f0 := fin al wi false hal hwi
    have f1 := fin al wi true hal hwi
    by_cases c : two / 162 % 4 ≤ 0
    · refine ⟨false, ?_⟩
      rw [bL_isHide_371 (by first | omega | exact xB_in _ | exact xB_01 _ | exact iAnd_in | exact iShr_in | (simp only [Int.toNat_natCast]; omega) | decide) (by first | omega | exact xB_in _ | exact xB_01 _ | exact iAnd_in | exact iShr_in | (simp only [Int.toNat_natCast]; omega) | decide) (by first | omega | exact xB_in _ | exact xB_01 _ | exact iAnd_in | exact iShr_in | (simp only [Int.toNat_natCast]; omega) | decide), if_pos (by first | omega | decide), bL_isHide_388]; exact f0
    · refine ⟨true, ?_⟩
      rw [bL_isHide_371 (by first | omega | exact xB_in _ | exact xB_01 _ | exact iAnd_in | exact iShr_in | (simp only [Int.toNat_natCast]; omega) | decide) (by first | omega | exact xB_in _ | exact xB_01 _ | exact iAnd_in | exact iShr_in | (simp only [Int.toNat_natCast]; omega) | decide) (by first | omega | exact xB_in _ | exact xB_01 _ | exact iAnd_in | exact iShr_in | (simp only [Int.toNat_natCast]; omega) | decide), if_neg (by first | omega | decide), bL_isHide_384]; exact f1
  have wide : ∀ (al : Nat), al ≤ 13 → ∃ (wi : Nat) (st : Bool), wi ≤ 9 ∧ XR sc d 106 338 [o0, o1, o2, o3, o4, o5, o6, some (xw what), some (xw one), some (xw two), o10, o11, o12, o13, some (xw (xB y)), none, none, none, o18, o19, o20, o21, o22, o23, o24, o25, o26, o27] [xw al] (T, z, xv V, J, R) =
      XR sc d 106 420 [o0, o1, o2, o3, o4, o5, o6, some (xw what), some (xw one), some (xw two), o10, o11, o12, o13, some (xw (xB y)), some (xw al), some (xw wi), some (xw (xB st)), o18, o19, o20, o21, o22, o23, o24, o25, o26, o27] [xw (xB (decide ((1 ≤ al ∧ al ≤ 12) ∧ 1 ≤ wi ∧ wi ≤ 8)))] (T, z, xv V, J, R) := by
    intro al hal
    by_cases c : two / 9 % 9 = 0
    · obtain ⟨wi, ewi⟩ : ∃ m : Nat, two / 81 % 10 = m := ⟨(two / 81 % 10).toNat, by omega⟩
      obtain ⟨st, hs⟩ := strap al wi hal (by omega)
      exact ⟨wi, st, by omega, by rw [bL_isHide_338 (by first | omega | exact xB_in _ | exact xB_01 _ | exact iAnd_in | exact iShr_in | (simp only [Int.toNat_natCast]; omega) | decide) (by first | omega | exact xB_in _ | exact xB_01 _ | exact iAnd_in | exact iShr_in | (simp only [Int.toNat_natCast]; omega) | decide) (by first | omega | exact xB_in _ | exact xB_01 _ | exact iAnd_in | exact iShr_in | (simp only [Int.toNat_natCast]; omega) | decide), if_pos (by first | omega | decide), bL_isHide_351 (by first | omega | exact xB_in _ | exact xB_01 _ | exact iAnd_in | exact iShr_in | (simp only [Int.toNat_natCast]; omega) | decide) (by first | omega | exact xB_in _ | exact xB_01 _ | exact iAnd_in | exact iShr_in | (simp only [Int.toNat_natCast]; omega) | decide), ewi, hs]⟩
    · obtain ⟨wi, ewi⟩ : ∃ m : Nat, 1 + two / 9 % 3 = m := ⟨(1 + two / 9 % 3).toNat, by omega⟩
      obtain ⟨st, hs⟩ := strap al wi hal (by omega)
      exact ⟨wi, st, by omega, by rw [bL_isHide_338 (by first | omega | exact xB_in _ | exact xB_01 _ | exact iAnd_in | exact iShr_in | (simp only [Int.toNat_natCast]; omega) | decide) (by first | omega | exact xB_in _ | exact xB_01 _ | exact iAnd_in | exact iShr_in | (simp only [Int.toNat_natCast]; omega) | decide) (by first | omega | exact xB_in _ | exact xB_01 _ | exact iAnd_in | exact iShr_in | (simp only [Int.toNat_natCast]; omega) | decide), if_neg (by first | omega | decide), bL_isHide_362 (by first | omega | exact xB_in _ | exact xB_01 _ | exact iAnd_in | exact iShr_in | (simp only [Int.toNat_natCast]; omega) | decide) (by first | omega | exact xB_in _ | exact xB_01 _ | exact iAnd_in | exact iShr_in | (simp only [Int.toNat_natCast]; omega) | decide), ewi, hs]⟩
  by_cases c : one / 39 % 9 = 0
  · obtain ⟨al, eal⟩ : ∃ m : Nat, one / 351 % 14 = m := ⟨(one / 351 % 14).toNat, by omega⟩
    obtain ⟨wi, st, w1, w2⟩ := wide al (by omega)
    exact ⟨al, wi, st, by omega, w1, by rw [bL_isHide_186 (by first | omega | exact xB_in _ | exact xB_01 _ | exact iAnd_in | exact iShr_in | (simp only [Int.toNat_natCast]; omega) | decide), if_pos (by first | omega | decide), bL_isHide_305 (by first | omega | exact xB_in _ | exact xB_01 _ | exact iAnd_in | exact iShr_in | (simp only [Int.toNat_natCast]; omega) | decide) (by first | omega | exact xB_in _ | exact xB_01 _ | exact iAnd_in | exact iShr_in | (simp only [Int.toNat_natCast]; omega) | decide) (by first | omega | exact xB_in _ | exact xB_01 _ | exact iAnd_in | exact iShr_in | (simp only [Int.toNat_natCast]; omega) | decide), if_pos (by first | omega | decide), bL_isHide_316 (by first | omega | exact xB_in _ | exact xB_01 _ | exact iAnd_in | exact iShr_in | (simp only [Int.toNat_natCast]; omega) | decide) (by first | omega | exact xB_in _ | exact xB_01 _ | exact iAnd_in | exact iShr_in | (simp only [Int.toNat_natCast]; omega) | decide), eal, w2]⟩
  · obtain ⟨al, eal⟩ : ∃ m : Nat, 1 + one / 39 % 6 = m := ⟨(1 + one / 39 % 6).toNat, by omega⟩
    obtain ⟨wi, st, w1, w2⟩ := wide al (by omega)
    exact ⟨al, wi, st, by omega, w1, by rw [bL_isHide_186 (by first | omega | exact xB_in _ | exact xB_01 _ | exact iAnd_in | exact iShr_in | (simp only [Int.toNat_natCast]; omega) | decide), if_pos (by first | omega | decide), bL_isHide_305 (by first | omega | exact xB_in _ | exact xB_01 _ | exact iAnd_in | exact iShr_in | (simp only [Int.toNat_natCast]; omega) | decide) (by first | omega | exact xB_in _ | exact xB_01 _ | exact iAnd_in | exact iShr_in | (simp only [Int.toNat_natCast]; omega) | decide) (by first | omega | exact xB_in _ | exact xB_01 _ | exact iAnd_in | exact iShr_in | (simp only [Int.toNat_natCast]; omega) | decide), if_neg (by first | omega | decide), bL_isHide_328 (by first | omega | exact xB_in _ | exact xB_01 _ | exact iAnd_in | exact iShr_in | (simp only [Int.toNat_natCast]; omega) | decide) (by first | omega | exact xB_in _ | exact xB_01 _ | exact iAnd_in | exact iShr_in | (simp only [Int.toNat_natCast]; omega) | decide), eal, w2]⟩
end P11
