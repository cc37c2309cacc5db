/-! the property's law: finding a place -/
theorem xR0_e {V V' : Nat → Nat → Int} {g : Nat} {r : Int} (h : V' g = V g) : ∀ m c, xR0 V' g r m c = xR0 V g r m c := by
  intro m
  induction m with
  | zero => intro c; rfl
  | succ m ih => intro c; rw [xR0, xR0, h, ih]
theorem xR1_e {V V' : Nat → Nat → Int} {g n : Nat} {col : Int} (h : V' g = V g) : ∀ m r, xR1 V' g col n m r = xR1 V g col n m r := by
  intro m
  induction m with
  | zero => intro r; rfl
  | succ m ih => intro r; rw [xR1, xR1, xR0_e h, ih]
theorem xCan_e {V V' : Nat → Nat → Int} {g : Nat} {c r al wi st : Int} (h : V' g = V g) : xCan V' g c r al wi st = xCan V g c r al wi st := by
  unfold xCan xWh
  rw [xR1_e h]
theorem pPc_96 {V : Nat → Nat → Int} {a al wi : Nat} {st le : Int} {n : Nat} (h : pPc V a al wi st le n) (hwi : 1 ≤ wi) : n < 96 := by
  have := h.2.1
  omega
section P12
variable {sc : xS} {d : Nat} {T : Nat → Nat × Nat} {z : Nat × Nat} {V : Nat → Nat → Int} {J : Nat → Nat → Int64} {R : Nat → Nat → Option Nat}
theorem worth_lp {al wi at' : Nat} {o0 o1 o2 o3 o4 o5 o6 o7 o8 o9 o10 o11 o12 o13 o14 o17 o18 o19 o20 o21 o22 o23 o25 : Option Value} (hal : al ≤ 12) (hwi : wi ≤ 8) (hat : at' ≤ 7) :
    ∀ (m k : Nat) (acc : Int), k + m = at' + wi → 0 ≤ acc ∧ acc ≤ 36 * k → ∃ o27 : Option Value, XR sc d 106 847 [o0, o1, o2, o3, o4, o5, o6, o7, o8, o9, o10, o11, o12, o13, o14, some (xw al), some (xw wi), o17, o18, o19, o20, o21, o22, o23, some (xw at'), o25, some (xw acc), some (xw k)] [] (T, z, xv V, J, R) =
      XR sc d 106 896 [o0, o1, o2, o3, o4, o5, o6, o7, o8, o9, o10, o11, o12, o13, o14, some (xw al), some (xw wi), o17, o18, o19, o20, o21, o22, o23, some (xw at'), o25, some (xw (acc + xWo al m k)), o27] [] (T, z, xv V, J, R) := by
  intro m
  induction m with
  | zero =>
    intro k acc hk ha
    exact ⟨some (xw k), by rw [bL_isHide_847 (by first | omega | exact xB_in _ | exact xB_01 _ | exact iAnd_in | exact iShr_in | (simp only [Int.toNat_natCast]; omega) | decide) (by first | omega | exact xB_in _ | exact xB_01 _ | exact iAnd_in | exact iShr_in | (simp only [Int.toNat_natCast]; omega) | decide), if_pos (by first | omega | decide), xWo, Int.add_zero]⟩
  | succ m ih =>
    intro k acc hk ha
    by_cases c : 2 ≤ k
    · by_cases c2 : 5 ≤ k
      · obtain ⟨o27, h⟩ := ih (k + 1) (acc + al) (by omega) (by omega)
        refine ⟨o27, ?_⟩
        rw [bL_isHide_847 (by first | omega | exact xB_in _ | exact xB_01 _ | exact iAnd_in | exact iShr_in | (simp only [Int.toNat_natCast]; omega) | decide) (by first | omega | exact xB_in _ | exact xB_01 _ | exact iAnd_in | exact iShr_in | (simp only [Int.toNat_natCast]; omega) | decide), if_neg (by first | omega | decide), bL_isHide_857 (by first | omega | exact xB_in _ | exact xB_01 _ | exact iAnd_in | exact iShr_in | (simp only [Int.toNat_natCast]; omega) | decide), if_pos (by first | omega | decide), bL_isHide_872 (by first | omega | exact xB_in _ | exact xB_01 _ | exact iAnd_in | exact iShr_in | (simp only [Int.toNat_natCast]; omega) | decide), if_pos (by first | omega | decide), bL_isHide_885, bL_isHide_887, show (k : Int) + 1 = ((k + 1 : Nat) : Int) by omega, h, xWo, if_pos (by omega), if_pos (by omega), show (k : Int) + 1 = ((k + 1 : Nat) : Int) by omega, Int.add_assoc, Int.mul_one]
      · obtain ⟨o27, h⟩ := ih (k + 1) (acc + 2 * al) (by omega) (by omega)
        refine ⟨o27, ?_⟩
        rw [bL_isHide_847 (by first | omega | exact xB_in _ | exact xB_01 _ | exact iAnd_in | exact iShr_in | (simp only [Int.toNat_natCast]; omega) | decide) (by first | omega | exact xB_in _ | exact xB_01 _ | exact iAnd_in | exact iShr_in | (simp only [Int.toNat_natCast]; omega) | decide), if_neg (by first | omega | decide), bL_isHide_857 (by first | omega | exact xB_in _ | exact xB_01 _ | exact iAnd_in | exact iShr_in | (simp only [Int.toNat_natCast]; omega) | decide), if_pos (by first | omega | decide), bL_isHide_872 (by first | omega | exact xB_in _ | exact xB_01 _ | exact iAnd_in | exact iShr_in | (simp only [Int.toNat_natCast]; omega) | decide), if_neg (by first | omega | decide), bL_isHide_878, bL_isHide_887, show (k : Int) + 1 = ((k + 1 : Nat) : Int) by omega, h, xWo, if_pos (by omega), if_neg (by omega), show (k : Int) + 1 = ((k + 1 : Nat) : Int) by omega, Int.add_assoc, Int.mul_comm 2]
    · obtain ⟨o27, h⟩ := ih (k + 1) (acc + 3 * al) (by omega) (by omega)
      refine ⟨o27, ?_⟩
      rw [bL_isHide_847 (by first | omega | exact xB_in _ | exact xB_01 _ | exact iAnd_in | exact iShr_in | (simp only [Int.toNat_natCast]; omega) | decide) (by first | omega | exact xB_in _ | exact xB_01 _ | exact iAnd_in | exact iShr_in | (simp only [Int.toNat_natCast]; omega) | decide), if_neg (by first | omega | decide), bL_isHide_857 (by first | omega | exact xB_in _ | exact xB_01 _ | exact iAnd_in | exact iShr_in | (simp only [Int.toNat_natCast]; omega) | decide), if_neg (by first | omega | decide), bL_isHide_865, bL_isHide_887, show (k : Int) + 1 = ((k + 1 : Nat) : Int) by omega, h, xWo, if_neg (by omega), show (k : Int) + 1 = ((k + 1 : Nat) : Int) by omega, Int.add_assoc, Int.mul_comm 3]
theorem wo_in {al wi r : Nat} (hal : al ≤ 12) (hwi : wi ≤ 8) : 0 ≤ xWo al wi r ∧ xWo al wi r ≤ 288 := by
  have := xWo_in (along := (al : Int)) (by omega) wi r
  omega
/-- whether a piece can be cut at a place, by the law -/
theorem find_can {n0 hd a al wi m : Nat} {st : Bool} {le : Int} {o0 o2 o3 o4 o5 o6 o7 o8 o9 o11 o12 o13 o14 o18 o20 o21 o22 o24 o25 o26 o27 : Option Value} (hA : pAr T) (hh : hd < 2) (h1 : qHi1 T n0 V R hd a) (hal : 1 ≤ al ∧ al ≤ 12) (hwi : 1 ≤ wi ∧ wi ≤ 8) (hle : 1 ≤ le ∧ le ≤ 9) (hm : m < 96) :
    ∃ cb : Bool, (cb = true ↔ pPc V a al wi (xB st) le m) ∧ XR sc (d + 1) 106 757 [o0, some (.ref 56), o2, o3, o4, o5, o6, o7, o8, o9, some (xw hd), o11, o12, o13, o14, some (xw al), some (xw wi), some (xw (xB st)), o18, some (xw le), o20, o21, o22, some (xw m), o24, o25, o26, o27] [] (T, z, xv V, J, R) =
      XR sc (d + 1) 106 838 [o0, some (.ref 56), o2, o3, o4, o5, o6, o7, o8, o9, some (xw hd), o11, o12, o13, o14, some (xw al), some (xw wi), some (xw (xB st)), o18, some (xw le), o20, o21, o22, some (xw m), some (xw (m / 12 : Nat)), o25, o26, o27] [xw (xB cb)] (T, z, xv V, J, R) := by
  obtain ⟨_, _, _, p4, p5, _⟩ := id h1
  have e1 : (m : Int) / 12 = ((m / 12 : Nat) : Int) := by omega
  have e2 : (m : Int) % 12 = ((m % 12 : Nat) : Int) := by omega
  by_cases c1 : 13 ≤ m % 12 + al
  · refine ⟨false, ⟨fun q => absurd q (by decide), fun q => by have := q.1; omega⟩, ?_⟩
    rw [bL_isHide_757 (by first | omega | exact xB_in _ | exact xB_01 _ | exact iAnd_in | exact iShr_in | (simp only [Int.toNat_natCast]; omega) | decide) (by first | omega | exact xB_in _ | exact xB_01 _ | exact iAnd_in | exact iShr_in | (simp only [Int.toNat_natCast]; omega) | decide), if_pos (by first | omega | decide), bL_isHide_837, e1]; rfl
  by_cases c2 : 9 ≤ m / 12 + wi
  · refine ⟨false, ⟨fun q => absurd q (by decide), fun q => by have := q.2.1; omega⟩, ?_⟩
    rw [bL_isHide_757 (by first | omega | exact xB_in _ | exact xB_01 _ | exact iAnd_in | exact iShr_in | (simp only [Int.toNat_natCast]; omega) | decide) (by first | omega | exact xB_in _ | exact xB_01 _ | exact iAnd_in | exact iShr_in | (simp only [Int.toNat_natCast]; omega) | decide), if_neg (by first | omega | decide), e1, bL_isHide_777 (by first | omega | exact xB_in _ | exact xB_01 _ | exact iAnd_in | exact iShr_in | (simp only [Int.toNat_natCast]; omega) | decide), if_pos (by first | omega | decide), bL_isHide_837]; rfl
  obtain ⟨b, hb, hx⟩ := l_canCut (sc := sc) (d := d) (T := T) (z := z) (V := V) (J := J) (R := R) (hd := hd) (c := m % 12) (r := m / 12) (al := al) (wi := wi) (st := xB st) hA hh (by omega) (by omega) hal.1 (xB_01 st)
  have hce := can_eq (st := xB st) h1 (show m % 12 + al ≤ 12 by omega) (show m / 12 + wi ≤ 8 by omega)
  -- thick enough
  have th : ∀ y : Int, y = (if m / 12 + wi ≤ 5 then (0 : Int) else 1) → (V 56 hd - y < le → ∃ cb : Bool, (cb = true ↔ pPc V a al wi (xB st) le m) ∧ XR sc (d + 1) 106 805 [o0, some (.ref 56), o2, o3, o4, o5, o6, o7, o8, o9, some (xw hd), o11, o12, o13, o14, some (xw al), some (xw wi), some (xw (xB st)), o18, some (xw le), o20, o21, o22, some (xw m), some (xw (m / 12 : Nat)), o25, o26, o27] [xw y, xw (V 56 hd)] (T, z, xv V, J, R) =
      XR sc (d + 1) 106 838 [o0, some (.ref 56), o2, o3, o4, o5, o6, o7, o8, o9, some (xw hd), o11, o12, o13, o14, some (xw al), some (xw wi), some (xw (xB st)), o18, some (xw le), o20, o21, o22, some (xw m), some (xw (m / 12 : Nat)), o25, o26, o27] [xw (xB cb)] (T, z, xv V, J, R)) ∧ (¬ V 56 hd - y < le → ∃ cb : Bool, (cb = true ↔ pPc V a al wi (xB st) le m) ∧ XR sc (d + 1) 106 805 [o0, some (.ref 56), o2, o3, o4, o5, o6, o7, o8, o9, some (xw hd), o11, o12, o13, o14, some (xw al), some (xw wi), some (xw (xB st)), o18, some (xw le), o20, o21, o22, some (xw m), some (xw (m / 12 : Nat)), o25, o26, o27] [xw y, xw (V 56 hd)] (T, z, xv V, J, R) =
      XR sc (d + 1) 106 838 [o0, some (.ref 56), o2, o3, o4, o5, o6, o7, o8, o9, some (xw hd), o11, o12, o13, o14, some (xw al), some (xw wi), some (xw (xB st)), o18, some (xw le), o20, o21, o22, some (xw m), some (xw (m / 12 : Nat)), o25, o26, o27] [xw (xB cb)] (T, z, xv V, J, R)) := by
    intro y hy
    have hy2 : 0 ≤ y ∧ y ≤ 1 := by rw [hy]; split <;> omega
    have eth : (if ((m / 12 : Nat) : Int) + wi ≤ 5 then V a 0 else V a 0 - 1) = V 56 hd - y := by
      rw [hy, p4]
      by_cases q : m / 12 + wi ≤ 5
      · rw [if_pos q, if_pos (by omega), Int.sub_zero]
      · rw [if_neg q, if_neg (by omega)]
    refine ⟨fun q => ⟨false, ⟨fun q => absurd q (by decide), fun z => ?_⟩, ?_⟩, fun q => ⟨b, ⟨fun z => ⟨by omega, by omega, ?_, ?_⟩, fun z => ?_⟩, ?_⟩⟩
    · have := z.2.2.1
      rw [eth] at this; omega
    · rw [bL_isHide_805 (by first | omega | exact xB_in _ | exact xB_01 _ | exact iAnd_in | exact iShr_in | (simp only [Int.toNat_natCast]; omega) | decide) (by first | omega | exact xB_in _ | exact xB_01 _ | exact iAnd_in | exact iShr_in | (simp only [Int.toNat_natCast]; omega) | decide), if_pos (by first | omega | decide), bL_isHide_837]; rfl
    · rw [eth]; omega
    · exact hce.mpr (hb.mp z)
    · exact hb.mpr (hce.mp z.2.2.2)
    · rw [bL_isHide_805 (by first | omega | exact xB_in _ | exact xB_01 _ | exact iAnd_in | exact iShr_in | (simp only [Int.toNat_natCast]; omega) | decide) (by first | omega | exact xB_in _ | exact xB_01 _ | exact iAnd_in | exact iShr_in | (simp only [Int.toNat_natCast]; omega) | decide), if_neg (by first | omega | decide), bL_isHide_811 (by first | omega | exact xB_in _ | exact xB_01 _ | exact iAnd_in | exact iShr_in | (simp only [Int.toNat_natCast]; omega) | decide), e2, hx, xret_v]
      cases b with
      | false => rw [bL_isHide_830 (by first | omega | exact xB_in _ | exact xB_01 _ | exact iAnd_in | exact iShr_in | (simp only [Int.toNat_natCast]; omega) | decide), if_pos (by first | omega | decide), bL_isHide_837]; rfl
      | true => rw [bL_isHide_830 (by first | omega | exact xB_in _ | exact xB_01 _ | exact iAnd_in | exact iShr_in | (simp only [Int.toNat_natCast]; omega) | decide), if_neg (by first | omega | decide), bL_isHide_833]; rfl
  by_cases c3 : m / 12 + wi ≤ 5
  · obtain ⟨t1, t2⟩ := th 0 (by rw [if_pos c3])
    obtain ⟨cb, k1, k2⟩ := Classical.byCases (p := V 56 hd - 0 < le) t1 t2
    refine ⟨cb, k1, ?_⟩
    rw [bL_isHide_757 (by first | omega | exact xB_in _ | exact xB_01 _ | exact iAnd_in | exact iShr_in | (simp only [Int.toNat_natCast]; omega) | decide) (by first | omega | exact xB_in _ | exact xB_01 _ | exact iAnd_in | exact iShr_in | (simp only [Int.toNat_natCast]; omega) | decide), if_neg (by first | omega | decide), e1, bL_isHide_777 (by first | omega | exact xB_in _ | exact xB_01 _ | exact iAnd_in | exact iShr_in | (simp only [Int.toNat_natCast]; omega) | decide), if_neg (by first | omega | decide), bL_isHide_787 (by rw [pA56 hA]) (by rw [pA56 hA]; omega) (by first | omega | exact xB_in _ | exact xB_01 _ | exact iAnd_in | exact iShr_in | (simp only [Int.toNat_natCast]; omega) | decide), if_pos (by first | omega | decide), bL_isHide_804, Int.toNat_natCast, k2]
  · obtain ⟨t1, t2⟩ := th 1 (by rw [if_neg c3])
    obtain ⟨cb, k1, k2⟩ := Classical.byCases (p := V 56 hd - 1 < le) t1 t2
    refine ⟨cb, k1, ?_⟩
    rw [bL_isHide_757 (by first | omega | exact xB_in _ | exact xB_01 _ | exact iAnd_in | exact iShr_in | (simp only [Int.toNat_natCast]; omega) | decide) (by first | omega | exact xB_in _ | exact xB_01 _ | exact iAnd_in | exact iShr_in | (simp only [Int.toNat_natCast]; omega) | decide), if_neg (by first | omega | decide), e1, bL_isHide_777 (by first | omega | exact xB_in _ | exact xB_01 _ | exact iAnd_in | exact iShr_in | (simp only [Int.toNat_natCast]; omega) | decide), if_neg (by first | omega | decide), bL_isHide_787 (by rw [pA56 hA]) (by rw [pA56 hA]; omega) (by first | omega | exact xB_in _ | exact xB_01 _ | exact iAnd_in | exact iShr_in | (simp only [Int.toNat_natCast]; omega) | decide), if_neg (by first | omega | decide), bL_isHide_800, Int.toNat_natCast, k2]
theorem find_lp {n0 hd a al wi : Nat} {st : Bool} {le : Int} {o0 o2 o3 o4 o5 o6 o7 o8 o9 o12 o13 o14 o18 : Option Value} (hA : pAr T) (hh : hd < 2) (h1 : qHi1 T n0 V R hd a) (hal : 1 ≤ al ∧ al ≤ 12) (hwi : 1 ≤ wi ∧ wi ≤ 8) (hle : 1 ≤ le ∧ le ≤ 9) :
    ∀ (m : Nat) (b f : Int) (o24 o25 o26 o27 : Option Value), m ≤ 96 → pOpt (fun n => m ≤ n ∧ pPc V a al wi (xB st) le n) (fun q => xWo al wi q) f → (0 ≤ f → b = xWo al wi ((f.toNat / 12 : Nat) : Int)) → (f = -1 → b = -1) →
    ∃ (f' : Int) (o21 o23 o24' o25' o26' o27' : Option Value), pOpt (pPc V a al wi (xB st) le) (fun q => xWo al wi q) f' ∧ XR sc (d + 1) 106 742 [o0, some (.ref 56), o2, o3, o4, o5, o6, o7, o8, o9, some (xw hd), some (xw (xB true)), o12, o13, o14, some (xw al), some (xw wi), some (xw (xB st)), o18, some (xw le), some (xw (xB true)), some (xw b), some (xw f), some (xw ((m : Int) - 1)), o24, o25, o26, o27] [] (T, z, xv V, J, R) =
      XR sc (d + 1) 106 927 [o0, some (.ref 56), o2, o3, o4, o5, o6, o7, o8, o9, some (xw hd), some (xw (xB true)), o12, o13, o14, some (xw al), some (xw wi), some (xw (xB st)), o18, some (xw le), some (xw (xB true)), o21, some (xw f'), o23, o24', o25', o26', o27'] [] (T, z, xv V, J, R) := by
  intro m
  induction m with
  | zero =>
    intro b f o24 o25 o26 o27 hm hf _ _
    refine ⟨f, some (xw b), some (xw (((0 : Nat) : Int) - 1)), o24, o25, o26, o27, pOpt_e (fun n => ⟨fun q => q.2, fun q => ⟨Nat.zero_le n, q⟩⟩) hf, ?_⟩
    rw [bL_isHide_742 (by first | omega | exact xB_in _ | exact xB_01 _ | exact iAnd_in | exact iShr_in | (simp only [Int.toNat_natCast]; omega) | decide), if_pos (by first | omega | decide)]
  | succ m ih =>
    intro b f o24 o25 o26 o27 hm hf hb hb2
    obtain ⟨cb, k1, k2⟩ := find_can (sc := sc) (d := d) (T := T) (z := z) (V := V) (J := J) (R := R) (hd := hd) (a := a) (al := al) (wi := wi) (m := m) (st := st) (le := le) (o0 := o0) (o2 := o2) (o3 := o3) (o4 := o4) (o5 := o5) (o6 := o6) (o7 := o7) (o8 := o8) (o9 := o9) (o11 := some (xw (xB true))) (o12 := o12) (o13 := o13) (o14 := o14) (o18 := o18) (o20 := some (xw (xB true))) (o21 := some (xw b)) (o22 := some (xw f)) (o24 := o24) (o25 := o25) (o26 := o26) (o27 := o27) hA hh h1 hal hwi hle (by omega)
    obtain ⟨o27', w1⟩ := worth_lp (sc := sc) (d := d + 1) (T := T) (z := z) (V := V) (J := J) (R := R) (al := al) (wi := wi) (at' := m / 12) (o0 := o0) (o1 := some (.ref 56)) (o2 := o2) (o3 := o3) (o4 := o4) (o5 := o5) (o6 := o6) (o7 := o7) (o8 := o8) (o9 := o9) (o10 := some (xw hd)) (o11 := some (xw (xB true))) (o12 := o12) (o13 := o13) (o14 := o14) (o17 := some (xw (xB st))) (o18 := o18) (o19 := some (xw le)) (o20 := some (xw (xB true))) (o21 := some (xw b)) (o22 := some (xw f)) (o23 := some (xw m)) (o25 := some (xw (xB cb))) (by omega) (by omega) (by omega) wi (m / 12) 0 rfl (by omega)
    rw [Int.zero_add] at w1
    have wi2 := wo_in (al := al) (wi := wi) (r := m / 12) (by omega) (by omega)
    have fr : -1 ≤ f ∧ f ≤ 95 := by
      rcases hf with ⟨h1, _⟩ | ⟨k, h2, h3, _⟩
      · omega
      · have := pPc_96 h2.2 hwi.1; omega
    have br : -1 ≤ b ∧ b ≤ 288 := by
      by_cases q : 0 ≤ f
      · have x := wo_in (al := al) (wi := wi) (r := f.toNat / 12) (by omega) (by omega)
        rw [hb q]; omega
      · have := hb2 (by omega); omega
    have em : ((m + 1 : Nat) : Int) - 1 = (m : Int) := by omega
    have go : XR sc (d + 1) 106 742 [o0, some (.ref 56), o2, o3, o4, o5, o6, o7, o8, o9, some (xw hd), some (xw (xB true)), o12, o13, o14, some (xw al), some (xw wi), some (xw (xB st)), o18, some (xw le), some (xw (xB true)), some (xw b), some (xw f), some (xw (((m + 1 : Nat) : Int) - 1)), o24, o25, o26, o27] [] (T, z, xv V, J, R) =
        XR sc (d + 1) 106 896 [o0, some (.ref 56), o2, o3, o4, o5, o6, o7, o8, o9, some (xw hd), some (xw (xB true)), o12, o13, o14, some (xw al), some (xw wi), some (xw (xB st)), o18, some (xw le), some (xw (xB true)), some (xw b), some (xw f), some (xw m), some (xw (m / 12 : Nat)), some (xw (xB cb)), some (xw (xWo al wi (m / 12 : Nat))), o27'] [] (T, z, xv V, J, R) := by
      rw [em, bL_isHide_742 (by first | omega | exact xB_in _ | exact xB_01 _ | exact iAnd_in | exact iShr_in | (simp only [Int.toNat_natCast]; omega) | decide), if_neg (by first | omega | decide), bL_isHide_747 (by first | omega | exact xB_in _ | exact xB_01 _ | exact iAnd_in | exact iShr_in | (simp only [Int.toNat_natCast]; omega) | decide), if_neg (by first | omega | decide), bL_isHide_752 (by first | omega | exact xB_in _ | exact xB_01 _ | exact iAnd_in | exact iShr_in | (simp only [Int.toNat_natCast]; omega) | decide), if_neg (by first | omega | decide), k2, bL_isHide_838]
      exact w1
    by_cases c : cb = true ∧ (b < 0 ∨ xWo al wi ((m / 12 : Nat) : Int) ≤ b)
    · obtain ⟨f', o21, o23, o24', o25', o26', o27'', j1, j2⟩ := ih (xWo al wi ((m / 12 : Nat) : Int)) m (some (xw (m / 12 : Nat))) (some (xw (xB cb))) (some (xw (xWo al wi (m / 12 : Nat)))) o27' (by omega) (Or.inr ⟨m, ⟨Nat.le_refl m, k1.mp c.1⟩, rfl, fun n q => by
        show xWo al wi ((m / 12 : Nat) : Int) < xWo al wi ((n / 12 : Nat) : Int) ∨ (xWo al wi ((m / 12 : Nat) : Int) = xWo al wi ((n / 12 : Nat) : Int) ∧ m ≤ n)
        by_cases e : n = m
        · subst e; exact Or.inr ⟨rfl, Nat.le_refl _⟩
        · rcases hf with ⟨g1, g2⟩ | ⟨k, g1, g2, g3⟩
          · exact absurd ⟨by omega, q.2⟩ (g2 n)
          · have g := g3 n ⟨by omega, q.2⟩
            have g : xWo al wi ((k / 12 : Nat) : Int) < xWo al wi ((n / 12 : Nat) : Int) ∨ (xWo al wi ((k / 12 : Nat) : Int) = xWo al wi ((n / 12 : Nat) : Int) ∧ k ≤ n) := g
            have hbb := hb (by omega)
            rw [g2, Int.toNat_natCast] at hbb
            have x := wo_in (al := al) (wi := wi) (r := k / 12) (by omega) (by omega)
            omega⟩) (fun _ => by rw [Int.toNat_natCast]) (fun q => by omega)
      refine ⟨f', o21, o23, o24', o25', o26', o27'', j1, ?_⟩
      rw [go, c.1]
      rw [c.1] at j2
      by_cases c2 : b < 0
      · rw [bL_isHide_896 (by first | omega | exact xB_in _ | exact xB_01 _ | exact iAnd_in | exact iShr_in | (simp only [Int.toNat_natCast]; omega) | decide), if_neg (by first | omega | decide), bL_isHide_901 (by first | omega | exact xB_in _ | exact xB_01 _ | exact iAnd_in | exact iShr_in | (simp only [Int.toNat_natCast]; omega) | decide), if_pos (by first | omega | decide), bL_isHide_913, bL_isHide_921, show (m : Int) + -1 = (m : Int) - 1 by omega]; exact j2
      · rw [bL_isHide_896 (by first | omega | exact xB_in _ | exact xB_01 _ | exact iAnd_in | exact iShr_in | (simp only [Int.toNat_natCast]; omega) | decide), if_neg (by first | omega | decide), bL_isHide_901 (by first | omega | exact xB_in _ | exact xB_01 _ | exact iAnd_in | exact iShr_in | (simp only [Int.toNat_natCast]; omega) | decide), if_neg (by first | omega | decide), bL_isHide_906 (by first | omega | exact xB_in _ | exact xB_01 _ | exact iAnd_in | exact iShr_in | (simp only [Int.toNat_natCast]; omega) | decide) (by first | omega | exact xB_in _ | exact xB_01 _ | exact iAnd_in | exact iShr_in | (simp only [Int.toNat_natCast]; omega) | decide), if_neg (by first | omega | decide), bL_isHide_913, bL_isHide_921, show (m : Int) + -1 = (m : Int) - 1 by omega]; exact j2
    · obtain ⟨f', o21, o23, o24', o25', o26', o27'', j1, j2⟩ := ih b f (some (xw (m / 12 : Nat))) (some (xw (xB cb))) (some (xw (xWo al wi (m / 12 : Nat)))) o27' (by omega) (by
        rcases hf with ⟨g1, g2⟩ | ⟨k, g1, g2, g3⟩
        · refine Or.inl ⟨g1, fun n q => ?_⟩
          by_cases e : n = m
          · subst e
            have := hb2 g1
            exact c ⟨k1.mpr q.2, Or.inl (by omega)⟩
          · exact g2 n ⟨by omega, q.2⟩
        · refine Or.inr ⟨k, ⟨by omega, g1.2⟩, g2, fun n q => ?_⟩
          by_cases e : n = m
          · subst e
            show xWo al wi ((k / 12 : Nat) : Int) < xWo al wi ((n / 12 : Nat) : Int) ∨ (xWo al wi ((k / 12 : Nat) : Int) = xWo al wi ((n / 12 : Nat) : Int) ∧ k ≤ n)
            have hbb := hb (by omega)
            rw [g2, Int.toNat_natCast] at hbb
            have : ¬ xWo al wi ((n / 12 : Nat) : Int) ≤ b := fun z => c ⟨k1.mpr q.2, Or.inr z⟩
            omega
          · exact g3 n ⟨by omega, q.2⟩) hb hb2
      refine ⟨f', o21, o23, o24', o25', o26', o27'', j1, ?_⟩
      rw [go]
      cases cb with
      | false => rw [bL_isHide_896 (by first | omega | exact xB_in _ | exact xB_01 _ | exact iAnd_in | exact iShr_in | (simp only [Int.toNat_natCast]; omega) | decide), if_pos (by first | omega | decide), bL_isHide_921, show (m : Int) + -1 = (m : Int) - 1 by omega]; exact j2
      | true =>
        have c2 : ¬ b < 0 := fun q => c ⟨rfl, Or.inl q⟩
        have c3 : ¬ xWo al wi ((m / 12 : Nat) : Int) ≤ b := fun q => c ⟨rfl, Or.inr q⟩
        rw [bL_isHide_896 (by first | omega | exact xB_in _ | exact xB_01 _ | exact iAnd_in | exact iShr_in | (simp only [Int.toNat_natCast]; omega) | decide), if_neg (by first | omega | decide), bL_isHide_901 (by first | omega | exact xB_in _ | exact xB_01 _ | exact iAnd_in | exact iShr_in | (simp only [Int.toNat_natCast]; omega) | decide), if_neg (by first | omega | decide), bL_isHide_906 (by first | omega | exact xB_in _ | exact xB_01 _ | exact iAnd_in | exact iShr_in | (simp only [Int.toNat_natCast]; omega) | decide) (by first | omega | exact xB_in _ | exact xB_01 _ | exact iAnd_in | exact iShr_in | (simp only [Int.toNat_natCast]; omega) | decide), if_pos (by first | omega | decide), bL_isHide_921, show (m : Int) + -1 = (m : Int) - 1 by omega]; exact j2
/-- the answer to a search -/
theorem find_end {a b : Bool} {f c : Int} {o0 o1 o2 o3 o4 o5 o6 o7 o8 o9 o10 o12 o13 o14 o15 o16 o17 o18 o19 o21 o23 o24 o25 o26 o27 : Option Value} (hf : -1 ≤ f ∧ f ≤ 95) (hc : c = if a = false then -3000000 else if b = false then -2000000 else f) :
    XR sc d 106 951 [o0, o1, o2, o3, o4, o5, o6, o7, o8, o9, o10, some (xw (xB a)), o12, o13, o14, o15, o16, o17, o18, o19, some (xw (xB b)), o21, some (xw f), o23, o24, o25, o26, o27] [xw c] (T, z, xv V, J, R) = some (.inl (some (xw 1)), (T, z, xv V, J, R)) := by
  cases a with
  | false => rw [if_pos rfl] at hc; subst hc; rw [bL_isHide_951 (by first | omega | exact xB_in _ | exact xB_01 _ | exact iAnd_in | exact iShr_in | (simp only [Int.toNat_natCast]; omega) | decide), if_pos (by first | omega | decide), bL_isHide_956, bL_isHide_973 (by first | omega | exact xB_in _ | exact xB_01 _ | exact iAnd_in | exact iShr_in | (simp only [Int.toNat_natCast]; omega) | decide) (by first | omega | exact xB_in _ | exact xB_01 _ | exact iAnd_in | exact iShr_in | (simp only [Int.toNat_natCast]; omega) | decide), if_pos (by first | omega | decide), bL_isHide_976, bL_isHide_981 (by first | omega | exact xB_in _ | exact xB_01 _ | exact iAnd_in | exact iShr_in | (simp only [Int.toNat_natCast]; omega) | decide)]
  | true =>
    rw [if_neg (by decide)] at hc
    cases b with
    | false => rw [if_pos rfl] at hc; subst hc; rw [bL_isHide_951 (by first | omega | exact xB_in _ | exact xB_01 _ | exact iAnd_in | exact iShr_in | (simp only [Int.toNat_natCast]; omega) | decide), if_neg (by first | omega | decide), bL_isHide_961 (by first | omega | exact xB_in _ | exact xB_01 _ | exact iAnd_in | exact iShr_in | (simp only [Int.toNat_natCast]; omega) | decide), if_pos (by first | omega | decide), bL_isHide_971, bL_isHide_973 (by first | omega | exact xB_in _ | exact xB_01 _ | exact iAnd_in | exact iShr_in | (simp only [Int.toNat_natCast]; omega) | decide) (by first | omega | exact xB_in _ | exact xB_01 _ | exact iAnd_in | exact iShr_in | (simp only [Int.toNat_natCast]; omega) | decide), if_pos (by first | omega | decide), bL_isHide_976, bL_isHide_981 (by first | omega | exact xB_in _ | exact xB_01 _ | exact iAnd_in | exact iShr_in | (simp only [Int.toNat_natCast]; omega) | decide)]
    | true => rw [if_neg (by decide)] at hc; subst hc; rw [bL_isHide_951 (by first | omega | exact xB_in _ | exact xB_01 _ | exact iAnd_in | exact iShr_in | (simp only [Int.toNat_natCast]; omega) | decide), if_neg (by first | omega | decide), bL_isHide_961 (by first | omega | exact xB_in _ | exact xB_01 _ | exact iAnd_in | exact iShr_in | (simp only [Int.toNat_natCast]; omega) | decide), if_neg (by first | omega | decide), bL_isHide_966, bL_isHide_973 (by first | omega | exact xB_in _ | exact xB_01 _ | exact iAnd_in | exact iShr_in | (simp only [Int.toNat_natCast]; omega) | decide) (by first | omega | exact xB_in _ | exact xB_01 _ | exact iAnd_in | exact iShr_in | (simp only [Int.toNat_natCast]; omega) | decide), if_pos (by first | omega | decide), bL_isHide_976, bL_isHide_981 (by first | omega | exact xB_in _ | exact xB_01 _ | exact iAnd_in | exact iShr_in | (simp only [Int.toNat_natCast]; omega) | decide)]
theorem find_call {st : Bool} {hd al wi : Nat} {le : Int} {o1 o2 o3 o4 o5 o6 o7 o8 o9 o11 o12 o13 o14 o18 o20 o21 o22 o23 o24 o25 o26 o27 : Option Value} :
    XR sc d 106 927 [some (.ref 0), o1, o2, o3, o4, o5, o6, o7, o8, o9, some (xw hd), o11, o12, o13, o14, some (xw al), some (xw wi), some (xw (xB st)), o18, some (xw le), o20, o21, o22, o23, o24, o25, o26, o27] [] (T, z, xv V, J, R) =
      xret 106 (XR sc d 106) 948 951 [some (.ref 0), o1, o2, o3, o4, o5, o6, o7, o8, o9, some (xw hd), o11, o12, o13, o14, some (xw al), some (xw wi), some (xw (xB st)), o18, some (xw le), o20, o21, o22, o23, o24, o25, o26, o27] [] (X sc d 92 [.ref 0, xw 3, xw hd, xw al, xw wi, xw (xB st), xw le, xw 0] (T, z, xv V, J, R)) := by
  cases st with
  | false => rw [bL_isHide_927 (by first | omega | exact xB_in _ | exact xB_01 _ | exact iAnd_in | exact iShr_in | (simp only [Int.toNat_natCast]; omega) | decide), if_pos (by first | omega | decide), bL_isHide_944, bL_isHide_945]; rfl
  | true => rw [bL_isHide_927 (by first | omega | exact xB_in _ | exact xB_01 _ | exact iAnd_in | exact iShr_in | (simp only [Int.toNat_natCast]; omega) | decide), if_neg (by first | omega | decide), bL_isHide_940, bL_isHide_945]; rfl
theorem h_find {i : Nat} {one two : Int} (hI : qInv i T z V R) (h1 : 0 ≤ one ∧ one < 60000) (h2 : 0 ≤ two ∧ two < 60000) : qDone (X sc 11 106 [.ref 0, .ref 56, .ref 57, .ref 58, .ref 59, .ref 60, .ref 63, xw 3, xw one, xw two] (T, z, xv V, J, R)) i z := by
  obtain ⟨hT, hRo, hHs, hSs, hSe, hA⟩ := hI.1
  have hz := hI.2.1
  obtain ⟨H, hH⟩ := hI.2.2.1
  obtain ⟨⟨q1, q2, q3⟩, q4, ⟨q5, q5b⟩, q6, q7⟩ := id hH
  obtain ⟨hd, co, ro, a1, a2, a3, a4⟩ := hd_start (sc := sc) (d := 10) (T := T) (z := z) (V := V) (J := J) (R := R) (what := 3) (o2 := some (.ref 57)) (o3 := some (.ref 58)) (o4 := some (.ref 59)) (o5 := some (.ref 60)) (o14 := none) (o15 := none) (o16 := none) (o17 := none) (o18 := none) (o19 := none) (o20 := none) (o21 := none) (o22 := none) (o23 := none) (o24 := none) (o25 := none) (o26 := none) (o27 := none) hA ⟨q1, q3⟩ h1 h2
  obtain ⟨al, wi, st, b1, b2, b3⟩ := hd_size (sc := sc) (d := 10) (T := T) (z := z) (V := V) (J := J) (R := R) (what := 3) (y := decide (hd < H ∧ co < 12 ∧ ro < 8)) (o0 := some (.ref 0)) (o1 := some (.ref 56)) (o2 := some (.ref 57)) (o3 := some (.ref 58)) (o4 := some (.ref 59)) (o5 := some (.ref 60)) (o6 := some (.ref 63)) (o10 := some (xw hd)) (o11 := some (xw (xB (decide (hd < H))))) (o12 := some (xw co)) (o13 := some (xw ro)) (o18 := none) (o19 := none) (o20 := none) (o21 := none) (o22 := none) (o23 := none) (o24 := none) (o25 := none) (o26 := none) (o27 := none) (by decide) h1 h2
  obtain ⟨le, ele⟩ : ∃ le : Int, one / 702 % 11 = le := ⟨_, rfl⟩
  have hle : 0 ≤ le ∧ le ≤ 10 := by omega
  -- all sizes in range
  have right : XR sc 10 106 420 [some (.ref 0), some (.ref 56), some (.ref 57), some (.ref 58), some (.ref 59), some (.ref 60), some (.ref 63), some (xw 3), some (xw one), some (xw two), some (xw hd), some (xw (xB (decide (hd < H)))), some (xw co), some (xw ro), some (xw (xB (decide (hd < H ∧ co < 12 ∧ ro < 8)))), some (xw al), some (xw wi), some (xw (xB st)), none, none, none, none, none, none, none, none, none, none] [xw (xB (decide ((1 ≤ al ∧ al ≤ 12) ∧ 1 ≤ wi ∧ wi ≤ 8)))] (T, z, xv V, J, R) =
      XR sc 10 106 742 [some (.ref 0), some (.ref 56), some (.ref 57), some (.ref 58), some (.ref 59), some (.ref 60), some (.ref 63), some (xw 3), some (xw one), some (xw two), some (xw hd), some (xw (xB (decide (hd < H)))), some (xw co), some (xw ro), some (xw (xB (decide (hd < H ∧ co < 12 ∧ ro < 8)))), some (xw al), some (xw wi), some (xw (xB st)), some (xw (xB (decide ((1 ≤ al ∧ al ≤ 12) ∧ 1 ≤ wi ∧ wi ≤ 8)))), some (xw le), some (xw (xB (decide (((1 ≤ al ∧ al ≤ 12) ∧ 1 ≤ wi ∧ wi ≤ 8) ∧ 1 ≤ le ∧ le ≤ 9)))), some (xw (-1)), some (xw (-1)), some (xw 95), none, none, none, none] [] (T, z, xv V, J, R) := by
    by_cases c1 : (1 ≤ al ∧ al ≤ 12) ∧ 1 ≤ wi ∧ wi ≤ 8
    · rw [decide_eq_true c1]
      by_cases c2 : le ≤ 0
      · rw [decide_eq_false (show ¬ (((1 ≤ al ∧ al ≤ 12) ∧ 1 ≤ wi ∧ wi ≤ 8) ∧ 1 ≤ le ∧ le ≤ 9) by omega), bL_isHide_420 (by first | omega | exact xB_in _ | exact xB_01 _ | exact iAnd_in | exact iShr_in | (simp only [Int.toNat_natCast]; omega) | decide), if_neg (by first | omega | decide), bL_isHide_697 (by first | omega | exact xB_in _ | exact xB_01 _ | exact iAnd_in | exact iShr_in | (simp only [Int.toNat_natCast]; omega) | decide) (by first | omega | exact xB_in _ | exact xB_01 _ | exact iAnd_in | exact iShr_in | (simp only [Int.toNat_natCast]; omega) | decide) (by first | omega | exact xB_in _ | exact xB_01 _ | exact iAnd_in | exact iShr_in | (simp only [Int.toNat_natCast]; omega) | decide), if_neg (by first | omega | decide), ele, bL_isHide_713 (by first | omega | exact xB_in _ | exact xB_01 _ | exact iAnd_in | exact iShr_in | (simp only [Int.toNat_natCast]; omega) | decide), if_pos (by first | omega | decide), bL_isHide_729, bL_isHide_730]; rfl
      · by_cases c3 : 10 ≤ le
        · rw [decide_eq_false (show ¬ (((1 ≤ al ∧ al ≤ 12) ∧ 1 ≤ wi ∧ wi ≤ 8) ∧ 1 ≤ le ∧ le ≤ 9) by omega), bL_isHide_420 (by first | omega | exact xB_in _ | exact xB_01 _ | exact iAnd_in | exact iShr_in | (simp only [Int.toNat_natCast]; omega) | decide), if_neg (by first | omega | decide), bL_isHide_697 (by first | omega | exact xB_in _ | exact xB_01 _ | exact iAnd_in | exact iShr_in | (simp only [Int.toNat_natCast]; omega) | decide) (by first | omega | exact xB_in _ | exact xB_01 _ | exact iAnd_in | exact iShr_in | (simp only [Int.toNat_natCast]; omega) | decide) (by first | omega | exact xB_in _ | exact xB_01 _ | exact iAnd_in | exact iShr_in | (simp only [Int.toNat_natCast]; omega) | decide), if_neg (by first | omega | decide), ele, bL_isHide_713 (by first | omega | exact xB_in _ | exact xB_01 _ | exact iAnd_in | exact iShr_in | (simp only [Int.toNat_natCast]; omega) | decide), if_neg (by first | omega | decide), bL_isHide_718 (by first | omega | exact xB_in _ | exact xB_01 _ | exact iAnd_in | exact iShr_in | (simp only [Int.toNat_natCast]; omega) | decide), if_pos (by first | omega | decide), bL_isHide_729, bL_isHide_730]; rfl
        · rw [decide_eq_true (show ((1 ≤ al ∧ al ≤ 12) ∧ 1 ≤ wi ∧ wi ≤ 8) ∧ 1 ≤ le ∧ le ≤ 9 by omega), bL_isHide_420 (by first | omega | exact xB_in _ | exact xB_01 _ | exact iAnd_in | exact iShr_in | (simp only [Int.toNat_natCast]; omega) | decide), if_neg (by first | omega | decide), bL_isHide_697 (by first | omega | exact xB_in _ | exact xB_01 _ | exact iAnd_in | exact iShr_in | (simp only [Int.toNat_natCast]; omega) | decide) (by first | omega | exact xB_in _ | exact xB_01 _ | exact iAnd_in | exact iShr_in | (simp only [Int.toNat_natCast]; omega) | decide) (by first | omega | exact xB_in _ | exact xB_01 _ | exact iAnd_in | exact iShr_in | (simp only [Int.toNat_natCast]; omega) | decide), if_neg (by first | omega | decide), ele, bL_isHide_713 (by first | omega | exact xB_in _ | exact xB_01 _ | exact iAnd_in | exact iShr_in | (simp only [Int.toNat_natCast]; omega) | decide), if_neg (by first | omega | decide), bL_isHide_718 (by first | omega | exact xB_in _ | exact xB_01 _ | exact iAnd_in | exact iShr_in | (simp only [Int.toNat_natCast]; omega) | decide), if_neg (by first | omega | decide), bL_isHide_725, bL_isHide_730]; rfl
    · rw [decide_eq_false c1, decide_eq_false (show ¬ (((1 ≤ al ∧ al ≤ 12) ∧ 1 ≤ wi ∧ wi ≤ 8) ∧ 1 ≤ le ∧ le ≤ 9) from fun q => c1 q.1), bL_isHide_420 (by first | omega | exact xB_in _ | exact xB_01 _ | exact iAnd_in | exact iShr_in | (simp only [Int.toNat_natCast]; omega) | decide), if_neg (by first | omega | decide), bL_isHide_697 (by first | omega | exact xB_in _ | exact xB_01 _ | exact iAnd_in | exact iShr_in | (simp only [Int.toNat_natCast]; omega) | decide) (by first | omega | exact xB_in _ | exact xB_01 _ | exact iAnd_in | exact iShr_in | (simp only [Int.toNat_natCast]; omega) | decide) (by first | omega | exact xB_in _ | exact xB_01 _ | exact iAnd_in | exact iShr_in | (simp only [Int.toNat_natCast]; omega) | decide), if_pos (by first | omega | decide), ele, bL_isHide_729, bL_isHide_730]; rfl
  rw [eL_isHide, bL_isHide_0 (by first | omega | exact xB_in _ | exact xB_01 _ | exact iAnd_in | exact iShr_in | (simp only [Int.toNat_natCast]; omega) | decide), if_neg (by first | omega | decide), a4, b3, right]
  by_cases c1 : hd < H
  · obtain ⟨a, ea, ha, g1⟩ := qd_y hH c1
    have cls := s_find (sc := sc) (d := 1) (z := z) (V := V) (J := J) (x := (hd : Int)) (al := (al : Int)) (wi := (wi : Int)) (st := xB st) (le := le) hT (by omega) (by rw [Int.toNat_natCast]; exact ha) g1.1 (qd_01 g1) (by have := g1.2.2.2.1; have := g1.2.2.2.2.1; omega) (by omega) (by omega) (xB_01 st) (by omega)
    rw [decide_eq_true c1]
    by_cases c2 : ((1 ≤ al ∧ al ≤ 12) ∧ 1 ≤ wi ∧ wi ≤ 8) ∧ 1 ≤ le ∧ le ≤ 9
    · rw [if_pos (by omega)] at cls
      obtain ⟨f', o21, o23, o24, o25, o26, o27, j1, j2⟩ := find_lp (sc := sc) (d := 9) (T := T) (z := z) (V := V) (J := J) (R := R) (hd := hd) (a := a) (al := al) (wi := wi) (st := st) (le := le) (o0 := some (.ref 0)) (o2 := some (.ref 57)) (o3 := some (.ref 58)) (o4 := some (.ref 59)) (o5 := some (.ref 60)) (o6 := some (.ref 63)) (o7 := some (xw 3)) (o8 := some (xw one)) (o9 := some (xw two)) (o12 := some (xw co)) (o13 := some (xw ro)) (o14 := some (xw (xB (decide (hd < H ∧ co < 12 ∧ ro < 8))))) (o18 := some (xw (xB (decide ((1 ≤ al ∧ al ≤ 12) ∧ 1 ≤ wi ∧ wi ≤ 8))))) hA (by omega) g1 c2.1.1 c2.1.2 c2.2 96 (-1) (-1) none none none none (Nat.le_refl _) (Or.inl ⟨rfl, fun n q => by have := pPc_96 q.2 c2.1.2.1; omega⟩) (fun q => absurd q (by decide)) (fun _ => rfl)
      have xf := xFi_ok (V := V) (a := a) (al := al) (wi := wi) (st := xB st) (le := le) c2.1.1 c2.1.2 (9 - wi) 0 (-1) 0 (by omega) (Or.inl ⟨rfl, fun n q => absurd q.1 (by omega)⟩) (fun q => absurd q (by decide))
      have ef := pOpt_one xf j1
      have hf : -1 ≤ f' ∧ f' ≤ 95 := by
        rcases j1 with ⟨h1, _⟩ | ⟨k, h2, h3, _⟩
        · omega
        · have := pPc_96 h2 c2.1.2.1; omega
      rw [show (9 - (wi : Int)).toNat = 9 - wi by omega, show (0 : Int) = ((0 : Nat) : Int) from rfl] at cls
      have cls : X sc 9 53 [.ref 0, xw hd, xw al, xw wi, xw (xB st), xw le] (T, z, xv V, J, R) = some (.inl (some (xw f')), (T, z, xv V, J, R)) := by rw [← ef]; exact cls
      rw [decide_eq_true c2]
      rw [show ((96 : Nat) : Int) - 1 = 95 from rfl] at j2
      rw [j2, find_call, dv_find hT.1 (xB_01 st) cls, xret_v, find_end hf (by rw [if_neg (by decide), if_neg (by decide)])]
      exact ⟨_, _, _, _, _, rfl, qInv_le hI (Nat.le_succ i), by omega, by omega⟩
    · rw [if_neg (by omega)] at cls
      rw [decide_eq_false c2, bL_isHide_742 (by first | omega | exact xB_in _ | exact xB_01 _ | exact iAnd_in | exact iShr_in | (simp only [Int.toNat_natCast]; omega) | decide), if_neg (by first | omega | decide), bL_isHide_747 (by first | omega | exact xB_in _ | exact xB_01 _ | exact iAnd_in | exact iShr_in | (simp only [Int.toNat_natCast]; omega) | decide), if_neg (by first | omega | decide), bL_isHide_752 (by first | omega | exact xB_in _ | exact xB_01 _ | exact iAnd_in | exact iShr_in | (simp only [Int.toNat_natCast]; omega) | decide), if_pos (by first | omega | decide), find_call, dx_find hT.1 (xB_01 st) (by decide) cls, xret_v, find_end (by decide) (by rw [if_neg (by decide), if_pos rfl]; rfl)]
      refine ⟨_, _, _, _, _, rfl, qInv_k hI (Nat.le_succ i) (qKeep_x hz (fun _ _ _ => rfl)), ?_, ?_⟩
      · show z.1 + 1 ≤ _; omega
      · show z.2 + 6 ≤ _; omega
  · have cls := s_find_x (sc := sc) (d := 1) (z := z) (V := V) (J := J) (x := (hd : Int)) (al := (al : Int)) (wi := (wi : Int)) (st := xB st) (le := le) hT (by omega) (qd_no hH (by omega))
    rw [decide_eq_false c1, bL_isHide_742 (by first | omega | exact xB_in _ | exact xB_01 _ | exact iAnd_in | exact iShr_in | (simp only [Int.toNat_natCast]; omega) | decide), if_neg (by first | omega | decide), bL_isHide_747 (by first | omega | exact xB_in _ | exact xB_01 _ | exact iAnd_in | exact iShr_in | (simp only [Int.toNat_natCast]; omega) | decide), if_pos (by first | omega | decide), find_call, dx_find hT.1 (xB_01 st) (by decide) cls, xret_v, find_end (by decide) (by rw [if_pos rfl]; rfl)]
    refine ⟨_, _, _, _, _, rfl, qInv_k hI (Nat.le_succ i) (qKeep_x hz (fun _ _ _ => rfl)), ?_, ?_⟩
    · show z.1 + 1 ≤ _; omega
    · show z.2 + 6 ≤ _; omega
end P12
