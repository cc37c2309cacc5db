/-! the property's law: cuts -/
section P13
variable {sc : xS} {d : Nat} {T : Nat → Nat × Nat} {z : Nat × Nat} {V : Nat → Nat → Int} {J : Nat → Nat → Int64} {R : Nat → Nat → Option Nat}
/-- the squares of a piece are taken, one by one -/
theorem cut_lp {hd co ro al wi : Nat} {o0 o2 o3 o4 o5 o6 o7 o8 o9 o11 o14 o17 o18 o19 o20 o22 o23 o24 o25 o26 o27 : Option Value} (hA : pAr T) (hh : hd < 2) (hc : co + al ≤ 12) (hr : ro + wi ≤ 8) (hal : 1 ≤ al) :
    ∀ (m k : Nat) (V : Nat → Nat → Int), k + m = al * wi →
    ∃ (V' : Nat → Nat → Int) (o21 : Option Value), XR sc d 106 515 [o0, some (.ref 56), o2, o3, o4, o5, o6, o7, o8, o9, some (xw hd), o11, some (xw co), some (xw ro), o14, some (xw al), some (xw wi), o17, o18, o19, o20, some (xw k), o22, o23, o24, o25, o26, o27] [] (T, z, xv V, J, R) =
      XR sc d 106 562 [o0, some (.ref 56), o2, o3, o4, o5, o6, o7, o8, o9, some (xw hd), o11, some (xw co), some (xw ro), o14, some (xw al), some (xw wi), o17, o18, o19, o20, o21, o22, o23, o24, o25, o26, o27] [] (T, z, xv V', J, R) ∧
      (∀ b, ¬ b = 56 → V' b = V b) ∧ (∀ j, ¬ (2 + 8 * hd ≤ j ∧ j < 2 + 8 * hd + 8) → V' 56 j = V 56 j) ∧
      ∀ q x, q < 8 → x < 32 → (iBt (V' 56 (2 + 8 * hd + q)) x = true ↔ iBt (V 56 (2 + 8 * hd + q)) x = true ∨ ∃ n, k ≤ n ∧ n < al * wi ∧ q = ro + n / al ∧ x = co + n % al) := by
  have hm : al * wi ≤ 96 := Nat.le_trans (Nat.mul_le_mul (show al ≤ 12 by omega) (show wi ≤ 8 by omega)) (by decide)
  intro m
  induction m with
  | zero =>
    intro k V hk
    refine ⟨V, some (xw k), ?_, fun _ _ => rfl, fun _ _ => rfl, fun q x _ _ => ⟨Or.inl, fun h => h.elim id (fun ⟨n, a, b, _⟩ => by omega)⟩⟩
    rw [bL_isHide_515 (by omega) (by rw [← Int.natCast_mul]; omega), if_pos (by rw [← Int.natCast_mul]; omega)]
  | succ m ih =>
    intro k V hk
    have hdv : k / al < wi := (Nat.div_lt_iff_lt_mul (by omega)).mpr (by rw [Nat.mul_comm]; omega)
    have hmd : k % al < al := Nat.mod_lt _ (by omega)
    obtain ⟨u, hu⟩ : ∃ u, k / al = u := ⟨_, rfl⟩
    obtain ⟨v, hv⟩ : ∃ v, k % al = v := ⟨_, rfl⟩
    have hqu : (k : Int) / (al : Int) = (u : Int) := by rw [← hu]; exact (Int.natCast_ediv k al).symm
    have hqv : (k : Int) % (al : Int) = (v : Int) := by rw [← hv]; exact (Int.natCast_emod k al).symm
    rw [hu] at hdv; rw [hv] at hmd
    have e1 : (2 + 8 * (hd : Int) + (ro : Int) + (u : Int)).toNat = 2 + 8 * hd + (ro + u) := by omega
    have e2 : ((co : Int) + (v : Int)) = ((co + v : Nat) : Int) := by omega
    obtain ⟨V', o21, j1, j2, j3, j4⟩ := ih (k + 1) (xup2 V 56 (2 + 8 * hd + (ro + u)) (iOr (V 56 (2 + 8 * hd + (ro + u))) (iShl 1 ((co + v : Nat) : Int)))) (by omega)
    refine ⟨V', o21, ?_, fun b hb => by rw [j2 b hb, xup2_o hb], fun j hj => by rw [j3 j hj, xup2_j (by omega)], fun q x hq hx => (j4 q x hq hx).trans ?_⟩
    · rw [bL_isHide_515 (by omega) (by rw [← Int.natCast_mul]; omega), if_neg (by rw [← Int.natCast_mul]; omega), bL_isHide_525 (by omega) (by rw [pA56 hA]) (by rw [pA56 hA, hqu]; omega), hqu, hqv, e1, e2, show (k : Int) + 1 = ((k + 1 : Nat) : Int) by omega]
      exact j1
    · by_cases e : q = ro + u
      · subst e
        rw [xup2_i, i_or, i_one (co + v) (by omega) x hx, Bool.or_eq_true, decide_eq_true_eq]
        refine ⟨fun h => ?_, fun h => ?_⟩
        · rcases h with (h | h) | ⟨n, a, b, c, dd⟩
          · exact Or.inl h
          · exact Or.inr ⟨k, Nat.le_refl k, by omega, by rw [hu], by rw [hv]; exact h⟩
          · exact Or.inr ⟨n, by omega, b, c, dd⟩
        · rcases h with h | ⟨n, a, b, c, dd⟩
          · exact Or.inl (Or.inl h)
          · by_cases en : n = k
            · subst en; exact Or.inl (Or.inr (dd.trans (by rw [hv])))
            · exact Or.inr ⟨n, by omega, b, c, dd⟩
      · rw [xup2_j (by omega)]
        refine ⟨fun h => ?_, fun h => ?_⟩
        · rcases h with h | ⟨n, a, b, c, dd⟩
          · exact Or.inl h
          · exact Or.inr ⟨n, by omega, b, c, dd⟩
        · rcases h with h | ⟨n, a, b, c, dd⟩
          · exact Or.inl h
          · by_cases en : n = k
            · subst en; exact absurd (c.trans (by rw [hu])) e
            · exact Or.inr ⟨n, by omega, b, c, dd⟩
theorem rect_n {co ro al wi q x : Nat} (hal : 1 ≤ al) : (∃ n, 0 ≤ n ∧ n < al * wi ∧ q = ro + n / al ∧ x = co + n % al) ↔ (ro ≤ q ∧ q < ro + wi ∧ co ≤ x ∧ x < co + al) := by
  refine ⟨fun ⟨n, _, b, c, dd⟩ => ?_, fun ⟨a, b, c, dd⟩ => ?_⟩
  · have hdv : n / al < wi := (Nat.div_lt_iff_lt_mul (by omega)).mpr (by rw [Nat.mul_comm]; omega)
    have hmd : n % al < al := Nat.mod_lt _ (by omega)
    rw [c, dd]
    exact ⟨Nat.le_add_right _ _, Nat.add_lt_add_left hdv ro, Nat.le_add_right _ _, Nat.add_lt_add_left hmd co⟩
  · obtain ⟨u, rfl⟩ := Nat.exists_eq_add_of_le a
    obtain ⟨v, rfl⟩ := Nat.exists_eq_add_of_le c
    have hv : v < al := by omega
    have hu : u < wi := by omega
    have hlt : u * al + v < al * wi := by
      have := Nat.mul_le_mul_left al (show u + 1 ≤ wi from hu)
      rw [Nat.mul_add, Nat.mul_one, Nat.mul_comm al u] at this
      omega
    refine ⟨u * al + v, Nat.zero_le _, hlt, ?_, ?_⟩
    · rw [show (u * al + v) / al = u by rw [Nat.add_comm, Nat.add_mul_div_right _ _ (by omega), Nat.div_eq_of_lt hv, Nat.zero_add]]
    · rw [show (u * al + v) % al = v by rw [Nat.add_comm, Nat.add_mul_mod_self_right, Nat.mod_eq_of_lt hv]]
theorem cut_call {st : Bool} {hd co ro al wi : Nat} {o1 o2 o3 o4 o5 o6 o7 o8 o9 o11 o14 o18 o19 o20 o21 o22 o23 o24 o25 o26 o27 : Option Value} :
    XR sc d 106 627 [some (.ref 0), o1, o2, o3, o4, o5, o6, o7, o8, o9, some (xw hd), o11, some (xw co), some (xw ro), o14, some (xw al), some (xw wi), some (xw (xB st)), o18, o19, o20, o21, o22, o23, o24, o25, o26, o27] [] (T, z, xv V, J, R) =
      xret 106 (XR sc d 106) 649 652 [some (.ref 0), o1, o2, o3, o4, o5, o6, o7, o8, o9, some (xw hd), o11, some (xw co), some (xw ro), o14, some (xw al), some (xw wi), some (xw (xB st)), o18, o19, o20, o21, o22, o23, o24, o25, o26, o27] [] (X sc d 92 [.ref 0, xw 2, xw hd, xw co, xw ro, xw al, xw wi, xw (xB st)] (T, z, xv V, J, R)) := by
  cases st with
  | false => rw [bL_isHide_627 (by first | omega | exact xB_in _ | exact xB_01 _ | exact iAnd_in | exact iShr_in | (simp only [Int.toNat_natCast]; omega) | decide), if_pos (by first | omega | decide), bL_isHide_648, bL_isHide_649]; rfl
  | true => rw [bL_isHide_627 (by first | omega | exact xB_in _ | exact xB_01 _ | exact iAnd_in | exact iShr_in | (simp only [Int.toNat_natCast]; omega) | decide), if_neg (by first | omega | decide), bL_isHide_644, bL_isHide_649]; rfl
/-- the answer to a cut -/
theorem cut_end {a b e : Bool} {n : Nat} {c : Int} {o0 o1 o2 o3 o4 o5 o7 o8 o9 o10 o11 o12 o13 o15 o16 o17 o18 o21 o22 o23 o24 o25 o26 o27 : Option Value} (hA : pAr T) (hn : e = true → V 63 1 = (n : Int) + 1 ∧ n < 10) (hc : c = if a = false then (-3000000 : Int) else if b = false then -2000000 else if e = false then -1000000 else (n : Int)) :
    XR sc d 106 652 [o0, o1, o2, o3, o4, o5, some (.ref 63), o7, o8, o9, o10, o11, o12, o13, some (xw (xB a)), o15, o16, o17, o18, some (xw (xB b)), some (xw (xB e)), o21, o22, o23, o24, o25, o26, o27] [xw c] (T, z, xv V, J, R) = some (.inl (some (xw 1)), (T, z, xv V, J, R)) := by
  cases a with
  | false => rw [if_pos rfl] at hc; subst hc; rw [bL_isHide_652 (by first | omega | exact xB_in _ | exact xB_01 _ | exact iAnd_in | exact iShr_in | (simp only [Int.toNat_natCast]; omega) | decide), if_pos (by first | omega | decide), bL_isHide_657, bL_isHide_688 (by first | omega | exact xB_in _ | exact xB_01 _ | exact iAnd_in | exact iShr_in | (simp only [Int.toNat_natCast]; omega) | decide) (by first | omega | exact xB_in _ | exact xB_01 _ | exact iAnd_in | exact iShr_in | (simp only [Int.toNat_natCast]; omega) | decide), if_pos (by first | omega | decide), bL_isHide_691, bL_isHide_696 (by first | omega | exact xB_in _ | exact xB_01 _ | exact iAnd_in | exact iShr_in | (simp only [Int.toNat_natCast]; omega) | decide)]
  | true =>
    rw [if_neg (by decide)] at hc
    cases b with
    | false => rw [if_pos rfl] at hc; subst hc; rw [bL_isHide_652 (by first | omega | exact xB_in _ | exact xB_01 _ | exact iAnd_in | exact iShr_in | (simp only [Int.toNat_natCast]; omega) | decide), if_neg (by first | omega | decide), bL_isHide_662 (by first | omega | exact xB_in _ | exact xB_01 _ | exact iAnd_in | exact iShr_in | (simp only [Int.toNat_natCast]; omega) | decide), if_pos (by first | omega | decide), bL_isHide_667, bL_isHide_688 (by first | omega | exact xB_in _ | exact xB_01 _ | exact iAnd_in | exact iShr_in | (simp only [Int.toNat_natCast]; omega) | decide) (by first | omega | exact xB_in _ | exact xB_01 _ | exact iAnd_in | exact iShr_in | (simp only [Int.toNat_natCast]; omega) | decide), if_pos (by first | omega | decide), bL_isHide_691, bL_isHide_696 (by first | omega | exact xB_in _ | exact xB_01 _ | exact iAnd_in | exact iShr_in | (simp only [Int.toNat_natCast]; omega) | decide)]
    | true =>
      rw [if_neg (by decide)] at hc
      cases e with
      | false => rw [if_pos rfl] at hc; subst hc; rw [bL_isHide_652 (by first | omega | exact xB_in _ | exact xB_01 _ | exact iAnd_in | exact iShr_in | (simp only [Int.toNat_natCast]; omega) | decide), if_neg (by first | omega | decide), bL_isHide_662 (by first | omega | exact xB_in _ | exact xB_01 _ | exact iAnd_in | exact iShr_in | (simp only [Int.toNat_natCast]; omega) | decide), if_neg (by first | omega | decide), bL_isHide_672 (by first | omega | exact xB_in _ | exact xB_01 _ | exact iAnd_in | exact iShr_in | (simp only [Int.toNat_natCast]; omega) | decide), if_pos (by first | omega | decide), bL_isHide_686, bL_isHide_688 (by first | omega | exact xB_in _ | exact xB_01 _ | exact iAnd_in | exact iShr_in | (simp only [Int.toNat_natCast]; omega) | decide) (by first | omega | exact xB_in _ | exact xB_01 _ | exact iAnd_in | exact iShr_in | (simp only [Int.toNat_natCast]; omega) | decide), if_pos (by first | omega | decide), bL_isHide_691, bL_isHide_696 (by first | omega | exact xB_in _ | exact xB_01 _ | exact iAnd_in | exact iShr_in | (simp only [Int.toNat_natCast]; omega) | decide)]
      | true =>
        obtain ⟨n1, n2⟩ := hn rfl
        rw [if_neg (by decide)] at hc; subst hc
        rw [bL_isHide_652 (by first | omega | exact xB_in _ | exact xB_01 _ | exact iAnd_in | exact iShr_in | (simp only [Int.toNat_natCast]; omega) | decide), if_neg (by first | omega | decide), bL_isHide_662 (by first | omega | exact xB_in _ | exact xB_01 _ | exact iAnd_in | exact iShr_in | (simp only [Int.toNat_natCast]; omega) | decide), if_neg (by first | omega | decide), bL_isHide_672 (by first | omega | exact xB_in _ | exact xB_01 _ | exact iAnd_in | exact iShr_in | (simp only [Int.toNat_natCast]; omega) | decide), if_neg (by first | omega | decide), bL_isHide_677 (by rw [pA63 hA]) (by rw [pA63 hA]; omega), n1, show (n : Int) + 1 - 1 = n by omega, bL_isHide_688 (by first | omega | exact xB_in _ | exact xB_01 _ | exact iAnd_in | exact iShr_in | (simp only [Int.toNat_natCast]; omega) | decide) (by first | omega | exact xB_in _ | exact xB_01 _ | exact iAnd_in | exact iShr_in | (simp only [Int.toNat_natCast]; omega) | decide), if_pos (by first | omega | decide), bL_isHide_691, bL_isHide_696 (by first | omega | exact xB_in _ | exact xB_01 _ | exact iAnd_in | exact iShr_in | (simp only [Int.toNat_natCast]; omega) | decide)]
theorem h_cut {i : Nat} {one two : Int} (hI : qInv i T z V R) (h1 : 0 ≤ one ∧ one < 60000) (h2 : 0 ≤ two ∧ two < 60000) : qDone (X sc 11 106 [.ref 0, .ref 56, .ref 57, .ref 58, .ref 59, .ref 60, .ref 63, xw 2, xw one, xw two] (T, z, xv V, J, R)) i z := by
  obtain ⟨hT, hRo, hHs, hSs, hSe, hA⟩ := hI.1
  have hz := hI.2.1
  obtain ⟨H, hH⟩ := hI.2.2.1
  obtain ⟨P, hP⟩ := hI.2.2.2.1
  have hor := hI.2.2.2.2
  obtain ⟨⟨q1, q2, q3⟩, q4, ⟨q5, q5b⟩, q6, q7⟩ := id hH
  obtain ⟨⟨r1, r2, r3⟩, r4, ⟨r5, r5b⟩, r6, r7⟩ := id hP
  obtain ⟨hd, co, ro, a1, a2, a3, a4⟩ := hd_start (sc := sc) (d := 10) (T := T) (z := z) (V := V) (J := J) (R := R) (what := 2) (o2 := some (.ref 57)) (o3 := some (.ref 58)) (o4 := some (.ref 59)) (o5 := some (.ref 60)) (o14 := none) (o15 := none) (o16 := none) (o17 := none) (o18 := none) (o19 := none) (o20 := none) (o21 := none) (o22 := none) (o23 := none) (o24 := none) (o25 := none) (o26 := none) (o27 := none) hA ⟨q1, q3⟩ h1 h2
  obtain ⟨al, wi, st, b1, b2, b3⟩ := hd_size (sc := sc) (d := 10) (T := T) (z := z) (V := V) (J := J) (R := R) (what := 2) (y := decide (hd < H ∧ co < 12 ∧ ro < 8)) (o0 := some (.ref 0)) (o1 := some (.ref 56)) (o2 := some (.ref 57)) (o3 := some (.ref 58)) (o4 := some (.ref 59)) (o5 := some (.ref 60)) (o6 := some (.ref 63)) (o10 := some (xw hd)) (o11 := some (xw (xB (decide (hd < H))))) (o12 := some (xw co)) (o13 := some (xw ro)) (o18 := none) (o19 := none) (o20 := none) (o21 := none) (o22 := none) (o23 := none) (o24 := none) (o25 := none) (o26 := none) (o27 := none) (by decide) h1 h2
  rw [eL_isHide, bL_isHide_0 (by first | omega | exact xB_in _ | exact xB_01 _ | exact iAnd_in | exact iShr_in | (simp only [Int.toNat_natCast]; omega) | decide), if_neg (by first | omega | decide), a4, b3]
  by_cases c10 : P = 10
  · rw [bL_isHide_420 (by first | omega | exact xB_in _ | exact xB_01 _ | exact iAnd_in | exact iShr_in | (simp only [Int.toNat_natCast]; omega) | decide), if_pos (by first | omega | decide), bL_isHide_428 (by rw [pA63 hA]) (by rw [pA63 hA]; omega) (by first | omega | exact xB_in _ | exact xB_01 _ | exact iAnd_in | exact iShr_in | (simp only [Int.toNat_natCast]; omega) | decide), if_pos (by first | omega | decide), bL_isHide_437]
    exact ⟨_, _, _, _, _, rfl, qInv_le hI (Nat.le_succ i), by omega, by omega⟩
  have P9 : P < 10 := by omega
  have bad : ∀ (y1 y2 y3 : Bool) (e : Nat), (e = 8 ∨ e = 9 ∨ e = 10) → pK e = (if y1 = false then -3000000 else if y2 = false then -2000000 else if y3 = false then -1000000 else 0) → y3 = false → X sc 9 52 [.ref 0, xw hd, xw co, xw ro, xw al, xw wi, xw (xB st)] (T, z, xv V, J, R) = xTw e T z V J R →
      ∀ (o18 : Option Value), qDone (XR sc 10 106 627 [some (.ref 0), some (.ref 56), some (.ref 57), some (.ref 58), some (.ref 59), some (.ref 60), some (.ref 63), some (xw 2), some (xw one), some (xw two), some (xw hd), some (xw (xB (decide (hd < H)))), some (xw co), some (xw ro), some (xw (xB y1)), some (xw al), some (xw wi), some (xw (xB st)), o18, some (xw (xB y2)), some (xw (xB y3)), none, none, none, none, none, none, none] [] (T, z, xv V, J, R)) i z := by
    intro y1 y2 y3 e he hc hy cls o18
    have hA' : pAr (va_up T z.1 (1 + e, 0)) := pAr_e hA (fun b _ hb => va_ne (by omega))
    rw [cut_call, dx_cut hT.1 (xB_01 st) he cls, xret_v, cut_end (n := 0) hA' (fun q => by rw [hy] at q; cases q) (by rw [hc]; rfl)]
    refine ⟨_, _, _, _, _, rfl, qInv_k hI (Nat.le_succ i) (qKeep_x hz (fun _ _ _ => rfl)), ?_, ?_⟩
    · show z.1 + 1 ≤ _; omega
    · show z.2 + 6 ≤ _; omega
  -- whether the sizes fit
  have right : ∀ y1 : Bool, XR sc 10 106 420 [some (.ref 0), some (.ref 56), some (.ref 57), some (.ref 58), some (.ref 59), some (.ref 60), some (.ref 63), some (xw 2), some (xw one), some (xw two), some (xw hd), some (xw (xB (decide (hd < H)))), some (xw co), some (xw ro), some (xw (xB y1)), some (xw al), some (xw wi), some (xw (xB st)), none, none, none, none, none, none, none, none, none, none] [xw (xB (decide ((1 ≤ al ∧ al ≤ 12) ∧ 1 ≤ wi ∧ wi ≤ 8)))] (T, z, xv V, J, R) =
      XR sc 10 106 469 [some (.ref 0), some (.ref 56), some (.ref 57), some (.ref 58), some (.ref 59), some (.ref 60), some (.ref 63), some (xw 2), some (xw one), some (xw two), some (xw hd), some (xw (xB (decide (hd < H)))), some (xw co), some (xw ro), some (xw (xB y1)), some (xw al), some (xw wi), some (xw (xB st)), some (xw (xB (decide ((1 ≤ al ∧ al ≤ 12) ∧ 1 ≤ wi ∧ wi ≤ 8)))), none, none, none, none, none, none, none, none, none] [xw (xB (decide (((1 ≤ al ∧ al ≤ 12) ∧ 1 ≤ wi ∧ wi ≤ 8) ∧ co + al ≤ 12 ∧ ro + wi ≤ 8)))] (T, z, xv V, J, R) := by
    intro y1
    by_cases c1 : (1 ≤ al ∧ al ≤ 12) ∧ 1 ≤ wi ∧ wi ≤ 8
    · rw [decide_eq_true c1]
      by_cases c2 : 13 ≤ co + al
      · rw [decide_eq_false (show ¬ (((1 ≤ al ∧ al ≤ 12) ∧ 1 ≤ wi ∧ wi ≤ 8) ∧ co + al ≤ 12 ∧ ro + wi ≤ 8) by omega), bL_isHide_420 (by first | omega | exact xB_in _ | exact xB_01 _ | exact iAnd_in | exact iShr_in | (simp only [Int.toNat_natCast]; omega) | decide), if_pos (by first | omega | decide), bL_isHide_428 (by rw [pA63 hA]) (by rw [pA63 hA]; omega) (by first | omega | exact xB_in _ | exact xB_01 _ | exact iAnd_in | exact iShr_in | (simp only [Int.toNat_natCast]; omega) | decide), if_neg (by first | omega | decide), bL_isHide_439 (by first | omega | exact xB_in _ | exact xB_01 _ | exact iAnd_in | exact iShr_in | (simp only [Int.toNat_natCast]; omega) | decide), if_neg (by first | omega | decide), bL_isHide_444 (by first | omega | exact xB_in _ | exact xB_01 _ | exact iAnd_in | exact iShr_in | (simp only [Int.toNat_natCast]; omega) | decide), if_pos (by first | omega | decide), bL_isHide_468]; rfl
      · by_cases c3 : 9 ≤ ro + wi
        · rw [decide_eq_false (show ¬ (((1 ≤ al ∧ al ≤ 12) ∧ 1 ≤ wi ∧ wi ≤ 8) ∧ co + al ≤ 12 ∧ ro + wi ≤ 8) by omega), bL_isHide_420 (by first | omega | exact xB_in _ | exact xB_01 _ | exact iAnd_in | exact iShr_in | (simp only [Int.toNat_natCast]; omega) | decide), if_pos (by first | omega | decide), bL_isHide_428 (by rw [pA63 hA]) (by rw [pA63 hA]; omega) (by first | omega | exact xB_in _ | exact xB_01 _ | exact iAnd_in | exact iShr_in | (simp only [Int.toNat_natCast]; omega) | decide), if_neg (by first | omega | decide), bL_isHide_439 (by first | omega | exact xB_in _ | exact xB_01 _ | exact iAnd_in | exact iShr_in | (simp only [Int.toNat_natCast]; omega) | decide), if_neg (by first | omega | decide), bL_isHide_444 (by first | omega | exact xB_in _ | exact xB_01 _ | exact iAnd_in | exact iShr_in | (simp only [Int.toNat_natCast]; omega) | decide), if_neg (by first | omega | decide), bL_isHide_454 (by first | omega | exact xB_in _ | exact xB_01 _ | exact iAnd_in | exact iShr_in | (simp only [Int.toNat_natCast]; omega) | decide), if_pos (by first | omega | decide), bL_isHide_468]; rfl
        · rw [decide_eq_true (show ((1 ≤ al ∧ al ≤ 12) ∧ 1 ≤ wi ∧ wi ≤ 8) ∧ co + al ≤ 12 ∧ ro + wi ≤ 8 by omega), bL_isHide_420 (by first | omega | exact xB_in _ | exact xB_01 _ | exact iAnd_in | exact iShr_in | (simp only [Int.toNat_natCast]; omega) | decide), if_pos (by first | omega | decide), bL_isHide_428 (by rw [pA63 hA]) (by rw [pA63 hA]; omega) (by first | omega | exact xB_in _ | exact xB_01 _ | exact iAnd_in | exact iShr_in | (simp only [Int.toNat_natCast]; omega) | decide), if_neg (by first | omega | decide), bL_isHide_439 (by first | omega | exact xB_in _ | exact xB_01 _ | exact iAnd_in | exact iShr_in | (simp only [Int.toNat_natCast]; omega) | decide), if_neg (by first | omega | decide), bL_isHide_444 (by first | omega | exact xB_in _ | exact xB_01 _ | exact iAnd_in | exact iShr_in | (simp only [Int.toNat_natCast]; omega) | decide), if_neg (by first | omega | decide), bL_isHide_454 (by first | omega | exact xB_in _ | exact xB_01 _ | exact iAnd_in | exact iShr_in | (simp only [Int.toNat_natCast]; omega) | decide), if_neg (by first | omega | decide), bL_isHide_464]; rfl
    · rw [decide_eq_false c1, decide_eq_false (show ¬ (((1 ≤ al ∧ al ≤ 12) ∧ 1 ≤ wi ∧ wi ≤ 8) ∧ co + al ≤ 12 ∧ ro + wi ≤ 8) from fun q => c1 q.1), bL_isHide_420 (by first | omega | exact xB_in _ | exact xB_01 _ | exact iAnd_in | exact iShr_in | (simp only [Int.toNat_natCast]; omega) | decide), if_pos (by first | omega | decide), bL_isHide_428 (by rw [pA63 hA]) (by rw [pA63 hA]; omega) (by first | omega | exact xB_in _ | exact xB_01 _ | exact iAnd_in | exact iShr_in | (simp only [Int.toNat_natCast]; omega) | decide), if_neg (by first | omega | decide), bL_isHide_439 (by first | omega | exact xB_in _ | exact xB_01 _ | exact iAnd_in | exact iShr_in | (simp only [Int.toNat_natCast]; omega) | decide), if_pos (by first | omega | decide), bL_isHide_468]; rfl
  rw [right]
  clear right
  by_cases c1 : hd < H ∧ co < 12 ∧ ro < 8
  · obtain ⟨a, ea, ha, g1⟩ := qd_y hH c1.1
    obtain ⟨⟨p1a, p1b, p1c⟩, p2, p3, p4, p5, p6⟩ := id g1
    have clsOf := fun (W : Nat → Nat → Int) (w01 : ∀ k, k < 96 → W (a + 1) k = 0 ∨ W (a + 1) k = 1) (w3 : 0 ≤ W 0 3 ∧ W 0 3 ≤ 40) => s_cut (sc := sc) (d := 1) (z := z) (V := W) (J := J) (x := (hd : Int)) (c := (co : Int)) (r := (ro : Int)) (al := (al : Int)) (wi := (wi : Int)) (st := xB st) hT (by omega) (by omega) (by rw [Int.toNat_natCast]; exact ha) g1.1 ⟨by omega, p3⟩ w01 (by omega) (by omega) (by omega) (by omega) (xB_01 st) w3
    by_cases c2 : ((1 ≤ al ∧ al ≤ 12) ∧ 1 ≤ wi ∧ wi ≤ 8) ∧ co + al ≤ 12 ∧ ro + wi ≤ 8
    · obtain ⟨b, hb, hx⟩ := l_canCut (sc := sc) (d := 9) (T := T) (z := z) (V := V) (J := J) (R := R) (hd := hd) (c := co) (r := ro) (al := al) (wi := wi) (st := xB st) hA (by omega) c2.2.1 c2.2.2 c2.1.1.1 (xB_01 st)
      have hce := can_eq (st := xB st) g1 c2.2.1 c2.2.2
      rw [decide_eq_true c1, decide_eq_true c2, bL_isHide_469 (by first | omega | exact xB_in _ | exact xB_01 _ | exact iAnd_in | exact iShr_in | (simp only [Int.toNat_natCast]; omega) | decide), if_neg (by first | omega | decide), bL_isHide_476 (by first | omega | exact xB_in _ | exact xB_01 _ | exact iAnd_in | exact iShr_in | (simp only [Int.toNat_natCast]; omega) | decide), if_neg (by first | omega | decide), bL_isHide_481, hx, xret_v]
      cases b with
      | false =>
        have cls := clsOf V (qd_01 g1) (by omega)
        rw [if_pos (by omega), if_pos (by omega), if_neg (fun q => by have := hb.mpr (hce.mp q.1); cases this)] at cls
        rw [bL_isHide_497 (by first | omega | exact xB_in _ | exact xB_01 _ | exact iAnd_in | exact iShr_in | (simp only [Int.toNat_natCast]; omega) | decide), if_pos (by first | omega | decide), bL_isHide_504, bL_isHide_505 (by first | omega | exact xB_in _ | exact xB_01 _ | exact iAnd_in | exact iShr_in | (simp only [Int.toNat_natCast]; omega) | decide), if_pos (by first | omega | decide)]
        exact bad true true false 9 (by decide) (by rw [if_neg (by decide), if_neg (by decide), if_pos rfl]; rfl) rfl cls _
      | true =>
        have hfree := hb.mp rfl
        rw [bL_isHide_497 (by first | omega | exact xB_in _ | exact xB_01 _ | exact iAnd_in | exact iShr_in | (simp only [Int.toNat_natCast]; omega) | decide), if_neg (by first | omega | decide), bL_isHide_500, bL_isHide_505 (by first | omega | exact xB_in _ | exact xB_01 _ | exact iAnd_in | exact iShr_in | (simp only [Int.toNat_natCast]; omega) | decide), if_neg (by first | omega | decide), bL_isHide_512]
        obtain ⟨V1, o21, j1, j2, j3, j4⟩ := cut_lp (sc := sc) (d := 10) (T := T) (z := z) (J := J) (R := R) (hd := hd) (co := co) (ro := ro) (al := al) (wi := wi) (o0 := some (.ref 0)) (o2 := some (.ref 57)) (o3 := some (.ref 58)) (o4 := some (.ref 59)) (o5 := some (.ref 60)) (o6 := some (.ref 63)) (o7 := some (xw 2)) (o8 := some (xw one)) (o9 := some (xw two)) (o11 := some (xw (xB (decide (hd < H))))) (o14 := some (xw (xB true))) (o17 := some (xw (xB st))) (o18 := some (xw (xB (decide ((1 ≤ al ∧ al ≤ 12) ∧ 1 ≤ wi ∧ wi ≤ 8))))) (o19 := some (xw (xB true))) (o20 := some (xw 1)) (o22 := none) (o23 := none) (o24 := none) (o25 := none) (o26 := none) (o27 := none) hA (by omega) c2.2.1 c2.2.2 c2.1.1.1 (al * wi) 0 V (Nat.zero_add _)
        have j4 : ∀ q x, q < 8 → x < 32 → (iBt (V1 56 (2 + 8 * hd + q)) x = true ↔ iBt (V 56 (2 + 8 * hd + q)) x = true ∨ (ro ≤ q ∧ q < ro + wi ∧ co ≤ x ∧ x < co + al)) := fun q x hq hx => (j4 q x hq hx).trans ⟨fun h => h.imp id (rect_n c2.1.1.1).mp, fun h => h.imp id (rect_n c2.1.1.1).mpr⟩
        have v63 : V1 63 1 = P := by rw [j2 63 (by decide)]; exact r3
        have v56 : V1 56 hd = V 56 hd := j3 hd (by omega)
        -- the packed number
        have pk : ∃ pv : Int, pv = al + 16 * wi + 256 * (V 56 hd - (if ro + wi ≤ 5 then 0 else 1)) + 4096 * ro + 32768 * xB st ∧ ∀ (o21 : Option Value), XR sc 10 106 562 [some (.ref 0), some (.ref 56), some (.ref 57), some (.ref 58), some (.ref 59), some (.ref 60), some (.ref 63), some (xw 2), some (xw one), some (xw two), some (xw hd), some (xw (xB (decide (hd < H)))), some (xw co), some (xw ro), some (xw (xB true)), some (xw al), some (xw wi), some (xw (xB st)), some (xw (xB (decide ((1 ≤ al ∧ al ≤ 12) ∧ 1 ≤ wi ∧ wi ≤ 8)))), some (xw (xB true)), some (xw 1), o21, none, none, none, none, none, none] [] (T, z, xv V1, J, R) =
            XR sc 10 106 627 [some (.ref 0), some (.ref 56), some (.ref 57), some (.ref 58), some (.ref 59), some (.ref 60), some (.ref 63), some (xw 2), some (xw one), some (xw two), some (xw hd), some (xw (xB (decide (hd < H)))), some (xw co), some (xw ro), some (xw (xB true)), some (xw al), some (xw wi), some (xw (xB st)), some (xw (xB (decide ((1 ≤ al ∧ al ≤ 12) ∧ 1 ≤ wi ∧ wi ≤ 8)))), some (xw (xB true)), some (xw 1), o21, none, none, none, none, none, none] [] (T, z, xv (xup2 (xup2 V1 57 P pv) 63 1 ((P : Int) + 1)), J, R) := by
          refine ⟨_, rfl, fun o21 => ?_⟩
          have fin : ∀ y : Int, y = (if ro + wi ≤ 5 then (0 : Int) else 1) → XR sc 10 106 596 [some (.ref 0), some (.ref 56), some (.ref 57), some (.ref 58), some (.ref 59), some (.ref 60), some (.ref 63), some (xw 2), some (xw one), some (xw two), some (xw hd), some (xw (xB (decide (hd < H)))), some (xw co), some (xw ro), some (xw (xB true)), some (xw al), some (xw wi), some (xw (xB st)), some (xw (xB (decide ((1 ≤ al ∧ al ≤ 12) ∧ 1 ≤ wi ∧ wi ≤ 8)))), some (xw (xB true)), some (xw 1), o21, none, none, none, none, none, none] [xw y, xw (V 56 hd), xw 256, xw ((al : Int) + 16 * (wi : Int)), xw P, .ref 57] (T, z, xv V1, J, R) =
              XR sc 10 106 627 [some (.ref 0), some (.ref 56), some (.ref 57), some (.ref 58), some (.ref 59), some (.ref 60), some (.ref 63), some (xw 2), some (xw one), some (xw two), some (xw hd), some (xw (xB (decide (hd < H)))), some (xw co), some (xw ro), some (xw (xB true)), some (xw al), some (xw wi), some (xw (xB st)), some (xw (xB (decide ((1 ≤ al ∧ al ≤ 12) ∧ 1 ≤ wi ∧ wi ≤ 8)))), some (xw (xB true)), some (xw 1), o21, none, none, none, none, none, none] [] (T, z, xv (xup2 (xup2 V1 57 P (al + 16 * wi + 256 * (V 56 hd - (if ro + wi ≤ 5 then 0 else 1)) + 4096 * ro + 32768 * xB st)) 63 1 ((P : Int) + 1)), J, R) := by
            intro y hy
            cases st with
            | false => rw [bL_isHide_596 (by first | omega | exact xB_in _ | exact xB_01 _ | exact iAnd_in | exact iShr_in | (simp only [Int.toNat_natCast]; omega) | decide), if_pos (by first | omega | decide), bL_isHide_616, bL_isHide_617 (by rw [pA57 hA]) (by rw [pA57 hA]; omega) (by rw [pA63 hA]) (by rw [pA63 hA]; omega), Int.toNat_natCast, xup2_o (show ¬ 63 = 57 by decide), v63, hy, show (32768 : Int) * xB false = 0 from rfl]
            | true => rw [bL_isHide_596 (by first | omega | exact xB_in _ | exact xB_01 _ | exact iAnd_in | exact iShr_in | (simp only [Int.toNat_natCast]; omega) | decide), if_neg (by first | omega | decide), bL_isHide_611, bL_isHide_617 (by rw [pA57 hA]) (by rw [pA57 hA]; omega) (by rw [pA63 hA]) (by rw [pA63 hA]; omega), Int.toNat_natCast, xup2_o (show ¬ 63 = 57 by decide), v63, hy, show (32768 : Int) * xB true = 32768 from rfl]
          by_cases q : ro + wi ≤ 5
          · rw [bL_isHide_562 (by rw [pA63 hA]) (by rw [pA63 hA]; omega) (by rw [pA56 hA]) (by rw [pA56 hA]; omega) (by omega), if_pos (by omega), Int.toNat_natCast, v63, v56, bL_isHide_595]
            exact fin 0 (by rw [if_pos q])
          · rw [bL_isHide_562 (by rw [pA63 hA]) (by rw [pA63 hA]; omega) (by rw [pA56 hA]) (by rw [pA56 hA]; omega) (by omega), if_neg (by omega), Int.toNat_natCast, v63, v56, bL_isHide_591]
            exact fin 1 (by rw [if_neg q])
        obtain ⟨pv, hpv, pk⟩ := pk
        have hst := xB_01 st
        have j1 : XR sc 10 106 515 [some (.ref 0), some (.ref 56), some (.ref 57), some (.ref 58), some (.ref 59), some (.ref 60), some (.ref 63), some (xw 2), some (xw one), some (xw two), some (xw hd), some (xw (xB (decide (hd < H)))), some (xw co), some (xw ro), some (xw (xB true)), some (xw al), some (xw wi), some (xw (xB st)), some (xw (xB (decide ((1 ≤ al ∧ al ≤ 12) ∧ 1 ≤ wi ∧ wi ≤ 8)))), some (xw (xB true)), some (xw 1), some (xw 0), none, none, none, none, none, none] [] (T, z, xv V, J, R) = _ := j1
        rw [j1, pk, cut_call]
        -- the rows of the law behind it
        have w0 : ∀ b, ¬ b = 56 → ¬ b = 57 → ¬ b = 63 → xup2 (xup2 V1 57 P pv) 63 1 ((P : Int) + 1) b = V b := fun b x1 x2 x3 => by rw [xup2_o x3, xup2_o x2, j2 b x1]
        have w56 : xup2 (xup2 V1 57 P pv) 63 1 ((P : Int) + 1) 56 = V1 56 := by rw [xup2_o (by decide), xup2_o (by decide)]
        have w57 : ∀ j, xup2 (xup2 V1 57 P pv) 63 1 ((P : Int) + 1) 57 j = if j = P then pv else V 57 j := fun j => by
          rw [xup2_o (by decide)]
          by_cases e : j = P
          · subst e; rw [xup2_i, if_pos rfl]
          · rw [xup2_j e, if_neg e, j2 57 (by decide)]
        have w63 : ∀ j, xup2 (xup2 V1 57 P pv) 63 1 ((P : Int) + 1) 63 j = if j = 1 then (P : Int) + 1 else V 63 j := fun j => by
          by_cases e : j = 1
          · subst e; rw [xup2_i, if_pos rfl]
          · rw [xup2_j e, if_neg e, xup2_o (by decide), j2 63 (by decide)]
        revert w0 w56 w57 w63
        generalize xup2 (xup2 V1 57 P pv) 63 1 ((P : Int) + 1) = W
        intro w0 w56 w57 w63
        have wa1 : W (a + 1) = V (a + 1) := w0 _ (by omega) (by omega) (by omega)
        have wa : W a = V a := w0 _ (by omega) (by omega) (by omega)
        have w03 : W 0 3 = P := by rw [w0 0 (by decide) (by decide) (by decide)]; exact r2
        have cls := clsOf W (fun k hk => by rw [wa1]; exact qd_01 g1 k hk) (by omega)
        rw [if_pos (by omega), if_pos (by omega), if_pos ⟨by rw [xCan_e wa1]; exact hce.mpr hfree, by omega⟩, w03, Int.toNat_natCast] at cls
        rw [dv_cut hT.1 (xB_01 st) cls, xret_v]
        -- the class behind it
        have eT : ∀ b, b < z.1 → xPT T z.1 b = T b := fun b hb => by unfold xPT; rw [va_ne (by omega), va_ne (by omega)]
        have eR : ∀ b, b < z.1 → ¬ b = 2 → xup2 (xPR R z.1) 2 P (some z.1) b = R b := fun b hb b1 => by unfold xPR; rw [xup2_o b1, xup2_o (by omega), va_ne (by omega), va_ne (by omega)]
        have eR2 : ∀ k, xup2 (xPR R z.1) 2 P (some z.1) 2 k = if k = P then some z.1 else R 2 k := fun k => by
          by_cases e : k = P
          · subst e; rw [xup2_i, if_pos rfl]
          · unfold xPR; rw [xup2_j e, if_neg e, xup2_o (by omega), va_ne (by omega), va_ne (by omega)]
        have eTn : xPT T z.1 z.1 = (2, 0) ∧ xPT T z.1 (z.1 + 1) = (33, 49) := by unfold xPT; exact ⟨by rw [va_ne (by omega), va_same], va_same⟩
        have eRn : xup2 (xPR R z.1) 2 P (some z.1) z.1 4 = some (z.1 + 1) := by unfold xPR; rw [xup2_o (by omega), xup2_i]
        have eV : ∀ b, b < z.1 → ¬ b = 0 → ¬ b = a + 1 → xCut W z.1 a (a + 1) co ro al wi (xB st) b = W b := fun b hb b0 ba => by unfold xCut; rw [xSp_o ba, xup2_o b0, xPV_ne (by omega) (by omega)]
        have eV0 : ∀ j, xCut W z.1 a (a + 1) co ro al wi (xB st) 0 j = if j = 3 then (P : Int) + 1 else V 0 j := fun j => by
          unfold xCut; rw [xSp_o (by omega), w03]
          by_cases e : j = 3
          · subst e; rw [xup2_i, if_pos rfl]
          · rw [xup2_j e, if_neg e, xPV_ne (by omega) (by omega), w0 0 (by decide) (by decide) (by decide)]
        have eVa : ∀ k, k < 96 → xCut W z.1 a (a + 1) co ro al wi (xB st) (a + 1) k = if ro ≤ k / 12 ∧ k / 12 < ro + wi ∧ co ≤ k % 12 ∧ k % 12 < co + al then 1 else V (a + 1) k := fun k hk => by
          unfold xCut; rw [xSp_at, xup2_o (by omega), xPV_ne (by omega) (by omega), wa1]
        have eVn : (∀ j, xCut W z.1 a (a + 1) co ro al wi (xB st) z.1 j = if j = 0 then (al : Int) else if j = 1 then (wi : Int) else if j = 2 then (ro : Int) else if j = 5 then (if (ro : Int) + wi ≤ 5 then V a 0 else V a 0 - 1) else if j = 3 then xB st else if j = 9 ∨ j = 10 ∨ j = 11 then -1 else 0) := fun j => by
          unfold xCut xPV
          rw [xSp_o (by omega), xup2_o (by omega), wa]
          by_cases e11 : j = 11
          · subst e11; rw [xup2_i]; rfl
          rw [xup2_j e11]
          by_cases e10 : j = 10
          · subst e10; rw [xup2_i]; rfl
          rw [xup2_j e10]
          by_cases e9 : j = 9
          · subst e9; rw [xup2_i]; rfl
          rw [xup2_j e9, va_ne (by omega)]
          by_cases e3 : j = 3
          · subst e3; rw [xup2_i]; rfl
          rw [xup2_j e3]
          by_cases e5 : j = 5
          · subst e5; rw [xup2_i]; rfl
          rw [xup2_j e5]
          by_cases e2 : j = 2
          · subst e2; rw [xup2_i]; rfl
          rw [xup2_j e2]
          by_cases e1 : j = 1
          · subst e1; rw [xup2_i]; rfl
          rw [xup2_j e1]
          by_cases e0 : j = 0
          · subst e0; rw [xup2_i]; rfl
          rw [xup2_j e0, va_same, if_neg e0, if_neg e1, if_neg e2, if_neg e5, if_neg e3, if_neg (by omega)]
        have eVn1 : ∀ k, xCut W z.1 a (a + 1) co ro al wi (xB st) (z.1 + 1) k = 0 := fun k => by
          unfold xCut xPV
          rw [xSp_o (by omega), xup2_o (by omega), xup2_o (by omega), xup2_o (by omega), xup2_o (by omega), va_same]
        revert eT eR eR2 eTn eRn eV eV0 eVa eVn eVn1
        generalize xCut W z.1 a (a + 1) co ro al wi (xB st) = V2
        generalize xPT T z.1 = T2
        generalize xup2 (xPR R z.1) 2 P (some z.1) = R2
        intro eT eR eR2 eTn eRn eV eV0 eVa eVn eVn1
        have hA2 : pAr T2 := pAr_e hA (fun b _ hb => eT b (by omega))
        have v2o : ∀ b, b < z.1 → ¬ b = 0 → ¬ b = a + 1 → ¬ b = 56 → ¬ b = 57 → ¬ b = 63 → V2 b = V b := fun b hb x0 x1 x2 x3 x4 => by rw [eV b hb x0 x1, w0 b x2 x3 x4]
        have v263 : ∀ j, V2 63 j = if j = 1 then (P : Int) + 1 else V 63 j := fun j => by rw [eV 63 (by omega) (by decide) (by omega)]; exact w63 j
        have v256 : V2 56 = V1 56 := by rw [eV 56 (by omega) (by decide) (by omega)]; exact w56
        have v257 : ∀ j, V2 57 j = if j = P then pv else V 57 j := fun j => by rw [eV 57 (by omega) (by decide) (by omega)]; exact w57 j
        have x1 : XR sc 10 106 652 [some (.ref 0), some (.ref 56), some (.ref 57), some (.ref 58), some (.ref 59), some (.ref 60), some (.ref 63), some (xw 2), some (xw one), some (xw two), some (xw hd), some (xw (xB (decide (hd < H)))), some (xw co), some (xw ro), some (xw (xB true)), some (xw al), some (xw wi), some (xw (xB st)), some (xw (xB (decide ((1 ≤ al ∧ al ≤ 12) ∧ 1 ≤ wi ∧ wi ≤ 8)))), some (xw (xB true)), some (xw 1), o21, none, none, none, none, none, none] [xw P] (T2, (z.1 + 1 + 1, z.2 + 13 + 49), xv V2, xHJ J z.1, R2) = some (.inl (some (xw 1)), (T2, (z.1 + 1 + 1, z.2 + 13 + 49), xv V2, xHJ J z.1, R2)) :=
          cut_end (a := true) (b := true) (e := true) (n := P) hA2 (fun _ => ⟨by rw [v263, if_pos rfl], P9⟩) (by rw [if_neg (by decide), if_neg (by decide), if_neg (by decide)])
        rw [x1]
        refine ⟨_, _, _, _, _, rfl, ⟨qSta_e hI.1 (fun b hb => eT b (by omega)) (fun b hb _ b2 => eR b (by omega) b2), by show 64 ≤ z.1 + 1 + 1; omega, ⟨H, ?_⟩, ⟨P + 1, ?_⟩, ?_⟩, by show z.1 + 1 + 1 ≤ _; omega, by show z.2 + 13 + 49 ≤ _; omega⟩
        · refine qHid_u hH c1.1 ea (by show z.1 ≤ z.1 + 1 + 1; omega) (fun b _ hb => eT b hb) (eR 1 (by omega) (by decide)) (fun b _ hb => eR b hb (by omega)) (by rw [eV0, if_neg (by decide)]) (by rw [v263, if_neg (by decide)]) (fun q x y => by rw [v256, j3 q y]) (fun r hr k k1 k2 => ?_) (fun b b1 b2 b3 _ => v2o b b2 (by omega) b3 (by omega) (by omega) (by omega)) (fun k hk => ?_)
          · rw [v256]
            refine Bool.eq_false_iff.mpr fun q => ?_
            rcases (j4 r k hr k2).mp q with h | h
            · rw [q5b (2 + 8 * hd + r) (by omega) (by omega) k k1 k2] at h; cases h
            · omega
          · rw [eVa k hk, v256]
            have jj := j4 (k / 12) (k % 12) (by omega) (by omega)
            by_cases e : ro ≤ k / 12 ∧ k / 12 < ro + wi ∧ co ≤ k % 12 ∧ k % 12 < co + al
            · rw [if_pos e, if_pos (jj.mpr (Or.inr e))]
            · rw [if_neg e, p6 k hk]
              by_cases e2 : iBt (V 56 (2 + 8 * hd + k / 12)) (k % 12) = true
              · rw [if_pos e2, if_pos (jj.mpr (Or.inl e2))]
              · rw [if_neg e2, if_neg (fun q => (jj.mp q).elim e2 e)]
        · have ex : ∀ p, p < P → xp R2 p = xp R p := fun p hp => by unfold xp; rw [eR2, if_neg (by omega)]
          have exn : xp R2 P = z.1 := by unfold xp; rw [eR2, if_pos rfl]; rfl
          have o58 : V2 58 = V 58 := v2o 58 (by omega) (by decide) (by omega) (by decide) (by decide) (by decide)
          have o59 : V2 59 = V 59 := v2o 59 (by omega) (by decide) (by omega) (by decide) (by decide) (by decide)
          have o60 : V2 60 = V 60 := v2o 60 (by omega) (by decide) (by omega) (by decide) (by decide) (by decide)
          obtain ⟨z58, z59, z60⟩ := r5 P (Nat.le_refl _) P9
          have eth : V2 z.1 5 = V 56 hd - (if ro + wi ≤ 5 then 0 else 1) := by
            rw [eVn, if_neg (by decide), if_neg (by decide), if_neg (by decide), if_pos rfl, p4]
            by_cases q : ro + wi ≤ 5
            · rw [if_pos q, if_pos (by omega), Int.sub_zero]
            · rw [if_neg q, if_neg (by omega)]
          have th1 : 1 ≤ V 56 hd - (if ro + wi ≤ 5 then (0 : Int) else 1) ∧ V 56 hd - (if ro + wi ≤ 5 then (0 : Int) else 1) ≤ 9 := by split <;> omega
          revert eth hpv th1
          generalize V 56 hd - (if ro + wi ≤ 5 then (0 : Int) else 1) = th
          intro hpv eth th1
          obtain ⟨l1, l2, l3⟩ := pL_0 (V := V2) (p := P) (by rw [o60, z60]; decide)
          refine ⟨⟨by omega, by rw [eV0, if_pos rfl]; rfl, by rw [v263, if_pos rfl]; rfl⟩, fun p a b => by rw [eR2, if_neg (by omega)]; exact r4 p (by omega) b, ⟨fun p a b => by rw [o58, o59, o60]; exact r5 p (by omega) b, by rw [o58]; exact r5b⟩, fun p pa => ?_, fun p p' pa pb c => ?_⟩
          · by_cases e : p = P
            · subst e
              rw [exn, eR2, if_pos rfl]
              refine ⟨rfl, ⟨⟨eTn.1, eRn, eTn.2⟩, by omega, by show z.1 + 1 < z.1 + 1 + 1; omega⟩, ?_, ?_, ?_, ?_, ?_, ?_, ?_⟩
              · rw [show V2 z.1 4 = 0 by rw [eVn]; rfl, v257, if_pos rfl, eth, eVn, eVn, eVn, eVn, if_pos rfl, if_neg (by decide), if_pos rfl, if_neg (by decide), if_neg (by decide), if_pos rfl, if_neg (by decide), if_neg (by decide), if_neg (by decide), if_neg (by decide), if_pos rfl]
                omega
              · rw [v257, if_pos rfl, o58, z58, eVn, eVn, eVn, if_neg (by decide), if_neg (by decide), if_neg (by decide), if_neg (by decide), if_neg (by decide), if_neg (by decide), if_neg (by decide), if_neg (by decide), if_neg (by decide), if_neg (by decide), if_neg (by decide), if_neg (by decide), if_neg (by decide), if_neg (by decide), if_neg (by decide), if_neg (by decide), if_neg (by decide), if_neg (by decide)]
                omega
              · rw [l1, l2, l3, eVn, eVn, eVn]; exact ⟨rfl, rfl, rfl⟩
              · rw [eth, eVn, eVn, eVn, if_pos rfl, if_neg (by decide), if_pos rfl, if_neg (by decide), if_neg (by decide), if_neg (by decide), if_neg (by decide), if_neg (by decide), if_neg (by decide), v257, if_pos rfl, o58, z58]
                omega
              · refine ⟨Or.inl ⟨l1, l2, l3⟩, ?_, fun _ => ?_⟩
                · rw [o60, z60]; decide
                · rw [o60, z60]
              · rw [o59, z59]
                refine ⟨by decide, fun k hk => ?_, fun k hk q => ?_⟩
                · rw [eVn1, if_neg (fun q => by rw [iBt_0 k (by omega)] at q; cases q.2)]
                · rw [iBt_0 k (by omega)] at q; cases q
              · rw [o59, z59, eVn, pMn_0 30 0 (fun q _ b => iBt_0 q (by omega))]; rfl
            · obtain ⟨u1, u2⟩ := r6 p (by omega)
              have u2' := u2
              obtain ⟨⟨⟨s1, s2, s3⟩, s4, s5⟩, _⟩ := u2'
              rw [ex p (by omega), eR2, if_neg e]
              have d1 : ¬ xp R p = a + 1 := fun w => by rw [w, p1c] at s1; exact absurd s1 (by decide)
              have d2 : ¬ xp R p + 1 = a + 1 := fun w => by rw [w, p1c] at s3; exact absurd s3 (by decide)
              exact ⟨u1, qPa1_e u2 (Nat.le_succ i) (by show z.1 ≤ z.1 + 1 + 1; omega) ⟨eT _ (by omega), eT _ (by omega)⟩ (eR _ (by omega) (by omega)) (by rw [v257, if_neg e]) (by rw [o58]) (by rw [o59]) (by rw [o60]) (fun j _ => by rw [v2o _ (by omega) (by omega) d1 (by omega) (by omega) (by omega)]) (fun k _ => by rw [v2o _ (by omega) (by omega) d2 (by omega) (by omega) (by omega)])⟩
          · have lt : ∀ x, x < P → xp R x < z.1 := fun x hx => by have := (r6 x hx).2.1.2.2; omega
            by_cases e : p = P
            · by_cases e' : p' = P
              · omega
              · subst e; rw [exn, ex p' (by omega)] at c; have := lt p' (by omega); omega
            · by_cases e' : p' = P
              · subst e'; rw [exn, ex p (by omega)] at c; have := lt p (by omega); omega
              · rw [ex p (by omega), ex p' (by omega)] at c; exact r7 p p' (by omega) (by omega) c
        · exact qHor_e hor (Nat.le_succ i) (by rw [eV0, if_neg (by decide)]) (by rw [v263, if_neg (by decide)]) (fun b b1 b2 => v2o b (by omega) (by omega) (by omega) (by omega) (by omega) (by omega)) (fun j _ => by rw [v2o 61 (by omega) (by decide) (by omega) (by decide) (by decide) (by decide)]) (fun j _ => by rw [v2o 62 (by omega) (by decide) (by omega) (by decide) (by decide) (by decide)]) (by rw [v2o 55 (by omega) (by decide) (by omega) (by decide) (by decide) (by decide)]; exact hor.2.2.2.2.2.2.2.2)
    · have cls := clsOf V (qd_01 g1) (by omega)
      rw [if_pos (by omega), if_neg (by omega)] at cls
      rw [decide_eq_true c1, decide_eq_false c2, bL_isHide_469 (by first | omega | exact xB_in _ | exact xB_01 _ | exact iAnd_in | exact iShr_in | (simp only [Int.toNat_natCast]; omega) | decide), if_neg (by first | omega | decide), bL_isHide_476 (by first | omega | exact xB_in _ | exact xB_01 _ | exact iAnd_in | exact iShr_in | (simp only [Int.toNat_natCast]; omega) | decide), if_pos (by first | omega | decide), bL_isHide_504, bL_isHide_505 (by first | omega | exact xB_in _ | exact xB_01 _ | exact iAnd_in | exact iShr_in | (simp only [Int.toNat_natCast]; omega) | decide), if_pos (by first | omega | decide)]
      exact bad true false false 8 (by decide) (by rw [if_neg (by decide), if_pos rfl]; rfl) rfl cls _
  · have cls : X sc 9 52 [.ref 0, xw hd, xw co, xw ro, xw al, xw wi, xw (xB st)] (T, z, xv V, J, R) = xTw 10 T z V J R := by
      by_cases ch : hd < H
      · obtain ⟨a, ea, ha, g1⟩ := qd_y hH ch
        have g2 := g1.2.2.1
        have cls := s_cut (sc := sc) (d := 1) (z := z) (V := V) (J := J) (x := (hd : Int)) (c := (co : Int)) (r := (ro : Int)) (al := (al : Int)) (wi := (wi : Int)) (st := xB st) hT (by omega) (by omega) (by rw [Int.toNat_natCast]; exact ha) g1.1 ⟨by omega, g2⟩ (qd_01 g1) (by omega) (by omega) (by omega) (by omega) (xB_01 st) (by omega)
        rw [if_neg (by omega)] at cls
        exact cls
      · exact s_cut_x (sc := sc) (d := 1) hT (by omega) (qd_no hH (by omega))
    rw [decide_eq_false c1, bL_isHide_469 (by first | omega | exact xB_in _ | exact xB_01 _ | exact iAnd_in | exact iShr_in | (simp only [Int.toNat_natCast]; omega) | decide), if_pos (by first | omega | decide), bL_isHide_504, bL_isHide_505 (by first | omega | exact xB_in _ | exact xB_01 _ | exact iAnd_in | exact iShr_in | (simp only [Int.toNat_natCast]; omega) | decide), if_pos (by first | omega | decide)]
    exact bad false _ false 10 (by decide) (by rw [if_pos rfl]; rfl) rfl cls _
end P13
