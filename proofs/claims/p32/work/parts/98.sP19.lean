/-! the property's law: pulls are done -/
section P19
variable {sc : xS} {d : Nat} {T : Nat → Nat × Nat} {z : Nat × Nat} {V : Nat → Nat → Int} {J : Nat → Nat → Int64} {R : Nat → Nat → Option Nat}
theorem pull_end {right can : Bool} {fr n c vb vc : Int} {o0 o1 o2 o3 o4 o5 o6 o7 o8 o9 o10 o11 o12 o14 o15 o17 o20 o21 : Option Value} (hb : vb = xB right) (hcn : vc = xB can) (hf : -1 ≤ fr ∧ fr ≤ 3) (hn : 0 ≤ n ∧ n ≤ 40) (hc : c = if fr < 0 then (-3000000 : Int) else if right = false then -2000000 else if can = false then -1000000 else n) :
    XR sc d 107 1008 [o0, o1, o2, o3, o4, o5, o6, o7, o8, o9, o10, o11, o12, some (xw fr), o14, o15, some (xw vb), o17, some (xw vc), some (xw n), o20, o21] [xw c] (T, z, xv V, J, R) = some (.inl (some (xw 1)), (T, z, xv V, J, R)) := by
  subst hb hcn
  by_cases c1 : fr < 0
  · rw [if_pos c1] at hc; subst hc; rw [bL_isPart_1008 (by first | omega | exact xB_in _ | exact xB_01 _ | exact iAnd_in | exact iShr_in | (simp only [Int.toNat_natCast]; omega) | decide), if_neg (by first | omega | decide), bL_isPart_1013, bL_isPart_1040 (by first | omega | exact xB_in _ | exact xB_01 _ | exact iAnd_in | exact iShr_in | (simp only [Int.toNat_natCast]; omega) | decide) (by first | omega | exact xB_in _ | exact xB_01 _ | exact iAnd_in | exact iShr_in | (simp only [Int.toNat_natCast]; omega) | decide), if_pos (by first | omega | decide), bL_isPart_1043, bL_isPart_1048 (by first | omega | exact xB_in _ | exact xB_01 _ | exact iAnd_in | exact iShr_in | (simp only [Int.toNat_natCast]; omega) | decide)]
  · rw [if_neg c1] at hc
    cases right with
    | false => rw [if_pos rfl] at hc; subst hc; rw [bL_isPart_1008 (by first | omega | exact xB_in _ | exact xB_01 _ | exact iAnd_in | exact iShr_in | (simp only [Int.toNat_natCast]; omega) | decide), if_pos (by first | omega | decide), bL_isPart_1018 (by first | omega | exact xB_in _ | exact xB_01 _ | exact iAnd_in | exact iShr_in | (simp only [Int.toNat_natCast]; omega) | decide), if_pos (by first | omega | decide), bL_isPart_1023, bL_isPart_1040 (by first | omega | exact xB_in _ | exact xB_01 _ | exact iAnd_in | exact iShr_in | (simp only [Int.toNat_natCast]; omega) | decide) (by first | omega | exact xB_in _ | exact xB_01 _ | exact iAnd_in | exact iShr_in | (simp only [Int.toNat_natCast]; omega) | decide), if_pos (by first | omega | decide), bL_isPart_1043, bL_isPart_1048 (by first | omega | exact xB_in _ | exact xB_01 _ | exact iAnd_in | exact iShr_in | (simp only [Int.toNat_natCast]; omega) | decide)]
    | true =>
      rw [if_neg (by decide)] at hc
      cases can with
      | false => rw [if_pos rfl] at hc; subst hc; rw [bL_isPart_1008 (by first | omega | exact xB_in _ | exact xB_01 _ | exact iAnd_in | exact iShr_in | (simp only [Int.toNat_natCast]; omega) | decide), if_pos (by first | omega | decide), bL_isPart_1018 (by first | omega | exact xB_in _ | exact xB_01 _ | exact iAnd_in | exact iShr_in | (simp only [Int.toNat_natCast]; omega) | decide), if_neg (by first | omega | decide), bL_isPart_1028 (by first | omega | exact xB_in _ | exact xB_01 _ | exact iAnd_in | exact iShr_in | (simp only [Int.toNat_natCast]; omega) | decide), if_pos (by first | omega | decide), bL_isPart_1038, bL_isPart_1040 (by first | omega | exact xB_in _ | exact xB_01 _ | exact iAnd_in | exact iShr_in | (simp only [Int.toNat_natCast]; omega) | decide) (by first | omega | exact xB_in _ | exact xB_01 _ | exact iAnd_in | exact iShr_in | (simp only [Int.toNat_natCast]; omega) | decide), if_pos (by first | omega | decide), bL_isPart_1043, bL_isPart_1048 (by first | omega | exact xB_in _ | exact xB_01 _ | exact iAnd_in | exact iShr_in | (simp only [Int.toNat_natCast]; omega) | decide)]
      | true => rw [if_neg (by decide)] at hc; subst hc; rw [bL_isPart_1008 (by first | omega | exact xB_in _ | exact xB_01 _ | exact iAnd_in | exact iShr_in | (simp only [Int.toNat_natCast]; omega) | decide), if_pos (by first | omega | decide), bL_isPart_1018 (by first | omega | exact xB_in _ | exact xB_01 _ | exact iAnd_in | exact iShr_in | (simp only [Int.toNat_natCast]; omega) | decide), if_neg (by first | omega | decide), bL_isPart_1028 (by first | omega | exact xB_in _ | exact xB_01 _ | exact iAnd_in | exact iShr_in | (simp only [Int.toNat_natCast]; omega) | decide), if_neg (by first | omega | decide), bL_isPart_1033, bL_isPart_1040 (by first | omega | exact xB_in _ | exact xB_01 _ | exact iAnd_in | exact iShr_in | (simp only [Int.toNat_natCast]; omega) | decide) (by first | omega | exact xB_in _ | exact xB_01 _ | exact iAnd_in | exact iShr_in | (simp only [Int.toNat_natCast]; omega) | decide), if_pos (by first | omega | decide), bL_isPart_1043, bL_isPart_1048 (by first | omega | exact xB_in _ | exact xB_01 _ | exact iAnd_in | exact iShr_in | (simp only [Int.toNat_natCast]; omega) | decide)]
theorem pull_start {one two : Int} {o0 o1 o2 o3 o4 o5 o6 o9 o10 o11 o12 : Option Value} (h1 : 0 ≤ one ∧ one < 60000) (h2 : 0 ≤ two ∧ two < 60000) :
    ∃ fr to g : Int, (-1 ≤ fr ∧ fr ≤ 3) ∧ (0 ≤ to ∧ to ≤ 3) ∧ (0 ≤ g ∧ g ≤ 10000) ∧ XR sc d 107 838 [o0, o1, o2, o3, o4, o5, o6, some (xw one), some (xw two), o9, o10, o11, o12, none, none, none, none, none, none, none, none, none] [] (T, z, xv V, J, R) =
      XR sc d 107 925 [o0, o1, o2, o3, o4, o5, o6, some (xw one), some (xw two), o9, o10, o11, o12, some (xw fr), some (xw to), some (xw g), none, none, none, none, none, none] [xw (xB (decide (¬ fr = to ∧ 1 ≤ g ∧ g ≤ 9999)))] (T, z, xv V, J, R) := by
  obtain ⟨to, eto⟩ : ∃ x : Int, two % 4 = x := ⟨_, rfl⟩
  have hto : 0 ≤ to ∧ to ≤ 3 := by omega
  have fin : ∀ fr g : Int, (-1 ≤ fr ∧ fr ≤ 3) → (0 ≤ g ∧ g ≤ 10000) → XR sc d 107 898 [o0, o1, o2, o3, o4, o5, o6, some (xw one), some (xw two), o9, o10, o11, o12, some (xw fr), some (xw to), none, none, none, none, none, none, none] [xw g] (T, z, xv V, J, R) =
      XR sc d 107 925 [o0, o1, o2, o3, o4, o5, o6, some (xw one), some (xw two), o9, o10, o11, o12, some (xw fr), some (xw to), some (xw g), none, none, none, none, none, none] [xw (xB (decide (¬ fr = to ∧ 1 ≤ g ∧ g ≤ 9999)))] (T, z, xv V, J, R) := by
    intro fr g hf hg
    by_cases c1 : fr = to
    · rw [decide_eq_false (show ¬ (¬ fr = to ∧ 1 ≤ g ∧ g ≤ 9999) from fun q => q.1 c1), bL_isPart_898 (by first | omega | exact xB_in _ | exact xB_01 _ | exact iAnd_in | exact iShr_in | (simp only [Int.toNat_natCast]; omega) | decide) (by first | omega | exact xB_in _ | exact xB_01 _ | exact iAnd_in | exact iShr_in | (simp only [Int.toNat_natCast]; omega) | decide), if_pos (by first | omega | decide), bL_isPart_924]; rfl
    · by_cases c2 : g ≤ 0
      · rw [decide_eq_false (show ¬ (¬ fr = to ∧ 1 ≤ g ∧ g ≤ 9999) by omega), bL_isPart_898 (by first | omega | exact xB_in _ | exact xB_01 _ | exact iAnd_in | exact iShr_in | (simp only [Int.toNat_natCast]; omega) | decide) (by first | omega | exact xB_in _ | exact xB_01 _ | exact iAnd_in | exact iShr_in | (simp only [Int.toNat_natCast]; omega) | decide), if_neg (by first | omega | decide), bL_isPart_907 (by first | omega | exact xB_in _ | exact xB_01 _ | exact iAnd_in | exact iShr_in | (simp only [Int.toNat_natCast]; omega) | decide), if_pos (by first | omega | decide), bL_isPart_924]; rfl
      · by_cases c3 : 10000 ≤ g
        · rw [decide_eq_false (show ¬ (¬ fr = to ∧ 1 ≤ g ∧ g ≤ 9999) by omega), bL_isPart_898 (by first | omega | exact xB_in _ | exact xB_01 _ | exact iAnd_in | exact iShr_in | (simp only [Int.toNat_natCast]; omega) | decide) (by first | omega | exact xB_in _ | exact xB_01 _ | exact iAnd_in | exact iShr_in | (simp only [Int.toNat_natCast]; omega) | decide), if_neg (by first | omega | decide), bL_isPart_907 (by first | omega | exact xB_in _ | exact xB_01 _ | exact iAnd_in | exact iShr_in | (simp only [Int.toNat_natCast]; omega) | decide), if_neg (by first | omega | decide), bL_isPart_912 (by first | omega | exact xB_in _ | exact xB_01 _ | exact iAnd_in | exact iShr_in | (simp only [Int.toNat_natCast]; omega) | decide), if_pos (by first | omega | decide), bL_isPart_924]; rfl
        · rw [decide_eq_true (show ¬ fr = to ∧ 1 ≤ g ∧ g ≤ 9999 by omega), bL_isPart_898 (by first | omega | exact xB_in _ | exact xB_01 _ | exact iAnd_in | exact iShr_in | (simp only [Int.toNat_natCast]; omega) | decide) (by first | omega | exact xB_in _ | exact xB_01 _ | exact iAnd_in | exact iShr_in | (simp only [Int.toNat_natCast]; omega) | decide), if_neg (by first | omega | decide), bL_isPart_907 (by first | omega | exact xB_in _ | exact xB_01 _ | exact iAnd_in | exact iShr_in | (simp only [Int.toNat_natCast]; omega) | decide), if_neg (by first | omega | decide), bL_isPart_912 (by first | omega | exact xB_in _ | exact xB_01 _ | exact iAnd_in | exact iShr_in | (simp only [Int.toNat_natCast]; omega) | decide), if_neg (by first | omega | decide), bL_isPart_920]; rfl
  have mid : ∀ fr : Int, (-1 ≤ fr ∧ fr ≤ 3) → ∃ g : Int, (0 ≤ g ∧ g ≤ 10000) ∧ XR sc d 107 856 [o0, o1, o2, o3, o4, o5, o6, some (xw one), some (xw two), o9, o10, o11, o12, none, none, none, none, none, none, none, none, none] [xw fr] (T, z, xv V, J, R) =
      XR sc d 107 925 [o0, o1, o2, o3, o4, o5, o6, some (xw one), some (xw two), o9, o10, o11, o12, some (xw fr), some (xw to), some (xw g), none, none, none, none, none, none] [xw (xB (decide (¬ fr = to ∧ 1 ≤ g ∧ g ≤ 9999)))] (T, z, xv V, J, R) := by
    intro fr hf
    by_cases c : two / 4 % 9 = 0
    · refine ⟨two / 36 % 2 * 10000, by omega, ?_⟩
      rw [bL_isPart_856 (by first | omega | exact xB_in _ | exact xB_01 _ | exact iAnd_in | exact iShr_in | (simp only [Int.toNat_natCast]; omega) | decide) (by first | omega | exact xB_in _ | exact xB_01 _ | exact iAnd_in | exact iShr_in | (simp only [Int.toNat_natCast]; omega) | decide) (by first | omega | exact xB_in _ | exact xB_01 _ | exact iAnd_in | exact iShr_in | (simp only [Int.toNat_natCast]; omega) | decide), if_pos (by first | omega | decide), eto, bL_isPart_874 (by first | omega | exact xB_in _ | exact xB_01 _ | exact iAnd_in | exact iShr_in | (simp only [Int.toNat_natCast]; omega) | decide) (by first | omega | exact xB_in _ | exact xB_01 _ | exact iAnd_in | exact iShr_in | (simp only [Int.toNat_natCast]; omega) | decide), fin fr _ hf (by omega)]
    · refine ⟨1 + two / 4 % 500, by omega, ?_⟩
      rw [bL_isPart_856 (by first | omega | exact xB_in _ | exact xB_01 _ | exact iAnd_in | exact iShr_in | (simp only [Int.toNat_natCast]; omega) | decide) (by first | omega | exact xB_in _ | exact xB_01 _ | exact iAnd_in | exact iShr_in | (simp only [Int.toNat_natCast]; omega) | decide) (by first | omega | exact xB_in _ | exact xB_01 _ | exact iAnd_in | exact iShr_in | (simp only [Int.toNat_natCast]; omega) | decide), if_neg (by first | omega | decide), eto, bL_isPart_888 (by first | omega | exact xB_in _ | exact xB_01 _ | exact iAnd_in | exact iShr_in | (simp only [Int.toNat_natCast]; omega) | decide) (by first | omega | exact xB_in _ | exact xB_01 _ | exact iAnd_in | exact iShr_in | (simp only [Int.toNat_natCast]; omega) | decide), fin fr _ hf (by omega)]
  by_cases c : one % 17 = 16
  · obtain ⟨g, q1, q2⟩ := mid (-1) (by decide)
    exact ⟨-1, to, g, by decide, hto, q1, by rw [bL_isPart_838 (by first | omega | exact xB_in _ | exact xB_01 _ | exact iAnd_in | exact iShr_in | (simp only [Int.toNat_natCast]; omega) | decide) (by first | omega | exact xB_in _ | exact xB_01 _ | exact iAnd_in | exact iShr_in | (simp only [Int.toNat_natCast]; omega) | decide), if_pos (by first | omega | decide), bL_isPart_848, q2]⟩
  · obtain ⟨g, q1, q2⟩ := mid (one % 4) (by omega)
    exact ⟨one % 4, to, g, by omega, hto, q1, by rw [bL_isPart_838 (by first | omega | exact xB_in _ | exact xB_01 _ | exact iAnd_in | exact iShr_in | (simp only [Int.toNat_natCast]; omega) | decide) (by first | omega | exact xB_in _ | exact xB_01 _ | exact iAnd_in | exact iShr_in | (simp only [Int.toNat_natCast]; omega) | decide), if_neg (by first | omega | decide), bL_isPart_852 (by first | omega | exact xB_in _ | exact xB_01 _ | exact iAnd_in | exact iShr_in | (simp only [Int.toNat_natCast]; omega) | decide), q2]⟩
/-- pull -/
theorem t_pull {i : Nat} {one two : Int} (hI : qInv i T z V R) (hi : i ≤ 63) (h1 : 0 ≤ one ∧ one < 60000) (h2 : 0 ≤ two ∧ two < 60000) : qDone (X sc 11 107 [.ref 0, .ref 57, .ref 58, .ref 59, .ref 60, .ref 63, xw 4, xw one, xw two] (T, z, xv V, J, R)) i z := by
  obtain ⟨hT, hRo, hHs, hSs, hSe, hA⟩ := hI.1
  have hz := hI.2.1
  obtain ⟨P0, hP0⟩ := hI.2.2.2.1
  obtain ⟨p, its, a1, a2, a0, a3⟩ := pt_start (sc := sc) (d := 10) (T := T) (z := z) (V := V) (J := J) (R := R) (what := 4) (two := two) hA ⟨hP0.1.1, hP0.1.2.2⟩ (qp_b hP0) h1
  obtain ⟨fr, to, g, s1, s2, s3, s4⟩ := pull_start (sc := sc) (d := 10) (T := T) (z := z) (V := V) (J := J) (R := R) (one := one) (two := two) (o0 := some (.ref 0)) (o1 := some (.ref 57)) (o2 := some (.ref 58)) (o3 := some (.ref 59)) (o4 := some (.ref 60)) (o5 := some (.ref 63)) (o6 := some (xw 4)) (o9 := some (xw p)) (o10 := some (xw (xB (decide (p < P0))))) (o11 := some (xw its)) (o12 := some (xw (xB (decide (p < P0 ∧ V 60 p = 0 ∧ its < 524288))))) h1 h2
  rw [a3, bL_isPart_67 (by first | omega | exact xB_in _ | exact xB_01 _ | exact iAnd_in | exact iShr_in | (simp only [Int.toNat_natCast]; omega) | decide), if_neg (by first | omega | decide), bL_isPart_245 (by first | omega | exact xB_in _ | exact xB_01 _ | exact iAnd_in | exact iShr_in | (simp only [Int.toNat_natCast]; omega) | decide), if_neg (by first | omega | decide), bL_isPart_444 (by first | omega | exact xB_in _ | exact xB_01 _ | exact iAnd_in | exact iShr_in | (simp only [Int.toNat_natCast]; omega) | decide), if_neg (by first | omega | decide), bL_isPart_725 (by first | omega | exact xB_in _ | exact xB_01 _ | exact iAnd_in | exact iShr_in | (simp only [Int.toNat_natCast]; omega) | decide), if_neg (by first | omega | decide), bL_isPart_832 (by first | omega | exact xB_in _ | exact xB_01 _ | exact iAnd_in | exact iShr_in | (simp only [Int.toNat_natCast]; omega) | decide), if_pos (by first | omega | decide), s4, bL_isPart_925 (by omega)]
  clear a3 s4 a2
  have kW := qInv_k hI (Nat.le_refl i) (qKeep_w (V := V) (T := T) (R := R) hz)
  have eTw : va_up T z.1 (32, 9) z.1 = (32, 9) := va_same
  generalize (some (xw (xB (decide (p < P0))))) = o10
  generalize (some (xw (xB (decide (p < P0 ∧ V 60 p = 0 ∧ its < 524288))))) = o12
  clear hP0
  revert kW eTw
  generalize va_up T z.1 (32, 9) = T1
  generalize va_up V z.1 (fun _ => 0) = V1
  generalize va_up J z.1 (fun _ => 0) = J1
  generalize va_up R z.1 (fun _ => none) = R1
  intro kW eTw
  obtain ⟨hT1, hRo1, _, _, _, hA1⟩ := kW.1
  obtain ⟨P, hP⟩ := kW.2.2.2.1
  have hPp := qp_xPq hP (by omega)
  -- refused
  have bad : ∀ (T2 : Nat → Nat × Nat) (z2 : Nat × Nat) (V2 : Nat → Nat → Int) (J2 : Nat → Nat → Int64) (R2 : Nat → Nat → Option Nat) (W : Nat → Nat → Int) (e : Nat) (right can : Bool), qInv i T2 z2 V2 R2 → z2.1 ≤ z.1 + 4 → z2.2 ≤ z.2 + 36 → (e = 8 ∨ e = 9 ∨ e = 10) → (∀ b, ¬ (3 ≤ b ∧ b ≤ 8) → ¬ b = 54 → W b = V2 b) → X sc 9 62 [.ref 0, xw fr, xw to, xw g] (T2, z2, xv V2, J2, R2) = xTw e T2 z2 W J2 R2 → can = false → pK e = (if fr < 0 then (-3000000 : Int) else if right = false then -2000000 else if can = false then -1000000 else 0) →
      ∀ o17 : Option Value, qDone (XR sc 10 107 963 [some (.ref 0), some (.ref 57), some (.ref 58), some (.ref 59), some (.ref 60), some (.ref 63), some (xw 4), some (xw one), some (xw two), some (xw p), o10, some (xw its), o12, some (xw fr), some (xw to), some (xw g), some (xw (xB right)), o17, none, none, none, none] [] (T2, z2, xv V2, J2, R2)) i z := by
    intro T2 z2 V2 J2 R2 W e right can hI2 y1 y2 he hW cls hcan hpk o17
    subst hcan
    rw [bL_isPart_963, bL_isPart_964 (by first | omega | exact xB_in _ | exact xB_01 _ | exact iAnd_in | exact iShr_in | (simp only [Int.toNat_natCast]; omega) | decide), if_pos (by first | omega | decide), bL_isPart_990, bL_isPart_991, dx_pull hI2.1.1.1 he cls, xret_v, pull_end (right := right) (vb := xB right) (can := false) (vc := 0) (n := 0) rfl rfl s1 (by decide) hpk]
    refine ⟨_, _, _, _, _, rfl, qInv_k hI2 (Nat.le_succ i) (qKeep_x hI2.2.1 hW), ?_, ?_⟩
    · show z2.1 + 1 ≤ _; omega
    · show z2.2 + 6 ≤ _; omega
  have cls0 := s_pull (sc := sc) (d := 0) (T := T1) (z := (z.1 + 1, z.2 + 9)) (V := V1) (J := J1) (R := R1) (f := fr) (t := to) (g := g) (n := P) hT1 hRo1 hPp (by omega) (by omega) (by omega)
  by_cases c1 : fr < 0
  · rw [if_neg (by omega)] at cls0
    rw [if_pos c1]
    exact bad T1 (z.1 + 1, z.2 + 9) V1 J1 R1 V1 10 (decide (¬ fr = to ∧ 1 ≤ g ∧ g ≤ 9999)) false kW (by show z.1 + 1 ≤ _; omega) (by show z.2 + 9 ≤ _; omega) (by decide) (fun _ _ _ => rfl) cls0 rfl (by rw [if_pos c1]; rfl) _
  · rw [if_neg c1]
    by_cases c2 : ¬ fr = to ∧ 1 ≤ g ∧ g ≤ 9999
    · obtain ⟨f, rfl⟩ : ∃ m : Nat, fr = m := ⟨fr.toNat, by omega⟩
      obtain ⟨t, rfl⟩ : ∃ m : Nat, to = m := ⟨to.toNat, by omega⟩
      have f8 : f < 8 := by omega
      have t8 : t < 8 := by omega
      have nft : ¬ f = t := fun e => c2.1 (by rw [e])
      have hM := qp_mo hP
      obtain ⟨T2, V2, J2, R2, f1, f2, f3⟩ := l_finds (sc := sc) (d := 8) (T := T1) (z := (z.1 + 1, z.2 + 9)) (V := V1) (J := J1) (R := R1) (wy := z.1) (F := pDs V1 P t) hA1 hM (pDs_ok t8) t8 f8 eTw ⟨hz, Nat.lt_succ_self _⟩
      have kF : qInv i T2 (z.1 + 1 + 3, z.2 + 9 + 9 + 9 + 9) V2 R2 := qInv_k kW (Nat.le_refl i) (qKeep_f (z := (z.1 + 1, z.2 + 9)) kW.2.1 eTw hz f2)
      have e60 : V2 60 = V1 60 := (f2 60 (by show 60 < z.1 + 1; omega)).2.2.2 (by omega)
      have e63 : V2 63 = V1 63 := (f2 63 (by show 63 < z.1 + 1; omega)).2.2.2 (by omega)
      have eD : pDs V2 P t = pDs V1 P t := by unfold pDs; rw [(pO_e e60).1, (pO_e e60).2.1, (pO_e e60).2.2]
      obtain ⟨P2, hP2⟩ := kF.2.2.2.1
      have eP : P2 = P := by
        have h3 := hP2.1.2.2
        rw [e63, hP.1.2.2] at h3
        omega
      rw [eP] at hP2
      rw [decide_eq_true c2, bL_isPart_938 (by decide), if_neg (by decide), bL_isPart_943, f1, xret_v, bL_isPart_956 (xB_in _)]
      by_cases c3 : pDs V1 P t f < 1000000
      · rw [decide_eq_true c3, if_neg (by decide), bL_isPart_959, bL_isPart_964 (by first | omega | exact xB_in _ | exact xB_01 _ | exact iAnd_in | exact iShr_in | (simp only [Int.toNat_natCast]; omega) | decide), if_neg (by first | omega | decide), bL_isPart_971]
        obtain ⟨T3, z3, V3, J3, R3, n, V4, k1, ⟨k2, k2b⟩, k3, k4, k5, k6⟩ := pull_core (sc := sc) (J := J2) kF hi hP2 f8 t8 nft c2.2 (by rw [eD]; exact c3)
        have k2 : z3.1 ≤ z.1 + 1 + 3 + 124 := k2
        have k2b : z3.2 ≤ z.2 + 9 + 9 + 9 + 9 + 1200 := k2b
        rw [k1, xret_v, bL_isPart_987, bL_isPart_991, dv_pull k4 k5, xret_v, pull_end (right := true) (vb := xB true) (can := true) (vc := 1) rfl rfl s1 k3 (by rw [if_neg c1, if_neg (by decide), if_neg (by decide)])]
        exact ⟨_, _, _, _, _, rfl, k6, by omega, by omega⟩
      · rw [decide_eq_false c3, if_pos (show xB false = 0 from rfl)]
        obtain ⟨hT2, hRo2, _, _, _, _⟩ := kF.1
        have hPp2 := qp_xPq hP2 (by omega)
        have cls := s_pull (sc := sc) (d := 0) (T := T2) (z := (z.1 + 1 + 3, z.2 + 9 + 9 + 9 + 9)) (V := V2) (J := J2) (R := R2) (f := (f : Int)) (t := (t : Int)) (g := g) (n := P) hT2 hRo2 hPp2 (by omega) (by omega) (by omega)
        have hr := look_ok hRo2 hPp2 (qp_aCl hP2) t8 f8 (pDs_ok (V := V2) (n := P) t8)
        have r1 := hr.1
        rw [eD, if_neg c3] at r1
        rw [if_pos (by omega), if_pos c2, Int.toNat_natCast, Int.toNat_natCast, if_pos (by omega)] at cls
        exact bad T2 (z.1 + 1 + 3, z.2 + 9 + 9 + 9 + 9) V2 J2 R2 (xLk R2 V2 f t) 9 true false kF (by show z.1 + 1 + 3 ≤ _; omega) (by show z.2 + 9 + 9 + 9 + 9 ≤ _; omega) (by decide) (fun b b1 _ => xLk_ne (by omega)) cls rfl (by rw [if_neg c1, if_neg (by decide), if_pos rfl]; rfl) _
    · rw [if_pos (by omega), if_neg c2] at cls0
      rw [decide_eq_false c2, bL_isPart_938 (by decide), if_pos (show xB false = 0 from rfl)]
      exact bad T1 (z.1 + 1, z.2 + 9) V1 J1 R1 V1 8 false false kW (by show z.1 + 1 ≤ _; omega) (by show z.2 + 9 ≤ _; omega) (by decide) (fun _ _ _ => rfl) cls0 rfl (by rw [if_neg c1, if_pos rfl]; rfl) _
/-- a part, whatever is done -/
theorem l_isPart {i : Nat} {what one two : Int} (hI : qInv i T z V R) (hi : i ≤ 63) (hw : 0 ≤ what ∧ what ≤ 6) (h1 : 0 ≤ one ∧ one < 60000) (h2 : 0 ≤ two ∧ two < 60000) : qDone (X sc 11 107 [.ref 0, .ref 57, .ref 58, .ref 59, .ref 60, .ref 63, xw what, xw one, xw two] (T, z, xv V, J, R)) i z := by
  rcases (show what = 0 ∨ what = 1 ∨ what = 2 ∨ what = 3 ∨ what = 4 ∨ what = 5 ∨ what = 6 by omega) with rfl | rfl | rfl | rfl | rfl | rfl | rfl
  · exact t_skive hI hi h1 h2
  · exact t_pierce hI hi h1 h2
  · exact t_buckle hI hi h1 h2
  · exact t_unbuckle hI hi h1 h2
  · exact t_pull hI hi h1 h2
  · exact t_oil hI hi h1 h2
  · exact t_sew hI hi h1 h2
theorem l_isHide {i : Nat} {what one two : Int} (hI : qInv i T z V R) (hw : 0 ≤ what ∧ what ≤ 3) (h1 : 0 ≤ one ∧ one < 60000) (h2 : 0 ≤ two ∧ two < 60000) : qDone (X sc 11 106 [.ref 0, .ref 56, .ref 57, .ref 58, .ref 59, .ref 60, .ref 63, xw what, xw one, xw two] (T, z, xv V, J, R)) i z := by
  rcases (show what = 0 ∨ what = 1 ∨ what = 2 ∨ what = 3 by omega) with rfl | rfl | rfl | rfl
  · by_cases c : V 63 0 < 2
    · exact h_hide hI c h1
    · exact h_fault hI (Or.inr ⟨rfl, by omega⟩) h1 h2
  · exact h_fault hI (Or.inl rfl) h1 h2
  · exact h_cut hI h1 h2
  · exact h_find hI h1 h2
end P19
