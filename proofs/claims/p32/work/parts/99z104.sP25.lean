/-! the property's law: its steps -/
theorem qDone_t {x : xR} {i : Nat} {z : Nat × Nat} (h : qDone x i z) : ∃ (T' : Nat → Nat × Nat) (z' : Nat × Nat) (V' : Nat → Nat → Int) (J' : Nat → Nat → Int64) (R' : Nat → Nat → Option Nat), x = some (.inl (some (xw 1)), (T', z', xv V', J', R')) ∧ qInv (i + 1) T' z' V' R' ∧ z'.1 ≤ z.1 + 200 ∧ z'.2 ≤ z.2 + 2000 := h
section P25
variable {sc : xS} {d : Nat} {T : Nat → Nat × Nat} {z : Nat × Nat} {V : Nat → Nat → Int} {J : Nat → Nat → Int64} {R : Nat → Nat → Option Nat}
theorem l_isRidden {i : Nat} {what one two : Int} (hI : qInv i T z V R) (hi : i ≤ 63) (hw : 0 ≤ what ∧ what ≤ 4) (h14 : what = 3 → 14 ≤ i) (h1 : 0 ≤ one ∧ one < 60000) (h2 : 0 ≤ two ∧ two < 60000) : qDone (X sc 11 108 [.ref 0, .ref 61, .ref 62, .ref 63, xw what, xw one, xw two] (T, z, xv V, J, R)) i z := by
  rcases (show what = 0 ∨ what = 1 ∨ what = 2 ∨ what = 3 ∨ what = 4 by omega) with rfl | rfl | rfl | rfl | rfl
  · exact r_back hI h1 h2
  · exact r_tree hI h1 h2
  · exact r_flock hI h1 h2
  · exact r_ride hI h1 h2 ⟨h14 rfl, hi⟩
  · exact r_rest hI h1 h2 hi
theorem law_what {i : Nat} {o12 o13 o14 : Option Value} (hi : i ≤ 63) (hc : sc.1 ≤ 3584) : ∃ what : Int, (0 ≤ what ∧ what < 52) ∧ (46 ≤ what → 14 ≤ i) ∧ XR sc 11 109 187 [some (.retAddr 0), some (.ref 0), some (.ref 56), some (.ref 57), some (.ref 58), some (.ref 59), some (.ref 60), some (.ref 61), some (.ref 62), some (.ref 63), some (xw 1), some (xw i), o12, o13, o14] [] (T, z, xv V, J, R) = XR sc 11 109 242 [some (.retAddr 0), some (.ref 0), some (.ref 56), some (.ref 57), some (.ref 58), some (.ref 59), some (.ref 60), some (.ref 61), some (.ref 62), some (.ref 63), some (xw 1), some (xw i), o12, o13, o14] [xw what] (T, z, xv V, J, R) := by
  by_cases c1 : i < 2
  · exact ⟨0, by decide, by omega, by rw [bL_law_187 (by first | omega | exact xB_in _ | exact xB_01 _ | exact iAnd_in | exact iShr_in | (simp only [Int.toNat_natCast]; omega) | decide), if_neg (by first | omega | decide), bL_law_193]⟩
  by_cases c2 : i < 8
  · exact ⟨3, by decide, by omega, by rw [bL_law_187 (by first | omega | exact xB_in _ | exact xB_01 _ | exact iAnd_in | exact iShr_in | (simp only [Int.toNat_natCast]; omega) | decide), if_pos (by first | omega | decide), bL_law_197 (by first | omega | exact xB_in _ | exact xB_01 _ | exact iAnd_in | exact iShr_in | (simp only [Int.toNat_natCast]; omega) | decide), if_neg (by first | omega | decide), bL_law_204]⟩
  by_cases c3 : i < 12
  · exact ⟨16, by decide, by omega, by rw [bL_law_187 (by first | omega | exact xB_in _ | exact xB_01 _ | exact iAnd_in | exact iShr_in | (simp only [Int.toNat_natCast]; omega) | decide), if_pos (by first | omega | decide), bL_law_197 (by first | omega | exact xB_in _ | exact xB_01 _ | exact iAnd_in | exact iShr_in | (simp only [Int.toNat_natCast]; omega) | decide), if_pos (by first | omega | decide), bL_law_208 (by first | omega | exact xB_in _ | exact xB_01 _ | exact iAnd_in | exact iShr_in | (simp only [Int.toNat_natCast]; omega) | decide), if_neg (by first | omega | decide), bL_law_215]⟩
  by_cases c4 : i < 14
  · exact ⟨24, by decide, by omega, by rw [bL_law_187 (by first | omega | exact xB_in _ | exact xB_01 _ | exact iAnd_in | exact iShr_in | (simp only [Int.toNat_natCast]; omega) | decide), if_pos (by first | omega | decide), bL_law_197 (by first | omega | exact xB_in _ | exact xB_01 _ | exact iAnd_in | exact iShr_in | (simp only [Int.toNat_natCast]; omega) | decide), if_pos (by first | omega | decide), bL_law_208 (by first | omega | exact xB_in _ | exact xB_01 _ | exact iAnd_in | exact iShr_in | (simp only [Int.toNat_natCast]; omega) | decide), if_pos (by first | omega | decide), bL_law_220 (by first | omega | exact xB_in _ | exact xB_01 _ | exact iAnd_in | exact iShr_in | (simp only [Int.toNat_natCast]; omega) | decide), if_neg (by first | omega | decide), bL_law_227]⟩
  obtain ⟨r, r1, r2, r3⟩ := l_part (sc := sc) (d := 10) (T := T) (z := z) (V := V) (J := J) (R := R) (k := 3 * (i : Int)) (n := 52) (by omega) (by decide) hc
  exact ⟨r, ⟨r1, r2⟩, by omega, by rw [bL_law_187 (by first | omega | exact xB_in _ | exact xB_01 _ | exact iAnd_in | exact iShr_in | (simp only [Int.toNat_natCast]; omega) | decide), if_pos (by first | omega | decide), bL_law_197 (by first | omega | exact xB_in _ | exact xB_01 _ | exact iAnd_in | exact iShr_in | (simp only [Int.toNat_natCast]; omega) | decide), if_pos (by first | omega | decide), bL_law_208 (by first | omega | exact xB_in _ | exact xB_01 _ | exact iAnd_in | exact iShr_in | (simp only [Int.toNat_natCast]; omega) | decide), if_pos (by first | omega | decide), bL_law_220 (by first | omega | exact xB_in _ | exact xB_01 _ | exact iAnd_in | exact iShr_in | (simp only [Int.toNat_natCast]; omega) | decide), if_pos (by first | omega | decide), bL_law_232, r3, xret_v]⟩
/-- what is done, by its number -/
theorem law_do {i : Nat} {what one two : Int} {o10 o14 : Option Value} (hI : qInv i T z V R) (hi : i ≤ 63) (hw : 0 ≤ what ∧ what < 52) (h14 : 46 ≤ what → 14 ≤ i) (h1 : 0 ≤ one ∧ one < 60000) (h2 : 0 ≤ two ∧ two < 60000) :
    ∃ (T' : Nat → Nat × Nat) (z' : Nat × Nat) (V' : Nat → Nat → Int) (J' : Nat → Nat → Int64) (R' : Nat → Nat → Option Nat), XR sc 11 109 270 [some (.retAddr 0), some (.ref 0), some (.ref 56), some (.ref 57), some (.ref 58), some (.ref 59), some (.ref 60), some (.ref 61), some (.ref 62), some (.ref 63), o10, some (xw i), some (xw what), some (xw one), o14] [xw two] (T, z, xv V, J, R) = XR sc 11 109 483 [some (.retAddr 0), some (.ref 0), some (.ref 56), some (.ref 57), some (.ref 58), some (.ref 59), some (.ref 60), some (.ref 61), some (.ref 62), some (.ref 63), some (xw 1), some (xw i), some (xw what), some (xw one), some (xw two)] [] (T', z', xv V', J', R') ∧ qInv (i + 1) T' z' V' R' ∧ z'.1 ≤ z.1 + 200 ∧ z'.2 ≤ z.2 + 2000 := by
  by_cases a : what < 12
  · have go : ∀ w : Int, 0 ≤ w ∧ w ≤ 3 → ∃ (T' : Nat → Nat × Nat) (z' : Nat × Nat) (V' : Nat → Nat → Int) (J' : Nat → Nat → Int64) (R' : Nat → Nat → Option Nat), XR sc 11 109 313 [some (.retAddr 0), some (.ref 0), some (.ref 56), some (.ref 57), some (.ref 58), some (.ref 59), some (.ref 60), some (.ref 61), some (.ref 62), some (.ref 63), o10, some (xw i), some (xw what), some (xw one), some (xw two)] [xw w, .ref 63, .ref 60, .ref 59, .ref 58, .ref 57, .ref 56, .ref 0] (T, z, xv V, J, R) = XR sc 11 109 483 [some (.retAddr 0), some (.ref 0), some (.ref 56), some (.ref 57), some (.ref 58), some (.ref 59), some (.ref 60), some (.ref 61), some (.ref 62), some (.ref 63), some (xw 1), some (xw i), some (xw what), some (xw one), some (xw two)] [] (T', z', xv V', J', R') ∧ qInv (i + 1) T' z' V' R' ∧ z'.1 ≤ z.1 + 200 ∧ z'.2 ≤ z.2 + 2000 := fun w hw => by
      obtain ⟨T', z', V', J', R', e, k, b1, b2⟩ := qDone_t (l_isHide (sc := sc) (J := J) hI hw h1 h2)
      exact ⟨T', z', V', J', R', by rw [bL_law_313, e, xret_v, bL_law_320], k, b1, b2⟩
    rw [bL_law_270 (by first | omega | exact xB_in _ | exact xB_01 _ | exact iAnd_in | exact iShr_in | (simp only [Int.toNat_natCast]; omega) | decide), if_neg (by first | omega | decide)]
    by_cases c1 : what < 3
    · rw [bL_law_279 (by first | omega | exact xB_in _ | exact xB_01 _ | exact iAnd_in | exact iShr_in | (simp only [Int.toNat_natCast]; omega) | decide), if_neg (by first | omega | decide), bL_law_296]; exact go what (by omega)
    · by_cases c2 : what < 9
      · rw [bL_law_279 (by first | omega | exact xB_in _ | exact xB_01 _ | exact iAnd_in | exact iShr_in | (simp only [Int.toNat_natCast]; omega) | decide), if_pos (by first | omega | decide), bL_law_301 (by first | omega | exact xB_in _ | exact xB_01 _ | exact iAnd_in | exact iShr_in | (simp only [Int.toNat_natCast]; omega) | decide), if_neg (by first | omega | decide), bL_law_308]; exact go 2 (by decide)
      · rw [bL_law_279 (by first | omega | exact xB_in _ | exact xB_01 _ | exact iAnd_in | exact iShr_in | (simp only [Int.toNat_natCast]; omega) | decide), if_pos (by first | omega | decide), bL_law_301 (by first | omega | exact xB_in _ | exact xB_01 _ | exact iAnd_in | exact iShr_in | (simp only [Int.toNat_natCast]; omega) | decide), if_pos (by first | omega | decide), bL_law_312]; exact go 3 (by decide)
  · rw [bL_law_270 (by first | omega | exact xB_in _ | exact xB_01 _ | exact iAnd_in | exact iShr_in | (simp only [Int.toNat_natCast]; omega) | decide), if_pos (by first | omega | decide)]
    by_cases b : what < 38
    · have go : ∀ w : Int, 0 ≤ w ∧ w ≤ 6 → ∃ (T' : Nat → Nat × Nat) (z' : Nat × Nat) (V' : Nat → Nat → Int) (J' : Nat → Nat → Int64) (R' : Nat → Nat → Option Nat), XR sc 11 109 410 [some (.retAddr 0), some (.ref 0), some (.ref 56), some (.ref 57), some (.ref 58), some (.ref 59), some (.ref 60), some (.ref 61), some (.ref 62), some (.ref 63), o10, some (xw i), some (xw what), some (xw one), some (xw two)] [xw w, .ref 63, .ref 60, .ref 59, .ref 58, .ref 57, .ref 0] (T, z, xv V, J, R) = XR sc 11 109 483 [some (.retAddr 0), some (.ref 0), some (.ref 56), some (.ref 57), some (.ref 58), some (.ref 59), some (.ref 60), some (.ref 61), some (.ref 62), some (.ref 63), some (xw 1), some (xw i), some (xw what), some (xw one), some (xw two)] [] (T', z', xv V', J', R') ∧ qInv (i + 1) T' z' V' R' ∧ z'.1 ≤ z.1 + 200 ∧ z'.2 ≤ z.2 + 2000 := fun w hw => by
        obtain ⟨T', z', V', J', R', e, k, b1, b2⟩ := qDone_t (l_isPart (sc := sc) (J := J) hI hi hw h1 h2)
        exact ⟨T', z', V', J', R', by rw [bL_law_410, e, xret_v, bL_law_417], k, b1, b2⟩
      rw [bL_law_325 (by first | omega | exact xB_in _ | exact xB_01 _ | exact iAnd_in | exact iShr_in | (simp only [Int.toNat_natCast]; omega) | decide), if_neg (by first | omega | decide)]
      by_cases c1 : what = 12
      · rw [bL_law_332 (by first | omega | exact xB_in _ | exact xB_01 _ | exact iAnd_in | exact iShr_in | (simp only [Int.toNat_natCast]; omega) | decide), if_pos (by first | omega | decide), bL_law_349]; exact go 0 (by decide)
      rw [bL_law_332 (by first | omega | exact xB_in _ | exact xB_01 _ | exact iAnd_in | exact iShr_in | (simp only [Int.toNat_natCast]; omega) | decide), if_neg (by first | omega | decide)]
      by_cases c2 : what < 19
      · rw [bL_law_353 (by first | omega | exact xB_in _ | exact xB_01 _ | exact iAnd_in | exact iShr_in | (simp only [Int.toNat_natCast]; omega) | decide), if_neg (by first | omega | decide), bL_law_360]; exact go 1 (by decide)
      rw [bL_law_353 (by first | omega | exact xB_in _ | exact xB_01 _ | exact iAnd_in | exact iShr_in | (simp only [Int.toNat_natCast]; omega) | decide), if_pos (by first | omega | decide)]
      by_cases c3 : what < 27
      · rw [bL_law_364 (by first | omega | exact xB_in _ | exact xB_01 _ | exact iAnd_in | exact iShr_in | (simp only [Int.toNat_natCast]; omega) | decide), if_neg (by first | omega | decide), bL_law_371]; exact go 2 (by decide)
      rw [bL_law_364 (by first | omega | exact xB_in _ | exact xB_01 _ | exact iAnd_in | exact iShr_in | (simp only [Int.toNat_natCast]; omega) | decide), if_pos (by first | omega | decide)]
      by_cases c4 : what = 27
      · rw [bL_law_375 (by first | omega | exact xB_in _ | exact xB_01 _ | exact iAnd_in | exact iShr_in | (simp only [Int.toNat_natCast]; omega) | decide), if_pos (by first | omega | decide), bL_law_382]; exact go 3 (by decide)
      rw [bL_law_375 (by first | omega | exact xB_in _ | exact xB_01 _ | exact iAnd_in | exact iShr_in | (simp only [Int.toNat_natCast]; omega) | decide), if_neg (by first | omega | decide)]
      by_cases c5 : what < 35
      · rw [bL_law_386 (by first | omega | exact xB_in _ | exact xB_01 _ | exact iAnd_in | exact iShr_in | (simp only [Int.toNat_natCast]; omega) | decide), if_neg (by first | omega | decide), bL_law_393]; exact go 4 (by decide)
      rw [bL_law_386 (by first | omega | exact xB_in _ | exact xB_01 _ | exact iAnd_in | exact iShr_in | (simp only [Int.toNat_natCast]; omega) | decide), if_pos (by first | omega | decide)]
      by_cases c6 : what = 35
      · rw [bL_law_397 (by first | omega | exact xB_in _ | exact xB_01 _ | exact iAnd_in | exact iShr_in | (simp only [Int.toNat_natCast]; omega) | decide), if_pos (by first | omega | decide), bL_law_404]; exact go 5 (by decide)
      · rw [bL_law_397 (by first | omega | exact xB_in _ | exact xB_01 _ | exact iAnd_in | exact iShr_in | (simp only [Int.toNat_natCast]; omega) | decide), if_neg (by first | omega | decide), bL_law_408]; exact go 6 (by decide)
    · have go : ∀ w : Int, 0 ≤ w ∧ w ≤ 4 → (w = 3 → 14 ≤ i) → ∃ (T' : Nat → Nat × Nat) (z' : Nat × Nat) (V' : Nat → Nat → Int) (J' : Nat → Nat → Int64) (R' : Nat → Nat → Option Nat), XR sc 11 109 474 [some (.retAddr 0), some (.ref 0), some (.ref 56), some (.ref 57), some (.ref 58), some (.ref 59), some (.ref 60), some (.ref 61), some (.ref 62), some (.ref 63), o10, some (xw i), some (xw what), some (xw one), some (xw two)] [xw w, .ref 63, .ref 62, .ref 61, .ref 0] (T, z, xv V, J, R) = XR sc 11 109 483 [some (.retAddr 0), some (.ref 0), some (.ref 56), some (.ref 57), some (.ref 58), some (.ref 59), some (.ref 60), some (.ref 61), some (.ref 62), some (.ref 63), some (xw 1), some (xw i), some (xw what), some (xw one), some (xw two)] [] (T', z', xv V', J', R') ∧ qInv (i + 1) T' z' V' R' ∧ z'.1 ≤ z.1 + 200 ∧ z'.2 ≤ z.2 + 2000 := fun w hw h3 => by
        obtain ⟨T', z', V', J', R', e, k, b1, b2⟩ := qDone_t (l_isRidden (sc := sc) (J := J) hI hi hw h3 h1 h2)
        exact ⟨T', z', V', J', R', by rw [bL_law_474, e, xret_v, bL_law_481], k, b1, b2⟩
      rw [bL_law_325 (by first | omega | exact xB_in _ | exact xB_01 _ | exact iAnd_in | exact iShr_in | (simp only [Int.toNat_natCast]; omega) | decide), if_pos (by first | omega | decide)]
      by_cases c1 : what < 41
      · rw [bL_law_422 (by first | omega | exact xB_in _ | exact xB_01 _ | exact iAnd_in | exact iShr_in | (simp only [Int.toNat_natCast]; omega) | decide), if_neg (by first | omega | decide), bL_law_436]; exact go 0 (by decide) (fun q => absurd q (by decide))
      rw [bL_law_422 (by first | omega | exact xB_in _ | exact xB_01 _ | exact iAnd_in | exact iShr_in | (simp only [Int.toNat_natCast]; omega) | decide), if_pos (by first | omega | decide)]
      by_cases c2 : what < 44
      · rw [bL_law_440 (by first | omega | exact xB_in _ | exact xB_01 _ | exact iAnd_in | exact iShr_in | (simp only [Int.toNat_natCast]; omega) | decide), if_neg (by first | omega | decide), bL_law_447]; exact go 1 (by decide) (fun q => absurd q (by decide))
      rw [bL_law_440 (by first | omega | exact xB_in _ | exact xB_01 _ | exact iAnd_in | exact iShr_in | (simp only [Int.toNat_natCast]; omega) | decide), if_pos (by first | omega | decide)]
      by_cases c3 : what < 46
      · rw [bL_law_451 (by first | omega | exact xB_in _ | exact xB_01 _ | exact iAnd_in | exact iShr_in | (simp only [Int.toNat_natCast]; omega) | decide), if_neg (by first | omega | decide), bL_law_458]; exact go 2 (by decide) (fun q => absurd q (by decide))
      rw [bL_law_451 (by first | omega | exact xB_in _ | exact xB_01 _ | exact iAnd_in | exact iShr_in | (simp only [Int.toNat_natCast]; omega) | decide), if_pos (by first | omega | decide)]
      by_cases c4 : what < 51
      · rw [bL_law_462 (by first | omega | exact xB_in _ | exact xB_01 _ | exact iAnd_in | exact iShr_in | (simp only [Int.toNat_natCast]; omega) | decide), if_neg (by first | omega | decide), bL_law_469]; exact go 3 (by decide) (fun _ => h14 (by omega))
      · rw [bL_law_462 (by first | omega | exact xB_in _ | exact xB_01 _ | exact iAnd_in | exact iShr_in | (simp only [Int.toNat_natCast]; omega) | decide), if_pos (by first | omega | decide), bL_law_473]; exact go 4 (by decide) (fun q => absurd q (by decide))
end P25
section P25b
variable {sc : xS}
theorem law_loop : ∀ (m i : Nat) (T : Nat → Nat × Nat) (z : Nat × Nat) (V : Nat → Nat → Int) (J : Nat → Nat → Int64) (R : Nat → Nat → Option Nat) (o12 o13 o14 : Option Value), i + m = 64 → sc.1 ≤ 3584 → qInv i T z V R →
    ∃ h' : xH, XR sc 11 109 175 [some (.retAddr 0), some (.ref 0), some (.ref 56), some (.ref 57), some (.ref 58), some (.ref 59), some (.ref 60), some (.ref 61), some (.ref 62), some (.ref 63), some (xw 1), some (xw i), o12, o13, o14] [] (T, z, xv V, J, R) = some (.inl (some (xw 1)), h') ∧ h'.2.1.1 ≤ z.1 + 210 * m ∧ h'.2.1.2 ≤ z.2 + 2100 * m := by
  intro m
  induction m with
  | zero =>
    intro i T z V J R o12 o13 o14 hm hc hI
    obtain rfl : i = 64 := by omega
    rw [bL_law_175 (by first | omega | exact xB_in _ | exact xB_01 _ | exact iAnd_in | exact iShr_in | (simp only [Int.toNat_natCast]; omega) | decide), if_pos (by first | omega | decide), bL_law_525 (by first | omega | exact xB_in _ | exact xB_01 _ | exact iAnd_in | exact iShr_in | (simp only [Int.toNat_natCast]; omega) | decide)]
    exact ⟨_, rfl, by show z.1 ≤ _; omega, by show z.2 ≤ _; omega⟩
  | succ m ih =>
    intro i T z V J R o12 o13 o14 hm hc hI
    obtain ⟨what, w1, w2, w3⟩ := law_what (sc := sc) (T := T) (z := z) (V := V) (J := J) (R := R) (i := i) (o12 := o12) (o13 := o13) (o14 := o14) (by omega) hc
    obtain ⟨one, a1, a2, a3⟩ := l_part (sc := sc) (d := 10) (T := T) (z := z) (V := V) (J := J) (R := R) (k := 3 * (i : Int) + 1) (n := 60000) (by omega) (by decide) hc
    obtain ⟨two, b1, b2, b3⟩ := l_part (sc := sc) (d := 10) (T := T) (z := z) (V := V) (J := J) (R := R) (k := 3 * (i : Int) + 2) (n := 60000) (by omega) (by decide) hc
    obtain ⟨T1, z1, V1, J1, R1, e1, k1, d1, d2⟩ := law_do (sc := sc) (J := J) (o10 := some (xw 1)) hI (by omega) w1 w2 ⟨a1, a2⟩ ⟨b1, b2⟩
    obtain ⟨T2, z2, V2, J2, R2, e2, k2, d3, d4⟩ := l_isSo (sc := sc) (J := J1) k1 (by omega) ⟨a1, a2⟩ ⟨b1, b2⟩
    obtain ⟨h', f1, f2, f3⟩ := ih (i + 1) T2 z2 V2 J2 R2 (some (xw what)) (some (xw one)) (some (xw two)) (by omega) hc k2
    have e1 : XR sc 11 109 270 [some (.retAddr 0), some (.ref 0), some (.ref 56), some (.ref 57), some (.ref 58), some (.ref 59), some (.ref 60), some (.ref 61), some (.ref 62), some (.ref 63), some (xw 1), some (xw i), some (xw what), some (xw one), o14] [xw two] (T, z, xv V, J, R) = _ := e1
    refine ⟨h', ?_, by omega, by omega⟩
    rw [bL_law_175 (by first | omega | exact xB_in _ | exact xB_01 _ | exact iAnd_in | exact iShr_in | (simp only [Int.toNat_natCast]; omega) | decide), if_neg (by first | omega | decide), bL_law_182 (by first | omega | exact xB_in _ | exact xB_01 _ | exact iAnd_in | exact iShr_in | (simp only [Int.toNat_natCast]; omega) | decide), if_neg (by first | omega | decide), w3, bL_law_242, a3, xret_v, bL_law_256, b3, xret_v, e1, bL_law_483 (by first | omega | exact xB_in _ | exact xB_01 _ | exact iAnd_in | exact iShr_in | (simp only [Int.toNat_natCast]; omega) | decide), if_neg (by first | omega | decide), bL_law_488, e2, xret_v, bL_law_509 (by first | omega | exact xB_in _ | exact xB_01 _ | exact iAnd_in | exact iShr_in | (simp only [Int.toNat_natCast]; omega) | decide), if_neg (by first | omega | decide), bL_law_512, bL_law_517, show (i : Int) + 1 = ((i + 1 : Nat) : Int) by omega]
    exact f1
end P25b
