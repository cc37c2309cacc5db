/-! the property's law: rests and rides -/
theorem xup2_two {V : Nat → Nat → Int} {a k : Nat} {x y : Int} : xup2 (xup2 V a k x) a k y = xup2 V a k y := by
  funext b j
  simp only [xup2]
  split
  · rfl
  · rfl
theorem xLa_row {V W : Nat → Nat → Int} {s s' : Nat} : ∀ m k, (∀ j, k ≤ j → j < k + m → V s j = W s' j) → xLa V s m k = xLa W s' m k := by
  intro m
  induction m with
  | zero => intro k _; rfl
  | succ m ih => intro k h; rw [xLa, xLa, h k (Nat.le_refl k) (by omega), ih (k + 1) (fun j a b => h j (by omega) (by omega))]
theorem xLa_0 {V : Nat → Nat → Int} {s : Nat} : ∀ m k, (∀ j, k ≤ j → j < k + m → V s j < 100) → xLa V s m k = false := by
  intro m
  induction m with
  | zero => intro k _; rfl
  | succ m ih => intro k h; rw [xLa, if_pos (h k (Nat.le_refl k) (by omega)), ih (k + 1) (fun j a b => h j (by omega) (by omega))]
/-- how many of m are so, from k on -/
def pSu (L : Nat → Bool) : Nat → Nat → Int
  | 0, _ => 0
  | m + 1, k => xB (L k) + pSu L m (k + 1)
theorem xRn_L {am : Int} {B : Nat → Nat → Int} : ∀ m k V n, k + m = 6 → (∀ h j, k ≤ h → h < 6 → j < 7 → max 0 (V (12 + 4 * h) j - am) = B h j) → xRn am m k V n = n + pSu (fun h => xLa (fun _ => B h) 0 7 0) m k := by
  intro m
  induction m with
  | zero => intro k V n _ _; rw [xRn, pSu, Int.add_zero]
  | succ m ih =>
    intro k V n hk e
    have el : xLa (xHe V (12 + 4 * k) am 0) (12 + 4 * k) 7 0 = xLa (fun _ => B k) 0 7 0 := xLa_row 7 0 (fun j _ hj => by rw [xHe_s (by omega)]; exact e k j (Nat.le_refl k) (by omega) (by omega))
    rw [xRn, pSu, ih (k + 1) _ _ (by omega) (fun h j a b c => by rw [xHe_o (by omega)]; exact e h j (by omega) b c), el, Int.add_assoc]
section P8
variable {sc : xS} {d : Nat} {T : Nat → Nat × Nat} {z : Nat × Nat} {V : Nat → Nat → Int} {J : Nat → Nat → Int64} {R : Nat → Nat → Option Nat}
theorem rest_in {days : Int} {n : Nat} {o0 o2 o3 o4 o5 o6 o7 o8 o10 o13 o14 o15 o16 o17 o18 o19 : Option Value} (hA : pAr T) (hn : n < 57) (hd : 0 ≤ days ∧ days ≤ 100) :
    ∀ (m k : Nat) (V : Nat → Nat → Int), (k : Int) + m = days → 0 ≤ V 61 n → V 61 n ≤ 2000000000 →
    ∃ o12 : Option Value, XR sc d 108 815 [o0, some (.ref 61), o2, o3, o4, o5, o6, o7, o8, some (xw days), o10, some (xw n), some (xw k), o13, o14, o15, o16, o17, o18, o19] [] (T, z, xv V, J, R) = XR sc d 108 853 [o0, some (.ref 61), o2, o3, o4, o5, o6, o7, o8, some (xw days), o10, some (xw n), o12, o13, o14, o15, o16, o17, o18, o19] [] (T, z, xv (xup2 V 61 n (max 0 (V 61 n - 10 * m))), J, R) := by
  intro m
  induction m with
  | zero =>
    intro k V hk h0 h1
    refine ⟨some (xw k), ?_⟩
    rw [bL_isRidden_815 (by first | omega | exact xB_in _ | exact xB_01 _ | exact iAnd_in | exact iShr_in | (simp only [Int.toNat_natCast]; omega) | decide) (by first | omega | exact xB_in _ | exact xB_01 _ | exact iAnd_in | exact iShr_in | (simp only [Int.toNat_natCast]; omega) | decide), if_pos (by first | omega | decide), show max 0 (V 61 n - 10 * ((0 : Nat) : Int)) = V 61 n by omega, xup2_self]
  | succ m ih =>
    intro k V hk h0 h1
    by_cases c : 10 ≤ V 61 n
    · obtain ⟨o12, i1⟩ := ih (k + 1) (xup2 V 61 n (V 61 n - 10)) (by omega) (by rw [xup2_i]; omega) (by rw [xup2_i]; omega)
      refine ⟨o12, ?_⟩
      rw [xup2_i, xup2_two] at i1
      rw [bL_isRidden_815 (by first | omega | exact xB_in _ | exact xB_01 _ | exact iAnd_in | exact iShr_in | (simp only [Int.toNat_natCast]; omega) | decide) (by first | omega | exact xB_in _ | exact xB_01 _ | exact iAnd_in | exact iShr_in | (simp only [Int.toNat_natCast]; omega) | decide), if_neg (by first | omega | decide), bL_isRidden_822 (by rw [pA61 hA]) (by rw [pA61 hA]; omega) (by rw [Int.toNat_natCast]; omega), Int.toNat_natCast, if_pos c, bL_isRidden_843, bL_isRidden_845 (by rw [pA61 hA]) (by rw [pA61 hA]; omega), Int.toNat_natCast, show (k : Int) + 1 = ((k + 1 : Nat) : Int) by omega, i1, show max 0 (V 61 n - 10 - 10 * (m : Int)) = max 0 (V 61 n - 10 * ((m + 1 : Nat) : Int)) by omega]
    · obtain ⟨o12, i1⟩ := ih (k + 1) (xup2 V 61 n (V 61 n - V 61 n)) (by omega) (by rw [xup2_i]; omega) (by rw [xup2_i]; omega)
      refine ⟨o12, ?_⟩
      rw [xup2_i, xup2_two] at i1
      rw [bL_isRidden_815 (by first | omega | exact xB_in _ | exact xB_01 _ | exact iAnd_in | exact iShr_in | (simp only [Int.toNat_natCast]; omega) | decide) (by first | omega | exact xB_in _ | exact xB_01 _ | exact iAnd_in | exact iShr_in | (simp only [Int.toNat_natCast]; omega) | decide), if_neg (by first | omega | decide), bL_isRidden_822 (by rw [pA61 hA]) (by rw [pA61 hA]; omega) (by rw [Int.toNat_natCast]; omega), Int.toNat_natCast, if_neg c, bL_isRidden_836 (by rw [pA61 hA]) (by rw [pA61 hA]; omega), Int.toNat_natCast, bL_isRidden_845 (by rw [pA61 hA]) (by rw [pA61 hA]; omega), Int.toNat_natCast, show (k : Int) + 1 = ((k + 1 : Nat) : Int) by omega, i1, show max 0 (V 61 n - V 61 n - 10 * (m : Int)) = max 0 (V 61 n - 10 * ((m + 1 : Nat) : Int)) by omega]
theorem rest_out {days : Int} {o0 o2 o3 o4 o5 o6 o7 o8 o13 o14 o15 o16 o17 o18 o19 : Option Value} (hA : pAr T) (hd : 1 ≤ days ∧ days ≤ 100) :
    ∀ (m n : Nat) (V : Nat → Nat → Int) (o12 : Option Value), n + m = 56 → 42 ≤ n → (∀ j, 42 ≤ j → j < 56 → 0 ≤ V 61 j ∧ V 61 j ≤ 2000000000) →
    ∃ (V' : Nat → Nat → Int) (o11' o12' : Option Value), XR sc d 108 800 [o0, some (.ref 61), o2, o3, o4, o5, o6, o7, o8, some (xw days), some (xw 1), some (xw n), o12, o13, o14, o15, o16, o17, o18, o19] [] (T, z, xv V, J, R) = XR sc d 108 859 [o0, some (.ref 61), o2, o3, o4, o5, o6, o7, o8, some (xw days), some (xw 1), o11', o12', o13, o14, o15, o16, o17, o18, o19] [] (T, z, xv V', J, R) ∧
      (∀ b, ¬ b = 61 → V' b = V b) ∧ ∀ j, V' 61 j = if n ≤ j ∧ j < 56 then max 0 (V 61 j - days * 10) else V 61 j := by
  intro m
  induction m with
  | zero =>
    intro n V o12 hn h42 hV
    refine ⟨V, some (xw n), o12, ?_, fun _ _ => rfl, fun j => by rw [if_neg (by omega)]⟩
    rw [bL_isRidden_800 (by first | omega | exact xB_in _ | exact xB_01 _ | exact iAnd_in | exact iShr_in | (simp only [Int.toNat_natCast]; omega) | decide), if_pos (by first | omega | decide)]
  | succ m ih =>
    intro n V o12 hn h42 hV
    have hv := hV n h42 (by omega)
    obtain ⟨o12a, i1⟩ := rest_in (sc := sc) (d := d) (T := T) (z := z) (J := J) (R := R) (days := days) (n := n) (o0 := o0) (o2 := o2) (o3 := o3) (o4 := o4) (o5 := o5) (o6 := o6) (o7 := o7) (o8 := o8) (o10 := some (xw 1)) (o13 := o13) (o14 := o14) (o15 := o15) (o16 := o16) (o17 := o17) (o18 := o18) (o19 := o19) hA (by omega) (by omega) days.toNat 0 V (by omega) hv.1 hv.2
    obtain ⟨V', o11', o12', j1, j2, j3⟩ := ih (n + 1) (xup2 V 61 n (max 0 (V 61 n - 10 * (days.toNat : Int)))) o12a (by omega) (by omega) (fun j a b => by
      by_cases e : j = n
      · subst e; rw [xup2_i]; omega
      · rw [xup2_j e]; exact hV j a b)
    refine ⟨V', o11', o12', ?_, fun b hb => by rw [j2 b hb, xup2_o hb], fun j => ?_⟩
    · have i1 : XR sc d 108 815 [o0, some (.ref 61), o2, o3, o4, o5, o6, o7, o8, some (xw days), some (xw 1), some (xw n), some (xw 0), o13, o14, o15, o16, o17, o18, o19] [] (T, z, xv V, J, R) = _ := i1
      rw [bL_isRidden_800 (by first | omega | exact xB_in _ | exact xB_01 _ | exact iAnd_in | exact iShr_in | (simp only [Int.toNat_natCast]; omega) | decide), if_neg (by first | omega | decide), bL_isRidden_807 (by first | omega | exact xB_in _ | exact xB_01 _ | exact iAnd_in | exact iShr_in | (simp only [Int.toNat_natCast]; omega) | decide), if_neg (by first | omega | decide), bL_isRidden_812, i1, bL_isRidden_853, show (n : Int) + 1 = ((n + 1 : Nat) : Int) by omega]
      exact j1
    · rw [j3 j]
      by_cases e : j = n
      · subst e; rw [if_neg (by omega), if_pos (by omega), xup2_i]; omega
      · rw [xup2_j e]
        by_cases c : n + 1 ≤ j ∧ j < 56
        · rw [if_pos c, if_pos (by omega)]
        · rw [if_neg c, if_neg (by omega)]
theorem lame_push {b : Bool} {o0 o1 o2 o3 o4 o5 o6 o7 o8 o9 o10 o11 o12 o13 o14 o15 o16 o17 o18 o19 : Option Value} : XR sc d 108 864 [o0, o1, o2, o3, o4, o5, o6, o7, o8, o9, o10, o11, o12, o13, o14, o15, o16, o17, o18, o19] [xw (xB b)] (T, z, xv V, J, R) = XR sc d 108 872 [o0, o1, o2, o3, o4, o5, o6, o7, o8, o9, o10, o11, o12, o13, o14, o15, o16, o17, o18, o19] [xw (xB b)] (T, z, xv V, J, R) := by
  cases b with
  | false => rw [bL_isRidden_864 (by first | omega | exact xB_in _ | exact xB_01 _ | exact iAnd_in | exact iShr_in | (simp only [Int.toNat_natCast]; omega) | decide), if_pos (by first | omega | decide), bL_isRidden_871]; rfl
  | true => rw [bL_isRidden_864 (by first | omega | exact xB_in _ | exact xB_01 _ | exact iAnd_in | exact iShr_in | (simp only [Int.toNat_natCast]; omega) | decide), if_neg (by first | omega | decide), bL_isRidden_867]; rfl
theorem lame_push2 {b : Bool} {s1 : Value} {o0 o1 o2 o3 o4 o5 o6 o7 o8 o9 o10 o11 o12 o13 o14 o15 o16 o17 o18 o19 : Option Value} : XR sc d 108 877 [o0, o1, o2, o3, o4, o5, o6, o7, o8, o9, o10, o11, o12, o13, o14, o15, o16, o17, o18, o19] [xw (xB b), s1] (T, z, xv V, J, R) = XR sc d 108 885 [o0, o1, o2, o3, o4, o5, o6, o7, o8, o9, o10, o11, o12, o13, o14, o15, o16, o17, o18, o19] [xw (xB b), s1] (T, z, xv V, J, R) := by
  cases b with
  | false => rw [bL_isRidden_877 (by first | omega | exact xB_in _ | exact xB_01 _ | exact iAnd_in | exact iShr_in | (simp only [Int.toNat_natCast]; omega) | decide), if_pos (by first | omega | decide), bL_isRidden_884]; rfl
  | true => rw [bL_isRidden_877 (by first | omega | exact xB_in _ | exact xB_01 _ | exact iAnd_in | exact iShr_in | (simp only [Int.toNat_natCast]; omega) | decide), if_neg (by first | omega | decide), bL_isRidden_880]; rfl
theorem r_rest {i : Nat} {one two : Int} (hI : qInv i T z V R) (h1 : 0 ≤ one ∧ one < 60000) (h2 : 0 ≤ two ∧ two < 60000) (hi : i ≤ 63) : qDone (X sc 11 108 [.ref 0, .ref 61, .ref 62, .ref 63, xw 4, xw one, xw two] (T, z, xv V, J, R)) i z := by
  obtain ⟨hT, hRo, hH, hS, hE, hA⟩ := hI.1
  have hz := hI.2.1
  have hor := hI.2.2.2.2
  obtain ⟨a1, a2, a3, a4, a5, a6, a7, a8, a9⟩ := id hor
  have sore : ∀ h j, h < 6 → j < 7 → 0 ≤ V (12 + 4 * h) j ∧ V (12 + 4 * h) j ≤ 2000000000 := fun h j hh hj => by
    by_cases c : h < 2
    · have e := (a1 h j c hj).2
      have b := a7.1 (7 * h + j) (by omega)
      rw [show 42 + (7 * h + j) = 42 + 7 * h + j by omega] at b
      omega
    · have := a4 h j (by omega) hh hj; omega
  have law_s : ∀ j, 42 ≤ j → j < 56 → 0 ≤ V 61 j ∧ V 61 j ≤ 2000000000 := fun j x y => by
    have b := a7.1 (j - 42) (by omega)
    rw [show 42 + (j - 42) = j by omega] at b
    omega
  obtain ⟨hh, ss, b1, b2, b3⟩ := rid_start (sc := sc) (d := 10) (T := T) (z := z) (V := V) (J := J) (R := R) (what := 4) (by decide) h1 h2
  rw [if_pos (by decide)] at b3
  have day : ∃ days : Int, (0 ≤ days ∧ days ≤ 101) ∧ XR sc 10 108 750 [some (.ref 0), some (.ref 61), some (.ref 62), some (.ref 63), some (xw 4), some (xw one), some (xw two), some (xw hh), some (xw ss), none, none, none, none, none, none, none, none, none, none, none] [] (T, z, xv V, J, R) = XR sc 10 108 775 [some (.ref 0), some (.ref 61), some (.ref 62), some (.ref 63), some (xw 4), some (xw one), some (xw two), some (xw hh), some (xw ss), none, none, none, none, none, none, none, none, none, none, none] [xw days] (T, z, xv V, J, R) := by
    by_cases c : one % 9 = 0
    · exact ⟨two % 2 * 101, by omega, by rw [bL_isRidden_750 (by first | omega | exact xB_in _ | exact xB_01 _ | exact iAnd_in | exact iShr_in | (simp only [Int.toNat_natCast]; omega) | decide) (by first | omega | exact xB_in _ | exact xB_01 _ | exact iAnd_in | exact iShr_in | (simp only [Int.toNat_natCast]; omega) | decide), if_pos (by first | omega | decide), bL_isRidden_758 (by first | omega | exact xB_in _ | exact xB_01 _ | exact iAnd_in | exact iShr_in | (simp only [Int.toNat_natCast]; omega) | decide)]⟩
    · exact ⟨1 + two % 30, by omega, by rw [bL_isRidden_750 (by first | omega | exact xB_in _ | exact xB_01 _ | exact iAnd_in | exact iShr_in | (simp only [Int.toNat_natCast]; omega) | decide) (by first | omega | exact xB_in _ | exact xB_01 _ | exact iAnd_in | exact iShr_in | (simp only [Int.toNat_natCast]; omega) | decide), if_neg (by first | omega | decide), bL_isRidden_768 (by first | omega | exact xB_in _ | exact xB_01 _ | exact iAnd_in | exact iShr_in | (simp only [Int.toNat_natCast]; omega) | decide)]⟩
  obtain ⟨days, d1, d2⟩ := day
  rw [b3, bL_isRidden_296 (by first | omega | exact xB_in _ | exact xB_01 _ | exact iAnd_in | exact iShr_in | (simp only [Int.toNat_natCast]; omega) | decide), if_neg (by first | omega | decide), d2]
  by_cases c : 1 ≤ days ∧ days ≤ 100
  · obtain ⟨V', o11', o12', j1, j2, j3⟩ := rest_out (sc := sc) (d := 10) (T := T) (z := z) (J := J) (R := R) (days := days) (o0 := some (.ref 0)) (o2 := some (.ref 62)) (o3 := some (.ref 63)) (o4 := some (xw 4)) (o5 := some (xw one)) (o6 := some (xw two)) (o7 := some (xw hh)) (o8 := some (xw ss)) (o13 := none) (o14 := none) (o15 := none) (o16 := none) (o17 := none) (o18 := none) (o19 := none) hA c 14 42 V none rfl (by decide) law_s
    have j1 : XR sc 10 108 800 [some (.ref 0), some (.ref 61), some (.ref 62), some (.ref 63), some (xw 4), some (xw one), some (xw two), some (xw hh), some (xw ss), some (xw days), some (xw 1), some (xw 42), none, none, none, none, none, none, none, none] [] (T, z, xv V, J, R) = _ := j1
    have s' : ∀ j, 42 ≤ j → j < 56 → 0 ≤ V' 61 j ∧ V' 61 j ≤ 2000000000 := fun j x y => by
      have := law_s j x y
      rw [j3 j, if_pos ⟨x, y⟩]; omega
    have cls := s_rest (sc := sc) (d := 1) (z := z) (V := V') (J := J) (R := R) (dy := days) hT hH (fun h j hh hj => by have := sore h j hh hj; rw [j2 (12 + 4 * h) (by omega)]; omega) (by omega)
    rw [if_pos c] at cls
    have en : xRn (days * 10) 6 0 V' 0 = xB (xLa (pSo V' 0) 0 7 0) + xB (xLa (pSo V' 1) 0 7 0) := by
      rw [xRn_L (B := fun h j => max 0 (V' (12 + 4 * h) j - days * 10)) 6 0 V' 0 rfl (fun h j _ _ _ => rfl)]
      have e2 : ∀ h, 2 ≤ h → h < 6 → xLa (fun _ j => max 0 (V' (12 + 4 * h) j - days * 10)) 0 7 0 = false := fun h x y => xLa_0 7 0 (fun j _ hj => by
        have := a4 h j x y (by omega)
        show max 0 (V' (12 + 4 * h) j - days * 10) < 100
        rw [j2 (12 + 4 * h) (by omega)]; omega)
      have e1 : ∀ h, h < 2 → xLa (fun _ j => max 0 (V' (12 + 4 * h) j - days * 10)) 0 7 0 = xLa (pSo V' h) 0 7 0 := fun h x => xLa_row 7 0 (fun j _ hj => by
        show max 0 (V' (12 + 4 * h) j - days * 10) = V' 61 (42 + 7 * h + j)
        rw [j2 (12 + 4 * h) (by omega), j3, if_pos (by omega), (a1 h j x (by omega)).2])
      simp only [pSu]
      rw [e1 0 (by decide), e1 1 (by decide), e2 2 (by decide) (by decide), e2 3 (by decide) (by decide), e2 4 (by decide) (by decide), e2 5 (by decide) (by decide)]
      have : xB false = 0 := rfl
      omega
    have la0 := l_isLame (sc := sc) (d := 9) (z := z) (V := V') (J := J) (R := R) (h := 0) hA (by decide) (fun k hk => by have := s' (42 + 7 * 0 + k) (by omega) (by omega); omega)
    have la1 := l_isLame (sc := sc) (d := 9) (z := z) (V := V') (J := J) (R := R) (h := 1) hA (by decide) (fun k hk => by have := s' (42 + 7 * 1 + k) (by omega) (by omega); omega)
    have la0 : X sc 10 102 [.ref 61, xw 0] (T, z, xv V', J, R) = _ := la0
    have la1 : X sc 10 102 [.ref 61, xw 1] (T, z, xv V', J, R) = _ := la1
    have hn2 : 0 ≤ xB (xLa (pSo V' 0) 0 7 0) + xB (xLa (pSo V' 1) 0 7 0) ∧ xB (xLa (pSo V' 0) 0 7 0) + xB (xLa (pSo V' 1) 0 7 0) ≤ 2 := by
      have x := xB_01 (xLa (pSo V' 0) 0 7 0)
      have y := xB_01 (xLa (pSo V' 1) 0 7 0)
      omega
    rw [en] at cls
    rw [bL_isRidden_775 (by first | omega | exact xB_in _ | exact xB_01 _ | exact iAnd_in | exact iShr_in | (simp only [Int.toNat_natCast]; omega) | decide), if_neg (by first | omega | decide), bL_isRidden_782 (by first | omega | exact xB_in _ | exact xB_01 _ | exact iAnd_in | exact iShr_in | (simp only [Int.toNat_natCast]; omega) | decide), if_neg (by first | omega | decide), bL_isRidden_789, bL_isRidden_794, j1, bL_isRidden_859, la0, xret_v, lame_push, bL_isRidden_872, la1, xret_v, lame_push2, bL_isRidden_885, dv_rest hT.1 cls, xret_v]
    revert hn2
    generalize xB (xLa (pSo V' 0) 0 7 0) + xB (xLa (pSo V' 1) 0 7 0) = r
    intro hn2
    rw [bL_isRidden_901 (by first | omega | exact xB_in _ | exact xB_01 _ | exact iAnd_in | exact iShr_in | (simp only [Int.toNat_natCast]; omega) | decide), if_neg (by first | omega | decide), bL_isRidden_906, bL_isRidden_913 (by first | omega | exact xB_in _ | exact xB_01 _ | exact iAnd_in | exact iShr_in | (simp only [Int.toNat_natCast]; omega) | decide) (by first | omega | exact xB_in _ | exact xB_01 _ | exact iAnd_in | exact iShr_in | (simp only [Int.toNat_natCast]; omega) | decide), if_pos (by first | omega | decide), bL_isRidden_916, bL_isRidden_921 (by first | omega | exact xB_in _ | exact xB_01 _ | exact iAnd_in | exact iShr_in | (simp only [Int.toNat_natCast]; omega) | decide)]
    refine ⟨_, _, _, _, _, rfl, ?_, by omega, by omega⟩
    obtain ⟨v1, v2⟩ := xRv_at (am := days * 10) 6 0 V' rfl
    have vo : ∀ b, ¬ (12 ≤ b ∧ b ≤ 32) → xRv (days * 10) 6 0 V' b = V' b := fun b hb => v1 b (fun h x y => by omega)
    have vh : ∀ b, (∀ h, h < 6 → ¬ b = 12 + 4 * h) → xRv (days * 10) 6 0 V' b = V' b := fun b hb => v1 b (fun h _ y => hb h y)
    refine qInv_hor hI (Nat.le_succ i) (fun b hb j _ _ => by rw [vo b (by omega), j2 b (by omega)]) ⟨fun h k x y => ?_, fun s k x y => ?_, ⟨fun h k x y => ?_, fun s k x y => ?_⟩, fun h k x x2 y => ?_, fun h k x y => ?_, ?_, ⟨fun k x => ?_, fun k x => ?_⟩, fun h j x y => ?_, ?_⟩
    · rw [vh (11 + 4 * h) (fun h' _ => by omega), j2 (11 + 4 * h) (by omega), v2 h k (Nat.zero_le _) (by omega) y, j2 (12 + 4 * h) (by omega), vo 61 (by omega), j3, if_neg (by omega), j3, if_pos (by omega), (a1 h k x y).2]
      exact ⟨(a1 h k x y).1, rfl⟩
    · rw [vh (36 + 3 * s) (fun h' _ => by omega), j2 (36 + 3 * s) (by omega), vh (37 + 3 * s) (fun h' _ => by omega), j2 (37 + 3 * s) (by omega), vo 61 (by omega), j3, if_neg (by omega), j3, if_neg (by omega)]
      exact a2 s k x y
    · rw [vh (11 + 4 * h) (fun h' _ => by omega), j2 (11 + 4 * h) (by omega)]; exact a3.1 h k x y
    · rw [vh (36 + 3 * s) (fun h' _ => by omega), j2 (36 + 3 * s) (by omega), vh (37 + 3 * s) (fun h' _ => by omega), j2 (37 + 3 * s) (by omega)]; exact a3.2 s k x y
    · rw [v2 h k (Nat.zero_le _) x2 y, j2 (12 + 4 * h) (by omega), a4 h k x x2 y]; omega
    · rw [vh (13 + 4 * h) (fun h' _ => by omega), j2 (13 + 4 * h) (by omega), vo 62 (by omega), j2 62 (by decide)]; exact a5 h k x y
    · rw [vo 0 (by omega), j2 0 (by decide), vo 63 (by omega), j2 63 (by decide)]; omega
    · rw [vo 61 (by omega), j3, if_pos (by omega), vo 63 (by omega), j2 63 (by decide)]; have := a7.1 k x; omega
    · rw [vo 62 (by omega), j2 62 (by decide), vo 63 (by omega), j2 63 (by decide)]; exact a7.2 k x
    · rw [vh (13 + 4 * h) (fun h' _ => by omega), j2 (13 + 4 * h) (by omega), vo 63 (by omega), j2 63 (by decide)]; exact a8 h j x y
    · rw [vo 55 (by omega), j2 55 (by decide)]; exact a9
  · have cls := s_rest (sc := sc) (d := 1) (z := z) (V := V) (J := J) (R := R) (dy := days) hT hH (fun h j hh hj => by have := sore h j hh hj; omega) (by omega)
    rw [if_neg c] at cls
    have la0 := l_isLame (sc := sc) (d := 9) (z := z) (V := V) (J := J) (R := R) (h := 0) hA (by decide) (fun k hk => by have := law_s (42 + 7 * 0 + k) (by omega) (by omega); omega)
    have la1 := l_isLame (sc := sc) (d := 9) (z := z) (V := V) (J := J) (R := R) (h := 1) hA (by decide) (fun k hk => by have := law_s (42 + 7 * 1 + k) (by omega) (by omega); omega)
    have la0 : X sc 10 102 [.ref 61, xw 0] (T, z, xv V, J, R) = _ := la0
    have la1 : X sc 10 102 [.ref 61, xw 1] (T, z, xv V, J, R) = _ := la1
    have go : XR sc 10 108 775 [some (.ref 0), some (.ref 61), some (.ref 62), some (.ref 63), some (xw 4), some (xw one), some (xw two), some (xw hh), some (xw ss), none, none, none, none, none, none, none, none, none, none, none] [xw days] (T, z, xv V, J, R) = XR sc 10 108 800 [some (.ref 0), some (.ref 61), some (.ref 62), some (.ref 63), some (xw 4), some (xw one), some (xw two), some (xw hh), some (xw ss), some (xw days), some (xw 0), some (xw 42), none, none, none, none, none, none, none, none] [] (T, z, xv V, J, R) := by
      by_cases c2 : days ≤ 0
      · rw [bL_isRidden_775 (by first | omega | exact xB_in _ | exact xB_01 _ | exact iAnd_in | exact iShr_in | (simp only [Int.toNat_natCast]; omega) | decide), if_pos (by first | omega | decide), bL_isRidden_793, bL_isRidden_794]
      · rw [bL_isRidden_775 (by first | omega | exact xB_in _ | exact xB_01 _ | exact iAnd_in | exact iShr_in | (simp only [Int.toNat_natCast]; omega) | decide), if_neg (by first | omega | decide), bL_isRidden_782 (by first | omega | exact xB_in _ | exact xB_01 _ | exact iAnd_in | exact iShr_in | (simp only [Int.toNat_natCast]; omega) | decide), if_pos (by first | omega | decide), bL_isRidden_793, bL_isRidden_794]
    rw [go, bL_isRidden_800 (by first | omega | exact xB_in _ | exact xB_01 _ | exact iAnd_in | exact iShr_in | (simp only [Int.toNat_natCast]; omega) | decide), if_neg (by first | omega | decide), bL_isRidden_807 (by first | omega | exact xB_in _ | exact xB_01 _ | exact iAnd_in | exact iShr_in | (simp only [Int.toNat_natCast]; omega) | decide), if_pos (by first | omega | decide), bL_isRidden_859, la0, xret_v, lame_push, bL_isRidden_872, la1, xret_v, lame_push2, bL_isRidden_885, dx_rest hT.1 (by decide) cls, xret_v, show pK 8 = -2000000 from rfl, bL_isRidden_901 (by first | omega | exact xB_in _ | exact xB_01 _ | exact iAnd_in | exact iShr_in | (simp only [Int.toNat_natCast]; omega) | decide), if_pos (by first | omega | decide), bL_isRidden_911, bL_isRidden_913 (by first | omega | exact xB_in _ | exact xB_01 _ | exact iAnd_in | exact iShr_in | (simp only [Int.toNat_natCast]; omega) | decide) (by first | omega | exact xB_in _ | exact xB_01 _ | exact iAnd_in | exact iShr_in | (simp only [Int.toNat_natCast]; omega) | decide), if_pos (by first | omega | decide), bL_isRidden_916, bL_isRidden_921 (by first | omega | exact xB_in _ | exact xB_01 _ | exact iAnd_in | exact iShr_in | (simp only [Int.toNat_natCast]; omega) | decide)]
    refine ⟨_, _, _, _, _, rfl, qInv_k hI (Nat.le_succ i) (qKeep_x hz (fun _ _ _ => rfl)), ?_, ?_⟩
    · show z.1 + 1 ≤ _; omega
    · show z.2 + 6 ≤ _; omega
end P8
