/-! the property's law: sew -/
theorem mn_mul {c p t h s : Int} (hc : 0 ≤ c) : min (p * c * t) (h * s * c) = c * min (p * t) (h * s) := by
  rw [show p * c * t = c * (p * t) by rw [Int.mul_comm p c, Int.mul_assoc], Int.mul_comm (h * s) c]
  by_cases q : p * t ≤ h * s
  · rw [Int.min_eq_left q, Int.min_eq_left (Int.mul_le_mul_of_nonneg_left q hc)]
  · have q' : h * s ≤ p * t := by omega
    rw [Int.min_eq_right q', Int.min_eq_right (Int.mul_le_mul_of_nonneg_left q' hc)]
theorem pk_m {x y : Int} (hy : y = x + 65536) (hx : 0 ≤ x ∧ x < 1048576) (h8 : x / 65536 % 8 < 4) : (y % 16 = x % 16 ∧ y / 16 % 16 = x / 16 % 16 ∧ y / 256 % 16 = x / 256 % 16 ∧ y / 4096 % 8 = x / 4096 % 8 ∧ y / 32768 % 2 = x / 32768 % 2) ∧ (y / 65536 % 8 = x / 65536 % 8 + 1 ∧ y / 524288 = x / 524288) ∧ (0 ≤ y ∧ y < 1048576) ∧ (524288 ≤ y → 524288 ≤ x) := by
  subst hy
  have e : (x + 65536) / 65536 = x / 65536 + 1 := by omega
  have u : 0 ≤ x / 65536 ∧ x / 65536 < 16 := by omega
  have g1 : (x + 65536) / 524288 = x / 524288 := by rw [show (x + 65536) / 524288 = (x + 65536) / 65536 / 8 by omega, show x / 524288 = x / 65536 / 8 by omega, e]; omega
  have g2 : x / 524288 = x / 65536 / 8 := by omega
  exact ⟨⟨by omega, by omega, by omega, by omega, by omega⟩, ⟨by rw [e]; omega, g1⟩, ⟨by omega, by omega⟩, fun q => by omega⟩
section P17
variable {sc : xS} {d : Nat} {T : Nat → Nat × Nat} {z : Nat × Nat} {V : Nat → Nat → Int} {J : Nat → Nat → Int64} {R : Nat → Nat → Option Nat}
/-- a part with a seam more -/
theorem qInv_m {i P p a : Nat} {V' : Nat → Nat → Int} (h : qInv i T z V R) (hP : qPar i T z.1 V R P) (hp : p < P) (ea : xp R p = a) (h8 : V 57 p / 65536 % 8 < 4) (hV : ∀ x j, V' x j = if x = 57 ∧ j = p then V 57 p + 65536 else if x = a ∧ j = 8 then V a 8 + 1 else V x j) : qInv i T z V' R := by
  have g1 := (hP.2.2.2.1 p hp).2
  rw [ea] at g1
  obtain ⟨⟨hPa, ga, gn⟩, ⟨w0, w1, w2, w3, w5, w4⟩, ⟨w7, w8, w12⟩, ⟨w9, w10, w11⟩, ⟨b0, b1, b5, b8, b57, b58⟩, ⟨st, b60, s60⟩, ⟨b59, t2, t3⟩, w6⟩ := id g1
  have ro : ∀ b, ¬ b = a → ¬ b = a + 1 → ¬ (57 ≤ b ∧ b ≤ 60) → V' b = V b := fun b b1 b2 b3 => by funext j; rw [hV, if_neg (by omega), if_neg (by omega)]
  have rr : ∀ r q, 57 ≤ r → r ≤ 60 → ¬ q = p → V' r q = V r q := fun r q r1 r2 hq => by rw [hV, if_neg (by omega), if_neg (by omega)]
  have e57 : V' 57 p = V 57 p + 65536 := by rw [hV, if_pos ⟨rfl, rfl⟩]
  have e58 : V' 58 p = V 58 p := by rw [hV, if_neg (by omega), if_neg (by omega)]
  have e59 : V' 59 p = V 59 p := by rw [hV, if_neg (by omega), if_neg (by omega)]
  have e60 : V' 60 p = V 60 p := by rw [hV, if_neg (by omega), if_neg (by omega)]
  have eg : V' (a + 1) = V (a + 1) := by funext j; rw [hV, if_neg (by omega), if_neg (by omega)]
  have ra : ∀ j, V' a j = if j = 8 then V a 8 + 1 else V a j := fun j => by
    rw [hV, if_neg (by omega)]
    by_cases e : j = 8
    · rw [if_pos e, if_pos ⟨rfl, e⟩]
    · rw [if_neg e, if_neg (fun q => e q.2)]
  obtain ⟨o1, o2, o3⟩ := pO_p e60
  obtain ⟨⟨k1, k2, k3, k4, k5⟩, ⟨k6, k7⟩, k8, k9⟩ := pk_m (y := V 57 p + 65536) (x := V 57 p) rfl b57 h8
  have hs : V a 8 + 1 ≤ 4 := by rw [w8]; clear k1 k2 k3 k4 k5 k6 k7 k8 k9; omega
  have g2 : qPa1 i T z.1 V' R p a := by
    unfold qPa1 aSt at g1 ⊢
    rw [e57, e58, e59, e60, eg, o1, o2, o3, k1, k2, k3, k4, k5, k6, k7]
    simp only [ra, Nat.reduceEqDiff, if_true, if_false]
    exact ⟨g1.1, g1.2.1, ⟨w7, by rw [w8], w12⟩, g1.2.2.2.1, ⟨b0, b1, b5, hs, k8, b58⟩, ⟨g1.2.2.2.2.2.1.1, b60, fun q => s60 (k9 q)⟩, ⟨b59, t2, t3⟩, w6⟩
  exact qInv_p h (Nat.le_refl i) hP hp ea ro rr g2
theorem sew_right {p q : Nat} {pr th y : Int} {o0 o1 o2 o3 o4 o5 o6 o7 o8 o10 o11 o12 : Option Value} (hp : p ≤ 10) (hq : q ≤ 10) (h1 : 0 ≤ pr ∧ pr ≤ 13) (h2 : 0 ≤ th ∧ th ≤ 51) :
    XR sc d 107 1159 [o0, o1, o2, o3, o4, o5, o6, o7, o8, some (xw p), o10, o11, o12, some (xw q), some (xw pr), some (xw th), none, none, none, none, none, none] [xw y] (T, z, xv V, J, R) =
      XR sc d 107 1197 [o0, o1, o2, o3, o4, o5, o6, o7, o8, some (xw p), o10, o11, o12, some (xw q), some (xw pr), some (xw th), some (xw y), none, none, none, none, none] [xw (xB (decide (¬ p = q ∧ (1 ≤ pr ∧ pr ≤ 12) ∧ (1 ≤ th ∧ th ≤ 50))))] (T, z, xv V, J, R) := by
  by_cases e : p = q
  · rw [decide_eq_false (show ¬ (¬ p = q ∧ (1 ≤ pr ∧ pr ≤ 12) ∧ (1 ≤ th ∧ th ≤ 50)) from fun x => x.1 e), bL_isPart_1159 (by first | omega | exact xB_in _ | exact xB_01 _ | exact iAnd_in | exact iShr_in | (simp only [Int.toNat_natCast]; omega) | decide) (by first | omega | exact xB_in _ | exact xB_01 _ | exact iAnd_in | exact iShr_in | (simp only [Int.toNat_natCast]; omega) | decide), if_pos (by first | omega | decide), bL_isPart_1196]; rfl
  · by_cases c1 : pr ≤ 0
    · rw [decide_eq_false (show ¬ (¬ p = q ∧ (1 ≤ pr ∧ pr ≤ 12) ∧ (1 ≤ th ∧ th ≤ 50)) by omega), bL_isPart_1159 (by first | omega | exact xB_in _ | exact xB_01 _ | exact iAnd_in | exact iShr_in | (simp only [Int.toNat_natCast]; omega) | decide) (by first | omega | exact xB_in _ | exact xB_01 _ | exact iAnd_in | exact iShr_in | (simp only [Int.toNat_natCast]; omega) | decide), if_neg (by first | omega | decide), bL_isPart_1168 (by first | omega | exact xB_in _ | exact xB_01 _ | exact iAnd_in | exact iShr_in | (simp only [Int.toNat_natCast]; omega) | decide), if_pos (by first | omega | decide), bL_isPart_1196]; rfl
    · by_cases c2 : 13 ≤ pr
      · rw [decide_eq_false (show ¬ (¬ p = q ∧ (1 ≤ pr ∧ pr ≤ 12) ∧ (1 ≤ th ∧ th ≤ 50)) by omega), bL_isPart_1159 (by first | omega | exact xB_in _ | exact xB_01 _ | exact iAnd_in | exact iShr_in | (simp only [Int.toNat_natCast]; omega) | decide) (by first | omega | exact xB_in _ | exact xB_01 _ | exact iAnd_in | exact iShr_in | (simp only [Int.toNat_natCast]; omega) | decide), if_neg (by first | omega | decide), bL_isPart_1168 (by first | omega | exact xB_in _ | exact xB_01 _ | exact iAnd_in | exact iShr_in | (simp only [Int.toNat_natCast]; omega) | decide), if_neg (by first | omega | decide), bL_isPart_1173 (by first | omega | exact xB_in _ | exact xB_01 _ | exact iAnd_in | exact iShr_in | (simp only [Int.toNat_natCast]; omega) | decide), if_pos (by first | omega | decide), bL_isPart_1196]; rfl
      · by_cases c3 : th ≤ 0
        · rw [decide_eq_false (show ¬ (¬ p = q ∧ (1 ≤ pr ∧ pr ≤ 12) ∧ (1 ≤ th ∧ th ≤ 50)) by omega), bL_isPart_1159 (by first | omega | exact xB_in _ | exact xB_01 _ | exact iAnd_in | exact iShr_in | (simp only [Int.toNat_natCast]; omega) | decide) (by first | omega | exact xB_in _ | exact xB_01 _ | exact iAnd_in | exact iShr_in | (simp only [Int.toNat_natCast]; omega) | decide), if_neg (by first | omega | decide), bL_isPart_1168 (by first | omega | exact xB_in _ | exact xB_01 _ | exact iAnd_in | exact iShr_in | (simp only [Int.toNat_natCast]; omega) | decide), if_neg (by first | omega | decide), bL_isPart_1173 (by first | omega | exact xB_in _ | exact xB_01 _ | exact iAnd_in | exact iShr_in | (simp only [Int.toNat_natCast]; omega) | decide), if_neg (by first | omega | decide), bL_isPart_1180 (by first | omega | exact xB_in _ | exact xB_01 _ | exact iAnd_in | exact iShr_in | (simp only [Int.toNat_natCast]; omega) | decide), if_pos (by first | omega | decide), bL_isPart_1196]; rfl
        · by_cases c4 : 51 ≤ th
          · rw [decide_eq_false (show ¬ (¬ p = q ∧ (1 ≤ pr ∧ pr ≤ 12) ∧ (1 ≤ th ∧ th ≤ 50)) by omega), bL_isPart_1159 (by first | omega | exact xB_in _ | exact xB_01 _ | exact iAnd_in | exact iShr_in | (simp only [Int.toNat_natCast]; omega) | decide) (by first | omega | exact xB_in _ | exact xB_01 _ | exact iAnd_in | exact iShr_in | (simp only [Int.toNat_natCast]; omega) | decide), if_neg (by first | omega | decide), bL_isPart_1168 (by first | omega | exact xB_in _ | exact xB_01 _ | exact iAnd_in | exact iShr_in | (simp only [Int.toNat_natCast]; omega) | decide), if_neg (by first | omega | decide), bL_isPart_1173 (by first | omega | exact xB_in _ | exact xB_01 _ | exact iAnd_in | exact iShr_in | (simp only [Int.toNat_natCast]; omega) | decide), if_neg (by first | omega | decide), bL_isPart_1180 (by first | omega | exact xB_in _ | exact xB_01 _ | exact iAnd_in | exact iShr_in | (simp only [Int.toNat_natCast]; omega) | decide), if_neg (by first | omega | decide), bL_isPart_1185 (by first | omega | exact xB_in _ | exact xB_01 _ | exact iAnd_in | exact iShr_in | (simp only [Int.toNat_natCast]; omega) | decide), if_pos (by first | omega | decide), bL_isPart_1196]; rfl
          · rw [decide_eq_true (show ¬ p = q ∧ (1 ≤ pr ∧ pr ≤ 12) ∧ (1 ≤ th ∧ th ≤ 50) by omega), bL_isPart_1159 (by first | omega | exact xB_in _ | exact xB_01 _ | exact iAnd_in | exact iShr_in | (simp only [Int.toNat_natCast]; omega) | decide) (by first | omega | exact xB_in _ | exact xB_01 _ | exact iAnd_in | exact iShr_in | (simp only [Int.toNat_natCast]; omega) | decide), if_neg (by first | omega | decide), bL_isPart_1168 (by first | omega | exact xB_in _ | exact xB_01 _ | exact iAnd_in | exact iShr_in | (simp only [Int.toNat_natCast]; omega) | decide), if_neg (by first | omega | decide), bL_isPart_1173 (by first | omega | exact xB_in _ | exact xB_01 _ | exact iAnd_in | exact iShr_in | (simp only [Int.toNat_natCast]; omega) | decide), if_neg (by first | omega | decide), bL_isPart_1180 (by first | omega | exact xB_in _ | exact xB_01 _ | exact iAnd_in | exact iShr_in | (simp only [Int.toNat_natCast]; omega) | decide), if_neg (by first | omega | decide), bL_isPart_1185 (by first | omega | exact xB_in _ | exact xB_01 _ | exact iAnd_in | exact iShr_in | (simp only [Int.toNat_natCast]; omega) | decide), if_neg (by first | omega | decide), bL_isPart_1192]; rfl
theorem sew_end {are right can : Bool} {n c : Int} {o0 o1 o2 o3 o4 o5 o6 o7 o8 o9 o10 o11 o12 o13 o14 o15 o20 o21 : Option Value} (hn : -100000 ≤ n ∧ n ≤ 100000) (hc : c = if are = false then (-3000000 : Int) else if right = false then -2000000 else if can = false then -1000000 else n) :
    XR sc d 107 1423 [o0, o1, o2, o3, o4, o5, o6, o7, o8, o9, o10, o11, o12, o13, o14, o15, some (xw (xB are)), some (xw (xB right)), some (xw (xB can)), some (xw n), o20, o21] [xw c] (T, z, xv V, J, R) = some (.inl (some (xw 1)), (T, z, xv V, J, R)) := by
  cases are with
  | false => rw [if_pos rfl] at hc; subst hc; rw [bL_isPart_1423 (by first | omega | exact xB_in _ | exact xB_01 _ | exact iAnd_in | exact iShr_in | (simp only [Int.toNat_natCast]; omega) | decide), if_pos (by first | omega | decide), bL_isPart_1428, bL_isPart_1455 (by first | omega | exact xB_in _ | exact xB_01 _ | exact iAnd_in | exact iShr_in | (simp only [Int.toNat_natCast]; omega) | decide) (by first | omega | exact xB_in _ | exact xB_01 _ | exact iAnd_in | exact iShr_in | (simp only [Int.toNat_natCast]; omega) | decide), if_pos (by first | omega | decide), bL_isPart_1458, bL_isPart_1463 (by first | omega | exact xB_in _ | exact xB_01 _ | exact iAnd_in | exact iShr_in | (simp only [Int.toNat_natCast]; omega) | decide)]
  | true =>
    rw [if_neg (by decide)] at hc
    cases right with
    | false => rw [if_pos rfl] at hc; subst hc; rw [bL_isPart_1423 (by first | omega | exact xB_in _ | exact xB_01 _ | exact iAnd_in | exact iShr_in | (simp only [Int.toNat_natCast]; omega) | decide), if_neg (by first | omega | decide), bL_isPart_1433 (by first | omega | exact xB_in _ | exact xB_01 _ | exact iAnd_in | exact iShr_in | (simp only [Int.toNat_natCast]; omega) | decide), if_pos (by first | omega | decide), bL_isPart_1438, bL_isPart_1455 (by first | omega | exact xB_in _ | exact xB_01 _ | exact iAnd_in | exact iShr_in | (simp only [Int.toNat_natCast]; omega) | decide) (by first | omega | exact xB_in _ | exact xB_01 _ | exact iAnd_in | exact iShr_in | (simp only [Int.toNat_natCast]; omega) | decide), if_pos (by first | omega | decide), bL_isPart_1458, bL_isPart_1463 (by first | omega | exact xB_in _ | exact xB_01 _ | exact iAnd_in | exact iShr_in | (simp only [Int.toNat_natCast]; omega) | decide)]
    | true =>
      rw [if_neg (by decide)] at hc
      cases can with
      | false => rw [if_pos rfl] at hc; subst hc; rw [bL_isPart_1423 (by first | omega | exact xB_in _ | exact xB_01 _ | exact iAnd_in | exact iShr_in | (simp only [Int.toNat_natCast]; omega) | decide), if_neg (by first | omega | decide), bL_isPart_1433 (by first | omega | exact xB_in _ | exact xB_01 _ | exact iAnd_in | exact iShr_in | (simp only [Int.toNat_natCast]; omega) | decide), if_neg (by first | omega | decide), bL_isPart_1443 (by first | omega | exact xB_in _ | exact xB_01 _ | exact iAnd_in | exact iShr_in | (simp only [Int.toNat_natCast]; omega) | decide), if_pos (by first | omega | decide), bL_isPart_1453, bL_isPart_1455 (by first | omega | exact xB_in _ | exact xB_01 _ | exact iAnd_in | exact iShr_in | (simp only [Int.toNat_natCast]; omega) | decide) (by first | omega | exact xB_in _ | exact xB_01 _ | exact iAnd_in | exact iShr_in | (simp only [Int.toNat_natCast]; omega) | decide), if_pos (by first | omega | decide), bL_isPart_1458, bL_isPart_1463 (by first | omega | exact xB_in _ | exact xB_01 _ | exact iAnd_in | exact iShr_in | (simp only [Int.toNat_natCast]; omega) | decide)]
      | true => rw [if_neg (by decide)] at hc; subst hc; rw [bL_isPart_1423 (by first | omega | exact xB_in _ | exact xB_01 _ | exact iAnd_in | exact iShr_in | (simp only [Int.toNat_natCast]; omega) | decide), if_neg (by first | omega | decide), bL_isPart_1433 (by first | omega | exact xB_in _ | exact xB_01 _ | exact iAnd_in | exact iShr_in | (simp only [Int.toNat_natCast]; omega) | decide), if_neg (by first | omega | decide), bL_isPart_1443 (by first | omega | exact xB_in _ | exact xB_01 _ | exact iAnd_in | exact iShr_in | (simp only [Int.toNat_natCast]; omega) | decide), if_neg (by first | omega | decide), bL_isPart_1448, bL_isPart_1455 (by first | omega | exact xB_in _ | exact xB_01 _ | exact iAnd_in | exact iShr_in | (simp only [Int.toNat_natCast]; omega) | decide) (by first | omega | exact xB_in _ | exact xB_01 _ | exact iAnd_in | exact iShr_in | (simp only [Int.toNat_natCast]; omega) | decide), if_pos (by first | omega | decide), bL_isPart_1458, bL_isPart_1463 (by first | omega | exact xB_in _ | exact xB_01 _ | exact iAnd_in | exact iShr_in | (simp only [Int.toNat_natCast]; omega) | decide)]
theorem sew_end2 {are right can : Bool} {n c va vb vc : Int} {o0 o1 o2 o3 o4 o5 o6 o7 o8 o9 o10 o11 o12 o13 o14 o15 o20 o21 : Option Value} (ha : va = xB are) (hb : vb = xB right) (hcn : vc = xB can) (hn : -100000 ≤ n ∧ n ≤ 100000) (hc : c = if are = false then (-3000000 : Int) else if right = false then -2000000 else if can = false then -1000000 else n) :
    XR sc d 107 1423 [o0, o1, o2, o3, o4, o5, o6, o7, o8, o9, o10, o11, o12, o13, o14, o15, some (xw va), some (xw vb), some (xw vc), some (xw n), o20, o21] [xw c] (T, z, xv V, J, R) = some (.inl (some (xw 1)), (T, z, xv V, J, R)) := by
  subst ha hb hcn
  exact sew_end hn hc
theorem xSew_0 {V : Nat → Nat → Int} {a : Nat} : xSew V a = 0 ↔ ¬ (V a 8 < 4 ∧ V a 11 = -1 ∧ V a 12 = 0) := by
  unfold xSew
  by_cases c1 : 4 ≤ V a 8
  · rw [if_pos c1]; exact ⟨fun _ q => by omega, fun _ => rfl⟩
  · rw [if_neg c1]
    by_cases c2 : V a 11 = -1
    · rw [if_pos c2]
      by_cases c3 : V a 12 = 0
      · rw [if_pos c3]; exact ⟨fun q => absurd q (by decide), fun q => absurd ⟨by omega, c2, c3⟩ q⟩
      · rw [if_neg c3]; exact ⟨fun _ q => c3 q.2.2, fun _ => rfl⟩
    · rw [if_neg c2]; exact ⟨fun _ q => c2 q.2.1, fun _ => rfl⟩
/-- what the seam holds, by the law -/
theorem sew_num {q : Nat} {its pr th : Int} {o0 o2 o3 o4 o5 o6 o7 o8 o9 o10 o12 o16 o17 o18 o19 : Option Value} (hA : pAr T) (hq : q ≤ 10) (h7 : 0 ≤ V 57 q ∧ V 57 q < 1048576) (hi : 0 ≤ its ∧ its < 1048576) (h1 : 1 ≤ pr ∧ pr ≤ 12) (h2 : 1 ≤ th ∧ th ≤ 50) :
    ∃ o20 o21 : Option Value, XR sc d 107 1272 [o0, some (.ref 57), o2, o3, o4, o5, o6, o7, o8, o9, o10, some (xw its), o12, some (xw q), some (xw pr), some (xw th), o16, o17, o18, o19, none, none] [] (T, z, xv V, J, R) =
      XR sc d 107 1386 [o0, some (.ref 57), o2, o3, o4, o5, o6, o7, o8, o9, o10, some (xw its), o12, some (xw q), some (xw pr), some (xw th), o16, o17, o18, o19, o20, o21] [xw (min (pr * th) (min (its / 256 % 16) (V 57 q / 256 % 16) * (20 - pr))), xw (min (its % 16) (V 57 q % 16))] (T, z, xv V, J, R) := by
  have e3 : ∀ (c h : Int), 0 ≤ h ∧ h ≤ 15 → XR sc d 107 1350 [o0, some (.ref 57), o2, o3, o4, o5, o6, o7, o8, o9, o10, some (xw its), o12, some (xw q), some (xw pr), some (xw th), o16, o17, o18, o19, some (xw c), none] [xw h] (T, z, xv V, J, R) =
      XR sc d 107 1386 [o0, some (.ref 57), o2, o3, o4, o5, o6, o7, o8, o9, o10, some (xw its), o12, some (xw q), some (xw pr), some (xw th), o16, o17, o18, o19, some (xw c), some (xw h)] [xw (min (pr * th) (h * (20 - pr))), xw c] (T, z, xv V, J, R) := by
    intro c h hh
    have b1 := mul_bd (a := pr) (b := th) (A := 12) (B := 50) (by omega) (by omega)
    have b2 := mul_bd (a := h) (b := 20 - pr) (A := 15) (B := 20) (by omega) (by omega)
    rw [bL_isPart_1350 (by omega) (by omega)]
    by_cases e : h * (20 - pr) ≤ pr * th
    · rw [if_pos e, bL_isPart_1378, Int.min_eq_right e]
    · rw [if_neg e, bL_isPart_1370, Int.min_eq_left (by omega)]
  have e2 : ∀ c : Int, XR sc d 107 1302 [o0, some (.ref 57), o2, o3, o4, o5, o6, o7, o8, o9, o10, some (xw its), o12, some (xw q), some (xw pr), some (xw th), o16, o17, o18, o19, none, none] [xw c] (T, z, xv V, J, R) =
      XR sc d 107 1350 [o0, some (.ref 57), o2, o3, o4, o5, o6, o7, o8, o9, o10, some (xw its), o12, some (xw q), some (xw pr), some (xw th), o16, o17, o18, o19, some (xw c), none] [xw (min (its / 256 % 16) (V 57 q / 256 % 16))] (T, z, xv V, J, R) := by
    intro c
    rw [bL_isPart_1302 (by first | omega | exact xB_in _ | exact xB_01 _ | exact iAnd_in | exact iShr_in | (simp only [Int.toNat_natCast]; omega) | decide) (by first | omega | exact xB_in _ | exact xB_01 _ | exact iAnd_in | exact iShr_in | (simp only [Int.toNat_natCast]; omega) | decide) (by rw [pA57 hA]) (by rw [pA57 hA]; omega) (by first | omega | exact xB_in _ | exact xB_01 _ | exact iAnd_in | exact iShr_in | (simp only [Int.toNat_natCast]; omega) | decide) (by first | omega | exact xB_in _ | exact xB_01 _ | exact iAnd_in | exact iShr_in | (simp only [Int.toNat_natCast]; omega) | decide) (by first | omega | exact xB_in _ | exact xB_01 _ | exact iAnd_in | exact iShr_in | (simp only [Int.toNat_natCast]; omega) | decide) (by first | omega | exact xB_in _ | exact xB_01 _ | exact iAnd_in | exact iShr_in | (simp only [Int.toNat_natCast]; omega) | decide), Int.toNat_natCast]
    by_cases e : V 57 q / 256 % 16 ≤ its / 256 % 16
    · rw [if_pos e, bL_isPart_1339 (by rw [pA57 hA]) (by rw [pA57 hA]; omega) (by first | omega | exact xB_in _ | exact xB_01 _ | exact iAnd_in | exact iShr_in | (simp only [Int.toNat_natCast]; omega) | decide) (by first | omega | exact xB_in _ | exact xB_01 _ | exact iAnd_in | exact iShr_in | (simp only [Int.toNat_natCast]; omega) | decide), Int.toNat_natCast, Int.min_eq_right e]
    · rw [if_neg e, bL_isPart_1327 (by first | omega | exact xB_in _ | exact xB_01 _ | exact iAnd_in | exact iShr_in | (simp only [Int.toNat_natCast]; omega) | decide) (by first | omega | exact xB_in _ | exact xB_01 _ | exact iAnd_in | exact iShr_in | (simp only [Int.toNat_natCast]; omega) | decide), Int.min_eq_left (by omega)]
  refine ⟨some (xw (min (its % 16) (V 57 q % 16))), some (xw (min (its / 256 % 16) (V 57 q / 256 % 16))), ?_⟩
  · rw [bL_isPart_1272 (by first | omega | exact xB_in _ | exact xB_01 _ | exact iAnd_in | exact iShr_in | (simp only [Int.toNat_natCast]; omega) | decide) (by rw [pA57 hA]) (by rw [pA57 hA]; omega) (by first | omega | exact xB_in _ | exact xB_01 _ | exact iAnd_in | exact iShr_in | (simp only [Int.toNat_natCast]; omega) | decide) (by first | omega | exact xB_in _ | exact xB_01 _ | exact iAnd_in | exact iShr_in | (simp only [Int.toNat_natCast]; omega) | decide) (by first | omega | exact xB_in _ | exact xB_01 _ | exact iAnd_in | exact iShr_in | (simp only [Int.toNat_natCast]; omega) | decide), Int.toNat_natCast]
    have fin : ∀ c : Int, XR sc d 107 1302 [o0, some (.ref 57), o2, o3, o4, o5, o6, o7, o8, o9, o10, some (xw its), o12, some (xw q), some (xw pr), some (xw th), o16, o17, o18, o19, none, none] [xw c] (T, z, xv V, J, R) = _ := fun c => (e2 c).trans (e3 c _ (by omega))
    by_cases e : V 57 q % 16 ≤ its % 16
    · rw [if_pos e, bL_isPart_1295 (by rw [pA57 hA]) (by rw [pA57 hA]; omega) (by first | omega | exact xB_in _ | exact xB_01 _ | exact iAnd_in | exact iShr_in | (simp only [Int.toNat_natCast]; omega) | decide), Int.toNat_natCast, Int.min_eq_right e]; exact fin _
    · rw [if_neg e, bL_isPart_1287 (by first | omega | exact xB_in _ | exact xB_01 _ | exact iAnd_in | exact iShr_in | (simp only [Int.toNat_natCast]; omega) | decide), Int.min_eq_left (by omega)]; exact fin _
/-- sew -/
theorem t_sew {i : Nat} {one two : Int} (hI : qInv i T z V R) (hi : i ≤ 63) (h1 : 0 ≤ one ∧ one < 60000) (h2 : 0 ≤ two ∧ two < 60000) : qDone (X sc 11 107 [.ref 0, .ref 57, .ref 58, .ref 59, .ref 60, .ref 63, xw 6, xw one, xw two] (T, z, xv V, J, R)) i z := by
  obtain ⟨hT, hRo, hHs, hSs, hSe, hA⟩ := hI.1
  have hz := hI.2.1
  obtain ⟨P, hP⟩ := hI.2.2.2.1
  obtain ⟨⟨r1, r2, r3⟩, r4, ⟨r5, r5b⟩, r6, r7⟩ := id hP
  obtain ⟨p, its, a1, a2, a0, a3⟩ := pt_start (sc := sc) (d := 10) (T := T) (z := z) (V := V) (J := J) (R := R) (what := 6) (two := two) hA ⟨r1, r3⟩ (qp_b hP) h1
  have m0 := Int.emod_nonneg two (show V 63 1 + 1 ≠ 0 by omega)
  have m1 := Int.emod_lt_of_pos two (show 0 < V 63 1 + 1 by omega)
  obtain ⟨q, eq⟩ : ∃ m : Nat, two % (V 63 1 + 1) = m := ⟨(two % (V 63 1 + 1)).toNat, by omega⟩
  rw [eq] at m0 m1
  obtain ⟨pr, epr⟩ : ∃ x : Int, two / 11 % 14 = x := ⟨_, rfl⟩
  obtain ⟨th, eth⟩ : ∃ x : Int, one / 11 % 52 = x := ⟨_, rfl⟩
  have hpr : 0 ≤ pr ∧ pr ≤ 13 := by omega
  have hth : 0 ≤ th ∧ th ≤ 51 := by omega
  have hq : q ≤ P := by omega
  rw [a3, bL_isPart_67 (by first | omega | exact xB_in _ | exact xB_01 _ | exact iAnd_in | exact iShr_in | (simp only [Int.toNat_natCast]; omega) | decide), if_neg (by first | omega | decide), bL_isPart_245 (by first | omega | exact xB_in _ | exact xB_01 _ | exact iAnd_in | exact iShr_in | (simp only [Int.toNat_natCast]; omega) | decide), if_neg (by first | omega | decide), bL_isPart_444 (by first | omega | exact xB_in _ | exact xB_01 _ | exact iAnd_in | exact iShr_in | (simp only [Int.toNat_natCast]; omega) | decide), if_neg (by first | omega | decide), bL_isPart_725 (by first | omega | exact xB_in _ | exact xB_01 _ | exact iAnd_in | exact iShr_in | (simp only [Int.toNat_natCast]; omega) | decide), if_neg (by first | omega | decide), bL_isPart_832 (by first | omega | exact xB_in _ | exact xB_01 _ | exact iAnd_in | exact iShr_in | (simp only [Int.toNat_natCast]; omega) | decide), if_neg (by first | omega | decide), bL_isPart_1049 (by first | omega | exact xB_in _ | exact xB_01 _ | exact iAnd_in | exact iShr_in | (simp only [Int.toNat_natCast]; omega) | decide), if_neg (by first | omega | decide), bL_isPart_1109 (by rw [pA63 hA]) (by rw [pA63 hA]; omega) (by omega) (by omega) (by omega) (by omega) (by omega) (xB_in _), eq, epr, eth]
  clear a3
  have fin1 : (∀ W : Nat → Nat → Int, W = V → X sc 9 65 [.ref 0, xw p, xw q, xw pr, xw th] (T, z, xv W, J, R) = xTw 10 T z W J R) → ∀ (o10 o12 : Option Value), qDone (XR sc 10 107 1158 [some (.ref 0), some (.ref 57), some (.ref 58), some (.ref 59), some (.ref 60), some (.ref 63), some (xw 6), some (xw one), some (xw two), some (xw p), o10, some (xw its), o12, some (xw q), some (xw pr), some (xw th), none, none, none, none, none, none] [] (T, z, xv V, J, R)) i z := by
    intro cls o10 o12
    have cls := cls V rfl
    rw [bL_isPart_1158, sew_right (by omega) (by omega) hpr hth, bL_isPart_1197 (by decide), if_pos rfl, bL_isPart_1261, bL_isPart_1262 (by first | omega | exact xB_in _ | exact xB_01 _ | exact iAnd_in | exact iShr_in | (simp only [Int.toNat_natCast]; omega) | decide), if_pos (by first | omega | decide), bL_isPart_1407, dx_sew hT.1 (by decide) cls, xret_v, sew_end2 (are := false) (va := 0) (right := decide (¬ p = q ∧ (1 ≤ pr ∧ pr ≤ 12) ∧ (1 ≤ th ∧ th ≤ 50))) (vb := xB (decide (¬ p = q ∧ (1 ≤ pr ∧ pr ≤ 12) ∧ (1 ≤ th ∧ th ≤ 50)))) (can := false) (vc := 0) rfl rfl rfl (by decide) (by rw [if_pos rfl]; rfl)]
    exact done_x hI pDu_r
  by_cases cp : p < P
  · rw [if_pos cp] at a2
    obtain ⟨a, ea, ha, g1⟩ := qp_y hP cp
    have va := qp_va g1 (by omega)
    have v11 := qp_11 g1
    obtain ⟨⟨hPa, ga, gn⟩, ⟨w0, w1, w2, w3, w5, w4⟩, ⟨w7, w8, w12⟩, ⟨w9, w10, w11⟩, ⟨b0, b1, b5, b8, b57, b58⟩, ⟨st, b60, s60⟩, ⟨b59, t2, t3⟩, w6⟩ := id g1
    rw [decide_eq_true cp, if_neg (by decide), bL_isPart_1145 (by rw [pA63 hA]) (by rw [pA63 hA]; omega) (by omega) (by omega)]
    by_cases cq : q < P
    · obtain ⟨b, eb, hb, g2⟩ := qp_y hP cq
      have vb := qp_va g2 (by omega)
      have v11' := qp_11 g2
      obtain ⟨⟨hPb, gb, gbn⟩, ⟨u0, u1, u2, u3, u5, u4⟩, ⟨u7, u8, u12⟩, ⟨u9, u10, u11⟩, ⟨x0, x1, x5, x8, x57, x58⟩, ⟨xst, x60, xs60⟩, _, _⟩ := id g2
      have hab : ¬ p = q → ¬ a = b := fun e w => e (r7 p q cp cq (by rw [ea, eb, w]))
      have clsOf : ∀ W : Nat → Nat → Int, W a = V a → W b = V b → X sc 9 65 [.ref 0, xw p, xw q, xw pr, xw th] (T, z, xv W, J, R) = if (¬ (p : Int) = q) ∧ (1 ≤ pr ∧ pr ≤ 12) ∧ (1 ≤ th ∧ th ≤ 50) then (if xSew W a = 0 ∨ xSew W b = 0 then xTw 9 T z W J R else some (.inl (some (xw (min (pr * min (V a 0) (V b 0) * th) (min (V a 5) (V b 5) * (20 - pr) * min (V a 0) (V b 0))))), (T, z, xv (xSm2 W a b), J, R))) else xTw 8 T z W J R := fun W hWa hWb => by
        have cls := s_sew (sc := sc) (d := 1) (T := T) (z := z) (V := W) (J := J) (R := R) (x := (p : Int)) (y := (q : Int)) (p := pr) (t := th) (a := a) (b := b) hT (by omega) (by rw [Int.toNat_natCast]; exact ha) hPa.1 (by omega) (by rw [Int.toNat_natCast]; exact hb) hPb.1 (fun e => hab (fun w => e (by rw [w]))) (by rw [hWa]; exact va) (by rw [hWb]; exact vb) (by rw [hWa]; omega) (by rw [hWb]; omega) (by rw [hWa]; omega) (by rw [hWb]; omega) (by omega) (by omega)
        rw [hWa, hWb] at cls
        exact cls
      rw [if_neg (by omega), bL_isPart_1154, sew_right (by omega) (by omega) hpr hth]
      by_cases cr : ¬ p = q ∧ (1 ≤ pr ∧ pr ≤ 12) ∧ (1 ≤ th ∧ th ≤ 50)
      · have cr' : (¬ (p : Int) = q) ∧ (1 ≤ pr ∧ pr ≤ 12) ∧ (1 ≤ th ∧ th ≤ 50) := ⟨fun e => cr.1 (by omega), cr.2⟩
        rw [decide_eq_true cr, bL_isPart_1197 (by decide), if_neg (by decide), bL_isPart_1204 (by decide), if_neg (by decide)]
        by_cases cc : (V 60 p = 0 ∧ its < 524288) ∧ (V 60 q = 0 ∧ V 57 q < 524288) ∧ its / 65536 % 8 < 4 ∧ V 57 q / 65536 % 8 < 4
        · have s1 : ∀ x : Nat → Nat → Int, x a = V a → ¬ xSew x a = 0 := fun x hx e => (xSew_0.mp e) (by rw [hx]; exact ⟨by omega, v11.mpr cc.1.1, by omega⟩)
          have s2 : ∀ x : Nat → Nat → Int, x b = V b → ¬ xSew x b = 0 := fun x hx e => (xSew_0.mp e) (by rw [hx]; exact ⟨by omega, v11'.mpr cc.2.1.1, by omega⟩)
          rw [decide_eq_true (show p < P ∧ V 60 p = 0 ∧ its < 524288 from ⟨cp, cc.1⟩), bL_isPart_1209 (by decide), if_neg (by decide), bL_isPart_1214 (by rw [pA60 hA]) (by rw [pA60 hA]; omega) (by first | omega | exact xB_in _ | exact xB_01 _ | exact iAnd_in | exact iShr_in | (simp only [Int.toNat_natCast]; omega) | decide), Int.toNat_natCast, if_pos cc.2.1.1, bL_isPart_1222 (by rw [pA57 hA]) (by rw [pA57 hA]; omega) (by first | omega | exact xB_in _ | exact xB_01 _ | exact iAnd_in | exact iShr_in | (simp only [Int.toNat_natCast]; omega) | decide), Int.toNat_natCast, if_neg (by omega), bL_isPart_1231 (by first | omega | exact xB_in _ | exact xB_01 _ | exact iAnd_in | exact iShr_in | (simp only [Int.toNat_natCast]; omega) | decide) (by first | omega | exact xB_in _ | exact xB_01 _ | exact iAnd_in | exact iShr_in | (simp only [Int.toNat_natCast]; omega) | decide) (by first | omega | exact xB_in _ | exact xB_01 _ | exact iAnd_in | exact iShr_in | (simp only [Int.toNat_natCast]; omega) | decide), if_neg (by first | omega | decide), bL_isPart_1243 (by rw [pA57 hA]) (by rw [pA57 hA]; omega) (by first | omega | exact xB_in _ | exact xB_01 _ | exact iAnd_in | exact iShr_in | (simp only [Int.toNat_natCast]; omega) | decide) (by first | omega | exact xB_in _ | exact xB_01 _ | exact iAnd_in | exact iShr_in | (simp only [Int.toNat_natCast]; omega) | decide) (by first | omega | exact xB_in _ | exact xB_01 _ | exact iAnd_in | exact iShr_in | (simp only [Int.toNat_natCast]; omega) | decide), Int.toNat_natCast, if_neg (by omega), bL_isPart_1257, bL_isPart_1262 (by first | omega | exact xB_in _ | exact xB_01 _ | exact iAnd_in | exact iShr_in | (simp only [Int.toNat_natCast]; omega) | decide), if_neg (by first | omega | decide)]
          obtain ⟨o20, o21, nm⟩ := sew_num (sc := sc) (d := 10) (T := T) (z := z) (V := V) (J := J) (R := R) (q := q) (its := its) (pr := pr) (th := th) (o0 := some (.ref 0)) (o2 := some (.ref 58)) (o3 := some (.ref 59)) (o4 := some (.ref 60)) (o5 := some (.ref 63)) (o6 := some (xw 6)) (o7 := some (xw one)) (o8 := some (xw two)) (o9 := some (xw p)) (o10 := some (xw (xB true))) (o12 := some (xw (xB true))) (o16 := some (xw 1)) (o17 := some (xw (xB true))) (o18 := some (xw 1)) (o19 := some (xw 0)) hA (by omega) x57 (by omega) cr.2.1 cr.2.2
          rw [nm, bL_isPart_1386 (by rw [pA57 hA]) (by rw [pA57 hA]; omega) (by rw [pA57 hA]; omega), Int.toNat_natCast, Int.toNat_natCast, xup2_j (show ¬ q = p from fun e => cr.1 e.symm)]
          have Wa : xup2 (xup2 V 57 p (V 57 p + 65536)) 57 q (V 57 q + 65536) a = V a := by rw [xup2_o (by omega), xup2_o (by omega)]
          have Wb : xup2 (xup2 V 57 p (V 57 p + 65536)) 57 q (V 57 q + 65536) b = V b := by rw [xup2_o (by omega), xup2_o (by omega)]
          have cls := clsOf _ Wa Wb
          rw [if_pos cr', if_neg (fun e => e.elim (s1 _ Wa) (s2 _ Wb)), show V a 0 = its % 16 by rw [a2]; exact w0, u0, show V a 5 = its / 256 % 16 by rw [a2]; exact w5, u5, mn_mul (by omega)] at cls
          have n1 := mul_bd (a := pr) (b := th) (A := 12) (B := 50) (by omega) (by omega)
          have n2 := mul_bd (a := min (its / 256 % 16) (V 57 q / 256 % 16)) (b := 20 - pr) (A := 15) (B := 20) (by omega) (by omega)
          have nb := mul_bd (a := min (its % 16) (V 57 q % 16)) (b := min (pr * th) (min (its / 256 % 16) (V 57 q / 256 % 16) * (20 - pr))) (A := 15) (B := 600) (by omega) (by omega)
          rw [bL_isPart_1407, dv_sew hT.1 cls, xret_v, sew_end2 (are := true) (va := 1) (right := true) (vb := xB true) (can := true) (vc := 1) rfl rfl rfl (by omega) (by rw [if_neg (by decide), if_neg (by decide), if_neg (by decide)])]
          -- part by part
          have hab' := hab cr.1
          have V1 : ∀ x j, xup2 (xup2 V 57 p (V 57 p + 65536)) a 8 (V a 8 + 1) x j = if x = 57 ∧ j = p then V 57 p + 65536 else if x = a ∧ j = 8 then V a 8 + 1 else V x j := fun x j => by
            unfold xup2
            by_cases e1 : x = a ∧ j = 8
            · rw [if_pos e1, if_neg (by omega), if_pos e1]
            · rw [if_neg e1, if_neg e1]
          have I1 := qInv_m hI hP cp ea (by omega) V1
          obtain ⟨P', hP'⟩ := I1.2.2.2.1
          have eP : P' = P := by
            have h3 := hP'.1.2.2
            rw [V1, if_neg (by omega), if_neg (by omega)] at h3
            omega
          rw [eP] at hP'
          refine done_v (qInv_le (qInv_m I1 hP' cq eb (by rw [V1, if_neg (by omega), if_neg (by omega)]; omega) (fun x j => ?_)) (Nat.le_succ i))
          have y1 : xup2 (xup2 V 57 p (V 57 p + 65536)) a 8 (V a 8 + 1) 57 q = V 57 q := by rw [V1, if_neg (by omega), if_neg (by omega)]
          have y2 : xup2 (xup2 V 57 p (V 57 p + 65536)) a 8 (V a 8 + 1) b 8 = V b 8 := by rw [V1, if_neg (by omega), if_neg (by omega)]
          rw [y1, y2, V1 x j]
          unfold xSm2
          rw [Wa, Wb]
          unfold xup2
          by_cases e1 : x = b ∧ j = 8
          · rw [if_pos e1, if_neg (by omega), if_pos e1]
          · rw [if_neg e1, if_neg e1]
            by_cases e2 : x = a ∧ j = 8
            · rw [if_pos e2, if_neg (by omega), if_neg (by omega), if_pos e2]
            · rw [if_neg e2, if_neg e2]
        · have thr : xSew V a = 0 ∨ xSew V b = 0 := by
            by_cases d1 : (V 60 p = 0 ∧ its < 524288) ∧ its / 65536 % 8 < 4
            · refine Or.inr (xSew_0.mpr (fun e => cc ⟨d1.1, ⟨v11'.mp e.2.1, by omega⟩, d1.2, by omega⟩))
            · refine Or.inl (xSew_0.mpr (fun e => d1 ⟨⟨v11.mp e.2.1, by omega⟩, by omega⟩))
          have cls := clsOf V rfl rfl
          rw [if_pos cr', if_pos thr] at cls
          have fin3 : ∀ o12 : Option Value, qDone (XR sc 10 107 1261 [some (.ref 0), some (.ref 57), some (.ref 58), some (.ref 59), some (.ref 60), some (.ref 63), some (xw 6), some (xw one), some (xw two), some (xw p), some (xw (xB true)), some (xw its), o12, some (xw q), some (xw pr), some (xw th), some (xw 1), some (xw (xB true)), none, none, none, none] [] (T, z, xv V, J, R)) i z := fun o12 => by
            rw [bL_isPart_1261, bL_isPart_1262 (by first | omega | exact xB_in _ | exact xB_01 _ | exact iAnd_in | exact iShr_in | (simp only [Int.toNat_natCast]; omega) | decide), if_pos (by first | omega | decide), bL_isPart_1407, dx_sew hT.1 (by decide) cls, xret_v, sew_end2 (are := true) (va := 1) (right := true) (vb := xB true) (can := false) (vc := 0) rfl rfl rfl (by decide) (by rw [if_neg (by decide), if_neg (by decide), if_pos rfl]; rfl)]
            exact done_x hI pDu_r
          rw [bL_isPart_1209 (xB_in _)]
          by_cases d1 : V 60 p = 0 ∧ its < 524288
          · rw [decide_eq_true (show p < P ∧ V 60 p = 0 ∧ its < 524288 from ⟨cp, d1⟩), if_neg (by decide), bL_isPart_1214 (by rw [pA60 hA]) (by rw [pA60 hA]; omega) (by first | omega | exact xB_in _ | exact xB_01 _ | exact iAnd_in | exact iShr_in | (simp only [Int.toNat_natCast]; omega) | decide), Int.toNat_natCast]
            by_cases d2 : V 60 q = 0
            · rw [if_pos d2, bL_isPart_1222 (by rw [pA57 hA]) (by rw [pA57 hA]; omega) (by first | omega | exact xB_in _ | exact xB_01 _ | exact iAnd_in | exact iShr_in | (simp only [Int.toNat_natCast]; omega) | decide), Int.toNat_natCast]
              by_cases d3 : 524288 ≤ V 57 q
              · rw [if_pos d3]; exact fin3 _
              · rw [if_neg d3]
                by_cases d4 : 4 ≤ its / 65536 % 8
                · rw [bL_isPart_1231 (by first | omega | exact xB_in _ | exact xB_01 _ | exact iAnd_in | exact iShr_in | (simp only [Int.toNat_natCast]; omega) | decide) (by first | omega | exact xB_in _ | exact xB_01 _ | exact iAnd_in | exact iShr_in | (simp only [Int.toNat_natCast]; omega) | decide) (by first | omega | exact xB_in _ | exact xB_01 _ | exact iAnd_in | exact iShr_in | (simp only [Int.toNat_natCast]; omega) | decide), if_pos (by first | omega | decide)]; exact fin3 _
                · rw [bL_isPart_1231 (by first | omega | exact xB_in _ | exact xB_01 _ | exact iAnd_in | exact iShr_in | (simp only [Int.toNat_natCast]; omega) | decide) (by first | omega | exact xB_in _ | exact xB_01 _ | exact iAnd_in | exact iShr_in | (simp only [Int.toNat_natCast]; omega) | decide) (by first | omega | exact xB_in _ | exact xB_01 _ | exact iAnd_in | exact iShr_in | (simp only [Int.toNat_natCast]; omega) | decide), if_neg (by first | omega | decide), bL_isPart_1243 (by rw [pA57 hA]) (by rw [pA57 hA]; omega) (by first | omega | exact xB_in _ | exact xB_01 _ | exact iAnd_in | exact iShr_in | (simp only [Int.toNat_natCast]; omega) | decide) (by first | omega | exact xB_in _ | exact xB_01 _ | exact iAnd_in | exact iShr_in | (simp only [Int.toNat_natCast]; omega) | decide) (by first | omega | exact xB_in _ | exact xB_01 _ | exact iAnd_in | exact iShr_in | (simp only [Int.toNat_natCast]; omega) | decide), Int.toNat_natCast, if_pos (by have := cc; omega)]; exact fin3 _
            · rw [if_neg d2]; exact fin3 _
          · rw [decide_eq_false (show ¬ (p < P ∧ V 60 p = 0 ∧ its < 524288) from fun e => d1 e.2), if_pos (show xB false = 0 from rfl)]; exact fin3 _
      · have cls := clsOf V rfl rfl
        rw [if_neg (fun e => cr ⟨fun w => e.1 (by rw [w]), e.2⟩)] at cls
        rw [decide_eq_false cr, bL_isPart_1197 (by decide), if_neg (by decide), bL_isPart_1204 (by decide), if_pos (show xB false = 0 from rfl), bL_isPart_1261, bL_isPart_1262 (by first | omega | exact xB_in _ | exact xB_01 _ | exact iAnd_in | exact iShr_in | (simp only [Int.toNat_natCast]; omega) | decide), if_pos (by first | omega | decide), bL_isPart_1407, dx_sew hT.1 (by decide) cls, xret_v, sew_end2 (are := true) (va := 1) (right := false) (vb := xB false) (can := false) (vc := 0) rfl rfl rfl (by decide) (by rw [if_neg (by decide), if_pos rfl]; rfl)]
        exact done_x hI pDu_r
    · rw [if_pos (by omega)]
      refine fin1 (fun W hW => ?_) _ _
      subst hW
      exact s_sew_x2 (sc := sc) (d := 1) (T := T) (z := z) (J := J) (R := R) (x := (p : Int)) (y := (q : Int)) hT (by omega) (by rw [Int.toNat_natCast]; exact ha) (by omega) (qp_no hP (by omega))
  · rw [decide_eq_false cp, if_pos (show xB false = 0 from rfl)]
    refine fin1 (fun W hW => ?_) _ _
    subst hW
    exact s_sew_x1 (sc := sc) (d := 1) (T := T) (z := z) (J := J) (R := R) (x := (p : Int)) (y := (q : Int)) hT (by omega) (qp_no hP (by omega))
end P17
