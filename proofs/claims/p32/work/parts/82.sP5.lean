/-! the property's law: pulls -/
/-- broken, rings, length, as rows 67 to 70 -/
def pS (V : Nat → Nat → Int) : Nat → Nat → Int := fun r => if r = 67 then fun p => V 57 p / 524288 else if r = 68 then pO V else if r = 69 then pQ V else if r = 70 then pL V else fun _ => 0
theorem pS67 {V : Nat → Nat → Int} : pS V 67 = fun p => V 57 p / 524288 := rfl
theorem pS68 {V : Nat → Nat → Int} : pS V 68 = pO V := rfl
theorem pS69 {V : Nat → Nat → Int} : pS V 69 = pQ V := rfl
theorem pS70 {V : Nat → Nat → Int} : pS V 70 = pL V := rfl
theorem pS_e {V V' : Nat → Nat → Int} (h7 : V' 57 = V 57) (h0 : V' 60 = V 60) : pS V' = pS V := by
  unfold pS
  rw [h7, (pO_e h0).1, (pO_e h0).2.1, (pO_e h0).2.2]
/-- the law's strengths -/
def pSs (V : Nat → Nat → Int) (p : Nat) : Int := pSt (V 57 p) (V 58 p) (V 59 p)
theorem pSs_0 {V : Nat → Nat → Int} {p : Nat} : 0 ≤ pSs V p := by unfold pSs pSt; omega
theorem pO_br {V : Nat → Nat → Int} {k : Nat} {v : Int} : pO (xup2 (xup2 V 57 k v) 60 k 0) = va_up (pO V) k (-1) ∧ pQ (xup2 (xup2 V 57 k v) 60 k 0) = va_up (pQ V) k (-1) ∧ pL (xup2 (xup2 V 57 k v) 60 k 0) = va_up (pL V) k (-1) := by
  refine ⟨?_, ?_, ?_⟩ <;> funext p
  · unfold pO
    by_cases e : p = k
    · subst e; rw [xup2_i, va_same, if_pos (by decide)]
    · rw [xup2_j e, xup2_o (by decide), va_ne e]
  · unfold pQ
    by_cases e : p = k
    · subst e; rw [xup2_i, va_same, if_pos (by decide)]
    · rw [xup2_j e, xup2_o (by decide), va_ne e]
  · unfold pL
    by_cases e : p = k
    · subst e; rw [xup2_i, va_same, if_pos (by decide)]
    · rw [xup2_j e, xup2_o (by decide), va_ne e]
theorem pS_br {V : Nat → Nat → Int} {k : Nat} (hk : 0 ≤ V 57 k ∧ V 57 k < 524288) : pS (xup2 (xup2 V 57 k (V 57 k + 524288)) 60 k 0) = aFr1 (pS V) k := by
  obtain ⟨r68, r69, r70, r67, ro⟩ := aFr1_r (V := pS V) (k := k)
  obtain ⟨o1, o2, o3⟩ := pO_br (V := V) (k := k) (v := V 57 k + 524288)
  funext r
  by_cases c67 : r = 67
  · subst c67
    rw [r67, pS67, pS67]
    funext p
    by_cases e : p = k
    · subst e; rw [xup2_o (by decide), xup2_i, va_same]; omega
    · rw [xup2_o (by decide), xup2_j e, va_ne e]
  by_cases c68 : r = 68
  · subst c68; rw [r68, pS68, pS68, o1]
  by_cases c69 : r = 69
  · subst c69; rw [r69, pS69, pS69, o2]
  by_cases c70 : r = 70
  · subst c70; rw [r70, pS70, pS70, o3]
  · rw [ro r c67 c68 c69 c70]
    unfold pS
    rw [if_neg c67, if_neg c68, if_neg c69, if_neg c70, if_neg c67, if_neg c68, if_neg c69, if_neg c70]
/-- the law's distances to a ring -/
noncomputable def pDs (V : Nat → Nat → Int) (n t : Nat) : Nat → Int := aDs (pO V) (pQ V) (pL V) n t
theorem pDs_ok {V : Nat → Nat → Int} {n t : Nat} (ht : t < 8) : aB 1000000 (pCo V n) t (pDs V n t) := aDs_ok ht
noncomputable def pAb (V : Nat → Nat → Int) (n t f : Nat) (g : Int) (p : Nat) : Int := aBu (pO V) (pQ V) (pL V) n (pDs V n t) t f g p
theorem pBu_a {V : Nat → Nat → Int} {n t f p : Nat} {g : Int} (hst : ∀ p, p < n → aSt (pO V) (pQ V) (pL V) p) (hp : p < n) (hN : pDs V n t f < 1000000) : pBu V n (aAt (pCo V n) (pDs V n t) f) (aLen (pCo V n) (pDs V n t) t 7 f) g p = pAb V n t f g p := by
  have eM : aM (pO V) (pQ V) (pL V) n (pDs V n t) t f = aLen (pCo V n) (pDs V n t) t 7 f := by unfold aM; rw [if_pos hN]; rfl
  unfold pAb pBu aBu
  by_cases c : aBk (pO V) (pQ V) (pL V) n (aAt (pCo V n) (pDs V n t) f) p (aLen (pCo V n) (pDs V n t) t 7 f) = true
  · have c' : aBk (pO V) (pQ V) (pL V) n (aA (pO V) (pQ V) (pL V) n (pDs V n t) f) p (aM (pO V) (pQ V) (pL V) n (pDs V n t) t f) = true := by rw [eM]; exact c
    have h1 := aSh_1 (F := pDs V n t) (t := t) (f := f) hp (hst p hp) c'
    have e : aSh (pO V) (pQ V) (pL V) n (pDs V n t) t f p = aC (pO V) (pQ V) (pL V) (pO V p).toNat (pQ V p).toNat (pL V p) n := by unfold aSh; rw [if_pos c']
    rw [if_pos c, if_neg (by omega), e]
  · have e : aSh (pO V) (pQ V) (pL V) n (pDs V n t) t f p = 0 := by
      unfold aSh
      rw [if_neg (by rw [eM]; exact c)]
    rw [if_neg c, e, if_pos (by decide)]
/-- the way stands in the row -/
theorem pWy_of {V : Nat → Nat → Int} {n t f wy : Nat} {F : Nat → Int} (ht : t < 8) (hf : f < 8) (hF : aB 1000000 (pCo V n) t F) (hN : F f < 1000000) (hw : ∀ k, k ≤ 8 → V wy k = if F f < 1000000 ∧ k ≤ aLen (pCo V n) F t 7 f then (aAt (pCo V n) F f k : Int) else -1) : pWy V wy (aAt (pCo V n) F f) (aLen (pCo V n) F t 7 f) := by
  obtain ⟨g1, g2, g3, g4⟩ := pG hF ht hf hN
  refine ⟨g3, fun k hk => ⟨(g1 k hk).1, ?_⟩, fun k h1 h2 => ?_⟩
  · rw [hw k (by omega), if_pos ⟨hN, hk⟩]
  · rw [hw k h2, if_neg (by omega)]
/-- bounds of the law's rows that pulls need -/
def pPb (V : Nat → Nat → Int) (n : Nat) : Prop := ∀ p, p < n → (0 ≤ V 57 p ∧ V 57 p < 1048576) ∧ (0 ≤ V 58 p ∧ V 58 p ≤ 900000) ∧ (-2147483648 ≤ V 59 p ∧ V 59 p ≤ 2147483647) ∧ (¬ pL V p = -1 → V 57 p < 524288)
theorem pPb_m {V : Nat → Nat → Int} {n : Nat} (h : pPb V n) : pMb V n := fun p hp => by
  obtain ⟨h1, h2, h3, _⟩ := h p hp
  exact ⟨by omega, by omega, h3⟩
theorem aFst_e2 {P P' : Nat → Bool} {n : Nat} (h : ∀ p, p < n → P p = P' p) : aFst P n 0 = aFst P' n 0 := aFst_e n 0 (fun i _ hi => h i (by omega))
section P5
variable {sc : xS} {d : Nat} {T : Nat → Nat × Nat} {z : Nat × Nat} {V : Nat → Nat → Int} {J : Nat → Nat → Int64} {R : Nat → Nat → Option Nat}
/-- what would break first, by the law -/
theorem l_breaks2 {n t f wy : Nat} {g : Int} {st : Nat → Int} (hA : pAr T) (hM : pMo V n) (hB : pMb V n) (ht : t < 8) (hf : f < 8) (hT : T wy = (32, 9)) (hg : 1 ≤ g ∧ g ≤ 10000) (hN : pDs V n t f < 1000000) (hst : ∀ p, p < n → pSs V p = st p)
    (hw : ∀ k, k ≤ 8 → V wy k = if pDs V n t f < 1000000 ∧ k ≤ aLen (pCo V n) (pDs V n t) t 7 f then (aAt (pCo V n) (pDs V n t) f k : Int) else -1) :
    X sc (d + 4) 98 [.ref 57, .ref 58, .ref 59, .ref 60, .ref 63, .ref wy, xw g] (T, z, xv V, J, R) = some (.inl (some (xw (aBr (pS V) n t f g st))), (T, z, xv (V), J, R)) := by
  rw [l_breaks hA hM hB hT (pWy_of ht hf (pDs_ok ht) hN hw) hg]
  have e : aFst (fun p => decide (pSt (V 57 p) (V 58 p) (V 59 p) < pBu V n (aAt (pCo V n) (pDs V n t) f) (aLen (pCo V n) (pDs V n t) t 7 f) g p)) n 0 = aBr (pS V) n t f g st := by
    unfold aBr
    refine aFst_e2 fun p hp => ?_
    rw [pBu_a hM.2.2.2 hp hN, ← hst p hp]; rfl
  rw [e]
theorem aBr_far {n t f : Nat} {g : Int} {st : Nat → Int} (hst : ∀ p, p < n → 0 ≤ st p) (hN : ¬ pDs V n t f < 1000000) : aBr (pS V) n t f g st = -1 :=
  aBr_no fun p hp => by
    have e : aBu (pS V 68) (pS V 69) (pS V 70) n (aDs (pS V 68) (pS V 69) (pS V 70) n t) t f g p = 0 := aBu_no hN
    have := hst p hp
    omega
/-- the wear behind a pull -/
theorem pull_wear {n t f wy : Nat} {g b : Int} {o0 o2 o5 o6 o10 o11 : Option Value} {is : Bool} (hA : pAr T) (ht : t < 8) (hf : f < 8) (hT : T wy = (32, 9)) (hwy : 64 ≤ wy) (hg : 1 ≤ g ∧ g ≤ 10000) :
    ∀ (m k : Nat) (V : Nat → Nat → Int) (V0 : Nat → Nat → Int), k + m = n → pMo V0 n → (∀ b, ¬ b = 58 → V b = V0 b) → (is = decide (pDs V0 n t f < 1000000)) →
    (∀ k, k ≤ 8 → V0 wy k = if pDs V0 n t f < 1000000 ∧ k ≤ aLen (pCo V0 n) (pDs V0 n t) t 7 f then (aAt (pCo V0 n) (pDs V0 n t) f k : Int) else -1) →
    ∃ V' : Nat → Nat → Int, XR sc (d + 3) 99 113 [o0, some (.ref 58), o2, some (.ref 60), some (.ref 63), o5, o6, some (xw g), some (.ref wy), some (xw b), some (xw (xB is)), o11, some (xw k)] [] (T, z, xv V, J, R) = some (.inl (some (xw (b))), (T, z, xv (V'), J, R)) ∧
      (∀ b, ¬ b = 58 → V' b = V0 b) ∧ ∀ p, V' 58 p = if k ≤ p ∧ p < n then V 58 p + pAb V0 n t f g p / 10 else V 58 p := by
  intro m
  induction m with
  | zero =>
    intro k V V0 hk hM hV his hw
    obtain rfl : k = n := by omega
    have h63 := hM.1
    have hn := hM.2.1
    refine ⟨V, ?_, hV, fun p => by rw [if_neg (by omega)]⟩
    rw [bL_pulls_113 (by rw [pA63 hA]) (by rw [pA63 hA]; omega) (by omega) (by rw [hV 63 (by decide)]; omega), hV 63 (by decide), if_pos (by omega), bL_pulls_155]
  | succ m ih =>
    intro k V V0 hk hM hV his hw
    have h63 := hM.1
    have hn := hM.2.1
    rw [bL_pulls_113 (by rw [pA63 hA]) (by rw [pA63 hA]; omega) (by omega) (by rw [hV 63 (by decide)]; omega), hV 63 (by decide), if_neg (by omega), bL_pulls_122 (xB_in is)]
    by_cases c : pDs V0 n t f < 1000000
    · rw [decide_eq_true c] at his
      subst his
      have e60 : V 60 = V0 60 := hV 60 (by decide)
      have ec : pCo V n = pCo V0 n := by unfold pCo; rw [(pO_e e60).1, (pO_e e60).2.1, (pO_e e60).2.2]
      have hMV : pMo V n := pMo_e e60 (by rw [hV 63 (by decide)]) hM
      have hwy2 : pWy V wy (aAt (pCo V0 n) (pDs V0 n t) f) (aLen (pCo V0 n) (pDs V0 n t) t 7 f) := by
        have := pWy_of ht hf (pDs_ok ht) c hw
        unfold pWy at this ⊢
        rw [hV wy (by omega)]; exact this
      have ebu : pBu V n (aAt (pCo V0 n) (pDs V0 n t) f) (aLen (pCo V0 n) (pDs V0 n t) t 7 f) g k = pAb V0 n t f g k := by
        rw [← pBu_a hM.2.2.2 (by omega) c]
        unfold pBu
        rw [(pO_e e60).1, (pO_e e60).2.1, (pO_e e60).2.2]
      have hin := pBu_in (V := V) (n := n) (m0 := aLen (pCo V0 n) (pDs V0 n t) t 7 f) (p := k) (a := aAt (pCo V0 n) (pDs V0 n t) f) hg (by omega) hMV.2.2.2
      obtain ⟨V', i1, i2, i3⟩ := ih (k + 1) (xup2 V 58 k (V 58 k + pAb V0 n t f g k / 10)) V0 (by omega) hM (fun b hb => by rw [xup2_o hb]; exact hV b hb) (decide_eq_true c).symm hw
      refine ⟨V', ?_, i2, fun p => ?_⟩
      · rw [if_neg (show ¬ xB true = 0 by decide), bL_pulls_127 (by rw [pA58 hA]) (by rw [pA58 hA]; omega), Int.toNat_natCast, l_bears hA hMV hT hwy2 (by omega) hg, xret_v, ebu, bL_pulls_144 (by rw [← ebu]; omega) (by rw [pA58 hA]) (by rw [pA58 hA]; omega), Int.toNat_natCast, show (k : Int) + 1 = ((k + 1 : Nat) : Int) by omega]
        exact i1
      · rw [i3 p]
        by_cases e : p = k
        · subst e; rw [if_neg (by omega), xup2_i, if_pos ⟨Nat.le_refl _, by omega⟩]
        · rw [xup2_j e]
          by_cases e2 : k + 1 ≤ p ∧ p < n
          · rw [if_pos e2, if_pos (by omega)]
          · rw [if_neg e2, if_neg (by omega)]
    · rw [decide_eq_false c] at his
      subst his
      refine ⟨V, ?_, hV, fun p => ?_⟩
      · rw [if_pos (show xB false = 0 from rfl), bL_pulls_155]
      · have e : pAb V0 n t f g p = 0 := aBu_no c
        rw [e]
        split <;> omega
/-- what pulls leaves -/
def pPo (sc : xS) (x : xR) (n t f wy m : Nat) (g b : Int) (st : Nat → Int) (T : Nat → Nat × Nat) (z : Nat × Nat) (V : Nat → Nat → Int) (J : Nat → Nat → Int64) (R : Nat → Nat → Option Nat) : Prop :=
  ∃ (T' : Nat → Nat × Nat) (z' : Nat × Nat) (V' : Nat → Nat → Int) (J' : Nat → Nat → Int64) (R' : Nat → Nat → Option Nat), x = some (.inl (some (xw (aPl n t f g st m b (pS V)).1)), (T', z', xv V', J', R')) ∧
    (z.1 ≤ z'.1 ∧ z'.1 ≤ z.1 + 3 * m ∧ z'.2 ≤ z.2 + 27 * m) ∧ (∀ b, b < z.1 → T' b = T b ∧ R' b = R b ∧ J' b = J b ∧ (¬ b = wy → ¬ b = 57 → ¬ b = 58 → ¬ b = 60 → V' b = V b)) ∧
    pS V' = (aPl n t f g st m b (pS V)).2 ∧ (∀ p, V' 57 p % 524288 = V 57 p % 524288 ∧ (n ≤ p → V' 57 p = V 57 p ∧ V' 60 p = V 60 p)) ∧ (∀ p, V' 58 p = if p < n then V 58 p + pAb V' n t f g p / 10 else V 58 p) ∧ pMo V' n ∧ ∀ p, p < n → V' 60 p = V 60 p ∨ V' 60 p = 0
theorem pull_loop {n t f wy : Nat} {g : Int} {st : Nat → Int} (ht : t < 8) (hf : f < 8) (hwy : 64 ≤ wy) (hg : 1 ≤ g ∧ g ≤ 9999) :
    ∀ (m : Nat) (b : Int) (T : Nat → Nat × Nat) (z : Nat × Nat) (V : Nat → Nat → Int) (J : Nat → Nat → Int64) (R : Nat → Nat → Option Nat) (o12 : Option Value), pAr T → T wy = (32, 9) → wy < z.1 → pMo V n → pPb V n → (∀ p, p < n → pSs V p = st p) → aCt (pL V) n ≤ m →
    (∀ k, k ≤ 8 → V wy k = if pDs V n t f < 1000000 ∧ k ≤ aLen (pCo V n) (pDs V n t) t 7 f then (aAt (pCo V n) (pDs V n t) f k : Int) else -1) →
    pPo sc (XR sc (d + 4) 99 47 [some (.ref 57), some (.ref 58), some (.ref 59), some (.ref 60), some (.ref 63), some (xw f), some (xw t), some (xw g), some (.ref wy), some (xw b), some (xw (xB (decide (pDs V n t f < 1000000)))), some (xw (aBr (pS V) n t f g st)), o12] [] (T, z, xv V, J, R)) n t f wy m g b st T z V J R := by
  have stop : ∀ (m : Nat) (b : Int) (T : Nat → Nat × Nat) (z : Nat × Nat) (V : Nat → Nat → Int) (J : Nat → Nat → Int64) (R : Nat → Nat → Option Nat) (o12 : Option Value), pAr T → T wy = (32, 9) → pMo V n → aBr (pS V) n t f g st = -1 →
      (∀ k, k ≤ 8 → V wy k = if pDs V n t f < 1000000 ∧ k ≤ aLen (pCo V n) (pDs V n t) t 7 f then (aAt (pCo V n) (pDs V n t) f k : Int) else -1) →
      pPo sc (XR sc (d + 4) 99 47 [some (.ref 57), some (.ref 58), some (.ref 59), some (.ref 60), some (.ref 63), some (xw f), some (xw t), some (xw g), some (.ref wy), some (xw b), some (xw (xB (decide (pDs V n t f < 1000000)))), some (xw (aBr (pS V) n t f g st)), o12] [] (T, z, xv V, J, R)) n t f wy m g b st T z V J R := by
    intro m b T z V J R o12 hA hT hM hno hw
    obtain ⟨V', w1, w2, w3⟩ := pull_wear (sc := sc) (d := d + 1) (T := T) (z := z) (J := J) (R := R) (n := n) (t := t) (f := f) (wy := wy) (g := g) (b := b) (o0 := some (.ref 57)) (o2 := some (.ref 59)) (o5 := some (xw f)) (o6 := some (xw t)) (o10 := none) (o11 := some (xw (-1))) (is := decide (pDs V n t f < 1000000)) hA ht hf hT hwy (by omega) n 0 V V (Nat.zero_add _) hM (fun _ _ => rfl) rfl hw
    have eS : pS V' = pS V := pS_e (w2 57 (by decide)) (w2 60 (by decide))
    have eA : ∀ p, pAb V' n t f g p = pAb V n t f g p := fun p => by unfold pAb pDs; rw [(pO_e (w2 60 (by decide))).1, (pO_e (w2 60 (by decide))).2.1, (pO_e (w2 60 (by decide))).2.2]
    have ePl := aPl_0 (S := pS V) hno m b
    refine ⟨T, z, V', J, R, ?_, ⟨Nat.le_refl _, by omega, by omega⟩, fun b hb => ⟨rfl, rfl, rfl, fun _ _ h58 _ => w2 b h58⟩, by rw [eS, ePl], fun p => ⟨by rw [w2 57 (by decide)], fun _ => ⟨by rw [w2 57 (by decide)], by rw [w2 60 (by decide)]⟩⟩, fun p => ?_, pMo_e (w2 60 (by decide)) (by rw [w2 63 (by decide)]) hM, fun p _ => Or.inl (by rw [w2 60 (by decide)])⟩
    · rw [hno, bL_pulls_47 (by decide), if_pos (by decide), bL_pulls_110, ePl]
      exact w1
    · rw [w3 p, eA p]
      by_cases e : p < n
      · rw [if_pos ⟨Nat.zero_le _, e⟩, if_pos e]
      · rw [if_neg (fun q => e q.2), if_neg e]
  intro m
  induction m with
  | zero =>
    intro b T z V J R o12 hA hT hz hM hP hst hct hw
    refine stop 0 b T z V J R o12 hA hT hM (aBr_no fun p hp => ?_) hw
    have hL : pL V p = -1 := aCt_0 n (by omega) p hp
    have e : aBu (pS V 68) (pS V 69) (pS V 70) n (aDs (pS V 68) (pS V 69) (pS V 70) n t) t f g p = 0 := aBu_0 (aBk_0 (hM.2.2.2 p hp) hL)
    have := pSs_0 (V := V) (p := p)
    rw [hst p hp] at this
    omega
  | succ m ih =>
    intro b T z V J R o12 hA hT hz hM hP hst hct hw
    by_cases c : aBr (pS V) n t f g st = -1
    · exact stop (m + 1) b T z V J R o12 hA hT hM c hw
    · obtain ⟨k, hk, ek, hlt⟩ := aBr_c c
      obtain ⟨b1, b2, b3, b4⟩ := hP k hk
      have hL : ¬ pL V k = -1 := fun q => by
        have e : aBu (pS V 68) (pS V 69) (pS V 70) n (aDs (pS V 68) (pS V 69) (pS V 70) n t) t f g k = 0 := aBu_0 (aBk_0 (hM.2.2.2 k hk) q)
        have := pSs_0 (V := V) (p := k)
        rw [hst k hk] at this
        omega
      have h57 := b4 hL
      have hn := hM.2.1
      -- the strap breaks
      have e60 := pO_br (V := V) (k := k) (v := V 57 k + 524288)
      have eS := pS_br (V := V) (k := k) ⟨b1.1, h57⟩
      have hM1 : pMo (xup2 (xup2 V 57 k (V 57 k + 524288)) 60 k 0) n := by
        obtain ⟨m1, m2, m3, m4⟩ := hM
        refine ⟨by rw [xup2_o (by decide), xup2_o (by decide)]; exact m1, m2, fun p hp => ?_, fun p hp => ?_⟩
        · by_cases e : p = k
          · subst e; rw [xup2_i]; decide
          · rw [xup2_j e, xup2_o (by decide)]; exact m3 p hp
        · rw [e60.1, e60.2.1, e60.2.2]; exact aSt_up (m4 p hp)
      obtain ⟨T2, V2, J2, R2, f1, f2, f3⟩ := l_finds (sc := sc) (d := d + 2) (T := T) (z := z) (V := xup2 (xup2 V 57 k (V 57 k + 524288)) 60 k 0) (J := J) (R := R) (F := pDs (xup2 (xup2 V 57 k (V 57 k + 524288)) 60 k 0) n t) hA hM1 (pDs_ok ht) ht hf hT ⟨hwy, hz⟩
      revert f1 f2 f3
      have hV57 : ∀ p, xup2 (xup2 V 57 k (V 57 k + 524288)) 60 k 0 57 p = if p = k then V 57 k + 524288 else V 57 p := fun p => by
        rw [xup2_o (by decide)]
        by_cases e : p = k
        · subst e; rw [xup2_i, if_pos rfl]
        · rw [xup2_j e, if_neg e]
      have hV60 : ∀ p, xup2 (xup2 V 57 k (V 57 k + 524288)) 60 k 0 60 p = if p = k then 0 else V 60 p := fun p => by
        by_cases e : p = k
        · subst e; rw [xup2_i, if_pos rfl]
        · rw [xup2_j e, if_neg e, xup2_o (by decide)]
      have hVo : ∀ b, ¬ b = 57 → ¬ b = 60 → xup2 (xup2 V 57 k (V 57 k + 524288)) 60 k 0 b = V b := fun b h1 h2 => by rw [xup2_o h2, xup2_o h1]
      have hL1 : pL (xup2 (xup2 V 57 k (V 57 k + 524288)) 60 k 0) = va_up (pL V) k (-1) := e60.2.2
      have key : XR sc (d + 4) 99 47 [some (.ref 57), some (.ref 58), some (.ref 59), some (.ref 60), some (.ref 63), some (xw f), some (xw t), some (xw g), some (.ref wy), some (xw b), some (xw (xB (decide (pDs V n t f < 1000000)))), some (xw (aBr (pS V) n t f g st)), o12] [] (T, z, xv V, J, R) =
          xret 99 (XR sc (d + 4) 99) 78 81 [some (.ref 57), some (.ref 58), some (.ref 59), some (.ref 60), some (.ref 63), some (xw f), some (xw t), some (xw g), some (.ref wy), some (xw (b + 1)), some (xw (xB (decide (pDs V n t f < 1000000)))), some (xw k), o12] [] (X sc (d + 4) 95 [.ref 60, .ref 63, xw f, xw t, .ref wy] (T, z, xv (xup2 (xup2 V 57 k (V 57 k + 524288)) 60 k 0), J, R)) := by
        rw [ek, bL_pulls_47 (by omega), if_neg (by omega), bL_pulls_52 (by rw [pA57 hA]) (by rw [pA57 hA]; omega) (by rw [pA60 hA]) (by rw [pA60 hA]; omega), Int.toNat_natCast]
      revert hM1 eS hV57 hV60 hVo hL1 key
      generalize xup2 (xup2 V 57 k (V 57 k + 524288)) 60 k 0 = V1
      intro eS hM1 hV57 hV60 hVo hL1 key f1 f2 f3
      -- behind finds
      have hg2 : ∀ b, b < z.1 → ¬ b = wy → V2 b = V1 b := fun b hb hw => (f2 b hb).2.2.2 hw
      have g60 : V2 60 = V1 60 := hg2 60 (by omega) (by omega)
      have g57 : V2 57 = V1 57 := hg2 57 (by omega) (by omega)
      have g58 : V2 58 = V 58 := (hg2 58 (by omega) (by omega)).trans (hVo 58 (by decide) (by decide))
      have g59 : V2 59 = V 59 := (hg2 59 (by omega) (by omega)).trans (hVo 59 (by decide) (by decide))
      have eS2 : pS V2 = aFr1 (pS V) k := (pS_e g57 g60).trans eS
      have eD : pDs V2 n t = pDs V1 n t := by unfold pDs; rw [(pO_e g60).1, (pO_e g60).2.1, (pO_e g60).2.2]
      have eC : pCo V2 n = pCo V1 n := by unfold pCo; rw [(pO_e g60).1, (pO_e g60).2.1, (pO_e g60).2.2]
      have hM2 : pMo V2 n := pMo_e g60 (by rw [hg2 63 (by omega) (by omega)]) hM1
      have hA2 : pAr T2 := pAr_e hA (fun b _ hb => (f2 b (by omega)).1)
      have hT2 : T2 wy = (32, 9) := by rw [(f2 wy hz).1]; exact hT
      have hst2 : ∀ p, p < n → pSs V2 p = st p := fun p hp => by
        rw [← hst p hp]
        unfold pSs pSt
        rw [g58, g59, g57, hV57]
        by_cases e : p = k
        · subst e
          rw [if_pos rfl, show (V 57 p + 524288) / 16 % 16 = V 57 p / 16 % 16 by omega, show (V 57 p + 524288) / 256 % 16 = V 57 p / 256 % 16 by omega]
        · rw [if_neg e]
      have hP2 : pPb V2 n := fun p hp => by
        obtain ⟨q1, q2, q3, q4⟩ := hP p hp
        rw [g58, g59, g57, hV57, (pO_e g60).2.2, hL1]
        by_cases e : p = k
        · subst e; rw [if_pos rfl, va_same]
          exact ⟨by omega, q2, q3, fun y => absurd rfl y⟩
        · rw [if_neg e, va_ne e]; exact ⟨q1, q2, q3, q4⟩
      have hct2 : aCt (pL V2) n ≤ m := by
        have := aCt_up hL n hk
        rw [(pO_e g60).2.2, hL1]
        omega
      have hw2 : ∀ k, k ≤ 8 → V2 wy k = if pDs V2 n t f < 1000000 ∧ k ≤ aLen (pCo V2 n) (pDs V2 n t) t 7 f then (aAt (pCo V2 n) (pDs V2 n t) f k : Int) else -1 := by rw [eD, eC]; exact f3
      have step : XR sc (d + 4) 99 47 [some (.ref 57), some (.ref 58), some (.ref 59), some (.ref 60), some (.ref 63), some (xw f), some (xw t), some (xw g), some (.ref wy), some (xw b), some (xw (xB (decide (pDs V n t f < 1000000)))), some (xw (aBr (pS V) n t f g st)), o12] [] (T, z, xv V, J, R) =
          XR sc (d + 4) 99 47 [some (.ref 57), some (.ref 58), some (.ref 59), some (.ref 60), some (.ref 63), some (xw f), some (xw t), some (xw g), some (.ref wy), some (xw (b + 1)), some (xw (xB (decide (pDs V2 n t f < 1000000)))), some (xw (aBr (pS V2) n t f g st)), o12] [] (T2, (z.1 + 3, z.2 + 9 + 9 + 9), xv V2, J2, R2) := by
        rw [key, f1, xret_v, bL_pulls_81 (xB_in _), ← eD]
        by_cases q : pDs V2 n t f < 1000000
        · rw [decide_eq_true q, if_neg (show ¬ xB true = 0 by decide), bL_pulls_88, l_breaks2 hA2 hM2 (pPb_m hP2) ht hf hT2 (by omega) q hst2 hw2, xret_v, bL_pulls_101, bL_pulls_105]
        · rw [decide_eq_false q, if_pos (show xB false = 0 from rfl), bL_pulls_104, bL_pulls_105, aBr_far (fun p hp => by rw [← hst2 p hp]; exact pSs_0) q]
      have ePl : aPl n t f g st (m + 1) b (pS V) = aPl n t f g st m (b + 1) (pS V2) := by
        rw [aPl, if_neg c, ek, Int.toNat_natCast, eS2]; rfl
      obtain ⟨T', z', V', J', R', h1, h2, h3, h4, h5, h6, h7, h8⟩ := ih (b + 1) T2 (z.1 + 3, z.2 + 9 + 9 + 9) V2 J2 R2 o12 hA2 hT2 (by show wy < z.1 + 3; omega) hM2 hP2 hst2 hct2 hw2
      have h2 : z.1 + 3 ≤ z'.1 ∧ z'.1 ≤ z.1 + 3 + 3 * m ∧ z'.2 ≤ z.2 + 9 + 9 + 9 + 27 * m := h2
      refine ⟨T', z', V', J', R', by rw [step, ePl]; exact h1, ⟨by omega, by omega, by omega⟩, fun b hb => ?_, by rw [ePl]; exact h4, fun p => ?_, fun p => by rw [h6 p, g58], h7, fun p hp => ?_⟩
      · obtain ⟨a1, a2, a3, a4⟩ := h3 b (by show b < z.1 + 3; omega)
        obtain ⟨c1, c2, c3, c4⟩ := f2 b hb
        exact ⟨a1.trans c1, a2.trans c2, a3.trans c3, fun d1 d2 d3 d4 => by rw [a4 d1 d2 d3 d4, c4 d1, hVo b d2 d4]⟩
      · obtain ⟨a1, a2⟩ := h5 p
        refine ⟨?_, fun hp => ?_⟩
        · rw [a1, g57, hV57]
          by_cases e : p = k
          · subst e; rw [if_pos rfl]; omega
          · rw [if_neg e]
        · obtain ⟨a3, a4⟩ := a2 hp
          rw [a3, a4, g57, hV57, g60, hV60, if_neg (by omega), if_neg (by omega)]
          exact ⟨rfl, rfl⟩
      · have a := h8 p hp
        rw [g60, hV60] at a
        by_cases e : p = k
        · subst e; rw [if_pos rfl] at a; exact Or.inr (a.elim id id)
        · rw [if_neg e] at a; exact a
/-- a pull of the law's, where there is a way -/
theorem l_pulls {n t f : Nat} {g : Int} (hA : pAr T) (hM : pMo V n) (hP : pPb V n) (ht : t < 8) (hf : f < 8) (hg : 1 ≤ g ∧ g ≤ 9999) (hz : 64 ≤ z.1) :
    ∃ (T' : Nat → Nat × Nat) (z' : Nat × Nat) (V' : Nat → Nat → Int) (J' : Nat → Nat → Int64) (R' : Nat → Nat → Option Nat), X sc (d + 5) 99 [.ref 57, .ref 58, .ref 59, .ref 60, .ref 63, xw f, xw t, xw g] (T, z, xv V, J, R) = some (.inl (some (xw (aPl n t f g (pSs V) 40 0 (pS V)).1)), (T', z', xv V', J', R')) ∧
      (z.1 ≤ z'.1 ∧ z'.1 ≤ z.1 + 124 ∧ z'.2 ≤ z.2 + 1200) ∧ (∀ b, b < z.1 → T' b = T b ∧ R' b = R b ∧ J' b = J b ∧ (¬ b = 57 → ¬ b = 58 → ¬ b = 60 → V' b = V b)) ∧
      pS V' = (aPl n t f g (pSs V) 40 0 (pS V)).2 ∧ (∀ p, V' 57 p % 524288 = V 57 p % 524288 ∧ (n ≤ p → V' 57 p = V 57 p ∧ V' 60 p = V 60 p)) ∧ (∀ p, V' 58 p = if p < n then V 58 p + pAb V' n t f g p / 10 else V 58 p) ∧ pMo V' n ∧ ∀ p, p < n → V' 60 p = V 60 p ∨ V' 60 p = 0 := by
  have eT : ∀ b, b < z.1 → va_up T z.1 (32, 9) b = T b := fun b hb => va_ne (by omega)
  have eV : ∀ b, b < z.1 → va_up V z.1 (fun _ => 0) b = V b := fun b hb => va_ne (by omega)
  have eJ : ∀ b, b < z.1 → va_up J z.1 (fun _ => 0) b = J b := fun b hb => va_ne (by omega)
  have eR : ∀ b, b < z.1 → va_up R z.1 (fun _ => none) b = R b := fun b hb => va_ne (by omega)
  have eTw : va_up T z.1 (32, 9) z.1 = (32, 9) := va_same
  rw [eL_pulls, bL_pulls_0]
  revert eT eV eJ eR eTw
  generalize va_up T z.1 (32, 9) = T1
  generalize va_up V z.1 (fun _ => 0) = V1
  generalize va_up J z.1 (fun _ => 0) = J1
  generalize va_up R z.1 (fun _ => none) = R1
  intro eT eV eJ eR eTw
  have w60 : V1 60 = V 60 := eV 60 (by omega)
  have hA1 : pAr T1 := pAr_e hA (fun b _ hb => eT b (by omega))
  have hM1 : pMo V1 n := pMo_e w60 (by rw [eV 63 (by omega)]) hM
  obtain ⟨T2, V2, J2, R2, f1, f2, f3⟩ := l_finds (sc := sc) (d := d + 2) (T := T1) (z := (z.1 + 1, z.2 + 9)) (V := V1) (J := J1) (R := R1) (wy := z.1) (F := pDs V1 n t) hA1 hM1 (pDs_ok ht) ht hf eTw ⟨hz, Nat.lt_succ_self _⟩
  have hTw2 : T2 z.1 = (32, 9) := ((f2 z.1 (Nat.lt_succ_self _)).1).trans eTw
  have h2 : ∀ b, b < z.1 → T2 b = T b ∧ R2 b = R b ∧ J2 b = J b ∧ V2 b = V b := fun b hb => by
    obtain ⟨a1, a2, a3, a4⟩ := f2 b (show b < z.1 + 1 by omega)
    exact ⟨a1.trans (eT b hb), a2.trans (eR b hb), a3.trans (eJ b hb), (a4 (by omega)).trans (eV b hb)⟩
  have hv : ∀ b, b < 64 → V2 b = V b := fun b hb => (h2 b (by omega)).2.2.2
  have u60 : V2 60 = V1 60 := (hv 60 (by decide)).trans w60.symm
  have eD : pDs V2 n t = pDs V1 n t := by unfold pDs; rw [(pO_e u60).1, (pO_e u60).2.1, (pO_e u60).2.2]
  have eC : pCo V2 n = pCo V1 n := by unfold pCo; rw [(pO_e u60).1, (pO_e u60).2.1, (pO_e u60).2.2]
  have eS : pS V2 = pS V := pS_e (hv 57 (by decide)) (hv 60 (by decide))
  have hA2 : pAr T2 := pAr_e hA (fun b _ hb => (h2 b (by omega)).1)
  have hM2 : pMo V2 n := pMo_e (hv 60 (by decide)) (by rw [hv 63 (by decide)]) hM
  have hst : ∀ p, p < n → pSs V2 p = pSs V p := fun p _ => by unfold pSs; rw [hv 57 (by decide), hv 58 (by decide), hv 59 (by decide)]
  have hP2 : pPb V2 n := fun p hp => by
    rw [hv 57 (by decide), hv 58 (by decide), hv 59 (by decide), (pO_e (hv 60 (by decide))).2.2]; exact hP p hp
  have hw2 : ∀ k, k ≤ 8 → V2 z.1 k = if pDs V2 n t f < 1000000 ∧ k ≤ aLen (pCo V2 n) (pDs V2 n t) t 7 f then (aAt (pCo V2 n) (pDs V2 n t) f k : Int) else -1 := by rw [eD, eC]; exact f3
  obtain ⟨T', z', V', J', R', h3, h4, h5, h6, h7, h8, h9, h10⟩ := pull_loop (sc := sc) (d := d) ht hf hz hg 40 0 T2 (z.1 + 1 + 3, z.2 + 9 + 9 + 9 + 9) V2 J2 R2 none hA2 hTw2 (show z.1 < z.1 + 1 + 3 by omega) hM2 hP2 hst (Nat.le_trans (aCt_le n) (by have := hM.2.1; omega)) hw2
  have h4 : z.1 + 1 + 3 ≤ z'.1 ∧ z'.1 ≤ z.1 + 1 + 3 + 3 * 40 ∧ z'.2 ≤ z.2 + 9 + 9 + 9 + 9 + 27 * 40 := h4
  rw [eS] at h3 h6
  refine ⟨T', z', V', J', R', ?_, ⟨by omega, by omega, by omega⟩, fun b hb => ?_, h6, fun p => ?_, fun p => by rw [h8 p, hv 58 (by decide)], h9, fun p hp => by have := h10 p hp; rw [hv 60 (by decide)] at this; exact this⟩
  · rw [f1, xret_v, bL_pulls_21 (xB_in _), ← eD]
    by_cases q : pDs V2 n t f < 1000000
    · rw [decide_eq_true q] at h3 ⊢
      rw [if_neg (show ¬ xB true = 0 by decide), bL_pulls_28, l_breaks2 hA2 hM2 (pPb_m hP2) ht hf hTw2 (by omega) q hst hw2, xret_v, bL_pulls_41, bL_pulls_45, eS]
      exact h3
    · have ebr : aBr (pS V) n t f g (pSs V) = -1 := by rw [← eS]; exact aBr_far (fun p _ => pSs_0) q
      rw [decide_eq_false q] at h3 ⊢
      rw [ebr] at h3
      rw [if_pos (show xB false = 0 from rfl), bL_pulls_44, bL_pulls_45]
      exact h3
  · obtain ⟨a1, a2, a3, a4⟩ := h5 b (show b < z.1 + 1 + 3 by omega)
    obtain ⟨c1, c2, c3, c4⟩ := h2 b hb
    exact ⟨a1.trans c1, a2.trans c2, a3.trans c3, fun d1 d2 d3 => (a4 (by omega) d1 d2 d3).trans c4⟩
  · obtain ⟨a1, a2⟩ := h7 p
    refine ⟨by rw [a1, hv 57 (by decide)], fun hp => ?_⟩
    obtain ⟨a3, a4⟩ := a2 hp
    rw [a3, a4, hv 57 (by decide), hv 60 (by decide)]
    exact ⟨rfl, rfl⟩
end P5
