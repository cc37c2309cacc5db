/-! the property's law: finds, over the machine -/
theorem pO_e {V V' : Nat → Nat → Int} (h : V' 60 = V 60) : pO V' = pO V ∧ pQ V' = pQ V ∧ pL V' = pL V := by
  refine ⟨?_, ?_, ?_⟩ <;> funext p
  · unfold pO; rw [h]
  · unfold pQ; rw [h]
  · unfold pL; rw [h]
theorem pLn_e {V V' : Nat → Nat → Int} {x y n : Nat} (h : V' 60 = V 60) : pLn V' x y n = pLn V x y n := by
  unfold pLn
  rw [(pO_e h).1, (pO_e h).2.1, (pO_e h).2.2]
theorem pMo_e {V V' : Nat → Nat → Int} {n : Nat} (h : V' 60 = V 60) (h3 : V' 63 1 = V 63 1) (hM : pMo V n) : pMo V' n := by
  unfold pMo at hM ⊢
  rw [(pO_e h).1, (pO_e h).2.1, (pO_e h).2.2, h, h3]
  exact hM
/-- the law's costs -/
def pCo (V : Nat → Nat → Int) (n : Nat) : Nat → Nat → Int := aCo (pO V) (pQ V) (pL V) n
/-- what finds must come to -/
def pGl (x : xR) (T : Nat → Nat × Nat) (z : Nat × Nat) (J : Nat → Nat → Int64) (R : Nat → Nat → Option Nat) (V0 : Nat → Nat → Int) (wy a5 a6 a7 : Nat) (c : Nat → Nat → Int) (F : Nat → Int) (t f : Nat) : Prop :=
  ∃ V' : Nat → Nat → Int, x = some (.inl (some (xw (xB (decide (F f < 1000000))))), (T, z, xv V', J, R)) ∧ (∀ b, ¬ b = wy → ¬ b = a5 → ¬ b = a6 → ¬ b = a7 → V' b = V0 b) ∧ ∀ k, k ≤ 8 → V' wy k = if F f < 1000000 ∧ k ≤ aLen c F t 7 f then (aAt c F f k : Int) else -1
/-- the stack as it stands -/
def pS0 (V0 : Nat → Nat → Int) (wy a5 a6 a7 : Nat) (c : Nat → Nat → Int) (f : Nat) (ρ : Nat → Nat) (dp : Nat) (V : Nat → Nat → Int) : Prop :=
  (∀ b, ¬ b = wy → ¬ b = a5 → ¬ b = a6 → ¬ b = a7 → V b = V0 b) ∧ (∀ i, i ≤ dp → V a5 i = (ρ i : Int)) ∧ (∀ i, i ≤ dp → 16 * V a7 i + (i : Int) = pCs c ρ i) ∧ (∀ i, i ≤ dp → 0 ≤ V a6 i ∧ V a6 i ≤ 8) ∧ pRw c f ρ dp
def pNe (wy a5 a6 a7 : Nat) : Prop := (¬ wy = a5 ∧ ¬ wy = a6 ∧ ¬ wy = a7) ∧ (¬ a5 = a6 ∧ ¬ a5 = a7 ∧ ¬ a6 = a7) ∧ (64 ≤ wy ∧ 64 ≤ a5 ∧ 64 ≤ a6 ∧ 64 ≤ a7)
section P4
variable {sc : xS} {d : Nat} {T : Nat → Nat × Nat} {z : Nat × Nat} {V : Nat → Nat → Int} {J : Nat → Nat → Int64} {R : Nat → Nat → Option Nat}
theorem can_lp {a5 dp q : Nat} {ρ : Nat → Nat} {o0 o1 o2 o3 o4 o6 o7 o8 o10 o12 : Option Value} (hT5 : T a5 = (32, 9)) (hdp : dp ≤ 7) (hr : ∀ i, i ≤ dp → V a5 i = (ρ i : Int)) (hρ : ∀ i, i ≤ dp → ρ i < 8) (hq : q < 8) :
    ∀ (m k : Nat) (b : Bool), k + m = dp + 1 → ∃ (b' : Bool) (o14 : Option Value), (b' = true ↔ b = true ∧ ∀ i, k ≤ i → i ≤ dp → ¬ ρ i = q) ∧
      XR sc d 95 216 [o0, o1, o2, o3, o4, some (.ref a5), o6, o7, o8, some (xw dp), o10, some (xw q), o12, some (xw (xB b)), some (xw k)] [] (T, z, xv V, J, R) = XR sc d 95 251 [o0, o1, o2, o3, o4, some (.ref a5), o6, o7, o8, some (xw dp), o10, some (xw q), o12, some (xw (xB b')), o14] [] (T, z, xv V, J, R) := by
  intro m
  induction m with
  | zero =>
    intro k b hk
    refine ⟨b, some (xw k), ⟨fun h => ⟨h, fun i a e => by omega⟩, fun h => h.1⟩, ?_⟩
    rw [bL_finds_216 (by omega) (by omega), if_pos (by omega)]
  | succ m ih =>
    intro k b hk
    obtain ⟨b0, o0', h01, h02⟩ := ih (k + 1) false (by omega)
    obtain ⟨b1, o1', h11, h12⟩ := ih (k + 1) true (by omega)
    cases b with
    | false =>
      refine ⟨b0, o0', ⟨fun h => absurd (h01.mp h).1 (by decide), fun h => absurd h.1 (by decide)⟩, ?_⟩
      rw [bL_finds_216 (by omega) (by omega), if_neg (by omega), bL_finds_223 (xB_in false), if_pos (show xB false = 0 from rfl), bL_finds_242, bL_finds_243, show (k : Int) + 1 = ((k + 1 : Nat) : Int) by omega]
      exact h02
    | true =>
      have hv := hr k (by omega)
      have hk8 := hρ k (by omega)
      by_cases e : ρ k = q
      · refine ⟨b0, o0', ⟨fun h => absurd (h01.mp h).1 (by decide), fun h => absurd e (h.2 k (Nat.le_refl k) (by omega))⟩, ?_⟩
        rw [bL_finds_216 (by omega) (by omega), if_neg (by omega), bL_finds_223 (xB_in true), if_neg (show ¬ xB true = 0 by decide), bL_finds_228 (by rw [hT5]) (by rw [hT5]; omega) (by rw [Int.toNat_natCast, hv]; omega) (by omega), Int.toNat_natCast, hv, if_pos (by omega), bL_finds_242, bL_finds_243, show (k : Int) + 1 = ((k + 1 : Nat) : Int) by omega]
        exact h02
      · refine ⟨b1, o1', h11.trans ⟨fun h => ⟨rfl, fun i a1 a2 => ?_⟩, fun h => ⟨rfl, fun i a1 a2 => h.2 i (by omega) a2⟩⟩, ?_⟩
        · by_cases ei : i = k
          · subst ei; exact e
          · exact h.2 i (by omega) a2
        · rw [bL_finds_216 (by omega) (by omega), if_neg (by omega), bL_finds_223 (xB_in true), if_neg (show ¬ xB true = 0 by decide), bL_finds_228 (by rw [hT5]) (by rw [hT5]; omega) (by rw [Int.toNat_natCast, hv]; omega) (by omega), Int.toNat_natCast, hv, if_neg (by omega), bL_finds_238, bL_finds_243, show (k : Int) + 1 = ((k + 1 : Nat) : Int) by omega]
          exact h12
theorem fill_lp {wy a5 dp : Nat} {ρ : Nat → Nat} {o0 o1 o2 o3 o6 o7 o8 o10 o12 o13 o14 : Option Value} (hTw : T wy = (32, 9)) (hT5 : T a5 = (32, 9)) (hne : ¬ wy = a5) (hdp : dp ≤ 7) :
    ∀ (m k : Nat) (V : Nat → Nat → Int), k + m = 9 → (∀ i, i ≤ dp → V a5 i = (ρ i : Int)) → (∀ j, j < k → V wy j = if j ≤ dp then (ρ j : Int) else -1) →
    ∃ (V' : Nat → Nat → Int) (o11 : Option Value), (∀ b, ¬ b = wy → V' b = V b) ∧ (∀ j, j ≤ 8 → V' wy j = if j ≤ dp then (ρ j : Int) else -1) ∧
      XR sc d 95 97 [o0, o1, o2, o3, some (.ref wy), some (.ref a5), o6, o7, o8, some (xw dp), o10, some (xw k), o12, o13, o14] [] (T, z, xv V, J, R) = XR sc d 95 131 [o0, o1, o2, o3, some (.ref wy), some (.ref a5), o6, o7, o8, some (xw dp), o10, o11, o12, o13, o14] [] (T, z, xv V', J, R) := by
  intro m
  induction m with
  | zero =>
    intro k V hk hr hw
    refine ⟨V, some (xw k), fun _ _ => rfl, fun j hj => hw j (by omega), ?_⟩
    rw [bL_finds_97 (by omega), if_pos (by omega)]
  | succ m ih =>
    intro k V hk hr hw
    have step : ∀ v : Int, v = (if k ≤ dp then (ρ k : Int) else -1) → ∃ (V' : Nat → Nat → Int) (o11 : Option Value), (∀ b, ¬ b = wy → V' b = V b) ∧ (∀ j, j ≤ 8 → V' wy j = if j ≤ dp then (ρ j : Int) else -1) ∧
        XR sc d 95 124 [o0, o1, o2, o3, some (.ref wy), some (.ref a5), o6, o7, o8, some (xw dp), o10, some (xw k), o12, o13, o14] [xw v, xw k, .ref wy] (T, z, xv V, J, R) = XR sc d 95 131 [o0, o1, o2, o3, some (.ref wy), some (.ref a5), o6, o7, o8, some (xw dp), o10, o11, o12, o13, o14] [] (T, z, xv V', J, R) := by
      intro v hv
      obtain ⟨V', o11, h1, h2, h3⟩ := ih (k + 1) (xup2 V wy k v) (by omega) (fun i hi => by rw [xup2_o (fun q => hne q.symm)]; exact hr i hi) (fun j hj => by
        by_cases e : j = k
        · subst e; rw [xup2_i]; exact hv
        · rw [xup2_j e]; exact hw j (by omega))
      refine ⟨V', o11, fun b hb => by rw [h1 b hb, xup2_o hb], h2, ?_⟩
      rw [bL_finds_124 (by rw [hTw]) (by rw [hTw]; omega), Int.toNat_natCast, show (k : Int) + 1 = ((k + 1 : Nat) : Int) by omega]
      exact h3
    by_cases e : k ≤ dp
    · obtain ⟨V', o11, h1, h2, h3⟩ := step (ρ k) (by rw [if_pos e])
      refine ⟨V', o11, h1, h2, ?_⟩
      rw [bL_finds_97 (by omega), if_neg (by omega), bL_finds_104 (by omega) (by omega), if_neg (by omega), bL_finds_115 (by rw [hT5]) (by rw [hT5]; omega), Int.toNat_natCast, hr k e]
      exact h3
    · obtain ⟨V', o11, h1, h2, h3⟩ := step (-1) (by rw [if_neg e])
      refine ⟨V', o11, h1, h2, ?_⟩
      rw [bL_finds_97 (by omega), if_neg (by omega), bL_finds_104 (by omega) (by omega), if_pos (by omega), bL_finds_123]
      exact h3
/-- a ring is taken off the stack -/
theorem fl_162 {n t f wy a5 a6 a7 μ : Nat} {V0 : Nat → Nat → Int} {F : Nat → Int} (hF : aB 1000000 (pCo V0 n) t F) (hf : f < 8)
    (ih : ∀ (ρ : Nat → Nat) (dp : Nat) (best : Int) (V : Nat → Nat → Int) (o10 o11 o12 o13 o14 : Option Value), pMu (V a6) dp < μ → pS0 V0 wy a5 a6 a7 (pCo V0 n) f ρ dp V → (-1 ≤ best ∧ best ≤ 20000) → pWs F (pCo V0 n) t f ρ (V a6) dp best (V wy) →
      pGl (XR sc (d + 1) 95 51 [some (.ref 60), some (.ref 63), some (xw f), some (xw t), some (.ref wy), some (.ref a5), some (.ref a6), some (.ref a7), some (xw best), some (xw dp), o10, o11, o12, o13, o14] [] (T, z, xv V, J, R)) T z J R V0 wy a5 a6 a7 (pCo V0 n) F t f)
    {ρ : Nat → Nat} {dp : Nat} {best : Int} {V : Nat → Nat → Int} {o10 o11 o12 o13 o14 : Option Value} (hμ : pMu (V a6) dp ≤ μ) (hS : pS0 V0 wy a5 a6 a7 (pCo V0 n) f ρ dp V) (hb : -1 ≤ best ∧ best ≤ 20000) (hw : pWt F (pCo V0 n) t f ρ (V a6) dp best (V wy)) :
    pGl (XR sc (d + 1) 95 162 [some (.ref 60), some (.ref 63), some (xw f), some (xw t), some (.ref wy), some (.ref a5), some (.ref a6), some (.ref a7), some (xw best), some (xw dp), o10, o11, o12, o13, o14] [] (T, z, xv V, J, R)) T z J R V0 wy a5 a6 a7 (pCo V0 n) F t f := by
  obtain ⟨s1, s2, s3, s4, s5⟩ := hS
  rw [bL_finds_162]
  cases dp with
  | zero =>
    rw [show ((0 : Nat) : Int) + -1 = -1 by omega, bL_finds_51 (by decide), if_pos (by decide), bL_finds_290 (by omega)]
    rcases hw with ⟨h1, h2, h3⟩ | ⟨h1, h2, m, m1, m2⟩ | ⟨h1, h2, h3⟩
    · have := hF.2.1 f hf
      rw [if_neg (by omega), bL_finds_295, bL_finds_300 (by decide)]
      refine ⟨V, by rw [decide_eq_true h1]; rfl, s1, fun k hk => ?_⟩
      rw [h3 k hk]
      by_cases e : k ≤ aLen (pCo V0 n) F t 7 f
      · rw [if_pos e, if_pos ⟨h1, e⟩]
      · rw [if_neg e, if_neg (fun q => e q.2)]
    · omega
    · rw [if_pos (by omega), bL_finds_299, bL_finds_300 (by decide)]
      exact ⟨V, by rw [decide_eq_false h1]; rfl, s1, fun k hk => by rw [h3 k hk, if_neg (fun q => h1 q.1)]⟩
  | succ dp =>
    have hp := pMu_pop (nx := V a6) (i := dp) (s4 (dp + 1) (Nat.le_refl _)).2
    rw [show ((dp + 1 : Nat) : Int) + -1 = (dp : Int) by omega]
    exact ih ρ dp best V _ _ _ _ _ (by omega) ⟨s1, fun i hi => s2 i (by omega), fun i hi => s3 i (by omega), fun i hi => s4 i (by omega), pRw_pop s5⟩ hb (pWt_pop hw)
/-- a ring is tried -/
theorem fl_168 {n t f wy a5 a6 a7 μ : Nat} {V0 : Nat → Nat → Int} {F : Nat → Int} (hA : pAr T) (hM : pMo V0 n) (hF : aB 1000000 (pCo V0 n) t F) (ht : t < 8) (hf : f < 8) (hT5 : T a5 = (32, 9)) (hT6 : T a6 = (32, 9)) (hT7 : T a7 = (32, 9)) (hne : pNe wy a5 a6 a7)
    (ih : ∀ (ρ : Nat → Nat) (dp : Nat) (best : Int) (V : Nat → Nat → Int) (o10 o11 o12 o13 o14 : Option Value), pMu (V a6) dp < μ → pS0 V0 wy a5 a6 a7 (pCo V0 n) f ρ dp V → (-1 ≤ best ∧ best ≤ 20000) → pWs F (pCo V0 n) t f ρ (V a6) dp best (V wy) →
      pGl (XR sc (d + 1) 95 51 [some (.ref 60), some (.ref 63), some (xw f), some (xw t), some (.ref wy), some (.ref a5), some (.ref a6), some (.ref a7), some (xw best), some (xw dp), o10, o11, o12, o13, o14] [] (T, z, xv V, J, R)) T z J R V0 wy a5 a6 a7 (pCo V0 n) F t f)
    {ρ : Nat → Nat} {dp : Nat} {best : Int} {V : Nat → Nat → Int} {o10 o11 o12 o13 o14 : Option Value} (hμ : pMu (V a6) dp ≤ μ) (hS : pS0 V0 wy a5 a6 a7 (pCo V0 n) f ρ dp V) (hb : -1 ≤ best ∧ best ≤ 20000) (hg : ¬ ρ dp = t) (h8 : ¬ V a6 dp = 8) (hw : pWs F (pCo V0 n) t f ρ (V a6) dp best (V wy)) :
    pGl (XR sc (d + 1) 95 168 [some (.ref 60), some (.ref 63), some (xw f), some (xw t), some (.ref wy), some (.ref a5), some (.ref a6), some (.ref a7), some (xw best), some (xw dp), o10, o11, o12, o13, o14] [] (T, z, xv V, J, R)) T z J R V0 wy a5 a6 a7 (pCo V0 n) F t f := by
  obtain ⟨⟨n1, n2, n3⟩, ⟨n4, n5, n6⟩, ⟨n7, n8, n9, n0⟩⟩ := hne
  obtain ⟨s1, s2, s3, s4, s5⟩ := hS
  have h7 := pRw_7 s5
  have hρ := s5.2.1 dp (Nat.le_refl _)
  have v6 := s4 dp (Nat.le_refl _)
  obtain ⟨q, hq⟩ : ∃ q : Nat, V a6 dp = (q : Int) := ⟨(V a6 dp).toNat, by omega⟩
  have hq8 : q < 8 := by omega
  have v5 := s2 dp (Nat.le_refl _)
  have W60 : xup2 V a6 dp ((q : Int) + 1) 60 = V0 60 := by rw [xup2_o (by omega)]; exact s1 60 (by omega) (by omega) (by omega) (by omega)
  have W63 : xup2 V a6 dp ((q : Int) + 1) 63 = V0 63 := by rw [xup2_o (by omega)]; exact s1 63 (by omega) (by omega) (by omega) (by omega)
  have hM1 : pMo (xup2 V a6 dp ((q : Int) + 1)) n := pMo_e W60 (by rw [W63]) hM
  have hst := hM.2.2.2
  have hS9 := aS_in (x := ρ dp) (y := q) n hst
  have ecost : pCo V0 n (ρ dp) q = if aS (pO V0) (pQ V0) (pL V0) (ρ dp) q n < 100000000 then aS (pO V0) (pQ V0) (pL V0) (ρ dp) q n * 16 + 1 else 0 := rfl
  have eln : pLn V0 (ρ dp) q n = if aS (pO V0) (pQ V0) (pL V0) (ρ dp) q n < 100000000 then aS (pO V0) (pQ V0) (pL V0) (ρ dp) q n else 1000 := rfl
  rw [bL_finds_168 (by rw [hT6]) (by rw [hT6]; omega) (by rw [hT5]) (by rw [hT5]; omega), Int.toNat_natCast, hq, xup2_o n4, v5, l_length hA hM1 hρ hq8, xret_v, pLn_e W60]
  have hup := pMu_up (nx := V a6) (nx' := xup2 V a6 dp ((q : Int) + 1) a6) (i := dp) (fun j hj => xup2_j (by omega)) (by rw [xup2_i, hq]) (by omega)
  have hpow : 1 ≤ 10 ^ (9 - dp) := Nat.pow_pos (show 0 < 10 by decide)
  have key : ∀ b0 : Bool, (b0 = true ↔ 0 < pCo V0 n (ρ dp) q) → pGl (XR sc (d + 1) 95 216 [some (.ref 60), some (.ref 63), some (xw f), some (xw t), some (.ref wy), some (.ref a5), some (.ref a6), some (.ref a7), some (xw best), some (xw dp), o10, some (xw q), some (xw (pLn V0 (ρ dp) q n)), some (xw (xB b0)), some (xw 0)] [] (T, z, xv (xup2 V a6 dp ((q : Int) + 1)), J, R)) T z J R V0 wy a5 a6 a7 (pCo V0 n) F t f := by
    intro b0 hb0
    obtain ⟨b', o14', hb', hx⟩ := can_lp (sc := sc) (d := d + 1) (T := T) (z := z) (V := xup2 V a6 dp ((q : Int) + 1)) (J := J) (R := R) (a5 := a5) (dp := dp) (q := q) (ρ := ρ) (o0 := some (.ref 60)) (o1 := some (.ref 63)) (o2 := some (xw f)) (o3 := some (xw t)) (o4 := some (.ref wy)) (o6 := some (.ref a6)) (o7 := some (.ref a7)) (o8 := some (xw best)) (o10 := o10) (o12 := some (xw (pLn V0 (ρ dp) q n))) hT5 h7 (fun i hi => by rw [xup2_o n4]; exact s2 i hi) s5.2.1 hq8 (dp + 1) 0 b0 (Nat.zero_add _)
    refine Eq.mpr (congrArg (fun x => pGl x T z J R V0 wy a5 a6 a7 (pCo V0 n) F t f) hx) ?_
    have s1' : ∀ b, ¬ b = wy → ¬ b = a5 → ¬ b = a6 → ¬ b = a7 → xup2 V a6 dp ((q : Int) + 1) b = V0 b := fun b b1 b2 b3 b4 => by rw [xup2_o b3]; exact s1 b b1 b2 b3 b4
    rw [bL_finds_251 (xB_in b')]
    cases b' with
    | false =>
      have hno : ¬ (0 < pCo V0 n (ρ dp) q ∧ ∀ i, i ≤ dp → ¬ ρ i = q) := fun h => by
        have := hb'.mpr ⟨hb0.mpr h.1, fun i _ hi => h.2 i hi⟩
        cases this
      rw [if_pos (show xB false = 0 from rfl), bL_finds_287]
      refine ih ρ dp best (xup2 V a6 dp ((q : Int) + 1)) _ _ _ _ _ (by omega) ⟨s1', fun i hi => by rw [xup2_o n4]; exact s2 i hi, fun i hi => by rw [xup2_o (fun y => n6 y.symm)]; exact s3 i hi, fun i hi => ?_, s5⟩ hb ?_
      · by_cases e : i = dp
        · subst e; rw [xup2_i]; omega
        · rw [xup2_j e]; exact s4 i hi
      · rw [xup2_o n2]
        exact pWs_skip hF ht hf s5 hg hq (fun i hi => xup2_j (by omega)) xup2_i hno hw
    | true =>
      obtain ⟨h0, hnew⟩ := hb'.mp rfl
      have hc0 := hb0.mp h0
      rw [ecost] at hc0
      have hlt : aS (pO V0) (pQ V0) (pL V0) (ρ dp) q n < 100000000 := by
        refine Classical.byContradiction fun y => ?_
        rw [if_neg y] at hc0; omega
      rw [if_pos hlt] at ecost eln
      rw [if_neg (show ¬ xB true = 0 by decide), bL_finds_256 (by rw [hT7]) (by rw [hT7]; omega) (by rw [hT7]; omega) (by rw [hT5]) (by rw [hT5]; omega) (by rw [hT6]) (by rw [hT6]; omega), bL_finds_287, Int.toNat_natCast, show ((dp : Int) + 1).toNat = dp + 1 by omega, show (dp : Int) + 1 = ((dp + 1 : Nat) : Int) by omega]
      have hRw : pRw (pCo V0 n) f (fun i => if i = dp + 1 then q else ρ i) (dp + 1) := by
        refine ⟨?_, fun i hi => ?_, fun i j hi hj => ?_, fun i hi => ?_⟩
        · show (if 0 = dp + 1 then q else ρ 0) = f
          rw [if_neg (by omega)]; exact s5.1
        · show (if i = dp + 1 then q else ρ i) < 8
          split
          · exact hq8
          · exact s5.2.1 i (by omega)
        · show (if i = dp + 1 then q else ρ i) = (if j = dp + 1 then q else ρ j) → i = j
          intro he
          by_cases c1 : i = dp + 1
          · by_cases c2 : j = dp + 1
            · omega
            · rw [if_pos c1, if_neg c2] at he
              exact absurd he.symm (hnew j (Nat.zero_le _) (by omega))
          · by_cases c2 : j = dp + 1
            · rw [if_neg c1, if_pos c2] at he
              exact absurd he (hnew i (Nat.zero_le _) (by omega))
            · rw [if_neg c1, if_neg c2] at he
              exact s5.2.2.1 i j (by omega) (by omega) he
        · show 0 < pCo V0 n (if i = dp + 1 then q else ρ i) (if i + 1 = dp + 1 then q else ρ (i + 1))
          rw [if_neg (by omega)]
          by_cases c1 : i = dp
          · subst c1; rw [if_pos rfl, ecost]; omega
          · rw [if_neg (by omega)]; exact s5.2.2.2 i (by omega)
      refine ih (fun i => if i = dp + 1 then q else ρ i) (dp + 1) best _ _ _ _ _ _ ?_ ⟨fun b b1 b2 b3 b4 => by rw [xup2_o b3, xup2_o b2, xup2_o b4]; exact s1' b b1 b2 b3 b4, fun i hi => ?_, fun i hi => ?_, fun i hi => ?_, hRw⟩ hb ?_
      · have e1 : pMu (xup2 (xup2 (xup2 (xup2 V a6 dp ((q : Int) + 1)) a7 (dp + 1) (xup2 V a6 dp ((q : Int) + 1) a7 dp + pLn V0 (ρ dp) q n)) a5 (dp + 1) q) a6 (dp + 1) 0 a6) (dp + 1) = pMu (xup2 V a6 dp ((q : Int) + 1) a6) dp + (9 - (0 : Int)).toNat * 10 ^ (8 - dp) := by
          rw [pMu, xup2_i]
          congr 1
          refine pMu_e dp (fun j hj => ?_)
          rw [xup2_j (by omega), xup2_o (fun y => n4 y.symm), xup2_o n6]
        have e2 : 10 ^ (9 - dp) = 10 ^ (8 - dp) * 10 := by rw [show 9 - dp = (8 - dp) + 1 by omega, Nat.pow_succ]
        have e3 : 1 ≤ 10 ^ (8 - dp) := Nat.pow_pos (show 0 < 10 by decide)
        have e4 : (9 - (0 : Int)).toNat * 10 ^ (8 - dp) = 9 * 10 ^ (8 - dp) := rfl
        omega
      · show _ = (((if i = dp + 1 then q else ρ i) : Nat) : Int)
        rw [xup2_o n4]
        by_cases e : i = dp + 1
        · subst e; rw [xup2_i, if_pos rfl]
        · rw [xup2_j e, xup2_o n5, xup2_o n4, if_neg e]; exact s2 i (by omega)
      · rw [xup2_o (fun y => n6 y.symm), xup2_o (fun y => n5 y.symm)]
        by_cases e : i = dp + 1
        · subst e
          have h3 := s3 dp (Nat.le_refl _)
          have e5 : pCs (pCo V0 n) (fun i => if i = dp + 1 then q else ρ i) (dp + 1) = pCs (pCo V0 n) ρ dp + pCo V0 n (ρ dp) q := by
            rw [pCs, pCs_e (ρ' := ρ) dp (fun j hj => if_neg (by omega))]
            show _ + pCo V0 n (if dp = dp + 1 then q else ρ dp) (if dp + 1 = dp + 1 then q else ρ (dp + 1)) = _
            rw [if_neg (by omega), if_pos rfl]
          rw [xup2_i, xup2_o (fun y => n6 y.symm), e5, ecost, eln]
          omega
        · rw [xup2_j e, xup2_o (fun y => n6 y.symm), pCs_e (ρ' := ρ) i (fun j hj => if_neg (by omega))]
          exact s3 i (by omega)
      · by_cases e : i = dp + 1
        · subst e; rw [xup2_i]; decide
        · rw [xup2_j e, xup2_o (fun y => n4 y.symm), xup2_o n6]
          by_cases e2 : i = dp
          · subst e2; rw [xup2_i]; omega
          · rw [xup2_j e2]; exact s4 i (by omega)
      · rw [xup2_o n2, xup2_o n1, xup2_o n3, xup2_o n2]
        refine pWs_push hF ht hf s5 hg hq (fun i hi => ?_) ?_ xup2_i (fun i hi => if_neg (by omega)) (if_pos rfl) hw
        · rw [xup2_j (by omega), xup2_o (fun y => n4 y.symm), xup2_o n6, xup2_j (by omega)]
        · rw [xup2_j (by omega), xup2_o (fun y => n4 y.symm), xup2_o n6, xup2_i]
  have hl := pLn_in (x := ρ dp) (y := q) (V := V0) (n := n) hst
  rw [bL_finds_196 (by omega)]
  by_cases c : 1000 ≤ pLn V0 (ρ dp) q n
  · rw [if_pos c, bL_finds_210, bL_finds_211]
    refine key false ⟨fun h => absurd h (by decide), fun h => ?_⟩
    rw [ecost] at h
    by_cases c2 : aS (pO V0) (pQ V0) (pL V0) (ρ dp) q n < 100000000
    · rw [eln, if_pos c2] at c; omega
    · rw [if_neg c2] at h; omega
  · rw [if_neg c, bL_finds_206, bL_finds_211]
    refine key true ⟨fun _ => ?_, fun _ => rfl⟩
    rw [ecost]
    by_cases c2 : aS (pO V0) (pQ V0) (pL V0) (ρ dp) q n < 100000000
    · rw [if_pos c2]; omega
    · rw [eln, if_neg c2] at c; omega
theorem finds_loop {n t f wy a5 a6 a7 : Nat} {V0 : Nat → Nat → Int} {F : Nat → Int} (hA : pAr T) (hM : pMo V0 n) (hF : aB 1000000 (pCo V0 n) t F) (ht : t < 8) (hf : f < 8) (hTw : T wy = (32, 9)) (hT5 : T a5 = (32, 9)) (hT6 : T a6 = (32, 9)) (hT7 : T a7 = (32, 9)) (hne : pNe wy a5 a6 a7) :
    ∀ (N : Nat) (ρ : Nat → Nat) (dp : Nat) (best : Int) (V : Nat → Nat → Int) (o10 o11 o12 o13 o14 : Option Value), pMu (V a6) dp < N → pS0 V0 wy a5 a6 a7 (pCo V0 n) f ρ dp V → (-1 ≤ best ∧ best ≤ 20000) → pWs F (pCo V0 n) t f ρ (V a6) dp best (V wy) →
      pGl (XR sc (d + 1) 95 51 [some (.ref 60), some (.ref 63), some (xw f), some (xw t), some (.ref wy), some (.ref a5), some (.ref a6), some (.ref a7), some (xw best), some (xw dp), o10, o11, o12, o13, o14] [] (T, z, xv V, J, R)) T z J R V0 wy a5 a6 a7 (pCo V0 n) F t f := by
  have hc : ∀ r q, r < 8 → q < 8 → pCo V0 n r q ≤ 1601 := fun r q _ _ => (aCo_in hM.2.2.2).2
  intro N
  induction N with
  | zero => intro ρ dp best V o10 o11 o12 o13 o14 h; exact absurd h (Nat.not_lt_zero _)
  | succ N ih =>
    intro ρ dp best V o10 o11 o12 o13 o14 hμ hS hb hw
    have hS' := hS
    obtain ⟨s1, s2, s3, s4, s5⟩ := hS
    have h7 := pRw_7 s5
    have hhi := pRw_hi hc s5 dp (Nat.le_refl _)
    have hρ := s5.2.1 dp (Nat.le_refl _)
    have v5 := s2 dp (Nat.le_refl _)
    have v7 := s3 dp (Nat.le_refl _)
    have v6 := s4 dp (Nat.le_refl _)
    -- behind the record
    have k131 : ∀ (best : Int) (V : Nat → Nat → Int) (o11 : Option Value), pMu (V a6) dp ≤ N → pS0 V0 wy a5 a6 a7 (pCo V0 n) f ρ dp V → (-1 ≤ best ∧ best ≤ 20000) → (ρ dp = t → pWt F (pCo V0 n) t f ρ (V a6) dp best (V wy)) → (¬ ρ dp = t → pWs F (pCo V0 n) t f ρ (V a6) dp best (V wy)) →
        pGl (XR sc (d + 1) 95 131 [some (.ref 60), some (.ref 63), some (xw f), some (xw t), some (.ref wy), some (.ref a5), some (.ref a6), some (.ref a7), some (xw best), some (xw dp), some (xw (pCs (pCo V0 n) ρ dp)), o11, o12, o13, o14] [] (T, z, xv V, J, R)) T z J R V0 wy a5 a6 a7 (pCo V0 n) F t f := by
      intro best V o11 hμ hS hb hy hn
      have v5 := hS.2.1 dp (Nat.le_refl _)
      have v6 := hS.2.2.2.1 dp (Nat.le_refl _)
      rw [bL_finds_131 (by rw [hT5]) (by rw [hT5]; omega) (by rw [Int.toNat_natCast, v5]; omega) (by omega), Int.toNat_natCast, v5]
      by_cases c : ρ dp = t
      · rw [if_pos (by omega)]
        exact fl_162 hF hf ih hμ hS hb (hy c)
      · have hws := hn c
        rw [if_neg (by omega), bL_finds_140 (by rw [hT6]) (by rw [hT6]; omega) (by rw [Int.toNat_natCast]; omega), Int.toNat_natCast]
        by_cases c8 : V a6 dp = 8
        · rw [if_pos c8]
          exact fl_162 hF hf ih hμ hS hb (pWs_stop hF ht hf s5 c (Or.inl c8) hws)
        · rw [if_neg c8, bL_finds_150 (by omega)]
          by_cases cb : best < 0
          · rw [if_pos cb]
            exact fl_168 hA hM hF ht hf hT5 hT6 hT7 hne ih hμ hS hb c c8 hws
          · rw [if_neg cb, bL_finds_155 (by omega) (by omega)]
            by_cases cc : pCs (pCo V0 n) ρ dp < best
            · rw [if_pos cc]
              exact fl_168 hA hM hF ht hf hT5 hT6 hT7 hne ih hμ hS hb c c8 hws
            · rw [if_neg cc]
              exact fl_162 hF hf ih hμ hS hb (pWs_stop hF ht hf s5 c (Or.inr ⟨by omega, by omega⟩) hws)
    rw [bL_finds_51 (by omega), if_neg (by omega), bL_finds_56 (by rw [hT7]) (by rw [hT7]; omega) (by rw [hT5]) (by rw [hT5]; omega) (by rw [Int.toNat_natCast, v5]; omega) (by omega), Int.toNat_natCast, v5, show 16 * V a7 dp + (dp : Int) = pCs (pCo V0 n) ρ dp from v7]
    by_cases c : ρ dp = t
    · have hgo : ∀ w', _ := fun w' => pWs_goal (w' := w') hF hc ht hf s5 c hb.1 hw
      rw [if_pos (by omega)]
      have rec_ : best < 0 ∨ pCs (pCo V0 n) ρ dp < best → pGl (XR sc (d + 1) 95 90 [some (.ref 60), some (.ref 63), some (xw f), some (xw t), some (.ref wy), some (.ref a5), some (.ref a6), some (.ref a7), some (xw best), some (xw dp), some (xw (pCs (pCo V0 n) ρ dp)), o11, o12, o13, o14] [] (T, z, xv V, J, R)) T z J R V0 wy a5 a6 a7 (pCo V0 n) F t f := by
        intro hrec
        obtain ⟨V', o11', f1, f2, f3⟩ := fill_lp (sc := sc) (d := d + 1) (T := T) (z := z) (J := J) (R := R) (wy := wy) (a5 := a5) (dp := dp) (ρ := ρ) (o0 := some (.ref 60)) (o1 := some (.ref 63)) (o2 := some (xw f)) (o3 := some (xw t)) (o6 := some (.ref a6)) (o7 := some (.ref a7)) (o8 := some (xw (pCs (pCo V0 n) ρ dp))) (o10 := some (xw (pCs (pCo V0 n) ρ dp))) (o12 := o12) (o13 := o13) (o14 := o14) hTw hT5 hne.1.1 h7 9 0 V rfl s2 (fun j hj => absurd hj (Nat.not_lt_zero j))
        rw [bL_finds_90]
        refine Eq.mpr (congrArg (fun x => pGl x T z J R V0 wy a5 a6 a7 (pCo V0 n) F t f) f3) ?_
        have e6 : V' a6 = V a6 := f1 a6 (fun q => hne.1.2.1 q.symm)
        have hw2 := (hgo (V' wy)).1 hrec f2
        refine k131 (pCs (pCo V0 n) ρ dp) V' o11' (by rw [e6]; omega) ⟨fun b b1 b2 b3 b4 => by rw [f1 b b1]; exact s1 b b1 b2 b3 b4, fun i hi => by rw [f1 a5 (fun q => hne.1.1 q.symm)]; exact s2 i hi, fun i hi => by rw [f1 a7 (fun q => hne.1.2.2 q.symm)]; exact s3 i hi, fun i hi => by rw [e6]; exact s4 i hi, s5⟩ (by omega) (fun _ => by rw [e6]; exact hw2) (fun q => absurd c q)
      rw [bL_finds_78 (by omega)]
      by_cases cb : best < 0
      · rw [if_pos cb]; exact rec_ (Or.inl cb)
      · rw [if_neg cb, bL_finds_83 (by omega) (by omega)]
        by_cases cc : best ≤ pCs (pCo V0 n) ρ dp
        · rw [if_pos cc]
          exact k131 best V _ (by omega) hS' hb (fun _ => (hgo (V wy)).2 (by omega)) (fun q => absurd c q)
        · rw [if_neg cc]; exact rec_ (Or.inr (by omega))
    · rw [if_neg (by omega)]
      exact k131 best V _ (by omega) hS' hb (fun q => absurd q c) (fun _ => hw)
/-- the row of the way is emptied first -/
theorem empty_lp {wy : Nat} {o0 o1 o2 o3 o5 o6 o7 o8 o9 o11 o12 o13 o14 : Option Value} (hTw : T wy = (32, 9)) :
    ∀ (m k : Nat) (V : Nat → Nat → Int), k + m = 9 → (∀ j, j < k → V wy j = -1) →
    ∃ (V' : Nat → Nat → Int) (o10 : Option Value), (∀ b, ¬ b = wy → V' b = V b) ∧ (∀ j, j ≤ 8 → V' wy j = -1) ∧
      XR sc d 95 32 [o0, o1, o2, o3, some (.ref wy), o5, o6, o7, o8, o9, some (xw k), o11, o12, o13, o14] [] (T, z, xv V, J, R) = XR sc d 95 51 [o0, o1, o2, o3, some (.ref wy), o5, o6, o7, o8, o9, o10, o11, o12, o13, o14] [] (T, z, xv V', J, R) := by
  intro m
  induction m with
  | zero =>
    intro k V hk hw
    refine ⟨V, some (xw k), fun _ _ => rfl, fun j hj => hw j (by omega), ?_⟩
    rw [bL_finds_32 (by omega), if_pos (by omega)]
  | succ m ih =>
    intro k V hk hw
    obtain ⟨V', o10, h1, h2, h3⟩ := ih (k + 1) (xup2 V wy k (-1)) (by omega) (fun j hj => by
      by_cases e : j = k
      · subst e; rw [xup2_i]
      · rw [xup2_j e]; exact hw j (by omega))
    refine ⟨V', o10, fun b hb => by rw [h1 b hb, xup2_o hb], h2, ?_⟩
    rw [bL_finds_32 (by omega), if_neg (by omega), bL_finds_39 (by rw [hTw]) (by rw [hTw]; omega), Int.toNat_natCast, show (k : Int) + 1 = ((k + 1 : Nat) : Int) by omega]
    exact h3
/-- what a call leaves of the cells below n, but one -/
def pEx (n wy : Nat) (T : Nat → Nat × Nat) (V : Nat → Nat → Int) (J : Nat → Nat → Int64) (R : Nat → Nat → Option Nat) (T' : Nat → Nat × Nat) (V' : Nat → Nat → Int) (J' : Nat → Nat → Int64) (R' : Nat → Nat → Option Nat) : Prop :=
  ∀ b, b < n → T' b = T b ∧ R' b = R b ∧ J' b = J b ∧ (¬ b = wy → V' b = V b)
theorem pAr_e {T T' : Nat → Nat × Nat} (h : pAr T) (hT : ∀ b, 56 ≤ b → b < 64 → T' b = T b) : pAr T' := by
  unfold pAr at h ⊢
  rw [hT 56 (by decide) (by decide), hT 57 (by decide) (by decide), hT 58 (by decide) (by decide), hT 59 (by decide) (by decide), hT 60 (by decide) (by decide), hT 61 (by decide) (by decide), hT 62 (by decide) (by decide), hT 63 (by decide) (by decide)]
  exact h
theorem l_finds {n t f wy : Nat} {F : Nat → Int} (hA : pAr T) (hM : pMo V n) (hF : aB 1000000 (pCo V n) t F) (ht : t < 8) (hf : f < 8) (hTw : T wy = (32, 9)) (hwy : 64 ≤ wy ∧ wy < z.1) :
    ∃ (T' : Nat → Nat × Nat) (V' : Nat → Nat → Int) (J' : Nat → Nat → Int64) (R' : Nat → Nat → Option Nat), X sc (d + 2) 95 [.ref 60, .ref 63, xw f, xw t, .ref wy] (T, z, xv V, J, R) = some (.inl (some (xw (xB (decide (F f < 1000000))))), (T', (z.1 + 3, z.2 + 9 + 9 + 9), xv V', J', R')) ∧
      pEx z.1 wy T V J R T' V' J' R' ∧ ∀ k, k ≤ 8 → V' wy k = if F f < 1000000 ∧ k ≤ aLen (pCo V n) F t 7 f then (aAt (pCo V n) F f k : Int) else -1 := by
  have eT : ∀ b, b < z.1 → va_up (va_up (va_up T z.1 (32, 9)) (z.1 + 1) (32, 9)) (z.1 + 2) (32, 9) b = T b := fun b hb => by rw [va_ne (by omega), va_ne (by omega), va_ne (by omega)]
  have eT5 : va_up (va_up (va_up T z.1 (32, 9)) (z.1 + 1) (32, 9)) (z.1 + 2) (32, 9) z.1 = (32, 9) := by rw [va_ne (by omega), va_ne (by omega), va_same]
  have eT6 : va_up (va_up (va_up T z.1 (32, 9)) (z.1 + 1) (32, 9)) (z.1 + 2) (32, 9) (z.1 + 1) = (32, 9) := by rw [va_ne (by omega), va_same]
  have eT7 : va_up (va_up (va_up T z.1 (32, 9)) (z.1 + 1) (32, 9)) (z.1 + 2) (32, 9) (z.1 + 2) = (32, 9) := va_same
  have eV : ∀ b, b < z.1 → xup2 (va_up (va_up (va_up V z.1 (fun _ => 0)) (z.1 + 1) (fun _ => 0)) (z.1 + 2) (fun _ => 0)) z.1 0 (f : Int) b = V b := fun b hb => by rw [xup2_o (by omega), va_ne (by omega), va_ne (by omega), va_ne (by omega)]
  have eR : ∀ b, b < z.1 → va_up (va_up (va_up R z.1 (fun _ => none)) (z.1 + 1) (fun _ => none)) (z.1 + 2) (fun _ => none) b = R b := fun b hb => by rw [va_ne (by omega), va_ne (by omega), va_ne (by omega)]
  have eJ : ∀ b, b < z.1 → va_up (va_up (va_up J z.1 (fun _ => 0)) (z.1 + 1) (fun _ => 0)) (z.1 + 2) (fun _ => 0) b = J b := fun b hb => by rw [va_ne (by omega), va_ne (by omega), va_ne (by omega)]
  rw [eL_finds, bL_finds_0 (by rw [eT5]) (by rw [eT5]; decide)]
  have v5 : xup2 (va_up (va_up (va_up V z.1 (fun _ => 0)) (z.1 + 1) (fun _ => 0)) (z.1 + 2) (fun _ => 0)) z.1 0 (f : Int) z.1 0 = f := xup2_i
  have v6 : xup2 (va_up (va_up (va_up V z.1 (fun _ => 0)) (z.1 + 1) (fun _ => 0)) (z.1 + 2) (fun _ => 0)) z.1 0 (f : Int) (z.1 + 1) 0 = 0 := by rw [xup2_o (by omega), va_ne (by omega), va_same]
  have v7 : xup2 (va_up (va_up (va_up V z.1 (fun _ => 0)) (z.1 + 1) (fun _ => 0)) (z.1 + 2) (fun _ => 0)) z.1 0 (f : Int) (z.1 + 2) 0 = 0 := by rw [xup2_o (by omega), va_same]
  revert eT eT5 eT6 eT7 eV eR eJ v5 v6 v7
  generalize va_up (va_up (va_up T z.1 (32, 9)) (z.1 + 1) (32, 9)) (z.1 + 2) (32, 9) = T1
  generalize xup2 (va_up (va_up (va_up V z.1 (fun _ => 0)) (z.1 + 1) (fun _ => 0)) (z.1 + 2) (fun _ => 0)) z.1 0 (f : Int) = V1
  generalize va_up (va_up (va_up J z.1 (fun _ => 0)) (z.1 + 1) (fun _ => 0)) (z.1 + 2) (fun _ => 0) = J1
  generalize va_up (va_up (va_up R z.1 (fun _ => none)) (z.1 + 1) (fun _ => none)) (z.1 + 2) (fun _ => none) = R1
  intro eT eT5 eT6 eT7 eV eR eJ v5 v6 v7
  have hTw1 : T1 wy = (32, 9) := by rw [eT wy hwy.2]; exact hTw
  obtain ⟨V2, o10, e1, e2, e3⟩ := empty_lp (sc := sc) (d := d + 1) (T := T1) (z := (z.1 + 3, z.2 + 9 + 9 + 9)) (J := J1) (R := R1) (wy := wy) (o0 := some (.ref 60)) (o1 := some (.ref 63)) (o2 := some (xw f)) (o3 := some (xw t)) (o5 := some (.ref z.1)) (o6 := some (.ref (z.1 + 1))) (o7 := some (.ref (z.1 + 2))) (o8 := some (xw (-1))) (o9 := some (xw 0)) (o11 := none) (o12 := none) (o13 := none) (o14 := none) hTw1 9 0 V1 rfl (fun j hj => absurd hj (Nat.not_lt_zero j))
  have w60 : V2 60 = V 60 := by rw [e1 60 (by omega), eV 60 (by omega)]
  have w63 : V2 63 = V 63 := by rw [e1 63 (by omega), eV 63 (by omega)]
  have ec : pCo V2 n = pCo V n := by unfold pCo; rw [(pO_e w60).1, (pO_e w60).2.1, (pO_e w60).2.2]
  have hM2 : pMo V2 n := pMo_e w60 (by rw [w63]) hM
  have hRw : pRw (pCo V2 n) f (fun _ => f) 0 := ⟨rfl, fun _ _ => hf, fun i j hi hj _ => by omega, fun i hi => absurd hi (Nat.not_lt_zero i)⟩
  have hws : pWs F (pCo V2 n) t f (fun _ => f) (V2 (z.1 + 1)) 0 (-1) (V2 wy) := by
    by_cases c : F f < 1000000
    · refine Or.inr (Or.inl ⟨c, Or.inl (by decide), 0, Nat.le_refl _, Nat.zero_le _, fun i hi => ?_, fun _ => ?_, fun _ => rfl, fun q => absurd q (Nat.lt_irrefl 0)⟩)
      · obtain rfl : i = 0 := by omega
        rfl
      · rw [e1 (z.1 + 1) (by omega), v6]; omega
    · exact Or.inr (Or.inr ⟨c, rfl, e2⟩)
  obtain ⟨V', g1, g2, g3⟩ := finds_loop (sc := sc) (d := d) (T := T1) (z := (z.1 + 3, z.2 + 9 + 9 + 9)) (J := J1) (R := R1) (V0 := V2) (n := n) (t := t) (f := f) (wy := wy) (a5 := z.1) (a6 := z.1 + 1) (a7 := z.1 + 2) (F := F) (pAr_e hA (fun b _ hb => eT b (by omega))) hM2 (by rw [ec]; exact hF) ht hf hTw1 eT5 eT6 eT7 ⟨⟨by omega, by omega, by omega⟩, ⟨by omega, by omega, by omega⟩, ⟨by omega, by omega, by omega, by omega⟩⟩ (pMu (V2 (z.1 + 1)) 0 + 1) (fun _ => f) 0 (-1) V2 o10 none none none none (Nat.lt_succ_self _) ⟨fun _ _ _ _ _ => rfl, fun i hi => by
      obtain rfl : i = 0 := by omega
      rw [e1 z.1 (by omega), v5], fun i hi => by
      obtain rfl : i = 0 := by omega
      rw [e1 (z.1 + 2) (by omega), v7]; rfl, fun i hi => by
      obtain rfl : i = 0 := by omega
      rw [e1 (z.1 + 1) (by omega), v6]; decide, hRw⟩ ⟨by decide, by decide⟩ hws
  refine ⟨T1, V', J1, R1, e3.trans g1, fun b hb => ⟨eT b hb, eR b hb, eJ b hb, fun hw => by rw [g2 b hw (by omega) (by omega) (by omega), e1 b hw, eV b hb]⟩, fun k hk => ?_⟩
  rw [g3 k hk, ec]
end P4
