/-! the law's cases: cut -/
section SX9l
variable {sc : xS} {i : Nat} {T : Nat → Nat × Nat} {z : Nat × Nat} {V : Nat → Nat → Int} {J : Nat → Nat → Int64} {R : Nat → Nat → Option Nat}
theorem c_cut {x c r al wi st : Int} (hI : iInv i T z V J R) (hi : i ≤ 512) (hx : (-2147483648 ≤ x ∧ x ≤ 2147483647)) (hc : (-2147483648 ≤ c ∧ c ≤ 2147483647)) (hr : (-2147483648 ≤ r ∧ r ≤ 2147483647)) (hal : (-2147483648 ≤ al ∧ al ≤ 2147483647)) (hwi : (-2147483648 ≤ wi ∧ wi ≤ 2147483647)) (hst : st = 0 ∨ st = 1) : iCs sc i 52 104 [xw x, xw c, xw r, xw al, xw wi, xw st] k123 T z V J R := by
  obtain ⟨⟨hT, hR, hH, hS, hE, hM, h81⟩, hz, hH9, hP9, hO⟩ := id hI
  obtain ⟨H, hH2⟩ := id hH9
  obtain ⟨P, hP⟩ := id hP9
  have h0 := iInv_h0 hI
  have hH1 := hH2.1
  have hP40 := hP.1
  have mr := hP.2.1
  by_cases cx : 0 ≤ x ∧ x < V 56 0
  · obtain ⟨h, rfl⟩ : ∃ m : Nat, x = m := ⟨x.toNat, by omega⟩
    have hH' : h < H := by omega
    obtain ⟨a, ea, ha, h1⟩ := hd_y hH2 hH'
    obtain ⟨⟨p1a, p1b, p1c⟩, p2, p3, p4, p5, p6⟩ := id h1
    have hth := iInv_th hI h (by omega)
    have cls := s_cut (sc := sc) (d := 1) (z := z) (V := V) (J := J) hT (by omega) (show 0 ≤ (h : Int) ∧ (h : Int) < 8 by omega) (by rw [Int.toNat_natCast]; exact ha) h1.1 (by omega) (hd_01 h1) hc hr hal hwi hst (by omega)
    by_cases c2 : (0 ≤ c ∧ c < 12) ∧ (0 ≤ r ∧ r < 8)
    · by_cases c3 : (1 ≤ al ∧ al ≤ 12 - c) ∧ (1 ≤ wi ∧ wi ≤ 8 - r)
      · have can := can_eq (V := V) (B := V 58) (st := st) p6 (show 0 ≤ c ∧ 1 ≤ al ∧ c + al ≤ 12 by omega) (show 0 ≤ r ∧ 1 ≤ wi ∧ r + wi ≤ 8 by omega)
        have c3' : ((1 ≤ al ∧ al ≤ 12) ∧ (1 ≤ wi ∧ wi ≤ 8)) ∧ c + al ≤ 12 ∧ r + wi ≤ 8 := by omega
        by_cases c4 : xCan V (a + 1) c r al wi st = true ∧ V 0 3 < 40
        · rw [if_pos c2, if_pos c3, if_pos c4] at cls
          have e0 : (V 0 3).toNat = P := by omega
          rw [e0] at cls
          have c5 : xMW (V 58) h c r al wi st = 1 ∧ V 56 3 < 40 := ⟨can.mp c4.1, by omega⟩
          clear can
          generalize hn : z.1 = n at *
          obtain ⟨c', rfl⟩ : ∃ m : Nat, c = m := ⟨c.toNat, by omega⟩
          obtain ⟨r', rfl⟩ : ∃ m : Nat, r = m := ⟨r.toNat, by omega⟩
          obtain ⟨al', rfl⟩ : ∃ m : Nat, al = m := ⟨al.toNat, by omega⟩
          obtain ⟨wi', rfl⟩ : ∃ m : Nat, wi = m := ⟨wi.toNat, by omega⟩
          -- the class's state
          have vo : ∀ b, ¬ b = 0 → ¬ b = n → ¬ b = n + 1 → ¬ b = a + 1 → xCut V n a (a + 1) c' r' al' wi' st b = V b := fun b b0 b1 b2 b3 => by
            unfold xCut xPV; rw [xSp_o b3, xup2_o b0, xup2_o b1, xup2_o b1, xup2_o b1, va_ne b2, xup2_o b1, xup2_o b1, xup2_o b1, xup2_o b1, xup2_o b1, va_ne b1]
          have v0 : ∀ j, ¬ j = 3 → xCut V n a (a + 1) c' r' al' wi' st 0 j = V 0 j := fun j hj => by
            unfold xCut xPV; rw [xSp_o (by omega), xup2_j hj, xup2_o (by omega), xup2_o (by omega), xup2_o (by omega), va_ne (by omega), xup2_o (by omega), xup2_o (by omega), xup2_o (by omega), xup2_o (by omega), xup2_o (by omega), va_ne (by omega)]
          have v03 : xCut V n a (a + 1) c' r' al' wi' st 0 3 = V 0 3 + 1 := by unfold xCut; rw [xSp_o (by omega), xup2_i]
          have vn : ∀ j, xCut V n a (a + 1) c' r' al' wi' st n j = if j = 11 ∨ j = 10 ∨ j = 9 then -1 else if j = 3 then st else if j = 5 then (if (r' : Int) + wi' ≤ 5 then V a 0 else V a 0 - 1) else if j = 2 then (r' : Int) else if j = 1 then (wi' : Int) else if j = 0 then (al' : Int) else 0 := fun j => by
            unfold xCut xPV
            rw [xSp_o (by omega), xup2_o (by omega)]
            by_cases e11 : j = 11
            · subst e11; rw [xup2_i, if_pos (by omega)]
            · by_cases e10 : j = 10
              · subst e10; rw [xup2_j (by decide), xup2_i, if_pos (by omega)]
              · by_cases e9 : j = 9
                · subst e9; rw [xup2_j (by decide), xup2_j (by decide), xup2_i, if_pos (by omega)]
                · rw [if_neg (show ¬ (j = 11 ∨ j = 10 ∨ j = 9) by omega), xup2_j e11, xup2_j e10, xup2_j e9, va_ne (by omega)]
                  by_cases e3 : j = 3
                  · subst e3; rw [xup2_i, if_pos rfl]
                  · rw [xup2_j e3, if_neg e3]
                    by_cases e5 : j = 5
                    · subst e5; rw [xup2_i, if_pos rfl]
                    · rw [xup2_j e5, if_neg e5]
                      by_cases e2 : j = 2
                      · subst e2; rw [xup2_i, if_pos rfl]
                      · rw [xup2_j e2, if_neg e2]
                        by_cases e1 : j = 1
                        · subst e1; rw [xup2_i, if_pos rfl]
                        · rw [xup2_j e1, if_neg e1]
                          by_cases e0 : j = 0
                          · subst e0; rw [xup2_i, if_pos rfl]
                          · rw [xup2_j e0, if_neg e0, va_same]
          have vg : ∀ k, xCut V n a (a + 1) c' r' al' wi' st (n + 1) k = 0 := fun k => by
            unfold xCut xPV; rw [xSp_o (by omega), xup2_o (by omega), xup2_o (by omega), xup2_o (by omega), xup2_o (by omega), va_same]
          have vs : ∀ k, xCut V n a (a + 1) c' r' al' wi' st (a + 1) k = if (r' ≤ k / 12 ∧ k / 12 < r' + wi') ∧ c' ≤ k % 12 ∧ k % 12 < c' + al' then 1 else V (a + 1) k := fun k => by
            unfold xCut xPV xSp
            by_cases e : (r' ≤ k / 12 ∧ k / 12 < r' + wi') ∧ c' ≤ k % 12 ∧ k % 12 < c' + al'
            · rw [if_pos e, if_pos ⟨rfl, by omega⟩]
            · rw [if_neg e, if_neg (by omega), xup2_o (by omega), xup2_o (by omega), xup2_o (by omega), xup2_o (by omega), va_ne (by omega), xup2_o (by omega), xup2_o (by omega), xup2_o (by omega), xup2_o (by omega), xup2_o (by omega), va_ne (by omega)]
          generalize xCut V n a (a + 1) c' r' al' wi' st = V1 at *
          have to : ∀ b, ¬ b = n → ¬ b = n + 1 → xPT T n b = T b := fun b b1 b2 => by unfold xPT; rw [va_ne b2, va_ne b1]
          have tn : xPT T n n = (2, 0) := by unfold xPT; rw [va_ne (by omega), va_same]
          have tg : xPT T n (n + 1) = (33, 49) := by unfold xPT; rw [va_same]
          have rO : ∀ b, ¬ b = 2 → ¬ b = n → ¬ b = n + 1 → xup2 (xPR R n) 2 P (some n) b = R b := fun b b0 b1 b2 => by unfold xPR; rw [xup2_o b0, xup2_o b1, va_ne b2, va_ne b1]
          have r2 : ∀ q, ¬ q = P → xup2 (xPR R n) 2 P (some n) 2 q = R 2 q := fun q hq => by unfold xPR; rw [xup2_j hq, xup2_o (by omega), va_ne (by omega), va_ne (by omega)]
          have r2P : xup2 (xPR R n) 2 P (some n) 2 P = some n := xup2_i
          have rn : xup2 (xPR R n) 2 P (some n) n 4 = some (n + 1) := by unfold xPR; rw [xup2_o (by omega), xup2_i]
          generalize xup2 (xPR R n) 2 P (some n) = R1 at *
          generalize xPT T n = T1 at *
          have j64 : xHJ J n 64 = J 64 := by unfold xHJ; rw [va_ne (by omega), va_ne (by omega)]
          generalize xHJ J n = J1 at *
          have hS1 : iSta T1 R1 := iSta_e hI.1 (fun b hb => to b (by omega) (by omega)) (fun b hb _ x => rO b x (by omega) (by omega))
          have e56 : V1 56 = V 56 := vo 56 (by decide) (by omega) (by omega) (by omega)
          have mod := m_cut (sc := sc) (d := 7) (z := (n + 1 + 1, z.2 + 13 + 49)) (T := T1) (R := R1) (V := V1) (J := xup2 J1 81 0 (jI (V 0 3))) hS1.2.2.2.2.2.1 (by rw [e56]; exact h0) (by rw [e56]; omega) hx hc hr hal hwi hst
          rw [e56, vo 58 (by decide) (by omega) (by omega) (by omega), if_pos ⟨cx, c2⟩, if_pos c3', if_pos c5, show V 56 3 + 1 - 1 = V 0 3 by omega] at mod
          obtain ⟨k1, k2, k3, k4, k5, ⟨k59, k60, k61, k62, k63, k68, k69, k70⟩, k58⟩ := xMk_at (V := V1) (h := h) (c := c') (r := r') (al := al') (wi := wi') (st := st) (P := P) (by rw [e56]; omega)
          rw [Int.toNat_natCast, vo 57 (by decide) (by omega) (by omega) (by omega)] at k61
          rw [Int.toNat_natCast] at k58
          rw [e56] at k2 k4
          refine Or.inl ⟨_, _, _, _, _, _, _, _, (by intro h; exact absurd h (by decide)), cls, hS1.2.2.2.2.2.2, hS1.2.2.2.2.2.1.1, mod, jc_in.1, k3, ?_⟩
          generalize xMk V1 h c' r' al' wi' st = W at *
          have w58 : ∀ q, W 58 q = if 8 * h + r' ≤ q ∧ q < 8 * h + r' + wi' then iOr (V 58 q) (xMsk c' al') else V 58 q := fun q => by
            rw [k58, xMb_at rfl, xup2_o (by decide), vo 58 (by decide) (by omega) (by omega) (by omega)]
          have ro : ∀ b, ¬ b = 0 → ¬ b = n → ¬ b = n + 1 → ¬ b = a + 1 → ¬ b = 56 → ¬ (58 ≤ b ∧ b ≤ 63) → ¬ (68 ≤ b ∧ b ≤ 70) → W b = V b := fun b b0 b1 b2 b3 b4 b5 b6 => by rw [k1 b b4 b5 b6]; exact vo b b0 b1 b2 b3
          have rq : ∀ b q, 59 ≤ b → b ≤ 70 → ¬ q = P → W b q = V b q := fun b q q1 q2 q3 => by
            by_cases e : b ≤ 63 ∨ 68 ≤ b
            · rw [k5 b q (by omega) q3, vo b (by omega) (by omega) (by omega) (by omega)]
            · rw [ro b (by omega) (by omega) (by omega) (by omega) (by omega) (by omega) (by omega)]
          have r0 : ∀ j, W 0 j = V1 0 j := fun j => by rw [k1 0 (by decide) (by decide) (by decide)]
          have wn : W n = V1 n := k1 n (by omega) (by omega) (by omega)
          have wg : W (n + 1) = V1 (n + 1) := k1 (n + 1) (by omega) (by omega) (by omega)
          have ws : W (a + 1) = V1 (a + 1) := k1 (a + 1) (by omega) (by omega) (by omega)
          refine ⟨hS1, ⟨by show 82 ≤ n + 1 + 1; omega, by show n + 1 + 1 ≤ _; omega, by show z.2 + 13 + 49 ≤ _; omega⟩, ⟨H, ?_⟩, ⟨P + 1, ?_⟩, ?_⟩
          · refine iHid_u hH2 hH' ea (show n ≤ n + 1 + 1 by omega) (fun b _ hb => to b (by omega) (by omega)) (rO 1 (by decide) (by omega) (by omega)) (fun b b1 hb => rO b (by omega) (by omega) (by omega)) (by rw [r0, v0 1 (by decide)]) (k2 0 (by decide) (by decide)) (ro 57 (by decide) (by omega) (by omega) (by omega) (by decide) (by decide) (by decide)) (fun q hq => by rw [w58 q, if_neg (by omega)]) (fun b b1 b2 b3 _ => ro b (by omega) (by omega) (by omega) b3 (by omega) (by omega) (by omega)) (fun k hk => ?_)
            rw [ws, vs k, w58]
            by_cases e : r' ≤ k / 12 ∧ k / 12 < r' + wi'
            · rw [if_pos (show 8 * h + r' ≤ 8 * h + k / 12 ∧ 8 * h + k / 12 < 8 * h + r' + wi' by omega), i_or]
              unfold xMsk
              rw [i_mask al' (by omega) c' (by omega) (by omega) (k % 12) (by omega)]
              by_cases e2 : c' ≤ k % 12 ∧ k % 12 < c' + al'
              · rw [decide_eq_true e2, Bool.or_true, if_pos ⟨e, e2⟩, if_pos rfl]
              · rw [decide_eq_false e2, Bool.or_false, if_neg (fun q => e2 q.2)]; exact p6 k hk
            · rw [if_neg (fun q => e q.1), if_neg (show ¬ (8 * h + r' ≤ 8 * h + k / 12 ∧ 8 * h + k / 12 < 8 * h + r' + wi') by omega)]; exact p6 k hk
          · have xo : ∀ q, ¬ q = P → xp R1 q = xp R q := fun q hq => by unfold xp; rw [r2 q hq]
            have xP : xp R1 P = n := by unfold xp; rw [r2P]; rfl
            have pth : (if (r' : Int) + wi' ≤ 5 then V a 0 else V a 0 - 1) = V 57 h - (if (r' : Int) + wi' ≤ 5 then 0 else 1) := by rw [p4]; split <;> omega
            have b61 : 1 ≤ V 57 h - (if (r' : Int) + wi' ≤ 5 then 0 else 1) ∧ V 57 h - (if (r' : Int) + wi' ≤ 5 then 0 else 1) ≤ 9 := by split <;> omega
            obtain ⟨none1, none2, none3, none4, none5⟩ := hP.2.2.1 P (Nat.le_refl P) (by omega)
            have w65 : W 65 = V 65 := ro 65 (by decide) (by omega) (by omega) (by omega) (by decide) (by decide) (by decide)
            have w66 : W 66 = V 66 := ro 66 (by decide) (by omega) (by omega) (by omega) (by decide) (by decide) (by decide)
            have w67 : W 67 = V 67 := ro 67 (by decide) (by omega) (by omega) (by omega) (by decide) (by decide) (by decide)
            refine ⟨⟨by omega, by rw [r0, v03]; omega, by rw [k4]; omega, by omega⟩, ⟨by rw [k4]; omega, fun k hk => ?_⟩, fun p q1 q2 => ?_, fun p q1 => ?_, fun p p' q1 q2 q3 => ?_⟩
            · obtain ⟨l59, l60, l61, l62, l63, l65, l66, l67, l68, l69, l70⟩ := mr.2 k hk
              by_cases e : k = P
              · subst e
                rw [k59, k60, k61, k62, k63, k68, k69, k70, w65, w66, w67]
                exact ⟨by omega, by omega, by omega, by omega, by omega, l65, l66, l67, by decide, by decide, by decide⟩
              · rw [rq 59 k (by decide) (by decide) e, rq 60 k (by decide) (by decide) e, rq 61 k (by decide) (by decide) e, rq 62 k (by decide) (by decide) e, rq 63 k (by decide) (by decide) e, rq 65 k (by decide) (by decide) e, rq 66 k (by decide) (by decide) e, rq 67 k (by decide) (by decide) e, rq 68 k (by decide) (by decide) e, rq 69 k (by decide) (by decide) e, rq 70 k (by decide) (by decide) e]
                exact ⟨l59, l60, l61, l62, l63, l65, l66, l67, l68, l69, l70⟩
            · rw [r2 p (by omega), jc_in.2, j64, w65, w66, w67]; exact hP.2.2.1 p (by omega) q2
            · by_cases e : p = P
              · subst e
                rw [xP]
                refine ⟨r2P, ⟨⟨tn, rn, tg⟩, by omega, by show n + 1 < n + 1 + 1; omega⟩, ?_, ?_, ?_, ?_, Or.inl ⟨k68, k69, k70⟩, fun k hk => ?_, fun k hk q => ?_, ?_⟩
                · rw [wn, k59, k60, k61, k62, k63]
                  refine ⟨(vn 0).trans rfl, (vn 1).trans rfl, (vn 2).trans rfl, (vn 3).trans rfl, ((vn 5).trans rfl).trans pth, (vn 4).trans rfl⟩
                · rw [wn, w65, w66, w67, none3, none4, none5]
                  exact ⟨(vn 7).trans rfl, (vn 8).trans rfl, (vn 12).trans rfl⟩
                · rw [wn, k68, k69, k70]
                  exact ⟨(vn 9).trans rfl, (vn 10).trans rfl, (vn 11).trans rfl⟩
                · rw [k59, k60, k61, w65, none3]; omega
                · rw [wg, vg, jc_in.2, j64, none2, j_0.mp rfl k (by omega)]; rfl
                · rw [jc_in.2, j64, none2, j_0.mp rfl k hk] at q; exact absurd q (by decide)
                · rw [wn, jc_in.2, j64, none2, (xHc_0 49 0).mpr (fun q _ hq => j_0.mp rfl q (by omega))]; exact (vn 6).trans rfl
              · obtain ⟨q4, q5⟩ := hP.2.2.2.1 p (by omega)
                have g := q5
                obtain ⟨⟨⟨g1, g2, g3⟩, g4, g5⟩, _⟩ := g
                have d1 : ¬ xp R p = a + 1 := fun w => by rw [w, p1c] at g1; exact absurd g1 (by decide)
                have d2 : ¬ xp R p + 1 = a + 1 := fun w => by
                  have : xp R p = a := by omega
                  rw [this, p1a] at g1; exact absurd g1 (by decide)
                rw [xo p e]
                exact ⟨by rw [r2 p e]; exact q4, iPa1_e q5 (Nat.le_succ i) (show n ≤ n + 1 + 1 by omega) ⟨to _ (by omega) (by omega), to _ (by omega) (by omega)⟩ (rO _ (by omega) (by omega) (by omega)) (fun r q1 q2 => rq r p q1 (by omega) e) (by rw [jc_in.2, j64]) (fun j _ => by rw [ro _ (by omega) (by omega) (by omega) d1 (by omega) (by omega) (by omega)]) (fun k _ => by rw [ro _ (by omega) (by omega) (by omega) d2 (by omega) (by omega) (by omega)])⟩
            · by_cases e : p = P
              · by_cases e' : p' = P
                · omega
                · have g := (hP.2.2.2.1 p' (by omega)).2.1.2
                  rw [e, xP, xo p' e'] at q3
                  omega
              · have g := (hP.2.2.2.1 p (by omega)).2.1.2
                by_cases e' : p' = P
                · rw [e', xP, xo p e] at q3
                  omega
                · rw [xo p e, xo p' e'] at q3
                  exact hP.2.2.2.2 p p' (by omega) (by omega) q3
          · exact iHor_e hO (by rw [r0, v0 8 (by decide)]) (k2 24 (by decide) (by decide)) (fun b hb => ro b (by omega) (by omega) (by omega) (by omega) (by omega) (by omega) (by omega))
        · rw [if_pos c2, if_pos c3, if_neg c4] at cls
          have c5 : ¬ (xMW (V 58) h c r al wi st = 1 ∧ V 56 3 < 40) := fun q => c4 ⟨can.mpr q.1, by omega⟩
          (refine iCs_x (k := 0) hI hi iScr_r cls (fun T z V J R hI2 eV eM eJ => ?_) (by decide) (by decide); obtain ⟨⟨_, _, _, _, _, hM, _⟩, hz, hH9, hP9, hO⟩ := id hI2; have mod := m_cut (sc := sc) (d := 7) (T := T) (z := z) (V := V) (J := J) (R := R) hM (iInv_h0 hI2) (iInv_mr hI2).1 hx hc hr hal hwi hst; rw [eM, eM, eV 58 (by omega), if_pos ⟨cx, c2⟩, if_pos c3', if_neg c5] at mod; exact ⟨_, mod, by rw [xup2_i]; rfl, iScr_f⟩)
      · rw [if_pos c2, if_neg c3] at cls
        (refine iCs_x (k := 0) hI hi iScr_r cls (fun T z V J R hI2 eV eM eJ => ?_) (by decide) (by decide); obtain ⟨⟨_, _, _, _, _, hM, _⟩, hz, hH9, hP9, hO⟩ := id hI2; have mod := m_cut (sc := sc) (d := 7) (T := T) (z := z) (V := V) (J := J) (R := R) hM (iInv_h0 hI2) (iInv_mr hI2).1 hx hc hr hal hwi hst; rw [eM, if_pos ⟨cx, c2⟩, if_neg (show ¬ (((1 ≤ al ∧ al ≤ 12) ∧ (1 ≤ wi ∧ wi ≤ 8)) ∧ c + al ≤ 12 ∧ r + wi ≤ 8) by omega)] at mod; exact ⟨_, mod, by rw [xup2_i]; rfl, iScr_f⟩)
    · rw [if_neg c2] at cls
      (refine iCs_x (k := 0) hI hi iScr_r cls (fun T z V J R hI2 eV eM eJ => ?_) (by decide) (by decide); obtain ⟨⟨_, _, _, _, _, hM, _⟩, hz, hH9, hP9, hO⟩ := id hI2; have mod := m_cut (sc := sc) (d := 7) (T := T) (z := z) (V := V) (J := J) (R := R) hM (iInv_h0 hI2) (iInv_mr hI2).1 hx hc hr hal hwi hst; rw [if_neg (fun q => c2 q.2)] at mod; exact ⟨_, mod, by rw [xup2_i]; rfl, iScr_f⟩)
  · have cls := s_cut_x (sc := sc) (d := 1) (z := z) (V := V) (J := J) (c := c) (r := r) (al := al) (wi := wi) (st := st) hT hx (hd_no hH2 cx)
    (refine iCs_x (k := 0) hI hi iScr_r cls (fun T z V J R hI2 eV eM eJ => ?_) (by decide) (by decide); obtain ⟨⟨_, _, _, _, _, hM, _⟩, hz, hH9, hP9, hO⟩ := id hI2; have mod := m_cut (sc := sc) (d := 7) (T := T) (z := z) (V := V) (J := J) (R := R) hM (iInv_h0 hI2) (iInv_mr hI2).1 hx hc hr hal hwi hst; rw [eM, if_neg (fun q => cx q.1)] at mod; exact ⟨_, mod, by rw [xup2_i]; rfl, iScr_f⟩)
end SX9l
