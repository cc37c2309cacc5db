/-! ride of Saddletree, the call -/
section SX6f
variable {sc : xS} {d : Nat} {T : Nat → Nat × Nat} {z : Nat × Nat} {V : Nat → Nat → Int} {J : Nat → Nat → Int64} {R : Nat → Nat → Option Nat}
/-- behind the checks -/
theorem ride_go {h s r w g hr : Int} {o9 o10 o11 o12 o13 : Option Value} (hT : xTr T R) (hE : xSe T R 53 54 55) (hH : xHs T R) (hS : xSs T R) (hB : xBd V) (hh : 0 ≤ h ∧ h < 6) (hs : 0 ≤ s ∧ s < 6) (hr2 : 0 ≤ r ∧ r < 4) (hw : 1 ≤ w ∧ w ≤ 1000) (hg : 1 ≤ g ∧ g ≤ 3) (hhr : 1 ≤ hr ∧ hr ≤ 10) :
    ∃ q, -5000 ≤ q ∧ q ≤ 5000 ∧ xDe (xMg (xup2 V 0 8 (V 0 8 + 1)) h s 54) (w * g) q ∧
    XR sc (d + 6) 73 82 [some (.ref 0), some (xw h), some (xw s), some (xw r), some (xw w), some (xw g), some (xw hr), some (.ref (10 + 4 * h.toNat)), some (.ref (35 + 3 * s.toNat)), o9, o10, o11, o12, o13] [] (T, z, xv V, J, R) =
      some (.inl (some (xw (xRm (xMg (xup2 V 0 8 (V 0 8 + 1)) h s 54) q 7 0 0))), (T, z, xv (xRl (12 + 4 * h.toNat) (13 + 4 * h.toNat) (37 + 3 * s.toNat) s r g hr q 7 0 (xMg (xup2 V 0 8 (V 0 8 + 1)) h s)), J, R)) := by
  have r7 : R 0 7 = some 53 := hT.2.2.2.2.2.2.1
  have e : (R 0 7).getD 0 = 53 := by rw [r7]; rfl
  have hO := (hH h.toNat (by omega)).2
  have hA := (hS s.toNat (by omega)).2
  have hwg : 1 ≤ w * g ∧ w * g ≤ 3000 := by
    rcases (show g = 1 ∨ g = 2 ∨ g = 3 by omega) with rfl | rfl | rfl <;> omega
  have hB' : xBd (xup2 V 0 8 (V 0 8 + 1)) := by
    refine ⟨fun a b c1 c2 => ?_, fun a b c1 c2 => ?_⟩
    · rw [up2_va, va_ne (by omega)]; exact hB.1 a b c1 c2
    · rw [up2_va, va_ne (by omega), va_ne (by omega)]; exact hB.2 a b c1 c2
  have hgp := xMg_in hB' (And.intro hh hs)
  obtain ⟨q, q1, q2, q3, q4⟩ := s_depthBySearch (sc := sc) (d := d + 1) (z := z) (V := xMg (xup2 V 0 8 (V 0 8 + 1)) h s) (J := J) (w := w * g) hE hgp (by omega)
  refine ⟨q, q1, q2, q3, ?_⟩
  have hF : ∀ j, j < 7 → 0 ≤ xMg (xup2 V 0 8 (V 0 8 + 1)) h s (37 + 3 * s.toNat) j ∧ xMg (xup2 V 0 8 (V 0 8 + 1)) h s (37 + 3 * s.toNat) j ≤ 20 := by
    intro j hj
    rw [xMg_ne (by omega)]
    exact (hB'.2 s.toNat j (by omega) hj).2
  rw [bX6_ride_82 hT.1 (rgd r7) (by rw [e]; exact hE.1), e, s_measure hE hA hO (by omega), xret_n, bX6_ride_103 hT.1 (rgd r7) (by rw [e]; exact hE.1), e]
  refine Eq.trans (congrArg _ q4) ?_
  rw [xret_v, bX6_ride_115]
  exact ride_loop (d := d + 4) hT hE hO hA (by omega) hs hr2 hg (by omega) hhr 7 0 0 _ _ _ rfl hgp hF
theorem s_ride_checks {h s r w g hr : Int} (hT : xTr T R) (hH : xHs T R) (hS : xSs T R) (hV : ∀ j, j < 7 → -2147483648 ≤ V (12 + 4 * h.toNat) j ∧ V (12 + 4 * h.toNat) j ≤ 2147483647) (h08 : -2147483648 ≤ V 0 8 ∧ V 0 8 ≤ 2147483647)
    (hh : -2147483648 ≤ h ∧ h ≤ 2147483647) (hs : -2147483648 ≤ s ∧ s ≤ 2147483647) (hr2 : -2147483648 ≤ r ∧ r ≤ 2147483647) (hw : -2147483648 ≤ w ∧ w ≤ 2147483647) (hg : -2147483648 ≤ g ∧ g ≤ 2147483647) (hhr : -2147483648 ≤ hr ∧ hr ≤ 2147483647) :
    X sc (d + 8) 73 [.ref 0, xw h, xw s, xw r, xw w, xw g, xw hr] (T, z, xv V, J, R) =
      if (0 ≤ h ∧ h < 6) ∧ (0 ≤ s ∧ s < 6) ∧ (0 ≤ r ∧ r < 4) then
        (if (1 ≤ w ∧ w ≤ 1000) ∧ (1 ≤ g ∧ g ≤ 3) ∧ (1 ≤ hr ∧ hr ≤ 10) then
          (if xLa V (12 + 4 * h.toNat) 7 0 = false ∧ V 0 8 < 60 then
            XR sc (d + 7) 73 82 [some (.ref 0), some (xw h), some (xw s), some (xw r), some (xw w), some (xw g), some (xw hr), some (.ref (10 + 4 * h.toNat)), some (.ref (35 + 3 * s.toNat)), none, none, none, none, none] [] (T, z, xv V, J, R)
          else xTw 9 T z V J R)
        else xTw 8 T z V J R)
      else xTw 10 T z V J R := by
  rw [eX6_ride, bX6_ride_0 hT.1, s_horse hT hH hh]
  by_cases c : 0 ≤ h ∧ h < 6
  · have hO := (hH h.toNat (by omega)).2
    rw [if_pos c, xret_v, bX6_ride_5 hT.1, s_saddle hT hS hs]
    by_cases c2 : 0 ≤ s ∧ s < 6
    · rw [if_pos c2, xret_v, bX6_ride_12, s_checkIndex hr2 (by decide)]
      by_cases c3 : 0 ≤ r ∧ r < 4
      · rw [if_pos c3, xret_n, bX6_ride_19, s_checkArgument hw (by decide) (by decide), if_pos (And.intro c (And.intro c2 c3))]
        by_cases c4 : 1 ≤ w ∧ w ≤ 1000
        · rw [if_pos c4, xret_n, bX6_ride_28, s_checkArgument hg (by decide) (by decide)]
          by_cases c5 : 1 ≤ g ∧ g ≤ 3
          · rw [if_pos c5, xret_n, bX6_ride_35, s_checkArgument hhr (by decide) (by decide)]
            by_cases c6 : 1 ≤ hr ∧ hr ≤ 10
            · rw [if_pos c6, xret_n, bX6_ride_43 hO.1, s_isLame hO hV, xret_v, bX6_ride_48 (xB_in _), if_pos (And.intro c4 (And.intro c5 c6))]
              cases hl : xLa V (12 + 4 * h.toNat) 7 0
              · rw [if_pos (show xB false = 0 from rfl), bX6_ride_62 hT.1 h08]
                by_cases c7 : V 0 8 < 60
                · rw [if_pos c7, if_pos ⟨rfl, c7⟩]
                · rw [if_neg c7, bX6_ride_71 (by omega), if_neg (fun q => c7 q.2)]; rfl
              · rw [if_neg (show ¬ xB true = 0 by decide), bX6_ride_51 (by omega), if_neg (fun q => by cases q.1)]; rfl
            · rw [if_neg c6, xret_w w_73, if_neg (fun q => c6 q.2.2)]
          · rw [if_neg c5, xret_w w_73, if_neg (fun q => c5 q.2.1)]
        · rw [if_neg c4, xret_w w_73, if_neg (fun q => c4 q.1)]
      · rw [if_neg c3, xret_w w_73, if_neg (fun q => c3 q.2.2)]
    · rw [if_neg c2, xret_w w_73, if_neg (fun q => c2 q.2.1)]
  · rw [if_neg c, xret_w w_73, if_neg (fun q => c q.1)]
end SX6f
