/-! the law's cases -/
def iLw (sc : xS) (i E : Nat) (T : Nat → Nat × Nat) (z : Nat × Nat) (V : Nat → Nat → Int) (J : Nat → Nat → Int64) (R : Nat → Nat → Option Nat) : Prop :=
  ∀ o5 o6 : Option Value, ∃ (T1 : Nat → Nat × Nat) (z1 : Nat × Nat) (V2 : Nat → Nat → Int) (J2 : Nat → Nat → Int64) (R1 : Nat → Nat → Option Nat) (p5 p6 : Option Value),
    XR sc 10 188 E [some (.retAddr 0), some (.ref 0), some (.ref 56), some (.ref 81), some (xw ((7 * i : Nat) : Int)), o5, o6] [] (T, z, xv V, J, R) = XR sc 10 188 2468 [some (.retAddr 0), some (.ref 0), some (.ref 56), some (.ref 81), some (xw ((7 * i : Nat) : Int)), p5, p6] [] (T1, z1, xv V2, J2, R1) ∧ iInv (i + 1) T1 z1 V2 J2 R1
section SX9n
variable {sc : xS} {i : Nat} {T : Nat → Nat × Nat} {z : Nat × Nat} {V : Nat → Nat → Int} {J : Nat → Nat → Int64} {R : Nat → Nat → Option Nat}
theorem ll_hide (hI : iInv i T z V J R) (hi : i ≤ 511) (hs : 7 * i + 7 ≤ sc.1) (hc : sc.1 ≤ 3584) : iLw sc i 172 T z V J R := by
  intro o5 o6
  have h0 := hI.1.1.1
  obtain ⟨u, b, T1, z1, V1, J1, R1, V2, J2, w, e56, e81, mod, e28, ej, hu, hb, inv⟩ := w_hide (sc := sc) (x1 := (sc.2 (((7 * i : Nat) : Int) + 1).toNat).toInt) (c_hide hI (by omega) (io_in _)) h0
  refine ⟨T1, z1, V2, J2, R1, some (xw u), some (xw b), ?_, inv⟩
  rw [bL_law_172 (by omega), w, xret_v, bL_law_183 (by omega) e56, mod]
  rw [xret_v, bL_law_195 e56, m_thrown inv.1.2.2.2.2.2.1, xret_v, bL_law_201 (by omega) (by omega), e28, if_pos rfl, bL_law_208 (by omega)]
  by_cases q : u = 0
  · rw [if_pos q, bL_law_213 (by rw [e81]) (by rw [e81]; decide) jCmp_in, ej q, jCmp_s, if_pos rfl, bL_law_225 ]
  · rw [if_neg q, bL_law_225 ]
theorem ll_fault (hI : iInv i T z V J R) (hi : i ≤ 511) (hs : 7 * i + 7 ≤ sc.1) (hc : sc.1 ≤ 3584) : iLw sc i 228 T z V J R := by
  intro o5 o6
  have h0 := hI.1.1.1
  obtain ⟨u, b, T1, z1, V1, J1, R1, V2, J2, w, e56, e81, mod, e28, ej, hu, hb, inv⟩ := w_fault (sc := sc) (x1 := (sc.2 (((7 * i : Nat) : Int) + 1).toNat).toInt) (x2 := (sc.2 (((7 * i : Nat) : Int) + 2).toNat).toInt) (x3 := (sc.2 (((7 * i : Nat) : Int) + 3).toNat).toInt) (c_fault hI (by omega) (io_in _) (io_in _) (io_in _)) h0
  refine ⟨T1, z1, V2, J2, R1, some (xw u), some (xw b), ?_, inv⟩
  rw [bL_law_228 (by omega) (by omega) (by omega), w, xret_v, bL_law_251 (by omega) (by omega) (by omega) e56, mod]
  rw [xret_v, bL_law_275 e56, m_thrown inv.1.2.2.2.2.2.1, xret_v, bL_law_281 (by omega) (by omega), e28, if_pos rfl, bL_law_288 (by omega)]
  by_cases q : u = 0
  · rw [if_pos q, bL_law_293 (by rw [e81]) (by rw [e81]; decide) jCmp_in, ej q, jCmp_s, if_pos rfl, bL_law_305 ]
  · rw [if_neg q, bL_law_305 ]
theorem ll_cut (hI : iInv i T z V J R) (hi : i ≤ 511) (hs : 7 * i + 7 ≤ sc.1) (hc : sc.1 ≤ 3584) : iLw sc i 308 T z V J R := by
  intro o5 o6
  have h0 := hI.1.1.1
  by_cases qs : (sc.2 (((7 * i : Nat) : Int) + 6).toNat).toInt = 0
  · obtain ⟨u, b, T1, z1, V1, J1, R1, V2, J2, w, e56, e81, mod, e28, ej, hu, hb, inv⟩ := w_cut (sc := sc) (x1 := (sc.2 (((7 * i : Nat) : Int) + 1).toNat).toInt) (x2 := (sc.2 (((7 * i : Nat) : Int) + 2).toNat).toInt) (x3 := (sc.2 (((7 * i : Nat) : Int) + 3).toNat).toInt) (x4 := (sc.2 (((7 * i : Nat) : Int) + 4).toNat).toInt) (x5 := (sc.2 (((7 * i : Nat) : Int) + 5).toNat).toInt) (x6 := 0) (c_cut hI (by omega) (io_in _) (io_in _) (io_in _) (io_in _) (io_in _) (Or.inl rfl)) h0
    refine ⟨T1, z1, V2, J2, R1, some (xw u), some (xw b), ?_, inv⟩
    rw [bL_law_308 (by omega) (by omega) (by omega) (by omega) (by omega) (by omega) (io_in _), if_pos qs, bL_law_353 , bL_law_354 , w, xret_v, bL_law_358 (by omega) (by omega) (by omega) (by omega) (by omega) (by omega) (io_in _), if_pos qs, bL_law_405 , bL_law_406 e56, mod]
    rw [xret_v, bL_law_409 e56, m_thrown inv.1.2.2.2.2.2.1, xret_v, bL_law_415 (by omega) (by omega), e28, if_pos rfl, bL_law_422 (by omega)]
    by_cases q : u = 0
    · rw [if_pos q, bL_law_427 (by rw [e81]) (by rw [e81]; decide) jCmp_in, ej q, jCmp_s, if_pos rfl, bL_law_439 ]
    · rw [if_neg q, bL_law_439 ]
  · obtain ⟨u, b, T1, z1, V1, J1, R1, V2, J2, w, e56, e81, mod, e28, ej, hu, hb, inv⟩ := w_cut (sc := sc) (x1 := (sc.2 (((7 * i : Nat) : Int) + 1).toNat).toInt) (x2 := (sc.2 (((7 * i : Nat) : Int) + 2).toNat).toInt) (x3 := (sc.2 (((7 * i : Nat) : Int) + 3).toNat).toInt) (x4 := (sc.2 (((7 * i : Nat) : Int) + 4).toNat).toInt) (x5 := (sc.2 (((7 * i : Nat) : Int) + 5).toNat).toInt) (x6 := 1) (c_cut hI (by omega) (io_in _) (io_in _) (io_in _) (io_in _) (io_in _) (Or.inr rfl)) h0
    refine ⟨T1, z1, V2, J2, R1, some (xw u), some (xw b), ?_, inv⟩
    rw [bL_law_308 (by omega) (by omega) (by omega) (by omega) (by omega) (by omega) (io_in _), if_neg qs, bL_law_349 , bL_law_354 , w, xret_v, bL_law_358 (by omega) (by omega) (by omega) (by omega) (by omega) (by omega) (io_in _), if_neg qs, bL_law_401 , bL_law_406 e56, mod]
    rw [xret_v, bL_law_409 e56, m_thrown inv.1.2.2.2.2.2.1, xret_v, bL_law_415 (by omega) (by omega), e28, if_pos rfl, bL_law_422 (by omega)]
    by_cases q : u = 0
    · rw [if_pos q, bL_law_427 (by rw [e81]) (by rw [e81]; decide) jCmp_in, ej q, jCmp_s, if_pos rfl, bL_law_439 ]
    · rw [if_neg q, bL_law_439 ]
theorem ll_find (hI : iInv i T z V J R) (hi : i ≤ 511) (hs : 7 * i + 7 ≤ sc.1) (hc : sc.1 ≤ 3584) : iLw sc i 442 T z V J R := by
  intro o5 o6
  have h0 := hI.1.1.1
  by_cases qs : (sc.2 (((7 * i : Nat) : Int) + 4).toNat).toInt = 0
  · obtain ⟨u, b, T1, z1, V1, J1, R1, V2, J2, w, e56, e81, mod, e28, ej, hu, hb, inv⟩ := w_find (sc := sc) (x1 := (sc.2 (((7 * i : Nat) : Int) + 1).toNat).toInt) (x2 := (sc.2 (((7 * i : Nat) : Int) + 2).toNat).toInt) (x3 := (sc.2 (((7 * i : Nat) : Int) + 3).toNat).toInt) (x4 := 0) (x5 := (sc.2 (((7 * i : Nat) : Int) + 5).toNat).toInt) (c_find hI (by omega) (io_in _) (io_in _) (io_in _) (Or.inl rfl) (io_in _)) h0
    refine ⟨T1, z1, V2, J2, R1, some (xw u), some (xw b), ?_, inv⟩
    rw [bL_law_442 (by omega) (by omega) (by omega) (by omega) (io_in _), if_pos qs, bL_law_474 , bL_law_475 (by omega), w, xret_v, bL_law_485 (by omega) (by omega) (by omega) (by omega) (io_in _), if_pos qs, bL_law_519 , bL_law_520 (by omega) e56, mod]
    rw [xret_v, bL_law_529 e56, m_thrown inv.1.2.2.2.2.2.1, xret_v, bL_law_535 (by omega) (by omega), e28, if_pos rfl, bL_law_542 (by omega)]
    by_cases q : u = 0
    · rw [if_pos q, bL_law_547 (by rw [e81]) (by rw [e81]; decide) jCmp_in, ej q, jCmp_s, if_pos rfl, bL_law_559 ]
    · rw [if_neg q, bL_law_559 ]
  · obtain ⟨u, b, T1, z1, V1, J1, R1, V2, J2, w, e56, e81, mod, e28, ej, hu, hb, inv⟩ := w_find (sc := sc) (x1 := (sc.2 (((7 * i : Nat) : Int) + 1).toNat).toInt) (x2 := (sc.2 (((7 * i : Nat) : Int) + 2).toNat).toInt) (x3 := (sc.2 (((7 * i : Nat) : Int) + 3).toNat).toInt) (x4 := 1) (x5 := (sc.2 (((7 * i : Nat) : Int) + 5).toNat).toInt) (c_find hI (by omega) (io_in _) (io_in _) (io_in _) (Or.inr rfl) (io_in _)) h0
    refine ⟨T1, z1, V2, J2, R1, some (xw u), some (xw b), ?_, inv⟩
    rw [bL_law_442 (by omega) (by omega) (by omega) (by omega) (io_in _), if_neg qs, bL_law_470 , bL_law_475 (by omega), w, xret_v, bL_law_485 (by omega) (by omega) (by omega) (by omega) (io_in _), if_neg qs, bL_law_515 , bL_law_520 (by omega) e56, mod]
    rw [xret_v, bL_law_529 e56, m_thrown inv.1.2.2.2.2.2.1, xret_v, bL_law_535 (by omega) (by omega), e28, if_pos rfl, bL_law_542 (by omega)]
    by_cases q : u = 0
    · rw [if_pos q, bL_law_547 (by rw [e81]) (by rw [e81]; decide) jCmp_in, ej q, jCmp_s, if_pos rfl, bL_law_559 ]
    · rw [if_neg q, bL_law_559 ]
theorem ll_skive (hI : iInv i T z V J R) (hi : i ≤ 511) (hs : 7 * i + 7 ≤ sc.1) (hc : sc.1 ≤ 3584) : iLw sc i 562 T z V J R := by
  intro o5 o6
  have h0 := hI.1.1.1
  obtain ⟨u, b, T1, z1, V1, J1, R1, V2, J2, w, e56, e81, mod, e28, ej, hu, hb, inv⟩ := w_skive (sc := sc) (x1 := (sc.2 (((7 * i : Nat) : Int) + 1).toNat).toInt) (x2 := (sc.2 (((7 * i : Nat) : Int) + 2).toNat).toInt) (c_skive hI (by omega) (io_in _) (io_in _)) h0
  refine ⟨T1, z1, V2, J2, R1, some (xw u), some (xw b), ?_, inv⟩
  rw [bL_law_562 (by omega) (by omega), w, xret_v, bL_law_579 (by omega) (by omega) e56, mod]
  rw [xret_v, bL_law_597 e56, m_thrown inv.1.2.2.2.2.2.1, xret_v, bL_law_603 (by omega) (by omega), e28, if_pos rfl, bL_law_610 (by omega)]
  by_cases q : u = 0
  · rw [if_pos q, bL_law_615 (by rw [e81]) (by rw [e81]; decide) jCmp_in, ej q, jCmp_s, if_pos rfl, bL_law_627 ]
  · rw [if_neg q, bL_law_627 ]
theorem ll_pierce (hI : iInv i T z V J R) (hi : i ≤ 511) (hs : 7 * i + 7 ≤ sc.1) (hc : sc.1 ≤ 3584) : iLw sc i 630 T z V J R := by
  intro o5 o6
  have h0 := hI.1.1.1
  obtain ⟨u, b, T1, z1, V1, J1, R1, V2, J2, w, e56, e81, mod, e28, ej, hu, hb, inv⟩ := w_pierce (sc := sc) (x1 := (sc.2 (((7 * i : Nat) : Int) + 1).toNat).toInt) (x2 := (sc.2 (((7 * i : Nat) : Int) + 2).toNat).toInt) (c_pierce hI (by omega) (io_in _) (io_in _)) h0
  refine ⟨T1, z1, V2, J2, R1, some (xw u), some (xw b), ?_, inv⟩
  rw [bL_law_630 (by omega) (by omega), w, xret_v, bL_law_647 (by omega) (by omega) e56, mod]
  rw [xret_v, bL_law_665 e56, m_thrown inv.1.2.2.2.2.2.1, xret_v, bL_law_671 (by omega) (by omega), e28, if_pos rfl, bL_law_678 (by omega)]
  by_cases q : u = 0
  · rw [if_pos q, bL_law_683 (by rw [e81]) (by rw [e81]; decide) jCmp_in, ej q, jCmp_s, if_pos rfl, bL_law_695 ]
  · rw [if_neg q, bL_law_695 ]
theorem ll_match (hI : iInv i T z V J R) (hi : i ≤ 511) (hs : 7 * i + 7 ≤ sc.1) (hc : sc.1 ≤ 3584) : iLw sc i 698 T z V J R := by
  intro o5 o6
  have h0 := hI.1.1.1
  obtain ⟨u, b, T1, z1, V1, J1, R1, V2, J2, w, e56, e81, mod, e28, ej, hu, hb, inv⟩ := w_match (sc := sc) (x1 := (sc.2 (((7 * i : Nat) : Int) + 1).toNat).toInt) (x2 := (sc.2 (((7 * i : Nat) : Int) + 2).toNat).toInt) (c_match hI (by omega) (io_in _) (io_in _)) h0
  refine ⟨T1, z1, V2, J2, R1, some (xw u), some (xw b), ?_, inv⟩
  rw [bL_law_698 (by omega) (by omega), w, xret_v, bL_law_715 (by omega) (by omega) e56, mod]
  rw [xret_v, bL_law_733 e56, m_thrown inv.1.2.2.2.2.2.1, xret_v, bL_law_739 (by omega) (by omega), e28, if_pos rfl, bL_law_746 (by omega)]
  by_cases q : u = 0
  · rcases hb rfl q with e | e
    · subst e; rw [if_pos q, bL_law_751 (by rw [e81]) (by rw [e81]; decide) (by decide), if_pos rfl, bL_law_763 , ej q, bL_law_764 jCmp_in, show jCmp (jI 0) (Int64.ofNat 0) = 0 by decide +kernel, if_pos rfl, bL_law_770 ]
    · subst e; rw [if_pos q, bL_law_751 (by rw [e81]) (by rw [e81]; decide) (by decide), if_neg (by decide), bL_law_759 , ej q, bL_law_764 jCmp_in, show jCmp (jI 1) (Int64.ofNat 1) = 0 by decide +kernel, if_pos rfl, bL_law_770 ]
  · rw [if_neg q, bL_law_770 ]
theorem ll_part (hI : iInv i T z V J R) (hi : i ≤ 511) (hs : 7 * i + 7 ≤ sc.1) (hc : sc.1 ≤ 3584) : iLw sc i 773 T z V J R := by
  intro o5 o6
  have h0 := hI.1.1.1
  obtain ⟨u, b, T1, z1, V1, J1, R1, V2, J2, w, e56, e81, mod, e28, ej, hu, hb, inv⟩ := w_part (sc := sc) (x1 := (sc.2 (((7 * i : Nat) : Int) + 1).toNat).toInt) (x2 := (sc.2 (((7 * i : Nat) : Int) + 2).toNat).toInt) (c_part hI (by omega) (io_in _) (io_in _)) h0
  refine ⟨T1, z1, V2, J2, R1, some (xw u), some (xw b), ?_, inv⟩
  rw [bL_law_773 (by omega) (by omega), w, xret_v, bL_law_790 (by omega) (by omega) e56, mod]
  rw [xret_v, bL_law_808 e56, m_thrown inv.1.2.2.2.2.2.1, xret_v, bL_law_814 (by omega) (by omega), e28, if_pos rfl, bL_law_821 (by omega)]
  by_cases q : u = 0
  · rw [if_pos q, bL_law_826 (by rw [e81]) (by rw [e81]; decide) jCmp_in, ej q, jCmp_s, if_pos rfl, bL_law_838 ]
  · rw [if_neg q, bL_law_838 ]
theorem ll_buckle (hI : iInv i T z V J R) (hi : i ≤ 511) (hs : 7 * i + 7 ≤ sc.1) (hc : sc.1 ≤ 3584) : iLw sc i 841 T z V J R := by
  intro o5 o6
  have h0 := hI.1.1.1
  obtain ⟨u, b, T1, z1, V1, J1, R1, V2, J2, w, e56, e81, mod, e28, ej, hu, hb, inv⟩ := w_buckle (sc := sc) (x1 := (sc.2 (((7 * i : Nat) : Int) + 1).toNat).toInt) (x2 := (sc.2 (((7 * i : Nat) : Int) + 2).toNat).toInt) (x3 := (sc.2 (((7 * i : Nat) : Int) + 3).toNat).toInt) (x4 := (sc.2 (((7 * i : Nat) : Int) + 4).toNat).toInt) (c_buckle hI (by omega) (io_in _) (io_in _) (io_in _) (io_in _)) h0
  refine ⟨T1, z1, V2, J2, R1, some (xw u), some (xw b), ?_, inv⟩
  rw [bL_law_841 (by omega) (by omega) (by omega) (by omega), w, xret_v, bL_law_870 (by omega) (by omega) (by omega) (by omega) e56, mod]
  rw [xret_v, bL_law_900 e56, m_thrown inv.1.2.2.2.2.2.1, xret_v, bL_law_906 (by omega) (by omega), e28, if_pos rfl, bL_law_913 (by omega)]
  by_cases q : u = 0
  · rw [if_pos q, bL_law_918 (by rw [e81]) (by rw [e81]; decide) jCmp_in, ej q, jCmp_s, if_pos rfl, bL_law_930 ]
  · rw [if_neg q, bL_law_930 ]
theorem ll_unbuckle (hI : iInv i T z V J R) (hi : i ≤ 511) (hs : 7 * i + 7 ≤ sc.1) (hc : sc.1 ≤ 3584) : iLw sc i 933 T z V J R := by
  intro o5 o6
  have h0 := hI.1.1.1
  obtain ⟨u, b, T1, z1, V1, J1, R1, V2, J2, w, e56, e81, mod, e28, ej, hu, hb, inv⟩ := w_unbuckle (sc := sc) (x1 := (sc.2 (((7 * i : Nat) : Int) + 1).toNat).toInt) (c_unbuckle hI (by omega) (io_in _)) h0
  refine ⟨T1, z1, V2, J2, R1, some (xw u), some (xw b), ?_, inv⟩
  rw [bL_law_933 (by omega), w, xret_v, bL_law_944 (by omega) e56, mod]
  rw [xret_v, bL_law_956 e56, m_thrown inv.1.2.2.2.2.2.1, xret_v, bL_law_962 (by omega) (by omega), e28, if_pos rfl, bL_law_969 (by omega)]
  by_cases q : u = 0
  · rw [if_pos q, bL_law_974 (by rw [e81]) (by rw [e81]; decide) jCmp_in, ej q, jCmp_s, if_pos rfl, bL_law_986 ]
  · rw [if_neg q, bL_law_986 ]
theorem ll_bears (hI : iInv i T z V J R) (hi : i ≤ 511) (hs : 7 * i + 7 ≤ sc.1) (hc : sc.1 ≤ 3584) : iLw sc i 989 T z V J R := by
  intro o5 o6
  have h0 := hI.1.1.1
  obtain ⟨u, b, T1, z1, V1, J1, R1, V2, J2, w, e56, e81, mod, e28, ej, hu, hb, inv⟩ := w_bears (sc := sc) (x1 := (sc.2 (((7 * i : Nat) : Int) + 1).toNat).toInt) (x2 := (sc.2 (((7 * i : Nat) : Int) + 2).toNat).toInt) (x3 := (sc.2 (((7 * i : Nat) : Int) + 3).toNat).toInt) (x4 := (sc.2 (((7 * i : Nat) : Int) + 4).toNat).toInt) (c_bears hI (by omega) (io_in _) (io_in _) (io_in _) (io_in _)) h0
  refine ⟨T1, z1, V2, J2, R1, some (xw u), some (xw b), ?_, inv⟩
  rw [bL_law_989 (by omega) (by omega) (by omega) (by omega), w, xret_v, bL_law_1018 (by omega) (by omega) (by omega) (by omega) e56, mod]
  rw [xret_v, bL_law_1048 e56, m_thrown inv.1.2.2.2.2.2.1, xret_v, bL_law_1054 (by omega) (by omega), e28, if_pos rfl, bL_law_1061 (by omega)]
  by_cases q : u = 0
  · rw [if_pos q, bL_law_1066 (by rw [e81]) (by rw [e81]; decide) jCmp_in, ej q, jCmp_s, if_pos rfl, bL_law_1078 ]
  · rw [if_neg q, bL_law_1078 ]
theorem ll_way (hI : iInv i T z V J R) (hi : i ≤ 511) (hs : 7 * i + 7 ≤ sc.1) (hc : sc.1 ≤ 3584) : iLw sc i 1081 T z V J R := by
  intro o5 o6
  have h0 := hI.1.1.1
  obtain ⟨u, b, T1, z1, V1, J1, R1, V2, J2, w, e56, e81, mod, e28, ej, hu, hb, inv⟩ := w_way (sc := sc) (x1 := (sc.2 (((7 * i : Nat) : Int) + 1).toNat).toInt) (x2 := (sc.2 (((7 * i : Nat) : Int) + 2).toNat).toInt) (x3 := (sc.2 (((7 * i : Nat) : Int) + 3).toNat).toInt) (c_way hI (by omega) (io_in _) (io_in _) (io_in _)) h0
  refine ⟨T1, z1, V2, J2, R1, some (xw u), some (xw b), ?_, inv⟩
  rw [bL_law_1081 (by omega) (by omega) (by omega), w, xret_v, bL_law_1104 (by omega) (by omega) (by omega) e56, mod]
  rw [xret_v, bL_law_1128 e56, m_thrown inv.1.2.2.2.2.2.1, xret_v, bL_law_1134 (by omega) (by omega), e28, if_pos rfl, bL_law_1141 (by omega)]
  by_cases q : u = 0
  · rw [if_pos q, bL_law_1146 (by rw [e81]) (by rw [e81]; decide) jCmp_in, ej q, jCmp_s, if_pos rfl, bL_law_1158 ]
  · rw [if_neg q, bL_law_1158 ]
theorem ll_pull (hI : iInv i T z V J R) (hi : i ≤ 511) (hs : 7 * i + 7 ≤ sc.1) (hc : sc.1 ≤ 3584) : iLw sc i 1161 T z V J R := by
  intro o5 o6
  have h0 := hI.1.1.1
  obtain ⟨u, b, T1, z1, V1, J1, R1, V2, J2, w, e56, e81, mod, e28, ej, hu, hb, inv⟩ := w_pull (sc := sc) (x1 := (sc.2 (((7 * i : Nat) : Int) + 1).toNat).toInt) (x2 := (sc.2 (((7 * i : Nat) : Int) + 2).toNat).toInt) (x3 := (sc.2 (((7 * i : Nat) : Int) + 3).toNat).toInt) (c_pull hI (by omega) (io_in _) (io_in _) (io_in _)) h0
  refine ⟨T1, z1, V2, J2, R1, some (xw u), some (xw b), ?_, inv⟩
  rw [bL_law_1161 (by omega) (by omega) (by omega), w, xret_v, bL_law_1184 (by omega) (by omega) (by omega) e56, mod]
  rw [xret_v, bL_law_1208 e56, m_thrown inv.1.2.2.2.2.2.1, xret_v, bL_law_1214 (by omega) (by omega), e28, if_pos rfl, bL_law_1221 (by omega)]
  by_cases q : u = 0
  · rw [if_pos q, bL_law_1226 (by rw [e81]) (by rw [e81]; decide) jCmp_in, ej q, jCmp_s, if_pos rfl, bL_law_1238 ]
  · rw [if_neg q, bL_law_1238 ]
theorem ll_holds (hI : iInv i T z V J R) (hi : i ≤ 511) (hs : 7 * i + 7 ≤ sc.1) (hc : sc.1 ≤ 3584) : iLw sc i 1241 T z V J R := by
  intro o5 o6
  have h0 := hI.1.1.1
  obtain ⟨u, b, T1, z1, V1, J1, R1, V2, J2, w, e56, e81, mod, e28, ej, hu, hb, inv⟩ := w_holds (sc := sc) (x1 := (sc.2 (((7 * i : Nat) : Int) + 1).toNat).toInt) (x2 := (sc.2 (((7 * i : Nat) : Int) + 2).toNat).toInt) (c_holds hI (by omega) (io_in _) (io_in _)) h0
  refine ⟨T1, z1, V2, J2, R1, some (xw u), some (xw b), ?_, inv⟩
  rw [bL_law_1241 (by omega) (by omega), w, xret_v, bL_law_1258 (by omega) (by omega) e56, mod]
  rw [xret_v, bL_law_1276 e56, m_thrown inv.1.2.2.2.2.2.1, xret_v, bL_law_1282 (by omega) (by omega), e28, if_pos rfl, bL_law_1289 (by omega)]
  by_cases q : u = 0
  · rw [if_pos q, bL_law_1294 (by rw [e81]) (by rw [e81]; decide) jCmp_in, ej q, jCmp_s, if_pos rfl, bL_law_1306 ]
  · rw [if_neg q, bL_law_1306 ]
theorem ll_oil (hI : iInv i T z V J R) (hi : i ≤ 511) (hs : 7 * i + 7 ≤ sc.1) (hc : sc.1 ≤ 3584) : iLw sc i 1309 T z V J R := by
  intro o5 o6
  have h0 := hI.1.1.1
  obtain ⟨u, b, T1, z1, V1, J1, R1, V2, J2, w, e56, e81, mod, e28, ej, hu, hb, inv⟩ := w_oil (sc := sc) (x1 := (sc.2 (((7 * i : Nat) : Int) + 1).toNat).toInt) (c_oil hI (by omega) (io_in _)) h0
  refine ⟨T1, z1, V2, J2, R1, some (xw u), some (xw b), ?_, inv⟩
  rw [bL_law_1309 (by omega), w, xret_v, bL_law_1320 (by omega) e56, mod]
  rw [xret_v, bL_law_1332 e56, m_thrown inv.1.2.2.2.2.2.1, xret_v, bL_law_1338 (by omega) (by omega), e28, if_pos rfl, bL_law_1345 (by omega)]
  by_cases q : u = 0
  · rw [if_pos q, bL_law_1350 (by rw [e81]) (by rw [e81]; decide) jCmp_in, ej q, jCmp_s, if_pos rfl, bL_law_1362 ]
  · rw [if_neg q, bL_law_1362 ]
theorem ll_sew (hI : iInv i T z V J R) (hi : i ≤ 511) (hs : 7 * i + 7 ≤ sc.1) (hc : sc.1 ≤ 3584) : iLw sc i 1365 T z V J R := by
  intro o5 o6
  have h0 := hI.1.1.1
  obtain ⟨u, b, T1, z1, V1, J1, R1, V2, J2, w, e56, e81, mod, e28, ej, hu, hb, inv⟩ := w_sew (sc := sc) (x1 := (sc.2 (((7 * i : Nat) : Int) + 1).toNat).toInt) (x2 := (sc.2 (((7 * i : Nat) : Int) + 2).toNat).toInt) (x3 := (sc.2 (((7 * i : Nat) : Int) + 3).toNat).toInt) (x4 := (sc.2 (((7 * i : Nat) : Int) + 4).toNat).toInt) (c_sew hI (by omega) (io_in _) (io_in _) (io_in _) (io_in _)) h0
  refine ⟨T1, z1, V2, J2, R1, some (xw u), some (xw b), ?_, inv⟩
  rw [bL_law_1365 (by omega) (by omega) (by omega) (by omega), w, xret_v, bL_law_1394 (by omega) (by omega) (by omega) (by omega) e56, mod]
  rw [xret_v, bL_law_1424 e56, m_thrown inv.1.2.2.2.2.2.1, xret_v, bL_law_1430 (by omega) (by omega), e28, if_pos rfl, bL_law_1437 (by omega)]
  by_cases q : u = 0
  · rw [if_pos q, bL_law_1442 (by rw [e81]) (by rw [e81]; decide) jCmp_in, ej q, jCmp_s, if_pos rfl, bL_law_1454 ]
  · rw [if_neg q, bL_law_1454 ]
theorem ll_back (hI : iInv i T z V J R) (hi : i ≤ 511) (hs : 7 * i + 7 ≤ sc.1) (hc : sc.1 ≤ 3584) : iLw sc i 1457 T z V J R := by
  intro o5 o6
  have h0 := hI.1.1.1
  obtain ⟨u, b, T1, z1, V1, J1, R1, V2, J2, w, e56, e81, mod, e28, ej, hu, hb, inv⟩ := w_back (sc := sc) (x1 := (sc.2 (((7 * i : Nat) : Int) + 1).toNat).toInt) (x2 := (sc.2 (((7 * i : Nat) : Int) + 2).toNat).toInt) (x3 := (sc.2 (((7 * i : Nat) : Int) + 3).toNat).toInt) (c_back hI (by omega) (io_in _) (io_in _) (io_in _)) h0
  refine ⟨T1, z1, V2, J2, R1, some (xw u), some (xw b), ?_, inv⟩
  rw [bL_law_1457 (by omega) (by omega) (by omega), w, xret_v, bL_law_1480 (by omega) (by omega) (by omega) e56, mod]
  rw [xret_v, bL_law_1504 e56, m_thrown inv.1.2.2.2.2.2.1, xret_v, bL_law_1510 (by omega) (by omega), e28, if_pos rfl, bL_law_1517 (by omega)]
  by_cases q : u = 0
  · rw [if_pos q, bL_law_1522 (by rw [e81]) (by rw [e81]; decide) jCmp_in, ej q, jCmp_s, if_pos rfl, bL_law_1534 ]
  · rw [if_neg q, bL_law_1534 ]
theorem ll_tree (hI : iInv i T z V J R) (hi : i ≤ 511) (hs : 7 * i + 7 ≤ sc.1) (hc : sc.1 ≤ 3584) : iLw sc i 1537 T z V J R := by
  intro o5 o6
  have h0 := hI.1.1.1
  obtain ⟨u, b, T1, z1, V1, J1, R1, V2, J2, w, e56, e81, mod, e28, ej, hu, hb, inv⟩ := w_tree (sc := sc) (x1 := (sc.2 (((7 * i : Nat) : Int) + 1).toNat).toInt) (x2 := (sc.2 (((7 * i : Nat) : Int) + 2).toNat).toInt) (x3 := (sc.2 (((7 * i : Nat) : Int) + 3).toNat).toInt) (c_tree hI (by omega) (io_in _) (io_in _) (io_in _)) h0
  refine ⟨T1, z1, V2, J2, R1, some (xw u), some (xw b), ?_, inv⟩
  rw [bL_law_1537 (by omega) (by omega) (by omega), w, xret_v, bL_law_1560 (by omega) (by omega) (by omega) e56, mod]
  rw [xret_v, bL_law_1584 e56, m_thrown inv.1.2.2.2.2.2.1, xret_v, bL_law_1590 (by omega) (by omega), e28, if_pos rfl, bL_law_1597 (by omega)]
  by_cases q : u = 0
  · rw [if_pos q, bL_law_1602 (by rw [e81]) (by rw [e81]; decide) jCmp_in, ej q, jCmp_s, if_pos rfl, bL_law_1614 ]
  · rw [if_neg q, bL_law_1614 ]
theorem ll_flock (hI : iInv i T z V J R) (hi : i ≤ 511) (hs : 7 * i + 7 ≤ sc.1) (hc : sc.1 ≤ 3584) : iLw sc i 1617 T z V J R := by
  intro o5 o6
  have h0 := hI.1.1.1
  obtain ⟨u, b, T1, z1, V1, J1, R1, V2, J2, w, e56, e81, mod, e28, ej, hu, hb, inv⟩ := w_flock (sc := sc) (x1 := (sc.2 (((7 * i : Nat) : Int) + 1).toNat).toInt) (x2 := (sc.2 (((7 * i : Nat) : Int) + 2).toNat).toInt) (x3 := (sc.2 (((7 * i : Nat) : Int) + 3).toNat).toInt) (c_flock hI (by omega) (io_in _) (io_in _) (io_in _)) h0
  refine ⟨T1, z1, V2, J2, R1, some (xw u), some (xw b), ?_, inv⟩
  rw [bL_law_1617 (by omega) (by omega) (by omega), w, xret_v, bL_law_1640 (by omega) (by omega) (by omega) e56, mod]
  rw [xret_v, bL_law_1664 e56, m_thrown inv.1.2.2.2.2.2.1, xret_v, bL_law_1670 (by omega) (by omega), e28, if_pos rfl, bL_law_1677 (by omega)]
  by_cases q : u = 0
  · rw [if_pos q, bL_law_1682 (by rw [e81]) (by rw [e81]; decide) jCmp_in, ej q, jCmp_s, if_pos rfl, bL_law_1694 ]
  · rw [if_neg q, bL_law_1694 ]
theorem ll_sinks (hI : iInv i T z V J R) (hi : i ≤ 511) (hs : 7 * i + 7 ≤ sc.1) (hc : sc.1 ≤ 3584) : iLw sc i 1697 T z V J R := by
  intro o5 o6
  have h0 := hI.1.1.1
  obtain ⟨u, b, T1, z1, V1, J1, R1, V2, J2, w, e56, e81, mod, e28, ej, hu, hb, inv⟩ := w_sinks (sc := sc) (x1 := (sc.2 (((7 * i : Nat) : Int) + 1).toNat).toInt) (x2 := (sc.2 (((7 * i : Nat) : Int) + 2).toNat).toInt) (x3 := (sc.2 (((7 * i : Nat) : Int) + 3).toNat).toInt) (c_sinks hI (by omega) (io_in _) (io_in _) (io_in _)) h0
  refine ⟨T1, z1, V2, J2, R1, some (xw u), some (xw b), ?_, inv⟩
  rw [bL_law_1697 (by omega) (by omega) (by omega), w, xret_v, bL_law_1720 (by omega) (by omega) (by omega) e56, mod]
  rw [xret_v, bL_law_1744 e56, m_thrown inv.1.2.2.2.2.2.1, xret_v, bL_law_1750 (by omega) (by omega), e28, if_pos rfl, bL_law_1757 (by omega)]
  by_cases q : u = 0
  · rw [if_pos q, bL_law_1762 (by rw [e81]) (by rw [e81]; decide) jCmp_in, ej q, jCmp_s, if_pos rfl, bL_law_1774 ]
  · rw [if_neg q, bL_law_1774 ]
theorem ll_sinksAnew (hI : iInv i T z V J R) (hi : i ≤ 511) (hs : 7 * i + 7 ≤ sc.1) (hc : sc.1 ≤ 3584) : iLw sc i 1777 T z V J R := by
  intro o5 o6
  have h0 := hI.1.1.1
  obtain ⟨u, b, T1, z1, V1, J1, R1, V2, J2, w, e56, e81, mod, e28, ej, hu, hb, inv⟩ := w_sinksAnew (sc := sc) (x1 := (sc.2 (((7 * i : Nat) : Int) + 1).toNat).toInt) (x2 := (sc.2 (((7 * i : Nat) : Int) + 2).toNat).toInt) (x3 := (sc.2 (((7 * i : Nat) : Int) + 3).toNat).toInt) (c_sinksAnew hI (by omega) (io_in _) (io_in _) (io_in _)) h0
  refine ⟨T1, z1, V2, J2, R1, some (xw u), some (xw b), ?_, inv⟩
  rw [bL_law_1777 (by omega) (by omega) (by omega), w, xret_v, bL_law_1800 (by omega) (by omega) (by omega) e56, mod]
  rw [xret_v, bL_law_1824 e56, m_thrown inv.1.2.2.2.2.2.1, xret_v, bL_law_1830 (by omega) (by omega), e28, if_pos rfl, bL_law_1837 (by omega)]
  by_cases q : u = 0
  · rw [if_pos q, bL_law_1842 (by rw [e81]) (by rw [e81]; decide) jCmp_in, ej q, jCmp_s, if_pos rfl, bL_law_1854 ]
  · rw [if_neg q, bL_law_1854 ]
theorem ll_pressure (hI : iInv i T z V J R) (hi : i ≤ 511) (hs : 7 * i + 7 ≤ sc.1) (hc : sc.1 ≤ 3584) : iLw sc i 1857 T z V J R := by
  intro o5 o6
  have h0 := hI.1.1.1
  obtain ⟨u, b, T1, z1, V1, J1, R1, V2, J2, w, e56, e81, mod, e28, ej, hu, hb, inv⟩ := w_pressure (sc := sc) (x1 := (sc.2 (((7 * i : Nat) : Int) + 1).toNat).toInt) (x2 := (sc.2 (((7 * i : Nat) : Int) + 2).toNat).toInt) (x3 := (sc.2 (((7 * i : Nat) : Int) + 3).toNat).toInt) (x4 := (sc.2 (((7 * i : Nat) : Int) + 4).toNat).toInt) (c_pressure hI (by omega) (io_in _) (io_in _) (io_in _) (io_in _)) h0
  refine ⟨T1, z1, V2, J2, R1, some (xw u), some (xw b), ?_, inv⟩
  rw [bL_law_1857 (by omega) (by omega) (by omega) (by omega), w, xret_v, bL_law_1886 (by omega) (by omega) (by omega) (by omega) e56, mod]
  rw [xret_v, bL_law_1916 e56, m_thrown inv.1.2.2.2.2.2.1, xret_v, bL_law_1922 (by omega) (by omega), e28, if_pos rfl, bL_law_1929 (by omega)]
  by_cases q : u = 0
  · rw [if_pos q, bL_law_1934 (by rw [e81]) (by rw [e81]; decide) jCmp_in, ej q, jCmp_s, if_pos rfl, bL_law_1946 ]
  · rw [if_neg q, bL_law_1946 ]
theorem ll_bridges (hI : iInv i T z V J R) (hi : i ≤ 511) (hs : 7 * i + 7 ≤ sc.1) (hc : sc.1 ≤ 3584) : iLw sc i 1949 T z V J R := by
  intro o5 o6
  have h0 := hI.1.1.1
  obtain ⟨u, b, T1, z1, V1, J1, R1, V2, J2, w, e56, e81, mod, e28, ej, hu, hb, inv⟩ := w_bridges (sc := sc) (x1 := (sc.2 (((7 * i : Nat) : Int) + 1).toNat).toInt) (x2 := (sc.2 (((7 * i : Nat) : Int) + 2).toNat).toInt) (x3 := (sc.2 (((7 * i : Nat) : Int) + 3).toNat).toInt) (c_bridges hI (by omega) (io_in _) (io_in _) (io_in _)) h0
  refine ⟨T1, z1, V2, J2, R1, some (xw u), some (xw b), ?_, inv⟩
  rw [bL_law_1949 (by omega) (by omega) (by omega), w, xret_v, bL_law_1972 (by omega) (by omega) (by omega) e56, mod]
  rw [xret_v, bL_law_1996 e56, m_thrown inv.1.2.2.2.2.2.1, xret_v, bL_law_2002 (by omega) (by omega), e28, if_pos rfl, bL_law_2009 (by omega)]
  by_cases q : u = 0
  · rw [if_pos q, bL_law_2014 (by rw [e81]) (by rw [e81]; decide) jCmp_in, ej q, jCmp_s, if_pos rfl, bL_law_2026 ]
  · rw [if_neg q, bL_law_2026 ]
theorem ll_ride (hI : iInv i T z V J R) (hi : i ≤ 511) (hs : 7 * i + 7 ≤ sc.1) (hc : sc.1 ≤ 3584) : iLw sc i 2029 T z V J R := by
  intro o5 o6
  have h0 := hI.1.1.1
  obtain ⟨u, b, T1, z1, V1, J1, R1, V2, J2, w, e56, e81, mod, e28, ej, hu, hb, inv⟩ := w_ride (sc := sc) (x1 := (sc.2 (((7 * i : Nat) : Int) + 1).toNat).toInt) (x2 := (sc.2 (((7 * i : Nat) : Int) + 2).toNat).toInt) (x3 := (sc.2 (((7 * i : Nat) : Int) + 3).toNat).toInt) (x4 := (sc.2 (((7 * i : Nat) : Int) + 4).toNat).toInt) (x5 := (sc.2 (((7 * i : Nat) : Int) + 5).toNat).toInt) (x6 := (sc.2 (((7 * i : Nat) : Int) + 6).toNat).toInt) (c_ride hI (by omega) (io_in _) (io_in _) (io_in _) (io_in _) (io_in _) (io_in _)) h0
  refine ⟨T1, z1, V2, J2, R1, some (xw u), some (xw b), ?_, inv⟩
  rw [bL_law_2029 (by omega) (by omega) (by omega) (by omega) (by omega) (by omega), w, xret_v, bL_law_2071 (by omega) (by omega) (by omega) (by omega) (by omega) (by omega) e56, mod]
  rw [xret_v, bL_law_2114 e56, m_thrown inv.1.2.2.2.2.2.1, xret_v, bL_law_2120 (by omega) (by omega), e28, if_pos rfl, bL_law_2127 (by omega)]
  by_cases q : u = 0
  · rw [if_pos q, bL_law_2132 (by rw [e81]) (by rw [e81]; decide) jCmp_in, ej q, jCmp_s, if_pos rfl, bL_law_2144 ]
  · rw [if_neg q, bL_law_2144 ]
theorem ll_rest (hI : iInv i T z V J R) (hi : i ≤ 511) (hs : 7 * i + 7 ≤ sc.1) (hc : sc.1 ≤ 3584) : iLw sc i 2147 T z V J R := by
  intro o5 o6
  have h0 := hI.1.1.1
  obtain ⟨u, b, T1, z1, V1, J1, R1, V2, J2, w, e56, e81, mod, e28, ej, hu, hb, inv⟩ := w_rest (sc := sc) (x1 := (sc.2 (((7 * i : Nat) : Int) + 1).toNat).toInt) (c_rest hI (by omega) (io_in _)) h0
  refine ⟨T1, z1, V2, J2, R1, some (xw u), some (xw b), ?_, inv⟩
  rw [bL_law_2147 (by omega), w, xret_v, bL_law_2158 (by omega) e56, mod]
  rw [xret_v, bL_law_2170 e56, m_thrown inv.1.2.2.2.2.2.1, xret_v, bL_law_2176 (by omega) (by omega), e28, if_pos rfl, bL_law_2183 (by omega)]
  by_cases q : u = 0
  · rw [if_pos q, bL_law_2188 (by rw [e81]) (by rw [e81]; decide) jCmp_in, ej q, jCmp_s, if_pos rfl, bL_law_2200 ]
  · rw [if_neg q, bL_law_2200 ]
theorem ll_sore (hI : iInv i T z V J R) (hi : i ≤ 511) (hs : 7 * i + 7 ≤ sc.1) (hc : sc.1 ≤ 3584) : iLw sc i 2203 T z V J R := by
  intro o5 o6
  have h0 := hI.1.1.1
  obtain ⟨u, b, T1, z1, V1, J1, R1, V2, J2, w, e56, e81, mod, e28, ej, hu, hb, inv⟩ := w_sore (sc := sc) (x1 := (sc.2 (((7 * i : Nat) : Int) + 1).toNat).toInt) (x2 := (sc.2 (((7 * i : Nat) : Int) + 2).toNat).toInt) (x3 := (sc.2 (((7 * i : Nat) : Int) + 3).toNat).toInt) (c_sore hI (by omega) (io_in _) (io_in _) (io_in _)) h0
  refine ⟨T1, z1, V2, J2, R1, some (xw u), some (xw b), ?_, inv⟩
  rw [bL_law_2203 (by omega) (by omega) (by omega), w, xret_v, bL_law_2226 (by omega) (by omega) (by omega) e56, mod]
  rw [xret_v, bL_law_2250 e56, m_thrown inv.1.2.2.2.2.2.1, xret_v, bL_law_2256 (by omega) (by omega), e28, if_pos rfl, bL_law_2263 (by omega)]
  by_cases q : u = 0
  · rw [if_pos q, bL_law_2268 (by rw [e81]) (by rw [e81]; decide) jCmp_in, ej q, jCmp_s, if_pos rfl, bL_law_2280 ]
  · rw [if_neg q, bL_law_2280 ]
theorem ll_share (hI : iInv i T z V J R) (hi : i ≤ 511) (hs : 7 * i + 7 ≤ sc.1) (hc : sc.1 ≤ 3584) : iLw sc i 2283 T z V J R := by
  intro o5 o6
  have h0 := hI.1.1.1
  obtain ⟨u, b, T1, z1, V1, J1, R1, V2, J2, w, e56, e81, mod, e28, ej, hu, hb, inv⟩ := w_share (sc := sc) (x1 := (sc.2 (((7 * i : Nat) : Int) + 1).toNat).toInt) (x2 := (sc.2 (((7 * i : Nat) : Int) + 2).toNat).toInt) (x3 := (sc.2 (((7 * i : Nat) : Int) + 3).toNat).toInt) (x4 := (sc.2 (((7 * i : Nat) : Int) + 4).toNat).toInt) (c_share hI (by omega) (io_in _) (io_in _) (io_in _) (io_in _)) h0
  refine ⟨T1, z1, V2, J2, R1, some (xw u), some (xw b), ?_, inv⟩
  rw [bL_law_2283 (by omega) (by omega) (by omega) (by omega), w, xret_v, bL_law_2312 (by omega) (by omega) (by omega) (by omega) e56, mod]
  rw [xret_v, bL_law_2342 e56, m_thrown inv.1.2.2.2.2.2.1, xret_v, bL_law_2348 (by omega) (by omega), e28, if_pos rfl, bL_law_2355 (by omega)]
  by_cases q : u = 0
  · rw [if_pos q, bL_law_2360 (by rw [e81]) (by rw [e81]; decide) jCmp_in, ej q, jCmp_s, if_pos rfl, bL_law_2372 ]
  · rw [if_neg q, bL_law_2372 ]
theorem ll_cause (hI : iInv i T z V J R) (hi : i ≤ 511) (hs : 7 * i + 7 ≤ sc.1) (hc : sc.1 ≤ 3584) : iLw sc i 2375 T z V J R := by
  intro o5 o6
  have h0 := hI.1.1.1
  obtain ⟨u, b, T1, z1, V1, J1, R1, V2, J2, w, e56, e81, mod, e28, ej, hu, hb, inv⟩ := w_cause (sc := sc) (x1 := (sc.2 (((7 * i : Nat) : Int) + 1).toNat).toInt) (x2 := (sc.2 (((7 * i : Nat) : Int) + 2).toNat).toInt) (x3 := (sc.2 (((7 * i : Nat) : Int) + 3).toNat).toInt) (c_cause hI (by omega) (io_in _) (io_in _) (io_in _)) h0
  refine ⟨T1, z1, V2, J2, R1, some (xw u), some (xw b), ?_, inv⟩
  rw [bL_law_2375 (by omega) (by omega) (by omega), w, xret_v, bL_law_2398 (by omega) (by omega) (by omega) e56, mod]
  rw [xret_v, bL_law_2422 e56, m_thrown inv.1.2.2.2.2.2.1, xret_v, bL_law_2428 (by omega) (by omega), e28, if_pos rfl, bL_law_2435 (by omega)]
  by_cases q : u = 0
  · rw [if_pos q, bL_law_2440 (by rw [e81]) (by rw [e81]; decide) jCmp_in, ej q, jCmp_s, if_pos rfl, bL_law_2452 ]
  · rw [if_neg q, bL_law_2452 ]
theorem ll_rides (hI : iInv i T z V J R) (hi : i ≤ 511) (hs : 7 * i + 7 ≤ sc.1) (hc : sc.1 ≤ 3584) : iLw sc i 2455 T z V J R := by
  intro o5 o6
  have h0 := hI.1.1.1
  have e56 := hI.1.2.2.2.2.2.1.1
  have V08 := hI.2.2.2.2.2.2.2.2.1
  refine ⟨T, z, xup2 V 56 28 0, J, R, o5, o6, ?_, iInv_s hI ⟨by omega, by omega⟩ iScr_f rfl⟩
  rw [bL_law_2455 h0, s_rides hI.1.1, xret_v, bL_law_2459 e56, m_rides hI.1.2.2.2.2.2.1, xret_v, bL_law_2463 (by omega) (by omega), if_pos V08.1]
theorem law_case (hI : iInv i T z V J R) (hi : i ≤ 511) (hs : 7 * i + 7 ≤ sc.1) (hc : sc.1 ≤ 3584) {x : Int32} (o5 o6 : Option Value) : ∃ (T1 : Nat → Nat × Nat) (z1 : Nat × Nat) (V2 : Nat → Nat → Int) (J2 : Nat → Nat → Int64) (R1 : Nat → Nat → Option Nat) (p5 p6 : Option Value),
    XR sc 10 188 40 [some (.retAddr 0), some (.ref 0), some (.ref 56), some (.ref 81), some (xw ((7 * i : Nat) : Int)), o5, o6] [.int x] (T, z, xv V, J, R) = XR sc 10 188 2468 [some (.retAddr 0), some (.ref 0), some (.ref 56), some (.ref 81), some (xw ((7 * i : Nat) : Int)), p5, p6] [] (T1, z1, xv V2, J2, R1) ∧ iInv (i + 1) T1 z1 V2 J2 R1 := by
  by_cases c : x.toInt < 0 ∨ 28 < x.toInt
  · rw [st_tableOut (t := 2468) f_188_40 c (by decide)]
    exact ⟨T, z, V, J, R, o5, o6, rfl, iInv_s hI ⟨by omega, by omega⟩ iScr_r rfl⟩
  · have c1 : x.toInt = 0 ∨ x.toInt = 1 ∨ x.toInt = 2 ∨ x.toInt = 3 ∨ x.toInt = 4 ∨ x.toInt = 5 ∨ x.toInt = 6 ∨ x.toInt = 7 ∨ x.toInt = 8 ∨ x.toInt = 9 ∨ x.toInt = 10 ∨ x.toInt = 11 ∨ x.toInt = 12 ∨ x.toInt = 13 ∨ x.toInt = 14 ∨ x.toInt = 15 ∨ x.toInt = 16 ∨ x.toInt = 17 ∨ x.toInt = 18 ∨ x.toInt = 19 ∨ x.toInt = 20 ∨ x.toInt = 21 ∨ x.toInt = 22 ∨ x.toInt = 23 ∨ x.toInt = 24 ∨ x.toInt = 25 ∨ x.toInt = 26 ∨ x.toInt = 27 ∨ x.toInt = 28 := by omega
    rcases c1 with e | e | e | e | e | e | e | e | e | e | e | e | e | e | e | e | e | e | e | e | e | e | e | e | e | e | e | e | e
    · rw [st_tableIn (t := 172) (off := 132) f_188_40 c (by rw [e]; decide) (by decide)]; exact ll_hide hI hi hs hc o5 o6
    · rw [st_tableIn (t := 228) (off := 188) f_188_40 c (by rw [e]; decide) (by decide)]; exact ll_fault hI hi hs hc o5 o6
    · rw [st_tableIn (t := 308) (off := 268) f_188_40 c (by rw [e]; decide) (by decide)]; exact ll_cut hI hi hs hc o5 o6
    · rw [st_tableIn (t := 442) (off := 402) f_188_40 c (by rw [e]; decide) (by decide)]; exact ll_find hI hi hs hc o5 o6
    · rw [st_tableIn (t := 562) (off := 522) f_188_40 c (by rw [e]; decide) (by decide)]; exact ll_skive hI hi hs hc o5 o6
    · rw [st_tableIn (t := 630) (off := 590) f_188_40 c (by rw [e]; decide) (by decide)]; exact ll_pierce hI hi hs hc o5 o6
    · rw [st_tableIn (t := 698) (off := 658) f_188_40 c (by rw [e]; decide) (by decide)]; exact ll_match hI hi hs hc o5 o6
    · rw [st_tableIn (t := 773) (off := 733) f_188_40 c (by rw [e]; decide) (by decide)]; exact ll_part hI hi hs hc o5 o6
    · rw [st_tableIn (t := 841) (off := 801) f_188_40 c (by rw [e]; decide) (by decide)]; exact ll_buckle hI hi hs hc o5 o6
    · rw [st_tableIn (t := 933) (off := 893) f_188_40 c (by rw [e]; decide) (by decide)]; exact ll_unbuckle hI hi hs hc o5 o6
    · rw [st_tableIn (t := 989) (off := 949) f_188_40 c (by rw [e]; decide) (by decide)]; exact ll_bears hI hi hs hc o5 o6
    · rw [st_tableIn (t := 1081) (off := 1041) f_188_40 c (by rw [e]; decide) (by decide)]; exact ll_way hI hi hs hc o5 o6
    · rw [st_tableIn (t := 1161) (off := 1121) f_188_40 c (by rw [e]; decide) (by decide)]; exact ll_pull hI hi hs hc o5 o6
    · rw [st_tableIn (t := 1241) (off := 1201) f_188_40 c (by rw [e]; decide) (by decide)]; exact ll_holds hI hi hs hc o5 o6
    · rw [st_tableIn (t := 1309) (off := 1269) f_188_40 c (by rw [e]; decide) (by decide)]; exact ll_oil hI hi hs hc o5 o6
    · rw [st_tableIn (t := 1365) (off := 1325) f_188_40 c (by rw [e]; decide) (by decide)]; exact ll_sew hI hi hs hc o5 o6
    · rw [st_tableIn (t := 1457) (off := 1417) f_188_40 c (by rw [e]; decide) (by decide)]; exact ll_back hI hi hs hc o5 o6
    · rw [st_tableIn (t := 1537) (off := 1497) f_188_40 c (by rw [e]; decide) (by decide)]; exact ll_tree hI hi hs hc o5 o6
    · rw [st_tableIn (t := 1617) (off := 1577) f_188_40 c (by rw [e]; decide) (by decide)]; exact ll_flock hI hi hs hc o5 o6
    · rw [st_tableIn (t := 1697) (off := 1657) f_188_40 c (by rw [e]; decide) (by decide)]; exact ll_sinks hI hi hs hc o5 o6
    · rw [st_tableIn (t := 1777) (off := 1737) f_188_40 c (by rw [e]; decide) (by decide)]; exact ll_sinksAnew hI hi hs hc o5 o6
    · rw [st_tableIn (t := 1857) (off := 1817) f_188_40 c (by rw [e]; decide) (by decide)]; exact ll_pressure hI hi hs hc o5 o6
    · rw [st_tableIn (t := 1949) (off := 1909) f_188_40 c (by rw [e]; decide) (by decide)]; exact ll_bridges hI hi hs hc o5 o6
    · rw [st_tableIn (t := 2029) (off := 1989) f_188_40 c (by rw [e]; decide) (by decide)]; exact ll_ride hI hi hs hc o5 o6
    · rw [st_tableIn (t := 2147) (off := 2107) f_188_40 c (by rw [e]; decide) (by decide)]; exact ll_rest hI hi hs hc o5 o6
    · rw [st_tableIn (t := 2203) (off := 2163) f_188_40 c (by rw [e]; decide) (by decide)]; exact ll_sore hI hi hs hc o5 o6
    · rw [st_tableIn (t := 2283) (off := 2243) f_188_40 c (by rw [e]; decide) (by decide)]; exact ll_share hI hi hs hc o5 o6
    · rw [st_tableIn (t := 2375) (off := 2335) f_188_40 c (by rw [e]; decide) (by decide)]; exact ll_cause hI hi hs hc o5 o6
    · rw [st_tableIn (t := 2455) (off := 2415) f_188_40 c (by rw [e]; decide) (by decide)]; exact ll_rides hI hi hs hc o5 o6
theorem law_loop : ∀ (m i : Nat) (T : Nat → Nat × Nat) (z : Nat × Nat) (V : Nat → Nat → Int) (J : Nat → Nat → Int64) (R : Nat → Nat → Option Nat) (o5 o6 : Option Value), i + m = sc.1 / 7 → sc.1 ≤ 3584 → iInv i T z V J R →
    ∃ h' : xH, XR sc 10 188 23 [some (.retAddr 0), some (.ref 0), some (.ref 56), some (.ref 81), some (xw ((7 * i : Nat) : Int)), o5, o6] [] (T, z, xv V, J, R) = some (.inl (some (xw 1)), h') ∧ h'.2.1.1 ≤ 2000 ∧ h'.2.1.2 ≤ 100000 := by
  intro m
  induction m with
  | zero =>
    intro i T z V J R o5 o6 hm hc hI
    have hz := hI.2.1
    rw [bL_law_23 (by omega) (by omega), if_pos (by omega), bL_law_2474]
    exact ⟨_, rfl, by show z.1 ≤ 2000; omega, by show z.2 ≤ 100000; omega⟩
  | succ m ih =>
    intro i T z V J R o5 o6 hm hc hI
    rw [bL_law_23 (by omega) (by omega), if_neg (by omega), bL_law_33 (by omega)]
    obtain ⟨T1, z1, V2, J2, R1, p5, p6, h1, h2⟩ := law_case hI (by omega) (by omega) hc (x := Int32.ofInt (iAnd ((sc.2 ((7 * i : Nat) : Int).toNat).toInt) 31)) o5 o6
    obtain ⟨h', h3, h4, h5⟩ := ih (i + 1) T1 z1 V2 J2 R1 p5 p6 (by omega) hc h2
    refine ⟨h', ?_, h4, h5⟩
    show XR sc 10 188 40 _ [.int (Int32.ofInt _)] _ = _
    rw [h1, bL_law_2468, show ((7 * i : Nat) : Int) + 7 = ((7 * (i + 1) : Nat) : Int) by omega]
    exact h3
end SX9n
