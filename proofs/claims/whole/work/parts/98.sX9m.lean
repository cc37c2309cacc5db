/-! the law's wrappers -/
def iWr (sc : xS) (i W jm : Nat) (aw as : List Value) (T : Nat → Nat × Nat) (z : Nat × Nat) (V : Nat → Nat → Int) (J : Nat → Nat → Int64) (R : Nat → Nat → Option Nat) : Prop :=
  ∃ (u b : Int) (T1 : Nat → Nat × Nat) (z1 : Nat × Nat) (V1 : Nat → Nat → Int) (J1 : Nat → Nat → Int64) (R1 : Nat → Nat → Option Nat) (V2 : Nat → Nat → Int) (J2 : Nat → Nat → Int64),
    X sc 10 W aw (T, z, xv V, J, R) = some (.inl (some (xw u)), (T1, z1, xv V1, J1, R1)) ∧ T1 56 = (8, 0) ∧ T1 81 = (34, 1) ∧ X sc 10 jm (.ref 56 :: as) (T1, z1, xv V1, J1, R1) = some (.inl (some (xw b)), (T1, z1, xv V2, J2, R1)) ∧ V2 56 28 = u ∧ (u = 0 → J2 81 0 = jI b) ∧ (0 ≤ u ∧ u ≤ 3) ∧ (jm = 111 → u = 0 → b = 0 ∨ b = 1) ∧ iInv (i + 1) T1 z1 V2 J2 R1
theorem jCmp_s {x : Int64} : jCmp x x = 0 := by
  unfold jCmp lg_cmp
  rw [if_neg (Int64.lt_irrefl), if_pos rfl]
  rfl
section SX9m
variable {sc : xS} {i : Nat} {T : Nat → Nat × Nat} {z : Nat × Nat} {V : Nat → Nat → Int} {J : Nat → Nat → Int64} {R : Nat → Nat → Option Nat}
theorem w_hide {x1 : Int} (h : iCs sc i 50 99 [xw x1] k12 T z V J R) (h0 : T 0 = (7, 0)) : iWr sc i 160 99 [.ref 0, xw x1, .ref 81] [xw x1] T z V J R := by
  unfold iWr
  rcases h with ⟨v, T1, z1, V1, J1, R1, V2, J2, hv, cls, e81, e56, mod, ej, e28, inv⟩ | ⟨e, b, V1, V2, cls, mod, e28, hk, he, inv⟩
  · refine ⟨0, v, T1, z1, V1, _, R1, V2, J2, ?_, e56, e81, mod, e28, fun _ => ej, by decide, fun h => absurd h (by decide), inv⟩
    rw [eL_hide, bL_hide_0 h0, cls, xret_v, bL_hide_7 (by rw [e81]) (by rw [e81]; decide), bL_hide_18]
    try rfl
  · have e56 := inv.1.2.2.2.2.2.1.1
    have e81 := inv.1.2.2.2.2.2.2
    rcases he with rfl | rfl | rfl
    · refine ⟨k12 8, b, _, _, _, _, _, V2, _, ?_, e56, e81, mod, e28, fun q => absurd q (by decide), by decide, fun _ q => absurd q (by decide), inv⟩
      rw [eL_hide, bL_hide_0 h0, cls]
      unfold xTw
      rw [xret_c (t := 13) (n := 3) (by decide +kernel) (by decide +kernel) (by exact (show 3 < 4 by decide)), st_iconst f_160_13, st_ireturn f_160_14 (by decide +kernel)]
      try rfl
    · refine ⟨k12 9, b, _, _, _, _, _, V2, _, ?_, e56, e81, mod, e28, fun q => absurd q (by decide), by decide, fun _ q => absurd q (by decide), inv⟩
      rw [eL_hide, bL_hide_0 h0, cls]
      unfold xTw
      rw [xret_c (t := 16) (n := 3) (by decide +kernel) (by decide +kernel) (by exact (show 3 < 4 by decide)), st_iconst f_160_16, st_ireturn f_160_17 (by decide +kernel)]
      try rfl
    · exact absurd hk (by decide)
theorem w_fault {x1 x2 x3 : Int} (h : iCs sc i 51 100 [xw x1, xw x2, xw x3] kA T z V J R) (h0 : T 0 = (7, 0)) : iWr sc i 161 100 [.ref 0, xw x1, xw x2, xw x3, .ref 81] [xw x1, xw x2, xw x3] T z V J R := by
  unfold iWr
  rcases h with ⟨v, T1, z1, V1, J1, R1, V2, J2, hv, cls, e81, e56, mod, ej, e28, inv⟩ | ⟨e, b, V1, V2, cls, mod, e28, hk, he, inv⟩
  · refine ⟨0, v, T1, z1, V1, _, R1, V2, J2, ?_, e56, e81, mod, e28, fun _ => ej, by decide, fun h => absurd h (by decide), inv⟩
    rw [eL_fault, bL_fault_0 h0, cls, xret_v, bL_fault_10 (by rw [e81]) (by rw [e81]; decide), bL_fault_19]
    try rfl
  · have e56 := inv.1.2.2.2.2.2.1.1
    have e81 := inv.1.2.2.2.2.2.2
    rcases he with rfl | rfl | rfl
    · exact absurd hk (by decide)
    · exact absurd hk (by decide)
    · refine ⟨kA 10, b, _, _, _, _, _, V2, _, ?_, e56, e81, mod, e28, fun q => absurd q (by decide), by decide, fun _ q => absurd q (by decide), inv⟩
      rw [eL_fault, bL_fault_0 h0, cls]
      unfold xTw
      rw [xret_c (t := 17) (n := 5) (by decide +kernel) (by decide +kernel) (by exact (show 5 < 6 by decide)), st_iconst f_161_17, st_ireturn f_161_18 (by decide +kernel)]
      try rfl
theorem w_cut {x1 x2 x3 x4 x5 x6 : Int} (h : iCs sc i 52 104 [xw x1, xw x2, xw x3, xw x4, xw x5, xw x6] k123 T z V J R) (h0 : T 0 = (7, 0)) : iWr sc i 162 104 [.ref 0, xw x1, xw x2, xw x3, xw x4, xw x5, xw x6, .ref 81] [xw x1, xw x2, xw x3, xw x4, xw x5, xw x6] T z V J R := by
  unfold iWr
  rcases h with ⟨v, T1, z1, V1, J1, R1, V2, J2, hv, cls, e81, e56, mod, ej, e28, inv⟩ | ⟨e, b, V1, V2, cls, mod, e28, hk, he, inv⟩
  · refine ⟨0, v, T1, z1, V1, _, R1, V2, J2, ?_, e56, e81, mod, e28, fun _ => ej, by decide, fun h => absurd h (by decide), inv⟩
    rw [eL_cut, bL_cut_0 h0, cls, xret_v, bL_cut_16 (by rw [e81]) (by rw [e81]; decide), bL_cut_33]
    try rfl
  · have e56 := inv.1.2.2.2.2.2.1.1
    have e81 := inv.1.2.2.2.2.2.2
    rcases he with rfl | rfl | rfl
    · refine ⟨k123 8, b, _, _, _, _, _, V2, _, ?_, e56, e81, mod, e28, fun q => absurd q (by decide), by decide, fun _ q => absurd q (by decide), inv⟩
      rw [eL_cut, bL_cut_0 h0, cls]
      unfold xTw
      rw [xret_c (t := 27) (n := 8) (by decide +kernel) (by decide +kernel) (by exact (show 8 < 9 by decide)), st_iconst f_162_27, st_ireturn f_162_28 (by decide +kernel)]
      try rfl
    · refine ⟨k123 9, b, _, _, _, _, _, V2, _, ?_, e56, e81, mod, e28, fun q => absurd q (by decide), by decide, fun _ q => absurd q (by decide), inv⟩
      rw [eL_cut, bL_cut_0 h0, cls]
      unfold xTw
      rw [xret_c (t := 31) (n := 8) (by decide +kernel) (by decide +kernel) (by exact (show 8 < 9 by decide)), st_iconst f_162_31, st_ireturn f_162_32 (by decide +kernel)]
      try rfl
    · refine ⟨k123 10, b, _, _, _, _, _, V2, _, ?_, e56, e81, mod, e28, fun q => absurd q (by decide), by decide, fun _ q => absurd q (by decide), inv⟩
      rw [eL_cut, bL_cut_0 h0, cls]
      unfold xTw
      rw [xret_c (t := 23) (n := 8) (by decide +kernel) (by decide +kernel) (by exact (show 8 < 9 by decide)), st_iconst f_162_23, st_ireturn f_162_24 (by decide +kernel)]
      try rfl
theorem w_find {x1 x2 x3 x4 x5 : Int} (h : iCs sc i 53 106 [xw x1, xw x2, xw x3, xw x4, xw x5] kB T z V J R) (h0 : T 0 = (7, 0)) : iWr sc i 163 106 [.ref 0, xw x1, xw x2, xw x3, xw x4, xw x5, .ref 81] [xw x1, xw x2, xw x3, xw x4, xw x5] T z V J R := by
  unfold iWr
  rcases h with ⟨v, T1, z1, V1, J1, R1, V2, J2, hv, cls, e81, e56, mod, ej, e28, inv⟩ | ⟨e, b, V1, V2, cls, mod, e28, hk, he, inv⟩
  · refine ⟨0, v, T1, z1, V1, _, R1, V2, J2, ?_, e56, e81, mod, e28, fun _ => ej, by decide, fun h => absurd h (by decide), inv⟩
    rw [eL_find, bL_find_0 h0, cls, xret_v, bL_find_14 (by rw [e81]) (by rw [e81]; decide), bL_find_27]
    try rfl
  · have e56 := inv.1.2.2.2.2.2.1.1
    have e81 := inv.1.2.2.2.2.2.2
    rcases he with rfl | rfl | rfl
    · refine ⟨kB 8, b, _, _, _, _, _, V2, _, ?_, e56, e81, mod, e28, fun q => absurd q (by decide), by decide, fun _ q => absurd q (by decide), inv⟩
      rw [eL_find, bL_find_0 h0, cls]
      unfold xTw
      rw [xret_c (t := 25) (n := 7) (by decide +kernel) (by decide +kernel) (by exact (show 7 < 8 by decide)), st_iconst f_163_25, st_ireturn f_163_26 (by decide +kernel)]
      try rfl
    · exact absurd hk (by decide)
    · refine ⟨kB 10, b, _, _, _, _, _, V2, _, ?_, e56, e81, mod, e28, fun q => absurd q (by decide), by decide, fun _ q => absurd q (by decide), inv⟩
      rw [eL_find, bL_find_0 h0, cls]
      unfold xTw
      rw [xret_c (t := 21) (n := 7) (by decide +kernel) (by decide +kernel) (by exact (show 7 < 8 by decide)), st_iconst f_163_21, st_ireturn f_163_22 (by decide +kernel)]
      try rfl
theorem w_skive {x1 x2 : Int} (h : iCs sc i 54 107 [xw x1, xw x2] k123 T z V J R) (h0 : T 0 = (7, 0)) : iWr sc i 164 107 [.ref 0, xw x1, xw x2, .ref 81] [xw x1, xw x2] T z V J R := by
  unfold iWr
  rcases h with ⟨v, T1, z1, V1, J1, R1, V2, J2, hv, cls, e81, e56, mod, ej, e28, inv⟩ | ⟨e, b, V1, V2, cls, mod, e28, hk, he, inv⟩
  · refine ⟨0, v, T1, z1, V1, _, R1, V2, J2, ?_, e56, e81, mod, e28, fun _ => ej, by decide, fun h => absurd h (by decide), inv⟩
    rw [eL_skive, bL_skive_0 h0, cls, xret_v, bL_skive_8 (by rw [e81]) (by rw [e81]; decide), bL_skive_25]
    try rfl
  · have e56 := inv.1.2.2.2.2.2.1.1
    have e81 := inv.1.2.2.2.2.2.2
    rcases he with rfl | rfl | rfl
    · refine ⟨k123 8, b, _, _, _, _, _, V2, _, ?_, e56, e81, mod, e28, fun q => absurd q (by decide), by decide, fun _ q => absurd q (by decide), inv⟩
      rw [eL_skive, bL_skive_0 h0, cls]
      unfold xTw
      rw [xret_c (t := 19) (n := 4) (by decide +kernel) (by decide +kernel) (by exact (show 4 < 5 by decide)), st_iconst f_164_19, st_ireturn f_164_20 (by decide +kernel)]
      try rfl
    · refine ⟨k123 9, b, _, _, _, _, _, V2, _, ?_, e56, e81, mod, e28, fun q => absurd q (by decide), by decide, fun _ q => absurd q (by decide), inv⟩
      rw [eL_skive, bL_skive_0 h0, cls]
      unfold xTw
      rw [xret_c (t := 23) (n := 4) (by decide +kernel) (by decide +kernel) (by exact (show 4 < 5 by decide)), st_iconst f_164_23, st_ireturn f_164_24 (by decide +kernel)]
      try rfl
    · refine ⟨k123 10, b, _, _, _, _, _, V2, _, ?_, e56, e81, mod, e28, fun q => absurd q (by decide), by decide, fun _ q => absurd q (by decide), inv⟩
      rw [eL_skive, bL_skive_0 h0, cls]
      unfold xTw
      rw [xret_c (t := 15) (n := 4) (by decide +kernel) (by decide +kernel) (by exact (show 4 < 5 by decide)), st_iconst f_164_15, st_ireturn f_164_16 (by decide +kernel)]
      try rfl
theorem w_pierce {x1 x2 : Int} (h : iCs sc i 55 109 [xw x1, xw x2] k123 T z V J R) (h0 : T 0 = (7, 0)) : iWr sc i 165 109 [.ref 0, xw x1, xw x2, .ref 81] [xw x1, xw x2] T z V J R := by
  unfold iWr
  rcases h with ⟨v, T1, z1, V1, J1, R1, V2, J2, hv, cls, e81, e56, mod, ej, e28, inv⟩ | ⟨e, b, V1, V2, cls, mod, e28, hk, he, inv⟩
  · refine ⟨0, v, T1, z1, V1, _, R1, V2, J2, ?_, e56, e81, mod, e28, fun _ => ej, by decide, fun h => absurd h (by decide), inv⟩
    rw [eL_pierce, bL_pierce_0 h0, cls, xret_v, bL_pierce_8 (by rw [e81]) (by rw [e81]; decide), bL_pierce_25]
    try rfl
  · have e56 := inv.1.2.2.2.2.2.1.1
    have e81 := inv.1.2.2.2.2.2.2
    rcases he with rfl | rfl | rfl
    · refine ⟨k123 8, b, _, _, _, _, _, V2, _, ?_, e56, e81, mod, e28, fun q => absurd q (by decide), by decide, fun _ q => absurd q (by decide), inv⟩
      rw [eL_pierce, bL_pierce_0 h0, cls]
      unfold xTw
      rw [xret_c (t := 19) (n := 4) (by decide +kernel) (by decide +kernel) (by exact (show 4 < 5 by decide)), st_iconst f_165_19, st_ireturn f_165_20 (by decide +kernel)]
      try rfl
    · refine ⟨k123 9, b, _, _, _, _, _, V2, _, ?_, e56, e81, mod, e28, fun q => absurd q (by decide), by decide, fun _ q => absurd q (by decide), inv⟩
      rw [eL_pierce, bL_pierce_0 h0, cls]
      unfold xTw
      rw [xret_c (t := 23) (n := 4) (by decide +kernel) (by decide +kernel) (by exact (show 4 < 5 by decide)), st_iconst f_165_23, st_ireturn f_165_24 (by decide +kernel)]
      try rfl
    · refine ⟨k123 10, b, _, _, _, _, _, V2, _, ?_, e56, e81, mod, e28, fun q => absurd q (by decide), by decide, fun _ q => absurd q (by decide), inv⟩
      rw [eL_pierce, bL_pierce_0 h0, cls]
      unfold xTw
      rw [xret_c (t := 15) (n := 4) (by decide +kernel) (by decide +kernel) (by exact (show 4 < 5 by decide)), st_iconst f_165_15, st_ireturn f_165_16 (by decide +kernel)]
      try rfl
theorem w_match {x1 x2 : Int} (h : iCs sc i 56 111 [xw x1, xw x2] kA T z V J R) (h0 : T 0 = (7, 0)) : iWr sc i 166 111 [.ref 0, xw x1, xw x2, .ref 81] [xw x1, xw x2] T z V J R := by
  unfold iWr
  rcases h with ⟨v, T1, z1, V1, J1, R1, V2, J2, hv, cls, e81, e56, mod, ej, e28, inv⟩ | ⟨e, b, V1, V2, cls, mod, e28, hk, he, inv⟩
  · refine ⟨0, v, T1, z1, V1, _, R1, V2, J2, ?_, e56, e81, mod, e28, fun _ => ej, by decide, fun h _ => hv h, inv⟩
    rw [eL_match, bL_match_0 h0, cls, xret_v]
    rcases hv rfl with rfl | rfl
    · rw [bL_match_8 (by decide), if_pos rfl, bL_match_15, bL_match_16 (by rw [e81]) (by rw [e81]; decide), bL_match_24]
      try rfl
    · rw [bL_match_8 (by decide), if_neg (by decide), bL_match_11, bL_match_16 (by rw [e81]) (by rw [e81]; decide), bL_match_24]
      try rfl
  · have e56 := inv.1.2.2.2.2.2.1.1
    have e81 := inv.1.2.2.2.2.2.2
    rcases he with rfl | rfl | rfl
    · exact absurd hk (by decide)
    · exact absurd hk (by decide)
    · refine ⟨kA 10, b, _, _, _, _, _, V2, _, ?_, e56, e81, mod, e28, fun q => absurd q (by decide), by decide, fun _ q => absurd q (by decide), inv⟩
      rw [eL_match, bL_match_0 h0, cls]
      unfold xTw
      rw [xret_c (t := 22) (n := 4) (by decide +kernel) (by decide +kernel) (by exact (show 4 < 5 by decide)), st_iconst f_166_22, st_ireturn f_166_23 (by decide +kernel)]
      try rfl
theorem w_part {x1 x2 : Int} (h : iCs sc i 57 113 [xw x1, xw x2] kB T z V J R) (h0 : T 0 = (7, 0)) : iWr sc i 167 113 [.ref 0, xw x1, xw x2, .ref 81] [xw x1, xw x2] T z V J R := by
  unfold iWr
  rcases h with ⟨v, T1, z1, V1, J1, R1, V2, J2, hv, cls, e81, e56, mod, ej, e28, inv⟩ | ⟨e, b, V1, V2, cls, mod, e28, hk, he, inv⟩
  · refine ⟨0, v, T1, z1, V1, _, R1, V2, J2, ?_, e56, e81, mod, e28, fun _ => ej, by decide, fun h => absurd h (by decide), inv⟩
    rw [eL_part, bL_part_0 h0, cls, xret_v, bL_part_8 (by rw [e81]) (by rw [e81]; decide), bL_part_21]
    try rfl
  · have e56 := inv.1.2.2.2.2.2.1.1
    have e81 := inv.1.2.2.2.2.2.2
    rcases he with rfl | rfl | rfl
    · refine ⟨kB 8, b, _, _, _, _, _, V2, _, ?_, e56, e81, mod, e28, fun q => absurd q (by decide), by decide, fun _ q => absurd q (by decide), inv⟩
      rw [eL_part, bL_part_0 h0, cls]
      unfold xTw
      rw [xret_c (t := 19) (n := 4) (by decide +kernel) (by decide +kernel) (by exact (show 4 < 5 by decide)), st_iconst f_167_19, st_ireturn f_167_20 (by decide +kernel)]
      try rfl
    · exact absurd hk (by decide)
    · refine ⟨kB 10, b, _, _, _, _, _, V2, _, ?_, e56, e81, mod, e28, fun q => absurd q (by decide), by decide, fun _ q => absurd q (by decide), inv⟩
      rw [eL_part, bL_part_0 h0, cls]
      unfold xTw
      rw [xret_c (t := 15) (n := 4) (by decide +kernel) (by decide +kernel) (by exact (show 4 < 5 by decide)), st_iconst f_167_15, st_ireturn f_167_16 (by decide +kernel)]
      try rfl
theorem w_buckle {x1 x2 x3 x4 : Int} (h : iCs sc i 58 116 [xw x1, xw x2, xw x3, xw x4] k123 T z V J R) (h0 : T 0 = (7, 0)) : iWr sc i 168 116 [.ref 0, xw x1, xw x2, xw x3, xw x4, .ref 81] [xw x1, xw x2, xw x3, xw x4] T z V J R := by
  unfold iWr
  rcases h with ⟨v, T1, z1, V1, J1, R1, V2, J2, hv, cls, e81, e56, mod, ej, e28, inv⟩ | ⟨e, b, V1, V2, cls, mod, e28, hk, he, inv⟩
  · refine ⟨0, v, T1, z1, V1, _, R1, V2, J2, ?_, e56, e81, mod, e28, fun _ => ej, by decide, fun h => absurd h (by decide), inv⟩
    rw [eL_buckle, bL_buckle_0 h0, cls, xret_v, bL_buckle_12 (by rw [e81]) (by rw [e81]; decide), bL_buckle_29]
    try rfl
  · have e56 := inv.1.2.2.2.2.2.1.1
    have e81 := inv.1.2.2.2.2.2.2
    rcases he with rfl | rfl | rfl
    · refine ⟨k123 8, b, _, _, _, _, _, V2, _, ?_, e56, e81, mod, e28, fun q => absurd q (by decide), by decide, fun _ q => absurd q (by decide), inv⟩
      rw [eL_buckle, bL_buckle_0 h0, cls]
      unfold xTw
      rw [xret_c (t := 23) (n := 6) (by decide +kernel) (by decide +kernel) (by exact (show 6 < 7 by decide)), st_iconst f_168_23, st_ireturn f_168_24 (by decide +kernel)]
      try rfl
    · refine ⟨k123 9, b, _, _, _, _, _, V2, _, ?_, e56, e81, mod, e28, fun q => absurd q (by decide), by decide, fun _ q => absurd q (by decide), inv⟩
      rw [eL_buckle, bL_buckle_0 h0, cls]
      unfold xTw
      rw [xret_c (t := 27) (n := 6) (by decide +kernel) (by decide +kernel) (by exact (show 6 < 7 by decide)), st_iconst f_168_27, st_ireturn f_168_28 (by decide +kernel)]
      try rfl
    · refine ⟨k123 10, b, _, _, _, _, _, V2, _, ?_, e56, e81, mod, e28, fun q => absurd q (by decide), by decide, fun _ q => absurd q (by decide), inv⟩
      rw [eL_buckle, bL_buckle_0 h0, cls]
      unfold xTw
      rw [xret_c (t := 19) (n := 6) (by decide +kernel) (by decide +kernel) (by exact (show 6 < 7 by decide)), st_iconst f_168_19, st_ireturn f_168_20 (by decide +kernel)]
      try rfl
theorem w_unbuckle {x1 : Int} (h : iCs sc i 59 117 [xw x1] kU T z V J R) (h0 : T 0 = (7, 0)) : iWr sc i 169 117 [.ref 0, xw x1, .ref 81] [xw x1] T z V J R := by
  unfold iWr
  rcases h with ⟨v, T1, z1, V1, J1, R1, V2, J2, hv, cls, e81, e56, mod, ej, e28, inv⟩ | ⟨e, b, V1, V2, cls, mod, e28, hk, he, inv⟩
  · refine ⟨0, v, T1, z1, V1, _, R1, V2, J2, ?_, e56, e81, mod, e28, fun _ => ej, by decide, fun h => absurd h (by decide), inv⟩
    rw [eL_unbuckle, bL_unbuckle_0 h0, cls, xret_v, bL_unbuckle_7 (by rw [e81]) (by rw [e81]; decide), bL_unbuckle_18]
    try rfl
  · have e56 := inv.1.2.2.2.2.2.1.1
    have e81 := inv.1.2.2.2.2.2.2
    rcases he with rfl | rfl | rfl
    · exact absurd hk (by decide)
    · refine ⟨kU 9, b, _, _, _, _, _, V2, _, ?_, e56, e81, mod, e28, fun q => absurd q (by decide), by decide, fun _ q => absurd q (by decide), inv⟩
      rw [eL_unbuckle, bL_unbuckle_0 h0, cls]
      unfold xTw
      rw [xret_c (t := 16) (n := 3) (by decide +kernel) (by decide +kernel) (by exact (show 3 < 4 by decide)), st_iconst f_169_16, st_ireturn f_169_17 (by decide +kernel)]
      try rfl
    · refine ⟨kU 10, b, _, _, _, _, _, V2, _, ?_, e56, e81, mod, e28, fun q => absurd q (by decide), by decide, fun _ q => absurd q (by decide), inv⟩
      rw [eL_unbuckle, bL_unbuckle_0 h0, cls]
      unfold xTw
      rw [xret_c (t := 13) (n := 3) (by decide +kernel) (by decide +kernel) (by exact (show 3 < 4 by decide)), st_iconst f_169_13, st_ireturn f_169_14 (by decide +kernel)]
      try rfl
theorem w_bears {x1 x2 x3 x4 : Int} (h : iCs sc i 60 124 [xw x1, xw x2, xw x3, xw x4] kB T z V J R) (h0 : T 0 = (7, 0)) : iWr sc i 170 124 [.ref 0, xw x1, xw x2, xw x3, xw x4, .ref 81] [xw x1, xw x2, xw x3, xw x4] T z V J R := by
  unfold iWr
  rcases h with ⟨v, T1, z1, V1, J1, R1, V2, J2, hv, cls, e81, e56, mod, ej, e28, inv⟩ | ⟨e, b, V1, V2, cls, mod, e28, hk, he, inv⟩
  · refine ⟨0, v, T1, z1, V1, _, R1, V2, J2, ?_, e56, e81, mod, e28, fun _ => ej, by decide, fun h => absurd h (by decide), inv⟩
    rw [eL_bears, bL_bears_0 h0, cls, xret_v, bL_bears_12 (by rw [e81]) (by rw [e81]; decide), bL_bears_25]
    try rfl
  · have e56 := inv.1.2.2.2.2.2.1.1
    have e81 := inv.1.2.2.2.2.2.2
    rcases he with rfl | rfl | rfl
    · refine ⟨kB 8, b, _, _, _, _, _, V2, _, ?_, e56, e81, mod, e28, fun q => absurd q (by decide), by decide, fun _ q => absurd q (by decide), inv⟩
      rw [eL_bears, bL_bears_0 h0, cls]
      unfold xTw
      rw [xret_c (t := 23) (n := 6) (by decide +kernel) (by decide +kernel) (by exact (show 6 < 7 by decide)), st_iconst f_170_23, st_ireturn f_170_24 (by decide +kernel)]
      try rfl
    · exact absurd hk (by decide)
    · refine ⟨kB 10, b, _, _, _, _, _, V2, _, ?_, e56, e81, mod, e28, fun q => absurd q (by decide), by decide, fun _ q => absurd q (by decide), inv⟩
      rw [eL_bears, bL_bears_0 h0, cls]
      unfold xTw
      rw [xret_c (t := 19) (n := 6) (by decide +kernel) (by decide +kernel) (by exact (show 6 < 7 by decide)), st_iconst f_170_19, st_ireturn f_170_20 (by decide +kernel)]
      try rfl
theorem w_way {x1 x2 x3 : Int} (h : iCs sc i 61 125 [xw x1, xw x2, xw x3] kB T z V J R) (h0 : T 0 = (7, 0)) : iWr sc i 171 125 [.ref 0, xw x1, xw x2, xw x3, .ref 81] [xw x1, xw x2, xw x3] T z V J R := by
  unfold iWr
  rcases h with ⟨v, T1, z1, V1, J1, R1, V2, J2, hv, cls, e81, e56, mod, ej, e28, inv⟩ | ⟨e, b, V1, V2, cls, mod, e28, hk, he, inv⟩
  · refine ⟨0, v, T1, z1, V1, _, R1, V2, J2, ?_, e56, e81, mod, e28, fun _ => ej, by decide, fun h => absurd h (by decide), inv⟩
    rw [eL_way, bL_way_0 h0, cls, xret_v, bL_way_10 (by rw [e81]) (by rw [e81]; decide), bL_way_23]
    try rfl
  · have e56 := inv.1.2.2.2.2.2.1.1
    have e81 := inv.1.2.2.2.2.2.2
    rcases he with rfl | rfl | rfl
    · refine ⟨kB 8, b, _, _, _, _, _, V2, _, ?_, e56, e81, mod, e28, fun q => absurd q (by decide), by decide, fun _ q => absurd q (by decide), inv⟩
      rw [eL_way, bL_way_0 h0, cls]
      unfold xTw
      rw [xret_c (t := 21) (n := 5) (by decide +kernel) (by decide +kernel) (by exact (show 5 < 6 by decide)), st_iconst f_171_21, st_ireturn f_171_22 (by decide +kernel)]
      try rfl
    · exact absurd hk (by decide)
    · refine ⟨kB 10, b, _, _, _, _, _, V2, _, ?_, e56, e81, mod, e28, fun q => absurd q (by decide), by decide, fun _ q => absurd q (by decide), inv⟩
      rw [eL_way, bL_way_0 h0, cls]
      unfold xTw
      rw [xret_c (t := 17) (n := 5) (by decide +kernel) (by decide +kernel) (by exact (show 5 < 6 by decide)), st_iconst f_171_17, st_ireturn f_171_18 (by decide +kernel)]
      try rfl
theorem w_pull {x1 x2 x3 : Int} (h : iCs sc i 62 127 [xw x1, xw x2, xw x3] k123 T z V J R) (h0 : T 0 = (7, 0)) : iWr sc i 172 127 [.ref 0, xw x1, xw x2, xw x3, .ref 81] [xw x1, xw x2, xw x3] T z V J R := by
  unfold iWr
  rcases h with ⟨v, T1, z1, V1, J1, R1, V2, J2, hv, cls, e81, e56, mod, ej, e28, inv⟩ | ⟨e, b, V1, V2, cls, mod, e28, hk, he, inv⟩
  · refine ⟨0, v, T1, z1, V1, _, R1, V2, J2, ?_, e56, e81, mod, e28, fun _ => ej, by decide, fun h => absurd h (by decide), inv⟩
    rw [eL_pull, bL_pull_0 h0, cls, xret_v, bL_pull_10 (by rw [e81]) (by rw [e81]; decide), bL_pull_27]
    try rfl
  · have e56 := inv.1.2.2.2.2.2.1.1
    have e81 := inv.1.2.2.2.2.2.2
    rcases he with rfl | rfl | rfl
    · refine ⟨k123 8, b, _, _, _, _, _, V2, _, ?_, e56, e81, mod, e28, fun q => absurd q (by decide), by decide, fun _ q => absurd q (by decide), inv⟩
      rw [eL_pull, bL_pull_0 h0, cls]
      unfold xTw
      rw [xret_c (t := 21) (n := 5) (by decide +kernel) (by decide +kernel) (by exact (show 5 < 6 by decide)), st_iconst f_172_21, st_ireturn f_172_22 (by decide +kernel)]
      try rfl
    · refine ⟨k123 9, b, _, _, _, _, _, V2, _, ?_, e56, e81, mod, e28, fun q => absurd q (by decide), by decide, fun _ q => absurd q (by decide), inv⟩
      rw [eL_pull, bL_pull_0 h0, cls]
      unfold xTw
      rw [xret_c (t := 25) (n := 5) (by decide +kernel) (by decide +kernel) (by exact (show 5 < 6 by decide)), st_iconst f_172_25, st_ireturn f_172_26 (by decide +kernel)]
      try rfl
    · refine ⟨k123 10, b, _, _, _, _, _, V2, _, ?_, e56, e81, mod, e28, fun q => absurd q (by decide), by decide, fun _ q => absurd q (by decide), inv⟩
      rw [eL_pull, bL_pull_0 h0, cls]
      unfold xTw
      rw [xret_c (t := 17) (n := 5) (by decide +kernel) (by decide +kernel) (by exact (show 5 < 6 by decide)), st_iconst f_172_17, st_ireturn f_172_18 (by decide +kernel)]
      try rfl
theorem w_holds {x1 x2 : Int} (h : iCs sc i 63 128 [xw x1, xw x2] kB T z V J R) (h0 : T 0 = (7, 0)) : iWr sc i 173 128 [.ref 0, xw x1, xw x2, .ref 81] [xw x1, xw x2] T z V J R := by
  unfold iWr
  rcases h with ⟨v, T1, z1, V1, J1, R1, V2, J2, hv, cls, e81, e56, mod, ej, e28, inv⟩ | ⟨e, b, V1, V2, cls, mod, e28, hk, he, inv⟩
  · refine ⟨0, v, T1, z1, V1, _, R1, V2, J2, ?_, e56, e81, mod, e28, fun _ => ej, by decide, fun h => absurd h (by decide), inv⟩
    rw [eL_holds, bL_holds_0 h0, cls, xret_v, bL_holds_8 (by rw [e81]) (by rw [e81]; decide), bL_holds_21]
    try rfl
  · have e56 := inv.1.2.2.2.2.2.1.1
    have e81 := inv.1.2.2.2.2.2.2
    rcases he with rfl | rfl | rfl
    · refine ⟨kB 8, b, _, _, _, _, _, V2, _, ?_, e56, e81, mod, e28, fun q => absurd q (by decide), by decide, fun _ q => absurd q (by decide), inv⟩
      rw [eL_holds, bL_holds_0 h0, cls]
      unfold xTw
      rw [xret_c (t := 19) (n := 4) (by decide +kernel) (by decide +kernel) (by exact (show 4 < 5 by decide)), st_iconst f_173_19, st_ireturn f_173_20 (by decide +kernel)]
      try rfl
    · exact absurd hk (by decide)
    · refine ⟨kB 10, b, _, _, _, _, _, V2, _, ?_, e56, e81, mod, e28, fun q => absurd q (by decide), by decide, fun _ q => absurd q (by decide), inv⟩
      rw [eL_holds, bL_holds_0 h0, cls]
      unfold xTw
      rw [xret_c (t := 15) (n := 4) (by decide +kernel) (by decide +kernel) (by exact (show 4 < 5 by decide)), st_iconst f_173_15, st_ireturn f_173_16 (by decide +kernel)]
      try rfl
theorem w_oil {x1 : Int} (h : iCs sc i 64 129 [xw x1] kA T z V J R) (h0 : T 0 = (7, 0)) : iWr sc i 174 129 [.ref 0, xw x1, .ref 81] [xw x1] T z V J R := by
  unfold iWr
  rcases h with ⟨v, T1, z1, V1, J1, R1, V2, J2, hv, cls, e81, e56, mod, ej, e28, inv⟩ | ⟨e, b, V1, V2, cls, mod, e28, hk, he, inv⟩
  · refine ⟨0, v, T1, z1, V1, _, R1, V2, J2, ?_, e56, e81, mod, e28, fun _ => ej, by decide, fun h => absurd h (by decide), inv⟩
    rw [eL_oil, bL_oil_0 h0, cls, xret_v, bL_oil_7 (by rw [e81]) (by rw [e81]; decide), bL_oil_15]
    try rfl
  · have e56 := inv.1.2.2.2.2.2.1.1
    have e81 := inv.1.2.2.2.2.2.2
    rcases he with rfl | rfl | rfl
    · exact absurd hk (by decide)
    · exact absurd hk (by decide)
    · refine ⟨kA 10, b, _, _, _, _, _, V2, _, ?_, e56, e81, mod, e28, fun q => absurd q (by decide), by decide, fun _ q => absurd q (by decide), inv⟩
      rw [eL_oil, bL_oil_0 h0, cls]
      unfold xTw
      rw [xret_c (t := 13) (n := 3) (by decide +kernel) (by decide +kernel) (by exact (show 3 < 4 by decide)), st_iconst f_174_13, st_ireturn f_174_14 (by decide +kernel)]
      try rfl
theorem w_sew {x1 x2 x3 x4 : Int} (h : iCs sc i 65 131 [xw x1, xw x2, xw x3, xw x4] k123 T z V J R) (h0 : T 0 = (7, 0)) : iWr sc i 175 131 [.ref 0, xw x1, xw x2, xw x3, xw x4, .ref 81] [xw x1, xw x2, xw x3, xw x4] T z V J R := by
  unfold iWr
  rcases h with ⟨v, T1, z1, V1, J1, R1, V2, J2, hv, cls, e81, e56, mod, ej, e28, inv⟩ | ⟨e, b, V1, V2, cls, mod, e28, hk, he, inv⟩
  · refine ⟨0, v, T1, z1, V1, _, R1, V2, J2, ?_, e56, e81, mod, e28, fun _ => ej, by decide, fun h => absurd h (by decide), inv⟩
    rw [eL_sew, bL_sew_0 h0, cls, xret_v, bL_sew_12 (by rw [e81]) (by rw [e81]; decide), bL_sew_29]
    try rfl
  · have e56 := inv.1.2.2.2.2.2.1.1
    have e81 := inv.1.2.2.2.2.2.2
    rcases he with rfl | rfl | rfl
    · refine ⟨k123 8, b, _, _, _, _, _, V2, _, ?_, e56, e81, mod, e28, fun q => absurd q (by decide), by decide, fun _ q => absurd q (by decide), inv⟩
      rw [eL_sew, bL_sew_0 h0, cls]
      unfold xTw
      rw [xret_c (t := 23) (n := 6) (by decide +kernel) (by decide +kernel) (by exact (show 6 < 7 by decide)), st_iconst f_175_23, st_ireturn f_175_24 (by decide +kernel)]
      try rfl
    · refine ⟨k123 9, b, _, _, _, _, _, V2, _, ?_, e56, e81, mod, e28, fun q => absurd q (by decide), by decide, fun _ q => absurd q (by decide), inv⟩
      rw [eL_sew, bL_sew_0 h0, cls]
      unfold xTw
      rw [xret_c (t := 27) (n := 6) (by decide +kernel) (by decide +kernel) (by exact (show 6 < 7 by decide)), st_iconst f_175_27, st_ireturn f_175_28 (by decide +kernel)]
      try rfl
    · refine ⟨k123 10, b, _, _, _, _, _, V2, _, ?_, e56, e81, mod, e28, fun q => absurd q (by decide), by decide, fun _ q => absurd q (by decide), inv⟩
      rw [eL_sew, bL_sew_0 h0, cls]
      unfold xTw
      rw [xret_c (t := 19) (n := 6) (by decide +kernel) (by decide +kernel) (by exact (show 6 < 7 by decide)), st_iconst f_175_19, st_ireturn f_175_20 (by decide +kernel)]
      try rfl
theorem w_back {x1 x2 x3 : Int} (h : iCs sc i 66 136 [xw x1, xw x2, xw x3] kB T z V J R) (h0 : T 0 = (7, 0)) : iWr sc i 176 136 [.ref 0, xw x1, xw x2, xw x3, .ref 81] [xw x1, xw x2, xw x3] T z V J R := by
  unfold iWr
  rcases h with ⟨v, T1, z1, V1, J1, R1, V2, J2, hv, cls, e81, e56, mod, ej, e28, inv⟩ | ⟨e, b, V1, V2, cls, mod, e28, hk, he, inv⟩
  · refine ⟨0, v, T1, z1, V1, _, R1, V2, J2, ?_, e56, e81, mod, e28, fun _ => ej, by decide, fun h => absurd h (by decide), inv⟩
    rw [eL_back, bL_back_0 h0, cls, xret_v, bL_back_10 (by rw [e81]) (by rw [e81]; decide), bL_back_23]
    try rfl
  · have e56 := inv.1.2.2.2.2.2.1.1
    have e81 := inv.1.2.2.2.2.2.2
    rcases he with rfl | rfl | rfl
    · refine ⟨kB 8, b, _, _, _, _, _, V2, _, ?_, e56, e81, mod, e28, fun q => absurd q (by decide), by decide, fun _ q => absurd q (by decide), inv⟩
      rw [eL_back, bL_back_0 h0, cls]
      unfold xTw
      rw [xret_c (t := 21) (n := 5) (by decide +kernel) (by decide +kernel) (by exact (show 5 < 6 by decide)), st_iconst f_176_21, st_ireturn f_176_22 (by decide +kernel)]
      try rfl
    · exact absurd hk (by decide)
    · refine ⟨kB 10, b, _, _, _, _, _, V2, _, ?_, e56, e81, mod, e28, fun q => absurd q (by decide), by decide, fun _ q => absurd q (by decide), inv⟩
      rw [eL_back, bL_back_0 h0, cls]
      unfold xTw
      rw [xret_c (t := 17) (n := 5) (by decide +kernel) (by decide +kernel) (by exact (show 5 < 6 by decide)), st_iconst f_176_17, st_ireturn f_176_18 (by decide +kernel)]
      try rfl
theorem w_tree {x1 x2 x3 : Int} (h : iCs sc i 67 137 [xw x1, xw x2, xw x3] kB T z V J R) (h0 : T 0 = (7, 0)) : iWr sc i 177 137 [.ref 0, xw x1, xw x2, xw x3, .ref 81] [xw x1, xw x2, xw x3] T z V J R := by
  unfold iWr
  rcases h with ⟨v, T1, z1, V1, J1, R1, V2, J2, hv, cls, e81, e56, mod, ej, e28, inv⟩ | ⟨e, b, V1, V2, cls, mod, e28, hk, he, inv⟩
  · refine ⟨0, v, T1, z1, V1, _, R1, V2, J2, ?_, e56, e81, mod, e28, fun _ => ej, by decide, fun h => absurd h (by decide), inv⟩
    rw [eL_tree, bL_tree_0 h0, cls, xret_v, bL_tree_10 (by rw [e81]) (by rw [e81]; decide), bL_tree_23]
    try rfl
  · have e56 := inv.1.2.2.2.2.2.1.1
    have e81 := inv.1.2.2.2.2.2.2
    rcases he with rfl | rfl | rfl
    · refine ⟨kB 8, b, _, _, _, _, _, V2, _, ?_, e56, e81, mod, e28, fun q => absurd q (by decide), by decide, fun _ q => absurd q (by decide), inv⟩
      rw [eL_tree, bL_tree_0 h0, cls]
      unfold xTw
      rw [xret_c (t := 21) (n := 5) (by decide +kernel) (by decide +kernel) (by exact (show 5 < 6 by decide)), st_iconst f_177_21, st_ireturn f_177_22 (by decide +kernel)]
      try rfl
    · exact absurd hk (by decide)
    · refine ⟨kB 10, b, _, _, _, _, _, V2, _, ?_, e56, e81, mod, e28, fun q => absurd q (by decide), by decide, fun _ q => absurd q (by decide), inv⟩
      rw [eL_tree, bL_tree_0 h0, cls]
      unfold xTw
      rw [xret_c (t := 17) (n := 5) (by decide +kernel) (by decide +kernel) (by exact (show 5 < 6 by decide)), st_iconst f_177_17, st_ireturn f_177_18 (by decide +kernel)]
      try rfl
theorem w_flock {x1 x2 x3 : Int} (h : iCs sc i 68 138 [xw x1, xw x2, xw x3] kB T z V J R) (h0 : T 0 = (7, 0)) : iWr sc i 178 138 [.ref 0, xw x1, xw x2, xw x3, .ref 81] [xw x1, xw x2, xw x3] T z V J R := by
  unfold iWr
  rcases h with ⟨v, T1, z1, V1, J1, R1, V2, J2, hv, cls, e81, e56, mod, ej, e28, inv⟩ | ⟨e, b, V1, V2, cls, mod, e28, hk, he, inv⟩
  · refine ⟨0, v, T1, z1, V1, _, R1, V2, J2, ?_, e56, e81, mod, e28, fun _ => ej, by decide, fun h => absurd h (by decide), inv⟩
    rw [eL_flock, bL_flock_0 h0, cls, xret_v, bL_flock_10 (by rw [e81]) (by rw [e81]; decide), bL_flock_23]
    try rfl
  · have e56 := inv.1.2.2.2.2.2.1.1
    have e81 := inv.1.2.2.2.2.2.2
    rcases he with rfl | rfl | rfl
    · refine ⟨kB 8, b, _, _, _, _, _, V2, _, ?_, e56, e81, mod, e28, fun q => absurd q (by decide), by decide, fun _ q => absurd q (by decide), inv⟩
      rw [eL_flock, bL_flock_0 h0, cls]
      unfold xTw
      rw [xret_c (t := 21) (n := 5) (by decide +kernel) (by decide +kernel) (by exact (show 5 < 6 by decide)), st_iconst f_178_21, st_ireturn f_178_22 (by decide +kernel)]
      try rfl
    · exact absurd hk (by decide)
    · refine ⟨kB 10, b, _, _, _, _, _, V2, _, ?_, e56, e81, mod, e28, fun q => absurd q (by decide), by decide, fun _ q => absurd q (by decide), inv⟩
      rw [eL_flock, bL_flock_0 h0, cls]
      unfold xTw
      rw [xret_c (t := 17) (n := 5) (by decide +kernel) (by decide +kernel) (by exact (show 5 < 6 by decide)), st_iconst f_178_17, st_ireturn f_178_18 (by decide +kernel)]
      try rfl
theorem w_sinks {x1 x2 x3 : Int} (h : iCs sc i 69 144 [xw x1, xw x2, xw x3] kB T z V J R) (h0 : T 0 = (7, 0)) : iWr sc i 179 144 [.ref 0, xw x1, xw x2, xw x3, .ref 81] [xw x1, xw x2, xw x3] T z V J R := by
  unfold iWr
  rcases h with ⟨v, T1, z1, V1, J1, R1, V2, J2, hv, cls, e81, e56, mod, ej, e28, inv⟩ | ⟨e, b, V1, V2, cls, mod, e28, hk, he, inv⟩
  · refine ⟨0, v, T1, z1, V1, _, R1, V2, J2, ?_, e56, e81, mod, e28, fun _ => ej, by decide, fun h => absurd h (by decide), inv⟩
    rw [eL_sinks, bL_sinks_0 h0, cls, xret_v, bL_sinks_10 (by rw [e81]) (by rw [e81]; decide), bL_sinks_23]
    try rfl
  · have e56 := inv.1.2.2.2.2.2.1.1
    have e81 := inv.1.2.2.2.2.2.2
    rcases he with rfl | rfl | rfl
    · refine ⟨kB 8, b, _, _, _, _, _, V2, _, ?_, e56, e81, mod, e28, fun q => absurd q (by decide), by decide, fun _ q => absurd q (by decide), inv⟩
      rw [eL_sinks, bL_sinks_0 h0, cls]
      unfold xTw
      rw [xret_c (t := 21) (n := 5) (by decide +kernel) (by decide +kernel) (by exact (show 5 < 6 by decide)), st_iconst f_179_21, st_ireturn f_179_22 (by decide +kernel)]
      try rfl
    · exact absurd hk (by decide)
    · refine ⟨kB 10, b, _, _, _, _, _, V2, _, ?_, e56, e81, mod, e28, fun q => absurd q (by decide), by decide, fun _ q => absurd q (by decide), inv⟩
      rw [eL_sinks, bL_sinks_0 h0, cls]
      unfold xTw
      rw [xret_c (t := 17) (n := 5) (by decide +kernel) (by decide +kernel) (by exact (show 5 < 6 by decide)), st_iconst f_179_17, st_ireturn f_179_18 (by decide +kernel)]
      try rfl
theorem w_sinksAnew {x1 x2 x3 : Int} (h : iCs sc i 70 145 [xw x1, xw x2, xw x3] kB T z V J R) (h0 : T 0 = (7, 0)) : iWr sc i 180 145 [.ref 0, xw x1, xw x2, xw x3, .ref 81] [xw x1, xw x2, xw x3] T z V J R := by
  unfold iWr
  rcases h with ⟨v, T1, z1, V1, J1, R1, V2, J2, hv, cls, e81, e56, mod, ej, e28, inv⟩ | ⟨e, b, V1, V2, cls, mod, e28, hk, he, inv⟩
  · refine ⟨0, v, T1, z1, V1, _, R1, V2, J2, ?_, e56, e81, mod, e28, fun _ => ej, by decide, fun h => absurd h (by decide), inv⟩
    rw [eL_sinksAnew, bL_sinksAnew_0 h0, cls, xret_v, bL_sinksAnew_10 (by rw [e81]) (by rw [e81]; decide), bL_sinksAnew_23]
    try rfl
  · have e56 := inv.1.2.2.2.2.2.1.1
    have e81 := inv.1.2.2.2.2.2.2
    rcases he with rfl | rfl | rfl
    · refine ⟨kB 8, b, _, _, _, _, _, V2, _, ?_, e56, e81, mod, e28, fun q => absurd q (by decide), by decide, fun _ q => absurd q (by decide), inv⟩
      rw [eL_sinksAnew, bL_sinksAnew_0 h0, cls]
      unfold xTw
      rw [xret_c (t := 21) (n := 5) (by decide +kernel) (by decide +kernel) (by exact (show 5 < 6 by decide)), st_iconst f_180_21, st_ireturn f_180_22 (by decide +kernel)]
      try rfl
    · exact absurd hk (by decide)
    · refine ⟨kB 10, b, _, _, _, _, _, V2, _, ?_, e56, e81, mod, e28, fun q => absurd q (by decide), by decide, fun _ q => absurd q (by decide), inv⟩
      rw [eL_sinksAnew, bL_sinksAnew_0 h0, cls]
      unfold xTw
      rw [xret_c (t := 17) (n := 5) (by decide +kernel) (by decide +kernel) (by exact (show 5 < 6 by decide)), st_iconst f_180_17, st_ireturn f_180_18 (by decide +kernel)]
      try rfl
theorem w_pressure {x1 x2 x3 x4 : Int} (h : iCs sc i 71 146 [xw x1, xw x2, xw x3, xw x4] kB T z V J R) (h0 : T 0 = (7, 0)) : iWr sc i 181 146 [.ref 0, xw x1, xw x2, xw x3, xw x4, .ref 81] [xw x1, xw x2, xw x3, xw x4] T z V J R := by
  unfold iWr
  rcases h with ⟨v, T1, z1, V1, J1, R1, V2, J2, hv, cls, e81, e56, mod, ej, e28, inv⟩ | ⟨e, b, V1, V2, cls, mod, e28, hk, he, inv⟩
  · refine ⟨0, v, T1, z1, V1, _, R1, V2, J2, ?_, e56, e81, mod, e28, fun _ => ej, by decide, fun h => absurd h (by decide), inv⟩
    rw [eL_pressure, bL_pressure_0 h0, cls, xret_v, bL_pressure_12 (by rw [e81]) (by rw [e81]; decide), bL_pressure_25]
    try rfl
  · have e56 := inv.1.2.2.2.2.2.1.1
    have e81 := inv.1.2.2.2.2.2.2
    rcases he with rfl | rfl | rfl
    · refine ⟨kB 8, b, _, _, _, _, _, V2, _, ?_, e56, e81, mod, e28, fun q => absurd q (by decide), by decide, fun _ q => absurd q (by decide), inv⟩
      rw [eL_pressure, bL_pressure_0 h0, cls]
      unfold xTw
      rw [xret_c (t := 23) (n := 6) (by decide +kernel) (by decide +kernel) (by exact (show 6 < 7 by decide)), st_iconst f_181_23, st_ireturn f_181_24 (by decide +kernel)]
      try rfl
    · exact absurd hk (by decide)
    · refine ⟨kB 10, b, _, _, _, _, _, V2, _, ?_, e56, e81, mod, e28, fun q => absurd q (by decide), by decide, fun _ q => absurd q (by decide), inv⟩
      rw [eL_pressure, bL_pressure_0 h0, cls]
      unfold xTw
      rw [xret_c (t := 19) (n := 6) (by decide +kernel) (by decide +kernel) (by exact (show 6 < 7 by decide)), st_iconst f_181_19, st_ireturn f_181_20 (by decide +kernel)]
      try rfl
theorem w_bridges {x1 x2 x3 : Int} (h : iCs sc i 72 147 [xw x1, xw x2, xw x3] kB T z V J R) (h0 : T 0 = (7, 0)) : iWr sc i 182 147 [.ref 0, xw x1, xw x2, xw x3, .ref 81] [xw x1, xw x2, xw x3] T z V J R := by
  unfold iWr
  rcases h with ⟨v, T1, z1, V1, J1, R1, V2, J2, hv, cls, e81, e56, mod, ej, e28, inv⟩ | ⟨e, b, V1, V2, cls, mod, e28, hk, he, inv⟩
  · refine ⟨0, v, T1, z1, V1, _, R1, V2, J2, ?_, e56, e81, mod, e28, fun _ => ej, by decide, fun h => absurd h (by decide), inv⟩
    rw [eL_bridges, bL_bridges_0 h0, cls, xret_v, bL_bridges_10 (by rw [e81]) (by rw [e81]; decide), bL_bridges_23]
    try rfl
  · have e56 := inv.1.2.2.2.2.2.1.1
    have e81 := inv.1.2.2.2.2.2.2
    rcases he with rfl | rfl | rfl
    · refine ⟨kB 8, b, _, _, _, _, _, V2, _, ?_, e56, e81, mod, e28, fun q => absurd q (by decide), by decide, fun _ q => absurd q (by decide), inv⟩
      rw [eL_bridges, bL_bridges_0 h0, cls]
      unfold xTw
      rw [xret_c (t := 21) (n := 5) (by decide +kernel) (by decide +kernel) (by exact (show 5 < 6 by decide)), st_iconst f_182_21, st_ireturn f_182_22 (by decide +kernel)]
      try rfl
    · exact absurd hk (by decide)
    · refine ⟨kB 10, b, _, _, _, _, _, V2, _, ?_, e56, e81, mod, e28, fun q => absurd q (by decide), by decide, fun _ q => absurd q (by decide), inv⟩
      rw [eL_bridges, bL_bridges_0 h0, cls]
      unfold xTw
      rw [xret_c (t := 17) (n := 5) (by decide +kernel) (by decide +kernel) (by exact (show 5 < 6 by decide)), st_iconst f_182_17, st_ireturn f_182_18 (by decide +kernel)]
      try rfl
theorem w_ride {x1 x2 x3 x4 x5 x6 : Int} (h : iCs sc i 73 149 [xw x1, xw x2, xw x3, xw x4, xw x5, xw x6] k123 T z V J R) (h0 : T 0 = (7, 0)) : iWr sc i 183 149 [.ref 0, xw x1, xw x2, xw x3, xw x4, xw x5, xw x6, .ref 81] [xw x1, xw x2, xw x3, xw x4, xw x5, xw x6] T z V J R := by
  unfold iWr
  rcases h with ⟨v, T1, z1, V1, J1, R1, V2, J2, hv, cls, e81, e56, mod, ej, e28, inv⟩ | ⟨e, b, V1, V2, cls, mod, e28, hk, he, inv⟩
  · refine ⟨0, v, T1, z1, V1, _, R1, V2, J2, ?_, e56, e81, mod, e28, fun _ => ej, by decide, fun h => absurd h (by decide), inv⟩
    rw [eL_ride, bL_ride_0 h0, cls, xret_v, bL_ride_16 (by rw [e81]) (by rw [e81]; decide), bL_ride_33]
    try rfl
  · have e56 := inv.1.2.2.2.2.2.1.1
    have e81 := inv.1.2.2.2.2.2.2
    rcases he with rfl | rfl | rfl
    · refine ⟨k123 8, b, _, _, _, _, _, V2, _, ?_, e56, e81, mod, e28, fun q => absurd q (by decide), by decide, fun _ q => absurd q (by decide), inv⟩
      rw [eL_ride, bL_ride_0 h0, cls]
      unfold xTw
      rw [xret_c (t := 27) (n := 8) (by decide +kernel) (by decide +kernel) (by exact (show 8 < 9 by decide)), st_iconst f_183_27, st_ireturn f_183_28 (by decide +kernel)]
      try rfl
    · refine ⟨k123 9, b, _, _, _, _, _, V2, _, ?_, e56, e81, mod, e28, fun q => absurd q (by decide), by decide, fun _ q => absurd q (by decide), inv⟩
      rw [eL_ride, bL_ride_0 h0, cls]
      unfold xTw
      rw [xret_c (t := 31) (n := 8) (by decide +kernel) (by decide +kernel) (by exact (show 8 < 9 by decide)), st_iconst f_183_31, st_ireturn f_183_32 (by decide +kernel)]
      try rfl
    · refine ⟨k123 10, b, _, _, _, _, _, V2, _, ?_, e56, e81, mod, e28, fun q => absurd q (by decide), by decide, fun _ q => absurd q (by decide), inv⟩
      rw [eL_ride, bL_ride_0 h0, cls]
      unfold xTw
      rw [xret_c (t := 23) (n := 8) (by decide +kernel) (by decide +kernel) (by exact (show 8 < 9 by decide)), st_iconst f_183_23, st_ireturn f_183_24 (by decide +kernel)]
      try rfl
theorem w_rest {x1 : Int} (h : iCs sc i 74 150 [xw x1] kR T z V J R) (h0 : T 0 = (7, 0)) : iWr sc i 184 150 [.ref 0, xw x1, .ref 81] [xw x1] T z V J R := by
  unfold iWr
  rcases h with ⟨v, T1, z1, V1, J1, R1, V2, J2, hv, cls, e81, e56, mod, ej, e28, inv⟩ | ⟨e, b, V1, V2, cls, mod, e28, hk, he, inv⟩
  · refine ⟨0, v, T1, z1, V1, _, R1, V2, J2, ?_, e56, e81, mod, e28, fun _ => ej, by decide, fun h => absurd h (by decide), inv⟩
    rw [eL_rest, bL_rest_0 h0, cls, xret_v, bL_rest_7 (by rw [e81]) (by rw [e81]; decide), bL_rest_15]
    try rfl
  · have e56 := inv.1.2.2.2.2.2.1.1
    have e81 := inv.1.2.2.2.2.2.2
    rcases he with rfl | rfl | rfl
    · refine ⟨kR 8, b, _, _, _, _, _, V2, _, ?_, e56, e81, mod, e28, fun q => absurd q (by decide), by decide, fun _ q => absurd q (by decide), inv⟩
      rw [eL_rest, bL_rest_0 h0, cls]
      unfold xTw
      rw [xret_c (t := 13) (n := 3) (by decide +kernel) (by decide +kernel) (by exact (show 3 < 4 by decide)), st_iconst f_184_13, st_ireturn f_184_14 (by decide +kernel)]
      try rfl
    · exact absurd hk (by decide)
    · exact absurd hk (by decide)
theorem w_sore {x1 x2 x3 : Int} (h : iCs sc i 75 151 [xw x1, xw x2, xw x3] kB T z V J R) (h0 : T 0 = (7, 0)) : iWr sc i 185 151 [.ref 0, xw x1, xw x2, xw x3, .ref 81] [xw x1, xw x2, xw x3] T z V J R := by
  unfold iWr
  rcases h with ⟨v, T1, z1, V1, J1, R1, V2, J2, hv, cls, e81, e56, mod, ej, e28, inv⟩ | ⟨e, b, V1, V2, cls, mod, e28, hk, he, inv⟩
  · refine ⟨0, v, T1, z1, V1, _, R1, V2, J2, ?_, e56, e81, mod, e28, fun _ => ej, by decide, fun h => absurd h (by decide), inv⟩
    rw [eL_sore, bL_sore_0 h0, cls, xret_v, bL_sore_10 (by rw [e81]) (by rw [e81]; decide), bL_sore_23]
    try rfl
  · have e56 := inv.1.2.2.2.2.2.1.1
    have e81 := inv.1.2.2.2.2.2.2
    rcases he with rfl | rfl | rfl
    · refine ⟨kB 8, b, _, _, _, _, _, V2, _, ?_, e56, e81, mod, e28, fun q => absurd q (by decide), by decide, fun _ q => absurd q (by decide), inv⟩
      rw [eL_sore, bL_sore_0 h0, cls]
      unfold xTw
      rw [xret_c (t := 21) (n := 5) (by decide +kernel) (by decide +kernel) (by exact (show 5 < 6 by decide)), st_iconst f_185_21, st_ireturn f_185_22 (by decide +kernel)]
      try rfl
    · exact absurd hk (by decide)
    · refine ⟨kB 10, b, _, _, _, _, _, V2, _, ?_, e56, e81, mod, e28, fun q => absurd q (by decide), by decide, fun _ q => absurd q (by decide), inv⟩
      rw [eL_sore, bL_sore_0 h0, cls]
      unfold xTw
      rw [xret_c (t := 17) (n := 5) (by decide +kernel) (by decide +kernel) (by exact (show 5 < 6 by decide)), st_iconst f_185_17, st_ireturn f_185_18 (by decide +kernel)]
      try rfl
theorem w_share {x1 x2 x3 x4 : Int} (h : iCs sc i 76 154 [xw x1, xw x2, xw x3, xw x4] kB T z V J R) (h0 : T 0 = (7, 0)) : iWr sc i 186 154 [.ref 0, xw x1, xw x2, xw x3, xw x4, .ref 81] [xw x1, xw x2, xw x3, xw x4] T z V J R := by
  unfold iWr
  rcases h with ⟨v, T1, z1, V1, J1, R1, V2, J2, hv, cls, e81, e56, mod, ej, e28, inv⟩ | ⟨e, b, V1, V2, cls, mod, e28, hk, he, inv⟩
  · refine ⟨0, v, T1, z1, V1, _, R1, V2, J2, ?_, e56, e81, mod, e28, fun _ => ej, by decide, fun h => absurd h (by decide), inv⟩
    rw [eL_share, bL_share_0 h0, cls, xret_v, bL_share_12 (by rw [e81]) (by rw [e81]; decide), bL_share_25]
    try rfl
  · have e56 := inv.1.2.2.2.2.2.1.1
    have e81 := inv.1.2.2.2.2.2.2
    rcases he with rfl | rfl | rfl
    · refine ⟨kB 8, b, _, _, _, _, _, V2, _, ?_, e56, e81, mod, e28, fun q => absurd q (by decide), by decide, fun _ q => absurd q (by decide), inv⟩
      rw [eL_share, bL_share_0 h0, cls]
      unfold xTw
      rw [xret_c (t := 23) (n := 6) (by decide +kernel) (by decide +kernel) (by exact (show 6 < 7 by decide)), st_iconst f_186_23, st_ireturn f_186_24 (by decide +kernel)]
      try rfl
    · exact absurd hk (by decide)
    · refine ⟨kB 10, b, _, _, _, _, _, V2, _, ?_, e56, e81, mod, e28, fun q => absurd q (by decide), by decide, fun _ q => absurd q (by decide), inv⟩
      rw [eL_share, bL_share_0 h0, cls]
      unfold xTw
      rw [xret_c (t := 19) (n := 6) (by decide +kernel) (by decide +kernel) (by exact (show 6 < 7 by decide)), st_iconst f_186_19, st_ireturn f_186_20 (by decide +kernel)]
      try rfl
theorem w_cause {x1 x2 x3 : Int} (h : iCs sc i 77 155 [xw x1, xw x2, xw x3] kB T z V J R) (h0 : T 0 = (7, 0)) : iWr sc i 187 155 [.ref 0, xw x1, xw x2, xw x3, .ref 81] [xw x1, xw x2, xw x3] T z V J R := by
  unfold iWr
  rcases h with ⟨v, T1, z1, V1, J1, R1, V2, J2, hv, cls, e81, e56, mod, ej, e28, inv⟩ | ⟨e, b, V1, V2, cls, mod, e28, hk, he, inv⟩
  · refine ⟨0, v, T1, z1, V1, _, R1, V2, J2, ?_, e56, e81, mod, e28, fun _ => ej, by decide, fun h => absurd h (by decide), inv⟩
    rw [eL_cause, bL_cause_0 h0, cls, xret_v, bL_cause_10 (by rw [e81]) (by rw [e81]; decide), bL_cause_23]
    try rfl
  · have e56 := inv.1.2.2.2.2.2.1.1
    have e81 := inv.1.2.2.2.2.2.2
    rcases he with rfl | rfl | rfl
    · refine ⟨kB 8, b, _, _, _, _, _, V2, _, ?_, e56, e81, mod, e28, fun q => absurd q (by decide), by decide, fun _ q => absurd q (by decide), inv⟩
      rw [eL_cause, bL_cause_0 h0, cls]
      unfold xTw
      rw [xret_c (t := 21) (n := 5) (by decide +kernel) (by decide +kernel) (by exact (show 5 < 6 by decide)), st_iconst f_187_21, st_ireturn f_187_22 (by decide +kernel)]
      try rfl
    · exact absurd hk (by decide)
    · refine ⟨kB 10, b, _, _, _, _, _, V2, _, ?_, e56, e81, mod, e28, fun q => absurd q (by decide), by decide, fun _ q => absurd q (by decide), inv⟩
      rw [eL_cause, bL_cause_0 h0, cls]
      unfold xTw
      rw [xret_c (t := 17) (n := 5) (by decide +kernel) (by decide +kernel) (by exact (show 5 < 6 by decide)), st_iconst f_187_17, st_ireturn f_187_18 (by decide +kernel)]
      try rfl
end SX9m
