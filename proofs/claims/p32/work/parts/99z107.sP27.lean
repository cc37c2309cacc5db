/-! THE CLAIM OUT OF ONE WALK OF THE LAW'S BODY. Your part is whole_start (and what it stands on); all else here is the same for every law, but numbers. -/
def R_law : String := "SaddletreeLaw"
def lw_P (b : Addr) (xs : List Int32) (args : Array Value) (s : State) : Prop := args = #[.ref b] ∧ s.IntsAt b xs ∧ xs.length ≤ 260 ∧ (Jvm.Cond.and given_1 narrow_1).before args s = true
def lw_Q (_ : Array Value) (s : State) (o : Outcome) (t : State) : Prop := o = .returned (some (.int 1)) ∧ Framed s o t [] 600074 7301550
def lw_Z (below : List Frame) (a : Array Value) (s : State) : State → Prop := fun t => ∃ o, t.status = .running ∧ Ended t below o ∧ lw_Q a s o t
/-- the law's own end, with 1 on the stack, nothing written that was there before, its room as the claim has it -/
theorem lw_ret {p : Program} {l : Launch} {e : Env} {s : State} {m : MethodId} {below : List Frame} {meth : Method} {c : Code} {b : Nat} (hx : p.tables.exec = Jvm.exec) (hb : c.code = code) (hr : meth.sig.returnType = ret) (hlocks : meth.locks = false) {pc : Nat} {H : Heap} {ls : Array Slot} (hdg : decode code pc = .ok (.ireturn, 1)) : W p l e room_1 s m #[Value.ref b] below meth c H [] 600074 7301550 (lw_Z below #[Value.ref b] s) (F0 m pc ls [.int 1]) := by
  intro T hT X
  obtain ⟨fs, hret, hrun, hended, hW, hframe⟩ := X.leave (v := some (.int 1)) (hlocks := hlocks) (fun h => by rw [hr] at h; cases h)
  have hmeth' : T.vm.method? m = some meth := X.method'
  refine ⟨T.setFrames fs, ?_, .returned (some (.int 1)), hrun, hended, rfl, ⟨_, rfl⟩, hW, hframe⟩
  jvm_step X.here [X.here.top, hx, hb, hdg, hmeth', hr, ret, narrow_b1]
  (try refine ⟨rfl, ?_⟩); (try refine ⟨rfl, ?_⟩)
  first | (intro acts; rw [hret _ acts rfl rfl rfl]) | rw [hret _ _ rfl rfl rfl]
  exact Steps.refl _
/-- what holds at the law's entry: the machine, the code, the tables' words (any of lw_tbl by 'hts w (by decide +kernel)'), the script of L ints xs at the cell b, what the Statement gives of the start (any of its parts by flat_of_before) -/
def lw_At (p : Program) (s : State) (m : MethodId) (meth : Method) (c : Code) (b L : Nat) (xs : Nat → Int32) : Prop :=
  p.tables.exec = Jvm.exec ∧ c.code = code ∧ meth.sig.returnType = ret ∧ c.maxLocals = 15 ∧ s.vm.findClass R_law = some m.cls ∧ (∀ w ∈ lw_tbl, w.before #[Value.ref b] s = true) ∧ va_X b L xs s s.heap ∧ b < s.heap.size ∧ meth.locks = false ∧ (Jvm.Cond.and given_1 narrow_1).before #[Value.ref b] s = true ∧ meth.name = (xmy 109).name ∧ c.exceptionTable.toList.map (fun h => (h.startPc, h.endPc, h.handlerPc, h.catchType)) = xmh 109
-- ===== YOUR PART BEGINS =====
theorem lw_room {s : State} {pl : Platform} {r r' : Room} (hf : r.frames ≤ r'.frames) (hl : r.locals ≤ r'.locals) (hc : r.cells ≤ r'.cells) (hs : r.slots ≤ r'.slots) (h : s.hasRoom pl r' = true) : s.hasRoom pl r = true := by
  simp only [State.hasRoom, Bool.and_eq_true, decide_eq_true_eq] at h ⊢
  obtain ⟨⟨⟨⟨y, a, b, c, d, e⟩, f⟩, g⟩, i⟩ := h
  exact ⟨⟨⟨⟨by omega, by omega, by omega, by omega, by omega, e⟩, by omega⟩, by omega⟩, i⟩
set_option maxRecDepth 100000 in
theorem xUA_ok : (List.range 11).all (fun c => (u_ws (xC c) (xT c) (xN c)).all fun w => decide (w ∈ lw_tbl)) = true := by decide +kernel
set_option maxRecDepth 100000 in
theorem xIA_ok : (List.range 11).all (fun c => decide (Cond.instantiable (xC c) (if c < 8 then xN c else 6) ∈ lw_tbl)) = true := by decide +kernel
set_option maxRecDepth 100000 in
theorem xSA_ok : xSL.all (fun q => decide (Cond.stringRef (xC q.1.1) q.1.2 q.2 ∈ lw_tbl) && decide (Cond.exactly (.string (xC q.1.1) q.1.2) "java/lang/String" ∈ flatC (Jvm.Cond.and given_1 narrow_1))) = true := by decide +kernel
set_option maxRecDepth 100000 in
theorem xCA_ok : [8, 9, 10].all (fun e => [8, 9, 10].all fun f => decide (e = f) || decide (Cond.not (.castable (xC e) (xC f)) ∈ flatC (Jvm.Cond.and given_1 narrow_1))) = true := by decide +kernel
set_option maxRecDepth 100000 in
theorem xTA_ok : (decide (Cond.laysStatic Bundle.tN "UNASSIGNED_STACK" Bundle.steD ∈ lw_tbl) && decide (Cond.laysStatic Bundle.tN "SUPPRESSED_SENTINEL" Bundle.listD ∈ lw_tbl) && decide (Cond.initialized Bundle.tN ∈ lw_tbl) && decide (Cond.isRef (.static Bundle.tN "UNASSIGNED_STACK" Bundle.steD) ∈ flatC (Jvm.Cond.and given_1 narrow_1)) && decide (Cond.isRef (.static Bundle.tN "SUPPRESSED_SENTINEL" Bundle.listD) ∈ flatC (Jvm.Cond.and given_1 narrow_1))) = true := by decide +kernel
set_option maxRecDepth 100000 in
theorem xOA_ok : (List.range 4).all (fun t => decide (Cond.arrayOver (.object (xC t)) ∈ lw_tbl)) = true := by decide +kernel
theorem xnw_tabs {w : Cond} (h : xnwW w = true) : w.onTables = true := by
  cases w <;> first | rfl | exact absurd h Bool.false_ne_true
theorem arr_p {s : State} {args : Array Value} {t : FieldType} (h : (Cond.arrayClass t).before args s = true) : ∃ cA : ClassId, ArrOfT s cA t ∧ s.vm.findClass ("[" ++ t.toString) = some cA := by
  obtain ⟨cA, kA, comp, h1, h2, h3⟩ := Cond.arrayClass_spec h
  exact ⟨cA, fun n z => ⟨fun k h => (by cases h), kA, h2, comp, h3⟩, h1⟩
theorem arr_o {s : State} {args : Array Value} {C : String} (h : (Cond.arrayOver (.object C)).before args s = true) : ∃ cA : ClassId, ArrOfT s cA (.object C) ∧ va_RA s cA (.object C) := by
  obtain ⟨comp, cA, kA, h1, h2, h3, h4, h5⟩ := Cond.arrayOver_spec h
  exact ⟨cA, fun n z => ⟨fun k h => (by cases h), kA, h3, comp, h4⟩, kA, comp, h3, h4, h1, h5⟩
theorem xhd_law : xhd 109 = .code x code maxLocals ret := by
  have h : lw_tbl.length ≤ (xMs.getD 109 (100000, 0, 0, 0, false)).1 := by decide +kernel
  unfold xhd
  rw [List.getD_eq_getElem?_getD, List.getElem?_eq_none h]
  rfl
theorem xmc_law : xmc 109 = code := by unfold xmc; rw [xhd_law]
theorem xmr_law : xmr 109 = ret := by unfold xmr; rw [xhd_law]
/-- what stays all through, at the law's entry -/
theorem xG_start {s : State} {b L : Nat} {xs : Nat → Int32} (hts : ∀ w ∈ lw_tbl, w.before #[Value.ref b] s = true) (hX : va_X b L xs s s.heap) (hbl : b < s.heap.size) (hgv : (Jvm.Cond.and given_1 narrow_1).before #[Value.ref b] s = true) : ∃ (D : va_G) (dA : Nat → ClassId), xG D dA s.heap.size b (L, xs) s := by
  have hs := flat_of_before _ hgv
  have key : ∀ c : Nat, ∃ x : ClassId × (Nat → Nat), c < 11 → u_Kn s (xC c) (xT c) (xN c) x.1 x.2 := by
    intro c
    by_cases hc : c < 11
    · have h1 := List.all_eq_true.mp xUA_ok c (List.mem_range.mpr hc)
      have h2 := of_decide_eq_true (List.all_eq_true.mp xIA_ok c (List.mem_range.mpr hc))
      obtain ⟨cC, iS, h⟩ := u_known hts (fun w hw => of_decide_eq_true (List.all_eq_true.mp h1 w hw)) (hts _ h2)
      exact ⟨(cC, iS), fun _ => h⟩
    · exact ⟨((0 : Nat), fun _ => 0), fun h => absurd h hc⟩
  obtain ⟨f, hf⟩ := Classical.axiomOfChoice key
  have akey : ∀ t : Nat, ∃ cA : ClassId, t < 7 → ArrOfT s cA (xAt t) ∧ va_RA s cA (xAt t) := by
    intro t
    by_cases ht : t < 7
    · have h := xAW_ok
      simp only [Bool.and_eq_true, decide_eq_true_eq] at h
      match t, ht with
      | 0, _ => obtain ⟨cA, a1, a2⟩ := arr_p (hts _ h.1.1); exact ⟨cA, fun _ => ⟨a1, a2⟩⟩
      | 1, _ => obtain ⟨cA, a1, a2⟩ := arr_p (hts _ h.1.2); exact ⟨cA, fun _ => ⟨a1, a2⟩⟩
      | 2, _ => obtain ⟨cA, a1, a2⟩ := arr_p (hts _ h.2); exact ⟨cA, fun _ => ⟨a1, a2⟩⟩
      | n + 3, hn =>
        obtain ⟨cA, a1, a2⟩ := arr_o (hts _ (of_decide_eq_true (List.all_eq_true.mp xOA_ok n (List.mem_range.mpr (by omega)))))
        exact ⟨cA, fun _ => ⟨a1, a2⟩⟩
    · exact ⟨(0 : Nat), fun h => absurd h ht⟩
  obtain ⟨g, hg⟩ := Classical.axiomOfChoice akey
  have hT := xTA_ok
  simp only [Bool.and_eq_true, decide_eq_true_eq] at hT
  obtain ⟨⟨⟨⟨t1, t2⟩, t3⟩, t4⟩, t5⟩ := hT
  refine ⟨(fun c => (f c).1, fun c => (f c).2), g, ⟨fun c q hq => ?_, fun t q hq => ?_⟩, hX, hbl, Nat.le_refl _, vx_Zqof (hts _ t1) (hts _ t3) (hs _ t4) (fun a ha => Nat.not_le.mpr ha), vx_Zqof (hts _ t2) (hts _ t3) (hs _ t5) (fun a ha => Nat.not_le.mpr ha), fun w hw => ?_, fun e f e8 e11 f8 f11 hne => ?_, fun t ht => ?_, fun q hq => ?_⟩
  · have hc : c < 11 := by
      have := (List.getElem?_eq_some_iff.mp hq).1
      simpa [xcl] using this
    rw [xcl_get hc] at hq
    cases hq
    exact hf c hc
  · have ht : t < 7 := by
      have := (List.getElem?_eq_some_iff.mp hq).1
      simpa [xty] using this
    rw [xty_get ht] at hq
    cases hq
    exact hg t ht
  · have h := List.mem_filter.mp hw
    exact va_Nw.of (xnw_tabs h.2) (hts w h.1)
  · have h := List.all_eq_true.mp (List.all_eq_true.mp xCA_ok e (by simp only [List.mem_cons, List.not_mem_nil, or_false]; omega)) f (by simp only [List.mem_cons, List.not_mem_nil, or_false]; omega)
    rw [Bool.or_eq_true, decide_eq_true_eq, decide_eq_true_eq] at h
    exact va_Nc.of (hs _ (h.resolve_left hne))
  · exact va_AO.of (hts _ (of_decide_eq_true (List.all_eq_true.mp xOA_ok t (List.mem_range.mpr ht))))
  · have h := List.all_eq_true.mp xSA_ok q hq
    rw [Bool.and_eq_true, decide_eq_true_eq, decide_eq_true_eq] at h
    obtain ⟨a, _, _, _, h3, _⟩ := Cond.exactly_spec (hs _ h.2)
    exact ⟨a, vk_R.of (hts _ h.1) h3⟩
theorem whole_start {p : Program} {e : Env} {s : State} {m : MethodId} {below : List Frame} {meth : Method} {c : Code} (l : Launch) (hflags : l.flags = flags0) {b L : Nat} {xs : Nat → Int32} (hL : L ≤ 260) (C0 : lw_At p s m meth c b L xs) : W p l e room_1 s m #[Value.ref b] below meth c s.heap [] 0 0 (lw_Z below #[Value.ref b] s) (entryFrame m ([Value.ref b] : List Value).toArray 15) := by
  obtain ⟨hx, hb, hr, hml, hown, hts, hX, hbl, hlocks, hgv, hnm, htb⟩ := id C0
  obtain ⟨D, dA, hG⟩ := xG_start hts hX hbl hgv
  have hfl : l.stackTraces = false := by unfold Launch.stackTraces; rw [hflags]; decide +kernel
  have C : xCtx p D dA s.heap.size b (L, xs) 109 s m #[Value.ref b] meth c := ⟨hx, hb.trans xmc_law.symm, hr.trans xmr_law.symm, hml.trans (by decide +kernel), hown, fun w hw => hts w (List.mem_filter.mp hw).1, hlocks, hnm, htb, hG⟩
  obtain ⟨T, u, R, q1, q1u, q2⟩ := law_start (sc := (L, xs))
  obtain ⟨T', z', V', J', R', q6, q7, q8, q9⟩ := law_checks (sc := (L, xs)) (J := i0 0) q2 ⟨rfl, rfl⟩
  obtain ⟨hZ, q3, q4, q5⟩ := law_loop (sc := (L, xs)) 64 0 T' z' V' J' R' none none none rfl (Nat.le_trans hL (by decide)) q7
  have q8 : z'.1 ≤ 64 + 6 := q8
  have q9 : z'.2 ≤ u + 36 := q9
  rw [eL_law] at q1
  obtain ⟨F, hrun⟩ := XR_iff.mp (q1.trans (q6.trans q3))
  have hI : xI D dA s.heap.size (t0, (0, 0), xv (i0 0), i0 0, i0 none) s := ⟨rfl, fun k q hk => (by cases hk), fun a _ => rfl⟩
  obtain ⟨e1, e2⟩ := xent_has (base := s.heap.size) (b := b) (j := 109) (as := [.retAddr 0]) (by decide) (by decide +kernel)
  have hlv := lv_entry (List.map (xtr s.heap.size b) [.retAddr 0]) e1
  rw [lg_entry_eq]
  have hx7 : xml 109 = 15 := by decide +kernel
  have hlv' : lv_has ((lg_sl [Value.ref b] ++ List.replicate (15 - (lg_sl [Value.ref b]).length) Slot.unset).toArray) (xml 109) (lv_args 0 (List.map (xtr s.heap.size b) [.retAddr 0])) := by
    rw [hx7] at hlv ⊢; exact hlv
  generalize (lg_sl [Value.ref b] ++ List.replicate (15 - (lg_sl [Value.ref b]).length) Slot.unset).toArray = ls at hlv'
  have hR : xRel D dA s.heap.size b 0 0 109 s (t0, (0, 0), xv (i0 0), i0 0, i0 none) (xent 109 [.retAddr 0]) s.heap [] ls := ⟨hI.2.1, va_S.rf, by decide +kernel, e2 ls hlv', Nat.le_refl _, Nat.le_refl _, hI.2.2⟩
  have hFr : ({ room_1 with frames := 11 } : Room).frames = 11 ∧ 47 * 11 ≤ ({ room_1 with frames := 11 } : Room).locals := ⟨rfl, by decide⟩
  have hres : hZ.2.1.1 - 0 ≤ ({ room_1 with frames := 11 } : Room).cells ∧ hZ.2.1.2 - 0 ≤ ({ room_1 with frames := 11 } : Room).slots := ⟨by show hZ.2.1.1 - 0 ≤ 600074; omega, by show hZ.2.1.2 - 0 ≤ 7301550; omega⟩
  have key := xs_main (l := l) (e := e) (R := { room_1 with frames := 11 }) (below := below) (d := 11) (j := 109) (Q := vx_MQ below (xQ D dA s.heap.size b (.inl (some (xw 1))) hZ) (xX D dA s.heap.size (.inl (some (xw 1))) hZ) #[Value.ref b] s (hZ.2.1.1 - 0) (hZ.2.1.2 - 0) (xAA s.heap.size)) (n0 := 0) (u0 := 0) (Fc := F) (o := .inl (some (xw 1))) (hZ := hZ) C rfl hFr hres (fun j1 as h o1 h1 q => xs_meth hfl 11 F j1 as h o1 h1 q)
    (fun ins pc L S h1 H locs ls hft hA hR => ?_) (fun e0 pc L rest H locs ls q ce ho => by cases ho) F 0 (xent 109 [.retAddr 0]) [] (t0, (0, 0), xv (i0 0), i0 0, i0 none) hrun s.heap [] ls hR
  · intro U hU X
    obtain ⟨t, w1, oc, w2, w3, w4⟩ := key U hU { X with room := lw_room (by decide) (by decide) (by decide) (by decide) X.room }
    refine ⟨t, w1, oc, w2, w3, ?_⟩
    rcases w4 with ⟨⟨⟨v, v1, v2⟩, _, _⟩, Lc, ⟨_, w5, w6⟩, w7⟩ | ⟨q, _, _, _, _, ⟨⟨e, v1, _⟩, _⟩, _⟩
    · cases v1
      exact ⟨v2, ⟨_, v2⟩, w5, w6.weaken (fun y hy hlt => absurd hlt (Nat.not_lt.mpr (w7 y hy))) hres.1 hres.2⟩
    · cases v1
  · by_cases hne : ∃ k, ins = .new k
    · obtain ⟨k, rfl⟩ := hne
      exact xs_throw C rfl hFr hres hfl (xft_dec2 hft rfl) hA hR
    · have hd : decode (xmc 109) pc = .ok (ins, xlen ins) := by
        refine xft_dec2 hft ?_
        cases ins <;> first | rfl | (exfalso; simp only [xact] at hA; repeat' (split at hA)
                                     all_goals cases hA)
      exact xs_end C rfl hd (fun k q => hne ⟨k, q⟩) hA hR
-- ===== YOUR PART ENDS =====
set_option maxHeartbeats 4000000 in
theorem lw_walk (l : Launch) (hflags : l.flags = flags0) (b : Addr) (xs : List Int32) : MetFree l x (headSpec (Jvm.Cond.code x code maxLocals ret :: tables_1) room_1) (lw_P b xs) (fun _ _ _ _ _ => True) lw_Q := by
  refine MetFree.of_bodyS (code := code) (maxLocals := maxLocals) (ret := ret) (by decide) ?_ ?_
  · intro args s m h hn
    obtain ⟨meth, c, h1, h2, h3, h4, h5, h6, -, -⟩ := Cond.code_spec hn (atoms_spec (ws := Jvm.Cond.code x code maxLocals ret :: tables_1) h _ List.mem_cons_self)
    exact ⟨meth, c, h1, h2, h3, h4, h5, h6⟩
  · intro p e s m args below meth c s₁ B hml0 hP _
    obtain ⟨rfl, hx, hbd, hgv⟩ := hP
    obtain ⟨scr, harrAt, hlist, hof, hsmall⟩ := hx
    obtain ⟨hcb, hkn, -, -⟩ := State.arrayAt?_spec harrAt
    have hown : s.vm.findClass R_law = some m.cls := findClass_of_methodNamed B.named
    have hts0 : ∀ c ∈ (Jvm.Cond.code x code maxLocals ret :: tables_1), c.before #[Value.ref b] s = true := atoms_spec (ws := Jvm.Cond.code x code maxLocals ret :: tables_1) B.pre
    have hts : ∀ w ∈ lw_tbl, w.before #[Value.ref b] s = true := k2_hts_sels lw_privs (fun w hw => hts0 w (List.mem_cons_of_mem _ hw)) lw_privs_ok
    have hml : c.maxLocals = 15 := B.maxLocals_eq (hts0 _ List.mem_cons_self)
    have X₀ : Stand p l e room_1 s m #[Value.ref b] below meth c s₁ [] 0 0 := Stand.of_body B
    have hh0 : s₁.heap = s.heap := by rw [B.state]; rfl
    have hsz : scr.slots.size = xs.length := by rw [← Array.length_toList, hlist, List.length_map]
    have hval : ∀ j : Nat, j < xs.length → scr.slots[j]? = some (.int (xs.getD j 0)) := fun j hj => by
      rw [← Array.getElem?_toList, hlist]
      simp [hj]
    have hbl : b < s.heap.size := (Array.getElem?_eq_some_iff.mp hcb).1
    have hX : va_X b xs.length (fun j => xs.getD j 0) s s.heap := ⟨scr, hcb, hof, hkn, hsz, hval⟩
    have ht9 : c.exceptionTable.toList.map (fun h => (h.startPc, h.endPc, h.handlerPc, h.catchType)) = xmh 109 := by
      obtain ⟨meth9, c9, h1, h2, -, -, -, -, h7, -⟩ := Cond.code_spec B.named (hts0 _ List.mem_cons_self)
      cases Option.some.inj (h1.symm.trans B.method)
      cases Option.some.inj (h2.symm.trans X₀.code)
      rw [Array.isEmpty_iff.mp h7]
      decide +kernel
    have K : W p l e room_1 s m #[Value.ref b] below meth c s₁.heap [] 0 0 (lw_Z below #[Value.ref b] s) (entryFrame m ([Value.ref b] : List Value).toArray 15) := by
      rw [hh0]
      exact whole_start l hflags hbd ⟨B.exec, B.bytes, B.returns, hml, hown, hts, hX, hbl, B.notSynchronized, hgv, (name_of_methodNamed B.named B.method).1.trans (by decide +kernel), ht9⟩
    obtain ⟨t, a1, o, b1, b2, b3⟩ := K s₁ rfl X₀
    exact ⟨t, o, a1, b1, b2, b3⟩
theorem lw_pre_spec {args : Array Value} {s : State} (h : (Jvm.Cond.and given_1 narrow_1).before args s = true) (hr : rest_1_c.before args s = true) : ∃ (b : Addr) (xs : List Int32), lw_P b xs args s := by
  have hs := flat_of_before _ h
  have hq := flat_of_before _ hr
  have hc : (Cond.count 1).before args s = true := hs _ (by decide +kernel)
  have harr : (Cond.arrayOf (.arg 0) .int).before args s = true := hs _ (by decide +kernel)
  have hle : (Cond.le (.length (.arg 0)) (.int 260)).before args s = true := hs _ (by decide +kernel)
  have hlen : (Cond.isInt (.length (.arg 0))).before args s = true := hq _ (by decide +kernel)
  have hall : (Cond.all (.arg 0) (.isInt (.elem (.arg 0) (.index 0)))).before args s = true := hq _ (by decide +kernel)
  obtain ⟨b, xs, hb, hx⟩ := State.ints_of_pre rfl harr hlen hall
  have hsm : xs.length < 2 ^ 31 := hx.choose_spec.2.2.2
  have hev : (Term.length (.arg 0)).eval args s none [] s = some (.int xs.length.toInt32) := hx.length_eval hb
  have hv := Cond.le_ints hev (show (Term.int 260).eval args s none [] s = some (.int 260) from rfl)
  have hd : xs.length.toInt32 ≤ 260 := by
    simpa [Cond.before, Cond.holds, hv] using hle
  have hN : xs.length ≤ 260 := (Int32.ofNat_le_ofNat hsm (by decide)).mp (show Int32.ofNat xs.length ≤ Int32.ofNat 260 from hd)
  exact ⟨b, xs, Cond.one_arg hc (show args[0]? = some (.ref b) from hb), hx, hN, h⟩
theorem lw_comes (l : Launch) (hflags : l.flags = flags0) : Comes l x (Jvm.Cond.code x code maxLocals ret :: tables_1) room_1 (fun tb e args s => Calls_1 tb e args s ∧ rest_1 tb e args s ∧ Pre_1 tb e args s)
    (fun _ _ args s o t => lw_Q args s o t) := by
  intro p e ha hc hk s m args below hf hfit hheap happ hpre
  obtain ⟨b, xs, hP⟩ := lw_pre_spec hpre.2.2 hpre.2.1
  obtain ⟨k, o, h1, h2, h3, hQ⟩ := lw_walk l hflags b xs p e ha hc hk s m args below hf ((Spec.applies_iff_loose hf).mp happ).1 hP trivial
  exact ⟨k, o, h1, h2, h3, hQ⟩
theorem lw_frame {s t : State} {o : Outcome} {args : Array Value} (h : Framed s o t [] 600074 7301550) :
    Framed s o t (fieldLocs frame_1_writes args s ++ arrayLocs frame_1_arrays args s ++ staticLocs frame_1_statics s) 600074 7301550 := h
theorem lw_limb (L : Cond) (hL : ∀ (args : Array Value) (s t : State), L.after args s (.returned (some (.int 1))) t = true) :
    ArmFor flags0 classFile x code maxLocals ret World_1 tables_1 room_1 Calls_1 rest_1 Pre_1
      (fun tb e a s o t => postC L tb e a s o t ∧ Framed s o t (fieldLocs frame_1_writes a s ++ arrayLocs frame_1_arrays a s ++ staticLocs frame_1_statics s) 600074 7301550) := by
  intro l hflags _ _ p e ha hc hk s m args below hf hfit hheap happ hpre
  obtain ⟨k, o, h1, h2, h3, rfl, hF⟩ := lw_comes l hflags p e ha hc hk s m args below hf hfit hheap happ hpre
  exact ⟨k, _, h1, h2, h3, hL args s _, lw_frame hF⟩
theorem i_vc : Claimed_1_1 ∧ Claimed_1_2 := ⟨lw_limb limb_1_1 (fun args s t => by simp [limb_1_1, Cond.after, Cond.holds, Cond.value]), lw_limb limb_1_2 (fun args s t => Cond.after_iff.mpr (by
  first | (rw [show limb_1_2 = Cond.eq .result (.int 1) from rfl, Cond.eq_ints (x := 1) (y := 1) rfl rfl]; simp; done) | (simp [limb_1_2, Cond.value, Term.eval]; done)))⟩
