section XSA
variable {p : Program} {l : Launch} {e : Env} {R : Room} {s : State} {m : MethodId} {args : Array Value} {below : List Frame} {meth : Method} {c : Code} {Q : State → Prop} {D : va_G} {dA : Nat → ClassId} {base b n0 u0 j d pc pc' : Nat} {L L' : xL} {S S' : List Value} {h h' : xH} {sc : xS}
variable {H : Heap} {locs : List Loc} {ls : Array Slot}
set_option maxRecDepth 100000 in
theorem xKL_pos : xKL.all (fun e => decide (e.1.2 ≠ 0)) = true := by decide +kernel
/-- a handler that is found -/
theorem xhan_spec {e0 t n : Nat} : ∀ (T : List ExceptionTableEntry), xhan j pc e0 (T.map (fun h => (h.startPc, h.endPc, h.handlerPc, h.catchType))) = some (t, n) →
    ∃ pre x suf q0, T = pre ++ x :: suf ∧ (∀ z ∈ pre, covers z pc = false ∨ (z.catchType ≠ 0 ∧ ∃ e1 q1, 8 ≤ e1 ∧ e1 < 11 ∧ e1 ≠ e0 ∧ xlk xKL (xmo j) z.catchType = some (e1, q1))) ∧ covers x pc = true ∧ x.catchType ≠ 0 ∧ xlk xKL (xmo j) x.catchType = some (e0, q0) ∧ ((∃ k : Fin 4, xft j x.handlerPc = some (.astore_n k) ∧ t = x.handlerPc + 1 ∧ n = k.val) ∨ (∃ k : Nat, xft j x.handlerPc = some (.astore k) ∧ t = x.handlerPc + 2 ∧ n = k))
  | [], hh => by cases hh
  | x :: T, hh => by
    simp only [List.map_cons, xhan] at hh
    split at hh
    · next hcov =>
      have hc2 : covers x pc = true := by simp only [covers, Bool.and_eq_true, decide_eq_true_eq]; exact hcov
      split at hh
      · next e1 q1 hk =>
        have hpos : x.catchType ≠ 0 := of_decide_eq_true (List.all_eq_true.mp xKL_pos _ (xlk_mem hk))
        split at hh
        · next he =>
          subst he
          refine ⟨[], x, T, q1, rfl, fun z hz => absurd hz List.not_mem_nil, hc2, hpos, hk, ?_⟩
          split at hh
          · next k hf =>
            simp only [Option.some.injEq, Prod.mk.injEq] at hh
            exact Or.inl ⟨k, hf, hh.1.symm, hh.2.symm⟩
          · next k hf =>
            simp only [Option.some.injEq, Prod.mk.injEq] at hh
            exact Or.inr ⟨k, hf, hh.1.symm, hh.2.symm⟩
          · cases hh
        · next he =>
          split at hh
          · next h8 =>
            obtain ⟨pre, x1, suf, q0, e1', h2, h3, h4, h5, h6⟩ := xhan_spec T hh
            refine ⟨x :: pre, x1, suf, q0, by rw [e1']; rfl, fun z hz => ?_, h3, h4, h5, h6⟩
            rcases List.mem_cons.mp hz with rfl | hz
            · exact Or.inr ⟨hpos, e1, q1, h8.1, h8.2, he, hk⟩
            · exact h2 z hz
          · cases hh
      · cases hh
    · next hcov =>
      cases hh
theorem xtab_eq {T : List ExceptionTableEntry} {hh : List (Nat × Nat × Nat × Nat)} (e : T.map (fun h => (h.startPc, h.endPc, h.handlerPc, h.catchType)) = hh) : xhan j pc d hh = xhan j pc d (T.map (fun h => (h.startPc, h.endPc, h.handlerPc, h.catchType))) := by rw [e]
/-- into a handler -/
theorem xs_catch {e0 t n q : Nat} {rest : List Value} {ce : Cell} (C : xCtx p D dA base b sc j s m args meth c) (hh : xhan j pc e0 (xmh j) = some (t, n)) (hn : n < L.length) (h8 : 8 ≤ e0) (h11 : e0 < 11) (hR : xRel D dA base b n0 u0 j s h L H locs ls) (hce : H[q]? = some ce) (hcv : ce.vm = .none) (hcl : s.vm.findClass (xC e0) = some ce.cls) (kk : xW p l e R s m args below meth c Q D dA base b n0 u0 j (t) (L.set n none) ([]) (h)) :
    vx_W p l e R s m args below meth c H locs (h.2.1.1 - n0) (h.2.1.2 - u0) Q (F0 m pc ls rest) q := by
  obtain ⟨hx, hb, hr, hml, hown, hts, hlocks, hnm, htb, hG⟩ := C
  rw [← htb] at hh
  obtain ⟨pre, x, suf, q0, hsplit, hpass, hcov, hct, hk, hst⟩ := xhan_spec _ hh
  obtain ⟨g1, g2, g3⟩ := xEW_at h8 h11
  refine vx_catch (own := xC (xmo j)) (name := xC e0) (E := xC e0) hown pre x suf hsplit (fun z hz => ?_) hcov hct (hts _ (xKL_at hk)) (va_Nw.use rfl (hG.2.2.2.2.2.2.1 _ g3)) hce hcv hcl ?_
  · rcases hpass z hz with h1 | ⟨h1, e1, q1, a1, a2, a3, a4⟩
    · exact Or.inl h1
    · exact Or.inr ⟨h1, xC e1, hts _ (xKL_at a4), hG.2.2.2.2.2.2.2.1 e0 e1 h8 h11 a1 a2 (fun z => a3 z.symm)⟩
  · have key : ∀ ls', lv_has ls' (xml j) ((n, Value.ref q) :: (xlst base b L).filter (fun z => !(z.1 == n) && !(z.1 + 1 == n && z.2.category == 2))) → W p l e R s m args below meth c H locs (h.2.1.1 - n0) (h.2.1.2 - u0) Q (F0 m t ls' []) := fun ls' hl =>
      kk H locs ls' ⟨hR.1, hR.2.1, by rw [List.length_set]; exact hR.2.2.1, xlst_none hl, hR.2.2.2.2⟩
    have hn2 : n < xml j := by rw [← hR.2.2.1]; exact hn
    rcases hst with ⟨k, hf, rfl, rfl⟩ | ⟨k, hf, rfl, rfl⟩
    · exact lv_astore_n hx hb (xft_dec2 hf rfl) rfl hR.2.2.2.1 hn2 rfl key
    · exact lv_astore hx hb (xft_dec2 hf rfl) hR.2.2.2.1 hn2 rfl key
/-- a run of the method -/
theorem xs_main {Fc : Nat} {o : xO} {hZ : xH} (C : xCtx p D dA base b sc j s m args meth c) (hs0 : s.heap.size = base + n0) (hF : R.frames = d ∧ 47 * d ≤ R.locals) (hres : hZ.2.1.1 - n0 ≤ R.cells ∧ hZ.2.1.2 - u0 ≤ R.slots)
    (IH : ∀ j1 as h o1 h1, xcall sc d Fc j1 as h = some (o1, h1) → ∃ d1, d = d1 + 1 ∧ xMet l D dA base b sc d1 j1 as h o1 h1)
    (hend : ∀ ins pc L S h H locs ls, xft j pc = some ins → xact sc d j ins pc L S h = some (.inr (.inl (o, hZ))) → xRel D dA base b n0 u0 j s h L H locs ls → W p l e R s m args below meth c H locs (h.2.1.1 - n0) (h.2.1.2 - u0) Q (F0 m pc ls (S.map (xtr base b))))
    (hprop : ∀ e0 pc L rest H locs ls q ce, o = .inr e0 → 8 ≤ e0 → e0 < 11 → xmh j = [] → xRel D dA base b n0 u0 j s hZ L H locs ls → H[q]? = some ce → ce.vm = .none → s.vm.findClass (xC e0) = some ce.cls → H.size = base + hZ.2.1.1 → vx_W p l e R s m args below meth c H locs (hZ.2.1.1 - n0) (hZ.2.1.2 - u0) Q (F0 m pc ls rest) q) :
    ∀ F pc L S h, xrun sc d j (xcall sc d Fc) F pc L S h = some (o, hZ) → xW p l e R s m args below meth c Q D dA base b n0 u0 j (pc) (L) (S) (h) := by
  intro F
  induction F with
  | zero => intro pc L S h hh; cases hh
  | succ F ih =>
    intro pc L S h hh
    have hle0 : ∀ pc L S h o, xrun sc d j (xcall sc d Fc) F pc L S h = some o → xle h o.2 := xrun_le (fun j as h o q => xcall_le d Fc j as h o q) F
    simp only [xrun] at hh
    split at hh
    · cases hh
    · next ins hft =>
      generalize hA : xact sc d j ins pc L S h = A at hh
      match A, hA, hh with
      | some (.inl (pc', L', S', h')), hA, hh =>
        have hl : xle h' hZ := hle0 _ _ _ _ _ hh
        exact xs_go C hs0 hF ⟨by have := hl.1; omega, by have := hl.2; omega⟩ hft hA (ih _ _ _ _ hh)
      | some (.inr (.inl (o1, h1))), hA, hh =>
        cases hh
        exact fun H locs ls hR => hend _ _ _ _ _ H locs ls hft hA hR
      | some (.inr (.inr (j1, as, pc1, S1))), hA, hh =>
        simp only [xdo] at hh
        cases hc : xcall sc d Fc j1 as h with
        | none => rw [hc] at hh; cases hh
        | some r =>
          obtain ⟨o1, h1⟩ := r
          rw [hc] at hh
          obtain ⟨d1, rfl, hM⟩ := IH _ _ _ _ _ hc
          have hle1 : xle h h1 := xcall_le _ Fc j1 as h _ hc
          have hle2 : xle h1 hZ := by
            cases o1 with
            | inl v => cases v with
              | none => exact hle0 _ _ _ _ _ hh
              | some v => exact hle0 _ _ _ _ _ hh
            | inr e0 =>
              simp only [xret] at hh
              split at hh
              · cases hh; exact xle_rf _
              · split at hh
                · split at hh
                  · exact hle0 _ _ _ _ _ hh
                  · cases hh
                · cases hh
          intro H locs ls hR
          refine xsz hs0 hR fun hsz => ?_
          have hd : decode (xmc j) pc = .ok (ins, xlen ins) := by
            obtain ⟨idx, q2, q3, q4, -, -, -, -, -, hcase⟩ := xact_call hA
            rcases hcase with ⟨rfl, -⟩ | ⟨rfl, -⟩ | ⟨rfl, -⟩ <;> exact xft_dec2 hft rfl
          obtain ⟨rfl, hrun⟩ := xs_callrun C hF hd hA hR hsz hM ⟨by have := hle2.1; omega, by have := hle2.2; omega⟩ hle1
          refine xs_after hR hle1 hrun (fun v ho H1 locs1 hR1 => ?_) (fun e0 ho h8 h11 H1 locs1 q ce hR1 hce hcv hcl hsz1 => ?_)
          · subst ho
            cases v with
            | none => exact ih _ _ _ _ hh H1 locs1 ls hR1
            | some v => exact ih _ _ _ _ hh H1 locs1 ls hR1
          · subst ho
            simp only [xret] at hh
            split at hh
            · next hnil =>
              cases hh
              exact hprop e0 pc L _ H1 locs1 ls q ce rfl h8 h11 hnil hR1 hce hcv hcl hsz1
            · split at hh
              · next t n hhan =>
                split at hh
                · next hn => exact xs_catch C hhan hn h8 h11 hR1 hce hcv hcl (ih _ _ _ _ hh)
                · cases hh
              · cases hh
theorem xargs_mem : ∀ (vs : List Value) (i k : Nat) (v : Value), (∀ v ∈ vs, v.category = 1) → vs[k]? = some v → (i + k, v) ∈ lv_args i vs
  | [], _, _, _, _, hh => by cases hh
  | w :: vs, i, k, v, hc, hh => by
    have hw : ¬ w.category = 2 := by rw [hc w List.mem_cons_self]; decide
    simp only [lv_args, if_neg hw]
    cases k with
    | zero => cases hh; exact List.mem_cons_self
    | succ k =>
      rw [List.getElem?_cons_succ] at hh
      have h1 := xargs_mem vs (i + 1) k v (fun v hv => hc v (List.mem_cons_of_mem _ hv)) hh
      rw [show i + 1 + k = i + (k + 1) by omega] at h1
      exact List.mem_cons_of_mem _ h1
theorem xsl_len : ∀ (vs : List Value), (∀ v ∈ vs, v.category = 1) → (lg_sl vs).length = vs.length
  | [], _ => rfl
  | w :: vs, hc => by
    have hw : ¬ w.category = 2 := by rw [hc w List.mem_cons_self]; decide
    have h1 := xsl_len vs (fun v hv => hc v (List.mem_cons_of_mem _ hv))
    unfold lg_sl at h1 ⊢
    rw [List.flatMap_cons, if_neg hw, List.length_append, h1]
    simp
    omega
theorem xent_has {as : List Value} (hc : as.all xcat1 = true) (hl : as.length ≤ xml j) : (lg_sl (as.map (xtr base b))).length ≤ xml j ∧ ∀ ls, lv_has ls (xml j) (lv_args 0 (as.map (xtr base b))) → lv_has ls (xml j) (xlst base b (xent j as)) := by
  have hcat : ∀ v ∈ as.map (xtr base b), v.category = 1 := fun v hv => by
    obtain ⟨w, hw, rfl⟩ := List.mem_map.mp hv
    exact xtr_cat (List.all_eq_true.mp hc w hw)
  refine ⟨by rw [xsl_len _ hcat, List.length_map]; exact hl, fun ls hh => ⟨hh.1, hh.2.1, fun q hq => hh.2.2 q ?_⟩⟩
  obtain ⟨v, hv, hcv, e⟩ := xlst_mem.mp hq
  have h1 : as[q.1]? = some v := by
    unfold xent at hv
    by_cases hlt : q.1 < as.length
    · rw [List.getElem?_append_left (by rw [List.length_map]; exact hlt), List.getElem?_map] at hv
      cases ha : as[q.1]? with
      | none => rw [ha] at hv; cases hv
      | some w => rw [ha] at hv; cases hv; rfl
    · rw [List.getElem?_append_right (by rw [List.length_map]; omega)] at hv
      have h2 := List.eq_of_mem_replicate (List.mem_of_getElem? hv)
      cases h2
  have h2 : (as.map (xtr base b))[q.1]? = some q.2 := by rw [List.getElem?_map, h1, e]; rfl
  have h3 := xargs_mem _ 0 q.1 q.2 hcat h2
  rw [Nat.zero_add] at h3
  exact h3
end XSA
section XSB
variable {l : Launch} {D : va_G} {dA : Nat → ClassId} {base b : Nat} {sc : xS}
theorem ux_of {y : MethodName} {ws ws' : List Cond} {rm : Room} {Pc : Array Value → State → Prop} {Qc : Array Value → State → Outcome → State → Prop} {XC : String → State → State → Prop} {mc ms : Nat} {free : Addr → Prop} {cc : ByteArray} {maxL : Nat} {ret : Option FieldType} {hh : List (Nat × Nat × Nat × Nat)} {hd : Cond}
    (hy : plainFor y = true) (hw : ws = hd :: ws') (hhd : (hh = [] ∧ hd = .code y cc maxL ret) ∨ hd = .codeWith y cc maxL ret hh)
    (body : ∀ p e s m args below meth c s₁, BodyLoose p l y (headSpec ws rm) cc maxL ret e s m args below meth c s₁ → c.maxLocals = maxL → c.exceptionTable.toList.map (fun h => (h.startPc, h.endPc, h.handlerPc, h.catchType)) = hh → Pc args s →
      W p l e (headSpec ws rm).room s m args below meth c s.heap [] 0 0 (vx_MQ below Qc XC args s mc ms free) (entryFrame m args maxL)) : vx_Met l y ws rm Pc Qc XC mc ms free := by
  have spec : ∀ args (s : State) m, (headSpec ws rm).pre.before args s = true → s.methodNamed? y = some m → ∃ meth c, s.vm.method? m = some meth ∧ meth.code = some c ∧ c.code = cc ∧ c.maxLocals = maxL ∧ meth.sig.returnType = ret ∧ meth.locks = false ∧ c.exceptionTable.toList.map (fun h => (h.startPc, h.endPc, h.handlerPc, h.catchType)) = hh := by
    intro args s m hp hn
    have h0 := atoms_spec (ws := ws) hp _ (by rw [hw]; exact List.mem_cons_self)
    rcases hhd with ⟨rfl, rfl⟩ | rfl
    · obtain ⟨meth, c, h1, h2, h3, h4, h5, h6, h7, -⟩ := Cond.code_spec hn h0
      refine ⟨meth, c, h1, h2, h3, h4, h5, h6, ?_⟩
      rw [Array.isEmpty_iff.mp h7]
      rfl
    · obtain ⟨m9, meth, c, hn9, h1, h2, h3, h4, h5, h6, h7, -⟩ := Cond.codeWith_spec h0
      cases hn.symm.trans hn9
      exact ⟨meth, c, h1, h2, h3, h4, h6, h7, h5⟩
  refine MetFree.of_bodySF (code := cc) (maxLocals := maxL) (ret := ret) hy ?_ ?_
  · intro args s m hp hn
    obtain ⟨meth, c, h1, h2, h3, h4, h5, h6, -⟩ := spec args s m hp hn
    exact ⟨meth, c, h1, h2, h3, h4, h5, h6⟩
  · intro p e s m args below meth c s₁ B hml hP _
    have hh0 : s₁.heap = s.heap := by rw [B.state]; rfl
    have ht : c.exceptionTable.toList.map (fun h => (h.startPc, h.endPc, h.handlerPc, h.catchType)) = hh := by
      obtain ⟨meth9, c9, h1, h2, -, -, -, -, h7⟩ := spec args s m B.pre B.named
      cases Option.some.inj (h1.symm.trans B.method)
      cases Option.some.inj (h2.symm.trans (Stand.of_body B).code)
      exact h7
    obtain ⟨t, a1, o, b1, b2, b3⟩ := body p e s m args below meth c s₁ B hml ht hP s₁ hh0 (Stand.of_body B)
    exact ⟨t, o, a1, b1, b2, b3⟩
theorem xhd_at2 {j0 : Nat} (hj : j0 < xMs.length) : (xmh j0 = [] ∧ xhd j0 = .code (xmy j0) (xmc j0) (xml j0) (xmr j0)) ∨ xhd j0 = .codeWith (xmy j0) (xmc j0) (xml j0) (xmr j0) (xmh j0) := by
  have h1 := List.all_eq_true.mp xhd_ok j0 (List.mem_range.mpr hj)
  unfold xhdt at h1
  rw [Bool.and_eq_true] at h1
  have h2 := h1.1
  unfold xmy xmc xmr xmh
  cases hx : xhd j0 with
  | code y c0 m0 r0 =>
    rw [hx] at h2
    have h3 : m0 = xml j0 := of_decide_eq_true h2
    exact Or.inl ⟨rfl, by simp only [h3]⟩
  | codeWith y c0 m0 r0 hh0 =>
    rw [hx] at h2
    have h3 := of_decide_eq_true h2
    exact Or.inr (by simp only [h3.1])
  | _ => rw [hx] at h2; cases h2
/-- SOUNDNESS: what the pure machine answers, the machine answers -/
theorem xs_meth (hfl : l.stackTraces = false) (d : Nat) : ∀ (F j : Nat) (as : List Value) (h : xH) (o : xO) (h' : xH), xcall sc d F j as h = some (o, h') → ∃ d1, d = d1 + 1 ∧ xMet l D dA base b sc d1 j as h o h' := by
  induction d with
  | zero => intro F j as h o h' hh; rw [xcall_0] at hh; cases hh
  | succ d ih =>
    intro F j as h o h' hh
    refine ⟨d, rfl, ?_⟩
    have hle := xcall_le (sc := sc) _ F j as h _ hh
    rw [xcall_s] at hh
    split at hh
    · next hg =>
      obtain ⟨hj, hn, hc, hl⟩ := hg
      obtain ⟨e1, e2⟩ := xent_has (base := base) (b := b) hc hl
      refine ux_of (cc := xmc j) (maxL := xml j) (ret := xmr j) (hh := xmh j) (xMt_at hj).2.1 rfl (xhd_at2 hj) ?_
      intro p e s m args below meth c s₁ B hml htb hv
      obtain ⟨rfl, hI, hG⟩ := hv
      have hpre := atoms_spec (ws := xhd j :: xG0) B.pre
      have hown : s.vm.findClass (xC (xmo j)) = some m.cls := by rw [← (xMt_at hj).1]; exact findClass_of_methodNamed B.named
      have C : xCtx p D dA base b sc j s m (as.map (xtr base b)).toArray meth c := ⟨B.exec, B.bytes, B.returns, hml, hown, fun w hw => hpre w (List.mem_cons_of_mem _ hw), B.notSynchronized, (name_of_methodNamed B.named B.method).1, htb, hG⟩
      have hlv := lv_entry (as.map (xtr base b)) e1
      rw [lg_entry_eq]
      generalize (lg_sl (as.map (xtr base b)) ++ List.replicate (xml j - (lg_sl (as.map (xtr base b))).length) Slot.unset).toArray = ls at hlv ⊢
      have hR : xRel D dA base b h.2.1.1 h.2.1.2 j s h (xent j as) s.heap [] ls := ⟨hI.2.1, va_S.rf, by simp [xent]; omega, e2 ls hlv, Nat.le_refl _, Nat.le_refl _, hI.2.2⟩
      have key := xs_main (l := l) (e := e) (R := (headSpec (xhd j :: xG0) ({ frames := d, cells := h'.2.1.1 - h.2.1.1, slots := h'.2.1.2 - h.2.1.2, locals := 47 * d } : Room)).room) (below := below) (Q := vx_MQ below (xQ D dA base b o h') (xX D dA base o h') (as.map (xtr base b)).toArray s (h'.2.1.1 - h.2.1.1) (h'.2.1.2 - h.2.1.2) (xAA base)) (n0 := h.2.1.1) (u0 := h.2.1.2) (Fc := F) (o := o) (hZ := h') C hI.1 ⟨rfl, Nat.le_refl _⟩ ⟨Nat.le_refl _, Nat.le_refl _⟩ (fun j1 as h o1 h1 q => ih F j1 as h o1 h1 q)
        (fun ins pc L S h1 H locs ls hft hA hR => ?_) (fun e0 pc L rest H locs ls q ce ho h8 h11 hnil hR hce hcv hcl hsz => ?_) F 0 (xent j as) [] h hh s.heap [] ls hR
      · rw [Nat.sub_self, Nat.sub_self] at key
        exact key
      · by_cases hne : ∃ k, ins = .new k
        · obtain ⟨k, rfl⟩ := hne
          exact xs_throw C hI.1 ⟨rfl, Nat.le_refl _⟩ ⟨Nat.le_refl _, Nat.le_refl _⟩ hfl (xft_dec2 hft rfl) hA hR
        · have hd : decode (xmc j) pc = .ok (ins, xlen ins) := by
            refine xft_dec2 hft ?_
            cases ins <;> first | rfl | (exfalso; simp only [xact] at hA; repeat' (split at hA)
                                         all_goals cases hA)
          exact xs_end C hI.1 hd (fun k q => hne ⟨k, q⟩) hA hR
      · refine vx_out (E := xC e0) (ce := ce) ?_ B.notSynchronized hce hcv hcl (fun t ht hW => ⟨⟨e0, ho, h8, h11, rfl⟩, ?_⟩) hR.2.1.2.2 (Nat.le_refl _) (Nat.le_refl _)
        · rw [hnil, List.map_eq_nil_iff] at htb
          rw [htb]
          intro z hz
          cases hz
        · exact xRel_I hR hsz ht
    · cases hh
end XSB
