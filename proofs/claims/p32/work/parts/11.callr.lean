section UXI
variable {p : Program} {l : Launch} {e : Env} {R : Room} {s : State} {m : MethodId} {args : Array Value} {below : List Frame} {meth : Method} {c : Code} {T : State} {H : Heap} {locs : List Loc} {cells slots : Nat}
theorem ux_callI (X : Stand p l e R s m args below meth c T locs cells slots) (hexec : p.tables.exec = Jvm.exec) {own : String} {index : Nat} {y : MethodName} {bytes : ByteArray} {maxL : Nat}
    (hown : s.vm.findClass own = some m.cls) (hy1 : y.name = "<init>") (hlink : (Cond.methodLink own index y).before args s = true) (hinst : (Cond.instanceMethod y).before args s = true)
    (hcode : (Cond.code y bytes maxL none).before args s = true) (hy : y.cls ≠ "java/lang/invoke/MethodHandle" ∧ y.cls ≠ "java/lang/invoke/VarHandle")
    {W9 : Nat} {Pre : Pt → Array Value → Prop} {Post : Pt → Array Value → Option Value → Pt → Prop} {PostX : Pt → Array Value → Addr → Pt → Prop} (hK : vx_Back l R p e below s args y 3 W9 Pre Post PostX)
    {g : JFrame} (hg : g.method = m) (hsize : g.locals.size = c.maxLocals) {a : Addr} {argsL rest : List Value} (hlen : ∀ sig, parseMethodDescriptor y.desc = some sig → argsL.length = sig.parameters.length)
    (hstack : g.stack = argsL.reverse ++ .ref a :: rest) (hW : 2 * g.monitorRoom + (rest.map fun v => v.category).sum ≤ W9) (hdg : decode c.code g.pc = .ok (.invokespecial index, 3))
    (hpre : ∀ vm₁, s.WarmedH vm₁ → Pre ⟨T.setVm vm₁, locs, cells, slots⟩ (Value.ref a :: argsL).toArray) :
    (∃ (v : Option Value) (vm₁ : Vm) (B : Pt), s.WarmedH vm₁ ∧ Stand p l e R s m args below meth c B.U B.locs B.cells B.slots ∧ Post ⟨T.setVm vm₁, locs, cells, slots⟩ (Value.ref a :: argsL).toArray v B ∧
      ∀ target, Steps p.tables e below (B.U.setTop { g with pc := g.pc + 3, stack := v.toList ++ rest }) target → Steps p.tables e below (T.setTop g) target) ∨
    (∃ (q : Addr) (vm₁ : Vm) (B : Pt), s.WarmedH vm₁ ∧ Stand p l e R s m args below meth c B.U B.locs B.cells B.slots ∧ PostX ⟨T.setVm vm₁, locs, cells, slots⟩ (Value.ref a :: argsL).toArray q B ∧
      Steps p.tables e below (T.setTop g) ((B.U.setTop { g with stack := rest }).pushFrame (.throwing q))) := by
  subst hg
  have hpl : e.platform.magicAccessors = ({} : Platform).magicAccessors := by rw [X.admits.platform]
  obtain ⟨mk, methM, cM, kP, vm₁, hnamed, hmethM, hcodeM, -, hlocalsM, -, hkP, -, hW₁, hstep₁⟩ := Steps.initColdArgs (e := e) X.here hexec X.warmed hpl hown hy1 hy hlink hinst hcode (f := g) rfl hlen hstack hdg
  have X₁ := X.noted hW₁
  rcases hK g.method meth c ⟨T.setVm vm₁, locs, cells, slots⟩ { g with stack := rest } (.invokespecial index) mk (Value.ref a :: argsL).toArray X₁ rfl hsize hdg hW (X₁.named hnamed) (hpre vm₁ X₁.warmed) with ⟨v, B, X', hpost, hsteps⟩ | ⟨q, B, X', hpost, hsteps⟩
  · exact Or.inl ⟨v, vm₁, B, X₁.warmed, X', hpost, fun target h => hstep₁ _ fun acts => by rw [doInvoke_state]; exact hsteps.trans h⟩
  · exact Or.inr ⟨q, vm₁, B, X₁.warmed, X', hpost, hstep₁ _ fun acts => by rw [doInvoke_state]; exact hsteps⟩
variable {y : MethodName} {bytes cc : ByteArray} {maxL nL mc ms n index : Nat} {ret : Option FieldType} {ws : List Cond} {rm : Room} {Pc : Array Value → State → Prop} {Qc : Array Value → State → Outcome → State → Prop} {XC : String → State → State → Prop} {free : Addr → Prop} {Ts : List Cond} {own C : String} {b : Addr} {As rest : List Value} {g : JFrame}
theorem ux_runI (S : CallFix p m c cc nL s args Ts own) (hM : vx_Met l y ws rm Pc Qc XC mc ms free) (cw : CallB R s args own index y bytes maxL none ws rm mc ms n ∧ y.name = "<init>" ∧ (Cond.instanceMethod y).before args s = true) (hp : PreS s H Pc (.ref b :: As))
    (hg : g.method = m) (hn : As.length = n) (hsize : g.locals.size = nL) (hstack : g.stack = As.reverse ++ .ref b :: rest) (hW : 2 * g.monitorRoom + (rest.map fun v => v.category).sum ≤ 8) (hdg : decode cc g.pc = .ok (.invokespecial index, 3)) (hf : cells + mc ≤ R.cells ∧ slots + ms ≤ R.slots) :
    vx_Run p l e R s m args below meth c H locs cells slots mc ms g rest (Qc (Value.ref b :: As).toArray) XC free := by
  have hK : vx_Back l R p e below s args y 3 8 (PreOf R mc ms Pc) (PostOf Qc mc ms free) (vx_Post XC mc ms free) := vx_callBack cw.1 hM hp.1
  obtain ⟨⟨-, -, -, -, -, -, hcode, -, hy, hlen, hl⟩, hy1, hin⟩ := cw
  obtain ⟨hx, hb, hml, ho, -⟩ := S
  intro T hT X
  rcases ux_callI X hx (bytes := bytes) (maxL := maxL) ho hy1 hl hin hcode hy hK hg (hsize.trans hml.symm) (a := b) (argsL := As) (rest := rest) (fun sig h => hn.trans (hlen sig h)) hstack hW (by rw [hb]; exact hdg)
    (fun vm₁ hW₁ => ⟨hf.1, hf.2, hp.2 (T.setVm vm₁) hT hW₁⟩) with ⟨v, vm₁, ⟨U', l2, c2, s2⟩, hW₁, X', ⟨g', mk, t, L, e1, e2, hq, h1, hL, h2, h3⟩, st⟩ | ⟨q, vm₁, ⟨U', l2, c2, s2⟩, hW₁, X', ⟨g', mk, t, L, E, ce, e1, e2, hq, hce, hcv, hcl, h1, hL, h2, h3⟩, st⟩
  · dsimp only [Pt.U, Pt.locs, Pt.cells, Pt.slots] at X' e1 e2 h1 h2 h3 st
    subst h1; subst h2; subst h3
    exact Or.inl ⟨v, (T.setVm vm₁).calling g' mk (Value.ref b :: As).toArray, t, U', L, hT, X', hL, e1, e2, hq, st⟩
  · dsimp only [Pt.U, Pt.locs, Pt.cells, Pt.slots] at X' e1 e2 h1 h2 h3 st hcl
    subst h1; subst h2; subst h3
    exact Or.inr ⟨q, (T.setVm vm₁).calling g' mk (Value.ref b :: As).toArray, t, U', L, E, ce, hT, X', hL, e1, e2, hq, hce, hcv, vx_cls hW₁ hcl, st⟩
end UXI
section XST8
variable {p : Program} {l : Launch} {e : Env} {R : Room} {s : State} {m : MethodId} {args : Array Value} {below : List Frame} {meth : Method} {c : Code} {Q : State → Prop} {D : va_G} {dA : Nat → ClassId} {base b n0 u0 j d pc pc' : Nat} {L L' : xL} {S S' : List Value} {h h' : xH} {sc : xS}
variable {H : Heap} {locs : List Loc} {ls : Array Slot}
/-! calls -/
theorem xG_same {s U : State} (hv : U.vm = s.vm) (hH : U.heap = s.heap) (h0 : xG D dA base b sc s) : xG D dA base b sc U := by
  have ha : s.vm.Alike U.vm := by rw [hv]; exact Vm.Alike.refl s.vm
  obtain ⟨h1, h2, h3, h4, h5, h6, h7, h8, h9, h10⟩ := h0
  refine ⟨va_K.moved ha h1, by rw [hH]; exact va_X.moved ha h2, h3, by rw [hH]; exact h4, by rw [hH]; exact vx_Zq.moved ha h5, by rw [hH]; exact vx_Zq.moved ha h6, fun w hw => va_Nw.same (xnw_tab (List.mem_filter.mp hw).2) hv.symm (h7 w hw), fun e f a1 a2 a3 a4 a5 => va_Nc.moved ha (h8 e f a1 a2 a3 a4 a5), fun t ht => va_AO.moved ha (h9 t ht), fun q hq => ?_⟩
  obtain ⟨sa, hsa⟩ := h10 q hq
  exact ⟨sa, vk_R.same hv hsa⟩
theorem xPc_blind {as : List Value} : FrameBlind (va_Pc as (fun U => xI D dA base h U ∧ xG D dA base b sc U)) := fun a U g mk hq => ⟨hq.1, hq.2.1, xG_same (s := U) rfl rfl hq.2.2⟩
theorem xhd_at {j0 : Nat} (hj : j0 < xMs.length) (hp : (xMs.getD j0 (100000, 0, 0, 0, false)).1 < lw_tbl.length) : xhd j0 ∈ xG0 ∧ (xmh j0 = [] → xhd j0 = .code (xmy j0) (xmc j0) (xml j0) (xmr j0)) ∧ (xmh j0 ≠ [] → xhd j0 = .codeWith (xmy j0) (xmc j0) (xml j0) (xmr j0) (xmh j0)) := by
  have h1 := List.all_eq_true.mp xhd_ok j0 (List.mem_range.mpr hj)
  unfold xhdt at h1
  rw [Bool.and_eq_true] at h1
  refine ⟨List.mem_filter.mpr ⟨?_, h1.2⟩, ?_⟩
  · unfold xhd
    rw [List.getD_eq_getElem?_getD, List.getElem?_eq_getElem hp]
    exact List.getElem_mem hp
  · have h2 := h1.1
    unfold xmy xmc xmr xmh
    cases hx : xhd j0 with
    | code y c0 m0 r0 =>
      rw [hx] at h2
      have h3 : m0 = xml j0 := of_decide_eq_true h2
      exact ⟨fun _ => by simp only [h3], fun q => absurd rfl q⟩
    | codeWith y c0 m0 r0 hh0 =>
      rw [hx] at h2
      have h3 := of_decide_eq_true h2
      exact ⟨fun q => absurd q h3.2, fun _ => by simp only [h3.1]⟩
    | _ => rw [hx] at h2; cases h2
theorem xMt_at {j0 : Nat} (hj : j0 < xMs.length) : (xmy j0).cls = xC (xmo j0) ∧ plainFor (xmy j0) = true ∧ xml j0 ≤ 28 ∧ ((xmy j0).cls ≠ "java/lang/invoke/MethodHandle" ∧ (xmy j0).cls ≠ "java/lang/invoke/VarHandle") ∧ (parseMethodDescriptor (xmy j0).desc).map (fun q => q.parameters.length) = some (if xms j0 = true then xmn j0 else xmn j0 - 1) ∧ (xms j0 = true ∨ 1 ≤ xmn j0) ∧ Cond.initialized (xC (xmo j0)) ∈ xG0 := by
  have h1 := List.all_eq_true.mp xMt_ok j0 (List.mem_range.mpr hj)
  unfold xMt at h1
  simp only [Bool.and_eq_true] at h1
  obtain ⟨⟨⟨⟨⟨⟨a1, a2⟩, a3⟩, a4⟩, a5⟩, a6⟩, a7⟩ := h1
  exact ⟨of_decide_eq_true a1, a2, of_decide_eq_true a3, of_decide_eq_true a4, of_decide_eq_true a5, of_decide_eq_true a6, List.mem_filter.mpr ⟨of_decide_eq_true a7, rfl⟩⟩
theorem xG0_good : ∀ w ∈ xG0, goodWord w = true := fun _ hw => (List.mem_filter.mp hw).2
theorem xinv_eq {j0 j1 pc1 : Nat} {as S1 : List Value} (hA : xinv j0 pc S = some (.inr (.inr (j1, as, pc1, S1)))) : j1 = j0 ∧ pc1 = pc + 3 ∧ as = (S.take (xmn j0)).reverse ∧ S1 = S.drop (xmn j0) ∧ xmn j0 ≤ S.length ∧ (S1.length ≤ 4 ∨ (S1.length ≤ 8 ∧ S1.all xcat1 = true)) := by
  unfold xinv xcal at hA
  split at hA
  · next h1 => cases hA; exact ⟨rfl, rfl, rfl, rfl, h1.1, h1.2⟩
  · cases hA
theorem xgo_nc {a : Nat} {L2 : xL} {S2 : List Value} {h2 : xH} {r : (xO × xH) ⊕ (Nat × List Value × Nat × List Value)} (hA : xgo a L2 S2 h2 = some (.inr r)) : False := by cases hA
theorem xend_nc {o : xO} {h0 : xH} {r : Nat × List Value × Nat × List Value} (hA : xend o h0 = some (.inr (.inr r))) : False := by cases hA
/-- which instructions call, and what -/
theorem xact_call {ins : Instr} {j1 pc1 : Nat} {as S1 : List Value} (hA : xact sc d j ins pc L S h = some (.inr (.inr (j1, as, pc1, S1)))) :
    ∃ idx q2 q3 q4, pc1 = pc + 3 ∧ as = (S.take (xmn j1)).reverse ∧ S1 = S.drop (xmn j1) ∧ xmn j1 ≤ S.length ∧ (S1.length ≤ 4 ∨ (S1.length ≤ 8 ∧ S1.all xcat1 = true)) ∧
      ((ins = .invokestatic idx ∧ xlk xCL (xmo j) idx = some (j1, 0, q2, q3, q4)) ∨ (ins = .invokevirtual idx ∧ xlk xCL (xmo j) idx = some (j1, 1, q2, q3, q4) ∧ xrcv j1 h (S.drop (xmn j1 - 1)) = true) ∨ (ins = .invokespecial idx ∧ xlk xCL (xmo j) idx = some (j1, 2, q2, q3, q4) ∧ xrcv j1 h (S.drop (xmn j1 - 1)) = true)) := by
  unfold xact at hA
  split at hA
  all_goals first
    | (exfalso; repeat' (split at hA)
       all_goals first
         | (cases hA; done)
         | exact xgo_nc hA
         | exact xst_ne hA
         | exact xbr_ne hA
         | exact xend_nc hA
         | exact xthr_nc hA
       done)
    | skip
  · split at hA
    · next idx j0 q hf =>
      obtain ⟨rfl, e1, e2, e3, e4, e5⟩ := xinv_eq hA
      exact ⟨_, q.1, q.2.1, q.2.2, e1, e2, e3, e4, e5, Or.inl ⟨rfl, hf⟩⟩
    · cases hA
  · split at hA
    · next idx j0 q hf =>
      split at hA
      · next hr =>
        obtain ⟨rfl, e1, e2, e3, e4, e5⟩ := xinv_eq hA
        exact ⟨_, q.1, q.2.1, q.2.2, e1, e2, e3, e4, e5, Or.inr (Or.inl ⟨rfl, hf, hr⟩)⟩
      · cases hA
    · cases hA
  · split at hA
    · next idx j0 q hf =>
      split at hA
      · next hr =>
        obtain ⟨rfl, e1, e2, e3, e4, e5⟩ := xinv_eq hA
        exact ⟨_, q.1, q.2.1, q.2.2, e1, e2, e3, e4, e5, Or.inr (Or.inr ⟨rfl, hf, hr⟩)⟩
      · cases hA
    · cases hA
    · split at hA
      · split at hA
        · exact (xgo_nc hA).elim
        · cases hA
      · cases hA
theorem xCL_at {o i0 j1 k0 q2 q3 q4 : Nat} (hf : xlk xCL o i0 = some (j1, k0, q2, q3, q4)) : j1 < xMs.length ∧ (xMs.getD j1 (100000, 0, 0, 0, false)).1 < lw_tbl.length ∧ Cond.methodLink (xC o) i0 (xmy j1) ∈ xG0 ∧
    (k0 = 0 → Cond.static (xmy j1) ∈ xG0 ∧ xms j1 = true) ∧ (k0 = 1 → Cond.instanceMethod (xmy j1) ∈ xG0 ∧ Cond.selects (xC (xmo j1)) (xmy j1) (xmy j1) ∈ xG0 ∧ xms j1 = false) ∧ (k0 = 2 → Cond.instanceMethod (xmy j1) ∈ xG0 ∧ xms j1 = false ∧ (xmy j1).name = "<init>" ∧ xmr j1 = none ∧ xmh j1 = []) := by
  have h1 := List.all_eq_true.mp xCL_ok _ (xlk_mem hf)
  have h2 := of_decide_eq_true (List.all_eq_true.mp xCL_lt _ (xlk_mem hf))
  unfold xCLt at h1
  rw [Bool.and_eq_true] at h1
  refine ⟨h2.1, h2.2, xG0_of (of_decide_eq_true h1.1) rfl, ?_, ?_, ?_⟩
  · rintro rfl
    have h3 := h1.2
    simp only [Bool.and_eq_true] at h3
    exact ⟨xG0_of (of_decide_eq_true h3.1) rfl, h3.2⟩
  · rintro rfl
    have h3 := h1.2
    simp only [Bool.and_eq_true, Bool.not_eq_true'] at h3
    exact ⟨xG0_of (of_decide_eq_true h3.1.1) rfl, xG0_of (of_decide_eq_true h3.1.2) rfl, h3.2⟩
  · rintro rfl
    have h3 := h1.2
    simp only [Bool.and_eq_true, Bool.not_eq_true'] at h3
    exact ⟨xG0_of (of_decide_eq_true h3.1.1) rfl, h3.1.2, of_decide_eq_true h3.2⟩
theorem xrcv_at {j1 : Nat} (hR : xRel D dA base b n0 u0 j s h L H locs ls) (hG : xG D dA base b sc s) (ho : xmo j1 < 11) {T : List Value} (hr : xrcv j1 h T = true) : ∃ a T2, T = .ref a :: T2 ∧ ∃ cellB : Cell, H[base + a]? = some cellB ∧ cellB.vm.isStatics = false ∧ s.vm.findClass (xC (xmo j1)) = some cellB.cls := by
  match T, hr with
  | .ref a :: T2, hr =>
    have hT := of_decide_eq_true hr
    exact ⟨a, T2, rfl, va_recv hG.1 hR.1 (xcl_get ho) (xRel_ob hR ho hT)⟩
set_option maxRecDepth 100000 in
theorem xMo_ok : (List.range xMs.length).all (fun j => xms j || (decide (xmo j < 8) && decide (xmh j = []))) = true := by decide +kernel
theorem xMo_at {j0 : Nat} (hj : j0 < xMs.length) (h0 : xms j0 = false) : xmo j0 < 8 ∧ xmh j0 = [] := by
  have h1 := List.all_eq_true.mp xMo_ok j0 (List.mem_range.mpr hj)
  rw [h0, Bool.false_or, Bool.and_eq_true] at h1
  exact ⟨of_decide_eq_true h1.1, of_decide_eq_true h1.2⟩
theorem xtake {n a : Nat} {T2 : List Value} (hn : 1 ≤ n) (e : S.drop (n - 1) = .ref a :: T2) : (S.take n).reverse = .ref a :: (S.take (n - 1)).reverse ∧ S.drop n = T2 := by
  have e1 : S.take n = S.take (n - 1) ++ [.ref a] := by
    have h1 : n = (n - 1) + 1 := by omega
    rw [h1, List.take_add, e]
    simp
  have e2 : S.drop n = (S.drop (n - 1)).drop 1 := by
    rw [List.drop_drop]
    congr 1
    omega
  refine ⟨by rw [e1]; simp, by rw [e2, e]; rfl⟩
/-- a call runs as its contract says -/
theorem xs_callrun {ins : Instr} {j1 pc1 d1 : Nat} {as S1 : List Value} {o1 : xO} {h1 : xH} (C : xCtx p D dA base b sc j s m args meth c) (hF : R.frames = d1 + 1 ∧ 47 * (d1 + 1) ≤ R.locals) (hd : decode (xmc j) pc = .ok (ins, xlen ins)) (hA : xact sc d j ins pc L S h = some (.inr (.inr (j1, as, pc1, S1)))) (hR : xRel D dA base b n0 u0 j s h L H locs ls) (hsz : H.size = base + h.2.1.1) (hM : xMet l D dA base b sc d1 j1 as h o1 h1) (hres : h1.2.1.1 - n0 ≤ R.cells ∧ h1.2.1.2 - u0 ≤ R.slots) (hle : xle h h1) :
    pc1 = pc + 3 ∧ vx_Run p l e R s m args below meth c H locs (h.2.1.1 - n0) (h.2.1.2 - u0) (h1.2.1.1 - h.2.1.1) (h1.2.1.2 - h.2.1.2) (F0 m pc ls (S.map (xtr base b))) (S1.map (xtr base b)) (xQ D dA base b o1 h1 (as.map (xtr base b)).toArray) (xX D dA base o1 h1) (xAA base) := by
  obtain ⟨hx, hb, hr, hml, hown, hts, hlocks, hnm, htb, hG⟩ := C
  have hn0 := hR.2.2.2.2.1
  have hu0 := hR.2.2.2.2.2.1
  obtain ⟨hle1, hle2⟩ := hle
  obtain ⟨idx, q2, q3, q4, rfl, rfl, rfl, hnS, hS4, hcase⟩ := xact_call hA
  refine ⟨rfl, ?_⟩
  have hf2 : h.2.1.1 - n0 + (h1.2.1.1 - h.2.1.1) ≤ R.cells ∧ h.2.1.2 - u0 + (h1.2.1.2 - h.2.1.2) ≤ R.slots := ⟨by omega, by omega⟩
  have hsum := xsum8 (base := base) (b := b) hS4
  have hfix : CallFix p m c (xmc j) (xml j) s args xG0 (xC (xmo j)) := ⟨hx, hb, hml, hown, hts⟩
  have hpre : ∀ U : State, U.heap = H → s.WarmedH U.vm → va_Pc (((S.take (xmn j1)).reverse).map (xtr base b)) (fun U => xI D dA base h U ∧ xG D dA base b sc U) (((S.take (xmn j1)).reverse).map (xtr base b)).toArray U := fun U hU hW => ⟨rfl, ⟨by rw [hU]; exact hsz, by rw [hU]; exact hR.1, hR.2.2.2.2.2.2⟩, xG_at hG hR.2.1 hU hW⟩
  have hstk : S.map (xtr base b) = (((S.take (xmn j1)).reverse).map (xtr base b)).reverse ++ (S.drop (xmn j1)).map (xtr base b) := by
    rw [← List.map_reverse, List.reverse_reverse, ← List.map_append, List.take_append_drop]
  have hlen : (((S.take (xmn j1)).reverse).map (xtr base b)).length = xmn j1 := by simp; omega
  have hroom : 2 * (F0 m pc ls (S.map (xtr base b))).monitorRoom + (((S.drop (xmn j1)).map (xtr base b)).map fun v => v.category).sum ≤ 8 := lv_room hsum
  rcases hcase with ⟨rfl, hf⟩ | ⟨rfl, hf, hrc⟩ | ⟨rfl, hf, hrc⟩
  · obtain ⟨hj1, hp1, hlk, hk0, -, -⟩ := xCL_at hf
    obtain ⟨hst, hms⟩ := hk0 rfl
    obtain ⟨m1, m2, m3, m4, m5, m6, m7⟩ := xMt_at hj1
    obtain ⟨g1, g2, g3⟩ := xhd_at hj1 hp1
    have hgood : GoodIn xG0 (xhd j1 :: xG0) := fun w hw => by
      rcases List.mem_cons.mp hw with rfl | hw
      · exact ⟨g1, good_of_word (xG0_good _ g1)⟩
      · exact ⟨hw, good_of_word (xG0_good _ hw)⟩
    rw [if_pos hms] at m5
    have hini : (Cond.initialized (xmy j1).cls).before args s = true := by rw [m1]; exact hts _ m7
    have hRR : d1 + 1 ≤ R.frames ∧ 8 + (xml j1 + 11) + 47 * d1 ≤ R.locals := ⟨by rw [hF.1]; exact Nat.le_refl _, by have := hF.2; omega⟩
    by_cases hh : xmh j1 = []
    · exact vx_runS (bytes := xmc j1) (maxL := xml j1) (ret := xmr j1) hfix hM ⟨callB_of (xmn j1) hts hgood (by rw [g2 hh]) rfl rfl hini (hts _ hlk) ⟨m4.1, m4.2, m5⟩ hRR, hts _ hst⟩ ⟨xPc_blind, hpre⟩ rfl hlen hR.2.2.2.1.1 hstk hroom hd hf2
    · have hcw : Cond.codeWith (xmy j1) (xmc j1) (xml j1) (xmr j1) (xmh j1) ∈ xhd j1 :: xG0 := by rw [g3 hh]; exact List.mem_cons_self
      exact vx_runSX (bytes := xmc j1) (maxL := xml j1) (ret := xmr j1) (hh := xmh j1) hfix hM ⟨⟨rfl, rfl, hRR.1, hRR.2, pay_in hts hgood, hcw⟩, hts _ (hgood _ hcw).1, hini, m4, fun sig q => by rw [q] at m5; exact (Option.some.inj m5).symm, hts _ hlk, hts _ hst⟩ ⟨xPc_blind, hpre⟩ rfl hlen hR.2.2.2.1.1 hstk hroom hd hf2
  · obtain ⟨hj1, hp1, hlk, -, hk1, -⟩ := xCL_at hf
    obtain ⟨hin, hse, hms⟩ := hk1 rfl
    obtain ⟨m1, m2, m3, m4, m5, m6, m7⟩ := xMt_at hj1
    obtain ⟨g1, g2, g3⟩ := xhd_at hj1 hp1
    obtain ⟨o8, hh⟩ := xMo_at hj1 hms
    obtain ⟨a, T2, eT, hcell⟩ := xrcv_at hR hG (by omega) hrc
    have hn1 : 1 ≤ xmn j1 := m6.resolve_left (by rw [hms]; decide)
    obtain ⟨et, ed⟩ := xtake hn1 eT
    have hgood : GoodIn xG0 (xhd j1 :: xG0) := fun w hw => by
      rcases List.mem_cons.mp hw with rfl | hw
      · exact ⟨g1, good_of_word (xG0_good _ g1)⟩
      · exact ⟨hw, good_of_word (xG0_good _ hw)⟩
    rw [if_neg (by rw [hms]; decide)] at m5
    have hini : (Cond.initialized (xmy j1).cls).before args s = true := by rw [m1]; exact hts _ m7
    have hRR : d1 + 1 ≤ R.frames ∧ 8 + (xml j1 + 11) + 47 * d1 ≤ R.locals := ⟨by rw [hF.1]; exact Nat.le_refl _, by have := hF.2; omega⟩
    rw [et] at hM hpre hstk hlen ⊢
    have hstk2 : S.map (xtr base b) = (((S.take (xmn j1 - 1)).reverse).map (xtr base b)).reverse ++ .ref (base + a) :: (S.drop (xmn j1)).map (xtr base b) := by
      rw [hstk, List.map_cons, List.reverse_cons, List.append_assoc]
      rfl
    have hlen2 : (((S.take (xmn j1 - 1)).reverse).map (xtr base b)).length = xmn j1 - 1 := by
      rw [List.map_cons, List.length_cons] at hlen
      omega
    exact vx_runV (C := xC (xmo j1)) (bytes := xmc j1) (maxL := xml j1) (ret := xmr j1) hfix hM ⟨callB_of (xmn j1 - 1) hts hgood (by rw [g2 hh]) rfl rfl hini (hts _ hlk) ⟨m4.1, m4.2, m5⟩ hRR, hts _ hin, hts _ hse⟩ ⟨xPc_blind, hcell, hpre⟩ rfl hlen2 hR.2.2.2.1.1 hstk2 hroom hd hf2
  · obtain ⟨hj1, hp1, hlk, -, -, hk1⟩ := xCL_at hf
    obtain ⟨hin, hms, hnmI, hrt, -⟩ := hk1 rfl
    obtain ⟨m1, m2, m3, m4, m5, m6, m7⟩ := xMt_at hj1
    obtain ⟨g1, g2, g3⟩ := xhd_at hj1 hp1
    obtain ⟨o8, hh⟩ := xMo_at hj1 hms
    obtain ⟨a, T2, eT, hcell⟩ := xrcv_at hR hG (by omega) hrc
    have hn1 : 1 ≤ xmn j1 := m6.resolve_left (by rw [hms]; decide)
    obtain ⟨et, ed⟩ := xtake hn1 eT
    have hgood : GoodIn xG0 (xhd j1 :: xG0) := fun w hw => by
      rcases List.mem_cons.mp hw with rfl | hw
      · exact ⟨g1, good_of_word (xG0_good _ g1)⟩
      · exact ⟨hw, good_of_word (xG0_good _ hw)⟩
    rw [if_neg (by rw [hms]; decide)] at m5
    have hini : (Cond.initialized (xmy j1).cls).before args s = true := by rw [m1]; exact hts _ m7
    have hRR : d1 + 1 ≤ R.frames ∧ 8 + (xml j1 + 11) + 47 * d1 ≤ R.locals := ⟨by rw [hF.1]; exact Nat.le_refl _, by have := hF.2; omega⟩
    rw [et] at hM hpre hstk hlen ⊢
    have hstk2 : S.map (xtr base b) = (((S.take (xmn j1 - 1)).reverse).map (xtr base b)).reverse ++ .ref (base + a) :: (S.drop (xmn j1)).map (xtr base b) := by
      rw [hstk, List.map_cons, List.reverse_cons, List.append_assoc]
      rfl
    have hlen2 : (((S.take (xmn j1 - 1)).reverse).map (xtr base b)).length = xmn j1 - 1 := by
      rw [List.map_cons, List.length_cons] at hlen
      omega
    exact ux_runI (bytes := xmc j1) (maxL := xml j1) hfix hM ⟨callB_of (xmn j1 - 1) hts hgood (by rw [g2 hh, hrt]) rfl rfl hini (hts _ hlk) ⟨m4.1, m4.2, m5⟩ hRR, hnmI, hts _ hin⟩ ⟨xPc_blind, hpre⟩ rfl hlen2 hR.2.2.2.1.1 hstk2 hroom hd hf2
/-- behind a call -/
theorem xs_after {st0 rest : List Value} {a0 : Array Value} {o1 : xO} {h1 : xH} (hR : xRel D dA base b n0 u0 j s h L H locs ls) (hle : xle h h1) (hr : vx_Run p l e R s m args below meth c H locs (h.2.1.1 - n0) (h.2.1.2 - u0) (h1.2.1.1 - h.2.1.1) (h1.2.1.2 - h.2.1.2) (F0 m pc ls st0) rest (xQ D dA base b o1 h1 a0) (xX D dA base o1 h1) (xAA base))
    (kv : ∀ v, o1 = .inl v → ∀ H1 locs1, xRel D dA base b n0 u0 j s h1 L H1 locs1 ls → W p l e R s m args below meth c H1 locs1 (h1.2.1.1 - n0) (h1.2.1.2 - u0) Q (F0 m (pc + 3) ls ((v.map (xtr base b)).toList ++ rest)))
    (kx : ∀ e0, o1 = .inr e0 → 8 ≤ e0 → e0 < 11 → ∀ H1 locs1 q ce, xRel D dA base b n0 u0 j s h1 L H1 locs1 ls → H1[q]? = some ce → ce.vm = .none → s.vm.findClass (xC e0) = some ce.cls → H1.size = base + h1.2.1.1 → vx_W p l e R s m args below meth c H1 locs1 (h1.2.1.1 - n0) (h1.2.1.2 - u0) Q (F0 m pc ls rest) q) :
    W p l e R s m args below meth c H locs (h.2.1.1 - n0) (h.2.1.2 - u0) Q (F0 m pc ls st0) := by
  have hn0 := hR.2.2.2.2.1
  have hu0 := hR.2.2.2.2.2.1
  obtain ⟨hle1, hle2⟩ := hle
  have e1 : h.2.1.1 - n0 + (h1.2.1.1 - h.2.1.1) = h1.2.1.1 - n0 := by omega
  have e2 : h.2.1.2 - u0 + (h1.2.1.2 - h.2.1.2) = h1.2.1.2 - u0 := by omega
  intro T hT X
  rcases hr T hT X with ⟨v, st₀, t, T', L1, h0, X', hL, q1, q2, ⟨⟨v1, ho, hv⟩, hI, hFr⟩, st⟩ | ⟨q, st₀, t, T', L1, E, ce, h0, X', hL, q1, q2, ⟨⟨e0, ho, h8, h11, rfl⟩, hI, hFr⟩, hce, hcv, hcl, st⟩
  · cases hv
    obtain ⟨k1, k2, k3⟩ := vx_keep (A1 := xAA base) h0 q1 hR.2.1 (fun _ _ z => z) (fun _ z => z) hL hFr
    rw [e1, e2] at X'
    obtain ⟨t2, a1, b1⟩ := kv v1 ho T'.heap (locs ++ L1) ⟨by rw [q1]; exact hI.2.1, k3, hR.2.2.1, hR.2.2.2.1, by omega, by omega, hI.2.2⟩ T' rfl X'
    exact ⟨t2, st t2 a1, b1⟩
  · obtain ⟨k1, k2, k3⟩ := vx_keep (A1 := xAA base) h0 q1 hR.2.1 (fun _ _ z => z) (fun _ z => z) hL hFr
    rw [e1, e2] at X'
    obtain ⟨t2, a1, b1⟩ := kx e0 ho h8 h11 T'.heap (locs ++ L1) q ce ⟨by rw [q1]; exact hI.2.1, k3, hR.2.2.1, hR.2.2.2.1, by omega, by omega, hI.2.2⟩ (by rw [q1]; exact hce) hcv hcl (by rw [q1]; exact hI.1) T' rfl X'
    exact ⟨t2, st.trans a1, b1⟩
end XST8
