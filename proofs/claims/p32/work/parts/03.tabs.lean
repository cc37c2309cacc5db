/-! the tables are right: links stand among the words, methods are as the words have them -/
theorem xlk_mem {β : Type} {v : β} : ∀ {l : List ((Nat × Nat) × β)} {o i : Nat}, xlk l o i = some v → ((o, i), v) ∈ l
  | [], _, _, h => by cases h
  | (k, w) :: r, o, i, h => by
    simp only [xlk] at h
    split at h
    · next e =>
      cases h
      obtain ⟨a, b⟩ := k
      obtain ⟨e1, e2⟩ := e
      simp only at e1 e2
      subst e1; subst e2
      exact List.mem_cons_self
    · exact List.mem_cons_of_mem _ (xlk_mem h)
def xG0 : List Cond := lw_tbl.filter goodWord
theorem xG0_of {w : Cond} {i : Nat} (h : lw_tbl[i]? = some w) (g : goodWord w = true) : w ∈ xG0 := List.mem_filter.mpr ⟨List.mem_of_getElem? h, g⟩
def xlkF (o i : Nat) (e : Nat × Nat × Bool × Nat) : Cond := if e.2.2.1 = true then .fieldLinkNest (xC o) i (xT e.1 e.2.1).1 (xT e.1 e.2.1).2.1 (xT e.1 e.2.1).2.2.1 "Saddletree" else .fieldLink (xC o) i (xT e.1 e.2.1).1 (xT e.1 e.2.1).2.1 (xT e.1 e.2.1).2.2.1
def xwAt (i : Nat) (w : Cond) : Bool := decide (lw_tbl[i]? = some w)
set_option maxRecDepth 100000 in
theorem xFL_ok : xFL.all (fun e => decide (e.2.1 < 8 ∧ e.2.2.1 < xN e.2.1) && xwAt e.2.2.2.2 (xlkF e.1.1 e.1.2 e.2)) = true := by decide +kernel
set_option maxRecDepth 100000 in
theorem xFL_good : xFL.all (fun e => e.2.2.2.1 || goodWord (xlkF e.1.1 e.1.2 e.2)) = true := by decide +kernel
set_option maxRecDepth 100000 in
theorem xY_ok : (List.range 8).all (fun c => (List.range (xN c)).all fun k => decide (parseFieldDescriptor (xT c k).2.2.1 = some (xY c k)) && (List.range (xN c)).all fun k2 => decide (k = k2 ∨ (xT c k).2.1 ≠ (xT c k2).2.1)) = true := by decide +kernel
set_option maxRecDepth 100000 in
theorem xY_own : (List.range 8).all (fun c => (List.range (xN c)).all fun k => decide ((xT c k).1 = xC c)) = true := by decide +kernel
set_option maxRecDepth 100000 in
theorem xUW_ok : (List.range 8).all (fun c => (u_ws (xC c) (xT c) (xN c)).all fun w => decide (w ∈ lw_tbl) && goodWord w) = true := by decide +kernel
/-- a called method, by its place in the table of calls -/
def xCLt (e : (Nat × Nat) × (Nat × Nat × Nat × Nat × Nat)) : Bool :=
  xwAt e.2.2.2.1 (.methodLink (xC e.1.1) e.1.2 (xmy e.2.1)) &&
  (match e.2.2.1 with
    | 0 => xwAt e.2.2.2.2.1 (.static (xmy e.2.1)) && xms e.2.1
    | 1 => xwAt e.2.2.2.2.1 (.instanceMethod (xmy e.2.1)) && xwAt e.2.2.2.2.2 (.selects (xC (xmo e.2.1)) (xmy e.2.1) (xmy e.2.1)) && !xms e.2.1
    | 2 => xwAt e.2.2.2.2.1 (.instanceMethod (xmy e.2.1)) && !xms e.2.1 && decide ((xmy e.2.1).name = "<init>" ∧ xmr e.2.1 = none ∧ xmh e.2.1 = [])
    | _ => false)
set_option maxRecDepth 100000 in
theorem xCL_ok : xCL.all xCLt = true := by decide +kernel
/-- a method's head, as it must be -/
def xhdt (j : Nat) : Bool := (match xhd j with
    | .code _ _ m _ => decide (m = xml j)
    | .codeWith _ _ m _ h => decide (m = xml j ∧ h ≠ [])
    | _ => false) && goodWord (xhd j)
set_option maxRecDepth 100000 in
theorem xhd_ok : (List.range xMs.length).all xhdt = true := by decide +kernel
/-- of a called method: its class, its arguments, its locals -/
def xMt (j : Nat) : Bool :=
  decide ((xmy j).cls = xC (xmo j)) && plainFor (xmy j) && decide (xml j ≤ 28) && decide ((xmy j).cls ≠ "java/lang/invoke/MethodHandle" ∧ (xmy j).cls ≠ "java/lang/invoke/VarHandle") &&
  decide ((parseMethodDescriptor (xmy j).desc).map (fun q => q.parameters.length) = some (if xms j = true then xmn j else xmn j - 1)) && decide (xms j = true ∨ 1 ≤ xmn j) && decide (.initialized (xC (xmo j)) ∈ lw_tbl)
set_option maxRecDepth 100000 in
theorem xMt_ok : (List.range xMs.length).all xMt = true := by decide +kernel
set_option maxRecDepth 100000 in
theorem xCL_lt : xCL.all (fun e => decide (e.2.1 < xMs.length ∧ (xMs.getD e.2.1 (100000, 0, 0, 0, false)).1 < lw_tbl.length)) = true := by decide +kernel
set_option maxRecDepth 100000 in
theorem xOL_ok : xOL.all (fun e => xwAt e.2 (.methodLink (xC e.1.1) e.1.2 Lib.objectInit) && goodWord (.methodLink (xC e.1.1) e.1.2 Lib.objectInit)) = true := by decide +kernel
set_option maxRecDepth 100000 in
theorem xOW_ok : (decide (.instanceMethod Lib.objectInit ∈ lw_tbl) && decide (.code Lib.objectInit ⟨#[0xb1]⟩ 1 none ∈ lw_tbl) && goodWord (.instanceMethod Lib.objectInit) && goodWord (.code Lib.objectInit ⟨#[0xb1]⟩ 1 none)) = true := by decide +kernel
set_option maxRecDepth 100000 in
theorem xKL_ok : xKL.all (fun e => xwAt e.2.2 (.classLink (xC e.1.1) e.1.2 (xC e.2.1)) && goodWord (.classLink (xC e.1.1) e.1.2 (xC e.2.1))) = true := by decide +kernel
set_option maxRecDepth 100000 in
theorem xNW_ok : (List.range 8).all (fun c => decide (.instantiable (xC c) (xN c) ∈ lw_tbl) && decide (.initialized (xC c) ∈ lw_tbl) && goodWord (.instantiable (xC c) (xN c)) && goodWord (.initialized (xC c))) = true := by decide +kernel
set_option maxRecDepth 100000 in
theorem xAW_ok : (decide (.arrayClass .int ∈ lw_tbl) && decide (.arrayClass .boolean ∈ lw_tbl) && decide (.arrayClass .int ∈ lw_tbl)) = true := by decide +kernel
set_option maxRecDepth 100000 in
theorem xIC_ok : (xIC.all (fun e => xwAt e.2.2 (.constant (xC e.1.1) e.1.2 e.2.1)) && xJC.all (fun e => xwAt e.2.2 (.constantLong (xC e.1.1) e.1.2 e.2.1))) = true := by decide +kernel
/-- words that no list carries -/
def xnwW : Cond → Bool
  | .fieldLinkNest _ _ _ _ _ _ => true
  | .castable _ _ => true
  | .declares _ => true
  | _ => false
def xNW : List Cond := lw_tbl.filter xnwW
/-- the throwing of exceptions -/
def xEx : List String := ["java/lang/RuntimeException", "java/lang/Exception"]
set_option maxRecDepth 100000 in
theorem xIL_ok : xIL.all (fun e => decide (8 ≤ e.2 ∧ e.2 < 11) && (vx_atS (xC e.1.1) e.1.2 (xC e.2) xEx).all (fun w => vx_ot w && ((decide (w ∈ lw_tbl) && goodWord w) || decide (w ∈ xNW)))) = true := by decide +kernel
set_option maxRecDepth 100000 in
theorem xEW_ok : (List.range 11).all (fun c => decide (c < 8) || (decide (.initialized (xC c) ∈ lw_tbl) && goodWord (.initialized (xC c)) && Bundle.fit (xC c) && decide (.castable (xC c) (xC c) ∈ lw_tbl))) = true := by decide +kernel
set_option maxRecDepth 100000 in
theorem xfk_ok : (List.range 8).all (fun c => (List.range (xN c)).all fun k => match xY c k with
  | .int => true
  | .boolean => true
  | .object _ => true
  | .array _ => true
  | _ => false) = true := by decide +kernel
