/-! how the pure state stands for the machine's -/
def xtr (base b : Nat) : Value → Value
  | .ref k => .ref (base + k)
  | .retAddr _ => .ref b
  | v => v
def xfld (base : Nat) (h : xH) (a c : Nat) : List Value := (List.range (xN c)).map (fun k => if xfk c k = 2 then va_rf ((h.2.2.2.2 a k).map (fun q => base + q)) else .int (h.2.2.1 a k))
def xcell (dA : Nat → ClassId) (base : Nat) (h : xH) (a : Nat) : va_E :=
  if (h.1 a).1 = 32 then .inl (dA 0, (h.1 a).2, .inl (h.2.2.1 a))
  else if (h.1 a).1 = 33 then .inl (dA 1, (h.1 a).2, .inl (h.2.2.1 a))
  else if (h.1 a).1 = 34 then .inl (dA 2, (h.1 a).2, .inr (.inl (h.2.2.2.1 a)))
  else if 40 ≤ (h.1 a).1 then .inl (dA ((h.1 a).1 - 37), (h.1 a).2, .inr (.inr (.inr (.inr (fun j => (h.2.2.2.2 a j).map (fun q => base + q))))))
  else .inr ((h.1 a).1 - 1, xfld base h a ((h.1 a).1 - 1))
def xws (dA : Nat → ClassId) (base : Nat) (h : xH) : va_W := (List.range h.2.1.1).map (fun a => (base + a, xcell dA base h a))
def xcl : List vw_C := (List.range 11).map (fun c => (xC c, xT c, xN c))
def xAt : Nat → FieldType
  | 0 => .int
  | 1 => .boolean
  | 2 => .int
  | n + 3 => .object (xC n)
def xty (dA : Nat → ClassId) : List (ClassId × FieldType) := (List.range 7).map (fun t => (dA t, xAt t))
def xAA (base : Nat) : Nat → Prop := fun q => base ≤ q
theorem xws_get {dA : Nat → ClassId} {base : Nat} {h : xH} {a : Nat} (ha : a < h.2.1.1) : (xws dA base h)[a]? = some (base + a, xcell dA base h a) := by
  simp [xws, ha]
theorem xws_len {dA : Nat → ClassId} {base : Nat} {h : xH} : (xws dA base h).length = h.2.1.1 := by simp [xws]
theorem xcl_get {c : Nat} (hc : c < 11) : xcl[c]? = some (xC c, xT c, xN c) := by simp [xcl, hc]
theorem xty_get {dA : Nat → ClassId} {t : Nat} (ht : t < 7) : (xty dA)[t]? = some (dA t, xAt t) := by simp [xty, ht]
theorem xws_set {dA : Nat → ClassId} {base : Nat} {h h' : xH} {a : Nat} (hn : h'.2.1.1 = h.2.1.1) (ho : ∀ q, q ≠ a → xcell dA base h' q = xcell dA base h q) : (xws dA base h).set a (base + a, xcell dA base h' a) = xws dA base h' := by
  refine List.ext_getElem? fun i => ?_
  rw [List.getElem?_set]
  by_cases hi : i < h.2.1.1
  · by_cases e : a = i
    · subst e
      rw [if_pos rfl, if_pos (by rw [xws_len]; exact hi), xws_get (by rw [hn]; exact hi)]
    · rw [if_neg e, xws_get hi, xws_get (by rw [hn]; exact hi), ho i (fun q => e q.symm)]
  · have h1 : (xws dA base h)[i]? = none := by rw [List.getElem?_eq_none_iff, xws_len]; omega
    have h2 : (xws dA base h')[i]? = none := by rw [List.getElem?_eq_none_iff, xws_len]; omega
    by_cases e : a = i
    · subst e
      rw [if_pos rfl, if_neg (by rw [xws_len]; exact hi), h2]
    · rw [if_neg e, h1, h2]
theorem xws_push {dA : Nat → ClassId} {base : Nat} {h h' : xH} (hn : h'.2.1.1 = h.2.1.1 + 1) (ho : ∀ q, q < h.2.1.1 → xcell dA base h' q = xcell dA base h q) : xws dA base h ++ [(base + h.2.1.1, xcell dA base h' h.2.1.1)] = xws dA base h' := by
  refine List.ext_getElem? fun i => ?_
  by_cases hi : i < h.2.1.1
  · rw [List.getElem?_append_left (by rw [xws_len]; exact hi), xws_get hi, xws_get (by omega), ho i hi]
  · rw [List.getElem?_append_right (by rw [xws_len]; omega), xws_len]
    by_cases e : i = h.2.1.1
    · subst e
      rw [Nat.sub_self, xws_get (by omega)]
      rfl
    · have h2 : (xws dA base h')[i]? = none := by rw [List.getElem?_eq_none_iff, xws_len]; omega
      rw [h2, List.getElem?_eq_none_iff]
      show 1 ≤ _
      omega
theorem xws_D {dA : Nat → ClassId} {base : Nat} {h : xH} : va_D (xAA base) (xws dA base h) := by
  have key : ∀ (k : Nat) (q : Nat × va_E), (xws dA base h)[k]? = some q → q.1 = base + k := by
    intro k q hk
    have hl : k < h.2.1.1 := by
      have := (List.getElem?_eq_some_iff.mp hk).1
      rwa [xws_len] at this
    rw [xws_get hl] at hk
    cases hk
    rfl
  refine ⟨fun i j x y hi hj hxy => ?_, fun k q hk => ?_⟩
  · have h1 := key i x hi
    have h2 := key j y hj
    omega
  · show base ≤ q.1
    rw [key k q hk]
    omega
/-- cells that one write leaves -/
theorem xcell_I {dA : Nat → ClassId} {base : Nat} {h : xH} {a k : Nat} {v : Int32} {q : Nat} (hq : q ≠ a) : xcell dA base (h.1, h.2.1, xup2 h.2.2.1 a k v, h.2.2.2.1, h.2.2.2.2) q = xcell dA base h q := by
  have e : xup2 h.2.2.1 a k v q = h.2.2.1 q := by funext j; simp [xup2, hq]
  simp only [xcell, xfld, e]
theorem xcell_J {dA : Nat → ClassId} {base : Nat} {h : xH} {a k : Nat} {v : Int64} {q : Nat} (hq : q ≠ a) : xcell dA base (h.1, h.2.1, h.2.2.1, xup2 h.2.2.2.1 a k v, h.2.2.2.2) q = xcell dA base h q := by
  have e : xup2 h.2.2.2.1 a k v q = h.2.2.2.1 q := by funext j; simp [xup2, hq]
  simp only [xcell, xfld, e]
theorem xcell_R {dA : Nat → ClassId} {base : Nat} {h : xH} {a k : Nat} {v : Option Nat} {q : Nat} (hq : q ≠ a) : xcell dA base (h.1, h.2.1, h.2.2.1, h.2.2.2.1, xup2 h.2.2.2.2 a k v) q = xcell dA base h q := by
  have e : xup2 h.2.2.2.2 a k v q = h.2.2.2.2 q := by funext j; simp [xup2, hq]
  simp only [xcell, xfld, e]
theorem xcell_N {dA : Nat → ClassId} {base : Nat} {h : xH} {sh : Nat × Nat} {n q : Nat} (hq : q < h.2.1.1) : xcell dA base (xnew h sh n) q = xcell dA base h q := by
  have hne : q ≠ h.2.1.1 := Nat.ne_of_lt hq
  simp only [xcell, xfld, xnew, va_up, if_neg hne]
/-! the locals -/
def xlst (base b : Nat) (L : xL) : List (Nat × Value) := (List.range L.length).filterMap fun k => match L[k]? with
  | some (some v) => if xcat1 v = true then some (k, xtr base b v) else none
  | _ => none
theorem xlst_mem {base b : Nat} {L : xL} {q : Nat × Value} : q ∈ xlst base b L ↔ ∃ v, L[q.1]? = some (some v) ∧ xcat1 v = true ∧ q.2 = xtr base b v := by
  unfold xlst
  rw [List.mem_filterMap]
  constructor
  · rintro ⟨k, -, h⟩
    split at h
    · next v hv =>
      split at h
      · next hc => cases h; exact ⟨v, hv, hc, rfl⟩
      · cases h
    · cases h
  · rintro ⟨v, hv, hc, e⟩
    have hk : q.1 < L.length := (List.getElem?_eq_some_iff.mp hv).1
    refine ⟨q.1, List.mem_range.mpr hk, ?_⟩
    rw [hv]
    simp only [hc, if_true]
    rw [← e]
theorem xtr_cat {base b : Nat} {v : Value} (h : xcat1 v = true) : (xtr base b v).category = 1 := by
  cases v <;> first | rfl | cases h
theorem xlst_set {base b : Nat} {L : xL} {ls : Array Slot} {n i : Nat} {v : Value} (hc : xcat1 v = true)
    (hl : lv_has ls n ((i, xtr base b v) :: (xlst base b L).filter (fun q => !(q.1 == i) && !(q.1 + 1 == i && q.2.category == 2)))) : lv_has ls n (xlst base b (L.set i (some v))) := by
  refine ⟨hl.1, hl.2.1, fun q hq => hl.2.2 q ?_⟩
  obtain ⟨w, hw, hcw, e⟩ := xlst_mem.mp hq
  rw [List.getElem?_set] at hw
  by_cases hi : i = q.1
  · rw [if_pos hi] at hw
    split at hw
    · cases hw
      have : q = (i, xtr base b v) := by
        obtain ⟨q1, q2⟩ := q
        simp only at hi e
        subst hi; subst e
        rfl
      rw [this]
      exact List.mem_cons_self
    · cases hw
  · rw [if_neg hi] at hw
    refine List.mem_cons_of_mem _ (List.mem_filter.mpr ⟨xlst_mem.mpr ⟨w, hw, hcw, e⟩, ?_⟩)
    rw [e, xtr_cat hcw]
    have : ¬ q.1 = i := fun z => hi z.symm
    simp [this]
theorem xlst_none {base b : Nat} {L : xL} {ls : Array Slot} {n i : Nat} {v : Value} (hl : lv_has ls n ((i, v) :: (xlst base b L).filter (fun q => !(q.1 == i) && !(q.1 + 1 == i && q.2.category == 2)))) : lv_has ls n (xlst base b (L.set i none)) := by
  refine ⟨hl.1, hl.2.1, fun q hq => hl.2.2 q ?_⟩
  obtain ⟨w, hw, hcw, e⟩ := xlst_mem.mp hq
  rw [List.getElem?_set] at hw
  by_cases hi : i = q.1
  · rw [if_pos hi] at hw
    split at hw <;> cases hw
  · rw [if_neg hi] at hw
    refine List.mem_cons_of_mem _ (List.mem_filter.mpr ⟨xlst_mem.mpr ⟨w, hw, hcw, e⟩, ?_⟩)
    rw [e, xtr_cat hcw]
    have : ¬ q.1 = i := fun z => hi z.symm
    simp [this]
/-- what stays all through: the tables, the script, the statics, the texts -/
def xG (D : va_G) (dA : Nat → ClassId) (base b : Nat) (sc : xS) (U : State) : Prop :=
  va_K D xcl (xty dA) U ∧ va_X b sc.1 sc.2 U U.heap ∧ b < base ∧ base ≤ U.heap.size ∧
  vx_Zq Bundle.tN "UNASSIGNED_STACK" Bundle.steD (xAA base) U U.heap ∧ vx_Zq Bundle.tN "SUPPRESSED_SENTINEL" Bundle.listD (xAA base) U U.heap ∧
  (∀ w ∈ xNW, va_Nw w U) ∧ (∀ e f, 8 ≤ e → e < 11 → 8 ≤ f → f < 11 → e ≠ f → va_Nc (xC e) (xC f) U) ∧ (∀ t, t < 4 → va_AO (xC t) U) ∧ ∀ q ∈ xSL, ∃ sa, vk_R (xC q.1.1) q.1.2 q.2 sa U
theorem xNw_warm {w : Cond} {s U : State} (hw : xnwW w = true) (hW : s.WarmedH U.vm) (h : va_Nw w s) : va_Nw w U := by
  cases w with
  | fieldLinkNest a i b n d h9 => exact va_Nw.warmF hW h
  | castable a b => exact va_Nw.warmC hW h
  | declares x => exact va_Nw.warmD hW h
  | _ => cases hw
theorem xG_at {D : va_G} {dA : Nat → ClassId} {base b : Nat} {sc : xS} {s U : State} {H : Heap} {locs : List Loc} (h : xG D dA base b sc s) (hS : va_S (xAA base) s.heap H locs) (hH : U.heap = H) (hW : s.WarmedH U.vm) : xG D dA base b sc U := by
  obtain ⟨h1, h2, h3, h4, h5, h6, h7, h8, h9, h10⟩ := h
  have hb : ¬ xAA base b := Nat.not_le.mpr h3
  have hbs : b < s.heap.size := by omega
  refine ⟨va_K.moved hW.alike h1, ?_, h3, ?_, ?_, ?_, fun w hw => xNw_warm (List.mem_filter.mp hw).2 hW (h7 w hw), fun e f a1 a2 a3 a4 a5 => va_Nc.moved hW.alike (h8 e f a1 a2 a3 a4 a5), fun t ht => va_AO.moved hW.alike (h9 t ht), fun q hq => ?_⟩
  · rw [hH]
    exact va_X.moved hW.alike (va_X.kept h2 (hS.2.1 b hbs hb))
  · rw [hH]
    exact Nat.le_trans h4 hS.1
  · rw [hH]
    exact vx_Zq.moved hW.alike (h5.kept hS.2.1)
  · rw [hH]
    exact vx_Zq.moved hW.alike (h6.kept hS.2.1)
  · obtain ⟨sa, hsa⟩ := h10 q hq
    exact ⟨sa, vk_R.warm hW hsa⟩
/-- the heap -/
def xI (D : va_G) (dA : Nat → ClassId) (base : Nat) (h : xH) (U : State) : Prop := U.heap.size = base + h.2.1.1 ∧ va_P D xcl (xws dA base h) U.heap ∧ ∀ a, h.2.1.1 ≤ a → (h.1 a).1 = 0
/-- a method's run: where it is, what is known -/
def xCtx (p : Program) (D : va_G) (dA : Nat → ClassId) (base b : Nat) (sc : xS) (j : Nat) (s : State) (m : MethodId) (args : Array Value) (meth : Method) (c : Code) : Prop :=
  p.tables.exec = Jvm.exec ∧ c.code = xmc j ∧ meth.sig.returnType = xmr j ∧ c.maxLocals = xml j ∧ s.vm.findClass (xC (xmo j)) = some m.cls ∧ (∀ w ∈ xG0, w.before args s = true) ∧ meth.locks = false ∧ meth.name = (xmy j).name ∧ c.exceptionTable.toList.map (fun h => (h.startPc, h.endPc, h.handlerPc, h.catchType)) = xmh j ∧ xG D dA base b sc s
def xRel (D : va_G) (dA : Nat → ClassId) (base b n0 u0 j : Nat) (s : State) (h : xH) (L : xL) (H : Heap) (locs : List Loc) (ls : Array Slot) : Prop :=
  va_P D xcl (xws dA base h) H ∧ va_S (xAA base) s.heap H locs ∧ L.length = xml j ∧ lv_has ls (xml j) (xlst base b L) ∧ n0 ≤ h.2.1.1 ∧ u0 ≤ h.2.1.2 ∧ ∀ a, h.2.1.1 ≤ a → (h.1 a).1 = 0
/-- the goal of a frame at pc -/
def xW (p : Program) (l : Launch) (e : Env) (R : Room) (s : State) (m : MethodId) (args : Array Value) (below : List Frame) (meth : Method) (c : Code) (Q : State → Prop) (D : va_G) (dA : Nat → ClassId) (base b n0 u0 j pc : Nat) (L : xL) (S : List Value) (h : xH) : Prop :=
  ∀ (H : Heap) (locs : List Loc) (ls : Array Slot), xRel D dA base b n0 u0 j s h L H locs ls → W p l e R s m args below meth c H locs (h.2.1.1 - n0) (h.2.1.2 - u0) Q (F0 m pc ls (S.map (xtr base b)))
/-- how large the heap is follows from the cells that are counted -/
theorem xsz {p : Program} {l : Launch} {e : Env} {R : Room} {s : State} {m : MethodId} {args : Array Value} {below : List Frame} {meth : Method} {c : Code} {Q : State → Prop} {D : va_G} {dA : Nat → ClassId} {base b n0 u0 j slots : Nat} {h : xH} {L : xL} {H : Heap} {locs : List Loc} {ls : Array Slot} {g : JFrame} (h0 : s.heap.size = base + n0) (hR : xRel D dA base b n0 u0 j s h L H locs ls)
    (k : H.size = base + h.2.1.1 → W p l e R s m args below meth c H locs (h.2.1.1 - n0) slots Q g) : W p l e R s m args below meth c H locs (h.2.1.1 - n0) slots Q g := by
  intro T hT X
  have h1 : s.heap.size ≤ T.heap.size := X.same.2.1
  have h2 : T.heap.size ≤ s.heap.size + (h.2.1.1 - n0) := X.same.2.2.1
  have h3 : n0 ≤ h.2.1.1 := hR.2.2.2.2.1
  have h4 : base + h.2.1.1 ≤ H.size := by
    by_cases e : n0 = h.2.1.1
    · rw [← hT]; omega
    · have h5 := (hR.1 (h.2.1.1 - 1) _ (xws_get (by omega))).lt
      have h6 : base + (h.2.1.1 - 1) < H.size := h5
      omega
  exact k (by rw [hT] at h1 h2; omega) T hT X
