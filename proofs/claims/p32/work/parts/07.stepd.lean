section XST4
variable {p : Program} {l : Launch} {e : Env} {R : Room} {s : State} {m : MethodId} {args : Array Value} {below : List Frame} {meth : Method} {c : Code} {Q : State → Prop} {D : va_G} {dA : Nat → ClassId} {base b n0 u0 j d pc pc' : Nat} {L L' : xL} {S S' : List Value} {h h' : xH} {sc : xS}
variable {i0 : Nat}
theorem xthr_no {e0 : Nat} (hA : xthr d i0 pc e0 S h = some (.inl (pc', L', S', h'))) : False := by
  unfold xthr at hA
  split at hA
  · split at hA
    · split at hA
      · split at hA <;> cases hA
      · cases hA
    · split at hA
      · split at hA <;> cases hA
      · cases hA
    · cases hA
  · cases hA
theorem xKL_at {o i0 c0 q0 : Nat} (h0 : xlk xKL o i0 = some (c0, q0)) : Cond.classLink (xC o) i0 (xC c0) ∈ xG0 := by
  have h1 := List.all_eq_true.mp xKL_ok _ (xlk_mem h0)
  rw [Bool.and_eq_true] at h1
  exact xG0_of (of_decide_eq_true h1.1) h1.2
theorem xNW_c {c0 : Nat} (hc : c0 < 8) : Cond.instantiable (xC c0) (xN c0) ∈ xG0 ∧ Cond.initialized (xC c0) ∈ xG0 := by
  have h1 := List.all_eq_true.mp xNW_ok c0 (List.mem_range.mpr hc)
  simp only [Bool.and_eq_true] at h1
  obtain ⟨⟨⟨a1, a2⟩, a3⟩, a4⟩ := h1
  exact ⟨List.mem_filter.mpr ⟨of_decide_eq_true a1, a3⟩, List.mem_filter.mpr ⟨of_decide_eq_true a2, a4⟩⟩
theorem xRel_new {H H1 : Heap} {locs : List Loc} {ls : Array Slot} (hR : xRel D dA base b n0 u0 j s h L H locs ls) {sh : Nat × Nat} {n : Nat} (hsz : H.size = base + h.2.1.1) (z1 : H1.size = H.size + 1) (o1 : ∀ q, q < H.size → H1[q]? = H[q]?) (hat : va_at D xcl (base + h.2.1.1, xcell dA base (xnew h sh n) h.2.1.1) H1) : xRel D dA base b n0 u0 j s (xnew h sh n) L H1 locs ls := by
  obtain ⟨r1, r2, r3, r4, r5, r6, r7⟩ := hR
  refine ⟨?_, ⟨Nat.le_trans r2.1 (by omega), fun x h1 h2 => (o1 x (Nat.lt_of_lt_of_le h1 r2.1)).trans (r2.2.1 x h1 h2), r2.2.2⟩, r3, r4, ?_, ?_, fun q hq => ?_⟩
  · rw [← xws_push (h := h) rfl (fun q hq => xcell_N hq)]
    refine (r1.kept fun k x hx => o1 x.1 ((r1 k x hx).lt)).app (fun k x hx => ?_)
    have hz : k < 1 := (List.getElem?_eq_some_iff.mp hx).1
    rw [show k = 0 by omega] at hx
    cases hx
    exact hat
  · show n0 ≤ h.2.1.1 + 1
    omega
  · show u0 ≤ h.2.1.2 + n
    omega
  · have hq2 : h.2.1.1 + 1 ≤ q := hq
    show (va_up h.1 h.2.1.1 sh q).1 = 0
    rw [va_up, if_neg (by omega)]
    exact r7 q (by omega)
theorem xs_new {idx : Nat} (C : xCtx p D dA base b sc j s m args meth c) (hs0 : s.heap.size = base + n0) (hres : h'.2.1.1 - n0 ≤ R.cells ∧ h'.2.1.2 - u0 ≤ R.slots) (hd : decode (xmc j) pc = .ok (.new idx, 3)) (hA : xact sc d j (.new idx) pc L S h = some (.inl (pc', L', S', h'))) (kk : xW p l e R s m args below meth c Q D dA base b n0 u0 j (pc') (L') (S') (h')) : xW p l e R s m args below meth c Q D dA base b n0 u0 j (pc) (L) (S) (h) := by
  obtain ⟨hx, hb, hr, hml, hown, hts, hlocks, hnm, htb, hG⟩ := C
  intro H locs ls hR
  simp only [xact] at hA
  split at hA
  · next c2 q0 hf =>
    split at hA
    · next hc =>
      obtain ⟨rfl, rfl, rfl, rfl⟩ := xgo_inj hA
      have hn0 := hR.2.2.2.2.1
      have hu0 := hR.2.2.2.2.2.1
      have hcl := xcl_get (c := c2) (by omega)
      have hKn := hG.1.1 c2 _ hcl
      have h8 : h.2.1.1 + 1 - n0 ≤ R.cells := hres.1
      have h9 : h.2.1.2 + xN c2 - u0 ≤ R.slots := hres.2
      refine xsz hs0 hR fun hsz => ?_
      refine W.newcK hx hb hown (hts _ (xKL_at hf)) (hts _ (xNW_c hc).1) (hts _ (xNW_c hc).2) rfl hd (by omega) (by omega) hKn.2.1 hsz fun H1 kC hkC e1 z1 o1 => ?_
      have hT : (xnew h (1 + c2, 0) (xN c2)).1 h.2.1.1 = (1 + c2, 0) := by simp [xnew, va_up]
      have hat : va_at D xcl (base + h.2.1.1, xcell dA base (xnew h (1 + c2, 0) (xN c2)) h.2.1.1) H1 := by
        rw [xcell_obj (h := xnew h (1 + c2, 0) (xN c2)) (c := c2) (by omega) hT]
        refine ⟨_, hcl, (u_born (xY c2) hts (xUW_at hc) hKn hkC e1 (xY_at hc).1).to fun q hq => ?_⟩
        have h1 := xfld_get (base := base) (h := xnew h (1 + c2, 0) (xN c2)) (a := h.2.1.1) hq
        unfold vp_V
        rw [List.getD_eq_getElem?_getD, h1]
        obtain ⟨t0, t1, t2⟩ := xfk_ty hc hq
        by_cases k2 : xfk c2 q = 2
        · rw [if_pos k2]
          rcases t2 k2 with ⟨n, e⟩ | ⟨n, e⟩ <;> rw [e] <;> simp [xnew, va_up, va_rf, defaultValue]
        · rw [if_neg k2]
          have k3 : xfk c2 q = 0 ∨ xfk c2 q = 1 := by
            unfold xfk at k2 ⊢
            split at k2 <;> simp_all
          rcases k3 with k3 | k3
          · rw [t0 k3]; simp [xnew, va_up, defaultValue]
          · rw [t1 k3]; simp [xnew, va_up, defaultValue]
      have k9 := kk H1 locs ls (xRel_new hR hsz (by rw [z1, hsz]) (fun q hq => o1 q (by rw [← hsz]; exact hq)) hat)
      have e8 : (xnew h (1 + c2, 0) (xN c2)).2.1.1 - n0 = h.2.1.1 - n0 + 1 := by show h.2.1.1 + 1 - n0 = _; omega
      have e9 : (xnew h (1 + c2, 0) (xN c2)).2.1.2 - u0 = h.2.1.2 - u0 + xN c2 := by show h.2.1.2 + xN c2 - u0 = _; omega
      rw [e8, e9] at k9
      exact k9
    · split at hA
      · exact (xthr_no hA).elim
      · cases hA
  · cases hA
theorem xAW_at : Cond.arrayClass .int ∈ xG0 ∧ Cond.arrayClass .boolean ∈ xG0 ∧ Cond.arrayClass .int ∈ xG0 := by
  have h1 := xAW_ok
  simp only [Bool.and_eq_true] at h1
  obtain ⟨⟨a1, a2⟩, a3⟩ := h1
  exact ⟨List.mem_filter.mpr ⟨of_decide_eq_true a1, rfl⟩, List.mem_filter.mpr ⟨of_decide_eq_true a2, rfl⟩, List.mem_filter.mpr ⟨of_decide_eq_true a3, rfl⟩⟩
theorem xs_newarray {ty : ArrayType} (C : xCtx p D dA base b sc j s m args meth c) (hs0 : s.heap.size = base + n0) (hres : h'.2.1.1 - n0 ≤ R.cells ∧ h'.2.1.2 - u0 ≤ R.slots) (hd : decode (xmc j) pc = .ok (.newarray ty, 2)) (hA : xact sc d j (.newarray ty) pc L S h = some (.inl (pc', L', S', h'))) (kk : xW p l e R s m args below meth c Q D dA base b n0 u0 j (pc') (L') (S') (h')) : xW p l e R s m args below meth c Q D dA base b n0 u0 j (pc) (L) (S) (h) := by
  obtain ⟨hx, hb, hr, hml, hown, hts, hlocks, hnm, htb, hG⟩ := C
  intro H locs ls hR
  simp only [xact] at hA
  split at hA
  · next x S2 =>
    split at hA
    · cases hA
    · next hx2 =>
      have hxn : ¬ x < 0 := fun q => hx2 (Or.inl q)
      have hxl : ¬ 1000 < x.toNatClampNeg := fun q => hx2 (Or.inr q)
      have hn0 := hR.2.2.2.2.1
      have hu0 := hR.2.2.2.2.2.1
      split at hA
      all_goals first | (cases hA; done) | skip
      · obtain ⟨rfl, rfl, rfl, rfl⟩ := xgo_inj hA
        have h8 : h.2.1.1 + 1 - n0 ≤ R.cells := hres.1
        have h9 : h.2.1.2 + x.toNatClampNeg - u0 ≤ R.slots := hres.2
        refine xsz hs0 hR fun hsz => ?_
        refine va_newaK (atype := .int) hx hb (hts _ xAW_at.1) rfl hd rfl hxn rfl (by show x.toNatClampNeg * 4 ≤ _; omega) (by omega) (by omega) hsz fun H1 cA e1 z1 o1 hAr hNm => ?_
        have hcA : cA = dA 0 := Option.some.inj (hNm.symm.trans (hG.1.2 0 _ (xty_get (by omega))).2)
        subst hcA
        have hat : va_at D xcl (base + h.2.1.1, xcell dA base (xnew h (32, x.toNatClampNeg) x.toNatClampNeg) h.2.1.1) H1 := by
          rw [xcell_int (h := xnew h (32, x.toNatClampNeg) x.toNatClampNeg) (by simp [xnew, va_up])]
          refine e1.trans ?_
          simp [vp_cell, xnew, va_up, newarray.typeOf, defaultValue]
        have k9 := kk H1 locs ls (xRel_new hR hsz (by rw [z1, hsz]) (fun q hq => o1 q (by rw [← hsz]; exact hq)) hat)
        have e8 : (xnew h (32, x.toNatClampNeg) x.toNatClampNeg).2.1.1 - n0 = h.2.1.1 - n0 + 1 := by show h.2.1.1 + 1 - n0 = _; omega
        have e9 : (xnew h (32, x.toNatClampNeg) x.toNatClampNeg).2.1.2 - u0 = h.2.1.2 - u0 + x.toNatClampNeg := by show h.2.1.2 + x.toNatClampNeg - u0 = _; omega
        rw [e8, e9] at k9
        exact k9
      · obtain ⟨rfl, rfl, rfl, rfl⟩ := xgo_inj hA
        have h8 : h.2.1.1 + 1 - n0 ≤ R.cells := hres.1
        have h9 : h.2.1.2 + x.toNatClampNeg - u0 ≤ R.slots := hres.2
        refine xsz hs0 hR fun hsz => ?_
        refine va_newaK (atype := .boolean) hx hb (hts _ xAW_at.2.1) rfl hd rfl hxn rfl (by show x.toNatClampNeg * 1 ≤ _; omega) (by omega) (by omega) hsz fun H1 cA e1 z1 o1 hAr hNm => ?_
        have hcA : cA = dA 1 := Option.some.inj (hNm.symm.trans (hG.1.2 1 _ (xty_get (by omega))).2)
        subst hcA
        have hat : va_at D xcl (base + h.2.1.1, xcell dA base (xnew h (33, x.toNatClampNeg) x.toNatClampNeg) h.2.1.1) H1 := by
          rw [xcell_bool (h := xnew h (33, x.toNatClampNeg) x.toNatClampNeg) (by simp [xnew, va_up])]
          refine e1.trans ?_
          simp [vp_cell, xnew, va_up, newarray.typeOf, defaultValue]
        have k9 := kk H1 locs ls (xRel_new hR hsz (by rw [z1, hsz]) (fun q hq => o1 q (by rw [← hsz]; exact hq)) hat)
        have e8 : (xnew h (33, x.toNatClampNeg) x.toNatClampNeg).2.1.1 - n0 = h.2.1.1 - n0 + 1 := by show h.2.1.1 + 1 - n0 = _; omega
        have e9 : (xnew h (33, x.toNatClampNeg) x.toNatClampNeg).2.1.2 - u0 = h.2.1.2 - u0 + x.toNatClampNeg := by show h.2.1.2 + x.toNatClampNeg - u0 = _; omega
        rw [e8, e9] at k9
        exact k9
  · cases hA
theorem xs_anewarray {idx : Nat} (C : xCtx p D dA base b sc j s m args meth c) (hs0 : s.heap.size = base + n0) (hres : h'.2.1.1 - n0 ≤ R.cells ∧ h'.2.1.2 - u0 ≤ R.slots) (hd : decode (xmc j) pc = .ok (.anewarray idx, 3)) (hA : xact sc d j (.anewarray idx) pc L S h = some (.inl (pc', L', S', h'))) (kk : xW p l e R s m args below meth c Q D dA base b n0 u0 j (pc') (L') (S') (h')) : xW p l e R s m args below meth c Q D dA base b n0 u0 j (pc) (L) (S) (h) := by
  obtain ⟨hx, hb, hr, hml, hown, hts, hlocks, hnm, htb, hG⟩ := C
  intro H locs ls hR
  simp only [xact] at hA
  split at hA
  · next x S2 =>
    split at hA
    · next c2 q0 hf =>
      split at hA
      · cases hA
      · next hx2 =>
        have hxn : ¬ x < 0 := fun q => hx2 (Or.inl q)
        have hxl : ¬ 1000 < x.toNatClampNeg := fun q => hx2 (Or.inr (Or.inl q))
        have hc4 : ¬ 4 ≤ c2 := fun q => hx2 (Or.inr (Or.inr q))
        have hn0 := hR.2.2.2.2.1
        have hu0 := hR.2.2.2.2.2.1
        obtain ⟨rfl, rfl, rfl, rfl⟩ := xgo_inj hA
        have h8 : h.2.1.1 + 1 - n0 ≤ R.cells := hres.1
        have h9 : h.2.1.2 + x.toNatClampNeg - u0 ≤ R.slots := hres.2
        have hAO : va_AO (xC c2) s := hG.2.2.2.2.2.2.2.2.1 c2 (by omega)
        refine xsz hs0 hR fun hsz => ?_
        refine W.anew hx hb hown (hts _ (xKL_at hf)) (va_AO.use hAO) rfl hd rfl hxn (by omega) (by omega) (by omega) fun cA kA comp f1 f2 f3 f4 => ?_
        obtain ⟨kA2, comp2, g1, g2, g3, g4⟩ : va_RA s (dA (c2 + 3)) (.object (xC c2)) := (hG.1.2 (c2 + 3) _ (xty_get (by omega))).2
        have hcA : cA = dA (c2 + 3) := Option.some.inj (f1.symm.trans g4)
        subst hcA
        generalize hH1 : H.push ({ cls := dA (c2 + 3), slots := Array.replicate x.toNatClampNeg .null, vm := .none } : Cell) = H1
        have z1 : H1.size = H.size + 1 := by rw [← hH1, Array.size_push]
        have e1 : H1[H.size]? = some (arrV (dA (c2 + 3)) x.toNatClampNeg (fun _ => .null)) := by rw [← hH1, Array.getElem?_push_size, ← arrV_new]
        have o1 : ∀ q : Nat, q < H.size → H1[q]? = H[q]? := fun q hq => by rw [← hH1, Array.getElem?_push, if_neg (Nat.ne_of_lt hq)]
        have hat : va_at D xcl (base + h.2.1.1, xcell dA base (xnew h (40 + c2, x.toNatClampNeg) x.toNatClampNeg) h.2.1.1) H1 := by
          have hT : (xnew h (40 + c2, x.toNatClampNeg) x.toNatClampNeg).1 h.2.1.1 = (40 + c2, x.toNatClampNeg) := by simp [xnew, va_up]
          rw [xcell_ref (h := xnew h (40 + c2, x.toNatClampNeg) x.toNatClampNeg) (by rw [hT]; show 40 ≤ 40 + c2; omega), hT]
          rw [hsz] at e1
          refine e1.trans ?_
          show _ = some (vp_cell (dA (40 + c2 - 37)) _)
          rw [show 40 + c2 - 37 = c2 + 3 by omega]
          simp [vp_cell, xnew, va_up, va_rf]
        have k9 := kk H1 locs ls (xRel_new hR hsz z1 o1 hat)
        have e8 : (xnew h (40 + c2, x.toNatClampNeg) x.toNatClampNeg).2.1.1 - n0 = h.2.1.1 - n0 + 1 := by show h.2.1.1 + 1 - n0 = _; omega
        have e9 : (xnew h (40 + c2, x.toNatClampNeg) x.toNatClampNeg).2.1.2 - u0 = h.2.1.2 - u0 + x.toNatClampNeg := by show h.2.1.2 + x.toNatClampNeg - u0 = _; omega
        rw [e8, e9] at k9
        rw [hsz]
        exact k9
    · cases hA
  · cases hA
theorem xsum {S0 : List Value} (h0 : S0.length ≤ 4) : ((S0.map (xtr base b)).map fun v => v.category).sum ≤ 8 := by
  have key : ∀ T : List Value, (T.map fun v => v.category).sum ≤ 2 * T.length := by
    intro T
    induction T with
    | nil => exact Nat.le_refl _
    | cons v T ih =>
      rw [List.map_cons, List.sum_cons, List.length_cons]
      have : v.category ≤ 2 := by cases v <;> simp [Value.category]
      omega
  have h1 := key (S0.map (xtr base b))
  rw [List.length_map] at h1
  omega
theorem xsum8 {S0 : List Value} (h0 : S0.length ≤ 4 ∨ (S0.length ≤ 8 ∧ S0.all xcat1 = true)) : ((S0.map (xtr base b)).map fun v => v.category).sum ≤ 8 := by
  rcases h0 with h0 | ⟨h0, hc⟩
  · exact xsum h0
  · have key : ∀ T : List Value, T.all xcat1 = true → ((T.map (xtr base b)).map fun v => v.category).sum ≤ T.length := by
      intro T
      induction T with
      | nil => intro _; exact Nat.le_refl _
      | cons v T ih =>
        intro hq
        rw [List.all_cons, Bool.and_eq_true] at hq
        rw [List.map_cons, List.map_cons, List.sum_cons, List.length_cons]
        have h1 := ih hq.2
        have h2 : (xtr base b v).category ≤ 1 := by
          have h3 := hq.1
          cases v <;> simp_all [xcat1, xtr, Value.category]
        omega
    have := key S0 hc
    omega
theorem xOW_at : Cond.instanceMethod Lib.objectInit ∈ xG0 ∧ Cond.code Lib.objectInit ⟨#[0xb1]⟩ 1 none ∈ xG0 := by
  have h1 := xOW_ok
  simp only [Bool.and_eq_true] at h1
  obtain ⟨⟨⟨a1, a2⟩, a3⟩, a4⟩ := h1
  exact ⟨List.mem_filter.mpr ⟨of_decide_eq_true a1, a3⟩, List.mem_filter.mpr ⟨of_decide_eq_true a2, a4⟩⟩
theorem xs_objinit {idx : Nat} (C : xCtx p D dA base b sc j s m args meth c) (hF : R.frames = d ∧ 47 * d ≤ R.locals) (hd : decode (xmc j) pc = .ok (.invokespecial idx, 3)) (hA : xact sc d j (.invokespecial idx) pc L S h = some (.inl (pc', L', S', h'))) (kk : xW p l e R s m args below meth c Q D dA base b n0 u0 j (pc') (L') (S') (h')) : xW p l e R s m args below meth c Q D dA base b n0 u0 j (pc) (L) (S) (h) := by
  obtain ⟨hx, hb, hr, hml, hown, hts, hlocks, hnm, htb, hG⟩ := C
  intro H locs ls hR
  simp only [xact] at hA
  split at hA
  · split at hA
    · unfold xinv xcal at hA
      split at hA <;> cases hA
    · cases hA
  · cases hA
  · split at hA
    · next q0 a S2 hf =>
      split at hA
      · next hd2 =>
        obtain ⟨rfl, rfl, rfl, rfl⟩ := xgo_inj hA
        have h1 := List.all_eq_true.mp xOL_ok _ (xlk_mem hf)
        rw [Bool.and_eq_true] at h1
        have h2 : Cond.methodLink (xC (xmo j)) idx Lib.objectInit ∈ xG0 := xG0_of (of_decide_eq_true h1.1) h1.2
        have h3 := xsum (base := base) (b := b) hd2.2
        refine W.objInit hx hb hown (hts _ h2) (hts _ xOW_at.1) (hts _ xOW_at.2) rfl (by rw [hml]; exact hR.2.2.2.1.1) rfl hd (by rw [hF.1]; exact hd2.1) ?_ ?_
        · show 2 * 0 + _ + 12 ≤ _
          have := hF.2
          have := hd2.1
          show _ ≤ R.locals
          omega
        · exact kk H locs ls hR
      · cases hA
    · cases hA
end XST4
