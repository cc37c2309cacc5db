section XST7
variable {p : Program} {l : Launch} {e : Env} {R : Room} {s : State} {m : MethodId} {args : Array Value} {below : List Frame} {meth : Method} {c : Code} {Q : State → Prop} {D : va_G} {dA : Nat → ClassId} {base b n0 u0 j d pc pc' : Nat} {L L' : xL} {S S' : List Value} {h h' : xH} {sc : xS}
variable {H : Heap} {locs : List Loc} {ls : Array Slot}
theorem xft_dec {ins : Instr} (hf : xft j pc = some ins) : ∃ len, decode (xmc j) pc = .ok (ins, len) ∧ (xlen ins = len ∨ xsw ins = true) := by
  unfold xft at hf
  split at hf
  · next i2 len hd =>
    split at hf
    · next h1 => cases hf; exact ⟨len, hd, h1⟩
    · cases hf
  · cases hf
theorem xft_dec2 {ins : Instr} (hf : xft j pc = some ins) (hs : xsw ins = false) : decode (xmc j) pc = .ok (ins, xlen ins) := by
  obtain ⟨len, h1, h2⟩ := xft_dec hf
  rcases h2 with h2 | h2
  · rw [h2]; exact h1
  · rw [hs] at h2; cases h2
theorem xnw_tab {w : Cond} (hw : xnwW w = true) : w.onTables = true := by
  cases w <;> first | rfl | cases hw
theorem xIL_at (hG : xG D dA base b sc s) (hts : ∀ w ∈ xG0, w.before args s = true) {o i0 e0 : Nat} (hf : xlk xIL o i0 = some e0) : (8 ≤ e0 ∧ e0 < 11) ∧ (∀ w ∈ vx_atS (xC o) i0 (xC e0) xEx, w.before args s = true) ∧ ∀ w ∈ vx_atS (xC o) i0 (xC e0) xEx, vx_ot w = true := by
  have h1 := List.all_eq_true.mp xIL_ok _ (xlk_mem hf)
  simp only [Bool.and_eq_true] at h1
  have h2 : ∀ w ∈ vx_atS (xC o) i0 (xC e0) xEx, vx_ot w = true ∧ ((decide (w ∈ lw_tbl) && goodWord w) || decide (w ∈ xNW)) = true := fun w hw => by
    have h3 := List.all_eq_true.mp h1.2 w hw
    rw [Bool.and_eq_true] at h3
    exact h3
  refine ⟨of_decide_eq_true h1.1, fun w hw => ?_, fun w hw => (h2 w hw).1⟩
  have h3 := (h2 w hw).2
  rw [Bool.or_eq_true, Bool.and_eq_true] at h3
  rcases h3 with h3 | h3
  · exact hts w (List.mem_filter.mpr ⟨of_decide_eq_true h3.1, h3.2⟩)
  · have h4 := of_decide_eq_true h3
    exact va_Nw.use (xnw_tab (List.mem_filter.mp h4).2) (hG.2.2.2.2.2.2.1 w h4)
theorem xEW_at {e0 : Nat} (h8 : 8 ≤ e0) (h11 : e0 < 11) : Cond.initialized (xC e0) ∈ xG0 ∧ Bundle.fit (xC e0) = true ∧ Cond.castable (xC e0) (xC e0) ∈ xNW := by
  have h1 := List.all_eq_true.mp xEW_ok e0 (List.mem_range.mpr h11)
  have h0 : decide (e0 < 8) = false := decide_eq_false (by omega)
  simp only [h0, Bool.false_or, Bool.and_eq_true] at h1
  obtain ⟨⟨⟨a1, a2⟩, a3⟩, a4⟩ := h1
  exact ⟨List.mem_filter.mpr ⟨of_decide_eq_true a1, a2⟩, a3, List.mem_filter.mpr ⟨of_decide_eq_true a4, rfl⟩⟩
theorem xN_e {e0 : Nat} (h8 : 8 ≤ e0) : xN e0 = 0 := by
  obtain ⟨k, rfl⟩ := Nat.exists_eq_add_of_le h8
  rw [show 8 + k = k + 8 by omega]
  rfl
theorem xEx_fit : ∀ n ∈ xEx, Bundle.fit n = true := by decide +kernel
/-- behind a throw -/
theorem xthr_post {o : xO} {e0 : Nat} (hG : xG D dA base b sc s) (hR : xRel D dA base b n0 u0 j s h L H locs ls) (hsz : H.size = base + h.2.1.1) (h8 : 8 ≤ e0) (h11 : e0 < 11) (ho : o = .inr e0) (t : State) (ce : Cell) (hz : t.heap.size = H.size + 1) (ho1 : ∀ q : Nat, q < H.size → t.heap[q]? = H[q]?) (hce : t.heap[H.size]? = some ce) (hcv : ce.vm = .none) (hcl : s.vm.findClass (xC e0) = some ce.cls) : xX D dA base o (xnew h (1 + e0, 0) 6) (xC e0) s t := by
  have hcl2 := xcl_get (c := e0) h11
  have hT : (xnew h (1 + e0, 0) 6).1 h.2.1.1 = (1 + e0, 0) := by simp [xnew, va_up]
  have hat : va_at D xcl (base + h.2.1.1, xcell dA base (xnew h (1 + e0, 0) 6) h.2.1.1) t.heap := by
    rw [xcell_obj (h := xnew h (1 + e0, 0) 6) (c := e0) (by omega) hT]
    refine ⟨_, hcl2, ce, by rw [← hsz]; exact hce, ?_, hcv, fun k hk => ?_⟩
    · exact Option.some.inj (hcl.symm.trans (hG.1.1 e0 _ hcl2).2.1)
    · have hk2 : k < xN e0 := hk
      rw [xN_e h8] at hk2
      exact absurd hk2 (Nat.not_lt_zero k)
  have h1 := xRel_new hR hsz hz ho1 hat
  exact ⟨⟨e0, ho, h8, h11, rfl⟩, ⟨by rw [hz, hsz]; rfl, h1.1, h1.2.2.2.2.2.2⟩, h1.2.1.F rfl⟩
theorem xs_throw {idx : Nat} {o : xO} (C : xCtx p D dA base b sc j s m args meth c) (hs0 : s.heap.size = base + n0) (hF : R.frames = d ∧ 47 * d ≤ R.locals) (hres : h'.2.1.1 - n0 ≤ R.cells ∧ h'.2.1.2 - u0 ≤ R.slots) (hfl : l.stackTraces = false) (hd : decode (xmc j) pc = .ok (.new idx, 3)) (hA : xact sc d j (.new idx) pc L S h = some (.inr (.inl (o, h')))) (hR : xRel D dA base b n0 u0 j s h L H locs ls) :
    W p l e R s m args below meth c H locs (h.2.1.1 - n0) (h.2.1.2 - u0) (vx_MQ below (xQ D dA base b o h') (xX D dA base o h') args s (h'.2.1.1 - n0) (h'.2.1.2 - u0) (xAA base)) (F0 m pc ls (S.map (xtr base b))) := by
  obtain ⟨hx, hb, hr, hml, hown, hts, hlocks, hnm, htb, hG⟩ := C
  have hn0 := hR.2.2.2.2.1
  have hu0 := hR.2.2.2.2.2.1
  refine xsz hs0 hR fun hsz => ?_
  simp only [xact] at hA
  split at hA
  · next c2 q0 hf =>
    split at hA
    · exact (xgo_ne hA).elim
    · split at hA
      · obtain ⟨rfl, rfl⟩ := xthr_eq hA
        have hn1 : h.2.1.1 + 1 - n0 ≤ R.cells := hres.1
        have hu1 : h.2.1.2 + 6 - u0 ≤ R.slots := hres.2
        unfold xthr at hA
        split at hA
        · next hcnd =>
          obtain ⟨hd6, hS4, hh, hdup⟩ := hcnd
          have hout : ∀ z ∈ c.exceptionTable.toList, False := by
            rw [hh, List.map_eq_nil_iff] at htb
            rw [htb]
            intro z hz
            cases hz
          have hd3 := xft_dec2 hdup rfl
          have hsum := xsum (base := base) (b := b) hS4
          split at hA
          · next s0 h4 =>
            have hd4 := xft_dec2 h4 rfl
            split at hA
            · next tx c0 htx h6 h9 =>
              have hd6' := xft_dec2 h6 rfl
              have hd9 := xft_dec2 h9 rfl
              split at hA
              · next hil =>
                obtain ⟨h81, hat, hot⟩ := xIL_at hG hts hil
                obtain ⟨g1, g2, g3⟩ := xEW_at h81.1 h81.2
                obtain ⟨sa, hsa⟩ := hG.2.2.2.2.2.2.2.2.2 _ (xlk_mem htx)
                refine ux_throwS (A := xAA base) (own := xC (xmo j)) (cls := xC c2) (text := tx) (names := xEx) (ik := idx) (is := s0) (ic := c0) (sa := sa) hx hb hfl hown g2 xEx_fit (hts _ (xKL_at hf)) (hts _ g1) hsa hat ?_ hG.2.2.2.2.1 hG.2.2.2.2.2.1 hR.2.1 (by rw [hml]; exact hR.2.2.2.1.1) hd hd3 hd4 hd6' hd9 (fun z hz => (hout z hz).elim) ?_ ?_ (by omega) (by omega) hlocks ?_ hR.2.1.2.2 ?_ ?_
                · intro w hw
                  rcases List.mem_cons.mp hw with rfl | hw
                  · rfl
                  · rcases List.mem_cons.mp hw with rfl | hw
                    · rfl
                    · exact hot w hw
                · rw [hF.1]; show 2 + 3 < d; omega
                · have := hF.2; show _ + (13 * (2 + 1) + 43) ≤ R.locals; omega
                · exact fun t ce ha hz ho1 hce hcv hcl => xthr_post hG hR hsz h81.1 h81.2 rfl t ce hz ho1 hce hcv hcl
                · show h.2.1.1 - n0 + 1 ≤ h.2.1.1 + 1 - n0; omega
                · show h.2.1.2 - u0 + 6 ≤ h.2.1.2 + 6 - u0; omega
              · cases hA
            · cases hA
          · next s0 h4 =>
            have hd4 := xft_dec2 h4 rfl
            split at hA
            · next tx c0 htx h6 h9 =>
              have hd6' := xft_dec2 h6 rfl
              have hd9 := xft_dec2 h9 rfl
              split at hA
              · next hil =>
                obtain ⟨h81, hat, hot⟩ := xIL_at hG hts hil
                obtain ⟨g1, g2, g3⟩ := xEW_at h81.1 h81.2
                obtain ⟨sa, hsa⟩ := hG.2.2.2.2.2.2.2.2.2 _ (xlk_mem htx)
                refine ux_throwSW (A := xAA base) (own := xC (xmo j)) (cls := xC c2) (text := tx) (names := xEx) (ik := idx) (is := s0) (ic := c0) (sa := sa) hx hb hfl hown g2 xEx_fit (hts _ (xKL_at hf)) (hts _ g1) hsa hat ?_ hG.2.2.2.2.1 hG.2.2.2.2.2.1 hR.2.1 (by rw [hml]; exact hR.2.2.2.1.1) hd hd3 hd4 hd6' hd9 (fun z hz => (hout z hz).elim) ?_ ?_ (by omega) (by omega) hlocks ?_ hR.2.1.2.2 ?_ ?_
                · intro w hw
                  rcases List.mem_cons.mp hw with rfl | hw
                  · rfl
                  · rcases List.mem_cons.mp hw with rfl | hw
                    · rfl
                    · exact hot w hw
                · rw [hF.1]; show 2 + 3 < d; omega
                · have := hF.2; show _ + (13 * (2 + 1) + 43) ≤ R.locals; omega
                · exact fun t ce ha hz ho1 hce hcv hcl => xthr_post hG hR hsz h81.1 h81.2 rfl t ce hz ho1 hce hcv hcl
                · show h.2.1.1 - n0 + 1 ≤ h.2.1.1 + 1 - n0; omega
                · show h.2.1.2 - u0 + 6 ≤ h.2.1.2 + 6 - u0; omega
              · cases hA
            · cases hA
          · cases hA
        · cases hA
      · cases hA
  · cases hA
end XST7
