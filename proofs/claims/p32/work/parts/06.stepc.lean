section XST3
variable {p : Program} {l : Launch} {e : Env} {R : Room} {s : State} {m : MethodId} {args : Array Value} {below : List Frame} {meth : Method} {c : Code} {Q : State → Prop} {D : va_G} {dA : Nat → ClassId} {base b n0 u0 j d pc pc' : Nat} {L L' : xL} {S S' : List Value} {h h' : xH} {sc : xS}
theorem xs_putI {c2 k a : Nat} {x : Int32} {S2 : List Value} (hT : h.1 a = (1 + c2, 0)) (hc : c2 < 8) (hk2 : xfk c2 k ≠ 2) {H : Heap} {locs : List Loc} {ls : Array Slot} (hR : xRel D dA base b n0 u0 j s h L H locs ls) (kk : xW p l e R s m args below meth c Q D dA base b n0 u0 j (pc') (L) (S2) ((h.1, h.2.1, xup2 h.2.2.1 a k x, h.2.2.2.1, h.2.2.2.2))) (H1 : Heap) (locs1 : List Loc) (hP1 : va_P D xcl ((xws dA base h).set a (base + a, .inr (c2, (xfld base h a c2).set k (.int x)))) H1) (hS1 : va_S (xAA base) s.heap H1 locs1) : W p l e R s m args below meth c H1 locs1 (h.2.1.1 - n0) (h.2.1.2 - u0) Q (F0 m pc' ls (S2.map (xtr base b))) := by
  refine kk H1 locs1 ls (xRel_wr (a := a) hR ?_ hS1 rfl rfl (fun q hq => xcell_I hq))
  rw [xcell_obj (h := (h.1, h.2.1, xup2 h.2.2.1 a k x, h.2.2.2.1, h.2.2.2.2)) (c := c2) (by omega) hT, xfld_I hk2]
  exact hP1
theorem xs_putR {c2 k a : Nat} {r : Option Nat} {S2 : List Value} (hT : h.1 a = (1 + c2, 0)) (hc : c2 < 8) (hk2 : xfk c2 k = 2) {H : Heap} {locs : List Loc} {ls : Array Slot} (hR : xRel D dA base b n0 u0 j s h L H locs ls) (kk : xW p l e R s m args below meth c Q D dA base b n0 u0 j (pc') (L) (S2) ((h.1, h.2.1, h.2.2.1, h.2.2.2.1, xup2 h.2.2.2.2 a k r))) (H1 : Heap) (locs1 : List Loc) (hP1 : va_P D xcl ((xws dA base h).set a (base + a, .inr (c2, (xfld base h a c2).set k (va_rf (r.map (fun q => base + q)))))) H1) (hS1 : va_S (xAA base) s.heap H1 locs1) : W p l e R s m args below meth c H1 locs1 (h.2.1.1 - n0) (h.2.1.2 - u0) Q (F0 m pc' ls (S2.map (xtr base b))) := by
  refine kk H1 locs1 ls (xRel_wr (a := a) hR ?_ hS1 rfl rfl (fun q hq => xcell_R hq))
  rw [xcell_obj (h := (h.1, h.2.1, h.2.2.1, h.2.2.2.1, xup2 h.2.2.2.2 a k r)) (c := c2) (by omega) hT, xfld_R hk2]
  exact hP1
theorem xs_put {idx c2 k pos a : Nat} {n : Bool} {v : Value} {S2 : List Value} (C : xCtx p D dA base b sc j s m args meth c) (hd : decode (xmc j) pc = .ok (.putfield idx, 3)) (hf : xlk xFL (xmo j) idx = some (c2, k, n, pos)) (hT : h.1 a = (1 + c2, 0)) (hfin : (xT c2 k).2.2.2 = false ∨ ((xmy j).name = "<init>" ∧ xmo j = c2 ∧ n = false)) (h2 : narrow (xY c2 k) v = v ∧ fits (xY c2 k) v = true) {H : Heap} {locs : List Loc} {ls : Array Slot} (hR : xRel D dA base b n0 u0 j s h L H locs ls)
    (fin : ∀ (H1 : Heap) (locs1 : List Loc), va_P D xcl ((xws dA base h).set a (base + a, .inr (c2, (xfld base h a c2).set k v))) H1 → va_S (xAA base) s.heap H1 locs1 → W p l e R s m args below meth c H1 locs1 (h.2.1.1 - n0) (h.2.1.2 - u0) Q (F0 m (pc + 3) ls (S2.map (xtr base b)))) :
    W p l e R s m args below meth c H locs (h.2.1.1 - n0) (h.2.1.2 - u0) Q (F0 m pc ls (v :: .ref (base + a) :: S2.map (xtr base b))) := by
  obtain ⟨hx, hb, hr, hml, hown, hts, hlocks, hnm, htb, hG⟩ := C
  obtain ⟨hc, hk⟩ := xFL_c hf
  obtain ⟨hty, hnn⟩ := xY_at hc
  have ho := xRel_ob hR (c := c2) (by omega) hT
  have hcl := xcl_get (c := c2) (by omega)
  have hlen : k < (xfld base h a c2).length := by simp [xfld]; exact hk
  by_cases hF : (xT c2 k).2.2.2 = false
  · cases n with
    | true =>
      have hl : (Cond.fieldLinkNest (xC (xmo j)) idx (xT c2 k).1 (xT c2 k).2.1 (xT c2 k).2.2.1 "Saddletree").before args s = true := xNW_at hG hf
      exact va_putN (own := xC (xmo j)) (ref := (xT c2 k).1) (index := idx) (C := xC c2) (T := xT c2) (N := xN c2) (host := "Saddletree") (ty := xY c2 k) hx hb hts (xUW_at hc) (xY c2) hty hnn hown hG.1 hR.1 xws_D hR.2.1 a ho hcl k hk hl (fun _ q => q) hF (hty k hk) h2.1 h2.2 hlen hd (fun H1 locs1 hP1 _ hS1 => fin H1 locs1 hP1 hS1)
    | false =>
      have hl : (Cond.fieldLink (xC (xmo j)) idx (xT c2 k).1 (xT c2 k).2.1 (xT c2 k).2.2.1).before args s = true := xFL_own hts hf
      exact va_put (own := xC (xmo j)) (ref := (xT c2 k).1) (index := idx) (C := xC c2) (T := xT c2) (N := xN c2) (ty := xY c2 k) hx hb hts (xUW_at hc) (xY c2) hty hnn hown hG.1 hR.1 xws_D hR.2.1 a ho hcl k hk hl (fun _ q => q) hF (hty k hk) h2.1 h2.2 hlen hd (fun H1 locs1 hP1 _ hS1 => fin H1 locs1 hP1 hS1)
  · obtain ⟨h5, h6, rfl⟩ := hfin.resolve_left hF
    have hl : (Cond.fieldLink (xC (xmo j)) idx (xT c2 k).1 (xT c2 k).2.1 (xT c2 k).2.2.1).before args s = true := xFL_own hts hf
    have hF2 : (xT c2 k).2.2.2 = true := by cases q : (xT c2 k).2.2.2 <;> simp_all
    exact va_putF (own := xC (xmo j)) (ref := (xT c2 k).1) (index := idx) (C := xC c2) (T := xT c2) (N := xN c2) (ty := xY c2 k) hx hb hts (xUW_at hc) (xY c2) hty hnn hown hG.1 hR.1 xws_D hR.2.1 a ho hcl k hk hl (fun _ q => q) hF2 (by rw [hnm]; exact h5) (by rw [xY_own_at hc hk, h6]) (hty k hk) h2.1 h2.2 hlen hd (fun H1 locs1 hP1 _ hS1 => fin H1 locs1 hP1 hS1)
theorem xs_putfield {idx : Nat} (C : xCtx p D dA base b sc j s m args meth c) (hd : decode (xmc j) pc = .ok (.putfield idx, 3)) (hA : xact sc d j (.putfield idx) pc L S h = some (.inl (pc', L', S', h'))) (kk : xW p l e R s m args below meth c Q D dA base b n0 u0 j (pc') (L') (S') (h')) : xW p l e R s m args below meth c Q D dA base b n0 u0 j (pc) (L) (S) (h) := by
  intro H locs ls hR
  simp only [xact] at hA
  split at hA
  · next x a S2 =>
    split at hA
    · next c2 k n pos hf =>
      split at hA
      · next hT =>
        obtain ⟨hT, hkd, hfin⟩ := hT
        obtain ⟨rfl, rfl, rfl, rfl⟩ := xgo_inj hA
        obtain ⟨hc, hk⟩ := xFL_c hf
        have hk2 : xfk c2 k ≠ 2 := by rcases hkd with q | q <;> omega
        exact xs_put (v := .int x) C hd hf hT hfin (xput hc hk hkd) hR (xs_putI hT hc hk2 hR kk)
      · cases hA
    · cases hA
  · next q a S2 =>
    split at hA
    · next c2 k n pos hf =>
      split at hA
      · next hT =>
        obtain ⟨hT, hkd, hfin⟩ := hT
        obtain ⟨rfl, rfl, rfl, rfl⟩ := xgo_inj hA
        obtain ⟨hc, hk⟩ := xFL_c hf
        exact xs_put (v := .ref (base + q)) C hd hf hT hfin (xputR hc hk hkd) hR (xs_putR hT hc hkd hR kk)
      · cases hA
    · cases hA
  · cases hA
/-! arrays -/
theorem xcell_int {a : Nat} (hT : (h.1 a).1 = 32) : xcell dA base h a = .inl (dA 0, (h.1 a).2, .inl (h.2.2.1 a)) := by
  simp only [xcell, hT]
  rfl
theorem xcell_bool {a : Nat} (hT : (h.1 a).1 = 33) : xcell dA base h a = .inl (dA 1, (h.1 a).2, .inl (h.2.2.1 a)) := by
  simp only [xcell, hT]
  rfl
theorem xcell_long {a : Nat} (hT : (h.1 a).1 = 34) : xcell dA base h a = .inl (dA 2, (h.1 a).2, .inr (.inl (h.2.2.2.1 a))) := by
  simp only [xcell, hT]
  rfl
theorem xcell_ref {a : Nat} (hT : 40 ≤ (h.1 a).1) : xcell dA base h a = .inl (dA ((h.1 a).1 - 37), (h.1 a).2, .inr (.inr (.inr (.inr (fun j => (h.2.2.2.2 a j).map (fun q => base + q)))))) := by
  simp only [xcell]
  rw [if_neg (by omega), if_neg (by omega), if_neg (by omega), if_pos hT]
theorem xin {x : Int32} {n : Nat} (h1 : ¬ x < 0) (h2 : x.toNatClampNeg < n) : vp_in x n := fun q => q.elim h1 (fun z => Nat.not_le.mpr h2 z)
theorem xs_iaload (C : xCtx p D dA base b sc j s m args meth c) (hd : decode (xmc j) pc = .ok (.iaload, 1)) (hA : xact sc d j .iaload pc L S h = some (.inl (pc', L', S', h'))) (kk : xW p l e R s m args below meth c Q D dA base b n0 u0 j (pc') (L') (S') (h')) : xW p l e R s m args below meth c Q D dA base b n0 u0 j (pc) (L) (S) (h) := by
  obtain ⟨hx, hb, hr, hml, hown, hts, hlocks, hnm, htb, hG⟩ := C
  intro H locs ls hR
  simp only [xact] at hA
  split at hA
  · next x a S2 =>
    split at hA
    · next hT =>
      obtain ⟨hT, hT1, hT2⟩ := hT
      obtain ⟨rfl, rfl, rfl, rfl⟩ := xgo_inj hA
      have hw := xws_get (dA := dA) (base := base) (xRel_lt hR (a := a) (by omega))
      rw [xcell_int hT] at hw
      exact va_iald hx hb hG.1 hR.1 a 0 hw (xty_get (by omega)) (xin hT1 hT2) hd (kk H locs ls hR)
    · cases hA
  · next x z S2 =>
    split at hA
    · next hT =>
      obtain ⟨rfl, rfl, rfl, rfl⟩ := xgo_inj hA
      exact va_sld hx hb hG.2.1 (by have := hG.2.2.1; have := hG.2.2.2.1; omega) (Nat.not_le.mpr hG.2.2.1) hR.2.1 (xin hT.1 hT.2) hd (kk H locs ls hR)
    · cases hA
  · cases hA
theorem xs_baload (C : xCtx p D dA base b sc j s m args meth c) (hd : decode (xmc j) pc = .ok (.baload, 1)) (hA : xact sc d j .baload pc L S h = some (.inl (pc', L', S', h'))) (kk : xW p l e R s m args below meth c Q D dA base b n0 u0 j (pc') (L') (S') (h')) : xW p l e R s m args below meth c Q D dA base b n0 u0 j (pc) (L) (S) (h) := by
  obtain ⟨hx, hb, hr, hml, hown, hts, hlocks, hnm, htb, hG⟩ := C
  intro H locs ls hR
  simp only [xact] at hA
  split at hA
  · next x a S2 =>
    split at hA
    · next hT =>
      obtain ⟨hT, hT1, hT2⟩ := hT
      obtain ⟨rfl, rfl, rfl, rfl⟩ := xgo_inj hA
      have hw := xws_get (dA := dA) (base := base) (xRel_lt hR (a := a) (by omega))
      rw [xcell_bool hT] at hw
      exact va_zald hx hb hG.1 hR.1 a 1 hw (xty_get (by omega)) (xin hT1 hT2) hd (kk H locs ls hR)
    · cases hA
  · cases hA
theorem xAt_obj {q : Nat} (h1 : 40 ≤ q) : xAt (q - 37) = .object (xC (q - 40)) := by
  obtain ⟨k, rfl⟩ := Nat.exists_eq_add_of_le h1
  rw [show 40 + k - 37 = k + 3 by omega, show 40 + k - 40 = k by omega]
  rfl
theorem xs_aaload (C : xCtx p D dA base b sc j s m args meth c) (hd : decode (xmc j) pc = .ok (.aaload, 1)) (hA : xact sc d j .aaload pc L S h = some (.inl (pc', L', S', h'))) (kk : xW p l e R s m args below meth c Q D dA base b n0 u0 j (pc') (L') (S') (h')) : xW p l e R s m args below meth c Q D dA base b n0 u0 j (pc) (L) (S) (h) := by
  obtain ⟨hx, hb, hr, hml, hown, hts, hlocks, hnm, htb, hG⟩ := C
  intro H locs ls hR
  simp only [xact] at hA
  split at hA
  · next x a S2 =>
    split at hA
    · next hT =>
      obtain ⟨hT, hT3, hT1, hT2⟩ := hT
      obtain ⟨rfl, rfl, rfl, rfl⟩ := xgo_inj hA
      have hw := xws_get (dA := dA) (base := base) (xRel_lt hR (a := a) (by omega))
      rw [xcell_ref hT] at hw
      have ht := xty_get (dA := dA) (t := (h.1 a).1 - 37) (by omega)
      rw [xAt_obj hT] at ht
      have hk3 := kk H locs ls hR
      rw [List.map_cons, xtr_rf] at hk3
      exact va_aldq hx hb hG.1 hR.1 a ((h.1 a).1 - 37) hw ht (xin hT1 hT2) hd hk3
    · cases hA
  · cases hA
theorem xs_alen (C : xCtx p D dA base b sc j s m args meth c) (hd : decode (xmc j) pc = .ok (.arraylength, 1)) (hA : xact sc d j .arraylength pc L S h = some (.inl (pc', L', S', h'))) (kk : xW p l e R s m args below meth c Q D dA base b n0 u0 j (pc') (L') (S') (h')) : xW p l e R s m args below meth c Q D dA base b n0 u0 j (pc) (L) (S) (h) := by
  obtain ⟨hx, hb, hr, hml, hown, hts, hlocks, hnm, htb, hG⟩ := C
  intro H locs ls hR
  simp only [xact] at hA
  split at hA
  · next a S2 =>
    split at hA
    · next hT =>
      obtain ⟨rfl, rfl, rfl, rfl⟩ := xgo_inj hA
      have hw := xws_get (dA := dA) (base := base) (xRel_lt hR (a := a) (by omega))
      by_cases q1 : (h.1 a).1 = 32
      · rw [xcell_int q1] at hw
        exact va_alen hx hb hG.1 hR.1 a 0 hw (xty_get (by omega)) rfl hd (kk H locs ls hR)
      by_cases q2 : (h.1 a).1 = 33
      · rw [xcell_bool q2] at hw
        exact va_alen hx hb hG.1 hR.1 a 1 hw (xty_get (by omega)) rfl hd (kk H locs ls hR)
      by_cases q3 : (h.1 a).1 = 34
      · rw [xcell_long q3] at hw
        exact va_alen hx hb hG.1 hR.1 a 2 hw (xty_get (by omega)) rfl hd (kk H locs ls hR)
      · rw [xcell_ref (by omega)] at hw
        exact va_alen hx hb hG.1 hR.1 a ((h.1 a).1 - 37) hw (xty_get (by omega)) rfl hd (kk H locs ls hR)
    · cases hA
  · next z S2 =>
    obtain ⟨rfl, rfl, rfl, rfl⟩ := xgo_inj hA
    exact va_slen hx hb hG.2.1 (by have := hG.2.2.1; have := hG.2.2.2.1; omega) (Nat.not_le.mpr hG.2.2.1) hR.2.1 hd (kk H locs ls hR)
  · cases hA
theorem xs_iastore (C : xCtx p D dA base b sc j s m args meth c) (hd : decode (xmc j) pc = .ok (.iastore, 1)) (hA : xact sc d j .iastore pc L S h = some (.inl (pc', L', S', h'))) (kk : xW p l e R s m args below meth c Q D dA base b n0 u0 j (pc') (L') (S') (h')) : xW p l e R s m args below meth c Q D dA base b n0 u0 j (pc) (L) (S) (h) := by
  obtain ⟨hx, hb, hr, hml, hown, hts, hlocks, hnm, htb, hG⟩ := C
  intro H locs ls hR
  simp only [xact] at hA
  split at hA
  · next v x a S2 =>
    split at hA
    · next hT =>
      obtain ⟨hT, hT1, hT2⟩ := hT
      obtain ⟨rfl, rfl, rfl, rfl⟩ := xgo_inj hA
      have hw := xws_get (dA := dA) (base := base) (xRel_lt hR (a := a) (by omega))
      rw [xcell_int hT] at hw
      refine va_iast hx hb hG.1 hR.1 xws_D hR.2.1 a 0 hw (xty_get (by omega)) (xin hT1 hT2) hd (fun H1 locs1 hP1 _ hS1 => kk H1 locs1 ls (xRel_wr (a := a) hR ?_ hS1 rfl rfl (fun q hq => xcell_I hq)))
      rw [xcell_int (h := (h.1, h.2.1, xup2 h.2.2.1 a x.toNatClampNeg v, h.2.2.2.1, h.2.2.2.2)) hT]
      have e : xup2 h.2.2.1 a x.toNatClampNeg v a = upd (h.2.2.1 a) x.toNatClampNeg v := by funext q; simp [xup2, upd]
      show va_P D xcl ((xws dA base h).set a (base + a, .inl (dA 0, (h.1 a).2, .inl (xup2 h.2.2.1 a x.toNatClampNeg v a)))) H1
      rw [e]
      exact hP1
    · cases hA
  · cases hA
theorem xs_bastore (C : xCtx p D dA base b sc j s m args meth c) (hd : decode (xmc j) pc = .ok (.bastore, 1)) (hA : xact sc d j .bastore pc L S h = some (.inl (pc', L', S', h'))) (kk : xW p l e R s m args below meth c Q D dA base b n0 u0 j (pc') (L') (S') (h')) : xW p l e R s m args below meth c Q D dA base b n0 u0 j (pc) (L) (S) (h) := by
  obtain ⟨hx, hb, hr, hml, hown, hts, hlocks, hnm, htb, hG⟩ := C
  intro H locs ls hR
  simp only [xact] at hA
  split at hA
  · next v x a S2 =>
    split at hA
    · next hT =>
      obtain ⟨hT, hT1, hT2, hv⟩ := hT
      obtain ⟨rfl, rfl, rfl, rfl⟩ := xgo_inj hA
      have hw := xws_get (dA := dA) (base := base) (xRel_lt hR (a := a) (by omega))
      rw [xcell_bool hT] at hw
      have hv2 : vp_nar .boolean v = v := by rcases hv with rfl | rfl <;> rfl
      refine va_zast hx hb hG.1 hR.1 xws_D hR.2.1 a 1 hw (xty_get (by omega)) (xin hT1 hT2) hd (fun H1 locs1 hP1 _ hS1 => kk H1 locs1 ls (xRel_wr (a := a) hR ?_ hS1 rfl rfl (fun q hq => xcell_I hq)))
      rw [xcell_bool (h := (h.1, h.2.1, xup2 h.2.2.1 a x.toNatClampNeg v, h.2.2.2.1, h.2.2.2.2)) hT]
      have e : xup2 h.2.2.1 a x.toNatClampNeg v a = upd (h.2.2.1 a) x.toNatClampNeg v := by funext q; simp [xup2, upd]
      show va_P D xcl ((xws dA base h).set a (base + a, .inl (dA 1, (h.1 a).2, .inl (xup2 h.2.2.1 a x.toNatClampNeg v a)))) H1
      rw [hv2] at hP1
      rw [e]
      exact hP1
    · cases hA
  · cases hA
theorem xs_aastore (C : xCtx p D dA base b sc j s m args meth c) (hd : decode (xmc j) pc = .ok (.aastore, 1)) (hA : xact sc d j .aastore pc L S h = some (.inl (pc', L', S', h'))) (kk : xW p l e R s m args below meth c Q D dA base b n0 u0 j (pc') (L') (S') (h')) : xW p l e R s m args below meth c Q D dA base b n0 u0 j (pc) (L) (S) (h) := by
  obtain ⟨hx, hb, hr, hml, hown, hts, hlocks, hnm, htb, hG⟩ := C
  intro H locs ls hR
  simp only [xact] at hA
  split at hA
  · next v x a S2 =>
    split at hA
    · next hT =>
      obtain ⟨hT, hT4, hT1, hT2, hq, hTq⟩ := hT
      obtain ⟨rfl, rfl, rfl, rfl⟩ := xgo_inj hA
      have hw := xws_get (dA := dA) (base := base) (xRel_lt hR (a := a) (by omega))
      rw [xcell_ref hT] at hw
      have ht := xty_get (dA := dA) (t := (h.1 a).1 - 37) (by omega)
      rw [xAt_obj hT] at ht
      have hTq2 : h.1 v = (1 + ((h.1 a).1 - 40), 0) := by rw [hTq]; congr 1; omega
      refine va_astq (r := (xC ((h.1 a).1 - 40), xT ((h.1 a).1 - 40), xN ((h.1 a).1 - 40))) (ci := (h.1 a).1 - 40) hx hb hG.1 hR.1 xws_D hR.2.1 a ((h.1 a).1 - 37) v hw ht (xRel_ob hR (by omega) hTq2) (xcl_get (by omega)) (xin hT1 hT2) hd (fun H1 locs1 hP1 _ hS1 => kk H1 locs1 ls (xRel_wr (a := a) hR ?_ hS1 rfl rfl (fun q hq => xcell_R hq)))
      rw [xcell_ref (h := (h.1, h.2.1, h.2.2.1, h.2.2.2.1, xup2 h.2.2.2.2 a x.toNatClampNeg (some v))) hT]
      have e : (fun k => (xup2 h.2.2.2.2 a x.toNatClampNeg (some v) a k).map (fun q => base + q)) = va_up (fun k => (h.2.2.2.2 a k).map (fun q => base + q)) x.toNatClampNeg (some (base + v)) := by
        funext q
        by_cases z : q = x.toNatClampNeg
        · subst z; simp [xup2, va_up]
        · simp [xup2, va_up, z]
      show va_P D xcl ((xws dA base h).set a (base + a, .inl (dA ((h.1 a).1 - 37), (h.1 a).2, .inr (.inr (.inr (.inr (fun k => (xup2 h.2.2.2.2 a x.toNatClampNeg (some v) a k).map (fun q => base + q)))))))) H1
      rw [e]
      exact hP1
    · cases hA
  · cases hA
end XST3
