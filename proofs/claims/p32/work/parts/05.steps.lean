/-! one instruction that goes on: the machine does what the pure one does -/
theorem xgo_inj {a a2 : Nat} {L L2 : xL} {S S2 : List Value} {h h2 : xH} (e : xgo a L S h = some (.inl (a2, L2, S2, h2))) : a = a2 ∧ L = L2 ∧ S = S2 ∧ h = h2 := by
  unfold xgo at e
  cases e
  exact ⟨rfl, rfl, rfl, rfl⟩
section XST
variable {p : Program} {l : Launch} {e : Env} {R : Room} {s : State} {m : MethodId} {args : Array Value} {below : List Frame} {meth : Method} {c : Code} {Q : State → Prop} {D : va_G} {dA : Nat → ClassId} {base b n0 u0 j d pc pc' : Nat} {L L' : xL} {S S' : List Value} {h h' : xH} {sc : xS}
theorem xs_iconst {n : Int} (C : xCtx p D dA base b sc j s m args meth c) (hd : decode (xmc j) pc = .ok (.iconst n, 1)) (hA : xact sc d j (.iconst n) pc L S h = some (.inl (pc', L', S', h'))) (kk : xW p l e R s m args below meth c Q D dA base b n0 u0 j (pc') (L') (S') (h')) : xW p l e R s m args below meth c Q D dA base b n0 u0 j (pc) (L) (S) (h) := by
  obtain ⟨hx, hb, hr, hml, hown, hts, hlocks, hnm, htb, hG⟩ := C
  intro H locs ls hR
  simp only [xact] at hA
  obtain ⟨rfl, rfl, rfl, rfl⟩ := xgo_inj hA
  exact lv_iconst hx hb hd rfl (kk H locs ls hR)
theorem xs_bipush {n : Int} (C : xCtx p D dA base b sc j s m args meth c) (hd : decode (xmc j) pc = .ok (.bipush n, 2)) (hA : xact sc d j (.bipush n) pc L S h = some (.inl (pc', L', S', h'))) (kk : xW p l e R s m args below meth c Q D dA base b n0 u0 j (pc') (L') (S') (h')) : xW p l e R s m args below meth c Q D dA base b n0 u0 j (pc) (L) (S) (h) := by
  obtain ⟨hx, hb, hr, hml, hown, hts, hlocks, hnm, htb, hG⟩ := C
  intro H locs ls hR
  simp only [xact] at hA
  obtain ⟨rfl, rfl, rfl, rfl⟩ := xgo_inj hA
  exact lv_bipush hx hb hd rfl (kk H locs ls hR)
theorem xs_sipush {n : Int} (C : xCtx p D dA base b sc j s m args meth c) (hd : decode (xmc j) pc = .ok (.sipush n, 3)) (hA : xact sc d j (.sipush n) pc L S h = some (.inl (pc', L', S', h'))) (kk : xW p l e R s m args below meth c Q D dA base b n0 u0 j (pc') (L') (S') (h')) : xW p l e R s m args below meth c Q D dA base b n0 u0 j (pc) (L) (S) (h) := by
  obtain ⟨hx, hb, hr, hml, hown, hts, hlocks, hnm, htb, hG⟩ := C
  intro H locs ls hR
  simp only [xact] at hA
  obtain ⟨rfl, rfl, rfl, rfl⟩ := xgo_inj hA
  exact lv_sipush hx hb hd rfl (kk H locs ls hR)
theorem xs_lconst {n : Fin 2} (C : xCtx p D dA base b sc j s m args meth c) (hd : decode (xmc j) pc = .ok (.lconst n, 1)) (hA : xact sc d j (.lconst n) pc L S h = some (.inl (pc', L', S', h'))) (kk : xW p l e R s m args below meth c Q D dA base b n0 u0 j (pc') (L') (S') (h')) : xW p l e R s m args below meth c Q D dA base b n0 u0 j (pc) (L) (S) (h) := by
  obtain ⟨hx, hb, hr, hml, hown, hts, hlocks, hnm, htb, hG⟩ := C
  intro H locs ls hR
  simp only [xact] at hA
  obtain ⟨rfl, rfl, rfl, rfl⟩ := xgo_inj hA
  exact lv_lconst hx hb hd rfl (kk H locs ls hR)
theorem xs_null (C : xCtx p D dA base b sc j s m args meth c) (hd : decode (xmc j) pc = .ok (.aconst_null, 1)) (hA : xact sc d j (.aconst_null) pc L S h = some (.inl (pc', L', S', h'))) (kk : xW p l e R s m args below meth c Q D dA base b n0 u0 j (pc') (L') (S') (h')) : xW p l e R s m args below meth c Q D dA base b n0 u0 j (pc) (L) (S) (h) := by
  obtain ⟨hx, hb, hr, hml, hown, hts, hlocks, hnm, htb, hG⟩ := C
  intro H locs ls hR
  simp only [xact] at hA
  obtain ⟨rfl, rfl, rfl, rfl⟩ := xgo_inj hA
  exact lv_null hx hb hd (kk H locs ls hR)
theorem xs_iadd (C : xCtx p D dA base b sc j s m args meth c) (hd : decode (xmc j) pc = .ok (.iadd, 1)) (hA : xact sc d j (.iadd) pc L S h = some (.inl (pc', L', S', h'))) (kk : xW p l e R s m args below meth c Q D dA base b n0 u0 j (pc') (L') (S') (h')) : xW p l e R s m args below meth c Q D dA base b n0 u0 j (pc) (L) (S) (h) := by
  obtain ⟨hx, hb, hr, hml, hown, hts, hlocks, hnm, htb, hG⟩ := C
  intro H locs ls hR
  simp only [xact] at hA
  split at hA
  · obtain ⟨rfl, rfl, rfl, rfl⟩ := xgo_inj hA
    exact lv_iadd hx hb hd (kk H locs ls hR)
  · cases hA
theorem xs_isub (C : xCtx p D dA base b sc j s m args meth c) (hd : decode (xmc j) pc = .ok (.isub, 1)) (hA : xact sc d j (.isub) pc L S h = some (.inl (pc', L', S', h'))) (kk : xW p l e R s m args below meth c Q D dA base b n0 u0 j (pc') (L') (S') (h')) : xW p l e R s m args below meth c Q D dA base b n0 u0 j (pc) (L) (S) (h) := by
  obtain ⟨hx, hb, hr, hml, hown, hts, hlocks, hnm, htb, hG⟩ := C
  intro H locs ls hR
  simp only [xact] at hA
  split at hA
  · obtain ⟨rfl, rfl, rfl, rfl⟩ := xgo_inj hA
    exact lv_isub hx hb hd (kk H locs ls hR)
  · cases hA
theorem xs_imul (C : xCtx p D dA base b sc j s m args meth c) (hd : decode (xmc j) pc = .ok (.imul, 1)) (hA : xact sc d j (.imul) pc L S h = some (.inl (pc', L', S', h'))) (kk : xW p l e R s m args below meth c Q D dA base b n0 u0 j (pc') (L') (S') (h')) : xW p l e R s m args below meth c Q D dA base b n0 u0 j (pc) (L) (S) (h) := by
  obtain ⟨hx, hb, hr, hml, hown, hts, hlocks, hnm, htb, hG⟩ := C
  intro H locs ls hR
  simp only [xact] at hA
  split at hA
  · obtain ⟨rfl, rfl, rfl, rfl⟩ := xgo_inj hA
    exact lv_imul hx hb hd (kk H locs ls hR)
  · cases hA
theorem xs_iand (C : xCtx p D dA base b sc j s m args meth c) (hd : decode (xmc j) pc = .ok (.iand, 1)) (hA : xact sc d j (.iand) pc L S h = some (.inl (pc', L', S', h'))) (kk : xW p l e R s m args below meth c Q D dA base b n0 u0 j (pc') (L') (S') (h')) : xW p l e R s m args below meth c Q D dA base b n0 u0 j (pc) (L) (S) (h) := by
  obtain ⟨hx, hb, hr, hml, hown, hts, hlocks, hnm, htb, hG⟩ := C
  intro H locs ls hR
  simp only [xact] at hA
  split at hA
  · obtain ⟨rfl, rfl, rfl, rfl⟩ := xgo_inj hA
    exact lv_iand hx hb hd (kk H locs ls hR)
  · cases hA
theorem xs_ior (C : xCtx p D dA base b sc j s m args meth c) (hd : decode (xmc j) pc = .ok (.ior, 1)) (hA : xact sc d j (.ior) pc L S h = some (.inl (pc', L', S', h'))) (kk : xW p l e R s m args below meth c Q D dA base b n0 u0 j (pc') (L') (S') (h')) : xW p l e R s m args below meth c Q D dA base b n0 u0 j (pc) (L) (S) (h) := by
  obtain ⟨hx, hb, hr, hml, hown, hts, hlocks, hnm, htb, hG⟩ := C
  intro H locs ls hR
  simp only [xact] at hA
  split at hA
  · obtain ⟨rfl, rfl, rfl, rfl⟩ := xgo_inj hA
    exact lv_ior hx hb hd (kk H locs ls hR)
  · cases hA
theorem xs_ixor (C : xCtx p D dA base b sc j s m args meth c) (hd : decode (xmc j) pc = .ok (.ixor, 1)) (hA : xact sc d j (.ixor) pc L S h = some (.inl (pc', L', S', h'))) (kk : xW p l e R s m args below meth c Q D dA base b n0 u0 j (pc') (L') (S') (h')) : xW p l e R s m args below meth c Q D dA base b n0 u0 j (pc) (L) (S) (h) := by
  obtain ⟨hx, hb, hr, hml, hown, hts, hlocks, hnm, htb, hG⟩ := C
  intro H locs ls hR
  simp only [xact] at hA
  split at hA
  · obtain ⟨rfl, rfl, rfl, rfl⟩ := xgo_inj hA
    exact lv_ixor hx hb hd (kk H locs ls hR)
  · cases hA
theorem xs_ishl (C : xCtx p D dA base b sc j s m args meth c) (hd : decode (xmc j) pc = .ok (.ishl, 1)) (hA : xact sc d j (.ishl) pc L S h = some (.inl (pc', L', S', h'))) (kk : xW p l e R s m args below meth c Q D dA base b n0 u0 j (pc') (L') (S') (h')) : xW p l e R s m args below meth c Q D dA base b n0 u0 j (pc) (L) (S) (h) := by
  obtain ⟨hx, hb, hr, hml, hown, hts, hlocks, hnm, htb, hG⟩ := C
  intro H locs ls hR
  simp only [xact] at hA
  split at hA
  · obtain ⟨rfl, rfl, rfl, rfl⟩ := xgo_inj hA
    exact lv_ishl hx hb hd (kk H locs ls hR)
  · cases hA
theorem xs_ishr (C : xCtx p D dA base b sc j s m args meth c) (hd : decode (xmc j) pc = .ok (.ishr, 1)) (hA : xact sc d j (.ishr) pc L S h = some (.inl (pc', L', S', h'))) (kk : xW p l e R s m args below meth c Q D dA base b n0 u0 j (pc') (L') (S') (h')) : xW p l e R s m args below meth c Q D dA base b n0 u0 j (pc) (L) (S) (h) := by
  obtain ⟨hx, hb, hr, hml, hown, hts, hlocks, hnm, htb, hG⟩ := C
  intro H locs ls hR
  simp only [xact] at hA
  split at hA
  · obtain ⟨rfl, rfl, rfl, rfl⟩ := xgo_inj hA
    exact lv_ishr hx hb hd (kk H locs ls hR)
  · cases hA
theorem xs_land (C : xCtx p D dA base b sc j s m args meth c) (hd : decode (xmc j) pc = .ok (.land, 1)) (hA : xact sc d j (.land) pc L S h = some (.inl (pc', L', S', h'))) (kk : xW p l e R s m args below meth c Q D dA base b n0 u0 j (pc') (L') (S') (h')) : xW p l e R s m args below meth c Q D dA base b n0 u0 j (pc) (L) (S) (h) := by
  obtain ⟨hx, hb, hr, hml, hown, hts, hlocks, hnm, htb, hG⟩ := C
  intro H locs ls hR
  simp only [xact] at hA
  split at hA
  · obtain ⟨rfl, rfl, rfl, rfl⟩ := xgo_inj hA
    exact lv_land hx hb hd (kk H locs ls hR)
  · cases hA
theorem xs_lor (C : xCtx p D dA base b sc j s m args meth c) (hd : decode (xmc j) pc = .ok (.lor, 1)) (hA : xact sc d j (.lor) pc L S h = some (.inl (pc', L', S', h'))) (kk : xW p l e R s m args below meth c Q D dA base b n0 u0 j (pc') (L') (S') (h')) : xW p l e R s m args below meth c Q D dA base b n0 u0 j (pc) (L) (S) (h) := by
  obtain ⟨hx, hb, hr, hml, hown, hts, hlocks, hnm, htb, hG⟩ := C
  intro H locs ls hR
  simp only [xact] at hA
  split at hA
  · obtain ⟨rfl, rfl, rfl, rfl⟩ := xgo_inj hA
    exact lv_lor hx hb hd (kk H locs ls hR)
  · cases hA
theorem xs_lshl (C : xCtx p D dA base b sc j s m args meth c) (hd : decode (xmc j) pc = .ok (.lshl, 1)) (hA : xact sc d j (.lshl) pc L S h = some (.inl (pc', L', S', h'))) (kk : xW p l e R s m args below meth c Q D dA base b n0 u0 j (pc') (L') (S') (h')) : xW p l e R s m args below meth c Q D dA base b n0 u0 j (pc) (L) (S) (h) := by
  obtain ⟨hx, hb, hr, hml, hown, hts, hlocks, hnm, htb, hG⟩ := C
  intro H locs ls hR
  simp only [xact] at hA
  split at hA
  · obtain ⟨rfl, rfl, rfl, rfl⟩ := xgo_inj hA
    exact lv_lshl hx hb hd rfl (kk H locs ls hR)
  · cases hA
theorem xs_lshr (C : xCtx p D dA base b sc j s m args meth c) (hd : decode (xmc j) pc = .ok (.lshr, 1)) (hA : xact sc d j (.lshr) pc L S h = some (.inl (pc', L', S', h'))) (kk : xW p l e R s m args below meth c Q D dA base b n0 u0 j (pc') (L') (S') (h')) : xW p l e R s m args below meth c Q D dA base b n0 u0 j (pc) (L) (S) (h) := by
  obtain ⟨hx, hb, hr, hml, hown, hts, hlocks, hnm, htb, hG⟩ := C
  intro H locs ls hR
  simp only [xact] at hA
  split at hA
  · obtain ⟨rfl, rfl, rfl, rfl⟩ := xgo_inj hA
    exact lv_lshr hx hb hd rfl (kk H locs ls hR)
  · cases hA
theorem xs_i2l (C : xCtx p D dA base b sc j s m args meth c) (hd : decode (xmc j) pc = .ok (.i2l, 1)) (hA : xact sc d j (.i2l) pc L S h = some (.inl (pc', L', S', h'))) (kk : xW p l e R s m args below meth c Q D dA base b n0 u0 j (pc') (L') (S') (h')) : xW p l e R s m args below meth c Q D dA base b n0 u0 j (pc) (L) (S) (h) := by
  obtain ⟨hx, hb, hr, hml, hown, hts, hlocks, hnm, htb, hG⟩ := C
  intro H locs ls hR
  simp only [xact] at hA
  split at hA
  · obtain ⟨rfl, rfl, rfl, rfl⟩ := xgo_inj hA
    exact lv_i2l hx hb hd rfl (kk H locs ls hR)
  · cases hA
theorem xs_l2i (C : xCtx p D dA base b sc j s m args meth c) (hd : decode (xmc j) pc = .ok (.l2i, 1)) (hA : xact sc d j (.l2i) pc L S h = some (.inl (pc', L', S', h'))) (kk : xW p l e R s m args below meth c Q D dA base b n0 u0 j (pc') (L') (S') (h')) : xW p l e R s m args below meth c Q D dA base b n0 u0 j (pc) (L) (S) (h) := by
  obtain ⟨hx, hb, hr, hml, hown, hts, hlocks, hnm, htb, hG⟩ := C
  intro H locs ls hR
  simp only [xact] at hA
  split at hA
  · obtain ⟨rfl, rfl, rfl, rfl⟩ := xgo_inj hA
    exact lv_l2i hx hb hd rfl (kk H locs ls hR)
  · cases hA
theorem xs_lcmp (C : xCtx p D dA base b sc j s m args meth c) (hd : decode (xmc j) pc = .ok (.lcmp, 1)) (hA : xact sc d j (.lcmp) pc L S h = some (.inl (pc', L', S', h'))) (kk : xW p l e R s m args below meth c Q D dA base b n0 u0 j (pc') (L') (S') (h')) : xW p l e R s m args below meth c Q D dA base b n0 u0 j (pc) (L) (S) (h) := by
  obtain ⟨hx, hb, hr, hml, hown, hts, hlocks, hnm, htb, hG⟩ := C
  intro H locs ls hR
  simp only [xact] at hA
  split at hA
  · obtain ⟨rfl, rfl, rfl, rfl⟩ := xgo_inj hA
    exact W.lcmp hx hb hd (kk H locs ls hR)
  · cases hA
theorem xs_idiv (C : xCtx p D dA base b sc j s m args meth c) (hd : decode (xmc j) pc = .ok (.idiv, 1)) (hA : xact sc d j (.idiv) pc L S h = some (.inl (pc', L', S', h'))) (kk : xW p l e R s m args below meth c Q D dA base b n0 u0 j (pc') (L') (S') (h')) : xW p l e R s m args below meth c Q D dA base b n0 u0 j (pc) (L) (S) (h) := by
  obtain ⟨hx, hb, hr, hml, hown, hts, hlocks, hnm, htb, hG⟩ := C
  intro H locs ls hR
  simp only [xact] at hA
  split at hA
  · split at hA
    · cases hA
    · next hz =>
      obtain ⟨rfl, rfl, rfl, rfl⟩ := xgo_inj hA
      exact lv_idiv hx hb hd hz (kk H locs ls hR)
  · cases hA
theorem xs_irem (C : xCtx p D dA base b sc j s m args meth c) (hd : decode (xmc j) pc = .ok (.irem, 1)) (hA : xact sc d j (.irem) pc L S h = some (.inl (pc', L', S', h'))) (kk : xW p l e R s m args below meth c Q D dA base b n0 u0 j (pc') (L') (S') (h')) : xW p l e R s m args below meth c Q D dA base b n0 u0 j (pc) (L) (S) (h) := by
  obtain ⟨hx, hb, hr, hml, hown, hts, hlocks, hnm, htb, hG⟩ := C
  intro H locs ls hR
  simp only [xact] at hA
  split at hA
  · split at hA
    · cases hA
    · next hz =>
      obtain ⟨rfl, rfl, rfl, rfl⟩ := xgo_inj hA
      exact lv_irem hx hb hd hz (kk H locs ls hR)
  · cases hA
theorem xcat1_tr {v : Value} (h : xcat1 v = true) : (xtr base b v).category = 1 := xtr_cat h
theorem xs_dup (C : xCtx p D dA base b sc j s m args meth c) (hd : decode (xmc j) pc = .ok (.dup, 1)) (hA : xact sc d j (.dup) pc L S h = some (.inl (pc', L', S', h'))) (kk : xW p l e R s m args below meth c Q D dA base b n0 u0 j (pc') (L') (S') (h')) : xW p l e R s m args below meth c Q D dA base b n0 u0 j (pc) (L) (S) (h) := by
  obtain ⟨hx, hb, hr, hml, hown, hts, hlocks, hnm, htb, hG⟩ := C
  intro H locs ls hR
  simp only [xact] at hA
  split at hA
  · split at hA
    · next hz =>
      obtain ⟨rfl, rfl, rfl, rfl⟩ := xgo_inj hA
      exact lv_dup hx hb hd (xtr_cat hz) (kk H locs ls hR)
    · cases hA
  · cases hA
theorem xs_dup2 (C : xCtx p D dA base b sc j s m args meth c) (hd : decode (xmc j) pc = .ok (.dup2, 1)) (hA : xact sc d j (.dup2) pc L S h = some (.inl (pc', L', S', h'))) (kk : xW p l e R s m args below meth c Q D dA base b n0 u0 j (pc') (L') (S') (h')) : xW p l e R s m args below meth c Q D dA base b n0 u0 j (pc) (L) (S) (h) := by
  obtain ⟨hx, hb, hr, hml, hown, hts, hlocks, hnm, htb, hG⟩ := C
  intro H locs ls hR
  simp only [xact] at hA
  split at hA
  · split at hA
    · next hz =>
      obtain ⟨rfl, rfl, rfl, rfl⟩ := xgo_inj hA
      exact lv_dup2_11 hx hb hd (xtr_cat hz.1) (xtr_cat hz.2) (kk H locs ls hR)
    · cases hA
  · cases hA
theorem xRel_at {base b : Nat} {L : xL} {ls : Array Slot} {n k : Nat} {v : Value} (hl : lv_has ls n (xlst base b L)) (hv : L[k]? = some (some v)) (hc : xcat1 v = true) : ls[k]? = some (.val (xtr base b v)) := hl.2.2 (k, xtr base b v) (xlst_mem.mpr ⟨v, hv, hc, rfl⟩)
theorem xs_iload_n {k : Fin 4} (C : xCtx p D dA base b sc j s m args meth c) (hd : decode (xmc j) pc = .ok (.iload_n k, 1)) (hA : xact sc d j (.iload_n k) pc L S h = some (.inl (pc', L', S', h'))) (kk : xW p l e R s m args below meth c Q D dA base b n0 u0 j (pc') (L') (S') (h')) : xW p l e R s m args below meth c Q D dA base b n0 u0 j (pc) (L) (S) (h) := by
  obtain ⟨hx, hb, hr, hml, hown, hts, hlocks, hnm, htb, hG⟩ := C
  intro H locs ls hR
  simp only [xact] at hA
  split at hA
  · next x hv =>
    obtain ⟨rfl, rfl, rfl, rfl⟩ := xgo_inj hA
    exact lv_iload_n hx hb hd rfl (xRel_at hR.2.2.2.1 hv rfl) (kk H locs ls hR)
  · cases hA
theorem xs_iload {k : Nat} (C : xCtx p D dA base b sc j s m args meth c) (hd : decode (xmc j) pc = .ok (.iload k, 2)) (hA : xact sc d j (.iload k) pc L S h = some (.inl (pc', L', S', h'))) (kk : xW p l e R s m args below meth c Q D dA base b n0 u0 j (pc') (L') (S') (h')) : xW p l e R s m args below meth c Q D dA base b n0 u0 j (pc) (L) (S) (h) := by
  obtain ⟨hx, hb, hr, hml, hown, hts, hlocks, hnm, htb, hG⟩ := C
  intro H locs ls hR
  simp only [xact] at hA
  split at hA
  · next x hv =>
    obtain ⟨rfl, rfl, rfl, rfl⟩ := xgo_inj hA
    exact lv_iload hx hb hd (xRel_at hR.2.2.2.1 hv rfl) (kk H locs ls hR)
  · cases hA
theorem xs_aload_n {k : Fin 4} (C : xCtx p D dA base b sc j s m args meth c) (hd : decode (xmc j) pc = .ok (.aload_n k, 1)) (hA : xact sc d j (.aload_n k) pc L S h = some (.inl (pc', L', S', h'))) (kk : xW p l e R s m args below meth c Q D dA base b n0 u0 j (pc') (L') (S') (h')) : xW p l e R s m args below meth c Q D dA base b n0 u0 j (pc) (L) (S) (h) := by
  obtain ⟨hx, hb, hr, hml, hown, hts, hlocks, hnm, htb, hG⟩ := C
  intro H locs ls hR
  simp only [xact] at hA
  split at hA
  · next x hv =>
    obtain ⟨rfl, rfl, rfl, rfl⟩ := xgo_inj hA
    exact lv_aload_n hx hb hd rfl (xRel_at hR.2.2.2.1 hv rfl) (kk H locs ls hR)
  · next hv =>
    obtain ⟨rfl, rfl, rfl, rfl⟩ := xgo_inj hA
    exact lv_aload_nN hx hb hd rfl (xRel_at hR.2.2.2.1 hv rfl) (kk H locs ls hR)
  · next x hv =>
    obtain ⟨rfl, rfl, rfl, rfl⟩ := xgo_inj hA
    exact lv_aload_n hx hb hd rfl (xRel_at hR.2.2.2.1 hv rfl) (kk H locs ls hR)
  · cases hA
theorem xs_aload {k : Nat} (C : xCtx p D dA base b sc j s m args meth c) (hd : decode (xmc j) pc = .ok (.aload k, 2)) (hA : xact sc d j (.aload k) pc L S h = some (.inl (pc', L', S', h'))) (kk : xW p l e R s m args below meth c Q D dA base b n0 u0 j (pc') (L') (S') (h')) : xW p l e R s m args below meth c Q D dA base b n0 u0 j (pc) (L) (S) (h) := by
  obtain ⟨hx, hb, hr, hml, hown, hts, hlocks, hnm, htb, hG⟩ := C
  intro H locs ls hR
  simp only [xact] at hA
  split at hA
  · next x hv =>
    obtain ⟨rfl, rfl, rfl, rfl⟩ := xgo_inj hA
    exact lv_aload hx hb hd (xRel_at hR.2.2.2.1 hv rfl) (kk H locs ls hR)
  · next hv =>
    obtain ⟨rfl, rfl, rfl, rfl⟩ := xgo_inj hA
    exact lv_aloadN hx hb hd (xRel_at hR.2.2.2.1 hv rfl) (kk H locs ls hR)
  · next x hv =>
    obtain ⟨rfl, rfl, rfl, rfl⟩ := xgo_inj hA
    exact lv_aload hx hb hd (xRel_at hR.2.2.2.1 hv rfl) (kk H locs ls hR)
  · cases hA
theorem xst_inj {a a2 k : Nat} {v : Value} {L L2 : xL} {S S2 : List Value} {h h2 : xH} (e : xst L k v a S h = some (.inl (a2, L2, S2, h2))) : k < L.length ∧ a = a2 ∧ L.set k (some v) = L2 ∧ S = S2 ∧ h = h2 := by
  unfold xst at e
  split at e
  · next hk => exact ⟨hk, xgo_inj e⟩
  · cases e
theorem xRel_set {D : va_G} {dA : Nat → ClassId} {base b n0 u0 j : Nat} {s : State} {h : xH} {L : xL} {H : Heap} {locs : List Loc} {ls ls' : Array Slot} {k : Nat} {v : Value} (hR : xRel D dA base b n0 u0 j s h L H locs ls) (hc : xcat1 v = true)
    (hl : lv_has ls' (xml j) ((k, xtr base b v) :: (xlst base b L).filter (fun q => !(q.1 == k) && !(q.1 + 1 == k && q.2.category == 2)))) : xRel D dA base b n0 u0 j s h (L.set k (some v)) H locs ls' :=
  ⟨hR.1, hR.2.1, by rw [List.length_set]; exact hR.2.2.1, xlst_set hc hl, hR.2.2.2.2⟩
theorem xs_istore_n {k : Fin 4} (C : xCtx p D dA base b sc j s m args meth c) (hd : decode (xmc j) pc = .ok (.istore_n k, 1)) (hA : xact sc d j (.istore_n k) pc L S h = some (.inl (pc', L', S', h'))) (kk : xW p l e R s m args below meth c Q D dA base b n0 u0 j (pc') (L') (S') (h')) : xW p l e R s m args below meth c Q D dA base b n0 u0 j (pc) (L) (S) (h) := by
  obtain ⟨hx, hb, hr, hml, hown, hts, hlocks, hnm, htb, hG⟩ := C
  intro H locs ls hR
  simp only [xact] at hA
  split at hA
  · obtain ⟨hk, rfl, rfl, rfl, rfl⟩ := xst_inj hA
    exact lv_istore_n hx hb hd rfl hR.2.2.2.1 (by rw [← hR.2.2.1]; exact hk) rfl (fun ls' hl => kk H locs ls' (xRel_set hR rfl hl))
  · cases hA
theorem xs_istore {k : Nat} (C : xCtx p D dA base b sc j s m args meth c) (hd : decode (xmc j) pc = .ok (.istore k, 2)) (hA : xact sc d j (.istore k) pc L S h = some (.inl (pc', L', S', h'))) (kk : xW p l e R s m args below meth c Q D dA base b n0 u0 j (pc') (L') (S') (h')) : xW p l e R s m args below meth c Q D dA base b n0 u0 j (pc) (L) (S) (h) := by
  obtain ⟨hx, hb, hr, hml, hown, hts, hlocks, hnm, htb, hG⟩ := C
  intro H locs ls hR
  simp only [xact] at hA
  split at hA
  · obtain ⟨hk, rfl, rfl, rfl, rfl⟩ := xst_inj hA
    exact lv_istore hx hb hd hR.2.2.2.1 (by rw [← hR.2.2.1]; exact hk) rfl (fun ls' hl => kk H locs ls' (xRel_set hR rfl hl))
  · cases hA
theorem xs_astore_n {k : Fin 4} (C : xCtx p D dA base b sc j s m args meth c) (hd : decode (xmc j) pc = .ok (.astore_n k, 1)) (hA : xact sc d j (.astore_n k) pc L S h = some (.inl (pc', L', S', h'))) (kk : xW p l e R s m args below meth c Q D dA base b n0 u0 j (pc') (L') (S') (h')) : xW p l e R s m args below meth c Q D dA base b n0 u0 j (pc) (L) (S) (h) := by
  obtain ⟨hx, hb, hr, hml, hown, hts, hlocks, hnm, htb, hG⟩ := C
  intro H locs ls hR
  simp only [xact] at hA
  split at hA
  · obtain ⟨hk, rfl, rfl, rfl, rfl⟩ := xst_inj hA
    exact lv_astore_n hx hb hd rfl hR.2.2.2.1 (by rw [← hR.2.2.1]; exact hk) rfl (fun ls' hl => kk H locs ls' (xRel_set hR rfl hl))
  · obtain ⟨hk, rfl, rfl, rfl, rfl⟩ := xst_inj hA
    exact lv_astore_nN hx hb hd rfl hR.2.2.2.1 (by rw [← hR.2.2.1]; exact hk) rfl (fun ls' hl => kk H locs ls' (xRel_set hR rfl hl))
  · cases hA
theorem xs_astore {k : Nat} (C : xCtx p D dA base b sc j s m args meth c) (hd : decode (xmc j) pc = .ok (.astore k, 2)) (hA : xact sc d j (.astore k) pc L S h = some (.inl (pc', L', S', h'))) (kk : xW p l e R s m args below meth c Q D dA base b n0 u0 j (pc') (L') (S') (h')) : xW p l e R s m args below meth c Q D dA base b n0 u0 j (pc) (L) (S) (h) := by
  obtain ⟨hx, hb, hr, hml, hown, hts, hlocks, hnm, htb, hG⟩ := C
  intro H locs ls hR
  simp only [xact] at hA
  split at hA
  · obtain ⟨hk, rfl, rfl, rfl, rfl⟩ := xst_inj hA
    exact lv_astore hx hb hd hR.2.2.2.1 (by rw [← hR.2.2.1]; exact hk) rfl (fun ls' hl => kk H locs ls' (xRel_set hR rfl hl))
  · obtain ⟨hk, rfl, rfl, rfl, rfl⟩ := xst_inj hA
    exact lv_astoreN hx hb hd hR.2.2.2.1 (by rw [← hR.2.2.1]; exact hk) rfl (fun ls' hl => kk H locs ls' (xRel_set hR rfl hl))
  · cases hA
theorem xs_iinc {k : Nat} {n : Int} (C : xCtx p D dA base b sc j s m args meth c) (hd : decode (xmc j) pc = .ok (.iinc k n, 3)) (hA : xact sc d j (.iinc k n) pc L S h = some (.inl (pc', L', S', h'))) (kk : xW p l e R s m args below meth c Q D dA base b n0 u0 j (pc') (L') (S') (h')) : xW p l e R s m args below meth c Q D dA base b n0 u0 j (pc) (L) (S) (h) := by
  obtain ⟨hx, hb, hr, hml, hown, hts, hlocks, hnm, htb, hG⟩ := C
  intro H locs ls hR
  simp only [xact] at hA
  split at hA
  · next x hv =>
    obtain ⟨hk, rfl, rfl, rfl, rfl⟩ := xst_inj hA
    obtain ⟨i, hi⟩ := List.getElem?_of_mem (xlst_mem (base := base) (b := b) (q := (k, xtr base b (.int x))) |>.mpr ⟨_, hv, rfl, rfl⟩)
    exact lv_iinc hx hb hd hR.2.2.2.1 (k := i) (x := x) hi rfl (by rw [← hR.2.2.1]; exact hk) rfl (fun ls' hl => kk H locs ls' (xRel_set hR rfl hl))
  · cases hA
theorem xjmp_eq {pc : Nat} {off : Int} (h : 0 ≤ (pc : Int) + off) : (pc : Int) + off = ((xjmp pc off : Nat) : Int) := (Int.toNat_of_nonneg h).symm
theorem xbr_inj {cnd : Prop} {ic : Decidable cnd} {off : Int} (e : @xbr cnd ic pc off L S h = some (.inl (pc', L', S', h'))) : 0 ≤ (pc : Int) + off ∧ (@ite _ cnd ic (xjmp pc off) (pc + 3)) = pc' ∧ L = L' ∧ S = S' ∧ h = h' := by
  unfold xbr at e
  split at e
  · next ho => exact ⟨ho, xgo_inj e⟩
  · cases e
theorem xs_icmp_eq {off : Int} (C : xCtx p D dA base b sc j s m args meth c) (hd : decode (xmc j) pc = .ok (.if_icmp .eq off, 3)) (hA : xact sc d j (.if_icmp .eq off) pc L S h = some (.inl (pc', L', S', h'))) (kk : xW p l e R s m args below meth c Q D dA base b n0 u0 j (pc') (L') (S') (h')) : xW p l e R s m args below meth c Q D dA base b n0 u0 j (pc) (L) (S) (h) := by
  obtain ⟨hx, hb, hr, hml, hown, hts, hlocks, hnm, htb, hG⟩ := C
  intro H locs ls hR
  simp only [xact] at hA
  split at hA
  · obtain ⟨ho, rfl, rfl, rfl, rfl⟩ := xbr_inj hA
    exact lv_icmp_eq hx hb hd (xjmp_eq ho) (fun q => by rw [if_pos q] at kk; exact kk H locs ls hR) (fun q => by rw [if_neg q] at kk; exact kk H locs ls hR)
  · cases hA
theorem xs_if_eq {off : Int} (C : xCtx p D dA base b sc j s m args meth c) (hd : decode (xmc j) pc = .ok (.ifCond .eq off, 3)) (hA : xact sc d j (.ifCond .eq off) pc L S h = some (.inl (pc', L', S', h'))) (kk : xW p l e R s m args below meth c Q D dA base b n0 u0 j (pc') (L') (S') (h')) : xW p l e R s m args below meth c Q D dA base b n0 u0 j (pc) (L) (S) (h) := by
  obtain ⟨hx, hb, hr, hml, hown, hts, hlocks, hnm, htb, hG⟩ := C
  intro H locs ls hR
  simp only [xact] at hA
  split at hA
  · obtain ⟨ho, rfl, rfl, rfl, rfl⟩ := xbr_inj hA
    exact lv_if_eq hx hb hd (xjmp_eq ho) (fun q => by rw [if_pos q] at kk; exact kk H locs ls hR) (fun q => by rw [if_neg q] at kk; exact kk H locs ls hR)
  · cases hA
theorem xs_icmp_ne {off : Int} (C : xCtx p D dA base b sc j s m args meth c) (hd : decode (xmc j) pc = .ok (.if_icmp .ne off, 3)) (hA : xact sc d j (.if_icmp .ne off) pc L S h = some (.inl (pc', L', S', h'))) (kk : xW p l e R s m args below meth c Q D dA base b n0 u0 j (pc') (L') (S') (h')) : xW p l e R s m args below meth c Q D dA base b n0 u0 j (pc) (L) (S) (h) := by
  obtain ⟨hx, hb, hr, hml, hown, hts, hlocks, hnm, htb, hG⟩ := C
  intro H locs ls hR
  simp only [xact] at hA
  split at hA
  · obtain ⟨ho, rfl, rfl, rfl, rfl⟩ := xbr_inj hA
    exact lv_icmp_ne hx hb hd (xjmp_eq ho) (fun q => by rw [if_pos q] at kk; exact kk H locs ls hR) (fun q => by rw [if_neg (fun z => z q)] at kk; exact kk H locs ls hR)
  · cases hA
theorem xs_if_ne {off : Int} (C : xCtx p D dA base b sc j s m args meth c) (hd : decode (xmc j) pc = .ok (.ifCond .ne off, 3)) (hA : xact sc d j (.ifCond .ne off) pc L S h = some (.inl (pc', L', S', h'))) (kk : xW p l e R s m args below meth c Q D dA base b n0 u0 j (pc') (L') (S') (h')) : xW p l e R s m args below meth c Q D dA base b n0 u0 j (pc) (L) (S) (h) := by
  obtain ⟨hx, hb, hr, hml, hown, hts, hlocks, hnm, htb, hG⟩ := C
  intro H locs ls hR
  simp only [xact] at hA
  split at hA
  · obtain ⟨ho, rfl, rfl, rfl, rfl⟩ := xbr_inj hA
    exact lv_if_ne hx hb hd (xjmp_eq ho) (fun q => by rw [if_pos q] at kk; exact kk H locs ls hR) (fun q => by rw [if_neg (fun z => z q)] at kk; exact kk H locs ls hR)
  · cases hA
theorem xs_icmp_lt {off : Int} (C : xCtx p D dA base b sc j s m args meth c) (hd : decode (xmc j) pc = .ok (.if_icmp .lt off, 3)) (hA : xact sc d j (.if_icmp .lt off) pc L S h = some (.inl (pc', L', S', h'))) (kk : xW p l e R s m args below meth c Q D dA base b n0 u0 j (pc') (L') (S') (h')) : xW p l e R s m args below meth c Q D dA base b n0 u0 j (pc) (L) (S) (h) := by
  obtain ⟨hx, hb, hr, hml, hown, hts, hlocks, hnm, htb, hG⟩ := C
  intro H locs ls hR
  simp only [xact] at hA
  split at hA
  · obtain ⟨ho, rfl, rfl, rfl, rfl⟩ := xbr_inj hA
    exact lv_icmp_lt hx hb hd (xjmp_eq ho) (fun q => by rw [if_pos q] at kk; exact kk H locs ls hR) (fun q => by rw [if_neg q] at kk; exact kk H locs ls hR)
  · cases hA
theorem xs_if_lt {off : Int} (C : xCtx p D dA base b sc j s m args meth c) (hd : decode (xmc j) pc = .ok (.ifCond .lt off, 3)) (hA : xact sc d j (.ifCond .lt off) pc L S h = some (.inl (pc', L', S', h'))) (kk : xW p l e R s m args below meth c Q D dA base b n0 u0 j (pc') (L') (S') (h')) : xW p l e R s m args below meth c Q D dA base b n0 u0 j (pc) (L) (S) (h) := by
  obtain ⟨hx, hb, hr, hml, hown, hts, hlocks, hnm, htb, hG⟩ := C
  intro H locs ls hR
  simp only [xact] at hA
  split at hA
  · obtain ⟨ho, rfl, rfl, rfl, rfl⟩ := xbr_inj hA
    exact lv_if_lt hx hb hd (xjmp_eq ho) (fun q => by rw [if_pos q] at kk; exact kk H locs ls hR) (fun q => by rw [if_neg q] at kk; exact kk H locs ls hR)
  · cases hA
theorem xs_icmp_ge {off : Int} (C : xCtx p D dA base b sc j s m args meth c) (hd : decode (xmc j) pc = .ok (.if_icmp .ge off, 3)) (hA : xact sc d j (.if_icmp .ge off) pc L S h = some (.inl (pc', L', S', h'))) (kk : xW p l e R s m args below meth c Q D dA base b n0 u0 j (pc') (L') (S') (h')) : xW p l e R s m args below meth c Q D dA base b n0 u0 j (pc) (L) (S) (h) := by
  obtain ⟨hx, hb, hr, hml, hown, hts, hlocks, hnm, htb, hG⟩ := C
  intro H locs ls hR
  simp only [xact] at hA
  split at hA
  · obtain ⟨ho, rfl, rfl, rfl, rfl⟩ := xbr_inj hA
    exact lv_icmp_ge hx hb hd (xjmp_eq ho) (fun q => by rw [if_pos q] at kk; exact kk H locs ls hR) (fun q => by rw [if_neg q] at kk; exact kk H locs ls hR)
  · cases hA
theorem xs_if_ge {off : Int} (C : xCtx p D dA base b sc j s m args meth c) (hd : decode (xmc j) pc = .ok (.ifCond .ge off, 3)) (hA : xact sc d j (.ifCond .ge off) pc L S h = some (.inl (pc', L', S', h'))) (kk : xW p l e R s m args below meth c Q D dA base b n0 u0 j (pc') (L') (S') (h')) : xW p l e R s m args below meth c Q D dA base b n0 u0 j (pc) (L) (S) (h) := by
  obtain ⟨hx, hb, hr, hml, hown, hts, hlocks, hnm, htb, hG⟩ := C
  intro H locs ls hR
  simp only [xact] at hA
  split at hA
  · obtain ⟨ho, rfl, rfl, rfl, rfl⟩ := xbr_inj hA
    exact lv_if_ge hx hb hd (xjmp_eq ho) (fun q => by rw [if_pos q] at kk; exact kk H locs ls hR) (fun q => by rw [if_neg q] at kk; exact kk H locs ls hR)
  · cases hA
theorem xs_icmp_gt {off : Int} (C : xCtx p D dA base b sc j s m args meth c) (hd : decode (xmc j) pc = .ok (.if_icmp .gt off, 3)) (hA : xact sc d j (.if_icmp .gt off) pc L S h = some (.inl (pc', L', S', h'))) (kk : xW p l e R s m args below meth c Q D dA base b n0 u0 j (pc') (L') (S') (h')) : xW p l e R s m args below meth c Q D dA base b n0 u0 j (pc) (L) (S) (h) := by
  obtain ⟨hx, hb, hr, hml, hown, hts, hlocks, hnm, htb, hG⟩ := C
  intro H locs ls hR
  simp only [xact] at hA
  split at hA
  · obtain ⟨ho, rfl, rfl, rfl, rfl⟩ := xbr_inj hA
    exact lv_icmp_gt hx hb hd (xjmp_eq ho) (fun q => by rw [if_pos q] at kk; exact kk H locs ls hR) (fun q => by rw [if_neg q] at kk; exact kk H locs ls hR)
  · cases hA
theorem xs_if_gt {off : Int} (C : xCtx p D dA base b sc j s m args meth c) (hd : decode (xmc j) pc = .ok (.ifCond .gt off, 3)) (hA : xact sc d j (.ifCond .gt off) pc L S h = some (.inl (pc', L', S', h'))) (kk : xW p l e R s m args below meth c Q D dA base b n0 u0 j (pc') (L') (S') (h')) : xW p l e R s m args below meth c Q D dA base b n0 u0 j (pc) (L) (S) (h) := by
  obtain ⟨hx, hb, hr, hml, hown, hts, hlocks, hnm, htb, hG⟩ := C
  intro H locs ls hR
  simp only [xact] at hA
  split at hA
  · obtain ⟨ho, rfl, rfl, rfl, rfl⟩ := xbr_inj hA
    exact lv_if_gt hx hb hd (xjmp_eq ho) (fun q => by rw [if_pos q] at kk; exact kk H locs ls hR) (fun q => by rw [if_neg q] at kk; exact kk H locs ls hR)
  · cases hA
theorem xs_icmp_le {off : Int} (C : xCtx p D dA base b sc j s m args meth c) (hd : decode (xmc j) pc = .ok (.if_icmp .le off, 3)) (hA : xact sc d j (.if_icmp .le off) pc L S h = some (.inl (pc', L', S', h'))) (kk : xW p l e R s m args below meth c Q D dA base b n0 u0 j (pc') (L') (S') (h')) : xW p l e R s m args below meth c Q D dA base b n0 u0 j (pc) (L) (S) (h) := by
  obtain ⟨hx, hb, hr, hml, hown, hts, hlocks, hnm, htb, hG⟩ := C
  intro H locs ls hR
  simp only [xact] at hA
  split at hA
  · obtain ⟨ho, rfl, rfl, rfl, rfl⟩ := xbr_inj hA
    exact lv_icmp_le hx hb hd (xjmp_eq ho) (fun q => by rw [if_pos q] at kk; exact kk H locs ls hR) (fun q => by rw [if_neg q] at kk; exact kk H locs ls hR)
  · cases hA
theorem xs_if_le {off : Int} (C : xCtx p D dA base b sc j s m args meth c) (hd : decode (xmc j) pc = .ok (.ifCond .le off, 3)) (hA : xact sc d j (.ifCond .le off) pc L S h = some (.inl (pc', L', S', h'))) (kk : xW p l e R s m args below meth c Q D dA base b n0 u0 j (pc') (L') (S') (h')) : xW p l e R s m args below meth c Q D dA base b n0 u0 j (pc) (L) (S) (h) := by
  obtain ⟨hx, hb, hr, hml, hown, hts, hlocks, hnm, htb, hG⟩ := C
  intro H locs ls hR
  simp only [xact] at hA
  split at hA
  · obtain ⟨ho, rfl, rfl, rfl, rfl⟩ := xbr_inj hA
    exact lv_if_le hx hb hd (xjmp_eq ho) (fun q => by rw [if_pos q] at kk; exact kk H locs ls hR) (fun q => by rw [if_neg q] at kk; exact kk H locs ls hR)
  · cases hA
theorem xs_goto {off : Int} (C : xCtx p D dA base b sc j s m args meth c) (hd : decode (xmc j) pc = .ok (.goto off, 3)) (hA : xact sc d j (.goto off) pc L S h = some (.inl (pc', L', S', h'))) (kk : xW p l e R s m args below meth c Q D dA base b n0 u0 j (pc') (L') (S') (h')) : xW p l e R s m args below meth c Q D dA base b n0 u0 j (pc) (L) (S) (h) := by
  obtain ⟨hx, hb, hr, hml, hown, hts, hlocks, hnm, htb, hG⟩ := C
  intro H locs ls hR
  simp only [xact] at hA
  split at hA
  · next ho =>
    obtain ⟨rfl, rfl, rfl, rfl⟩ := xgo_inj hA
    exact lv_goto hx hb hd (xjmp_eq ho) (kk H locs ls hR)
  · cases hA
theorem xs_ifnull {off : Int} (C : xCtx p D dA base b sc j s m args meth c) (hd : decode (xmc j) pc = .ok (.ifnull off, 3)) (hA : xact sc d j (.ifnull off) pc L S h = some (.inl (pc', L', S', h'))) (kk : xW p l e R s m args below meth c Q D dA base b n0 u0 j (pc') (L') (S') (h')) : xW p l e R s m args below meth c Q D dA base b n0 u0 j (pc) (L) (S) (h) := by
  obtain ⟨hx, hb, hr, hml, hown, hts, hlocks, hnm, htb, hG⟩ := C
  intro H locs ls hR
  simp only [xact] at hA
  split at hA
  · split at hA
    · next ho =>
      obtain ⟨rfl, rfl, rfl, rfl⟩ := xgo_inj hA
      exact lv_ifnullN hx hb hd (xjmp_eq ho) (kk H locs ls hR)
    · cases hA
  · obtain ⟨rfl, rfl, rfl, rfl⟩ := xgo_inj hA
    exact lv_ifnull hx hb hd (kk H locs ls hR)
  · cases hA
theorem xs_ifnonnull {off : Int} (C : xCtx p D dA base b sc j s m args meth c) (hd : decode (xmc j) pc = .ok (.ifnonnull off, 3)) (hA : xact sc d j (.ifnonnull off) pc L S h = some (.inl (pc', L', S', h'))) (kk : xW p l e R s m args below meth c Q D dA base b n0 u0 j (pc') (L') (S') (h')) : xW p l e R s m args below meth c Q D dA base b n0 u0 j (pc) (L) (S) (h) := by
  obtain ⟨hx, hb, hr, hml, hown, hts, hlocks, hnm, htb, hG⟩ := C
  intro H locs ls hR
  simp only [xact] at hA
  split at hA
  · split at hA
    · next ho =>
      obtain ⟨rfl, rfl, rfl, rfl⟩ := xgo_inj hA
      exact lv_ifnonnull hx hb hd (xjmp_eq ho) (kk H locs ls hR)
    · cases hA
  · obtain ⟨rfl, rfl, rfl, rfl⟩ := xgo_inj hA
    exact lv_ifnonnullN hx hb hd (kk H locs ls hR)
  · cases hA
theorem xs_table {dflt lo hi : Int} {offs : Array Int} {len : Nat} (C : xCtx p D dA base b sc j s m args meth c) (hd : decode (xmc j) pc = .ok (.tableswitch dflt lo hi offs, len)) (hA : xact sc d j (.tableswitch dflt lo hi offs) pc L S h = some (.inl (pc', L', S', h'))) (kk : xW p l e R s m args below meth c Q D dA base b n0 u0 j (pc') (L') (S') (h')) : xW p l e R s m args below meth c Q D dA base b n0 u0 j (pc) (L) (S) (h) := by
  obtain ⟨hx, hb, hr, hml, hown, hts, hlocks, hnm, htb, hG⟩ := C
  intro H locs ls hR
  simp only [xact] at hA
  split at hA
  · split at hA
    · next hz =>
      split at hA
      · next ho =>
        obtain ⟨rfl, rfl, rfl, rfl⟩ := xgo_inj hA
        exact lv_tableOut hx hb hd hz (xjmp_eq ho) (kk H locs ls hR)
      · cases hA
    · next hz =>
      split at hA
      · next off hoff =>
        split at hA
        · next ho =>
          obtain ⟨rfl, rfl, rfl, rfl⟩ := xgo_inj hA
          exact lv_tableIn hx hb hd (fun q => hz (Or.inl q)) (fun q => hz (Or.inr q)) hoff (xjmp_eq ho) (kk H locs ls hR)
        · cases hA
      · cases hA
  · cases hA
theorem xIC_at {o i : Nat} {v : Int32 × Nat} (h : xlk xIC o i = some v) : (Cond.constant (xC o) i v.1) ∈ xG0 := by
  have h1 := xIC_ok
  rw [Bool.and_eq_true, List.all_eq_true, List.all_eq_true] at h1
  have h2 := h1.1 _ (xlk_mem h)
  exact xG0_of (of_decide_eq_true h2) rfl
theorem xJC_at {o i : Nat} {v : Int64 × Nat} (h : xlk xJC o i = some v) : (Cond.constantLong (xC o) i v.1) ∈ xG0 := by
  have h1 := xIC_ok
  rw [Bool.and_eq_true, List.all_eq_true, List.all_eq_true] at h1
  have h2 := h1.2 _ (xlk_mem h)
  exact xG0_of (of_decide_eq_true h2) rfl
theorem xs_ldc {k : Nat} (C : xCtx p D dA base b sc j s m args meth c) (hd : decode (xmc j) pc = .ok (.ldc k, 2)) (hA : xact sc d j (.ldc k) pc L S h = some (.inl (pc', L', S', h'))) (kk : xW p l e R s m args below meth c Q D dA base b n0 u0 j (pc') (L') (S') (h')) : xW p l e R s m args below meth c Q D dA base b n0 u0 j (pc) (L) (S) (h) := by
  obtain ⟨hx, hb, hr, hml, hown, hts, hlocks, hnm, htb, hG⟩ := C
  intro H locs ls hR
  simp only [xact] at hA
  split at hA
  · next v hv =>
    obtain ⟨rfl, rfl, rfl, rfl⟩ := xgo_inj hA
    exact lv_ldc hx hb hown (hts _ (xIC_at hv)) hd (kk H locs ls hR)
  · cases hA
theorem xs_ldc2 {k : Nat} (C : xCtx p D dA base b sc j s m args meth c) (hd : decode (xmc j) pc = .ok (.ldc2_w k, 3)) (hA : xact sc d j (.ldc2_w k) pc L S h = some (.inl (pc', L', S', h'))) (kk : xW p l e R s m args below meth c Q D dA base b n0 u0 j (pc') (L') (S') (h')) : xW p l e R s m args below meth c Q D dA base b n0 u0 j (pc) (L) (S) (h) := by
  obtain ⟨hx, hb, hr, hml, hown, hts, hlocks, hnm, htb, hG⟩ := C
  intro H locs ls hR
  simp only [xact] at hA
  split at hA
  · next v hv =>
    obtain ⟨rfl, rfl, rfl, rfl⟩ := xgo_inj hA
    exact lv_ldc2 hx hb hown (hts _ (xJC_at hv)) hd (kk H locs ls hR)
  · cases hA
/-! fields and arrays -/
theorem xFL_at {o i : Nat} {v : Nat × Nat × Bool × Nat} (h : xlk xFL o i = some v) : v.1 < 8 ∧ v.2.1 < xN v.1 ∧ xlkF o i v ∈ lw_tbl ∧ (v.2.2.1 = false → xlkF o i v ∈ xG0) := by
  have h1 := List.all_eq_true.mp xFL_ok _ (xlk_mem h)
  have h2 := List.all_eq_true.mp xFL_good _ (xlk_mem h)
  rw [Bool.and_eq_true] at h1
  have h3 := of_decide_eq_true h1.1
  have h4 : lw_tbl[v.2.2.2]? = some (xlkF o i v) := of_decide_eq_true h1.2
  refine ⟨h3.1, h3.2, List.mem_of_getElem? h4, fun e => xG0_of h4 ?_⟩
  simp only [e, Bool.false_or] at h2
  exact h2
theorem xUW_at {c : Nat} (hc : c < 8) : ∀ w ∈ u_ws (xC c) (xT c) (xN c), w ∈ xG0 := by
  intro w hw
  have h1 := List.all_eq_true.mp xUW_ok c (List.mem_range.mpr hc)
  have h2 := List.all_eq_true.mp h1 w hw
  rw [Bool.and_eq_true] at h2
  exact List.mem_filter.mpr ⟨of_decide_eq_true h2.1, h2.2⟩
theorem xY_at {c : Nat} (hc : c < 8) : (∀ k, k < xN c → parseFieldDescriptor (xT c k).2.2.1 = some (xY c k)) ∧ ∀ a, a < xN c → ∀ b, b < xN c → a ≠ b → (xT c a).2.1 ≠ (xT c b).2.1 := by
  have h1 := List.all_eq_true.mp xY_ok c (List.mem_range.mpr hc)
  refine ⟨fun k hk => ?_, fun a ha b hb hab => ?_⟩
  · have h2 := List.all_eq_true.mp h1 k (List.mem_range.mpr hk)
    rw [Bool.and_eq_true] at h2
    exact of_decide_eq_true h2.1
  · have h2 := List.all_eq_true.mp h1 a (List.mem_range.mpr ha)
    rw [Bool.and_eq_true] at h2
    have h3 := of_decide_eq_true (List.all_eq_true.mp h2.2 b (List.mem_range.mpr hb))
    exact h3.resolve_left hab
theorem xY_own_at {c k : Nat} (hc : c < 8) (hk : k < xN c) : (xT c k).1 = xC c := by
  have h1 := List.all_eq_true.mp xY_own c (List.mem_range.mpr hc)
  exact of_decide_eq_true (List.all_eq_true.mp h1 k (List.mem_range.mpr hk))
/-- an object's cell -/
theorem xcell_obj {c a : Nat} (hc : c < 11) (hT : h.1 a = (1 + c, 0)) : xcell dA base h a = .inr (c, xfld base h a c) := by
  have e : (h.1 a).1 = 1 + c := by rw [hT]
  have e2 : 1 + c - 1 = c := by omega
  simp only [xcell, e]
  rw [if_neg (by omega), if_neg (by omega), if_neg (by omega), if_neg (by omega), e2]
theorem xfld_get {c a k : Nat} (hk : k < xN c) : (xfld base h a c)[k]? = some (if xfk c k = 2 then va_rf ((h.2.2.2.2 a k).map (fun q => base + q)) else .int (h.2.2.1 a k)) := by
  simp [xfld, hk]
theorem xtr_rf {r : Option Nat} : xtr base b (va_rf r) = va_rf (r.map (fun q => base + q)) := by cases r <;> rfl
theorem xRel_lt {H : Heap} {locs : List Loc} {ls : Array Slot} (hR : xRel D dA base b n0 u0 j s h L H locs ls) {a : Nat} (hT : (h.1 a).1 ≠ 0) : a < h.2.1.1 :=
  Nat.lt_of_not_le fun q => hT (hR.2.2.2.2.2.2 a q)
theorem xRel_ob {H : Heap} {locs : List Loc} {ls : Array Slot} (hR : xRel D dA base b n0 u0 j s h L H locs ls) {a c : Nat} (hc : c < 11) (hT : h.1 a = (1 + c, 0)) : (xws dA base h)[a]? = some (base + a, .inr (c, xfld base h a c)) := by
  rw [xws_get (xRel_lt hR (by rw [hT]; show 1 + c ≠ 0; omega)), xcell_obj hc hT]
/-- the words of a nest mate's field -/
theorem xNW_at (hG : xG D dA base b sc s) {o i c k pos : Nat} (h : xlk xFL o i = some (c, k, true, pos)) : (Cond.fieldLinkNest (xC o) i (xT c k).1 (xT c k).2.1 (xT c k).2.2.1 "Saddletree").before args s = true := by
  have h1 := (xFL_at h).2.2.1
  simp only [xlkF, if_true] at h1
  exact va_Nw.use rfl (hG.2.2.2.2.2.2.1 _ (List.mem_filter.mpr ⟨h1, rfl⟩))
theorem xFL_own {o i c k pos : Nat} (hts : ∀ w ∈ xG0, w.before args s = true) (h : xlk xFL o i = some (c, k, false, pos)) : (Cond.fieldLink (xC o) i (xT c k).1 (xT c k).2.1 (xT c k).2.2.1).before args s = true := by
  have h1 := hts _ ((xFL_at h).2.2.2 rfl)
  simp only [xlkF] at h1
  exact h1
theorem xFL_c {o i c k pos : Nat} {n : Bool} (h : xlk xFL o i = some (c, k, n, pos)) : c < 8 ∧ k < xN c := ⟨(xFL_at h).1, (xFL_at h).2.1⟩
theorem xs_getfield {idx : Nat} (C : xCtx p D dA base b sc j s m args meth c) (hd : decode (xmc j) pc = .ok (.getfield idx, 3)) (hA : xact sc d j (.getfield idx) pc L S h = some (.inl (pc', L', S', h'))) (kk : xW p l e R s m args below meth c Q D dA base b n0 u0 j (pc') (L') (S') (h')) : xW p l e R s m args below meth c Q D dA base b n0 u0 j (pc) (L) (S) (h) := by
  obtain ⟨hx, hb, hr, hml, hown, hts, hlocks, hnm, htb, hG⟩ := C
  intro H locs ls hR
  simp only [xact] at hA
  split at hA
  · next a S2 =>
    split at hA
    · next c k n pos hf =>
      split at hA
      · next hT =>
        obtain ⟨rfl, rfl, rfl, rfl⟩ := xgo_inj hA
        obtain ⟨hc, hk⟩ := xFL_c hf
        have hv := xfld_get (base := base) (h := h) (a := a) hk
        have ev : xtr base b (if xfk c k = 2 then va_rf (h.2.2.2.2 a k) else .int (h.2.2.1 a k)) = if xfk c k = 2 then va_rf ((h.2.2.2.2 a k).map (fun q => base + q)) else .int (h.2.2.1 a k) := by
          split
          · exact xtr_rf
          · rfl
        rw [← ev] at hv
        have ho := xRel_ob hR (c := c) (by omega) hT
        have hcl := xcl_get (c := c) (by omega)
        have hk3 := kk H locs ls hR
        cases n with
        | true =>
          have hl : (Cond.fieldLinkNest (xC (xmo j)) idx (xT c k).1 (xT c k).2.1 (xT c k).2.2.1 "Saddletree").before args s = true := xNW_at hG hf
          exact va_getN (own := xC (xmo j)) (ref := (xT c k).1) (index := idx) (C := xC c) (T := xT c) (N := xN c) (host := "Saddletree") hx hb hts (xUW_at hc) hown hG.1 hR.1 a ho hcl k hk hl (fun _ q => q) hv hd hk3
        | false =>
          have hl : (Cond.fieldLink (xC (xmo j)) idx (xT c k).1 (xT c k).2.1 (xT c k).2.2.1).before args s = true := xFL_own hts hf
          exact va_get (own := xC (xmo j)) (ref := (xT c k).1) (index := idx) (C := xC c) (T := xT c) (N := xN c) hx hb hts (xUW_at hc) hown hG.1 hR.1 a ho hcl k hk hl (fun _ q => q) hv hd hk3
      · cases hA
    · cases hA
  · cases hA
theorem xRel_wr {H H1 : Heap} {locs locs1 : List Loc} {ls : Array Slot} (hR : xRel D dA base b n0 u0 j s h L H locs ls) {h2 : xH} {a : Nat} (hP : va_P D xcl ((xws dA base h).set a (base + a, xcell dA base h2 a)) H1) (hS : va_S (xAA base) s.heap H1 locs1) (hT : h2.1 = h.1) (hz : h2.2.1 = h.2.1) (ho : ∀ q, q ≠ a → xcell dA base h2 q = xcell dA base h q) : xRel D dA base b n0 u0 j s h2 L H1 locs1 ls := by
  obtain ⟨r1, r2, r3, r4, r5, r6, r7⟩ := hR
  refine ⟨?_, hS, r3, r4, by rw [hz]; exact r5, by rw [hz]; exact r6, fun q hq => by rw [hT]; exact r7 q (by rw [← hz]; exact hq)⟩
  rw [← xws_set (by rw [hz]) ho]
  exact hP
theorem xfld_I {a c k : Nat} {x : Int32} (hk : xfk c k ≠ 2) : xfld base (h.1, h.2.1, xup2 h.2.2.1 a k x, h.2.2.2.1, h.2.2.2.2) a c = (xfld base h a c).set k (.int x) := by
  refine List.ext_getElem? fun i => ?_
  rw [List.getElem?_set]
  by_cases hi : i < xN c
  · have hl : (xfld base h a c).length = xN c := by simp [xfld]
    rw [xfld_get hi, xfld_get hi]
    by_cases e : k = i
    · subst e
      rw [if_pos rfl, if_pos (show k < (xfld base h a c).length by rw [hl]; exact hi), if_neg hk]
      simp [xup2]
    · rw [if_neg e]
      have : ¬ i = k := fun q => e q.symm
      simp [xup2, this]
  · have hl : ∀ h2 : xH, (xfld base h2 a c)[i]? = none := fun h2 => by rw [List.getElem?_eq_none_iff]; simp [xfld]; omega
    rw [hl, hl]
    by_cases e : k = i
    · subst e
      rw [if_pos rfl, if_neg]
      simp [xfld]
      omega
    · rw [if_neg e]
theorem xfld_R {a c k : Nat} {r : Option Nat} (hk : xfk c k = 2) : xfld base (h.1, h.2.1, h.2.2.1, h.2.2.2.1, xup2 h.2.2.2.2 a k r) a c = (xfld base h a c).set k (va_rf (r.map (fun q => base + q))) := by
  refine List.ext_getElem? fun i => ?_
  rw [List.getElem?_set]
  by_cases hi : i < xN c
  · have hl : (xfld base h a c).length = xN c := by simp [xfld]
    rw [xfld_get hi, xfld_get hi]
    by_cases e : k = i
    · subst e
      rw [if_pos rfl, if_pos (show k < (xfld base h a c).length by rw [hl]; exact hi), if_pos hk]
      simp [xup2]
    · rw [if_neg e]
      have : ¬ i = k := fun q => e q.symm
      simp [xup2, this]
  · have hl : ∀ h2 : xH, (xfld base h2 a c)[i]? = none := fun h2 => by rw [List.getElem?_eq_none_iff]; simp [xfld]; omega
    rw [hl, hl]
    by_cases e : k = i
    · subst e
      rw [if_pos rfl, if_neg]
      simp [xfld]
      omega
    · rw [if_neg e]
/-- a field takes what is put -/
theorem xfk_ty {c k : Nat} (hc : c < 8) (hk : k < xN c) : (xfk c k = 0 → xY c k = .int) ∧ (xfk c k = 1 → xY c k = .boolean) ∧ (xfk c k = 2 → (∃ n, xY c k = .object n) ∨ ∃ t, xY c k = .array t) := by
  have h1 := List.all_eq_true.mp (List.all_eq_true.mp xfk_ok c (List.mem_range.mpr hc)) k (List.mem_range.mpr hk)
  unfold xfk
  cases hy : xY c k <;> rw [hy] at h1 <;> simp_all
theorem xput {c k : Nat} {x : Int32} (hc : c < 8) (hk : k < xN c) (h1 : xfk c k = 0 ∨ (xfk c k = 1 ∧ (x = 0 ∨ x = 1))) : narrow (xY c k) (.int x) = .int x ∧ fits (xY c k) (.int x) = true := by
  obtain ⟨t0, t1, -⟩ := xfk_ty hc hk
  rcases h1 with h1 | ⟨h1, rfl | rfl⟩
  · rw [t0 h1]; exact ⟨rfl, rfl⟩
  · rw [t1 h1]; exact ⟨rfl, rfl⟩
  · rw [t1 h1]; exact ⟨rfl, rfl⟩
theorem xputR {c k : Nat} {q : Nat} (hc : c < 8) (hk : k < xN c) (h1 : xfk c k = 2) : narrow (xY c k) (.ref q) = .ref q ∧ fits (xY c k) (.ref q) = true := by
  rcases (xfk_ty hc hk).2.2 h1 with ⟨n, e⟩ | ⟨n, e⟩ <;> rw [e] <;> exact ⟨rfl, rfl⟩
end XST
