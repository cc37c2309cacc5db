section XST5
variable {p : Program} {l : Launch} {e : Env} {R : Room} {s : State} {m : MethodId} {args : Array Value} {below : List Frame} {meth : Method} {c : Code} {Q : State → Prop} {D : va_G} {dA : Nat → ClassId} {base b n0 u0 j d pc pc' : Nat} {L L' : xL} {S S' : List Value} {h h' : xH} {sc : xS}
/-! nothing is given back: cells and slots only grow -/
def xle (h h' : xH) : Prop := h.2.1.1 ≤ h'.2.1.1 ∧ h.2.1.2 ≤ h'.2.1.2
theorem xle_rf (h : xH) : xle h h := ⟨Nat.le_refl _, Nat.le_refl _⟩
theorem xle_tr {h1 h2 h3 : xH} (a : xle h1 h2) (b : xle h2 h3) : xle h1 h3 := ⟨Nat.le_trans a.1 b.1, Nat.le_trans a.2 b.2⟩
theorem xle_new (h : xH) (sh : Nat × Nat) (n : Nat) : xle h (xnew h sh n) := ⟨Nat.le_succ _, Nat.le_add_right _ _⟩
theorem xcal_no {j0 : Nat} {as : List Value} {S0 : List Value} (hA : xcal j0 as pc S0 = some (.inl (pc', L', S', h'))) : False := by cases hA
theorem xinv_no {j0 : Nat} {S0 : List Value} (hA : xinv j0 pc S0 = some (.inl (pc', L', S', h'))) : False := by
  unfold xinv at hA
  split at hA
  · exact xcal_no hA
  · cases hA
theorem xend_no {o : xO} {h0 : xH} (hA : xend o h0 = some (.inl (pc', L', S', h'))) : False := by cases hA
set_option maxHeartbeats 4000000 in
theorem xact_mono {ins : Instr} (hA : xact sc d j ins pc L S h = some (.inl (pc', L', S', h'))) : xle h h' := by
  unfold xact at hA
  split at hA
  all_goals repeat' (split at hA)
  all_goals first
    | (cases hA; done)
    | exact (xthr_no hA).elim
    | exact (xinv_no hA).elim
    | exact (xend_no hA).elim
    | (obtain ⟨-, -, -, rfl⟩ := xgo_inj hA; first | exact xle_rf _ | exact xle_new _ _ _)
    | (obtain ⟨-, -, -, -, rfl⟩ := xst_inj hA; exact xle_rf _)
    | (obtain ⟨-, -, -, -, rfl⟩ := xbr_inj hA; exact xle_rf _)
theorem xend_inj {o o2 : xO} {h1 h2 : xH} (e : xend o h1 = some (.inr (.inl (o2, h2)))) : o = o2 ∧ h1 = h2 := by
  unfold xend at e
  cases e
  exact ⟨rfl, rfl⟩
theorem xgo_ne {a : Nat} {L2 : xL} {S2 : List Value} {h2 : xH} {r : (xO × xH) ⊕ (Nat × List Value × Nat × List Value)} (hA : xgo a L2 S2 h2 = some (.inr r)) : False := by cases hA
theorem xst_ne {a k : Nat} {v : Value} {L2 : xL} {S2 : List Value} {h2 : xH} {r : (xO × xH) ⊕ (Nat × List Value × Nat × List Value)} (hA : xst L2 k v a S2 h2 = some (.inr r)) : False := by
  unfold xst at hA
  split at hA
  · exact xgo_ne hA
  · cases hA
theorem xbr_ne {cnd : Prop} {ic : Decidable cnd} {off : Int} {r : (xO × xH) ⊕ (Nat × List Value × Nat × List Value)} (hA : @xbr cnd ic pc off L S h = some (.inr r)) : False := by
  unfold xbr at hA
  split at hA
  · exact xgo_ne hA
  · cases hA
theorem xinv_ne {j0 : Nat} {S0 : List Value} {r : xO × xH} (hA : xinv j0 pc S0 = some (.inr (.inl r))) : False := by
  unfold xinv at hA
  split at hA
  · cases hA
  · cases hA
theorem xthr_eq {i e0 : Nat} {o : xO} (hA : xthr d i pc e0 S h = some (.inr (.inl (o, h')))) : o = .inr e0 ∧ h' = xnew h (1 + e0, 0) 6 := by
  unfold xthr at hA
  split at hA
  · split at hA
    · split at hA
      · split at hA
        · obtain ⟨e1, e2⟩ := xend_inj hA; exact ⟨e1.symm, e2.symm⟩
        · cases hA
      · cases hA
    · split at hA
      · split at hA
        · obtain ⟨e1, e2⟩ := xend_inj hA; exact ⟨e1.symm, e2.symm⟩
        · cases hA
      · cases hA
    · cases hA
  · cases hA
theorem xthr_nc {i e0 : Nat} {r : Nat × List Value × Nat × List Value} (hA : xthr d i pc e0 S h = some (.inr (.inr r))) : False := by
  unfold xthr at hA
  split at hA
  · split at hA
    · split at hA
      · split at hA <;> cases hA
      · cases hA
    · split at hA
      · split at hA <;> cases hA
      · cases hA
    · cases hA
  · cases hA
set_option maxHeartbeats 4000000 in
theorem xact_monoE {ins : Instr} {o : xO} (hA : xact sc d j ins pc L S h = some (.inr (.inl (o, h')))) : xle h h' := by
  unfold xact at hA
  split at hA
  all_goals repeat' (split at hA)
  all_goals first
    | (cases hA; done)
    | exact (xgo_ne hA).elim
    | exact (xst_ne hA).elim
    | exact (xbr_ne hA).elim
    | exact (xinv_ne hA).elim
    | (obtain ⟨-, rfl⟩ := xend_inj hA; exact xle_rf _)
    | (obtain ⟨-, rfl⟩ := xthr_eq hA; exact xle_new _ _ _)
theorem xret_le {i : Nat} {k : xK1} {r : xR} {h0 : xH} (hk : ∀ pc L S h o, k pc L S h = some o → xle h o.2) (hr : ∀ o, r = some o → xle h0 o.2) {o : xO × xH} (hh : xret i k pc pc' L S r = some o) : xle h0 o.2 := by
  cases r with
  | none => cases hh
  | some q =>
    have h1 := hr q rfl
    obtain ⟨q1, q2⟩ := q
    cases q1 with
    | inl v => cases v with
      | none => exact xle_tr h1 (hk _ _ _ _ _ hh)
      | some v => exact xle_tr h1 (hk _ _ _ _ _ hh)
    | inr e =>
      simp only [xret] at hh
      split at hh
      · cases hh; exact h1
      · split at hh
        · split at hh
          · exact xle_tr h1 (hk _ _ _ _ _ hh)
          · cases hh
        · cases hh
theorem xrun_le {i : Nat} {call : xC1} (hc : ∀ j as h o, call j as h = some o → xle h o.2) (F : Nat) : ∀ pc L S h o, xrun sc d i call F pc L S h = some o → xle h o.2 := by
  induction F with
  | zero => intro pc L S h o hh; cases hh
  | succ F ih =>
    intro pc L S h o hh
    simp only [xrun] at hh
    split at hh
    · cases hh
    · next ins hins =>
      generalize hA : xact sc d i ins pc L S h = A at hh
      match A, hA, hh with
      | some (.inl (pc', L', S', h')), hA, hh => exact xle_tr (xact_mono hA) (ih _ _ _ _ _ hh)
      | some (.inr (.inl (o1, h1))), hA, hh => cases hh; exact xact_monoE hA
      | some (.inr (.inr (j, as, pc', S'))), hA, hh => exact xret_le ih (fun o h1 => hc _ _ _ _ h1) hh
theorem xcall_le (d : Nat) : ∀ (F j : Nat) (as : List Value) (h : xH) (o : xO × xH), xcall sc d F j as h = some o → xle h o.2 := by
  induction d with
  | zero => intro F j as h o hh; rw [xcall_0] at hh; cases hh
  | succ d ih =>
    intro F j as h o hh
    rw [xcall_s] at hh
    split at hh
    · exact xrun_le (fun j as h o q => ih F j as h o q) F _ _ _ _ _ hh
    · cases hh
end XST5
