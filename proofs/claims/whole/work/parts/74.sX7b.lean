/-! what the model does with hides -/
/-- how many bits are set among the squares from k on -/
def xMc (B : Nat → Int) (h : Int) : Nat → Nat → Int
  | 0, _ => 0
  | m + 1, k => iAnd (iShr (B (8 * h + (k : Int) / 12).toNat) ((k : Int) % 12)) 1 + xMc B h m (k + 1)
/-- whether no bit of the set is there, in the rows from k on -/
def xMw (B : Nat → Int) (h s : Int) : Nat → Int → Int → Int
  | 0, _, b => b
  | m + 1, k, b => xMw B h s m (k + 1) (if b = 0 then 0 else if iAnd (B (8 * h + k).toNat) s = 0 then 1 else 0)
theorem xMw_01 {B : Nat → Int} {h s : Int} : ∀ (m : Nat) (k b : Int), b = 0 ∨ b = 1 → xMw B h s m k b = 0 ∨ xMw B h s m k b = 1 := by
  intro m
  induction m with
  | zero => intro k b hb; exact hb
  | succ m ih =>
    intro k b hb
    rw [xMw]
    refine ih (k + 1) _ ?_
    repeat' split
    all_goals omega
def xMsk (c al : Int) : Int := iShl (iShl 1 al - 1) c
def xMW (B : Nat → Int) (h c r al wi st : Int) : Int := xMw B h (xMsk c al) wi.toNat r (if st = 0 ∨ r + wi ≤ 5 then 1 else 0)
theorem xMW_01 {B : Nat → Int} {h c r al wi st : Int} : xMW B h c r al wi st = 0 ∨ xMW B h c r al wi st = 1 := xMw_01 _ _ _ (by split <;> omega)
/-- a set of bits is put into the rows from k on -/
def xMb (h s : Int) : Nat → Int → (Nat → Nat → Int) → (Nat → Nat → Int)
  | 0, _, V => V
  | m + 1, k, V => xMb h s m (k + 1) (xup2 V 58 (8 * h + k).toNat (iOr (V 58 (8 * h + k).toNat) s))
theorem xMb_o {h s : Int} {b : Nat} (hb : ¬ b = 58) : ∀ (m : Nat) (k : Int) (V : Nat → Nat → Int), xMb h s m k V b = V b := by
  intro m
  induction m with
  | zero => intro k V; rfl
  | succ m ih => intro k V; rw [xMb, ih, xup2_o hb]
section SX7b
variable {sc : xS} {d : Nat} {T : Nat → Nat × Nat} {z : Nat × Nat} {V : Nat → Nat → Int} {J : Nat → Nat → Int64} {R : Nat → Nat → Option Nat}
theorem m_fault_loop {h : Int} {o2 o3 : Option Value} (hM : xMo T R) (hh : 0 ≤ h ∧ h < 8) :
    ∀ (m k : Nat) (n : Int), k + m = 96 →
    XR sc d 100 53 [some (.ref 56), some (xw h), o2, o3, some (xw n), some (xw k)] [] (T, z, xv V, J, R) = some (.inl (some (xw (96 - (n + xMc (V 58) h m k)))), (T, z, xv (V), J, R)) := by
  intro m
  induction m with
  | zero =>
    intro k n hk
    rw [bX7_fault_53 (by omega), if_pos (by omega), bX7_fault_94, xMc, Int.add_zero]
  | succ m ih =>
    intro k n hk
    rw [bX7_fault_53 (by omega), if_neg (by omega), n_fault_60 hM (by omega) (by omega), show (k : Int) + 1 = ((k + 1 : Nat) : Int) by omega, ih (k + 1) _ (by omega), xMc, Int.add_assoc]
theorem m_fault {h c r : Int} (hM : xMo T R) (h0 : 0 ≤ V 56 0 ∧ V 56 0 ≤ 8) (hh : (-2147483648 ≤ h ∧ h ≤ 2147483647)) (hc : (-2147483648 ≤ c ∧ c ≤ 2147483647)) (hr : (-2147483648 ≤ r ∧ r ≤ 2147483647)) :
    X sc (d + 3) 100 [.ref 56, xw h, xw c, xw r] (T, z, xv V, J, R) =
      if (0 ≤ h ∧ h < V 56 0) ∧ (0 ≤ c ∧ c < 12) ∧ (0 ≤ r ∧ r < 8) then
        some (.inl (some (xw (96 - (0 + xMc (xup2 (xup2 V 56 28 0) 58 (8 * h + r).toNat (iOr (V 58 (8 * h + r).toNat) (iShl 1 c)) 58) h 96 0)))), (T, z, xv (xup2 (xup2 V 56 28 0) 58 (8 * h + r).toNat (iOr (V 58 (8 * h + r).toNat) (iShl 1 c))), J, R))
      else some (.inl (some (xw 0)), (T, z, xv (xup2 V 56 28 1), J, R)) := by
  have key := m_fault_loop (sc := sc) (d := d + 2) (T := T) (z := z) (V := xup2 (xup2 V 56 28 0) 58 (8 * h + r).toNat (iOr (V 58 (8 * h + r).toNat) (iShl 1 c))) (J := J) (R := R) (h := h) (o2 := some (xw c)) (o3 := some (xw r)) hM
  by_cases c1 : 0 ≤ h ∧ h < V 56 0
  · by_cases c2 : (0 ≤ c ∧ c < 12) ∧ (0 ≤ r ∧ r < 8)
    · simp (disch := (first | omega | assumption | exact iAnd_in | exact iShr_in | exact jCmp_in | (simp (disch := omega) only [xup2_o, xup2_i, xup2_j]; omega))) only [↓if_pos, ↓if_neg, xret_v, xret_n, xup2_o, xup2_i, xup2_j, eX7_fault, n_fault_0 hM, bX7_fault_6, bX7_fault_9, bX7_fault_14, bX7_fault_17, bX7_fault_21, n_fault_22 hM, bX7_fault_25, bX7_fault_28, n_fault_30 hM, m_isHide hM, m_isSquare, m_fails hM]
      exact key (by omega) 96 0 0 rfl
    · simp (disch := (first | omega | assumption | exact iAnd_in | exact iShr_in | exact jCmp_in | (simp (disch := omega) only [xup2_o, xup2_i, xup2_j]; omega))) only [↓if_pos, ↓if_neg, xret_v, xret_n, xup2_o, xup2_i, xup2_j, eX7_fault, n_fault_0 hM, bX7_fault_6, bX7_fault_9, bX7_fault_14, bX7_fault_17, bX7_fault_21, n_fault_22 hM, bX7_fault_25, bX7_fault_28, n_fault_30 hM, m_isHide hM, m_isSquare, m_fails hM]
  · simp (disch := (first | omega | assumption | exact iAnd_in | exact iShr_in | exact jCmp_in | (simp (disch := omega) only [xup2_o, xup2_i, xup2_j]; omega))) only [↓if_pos, ↓if_neg, xret_v, xret_n, xup2_o, xup2_i, xup2_j, eX7_fault, n_fault_0 hM, bX7_fault_6, bX7_fault_9, bX7_fault_14, bX7_fault_17, bX7_fault_21, n_fault_22 hM, bX7_fault_25, bX7_fault_28, n_fault_30 hM, m_isHide hM, m_isSquare, m_fails hM]
theorem m_isWhole_loop {h r wi s : Int} {o2 o4 o6 : Option Value} (hM : xMo T R) (hh : 0 ≤ h ∧ h < 8) (hr : 0 ≤ r ∧ 0 ≤ wi ∧ r + wi ≤ 8) :
    ∀ (m : Nat) (k b : Int), 0 ≤ k → k + m = r + wi → b = 0 ∨ b = 1 →
    XR sc d 102 33 [some (.ref 56), some (xw h), o2, some (xw r), o4, some (xw wi), o6, some (xw s), some (xw b), some (xw k)] [] (T, z, xv V, J, R) = some (.inl (some (xw (xMw (V 58) h s m k b))), (T, z, xv (V), J, R)) := by
  intro m
  induction m with
  | zero =>
    intro k b hk0 hk hb
    rw [bX7_isWhole_33 (by omega) (by omega), if_pos (by omega), bX7_isWhole_78 hb, xMw]
  | succ m ih =>
    intro k b hk0 hk hb
    rw [bX7_isWhole_33 (by omega) (by omega), if_neg (by omega), xMw]
    by_cases c : b = 0
    · simp (disch := (first | omega | assumption | exact iAnd_in | exact iShr_in | exact jCmp_in | (simp (disch := omega) only [xup2_o, xup2_i, xup2_j]; omega))) only [↓if_pos, ↓if_neg, xret_v, xret_n, xup2_o, xup2_i, xup2_j, eX7_isWhole, bX7_isWhole_0, bX7_isWhole_15, bX7_isWhole_23, bX7_isWhole_27, bX7_isWhole_28, bX7_isWhole_42, n_isWhole_47 hM, bX7_isWhole_65, bX7_isWhole_69, bX7_isWhole_70, bX7_isWhole_78]
      exact ih (k + 1) 0 (by omega) (by omega) (Or.inl rfl)
    · by_cases c2 : iAnd (V 58 (8 * h + k).toNat) s = 0
      · simp (disch := (first | omega | assumption | exact iAnd_in | exact iShr_in | exact jCmp_in | (simp (disch := omega) only [xup2_o, xup2_i, xup2_j]; omega))) only [↓if_pos, ↓if_neg, xret_v, xret_n, xup2_o, xup2_i, xup2_j, eX7_isWhole, bX7_isWhole_0, bX7_isWhole_15, bX7_isWhole_23, bX7_isWhole_27, bX7_isWhole_28, bX7_isWhole_42, n_isWhole_47 hM, bX7_isWhole_65, bX7_isWhole_69, bX7_isWhole_70, bX7_isWhole_78]
        exact ih (k + 1) 1 (by omega) (by omega) (Or.inr rfl)
      · simp (disch := (first | omega | assumption | exact iAnd_in | exact iShr_in | exact jCmp_in | (simp (disch := omega) only [xup2_o, xup2_i, xup2_j]; omega))) only [↓if_pos, ↓if_neg, xret_v, xret_n, xup2_o, xup2_i, xup2_j, eX7_isWhole, bX7_isWhole_0, bX7_isWhole_15, bX7_isWhole_23, bX7_isWhole_27, bX7_isWhole_28, bX7_isWhole_42, n_isWhole_47 hM, bX7_isWhole_65, bX7_isWhole_69, bX7_isWhole_70, bX7_isWhole_78]
        exact ih (k + 1) 0 (by omega) (by omega) (Or.inl rfl)
theorem m_isWhole {h c r al wi st : Int} (hM : xMo T R) (hh : 0 ≤ h ∧ h < 8) (hr : 0 ≤ r ∧ 0 ≤ wi ∧ r + wi ≤ 8) (hs : st = 0 ∨ st = 1) :
    X sc (d + 1) 102 [.ref 56, xw h, xw c, xw r, xw al, xw wi, xw st] (T, z, xv V, J, R) = some (.inl (some (xw (xMW (V 58) h c r al wi st))), (T, z, xv (V), J, R)) := by
  have key := m_isWhole_loop (sc := sc) (d := d) (T := T) (z := z) (V := V) (J := J) (R := R) (h := h) (r := r) (wi := wi) (s := xMsk c al) (o2 := some (xw c)) (o4 := some (xw al)) (o6 := some (xw st)) hM hh hr wi.toNat r
  by_cases c1 : st = 0
  · simp (disch := (first | omega | assumption | exact iAnd_in | exact iShr_in | exact jCmp_in | (simp (disch := omega) only [xup2_o, xup2_i, xup2_j]; omega))) only [↓if_pos, ↓if_neg, xret_v, xret_n, xup2_o, xup2_i, xup2_j, eX7_isWhole, bX7_isWhole_0, bX7_isWhole_15, bX7_isWhole_23, bX7_isWhole_27, bX7_isWhole_28, bX7_isWhole_42, n_isWhole_47 hM, bX7_isWhole_65, bX7_isWhole_69, bX7_isWhole_70, bX7_isWhole_78]
    unfold xMW
    rw [if_pos (Or.inl c1)]
    exact key 1 (by omega) (by omega) (by omega)
  · by_cases c2 : r + wi ≤ 5
    · simp (disch := (first | omega | assumption | exact iAnd_in | exact iShr_in | exact jCmp_in | (simp (disch := omega) only [xup2_o, xup2_i, xup2_j]; omega))) only [↓if_pos, ↓if_neg, xret_v, xret_n, xup2_o, xup2_i, xup2_j, eX7_isWhole, bX7_isWhole_0, bX7_isWhole_15, bX7_isWhole_23, bX7_isWhole_27, bX7_isWhole_28, bX7_isWhole_42, n_isWhole_47 hM, bX7_isWhole_65, bX7_isWhole_69, bX7_isWhole_70, bX7_isWhole_78]
      unfold xMW
      rw [if_pos (Or.inr c2)]
      exact key 1 (by omega) (by omega) (by omega)
    · simp (disch := (first | omega | assumption | exact iAnd_in | exact iShr_in | exact jCmp_in | (simp (disch := omega) only [xup2_o, xup2_i, xup2_j]; omega))) only [↓if_pos, ↓if_neg, xret_v, xret_n, xup2_o, xup2_i, xup2_j, eX7_isWhole, bX7_isWhole_0, bX7_isWhole_15, bX7_isWhole_23, bX7_isWhole_27, bX7_isWhole_28, bX7_isWhole_42, n_isWhole_47 hM, bX7_isWhole_65, bX7_isWhole_69, bX7_isWhole_70, bX7_isWhole_78]
      unfold xMW
      rw [if_neg (by omega)]
      exact key 0 (by omega) (by omega) (by omega)
theorem m_thicknessOf {h r wi : Int} (hM : xMo T R) (hh : 0 ≤ h ∧ h < 8) (hr : 0 ≤ r ∧ 0 ≤ wi ∧ r + wi ≤ 1000) :
    X sc (d + 1) 103 [.ref 56, xw h, xw r, xw wi] (T, z, xv V, J, R) = some (.inl (some (xw (V 57 h.toNat - (if r + wi ≤ 5 then 0 else 1)))), (T, z, xv (V), J, R)) := by
  by_cases c : r + wi ≤ 5 <;> simp (disch := (first | omega | assumption | exact iAnd_in | exact iShr_in | exact jCmp_in | (simp (disch := omega) only [xup2_o, xup2_i, xup2_j]; omega))) only [↓if_pos, ↓if_neg, xret_v, xret_n, xup2_o, xup2_i, xup2_j, eX7_thicknessOf, n_thicknessOf_0 hM, bX7_thicknessOf_13, bX7_thicknessOf_17, bX7_thicknessOf_18]
theorem m_worth_loop {r wi al : Int} (hr : 0 ≤ r ∧ 0 ≤ wi ∧ r + wi ≤ 100) :
    ∀ (m : Nat) (k n : Int), 0 ≤ k → k + m = r + wi →
    XR sc d 105 5 [some (xw r), some (xw wi), some (xw al), some (xw n), some (xw k)] [] (T, z, xv V, J, R) = some (.inl (some (xw (n + xWo al m k))), (T, z, xv (V), J, R)) := by
  intro m
  induction m with
  | zero =>
    intro k n hk0 hk
    rw [bX7_worth_5 (by omega) (by omega), if_pos (by omega), bX7_worth_45, xWo, Int.add_zero]
  | succ m ih =>
    intro k n hk0 hk
    rw [bX7_worth_5 (by omega) (by omega), if_neg (by omega), xWo, ← Int.add_assoc]
    by_cases c : 2 ≤ k
    · by_cases c2 : 5 ≤ k
      · simp (disch := (first | omega | assumption | exact iAnd_in | exact iShr_in | exact jCmp_in | (simp (disch := omega) only [xup2_o, xup2_i, xup2_j]; omega))) only [↓if_pos, ↓if_neg, xret_v, xret_n, xup2_o, xup2_i, xup2_j, eX7_worth, bX7_worth_0, bX7_worth_13, bX7_worth_21, bX7_worth_25, bX7_worth_31, bX7_worth_35, bX7_worth_36, bX7_worth_45]
        exact ih (k + 1) _ (by omega) (by omega)
      · simp (disch := (first | omega | assumption | exact iAnd_in | exact iShr_in | exact jCmp_in | (simp (disch := omega) only [xup2_o, xup2_i, xup2_j]; omega))) only [↓if_pos, ↓if_neg, xret_v, xret_n, xup2_o, xup2_i, xup2_j, eX7_worth, bX7_worth_0, bX7_worth_13, bX7_worth_21, bX7_worth_25, bX7_worth_31, bX7_worth_35, bX7_worth_36, bX7_worth_45]
        exact ih (k + 1) _ (by omega) (by omega)
    · simp (disch := (first | omega | assumption | exact iAnd_in | exact iShr_in | exact jCmp_in | (simp (disch := omega) only [xup2_o, xup2_i, xup2_j]; omega))) only [↓if_pos, ↓if_neg, xret_v, xret_n, xup2_o, xup2_i, xup2_j, eX7_worth, bX7_worth_0, bX7_worth_13, bX7_worth_21, bX7_worth_25, bX7_worth_31, bX7_worth_35, bX7_worth_36, bX7_worth_45]
      exact ih (k + 1) _ (by omega) (by omega)
theorem m_worth {r wi al : Int} (hr : 0 ≤ r ∧ 0 ≤ wi ∧ r + wi ≤ 100) :
    X sc (d + 1) 105 [xw r, xw wi, xw al] (T, z, xv V, J, R) = some (.inl (some (xw (xWo al wi.toNat r))), (T, z, xv (V), J, R)) := by
  have := m_worth_loop (sc := sc) (d := d) (T := T) (z := z) (V := V) (J := J) (R := R) (al := al) hr wi.toNat r 0 (by omega) (by omega)
  rw [Int.zero_add] at this
  rw [eX7_worth, bX7_worth_0, this]
/-- the model's search: the columns of a row, then the rows -/
def xFc (ok : Int → Int) (W : Int → Int) (r : Int) : Nat → Int → Int → Int
  | 0, _, f => f
  | m + 1, c, f => xFc ok W r m (c + 1) (if ok c = 1 ∧ (f = -1 ∨ W r < W (f / 12)) then 12 * r + c else f)
def xFr (ok : Int → Int → Int) (W : Int → Int) (n : Nat) : Nat → Int → Int → Int
  | 0, _, f => f
  | m + 1, r, f => xFr ok W n m (r + 1) (xFc (ok r) W r n 0 f)
/-- whether a piece can be had there, and is thick enough -/
def xOk (V : Nat → Nat → Int) (h al wi st le r c : Int) : Int := if xMW (V 58) h c r al wi st = 0 then 0 else if V 57 h.toNat - (if r + wi ≤ 5 then 0 else 1) < le then 0 else 1
theorem m_find_step {h al wi st le f r c : Int} {o6 o10 o11 : Option Value} (hM : xMo T R) (hh : 0 ≤ h ∧ h < 8) (hal : 1 ≤ al ∧ al ≤ 12) (hwi : 1 ≤ wi ∧ wi ≤ 8) (hst : st = 0 ∨ st = 1) (hle : (-2147483648 ≤ le ∧ le ≤ 2147483647)) (hth : 0 ≤ V 57 h.toNat ∧ V 57 h.toNat ≤ 9) (hr : 0 ≤ r ∧ r + wi ≤ 8) (hc : 0 ≤ c ∧ c + al ≤ 12) (hf : -1 ≤ f ∧ f < 96) :
    XR sc (d + 1) 106 75 [some (.ref 56), some (xw h), some (xw al), some (xw wi), some (xw st), some (xw le), o6, some (xw f), some (xw r), some (xw c), o10, o11] [] (T, z, xv V, J, R) =
    XR sc (d + 1) 106 75 [some (.ref 56), some (xw h), some (xw al), some (xw wi), some (xw st), some (xw le), o6, some (xw (if xOk V h al wi st le r c = 1 ∧ (f = -1 ∨ xWo al wi.toNat r < xWo al wi.toNat (f / 12)) then 12 * r + c else f)), some (xw r), some (xw (c + 1)), some (xw (xOk V h al wi st le r c)), some (xw (if f = -1 ∨ xWo al wi.toNat r < xWo al wi.toNat (f / 12) then 1 else 0))] [] (T, z, xv V, J, R) := by
  have w1 := xWo_in (along := al) (by omega) wi.toNat r
  have w2 := xWo_in (along := al) (by omega) wi.toNat (f / 12)
  have w0 := xMW_01 (B := V 58) (h := h) (c := c) (r := r) (al := al) (wi := wi) (st := st)
  rw [bX7_find_75 (by omega), if_neg (by omega)]
  have e0 : xMW (V 58) h c r al wi st = 0 → xOk V h al wi st le r c = 0 := fun q => by unfold xOk; rw [if_pos q]
  have e1 : ¬ xMW (V 58) h c r al wi st = 0 → V 57 h.toNat - (if r + wi ≤ 5 then 0 else 1) < le → xOk V h al wi st le r c = 0 := fun q q2 => by unfold xOk; rw [if_neg q, if_pos q2]
  have e2 : ¬ xMW (V 58) h c r al wi st = 0 → ¬ V 57 h.toNat - (if r + wi ≤ 5 then 0 else 1) < le → xOk V h al wi st le r c = 1 := fun q q2 => by unfold xOk; rw [if_neg q, if_neg q2]
  have eb : ∀ b : Int, b = 0 ∨ b = 1 → xOk V h al wi st le r c = b → XR sc (d + 1) 106 118 [some (.ref 56), some (xw h), some (xw al), some (xw wi), some (xw st), some (xw le), o6, some (xw f), some (xw r), some (xw c), o10, o11] [xw b] (T, z, xv V, J, R) =
      XR sc (d + 1) 106 75 [some (.ref 56), some (xw h), some (xw al), some (xw wi), some (xw st), some (xw le), o6, some (xw (if b = 1 ∧ (f = -1 ∨ xWo al wi.toNat r < xWo al wi.toNat (f / 12)) then 12 * r + c else f)), some (xw r), some (xw (c + 1)), some (xw b), some (xw (if f = -1 ∨ xWo al wi.toNat r < xWo al wi.toNat (f / 12) then 1 else 0))] [] (T, z, xv V, J, R) := by
    intro b hb _
    by_cases c1 : f = -1
    · rcases hb with hb | hb <;> simp (disch := (first | omega | assumption | exact iAnd_in | exact iShr_in | exact jCmp_in | (simp (disch := omega) only [xup2_o, xup2_i, xup2_j]; omega))) only [↓if_pos, ↓if_neg, xret_v, xret_n, xup2_o, xup2_i, xup2_j, eX7_find, bX7_find_0, bX7_find_5, bX7_find_8, bX7_find_16, bX7_find_19, bX7_find_23, n_find_24 hM, bX7_find_32, bX7_find_35, bX7_find_39, bX7_find_44, bX7_find_48, n_find_49 hM, bX7_find_52, bX7_find_55, bX7_find_57, bX7_find_72, n_find_84 hM, bX7_find_97, n_find_100 hM, bX7_find_108, bX7_find_113, bX7_find_117, bX7_find_118, bX7_find_126, bX7_find_133, bX7_find_143, bX7_find_146, bX7_find_150, bX7_find_151, bX7_find_158, bX7_find_163, bX7_find_174, bX7_find_176, bX7_find_184, bX7_find_190, m_worth]
    · by_cases c2 : xWo al wi.toNat r < xWo al wi.toNat (f / 12)
      · rcases hb with hb | hb <;> simp (disch := (first | omega | assumption | exact iAnd_in | exact iShr_in | exact jCmp_in | (simp (disch := omega) only [xup2_o, xup2_i, xup2_j]; omega))) only [↓if_pos, ↓if_neg, xret_v, xret_n, xup2_o, xup2_i, xup2_j, eX7_find, bX7_find_0, bX7_find_5, bX7_find_8, bX7_find_16, bX7_find_19, bX7_find_23, n_find_24 hM, bX7_find_32, bX7_find_35, bX7_find_39, bX7_find_44, bX7_find_48, n_find_49 hM, bX7_find_52, bX7_find_55, bX7_find_57, bX7_find_72, n_find_84 hM, bX7_find_97, n_find_100 hM, bX7_find_108, bX7_find_113, bX7_find_117, bX7_find_118, bX7_find_126, bX7_find_133, bX7_find_143, bX7_find_146, bX7_find_150, bX7_find_151, bX7_find_158, bX7_find_163, bX7_find_174, bX7_find_176, bX7_find_184, bX7_find_190, m_worth]
      · rcases hb with hb | hb <;> simp (disch := (first | omega | assumption | exact iAnd_in | exact iShr_in | exact jCmp_in | (simp (disch := omega) only [xup2_o, xup2_i, xup2_j]; omega))) only [↓if_pos, ↓if_neg, xret_v, xret_n, xup2_o, xup2_i, xup2_j, eX7_find, bX7_find_0, bX7_find_5, bX7_find_8, bX7_find_16, bX7_find_19, bX7_find_23, n_find_24 hM, bX7_find_32, bX7_find_35, bX7_find_39, bX7_find_44, bX7_find_48, n_find_49 hM, bX7_find_52, bX7_find_55, bX7_find_57, bX7_find_72, n_find_84 hM, bX7_find_97, n_find_100 hM, bX7_find_108, bX7_find_113, bX7_find_117, bX7_find_118, bX7_find_126, bX7_find_133, bX7_find_143, bX7_find_146, bX7_find_150, bX7_find_151, bX7_find_158, bX7_find_163, bX7_find_174, bX7_find_176, bX7_find_184, bX7_find_190, m_worth]
  by_cases c1 : xMW (V 58) h c r al wi st = 0
  · rw [e0 c1, ← eb 0 (Or.inl rfl) (e0 c1)]
    simp (disch := (first | omega | assumption | exact iAnd_in | exact iShr_in | exact jCmp_in | (simp (disch := omega) only [xup2_o, xup2_i, xup2_j]; omega))) only [↓if_pos, ↓if_neg, xret_v, xret_n, xup2_o, xup2_i, xup2_j, eX7_find, bX7_find_0, bX7_find_5, bX7_find_8, bX7_find_16, bX7_find_19, bX7_find_23, n_find_24 hM, bX7_find_32, bX7_find_35, bX7_find_39, bX7_find_44, bX7_find_48, n_find_49 hM, bX7_find_52, bX7_find_55, bX7_find_57, bX7_find_72, n_find_84 hM, bX7_find_97, n_find_100 hM, bX7_find_108, bX7_find_113, bX7_find_117, bX7_find_126, bX7_find_133, bX7_find_143, bX7_find_146, bX7_find_150, bX7_find_151, bX7_find_158, bX7_find_163, bX7_find_174, bX7_find_176, bX7_find_184, bX7_find_190, m_isWhole hM]
  · by_cases c2 : V 57 h.toNat - (if r + wi ≤ 5 then 0 else 1) < le
    · rw [e1 c1 c2, ← eb 0 (Or.inl rfl) (e1 c1 c2)]
      rw [n_find_84 hM, m_isWhole hM hh (by omega) hst, xret_v, bX7_find_97 (by omega), if_neg c1, n_find_100 hM, m_thicknessOf hM hh (by omega), xret_v, bX7_find_108 (by split <;> omega) hle, if_pos c2, bX7_find_117]
    · rw [e2 c1 c2, ← eb 1 (Or.inr rfl) (e2 c1 c2)]
      rw [n_find_84 hM, m_isWhole hM hh (by omega) hst, xret_v, bX7_find_97 (by omega), if_neg c1, n_find_100 hM, m_thicknessOf hM hh (by omega), xret_v, bX7_find_108 (by split <;> omega) hle, if_neg c2, bX7_find_113]
theorem xFc_in {ok W : Int → Int} {r al : Int} (hr : 0 ≤ r ∧ r < 8) (hal : 1 ≤ al) : ∀ (m : Nat) (c f : Int), 0 ≤ c → c + m = 13 - al → -1 ≤ f ∧ f < 96 → -1 ≤ xFc ok W r m c f ∧ xFc ok W r m c f < 96 := by
  intro m
  induction m with
  | zero => intro c f _ _ hf; exact hf
  | succ m ih =>
    intro c f hc hm hf
    rw [xFc]
    refine ih (c + 1) _ (by omega) (by omega) ?_
    split <;> omega
theorem m_find_cols {h al wi st le r : Int} {o6 : Option Value} (hM : xMo T R) (hh : 0 ≤ h ∧ h < 8) (hal : 1 ≤ al ∧ al ≤ 12) (hwi : 1 ≤ wi ∧ wi ≤ 8) (hst : st = 0 ∨ st = 1) (hle : (-2147483648 ≤ le ∧ le ≤ 2147483647)) (hth : 0 ≤ V 57 h.toNat ∧ V 57 h.toNat ≤ 9) (hr : 0 ≤ r ∧ r + wi ≤ 8) :
    ∀ (m : Nat) (c f : Int) (o10 o11 : Option Value), 0 ≤ c → c + m = 13 - al → -1 ≤ f ∧ f < 96 →
    ∃ o9' o10' o11' : Option Value, XR sc (d + 1) 106 75 [some (.ref 56), some (xw h), some (xw al), some (xw wi), some (xw st), some (xw le), o6, some (xw f), some (xw r), some (xw c), o10, o11] [] (T, z, xv V, J, R) =
      XR sc (d + 1) 106 63 [some (.ref 56), some (xw h), some (xw al), some (xw wi), some (xw st), some (xw le), o6, some (xw (xFc (xOk V h al wi st le r) (xWo al wi.toNat) r m c f)), some (xw (r + 1)), o9', o10', o11'] [] (T, z, xv V, J, R) := by
  intro m
  induction m with
  | zero =>
    intro c f o10 o11 hc0 hm hf
    refine ⟨some (xw c), o10, o11, ?_⟩
    rw [bX7_find_75 (by omega), if_pos (by omega), bX7_find_184, xFc]
  | succ m ih =>
    intro c f o10 o11 hc0 hm hf
    obtain ⟨o9', o10', o11', h1⟩ := ih (c + 1) (if xOk V h al wi st le r c = 1 ∧ (f = -1 ∨ xWo al wi.toNat r < xWo al wi.toNat (f / 12)) then 12 * r + c else f) (some (xw (xOk V h al wi st le r c))) (some (xw (if f = -1 ∨ xWo al wi.toNat r < xWo al wi.toNat (f / 12) then 1 else 0))) (by omega) (by omega) (by split <;> omega)
    refine ⟨o9', o10', o11', ?_⟩
    rw [m_find_step hM hh hal hwi hst hle hth hr (by omega) hf, h1, xFc]
theorem m_find_rows {h al wi st le : Int} {o6 : Option Value} (hM : xMo T R) (hh : 0 ≤ h ∧ h < 8) (hal : 1 ≤ al ∧ al ≤ 12) (hwi : 1 ≤ wi ∧ wi ≤ 8) (hst : st = 0 ∨ st = 1) (hle : (-2147483648 ≤ le ∧ le ≤ 2147483647)) (hth : 0 ≤ V 57 h.toNat ∧ V 57 h.toNat ≤ 9) :
    ∀ (m : Nat) (r f : Int) (o9 o10 o11 : Option Value), 0 ≤ r → r + m = 9 - wi → -1 ≤ f ∧ f < 96 →
    XR sc (d + 1) 106 63 [some (.ref 56), some (xw h), some (xw al), some (xw wi), some (xw st), some (xw le), o6, some (xw f), some (xw r), o9, o10, o11] [] (T, z, xv V, J, R) = some (.inl (some (xw (xFr (xOk V h al wi st le) (xWo al wi.toNat) (13 - al).toNat m r f))), (T, z, xv (V), J, R)) := by
  intro m
  induction m with
  | zero =>
    intro r f o9 o10 o11 hr0 hm hf
    rw [bX7_find_63 (by omega), if_pos (by omega), bX7_find_190, xFr]
  | succ m ih =>
    intro r f o9 o10 o11 hr0 hm hf
    obtain ⟨o9', o10', o11', h1⟩ := m_find_cols (sc := sc) (d := d) (T := T) (z := z) (V := V) (J := J) (R := R) (o6 := o6) hM hh hal hwi hst hle hth (r := r) (by omega) (13 - al).toNat 0 f o10 o11 (by omega) (by omega) hf
    rw [bX7_find_63 (by omega), if_neg (by omega), bX7_find_72, h1, ih (r + 1) _ _ _ _ (by omega) (by omega) (xFc_in (by omega) hal.1 _ _ _ (by omega) (by omega) hf), xFr]
theorem m_find {h al wi st le : Int} (hM : xMo T R) (h0 : 0 ≤ V 56 0 ∧ V 56 0 ≤ 8) (hth : ∀ k, k < 8 → 0 ≤ V 57 k ∧ V 57 k ≤ 9) (hh : (-2147483648 ≤ h ∧ h ≤ 2147483647)) (hal : (-2147483648 ≤ al ∧ al ≤ 2147483647)) (hwi : (-2147483648 ≤ wi ∧ wi ≤ 2147483647)) (hst : st = 0 ∨ st = 1) (hle : (-2147483648 ≤ le ∧ le ≤ 2147483647)) :
    X sc (d + 3) 106 [.ref 56, xw h, xw al, xw wi, xw st, xw le] (T, z, xv V, J, R) =
      if 0 ≤ h ∧ h < V 56 0 then (if ((1 ≤ al ∧ al ≤ 12) ∧ (1 ≤ wi ∧ wi ≤ 8)) ∧ (1 ≤ le ∧ le ≤ 9) then
        some (.inl (some (xw (xFr (xOk (xup2 V 56 28 0) h al wi st le) (xWo al wi.toNat) (13 - al).toNat (9 - wi).toNat 0 (-1)))), (T, z, xv (xup2 V 56 28 0), J, R))
      else some (.inl (some (xw 0)), (T, z, xv (xup2 V 56 28 2), J, R))) else some (.inl (some (xw 0)), (T, z, xv (xup2 V 56 28 1), J, R)) := by
  have key := m_find_rows (sc := sc) (d := d + 1) (T := T) (z := z) (V := xup2 V 56 28 0) (J := J) (R := R) (h := h) (al := al) (wi := wi) (st := st) (le := le) (o6 := some (xw 1)) hM
  by_cases c0 : (1 ≤ al ∧ al ≤ 12) ∧ (1 ≤ wi ∧ wi ≤ 8)
  · by_cases c1 : 1 ≤ le ∧ le ≤ 9
    · by_cases c2 : 0 ≤ h ∧ h < V 56 0
      · simp (disch := (first | omega | assumption | exact iAnd_in | exact iShr_in | exact jCmp_in | (simp (disch := omega) only [xup2_o, xup2_i, xup2_j]; omega))) only [↓if_pos, ↓if_neg, xret_v, xret_n, xup2_o, xup2_i, xup2_j, eX7_find, bX7_find_0, bX7_find_5, bX7_find_8, bX7_find_16, bX7_find_19, bX7_find_23, n_find_24 hM, bX7_find_32, bX7_find_35, bX7_find_39, bX7_find_44, bX7_find_48, n_find_49 hM, bX7_find_52, bX7_find_55, bX7_find_57, bX7_find_72, bX7_find_75, n_find_84 hM, bX7_find_97, n_find_100 hM, bX7_find_108, bX7_find_113, bX7_find_117, bX7_find_118, bX7_find_126, bX7_find_133, bX7_find_143, bX7_find_146, bX7_find_150, bX7_find_151, bX7_find_158, bX7_find_163, bX7_find_174, bX7_find_176, bX7_find_184, bX7_find_190, m_areSizes, m_isIn, m_isHide hM, m_fails hM]
        have ht := hth h.toNat (by omega)
        exact key (by omega) (by omega) (by omega) hst hle (by rw [xup2_o (by decide)]; exact ht) (9 - wi).toNat 0 (-1) none none none (by omega) (by omega) (by omega)
      · simp (disch := (first | omega | assumption | exact iAnd_in | exact iShr_in | exact jCmp_in | (simp (disch := omega) only [xup2_o, xup2_i, xup2_j]; omega))) only [↓if_pos, ↓if_neg, xret_v, xret_n, xup2_o, xup2_i, xup2_j, eX7_find, bX7_find_0, bX7_find_5, bX7_find_8, bX7_find_16, bX7_find_19, bX7_find_23, n_find_24 hM, bX7_find_32, bX7_find_35, bX7_find_39, bX7_find_44, bX7_find_48, n_find_49 hM, bX7_find_52, bX7_find_55, bX7_find_57, bX7_find_72, bX7_find_75, n_find_84 hM, bX7_find_97, n_find_100 hM, bX7_find_108, bX7_find_113, bX7_find_117, bX7_find_118, bX7_find_126, bX7_find_133, bX7_find_143, bX7_find_146, bX7_find_150, bX7_find_151, bX7_find_158, bX7_find_163, bX7_find_174, bX7_find_176, bX7_find_184, bX7_find_190, m_areSizes, m_isIn, m_isHide hM, m_fails hM]
    · by_cases c2 : 0 ≤ h ∧ h < V 56 0 <;> simp (disch := (first | omega | assumption | exact iAnd_in | exact iShr_in | exact jCmp_in | (simp (disch := omega) only [xup2_o, xup2_i, xup2_j]; omega))) only [↓if_pos, ↓if_neg, xret_v, xret_n, xup2_o, xup2_i, xup2_j, eX7_find, bX7_find_0, bX7_find_5, bX7_find_8, bX7_find_16, bX7_find_19, bX7_find_23, n_find_24 hM, bX7_find_32, bX7_find_35, bX7_find_39, bX7_find_44, bX7_find_48, n_find_49 hM, bX7_find_52, bX7_find_55, bX7_find_57, bX7_find_72, bX7_find_75, n_find_84 hM, bX7_find_97, n_find_100 hM, bX7_find_108, bX7_find_113, bX7_find_117, bX7_find_118, bX7_find_126, bX7_find_133, bX7_find_143, bX7_find_146, bX7_find_150, bX7_find_151, bX7_find_158, bX7_find_163, bX7_find_174, bX7_find_176, bX7_find_184, bX7_find_190, m_areSizes, m_isIn, m_isHide hM, m_fails hM]
  · by_cases c2 : 0 ≤ h ∧ h < V 56 0 <;> simp (disch := (first | omega | assumption | exact iAnd_in | exact iShr_in | exact jCmp_in | (simp (disch := omega) only [xup2_o, xup2_i, xup2_j]; omega))) only [↓if_pos, ↓if_neg, xret_v, xret_n, xup2_o, xup2_i, xup2_j, eX7_find, bX7_find_0, bX7_find_5, bX7_find_8, bX7_find_16, bX7_find_19, bX7_find_23, n_find_24 hM, bX7_find_32, bX7_find_35, bX7_find_39, bX7_find_44, bX7_find_48, n_find_49 hM, bX7_find_52, bX7_find_55, bX7_find_57, bX7_find_72, bX7_find_75, n_find_84 hM, bX7_find_97, n_find_100 hM, bX7_find_108, bX7_find_113, bX7_find_117, bX7_find_118, bX7_find_126, bX7_find_133, bX7_find_143, bX7_find_146, bX7_find_150, bX7_find_151, bX7_find_158, bX7_find_163, bX7_find_174, bX7_find_176, bX7_find_184, bX7_find_190, m_areSizes, m_isIn, m_isHide hM, m_fails hM]
theorem m_cut_loop {h c r al wi : Int} {o6 o7 o8 o9 : Option Value} (hM : xMo T R) (hh : 0 ≤ h ∧ h < 8) (hr : 0 ≤ r ∧ 0 ≤ wi ∧ r + wi ≤ 8) :
    ∀ (m : Nat) (k : Int) (V : Nat → Nat → Int), 0 ≤ k → k + m = r + wi →
    XR sc d 104 140 [some (.ref 56), some (xw h), some (xw c), some (xw r), some (xw al), some (xw wi), o6, o7, o8, o9, some (xw k)] [] (T, z, xv V, J, R) = XR sc d 104 178 [some (.ref 56), some (xw h), some (xw c), some (xw r), some (xw al), some (xw wi), o6, o7, o8, o9, some (xw (r + wi))] [] (T, z, xv (xMb h (xMsk c al) m k V), J, R) := by
  intro m
  induction m with
  | zero =>
    intro k V hk0 hk
    rw [bX7_cut_140 (by omega) (by omega), if_pos (by omega), xMb, show k = r + wi by omega]
  | succ m ih =>
    intro k V hk0 hk
    rw [bX7_cut_140 (by omega) (by omega), if_neg (by omega), n_cut_149 hM (by omega)]
    exact ih (k + 1) _ (by omega) (by omega)
/-- the model's cells behind a cut -/
def xMk (V : Nat → Nat → Int) (h c r al wi st : Int) : Nat → Nat → Int :=
  xup2 (xup2 (xup2 (xup2 (xup2 (xup2 (xup2 (xup2 (xup2 (xMb h (xMsk c al) wi.toNat r (xup2 V 56 28 0)) 59 (V 56 3).toNat al) 60 (V 56 3).toNat wi) 61 (V 56 3).toNat (V 57 h.toNat - (if r + wi ≤ 5 then 0 else 1))) 62 (V 56 3).toNat r) 63 (V 56 3).toNat st) 68 (V 56 3).toNat (-1)) 69 (V 56 3).toNat (-1)) 70 (V 56 3).toNat (-1)) 56 3 (V 56 3 + 1)
theorem m_cut {h c r al wi st : Int} (hM : xMo T R) (h0 : 0 ≤ V 56 0 ∧ V 56 0 ≤ 8) (h3 : 0 ≤ V 56 3 ∧ V 56 3 ≤ 40) (hh : (-2147483648 ≤ h ∧ h ≤ 2147483647)) (hc : (-2147483648 ≤ c ∧ c ≤ 2147483647)) (hr : (-2147483648 ≤ r ∧ r ≤ 2147483647)) (hal : (-2147483648 ≤ al ∧ al ≤ 2147483647)) (hwi : (-2147483648 ≤ wi ∧ wi ≤ 2147483647)) (hst : st = 0 ∨ st = 1) :
    X sc (d + 3) 104 [.ref 56, xw h, xw c, xw r, xw al, xw wi, xw st] (T, z, xv V, J, R) =
      if (0 ≤ h ∧ h < V 56 0) ∧ (0 ≤ c ∧ c < 12) ∧ (0 ≤ r ∧ r < 8) then
        (if ((1 ≤ al ∧ al ≤ 12) ∧ (1 ≤ wi ∧ wi ≤ 8)) ∧ c + al ≤ 12 ∧ r + wi ≤ 8 then
          (if xMW (V 58) h c r al wi st = 1 ∧ V 56 3 < 40 then some (.inl (some (xw (V 56 3 + 1 - 1))), (T, z, xv (xMk V h c r al wi st), J, R)) else some (.inl (some (xw 0)), (T, z, xv (xup2 V 56 28 3), J, R)))
        else some (.inl (some (xw 0)), (T, z, xv (xup2 V 56 28 2), J, R))) else some (.inl (some (xw 0)), (T, z, xv (xup2 V 56 28 1), J, R)) := by
  have w0 := xMW_01 (B := V 58) (h := h) (c := c) (r := r) (al := al) (wi := wi) (st := st)
  by_cases c1 : 0 ≤ h ∧ h < V 56 0
  · by_cases c2 : (0 ≤ c ∧ c < 12) ∧ (0 ≤ r ∧ r < 8)
    · by_cases c3 : (1 ≤ al ∧ al ≤ 12) ∧ (1 ≤ wi ∧ wi ≤ 8)
      · by_cases c4 : c + al ≤ 12
        · by_cases c5 : r + wi ≤ 8
          · by_cases c6 : xMW (V 58) h c r al wi st = 0
            · simp (disch := (first | omega | assumption | exact iAnd_in | exact iShr_in | exact jCmp_in | (simp (disch := omega) only [xup2_o, xup2_i, xup2_j]; omega))) only [↓if_pos, ↓if_neg, xret_v, xret_n, xup2_o, xup2_i, xup2_j, eX7_cut, n_cut_0 hM, bX7_cut_5, bX7_cut_8, bX7_cut_13, bX7_cut_16, bX7_cut_20, bX7_cut_21, bX7_cut_30, bX7_cut_33, bX7_cut_38, bX7_cut_47, bX7_cut_56, bX7_cut_60, bX7_cut_61, n_cut_68 hM, bX7_cut_81, n_cut_84 hM, bX7_cut_93, bX7_cut_97, bX7_cut_98, bX7_cut_106, bX7_cut_110, bX7_cut_115, bX7_cut_119, bX7_cut_124, bX7_cut_128, n_cut_129 hM, bX7_cut_132, bX7_cut_135, bX7_cut_137, m_isHide hM, m_isSquare, m_areSizes, m_isWhole hM, m_fails hM]
            · by_cases c7 : V 56 3 < 40
              · simp (disch := (first | omega | assumption | exact iAnd_in | exact iShr_in | exact jCmp_in | (simp (disch := omega) only [xup2_o, xup2_i, xup2_j]; omega))) only [↓if_pos, ↓if_neg, xret_v, xret_n, xup2_o, xup2_i, xup2_j, eX7_cut, n_cut_0 hM, bX7_cut_5, bX7_cut_8, bX7_cut_13, bX7_cut_16, bX7_cut_20, bX7_cut_21, bX7_cut_30, bX7_cut_33, bX7_cut_38, bX7_cut_47, bX7_cut_56, bX7_cut_60, bX7_cut_61, n_cut_68 hM, bX7_cut_81, n_cut_84 hM, bX7_cut_93, bX7_cut_97, bX7_cut_98, bX7_cut_106, bX7_cut_110, bX7_cut_115, bX7_cut_119, bX7_cut_124, bX7_cut_128, n_cut_129 hM, bX7_cut_132, bX7_cut_135, bX7_cut_137, m_isHide hM, m_isSquare, m_areSizes, m_isWhole hM, m_fails hM]
                rw [m_cut_loop hM (by omega) (by omega) wi.toNat r _ (by omega) (by omega)]
                have e3 : xMb h (xMsk c al) wi.toNat r (xup2 V 56 28 0) 56 3 = V 56 3 := by rw [xMb_o (by decide), xup2_j (by decide)]
                have e57 : xMb h (xMsk c al) wi.toNat r (xup2 V 56 28 0) 57 = V 57 := by rw [xMb_o (by decide), xup2_o (by decide)]
                rw [n_cut_178 hM (by rw [e3]; omega) (by rw [e3]; omega), e3, m_thicknessOf hM (by omega) (by omega), xret_v, xup2_o (by decide), xup2_o (by decide), e57]
                have e3' : (xup2 (xup2 (xMb h (xMsk c al) wi.toNat r (xup2 V 56 28 0)) 59 (V 56 3).toNat al) 60 (V 56 3).toNat wi) 56 3 = V 56 3 := by rw [xup2_o (by decide), xup2_o (by decide), e3]
                rw [n_cut_216 hM (by omega) (by rw [e3']; omega) (by rw [e3']; omega) hst (by rw [e3']; omega) (by rw [e3']; omega) (by rw [e3']; omega), e3']
                rfl
              · simp (disch := (first | omega | assumption | exact iAnd_in | exact iShr_in | exact jCmp_in | (simp (disch := omega) only [xup2_o, xup2_i, xup2_j]; omega))) only [↓if_pos, ↓if_neg, xret_v, xret_n, xup2_o, xup2_i, xup2_j, eX7_cut, n_cut_0 hM, bX7_cut_5, bX7_cut_8, bX7_cut_13, bX7_cut_16, bX7_cut_20, bX7_cut_21, bX7_cut_30, bX7_cut_33, bX7_cut_38, bX7_cut_47, bX7_cut_56, bX7_cut_60, bX7_cut_61, n_cut_68 hM, bX7_cut_81, n_cut_84 hM, bX7_cut_93, bX7_cut_97, bX7_cut_98, bX7_cut_106, bX7_cut_110, bX7_cut_115, bX7_cut_119, bX7_cut_124, bX7_cut_128, n_cut_129 hM, bX7_cut_132, bX7_cut_135, bX7_cut_137, m_isHide hM, m_isSquare, m_areSizes, m_isWhole hM, m_fails hM]
          · simp (disch := (first | omega | assumption | exact iAnd_in | exact iShr_in | exact jCmp_in | (simp (disch := omega) only [xup2_o, xup2_i, xup2_j]; omega))) only [↓if_pos, ↓if_neg, xret_v, xret_n, xup2_o, xup2_i, xup2_j, eX7_cut, n_cut_0 hM, bX7_cut_5, bX7_cut_8, bX7_cut_13, bX7_cut_16, bX7_cut_20, bX7_cut_21, bX7_cut_30, bX7_cut_33, bX7_cut_38, bX7_cut_47, bX7_cut_56, bX7_cut_60, bX7_cut_61, n_cut_68 hM, bX7_cut_81, n_cut_84 hM, bX7_cut_93, bX7_cut_97, bX7_cut_98, bX7_cut_106, bX7_cut_110, bX7_cut_115, bX7_cut_119, bX7_cut_124, bX7_cut_128, n_cut_129 hM, bX7_cut_132, bX7_cut_135, bX7_cut_137, m_isHide hM, m_isSquare, m_areSizes, m_isWhole hM, m_fails hM]
        · simp (disch := (first | omega | assumption | exact iAnd_in | exact iShr_in | exact jCmp_in | (simp (disch := omega) only [xup2_o, xup2_i, xup2_j]; omega))) only [↓if_pos, ↓if_neg, xret_v, xret_n, xup2_o, xup2_i, xup2_j, eX7_cut, n_cut_0 hM, bX7_cut_5, bX7_cut_8, bX7_cut_13, bX7_cut_16, bX7_cut_20, bX7_cut_21, bX7_cut_30, bX7_cut_33, bX7_cut_38, bX7_cut_47, bX7_cut_56, bX7_cut_60, bX7_cut_61, n_cut_68 hM, bX7_cut_81, n_cut_84 hM, bX7_cut_93, bX7_cut_97, bX7_cut_98, bX7_cut_106, bX7_cut_110, bX7_cut_115, bX7_cut_119, bX7_cut_124, bX7_cut_128, n_cut_129 hM, bX7_cut_132, bX7_cut_135, bX7_cut_137, m_isHide hM, m_isSquare, m_areSizes, m_isWhole hM, m_fails hM]
      · simp (disch := (first | omega | assumption | exact iAnd_in | exact iShr_in | exact jCmp_in | (simp (disch := omega) only [xup2_o, xup2_i, xup2_j]; omega))) only [↓if_pos, ↓if_neg, xret_v, xret_n, xup2_o, xup2_i, xup2_j, eX7_cut, n_cut_0 hM, bX7_cut_5, bX7_cut_8, bX7_cut_13, bX7_cut_16, bX7_cut_20, bX7_cut_21, bX7_cut_30, bX7_cut_33, bX7_cut_38, bX7_cut_47, bX7_cut_56, bX7_cut_60, bX7_cut_61, n_cut_68 hM, bX7_cut_81, n_cut_84 hM, bX7_cut_93, bX7_cut_97, bX7_cut_98, bX7_cut_106, bX7_cut_110, bX7_cut_115, bX7_cut_119, bX7_cut_124, bX7_cut_128, n_cut_129 hM, bX7_cut_132, bX7_cut_135, bX7_cut_137, m_isHide hM, m_isSquare, m_areSizes, m_isWhole hM, m_fails hM]
    · by_cases c3 : (1 ≤ al ∧ al ≤ 12) ∧ (1 ≤ wi ∧ wi ≤ 8) <;> simp (disch := (first | omega | assumption | exact iAnd_in | exact iShr_in | exact jCmp_in | (simp (disch := omega) only [xup2_o, xup2_i, xup2_j]; omega))) only [↓if_pos, ↓if_neg, xret_v, xret_n, xup2_o, xup2_i, xup2_j, eX7_cut, n_cut_0 hM, bX7_cut_5, bX7_cut_8, bX7_cut_13, bX7_cut_16, bX7_cut_20, bX7_cut_21, bX7_cut_30, bX7_cut_33, bX7_cut_38, bX7_cut_47, bX7_cut_56, bX7_cut_60, bX7_cut_61, n_cut_68 hM, bX7_cut_81, n_cut_84 hM, bX7_cut_93, bX7_cut_97, bX7_cut_98, bX7_cut_106, bX7_cut_110, bX7_cut_115, bX7_cut_119, bX7_cut_124, bX7_cut_128, n_cut_129 hM, bX7_cut_132, bX7_cut_135, bX7_cut_137, m_isHide hM, m_isSquare, m_areSizes, m_isWhole hM, m_fails hM]
  · by_cases c3 : (1 ≤ al ∧ al ≤ 12) ∧ (1 ≤ wi ∧ wi ≤ 8) <;> simp (disch := (first | omega | assumption | exact iAnd_in | exact iShr_in | exact jCmp_in | (simp (disch := omega) only [xup2_o, xup2_i, xup2_j]; omega))) only [↓if_pos, ↓if_neg, xret_v, xret_n, xup2_o, xup2_i, xup2_j, eX7_cut, n_cut_0 hM, bX7_cut_5, bX7_cut_8, bX7_cut_13, bX7_cut_16, bX7_cut_20, bX7_cut_21, bX7_cut_30, bX7_cut_33, bX7_cut_38, bX7_cut_47, bX7_cut_56, bX7_cut_60, bX7_cut_61, n_cut_68 hM, bX7_cut_81, n_cut_84 hM, bX7_cut_93, bX7_cut_97, bX7_cut_98, bX7_cut_106, bX7_cut_110, bX7_cut_115, bX7_cut_119, bX7_cut_124, bX7_cut_128, n_cut_129 hM, bX7_cut_132, bX7_cut_135, bX7_cut_137, m_isHide hM, m_isSquare, m_areSizes, m_isWhole hM, m_fails hM]
end SX7b
