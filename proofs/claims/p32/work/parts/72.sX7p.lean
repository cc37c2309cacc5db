/-! bits of ints and longs -/
def xBt (j : Int64) (k : Nat) : Bool := j.toBitVec.getLsbD k
def iBt (v : Int) (k : Nat) : Bool := (Int32.ofInt v).toBitVec.getLsbD k
theorem jsh_n : ∀ k : Nat, k < 64 → (((Int32.ofInt (k : Int)).toInt64 &&& 63).toBitVec.smod 64).toNat = k := by decide +kernel
theorem jShr_bv {j : Int64} {k : Int} (hk : 0 ≤ k ∧ k < 64) : (jShr j k).toBitVec = j.toBitVec.sshiftRight k.toNat := by
  obtain ⟨n, rfl⟩ : ∃ n : Nat, k = n := ⟨k.toNat, by omega⟩
  show j.toBitVec.sshiftRight (((Int32.ofInt (n : Int)).toInt64 &&& 63).toBitVec.smod 64).toNat = _
  rw [jsh_n n (by omega), Int.toNat_natCast]
theorem jShl_bv {j : Int64} {k : Int} (hk : 0 ≤ k ∧ k < 64) : (jShl j k).toBitVec = j.toBitVec <<< k.toNat := by
  obtain ⟨n, rfl⟩ : ∃ n : Nat, k = n := ⟨k.toNat, by omega⟩
  show j.toBitVec <<< (((Int32.ofInt (n : Int)).toInt64 &&& 63).toBitVec.smod 64).toNat = _
  rw [jsh_n n (by omega), Int.toNat_natCast]
theorem j_sbit {j : Int64} {k : Int} {i : Nat} (hk : 0 ≤ k ∧ k < 64) (hi : k.toNat + i < 64) : (jShr j k).toBitVec.getLsbD i = xBt j (k.toNat + i) := by
  rw [jShr_bv hk, BitVec.getLsbD_sshiftRight, if_pos hi]
  have : decide (64 ≤ i) = false := decide_eq_false (by omega)
  rw [this]; rfl
theorem j_bit {j : Int64} {k : Int} (hk : 0 ≤ k ∧ k < 64) : (jShr j k &&& Int64.ofNat 1) = if xBt j k.toNat = true then Int64.ofNat 1 else Int64.ofNat 0 := by
  apply Int64.toBitVec.inj
  have h : (jShr j k &&& Int64.ofNat 1).toBitVec = (jShr j k).toBitVec &&& 1#64 := rfl
  rw [h, BitVec.and_one_eq_setWidth_ofBool_getLsbD, j_sbit hk (by omega), Nat.add_zero]
  cases xBt j k.toNat <;> rfl
theorem j_get {j : Int64} {k : Int} (hk : 0 ≤ k ∧ k < 64) : jToI (jShr j k &&& Int64.ofNat 1) = if xBt j k.toNat = true then 1 else 0 := by
  rw [j_bit hk]
  cases xBt j k.toNat <;> rfl
theorem j_is {j : Int64} {k : Int} (hk : 0 ≤ k ∧ k < 64) : (jCmp (jShr j k &&& Int64.ofNat 1) (Int64.ofNat 1) = 0) = (xBt j k.toNat = true) := by
  rw [j_bit hk]
  refine propext ?_
  by_cases h : xBt j k.toNat = true
  · rw [if_pos h]; exact ⟨fun _ => h, fun _ => by decide +kernel⟩
  · rw [if_neg h]; exact ⟨fun q => absurd q (by decide +kernel), fun q => absurd q h⟩
theorem jCmp_0 {x : Int64} : (jCmp x (Int64.ofNat 0) = 0) = (x = Int64.ofNat 0) := by
  refine propext ?_
  by_cases hx : x = Int64.ofNat 0
  · subst hx; exact ⟨fun _ => rfl, fun _ => by decide +kernel⟩
  · refine ⟨fun q => ?_, fun q => absurd q hx⟩
    unfold jCmp lg_cmp at q
    split at q
    · exact absurd q (by decide)
    · exact absurd q (by decide)
theorem j_0 {x : Int64} : (x = Int64.ofNat 0) ↔ ∀ k, k < 64 → xBt x k = false := by
  refine ⟨fun q k hk => ?_, fun q => ?_⟩
  · subst q
    show (0#64).getLsbD k = false
    exact BitVec.getLsbD_zero
  · apply Int64.toBitVec.inj
    refine BitVec.eq_of_getLsbD_eq fun i hi => ?_
    show xBt x i = (0#64).getLsbD i
    rw [q i hi, BitVec.getLsbD_zero]
theorem seven_b : ∀ i : Nat, i < 64 → 3 ≤ i → (7#64).getLsbD i = false := by decide +kernel
theorem j_7 {j : Int64} {k : Int} (hk : 1 ≤ k ∧ k ≤ 60) : (jCmp (jShr j (k - 1) &&& (7 : Int64)) (Int64.ofNat 0) = 0) = (xBt j (k - 1).toNat = false ∧ xBt j k.toNat = false ∧ xBt j (k + 1).toNat = false) := by
  rw [jCmp_0]
  have h0 : (jShr j (k - 1) &&& (7 : Int64)).toBitVec = (jShr j (k - 1)).toBitVec &&& 7#64 := rfl
  have hb : ∀ i, i < 3 → xBt (jShr j (k - 1) &&& (7 : Int64)) i = xBt j ((k - 1).toNat + i) := by
    intro i hi
    unfold xBt
    rw [h0, BitVec.getLsbD_and]
    have := j_sbit (j := j) (k := k - 1) (i := i) (by omega) (by omega)
    unfold xBt at this
    rw [this]
    have e : (7#64).getLsbD i = true := by
      rcases (show i = 0 ∨ i = 1 ∨ i = 2 by omega) with rfl | rfl | rfl <;> decide
    rw [e, Bool.and_true]
  have e1 : (k - 1).toNat + 1 = k.toNat := by omega
  have e2 : (k - 1).toNat + 2 = (k + 1).toNat := by omega
  refine propext (j_0.trans ⟨fun q => ?_, fun q i hi => ?_⟩)
  · have q0 := q 0 (by decide)
    have q1 := q 1 (by decide)
    have q2 := q 2 (by decide)
    rw [hb 0 (by decide), Nat.add_zero] at q0
    rw [hb 1 (by decide), e1] at q1
    rw [hb 2 (by decide), e2] at q2
    exact ⟨q0, q1, q2⟩
  · by_cases h3 : i < 3
    · rw [hb i h3]
      rcases (show i = 0 ∨ i = 1 ∨ i = 2 by omega) with rfl | rfl | rfl
      · rw [Nat.add_zero]; exact q.1
      · rw [e1]; exact q.2.1
      · rw [e2]; exact q.2.2
    · unfold xBt
      rw [h0, BitVec.getLsbD_and, seven_b i hi (by omega), Bool.and_false]
theorem j_or {j : Int64} {n : Int} {k : Nat} (hn : 0 ≤ n ∧ n < 64) (hk : k < 64) : xBt (j ||| jShl (Int64.ofNat 1) n) k = (xBt j k || decide (k = n.toNat)) := by
  unfold xBt
  have h : (j ||| jShl (Int64.ofNat 1) n).toBitVec = j.toBitVec ||| (jShl (Int64.ofNat 1) n).toBitVec := rfl
  have h1 : (Int64.ofNat 1).toBitVec = 1#64 := rfl
  rw [h, BitVec.getLsbD_or, jShl_bv hn, BitVec.getLsbD_shiftLeft, h1, BitVec.getLsbD_one]
  congr 1
  rw [Bool.eq_iff_iff]
  simp only [Bool.and_eq_true, decide_eq_true_eq, Bool.not_eq_true', decide_eq_false_iff_not]
  omega
theorem ish_n : ∀ k : Nat, k < 32 → ((Int32.ofInt (k : Int) &&& 31).toBitVec.smod 32).toNat = k := by decide +kernel
theorem i_get {v k : Int} (hk : 0 ≤ k ∧ k < 32) : iAnd (iShr v k) 1 = if iBt v k.toNat = true then 1 else 0 := by
  obtain ⟨n, rfl⟩ : ∃ n : Nat, k = n := ⟨k.toNat, by omega⟩
  unfold iAnd iShr
  rw [Int32.ofInt_toInt, Int.toNat_natCast]
  have e : (Int32.ofInt v >>> (Int32.ofInt (n : Int) &&& 31) &&& Int32.ofInt 1) = if iBt v n = true then Int32.ofInt 1 else Int32.ofInt 0 := by
    apply Int32.toBitVec.inj
    have h : (Int32.ofInt v >>> (Int32.ofInt (n : Int) &&& 31) &&& Int32.ofInt 1).toBitVec = (Int32.ofInt v).toBitVec.sshiftRight ((Int32.ofInt (n : Int) &&& 31).toBitVec.smod 32).toNat &&& 1#32 := rfl
    rw [h, ish_n n (by omega), BitVec.and_one_eq_setWidth_ofBool_getLsbD, BitVec.getLsbD_sshiftRight, if_pos (by omega), Nat.add_zero]
    show BitVec.setWidth 32 (BitVec.ofBool (!decide (32 ≤ 0) && iBt v n)) = _
    cases iBt v n <;> rfl
  rw [e]
  cases iBt v n <;> rfl
theorem i_or {v w : Int} {k : Nat} : iBt (iOr v w) k = (iBt v k || iBt w k) := by
  unfold iBt iOr
  rw [Int32.ofInt_toInt]
  exact BitVec.getLsbD_or
theorem i_one : ∀ c : Nat, c < 32 → ∀ k : Nat, k < 32 → iBt (iShl 1 (c : Int)) k = decide (k = c) := by decide +kernel
theorem i_mask : ∀ n : Nat, n < 13 → ∀ c : Nat, c < 12 → c + n ≤ 12 → ∀ k : Nat, k < 32 → iBt (iShl (iShl 1 (n : Int) - 1) (c : Int)) k = decide (c ≤ k ∧ k < c + n) := by decide +kernel
theorem i_and0 {v m : Int} : (iAnd v m = 0) ↔ ∀ k, k < 32 → (iBt v k && iBt m k) = false := by
  have h1 : (iAnd v m = 0) ↔ (Int32.ofInt v &&& Int32.ofInt m) = 0 := by
    unfold iAnd
    refine ⟨fun q => ?_, fun q => by rw [q]; rfl⟩
    apply Int32.toInt.inj
    rw [q]; rfl
  rw [h1]
  refine ⟨fun q k hk => ?_, fun q => ?_⟩
  · have this : (Int32.ofInt v &&& Int32.ofInt m).toBitVec.getLsbD k = (0 : Int32).toBitVec.getLsbD k := by rw [q]
    have e : (Int32.ofInt v &&& Int32.ofInt m).toBitVec = (Int32.ofInt v).toBitVec &&& (Int32.ofInt m).toBitVec := rfl
    rw [e, BitVec.getLsbD_and] at this
    refine this.trans ?_
    exact BitVec.getLsbD_zero
  · apply Int32.toBitVec.inj
    refine BitVec.eq_of_getLsbD_eq fun i hi => ?_
    have e : (Int32.ofInt v &&& Int32.ofInt m).toBitVec = (Int32.ofInt v).toBitVec &&& (Int32.ofInt m).toBitVec := rfl
    rw [e, BitVec.getLsbD_and]
    refine (q i hi).trans ?_
    exact BitVec.getLsbD_zero.symm
theorem iAnd_in {x y : Int} : -2147483648 ≤ iAnd x y ∧ iAnd x y ≤ 2147483647 := io_in _
theorem iShr_in {x y : Int} : -2147483648 ≤ iShr x y ∧ iShr x y ≤ 2147483647 := io_in _
theorem jCmp_in {x y : Int64} : -2147483648 ≤ jCmp x y ∧ jCmp x y ≤ 2147483647 := io_in _
