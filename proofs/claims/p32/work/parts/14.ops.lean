/-! the pure machine's rows: one equation an instruction -/
section OPS
variable {sc : xS} {d i pc : Nat} {L L' : xL} {S : List Value} {h : xH}
theorem st_iconst {n : Int} (f : xft i pc = some (.iconst n)) : XR sc d i pc L S h = XR sc d i (pc + 1) L (.int (Int32.ofInt n) :: S) h := XR_eq f
theorem st_bipush {n : Int} (f : xft i pc = some (.bipush n)) (hv : (Int8.ofInt n).toInt32 = Int32.ofInt n) : XR sc d i pc L S h = XR sc d i (pc + 2) L (.int (Int32.ofInt n) :: S) h := by
  rw [← hv]; exact XR_eq f
theorem st_sipush {n : Int} (f : xft i pc = some (.sipush n)) (hv : (Int16.ofInt n).toInt32 = Int32.ofInt n) : XR sc d i pc L S h = XR sc d i (pc + 3) L (.int (Int32.ofInt n) :: S) h := by
  rw [← hv]; exact XR_eq f
theorem st_lconst {n : Fin 2} (f : xft i pc = some (.lconst n)) : XR sc d i pc L S h = XR sc d i (pc + 1) L (.long (Int64.ofNat n.val) :: S) h := XR_eq f
theorem st_ldc {k : Nat} {v : Int32 × Nat} (f : xft i pc = some (.ldc k)) (hv : xlk xIC (xmo i) k = some v) : XR sc d i pc L S h = XR sc d i (pc + 2) L (.int v.1 :: S) h := by
  rw [XR_eq f]; simp only [xact, hv]; rfl
theorem st_ldc2 {k : Nat} {v : Int64 × Nat} (f : xft i pc = some (.ldc2_w k)) (hv : xlk xJC (xmo i) k = some v) : XR sc d i pc L S h = XR sc d i (pc + 3) L (.long v.1 :: S) h := by
  rw [XR_eq f]; simp only [xact, hv]; rfl
theorem st_null (f : xft i pc = some .aconst_null) : XR sc d i pc L S h = XR sc d i (pc + 1) L (.null :: S) h := XR_eq f
theorem st_iload_n {k : Fin 4} {x : Int32} (f : xft i pc = some (.iload_n k)) (hl : L[k.val]? = some (some (.int x))) : XR sc d i pc L S h = XR sc d i (pc + 1) L (.int x :: S) h := by
  rw [XR_eq f]; simp only [xact, hl]; rfl
theorem st_iload {k : Nat} {x : Int32} (f : xft i pc = some (.iload k)) (hl : L[k]? = some (some (.int x))) : XR sc d i pc L S h = XR sc d i (pc + 2) L (.int x :: S) h := by
  rw [XR_eq f]; simp only [xact, hl]; rfl
theorem st_aload_n {k : Fin 4} {a : Nat} (f : xft i pc = some (.aload_n k)) (hl : L[k.val]? = some (some (.ref a))) : XR sc d i pc L S h = XR sc d i (pc + 1) L (.ref a :: S) h := by
  rw [XR_eq f]; simp only [xact, hl]; rfl
theorem st_aload {k : Nat} {a : Nat} (f : xft i pc = some (.aload k)) (hl : L[k]? = some (some (.ref a))) : XR sc d i pc L S h = XR sc d i (pc + 2) L (.ref a :: S) h := by
  rw [XR_eq f]; simp only [xact, hl]; rfl
theorem st_aload_nN {k : Fin 4} (f : xft i pc = some (.aload_n k)) (hl : L[k.val]? = some (some .null)) : XR sc d i pc L S h = XR sc d i (pc + 1) L (.null :: S) h := by
  rw [XR_eq f]; simp only [xact, hl]; rfl
theorem st_aloadN {k : Nat} (f : xft i pc = some (.aload k)) (hl : L[k]? = some (some .null)) : XR sc d i pc L S h = XR sc d i (pc + 2) L (.null :: S) h := by
  rw [XR_eq f]; simp only [xact, hl]; rfl
theorem st_aload_nS {k : Fin 4} {a : Nat} (f : xft i pc = some (.aload_n k)) (hl : L[k.val]? = some (some (.retAddr a))) : XR sc d i pc L S h = XR sc d i (pc + 1) L (.retAddr a :: S) h := by
  rw [XR_eq f]; simp only [xact, hl]; rfl
theorem st_istore_n {k : Fin 4} {x : Int32} (f : xft i pc = some (.istore_n k)) (hk : k.val < L.length) (hl : L.set k.val (some (.int x)) = L') : XR sc d i pc L (.int x :: S) h = XR sc d i (pc + 1) L' S h := by
  rw [XR_eq f]; simp only [xact, xst, if_pos hk, hl]; rfl
theorem st_istore {k : Nat} {x : Int32} (f : xft i pc = some (.istore k)) (hk : k < L.length) (hl : L.set k (some (.int x)) = L') : XR sc d i pc L (.int x :: S) h = XR sc d i (pc + 2) L' S h := by
  rw [XR_eq f]; simp only [xact, xst, if_pos hk, hl]; rfl
theorem st_astore_n {k : Fin 4} {a : Nat} (f : xft i pc = some (.astore_n k)) (hk : k.val < L.length) (hl : L.set k.val (some (.ref a)) = L') : XR sc d i pc L (.ref a :: S) h = XR sc d i (pc + 1) L' S h := by
  rw [XR_eq f]; simp only [xact, xst, if_pos hk, hl]; rfl
theorem st_astore {k : Nat} {a : Nat} (f : xft i pc = some (.astore k)) (hk : k < L.length) (hl : L.set k (some (.ref a)) = L') : XR sc d i pc L (.ref a :: S) h = XR sc d i (pc + 2) L' S h := by
  rw [XR_eq f]; simp only [xact, xst, if_pos hk, hl]; rfl
theorem st_astore_nN {k : Fin 4} (f : xft i pc = some (.astore_n k)) (hk : k.val < L.length) (hl : L.set k.val (some .null) = L') : XR sc d i pc L (.null :: S) h = XR sc d i (pc + 1) L' S h := by
  rw [XR_eq f]; simp only [xact, xst, if_pos hk, hl]; rfl
theorem st_astoreN {k : Nat} (f : xft i pc = some (.astore k)) (hk : k < L.length) (hl : L.set k (some .null) = L') : XR sc d i pc L (.null :: S) h = XR sc d i (pc + 2) L' S h := by
  rw [XR_eq f]; simp only [xact, xst, if_pos hk, hl]; rfl
theorem st_iinc {k : Nat} {n : Int} {x : Int32} (f : xft i pc = some (.iinc k n)) (hl : L[k]? = some (some (.int x))) (hk : k < L.length) (hs : L.set k (some (.int (x + Int32.ofInt n))) = L') : XR sc d i pc L S h = XR sc d i (pc + 3) L' S h := by
  rw [XR_eq f]; simp only [xact, hl, xst, if_pos hk, hs]; rfl
theorem st_iadd {x y : Int32} (f : xft i pc = some .iadd) : XR sc d i pc L (.int y :: .int x :: S) h = XR sc d i (pc + 1) L (.int (x + y) :: S) h := XR_eq f
theorem st_isub {x y : Int32} (f : xft i pc = some .isub) : XR sc d i pc L (.int y :: .int x :: S) h = XR sc d i (pc + 1) L (.int (x - y) :: S) h := XR_eq f
theorem st_imul {x y : Int32} (f : xft i pc = some .imul) : XR sc d i pc L (.int y :: .int x :: S) h = XR sc d i (pc + 1) L (.int (x * y) :: S) h := XR_eq f
theorem st_idiv {x y : Int32} (f : xft i pc = some .idiv) (hy : ¬ y = 0) : XR sc d i pc L (.int y :: .int x :: S) h = XR sc d i (pc + 1) L (.int (x / y) :: S) h := by
  rw [XR_eq f]; simp only [xact, if_neg hy]; rfl
theorem st_irem {x y : Int32} (f : xft i pc = some .irem) (hy : ¬ y = 0) : XR sc d i pc L (.int y :: .int x :: S) h = XR sc d i (pc + 1) L (.int (x - x / y * y) :: S) h := by
  rw [XR_eq f]; simp only [xact, if_neg hy]; rfl
theorem st_iand {x y : Int32} (f : xft i pc = some .iand) : XR sc d i pc L (.int y :: .int x :: S) h = XR sc d i (pc + 1) L (.int (x &&& y) :: S) h := XR_eq f
theorem st_ior {x y : Int32} (f : xft i pc = some .ior) : XR sc d i pc L (.int y :: .int x :: S) h = XR sc d i (pc + 1) L (.int (x ||| y) :: S) h := XR_eq f
theorem st_ixor {x y : Int32} (f : xft i pc = some .ixor) : XR sc d i pc L (.int y :: .int x :: S) h = XR sc d i (pc + 1) L (.int (x ^^^ y) :: S) h := XR_eq f
theorem st_ishl {x y : Int32} (f : xft i pc = some .ishl) : XR sc d i pc L (.int y :: .int x :: S) h = XR sc d i (pc + 1) L (.int (x <<< (y &&& 31)) :: S) h := XR_eq f
theorem st_ishr {x y : Int32} (f : xft i pc = some .ishr) : XR sc d i pc L (.int y :: .int x :: S) h = XR sc d i (pc + 1) L (.int (x >>> (y &&& 31)) :: S) h := XR_eq f
theorem st_i2l {x : Int32} (f : xft i pc = some .i2l) : XR sc d i pc L (.int x :: S) h = XR sc d i (pc + 1) L (.long x.toInt64 :: S) h := XR_eq f
theorem st_l2i {x : Int64} (f : xft i pc = some .l2i) : XR sc d i pc L (.long x :: S) h = XR sc d i (pc + 1) L (.int x.toInt32 :: S) h := XR_eq f
theorem st_land {x y : Int64} (f : xft i pc = some .land) : XR sc d i pc L (.long y :: .long x :: S) h = XR sc d i (pc + 1) L (.long (x &&& y) :: S) h := XR_eq f
theorem st_lor {x y : Int64} (f : xft i pc = some .lor) : XR sc d i pc L (.long y :: .long x :: S) h = XR sc d i (pc + 1) L (.long (x ||| y) :: S) h := XR_eq f
theorem st_lshl {x : Int64} {y : Int32} (f : xft i pc = some .lshl) : XR sc d i pc L (.int y :: .long x :: S) h = XR sc d i (pc + 1) L (.long (x <<< (y.toInt64 &&& 63)) :: S) h := XR_eq f
theorem st_lshr {x : Int64} {y : Int32} (f : xft i pc = some .lshr) : XR sc d i pc L (.int y :: .long x :: S) h = XR sc d i (pc + 1) L (.long (x >>> (y.toInt64 &&& 63)) :: S) h := XR_eq f
theorem st_lcmp {x y : Int64} (f : xft i pc = some .lcmp) : XR sc d i pc L (.long y :: .long x :: S) h = XR sc d i (pc + 1) L (.int (lg_cmp x y) :: S) h := XR_eq f
theorem st_dup {v : Value} (f : xft i pc = some .dup) (hv : xcat1 v = true) : XR sc d i pc L (v :: S) h = XR sc d i (pc + 1) L (v :: v :: S) h := by
  rw [XR_eq f]; simp only [xact, if_pos hv]; rfl
theorem st_dup2 {v w : Value} (f : xft i pc = some .dup2) (hv : xcat1 v = true) (hw : xcat1 w = true) : XR sc d i pc L (v :: w :: S) h = XR sc d i (pc + 1) L (v :: w :: v :: w :: S) h := by
  rw [XR_eq f]; simp only [xact, if_pos (And.intro hv hw)]; rfl
theorem xdo_br {c : xC1} {k : xK1} {cnd : Prop} {ic : Decidable cnd} {off : Int} {p0 : Nat} {h0 : xH} {L0 : xL} (ho : 0 ≤ (pc : Int) + off) : xdo i c k p0 L0 h0 (@xbr cnd ic pc off L S h) = @ite _ cnd ic (k (xjmp pc off) L S h) (k (pc + 3) L S h) := by
  unfold xbr
  rw [if_pos ho]
  show k (if cnd then xjmp pc off else pc + 3) L S h = _
  split <;> rfl
theorem st_icmp_eq {x y : Int32} {off : Int} {t : Nat} (f : xft i pc = some (.if_icmp .eq off)) (ht : 0 ≤ (pc : Int) + off ∧ xjmp pc off = t) : XR sc d i pc L (.int y :: .int x :: S) h = if x = y then XR sc d i t L S h else XR sc d i (pc + 3) L S h := by
  rw [XR_eq f, ← ht.2]; exact xdo_br ht.1
theorem st_icmp_ne {x y : Int32} {off : Int} {t : Nat} (f : xft i pc = some (.if_icmp .ne off)) (ht : 0 ≤ (pc : Int) + off ∧ xjmp pc off = t) : XR sc d i pc L (.int y :: .int x :: S) h = if x = y then XR sc d i (pc + 3) L S h else XR sc d i t L S h := by
  rw [XR_eq f, ← ht.2]; exact (xdo_br ht.1).trans (by split <;> simp_all)
theorem st_icmp_lt {x y : Int32} {off : Int} {t : Nat} (f : xft i pc = some (.if_icmp .lt off)) (ht : 0 ≤ (pc : Int) + off ∧ xjmp pc off = t) : XR sc d i pc L (.int y :: .int x :: S) h = if x < y then XR sc d i t L S h else XR sc d i (pc + 3) L S h := by
  rw [XR_eq f, ← ht.2]; exact xdo_br ht.1
theorem st_icmp_ge {x y : Int32} {off : Int} {t : Nat} (f : xft i pc = some (.if_icmp .ge off)) (ht : 0 ≤ (pc : Int) + off ∧ xjmp pc off = t) : XR sc d i pc L (.int y :: .int x :: S) h = if y ≤ x then XR sc d i t L S h else XR sc d i (pc + 3) L S h := by
  rw [XR_eq f, ← ht.2]; exact xdo_br ht.1
theorem st_icmp_gt {x y : Int32} {off : Int} {t : Nat} (f : xft i pc = some (.if_icmp .gt off)) (ht : 0 ≤ (pc : Int) + off ∧ xjmp pc off = t) : XR sc d i pc L (.int y :: .int x :: S) h = if y < x then XR sc d i t L S h else XR sc d i (pc + 3) L S h := by
  rw [XR_eq f, ← ht.2]; exact xdo_br ht.1
theorem st_icmp_le {x y : Int32} {off : Int} {t : Nat} (f : xft i pc = some (.if_icmp .le off)) (ht : 0 ≤ (pc : Int) + off ∧ xjmp pc off = t) : XR sc d i pc L (.int y :: .int x :: S) h = if x ≤ y then XR sc d i t L S h else XR sc d i (pc + 3) L S h := by
  rw [XR_eq f, ← ht.2]; exact xdo_br ht.1
theorem st_if_eq {x : Int32} {off : Int} {t : Nat} (f : xft i pc = some (.ifCond .eq off)) (ht : 0 ≤ (pc : Int) + off ∧ xjmp pc off = t) : XR sc d i pc L (.int x :: S) h = if x = 0 then XR sc d i t L S h else XR sc d i (pc + 3) L S h := by
  rw [XR_eq f, ← ht.2]; exact xdo_br ht.1
theorem st_if_ne {x : Int32} {off : Int} {t : Nat} (f : xft i pc = some (.ifCond .ne off)) (ht : 0 ≤ (pc : Int) + off ∧ xjmp pc off = t) : XR sc d i pc L (.int x :: S) h = if x = 0 then XR sc d i (pc + 3) L S h else XR sc d i t L S h := by
  rw [XR_eq f, ← ht.2]; exact (xdo_br ht.1).trans (by split <;> simp_all)
theorem st_if_lt {x : Int32} {off : Int} {t : Nat} (f : xft i pc = some (.ifCond .lt off)) (ht : 0 ≤ (pc : Int) + off ∧ xjmp pc off = t) : XR sc d i pc L (.int x :: S) h = if x < 0 then XR sc d i t L S h else XR sc d i (pc + 3) L S h := by
  rw [XR_eq f, ← ht.2]; exact xdo_br ht.1
theorem st_if_ge {x : Int32} {off : Int} {t : Nat} (f : xft i pc = some (.ifCond .ge off)) (ht : 0 ≤ (pc : Int) + off ∧ xjmp pc off = t) : XR sc d i pc L (.int x :: S) h = if 0 ≤ x then XR sc d i t L S h else XR sc d i (pc + 3) L S h := by
  rw [XR_eq f, ← ht.2]; exact xdo_br ht.1
theorem st_if_gt {x : Int32} {off : Int} {t : Nat} (f : xft i pc = some (.ifCond .gt off)) (ht : 0 ≤ (pc : Int) + off ∧ xjmp pc off = t) : XR sc d i pc L (.int x :: S) h = if 0 < x then XR sc d i t L S h else XR sc d i (pc + 3) L S h := by
  rw [XR_eq f, ← ht.2]; exact xdo_br ht.1
theorem st_if_le {x : Int32} {off : Int} {t : Nat} (f : xft i pc = some (.ifCond .le off)) (ht : 0 ≤ (pc : Int) + off ∧ xjmp pc off = t) : XR sc d i pc L (.int x :: S) h = if x ≤ 0 then XR sc d i t L S h else XR sc d i (pc + 3) L S h := by
  rw [XR_eq f, ← ht.2]; exact xdo_br ht.1
theorem st_goto {off : Int} {t : Nat} (f : xft i pc = some (.goto off)) (ht : 0 ≤ (pc : Int) + off ∧ xjmp pc off = t) : XR sc d i pc L S h = XR sc d i t L S h := by
  rw [XR_eq f, ← ht.2]; simp only [xact, if_pos ht.1]; rfl
theorem st_ifnull {off : Int} {a : Nat} (f : xft i pc = some (.ifnull off)) : XR sc d i pc L (.ref a :: S) h = XR sc d i (pc + 3) L S h := XR_eq f
theorem st_ifnullN {off : Int} {t : Nat} (f : xft i pc = some (.ifnull off)) (ht : 0 ≤ (pc : Int) + off ∧ xjmp pc off = t) : XR sc d i pc L (.null :: S) h = XR sc d i t L S h := by
  rw [XR_eq f, ← ht.2]; simp only [xact, if_pos ht.1]; rfl
theorem st_ifnonnull {off : Int} {a t : Nat} (f : xft i pc = some (.ifnonnull off)) (ht : 0 ≤ (pc : Int) + off ∧ xjmp pc off = t) : XR sc d i pc L (.ref a :: S) h = XR sc d i t L S h := by
  rw [XR_eq f, ← ht.2]; simp only [xact, if_pos ht.1]; rfl
theorem st_ifnonnullN {off : Int} (f : xft i pc = some (.ifnonnull off)) : XR sc d i pc L (.null :: S) h = XR sc d i (pc + 3) L S h := XR_eq f
theorem st_tableOut {dflt lo hi : Int} {offs : Array Int} {x : Int32} {t : Nat} (f : xft i pc = some (.tableswitch dflt lo hi offs)) (hx : x.toInt < lo ∨ hi < x.toInt) (ht : 0 ≤ (pc : Int) + dflt ∧ xjmp pc dflt = t) : XR sc d i pc L (.int x :: S) h = XR sc d i t L S h := by
  rw [XR_eq f, ← ht.2]; simp only [xact, if_pos hx, if_pos ht.1]; rfl
theorem st_tableIn {dflt lo hi : Int} {offs : Array Int} {x : Int32} {off : Int} {t : Nat} (f : xft i pc = some (.tableswitch dflt lo hi offs)) (hx : ¬ (x.toInt < lo ∨ hi < x.toInt)) (ho : offs[(x.toInt - lo).toNat]? = some off) (ht : 0 ≤ (pc : Int) + off ∧ xjmp pc off = t) : XR sc d i pc L (.int x :: S) h = XR sc d i t L S h := by
  rw [XR_eq f, ← ht.2]; simp only [xact, if_neg hx, ho, if_pos ht.1]; rfl
/-! ends -/
theorem st_ireturn {x : Int32} (f : xft i pc = some .ireturn) (hr : xmr i = some .int) : XR sc d i pc L [.int x] h = some (.inl (some (.int x)), h) := by
  rw [XR_eq f]; simp only [xact, if_pos hr]; rfl
theorem st_zreturn {x : Int32} (f : xft i pc = some .ireturn) (hr : xmr i = some .boolean) (hx : x = 0 ∨ x = 1) : XR sc d i pc L [.int x] h = some (.inl (some (.int x)), h) := by
  rw [XR_eq f]; simp only [xact, hr, hx, and_self, if_true]; rfl
theorem st_areturn {a : Nat} {cn : String} (f : xft i pc = some .areturn) (hr : xmr i = some (.object cn)) : XR sc d i pc L [.ref a] h = some (.inl (some (.ref a)), h) := by
  rw [XR_eq f]; simp only [xact, hr]; rfl
theorem st_areturnN {cn : String} (f : xft i pc = some .areturn) (hr : xmr i = some (.object cn)) : XR sc d i pc L [.null] h = some (.inl (some .null), h) := by
  rw [XR_eq f]; simp only [xact, hr]; rfl
theorem st_return (f : xft i pc = some .return_) (hr : xmr i = none) : XR sc d i pc L [] h = some (.inl none, h) := by
  rw [XR_eq f]; simp only [xact, if_pos hr]; rfl
/-! the heap -/
variable {T : Nat → Nat × Nat} {z : Nat × Nat} {I : Nat → Nat → Int32} {J : Nat → Nat → Int64} {R : Nat → Nat → Option Nat}
theorem st_getI {idx a c k : Nat} {q : Bool × Nat} (f : xft i pc = some (.getfield idx)) (hf : xlk xFL (xmo i) idx = some (c, k, q)) (hk : xfk c k ≠ 2) (hT : T a = (1 + c, 0)) : XR sc d i pc L (.ref a :: S) (T, z, I, J, R) = XR sc d i (pc + 3) L (.int (I a k) :: S) (T, z, I, J, R) := by
  rw [XR_eq f]; simp only [xact, hf, hT, if_neg hk, if_true]; rfl
theorem st_getR {idx a c k r : Nat} {q : Bool × Nat} (f : xft i pc = some (.getfield idx)) (hf : xlk xFL (xmo i) idx = some (c, k, q)) (hk : xfk c k = 2) (hT : T a = (1 + c, 0)) (hr : R a k = some r) : XR sc d i pc L (.ref a :: S) (T, z, I, J, R) = XR sc d i (pc + 3) L (.ref r :: S) (T, z, I, J, R) := by
  rw [XR_eq f]; simp only [xact, hf, hT, if_pos hk, if_true, hr]; rfl
theorem st_putI {idx a c k : Nat} {x : Int32} {n : Bool} {p0 : Nat} (f : xft i pc = some (.putfield idx)) (hf : xlk xFL (xmo i) idx = some (c, k, n, p0)) (hk : (xfk c k = 0 ∨ (xfk c k = 1 ∧ (x = 0 ∨ x = 1)))) (hfin : ((xT c k).2.2.2 = false ∨ ((xmy i).name = "<init>" ∧ xmo i = c ∧ n = false))) (hT : T a = (1 + c, 0)) : XR sc d i pc L (.int x :: .ref a :: S) (T, z, I, J, R) = XR sc d i (pc + 3) L S (T, z, xup2 I a k x, J, R) := by
  rw [XR_eq f]; simp only [xact, hf, if_pos (And.intro hT (And.intro hk hfin))]; rfl
theorem st_putR {idx a c k r : Nat} {n : Bool} {p0 : Nat} (f : xft i pc = some (.putfield idx)) (hf : xlk xFL (xmo i) idx = some (c, k, n, p0)) (hk : xfk c k = 2) (hfin : ((xT c k).2.2.2 = false ∨ ((xmy i).name = "<init>" ∧ xmo i = c ∧ n = false))) (hT : T a = (1 + c, 0)) : XR sc d i pc L (.ref r :: .ref a :: S) (T, z, I, J, R) = XR sc d i (pc + 3) L S (T, z, I, J, xup2 R a k (some r)) := by
  rw [XR_eq f]; simp only [xact, hf, if_pos (And.intro hT (And.intro hk hfin))]; rfl
theorem st_iaload {x : Int32} {a n : Nat} (f : xft i pc = some .iaload) (hT : T a = (32, n)) (h0 : ¬ x < 0) (hn : x.toNatClampNeg < n) : XR sc d i pc L (.int x :: .ref a :: S) (T, z, I, J, R) = XR sc d i (pc + 1) L (.int (I a x.toNatClampNeg) :: S) (T, z, I, J, R) := by
  rw [XR_eq f]; simp only [xact, hT, h0, hn, not_false_eq_true, and_self, if_true]; rfl
theorem st_ialoadS {x : Int32} {a : Nat} (f : xft i pc = some .iaload) (h0 : ¬ x < 0) (hn : x.toNatClampNeg < sc.1) : XR sc d i pc L (.int x :: .retAddr a :: S) h = XR sc d i (pc + 1) L (.int (sc.2 x.toNatClampNeg) :: S) h := by
  rw [XR_eq f]; simp only [xact, h0, hn, not_false_eq_true, and_self, if_true]; rfl
theorem st_baload {x : Int32} {a n : Nat} (f : xft i pc = some .baload) (hT : T a = (33, n)) (h0 : ¬ x < 0) (hn : x.toNatClampNeg < n) : XR sc d i pc L (.int x :: .ref a :: S) (T, z, I, J, R) = XR sc d i (pc + 1) L (.int (I a x.toNatClampNeg) :: S) (T, z, I, J, R) := by
  rw [XR_eq f]; simp only [xact, hT, h0, hn, not_false_eq_true, and_self, if_true]; rfl
theorem st_aaload {x : Int32} {a n t : Nat} (f : xft i pc = some .aaload) (hT : T a = (t, n)) (ht : 40 ≤ t ∧ t < 44) (h0 : ¬ x < 0) (hn : x.toNatClampNeg < n) : XR sc d i pc L (.int x :: .ref a :: S) (T, z, I, J, R) = XR sc d i (pc + 1) L (va_rf (R a x.toNatClampNeg) :: S) (T, z, I, J, R) := by
  rw [XR_eq f]; simp only [xact, hT, ht.1, ht.2, h0, hn, not_false_eq_true, and_self, if_true]; rfl
theorem st_iastore {x v : Int32} {a n : Nat} (f : xft i pc = some .iastore) (hT : T a = (32, n)) (h0 : ¬ x < 0) (hn : x.toNatClampNeg < n) : XR sc d i pc L (.int v :: .int x :: .ref a :: S) (T, z, I, J, R) = XR sc d i (pc + 1) L S (T, z, xup2 I a x.toNatClampNeg v, J, R) := by
  rw [XR_eq f]; simp only [xact, hT, h0, hn, not_false_eq_true, and_self, if_true]; rfl
theorem st_bastore {x v : Int32} {a n : Nat} (f : xft i pc = some .bastore) (hT : T a = (33, n)) (h0 : ¬ x < 0) (hn : x.toNatClampNeg < n) (hv : v = 0 ∨ v = 1) : XR sc d i pc L (.int v :: .int x :: .ref a :: S) (T, z, I, J, R) = XR sc d i (pc + 1) L S (T, z, xup2 I a x.toNatClampNeg v, J, R) := by
  rw [XR_eq f]; simp only [xact, hT, h0, hn, hv, not_false_eq_true, and_self, if_true]; rfl
theorem st_aastore {x : Int32} {a q c n : Nat} (f : xft i pc = some .aastore) (hT : T a = (40 + c, n)) (hc : c < 4) (h0 : ¬ x < 0) (hn : x.toNatClampNeg < n) (hq : q < z.1) (hTq : T q = (1 + c, 0)) : XR sc d i pc L (.ref q :: .int x :: .ref a :: S) (T, z, I, J, R) = XR sc d i (pc + 1) L S (T, z, I, J, xup2 R a x.toNatClampNeg (some q)) := by
  have e : (40 + c - 39 : Nat) = 1 + c := by omega
  have e2 : 40 ≤ 40 + c := by omega
  have e3 : 40 + c < 44 := by omega
  rw [XR_eq f]; simp only [xact, hT, h0, hn, hq, hTq, e, e2, e3, not_false_eq_true, and_self, if_true]; rfl
theorem st_alenI {a n t : Nat} (f : xft i pc = some .arraylength) (hT : T a = (t, n)) (ht : (32 ≤ t ∧ t < 35) ∨ (40 ≤ t ∧ t < 44)) : XR sc d i pc L (.ref a :: S) (T, z, I, J, R) = XR sc d i (pc + 1) L (.int (Int32.ofNat n) :: S) (T, z, I, J, R) := by
  rw [XR_eq f]; simp only [xact, hT, if_pos ht]; rfl
theorem st_alenS {a : Nat} (f : xft i pc = some .arraylength) : XR sc d i pc L (.retAddr a :: S) h = XR sc d i (pc + 1) L (.int (Int32.ofNat sc.1) :: S) h := XR_eq f
theorem st_new {idx c q : Nat} (f : xft i pc = some (.new idx)) (hk : xlk xKL (xmo i) idx = some (c, q)) (hc : c < 8) : XR sc d i pc L S h = XR sc d i (pc + 3) L (.ref h.2.1.1 :: S) (xnew h (1 + c, 0) (xN c)) := by
  rw [XR_eq f]; simp only [xact, hk, if_pos hc]; rfl
theorem st_newI {x : Int32} (f : xft i pc = some (.newarray .int)) (h0 : ¬ (x < 0 ∨ 1000 < x.toNatClampNeg)) : XR sc d i pc L (.int x :: S) h = XR sc d i (pc + 2) L (.ref h.2.1.1 :: S) (xnew h (32, x.toNatClampNeg) x.toNatClampNeg) := by
  rw [XR_eq f]; simp only [xact, if_neg h0]; rfl
theorem st_newZ {x : Int32} (f : xft i pc = some (.newarray .boolean)) (h0 : ¬ (x < 0 ∨ 1000 < x.toNatClampNeg)) : XR sc d i pc L (.int x :: S) h = XR sc d i (pc + 2) L (.ref h.2.1.1 :: S) (xnew h (33, x.toNatClampNeg) x.toNatClampNeg) := by
  rw [XR_eq f]; simp only [xact, if_neg h0]; rfl
theorem st_newA {idx c q : Nat} {x : Int32} (f : xft i pc = some (.anewarray idx)) (hk : xlk xKL (xmo i) idx = some (c, q)) (h0 : ¬ (x < 0 ∨ 1000 < x.toNatClampNeg ∨ 4 ≤ c)) : XR sc d i pc L (.int x :: S) h = XR sc d i (pc + 3) L (.ref h.2.1.1 :: S) (xnew h (40 + c, x.toNatClampNeg) x.toNatClampNeg) := by
  rw [XR_eq f]; simp only [xact, hk, if_neg h0]; rfl
theorem st_objinit {idx a q : Nat} (f : xft i pc = some (.invokespecial idx)) (h1 : xlk xCL (xmo i) idx = none) (h2 : xlk xOL (xmo i) idx = some q) (hd : 1 ≤ d ∧ S.length ≤ 4) : XR sc d i pc L (.ref a :: S) h = XR sc d i (pc + 3) L S h := by
  rw [XR_eq f]; simp only [xact, h1, h2, if_pos hd]; rfl
theorem st_throw {idx e0 q : Nat} (f : xft i pc = some (.new idx)) (hk : xlk xKL (xmo i) idx = some (e0, q)) (hc : 8 ≤ e0 ∧ e0 < 11) (ht : xthr d i pc e0 S h = xend (.inr e0) (xnew h (1 + e0, 0) 6)) : XR sc d i pc L S h = some (.inr e0, xnew h (1 + e0, 0) 6) := by
  have e1 : ¬ e0 < 8 := by omega
  rw [XR_eq f]; simp only [xact, hk, if_neg e1, if_pos hc.2, ht]; rfl
theorem xthr_L {idx e0 s0 c0 : Nat} {tx : String} (hd : 6 ≤ d) (hS : S.length ≤ 4) (hh : xmh i = []) (h3 : xft i (pc + 3) = some .dup) (h4 : xft i (pc + 4) = some (.ldc s0)) (h5 : xlk xSL (xmo i) s0 = some tx) (h6 : xft i (pc + 6) = some (.invokespecial c0)) (h9 : xft i (pc + 9) = some .athrow) (h7 : xlk xIL (xmo i) c0 = some e0) : xthr d i pc e0 S h = xend (.inr e0) (xnew h (1 + e0, 0) 6) := by
  unfold xthr
  rw [if_pos ⟨hd, hS, hh, h3⟩]
  simp only [h4, h5, h6, h9, h7, if_true]
theorem xthr_W {idx e0 s0 c0 : Nat} {tx : String} (hd : 6 ≤ d) (hS : S.length ≤ 4) (hh : xmh i = []) (h3 : xft i (pc + 3) = some .dup) (h4 : xft i (pc + 4) = some (.ldc_w s0)) (h5 : xlk xSL (xmo i) s0 = some tx) (h6 : xft i (pc + 7) = some (.invokespecial c0)) (h9 : xft i (pc + 10) = some .athrow) (h7 : xlk xIL (xmo i) c0 = some e0) : xthr d i pc e0 S h = xend (.inr e0) (xnew h (1 + e0, 0) 6) := by
  unfold xthr
  rw [if_pos ⟨hd, hS, hh, h3⟩]
  simp only [h4, h5, h6, h9, h7, if_true]
/-! calls -/
theorem st_callS {idx j : Nat} {q : Nat × Nat × Nat} {as S2 : List Value} (f : xft i pc = some (.invokestatic idx)) (hj : xlk xCL (xmo i) idx = some (j, 0, q)) (ha : xmn j ≤ S.length ∧ ((S.drop (xmn j)).length ≤ 4 ∨ ((S.drop (xmn j)).length ≤ 8 ∧ (S.drop (xmn j)).all xcat1 = true)) ∧ (S.take (xmn j)).reverse = as ∧ S.drop (xmn j) = S2) : XR sc d i pc L S h = xret i (XR sc d i) pc (pc + 3) L S2 (X sc d j as h) := by
  obtain ⟨h1, h2, rfl, rfl⟩ := ha
  rw [XR_eq f]; simp only [xact, hj, xinv, if_pos (And.intro h1 h2)]; rfl
theorem st_callV {idx j a : Nat} {q : Nat × Nat × Nat} {as S2 : List Value} (f : xft i pc = some (.invokevirtual idx)) (hj : xlk xCL (xmo i) idx = some (j, 1, q)) (ha : xmn j ≤ S.length ∧ ((S.drop (xmn j)).length ≤ 4 ∨ ((S.drop (xmn j)).length ≤ 8 ∧ (S.drop (xmn j)).all xcat1 = true)) ∧ (S.take (xmn j)).reverse = as ∧ S.drop (xmn j) = S2) (hT : h.1 a = (1 + xmo j, 0)) (hr : S.drop (xmn j - 1) = .ref a :: S2) : XR sc d i pc L S h = xret i (XR sc d i) pc (pc + 3) L S2 (X sc d j as h) := by
  obtain ⟨h1, h2, rfl, rfl⟩ := ha
  have h3 : xrcv j h (S.drop (xmn j - 1)) = true := by rw [hr]; exact decide_eq_true hT
  rw [XR_eq f]; simp only [xact, hj, h3, if_true, xinv, if_pos (And.intro h1 h2)]; rfl
theorem st_callI {idx j a : Nat} {q : Nat × Nat × Nat} {as S2 : List Value} (f : xft i pc = some (.invokespecial idx)) (hj : xlk xCL (xmo i) idx = some (j, 2, q)) (ha : xmn j ≤ S.length ∧ ((S.drop (xmn j)).length ≤ 4 ∨ ((S.drop (xmn j)).length ≤ 8 ∧ (S.drop (xmn j)).all xcat1 = true)) ∧ (S.take (xmn j)).reverse = as ∧ S.drop (xmn j) = S2) (hT : h.1 a = (1 + xmo j, 0)) (hr : S.drop (xmn j - 1) = .ref a :: S2) : XR sc d i pc L S h = xret i (XR sc d i) pc (pc + 3) L S2 (X sc d j as h) := by
  obtain ⟨h1, h2, rfl, rfl⟩ := ha
  have h3 : xrcv j h (S.drop (xmn j - 1)) = true := by rw [hr]; exact decide_eq_true hT
  rw [XR_eq f]; simp only [xact, hj, h3, if_true, xinv, if_pos (And.intro h1 h2)]; rfl
theorem xble {S1 : List Value} (h : (Nat.ble S1.length 4 || (Nat.ble S1.length 8 && S1.all xcat1)) = true) : S1.length ≤ 4 ∨ (S1.length ≤ 8 ∧ S1.all xcat1 = true) := by
  rw [Bool.or_eq_true, Bool.and_eq_true] at h
  exact h.imp Nat.le_of_ble_eq_true (fun q => ⟨Nat.le_of_ble_eq_true q.1, q.2⟩)
theorem st_callS' {idx j n : Nat} {q : Nat × Nat × Nat} {as S2 : List Value} (f : xft i pc = some (.invokestatic idx)) (hj : xlk xCL (xmo i) idx = some (j, 0, q)) (hn : xmn j = n) (h1 : Nat.ble n S.length = true) (h2 : (Nat.ble (S.drop n).length 4 || (Nat.ble (S.drop n).length 8 && (S.drop n).all xcat1)) = true) (h3 : (S.take n).reverse = as) (h4 : S.drop n = S2) : XR sc d i pc L S h = xret i (XR sc d i) pc (pc + 3) L S2 (X sc d j as h) := by
  subst hn
  exact st_callS f hj ⟨Nat.le_of_ble_eq_true h1, xble h2, h3, h4⟩
theorem st_callV' {idx j n a o : Nat} {q : Nat × Nat × Nat} {as S2 : List Value} (f : xft i pc = some (.invokevirtual idx)) (hj : xlk xCL (xmo i) idx = some (j, 1, q)) (hn : xmn j = n) (h1 : Nat.ble n S.length = true) (h2 : (Nat.ble (S.drop n).length 4 || (Nat.ble (S.drop n).length 8 && (S.drop n).all xcat1)) = true) (h3 : (S.take n).reverse = as) (h4 : S.drop n = S2) (ho : xmo j = o) (g0 : T a = (1 + o, 0)) (hr : S.drop (n - 1) = .ref a :: S2) : XR sc d i pc L S (T, z, I, J, R) = xret i (XR sc d i) pc (pc + 3) L S2 (X sc d j as (T, z, I, J, R)) := by
  subst hn ho
  exact st_callV f hj ⟨Nat.le_of_ble_eq_true h1, xble h2, h3, h4⟩ g0 hr
theorem st_callI' {idx j n a o : Nat} {q : Nat × Nat × Nat} {as S2 : List Value} (f : xft i pc = some (.invokespecial idx)) (hj : xlk xCL (xmo i) idx = some (j, 2, q)) (hn : xmn j = n) (h1 : Nat.ble n S.length = true) (h2 : (Nat.ble (S.drop n).length 4 || (Nat.ble (S.drop n).length 8 && (S.drop n).all xcat1)) = true) (h3 : (S.take n).reverse = as) (h4 : S.drop n = S2) (ho : xmo j = o) (g0 : T a = (1 + o, 0)) (hr : S.drop (n - 1) = .ref a :: S2) : XR sc d i pc L S (T, z, I, J, R) = xret i (XR sc d i) pc (pc + 3) L S2 (X sc d j as (T, z, I, J, R)) := by
  subst hn ho
  exact st_callI f hj ⟨Nat.le_of_ble_eq_true h1, xble h2, h3, h4⟩ g0 hr
theorem xret_v {k : xK1} {pc2 : Nat} {v : Value} : xret i k pc pc2 L S (some (.inl (some v), h)) = k pc2 L (v :: S) h := rfl
theorem xret_n {k : xK1} {pc2 : Nat} : xret i k pc pc2 L S (some (.inl none, h)) = k pc2 L S h := rfl
theorem xret_t {k : xK1} {pc2 e0 : Nat} (hh : xmh i = []) : xret i k pc pc2 L S (some (.inr e0, h)) = some (.inr e0, h) := by
  simp only [xret, if_pos hh]
theorem xret_c {k : xK1} {pc2 e0 t n : Nat} (hh : xmh i ≠ []) (hx : xhan i pc e0 (xmh i) = some (t, n)) (hn : n < L.length) : xret i k pc pc2 L S (some (.inr e0, h)) = k t (L.set n none) [] h := by
  simp only [xret, if_neg hh, hx, if_pos hn]
end OPS
