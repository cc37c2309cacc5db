/-! the rows at the level of Int: a cell of ints holds xv V, a value of int is xw z -/
def xw (z : Int) : Value := .int (Int32.ofInt z)
def xv (V : Nat → Nat → Int) : Nat → Nat → Int32 := fun a k => Int32.ofInt (V a k)
def iAnd (x y : Int) : Int := (Int32.ofInt x &&& Int32.ofInt y).toInt
def iOr (x y : Int) : Int := (Int32.ofInt x ||| Int32.ofInt y).toInt
def iXor (x y : Int) : Int := (Int32.ofInt x ^^^ Int32.ofInt y).toInt
def iShl (x y : Int) : Int := (Int32.ofInt x <<< (Int32.ofInt y &&& 31)).toInt
def iShr (x y : Int) : Int := (Int32.ofInt x >>> (Int32.ofInt y &&& 31)).toInt
def jI (x : Int) : Int64 := (Int32.ofInt x).toInt64
def jToI (x : Int64) : Int := x.toInt32.toInt
def jShl (x : Int64) (y : Int) : Int64 := x <<< ((Int32.ofInt y).toInt64 &&& 63)
def jShr (x : Int64) (y : Int) : Int64 := x >>> ((Int32.ofInt y).toInt64 &&& 63)
def jCmp (x y : Int64) : Int := (lg_cmp x y).toInt
theorem xv_up2 {V : Nat → Nat → Int} {a k : Nat} {e : Int} : xup2 (xv V) a k (Int32.ofInt e) = xv (xup2 V a k e) := by
  funext b j
  by_cases h : b = a ∧ j = k
  · simp only [xup2, xv, if_pos h]
  · simp only [xup2, xv, if_neg h]
theorem xv_new {V : Nat → Nat → Int} {a : Nat} : va_up (xv V) a (fun _ => 0) = xv (va_up V a (fun _ => 0)) := by
  funext b j
  by_cases h : b = a
  · subst h; simp only [va_up, if_true, xv]; rfl
  · simp only [va_up, if_neg h, xv]
theorem io_lt {x y : Int} (hx : -2147483648 ≤ x ∧ x ≤ 2147483647) (hy : -2147483648 ≤ y ∧ y ≤ 2147483647) : (Int32.ofInt x < Int32.ofInt y) = (x < y) := by
  have h1 : Int32.minValue.toInt = -2147483648 := by decide
  have h2 : Int32.maxValue.toInt = 2147483647 := by decide
  exact propext (Int32.ofInt_lt_iff_lt (by omega) (by omega) (by omega) (by omega))
theorem io_le {x y : Int} (hx : -2147483648 ≤ x ∧ x ≤ 2147483647) (hy : -2147483648 ≤ y ∧ y ≤ 2147483647) : (Int32.ofInt x ≤ Int32.ofInt y) = (x ≤ y) := by
  have h1 : Int32.minValue.toInt = -2147483648 := by decide
  have h2 : Int32.maxValue.toInt = 2147483647 := by decide
  exact propext (Int32.ofInt_le_iff_le (by omega) (by omega) (by omega) (by omega))
theorem io_to {x : Int} (hx : -2147483648 ≤ x ∧ x ≤ 2147483647) : (Int32.ofInt x).toInt = x := Int32.toInt_ofInt_of_le (by omega) (by omega)
theorem io_eq {x y : Int} (hx : -2147483648 ≤ x ∧ x ≤ 2147483647) (hy : -2147483648 ≤ y ∧ y ≤ 2147483647) : (Int32.ofInt x = Int32.ofInt y) = (x = y) := by
  refine propext ⟨fun h => ?_, fun h => h ▸ rfl⟩
  have := congrArg Int32.toInt h
  rwa [io_to hx, io_to hy] at this
theorem io_nat {x : Int} (hx : -2147483648 ≤ x ∧ x ≤ 2147483647) : (Int32.ofInt x).toNatClampNeg = x.toNat := by
  show (Int32.ofInt x).toInt.toNat = _
  rw [io_to hx]
theorem io_zero : (0 : Int32) = Int32.ofInt 0 := rfl
theorem io_in (x : Int32) : -2147483648 ≤ x.toInt ∧ x.toInt ≤ 2147483647 := by
  have h1 := x.le_toInt
  have h2 := x.toInt_lt
  omega
theorem io_div {x y : Int} (hx : -2147483648 ≤ x ∧ x ≤ 2147483647) (hy : -2147483648 ≤ y ∧ y ≤ 2147483647) (h0 : ¬ y = 0) (h1 : ¬ (x = -2147483648 ∧ y = -1)) : Int32.ofInt x / Int32.ofInt y = Int32.ofInt (x.tdiv y) := by
  have a1 : Int32.minValue.toInt = -2147483648 := by decide
  have a2 : Int32.maxValue.toInt = 2147483647 := by decide
  exact (Int32.ofInt_tdiv (by omega) (by omega) (by omega) (by omega)).symm
section IOPS
variable {sc : xS} {d i pc : Nat} {L L' : xL} {S : List Value} {h : xH}
theorem sw_iconst {n : Int} (f : xft i pc = some (.iconst n)) : XR sc d i pc L S h = XR sc d i (pc + 1) L (xw n :: S) h := st_iconst f
theorem sw_bipush {n : Int} (f : xft i pc = some (.bipush n)) (hv : (Int8.ofInt n).toInt32 = Int32.ofInt n) : XR sc d i pc L S h = XR sc d i (pc + 2) L (xw n :: S) h := st_bipush f hv
theorem sw_sipush {n : Int} (f : xft i pc = some (.sipush n)) (hv : (Int16.ofInt n).toInt32 = Int32.ofInt n) : XR sc d i pc L S h = XR sc d i (pc + 3) L (xw n :: S) h := st_sipush f hv
theorem sw_ldc {k : Nat} {v : Int32 × Nat} (n : Int) (f : xft i pc = some (.ldc k)) (hv : xlk xIC (xmo i) k = some v) (hn : v.1 = Int32.ofInt n) : XR sc d i pc L S h = XR sc d i (pc + 2) L (xw n :: S) h := by
  rw [st_ldc f hv, hn]; rfl
theorem sw_iload_n {k : Fin 4} {x : Int} (f : xft i pc = some (.iload_n k)) (hl : L[k.val]? = some (some (xw x))) : XR sc d i pc L S h = XR sc d i (pc + 1) L (xw x :: S) h := st_iload_n f hl
theorem sw_iload {k : Nat} {x : Int} (f : xft i pc = some (.iload k)) (hl : L[k]? = some (some (xw x))) : XR sc d i pc L S h = XR sc d i (pc + 2) L (xw x :: S) h := st_iload f hl
theorem sw_istore_n {k : Fin 4} {x : Int} (f : xft i pc = some (.istore_n k)) (hk : k.val < L.length) (hl : L.set k.val (some (xw x)) = L') : XR sc d i pc L (xw x :: S) h = XR sc d i (pc + 1) L' S h := st_istore_n f hk hl
theorem sw_istore {k : Nat} {x : Int} (f : xft i pc = some (.istore k)) (hk : k < L.length) (hl : L.set k (some (xw x)) = L') : XR sc d i pc L (xw x :: S) h = XR sc d i (pc + 2) L' S h := st_istore f hk hl
theorem sw_iinc {k : Nat} {n x : Int} (f : xft i pc = some (.iinc k n)) (hl : L[k]? = some (some (xw x))) (hk : k < L.length) (hs : L.set k (some (xw (x + n))) = L') : XR sc d i pc L S h = XR sc d i (pc + 3) L' S h := by
  refine st_iinc f hl hk ?_
  rw [← hs, ← Int32.ofInt_add]; rfl
theorem sw_iadd {x y : Int} (f : xft i pc = some .iadd) : XR sc d i pc L (xw y :: xw x :: S) h = XR sc d i (pc + 1) L (xw (x + y) :: S) h := by
  unfold xw; rw [Int32.ofInt_add]; exact st_iadd f
theorem sw_isub {x y : Int} (f : xft i pc = some .isub) : XR sc d i pc L (xw y :: xw x :: S) h = XR sc d i (pc + 1) L (xw (x - y) :: S) h := by
  unfold xw; rw [Int32.ofInt_sub]; exact st_isub f
theorem sw_imul {x y : Int} (f : xft i pc = some .imul) : XR sc d i pc L (xw y :: xw x :: S) h = XR sc d i (pc + 1) L (xw (x * y) :: S) h := by
  unfold xw; rw [Int32.ofInt_mul]; exact st_imul f
theorem sw_idivT {x y : Int} (f : xft i pc = some .idiv) (g : ¬ y = 0 ∧ ¬ (x = -2147483648 ∧ y = -1) ∧ (-2147483648 ≤ x ∧ x ≤ 2147483647) ∧ -2147483648 ≤ y ∧ y ≤ 2147483647) : XR sc d i pc L (xw y :: xw x :: S) h = XR sc d i (pc + 1) L (xw (x.tdiv y) :: S) h := by
  unfold xw
  rw [← io_div g.2.2.1 g.2.2.2 g.1 g.2.1]
  exact st_idiv f (fun e => g.1 (by rw [io_zero, io_eq g.2.2.2 (by omega)] at e; exact e))
theorem sw_idiv {x y : Int} (f : xft i pc = some .idiv) (g : 0 < y ∧ y ≤ 2147483647 ∧ 0 ≤ x ∧ x ≤ 2147483647) : XR sc d i pc L (xw y :: xw x :: S) h = XR sc d i (pc + 1) L (xw (x / y) :: S) h := by
  rw [← Int.tdiv_eq_ediv_of_nonneg g.2.2.1]
  exact sw_idivT f (by omega)
theorem sw_iremT {x y : Int} (f : xft i pc = some .irem) (g : ¬ y = 0 ∧ ¬ (x = -2147483648 ∧ y = -1) ∧ (-2147483648 ≤ x ∧ x ≤ 2147483647) ∧ -2147483648 ≤ y ∧ y ≤ 2147483647) : XR sc d i pc L (xw y :: xw x :: S) h = XR sc d i (pc + 1) L (xw (x - x.tdiv y * y) :: S) h := by
  unfold xw
  rw [Int32.ofInt_sub, Int32.ofInt_mul, ← io_div g.2.2.1 g.2.2.2 g.1 g.2.1]
  exact st_irem f (fun e => g.1 (by rw [io_zero, io_eq g.2.2.2 (by omega)] at e; exact e))
theorem sw_irem {x y : Int} (f : xft i pc = some .irem) (g : 0 < y ∧ y ≤ 2147483647 ∧ 0 ≤ x ∧ x ≤ 2147483647) : XR sc d i pc L (xw y :: xw x :: S) h = XR sc d i (pc + 1) L (xw (x % y) :: S) h := by
  have e : x % y = x - x.tdiv y * y := by rw [Int.tdiv_eq_ediv_of_nonneg g.2.2.1, Int.mul_comm]; exact Int.emod_def x y
  rw [e]
  exact sw_iremT f (by omega)
theorem sw_iand {x y : Int} (f : xft i pc = some .iand) : XR sc d i pc L (xw y :: xw x :: S) h = XR sc d i (pc + 1) L (xw (iAnd x y) :: S) h := by
  unfold xw iAnd; rw [Int32.ofInt_toInt]; exact st_iand f
theorem sw_ior {x y : Int} (f : xft i pc = some .ior) : XR sc d i pc L (xw y :: xw x :: S) h = XR sc d i (pc + 1) L (xw (iOr x y) :: S) h := by
  unfold xw iOr; rw [Int32.ofInt_toInt]; exact st_ior f
theorem sw_ixor {x y : Int} (f : xft i pc = some .ixor) : XR sc d i pc L (xw y :: xw x :: S) h = XR sc d i (pc + 1) L (xw (iXor x y) :: S) h := by
  unfold xw iXor; rw [Int32.ofInt_toInt]; exact st_ixor f
theorem sw_ishl {x y : Int} (f : xft i pc = some .ishl) : XR sc d i pc L (xw y :: xw x :: S) h = XR sc d i (pc + 1) L (xw (iShl x y) :: S) h := by
  unfold xw iShl; rw [Int32.ofInt_toInt]; exact st_ishl f
theorem sw_ishr {x y : Int} (f : xft i pc = some .ishr) : XR sc d i pc L (xw y :: xw x :: S) h = XR sc d i (pc + 1) L (xw (iShr x y) :: S) h := by
  unfold xw iShr; rw [Int32.ofInt_toInt]; exact st_ishr f
theorem sw_i2l {x : Int} (f : xft i pc = some .i2l) : XR sc d i pc L (xw x :: S) h = XR sc d i (pc + 1) L (.long (jI x) :: S) h := st_i2l f
theorem sw_l2i {x : Int64} (f : xft i pc = some .l2i) : XR sc d i pc L (.long x :: S) h = XR sc d i (pc + 1) L (xw (jToI x) :: S) h := by
  unfold xw jToI; rw [Int32.ofInt_toInt]; exact st_l2i f
theorem sw_lshl {x : Int64} {y : Int} (f : xft i pc = some .lshl) : XR sc d i pc L (xw y :: .long x :: S) h = XR sc d i (pc + 1) L (.long (jShl x y) :: S) h := st_lshl f
theorem sw_lshr {x : Int64} {y : Int} (f : xft i pc = some .lshr) : XR sc d i pc L (xw y :: .long x :: S) h = XR sc d i (pc + 1) L (.long (jShr x y) :: S) h := st_lshr f
theorem sw_lcmp {x y : Int64} (f : xft i pc = some .lcmp) : XR sc d i pc L (.long y :: .long x :: S) h = XR sc d i (pc + 1) L (xw (jCmp x y) :: S) h := by
  unfold xw jCmp; rw [Int32.ofInt_toInt]; exact st_lcmp f
theorem sw_icmp_eq {x y : Int} {off : Int} {t : Nat} (f : xft i pc = some (.if_icmp .eq off)) (ht : 0 ≤ (pc : Int) + off ∧ xjmp pc off = t) (gx : -2147483648 ≤ x ∧ x ≤ 2147483647) (gy : -2147483648 ≤ y ∧ y ≤ 2147483647) : XR sc d i pc L (xw y :: xw x :: S) h = if x = y then XR sc d i t L S h else XR sc d i (pc + 3) L S h := by
  refine (st_icmp_eq f ht).trans ?_
  simp only [io_eq gx gy]
theorem sw_if_eq {x : Int} {off : Int} {t : Nat} (f : xft i pc = some (.ifCond .eq off)) (ht : 0 ≤ (pc : Int) + off ∧ xjmp pc off = t) (gx : -2147483648 ≤ x ∧ x ≤ 2147483647) : XR sc d i pc L (xw x :: S) h = if x = 0 then XR sc d i t L S h else XR sc d i (pc + 3) L S h := by
  refine (st_if_eq f ht).trans ?_
  rw [io_zero]
  simp only [io_eq (y := 0) gx ⟨by decide, by decide⟩]
theorem sw_icmp_ne {x y : Int} {off : Int} {t : Nat} (f : xft i pc = some (.if_icmp .ne off)) (ht : 0 ≤ (pc : Int) + off ∧ xjmp pc off = t) (gx : -2147483648 ≤ x ∧ x ≤ 2147483647) (gy : -2147483648 ≤ y ∧ y ≤ 2147483647) : XR sc d i pc L (xw y :: xw x :: S) h = if x = y then XR sc d i (pc + 3) L S h else XR sc d i t L S h := by
  refine (st_icmp_ne f ht).trans ?_
  simp only [io_eq gx gy]
theorem sw_if_ne {x : Int} {off : Int} {t : Nat} (f : xft i pc = some (.ifCond .ne off)) (ht : 0 ≤ (pc : Int) + off ∧ xjmp pc off = t) (gx : -2147483648 ≤ x ∧ x ≤ 2147483647) : XR sc d i pc L (xw x :: S) h = if x = 0 then XR sc d i (pc + 3) L S h else XR sc d i t L S h := by
  refine (st_if_ne f ht).trans ?_
  rw [io_zero]
  simp only [io_eq (y := 0) gx ⟨by decide, by decide⟩]
theorem sw_icmp_lt {x y : Int} {off : Int} {t : Nat} (f : xft i pc = some (.if_icmp .lt off)) (ht : 0 ≤ (pc : Int) + off ∧ xjmp pc off = t) (gx : -2147483648 ≤ x ∧ x ≤ 2147483647) (gy : -2147483648 ≤ y ∧ y ≤ 2147483647) : XR sc d i pc L (xw y :: xw x :: S) h = if x < y then XR sc d i t L S h else XR sc d i (pc + 3) L S h := by
  refine (st_icmp_lt f ht).trans ?_
  simp only [io_lt gx gy]
theorem sw_if_lt {x : Int} {off : Int} {t : Nat} (f : xft i pc = some (.ifCond .lt off)) (ht : 0 ≤ (pc : Int) + off ∧ xjmp pc off = t) (gx : -2147483648 ≤ x ∧ x ≤ 2147483647) : XR sc d i pc L (xw x :: S) h = if x < 0 then XR sc d i t L S h else XR sc d i (pc + 3) L S h := by
  refine (st_if_lt f ht).trans ?_
  rw [io_zero]
  simp only [io_lt (y := 0) gx ⟨by decide, by decide⟩]
theorem sw_icmp_ge {x y : Int} {off : Int} {t : Nat} (f : xft i pc = some (.if_icmp .ge off)) (ht : 0 ≤ (pc : Int) + off ∧ xjmp pc off = t) (gx : -2147483648 ≤ x ∧ x ≤ 2147483647) (gy : -2147483648 ≤ y ∧ y ≤ 2147483647) : XR sc d i pc L (xw y :: xw x :: S) h = if y ≤ x then XR sc d i t L S h else XR sc d i (pc + 3) L S h := by
  refine (st_icmp_ge f ht).trans ?_
  simp only [io_le gy gx]
theorem sw_if_ge {x : Int} {off : Int} {t : Nat} (f : xft i pc = some (.ifCond .ge off)) (ht : 0 ≤ (pc : Int) + off ∧ xjmp pc off = t) (gx : -2147483648 ≤ x ∧ x ≤ 2147483647) : XR sc d i pc L (xw x :: S) h = if 0 ≤ x then XR sc d i t L S h else XR sc d i (pc + 3) L S h := by
  refine (st_if_ge f ht).trans ?_
  rw [io_zero]
  simp only [io_le (x := 0) ⟨by decide, by decide⟩ gx]
theorem sw_icmp_gt {x y : Int} {off : Int} {t : Nat} (f : xft i pc = some (.if_icmp .gt off)) (ht : 0 ≤ (pc : Int) + off ∧ xjmp pc off = t) (gx : -2147483648 ≤ x ∧ x ≤ 2147483647) (gy : -2147483648 ≤ y ∧ y ≤ 2147483647) : XR sc d i pc L (xw y :: xw x :: S) h = if y < x then XR sc d i t L S h else XR sc d i (pc + 3) L S h := by
  refine (st_icmp_gt f ht).trans ?_
  simp only [io_lt gy gx]
theorem sw_if_gt {x : Int} {off : Int} {t : Nat} (f : xft i pc = some (.ifCond .gt off)) (ht : 0 ≤ (pc : Int) + off ∧ xjmp pc off = t) (gx : -2147483648 ≤ x ∧ x ≤ 2147483647) : XR sc d i pc L (xw x :: S) h = if 0 < x then XR sc d i t L S h else XR sc d i (pc + 3) L S h := by
  refine (st_if_gt f ht).trans ?_
  rw [io_zero]
  simp only [io_lt (x := 0) ⟨by decide, by decide⟩ gx]
theorem sw_icmp_le {x y : Int} {off : Int} {t : Nat} (f : xft i pc = some (.if_icmp .le off)) (ht : 0 ≤ (pc : Int) + off ∧ xjmp pc off = t) (gx : -2147483648 ≤ x ∧ x ≤ 2147483647) (gy : -2147483648 ≤ y ∧ y ≤ 2147483647) : XR sc d i pc L (xw y :: xw x :: S) h = if x ≤ y then XR sc d i t L S h else XR sc d i (pc + 3) L S h := by
  refine (st_icmp_le f ht).trans ?_
  simp only [io_le gx gy]
theorem sw_if_le {x : Int} {off : Int} {t : Nat} (f : xft i pc = some (.ifCond .le off)) (ht : 0 ≤ (pc : Int) + off ∧ xjmp pc off = t) (gx : -2147483648 ≤ x ∧ x ≤ 2147483647) : XR sc d i pc L (xw x :: S) h = if x ≤ 0 then XR sc d i t L S h else XR sc d i (pc + 3) L S h := by
  refine (st_if_le f ht).trans ?_
  rw [io_zero]
  simp only [io_le (y := 0) gx ⟨by decide, by decide⟩]
theorem sw_ireturn {x : Int} (f : xft i pc = some .ireturn) (hr : xmr i = some .int) : XR sc d i pc L [xw x] h = some (.inl (some (xw x)), h) := st_ireturn f hr
theorem sw_zreturn {x : Int} (f : xft i pc = some .ireturn) (hr : xmr i = some .boolean) (hx : x = 0 ∨ x = 1) : XR sc d i pc L [xw x] h = some (.inl (some (xw x)), h) :=
  st_zreturn f hr (hx.imp (fun e => by rw [e]; rfl) (fun e => by rw [e]; rfl))
variable {T : Nat → Nat × Nat} {z : Nat × Nat} {V : Nat → Nat → Int} {J : Nat → Nat → Int64} {R : Nat → Nat → Option Nat}
theorem sw_getI {idx a c k : Nat} {q : Bool × Nat} (f : xft i pc = some (.getfield idx)) (hf : xlk xFL (xmo i) idx = some (c, k, q)) (hk : xfk c k ≠ 2) (hT : T a = (1 + c, 0)) : XR sc d i pc L (.ref a :: S) (T, z, xv V, J, R) = XR sc d i (pc + 3) L (xw (V a k) :: S) (T, z, xv V, J, R) := st_getI f hf hk hT
theorem sw_putI {idx a c k : Nat} {x : Int} {n : Bool} {p0 : Nat} (f : xft i pc = some (.putfield idx)) (hf : xlk xFL (xmo i) idx = some (c, k, n, p0)) (hk : (xfk c k = 0 ∨ (xfk c k = 1 ∧ (x = 0 ∨ x = 1)))) (hfin : ((xT c k).2.2.2 = false ∨ ((xmy i).name = "<init>" ∧ xmo i = c ∧ n = false))) (hT : T a = (1 + c, 0)) : XR sc d i pc L (xw x :: .ref a :: S) (T, z, xv V, J, R) = XR sc d i (pc + 3) L S (T, z, xv (xup2 V a k x), J, R) := by
  rw [← xv_up2]
  exact st_putI f hf (hk.imp id (fun q => ⟨q.1, q.2.imp (fun e => by rw [e]; rfl) (fun e => by rw [e]; rfl)⟩)) hfin hT
theorem io_ix {x : Int} {n : Nat} (g : 0 ≤ x ∧ x < n ∧ n ≤ 3584) : ¬ Int32.ofInt x < 0 ∧ (Int32.ofInt x).toNatClampNeg < n ∧ (Int32.ofInt x).toNatClampNeg = x.toNat := by
  have h1 : -2147483648 ≤ x ∧ x ≤ 2147483647 := by omega
  have h2 := io_nat h1
  refine ⟨?_, by omega, h2⟩
  rw [io_zero, io_lt h1 (by omega)]
  omega
theorem sw_iaload {x : Int} {a n : Nat} (f : xft i pc = some .iaload) (hT : T a = (32, n)) (g : 0 ≤ x ∧ x < n ∧ n ≤ 3584) : XR sc d i pc L (xw x :: .ref a :: S) (T, z, xv V, J, R) = XR sc d i (pc + 1) L (xw (V a x.toNat) :: S) (T, z, xv V, J, R) := by
  have h1 := io_ix g
  have := st_iaload (sc := sc) (d := d) (L := L) (S := S) (z := z) (I := xv V) (J := J) (R := R) f hT h1.1 h1.2.1
  rw [h1.2.2] at this
  exact this
theorem sw_ialoadS {x : Int} {a : Nat} (f : xft i pc = some .iaload) (g : 0 ≤ x ∧ x < (sc.1 : Int) ∧ sc.1 ≤ 3584) : XR sc d i pc L (xw x :: .retAddr a :: S) h = XR sc d i (pc + 1) L (xw (sc.2 x.toNat).toInt :: S) h := by
  have h1 := io_ix g
  unfold xw
  rw [Int32.ofInt_toInt, ← h1.2.2]
  exact st_ialoadS f h1.1 h1.2.1
theorem sw_baload {x : Int} {a n : Nat} (f : xft i pc = some .baload) (hT : T a = (33, n)) (g : 0 ≤ x ∧ x < n ∧ n ≤ 3584) : XR sc d i pc L (xw x :: .ref a :: S) (T, z, xv V, J, R) = XR sc d i (pc + 1) L (xw (V a x.toNat) :: S) (T, z, xv V, J, R) := by
  have h1 := io_ix g
  have := st_baload (sc := sc) (d := d) (L := L) (S := S) (z := z) (I := xv V) (J := J) (R := R) f hT h1.1 h1.2.1
  rw [h1.2.2] at this
  exact this
theorem sw_aaload {x : Int} {a n t : Nat} {v : Option Nat} (f : xft i pc = some .aaload) (hT : T a = (t, n)) (ht : 40 ≤ t ∧ t < 44) (g : 0 ≤ x ∧ x < n ∧ n ≤ 3584) (hv : R a x.toNat = v) : XR sc d i pc L (xw x :: .ref a :: S) (T, z, xv V, J, R) = XR sc d i (pc + 1) L (va_rf v :: S) (T, z, xv V, J, R) := by
  have h1 := io_ix g
  rw [← hv, ← h1.2.2]
  exact st_aaload f hT ht h1.1 h1.2.1
theorem sw_iastore {x v : Int} {a n : Nat} (f : xft i pc = some .iastore) (hT : T a = (32, n)) (g : 0 ≤ x ∧ x < n ∧ n ≤ 3584) : XR sc d i pc L (xw v :: xw x :: .ref a :: S) (T, z, xv V, J, R) = XR sc d i (pc + 1) L S (T, z, xv (xup2 V a x.toNat v), J, R) := by
  have h1 := io_ix g
  rw [← xv_up2, ← h1.2.2]
  exact st_iastore f hT h1.1 h1.2.1
theorem sw_bastore {x v : Int} {a n : Nat} (f : xft i pc = some .bastore) (hT : T a = (33, n)) (g : 0 ≤ x ∧ x < n ∧ n ≤ 3584) (hv : v = 0 ∨ v = 1) : XR sc d i pc L (xw v :: xw x :: .ref a :: S) (T, z, xv V, J, R) = XR sc d i (pc + 1) L S (T, z, xv (xup2 V a x.toNat v), J, R) := by
  have h1 := io_ix g
  rw [← xv_up2, ← h1.2.2]
  exact st_bastore f hT h1.1 h1.2.1 (hv.imp (fun e => by rw [e]; rfl) (fun e => by rw [e]; rfl))
theorem sw_aastore {x : Int} {a q c n : Nat} (f : xft i pc = some .aastore) (hT : T a = (40 + c, n)) (hc : c < 4) (g : 0 ≤ x ∧ x < n ∧ n ≤ 3584) (hq : q < z.1) (hTq : T q = (1 + c, 0)) : XR sc d i pc L (.ref q :: xw x :: .ref a :: S) (T, z, xv V, J, R) = XR sc d i (pc + 1) L S (T, z, xv V, J, xup2 R a x.toNat (some q)) := by
  have h1 := io_ix g
  rw [← h1.2.2]
  exact st_aastore f hT hc h1.1 h1.2.1 hq hTq
theorem sw_alenI {a n t : Nat} (f : xft i pc = some .arraylength) (hT : T a = (t, n)) (ht : (32 ≤ t ∧ t < 35) ∨ (40 ≤ t ∧ t < 44)) : XR sc d i pc L (.ref a :: S) (T, z, xv V, J, R) = XR sc d i (pc + 1) L (xw n :: S) (T, z, xv V, J, R) := by
  unfold xw; rw [Int32.ofInt_eq_ofNat]; exact st_alenI f hT ht
theorem sw_alenS {a : Nat} (f : xft i pc = some .arraylength) : XR sc d i pc L (.retAddr a :: S) h = XR sc d i (pc + 1) L (xw sc.1 :: S) h := by
  unfold xw; rw [Int32.ofInt_eq_ofNat]; exact st_alenS f
theorem sw_new {idx c q : Nat} (f : xft i pc = some (.new idx)) (hk : xlk xKL (xmo i) idx = some (c, q)) (hc : c < 8) : XR sc d i pc L S (T, z, xv V, J, R) = XR sc d i (pc + 3) L (.ref z.1 :: S) (va_up T z.1 (1 + c, 0), (z.1 + 1, z.2 + xN c), xv (va_up V z.1 (fun _ => 0)), va_up J z.1 (fun _ => 0), va_up R z.1 (fun _ => none)) := by
  rw [← xv_new]; exact st_new f hk hc
theorem sw_newI {x : Int} (n : Nat) (f : xft i pc = some (.newarray .int)) (g : x = n ∧ n ≤ 1000) : XR sc d i pc L (xw x :: S) (T, z, xv V, J, R) = XR sc d i (pc + 2) L (.ref z.1 :: S) (va_up T z.1 (32, n), (z.1 + 1, z.2 + n), xv (va_up V z.1 (fun _ => 0)), va_up J z.1 (fun _ => 0), va_up R z.1 (fun _ => none)) := by
  obtain ⟨rfl, gn⟩ := g
  have h1 := io_ix (x := (n : Int)) (n := n + 1) (by omega)
  have h2 : (Int32.ofInt (n : Int)).toNatClampNeg = n := by rw [h1.2.2]; rfl
  have := st_newI (sc := sc) (d := d) (L := L) (S := S) (h := (T, z, xv V, J, R)) f (x := Int32.ofInt (n : Int)) (fun q => q.elim h1.1 (fun q => by omega))
  rw [h2] at this
  rw [← xv_new]; exact this
theorem sw_newZ {x : Int} (n : Nat) (f : xft i pc = some (.newarray .boolean)) (g : x = n ∧ n ≤ 1000) : XR sc d i pc L (xw x :: S) (T, z, xv V, J, R) = XR sc d i (pc + 2) L (.ref z.1 :: S) (va_up T z.1 (33, n), (z.1 + 1, z.2 + n), xv (va_up V z.1 (fun _ => 0)), va_up J z.1 (fun _ => 0), va_up R z.1 (fun _ => none)) := by
  obtain ⟨rfl, gn⟩ := g
  have h1 := io_ix (x := (n : Int)) (n := n + 1) (by omega)
  have h2 : (Int32.ofInt (n : Int)).toNatClampNeg = n := by rw [h1.2.2]; rfl
  have := st_newZ (sc := sc) (d := d) (L := L) (S := S) (h := (T, z, xv V, J, R)) f (x := Int32.ofInt (n : Int)) (fun q => q.elim h1.1 (fun q => by omega))
  rw [h2] at this
  rw [← xv_new]; exact this
theorem sw_newA {idx c q : Nat} {x : Int} (n : Nat) (f : xft i pc = some (.anewarray idx)) (hk : xlk xKL (xmo i) idx = some (c, q)) (hc : c < 4) (g : x = n ∧ n ≤ 1000) : XR sc d i pc L (xw x :: S) (T, z, xv V, J, R) = XR sc d i (pc + 3) L (.ref z.1 :: S) (va_up T z.1 (40 + c, n), (z.1 + 1, z.2 + n), xv (va_up V z.1 (fun _ => 0)), va_up J z.1 (fun _ => 0), va_up R z.1 (fun _ => none)) := by
  obtain ⟨rfl, gn⟩ := g
  have h1 := io_ix (x := (n : Int)) (n := n + 1) (by omega)
  have h2 : (Int32.ofInt (n : Int)).toNatClampNeg = n := by rw [h1.2.2]; rfl
  have := st_newA (sc := sc) (d := d) (L := L) (S := S) (h := (T, z, xv V, J, R)) f hk (x := Int32.ofInt (n : Int)) (fun q => q.elim h1.1 (fun q => q.elim (fun q => by omega) (fun q => by omega)))
  rw [h2] at this
  rw [← xv_new]; exact this
theorem sw_throw {idx e0 q : Nat} (f : xft i pc = some (.new idx)) (hk : xlk xKL (xmo i) idx = some (e0, q)) (hc : 8 ≤ e0 ∧ e0 < 11) (ht : xthr d i pc e0 S (T, z, xv V, J, R) = xend (.inr e0) (xnew (T, z, xv V, J, R) (1 + e0, 0) 6)) : XR sc d i pc L S (T, z, xv V, J, R) = some (.inr e0, (va_up T z.1 (1 + e0, 0), (z.1 + 1, z.2 + 6), xv (va_up V z.1 (fun _ => 0)), va_up J z.1 (fun _ => 0), va_up R z.1 (fun _ => none))) := by
  rw [← xv_new]; exact st_throw f hk hc ht
end IOPS
