section XST9
variable {p : Program} {l : Launch} {e : Env} {R : Room} {s : State} {m : MethodId} {args : Array Value} {below : List Frame} {meth : Method} {c : Code} {Q : State → Prop} {D : va_G} {dA : Nat → ClassId} {base b n0 u0 j d pc pc' : Nat} {L L' : xL} {S S' : List Value} {h h' : xH} {sc : xS}
variable {H : Heap} {locs : List Loc} {ls : Array Slot}
set_option maxHeartbeats 4000000 in
/-- one instruction that goes on -/
theorem xs_go {ins : Instr} (C : xCtx p D dA base b sc j s m args meth c) (hs0 : s.heap.size = base + n0) (hF : R.frames = d ∧ 47 * d ≤ R.locals) (hres : h'.2.1.1 - n0 ≤ R.cells ∧ h'.2.1.2 - u0 ≤ R.slots) (hft : xft j pc = some ins) (hA : xact sc d j ins pc L S h = some (.inl (pc', L', S', h'))) (kk : xW p l e R s m args below meth c Q D dA base b n0 u0 j (pc') (L') (S') (h')) : xW p l e R s m args below meth c Q D dA base b n0 u0 j (pc) (L) (S) (h) := by
  obtain ⟨len, hd, hlen⟩ := xft_dec hft
  cases ins
  case iconst n => obtain rfl := hlen.resolve_right (fun q => by cases q); exact xs_iconst C hd hA kk
  case bipush n => obtain rfl := hlen.resolve_right (fun q => by cases q); exact xs_bipush C hd hA kk
  case sipush n => obtain rfl := hlen.resolve_right (fun q => by cases q); exact xs_sipush C hd hA kk
  case lconst n => obtain rfl := hlen.resolve_right (fun q => by cases q); exact xs_lconst C hd hA kk
  case aconst_null => obtain rfl := hlen.resolve_right (fun q => by cases q); exact xs_null C hd hA kk
  case iload_n n => obtain rfl := hlen.resolve_right (fun q => by cases q); exact xs_iload_n C hd hA kk
  case iload n => obtain rfl := hlen.resolve_right (fun q => by cases q); exact xs_iload C hd hA kk
  case aload_n n => obtain rfl := hlen.resolve_right (fun q => by cases q); exact xs_aload_n C hd hA kk
  case aload n => obtain rfl := hlen.resolve_right (fun q => by cases q); exact xs_aload C hd hA kk
  case istore_n n => obtain rfl := hlen.resolve_right (fun q => by cases q); exact xs_istore_n C hd hA kk
  case istore n => obtain rfl := hlen.resolve_right (fun q => by cases q); exact xs_istore C hd hA kk
  case astore_n n => obtain rfl := hlen.resolve_right (fun q => by cases q); exact xs_astore_n C hd hA kk
  case astore n => obtain rfl := hlen.resolve_right (fun q => by cases q); exact xs_astore C hd hA kk
  case iinc n k => obtain rfl := hlen.resolve_right (fun q => by cases q); exact xs_iinc C hd hA kk
  case iadd => obtain rfl := hlen.resolve_right (fun q => by cases q); exact xs_iadd C hd hA kk
  case isub => obtain rfl := hlen.resolve_right (fun q => by cases q); exact xs_isub C hd hA kk
  case imul => obtain rfl := hlen.resolve_right (fun q => by cases q); exact xs_imul C hd hA kk
  case idiv => obtain rfl := hlen.resolve_right (fun q => by cases q); exact xs_idiv C hd hA kk
  case irem => obtain rfl := hlen.resolve_right (fun q => by cases q); exact xs_irem C hd hA kk
  case iand => obtain rfl := hlen.resolve_right (fun q => by cases q); exact xs_iand C hd hA kk
  case ior => obtain rfl := hlen.resolve_right (fun q => by cases q); exact xs_ior C hd hA kk
  case ixor => obtain rfl := hlen.resolve_right (fun q => by cases q); exact xs_ixor C hd hA kk
  case ishl => obtain rfl := hlen.resolve_right (fun q => by cases q); exact xs_ishl C hd hA kk
  case ishr => obtain rfl := hlen.resolve_right (fun q => by cases q); exact xs_ishr C hd hA kk
  case i2l => obtain rfl := hlen.resolve_right (fun q => by cases q); exact xs_i2l C hd hA kk
  case l2i => obtain rfl := hlen.resolve_right (fun q => by cases q); exact xs_l2i C hd hA kk
  case land => obtain rfl := hlen.resolve_right (fun q => by cases q); exact xs_land C hd hA kk
  case lor => obtain rfl := hlen.resolve_right (fun q => by cases q); exact xs_lor C hd hA kk
  case lshl => obtain rfl := hlen.resolve_right (fun q => by cases q); exact xs_lshl C hd hA kk
  case lshr => obtain rfl := hlen.resolve_right (fun q => by cases q); exact xs_lshr C hd hA kk
  case lcmp => obtain rfl := hlen.resolve_right (fun q => by cases q); exact xs_lcmp C hd hA kk
  case dup => obtain rfl := hlen.resolve_right (fun q => by cases q); exact xs_dup C hd hA kk
  case dup2 => obtain rfl := hlen.resolve_right (fun q => by cases q); exact xs_dup2 C hd hA kk
  case if_icmp cnd off =>
    obtain rfl := hlen.resolve_right (fun q => by cases q)
    cases cnd
    · exact xs_icmp_eq C hd hA kk
    · exact xs_icmp_ne C hd hA kk
    · exact xs_icmp_lt C hd hA kk
    · exact xs_icmp_ge C hd hA kk
    · exact xs_icmp_gt C hd hA kk
    · exact xs_icmp_le C hd hA kk
  case ifCond cnd off =>
    obtain rfl := hlen.resolve_right (fun q => by cases q)
    cases cnd
    · exact xs_if_eq C hd hA kk
    · exact xs_if_ne C hd hA kk
    · exact xs_if_lt C hd hA kk
    · exact xs_if_ge C hd hA kk
    · exact xs_if_gt C hd hA kk
    · exact xs_if_le C hd hA kk
  case goto off => obtain rfl := hlen.resolve_right (fun q => by cases q); exact xs_goto C hd hA kk
  case ifnull off => obtain rfl := hlen.resolve_right (fun q => by cases q); exact xs_ifnull C hd hA kk
  case ifnonnull off => obtain rfl := hlen.resolve_right (fun q => by cases q); exact xs_ifnonnull C hd hA kk
  case tableswitch a b c2 f => exact xs_table C hd hA kk
  case ldc k => obtain rfl := hlen.resolve_right (fun q => by cases q); exact xs_ldc C hd hA kk
  case ldc2_w k => obtain rfl := hlen.resolve_right (fun q => by cases q); exact xs_ldc2 C hd hA kk
  case getfield k => obtain rfl := hlen.resolve_right (fun q => by cases q); exact xs_getfield C hd hA kk
  case putfield k => obtain rfl := hlen.resolve_right (fun q => by cases q); exact xs_putfield C hd hA kk
  case iaload => obtain rfl := hlen.resolve_right (fun q => by cases q); exact xs_iaload C hd hA kk
  case baload => obtain rfl := hlen.resolve_right (fun q => by cases q); exact xs_baload C hd hA kk
  case aaload => obtain rfl := hlen.resolve_right (fun q => by cases q); exact xs_aaload C hd hA kk
  case arraylength => obtain rfl := hlen.resolve_right (fun q => by cases q); exact xs_alen C hd hA kk
  case iastore => obtain rfl := hlen.resolve_right (fun q => by cases q); exact xs_iastore C hd hA kk
  case bastore => obtain rfl := hlen.resolve_right (fun q => by cases q); exact xs_bastore C hd hA kk
  case aastore => obtain rfl := hlen.resolve_right (fun q => by cases q); exact xs_aastore C hd hA kk
  case new k => obtain rfl := hlen.resolve_right (fun q => by cases q); exact xs_new C hs0 hres hd hA kk
  case newarray k => obtain rfl := hlen.resolve_right (fun q => by cases q); exact xs_newarray C hs0 hres hd hA kk
  case anewarray k => obtain rfl := hlen.resolve_right (fun q => by cases q); exact xs_anewarray C hs0 hres hd hA kk
  case invokespecial k => obtain rfl := hlen.resolve_right (fun q => by cases q); exact xs_objinit C hF hd hA kk
  case ireturn =>
    exfalso
    simp only [xact] at hA
    repeat' (split at hA)
    all_goals cases hA
  case areturn =>
    exfalso
    simp only [xact] at hA
    repeat' (split at hA)
    all_goals cases hA
  case return_ =>
    exfalso
    simp only [xact] at hA
    repeat' (split at hA)
    all_goals cases hA
  case invokestatic k =>
    exfalso
    simp only [xact] at hA
    split at hA
    · exact xinv_no hA
    · cases hA
  case invokevirtual k =>
    exfalso
    simp only [xact] at hA
    split at hA
    · split at hA
      · exact xinv_no hA
      · cases hA
    · cases hA
  all_goals (exfalso; cases hA)
end XST9
