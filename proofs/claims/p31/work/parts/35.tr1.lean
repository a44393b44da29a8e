/-! ===== THE TRANSFER IS SOUND: all of it ===== -/
set_option maxHeartbeats 4000000 in
theorem ab_tr1_ok {T : ab_T} {md : List (Nat × Nat)} {G : am_G} {M : am_M} {i : am_I} {ls : am_L} {st : List Value} {h : am_H} {nc ns : Nat} {F F' : ab_F} {E : ab_E} (hG : G.2.1 = am_tys) (hr : (Nat.ble nc M.2.2.1.2.2.1 && Nat.ble ns M.2.2.1.2.2.2) = true) (hI : ab_Inv (ab_hi T) h) (hF : ab_gF F ls st h) (ht : ab_tr1 T md M i F = some (F', E)) : ab_Ok T md G M i ls st h nc ns F' E := by
  obtain ⟨pc, len, op, ⟨a, b, c⟩, z⟩ := i
  cases op
  case aload j => exact ab_t_aload hI hF ht
  case aload_n j => exact ab_t_aload_n hI hF ht
  case iload j => exact ab_t_iload hI hF ht
  case iload_n j => exact ab_t_iload_n hI hF ht
  case lload j => exact ab_t_lload hI hF ht
  case lload_n j => exact ab_t_lload_n hI hF ht
  case istore j => exact ab_t_istore hI hF ht
  case istore_n j => exact ab_t_istore_n hI hF ht
  case lstore j => exact ab_t_lstore hI hF ht
  case lstore_n j => exact ab_t_lstore_n hI hF ht
  case astore j => exact ab_t_astore hI hF ht
  case astore_n j => exact ab_t_astore_n hI hF ht
  case iinc j n => exact ab_t_iinc hI hF ht
  case iconst n => exact ab_t_iconst hI hF ht
  case bipush n => exact ab_t_bipush hI hF ht
  case sipush n => exact ab_t_sipush hI hF ht
  case lconst n => exact ab_t_lconst hI hF ht
  case ldc j =>
    cases b with
    | zero => exact ab_t_ldc hI hF ht
    | succ b => cases ht
  case ldc2_w j => exact ab_t_ldc2 hI hF ht
  case dup => exact ab_t_dup hI hF ht
  case dup2 => exact ab_t_dup2 hI hF ht
  case pop => exact ab_t_pop hI hF ht
  case iadd => exact ab_t_iadd hI hF ht
  case isub => exact ab_t_isub hI hF ht
  case imul => exact ab_t_imul hI hF ht
  case iand => exact ab_t_iand hI hF ht
  case ior => exact ab_t_ior hI hF ht
  case ishl => exact ab_t_ishl hI hF ht
  case ishr => exact ab_t_ishr hI hF ht
  case iushr => exact ab_t_iushr hI hF ht
  case idiv => exact ab_t_idiv hI hF ht
  case irem => exact ab_t_irem hI hF ht
  case ladd => exact ab_t_ladd hI hF ht
  case lsub => exact ab_t_lsub hI hF ht
  case lmul => exact ab_t_lmul hI hF ht
  case land => exact ab_t_land hI hF ht
  case ldiv => exact ab_t_ldiv hI hF ht
  case lrem => exact ab_t_lrem hI hF ht
  case lcmp => exact ab_t_lcmp hI hF ht
  case lneg => exact ab_t_lneg hI hF ht
  case i2l => exact ab_t_i2l hI hF ht
  case l2i => exact ab_t_l2i hI hF ht
  case getfield j => exact ab_t_getf hI hF ht
  case putfield j => exact ab_t_putf hG hI hF ht
  case iaload => exact ab_t_iaload hI hF ht
  case baload => exact ab_t_baload hI hF ht
  case laload => exact ab_t_laload hI hF ht
  case aaload => exact ab_t_aaload hI hF ht
  case iastore => exact ab_t_iastore hI hF ht
  case bastore => exact ab_t_bastore hI hF ht
  case lastore => exact ab_t_lastore hI hF ht
  case arraylength => exact ab_t_len hI hF ht
  case invokestatic j =>
    match c, ht with
    | 0, ht => cases ht
    | 1, ht => exact ab_t_max hr hI hF ht
    | 2, ht => exact ab_t_min hr hI hF ht
    | c + 3, ht => cases ht
  all_goals cases ht
