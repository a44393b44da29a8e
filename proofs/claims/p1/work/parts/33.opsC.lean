theorem am_op17 {lk : List Value → List am_k → am_H → Option am_O} {xs : Nat → Int32} {h : am_H} {Q : Option Value → List am_k → am_H → Prop} {a1 : Int32} {a2 : Int32} {a3 : Int32} {a4 : Int32} {a5 : Int32} (hT : am_T h) (hx1 : xs 1 = a1) (hx2 : xs 2 = a2) (hx3 : xs 3 = a3) (hx4 : xs 4 = a4) (hx5 : xs 5 = a5) (K : ∀ h', am_Ek false (am_P1 (some (6, xs)) lk) am_m136 841 [(4, .int 0), (3, .ref 202), (2, .ref 164), (1, .ref 0), (0, .retAddr 0)] [] am_ks0 h' 203 4392 Q) : am_Ek false (am_P1 (some (6, xs)) lk) am_m136 501 [(4, .int 0), (3, .ref 202), (2, .ref 164), (1, .ref 0), (0, .retAddr 0)] [] am_ks0 h 203 4392 Q := by
  refine am_e_aload_n n136_501 rfl ?_
  refine am_e_sload_n n136_502 rfl ?_
  refine am_e_iload n136_503 rfl ?_
  refine am_e_iconst (w := 1) n136_504 rfl ?_
  refine am_e_iadd (w := 1) n136_505 (by decide) ?_
  refine am_e_sald1 n136_506 rfl (by decide) (by decide) hx1 ?_
  refine am_e_sload_n n136_507 rfl ?_
  refine am_e_iload n136_508 rfl ?_
  refine am_e_iconst (w := 2) n136_509 rfl ?_
  refine am_e_iadd (w := 2) n136_510 (by decide) ?_
  refine am_e_sald1 n136_511 rfl (by decide) (by decide) hx2 ?_
  refine am_e_sload_n n136_512 rfl ?_
  refine am_e_iload n136_513 rfl ?_
  refine am_e_iconst (w := 3) n136_514 rfl ?_
  refine am_e_iadd (w := 3) n136_515 (by decide) ?_
  refine am_e_sald1 n136_516 rfl (by decide) (by decide) hx3 ?_
  refine am_e_callV (L := [(0, .ref 0), (1, .int a1), (2, .int a2), (3, .int a3)]) n136_517 rfl rfl rfl rfl rfl rfl rfl rfl ?_
  refine am_e_iload_n n53_0 rfl ?_
  refine am_e_iload_n n53_1 rfl ?_
  refine am_e_callS (L := [(0, .int a1), (1, .int a2)]) n53_2 rfl rfl rfl rfl rfl rfl rfl ?_
  refine am_e_iload_n n51_0 rfl ?_
  refine am_e_iconst (w := 1) n51_1 rfl ?_
  refine am_e_sipush (w := 3600) n51_2 (by decide) ?_
  refine am_e_callS (L := [(0, .int a1), (1, .int 1), (2, .int 3600)]) n51_3 rfl rfl rfl rfl rfl rfl rfl ?_
  refine am_e_iload_n n30_0 rfl ?_
  refine am_e_iload_n n30_1 rfl ?_
  by_cases hb1 : (a1 : Int32) < 1
  · refine am_e_cmpT n30_2 (am_c_ltT hb1) t30_2 ?_
    refine am_e_iconst (w := 0) n30_8 rfl ?_
    refine am_e_iret c30_9 rfl rfl rfl ?_
    refine am_e_ifT n51_4 (am_c_eqT (by decide)) t51_4 ?_
    refine am_e_iconst (w := 0) n51_12 rfl ?_
    refine am_e_iret c51_13 rfl rfl rfl ?_
    refine am_e_ifT n53_3 (am_c_eqT (by decide)) t53_3 ?_
    refine am_e_iconst (w := (-1)) n53_9 rfl ?_
    refine am_e_iret c53_10 rfl rfl rfl ?_
    refine am_e_aload_n n136_518 rfl ?_
    refine am_e_sload_n n136_519 rfl ?_
    refine am_e_iload n136_520 rfl ?_
    refine am_e_iconst (w := 1) n136_521 rfl ?_
    refine am_e_iadd (w := 1) n136_522 (by decide) ?_
    refine am_e_sald1 n136_523 rfl (by decide) (by decide) hx1 ?_
    refine am_e_sload_n n136_524 rfl ?_
    refine am_e_iload n136_525 rfl ?_
    refine am_e_iconst (w := 2) n136_526 rfl ?_
    refine am_e_iadd (w := 2) n136_527 (by decide) ?_
    refine am_e_sald1 n136_528 rfl (by decide) (by decide) hx2 ?_
    refine am_e_sload_n n136_529 rfl ?_
    refine am_e_iload n136_530 rfl ?_
    refine am_e_iconst (w := 3) n136_531 rfl ?_
    refine am_e_iadd (w := 3) n136_532 (by decide) ?_
    refine am_e_sald1 n136_533 rfl (by decide) (by decide) hx3 ?_
    refine am_e_callV (L := [(0, .ref 164), (1, .int a1), (2, .int a2), (3, .int a3)]) n136_534 rfl rfl rfl rfl rfl rfl rfl rfl ?_
    refine am_e_aload_n n115_0 rfl ?_
    refine am_e_iconst (w := 0) n115_1 rfl ?_
    refine am_e_putf n115_2 rfl rfl ?_
    refine am_e_iload_n n115_3 rfl ?_
    refine am_e_iload_n n115_4 rfl ?_
    refine am_e_callS (L := [(0, .int a1), (1, .int a2)]) n115_5 rfl rfl rfl rfl rfl rfl rfl ?_
    refine am_e_iload_n n113_0 rfl ?_
    refine am_e_iconst (w := 1) n113_1 rfl ?_
    refine am_e_sipush (w := 3600) n113_2 (by decide) ?_
    refine am_e_callS (L := [(0, .int a1), (1, .int 1), (2, .int 3600)]) n113_3 rfl rfl rfl rfl rfl rfl rfl ?_
    refine am_e_iload_n n87_0 rfl ?_
    refine am_e_iload_n n87_1 rfl ?_
    refine am_e_cmpT n87_2 (am_c_ltT hb1) t87_2 ?_
    refine am_e_iconst (w := 0) n87_8 rfl ?_
    refine am_e_iret c87_9 rfl rfl rfl ?_
    refine am_e_ifT n113_4 (am_c_eqT (by decide)) t113_4 ?_
    refine am_e_iconst (w := 0) n113_12 rfl ?_
    refine am_e_iret c113_13 rfl rfl rfl ?_
    refine am_e_ifT n115_6 (am_c_eqT (by decide)) t115_6 ?_
    refine am_e_iconst (w := (-1)) n115_12 rfl ?_
    refine am_e_iret c115_13 rfl rfl rfl ?_
    refine am_e_cmpT n136_535 (am_c_eqT (by decide)) t136_535 ?_
    exact K _
  · refine am_e_cmpF n30_2 (am_c_ltF hb1) ?_
    refine am_e_iload_n n30_3 rfl ?_
    refine am_e_iload_n n30_4 rfl ?_
    by_cases hb2 : (3600 : Int32) < a1
    · refine am_e_cmpT n30_5 (am_c_gtT hb2) t30_5 ?_
      refine am_e_iconst (w := 0) n30_8 rfl ?_
      refine am_e_iret c30_9 rfl rfl rfl ?_
      refine am_e_ifT n51_4 (am_c_eqT (by decide)) t51_4 ?_
      refine am_e_iconst (w := 0) n51_12 rfl ?_
      refine am_e_iret c51_13 rfl rfl rfl ?_
      refine am_e_ifT n53_3 (am_c_eqT (by decide)) t53_3 ?_
      refine am_e_iconst (w := (-1)) n53_9 rfl ?_
      refine am_e_iret c53_10 rfl rfl rfl ?_
      refine am_e_aload_n n136_518 rfl ?_
      refine am_e_sload_n n136_519 rfl ?_
      refine am_e_iload n136_520 rfl ?_
      refine am_e_iconst (w := 1) n136_521 rfl ?_
      refine am_e_iadd (w := 1) n136_522 (by decide) ?_
      refine am_e_sald1 n136_523 rfl (by decide) (by decide) hx1 ?_
      refine am_e_sload_n n136_524 rfl ?_
      refine am_e_iload n136_525 rfl ?_
      refine am_e_iconst (w := 2) n136_526 rfl ?_
      refine am_e_iadd (w := 2) n136_527 (by decide) ?_
      refine am_e_sald1 n136_528 rfl (by decide) (by decide) hx2 ?_
      refine am_e_sload_n n136_529 rfl ?_
      refine am_e_iload n136_530 rfl ?_
      refine am_e_iconst (w := 3) n136_531 rfl ?_
      refine am_e_iadd (w := 3) n136_532 (by decide) ?_
      refine am_e_sald1 n136_533 rfl (by decide) (by decide) hx3 ?_
      refine am_e_callV (L := [(0, .ref 164), (1, .int a1), (2, .int a2), (3, .int a3)]) n136_534 rfl rfl rfl rfl rfl rfl rfl rfl ?_
      refine am_e_aload_n n115_0 rfl ?_
      refine am_e_iconst (w := 0) n115_1 rfl ?_
      refine am_e_putf n115_2 rfl rfl ?_
      refine am_e_iload_n n115_3 rfl ?_
      refine am_e_iload_n n115_4 rfl ?_
      refine am_e_callS (L := [(0, .int a1), (1, .int a2)]) n115_5 rfl rfl rfl rfl rfl rfl rfl ?_
      refine am_e_iload_n n113_0 rfl ?_
      refine am_e_iconst (w := 1) n113_1 rfl ?_
      refine am_e_sipush (w := 3600) n113_2 (by decide) ?_
      refine am_e_callS (L := [(0, .int a1), (1, .int 1), (2, .int 3600)]) n113_3 rfl rfl rfl rfl rfl rfl rfl ?_
      refine am_e_iload_n n87_0 rfl ?_
      refine am_e_iload_n n87_1 rfl ?_
      refine am_e_cmpF n87_2 (am_c_ltF hb1) ?_
      refine am_e_iload_n n87_3 rfl ?_
      refine am_e_iload_n n87_4 rfl ?_
      refine am_e_cmpT n87_5 (am_c_gtT hb2) t87_5 ?_
      refine am_e_iconst (w := 0) n87_8 rfl ?_
      refine am_e_iret c87_9 rfl rfl rfl ?_
      refine am_e_ifT n113_4 (am_c_eqT (by decide)) t113_4 ?_
      refine am_e_iconst (w := 0) n113_12 rfl ?_
      refine am_e_iret c113_13 rfl rfl rfl ?_
      refine am_e_ifT n115_6 (am_c_eqT (by decide)) t115_6 ?_
      refine am_e_iconst (w := (-1)) n115_12 rfl ?_
      refine am_e_iret c115_13 rfl rfl rfl ?_
      refine am_e_cmpT n136_535 (am_c_eqT (by decide)) t136_535 ?_
      exact K _
    · refine am_e_cmpF n30_5 (am_c_gtF hb2) ?_
      refine am_e_iconst (w := 1) n30_6 rfl ?_
      refine am_e_goto c30_7 t30_7 ?_
      refine am_e_iret c30_9 rfl rfl rfl ?_
      refine am_e_ifF n51_4 (am_c_eqF (by decide)) ?_
      refine am_e_iload_n n51_5 rfl ?_
      refine am_e_iconst (w := 0) n51_6 rfl ?_
      refine am_e_sipush (w := 9999) n51_7 (by decide) ?_
      refine am_e_callS (L := [(0, .int a2), (1, .int 0), (2, .int 9999)]) n51_8 rfl rfl rfl rfl rfl rfl rfl ?_
      refine am_e_iload_n n30_0 rfl ?_
      refine am_e_iload_n n30_1 rfl ?_
      by_cases hb3 : (a2 : Int32) < 0
      · refine am_e_cmpT n30_2 (am_c_ltT hb3) t30_2 ?_
        refine am_e_iconst (w := 0) n30_8 rfl ?_
        refine am_e_iret c30_9 rfl rfl rfl ?_
        refine am_e_ifT n51_9 (am_c_eqT (by decide)) t51_9 ?_
        refine am_e_iconst (w := 0) n51_12 rfl ?_
        refine am_e_iret c51_13 rfl rfl rfl ?_
        refine am_e_ifT n53_3 (am_c_eqT (by decide)) t53_3 ?_
        refine am_e_iconst (w := (-1)) n53_9 rfl ?_
        refine am_e_iret c53_10 rfl rfl rfl ?_
        refine am_e_aload_n n136_518 rfl ?_
        refine am_e_sload_n n136_519 rfl ?_
        refine am_e_iload n136_520 rfl ?_
        refine am_e_iconst (w := 1) n136_521 rfl ?_
        refine am_e_iadd (w := 1) n136_522 (by decide) ?_
        refine am_e_sald1 n136_523 rfl (by decide) (by decide) hx1 ?_
        refine am_e_sload_n n136_524 rfl ?_
        refine am_e_iload n136_525 rfl ?_
        refine am_e_iconst (w := 2) n136_526 rfl ?_
        refine am_e_iadd (w := 2) n136_527 (by decide) ?_
        refine am_e_sald1 n136_528 rfl (by decide) (by decide) hx2 ?_
        refine am_e_sload_n n136_529 rfl ?_
        refine am_e_iload n136_530 rfl ?_
        refine am_e_iconst (w := 3) n136_531 rfl ?_
        refine am_e_iadd (w := 3) n136_532 (by decide) ?_
        refine am_e_sald1 n136_533 rfl (by decide) (by decide) hx3 ?_
        refine am_e_callV (L := [(0, .ref 164), (1, .int a1), (2, .int a2), (3, .int a3)]) n136_534 rfl rfl rfl rfl rfl rfl rfl rfl ?_
        refine am_e_aload_n n115_0 rfl ?_
        refine am_e_iconst (w := 0) n115_1 rfl ?_
        refine am_e_putf n115_2 rfl rfl ?_
        refine am_e_iload_n n115_3 rfl ?_
        refine am_e_iload_n n115_4 rfl ?_
        refine am_e_callS (L := [(0, .int a1), (1, .int a2)]) n115_5 rfl rfl rfl rfl rfl rfl rfl ?_
        refine am_e_iload_n n113_0 rfl ?_
        refine am_e_iconst (w := 1) n113_1 rfl ?_
        refine am_e_sipush (w := 3600) n113_2 (by decide) ?_
        refine am_e_callS (L := [(0, .int a1), (1, .int 1), (2, .int 3600)]) n113_3 rfl rfl rfl rfl rfl rfl rfl ?_
        refine am_e_iload_n n87_0 rfl ?_
        refine am_e_iload_n n87_1 rfl ?_
        refine am_e_cmpF n87_2 (am_c_ltF hb1) ?_
        refine am_e_iload_n n87_3 rfl ?_
        refine am_e_iload_n n87_4 rfl ?_
        refine am_e_cmpF n87_5 (am_c_gtF hb2) ?_
        refine am_e_iconst (w := 1) n87_6 rfl ?_
        refine am_e_goto c87_7 t87_7 ?_
        refine am_e_iret c87_9 rfl rfl rfl ?_
        refine am_e_ifF n113_4 (am_c_eqF (by decide)) ?_
        refine am_e_iload_n n113_5 rfl ?_
        refine am_e_iconst (w := 0) n113_6 rfl ?_
        refine am_e_sipush (w := 9999) n113_7 (by decide) ?_
        refine am_e_callS (L := [(0, .int a2), (1, .int 0), (2, .int 9999)]) n113_8 rfl rfl rfl rfl rfl rfl rfl ?_
        refine am_e_iload_n n87_0 rfl ?_
        refine am_e_iload_n n87_1 rfl ?_
        refine am_e_cmpT n87_2 (am_c_ltT hb3) t87_2 ?_
        refine am_e_iconst (w := 0) n87_8 rfl ?_
        refine am_e_iret c87_9 rfl rfl rfl ?_
        refine am_e_ifT n113_9 (am_c_eqT (by decide)) t113_9 ?_
        refine am_e_iconst (w := 0) n113_12 rfl ?_
        refine am_e_iret c113_13 rfl rfl rfl ?_
        refine am_e_ifT n115_6 (am_c_eqT (by decide)) t115_6 ?_
        refine am_e_iconst (w := (-1)) n115_12 rfl ?_
        refine am_e_iret c115_13 rfl rfl rfl ?_
        refine am_e_cmpT n136_535 (am_c_eqT (by decide)) t136_535 ?_
        exact K _
      · refine am_e_cmpF n30_2 (am_c_ltF hb3) ?_
        refine am_e_iload_n n30_3 rfl ?_
        refine am_e_iload_n n30_4 rfl ?_
        by_cases hb4 : (9999 : Int32) < a2
        · refine am_e_cmpT n30_5 (am_c_gtT hb4) t30_5 ?_
          refine am_e_iconst (w := 0) n30_8 rfl ?_
          refine am_e_iret c30_9 rfl rfl rfl ?_
          refine am_e_ifT n51_9 (am_c_eqT (by decide)) t51_9 ?_
          refine am_e_iconst (w := 0) n51_12 rfl ?_
          refine am_e_iret c51_13 rfl rfl rfl ?_
          refine am_e_ifT n53_3 (am_c_eqT (by decide)) t53_3 ?_
          refine am_e_iconst (w := (-1)) n53_9 rfl ?_
          refine am_e_iret c53_10 rfl rfl rfl ?_
          refine am_e_aload_n n136_518 rfl ?_
          refine am_e_sload_n n136_519 rfl ?_
          refine am_e_iload n136_520 rfl ?_
          refine am_e_iconst (w := 1) n136_521 rfl ?_
          refine am_e_iadd (w := 1) n136_522 (by decide) ?_
          refine am_e_sald1 n136_523 rfl (by decide) (by decide) hx1 ?_
          refine am_e_sload_n n136_524 rfl ?_
          refine am_e_iload n136_525 rfl ?_
          refine am_e_iconst (w := 2) n136_526 rfl ?_
          refine am_e_iadd (w := 2) n136_527 (by decide) ?_
          refine am_e_sald1 n136_528 rfl (by decide) (by decide) hx2 ?_
          refine am_e_sload_n n136_529 rfl ?_
          refine am_e_iload n136_530 rfl ?_
          refine am_e_iconst (w := 3) n136_531 rfl ?_
          refine am_e_iadd (w := 3) n136_532 (by decide) ?_
          refine am_e_sald1 n136_533 rfl (by decide) (by decide) hx3 ?_
          refine am_e_callV (L := [(0, .ref 164), (1, .int a1), (2, .int a2), (3, .int a3)]) n136_534 rfl rfl rfl rfl rfl rfl rfl rfl ?_
          refine am_e_aload_n n115_0 rfl ?_
          refine am_e_iconst (w := 0) n115_1 rfl ?_
          refine am_e_putf n115_2 rfl rfl ?_
          refine am_e_iload_n n115_3 rfl ?_
          refine am_e_iload_n n115_4 rfl ?_
          refine am_e_callS (L := [(0, .int a1), (1, .int a2)]) n115_5 rfl rfl rfl rfl rfl rfl rfl ?_
          refine am_e_iload_n n113_0 rfl ?_
          refine am_e_iconst (w := 1) n113_1 rfl ?_
          refine am_e_sipush (w := 3600) n113_2 (by decide) ?_
          refine am_e_callS (L := [(0, .int a1), (1, .int 1), (2, .int 3600)]) n113_3 rfl rfl rfl rfl rfl rfl rfl ?_
          refine am_e_iload_n n87_0 rfl ?_
          refine am_e_iload_n n87_1 rfl ?_
          refine am_e_cmpF n87_2 (am_c_ltF hb1) ?_
          refine am_e_iload_n n87_3 rfl ?_
          refine am_e_iload_n n87_4 rfl ?_
          refine am_e_cmpF n87_5 (am_c_gtF hb2) ?_
          refine am_e_iconst (w := 1) n87_6 rfl ?_
          refine am_e_goto c87_7 t87_7 ?_
          refine am_e_iret c87_9 rfl rfl rfl ?_
          refine am_e_ifF n113_4 (am_c_eqF (by decide)) ?_
          refine am_e_iload_n n113_5 rfl ?_
          refine am_e_iconst (w := 0) n113_6 rfl ?_
          refine am_e_sipush (w := 9999) n113_7 (by decide) ?_
          refine am_e_callS (L := [(0, .int a2), (1, .int 0), (2, .int 9999)]) n113_8 rfl rfl rfl rfl rfl rfl rfl ?_
          refine am_e_iload_n n87_0 rfl ?_
          refine am_e_iload_n n87_1 rfl ?_
          refine am_e_cmpF n87_2 (am_c_ltF hb3) ?_
          refine am_e_iload_n n87_3 rfl ?_
          refine am_e_iload_n n87_4 rfl ?_
          refine am_e_cmpT n87_5 (am_c_gtT hb4) t87_5 ?_
          refine am_e_iconst (w := 0) n87_8 rfl ?_
          refine am_e_iret c87_9 rfl rfl rfl ?_
          refine am_e_ifT n113_9 (am_c_eqT (by decide)) t113_9 ?_
          refine am_e_iconst (w := 0) n113_12 rfl ?_
          refine am_e_iret c113_13 rfl rfl rfl ?_
          refine am_e_ifT n115_6 (am_c_eqT (by decide)) t115_6 ?_
          refine am_e_iconst (w := (-1)) n115_12 rfl ?_
          refine am_e_iret c115_13 rfl rfl rfl ?_
          refine am_e_cmpT n136_535 (am_c_eqT (by decide)) t136_535 ?_
          exact K _
        · refine am_e_cmpF n30_5 (am_c_gtF hb4) ?_
          refine am_e_iconst (w := 1) n30_6 rfl ?_
          refine am_e_goto c30_7 t30_7 ?_
          refine am_e_iret c30_9 rfl rfl rfl ?_
          refine am_e_ifF n51_9 (am_c_eqF (by decide)) ?_
          refine am_e_iconst (w := 1) n51_10 rfl ?_
          refine am_e_goto c51_11 t51_11 ?_
          refine am_e_iret c51_13 rfl rfl rfl ?_
          refine am_e_ifF n53_3 (am_c_eqF (by decide)) ?_
          refine am_e_iload_n n53_4 rfl ?_
          refine am_e_iconst (w := 0) n53_5 rfl ?_
          refine am_e_iconst (w := 1) n53_6 rfl ?_
          refine am_e_callS (L := [(0, .int a3), (1, .int 0), (2, .int 1)]) n53_7 rfl rfl rfl rfl rfl rfl rfl ?_
          refine am_e_iload_n n30_0 rfl ?_
          refine am_e_iload_n n30_1 rfl ?_
          by_cases hb5 : (a3 : Int32) < 0
          · refine am_e_cmpT n30_2 (am_c_ltT hb5) t30_2 ?_
            refine am_e_iconst (w := 0) n30_8 rfl ?_
            refine am_e_iret c30_9 rfl rfl rfl ?_
            refine am_e_ifF n53_8 (am_c_neF (by decide)) ?_
            refine am_e_iconst (w := (-1)) n53_9 rfl ?_
            refine am_e_iret c53_10 rfl rfl rfl ?_
            refine am_e_aload_n n136_518 rfl ?_
            refine am_e_sload_n n136_519 rfl ?_
            refine am_e_iload n136_520 rfl ?_
            refine am_e_iconst (w := 1) n136_521 rfl ?_
            refine am_e_iadd (w := 1) n136_522 (by decide) ?_
            refine am_e_sald1 n136_523 rfl (by decide) (by decide) hx1 ?_
            refine am_e_sload_n n136_524 rfl ?_
            refine am_e_iload n136_525 rfl ?_
            refine am_e_iconst (w := 2) n136_526 rfl ?_
            refine am_e_iadd (w := 2) n136_527 (by decide) ?_
            refine am_e_sald1 n136_528 rfl (by decide) (by decide) hx2 ?_
            refine am_e_sload_n n136_529 rfl ?_
            refine am_e_iload n136_530 rfl ?_
            refine am_e_iconst (w := 3) n136_531 rfl ?_
            refine am_e_iadd (w := 3) n136_532 (by decide) ?_
            refine am_e_sald1 n136_533 rfl (by decide) (by decide) hx3 ?_
            refine am_e_callV (L := [(0, .ref 164), (1, .int a1), (2, .int a2), (3, .int a3)]) n136_534 rfl rfl rfl rfl rfl rfl rfl rfl ?_
            refine am_e_aload_n n115_0 rfl ?_
            refine am_e_iconst (w := 0) n115_1 rfl ?_
            refine am_e_putf n115_2 rfl rfl ?_
            refine am_e_iload_n n115_3 rfl ?_
            refine am_e_iload_n n115_4 rfl ?_
            refine am_e_callS (L := [(0, .int a1), (1, .int a2)]) n115_5 rfl rfl rfl rfl rfl rfl rfl ?_
            refine am_e_iload_n n113_0 rfl ?_
            refine am_e_iconst (w := 1) n113_1 rfl ?_
            refine am_e_sipush (w := 3600) n113_2 (by decide) ?_
            refine am_e_callS (L := [(0, .int a1), (1, .int 1), (2, .int 3600)]) n113_3 rfl rfl rfl rfl rfl rfl rfl ?_
            refine am_e_iload_n n87_0 rfl ?_
            refine am_e_iload_n n87_1 rfl ?_
            refine am_e_cmpF n87_2 (am_c_ltF hb1) ?_
            refine am_e_iload_n n87_3 rfl ?_
            refine am_e_iload_n n87_4 rfl ?_
            refine am_e_cmpF n87_5 (am_c_gtF hb2) ?_
            refine am_e_iconst (w := 1) n87_6 rfl ?_
            refine am_e_goto c87_7 t87_7 ?_
            refine am_e_iret c87_9 rfl rfl rfl ?_
            refine am_e_ifF n113_4 (am_c_eqF (by decide)) ?_
            refine am_e_iload_n n113_5 rfl ?_
            refine am_e_iconst (w := 0) n113_6 rfl ?_
            refine am_e_sipush (w := 9999) n113_7 (by decide) ?_
            refine am_e_callS (L := [(0, .int a2), (1, .int 0), (2, .int 9999)]) n113_8 rfl rfl rfl rfl rfl rfl rfl ?_
            refine am_e_iload_n n87_0 rfl ?_
            refine am_e_iload_n n87_1 rfl ?_
            refine am_e_cmpF n87_2 (am_c_ltF hb3) ?_
            refine am_e_iload_n n87_3 rfl ?_
            refine am_e_iload_n n87_4 rfl ?_
            refine am_e_cmpF n87_5 (am_c_gtF hb4) ?_
            refine am_e_iconst (w := 1) n87_6 rfl ?_
            refine am_e_goto c87_7 t87_7 ?_
            refine am_e_iret c87_9 rfl rfl rfl ?_
            refine am_e_ifF n113_9 (am_c_eqF (by decide)) ?_
            refine am_e_iconst (w := 1) n113_10 rfl ?_
            refine am_e_goto c113_11 t113_11 ?_
            refine am_e_iret c113_13 rfl rfl rfl ?_
            refine am_e_ifF n115_6 (am_c_eqF (by decide)) ?_
            refine am_e_iload_n n115_7 rfl ?_
            refine am_e_iconst (w := 0) n115_8 rfl ?_
            refine am_e_iconst (w := 1) n115_9 rfl ?_
            refine am_e_callS (L := [(0, .int a3), (1, .int 0), (2, .int 1)]) n115_10 rfl rfl rfl rfl rfl rfl rfl ?_
            refine am_e_iload_n n87_0 rfl ?_
            refine am_e_iload_n n87_1 rfl ?_
            refine am_e_cmpT n87_2 (am_c_ltT hb5) t87_2 ?_
            refine am_e_iconst (w := 0) n87_8 rfl ?_
            refine am_e_iret c87_9 rfl rfl rfl ?_
            refine am_e_ifF n115_11 (am_c_neF (by decide)) ?_
            refine am_e_iconst (w := (-1)) n115_12 rfl ?_
            refine am_e_iret c115_13 rfl rfl rfl ?_
            refine am_e_cmpT n136_535 (am_c_eqT (by decide)) t136_535 ?_
            exact K _
          · refine am_e_cmpF n30_2 (am_c_ltF hb5) ?_
            refine am_e_iload_n n30_3 rfl ?_
            refine am_e_iload_n n30_4 rfl ?_
            by_cases hb6 : (1 : Int32) < a3
            · refine am_e_cmpT n30_5 (am_c_gtT hb6) t30_5 ?_
              refine am_e_iconst (w := 0) n30_8 rfl ?_
              refine am_e_iret c30_9 rfl rfl rfl ?_
              refine am_e_ifF n53_8 (am_c_neF (by decide)) ?_
              refine am_e_iconst (w := (-1)) n53_9 rfl ?_
              refine am_e_iret c53_10 rfl rfl rfl ?_
              refine am_e_aload_n n136_518 rfl ?_
              refine am_e_sload_n n136_519 rfl ?_
              refine am_e_iload n136_520 rfl ?_
              refine am_e_iconst (w := 1) n136_521 rfl ?_
              refine am_e_iadd (w := 1) n136_522 (by decide) ?_
              refine am_e_sald1 n136_523 rfl (by decide) (by decide) hx1 ?_
              refine am_e_sload_n n136_524 rfl ?_
              refine am_e_iload n136_525 rfl ?_
              refine am_e_iconst (w := 2) n136_526 rfl ?_
              refine am_e_iadd (w := 2) n136_527 (by decide) ?_
              refine am_e_sald1 n136_528 rfl (by decide) (by decide) hx2 ?_
              refine am_e_sload_n n136_529 rfl ?_
              refine am_e_iload n136_530 rfl ?_
              refine am_e_iconst (w := 3) n136_531 rfl ?_
              refine am_e_iadd (w := 3) n136_532 (by decide) ?_
              refine am_e_sald1 n136_533 rfl (by decide) (by decide) hx3 ?_
              refine am_e_callV (L := [(0, .ref 164), (1, .int a1), (2, .int a2), (3, .int a3)]) n136_534 rfl rfl rfl rfl rfl rfl rfl rfl ?_
              refine am_e_aload_n n115_0 rfl ?_
              refine am_e_iconst (w := 0) n115_1 rfl ?_
              refine am_e_putf n115_2 rfl rfl ?_
              refine am_e_iload_n n115_3 rfl ?_
              refine am_e_iload_n n115_4 rfl ?_
              refine am_e_callS (L := [(0, .int a1), (1, .int a2)]) n115_5 rfl rfl rfl rfl rfl rfl rfl ?_
              refine am_e_iload_n n113_0 rfl ?_
              refine am_e_iconst (w := 1) n113_1 rfl ?_
              refine am_e_sipush (w := 3600) n113_2 (by decide) ?_
              refine am_e_callS (L := [(0, .int a1), (1, .int 1), (2, .int 3600)]) n113_3 rfl rfl rfl rfl rfl rfl rfl ?_
              refine am_e_iload_n n87_0 rfl ?_
              refine am_e_iload_n n87_1 rfl ?_
              refine am_e_cmpF n87_2 (am_c_ltF hb1) ?_
              refine am_e_iload_n n87_3 rfl ?_
              refine am_e_iload_n n87_4 rfl ?_
              refine am_e_cmpF n87_5 (am_c_gtF hb2) ?_
              refine am_e_iconst (w := 1) n87_6 rfl ?_
              refine am_e_goto c87_7 t87_7 ?_
              refine am_e_iret c87_9 rfl rfl rfl ?_
              refine am_e_ifF n113_4 (am_c_eqF (by decide)) ?_
              refine am_e_iload_n n113_5 rfl ?_
              refine am_e_iconst (w := 0) n113_6 rfl ?_
              refine am_e_sipush (w := 9999) n113_7 (by decide) ?_
              refine am_e_callS (L := [(0, .int a2), (1, .int 0), (2, .int 9999)]) n113_8 rfl rfl rfl rfl rfl rfl rfl ?_
              refine am_e_iload_n n87_0 rfl ?_
              refine am_e_iload_n n87_1 rfl ?_
              refine am_e_cmpF n87_2 (am_c_ltF hb3) ?_
              refine am_e_iload_n n87_3 rfl ?_
              refine am_e_iload_n n87_4 rfl ?_
              refine am_e_cmpF n87_5 (am_c_gtF hb4) ?_
              refine am_e_iconst (w := 1) n87_6 rfl ?_
              refine am_e_goto c87_7 t87_7 ?_
              refine am_e_iret c87_9 rfl rfl rfl ?_
              refine am_e_ifF n113_9 (am_c_eqF (by decide)) ?_
              refine am_e_iconst (w := 1) n113_10 rfl ?_
              refine am_e_goto c113_11 t113_11 ?_
              refine am_e_iret c113_13 rfl rfl rfl ?_
              refine am_e_ifF n115_6 (am_c_eqF (by decide)) ?_
              refine am_e_iload_n n115_7 rfl ?_
              refine am_e_iconst (w := 0) n115_8 rfl ?_
              refine am_e_iconst (w := 1) n115_9 rfl ?_
              refine am_e_callS (L := [(0, .int a3), (1, .int 0), (2, .int 1)]) n115_10 rfl rfl rfl rfl rfl rfl rfl ?_
              refine am_e_iload_n n87_0 rfl ?_
              refine am_e_iload_n n87_1 rfl ?_
              refine am_e_cmpF n87_2 (am_c_ltF hb5) ?_
              refine am_e_iload_n n87_3 rfl ?_
              refine am_e_iload_n n87_4 rfl ?_
              refine am_e_cmpT n87_5 (am_c_gtT hb6) t87_5 ?_
              refine am_e_iconst (w := 0) n87_8 rfl ?_
              refine am_e_iret c87_9 rfl rfl rfl ?_
              refine am_e_ifF n115_11 (am_c_neF (by decide)) ?_
              refine am_e_iconst (w := (-1)) n115_12 rfl ?_
              refine am_e_iret c115_13 rfl rfl rfl ?_
              refine am_e_cmpT n136_535 (am_c_eqT (by decide)) t136_535 ?_
              exact K _
            · refine am_e_cmpF n30_5 (am_c_gtF hb6) ?_
              refine am_e_iconst (w := 1) n30_6 rfl ?_
              refine am_e_goto c30_7 t30_7 ?_
              refine am_e_iret c30_9 rfl rfl rfl ?_
              refine am_e_ifT n53_8 (am_c_neT (by decide)) t53_8 ?_
              refine am_e_bipush (w := (-2)) n53_11 (by decide) ?_
              refine am_e_istore (ls' := [(4, .int (-2)), (0, .ref 0), (1, .int a1), (2, .int a2), (3, .int a3)]) n53_12 rfl rfl ?_
              refine am_e_bipush (w := (-2)) n53_13 (by decide) ?_
              refine am_e_istore (ls' := [(5, .int (-2)), (4, .int (-2)), (0, .ref 0), (1, .int a1), (2, .int a2), (3, .int a3)]) n53_14 rfl rfl ?_
              refine am_e_iconst (w := 0) n53_15 rfl ?_
              refine am_e_istore (ls' := [(6, .int 0), (5, .int (-2)), (4, .int (-2)), (0, .ref 0), (1, .int a1), (2, .int a2), (3, .int a3)]) n53_16 rfl rfl ?_
              refine am_e_iload n53_17 rfl ?_
              refine am_e_aload_n n53_18 rfl ?_
              refine am_e_getf (v := .ref 2) n53_19 rfl (f0_2 (h := h) hT) ?_
              refine am_e_getf (v := .int 0) n53_20 rfl (f2_2 (h := h) hT) ?_
              refine am_e_cmpT n53_21 (am_c_geT (by decide)) t53_21 ?_
              refine am_e_iload_n n53_53 rfl ?_
              by_cases hb7 : (a3 : Int32) = 0
              · subst hb7
                refine am_e_ifF n53_54 (am_c_neF rfl) ?_
                refine am_e_iload n53_55 rfl ?_
                refine am_e_goto c53_56 t53_56 ?_
                refine am_e_iret c53_58 rfl rfl rfl ?_
                refine am_e_aload_n n136_518 rfl ?_
                refine am_e_sload_n n136_519 rfl ?_
                refine am_e_iload n136_520 rfl ?_
                refine am_e_iconst (w := 1) n136_521 rfl ?_
                refine am_e_iadd (w := 1) n136_522 (by decide) ?_
                refine am_e_sald1 n136_523 rfl (by decide) (by decide) hx1 ?_
                refine am_e_sload_n n136_524 rfl ?_
                refine am_e_iload n136_525 rfl ?_
                refine am_e_iconst (w := 2) n136_526 rfl ?_
                refine am_e_iadd (w := 2) n136_527 (by decide) ?_
                refine am_e_sald1 n136_528 rfl (by decide) (by decide) hx2 ?_
                refine am_e_sload_n n136_529 rfl ?_
                refine am_e_iload n136_530 rfl ?_
                refine am_e_iconst (w := 3) n136_531 rfl ?_
                refine am_e_iadd (w := 3) n136_532 (by decide) ?_
                refine am_e_sald1 n136_533 rfl (by decide) (by decide) hx3 ?_
                refine am_e_callV (L := [(0, .ref 164), (1, .int a1), (2, .int a2), (3, .int 0)]) n136_534 rfl rfl rfl rfl rfl rfl rfl rfl ?_
                refine am_e_aload_n n115_0 rfl ?_
                refine am_e_iconst (w := 0) n115_1 rfl ?_
                refine am_e_putf n115_2 rfl rfl ?_
                refine am_e_iload_n n115_3 rfl ?_
                refine am_e_iload_n n115_4 rfl ?_
                refine am_e_callS (L := [(0, .int a1), (1, .int a2)]) n115_5 rfl rfl rfl rfl rfl rfl rfl ?_
                refine am_e_iload_n n113_0 rfl ?_
                refine am_e_iconst (w := 1) n113_1 rfl ?_
                refine am_e_sipush (w := 3600) n113_2 (by decide) ?_
                refine am_e_callS (L := [(0, .int a1), (1, .int 1), (2, .int 3600)]) n113_3 rfl rfl rfl rfl rfl rfl rfl ?_
                refine am_e_iload_n n87_0 rfl ?_
                refine am_e_iload_n n87_1 rfl ?_
                refine am_e_cmpF n87_2 (am_c_ltF hb1) ?_
                refine am_e_iload_n n87_3 rfl ?_
                refine am_e_iload_n n87_4 rfl ?_
                refine am_e_cmpF n87_5 (am_c_gtF hb2) ?_
                refine am_e_iconst (w := 1) n87_6 rfl ?_
                refine am_e_goto c87_7 t87_7 ?_
                refine am_e_iret c87_9 rfl rfl rfl ?_
                refine am_e_ifF n113_4 (am_c_eqF (by decide)) ?_
                refine am_e_iload_n n113_5 rfl ?_
                refine am_e_iconst (w := 0) n113_6 rfl ?_
                refine am_e_sipush (w := 9999) n113_7 (by decide) ?_
                refine am_e_callS (L := [(0, .int a2), (1, .int 0), (2, .int 9999)]) n113_8 rfl rfl rfl rfl rfl rfl rfl ?_
                refine am_e_iload_n n87_0 rfl ?_
                refine am_e_iload_n n87_1 rfl ?_
                refine am_e_cmpF n87_2 (am_c_ltF hb3) ?_
                refine am_e_iload_n n87_3 rfl ?_
                refine am_e_iload_n n87_4 rfl ?_
                refine am_e_cmpF n87_5 (am_c_gtF hb4) ?_
                refine am_e_iconst (w := 1) n87_6 rfl ?_
                refine am_e_goto c87_7 t87_7 ?_
                refine am_e_iret c87_9 rfl rfl rfl ?_
                refine am_e_ifF n113_9 (am_c_eqF (by decide)) ?_
                refine am_e_iconst (w := 1) n113_10 rfl ?_
                refine am_e_goto c113_11 t113_11 ?_
                refine am_e_iret c113_13 rfl rfl rfl ?_
                refine am_e_ifF n115_6 (am_c_eqF (by decide)) ?_
                refine am_e_iload_n n115_7 rfl ?_
                refine am_e_iconst (w := 0) n115_8 rfl ?_
                refine am_e_iconst (w := 1) n115_9 rfl ?_
                refine am_e_callS (L := [(0, .int 0), (1, .int 0), (2, .int 1)]) n115_10 rfl rfl rfl rfl rfl rfl rfl ?_
                refine am_e_iload_n n87_0 rfl ?_
                refine am_e_iload_n n87_1 rfl ?_
                refine am_e_cmpF n87_2 (am_c_ltF (by decide)) ?_
                refine am_e_iload_n n87_3 rfl ?_
                refine am_e_iload_n n87_4 rfl ?_
                refine am_e_cmpF n87_5 (am_c_gtF (by decide)) ?_
                refine am_e_iconst (w := 1) n87_6 rfl ?_
                refine am_e_goto c87_7 t87_7 ?_
                refine am_e_iret c87_9 rfl rfl rfl ?_
                refine am_e_ifT n115_11 (am_c_neT (by decide)) t115_11 ?_
                refine am_e_bipush (w := (-2)) n115_14 (by decide) ?_
                refine am_e_istore (ls' := [(4, .int (-2)), (0, .ref 164), (1, .int a1), (2, .int a2), (3, .int 0)]) n115_15 rfl rfl ?_
                refine am_e_bipush (w := (-2)) n115_16 (by decide) ?_
                refine am_e_istore (ls' := [(5, .int (-2)), (4, .int (-2)), (0, .ref 164), (1, .int a1), (2, .int a2), (3, .int 0)]) n115_17 rfl rfl ?_
                refine am_e_iconst (w := 0) n115_18 rfl ?_
                refine am_e_istore (ls' := [(6, .int 0), (5, .int (-2)), (4, .int (-2)), (0, .ref 164), (1, .int a1), (2, .int a2), (3, .int 0)]) n115_19 rfl rfl ?_
                refine am_e_iload n115_20 rfl ?_
                refine am_e_aload_n n115_21 rfl ?_
                refine am_e_getf (v := .int 0) n115_22 rfl (f164_12 (h := h) hT) ?_
                refine am_e_cmpT n115_23 (am_c_geT (by decide)) t115_23 ?_
                refine am_e_iload_n n115_57 rfl ?_
                refine am_e_ifF n115_58 (am_c_neF (by decide)) ?_
                refine am_e_iload n115_59 rfl ?_
                refine am_e_goto c115_60 t115_60 ?_
                refine am_e_iret c115_62 rfl rfl rfl ?_
                refine am_e_cmpT n136_535 (am_c_eqT (by decide)) t136_535 ?_
                exact K _
              · refine am_e_ifT n53_54 (am_c_neT hb7) t53_54 ?_
                refine am_e_iload n53_57 rfl ?_
                refine am_e_iret c53_58 rfl rfl rfl ?_
                refine am_e_aload_n n136_518 rfl ?_
                refine am_e_sload_n n136_519 rfl ?_
                refine am_e_iload n136_520 rfl ?_
                refine am_e_iconst (w := 1) n136_521 rfl ?_
                refine am_e_iadd (w := 1) n136_522 (by decide) ?_
                refine am_e_sald1 n136_523 rfl (by decide) (by decide) hx1 ?_
                refine am_e_sload_n n136_524 rfl ?_
                refine am_e_iload n136_525 rfl ?_
                refine am_e_iconst (w := 2) n136_526 rfl ?_
                refine am_e_iadd (w := 2) n136_527 (by decide) ?_
                refine am_e_sald1 n136_528 rfl (by decide) (by decide) hx2 ?_
                refine am_e_sload_n n136_529 rfl ?_
                refine am_e_iload n136_530 rfl ?_
                refine am_e_iconst (w := 3) n136_531 rfl ?_
                refine am_e_iadd (w := 3) n136_532 (by decide) ?_
                refine am_e_sald1 n136_533 rfl (by decide) (by decide) hx3 ?_
                refine am_e_callV (L := [(0, .ref 164), (1, .int a1), (2, .int a2), (3, .int a3)]) n136_534 rfl rfl rfl rfl rfl rfl rfl rfl ?_
                refine am_e_aload_n n115_0 rfl ?_
                refine am_e_iconst (w := 0) n115_1 rfl ?_
                refine am_e_putf n115_2 rfl rfl ?_
                refine am_e_iload_n n115_3 rfl ?_
                refine am_e_iload_n n115_4 rfl ?_
                refine am_e_callS (L := [(0, .int a1), (1, .int a2)]) n115_5 rfl rfl rfl rfl rfl rfl rfl ?_
                refine am_e_iload_n n113_0 rfl ?_
                refine am_e_iconst (w := 1) n113_1 rfl ?_
                refine am_e_sipush (w := 3600) n113_2 (by decide) ?_
                refine am_e_callS (L := [(0, .int a1), (1, .int 1), (2, .int 3600)]) n113_3 rfl rfl rfl rfl rfl rfl rfl ?_
                refine am_e_iload_n n87_0 rfl ?_
                refine am_e_iload_n n87_1 rfl ?_
                refine am_e_cmpF n87_2 (am_c_ltF hb1) ?_
                refine am_e_iload_n n87_3 rfl ?_
                refine am_e_iload_n n87_4 rfl ?_
                refine am_e_cmpF n87_5 (am_c_gtF hb2) ?_
                refine am_e_iconst (w := 1) n87_6 rfl ?_
                refine am_e_goto c87_7 t87_7 ?_
                refine am_e_iret c87_9 rfl rfl rfl ?_
                refine am_e_ifF n113_4 (am_c_eqF (by decide)) ?_
                refine am_e_iload_n n113_5 rfl ?_
                refine am_e_iconst (w := 0) n113_6 rfl ?_
                refine am_e_sipush (w := 9999) n113_7 (by decide) ?_
                refine am_e_callS (L := [(0, .int a2), (1, .int 0), (2, .int 9999)]) n113_8 rfl rfl rfl rfl rfl rfl rfl ?_
                refine am_e_iload_n n87_0 rfl ?_
                refine am_e_iload_n n87_1 rfl ?_
                refine am_e_cmpF n87_2 (am_c_ltF hb3) ?_
                refine am_e_iload_n n87_3 rfl ?_
                refine am_e_iload_n n87_4 rfl ?_
                refine am_e_cmpF n87_5 (am_c_gtF hb4) ?_
                refine am_e_iconst (w := 1) n87_6 rfl ?_
                refine am_e_goto c87_7 t87_7 ?_
                refine am_e_iret c87_9 rfl rfl rfl ?_
                refine am_e_ifF n113_9 (am_c_eqF (by decide)) ?_
                refine am_e_iconst (w := 1) n113_10 rfl ?_
                refine am_e_goto c113_11 t113_11 ?_
                refine am_e_iret c113_13 rfl rfl rfl ?_
                refine am_e_ifF n115_6 (am_c_eqF (by decide)) ?_
                refine am_e_iload_n n115_7 rfl ?_
                refine am_e_iconst (w := 0) n115_8 rfl ?_
                refine am_e_iconst (w := 1) n115_9 rfl ?_
                refine am_e_callS (L := [(0, .int a3), (1, .int 0), (2, .int 1)]) n115_10 rfl rfl rfl rfl rfl rfl rfl ?_
                refine am_e_iload_n n87_0 rfl ?_
                refine am_e_iload_n n87_1 rfl ?_
                refine am_e_cmpF n87_2 (am_c_ltF hb5) ?_
                refine am_e_iload_n n87_3 rfl ?_
                refine am_e_iload_n n87_4 rfl ?_
                refine am_e_cmpF n87_5 (am_c_gtF hb6) ?_
                refine am_e_iconst (w := 1) n87_6 rfl ?_
                refine am_e_goto c87_7 t87_7 ?_
                refine am_e_iret c87_9 rfl rfl rfl ?_
                refine am_e_ifT n115_11 (am_c_neT (by decide)) t115_11 ?_
                refine am_e_bipush (w := (-2)) n115_14 (by decide) ?_
                refine am_e_istore (ls' := [(4, .int (-2)), (0, .ref 164), (1, .int a1), (2, .int a2), (3, .int a3)]) n115_15 rfl rfl ?_
                refine am_e_bipush (w := (-2)) n115_16 (by decide) ?_
                refine am_e_istore (ls' := [(5, .int (-2)), (4, .int (-2)), (0, .ref 164), (1, .int a1), (2, .int a2), (3, .int a3)]) n115_17 rfl rfl ?_
                refine am_e_iconst (w := 0) n115_18 rfl ?_
                refine am_e_istore (ls' := [(6, .int 0), (5, .int (-2)), (4, .int (-2)), (0, .ref 164), (1, .int a1), (2, .int a2), (3, .int a3)]) n115_19 rfl rfl ?_
                refine am_e_iload n115_20 rfl ?_
                refine am_e_aload_n n115_21 rfl ?_
                refine am_e_getf (v := .int 0) n115_22 rfl (f164_12 (h := h) hT) ?_
                refine am_e_cmpT n115_23 (am_c_geT (by decide)) t115_23 ?_
                refine am_e_iload_n n115_57 rfl ?_
                refine am_e_ifT n115_58 (am_c_neT hb7) t115_58 ?_
                refine am_e_iload n115_61 rfl ?_
                refine am_e_iret c115_62 rfl rfl rfl ?_
                refine am_e_cmpT n136_535 (am_c_eqT (by decide)) t136_535 ?_
                exact K _
