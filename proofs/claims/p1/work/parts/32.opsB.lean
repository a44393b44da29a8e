theorem am_op20 {lk : List Value → List am_k → am_H → Option am_O} {xs : Nat → Int32} {h : am_H} {Q : Option Value → List am_k → am_H → Prop} {a1 : Int32} {a2 : Int32} {a3 : Int32} {a4 : Int32} {a5 : Int32} (hT : am_T h) (hx1 : xs 1 = a1) (hx2 : xs 2 = a2) (hx3 : xs 3 = a3) (hx4 : xs 4 = a4) (hx5 : xs 5 = a5) (K : ∀ h', am_Ek false (am_P1 (some (6, xs)) lk) am_m136 841 [(4, .int 0), (3, .ref 202), (2, .ref 164), (1, .ref 0), (0, .retAddr 0)] [] am_ks0 h' 203 4392 Q) : am_Ek false (am_P1 (some (6, xs)) lk) am_m136 592 [(4, .int 0), (3, .ref 202), (2, .ref 164), (1, .ref 0), (0, .retAddr 0)] [] am_ks0 h 203 4392 Q := by
  refine am_e_aload_n n136_592 rfl ?_
  refine am_e_sload_n n136_593 rfl ?_
  refine am_e_iload n136_594 rfl ?_
  refine am_e_iconst (w := 1) n136_595 rfl ?_
  refine am_e_iadd (w := 1) n136_596 (by decide) ?_
  refine am_e_sald1 n136_597 rfl (by decide) (by decide) hx1 ?_
  refine am_e_callV (L := [(0, .ref 0), (1, .int a1)]) n136_598 rfl rfl rfl rfl rfl rfl rfl rfl ?_
  refine am_e_aload_n n58_0 rfl ?_
  refine am_e_getf (v := .ref 2) n58_1 rfl (f0_2 (h := h) hT) ?_
  refine am_e_callV (L := [(0, .ref 2)]) n58_2 rfl rfl rfl rfl rfl rfl rfl rfl ?_
  refine am_e_iconst (w := (-1)) n59_0 rfl ?_
  refine am_e_istore_n (ls' := [(1, .int (-1)), (0, .ref 2)]) n59_1 rfl rfl ?_
  refine am_e_iconst (w := 0) n59_2 rfl ?_
  refine am_e_istore_n (ls' := [(2, .int 0), (1, .int (-1)), (0, .ref 2)]) n59_3 rfl rfl ?_
  refine am_e_iload_n n59_4 rfl ?_
  refine am_e_aload_n n59_5 rfl ?_
  refine am_e_getf (v := .int 0) n59_6 rfl (f2_12 (h := h) hT) ?_
  refine am_e_cmpT n59_7 (am_c_geT (by decide)) t59_7 ?_
  refine am_e_iload_n n59_30 rfl ?_
  refine am_e_iret c59_31 rfl rfl rfl ?_
  refine am_e_istore_n (ls' := [(2, .int (-1)), (0, .ref 0), (1, .int a1)]) n58_3 rfl rfl ?_
  refine am_e_iload_n n58_4 rfl ?_
  refine am_e_iconst (w := 0) n58_5 rfl ?_
  refine am_e_iconst (w := 1) n58_6 rfl ?_
  refine am_e_callS (L := [(0, .int a1), (1, .int 0), (2, .int 1)]) n58_7 rfl rfl rfl rfl rfl rfl rfl ?_
  refine am_e_iload_n n30_0 rfl ?_
  refine am_e_iload_n n30_1 rfl ?_
  by_cases hb1 : (a1 : Int32) < 0
  · refine am_e_cmpT n30_2 (am_c_ltT hb1) t30_2 ?_
    refine am_e_iconst (w := 0) n30_8 rfl ?_
    refine am_e_iret c30_9 rfl rfl rfl ?_
    refine am_e_ifT n58_8 (am_c_eqT (by decide)) t58_8 ?_
    refine am_e_iconst (w := (-1)) n58_16 rfl ?_
    refine am_e_iret c58_17 rfl rfl rfl ?_
    refine am_e_aload_n n136_599 rfl ?_
    refine am_e_sload_n n136_600 rfl ?_
    refine am_e_iload n136_601 rfl ?_
    refine am_e_iconst (w := 1) n136_602 rfl ?_
    refine am_e_iadd (w := 1) n136_603 (by decide) ?_
    refine am_e_sald1 n136_604 rfl (by decide) (by decide) hx1 ?_
    refine am_e_callV (L := [(0, .ref 164), (1, .int a1)]) n136_605 rfl rfl rfl rfl rfl rfl rfl rfl ?_
    refine am_e_aload_n n118_0 rfl ?_
    refine am_e_iconst (w := 0) n118_1 rfl ?_
    refine am_e_putf n118_2 rfl rfl ?_
    refine am_e_iconst (w := (-1)) n118_3 rfl ?_
    refine am_e_istore_n (ls' := [(2, .int (-1)), (0, .ref 164), (1, .int a1)]) n118_4 rfl rfl ?_
    refine am_e_iconst (w := 0) n118_5 rfl ?_
    refine am_e_istore_n (ls' := [(3, .int 0), (2, .int (-1)), (0, .ref 164), (1, .int a1)]) n118_6 rfl rfl ?_
    refine am_e_iload_n n118_7 rfl ?_
    refine am_e_aload_n n118_8 rfl ?_
    refine am_e_getf (v := .int 0) n118_9 rfl (f164_15 (h := h) hT) ?_
    refine am_e_cmpT n118_10 (am_c_geT (by decide)) t118_10 ?_
    refine am_e_iload_n n118_34 rfl ?_
    refine am_e_iconst (w := 0) n118_35 rfl ?_
    refine am_e_iconst (w := 1) n118_36 rfl ?_
    refine am_e_callS (L := [(0, .int a1), (1, .int 0), (2, .int 1)]) n118_37 rfl rfl rfl rfl rfl rfl rfl ?_
    refine am_e_iload_n n87_0 rfl ?_
    refine am_e_iload_n n87_1 rfl ?_
    refine am_e_cmpT n87_2 (am_c_ltT hb1) t87_2 ?_
    refine am_e_iconst (w := 0) n87_8 rfl ?_
    refine am_e_iret c87_9 rfl rfl rfl ?_
    refine am_e_ifT n118_38 (am_c_eqT (by decide)) t118_38 ?_
    refine am_e_iconst (w := (-1)) n118_44 rfl ?_
    refine am_e_iret c118_45 rfl rfl rfl ?_
    refine am_e_cmpT n136_606 (am_c_eqT (by decide)) t136_606 ?_
    exact K _
  · refine am_e_cmpF n30_2 (am_c_ltF hb1) ?_
    refine am_e_iload_n n30_3 rfl ?_
    refine am_e_iload_n n30_4 rfl ?_
    by_cases hb2 : (1 : Int32) < a1
    · refine am_e_cmpT n30_5 (am_c_gtT hb2) t30_5 ?_
      refine am_e_iconst (w := 0) n30_8 rfl ?_
      refine am_e_iret c30_9 rfl rfl rfl ?_
      refine am_e_ifT n58_8 (am_c_eqT (by decide)) t58_8 ?_
      refine am_e_iconst (w := (-1)) n58_16 rfl ?_
      refine am_e_iret c58_17 rfl rfl rfl ?_
      refine am_e_aload_n n136_599 rfl ?_
      refine am_e_sload_n n136_600 rfl ?_
      refine am_e_iload n136_601 rfl ?_
      refine am_e_iconst (w := 1) n136_602 rfl ?_
      refine am_e_iadd (w := 1) n136_603 (by decide) ?_
      refine am_e_sald1 n136_604 rfl (by decide) (by decide) hx1 ?_
      refine am_e_callV (L := [(0, .ref 164), (1, .int a1)]) n136_605 rfl rfl rfl rfl rfl rfl rfl rfl ?_
      refine am_e_aload_n n118_0 rfl ?_
      refine am_e_iconst (w := 0) n118_1 rfl ?_
      refine am_e_putf n118_2 rfl rfl ?_
      refine am_e_iconst (w := (-1)) n118_3 rfl ?_
      refine am_e_istore_n (ls' := [(2, .int (-1)), (0, .ref 164), (1, .int a1)]) n118_4 rfl rfl ?_
      refine am_e_iconst (w := 0) n118_5 rfl ?_
      refine am_e_istore_n (ls' := [(3, .int 0), (2, .int (-1)), (0, .ref 164), (1, .int a1)]) n118_6 rfl rfl ?_
      refine am_e_iload_n n118_7 rfl ?_
      refine am_e_aload_n n118_8 rfl ?_
      refine am_e_getf (v := .int 0) n118_9 rfl (f164_15 (h := h) hT) ?_
      refine am_e_cmpT n118_10 (am_c_geT (by decide)) t118_10 ?_
      refine am_e_iload_n n118_34 rfl ?_
      refine am_e_iconst (w := 0) n118_35 rfl ?_
      refine am_e_iconst (w := 1) n118_36 rfl ?_
      refine am_e_callS (L := [(0, .int a1), (1, .int 0), (2, .int 1)]) n118_37 rfl rfl rfl rfl rfl rfl rfl ?_
      refine am_e_iload_n n87_0 rfl ?_
      refine am_e_iload_n n87_1 rfl ?_
      refine am_e_cmpF n87_2 (am_c_ltF hb1) ?_
      refine am_e_iload_n n87_3 rfl ?_
      refine am_e_iload_n n87_4 rfl ?_
      refine am_e_cmpT n87_5 (am_c_gtT hb2) t87_5 ?_
      refine am_e_iconst (w := 0) n87_8 rfl ?_
      refine am_e_iret c87_9 rfl rfl rfl ?_
      refine am_e_ifT n118_38 (am_c_eqT (by decide)) t118_38 ?_
      refine am_e_iconst (w := (-1)) n118_44 rfl ?_
      refine am_e_iret c118_45 rfl rfl rfl ?_
      refine am_e_cmpT n136_606 (am_c_eqT (by decide)) t136_606 ?_
      exact K _
    · refine am_e_cmpF n30_5 (am_c_gtF hb2) ?_
      refine am_e_iconst (w := 1) n30_6 rfl ?_
      refine am_e_goto c30_7 t30_7 ?_
      refine am_e_iret c30_9 rfl rfl rfl ?_
      refine am_e_ifF n58_8 (am_c_eqF (by decide)) ?_
      refine am_e_aload_n n58_9 rfl ?_
      refine am_e_getf (v := .ref 2) n58_10 rfl (f0_2 (h := h) hT) ?_
      refine am_e_getf (v := .int 0) n58_11 rfl (f2_9 (h := h) hT) ?_
      refine am_e_ifT n58_12 (am_c_eqT (by decide)) t58_12 ?_
      refine am_e_iconst (w := (-1)) n58_16 rfl ?_
      refine am_e_iret c58_17 rfl rfl rfl ?_
      refine am_e_aload_n n136_599 rfl ?_
      refine am_e_sload_n n136_600 rfl ?_
      refine am_e_iload n136_601 rfl ?_
      refine am_e_iconst (w := 1) n136_602 rfl ?_
      refine am_e_iadd (w := 1) n136_603 (by decide) ?_
      refine am_e_sald1 n136_604 rfl (by decide) (by decide) hx1 ?_
      refine am_e_callV (L := [(0, .ref 164), (1, .int a1)]) n136_605 rfl rfl rfl rfl rfl rfl rfl rfl ?_
      refine am_e_aload_n n118_0 rfl ?_
      refine am_e_iconst (w := 0) n118_1 rfl ?_
      refine am_e_putf n118_2 rfl rfl ?_
      refine am_e_iconst (w := (-1)) n118_3 rfl ?_
      refine am_e_istore_n (ls' := [(2, .int (-1)), (0, .ref 164), (1, .int a1)]) n118_4 rfl rfl ?_
      refine am_e_iconst (w := 0) n118_5 rfl ?_
      refine am_e_istore_n (ls' := [(3, .int 0), (2, .int (-1)), (0, .ref 164), (1, .int a1)]) n118_6 rfl rfl ?_
      refine am_e_iload_n n118_7 rfl ?_
      refine am_e_aload_n n118_8 rfl ?_
      refine am_e_getf (v := .int 0) n118_9 rfl (f164_15 (h := h) hT) ?_
      refine am_e_cmpT n118_10 (am_c_geT (by decide)) t118_10 ?_
      refine am_e_iload_n n118_34 rfl ?_
      refine am_e_iconst (w := 0) n118_35 rfl ?_
      refine am_e_iconst (w := 1) n118_36 rfl ?_
      refine am_e_callS (L := [(0, .int a1), (1, .int 0), (2, .int 1)]) n118_37 rfl rfl rfl rfl rfl rfl rfl ?_
      refine am_e_iload_n n87_0 rfl ?_
      refine am_e_iload_n n87_1 rfl ?_
      refine am_e_cmpF n87_2 (am_c_ltF hb1) ?_
      refine am_e_iload_n n87_3 rfl ?_
      refine am_e_iload_n n87_4 rfl ?_
      refine am_e_cmpF n87_5 (am_c_gtF hb2) ?_
      refine am_e_iconst (w := 1) n87_6 rfl ?_
      refine am_e_goto c87_7 t87_7 ?_
      refine am_e_iret c87_9 rfl rfl rfl ?_
      refine am_e_ifF n118_38 (am_c_eqF (by decide)) ?_
      refine am_e_aload_n n118_39 rfl ?_
      refine am_e_getf (v := .int 0) n118_40 rfl (f164_14 (h := h) hT) ?_
      refine am_e_ifT n118_41 (am_c_eqT (by decide)) t118_41 ?_
      refine am_e_iconst (w := (-1)) n118_44 rfl ?_
      refine am_e_iret c118_45 rfl rfl rfl ?_
      refine am_e_cmpT n136_606 (am_c_eqT (by decide)) t136_606 ?_
      exact K _
theorem am_op21 {lk : List Value → List am_k → am_H → Option am_O} {xs : Nat → Int32} {h : am_H} {Q : Option Value → List am_k → am_H → Prop} {a1 : Int32} {a2 : Int32} {a3 : Int32} {a4 : Int32} {a5 : Int32} (hT : am_T h) (hx1 : xs 1 = a1) (hx2 : xs 2 = a2) (hx3 : xs 3 = a3) (hx4 : xs 4 = a4) (hx5 : xs 5 = a5) (K : ∀ h', am_Ek false (am_P1 (some (6, xs)) lk) am_m136 841 [(4, .int 0), (3, .ref 202), (2, .ref 164), (1, .ref 0), (0, .retAddr 0)] [] am_ks0 h' 203 4392 Q) : am_Ek false (am_P1 (some (6, xs)) lk) am_m136 609 [(4, .int 0), (3, .ref 202), (2, .ref 164), (1, .ref 0), (0, .retAddr 0)] [] am_ks0 h 203 4392 Q := by
  refine am_e_aload_n n136_609 rfl ?_
  refine am_e_sload_n n136_610 rfl ?_
  refine am_e_iload n136_611 rfl ?_
  refine am_e_iconst (w := 1) n136_612 rfl ?_
  refine am_e_iadd (w := 1) n136_613 (by decide) ?_
  refine am_e_sald1 n136_614 rfl (by decide) (by decide) hx1 ?_
  refine am_e_callV (L := [(0, .ref 0), (1, .int a1)]) n136_615 rfl rfl rfl rfl rfl rfl rfl rfl ?_
  refine am_e_aload_n n60_0 rfl ?_
  refine am_e_iload_n n60_1 rfl ?_
  refine am_e_callV (L := [(0, .ref 0), (1, .int a1)]) n60_2 rfl rfl rfl rfl rfl rfl rfl rfl ?_
  refine am_e_iload_n n61_0 rfl ?_
  by_cases hb1 : (a1 : Int32) = 0
  · subst hb1
    refine am_e_ifF n61_1 (am_c_neF rfl) ?_
    refine am_e_aload_n n61_2 rfl ?_
    refine am_e_getf (v := .ref 2) n61_3 rfl (f0_2 (h := h) hT) ?_
    refine am_e_getf (v := .int 0) n61_4 rfl (f2_4 (h := h) hT) ?_
    refine am_e_ifT n61_5 (am_c_leT (by decide)) t61_5 ?_
    refine am_e_iconst (w := 0) n61_8 rfl ?_
    refine am_e_goto c61_9 t61_9 ?_
    refine am_e_iret c61_22 rfl rfl rfl ?_
    refine am_e_ifF n60_3 (am_c_neF (by decide)) ?_
    refine am_e_iconst (w := (-1)) n60_4 rfl ?_
    refine am_e_iret c60_5 rfl rfl rfl ?_
    refine am_e_aload_n n136_616 rfl ?_
    refine am_e_sload_n n136_617 rfl ?_
    refine am_e_iload n136_618 rfl ?_
    refine am_e_iconst (w := 1) n136_619 rfl ?_
    refine am_e_iadd (w := 1) n136_620 (by decide) ?_
    refine am_e_sald1 n136_621 rfl (by decide) (by decide) hx1 ?_
    refine am_e_callV (L := [(0, .ref 164), (1, .int 0)]) n136_622 rfl rfl rfl rfl rfl rfl rfl rfl ?_
    refine am_e_aload_n n119_0 rfl ?_
    refine am_e_iconst (w := 0) n119_1 rfl ?_
    refine am_e_putf n119_2 rfl rfl ?_
    refine am_e_iload_n n119_3 rfl ?_
    refine am_e_iconst (w := 0) n119_4 rfl ?_
    refine am_e_iconst (w := 3) n119_5 rfl ?_
    refine am_e_callS (L := [(0, .int 0), (1, .int 0), (2, .int 3)]) n119_6 rfl rfl rfl rfl rfl rfl rfl ?_
    refine am_e_iload_n n87_0 rfl ?_
    refine am_e_iload_n n87_1 rfl ?_
    refine am_e_cmpF n87_2 (am_c_ltF (by decide)) ?_
    refine am_e_iload_n n87_3 rfl ?_
    refine am_e_iload_n n87_4 rfl ?_
    refine am_e_cmpF n87_5 (am_c_gtF (by decide)) ?_
    refine am_e_iconst (w := 1) n87_6 rfl ?_
    refine am_e_goto c87_7 t87_7 ?_
    refine am_e_iret c87_9 rfl rfl rfl ?_
    refine am_e_ifF n119_7 (am_c_eqF (by decide)) ?_
    refine am_e_aload_n n119_8 rfl ?_
    refine am_e_getf (v := .int 0) n119_9 rfl (f164_12 (h := h) hT) ?_
    refine am_e_ifT n119_10 (am_c_eqT (by decide)) t119_10 ?_
    refine am_e_iconst (w := (-1)) n119_16 rfl ?_
    refine am_e_iret c119_17 rfl rfl rfl ?_
    refine am_e_cmpT n136_623 (am_c_eqT (by decide)) t136_623 ?_
    exact K _
  · refine am_e_ifT n61_1 (am_c_neT hb1) t61_1 ?_
    refine am_e_iload_n n61_10 rfl ?_
    refine am_e_iconst (w := 1) n61_11 rfl ?_
    refine am_e_iconst (w := 3) n61_12 rfl ?_
    refine am_e_callS (L := [(0, .int a1), (1, .int 1), (2, .int 3)]) n61_13 rfl rfl rfl rfl rfl rfl rfl ?_
    refine am_e_iload_n n30_0 rfl ?_
    refine am_e_iload_n n30_1 rfl ?_
    by_cases hb2 : (a1 : Int32) < 1
    · refine am_e_cmpT n30_2 (am_c_ltT hb2) t30_2 ?_
      refine am_e_iconst (w := 0) n30_8 rfl ?_
      refine am_e_iret c30_9 rfl rfl rfl ?_
      refine am_e_ifT n61_14 (am_c_eqT (by decide)) t61_14 ?_
      refine am_e_iconst (w := 0) n61_21 rfl ?_
      refine am_e_iret c61_22 rfl rfl rfl ?_
      refine am_e_ifF n60_3 (am_c_neF (by decide)) ?_
      refine am_e_iconst (w := (-1)) n60_4 rfl ?_
      refine am_e_iret c60_5 rfl rfl rfl ?_
      refine am_e_aload_n n136_616 rfl ?_
      refine am_e_sload_n n136_617 rfl ?_
      refine am_e_iload n136_618 rfl ?_
      refine am_e_iconst (w := 1) n136_619 rfl ?_
      refine am_e_iadd (w := 1) n136_620 (by decide) ?_
      refine am_e_sald1 n136_621 rfl (by decide) (by decide) hx1 ?_
      refine am_e_callV (L := [(0, .ref 164), (1, .int a1)]) n136_622 rfl rfl rfl rfl rfl rfl rfl rfl ?_
      refine am_e_aload_n n119_0 rfl ?_
      refine am_e_iconst (w := 0) n119_1 rfl ?_
      refine am_e_putf n119_2 rfl rfl ?_
      refine am_e_iload_n n119_3 rfl ?_
      refine am_e_iconst (w := 0) n119_4 rfl ?_
      refine am_e_iconst (w := 3) n119_5 rfl ?_
      refine am_e_callS (L := [(0, .int a1), (1, .int 0), (2, .int 3)]) n119_6 rfl rfl rfl rfl rfl rfl rfl ?_
      refine am_e_iload_n n87_0 rfl ?_
      refine am_e_iload_n n87_1 rfl ?_
      by_cases hb3 : (a1 : Int32) < 0
      · refine am_e_cmpT n87_2 (am_c_ltT hb3) t87_2 ?_
        refine am_e_iconst (w := 0) n87_8 rfl ?_
        refine am_e_iret c87_9 rfl rfl rfl ?_
        refine am_e_ifT n119_7 (am_c_eqT (by decide)) t119_7 ?_
        refine am_e_iconst (w := (-1)) n119_16 rfl ?_
        refine am_e_iret c119_17 rfl rfl rfl ?_
        refine am_e_cmpT n136_623 (am_c_eqT (by decide)) t136_623 ?_
        exact K _
      · refine am_e_cmpF n87_2 (am_c_ltF hb3) ?_
        refine am_e_iload_n n87_3 rfl ?_
        refine am_e_iload_n n87_4 rfl ?_
        by_cases hb4 : (3 : Int32) < a1
        · refine am_e_cmpT n87_5 (am_c_gtT hb4) t87_5 ?_
          refine am_e_iconst (w := 0) n87_8 rfl ?_
          refine am_e_iret c87_9 rfl rfl rfl ?_
          refine am_e_ifT n119_7 (am_c_eqT (by decide)) t119_7 ?_
          refine am_e_iconst (w := (-1)) n119_16 rfl ?_
          refine am_e_iret c119_17 rfl rfl rfl ?_
          refine am_e_cmpT n136_623 (am_c_eqT (by decide)) t136_623 ?_
          exact K _
        · refine am_e_cmpF n87_5 (am_c_gtF hb4) ?_
          refine am_e_iconst (w := 1) n87_6 rfl ?_
          refine am_e_goto c87_7 t87_7 ?_
          refine am_e_iret c87_9 rfl rfl rfl ?_
          refine am_e_ifF n119_7 (am_c_eqF (by decide)) ?_
          refine am_e_aload_n n119_8 rfl ?_
          refine am_e_getf (v := .int 0) n119_9 rfl (f164_12 (h := h) hT) ?_
          refine am_e_ifT n119_10 (am_c_eqT (by decide)) t119_10 ?_
          refine am_e_iconst (w := (-1)) n119_16 rfl ?_
          refine am_e_iret c119_17 rfl rfl rfl ?_
          refine am_e_cmpT n136_623 (am_c_eqT (by decide)) t136_623 ?_
          exact K _
    · refine am_e_cmpF n30_2 (am_c_ltF hb2) ?_
      refine am_e_iload_n n30_3 rfl ?_
      refine am_e_iload_n n30_4 rfl ?_
      by_cases hb5 : (3 : Int32) < a1
      · refine am_e_cmpT n30_5 (am_c_gtT hb5) t30_5 ?_
        refine am_e_iconst (w := 0) n30_8 rfl ?_
        refine am_e_iret c30_9 rfl rfl rfl ?_
        refine am_e_ifT n61_14 (am_c_eqT (by decide)) t61_14 ?_
        refine am_e_iconst (w := 0) n61_21 rfl ?_
        refine am_e_iret c61_22 rfl rfl rfl ?_
        refine am_e_ifF n60_3 (am_c_neF (by decide)) ?_
        refine am_e_iconst (w := (-1)) n60_4 rfl ?_
        refine am_e_iret c60_5 rfl rfl rfl ?_
        refine am_e_aload_n n136_616 rfl ?_
        refine am_e_sload_n n136_617 rfl ?_
        refine am_e_iload n136_618 rfl ?_
        refine am_e_iconst (w := 1) n136_619 rfl ?_
        refine am_e_iadd (w := 1) n136_620 (by decide) ?_
        refine am_e_sald1 n136_621 rfl (by decide) (by decide) hx1 ?_
        refine am_e_callV (L := [(0, .ref 164), (1, .int a1)]) n136_622 rfl rfl rfl rfl rfl rfl rfl rfl ?_
        refine am_e_aload_n n119_0 rfl ?_
        refine am_e_iconst (w := 0) n119_1 rfl ?_
        refine am_e_putf n119_2 rfl rfl ?_
        refine am_e_iload_n n119_3 rfl ?_
        refine am_e_iconst (w := 0) n119_4 rfl ?_
        refine am_e_iconst (w := 3) n119_5 rfl ?_
        refine am_e_callS (L := [(0, .int a1), (1, .int 0), (2, .int 3)]) n119_6 rfl rfl rfl rfl rfl rfl rfl ?_
        refine am_e_iload_n n87_0 rfl ?_
        refine am_e_iload_n n87_1 rfl ?_
        by_cases hb6 : (a1 : Int32) < 0
        · refine am_e_cmpT n87_2 (am_c_ltT hb6) t87_2 ?_
          refine am_e_iconst (w := 0) n87_8 rfl ?_
          refine am_e_iret c87_9 rfl rfl rfl ?_
          refine am_e_ifT n119_7 (am_c_eqT (by decide)) t119_7 ?_
          refine am_e_iconst (w := (-1)) n119_16 rfl ?_
          refine am_e_iret c119_17 rfl rfl rfl ?_
          refine am_e_cmpT n136_623 (am_c_eqT (by decide)) t136_623 ?_
          exact K _
        · refine am_e_cmpF n87_2 (am_c_ltF hb6) ?_
          refine am_e_iload_n n87_3 rfl ?_
          refine am_e_iload_n n87_4 rfl ?_
          refine am_e_cmpT n87_5 (am_c_gtT hb5) t87_5 ?_
          refine am_e_iconst (w := 0) n87_8 rfl ?_
          refine am_e_iret c87_9 rfl rfl rfl ?_
          refine am_e_ifT n119_7 (am_c_eqT (by decide)) t119_7 ?_
          refine am_e_iconst (w := (-1)) n119_16 rfl ?_
          refine am_e_iret c119_17 rfl rfl rfl ?_
          refine am_e_cmpT n136_623 (am_c_eqT (by decide)) t136_623 ?_
          exact K _
      · refine am_e_cmpF n30_5 (am_c_gtF hb5) ?_
        refine am_e_iconst (w := 1) n30_6 rfl ?_
        refine am_e_goto c30_7 t30_7 ?_
        refine am_e_iret c30_9 rfl rfl rfl ?_
        refine am_e_ifF n61_14 (am_c_eqF (by decide)) ?_
        refine am_e_aload_n n61_15 rfl ?_
        refine am_e_getf (v := .ref 2) n61_16 rfl (f0_2 (h := h) hT) ?_
        refine am_e_getf (v := .int 0) n61_17 rfl (f2_2 (h := h) hT) ?_
        refine am_e_ifT n61_18 (am_c_leT (by decide)) t61_18 ?_
        refine am_e_iconst (w := 0) n61_21 rfl ?_
        refine am_e_iret c61_22 rfl rfl rfl ?_
        refine am_e_ifF n60_3 (am_c_neF (by decide)) ?_
        refine am_e_iconst (w := (-1)) n60_4 rfl ?_
        refine am_e_iret c60_5 rfl rfl rfl ?_
        refine am_e_aload_n n136_616 rfl ?_
        refine am_e_sload_n n136_617 rfl ?_
        refine am_e_iload n136_618 rfl ?_
        refine am_e_iconst (w := 1) n136_619 rfl ?_
        refine am_e_iadd (w := 1) n136_620 (by decide) ?_
        refine am_e_sald1 n136_621 rfl (by decide) (by decide) hx1 ?_
        refine am_e_callV (L := [(0, .ref 164), (1, .int a1)]) n136_622 rfl rfl rfl rfl rfl rfl rfl rfl ?_
        refine am_e_aload_n n119_0 rfl ?_
        refine am_e_iconst (w := 0) n119_1 rfl ?_
        refine am_e_putf n119_2 rfl rfl ?_
        refine am_e_iload_n n119_3 rfl ?_
        refine am_e_iconst (w := 0) n119_4 rfl ?_
        refine am_e_iconst (w := 3) n119_5 rfl ?_
        refine am_e_callS (L := [(0, .int a1), (1, .int 0), (2, .int 3)]) n119_6 rfl rfl rfl rfl rfl rfl rfl ?_
        refine am_e_iload_n n87_0 rfl ?_
        refine am_e_iload_n n87_1 rfl ?_
        by_cases hb7 : (a1 : Int32) < 0
        · refine am_e_cmpT n87_2 (am_c_ltT hb7) t87_2 ?_
          refine am_e_iconst (w := 0) n87_8 rfl ?_
          refine am_e_iret c87_9 rfl rfl rfl ?_
          refine am_e_ifT n119_7 (am_c_eqT (by decide)) t119_7 ?_
          refine am_e_iconst (w := (-1)) n119_16 rfl ?_
          refine am_e_iret c119_17 rfl rfl rfl ?_
          refine am_e_cmpT n136_623 (am_c_eqT (by decide)) t136_623 ?_
          exact K _
        · refine am_e_cmpF n87_2 (am_c_ltF hb7) ?_
          refine am_e_iload_n n87_3 rfl ?_
          refine am_e_iload_n n87_4 rfl ?_
          refine am_e_cmpF n87_5 (am_c_gtF hb5) ?_
          refine am_e_iconst (w := 1) n87_6 rfl ?_
          refine am_e_goto c87_7 t87_7 ?_
          refine am_e_iret c87_9 rfl rfl rfl ?_
          refine am_e_ifF n119_7 (am_c_eqF (by decide)) ?_
          refine am_e_aload_n n119_8 rfl ?_
          refine am_e_getf (v := .int 0) n119_9 rfl (f164_12 (h := h) hT) ?_
          refine am_e_ifT n119_10 (am_c_eqT (by decide)) t119_10 ?_
          refine am_e_iconst (w := (-1)) n119_16 rfl ?_
          refine am_e_iret c119_17 rfl rfl rfl ?_
          refine am_e_cmpT n136_623 (am_c_eqT (by decide)) t136_623 ?_
          exact K _
theorem am_op22 {lk : List Value → List am_k → am_H → Option am_O} {xs : Nat → Int32} {h : am_H} {Q : Option Value → List am_k → am_H → Prop} {a1 : Int32} {a2 : Int32} {a3 : Int32} {a4 : Int32} {a5 : Int32} (hT : am_T h) (hx1 : xs 1 = a1) (hx2 : xs 2 = a2) (hx3 : xs 3 = a3) (hx4 : xs 4 = a4) (hx5 : xs 5 = a5) (K : ∀ h', am_Ek false (am_P1 (some (6, xs)) lk) am_m136 841 [(4, .int 0), (3, .ref 202), (2, .ref 164), (1, .ref 0), (0, .retAddr 0)] [] am_ks0 h' 203 4392 Q) : am_Ek false (am_P1 (some (6, xs)) lk) am_m136 626 [(4, .int 0), (3, .ref 202), (2, .ref 164), (1, .ref 0), (0, .retAddr 0)] [] am_ks0 h 203 4392 Q := by
  refine am_e_aload_n n136_626 rfl ?_
  refine am_e_callV (L := [(0, .ref 0)]) n136_627 rfl rfl rfl rfl rfl rfl rfl rfl ?_
  refine am_e_aload_n n62_0 rfl ?_
  refine am_e_getf (v := .ref 2) n62_1 rfl (f0_2 (h := h) hT) ?_
  refine am_e_getf (v := .int 0) n62_2 rfl (f2_2 (h := h) hT) ?_
  refine am_e_ifF n62_3 (am_c_neF (by decide)) ?_
  refine am_e_iconst (w := (-1)) n62_4 rfl ?_
  refine am_e_iret c62_5 rfl rfl rfl ?_
  refine am_e_aload_n n136_628 rfl ?_
  refine am_e_callV (L := [(0, .ref 164)]) n136_629 rfl rfl rfl rfl rfl rfl rfl rfl ?_
  refine am_e_aload_n n120_0 rfl ?_
  refine am_e_iconst (w := 0) n120_1 rfl ?_
  refine am_e_putf n120_2 rfl rfl ?_
  refine am_e_aload_n n120_3 rfl ?_
  refine am_e_getf (v := .int 0) n120_4 rfl (f164_12 (h := h) hT) ?_
  refine am_e_ifF n120_5 (am_c_neF (by decide)) ?_
  refine am_e_iconst (w := (-1)) n120_6 rfl ?_
  refine am_e_iret c120_7 rfl rfl rfl ?_
  refine am_e_cmpT n136_630 (am_c_eqT (by decide)) t136_630 ?_
  exact K _
theorem am_op23 {lk : List Value → List am_k → am_H → Option am_O} {xs : Nat → Int32} {h : am_H} {Q : Option Value → List am_k → am_H → Prop} {a1 : Int32} {a2 : Int32} {a3 : Int32} {a4 : Int32} {a5 : Int32} (hT : am_T h) (hx1 : xs 1 = a1) (hx2 : xs 2 = a2) (hx3 : xs 3 = a3) (hx4 : xs 4 = a4) (hx5 : xs 5 = a5) (K : ∀ h', am_Ek false (am_P1 (some (6, xs)) lk) am_m136 841 [(4, .int 0), (3, .ref 202), (2, .ref 164), (1, .ref 0), (0, .retAddr 0)] [] am_ks0 h' 203 4392 Q) : am_Ek false (am_P1 (some (6, xs)) lk) am_m136 633 [(4, .int 0), (3, .ref 202), (2, .ref 164), (1, .ref 0), (0, .retAddr 0)] [] am_ks0 h 203 4392 Q := by
  refine am_e_aload_n n136_633 rfl ?_
  refine am_e_sload_n n136_634 rfl ?_
  refine am_e_iload n136_635 rfl ?_
  refine am_e_iconst (w := 1) n136_636 rfl ?_
  refine am_e_iadd (w := 1) n136_637 (by decide) ?_
  refine am_e_sald1 n136_638 rfl (by decide) (by decide) hx1 ?_
  refine am_e_sload_n n136_639 rfl ?_
  refine am_e_iload n136_640 rfl ?_
  refine am_e_iconst (w := 2) n136_641 rfl ?_
  refine am_e_iadd (w := 2) n136_642 (by decide) ?_
  refine am_e_sald1 n136_643 rfl (by decide) (by decide) hx2 ?_
  refine am_e_sload_n n136_644 rfl ?_
  refine am_e_iload n136_645 rfl ?_
  refine am_e_iconst (w := 3) n136_646 rfl ?_
  refine am_e_iadd (w := 3) n136_647 (by decide) ?_
  refine am_e_sald1 n136_648 rfl (by decide) (by decide) hx3 ?_
  refine am_e_sload_n n136_649 rfl ?_
  refine am_e_iload n136_650 rfl ?_
  refine am_e_iconst (w := 4) n136_651 rfl ?_
  refine am_e_iadd (w := 4) n136_652 (by decide) ?_
  refine am_e_sald1 n136_653 rfl (by decide) (by decide) hx4 ?_
  by_cases hb1 : (a4 : Int32) = 0
  · subst hb1
    refine am_e_ifT n136_654 (am_c_eqT rfl) t136_654 ?_
    refine am_e_iconst (w := 0) n136_657 rfl ?_
    refine am_e_callV (L := [(0, .ref 0), (1, .int a1), (2, .int a2), (3, .int a3), (4, .int 0)]) n136_658 rfl rfl rfl rfl rfl rfl rfl rfl ?_
    refine am_e_aload_n n63_0 rfl ?_
    refine am_e_iload_n n63_1 rfl ?_
    refine am_e_callV (L := [(0, .ref 0), (1, .int a1)]) n63_2 rfl rfl rfl rfl rfl rfl rfl rfl ?_
    refine am_e_iload_n n37_0 rfl ?_
    by_cases hb2 : (a1 : Int32) < 0
    · refine am_e_ifT n37_1 (am_c_ltT hb2) t37_1 ?_
      refine am_e_iconst (w := 0) n37_9 rfl ?_
      refine am_e_iret c37_10 rfl rfl rfl ?_
      refine am_e_ifT n63_3 (am_c_eqT (by decide)) t63_3 ?_
      refine am_e_iconst (w := (-1)) n63_14 rfl ?_
      refine am_e_iret c63_15 rfl rfl rfl ?_
      refine am_e_aload_n n136_659 rfl ?_
      refine am_e_sload_n n136_660 rfl ?_
      refine am_e_iload n136_661 rfl ?_
      refine am_e_iconst (w := 1) n136_662 rfl ?_
      refine am_e_iadd (w := 1) n136_663 (by decide) ?_
      refine am_e_sald1 n136_664 rfl (by decide) (by decide) hx1 ?_
      refine am_e_sload_n n136_665 rfl ?_
      refine am_e_iload n136_666 rfl ?_
      refine am_e_iconst (w := 2) n136_667 rfl ?_
      refine am_e_iadd (w := 2) n136_668 (by decide) ?_
      refine am_e_sald1 n136_669 rfl (by decide) (by decide) hx2 ?_
      refine am_e_sload_n n136_670 rfl ?_
      refine am_e_iload n136_671 rfl ?_
      refine am_e_iconst (w := 3) n136_672 rfl ?_
      refine am_e_iadd (w := 3) n136_673 (by decide) ?_
      refine am_e_sald1 n136_674 rfl (by decide) (by decide) hx3 ?_
      refine am_e_sload_n n136_675 rfl ?_
      refine am_e_iload n136_676 rfl ?_
      refine am_e_iconst (w := 4) n136_677 rfl ?_
      refine am_e_iadd (w := 4) n136_678 (by decide) ?_
      refine am_e_sald1 n136_679 rfl (by decide) (by decide) hx4 ?_
      refine am_e_ifT n136_680 (am_c_eqT (by decide)) t136_680 ?_
      refine am_e_iconst (w := 0) n136_683 rfl ?_
      refine am_e_callV (L := [(0, .ref 164), (1, .int a1), (2, .int a2), (3, .int a3), (4, .int 0)]) n136_684 rfl rfl rfl rfl rfl rfl rfl rfl ?_
      refine am_e_aload_n n121_0 rfl ?_
      refine am_e_iconst (w := 0) n121_1 rfl ?_
      refine am_e_putf n121_2 rfl rfl ?_
      refine am_e_aload_n n121_3 rfl ?_
      refine am_e_getf (v := .int 0) n121_4 rfl (f164_73 (h := h) hT) ?_
      refine am_e_bipush (w := 24) n121_5 (by decide) ?_
      refine am_e_cmpF n121_6 (am_c_eqF (by decide)) ?_
      refine am_e_aload_n n121_7 rfl ?_
      refine am_e_iload_n n121_8 rfl ?_
      refine am_e_callV (L := [(0, .ref 164), (1, .int a1)]) n121_9 rfl rfl rfl rfl rfl rfl rfl rfl ?_
      refine am_e_iload_n n91_0 rfl ?_
      refine am_e_ifT n91_1 (am_c_ltT hb2) t91_1 ?_
      refine am_e_iconst (w := 0) n91_8 rfl ?_
      refine am_e_iret c91_9 rfl rfl rfl ?_
      refine am_e_ifT n121_10 (am_c_eqT (by decide)) t121_10 ?_
      refine am_e_iconst (w := (-1)) n121_28 rfl ?_
      refine am_e_goto c121_29 t121_29 ?_
      refine am_e_iret c121_40 rfl rfl rfl ?_
      refine am_e_cmpT n136_685 (am_c_eqT (by decide)) t136_685 ?_
      exact K _
    · refine am_e_ifF n37_1 (am_c_ltF hb2) ?_
      refine am_e_iload_n n37_2 rfl ?_
      refine am_e_aload_n n37_3 rfl ?_
      refine am_e_getf (v := .ref 2) n37_4 rfl (f0_2 (h := h) hT) ?_
      refine am_e_getf (v := .int 0) n37_5 rfl (f2_2 (h := h) hT) ?_
      refine am_e_cmpT n37_6 (am_c_geT hb2) t37_6 ?_
      refine am_e_iconst (w := 0) n37_9 rfl ?_
      refine am_e_iret c37_10 rfl rfl rfl ?_
      refine am_e_ifT n63_3 (am_c_eqT (by decide)) t63_3 ?_
      refine am_e_iconst (w := (-1)) n63_14 rfl ?_
      refine am_e_iret c63_15 rfl rfl rfl ?_
      refine am_e_aload_n n136_659 rfl ?_
      refine am_e_sload_n n136_660 rfl ?_
      refine am_e_iload n136_661 rfl ?_
      refine am_e_iconst (w := 1) n136_662 rfl ?_
      refine am_e_iadd (w := 1) n136_663 (by decide) ?_
      refine am_e_sald1 n136_664 rfl (by decide) (by decide) hx1 ?_
      refine am_e_sload_n n136_665 rfl ?_
      refine am_e_iload n136_666 rfl ?_
      refine am_e_iconst (w := 2) n136_667 rfl ?_
      refine am_e_iadd (w := 2) n136_668 (by decide) ?_
      refine am_e_sald1 n136_669 rfl (by decide) (by decide) hx2 ?_
      refine am_e_sload_n n136_670 rfl ?_
      refine am_e_iload n136_671 rfl ?_
      refine am_e_iconst (w := 3) n136_672 rfl ?_
      refine am_e_iadd (w := 3) n136_673 (by decide) ?_
      refine am_e_sald1 n136_674 rfl (by decide) (by decide) hx3 ?_
      refine am_e_sload_n n136_675 rfl ?_
      refine am_e_iload n136_676 rfl ?_
      refine am_e_iconst (w := 4) n136_677 rfl ?_
      refine am_e_iadd (w := 4) n136_678 (by decide) ?_
      refine am_e_sald1 n136_679 rfl (by decide) (by decide) hx4 ?_
      refine am_e_ifT n136_680 (am_c_eqT (by decide)) t136_680 ?_
      refine am_e_iconst (w := 0) n136_683 rfl ?_
      refine am_e_callV (L := [(0, .ref 164), (1, .int a1), (2, .int a2), (3, .int a3), (4, .int 0)]) n136_684 rfl rfl rfl rfl rfl rfl rfl rfl ?_
      refine am_e_aload_n n121_0 rfl ?_
      refine am_e_iconst (w := 0) n121_1 rfl ?_
      refine am_e_putf n121_2 rfl rfl ?_
      refine am_e_aload_n n121_3 rfl ?_
      refine am_e_getf (v := .int 0) n121_4 rfl (f164_73 (h := h) hT) ?_
      refine am_e_bipush (w := 24) n121_5 (by decide) ?_
      refine am_e_cmpF n121_6 (am_c_eqF (by decide)) ?_
      refine am_e_aload_n n121_7 rfl ?_
      refine am_e_iload_n n121_8 rfl ?_
      refine am_e_callV (L := [(0, .ref 164), (1, .int a1)]) n121_9 rfl rfl rfl rfl rfl rfl rfl rfl ?_
      refine am_e_iload_n n91_0 rfl ?_
      refine am_e_ifF n91_1 (am_c_ltF hb2) ?_
      refine am_e_iload_n n91_2 rfl ?_
      refine am_e_aload_n n91_3 rfl ?_
      refine am_e_getf (v := .int 0) n91_4 rfl (f164_12 (h := h) hT) ?_
      refine am_e_cmpT n91_5 (am_c_geT hb2) t91_5 ?_
      refine am_e_iconst (w := 0) n91_8 rfl ?_
      refine am_e_iret c91_9 rfl rfl rfl ?_
      refine am_e_ifT n121_10 (am_c_eqT (by decide)) t121_10 ?_
      refine am_e_iconst (w := (-1)) n121_28 rfl ?_
      refine am_e_goto c121_29 t121_29 ?_
      refine am_e_iret c121_40 rfl rfl rfl ?_
      refine am_e_cmpT n136_685 (am_c_eqT (by decide)) t136_685 ?_
      exact K _
  · refine am_e_ifF n136_654 (am_c_eqF hb1) ?_
    refine am_e_iconst (w := 1) n136_655 rfl ?_
    refine am_e_goto c136_656 t136_656 ?_
    refine am_e_callV (L := [(0, .ref 0), (1, .int a1), (2, .int a2), (3, .int a3), (4, .int 1)]) n136_658 rfl rfl rfl rfl rfl rfl rfl rfl ?_
    refine am_e_aload_n n63_0 rfl ?_
    refine am_e_iload_n n63_1 rfl ?_
    refine am_e_callV (L := [(0, .ref 0), (1, .int a1)]) n63_2 rfl rfl rfl rfl rfl rfl rfl rfl ?_
    refine am_e_iload_n n37_0 rfl ?_
    by_cases hb3 : (a1 : Int32) < 0
    · refine am_e_ifT n37_1 (am_c_ltT hb3) t37_1 ?_
      refine am_e_iconst (w := 0) n37_9 rfl ?_
      refine am_e_iret c37_10 rfl rfl rfl ?_
      refine am_e_ifT n63_3 (am_c_eqT (by decide)) t63_3 ?_
      refine am_e_iconst (w := (-1)) n63_14 rfl ?_
      refine am_e_iret c63_15 rfl rfl rfl ?_
      refine am_e_aload_n n136_659 rfl ?_
      refine am_e_sload_n n136_660 rfl ?_
      refine am_e_iload n136_661 rfl ?_
      refine am_e_iconst (w := 1) n136_662 rfl ?_
      refine am_e_iadd (w := 1) n136_663 (by decide) ?_
      refine am_e_sald1 n136_664 rfl (by decide) (by decide) hx1 ?_
      refine am_e_sload_n n136_665 rfl ?_
      refine am_e_iload n136_666 rfl ?_
      refine am_e_iconst (w := 2) n136_667 rfl ?_
      refine am_e_iadd (w := 2) n136_668 (by decide) ?_
      refine am_e_sald1 n136_669 rfl (by decide) (by decide) hx2 ?_
      refine am_e_sload_n n136_670 rfl ?_
      refine am_e_iload n136_671 rfl ?_
      refine am_e_iconst (w := 3) n136_672 rfl ?_
      refine am_e_iadd (w := 3) n136_673 (by decide) ?_
      refine am_e_sald1 n136_674 rfl (by decide) (by decide) hx3 ?_
      refine am_e_sload_n n136_675 rfl ?_
      refine am_e_iload n136_676 rfl ?_
      refine am_e_iconst (w := 4) n136_677 rfl ?_
      refine am_e_iadd (w := 4) n136_678 (by decide) ?_
      refine am_e_sald1 n136_679 rfl (by decide) (by decide) hx4 ?_
      refine am_e_ifF n136_680 (am_c_eqF hb1) ?_
      refine am_e_iconst (w := 1) n136_681 rfl ?_
      refine am_e_goto c136_682 t136_682 ?_
      refine am_e_callV (L := [(0, .ref 164), (1, .int a1), (2, .int a2), (3, .int a3), (4, .int 1)]) n136_684 rfl rfl rfl rfl rfl rfl rfl rfl ?_
      refine am_e_aload_n n121_0 rfl ?_
      refine am_e_iconst (w := 0) n121_1 rfl ?_
      refine am_e_putf n121_2 rfl rfl ?_
      refine am_e_aload_n n121_3 rfl ?_
      refine am_e_getf (v := .int 0) n121_4 rfl (f164_73 (h := h) hT) ?_
      refine am_e_bipush (w := 24) n121_5 (by decide) ?_
      refine am_e_cmpF n121_6 (am_c_eqF (by decide)) ?_
      refine am_e_aload_n n121_7 rfl ?_
      refine am_e_iload_n n121_8 rfl ?_
      refine am_e_callV (L := [(0, .ref 164), (1, .int a1)]) n121_9 rfl rfl rfl rfl rfl rfl rfl rfl ?_
      refine am_e_iload_n n91_0 rfl ?_
      refine am_e_ifT n91_1 (am_c_ltT hb3) t91_1 ?_
      refine am_e_iconst (w := 0) n91_8 rfl ?_
      refine am_e_iret c91_9 rfl rfl rfl ?_
      refine am_e_ifT n121_10 (am_c_eqT (by decide)) t121_10 ?_
      refine am_e_iconst (w := (-1)) n121_28 rfl ?_
      refine am_e_goto c121_29 t121_29 ?_
      refine am_e_iret c121_40 rfl rfl rfl ?_
      refine am_e_cmpT n136_685 (am_c_eqT (by decide)) t136_685 ?_
      exact K _
    · refine am_e_ifF n37_1 (am_c_ltF hb3) ?_
      refine am_e_iload_n n37_2 rfl ?_
      refine am_e_aload_n n37_3 rfl ?_
      refine am_e_getf (v := .ref 2) n37_4 rfl (f0_2 (h := h) hT) ?_
      refine am_e_getf (v := .int 0) n37_5 rfl (f2_2 (h := h) hT) ?_
      refine am_e_cmpT n37_6 (am_c_geT hb3) t37_6 ?_
      refine am_e_iconst (w := 0) n37_9 rfl ?_
      refine am_e_iret c37_10 rfl rfl rfl ?_
      refine am_e_ifT n63_3 (am_c_eqT (by decide)) t63_3 ?_
      refine am_e_iconst (w := (-1)) n63_14 rfl ?_
      refine am_e_iret c63_15 rfl rfl rfl ?_
      refine am_e_aload_n n136_659 rfl ?_
      refine am_e_sload_n n136_660 rfl ?_
      refine am_e_iload n136_661 rfl ?_
      refine am_e_iconst (w := 1) n136_662 rfl ?_
      refine am_e_iadd (w := 1) n136_663 (by decide) ?_
      refine am_e_sald1 n136_664 rfl (by decide) (by decide) hx1 ?_
      refine am_e_sload_n n136_665 rfl ?_
      refine am_e_iload n136_666 rfl ?_
      refine am_e_iconst (w := 2) n136_667 rfl ?_
      refine am_e_iadd (w := 2) n136_668 (by decide) ?_
      refine am_e_sald1 n136_669 rfl (by decide) (by decide) hx2 ?_
      refine am_e_sload_n n136_670 rfl ?_
      refine am_e_iload n136_671 rfl ?_
      refine am_e_iconst (w := 3) n136_672 rfl ?_
      refine am_e_iadd (w := 3) n136_673 (by decide) ?_
      refine am_e_sald1 n136_674 rfl (by decide) (by decide) hx3 ?_
      refine am_e_sload_n n136_675 rfl ?_
      refine am_e_iload n136_676 rfl ?_
      refine am_e_iconst (w := 4) n136_677 rfl ?_
      refine am_e_iadd (w := 4) n136_678 (by decide) ?_
      refine am_e_sald1 n136_679 rfl (by decide) (by decide) hx4 ?_
      refine am_e_ifF n136_680 (am_c_eqF hb1) ?_
      refine am_e_iconst (w := 1) n136_681 rfl ?_
      refine am_e_goto c136_682 t136_682 ?_
      refine am_e_callV (L := [(0, .ref 164), (1, .int a1), (2, .int a2), (3, .int a3), (4, .int 1)]) n136_684 rfl rfl rfl rfl rfl rfl rfl rfl ?_
      refine am_e_aload_n n121_0 rfl ?_
      refine am_e_iconst (w := 0) n121_1 rfl ?_
      refine am_e_putf n121_2 rfl rfl ?_
      refine am_e_aload_n n121_3 rfl ?_
      refine am_e_getf (v := .int 0) n121_4 rfl (f164_73 (h := h) hT) ?_
      refine am_e_bipush (w := 24) n121_5 (by decide) ?_
      refine am_e_cmpF n121_6 (am_c_eqF (by decide)) ?_
      refine am_e_aload_n n121_7 rfl ?_
      refine am_e_iload_n n121_8 rfl ?_
      refine am_e_callV (L := [(0, .ref 164), (1, .int a1)]) n121_9 rfl rfl rfl rfl rfl rfl rfl rfl ?_
      refine am_e_iload_n n91_0 rfl ?_
      refine am_e_ifF n91_1 (am_c_ltF hb3) ?_
      refine am_e_iload_n n91_2 rfl ?_
      refine am_e_aload_n n91_3 rfl ?_
      refine am_e_getf (v := .int 0) n91_4 rfl (f164_12 (h := h) hT) ?_
      refine am_e_cmpT n91_5 (am_c_geT hb3) t91_5 ?_
      refine am_e_iconst (w := 0) n91_8 rfl ?_
      refine am_e_iret c91_9 rfl rfl rfl ?_
      refine am_e_ifT n121_10 (am_c_eqT (by decide)) t121_10 ?_
      refine am_e_iconst (w := (-1)) n121_28 rfl ?_
      refine am_e_goto c121_29 t121_29 ?_
      refine am_e_iret c121_40 rfl rfl rfl ?_
      refine am_e_cmpT n136_685 (am_c_eqT (by decide)) t136_685 ?_
      exact K _
theorem am_op24 {lk : List Value → List am_k → am_H → Option am_O} {xs : Nat → Int32} {h : am_H} {Q : Option Value → List am_k → am_H → Prop} {a1 : Int32} {a2 : Int32} {a3 : Int32} {a4 : Int32} {a5 : Int32} (hT : am_T h) (hx1 : xs 1 = a1) (hx2 : xs 2 = a2) (hx3 : xs 3 = a3) (hx4 : xs 4 = a4) (hx5 : xs 5 = a5) (K : ∀ h', am_Ek false (am_P1 (some (6, xs)) lk) am_m136 841 [(4, .int 0), (3, .ref 202), (2, .ref 164), (1, .ref 0), (0, .retAddr 0)] [] am_ks0 h' 203 4392 Q) : am_Ek false (am_P1 (some (6, xs)) lk) am_m136 688 [(4, .int 0), (3, .ref 202), (2, .ref 164), (1, .ref 0), (0, .retAddr 0)] [] am_ks0 h 203 4392 Q := by
  refine am_e_aload_n n136_688 rfl ?_
  refine am_e_sload_n n136_689 rfl ?_
  refine am_e_iload n136_690 rfl ?_
  refine am_e_iconst (w := 1) n136_691 rfl ?_
  refine am_e_iadd (w := 1) n136_692 (by decide) ?_
  refine am_e_sald1 n136_693 rfl (by decide) (by decide) hx1 ?_
  refine am_e_callV (L := [(0, .ref 0), (1, .int a1)]) n136_694 rfl rfl rfl rfl rfl rfl rfl rfl ?_
  refine am_e_iload_n n64_0 rfl ?_
  by_cases hb1 : (a1 : Int32) < 0
  · refine am_e_ifT n64_1 (am_c_ltT hb1) t64_1 ?_
    refine am_e_iconst (w := (-1)) n64_7 rfl ?_
    refine am_e_iret c64_8 rfl rfl rfl ?_
    refine am_e_aload_n n136_695 rfl ?_
    refine am_e_sload_n n136_696 rfl ?_
    refine am_e_iload n136_697 rfl ?_
    refine am_e_iconst (w := 1) n136_698 rfl ?_
    refine am_e_iadd (w := 1) n136_699 (by decide) ?_
    refine am_e_sald1 n136_700 rfl (by decide) (by decide) hx1 ?_
    refine am_e_callV (L := [(0, .ref 164), (1, .int a1)]) n136_701 rfl rfl rfl rfl rfl rfl rfl rfl ?_
    refine am_e_aload_n n122_0 rfl ?_
    refine am_e_iconst (w := 0) n122_1 rfl ?_
    refine am_e_putf n122_2 rfl rfl ?_
    refine am_e_aload_n n122_3 rfl ?_
    refine am_e_getf (v := .int 0) n122_4 rfl (f164_73 (h := h) hT) ?_
    refine am_e_bipush (w := 24) n122_5 (by decide) ?_
    refine am_e_cmpF n122_6 (am_c_eqF (by decide)) ?_
    refine am_e_iload_n n122_7 rfl ?_
    refine am_e_ifT n122_8 (am_c_ltT hb1) t122_8 ?_
    refine am_e_iconst (w := (-1)) n122_13 rfl ?_
    refine am_e_goto c122_14 t122_14 ?_
    refine am_e_iret c122_21 rfl rfl rfl ?_
    refine am_e_cmpT n136_702 (am_c_eqT (by decide)) t136_702 ?_
    exact K _
  · refine am_e_ifF n64_1 (am_c_ltF hb1) ?_
    refine am_e_iload_n n64_2 rfl ?_
    refine am_e_aload_n n64_3 rfl ?_
    refine am_e_getf (v := .ref 142) n64_4 rfl (f0_10 (h := h) hT) ?_
    refine am_e_getf (v := .int 0) n64_5 rfl (f142_0 (h := h) hT) ?_
    refine am_e_cmpF n64_6 (am_c_ltF hb1) ?_
    refine am_e_iconst (w := (-1)) n64_7 rfl ?_
    refine am_e_iret c64_8 rfl rfl rfl ?_
    refine am_e_aload_n n136_695 rfl ?_
    refine am_e_sload_n n136_696 rfl ?_
    refine am_e_iload n136_697 rfl ?_
    refine am_e_iconst (w := 1) n136_698 rfl ?_
    refine am_e_iadd (w := 1) n136_699 (by decide) ?_
    refine am_e_sald1 n136_700 rfl (by decide) (by decide) hx1 ?_
    refine am_e_callV (L := [(0, .ref 164), (1, .int a1)]) n136_701 rfl rfl rfl rfl rfl rfl rfl rfl ?_
    refine am_e_aload_n n122_0 rfl ?_
    refine am_e_iconst (w := 0) n122_1 rfl ?_
    refine am_e_putf n122_2 rfl rfl ?_
    refine am_e_aload_n n122_3 rfl ?_
    refine am_e_getf (v := .int 0) n122_4 rfl (f164_73 (h := h) hT) ?_
    refine am_e_bipush (w := 24) n122_5 (by decide) ?_
    refine am_e_cmpF n122_6 (am_c_eqF (by decide)) ?_
    refine am_e_iload_n n122_7 rfl ?_
    refine am_e_ifF n122_8 (am_c_ltF hb1) ?_
    refine am_e_iload_n n122_9 rfl ?_
    refine am_e_aload_n n122_10 rfl ?_
    refine am_e_getf (v := .int 0) n122_11 rfl (f164_73 (h := h) hT) ?_
    refine am_e_cmpF n122_12 (am_c_ltF hb1) ?_
    refine am_e_iconst (w := (-1)) n122_13 rfl ?_
    refine am_e_goto c122_14 t122_14 ?_
    refine am_e_iret c122_21 rfl rfl rfl ?_
    refine am_e_cmpT n136_702 (am_c_eqT (by decide)) t136_702 ?_
    exact K _
theorem am_op25 {lk : List Value → List am_k → am_H → Option am_O} {xs : Nat → Int32} {h : am_H} {Q : Option Value → List am_k → am_H → Prop} {a1 : Int32} {a2 : Int32} {a3 : Int32} {a4 : Int32} {a5 : Int32} (hT : am_T h) (hx1 : xs 1 = a1) (hx2 : xs 2 = a2) (hx3 : xs 3 = a3) (hx4 : xs 4 = a4) (hx5 : xs 5 = a5) (K : ∀ h', am_Ek false (am_P1 (some (6, xs)) lk) am_m136 841 [(4, .int 0), (3, .ref 202), (2, .ref 164), (1, .ref 0), (0, .retAddr 0)] [] am_ks0 h' 203 4392 Q) : am_Ek false (am_P1 (some (6, xs)) lk) am_m136 705 [(4, .int 0), (3, .ref 202), (2, .ref 164), (1, .ref 0), (0, .retAddr 0)] [] am_ks0 h 203 4392 Q := by
  refine am_e_aload_n n136_705 rfl ?_
  refine am_e_sload_n n136_706 rfl ?_
  refine am_e_iload n136_707 rfl ?_
  refine am_e_iconst (w := 1) n136_708 rfl ?_
  refine am_e_iadd (w := 1) n136_709 (by decide) ?_
  refine am_e_sald1 n136_710 rfl (by decide) (by decide) hx1 ?_
  refine am_e_callV (L := [(0, .ref 0), (1, .int a1)]) n136_711 rfl rfl rfl rfl rfl rfl rfl rfl ?_
  refine am_e_iload_n n65_0 rfl ?_
  refine am_e_iconst (w := (-1)) n65_1 rfl ?_
  by_cases hb1 : (a1 : Int32) < (-1)
  · refine am_e_cmpT n65_2 (am_c_ltT hb1) t65_2 ?_
    refine am_e_iconst (w := 0) n65_8 rfl ?_
    refine am_e_iret c65_9 rfl rfl rfl ?_
    refine am_e_aload_n n136_712 rfl ?_
    refine am_e_sload_n n136_713 rfl ?_
    refine am_e_iload n136_714 rfl ?_
    refine am_e_iconst (w := 1) n136_715 rfl ?_
    refine am_e_iadd (w := 1) n136_716 (by decide) ?_
    refine am_e_sald1 n136_717 rfl (by decide) (by decide) hx1 ?_
    refine am_e_callV (L := [(0, .ref 164), (1, .int a1)]) n136_718 rfl rfl rfl rfl rfl rfl rfl rfl ?_
    refine am_e_aload_n n123_0 rfl ?_
    refine am_e_iconst (w := 0) n123_1 rfl ?_
    refine am_e_putf n123_2 rfl rfl ?_
    refine am_e_iload_n n123_3 rfl ?_
    refine am_e_iconst (w := (-1)) n123_4 rfl ?_
    refine am_e_aload_n n123_5 rfl ?_
    refine am_e_getf (v := .int 0) n123_6 rfl (f164_73 (h := h) hT) ?_
    refine am_e_callS (L := [(0, .int a1), (1, .int (-1)), (2, .int 0)]) n123_7 rfl rfl rfl rfl rfl rfl rfl ?_
    refine am_e_iload_n n87_0 rfl ?_
    refine am_e_iload_n n87_1 rfl ?_
    refine am_e_cmpT n87_2 (am_c_ltT hb1) t87_2 ?_
    refine am_e_iconst (w := 0) n87_8 rfl ?_
    refine am_e_iret c87_9 rfl rfl rfl ?_
    refine am_e_ifF n123_8 (am_c_neF (by decide)) ?_
    refine am_e_iconst (w := 0) n123_9 rfl ?_
    refine am_e_iret c123_10 rfl rfl rfl ?_
    refine am_e_cmpT n136_719 (am_c_eqT (by decide)) t136_719 ?_
    exact K _
  · refine am_e_cmpF n65_2 (am_c_ltF hb1) ?_
    refine am_e_iload_n n65_3 rfl ?_
    refine am_e_aload_n n65_4 rfl ?_
    refine am_e_getf (v := .ref 142) n65_5 rfl (f0_10 (h := h) hT) ?_
    refine am_e_getf (v := .int 0) n65_6 rfl (f142_0 (h := h) hT) ?_
    by_cases hb2 : (0 : Int32) < a1
    · refine am_e_cmpF n65_7 (am_c_leF hb2) ?_
      refine am_e_iconst (w := 0) n65_8 rfl ?_
      refine am_e_iret c65_9 rfl rfl rfl ?_
      refine am_e_aload_n n136_712 rfl ?_
      refine am_e_sload_n n136_713 rfl ?_
      refine am_e_iload n136_714 rfl ?_
      refine am_e_iconst (w := 1) n136_715 rfl ?_
      refine am_e_iadd (w := 1) n136_716 (by decide) ?_
      refine am_e_sald1 n136_717 rfl (by decide) (by decide) hx1 ?_
      refine am_e_callV (L := [(0, .ref 164), (1, .int a1)]) n136_718 rfl rfl rfl rfl rfl rfl rfl rfl ?_
      refine am_e_aload_n n123_0 rfl ?_
      refine am_e_iconst (w := 0) n123_1 rfl ?_
      refine am_e_putf n123_2 rfl rfl ?_
      refine am_e_iload_n n123_3 rfl ?_
      refine am_e_iconst (w := (-1)) n123_4 rfl ?_
      refine am_e_aload_n n123_5 rfl ?_
      refine am_e_getf (v := .int 0) n123_6 rfl (f164_73 (h := h) hT) ?_
      refine am_e_callS (L := [(0, .int a1), (1, .int (-1)), (2, .int 0)]) n123_7 rfl rfl rfl rfl rfl rfl rfl ?_
      refine am_e_iload_n n87_0 rfl ?_
      refine am_e_iload_n n87_1 rfl ?_
      refine am_e_cmpF n87_2 (am_c_ltF hb1) ?_
      refine am_e_iload_n n87_3 rfl ?_
      refine am_e_iload_n n87_4 rfl ?_
      refine am_e_cmpT n87_5 (am_c_gtT hb2) t87_5 ?_
      refine am_e_iconst (w := 0) n87_8 rfl ?_
      refine am_e_iret c87_9 rfl rfl rfl ?_
      refine am_e_ifF n123_8 (am_c_neF (by decide)) ?_
      refine am_e_iconst (w := 0) n123_9 rfl ?_
      refine am_e_iret c123_10 rfl rfl rfl ?_
      refine am_e_cmpT n136_719 (am_c_eqT (by decide)) t136_719 ?_
      exact K _
    · refine am_e_cmpT n65_7 (am_c_leT hb2) t65_7 ?_
      refine am_e_aload_n n65_10 rfl ?_
      refine am_e_getf (v := .ref 142) n65_11 rfl (f0_10 (h := h) hT) ?_
      refine am_e_iload_n n65_12 rfl ?_
      refine am_e_putf n65_13 rfl rfl ?_
      refine am_e_iconst (w := 1) n65_14 rfl ?_
      refine am_e_iret c65_15 rfl rfl rfl ?_
      refine am_e_aload_n n136_712 rfl ?_
      refine am_e_sload_n n136_713 rfl ?_
      refine am_e_iload n136_714 rfl ?_
      refine am_e_iconst (w := 1) n136_715 rfl ?_
      refine am_e_iadd (w := 1) n136_716 (by decide) ?_
      refine am_e_sald1 n136_717 rfl (by decide) (by decide) hx1 ?_
      refine am_e_callV (L := [(0, .ref 164), (1, .int a1)]) n136_718 rfl rfl rfl rfl rfl rfl rfl rfl ?_
      refine am_e_aload_n n123_0 rfl ?_
      refine am_e_iconst (w := 0) n123_1 rfl ?_
      refine am_e_putf n123_2 rfl rfl ?_
      refine am_e_iload_n n123_3 rfl ?_
      refine am_e_iconst (w := (-1)) n123_4 rfl ?_
      refine am_e_aload_n n123_5 rfl ?_
      refine am_e_getf (v := .int 0) n123_6 rfl (f164_73 (h := h) hT) ?_
      refine am_e_callS (L := [(0, .int a1), (1, .int (-1)), (2, .int 0)]) n123_7 rfl rfl rfl rfl rfl rfl rfl ?_
      refine am_e_iload_n n87_0 rfl ?_
      refine am_e_iload_n n87_1 rfl ?_
      refine am_e_cmpF n87_2 (am_c_ltF hb1) ?_
      refine am_e_iload_n n87_3 rfl ?_
      refine am_e_iload_n n87_4 rfl ?_
      refine am_e_cmpF n87_5 (am_c_gtF hb2) ?_
      refine am_e_iconst (w := 1) n87_6 rfl ?_
      refine am_e_goto c87_7 t87_7 ?_
      refine am_e_iret c87_9 rfl rfl rfl ?_
      refine am_e_ifT n123_8 (am_c_neT (by decide)) t123_8 ?_
      refine am_e_aload_n n123_11 rfl ?_
      refine am_e_iload_n n123_12 rfl ?_
      refine am_e_putf n123_13 rfl rfl ?_
      refine am_e_iconst (w := 1) n123_14 rfl ?_
      refine am_e_iret c123_15 rfl rfl rfl ?_
      refine am_e_cmpT n136_719 (am_c_eqT (by decide)) t136_719 ?_
      exact K _
theorem am_op26 {lk : List Value → List am_k → am_H → Option am_O} {xs : Nat → Int32} {h : am_H} {Q : Option Value → List am_k → am_H → Prop} {a1 : Int32} {a2 : Int32} {a3 : Int32} {a4 : Int32} {a5 : Int32} (hT : am_T h) (hx1 : xs 1 = a1) (hx2 : xs 2 = a2) (hx3 : xs 3 = a3) (hx4 : xs 4 = a4) (hx5 : xs 5 = a5) (K : ∀ h', am_Ek false (am_P1 (some (6, xs)) lk) am_m136 841 [(4, .int 0), (3, .ref 202), (2, .ref 164), (1, .ref 0), (0, .retAddr 0)] [] am_ks0 h' 203 4392 Q) : am_Ek false (am_P1 (some (6, xs)) lk) am_m136 722 [(4, .int 0), (3, .ref 202), (2, .ref 164), (1, .ref 0), (0, .retAddr 0)] [] am_ks0 h 203 4392 Q := by
  refine am_e_aload_n n136_722 rfl ?_
  refine am_e_callV (L := [(0, .ref 0)]) n136_723 rfl rfl rfl rfl rfl rfl rfl rfl ?_
  refine am_e_aload_n n66_0 rfl ?_
  refine am_e_getf (v := .ref 142) n66_1 rfl (f0_10 (h := h) hT) ?_
  refine am_e_callV (L := [(0, .ref 142)]) n66_2 rfl rfl rfl rfl rfl rfl rfl rfl ?_
  refine am_e_iconst (w := 0) n67_0 rfl ?_
  refine am_e_istore_n (ls' := [(1, .int 0), (0, .ref 142)]) n67_1 rfl rfl ?_
  refine am_e_iload_n n67_2 rfl ?_
  refine am_e_aload_n n67_3 rfl ?_
  refine am_e_getf (v := .int 0) n67_4 rfl (f142_0 (h := h) hT) ?_
  refine am_e_cmpT n67_5 (am_c_geT (by decide)) t67_5 ?_
  refine am_e_aload_n n67_13 rfl ?_
  refine am_e_callV (L := [(0, .ref 142)]) n67_14 rfl rfl rfl rfl rfl rfl rfl rfl ?_
  refine am_e_aload_n n68_0 rfl ?_
  refine am_e_getf (v := .int (-1)) n68_1 rfl (f142_1 (h := h) hT) ?_
  refine am_e_ifF n68_2 (am_c_geF (by decide)) ?_
  refine am_e_aload_n n68_3 rfl ?_
  refine am_e_getf (v := .int 0) n68_4 rfl (f142_0 (h := h) hT) ?_
  refine am_e_goto c68_5 t68_5 ?_
  refine am_e_iret c68_8 rfl rfl rfl ?_
  refine am_e_iconst (w := 1) n67_15 rfl ?_
  refine am_e_isub (w := (-1)) n67_16 (by decide) ?_
  refine am_e_istore_n (ls' := [(1, .int (-1)), (0, .ref 142)]) n67_17 rfl rfl ?_
  refine am_e_iload_n n67_18 rfl ?_
  refine am_e_ifT n67_19 (am_c_ltT (by decide)) t67_19 ?_
  refine am_e_vret c67_41 rfl rfl ?_
  refine am_e_aload_n n66_3 rfl ?_
  refine am_e_getf (v := .ref 52) n66_4 rfl (f0_6 (h := h) hT) ?_
  refine am_e_aload_n n66_5 rfl ?_
  refine am_e_getf (v := .ref 2) n66_6 rfl (f0_2 (h := h) hT) ?_
  refine am_e_callV (L := [(0, .ref 52), (1, .ref 2)]) n66_7 rfl rfl rfl rfl rfl rfl rfl rfl ?_
  refine am_e_aload_n n14_0 rfl ?_
  refine am_e_aload_n n14_1 rfl ?_
  refine am_e_getf (v := .int 0) n14_2 rfl (f2_1 (h := h) hT) ?_
  refine am_e_putf n14_3 rfl rfl ?_
  refine am_e_aload_n n14_4 rfl ?_
  refine am_e_iconst (w := 0) n14_5 rfl ?_
  refine am_e_putf n14_6 rfl rfl ?_
  refine am_e_aload_n n14_7 rfl ?_
  refine am_e_iconst (w := (-1)) n14_8 rfl ?_
  refine am_e_putf n14_9 rfl rfl ?_
  refine am_e_aload_n n14_10 rfl ?_
  refine am_e_aload_n n14_11 rfl ?_
  refine am_e_getf (v := .int 0) n14_12 rfl (f2_8 (h := h) hT) ?_
  refine am_e_putf n14_13 rfl rfl ?_
  refine am_e_aload_n n14_14 rfl ?_
  refine am_e_iconst (w := 0) n14_15 rfl ?_
  refine am_e_putf n14_16 rfl rfl ?_
  refine am_e_iconst (w := 0) n14_17 rfl ?_
  refine am_e_istore_n (ls' := [(2, .int 0), (0, .ref 52), (1, .ref 2)]) n14_18 rfl rfl ?_
  refine am_e_iload_n n14_19 rfl ?_
  refine am_e_iconst (w := 4) n14_20 rfl ?_
  refine am_e_cmpF n14_21 (am_c_geF (by decide)) ?_
  refine am_e_aload_n n14_22 rfl ?_
  refine am_e_getf (v := .ref 53) n14_23 rfl (f52_5 (h := h) hT) ?_
  refine am_e_iload_n n14_24 rfl ?_
  refine am_e_iconst (w := 0) n14_25 rfl ?_
  refine am_e_iastore (q := 0) n14_26 rfl (by decide) (by decide) ?_
  refine am_e_aload_n n14_27 rfl ?_
  refine am_e_getf (v := .ref 54) n14_28 rfl (f52_6 (h := h) hT) ?_
  refine am_e_iload_n n14_29 rfl ?_
  refine am_e_iconst (w := 0) n14_30 rfl ?_
  refine am_e_iastore (q := 0) n14_31 rfl (by decide) (by decide) ?_
  refine am_e_aload_n n14_32 rfl ?_
  refine am_e_getf (v := .ref 55) n14_33 rfl (f52_7 (h := h) hT) ?_
  refine am_e_iload_n n14_34 rfl ?_
  refine am_e_iconst (w := 0) n14_35 rfl ?_
  refine am_e_iastore (q := 0) n14_36 rfl (by decide) (by decide) ?_
  refine am_e_iinc (w := 1) (ls' := [(2, .int 1), (0, .ref 52), (1, .ref 2)]) n14_37 rfl rfl (by decide) rfl ?_
  refine am_e_goto c14_38 t14_38 ?_
  refine am_e_iload_n n14_19 rfl ?_
  refine am_e_iconst (w := 4) n14_20 rfl ?_
  refine am_e_cmpF n14_21 (am_c_geF (by decide)) ?_
  refine am_e_aload_n n14_22 rfl ?_
  refine am_e_getf (v := .ref 53) n14_23 rfl (f52_5 (h := h) hT) ?_
  refine am_e_iload_n n14_24 rfl ?_
  refine am_e_iconst (w := 0) n14_25 rfl ?_
  refine am_e_iastore (q := 1) n14_26 rfl (by decide) (by decide) ?_
  refine am_e_aload_n n14_27 rfl ?_
  refine am_e_getf (v := .ref 54) n14_28 rfl (f52_6 (h := h) hT) ?_
  refine am_e_iload_n n14_29 rfl ?_
  refine am_e_iconst (w := 0) n14_30 rfl ?_
  refine am_e_iastore (q := 1) n14_31 rfl (by decide) (by decide) ?_
  refine am_e_aload_n n14_32 rfl ?_
  refine am_e_getf (v := .ref 55) n14_33 rfl (f52_7 (h := h) hT) ?_
  refine am_e_iload_n n14_34 rfl ?_
  refine am_e_iconst (w := 0) n14_35 rfl ?_
  refine am_e_iastore (q := 1) n14_36 rfl (by decide) (by decide) ?_
  refine am_e_iinc (w := 2) (ls' := [(2, .int 2), (0, .ref 52), (1, .ref 2)]) n14_37 rfl rfl (by decide) rfl ?_
  refine am_e_goto c14_38 t14_38 ?_
  refine am_e_iload_n n14_19 rfl ?_
  refine am_e_iconst (w := 4) n14_20 rfl ?_
  refine am_e_cmpF n14_21 (am_c_geF (by decide)) ?_
  refine am_e_aload_n n14_22 rfl ?_
  refine am_e_getf (v := .ref 53) n14_23 rfl (f52_5 (h := h) hT) ?_
  refine am_e_iload_n n14_24 rfl ?_
  refine am_e_iconst (w := 0) n14_25 rfl ?_
  refine am_e_iastore (q := 2) n14_26 rfl (by decide) (by decide) ?_
  refine am_e_aload_n n14_27 rfl ?_
  refine am_e_getf (v := .ref 54) n14_28 rfl (f52_6 (h := h) hT) ?_
  refine am_e_iload_n n14_29 rfl ?_
  refine am_e_iconst (w := 0) n14_30 rfl ?_
  refine am_e_iastore (q := 2) n14_31 rfl (by decide) (by decide) ?_
  refine am_e_aload_n n14_32 rfl ?_
  refine am_e_getf (v := .ref 55) n14_33 rfl (f52_7 (h := h) hT) ?_
  refine am_e_iload_n n14_34 rfl ?_
  refine am_e_iconst (w := 0) n14_35 rfl ?_
  refine am_e_iastore (q := 2) n14_36 rfl (by decide) (by decide) ?_
  refine am_e_iinc (w := 3) (ls' := [(2, .int 3), (0, .ref 52), (1, .ref 2)]) n14_37 rfl rfl (by decide) rfl ?_
  refine am_e_goto c14_38 t14_38 ?_
  refine am_e_iload_n n14_19 rfl ?_
  refine am_e_iconst (w := 4) n14_20 rfl ?_
  refine am_e_cmpF n14_21 (am_c_geF (by decide)) ?_
  refine am_e_aload_n n14_22 rfl ?_
  refine am_e_getf (v := .ref 53) n14_23 rfl (f52_5 (h := h) hT) ?_
  refine am_e_iload_n n14_24 rfl ?_
  refine am_e_iconst (w := 0) n14_25 rfl ?_
  refine am_e_iastore (q := 3) n14_26 rfl (by decide) (by decide) ?_
  refine am_e_aload_n n14_27 rfl ?_
  refine am_e_getf (v := .ref 54) n14_28 rfl (f52_6 (h := h) hT) ?_
  refine am_e_iload_n n14_29 rfl ?_
  refine am_e_iconst (w := 0) n14_30 rfl ?_
  refine am_e_iastore (q := 3) n14_31 rfl (by decide) (by decide) ?_
  refine am_e_aload_n n14_32 rfl ?_
  refine am_e_getf (v := .ref 55) n14_33 rfl (f52_7 (h := h) hT) ?_
  refine am_e_iload_n n14_34 rfl ?_
  refine am_e_iconst (w := 0) n14_35 rfl ?_
  refine am_e_iastore (q := 3) n14_36 rfl (by decide) (by decide) ?_
  refine am_e_iinc (w := 4) (ls' := [(2, .int 4), (0, .ref 52), (1, .ref 2)]) n14_37 rfl rfl (by decide) rfl ?_
  refine am_e_goto c14_38 t14_38 ?_
  refine am_e_iload_n n14_19 rfl ?_
  refine am_e_iconst (w := 4) n14_20 rfl ?_
  refine am_e_cmpT n14_21 (am_c_geT (by decide)) t14_21 ?_
  refine am_e_vret c14_39 rfl rfl ?_
  refine am_e_iconst (w := 0) n66_8 rfl ?_
  refine am_e_istore_n (ls' := [(1, .int 0), (0, .ref 0)]) n66_9 rfl rfl ?_
  refine am_e_iconst (w := 0) n66_10 rfl ?_
  refine am_e_istore_n (ls' := [(2, .int 0), (1, .int 0), (0, .ref 0)]) n66_11 rfl rfl ?_
  refine am_e_iload_n n66_12 rfl ?_
  refine am_e_aload_n n66_13 rfl ?_
  refine am_e_getf (v := .ref 2) n66_14 rfl (f0_2 (h := h) hT) ?_
  refine am_e_getf (v := .int 0) n66_15 rfl (f2_9 (h := h) hT) ?_
  refine am_e_cmpF n66_16 (am_c_gtF (by decide)) ?_
  refine am_e_aload_n n66_17 rfl ?_
  refine am_e_iload_n n66_18 rfl ?_
  refine am_e_aload_n n66_19 rfl ?_
  refine am_e_getf (v := .ref 2) n66_20 rfl (f0_2 (h := h) hT) ?_
  refine am_e_getf (v := .int 0) n66_21 rfl (f2_9 (h := h) hT) ?_
  refine am_e_cmpT n66_22 (am_c_geT (by decide)) t66_22 ?_
  refine am_e_iconst (w := (-1)) n66_25 rfl ?_
  refine am_e_callV (L := [(0, .ref 0), (1, .int (-1))]) n66_26 rfl rfl rfl rfl rfl rfl rfl rfl ?_
  refine am_e_aload_n n69_0 rfl ?_
  refine am_e_getf (v := .ref 142) n69_1 rfl (f0_10 (h := h) hT) ?_
  refine am_e_callV (L := [(0, .ref 142)]) n69_2 rfl rfl rfl rfl rfl rfl rfl rfl ?_
  refine am_e_aload_n n68_0 rfl ?_
  refine am_e_getf (v := .int (-1)) n68_1 rfl (f142_1 (h := h) hT) ?_
  refine am_e_ifF n68_2 (am_c_geF (by decide)) ?_
  refine am_e_aload_n n68_3 rfl ?_
  refine am_e_getf (v := .int 0) n68_4 rfl (f142_0 (h := h) hT) ?_
  refine am_e_goto c68_5 t68_5 ?_
  refine am_e_iret c68_8 rfl rfl rfl ?_
  refine am_e_istore_n (ls' := [(2, .int 0), (0, .ref 0), (1, .int (-1))]) n69_3 rfl rfl ?_
  refine am_e_iconst (w := 0) n69_4 rfl ?_
  refine am_e_istore_n (ls' := [(3, .int 0), (2, .int 0), (0, .ref 0), (1, .int (-1))]) n69_5 rfl rfl ?_
  refine am_e_iload_n n69_6 rfl ?_
  refine am_e_iload_n n69_7 rfl ?_
  refine am_e_cmpT n69_8 (am_c_geT (by decide)) t69_8 ?_
  refine am_e_iconst (w := 1) n69_23 rfl ?_
  refine am_e_iret c69_24 rfl rfl rfl ?_
  refine am_e_ifF n66_27 (am_c_eqF (by decide)) ?_
  refine am_e_iload_n n66_28 rfl ?_
  refine am_e_iconst (w := 1) n66_29 rfl ?_
  refine am_e_iload_n n66_30 rfl ?_
  refine am_e_ishl (w := 1) n66_31 (by decide) ?_
  refine am_e_ior (w := 1) n66_32 (by decide) ?_
  refine am_e_istore_n (ls' := [(1, .int 1), (2, .int 0), (0, .ref 0)]) n66_33 rfl rfl ?_
  refine am_e_iinc (w := 1) (ls' := [(2, .int 1), (1, .int 1), (0, .ref 0)]) n66_34 rfl rfl (by decide) rfl ?_
  refine am_e_goto c66_35 t66_35 ?_
  refine am_e_iload_n n66_12 rfl ?_
  refine am_e_aload_n n66_13 rfl ?_
  refine am_e_getf (v := .ref 2) n66_14 rfl (f0_2 (h := h) hT) ?_
  refine am_e_getf (v := .int 0) n66_15 rfl (f2_9 (h := h) hT) ?_
  refine am_e_cmpT n66_16 (am_c_gtT (by decide)) t66_16 ?_
  refine am_e_iload_n n66_36 rfl ?_
  refine am_e_iret c66_37 rfl rfl rfl ?_
  refine am_e_aload_n n136_724 rfl ?_
  refine am_e_callV (L := [(0, .ref 164)]) n136_725 rfl rfl rfl rfl rfl rfl rfl rfl ?_
  refine am_e_aload_n n124_0 rfl ?_
  refine am_e_iconst (w := 0) n124_1 rfl ?_
  refine am_e_putf n124_2 rfl rfl ?_
  refine am_e_iconst (w := 0) n124_3 rfl ?_
  refine am_e_istore_n (ls' := [(1, .int 0), (0, .ref 164)]) n124_4 rfl rfl ?_
  refine am_e_iload_n n124_5 rfl ?_
  refine am_e_aload_n n124_6 rfl ?_
  refine am_e_callV (L := [(0, .ref 164)]) n124_7 rfl rfl rfl rfl rfl rfl rfl rfl ?_
  refine am_e_aload_n n125_0 rfl ?_
  refine am_e_getf (v := .int (-1)) n125_1 rfl (f164_74 (h := h) hT) ?_
  refine am_e_ifF n125_2 (am_c_geF (by decide)) ?_
  refine am_e_aload_n n125_3 rfl ?_
  refine am_e_getf (v := .int 0) n125_4 rfl (f164_73 (h := h) hT) ?_
  refine am_e_goto c125_5 t125_5 ?_
  refine am_e_iret c125_8 rfl rfl rfl ?_
  refine am_e_cmpT n124_8 (am_c_geT (by decide)) t124_8 ?_
  refine am_e_aload_n n124_16 rfl ?_
  refine am_e_callV (L := [(0, .ref 164)]) n124_17 rfl rfl rfl rfl rfl rfl rfl rfl ?_
  refine am_e_aload_n n125_0 rfl ?_
  refine am_e_getf (v := .int (-1)) n125_1 rfl (f164_74 (h := h) hT) ?_
  refine am_e_ifF n125_2 (am_c_geF (by decide)) ?_
  refine am_e_aload_n n125_3 rfl ?_
  refine am_e_getf (v := .int 0) n125_4 rfl (f164_73 (h := h) hT) ?_
  refine am_e_goto c125_5 t125_5 ?_
  refine am_e_iret c125_8 rfl rfl rfl ?_
  refine am_e_iconst (w := 1) n124_18 rfl ?_
  refine am_e_isub (w := (-1)) n124_19 (by decide) ?_
  refine am_e_istore_n (ls' := [(1, .int (-1)), (0, .ref 164)]) n124_20 rfl rfl ?_
  refine am_e_iload_n n124_21 rfl ?_
  refine am_e_ifT n124_22 (am_c_ltT (by decide)) t124_22 ?_
  refine am_e_iconst (w := 0) n124_49 rfl ?_
  refine am_e_istore_n (ls' := [(1, .int 0), (0, .ref 164)]) n124_50 rfl rfl ?_
  refine am_e_aload_n n124_51 rfl ?_
  refine am_e_getf (v := .int 0) n124_52 rfl (f164_57 (h := h) hT) ?_
  refine am_e_istore_n (ls' := [(2, .int 0), (1, .int 0), (0, .ref 164)]) n124_53 rfl rfl ?_
  refine am_e_aload_n n124_54 rfl ?_
  refine am_e_iconst (w := 0) n124_55 rfl ?_
  refine am_e_putf n124_56 rfl rfl ?_
  refine am_e_iconst (w := 0) n124_57 rfl ?_
  refine am_e_istore_n (ls' := [(3, .int 0), (2, .int 0), (1, .int 0), (0, .ref 164)]) n124_58 rfl rfl ?_
  refine am_e_iload_n n124_59 rfl ?_
  refine am_e_aload_n n124_60 rfl ?_
  refine am_e_getf (v := .int 0) n124_61 rfl (f164_14 (h := h) hT) ?_
  refine am_e_cmpF n124_62 (am_c_gtF (by decide)) ?_
  refine am_e_aload_n n124_63 rfl ?_
  refine am_e_iload_n n124_64 rfl ?_
  refine am_e_putf n124_65 rfl rfl ?_
  refine am_e_iload_n n124_66 rfl ?_
  refine am_e_aload_n n124_67 rfl ?_
  refine am_e_callV (L := [(0, .ref 164)]) n124_68 rfl rfl rfl rfl rfl rfl rfl rfl ?_
  refine am_e_iconst (w := 0) n126_0 rfl ?_
  refine am_e_istore_n (ls' := [(1, .int 0), (0, .ref 164)]) n126_1 rfl rfl ?_
  refine am_e_iload_n n126_2 rfl ?_
  refine am_e_aload_n n126_3 rfl ?_
  refine am_e_callV (L := [(0, .ref 164)]) n126_4 rfl rfl rfl rfl rfl rfl rfl rfl ?_
  refine am_e_aload_n n125_0 rfl ?_
  refine am_e_getf (v := .int (-1)) n125_1 rfl (f164_74 (h := h) hT) ?_
  refine am_e_ifF n125_2 (am_c_geF (by decide)) ?_
  refine am_e_aload_n n125_3 rfl ?_
  refine am_e_getf (v := .int 0) n125_4 rfl (f164_73 (h := h) hT) ?_
  refine am_e_goto c125_5 t125_5 ?_
  refine am_e_iret c125_8 rfl rfl rfl ?_
  refine am_e_cmpT n126_5 (am_c_geT (by decide)) t126_5 ?_
  refine am_e_iconst (w := 1) n126_79 rfl ?_
  refine am_e_iret c126_80 rfl rfl rfl ?_
  refine am_e_ifF n124_69 (am_c_eqF (by decide)) ?_
  refine am_e_iconst (w := 1) n124_70 rfl ?_
  refine am_e_iload_n n124_71 rfl ?_
  refine am_e_ishl (w := 1) n124_72 (by decide) ?_
  refine am_e_goto c124_73 t124_73 ?_
  refine am_e_ior (w := 1) n124_75 (by decide) ?_
  refine am_e_istore_n (ls' := [(1, .int 1), (3, .int 0), (2, .int 0), (0, .ref 164)]) n124_76 rfl rfl ?_
  refine am_e_iinc (w := 1) (ls' := [(3, .int 1), (1, .int 1), (2, .int 0), (0, .ref 164)]) n124_77 rfl rfl (by decide) rfl ?_
  refine am_e_goto c124_78 t124_78 ?_
  refine am_e_iload_n n124_59 rfl ?_
  refine am_e_aload_n n124_60 rfl ?_
  refine am_e_getf (v := .int 0) n124_61 rfl (f164_14 (h := h) hT) ?_
  refine am_e_cmpT n124_62 (am_c_gtT (by decide)) t124_62 ?_
  refine am_e_aload_n n124_79 rfl ?_
  refine am_e_iload_n n124_80 rfl ?_
  refine am_e_putf n124_81 rfl rfl ?_
  refine am_e_aload_n n124_82 rfl ?_
  refine am_e_iconst (w := (-1)) n124_83 rfl ?_
  refine am_e_putf n124_84 rfl rfl ?_
  refine am_e_iload_n n124_85 rfl ?_
  refine am_e_iret c124_86 rfl rfl rfl ?_
  refine am_e_cmpT n136_726 (am_c_eqT (by decide)) t136_726 ?_
  exact K _
theorem am_op29 {lk : List Value → List am_k → am_H → Option am_O} {xs : Nat → Int32} {h : am_H} {Q : Option Value → List am_k → am_H → Prop} {a1 : Int32} {a2 : Int32} {a3 : Int32} {a4 : Int32} {a5 : Int32} (hT : am_T h) (hx1 : xs 1 = a1) (hx2 : xs 2 = a2) (hx3 : xs 3 = a3) (hx4 : xs 4 = a4) (hx5 : xs 5 = a5) (K : ∀ h', am_Ek false (am_P1 (some (6, xs)) lk) am_m136 841 [(4, .int 0), (3, .ref 202), (2, .ref 164), (1, .ref 0), (0, .retAddr 0)] [] am_ks0 h' 203 4392 Q) : am_Ek false (am_P1 (some (6, xs)) lk) am_m136 803 [(4, .int 0), (3, .ref 202), (2, .ref 164), (1, .ref 0), (0, .retAddr 0)] [] am_ks0 h 203 4392 Q := by
  refine am_e_aload_n n136_803 rfl ?_
  refine am_e_callV (L := [(0, .ref 0)]) n136_804 rfl rfl rfl rfl rfl rfl rfl rfl ?_
  refine am_e_aload_n n72_0 rfl ?_
  refine am_e_getf (v := .ref 60) n72_1 rfl (f0_9 (h := h) hT) ?_
  refine am_e_aload_n n72_2 rfl ?_
  refine am_e_getf (v := .ref 48) n72_3 rfl (f0_5 (h := h) hT) ?_
  refine am_e_callV (L := [(0, .ref 60), (1, .ref 48)]) n72_4 rfl rfl rfl rfl rfl rfl rfl rfl ?_
  refine am_e_aload_n n73_0 rfl ?_
  refine am_e_getf (v := .int 0) n73_1 rfl (f60_2 (h := h) hT) ?_
  refine am_e_ifF n73_2 (am_c_neF (by decide)) ?_
  refine am_e_iconst (w := 0) n73_3 rfl ?_
  refine am_e_iret c73_4 rfl rfl rfl ?_
  refine am_e_ifT n72_5 (am_c_eqT (by decide)) t72_5 ?_
  refine am_e_iconst (w := (-1)) n72_10 rfl ?_
  refine am_e_iret c72_11 rfl rfl rfl ?_
  refine am_e_aload_n n136_805 rfl ?_
  refine am_e_callV (L := [(0, .ref 164)]) n136_806 rfl rfl rfl rfl rfl rfl rfl rfl ?_
  refine am_e_aload_n n129_0 rfl ?_
  refine am_e_iconst (w := 0) n129_1 rfl ?_
  refine am_e_putf n129_2 rfl rfl ?_
  refine am_e_aload_n n129_3 rfl ?_
  refine am_e_getf (v := .int 0) n129_4 rfl (f164_77 (h := h) hT) ?_
  refine am_e_ifF n129_5 (am_c_neF (by decide)) ?_
  refine am_e_iconst (w := (-1)) n129_6 rfl ?_
  refine am_e_iret c129_7 rfl rfl rfl ?_
  refine am_e_cmpT n136_807 (am_c_eqT (by decide)) t136_807 ?_
  exact K _
theorem am_op30 {lk : List Value → List am_k → am_H → Option am_O} {xs : Nat → Int32} {h : am_H} {Q : Option Value → List am_k → am_H → Prop} {a1 : Int32} {a2 : Int32} {a3 : Int32} {a4 : Int32} {a5 : Int32} (hT : am_T h) (hx1 : xs 1 = a1) (hx2 : xs 2 = a2) (hx3 : xs 3 = a3) (hx4 : xs 4 = a4) (hx5 : xs 5 = a5) (K : ∀ h', am_Ek false (am_P1 (some (6, xs)) lk) am_m136 841 [(4, .int 0), (3, .ref 202), (2, .ref 164), (1, .ref 0), (0, .retAddr 0)] [] am_ks0 h' 203 4392 Q) : am_Ek false (am_P1 (some (6, xs)) lk) am_m136 810 [(4, .int 0), (3, .ref 202), (2, .ref 164), (1, .ref 0), (0, .retAddr 0)] [] am_ks0 h 203 4392 Q := by
  refine am_e_aload_n n136_810 rfl ?_
  refine am_e_callV (L := [(0, .ref 0)]) n136_811 rfl rfl rfl rfl rfl rfl rfl rfl ?_
  refine am_e_aload_n n74_0 rfl ?_
  refine am_e_getf (v := .ref 56) n74_1 rfl (f0_7 (h := h) hT) ?_
  refine am_e_aload_n n74_2 rfl ?_
  refine am_e_getf (v := .ref 48) n74_3 rfl (f0_5 (h := h) hT) ?_
  refine am_e_callV (L := [(0, .ref 56), (1, .ref 48)]) n74_4 rfl rfl rfl rfl rfl rfl rfl rfl ?_
  refine am_e_aload_n n32_0 rfl ?_
  refine am_e_aload_n n32_1 rfl ?_
  refine am_e_getf (v := .int 0) n32_2 rfl (f48_0 (h := h) hT) ?_
  refine am_e_putf n32_3 rfl rfl ?_
  refine am_e_aload_n n32_4 rfl ?_
  refine am_e_aload_n n32_5 rfl ?_
  refine am_e_getf (v := .int 0) n32_6 rfl (f48_1 (h := h) hT) ?_
  refine am_e_putf n32_7 rfl rfl ?_
  refine am_e_aload_n n32_8 rfl ?_
  refine am_e_aload_n n32_9 rfl ?_
  refine am_e_getf (v := .int (-1)) n32_10 rfl (f48_2 (h := h) hT) ?_
  refine am_e_putf n32_11 rfl rfl ?_
  refine am_e_aload_n n32_12 rfl ?_
  refine am_e_aload_n n32_13 rfl ?_
  refine am_e_getf (v := .int 0) n32_14 rfl (f48_3 (h := h) hT) ?_
  refine am_e_putf n32_15 rfl rfl ?_
  refine am_e_aload_n n32_16 rfl ?_
  refine am_e_aload_n n32_17 rfl ?_
  refine am_e_getf (v := .int 0) n32_18 rfl (f48_4 (h := h) hT) ?_
  refine am_e_putf n32_19 rfl rfl ?_
  refine am_e_iconst (w := 0) n32_20 rfl ?_
  refine am_e_istore_n (ls' := [(2, .int 0), (0, .ref 56), (1, .ref 48)]) n32_21 rfl rfl ?_
  refine am_e_iload_n n32_22 rfl ?_
  refine am_e_iconst (w := 4) n32_23 rfl ?_
  refine am_e_cmpF n32_24 (am_c_geF (by decide)) ?_
  refine am_e_aload_n n32_25 rfl ?_
  refine am_e_getf (v := .ref 57) n32_26 rfl (f56_5 (h := h) hT) ?_
  refine am_e_iload_n n32_27 rfl ?_
  refine am_e_aload_n n32_28 rfl ?_
  refine am_e_getf (v := .ref 49) n32_29 rfl (f48_5 (h := h) hT) ?_
  refine am_e_iload_n n32_30 rfl ?_
  refine am_e_iaload (v := 0) (q := 0) n32_31 rfl (by decide) (by decide) (f49_0 (h := h) hT) ?_
  refine am_e_iastore (q := 0) n32_32 rfl (by decide) (by decide) ?_
  refine am_e_aload_n n32_33 rfl ?_
  refine am_e_getf (v := .ref 58) n32_34 rfl (f56_6 (h := h) hT) ?_
  refine am_e_iload_n n32_35 rfl ?_
  refine am_e_aload_n n32_36 rfl ?_
  refine am_e_getf (v := .ref 50) n32_37 rfl (f48_6 (h := h) hT) ?_
  refine am_e_iload_n n32_38 rfl ?_
  refine am_e_iaload (v := 0) (q := 0) n32_39 rfl (by decide) (by decide) (f50_0 (h := h) hT) ?_
  refine am_e_iastore (q := 0) n32_40 rfl (by decide) (by decide) ?_
  refine am_e_aload_n n32_41 rfl ?_
  refine am_e_getf (v := .ref 59) n32_42 rfl (f56_7 (h := h) hT) ?_
  refine am_e_iload_n n32_43 rfl ?_
  refine am_e_aload_n n32_44 rfl ?_
  refine am_e_getf (v := .ref 51) n32_45 rfl (f48_7 (h := h) hT) ?_
  refine am_e_iload_n n32_46 rfl ?_
  refine am_e_iaload (v := 0) (q := 0) n32_47 rfl (by decide) (by decide) (f51_0 (h := h) hT) ?_
  refine am_e_iastore (q := 0) n32_48 rfl (by decide) (by decide) ?_
  refine am_e_iinc (w := 1) (ls' := [(2, .int 1), (0, .ref 56), (1, .ref 48)]) n32_49 rfl rfl (by decide) rfl ?_
  refine am_e_goto c32_50 t32_50 ?_
  refine am_e_iload_n n32_22 rfl ?_
  refine am_e_iconst (w := 4) n32_23 rfl ?_
  refine am_e_cmpF n32_24 (am_c_geF (by decide)) ?_
  refine am_e_aload_n n32_25 rfl ?_
  refine am_e_getf (v := .ref 57) n32_26 rfl (f56_5 (h := h) hT) ?_
  refine am_e_iload_n n32_27 rfl ?_
  refine am_e_aload_n n32_28 rfl ?_
  refine am_e_getf (v := .ref 49) n32_29 rfl (f48_5 (h := h) hT) ?_
  refine am_e_iload_n n32_30 rfl ?_
  refine am_e_iaload (v := 0) (q := 1) n32_31 rfl (by decide) (by decide) (f49_1 (h := h) hT) ?_
  refine am_e_iastore (q := 1) n32_32 rfl (by decide) (by decide) ?_
  refine am_e_aload_n n32_33 rfl ?_
  refine am_e_getf (v := .ref 58) n32_34 rfl (f56_6 (h := h) hT) ?_
  refine am_e_iload_n n32_35 rfl ?_
  refine am_e_aload_n n32_36 rfl ?_
  refine am_e_getf (v := .ref 50) n32_37 rfl (f48_6 (h := h) hT) ?_
  refine am_e_iload_n n32_38 rfl ?_
  refine am_e_iaload (v := 0) (q := 1) n32_39 rfl (by decide) (by decide) (f50_1 (h := h) hT) ?_
  refine am_e_iastore (q := 1) n32_40 rfl (by decide) (by decide) ?_
  refine am_e_aload_n n32_41 rfl ?_
  refine am_e_getf (v := .ref 59) n32_42 rfl (f56_7 (h := h) hT) ?_
  refine am_e_iload_n n32_43 rfl ?_
  refine am_e_aload_n n32_44 rfl ?_
  refine am_e_getf (v := .ref 51) n32_45 rfl (f48_7 (h := h) hT) ?_
  refine am_e_iload_n n32_46 rfl ?_
  refine am_e_iaload (v := 0) (q := 1) n32_47 rfl (by decide) (by decide) (f51_1 (h := h) hT) ?_
  refine am_e_iastore (q := 1) n32_48 rfl (by decide) (by decide) ?_
  refine am_e_iinc (w := 2) (ls' := [(2, .int 2), (0, .ref 56), (1, .ref 48)]) n32_49 rfl rfl (by decide) rfl ?_
  refine am_e_goto c32_50 t32_50 ?_
  refine am_e_iload_n n32_22 rfl ?_
  refine am_e_iconst (w := 4) n32_23 rfl ?_
  refine am_e_cmpF n32_24 (am_c_geF (by decide)) ?_
  refine am_e_aload_n n32_25 rfl ?_
  refine am_e_getf (v := .ref 57) n32_26 rfl (f56_5 (h := h) hT) ?_
  refine am_e_iload_n n32_27 rfl ?_
  refine am_e_aload_n n32_28 rfl ?_
  refine am_e_getf (v := .ref 49) n32_29 rfl (f48_5 (h := h) hT) ?_
  refine am_e_iload_n n32_30 rfl ?_
  refine am_e_iaload (v := 0) (q := 2) n32_31 rfl (by decide) (by decide) (f49_2 (h := h) hT) ?_
  refine am_e_iastore (q := 2) n32_32 rfl (by decide) (by decide) ?_
  refine am_e_aload_n n32_33 rfl ?_
  refine am_e_getf (v := .ref 58) n32_34 rfl (f56_6 (h := h) hT) ?_
  refine am_e_iload_n n32_35 rfl ?_
  refine am_e_aload_n n32_36 rfl ?_
  refine am_e_getf (v := .ref 50) n32_37 rfl (f48_6 (h := h) hT) ?_
  refine am_e_iload_n n32_38 rfl ?_
  refine am_e_iaload (v := 0) (q := 2) n32_39 rfl (by decide) (by decide) (f50_2 (h := h) hT) ?_
  refine am_e_iastore (q := 2) n32_40 rfl (by decide) (by decide) ?_
  refine am_e_aload_n n32_41 rfl ?_
  refine am_e_getf (v := .ref 59) n32_42 rfl (f56_7 (h := h) hT) ?_
  refine am_e_iload_n n32_43 rfl ?_
  refine am_e_aload_n n32_44 rfl ?_
  refine am_e_getf (v := .ref 51) n32_45 rfl (f48_7 (h := h) hT) ?_
  refine am_e_iload_n n32_46 rfl ?_
  refine am_e_iaload (v := 0) (q := 2) n32_47 rfl (by decide) (by decide) (f51_2 (h := h) hT) ?_
  refine am_e_iastore (q := 2) n32_48 rfl (by decide) (by decide) ?_
  refine am_e_iinc (w := 3) (ls' := [(2, .int 3), (0, .ref 56), (1, .ref 48)]) n32_49 rfl rfl (by decide) rfl ?_
  refine am_e_goto c32_50 t32_50 ?_
  refine am_e_iload_n n32_22 rfl ?_
  refine am_e_iconst (w := 4) n32_23 rfl ?_
  refine am_e_cmpF n32_24 (am_c_geF (by decide)) ?_
  refine am_e_aload_n n32_25 rfl ?_
  refine am_e_getf (v := .ref 57) n32_26 rfl (f56_5 (h := h) hT) ?_
  refine am_e_iload_n n32_27 rfl ?_
  refine am_e_aload_n n32_28 rfl ?_
  refine am_e_getf (v := .ref 49) n32_29 rfl (f48_5 (h := h) hT) ?_
  refine am_e_iload_n n32_30 rfl ?_
  refine am_e_iaload (v := 0) (q := 3) n32_31 rfl (by decide) (by decide) (f49_3 (h := h) hT) ?_
  refine am_e_iastore (q := 3) n32_32 rfl (by decide) (by decide) ?_
  refine am_e_aload_n n32_33 rfl ?_
  refine am_e_getf (v := .ref 58) n32_34 rfl (f56_6 (h := h) hT) ?_
  refine am_e_iload_n n32_35 rfl ?_
  refine am_e_aload_n n32_36 rfl ?_
  refine am_e_getf (v := .ref 50) n32_37 rfl (f48_6 (h := h) hT) ?_
  refine am_e_iload_n n32_38 rfl ?_
  refine am_e_iaload (v := 0) (q := 3) n32_39 rfl (by decide) (by decide) (f50_3 (h := h) hT) ?_
  refine am_e_iastore (q := 3) n32_40 rfl (by decide) (by decide) ?_
  refine am_e_aload_n n32_41 rfl ?_
  refine am_e_getf (v := .ref 59) n32_42 rfl (f56_7 (h := h) hT) ?_
  refine am_e_iload_n n32_43 rfl ?_
  refine am_e_aload_n n32_44 rfl ?_
  refine am_e_getf (v := .ref 51) n32_45 rfl (f48_7 (h := h) hT) ?_
  refine am_e_iload_n n32_46 rfl ?_
  refine am_e_iaload (v := 0) (q := 3) n32_47 rfl (by decide) (by decide) (f51_3 (h := h) hT) ?_
  refine am_e_iastore (q := 3) n32_48 rfl (by decide) (by decide) ?_
  refine am_e_iinc (w := 4) (ls' := [(2, .int 4), (0, .ref 56), (1, .ref 48)]) n32_49 rfl rfl (by decide) rfl ?_
  refine am_e_goto c32_50 t32_50 ?_
  refine am_e_iload_n n32_22 rfl ?_
  refine am_e_iconst (w := 4) n32_23 rfl ?_
  refine am_e_cmpT n32_24 (am_c_geT (by decide)) t32_24 ?_
  refine am_e_vret c32_51 rfl rfl ?_
  refine am_e_aload_n n74_5 rfl ?_
  refine am_e_iconst (w := 1) n74_6 rfl ?_
  refine am_e_putf n74_7 rfl rfl ?_
  refine am_e_aload_n n74_8 rfl ?_
  refine am_e_getf (v := .ref 48) n74_9 rfl (f0_5 (h := h) hT) ?_
  refine am_e_getf (v := .int 0) n74_10 rfl (f48_1 (h := h) hT) ?_
  refine am_e_iret c74_11 rfl rfl rfl ?_
  refine am_e_aload_n n136_812 rfl ?_
  refine am_e_callV (L := [(0, .ref 164)]) n136_813 rfl rfl rfl rfl rfl rfl rfl rfl ?_
  refine am_e_aload_n n130_0 rfl ?_
  refine am_e_iconst (w := 0) n130_1 rfl ?_
  refine am_e_putf n130_2 rfl rfl ?_
  refine am_e_aload_n n130_3 rfl ?_
  refine am_e_iconst (w := 1) n130_4 rfl ?_
  refine am_e_putf n130_5 rfl rfl ?_
  refine am_e_aload_n n130_6 rfl ?_
  refine am_e_aload_n n130_7 rfl ?_
  refine am_e_getf (v := .ref 201) n130_8 rfl (f164_80 (h := h) hT) ?_
  refine am_e_iconst (w := 0) n130_9 rfl ?_
  refine am_e_callV (L := [(0, .ref 164), (1, .ref 201), (2, .int 0)]) n130_10 rfl rfl rfl rfl rfl rfl rfl rfl ?_
  refine am_e_aload_n n102_0 rfl ?_
  refine am_e_iload_n n102_1 rfl ?_
  refine am_e_aload_n n102_2 rfl ?_
  refine am_e_getf (v := .ref 188) n102_3 rfl (f164_50 (h := h) hT) ?_
  refine am_e_iconst (w := 0) n102_4 rfl ?_
  refine am_e_iaload (v := 0) (q := 0) n102_5 rfl (by decide) (by decide) (f188_0 (h := h) hT) ?_
  refine am_e_iastore (q := 0) n102_6 rfl (by decide) (by decide) ?_
  refine am_e_aload_n n102_7 rfl ?_
  refine am_e_iload_n n102_8 rfl ?_
  refine am_e_iconst (w := 1) n102_9 rfl ?_
  refine am_e_iadd (w := 1) n102_10 (by decide) ?_
  refine am_e_aload_n n102_11 rfl ?_
  refine am_e_getf (v := .ref 189) n102_12 rfl (f164_51 (h := h) hT) ?_
  refine am_e_iconst (w := 0) n102_13 rfl ?_
  refine am_e_iaload (v := 0) (q := 0) n102_14 rfl (by decide) (by decide) (f189_0 (h := h) hT) ?_
  refine am_e_iastore (q := 1) n102_15 rfl (by decide) (by decide) ?_
  refine am_e_aload_n n102_16 rfl ?_
  refine am_e_iload_n n102_17 rfl ?_
  refine am_e_iconst (w := 2) n102_18 rfl ?_
  refine am_e_iadd (w := 2) n102_19 (by decide) ?_
  refine am_e_aload_n n102_20 rfl ?_
  refine am_e_getf (v := .ref 190) n102_21 rfl (f164_52 (h := h) hT) ?_
  refine am_e_iconst (w := 0) n102_22 rfl ?_
  refine am_e_iaload (v := (-1)) (q := 0) n102_23 rfl (by decide) (by decide) (f190_0 (h := h) hT) ?_
  refine am_e_iastore (q := 2) n102_24 rfl (by decide) (by decide) ?_
  refine am_e_aload_n n102_25 rfl ?_
  refine am_e_iload_n n102_26 rfl ?_
  refine am_e_iconst (w := 3) n102_27 rfl ?_
  refine am_e_iadd (w := 3) n102_28 (by decide) ?_
  refine am_e_aload_n n102_29 rfl ?_
  refine am_e_getf (v := .ref 194) n102_30 rfl (f164_56 (h := h) hT) ?_
  refine am_e_iconst (w := 0) n102_31 rfl ?_
  refine am_e_iaload (v := 0) (q := 0) n102_32 rfl (by decide) (by decide) (f194_0 (h := h) hT) ?_
  refine am_e_iastore (q := 3) n102_33 rfl (by decide) (by decide) ?_
  refine am_e_aload_n n102_34 rfl ?_
  refine am_e_iload_n n102_35 rfl ?_
  refine am_e_iconst (w := 4) n102_36 rfl ?_
  refine am_e_iadd (w := 4) n102_37 (by decide) ?_
  refine am_e_aload_n n102_38 rfl ?_
  refine am_e_getf (v := .int 0) n102_39 rfl (f164_57 (h := h) hT) ?_
  refine am_e_iastore (q := 4) n102_40 rfl (by decide) (by decide) ?_
  refine am_e_iconst (w := 0) n102_41 rfl ?_
  refine am_e_istore_n (ls' := [(3, .int 0), (0, .ref 164), (1, .ref 201), (2, .int 0)]) n102_42 rfl rfl ?_
  refine am_e_iload_n n102_43 rfl ?_
  refine am_e_iconst (w := 4) n102_44 rfl ?_
  refine am_e_cmpF n102_45 (am_c_geF (by decide)) ?_
  refine am_e_aload_n n102_46 rfl ?_
  refine am_e_iload_n n102_47 rfl ?_
  refine am_e_iconst (w := 5) n102_48 rfl ?_
  refine am_e_iadd (w := 5) n102_49 (by decide) ?_
  refine am_e_iload_n n102_50 rfl ?_
  refine am_e_iadd (w := 5) n102_51 (by decide) ?_
  refine am_e_aload_n n102_52 rfl ?_
  refine am_e_getf (v := .ref 191) n102_53 rfl (f164_53 (h := h) hT) ?_
  refine am_e_iload_n n102_54 rfl ?_
  refine am_e_iaload (v := 0) (q := 0) n102_55 rfl (by decide) (by decide) (f191_0 (h := h) hT) ?_
  refine am_e_iastore (q := 5) n102_56 rfl (by decide) (by decide) ?_
  refine am_e_aload_n n102_57 rfl ?_
  refine am_e_iload_n n102_58 rfl ?_
  refine am_e_bipush (w := 9) n102_59 (by decide) ?_
  refine am_e_iadd (w := 9) n102_60 (by decide) ?_
  refine am_e_iload_n n102_61 rfl ?_
  refine am_e_iadd (w := 9) n102_62 (by decide) ?_
  refine am_e_aload_n n102_63 rfl ?_
  refine am_e_getf (v := .ref 192) n102_64 rfl (f164_54 (h := h) hT) ?_
  refine am_e_iload_n n102_65 rfl ?_
  refine am_e_iaload (v := 0) (q := 0) n102_66 rfl (by decide) (by decide) (f192_0 (h := h) hT) ?_
  refine am_e_iastore (q := 9) n102_67 rfl (by decide) (by decide) ?_
  refine am_e_aload_n n102_68 rfl ?_
  refine am_e_iload_n n102_69 rfl ?_
  refine am_e_bipush (w := 13) n102_70 (by decide) ?_
  refine am_e_iadd (w := 13) n102_71 (by decide) ?_
  refine am_e_iload_n n102_72 rfl ?_
  refine am_e_iadd (w := 13) n102_73 (by decide) ?_
  refine am_e_aload_n n102_74 rfl ?_
  refine am_e_getf (v := .ref 193) n102_75 rfl (f164_55 (h := h) hT) ?_
  refine am_e_iload_n n102_76 rfl ?_
  refine am_e_iaload (v := 0) (q := 0) n102_77 rfl (by decide) (by decide) (f193_0 (h := h) hT) ?_
  refine am_e_iastore (q := 13) n102_78 rfl (by decide) (by decide) ?_
  refine am_e_iinc (w := 1) (ls' := [(3, .int 1), (0, .ref 164), (1, .ref 201), (2, .int 0)]) n102_79 rfl rfl (by decide) rfl ?_
  refine am_e_goto c102_80 t102_80 ?_
  refine am_e_iload_n n102_43 rfl ?_
  refine am_e_iconst (w := 4) n102_44 rfl ?_
  refine am_e_cmpF n102_45 (am_c_geF (by decide)) ?_
  refine am_e_aload_n n102_46 rfl ?_
  refine am_e_iload_n n102_47 rfl ?_
  refine am_e_iconst (w := 5) n102_48 rfl ?_
  refine am_e_iadd (w := 5) n102_49 (by decide) ?_
  refine am_e_iload_n n102_50 rfl ?_
  refine am_e_iadd (w := 6) n102_51 (by decide) ?_
  refine am_e_aload_n n102_52 rfl ?_
  refine am_e_getf (v := .ref 191) n102_53 rfl (f164_53 (h := h) hT) ?_
  refine am_e_iload_n n102_54 rfl ?_
  refine am_e_iaload (v := 0) (q := 1) n102_55 rfl (by decide) (by decide) (f191_1 (h := h) hT) ?_
  refine am_e_iastore (q := 6) n102_56 rfl (by decide) (by decide) ?_
  refine am_e_aload_n n102_57 rfl ?_
  refine am_e_iload_n n102_58 rfl ?_
  refine am_e_bipush (w := 9) n102_59 (by decide) ?_
  refine am_e_iadd (w := 9) n102_60 (by decide) ?_
  refine am_e_iload_n n102_61 rfl ?_
  refine am_e_iadd (w := 10) n102_62 (by decide) ?_
  refine am_e_aload_n n102_63 rfl ?_
  refine am_e_getf (v := .ref 192) n102_64 rfl (f164_54 (h := h) hT) ?_
  refine am_e_iload_n n102_65 rfl ?_
  refine am_e_iaload (v := 0) (q := 1) n102_66 rfl (by decide) (by decide) (f192_1 (h := h) hT) ?_
  refine am_e_iastore (q := 10) n102_67 rfl (by decide) (by decide) ?_
  refine am_e_aload_n n102_68 rfl ?_
  refine am_e_iload_n n102_69 rfl ?_
  refine am_e_bipush (w := 13) n102_70 (by decide) ?_
  refine am_e_iadd (w := 13) n102_71 (by decide) ?_
  refine am_e_iload_n n102_72 rfl ?_
  refine am_e_iadd (w := 14) n102_73 (by decide) ?_
  refine am_e_aload_n n102_74 rfl ?_
  refine am_e_getf (v := .ref 193) n102_75 rfl (f164_55 (h := h) hT) ?_
  refine am_e_iload_n n102_76 rfl ?_
  refine am_e_iaload (v := 0) (q := 1) n102_77 rfl (by decide) (by decide) (f193_1 (h := h) hT) ?_
  refine am_e_iastore (q := 14) n102_78 rfl (by decide) (by decide) ?_
  refine am_e_iinc (w := 2) (ls' := [(3, .int 2), (0, .ref 164), (1, .ref 201), (2, .int 0)]) n102_79 rfl rfl (by decide) rfl ?_
  refine am_e_goto c102_80 t102_80 ?_
  refine am_e_iload_n n102_43 rfl ?_
  refine am_e_iconst (w := 4) n102_44 rfl ?_
  refine am_e_cmpF n102_45 (am_c_geF (by decide)) ?_
  refine am_e_aload_n n102_46 rfl ?_
  refine am_e_iload_n n102_47 rfl ?_
  refine am_e_iconst (w := 5) n102_48 rfl ?_
  refine am_e_iadd (w := 5) n102_49 (by decide) ?_
  refine am_e_iload_n n102_50 rfl ?_
  refine am_e_iadd (w := 7) n102_51 (by decide) ?_
  refine am_e_aload_n n102_52 rfl ?_
  refine am_e_getf (v := .ref 191) n102_53 rfl (f164_53 (h := h) hT) ?_
  refine am_e_iload_n n102_54 rfl ?_
  refine am_e_iaload (v := 0) (q := 2) n102_55 rfl (by decide) (by decide) (f191_2 (h := h) hT) ?_
  refine am_e_iastore (q := 7) n102_56 rfl (by decide) (by decide) ?_
  refine am_e_aload_n n102_57 rfl ?_
  refine am_e_iload_n n102_58 rfl ?_
  refine am_e_bipush (w := 9) n102_59 (by decide) ?_
  refine am_e_iadd (w := 9) n102_60 (by decide) ?_
  refine am_e_iload_n n102_61 rfl ?_
  refine am_e_iadd (w := 11) n102_62 (by decide) ?_
  refine am_e_aload_n n102_63 rfl ?_
  refine am_e_getf (v := .ref 192) n102_64 rfl (f164_54 (h := h) hT) ?_
  refine am_e_iload_n n102_65 rfl ?_
  refine am_e_iaload (v := 0) (q := 2) n102_66 rfl (by decide) (by decide) (f192_2 (h := h) hT) ?_
  refine am_e_iastore (q := 11) n102_67 rfl (by decide) (by decide) ?_
  refine am_e_aload_n n102_68 rfl ?_
  refine am_e_iload_n n102_69 rfl ?_
  refine am_e_bipush (w := 13) n102_70 (by decide) ?_
  refine am_e_iadd (w := 13) n102_71 (by decide) ?_
  refine am_e_iload_n n102_72 rfl ?_
  refine am_e_iadd (w := 15) n102_73 (by decide) ?_
  refine am_e_aload_n n102_74 rfl ?_
  refine am_e_getf (v := .ref 193) n102_75 rfl (f164_55 (h := h) hT) ?_
  refine am_e_iload_n n102_76 rfl ?_
  refine am_e_iaload (v := 0) (q := 2) n102_77 rfl (by decide) (by decide) (f193_2 (h := h) hT) ?_
  refine am_e_iastore (q := 15) n102_78 rfl (by decide) (by decide) ?_
  refine am_e_iinc (w := 3) (ls' := [(3, .int 3), (0, .ref 164), (1, .ref 201), (2, .int 0)]) n102_79 rfl rfl (by decide) rfl ?_
  refine am_e_goto c102_80 t102_80 ?_
  refine am_e_iload_n n102_43 rfl ?_
  refine am_e_iconst (w := 4) n102_44 rfl ?_
  refine am_e_cmpF n102_45 (am_c_geF (by decide)) ?_
  refine am_e_aload_n n102_46 rfl ?_
  refine am_e_iload_n n102_47 rfl ?_
  refine am_e_iconst (w := 5) n102_48 rfl ?_
  refine am_e_iadd (w := 5) n102_49 (by decide) ?_
  refine am_e_iload_n n102_50 rfl ?_
  refine am_e_iadd (w := 8) n102_51 (by decide) ?_
  refine am_e_aload_n n102_52 rfl ?_
  refine am_e_getf (v := .ref 191) n102_53 rfl (f164_53 (h := h) hT) ?_
  refine am_e_iload_n n102_54 rfl ?_
  refine am_e_iaload (v := 0) (q := 3) n102_55 rfl (by decide) (by decide) (f191_3 (h := h) hT) ?_
  refine am_e_iastore (q := 8) n102_56 rfl (by decide) (by decide) ?_
  refine am_e_aload_n n102_57 rfl ?_
  refine am_e_iload_n n102_58 rfl ?_
  refine am_e_bipush (w := 9) n102_59 (by decide) ?_
  refine am_e_iadd (w := 9) n102_60 (by decide) ?_
  refine am_e_iload_n n102_61 rfl ?_
  refine am_e_iadd (w := 12) n102_62 (by decide) ?_
  refine am_e_aload_n n102_63 rfl ?_
  refine am_e_getf (v := .ref 192) n102_64 rfl (f164_54 (h := h) hT) ?_
  refine am_e_iload_n n102_65 rfl ?_
  refine am_e_iaload (v := 0) (q := 3) n102_66 rfl (by decide) (by decide) (f192_3 (h := h) hT) ?_
  refine am_e_iastore (q := 12) n102_67 rfl (by decide) (by decide) ?_
  refine am_e_aload_n n102_68 rfl ?_
  refine am_e_iload_n n102_69 rfl ?_
  refine am_e_bipush (w := 13) n102_70 (by decide) ?_
  refine am_e_iadd (w := 13) n102_71 (by decide) ?_
  refine am_e_iload_n n102_72 rfl ?_
  refine am_e_iadd (w := 16) n102_73 (by decide) ?_
  refine am_e_aload_n n102_74 rfl ?_
  refine am_e_getf (v := .ref 193) n102_75 rfl (f164_55 (h := h) hT) ?_
  refine am_e_iload_n n102_76 rfl ?_
  refine am_e_iaload (v := 0) (q := 3) n102_77 rfl (by decide) (by decide) (f193_3 (h := h) hT) ?_
  refine am_e_iastore (q := 16) n102_78 rfl (by decide) (by decide) ?_
  refine am_e_iinc (w := 4) (ls' := [(3, .int 4), (0, .ref 164), (1, .ref 201), (2, .int 0)]) n102_79 rfl rfl (by decide) rfl ?_
  refine am_e_goto c102_80 t102_80 ?_
  refine am_e_iload_n n102_43 rfl ?_
  refine am_e_iconst (w := 4) n102_44 rfl ?_
  refine am_e_cmpT n102_45 (am_c_geT (by decide)) t102_45 ?_
  refine am_e_vret c102_81 rfl rfl ?_
  refine am_e_aload_n n130_11 rfl ?_
  refine am_e_getf (v := .ref 189) n130_12 rfl (f164_51 (h := h) hT) ?_
  refine am_e_iconst (w := 0) n130_13 rfl ?_
  refine am_e_iaload (v := 0) (q := 0) n130_14 rfl (by decide) (by decide) (f189_0 (h := h) hT) ?_
  refine am_e_iret c130_15 rfl rfl rfl ?_
  refine am_e_cmpT n136_814 (am_c_eqT (by decide)) t136_814 ?_
  exact K _
theorem am_op31 {lk : List Value → List am_k → am_H → Option am_O} {xs : Nat → Int32} {h : am_H} {Q : Option Value → List am_k → am_H → Prop} {a1 : Int32} {a2 : Int32} {a3 : Int32} {a4 : Int32} {a5 : Int32} (hT : am_T h) (hx1 : xs 1 = a1) (hx2 : xs 2 = a2) (hx3 : xs 3 = a3) (hx4 : xs 4 = a4) (hx5 : xs 5 = a5) (K : ∀ h', am_Ek false (am_P1 (some (6, xs)) lk) am_m136 841 [(4, .int 0), (3, .ref 202), (2, .ref 164), (1, .ref 0), (0, .retAddr 0)] [] am_ks0 h' 203 4392 Q) : am_Ek false (am_P1 (some (6, xs)) lk) am_m136 817 [(4, .int 0), (3, .ref 202), (2, .ref 164), (1, .ref 0), (0, .retAddr 0)] [] am_ks0 h 203 4392 Q := by
  refine am_e_aload_n n136_817 rfl ?_
  refine am_e_callV (L := [(0, .ref 0)]) n136_818 rfl rfl rfl rfl rfl rfl rfl rfl ?_
  refine am_e_aload_n n75_0 rfl ?_
  refine am_e_getf (v := .int 0) n75_1 rfl (f0_8 (h := h) hT) ?_
  refine am_e_ifF n75_2 (am_c_neF (by decide)) ?_
  refine am_e_iconst (w := (-1)) n75_3 rfl ?_
  refine am_e_iret c75_4 rfl rfl rfl ?_
  refine am_e_aload_n n136_819 rfl ?_
  refine am_e_callV (L := [(0, .ref 164)]) n136_820 rfl rfl rfl rfl rfl rfl rfl rfl ?_
  refine am_e_aload_n n131_0 rfl ?_
  refine am_e_iconst (w := 0) n131_1 rfl ?_
  refine am_e_putf n131_2 rfl rfl ?_
  refine am_e_aload_n n131_3 rfl ?_
  refine am_e_getf (v := .int 0) n131_4 rfl (f164_79 (h := h) hT) ?_
  refine am_e_ifF n131_5 (am_c_neF (by decide)) ?_
  refine am_e_iconst (w := (-1)) n131_6 rfl ?_
  refine am_e_iret c131_7 rfl rfl rfl ?_
  refine am_e_cmpT n136_821 (am_c_eqT (by decide)) t136_821 ?_
  exact K _
theorem am_op5_0 {lk : List Value → List am_k → am_H → Option am_O} {xs : Nat → Int32} {h : am_H} {Q : Option Value → List am_k → am_H → Prop} {a2 : Int32} {a3 : Int32} {a4 : Int32} {a5 : Int32} (hT : am_T h) (hx1 : xs 1 = 0) (hx2 : xs 2 = a2) (hx3 : xs 3 = a3) (hx4 : xs 4 = a4) (hx5 : xs 5 = a5) (K : ∀ h', am_Ek false (am_P1 (some (6, xs)) lk) am_m136 841 [(4, .int 0), (3, .ref 202), (2, .ref 164), (1, .ref 0), (0, .retAddr 0)] [] am_ks0 h' 203 4392 Q) : am_Ek false (am_P1 (some (6, xs)) lk) am_m136 188 [(4, .int 0), (3, .ref 202), (2, .ref 164), (1, .ref 0), (0, .retAddr 0)] [] am_ks0 h 203 4392 Q := by
  refine am_e_aload_n n136_188 rfl ?_
  refine am_e_sload_n n136_189 rfl ?_
  refine am_e_iload n136_190 rfl ?_
  refine am_e_iconst (w := 1) n136_191 rfl ?_
  refine am_e_iadd (w := 1) n136_192 (by decide) ?_
  refine am_e_sald1 n136_193 rfl (by decide) (by decide) hx1 ?_
  refine am_e_sload_n n136_194 rfl ?_
  refine am_e_iload n136_195 rfl ?_
  refine am_e_iconst (w := 2) n136_196 rfl ?_
  refine am_e_iadd (w := 2) n136_197 (by decide) ?_
  refine am_e_sald1 n136_198 rfl (by decide) (by decide) hx2 ?_
  refine am_e_callV (L := [(0, .ref 0), (1, .int 0), (2, .int a2)]) n136_199 rfl rfl rfl rfl rfl rfl rfl rfl ?_
  refine am_e_iload_n n29_0 rfl ?_
  refine am_e_ifF n29_1 (am_c_neF (by decide)) ?_
  refine am_e_iload_n n29_2 rfl ?_
  refine am_e_iconst (w := 0) n29_3 rfl ?_
  refine am_e_iconst (w := 1) n29_4 rfl ?_
  refine am_e_callS (L := [(0, .int a2), (1, .int 0), (2, .int 1)]) n29_5 rfl rfl rfl rfl rfl rfl rfl ?_
  refine am_e_iload_n n30_0 rfl ?_
  refine am_e_iload_n n30_1 rfl ?_
  by_cases hb1 : (a2 : Int32) < 0
  · refine am_e_cmpT n30_2 (am_c_ltT hb1) t30_2 ?_
    refine am_e_iconst (w := 0) n30_8 rfl ?_
    refine am_e_iret c30_9 rfl rfl rfl ?_
    refine am_e_ifF n29_6 (am_c_neF (by decide)) ?_
    refine am_e_iload_n n29_7 rfl ?_
    refine am_e_iconst (w := 1) n29_8 rfl ?_
    refine am_e_cmpT n29_9 (am_c_neT (by decide)) t29_9 ?_
    refine am_e_iload_n n29_15 rfl ?_
    refine am_e_iconst (w := 2) n29_16 rfl ?_
    refine am_e_cmpT n29_17 (am_c_neT (by decide)) t29_17 ?_
    refine am_e_iconst (w := 0) n29_20 rfl ?_
    refine am_e_istore_n (ls' := [(3, .int 0), (0, .ref 0), (1, .int 0), (2, .int a2)]) n29_21 rfl rfl ?_
    refine am_e_iload_n n29_22 rfl ?_
    refine am_e_ifF n29_23 (am_c_neF (by decide)) ?_
    refine am_e_ldc2 (w := (-9223372036854775808)) n29_24 (by decide) ?_
    refine am_e_lret c29_25 rfl rfl ?_
    refine am_e_aload_n n136_200 rfl ?_
    refine am_e_sload_n n136_201 rfl ?_
    refine am_e_iload n136_202 rfl ?_
    refine am_e_iconst (w := 1) n136_203 rfl ?_
    refine am_e_iadd (w := 1) n136_204 (by decide) ?_
    refine am_e_sald1 n136_205 rfl (by decide) (by decide) hx1 ?_
    refine am_e_sload_n n136_206 rfl ?_
    refine am_e_iload n136_207 rfl ?_
    refine am_e_iconst (w := 2) n136_208 rfl ?_
    refine am_e_iadd (w := 2) n136_209 (by decide) ?_
    refine am_e_sald1 n136_210 rfl (by decide) (by decide) hx2 ?_
    refine am_e_callV (L := [(0, .ref 164), (1, .int 0), (2, .int a2)]) n136_211 rfl rfl rfl rfl rfl rfl rfl rfl ?_
    refine am_e_aload_n n92_0 rfl ?_
    refine am_e_iconst (w := 0) n92_1 rfl ?_
    refine am_e_putf n92_2 rfl rfl ?_
    refine am_e_iload_n n92_3 rfl ?_
    refine am_e_iconst (w := 0) n92_4 rfl ?_
    refine am_e_iconst (w := 2) n92_5 rfl ?_
    refine am_e_callS (L := [(0, .int 0), (1, .int 0), (2, .int 2)]) n92_6 rfl rfl rfl rfl rfl rfl rfl ?_
    refine am_e_iload_n n87_0 rfl ?_
    refine am_e_iload_n n87_1 rfl ?_
    refine am_e_cmpF n87_2 (am_c_ltF (by decide)) ?_
    refine am_e_iload_n n87_3 rfl ?_
    refine am_e_iload_n n87_4 rfl ?_
    refine am_e_cmpF n87_5 (am_c_gtF (by decide)) ?_
    refine am_e_iconst (w := 1) n87_6 rfl ?_
    refine am_e_goto c87_7 t87_7 ?_
    refine am_e_iret c87_9 rfl rfl rfl ?_
    refine am_e_ifF n92_7 (am_c_eqF (by decide)) ?_
    refine am_e_iload_n n92_8 rfl ?_
    refine am_e_ifF n92_9 (am_c_neF (by decide)) ?_
    refine am_e_iload_n n92_10 rfl ?_
    refine am_e_iconst (w := 0) n92_11 rfl ?_
    refine am_e_iconst (w := 1) n92_12 rfl ?_
    refine am_e_callS (L := [(0, .int a2), (1, .int 0), (2, .int 1)]) n92_13 rfl rfl rfl rfl rfl rfl rfl ?_
    refine am_e_iload_n n87_0 rfl ?_
    refine am_e_iload_n n87_1 rfl ?_
    refine am_e_cmpT n87_2 (am_c_ltT hb1) t87_2 ?_
    refine am_e_iconst (w := 0) n87_8 rfl ?_
    refine am_e_iret c87_9 rfl rfl rfl ?_
    refine am_e_ifT n92_14 (am_c_eqT (by decide)) t92_14 ?_
    refine am_e_ldc2 (w := (-9223372036854775808)) n92_23 (by decide) ?_
    refine am_e_lret c92_24 rfl rfl ?_
    refine am_e_lcmp (w := 0) n136_212 (by decide) ?_
    refine am_e_ifT n136_213 (am_c_eqT (by decide)) t136_213 ?_
    exact K _
  · refine am_e_cmpF n30_2 (am_c_ltF hb1) ?_
    refine am_e_iload_n n30_3 rfl ?_
    refine am_e_iload_n n30_4 rfl ?_
    by_cases hb2 : (1 : Int32) < a2
    · refine am_e_cmpT n30_5 (am_c_gtT hb2) t30_5 ?_
      refine am_e_iconst (w := 0) n30_8 rfl ?_
      refine am_e_iret c30_9 rfl rfl rfl ?_
      refine am_e_ifF n29_6 (am_c_neF (by decide)) ?_
      refine am_e_iload_n n29_7 rfl ?_
      refine am_e_iconst (w := 1) n29_8 rfl ?_
      refine am_e_cmpT n29_9 (am_c_neT (by decide)) t29_9 ?_
      refine am_e_iload_n n29_15 rfl ?_
      refine am_e_iconst (w := 2) n29_16 rfl ?_
      refine am_e_cmpT n29_17 (am_c_neT (by decide)) t29_17 ?_
      refine am_e_iconst (w := 0) n29_20 rfl ?_
      refine am_e_istore_n (ls' := [(3, .int 0), (0, .ref 0), (1, .int 0), (2, .int a2)]) n29_21 rfl rfl ?_
      refine am_e_iload_n n29_22 rfl ?_
      refine am_e_ifF n29_23 (am_c_neF (by decide)) ?_
      refine am_e_ldc2 (w := (-9223372036854775808)) n29_24 (by decide) ?_
      refine am_e_lret c29_25 rfl rfl ?_
      refine am_e_aload_n n136_200 rfl ?_
      refine am_e_sload_n n136_201 rfl ?_
      refine am_e_iload n136_202 rfl ?_
      refine am_e_iconst (w := 1) n136_203 rfl ?_
      refine am_e_iadd (w := 1) n136_204 (by decide) ?_
      refine am_e_sald1 n136_205 rfl (by decide) (by decide) hx1 ?_
      refine am_e_sload_n n136_206 rfl ?_
      refine am_e_iload n136_207 rfl ?_
      refine am_e_iconst (w := 2) n136_208 rfl ?_
      refine am_e_iadd (w := 2) n136_209 (by decide) ?_
      refine am_e_sald1 n136_210 rfl (by decide) (by decide) hx2 ?_
      refine am_e_callV (L := [(0, .ref 164), (1, .int 0), (2, .int a2)]) n136_211 rfl rfl rfl rfl rfl rfl rfl rfl ?_
      refine am_e_aload_n n92_0 rfl ?_
      refine am_e_iconst (w := 0) n92_1 rfl ?_
      refine am_e_putf n92_2 rfl rfl ?_
      refine am_e_iload_n n92_3 rfl ?_
      refine am_e_iconst (w := 0) n92_4 rfl ?_
      refine am_e_iconst (w := 2) n92_5 rfl ?_
      refine am_e_callS (L := [(0, .int 0), (1, .int 0), (2, .int 2)]) n92_6 rfl rfl rfl rfl rfl rfl rfl ?_
      refine am_e_iload_n n87_0 rfl ?_
      refine am_e_iload_n n87_1 rfl ?_
      refine am_e_cmpF n87_2 (am_c_ltF (by decide)) ?_
      refine am_e_iload_n n87_3 rfl ?_
      refine am_e_iload_n n87_4 rfl ?_
      refine am_e_cmpF n87_5 (am_c_gtF (by decide)) ?_
      refine am_e_iconst (w := 1) n87_6 rfl ?_
      refine am_e_goto c87_7 t87_7 ?_
      refine am_e_iret c87_9 rfl rfl rfl ?_
      refine am_e_ifF n92_7 (am_c_eqF (by decide)) ?_
      refine am_e_iload_n n92_8 rfl ?_
      refine am_e_ifF n92_9 (am_c_neF (by decide)) ?_
      refine am_e_iload_n n92_10 rfl ?_
      refine am_e_iconst (w := 0) n92_11 rfl ?_
      refine am_e_iconst (w := 1) n92_12 rfl ?_
      refine am_e_callS (L := [(0, .int a2), (1, .int 0), (2, .int 1)]) n92_13 rfl rfl rfl rfl rfl rfl rfl ?_
      refine am_e_iload_n n87_0 rfl ?_
      refine am_e_iload_n n87_1 rfl ?_
      refine am_e_cmpF n87_2 (am_c_ltF hb1) ?_
      refine am_e_iload_n n87_3 rfl ?_
      refine am_e_iload_n n87_4 rfl ?_
      refine am_e_cmpT n87_5 (am_c_gtT hb2) t87_5 ?_
      refine am_e_iconst (w := 0) n87_8 rfl ?_
      refine am_e_iret c87_9 rfl rfl rfl ?_
      refine am_e_ifT n92_14 (am_c_eqT (by decide)) t92_14 ?_
      refine am_e_ldc2 (w := (-9223372036854775808)) n92_23 (by decide) ?_
      refine am_e_lret c92_24 rfl rfl ?_
      refine am_e_lcmp (w := 0) n136_212 (by decide) ?_
      refine am_e_ifT n136_213 (am_c_eqT (by decide)) t136_213 ?_
      exact K _
    · refine am_e_cmpF n30_5 (am_c_gtF hb2) ?_
      refine am_e_iconst (w := 1) n30_6 rfl ?_
      refine am_e_goto c30_7 t30_7 ?_
      refine am_e_iret c30_9 rfl rfl rfl ?_
      refine am_e_ifT n29_6 (am_c_neT (by decide)) t29_6 ?_
      refine am_e_iconst (w := 1) n29_18 rfl ?_
      refine am_e_goto c29_19 t29_19 ?_
      refine am_e_istore_n (ls' := [(3, .int 1), (0, .ref 0), (1, .int 0), (2, .int a2)]) n29_21 rfl rfl ?_
      refine am_e_iload_n n29_22 rfl ?_
      refine am_e_ifT n29_23 (am_c_neT (by decide)) t29_23 ?_
      refine am_e_aload_n n29_26 rfl ?_
      refine am_e_getf (v := .ref 148) n29_27 rfl (f0_11 (h := h) hT) ?_
      refine am_e_aload_n n29_28 rfl ?_
      refine am_e_getf (v := .ref 2) n29_29 rfl (f0_2 (h := h) hT) ?_
      refine am_e_aload_n n29_30 rfl ?_
      refine am_e_getf (v := .ref 48) n29_31 rfl (f0_5 (h := h) hT) ?_
      refine am_e_callV (L := [(0, .ref 148), (1, .ref 2), (2, .ref 48)]) n29_32 rfl rfl rfl rfl rfl rfl rfl rfl ?_
      refine am_e_aload_n n31_0 rfl ?_
      refine am_e_aload_n n31_1 rfl ?_
      refine am_e_putf n31_2 rfl rfl ?_
      refine am_e_aload_n n31_3 rfl ?_
      refine am_e_getf (v := .ref 149) n31_4 rfl (f148_1 (h := h) hT) ?_
      refine am_e_aload_n n31_5 rfl ?_
      refine am_e_callV (L := [(0, .ref 149), (1, .ref 48)]) n31_6 rfl rfl rfl rfl rfl rfl rfl rfl ?_
      refine am_e_aload_n n32_0 rfl ?_
      refine am_e_aload_n n32_1 rfl ?_
      refine am_e_getf (v := .int 0) n32_2 rfl (f48_0 (h := h) hT) ?_
      refine am_e_putf n32_3 rfl rfl ?_
      refine am_e_aload_n n32_4 rfl ?_
      refine am_e_aload_n n32_5 rfl ?_
      refine am_e_getf (v := .int 0) n32_6 rfl (f48_1 (h := h) hT) ?_
      refine am_e_putf n32_7 rfl rfl ?_
      refine am_e_aload_n n32_8 rfl ?_
      refine am_e_aload_n n32_9 rfl ?_
      refine am_e_getf (v := .int (-1)) n32_10 rfl (f48_2 (h := h) hT) ?_
      refine am_e_putf n32_11 rfl rfl ?_
      refine am_e_aload_n n32_12 rfl ?_
      refine am_e_aload_n n32_13 rfl ?_
      refine am_e_getf (v := .int 0) n32_14 rfl (f48_3 (h := h) hT) ?_
      refine am_e_putf n32_15 rfl rfl ?_
      refine am_e_aload_n n32_16 rfl ?_
      refine am_e_aload_n n32_17 rfl ?_
      refine am_e_getf (v := .int 0) n32_18 rfl (f48_4 (h := h) hT) ?_
      refine am_e_putf n32_19 rfl rfl ?_
      refine am_e_iconst (w := 0) n32_20 rfl ?_
      refine am_e_istore_n (ls' := [(2, .int 0), (0, .ref 149), (1, .ref 48)]) n32_21 rfl rfl ?_
      refine am_e_iload_n n32_22 rfl ?_
      refine am_e_iconst (w := 4) n32_23 rfl ?_
      refine am_e_cmpF n32_24 (am_c_geF (by decide)) ?_
      refine am_e_aload_n n32_25 rfl ?_
      refine am_e_getf (v := .ref 150) n32_26 rfl (f149_5 (h := h) hT) ?_
      refine am_e_iload_n n32_27 rfl ?_
      refine am_e_aload_n n32_28 rfl ?_
      refine am_e_getf (v := .ref 49) n32_29 rfl (f48_5 (h := h) hT) ?_
      refine am_e_iload_n n32_30 rfl ?_
      refine am_e_iaload (v := 0) (q := 0) n32_31 rfl (by decide) (by decide) (f49_0 (h := h) hT) ?_
      refine am_e_iastore (q := 0) n32_32 rfl (by decide) (by decide) ?_
      refine am_e_aload_n n32_33 rfl ?_
      refine am_e_getf (v := .ref 151) n32_34 rfl (f149_6 (h := h) hT) ?_
      refine am_e_iload_n n32_35 rfl ?_
      refine am_e_aload_n n32_36 rfl ?_
      refine am_e_getf (v := .ref 50) n32_37 rfl (f48_6 (h := h) hT) ?_
      refine am_e_iload_n n32_38 rfl ?_
      refine am_e_iaload (v := 0) (q := 0) n32_39 rfl (by decide) (by decide) (f50_0 (h := h) hT) ?_
      refine am_e_iastore (q := 0) n32_40 rfl (by decide) (by decide) ?_
      refine am_e_aload_n n32_41 rfl ?_
      refine am_e_getf (v := .ref 152) n32_42 rfl (f149_7 (h := h) hT) ?_
      refine am_e_iload_n n32_43 rfl ?_
      refine am_e_aload_n n32_44 rfl ?_
      refine am_e_getf (v := .ref 51) n32_45 rfl (f48_7 (h := h) hT) ?_
      refine am_e_iload_n n32_46 rfl ?_
      refine am_e_iaload (v := 0) (q := 0) n32_47 rfl (by decide) (by decide) (f51_0 (h := h) hT) ?_
      refine am_e_iastore (q := 0) n32_48 rfl (by decide) (by decide) ?_
      refine am_e_iinc (w := 1) (ls' := [(2, .int 1), (0, .ref 149), (1, .ref 48)]) n32_49 rfl rfl (by decide) rfl ?_
      refine am_e_goto c32_50 t32_50 ?_
      refine am_e_iload_n n32_22 rfl ?_
      refine am_e_iconst (w := 4) n32_23 rfl ?_
      refine am_e_cmpF n32_24 (am_c_geF (by decide)) ?_
      refine am_e_aload_n n32_25 rfl ?_
      refine am_e_getf (v := .ref 150) n32_26 rfl (f149_5 (h := h) hT) ?_
      refine am_e_iload_n n32_27 rfl ?_
      refine am_e_aload_n n32_28 rfl ?_
      refine am_e_getf (v := .ref 49) n32_29 rfl (f48_5 (h := h) hT) ?_
      refine am_e_iload_n n32_30 rfl ?_
      refine am_e_iaload (v := 0) (q := 1) n32_31 rfl (by decide) (by decide) (f49_1 (h := h) hT) ?_
      refine am_e_iastore (q := 1) n32_32 rfl (by decide) (by decide) ?_
      refine am_e_aload_n n32_33 rfl ?_
      refine am_e_getf (v := .ref 151) n32_34 rfl (f149_6 (h := h) hT) ?_
      refine am_e_iload_n n32_35 rfl ?_
      refine am_e_aload_n n32_36 rfl ?_
      refine am_e_getf (v := .ref 50) n32_37 rfl (f48_6 (h := h) hT) ?_
      refine am_e_iload_n n32_38 rfl ?_
      refine am_e_iaload (v := 0) (q := 1) n32_39 rfl (by decide) (by decide) (f50_1 (h := h) hT) ?_
      refine am_e_iastore (q := 1) n32_40 rfl (by decide) (by decide) ?_
      refine am_e_aload_n n32_41 rfl ?_
      refine am_e_getf (v := .ref 152) n32_42 rfl (f149_7 (h := h) hT) ?_
      refine am_e_iload_n n32_43 rfl ?_
      refine am_e_aload_n n32_44 rfl ?_
      refine am_e_getf (v := .ref 51) n32_45 rfl (f48_7 (h := h) hT) ?_
      refine am_e_iload_n n32_46 rfl ?_
      refine am_e_iaload (v := 0) (q := 1) n32_47 rfl (by decide) (by decide) (f51_1 (h := h) hT) ?_
      refine am_e_iastore (q := 1) n32_48 rfl (by decide) (by decide) ?_
      refine am_e_iinc (w := 2) (ls' := [(2, .int 2), (0, .ref 149), (1, .ref 48)]) n32_49 rfl rfl (by decide) rfl ?_
      refine am_e_goto c32_50 t32_50 ?_
      refine am_e_iload_n n32_22 rfl ?_
      refine am_e_iconst (w := 4) n32_23 rfl ?_
      refine am_e_cmpF n32_24 (am_c_geF (by decide)) ?_
      refine am_e_aload_n n32_25 rfl ?_
      refine am_e_getf (v := .ref 150) n32_26 rfl (f149_5 (h := h) hT) ?_
      refine am_e_iload_n n32_27 rfl ?_
      refine am_e_aload_n n32_28 rfl ?_
      refine am_e_getf (v := .ref 49) n32_29 rfl (f48_5 (h := h) hT) ?_
      refine am_e_iload_n n32_30 rfl ?_
      refine am_e_iaload (v := 0) (q := 2) n32_31 rfl (by decide) (by decide) (f49_2 (h := h) hT) ?_
      refine am_e_iastore (q := 2) n32_32 rfl (by decide) (by decide) ?_
      refine am_e_aload_n n32_33 rfl ?_
      refine am_e_getf (v := .ref 151) n32_34 rfl (f149_6 (h := h) hT) ?_
      refine am_e_iload_n n32_35 rfl ?_
      refine am_e_aload_n n32_36 rfl ?_
      refine am_e_getf (v := .ref 50) n32_37 rfl (f48_6 (h := h) hT) ?_
      refine am_e_iload_n n32_38 rfl ?_
      refine am_e_iaload (v := 0) (q := 2) n32_39 rfl (by decide) (by decide) (f50_2 (h := h) hT) ?_
      refine am_e_iastore (q := 2) n32_40 rfl (by decide) (by decide) ?_
      refine am_e_aload_n n32_41 rfl ?_
      refine am_e_getf (v := .ref 152) n32_42 rfl (f149_7 (h := h) hT) ?_
      refine am_e_iload_n n32_43 rfl ?_
      refine am_e_aload_n n32_44 rfl ?_
      refine am_e_getf (v := .ref 51) n32_45 rfl (f48_7 (h := h) hT) ?_
      refine am_e_iload_n n32_46 rfl ?_
      refine am_e_iaload (v := 0) (q := 2) n32_47 rfl (by decide) (by decide) (f51_2 (h := h) hT) ?_
      refine am_e_iastore (q := 2) n32_48 rfl (by decide) (by decide) ?_
      refine am_e_iinc (w := 3) (ls' := [(2, .int 3), (0, .ref 149), (1, .ref 48)]) n32_49 rfl rfl (by decide) rfl ?_
      refine am_e_goto c32_50 t32_50 ?_
      refine am_e_iload_n n32_22 rfl ?_
      refine am_e_iconst (w := 4) n32_23 rfl ?_
      refine am_e_cmpF n32_24 (am_c_geF (by decide)) ?_
      refine am_e_aload_n n32_25 rfl ?_
      refine am_e_getf (v := .ref 150) n32_26 rfl (f149_5 (h := h) hT) ?_
      refine am_e_iload_n n32_27 rfl ?_
      refine am_e_aload_n n32_28 rfl ?_
      refine am_e_getf (v := .ref 49) n32_29 rfl (f48_5 (h := h) hT) ?_
      refine am_e_iload_n n32_30 rfl ?_
      refine am_e_iaload (v := 0) (q := 3) n32_31 rfl (by decide) (by decide) (f49_3 (h := h) hT) ?_
      refine am_e_iastore (q := 3) n32_32 rfl (by decide) (by decide) ?_
      refine am_e_aload_n n32_33 rfl ?_
      refine am_e_getf (v := .ref 151) n32_34 rfl (f149_6 (h := h) hT) ?_
      refine am_e_iload_n n32_35 rfl ?_
      refine am_e_aload_n n32_36 rfl ?_
      refine am_e_getf (v := .ref 50) n32_37 rfl (f48_6 (h := h) hT) ?_
      refine am_e_iload_n n32_38 rfl ?_
      refine am_e_iaload (v := 0) (q := 3) n32_39 rfl (by decide) (by decide) (f50_3 (h := h) hT) ?_
      refine am_e_iastore (q := 3) n32_40 rfl (by decide) (by decide) ?_
      refine am_e_aload_n n32_41 rfl ?_
      refine am_e_getf (v := .ref 152) n32_42 rfl (f149_7 (h := h) hT) ?_
      refine am_e_iload_n n32_43 rfl ?_
      refine am_e_aload_n n32_44 rfl ?_
      refine am_e_getf (v := .ref 51) n32_45 rfl (f48_7 (h := h) hT) ?_
      refine am_e_iload_n n32_46 rfl ?_
      refine am_e_iaload (v := 0) (q := 3) n32_47 rfl (by decide) (by decide) (f51_3 (h := h) hT) ?_
      refine am_e_iastore (q := 3) n32_48 rfl (by decide) (by decide) ?_
      refine am_e_iinc (w := 4) (ls' := [(2, .int 4), (0, .ref 149), (1, .ref 48)]) n32_49 rfl rfl (by decide) rfl ?_
      refine am_e_goto c32_50 t32_50 ?_
      refine am_e_iload_n n32_22 rfl ?_
      refine am_e_iconst (w := 4) n32_23 rfl ?_
      refine am_e_cmpT n32_24 (am_c_geT (by decide)) t32_24 ?_
      refine am_e_vret c32_51 rfl rfl ?_
      refine am_e_aload_n n31_7 rfl ?_
      refine am_e_aload_n n31_8 rfl ?_
      refine am_e_getf (v := .int (-1)) n31_9 rfl (f2_18 (h := h) hT) ?_
      refine am_e_putf n31_10 rfl rfl ?_
      refine am_e_aload_n n31_11 rfl ?_
      refine am_e_iconst (w := 0) n31_12 rfl ?_
      refine am_e_putf n31_13 rfl rfl ?_
      refine am_e_aload_n n31_14 rfl ?_
      refine am_e_iconst (w := 0) n31_15 rfl ?_
      refine am_e_putf n31_16 rfl rfl ?_
      refine am_e_aload_n n31_17 rfl ?_
      refine am_e_ldc (w := 2147483647) n31_18 (by decide) ?_
      refine am_e_putf n31_19 rfl rfl ?_
      refine am_e_aload_n n31_20 rfl ?_
      refine am_e_ldc (w := 2147483647) n31_21 (by decide) ?_
      refine am_e_putf n31_22 rfl rfl ?_
      refine am_e_vret c31_23 rfl rfl ?_
      refine am_e_aload_n n29_33 rfl ?_
      refine am_e_getf (v := .ref 148) n29_34 rfl (f0_11 (h := h) hT) ?_
      refine am_e_iload_n n29_35 rfl ?_
      refine am_e_iload_n n29_36 rfl ?_
      refine am_e_ifF n29_37 (am_c_neF (by decide)) ?_
      refine am_e_iload_n n29_38 rfl ?_
      refine am_e_goto c29_39 t29_39 ?_
      refine am_e_iload_n n29_41 rfl ?_
      refine am_e_iconst (w := 1) n29_42 rfl ?_
      refine am_e_cmpT n29_43 (am_c_neT (by decide)) t29_43 ?_
      refine am_e_iconst (w := 0) n29_46 rfl ?_
      refine am_e_callV (L := [(0, .ref 148), (1, .int 0), (2, .int a2), (3, .int 0)]) n29_47 rfl rfl rfl rfl rfl rfl rfl rfl ?_
      refine am_e_aload_n n33_0 rfl ?_
      refine am_e_getf (v := .ref 2) n33_1 rfl rfl ?_
      refine am_e_getf (v := .ref 11) n33_2 rfl (f2_19 (h := h) hT) ?_
      refine am_e_astore (ls' := [(4, .ref 11), (0, .ref 148), (1, .int 0), (2, .int a2), (3, .int 0)]) n33_3 rfl rfl ?_
      refine am_e_aload n33_4 rfl ?_
      refine am_e_getf (v := .ref 17) n33_5 rfl (f11_7 (h := h) hT) ?_
      refine am_e_iconst (w := 1) n33_6 rfl ?_
      refine am_e_aload_n n33_7 rfl ?_
      refine am_e_getf (v := .ref 149) n33_8 rfl (f148_1 (h := h) hT) ?_
      refine am_e_getf (v := .int 0) n33_9 rfl rfl ?_
      refine am_e_i2l (w := 0) n33_10 (by decide) ?_
      refine am_e_lastore (q := 1) n33_11 rfl (by decide) (by decide) ?_
      refine am_e_aload n33_12 rfl ?_
      refine am_e_getf (v := .ref 17) n33_13 rfl (f11_7 (h := h) hT) ?_
      refine am_e_iconst (w := 2) n33_14 rfl ?_
      refine am_e_aload_n n33_15 rfl ?_
      refine am_e_getf (v := .ref 2) n33_16 rfl rfl ?_
      refine am_e_getf (v := .int 500) n33_17 rfl (f2_0 (h := h) hT) ?_
      refine am_e_aload_n n33_18 rfl ?_
      refine am_e_getf (v := .ref 149) n33_19 rfl (f148_1 (h := h) hT) ?_
      refine am_e_getf (v := .int 0) n33_20 rfl rfl ?_
      refine am_e_isub (w := 500) n33_21 (by decide) ?_
      refine am_e_i2l (w := 500) n33_22 (by decide) ?_
      refine am_e_lastore (q := 2) n33_23 rfl (by decide) (by decide) ?_
      refine am_e_aload n33_24 rfl ?_
      refine am_e_getf (v := .ref 17) n33_25 rfl (f11_7 (h := h) hT) ?_
      refine am_e_iconst (w := 3) n33_26 rfl ?_
      refine am_e_iload_n n33_27 rfl ?_
      refine am_e_i2l (w := (a2.toInt64)) n33_28 rfl ?_
      refine am_e_lastore (q := 3) n33_29 rfl (by decide) (by decide) ?_
      refine am_e_aload n33_30 rfl ?_
      refine am_e_getf (v := .ref 17) n33_31 rfl (f11_7 (h := h) hT) ?_
      refine am_e_iconst (w := 4) n33_32 rfl ?_
      refine am_e_aload_n n33_33 rfl ?_
      refine am_e_getf (v := .ref 149) n33_34 rfl (f148_1 (h := h) hT) ?_
      refine am_e_getf (v := .int 0) n33_35 rfl rfl ?_
      refine am_e_i2l (w := 0) n33_36 (by decide) ?_
      refine am_e_lastore (q := 4) n33_37 rfl (by decide) (by decide) ?_
      refine am_e_aload n33_38 rfl ?_
      refine am_e_getf (v := .ref 17) n33_39 rfl (f11_7 (h := h) hT) ?_
      refine am_e_iconst (w := 0) n33_40 rfl ?_
      refine am_e_lconst (w := 0) n33_41 rfl ?_
      refine am_e_lastore (q := 0) n33_42 rfl (by decide) (by decide) ?_
      refine am_e_aload n33_43 rfl ?_
      refine am_e_getf (v := .ref 17) n33_44 rfl (f11_7 (h := h) hT) ?_
      refine am_e_iconst (w := 5) n33_45 rfl ?_
      refine am_e_lconst (w := 0) n33_46 rfl ?_
      refine am_e_lastore (q := 5) n33_47 rfl (by decide) (by decide) ?_
      refine am_e_iload_n n33_48 rfl ?_
      refine am_e_iconst (w := 2) n33_49 rfl ?_
      refine am_e_cmpF n33_50 (am_c_eqF (by decide)) ?_
      refine am_e_aload n33_51 rfl ?_
      refine am_e_getf (v := .ref 16) n33_52 rfl (f11_6 (h := h) hT) ?_
      refine am_e_iload_n n33_53 rfl ?_
      refine am_e_baload (v := 0) (q := 0) n33_54 rfl (by decide) (by decide) (f16_0 (h := h) hT) ?_
      refine am_e_ifT n33_55 (am_c_eqT (by decide)) t33_55 ?_
      refine am_e_aload n33_70 rfl ?_
      refine am_e_getf (v := .ref 17) n33_71 rfl (f11_7 (h := h) hT) ?_
      refine am_e_iconst (w := 5) n33_72 rfl ?_
      refine am_e_iload_n n33_73 rfl ?_
      refine am_e_i2l (w := 0) n33_74 (by decide) ?_
      refine am_e_lastore (q := 5) n33_75 rfl (by decide) (by decide) ?_
      refine am_e_aload n33_76 rfl ?_
      refine am_e_iload_n n33_77 rfl ?_
      refine am_e_callV (L := [(0, .ref 11), (1, .int 0)]) n33_78 rfl rfl rfl rfl rfl rfl rfl rfl ?_
      refine am_e_iconst (w := 0) n34_0 rfl ?_
      refine am_e_istore_n (ls' := [(2, .int 0), (0, .ref 11), (1, .int 0)]) n34_1 rfl rfl ?_
      refine am_e_aload_n n34_2 rfl ?_
      refine am_e_getf (v := .ref 14) n34_3 rfl (f11_4 (h := h) hT) ?_
      refine am_e_iload_n n34_4 rfl ?_
      refine am_e_iaload (v := 0) (q := 0) n34_5 rfl (by decide) (by decide) (f14_0 (h := h) hT) ?_
      refine am_e_istore_n (ls' := [(3, .int 0), (2, .int 0), (0, .ref 11), (1, .int 0)]) n34_6 rfl rfl ?_
      refine am_e_iload_n n34_7 rfl ?_
      refine am_e_aload_n n34_8 rfl ?_
      refine am_e_getf (v := .ref 15) n34_9 rfl (f11_5 (h := h) hT) ?_
      refine am_e_iload_n n34_10 rfl ?_
      refine am_e_iaload (v := 0) (q := 0) n34_11 rfl (by decide) (by decide) (f15_0 (h := h) hT) ?_
      refine am_e_cmpT n34_12 (am_c_geT (by decide)) t34_12 ?_
      refine am_e_iload_n n34_114 rfl ?_
      refine am_e_iconst (w := 1) n34_115 rfl ?_
      refine am_e_cmpT n34_116 (am_c_neT (by decide)) t34_116 ?_
      refine am_e_ldc2 (w := (-9223372036854775808)) n34_122 (by decide) ?_
      refine am_e_lret c34_123 rfl rfl ?_
      refine am_e_lret c33_79 rfl rfl ?_
      refine am_e_lret c29_48 rfl rfl ?_
      refine am_e_aload_n n136_200 rfl ?_
      refine am_e_sload_n n136_201 rfl ?_
      refine am_e_iload n136_202 rfl ?_
      refine am_e_iconst (w := 1) n136_203 rfl ?_
      refine am_e_iadd (w := 1) n136_204 (by decide) ?_
      refine am_e_sald1 n136_205 rfl (by decide) (by decide) hx1 ?_
      refine am_e_sload_n n136_206 rfl ?_
      refine am_e_iload n136_207 rfl ?_
      refine am_e_iconst (w := 2) n136_208 rfl ?_
      refine am_e_iadd (w := 2) n136_209 (by decide) ?_
      refine am_e_sald1 n136_210 rfl (by decide) (by decide) hx2 ?_
      refine am_e_callV (L := [(0, .ref 164), (1, .int 0), (2, .int a2)]) n136_211 rfl rfl rfl rfl rfl rfl rfl rfl ?_
      refine am_e_aload_n n92_0 rfl ?_
      refine am_e_iconst (w := 0) n92_1 rfl ?_
      refine am_e_putf n92_2 rfl rfl ?_
      refine am_e_iload_n n92_3 rfl ?_
      refine am_e_iconst (w := 0) n92_4 rfl ?_
      refine am_e_iconst (w := 2) n92_5 rfl ?_
      refine am_e_callS (L := [(0, .int 0), (1, .int 0), (2, .int 2)]) n92_6 rfl rfl rfl rfl rfl rfl rfl ?_
      refine am_e_iload_n n87_0 rfl ?_
      refine am_e_iload_n n87_1 rfl ?_
      refine am_e_cmpF n87_2 (am_c_ltF (by decide)) ?_
      refine am_e_iload_n n87_3 rfl ?_
      refine am_e_iload_n n87_4 rfl ?_
      refine am_e_cmpF n87_5 (am_c_gtF (by decide)) ?_
      refine am_e_iconst (w := 1) n87_6 rfl ?_
      refine am_e_goto c87_7 t87_7 ?_
      refine am_e_iret c87_9 rfl rfl rfl ?_
      refine am_e_ifF n92_7 (am_c_eqF (by decide)) ?_
      refine am_e_iload_n n92_8 rfl ?_
      refine am_e_ifF n92_9 (am_c_neF (by decide)) ?_
      refine am_e_iload_n n92_10 rfl ?_
      refine am_e_iconst (w := 0) n92_11 rfl ?_
      refine am_e_iconst (w := 1) n92_12 rfl ?_
      refine am_e_callS (L := [(0, .int a2), (1, .int 0), (2, .int 1)]) n92_13 rfl rfl rfl rfl rfl rfl rfl ?_
      refine am_e_iload_n n87_0 rfl ?_
      refine am_e_iload_n n87_1 rfl ?_
      refine am_e_cmpF n87_2 (am_c_ltF hb1) ?_
      refine am_e_iload_n n87_3 rfl ?_
      refine am_e_iload_n n87_4 rfl ?_
      refine am_e_cmpF n87_5 (am_c_gtF hb2) ?_
      refine am_e_iconst (w := 1) n87_6 rfl ?_
      refine am_e_goto c87_7 t87_7 ?_
      refine am_e_iret c87_9 rfl rfl rfl ?_
      refine am_e_ifF n92_14 (am_c_eqF (by decide)) ?_
      refine am_e_iload_n n92_15 rfl ?_
      refine am_e_iconst (w := 1) n92_16 rfl ?_
      refine am_e_cmpT n92_17 (am_c_neT (by decide)) t92_17 ?_
      refine am_e_iload_n n92_25 rfl ?_
      refine am_e_istore_n (ls' := [(3, .int 0), (0, .ref 164), (1, .int 0), (2, .int a2)]) n92_26 rfl rfl ?_
      refine am_e_aload_n n92_27 rfl ?_
      refine am_e_getf (v := .ref 178) n92_28 rfl (f164_33 (h := h) hT) ?_
      refine am_e_iload_n n92_29 rfl ?_
      refine am_e_baload (v := 0) (q := 0) n92_30 rfl (by decide) (by decide) (f178_0 (h := h) hT) ?_
      refine am_e_ifF n92_31 (am_c_neF (by decide)) ?_
      refine am_e_ldc2 (w := (-9223372036854775808)) n92_32 (by decide) ?_
      refine am_e_lret c92_33 rfl rfl ?_
      refine am_e_lcmp (w := 0) n136_212 (by decide) ?_
      refine am_e_ifT n136_213 (am_c_eqT (by decide)) t136_213 ?_
      exact K _
theorem am_op5_1 {lk : List Value → List am_k → am_H → Option am_O} {xs : Nat → Int32} {h : am_H} {Q : Option Value → List am_k → am_H → Prop} {a2 : Int32} {a3 : Int32} {a4 : Int32} {a5 : Int32} (hT : am_T h) (hx1 : xs 1 = 1) (hx2 : xs 2 = a2) (hx3 : xs 3 = a3) (hx4 : xs 4 = a4) (hx5 : xs 5 = a5) (K : ∀ h', am_Ek false (am_P1 (some (6, xs)) lk) am_m136 841 [(4, .int 0), (3, .ref 202), (2, .ref 164), (1, .ref 0), (0, .retAddr 0)] [] am_ks0 h' 203 4392 Q) : am_Ek false (am_P1 (some (6, xs)) lk) am_m136 188 [(4, .int 0), (3, .ref 202), (2, .ref 164), (1, .ref 0), (0, .retAddr 0)] [] am_ks0 h 203 4392 Q := by
  refine am_e_aload_n n136_188 rfl ?_
  refine am_e_sload_n n136_189 rfl ?_
  refine am_e_iload n136_190 rfl ?_
  refine am_e_iconst (w := 1) n136_191 rfl ?_
  refine am_e_iadd (w := 1) n136_192 (by decide) ?_
  refine am_e_sald1 n136_193 rfl (by decide) (by decide) hx1 ?_
  refine am_e_sload_n n136_194 rfl ?_
  refine am_e_iload n136_195 rfl ?_
  refine am_e_iconst (w := 2) n136_196 rfl ?_
  refine am_e_iadd (w := 2) n136_197 (by decide) ?_
  refine am_e_sald1 n136_198 rfl (by decide) (by decide) hx2 ?_
  refine am_e_callV (L := [(0, .ref 0), (1, .int 1), (2, .int a2)]) n136_199 rfl rfl rfl rfl rfl rfl rfl rfl ?_
  refine am_e_iload_n n29_0 rfl ?_
  refine am_e_ifT n29_1 (am_c_neT (by decide)) t29_1 ?_
  refine am_e_iload_n n29_7 rfl ?_
  refine am_e_iconst (w := 1) n29_8 rfl ?_
  refine am_e_cmpF n29_9 (am_c_neF (by decide)) ?_
  refine am_e_iload_n n29_10 rfl ?_
  refine am_e_iconst (w := 0) n29_11 rfl ?_
  refine am_e_sipush (w := 999) n29_12 (by decide) ?_
  refine am_e_callS (L := [(0, .int a2), (1, .int 0), (2, .int 999)]) n29_13 rfl rfl rfl rfl rfl rfl rfl ?_
  refine am_e_iload_n n30_0 rfl ?_
  refine am_e_iload_n n30_1 rfl ?_
  by_cases hb1 : (a2 : Int32) < 0
  · refine am_e_cmpT n30_2 (am_c_ltT hb1) t30_2 ?_
    refine am_e_iconst (w := 0) n30_8 rfl ?_
    refine am_e_iret c30_9 rfl rfl rfl ?_
    refine am_e_ifF n29_14 (am_c_neF (by decide)) ?_
    refine am_e_iload_n n29_15 rfl ?_
    refine am_e_iconst (w := 2) n29_16 rfl ?_
    refine am_e_cmpT n29_17 (am_c_neT (by decide)) t29_17 ?_
    refine am_e_iconst (w := 0) n29_20 rfl ?_
    refine am_e_istore_n (ls' := [(3, .int 0), (0, .ref 0), (1, .int 1), (2, .int a2)]) n29_21 rfl rfl ?_
    refine am_e_iload_n n29_22 rfl ?_
    refine am_e_ifF n29_23 (am_c_neF (by decide)) ?_
    refine am_e_ldc2 (w := (-9223372036854775808)) n29_24 (by decide) ?_
    refine am_e_lret c29_25 rfl rfl ?_
    refine am_e_aload_n n136_200 rfl ?_
    refine am_e_sload_n n136_201 rfl ?_
    refine am_e_iload n136_202 rfl ?_
    refine am_e_iconst (w := 1) n136_203 rfl ?_
    refine am_e_iadd (w := 1) n136_204 (by decide) ?_
    refine am_e_sald1 n136_205 rfl (by decide) (by decide) hx1 ?_
    refine am_e_sload_n n136_206 rfl ?_
    refine am_e_iload n136_207 rfl ?_
    refine am_e_iconst (w := 2) n136_208 rfl ?_
    refine am_e_iadd (w := 2) n136_209 (by decide) ?_
    refine am_e_sald1 n136_210 rfl (by decide) (by decide) hx2 ?_
    refine am_e_callV (L := [(0, .ref 164), (1, .int 1), (2, .int a2)]) n136_211 rfl rfl rfl rfl rfl rfl rfl rfl ?_
    refine am_e_aload_n n92_0 rfl ?_
    refine am_e_iconst (w := 0) n92_1 rfl ?_
    refine am_e_putf n92_2 rfl rfl ?_
    refine am_e_iload_n n92_3 rfl ?_
    refine am_e_iconst (w := 0) n92_4 rfl ?_
    refine am_e_iconst (w := 2) n92_5 rfl ?_
    refine am_e_callS (L := [(0, .int 1), (1, .int 0), (2, .int 2)]) n92_6 rfl rfl rfl rfl rfl rfl rfl ?_
    refine am_e_iload_n n87_0 rfl ?_
    refine am_e_iload_n n87_1 rfl ?_
    refine am_e_cmpF n87_2 (am_c_ltF (by decide)) ?_
    refine am_e_iload_n n87_3 rfl ?_
    refine am_e_iload_n n87_4 rfl ?_
    refine am_e_cmpF n87_5 (am_c_gtF (by decide)) ?_
    refine am_e_iconst (w := 1) n87_6 rfl ?_
    refine am_e_goto c87_7 t87_7 ?_
    refine am_e_iret c87_9 rfl rfl rfl ?_
    refine am_e_ifF n92_7 (am_c_eqF (by decide)) ?_
    refine am_e_iload_n n92_8 rfl ?_
    refine am_e_ifT n92_9 (am_c_neT (by decide)) t92_9 ?_
    refine am_e_iload_n n92_15 rfl ?_
    refine am_e_iconst (w := 1) n92_16 rfl ?_
    refine am_e_cmpF n92_17 (am_c_neF (by decide)) ?_
    refine am_e_iload_n n92_18 rfl ?_
    refine am_e_iconst (w := 0) n92_19 rfl ?_
    refine am_e_sipush (w := 999) n92_20 (by decide) ?_
    refine am_e_callS (L := [(0, .int a2), (1, .int 0), (2, .int 999)]) n92_21 rfl rfl rfl rfl rfl rfl rfl ?_
    refine am_e_iload_n n87_0 rfl ?_
    refine am_e_iload_n n87_1 rfl ?_
    refine am_e_cmpT n87_2 (am_c_ltT hb1) t87_2 ?_
    refine am_e_iconst (w := 0) n87_8 rfl ?_
    refine am_e_iret c87_9 rfl rfl rfl ?_
    refine am_e_ifF n92_22 (am_c_neF (by decide)) ?_
    refine am_e_ldc2 (w := (-9223372036854775808)) n92_23 (by decide) ?_
    refine am_e_lret c92_24 rfl rfl ?_
    refine am_e_lcmp (w := 0) n136_212 (by decide) ?_
    refine am_e_ifT n136_213 (am_c_eqT (by decide)) t136_213 ?_
    exact K _
  · refine am_e_cmpF n30_2 (am_c_ltF hb1) ?_
    refine am_e_iload_n n30_3 rfl ?_
    refine am_e_iload_n n30_4 rfl ?_
    by_cases hb2 : (999 : Int32) < a2
    · refine am_e_cmpT n30_5 (am_c_gtT hb2) t30_5 ?_
      refine am_e_iconst (w := 0) n30_8 rfl ?_
      refine am_e_iret c30_9 rfl rfl rfl ?_
      refine am_e_ifF n29_14 (am_c_neF (by decide)) ?_
      refine am_e_iload_n n29_15 rfl ?_
      refine am_e_iconst (w := 2) n29_16 rfl ?_
      refine am_e_cmpT n29_17 (am_c_neT (by decide)) t29_17 ?_
      refine am_e_iconst (w := 0) n29_20 rfl ?_
      refine am_e_istore_n (ls' := [(3, .int 0), (0, .ref 0), (1, .int 1), (2, .int a2)]) n29_21 rfl rfl ?_
      refine am_e_iload_n n29_22 rfl ?_
      refine am_e_ifF n29_23 (am_c_neF (by decide)) ?_
      refine am_e_ldc2 (w := (-9223372036854775808)) n29_24 (by decide) ?_
      refine am_e_lret c29_25 rfl rfl ?_
      refine am_e_aload_n n136_200 rfl ?_
      refine am_e_sload_n n136_201 rfl ?_
      refine am_e_iload n136_202 rfl ?_
      refine am_e_iconst (w := 1) n136_203 rfl ?_
      refine am_e_iadd (w := 1) n136_204 (by decide) ?_
      refine am_e_sald1 n136_205 rfl (by decide) (by decide) hx1 ?_
      refine am_e_sload_n n136_206 rfl ?_
      refine am_e_iload n136_207 rfl ?_
      refine am_e_iconst (w := 2) n136_208 rfl ?_
      refine am_e_iadd (w := 2) n136_209 (by decide) ?_
      refine am_e_sald1 n136_210 rfl (by decide) (by decide) hx2 ?_
      refine am_e_callV (L := [(0, .ref 164), (1, .int 1), (2, .int a2)]) n136_211 rfl rfl rfl rfl rfl rfl rfl rfl ?_
      refine am_e_aload_n n92_0 rfl ?_
      refine am_e_iconst (w := 0) n92_1 rfl ?_
      refine am_e_putf n92_2 rfl rfl ?_
      refine am_e_iload_n n92_3 rfl ?_
      refine am_e_iconst (w := 0) n92_4 rfl ?_
      refine am_e_iconst (w := 2) n92_5 rfl ?_
      refine am_e_callS (L := [(0, .int 1), (1, .int 0), (2, .int 2)]) n92_6 rfl rfl rfl rfl rfl rfl rfl ?_
      refine am_e_iload_n n87_0 rfl ?_
      refine am_e_iload_n n87_1 rfl ?_
      refine am_e_cmpF n87_2 (am_c_ltF (by decide)) ?_
      refine am_e_iload_n n87_3 rfl ?_
      refine am_e_iload_n n87_4 rfl ?_
      refine am_e_cmpF n87_5 (am_c_gtF (by decide)) ?_
      refine am_e_iconst (w := 1) n87_6 rfl ?_
      refine am_e_goto c87_7 t87_7 ?_
      refine am_e_iret c87_9 rfl rfl rfl ?_
      refine am_e_ifF n92_7 (am_c_eqF (by decide)) ?_
      refine am_e_iload_n n92_8 rfl ?_
      refine am_e_ifT n92_9 (am_c_neT (by decide)) t92_9 ?_
      refine am_e_iload_n n92_15 rfl ?_
      refine am_e_iconst (w := 1) n92_16 rfl ?_
      refine am_e_cmpF n92_17 (am_c_neF (by decide)) ?_
      refine am_e_iload_n n92_18 rfl ?_
      refine am_e_iconst (w := 0) n92_19 rfl ?_
      refine am_e_sipush (w := 999) n92_20 (by decide) ?_
      refine am_e_callS (L := [(0, .int a2), (1, .int 0), (2, .int 999)]) n92_21 rfl rfl rfl rfl rfl rfl rfl ?_
      refine am_e_iload_n n87_0 rfl ?_
      refine am_e_iload_n n87_1 rfl ?_
      refine am_e_cmpF n87_2 (am_c_ltF hb1) ?_
      refine am_e_iload_n n87_3 rfl ?_
      refine am_e_iload_n n87_4 rfl ?_
      refine am_e_cmpT n87_5 (am_c_gtT hb2) t87_5 ?_
      refine am_e_iconst (w := 0) n87_8 rfl ?_
      refine am_e_iret c87_9 rfl rfl rfl ?_
      refine am_e_ifF n92_22 (am_c_neF (by decide)) ?_
      refine am_e_ldc2 (w := (-9223372036854775808)) n92_23 (by decide) ?_
      refine am_e_lret c92_24 rfl rfl ?_
      refine am_e_lcmp (w := 0) n136_212 (by decide) ?_
      refine am_e_ifT n136_213 (am_c_eqT (by decide)) t136_213 ?_
      exact K _
    · refine am_e_cmpF n30_5 (am_c_gtF hb2) ?_
      refine am_e_iconst (w := 1) n30_6 rfl ?_
      refine am_e_goto c30_7 t30_7 ?_
      refine am_e_iret c30_9 rfl rfl rfl ?_
      refine am_e_ifT n29_14 (am_c_neT (by decide)) t29_14 ?_
      refine am_e_iconst (w := 1) n29_18 rfl ?_
      refine am_e_goto c29_19 t29_19 ?_
      refine am_e_istore_n (ls' := [(3, .int 1), (0, .ref 0), (1, .int 1), (2, .int a2)]) n29_21 rfl rfl ?_
      refine am_e_iload_n n29_22 rfl ?_
      refine am_e_ifT n29_23 (am_c_neT (by decide)) t29_23 ?_
      refine am_e_aload_n n29_26 rfl ?_
      refine am_e_getf (v := .ref 148) n29_27 rfl (f0_11 (h := h) hT) ?_
      refine am_e_aload_n n29_28 rfl ?_
      refine am_e_getf (v := .ref 2) n29_29 rfl (f0_2 (h := h) hT) ?_
      refine am_e_aload_n n29_30 rfl ?_
      refine am_e_getf (v := .ref 48) n29_31 rfl (f0_5 (h := h) hT) ?_
      refine am_e_callV (L := [(0, .ref 148), (1, .ref 2), (2, .ref 48)]) n29_32 rfl rfl rfl rfl rfl rfl rfl rfl ?_
      refine am_e_aload_n n31_0 rfl ?_
      refine am_e_aload_n n31_1 rfl ?_
      refine am_e_putf n31_2 rfl rfl ?_
      refine am_e_aload_n n31_3 rfl ?_
      refine am_e_getf (v := .ref 149) n31_4 rfl (f148_1 (h := h) hT) ?_
      refine am_e_aload_n n31_5 rfl ?_
      refine am_e_callV (L := [(0, .ref 149), (1, .ref 48)]) n31_6 rfl rfl rfl rfl rfl rfl rfl rfl ?_
      refine am_e_aload_n n32_0 rfl ?_
      refine am_e_aload_n n32_1 rfl ?_
      refine am_e_getf (v := .int 0) n32_2 rfl (f48_0 (h := h) hT) ?_
      refine am_e_putf n32_3 rfl rfl ?_
      refine am_e_aload_n n32_4 rfl ?_
      refine am_e_aload_n n32_5 rfl ?_
      refine am_e_getf (v := .int 0) n32_6 rfl (f48_1 (h := h) hT) ?_
      refine am_e_putf n32_7 rfl rfl ?_
      refine am_e_aload_n n32_8 rfl ?_
      refine am_e_aload_n n32_9 rfl ?_
      refine am_e_getf (v := .int (-1)) n32_10 rfl (f48_2 (h := h) hT) ?_
      refine am_e_putf n32_11 rfl rfl ?_
      refine am_e_aload_n n32_12 rfl ?_
      refine am_e_aload_n n32_13 rfl ?_
      refine am_e_getf (v := .int 0) n32_14 rfl (f48_3 (h := h) hT) ?_
      refine am_e_putf n32_15 rfl rfl ?_
      refine am_e_aload_n n32_16 rfl ?_
      refine am_e_aload_n n32_17 rfl ?_
      refine am_e_getf (v := .int 0) n32_18 rfl (f48_4 (h := h) hT) ?_
      refine am_e_putf n32_19 rfl rfl ?_
      refine am_e_iconst (w := 0) n32_20 rfl ?_
      refine am_e_istore_n (ls' := [(2, .int 0), (0, .ref 149), (1, .ref 48)]) n32_21 rfl rfl ?_
      refine am_e_iload_n n32_22 rfl ?_
      refine am_e_iconst (w := 4) n32_23 rfl ?_
      refine am_e_cmpF n32_24 (am_c_geF (by decide)) ?_
      refine am_e_aload_n n32_25 rfl ?_
      refine am_e_getf (v := .ref 150) n32_26 rfl (f149_5 (h := h) hT) ?_
      refine am_e_iload_n n32_27 rfl ?_
      refine am_e_aload_n n32_28 rfl ?_
      refine am_e_getf (v := .ref 49) n32_29 rfl (f48_5 (h := h) hT) ?_
      refine am_e_iload_n n32_30 rfl ?_
      refine am_e_iaload (v := 0) (q := 0) n32_31 rfl (by decide) (by decide) (f49_0 (h := h) hT) ?_
      refine am_e_iastore (q := 0) n32_32 rfl (by decide) (by decide) ?_
      refine am_e_aload_n n32_33 rfl ?_
      refine am_e_getf (v := .ref 151) n32_34 rfl (f149_6 (h := h) hT) ?_
      refine am_e_iload_n n32_35 rfl ?_
      refine am_e_aload_n n32_36 rfl ?_
      refine am_e_getf (v := .ref 50) n32_37 rfl (f48_6 (h := h) hT) ?_
      refine am_e_iload_n n32_38 rfl ?_
      refine am_e_iaload (v := 0) (q := 0) n32_39 rfl (by decide) (by decide) (f50_0 (h := h) hT) ?_
      refine am_e_iastore (q := 0) n32_40 rfl (by decide) (by decide) ?_
      refine am_e_aload_n n32_41 rfl ?_
      refine am_e_getf (v := .ref 152) n32_42 rfl (f149_7 (h := h) hT) ?_
      refine am_e_iload_n n32_43 rfl ?_
      refine am_e_aload_n n32_44 rfl ?_
      refine am_e_getf (v := .ref 51) n32_45 rfl (f48_7 (h := h) hT) ?_
      refine am_e_iload_n n32_46 rfl ?_
      refine am_e_iaload (v := 0) (q := 0) n32_47 rfl (by decide) (by decide) (f51_0 (h := h) hT) ?_
      refine am_e_iastore (q := 0) n32_48 rfl (by decide) (by decide) ?_
      refine am_e_iinc (w := 1) (ls' := [(2, .int 1), (0, .ref 149), (1, .ref 48)]) n32_49 rfl rfl (by decide) rfl ?_
      refine am_e_goto c32_50 t32_50 ?_
      refine am_e_iload_n n32_22 rfl ?_
      refine am_e_iconst (w := 4) n32_23 rfl ?_
      refine am_e_cmpF n32_24 (am_c_geF (by decide)) ?_
      refine am_e_aload_n n32_25 rfl ?_
      refine am_e_getf (v := .ref 150) n32_26 rfl (f149_5 (h := h) hT) ?_
      refine am_e_iload_n n32_27 rfl ?_
      refine am_e_aload_n n32_28 rfl ?_
      refine am_e_getf (v := .ref 49) n32_29 rfl (f48_5 (h := h) hT) ?_
      refine am_e_iload_n n32_30 rfl ?_
      refine am_e_iaload (v := 0) (q := 1) n32_31 rfl (by decide) (by decide) (f49_1 (h := h) hT) ?_
      refine am_e_iastore (q := 1) n32_32 rfl (by decide) (by decide) ?_
      refine am_e_aload_n n32_33 rfl ?_
      refine am_e_getf (v := .ref 151) n32_34 rfl (f149_6 (h := h) hT) ?_
      refine am_e_iload_n n32_35 rfl ?_
      refine am_e_aload_n n32_36 rfl ?_
      refine am_e_getf (v := .ref 50) n32_37 rfl (f48_6 (h := h) hT) ?_
      refine am_e_iload_n n32_38 rfl ?_
      refine am_e_iaload (v := 0) (q := 1) n32_39 rfl (by decide) (by decide) (f50_1 (h := h) hT) ?_
      refine am_e_iastore (q := 1) n32_40 rfl (by decide) (by decide) ?_
      refine am_e_aload_n n32_41 rfl ?_
      refine am_e_getf (v := .ref 152) n32_42 rfl (f149_7 (h := h) hT) ?_
      refine am_e_iload_n n32_43 rfl ?_
      refine am_e_aload_n n32_44 rfl ?_
      refine am_e_getf (v := .ref 51) n32_45 rfl (f48_7 (h := h) hT) ?_
      refine am_e_iload_n n32_46 rfl ?_
      refine am_e_iaload (v := 0) (q := 1) n32_47 rfl (by decide) (by decide) (f51_1 (h := h) hT) ?_
      refine am_e_iastore (q := 1) n32_48 rfl (by decide) (by decide) ?_
      refine am_e_iinc (w := 2) (ls' := [(2, .int 2), (0, .ref 149), (1, .ref 48)]) n32_49 rfl rfl (by decide) rfl ?_
      refine am_e_goto c32_50 t32_50 ?_
      refine am_e_iload_n n32_22 rfl ?_
      refine am_e_iconst (w := 4) n32_23 rfl ?_
      refine am_e_cmpF n32_24 (am_c_geF (by decide)) ?_
      refine am_e_aload_n n32_25 rfl ?_
      refine am_e_getf (v := .ref 150) n32_26 rfl (f149_5 (h := h) hT) ?_
      refine am_e_iload_n n32_27 rfl ?_
      refine am_e_aload_n n32_28 rfl ?_
      refine am_e_getf (v := .ref 49) n32_29 rfl (f48_5 (h := h) hT) ?_
      refine am_e_iload_n n32_30 rfl ?_
      refine am_e_iaload (v := 0) (q := 2) n32_31 rfl (by decide) (by decide) (f49_2 (h := h) hT) ?_
      refine am_e_iastore (q := 2) n32_32 rfl (by decide) (by decide) ?_
      refine am_e_aload_n n32_33 rfl ?_
      refine am_e_getf (v := .ref 151) n32_34 rfl (f149_6 (h := h) hT) ?_
      refine am_e_iload_n n32_35 rfl ?_
      refine am_e_aload_n n32_36 rfl ?_
      refine am_e_getf (v := .ref 50) n32_37 rfl (f48_6 (h := h) hT) ?_
      refine am_e_iload_n n32_38 rfl ?_
      refine am_e_iaload (v := 0) (q := 2) n32_39 rfl (by decide) (by decide) (f50_2 (h := h) hT) ?_
      refine am_e_iastore (q := 2) n32_40 rfl (by decide) (by decide) ?_
      refine am_e_aload_n n32_41 rfl ?_
      refine am_e_getf (v := .ref 152) n32_42 rfl (f149_7 (h := h) hT) ?_
      refine am_e_iload_n n32_43 rfl ?_
      refine am_e_aload_n n32_44 rfl ?_
      refine am_e_getf (v := .ref 51) n32_45 rfl (f48_7 (h := h) hT) ?_
      refine am_e_iload_n n32_46 rfl ?_
      refine am_e_iaload (v := 0) (q := 2) n32_47 rfl (by decide) (by decide) (f51_2 (h := h) hT) ?_
      refine am_e_iastore (q := 2) n32_48 rfl (by decide) (by decide) ?_
      refine am_e_iinc (w := 3) (ls' := [(2, .int 3), (0, .ref 149), (1, .ref 48)]) n32_49 rfl rfl (by decide) rfl ?_
      refine am_e_goto c32_50 t32_50 ?_
      refine am_e_iload_n n32_22 rfl ?_
      refine am_e_iconst (w := 4) n32_23 rfl ?_
      refine am_e_cmpF n32_24 (am_c_geF (by decide)) ?_
      refine am_e_aload_n n32_25 rfl ?_
      refine am_e_getf (v := .ref 150) n32_26 rfl (f149_5 (h := h) hT) ?_
      refine am_e_iload_n n32_27 rfl ?_
      refine am_e_aload_n n32_28 rfl ?_
      refine am_e_getf (v := .ref 49) n32_29 rfl (f48_5 (h := h) hT) ?_
      refine am_e_iload_n n32_30 rfl ?_
      refine am_e_iaload (v := 0) (q := 3) n32_31 rfl (by decide) (by decide) (f49_3 (h := h) hT) ?_
      refine am_e_iastore (q := 3) n32_32 rfl (by decide) (by decide) ?_
      refine am_e_aload_n n32_33 rfl ?_
      refine am_e_getf (v := .ref 151) n32_34 rfl (f149_6 (h := h) hT) ?_
      refine am_e_iload_n n32_35 rfl ?_
      refine am_e_aload_n n32_36 rfl ?_
      refine am_e_getf (v := .ref 50) n32_37 rfl (f48_6 (h := h) hT) ?_
      refine am_e_iload_n n32_38 rfl ?_
      refine am_e_iaload (v := 0) (q := 3) n32_39 rfl (by decide) (by decide) (f50_3 (h := h) hT) ?_
      refine am_e_iastore (q := 3) n32_40 rfl (by decide) (by decide) ?_
      refine am_e_aload_n n32_41 rfl ?_
      refine am_e_getf (v := .ref 152) n32_42 rfl (f149_7 (h := h) hT) ?_
      refine am_e_iload_n n32_43 rfl ?_
      refine am_e_aload_n n32_44 rfl ?_
      refine am_e_getf (v := .ref 51) n32_45 rfl (f48_7 (h := h) hT) ?_
      refine am_e_iload_n n32_46 rfl ?_
      refine am_e_iaload (v := 0) (q := 3) n32_47 rfl (by decide) (by decide) (f51_3 (h := h) hT) ?_
      refine am_e_iastore (q := 3) n32_48 rfl (by decide) (by decide) ?_
      refine am_e_iinc (w := 4) (ls' := [(2, .int 4), (0, .ref 149), (1, .ref 48)]) n32_49 rfl rfl (by decide) rfl ?_
      refine am_e_goto c32_50 t32_50 ?_
      refine am_e_iload_n n32_22 rfl ?_
      refine am_e_iconst (w := 4) n32_23 rfl ?_
      refine am_e_cmpT n32_24 (am_c_geT (by decide)) t32_24 ?_
      refine am_e_vret c32_51 rfl rfl ?_
      refine am_e_aload_n n31_7 rfl ?_
      refine am_e_aload_n n31_8 rfl ?_
      refine am_e_getf (v := .int (-1)) n31_9 rfl (f2_18 (h := h) hT) ?_
      refine am_e_putf n31_10 rfl rfl ?_
      refine am_e_aload_n n31_11 rfl ?_
      refine am_e_iconst (w := 0) n31_12 rfl ?_
      refine am_e_putf n31_13 rfl rfl ?_
      refine am_e_aload_n n31_14 rfl ?_
      refine am_e_iconst (w := 0) n31_15 rfl ?_
      refine am_e_putf n31_16 rfl rfl ?_
      refine am_e_aload_n n31_17 rfl ?_
      refine am_e_ldc (w := 2147483647) n31_18 (by decide) ?_
      refine am_e_putf n31_19 rfl rfl ?_
      refine am_e_aload_n n31_20 rfl ?_
      refine am_e_ldc (w := 2147483647) n31_21 (by decide) ?_
      refine am_e_putf n31_22 rfl rfl ?_
      refine am_e_vret c31_23 rfl rfl ?_
      refine am_e_aload_n n29_33 rfl ?_
      refine am_e_getf (v := .ref 148) n29_34 rfl (f0_11 (h := h) hT) ?_
      refine am_e_iload_n n29_35 rfl ?_
      refine am_e_iload_n n29_36 rfl ?_
      refine am_e_ifT n29_37 (am_c_neT (by decide)) t29_37 ?_
      refine am_e_iconst (w := 0) n29_40 rfl ?_
      refine am_e_iload_n n29_41 rfl ?_
      refine am_e_iconst (w := 1) n29_42 rfl ?_
      refine am_e_cmpF n29_43 (am_c_neF (by decide)) ?_
      refine am_e_iload_n n29_44 rfl ?_
      refine am_e_goto c29_45 t29_45 ?_
      refine am_e_callV (L := [(0, .ref 148), (1, .int 1), (2, .int 0), (3, .int a2)]) n29_47 rfl rfl rfl rfl rfl rfl rfl rfl ?_
      refine am_e_aload_n n33_0 rfl ?_
      refine am_e_getf (v := .ref 2) n33_1 rfl rfl ?_
      refine am_e_getf (v := .ref 11) n33_2 rfl (f2_19 (h := h) hT) ?_
      refine am_e_astore (ls' := [(4, .ref 11), (0, .ref 148), (1, .int 1), (2, .int 0), (3, .int a2)]) n33_3 rfl rfl ?_
      refine am_e_aload n33_4 rfl ?_
      refine am_e_getf (v := .ref 17) n33_5 rfl (f11_7 (h := h) hT) ?_
      refine am_e_iconst (w := 1) n33_6 rfl ?_
      refine am_e_aload_n n33_7 rfl ?_
      refine am_e_getf (v := .ref 149) n33_8 rfl (f148_1 (h := h) hT) ?_
      refine am_e_getf (v := .int 0) n33_9 rfl rfl ?_
      refine am_e_i2l (w := 0) n33_10 (by decide) ?_
      refine am_e_lastore (q := 1) n33_11 rfl (by decide) (by decide) ?_
      refine am_e_aload n33_12 rfl ?_
      refine am_e_getf (v := .ref 17) n33_13 rfl (f11_7 (h := h) hT) ?_
      refine am_e_iconst (w := 2) n33_14 rfl ?_
      refine am_e_aload_n n33_15 rfl ?_
      refine am_e_getf (v := .ref 2) n33_16 rfl rfl ?_
      refine am_e_getf (v := .int 500) n33_17 rfl (f2_0 (h := h) hT) ?_
      refine am_e_aload_n n33_18 rfl ?_
      refine am_e_getf (v := .ref 149) n33_19 rfl (f148_1 (h := h) hT) ?_
      refine am_e_getf (v := .int 0) n33_20 rfl rfl ?_
      refine am_e_isub (w := 500) n33_21 (by decide) ?_
      refine am_e_i2l (w := 500) n33_22 (by decide) ?_
      refine am_e_lastore (q := 2) n33_23 rfl (by decide) (by decide) ?_
      refine am_e_aload n33_24 rfl ?_
      refine am_e_getf (v := .ref 17) n33_25 rfl (f11_7 (h := h) hT) ?_
      refine am_e_iconst (w := 3) n33_26 rfl ?_
      refine am_e_iload_n n33_27 rfl ?_
      refine am_e_i2l (w := 0) n33_28 (by decide) ?_
      refine am_e_lastore (q := 3) n33_29 rfl (by decide) (by decide) ?_
      refine am_e_aload n33_30 rfl ?_
      refine am_e_getf (v := .ref 17) n33_31 rfl (f11_7 (h := h) hT) ?_
      refine am_e_iconst (w := 4) n33_32 rfl ?_
      refine am_e_aload_n n33_33 rfl ?_
      refine am_e_getf (v := .ref 149) n33_34 rfl (f148_1 (h := h) hT) ?_
      refine am_e_getf (v := .int 0) n33_35 rfl rfl ?_
      refine am_e_i2l (w := 0) n33_36 (by decide) ?_
      refine am_e_lastore (q := 4) n33_37 rfl (by decide) (by decide) ?_
      refine am_e_aload n33_38 rfl ?_
      refine am_e_getf (v := .ref 17) n33_39 rfl (f11_7 (h := h) hT) ?_
      refine am_e_iconst (w := 0) n33_40 rfl ?_
      refine am_e_lconst (w := 0) n33_41 rfl ?_
      refine am_e_lastore (q := 0) n33_42 rfl (by decide) (by decide) ?_
      refine am_e_aload n33_43 rfl ?_
      refine am_e_getf (v := .ref 17) n33_44 rfl (f11_7 (h := h) hT) ?_
      refine am_e_iconst (w := 5) n33_45 rfl ?_
      refine am_e_lconst (w := 0) n33_46 rfl ?_
      refine am_e_lastore (q := 5) n33_47 rfl (by decide) (by decide) ?_
      refine am_e_iload_n n33_48 rfl ?_
      refine am_e_iconst (w := 2) n33_49 rfl ?_
      refine am_e_cmpF n33_50 (am_c_eqF (by decide)) ?_
      refine am_e_aload n33_51 rfl ?_
      refine am_e_getf (v := .ref 16) n33_52 rfl (f11_6 (h := h) hT) ?_
      refine am_e_iload_n n33_53 rfl ?_
      refine am_e_baload (v := 0) (q := 1) n33_54 rfl (by decide) (by decide) (f16_1 (h := h) hT) ?_
      refine am_e_ifT n33_55 (am_c_eqT (by decide)) t33_55 ?_
      refine am_e_aload n33_70 rfl ?_
      refine am_e_getf (v := .ref 17) n33_71 rfl (f11_7 (h := h) hT) ?_
      refine am_e_iconst (w := 5) n33_72 rfl ?_
      refine am_e_iload_n n33_73 rfl ?_
      refine am_e_i2l (w := (a2.toInt64)) n33_74 rfl ?_
      refine am_e_lastore (q := 5) n33_75 rfl (by decide) (by decide) ?_
      refine am_e_aload n33_76 rfl ?_
      refine am_e_iload_n n33_77 rfl ?_
      refine am_e_callV (L := [(0, .ref 11), (1, .int 1)]) n33_78 rfl rfl rfl rfl rfl rfl rfl rfl ?_
      refine am_e_iconst (w := 0) n34_0 rfl ?_
      refine am_e_istore_n (ls' := [(2, .int 0), (0, .ref 11), (1, .int 1)]) n34_1 rfl rfl ?_
      refine am_e_aload_n n34_2 rfl ?_
      refine am_e_getf (v := .ref 14) n34_3 rfl (f11_4 (h := h) hT) ?_
      refine am_e_iload_n n34_4 rfl ?_
      refine am_e_iaload (v := 0) (q := 1) n34_5 rfl (by decide) (by decide) (f14_1 (h := h) hT) ?_
      refine am_e_istore_n (ls' := [(3, .int 0), (2, .int 0), (0, .ref 11), (1, .int 1)]) n34_6 rfl rfl ?_
      refine am_e_iload_n n34_7 rfl ?_
      refine am_e_aload_n n34_8 rfl ?_
      refine am_e_getf (v := .ref 15) n34_9 rfl (f11_5 (h := h) hT) ?_
      refine am_e_iload_n n34_10 rfl ?_
      refine am_e_iaload (v := 0) (q := 1) n34_11 rfl (by decide) (by decide) (f15_1 (h := h) hT) ?_
      refine am_e_cmpT n34_12 (am_c_geT (by decide)) t34_12 ?_
      refine am_e_iload_n n34_114 rfl ?_
      refine am_e_iconst (w := 1) n34_115 rfl ?_
      refine am_e_cmpT n34_116 (am_c_neT (by decide)) t34_116 ?_
      refine am_e_ldc2 (w := (-9223372036854775808)) n34_122 (by decide) ?_
      refine am_e_lret c34_123 rfl rfl ?_
      refine am_e_lret c33_79 rfl rfl ?_
      refine am_e_lret c29_48 rfl rfl ?_
      refine am_e_aload_n n136_200 rfl ?_
      refine am_e_sload_n n136_201 rfl ?_
      refine am_e_iload n136_202 rfl ?_
      refine am_e_iconst (w := 1) n136_203 rfl ?_
      refine am_e_iadd (w := 1) n136_204 (by decide) ?_
      refine am_e_sald1 n136_205 rfl (by decide) (by decide) hx1 ?_
      refine am_e_sload_n n136_206 rfl ?_
      refine am_e_iload n136_207 rfl ?_
      refine am_e_iconst (w := 2) n136_208 rfl ?_
      refine am_e_iadd (w := 2) n136_209 (by decide) ?_
      refine am_e_sald1 n136_210 rfl (by decide) (by decide) hx2 ?_
      refine am_e_callV (L := [(0, .ref 164), (1, .int 1), (2, .int a2)]) n136_211 rfl rfl rfl rfl rfl rfl rfl rfl ?_
      refine am_e_aload_n n92_0 rfl ?_
      refine am_e_iconst (w := 0) n92_1 rfl ?_
      refine am_e_putf n92_2 rfl rfl ?_
      refine am_e_iload_n n92_3 rfl ?_
      refine am_e_iconst (w := 0) n92_4 rfl ?_
      refine am_e_iconst (w := 2) n92_5 rfl ?_
      refine am_e_callS (L := [(0, .int 1), (1, .int 0), (2, .int 2)]) n92_6 rfl rfl rfl rfl rfl rfl rfl ?_
      refine am_e_iload_n n87_0 rfl ?_
      refine am_e_iload_n n87_1 rfl ?_
      refine am_e_cmpF n87_2 (am_c_ltF (by decide)) ?_
      refine am_e_iload_n n87_3 rfl ?_
      refine am_e_iload_n n87_4 rfl ?_
      refine am_e_cmpF n87_5 (am_c_gtF (by decide)) ?_
      refine am_e_iconst (w := 1) n87_6 rfl ?_
      refine am_e_goto c87_7 t87_7 ?_
      refine am_e_iret c87_9 rfl rfl rfl ?_
      refine am_e_ifF n92_7 (am_c_eqF (by decide)) ?_
      refine am_e_iload_n n92_8 rfl ?_
      refine am_e_ifT n92_9 (am_c_neT (by decide)) t92_9 ?_
      refine am_e_iload_n n92_15 rfl ?_
      refine am_e_iconst (w := 1) n92_16 rfl ?_
      refine am_e_cmpF n92_17 (am_c_neF (by decide)) ?_
      refine am_e_iload_n n92_18 rfl ?_
      refine am_e_iconst (w := 0) n92_19 rfl ?_
      refine am_e_sipush (w := 999) n92_20 (by decide) ?_
      refine am_e_callS (L := [(0, .int a2), (1, .int 0), (2, .int 999)]) n92_21 rfl rfl rfl rfl rfl rfl rfl ?_
      refine am_e_iload_n n87_0 rfl ?_
      refine am_e_iload_n n87_1 rfl ?_
      refine am_e_cmpF n87_2 (am_c_ltF hb1) ?_
      refine am_e_iload_n n87_3 rfl ?_
      refine am_e_iload_n n87_4 rfl ?_
      refine am_e_cmpF n87_5 (am_c_gtF hb2) ?_
      refine am_e_iconst (w := 1) n87_6 rfl ?_
      refine am_e_goto c87_7 t87_7 ?_
      refine am_e_iret c87_9 rfl rfl rfl ?_
      refine am_e_ifT n92_22 (am_c_neT (by decide)) t92_22 ?_
      refine am_e_iload_n n92_25 rfl ?_
      refine am_e_istore_n (ls' := [(3, .int 1), (0, .ref 164), (1, .int 1), (2, .int a2)]) n92_26 rfl rfl ?_
      refine am_e_aload_n n92_27 rfl ?_
      refine am_e_getf (v := .ref 178) n92_28 rfl (f164_33 (h := h) hT) ?_
      refine am_e_iload_n n92_29 rfl ?_
      refine am_e_baload (v := 0) (q := 1) n92_30 rfl (by decide) (by decide) (f178_1 (h := h) hT) ?_
      refine am_e_ifF n92_31 (am_c_neF (by decide)) ?_
      refine am_e_ldc2 (w := (-9223372036854775808)) n92_32 (by decide) ?_
      refine am_e_lret c92_33 rfl rfl ?_
      refine am_e_lcmp (w := 0) n136_212 (by decide) ?_
      refine am_e_ifT n136_213 (am_c_eqT (by decide)) t136_213 ?_
      exact K _
theorem am_op5_2 {lk : List Value → List am_k → am_H → Option am_O} {xs : Nat → Int32} {h : am_H} {Q : Option Value → List am_k → am_H → Prop} {a2 : Int32} {a3 : Int32} {a4 : Int32} {a5 : Int32} (hT : am_T h) (hx1 : xs 1 = 2) (hx2 : xs 2 = a2) (hx3 : xs 3 = a3) (hx4 : xs 4 = a4) (hx5 : xs 5 = a5) (K : ∀ h', am_Ek false (am_P1 (some (6, xs)) lk) am_m136 841 [(4, .int 0), (3, .ref 202), (2, .ref 164), (1, .ref 0), (0, .retAddr 0)] [] am_ks0 h' 203 4392 Q) : am_Ek false (am_P1 (some (6, xs)) lk) am_m136 188 [(4, .int 0), (3, .ref 202), (2, .ref 164), (1, .ref 0), (0, .retAddr 0)] [] am_ks0 h 203 4392 Q := by
  refine am_e_aload_n n136_188 rfl ?_
  refine am_e_sload_n n136_189 rfl ?_
  refine am_e_iload n136_190 rfl ?_
  refine am_e_iconst (w := 1) n136_191 rfl ?_
  refine am_e_iadd (w := 1) n136_192 (by decide) ?_
  refine am_e_sald1 n136_193 rfl (by decide) (by decide) hx1 ?_
  refine am_e_sload_n n136_194 rfl ?_
  refine am_e_iload n136_195 rfl ?_
  refine am_e_iconst (w := 2) n136_196 rfl ?_
  refine am_e_iadd (w := 2) n136_197 (by decide) ?_
  refine am_e_sald1 n136_198 rfl (by decide) (by decide) hx2 ?_
  refine am_e_callV (L := [(0, .ref 0), (1, .int 2), (2, .int a2)]) n136_199 rfl rfl rfl rfl rfl rfl rfl rfl ?_
  refine am_e_iload_n n29_0 rfl ?_
  refine am_e_ifT n29_1 (am_c_neT (by decide)) t29_1 ?_
  refine am_e_iload_n n29_7 rfl ?_
  refine am_e_iconst (w := 1) n29_8 rfl ?_
  refine am_e_cmpT n29_9 (am_c_neT (by decide)) t29_9 ?_
  refine am_e_iload_n n29_15 rfl ?_
  refine am_e_iconst (w := 2) n29_16 rfl ?_
  refine am_e_cmpF n29_17 (am_c_neF (by decide)) ?_
  refine am_e_iconst (w := 1) n29_18 rfl ?_
  refine am_e_goto c29_19 t29_19 ?_
  refine am_e_istore_n (ls' := [(3, .int 1), (0, .ref 0), (1, .int 2), (2, .int a2)]) n29_21 rfl rfl ?_
  refine am_e_iload_n n29_22 rfl ?_
  refine am_e_ifT n29_23 (am_c_neT (by decide)) t29_23 ?_
  refine am_e_aload_n n29_26 rfl ?_
  refine am_e_getf (v := .ref 148) n29_27 rfl (f0_11 (h := h) hT) ?_
  refine am_e_aload_n n29_28 rfl ?_
  refine am_e_getf (v := .ref 2) n29_29 rfl (f0_2 (h := h) hT) ?_
  refine am_e_aload_n n29_30 rfl ?_
  refine am_e_getf (v := .ref 48) n29_31 rfl (f0_5 (h := h) hT) ?_
  refine am_e_callV (L := [(0, .ref 148), (1, .ref 2), (2, .ref 48)]) n29_32 rfl rfl rfl rfl rfl rfl rfl rfl ?_
  refine am_e_aload_n n31_0 rfl ?_
  refine am_e_aload_n n31_1 rfl ?_
  refine am_e_putf n31_2 rfl rfl ?_
  refine am_e_aload_n n31_3 rfl ?_
  refine am_e_getf (v := .ref 149) n31_4 rfl (f148_1 (h := h) hT) ?_
  refine am_e_aload_n n31_5 rfl ?_
  refine am_e_callV (L := [(0, .ref 149), (1, .ref 48)]) n31_6 rfl rfl rfl rfl rfl rfl rfl rfl ?_
  refine am_e_aload_n n32_0 rfl ?_
  refine am_e_aload_n n32_1 rfl ?_
  refine am_e_getf (v := .int 0) n32_2 rfl (f48_0 (h := h) hT) ?_
  refine am_e_putf n32_3 rfl rfl ?_
  refine am_e_aload_n n32_4 rfl ?_
  refine am_e_aload_n n32_5 rfl ?_
  refine am_e_getf (v := .int 0) n32_6 rfl (f48_1 (h := h) hT) ?_
  refine am_e_putf n32_7 rfl rfl ?_
  refine am_e_aload_n n32_8 rfl ?_
  refine am_e_aload_n n32_9 rfl ?_
  refine am_e_getf (v := .int (-1)) n32_10 rfl (f48_2 (h := h) hT) ?_
  refine am_e_putf n32_11 rfl rfl ?_
  refine am_e_aload_n n32_12 rfl ?_
  refine am_e_aload_n n32_13 rfl ?_
  refine am_e_getf (v := .int 0) n32_14 rfl (f48_3 (h := h) hT) ?_
  refine am_e_putf n32_15 rfl rfl ?_
  refine am_e_aload_n n32_16 rfl ?_
  refine am_e_aload_n n32_17 rfl ?_
  refine am_e_getf (v := .int 0) n32_18 rfl (f48_4 (h := h) hT) ?_
  refine am_e_putf n32_19 rfl rfl ?_
  refine am_e_iconst (w := 0) n32_20 rfl ?_
  refine am_e_istore_n (ls' := [(2, .int 0), (0, .ref 149), (1, .ref 48)]) n32_21 rfl rfl ?_
  refine am_e_iload_n n32_22 rfl ?_
  refine am_e_iconst (w := 4) n32_23 rfl ?_
  refine am_e_cmpF n32_24 (am_c_geF (by decide)) ?_
  refine am_e_aload_n n32_25 rfl ?_
  refine am_e_getf (v := .ref 150) n32_26 rfl (f149_5 (h := h) hT) ?_
  refine am_e_iload_n n32_27 rfl ?_
  refine am_e_aload_n n32_28 rfl ?_
  refine am_e_getf (v := .ref 49) n32_29 rfl (f48_5 (h := h) hT) ?_
  refine am_e_iload_n n32_30 rfl ?_
  refine am_e_iaload (v := 0) (q := 0) n32_31 rfl (by decide) (by decide) (f49_0 (h := h) hT) ?_
  refine am_e_iastore (q := 0) n32_32 rfl (by decide) (by decide) ?_
  refine am_e_aload_n n32_33 rfl ?_
  refine am_e_getf (v := .ref 151) n32_34 rfl (f149_6 (h := h) hT) ?_
  refine am_e_iload_n n32_35 rfl ?_
  refine am_e_aload_n n32_36 rfl ?_
  refine am_e_getf (v := .ref 50) n32_37 rfl (f48_6 (h := h) hT) ?_
  refine am_e_iload_n n32_38 rfl ?_
  refine am_e_iaload (v := 0) (q := 0) n32_39 rfl (by decide) (by decide) (f50_0 (h := h) hT) ?_
  refine am_e_iastore (q := 0) n32_40 rfl (by decide) (by decide) ?_
  refine am_e_aload_n n32_41 rfl ?_
  refine am_e_getf (v := .ref 152) n32_42 rfl (f149_7 (h := h) hT) ?_
  refine am_e_iload_n n32_43 rfl ?_
  refine am_e_aload_n n32_44 rfl ?_
  refine am_e_getf (v := .ref 51) n32_45 rfl (f48_7 (h := h) hT) ?_
  refine am_e_iload_n n32_46 rfl ?_
  refine am_e_iaload (v := 0) (q := 0) n32_47 rfl (by decide) (by decide) (f51_0 (h := h) hT) ?_
  refine am_e_iastore (q := 0) n32_48 rfl (by decide) (by decide) ?_
  refine am_e_iinc (w := 1) (ls' := [(2, .int 1), (0, .ref 149), (1, .ref 48)]) n32_49 rfl rfl (by decide) rfl ?_
  refine am_e_goto c32_50 t32_50 ?_
  refine am_e_iload_n n32_22 rfl ?_
  refine am_e_iconst (w := 4) n32_23 rfl ?_
  refine am_e_cmpF n32_24 (am_c_geF (by decide)) ?_
  refine am_e_aload_n n32_25 rfl ?_
  refine am_e_getf (v := .ref 150) n32_26 rfl (f149_5 (h := h) hT) ?_
  refine am_e_iload_n n32_27 rfl ?_
  refine am_e_aload_n n32_28 rfl ?_
  refine am_e_getf (v := .ref 49) n32_29 rfl (f48_5 (h := h) hT) ?_
  refine am_e_iload_n n32_30 rfl ?_
  refine am_e_iaload (v := 0) (q := 1) n32_31 rfl (by decide) (by decide) (f49_1 (h := h) hT) ?_
  refine am_e_iastore (q := 1) n32_32 rfl (by decide) (by decide) ?_
  refine am_e_aload_n n32_33 rfl ?_
  refine am_e_getf (v := .ref 151) n32_34 rfl (f149_6 (h := h) hT) ?_
  refine am_e_iload_n n32_35 rfl ?_
  refine am_e_aload_n n32_36 rfl ?_
  refine am_e_getf (v := .ref 50) n32_37 rfl (f48_6 (h := h) hT) ?_
  refine am_e_iload_n n32_38 rfl ?_
  refine am_e_iaload (v := 0) (q := 1) n32_39 rfl (by decide) (by decide) (f50_1 (h := h) hT) ?_
  refine am_e_iastore (q := 1) n32_40 rfl (by decide) (by decide) ?_
  refine am_e_aload_n n32_41 rfl ?_
  refine am_e_getf (v := .ref 152) n32_42 rfl (f149_7 (h := h) hT) ?_
  refine am_e_iload_n n32_43 rfl ?_
  refine am_e_aload_n n32_44 rfl ?_
  refine am_e_getf (v := .ref 51) n32_45 rfl (f48_7 (h := h) hT) ?_
  refine am_e_iload_n n32_46 rfl ?_
  refine am_e_iaload (v := 0) (q := 1) n32_47 rfl (by decide) (by decide) (f51_1 (h := h) hT) ?_
  refine am_e_iastore (q := 1) n32_48 rfl (by decide) (by decide) ?_
  refine am_e_iinc (w := 2) (ls' := [(2, .int 2), (0, .ref 149), (1, .ref 48)]) n32_49 rfl rfl (by decide) rfl ?_
  refine am_e_goto c32_50 t32_50 ?_
  refine am_e_iload_n n32_22 rfl ?_
  refine am_e_iconst (w := 4) n32_23 rfl ?_
  refine am_e_cmpF n32_24 (am_c_geF (by decide)) ?_
  refine am_e_aload_n n32_25 rfl ?_
  refine am_e_getf (v := .ref 150) n32_26 rfl (f149_5 (h := h) hT) ?_
  refine am_e_iload_n n32_27 rfl ?_
  refine am_e_aload_n n32_28 rfl ?_
  refine am_e_getf (v := .ref 49) n32_29 rfl (f48_5 (h := h) hT) ?_
  refine am_e_iload_n n32_30 rfl ?_
  refine am_e_iaload (v := 0) (q := 2) n32_31 rfl (by decide) (by decide) (f49_2 (h := h) hT) ?_
  refine am_e_iastore (q := 2) n32_32 rfl (by decide) (by decide) ?_
  refine am_e_aload_n n32_33 rfl ?_
  refine am_e_getf (v := .ref 151) n32_34 rfl (f149_6 (h := h) hT) ?_
  refine am_e_iload_n n32_35 rfl ?_
  refine am_e_aload_n n32_36 rfl ?_
  refine am_e_getf (v := .ref 50) n32_37 rfl (f48_6 (h := h) hT) ?_
  refine am_e_iload_n n32_38 rfl ?_
  refine am_e_iaload (v := 0) (q := 2) n32_39 rfl (by decide) (by decide) (f50_2 (h := h) hT) ?_
  refine am_e_iastore (q := 2) n32_40 rfl (by decide) (by decide) ?_
  refine am_e_aload_n n32_41 rfl ?_
  refine am_e_getf (v := .ref 152) n32_42 rfl (f149_7 (h := h) hT) ?_
  refine am_e_iload_n n32_43 rfl ?_
  refine am_e_aload_n n32_44 rfl ?_
  refine am_e_getf (v := .ref 51) n32_45 rfl (f48_7 (h := h) hT) ?_
  refine am_e_iload_n n32_46 rfl ?_
  refine am_e_iaload (v := 0) (q := 2) n32_47 rfl (by decide) (by decide) (f51_2 (h := h) hT) ?_
  refine am_e_iastore (q := 2) n32_48 rfl (by decide) (by decide) ?_
  refine am_e_iinc (w := 3) (ls' := [(2, .int 3), (0, .ref 149), (1, .ref 48)]) n32_49 rfl rfl (by decide) rfl ?_
  refine am_e_goto c32_50 t32_50 ?_
  refine am_e_iload_n n32_22 rfl ?_
  refine am_e_iconst (w := 4) n32_23 rfl ?_
  refine am_e_cmpF n32_24 (am_c_geF (by decide)) ?_
  refine am_e_aload_n n32_25 rfl ?_
  refine am_e_getf (v := .ref 150) n32_26 rfl (f149_5 (h := h) hT) ?_
  refine am_e_iload_n n32_27 rfl ?_
  refine am_e_aload_n n32_28 rfl ?_
  refine am_e_getf (v := .ref 49) n32_29 rfl (f48_5 (h := h) hT) ?_
  refine am_e_iload_n n32_30 rfl ?_
  refine am_e_iaload (v := 0) (q := 3) n32_31 rfl (by decide) (by decide) (f49_3 (h := h) hT) ?_
  refine am_e_iastore (q := 3) n32_32 rfl (by decide) (by decide) ?_
  refine am_e_aload_n n32_33 rfl ?_
  refine am_e_getf (v := .ref 151) n32_34 rfl (f149_6 (h := h) hT) ?_
  refine am_e_iload_n n32_35 rfl ?_
  refine am_e_aload_n n32_36 rfl ?_
  refine am_e_getf (v := .ref 50) n32_37 rfl (f48_6 (h := h) hT) ?_
  refine am_e_iload_n n32_38 rfl ?_
  refine am_e_iaload (v := 0) (q := 3) n32_39 rfl (by decide) (by decide) (f50_3 (h := h) hT) ?_
  refine am_e_iastore (q := 3) n32_40 rfl (by decide) (by decide) ?_
  refine am_e_aload_n n32_41 rfl ?_
  refine am_e_getf (v := .ref 152) n32_42 rfl (f149_7 (h := h) hT) ?_
  refine am_e_iload_n n32_43 rfl ?_
  refine am_e_aload_n n32_44 rfl ?_
  refine am_e_getf (v := .ref 51) n32_45 rfl (f48_7 (h := h) hT) ?_
  refine am_e_iload_n n32_46 rfl ?_
  refine am_e_iaload (v := 0) (q := 3) n32_47 rfl (by decide) (by decide) (f51_3 (h := h) hT) ?_
  refine am_e_iastore (q := 3) n32_48 rfl (by decide) (by decide) ?_
  refine am_e_iinc (w := 4) (ls' := [(2, .int 4), (0, .ref 149), (1, .ref 48)]) n32_49 rfl rfl (by decide) rfl ?_
  refine am_e_goto c32_50 t32_50 ?_
  refine am_e_iload_n n32_22 rfl ?_
  refine am_e_iconst (w := 4) n32_23 rfl ?_
  refine am_e_cmpT n32_24 (am_c_geT (by decide)) t32_24 ?_
  refine am_e_vret c32_51 rfl rfl ?_
  refine am_e_aload_n n31_7 rfl ?_
  refine am_e_aload_n n31_8 rfl ?_
  refine am_e_getf (v := .int (-1)) n31_9 rfl (f2_18 (h := h) hT) ?_
  refine am_e_putf n31_10 rfl rfl ?_
  refine am_e_aload_n n31_11 rfl ?_
  refine am_e_iconst (w := 0) n31_12 rfl ?_
  refine am_e_putf n31_13 rfl rfl ?_
  refine am_e_aload_n n31_14 rfl ?_
  refine am_e_iconst (w := 0) n31_15 rfl ?_
  refine am_e_putf n31_16 rfl rfl ?_
  refine am_e_aload_n n31_17 rfl ?_
  refine am_e_ldc (w := 2147483647) n31_18 (by decide) ?_
  refine am_e_putf n31_19 rfl rfl ?_
  refine am_e_aload_n n31_20 rfl ?_
  refine am_e_ldc (w := 2147483647) n31_21 (by decide) ?_
  refine am_e_putf n31_22 rfl rfl ?_
  refine am_e_vret c31_23 rfl rfl ?_
  refine am_e_aload_n n29_33 rfl ?_
  refine am_e_getf (v := .ref 148) n29_34 rfl (f0_11 (h := h) hT) ?_
  refine am_e_iload_n n29_35 rfl ?_
  refine am_e_iload_n n29_36 rfl ?_
  refine am_e_ifT n29_37 (am_c_neT (by decide)) t29_37 ?_
  refine am_e_iconst (w := 0) n29_40 rfl ?_
  refine am_e_iload_n n29_41 rfl ?_
  refine am_e_iconst (w := 1) n29_42 rfl ?_
  refine am_e_cmpT n29_43 (am_c_neT (by decide)) t29_43 ?_
  refine am_e_iconst (w := 0) n29_46 rfl ?_
  refine am_e_callV (L := [(0, .ref 148), (1, .int 2), (2, .int 0), (3, .int 0)]) n29_47 rfl rfl rfl rfl rfl rfl rfl rfl ?_
  refine am_e_aload_n n33_0 rfl ?_
  refine am_e_getf (v := .ref 2) n33_1 rfl rfl ?_
  refine am_e_getf (v := .ref 11) n33_2 rfl (f2_19 (h := h) hT) ?_
  refine am_e_astore (ls' := [(4, .ref 11), (0, .ref 148), (1, .int 2), (2, .int 0), (3, .int 0)]) n33_3 rfl rfl ?_
  refine am_e_aload n33_4 rfl ?_
  refine am_e_getf (v := .ref 17) n33_5 rfl (f11_7 (h := h) hT) ?_
  refine am_e_iconst (w := 1) n33_6 rfl ?_
  refine am_e_aload_n n33_7 rfl ?_
  refine am_e_getf (v := .ref 149) n33_8 rfl (f148_1 (h := h) hT) ?_
  refine am_e_getf (v := .int 0) n33_9 rfl rfl ?_
  refine am_e_i2l (w := 0) n33_10 (by decide) ?_
  refine am_e_lastore (q := 1) n33_11 rfl (by decide) (by decide) ?_
  refine am_e_aload n33_12 rfl ?_
  refine am_e_getf (v := .ref 17) n33_13 rfl (f11_7 (h := h) hT) ?_
  refine am_e_iconst (w := 2) n33_14 rfl ?_
  refine am_e_aload_n n33_15 rfl ?_
  refine am_e_getf (v := .ref 2) n33_16 rfl rfl ?_
  refine am_e_getf (v := .int 500) n33_17 rfl (f2_0 (h := h) hT) ?_
  refine am_e_aload_n n33_18 rfl ?_
  refine am_e_getf (v := .ref 149) n33_19 rfl (f148_1 (h := h) hT) ?_
  refine am_e_getf (v := .int 0) n33_20 rfl rfl ?_
  refine am_e_isub (w := 500) n33_21 (by decide) ?_
  refine am_e_i2l (w := 500) n33_22 (by decide) ?_
  refine am_e_lastore (q := 2) n33_23 rfl (by decide) (by decide) ?_
  refine am_e_aload n33_24 rfl ?_
  refine am_e_getf (v := .ref 17) n33_25 rfl (f11_7 (h := h) hT) ?_
  refine am_e_iconst (w := 3) n33_26 rfl ?_
  refine am_e_iload_n n33_27 rfl ?_
  refine am_e_i2l (w := 0) n33_28 (by decide) ?_
  refine am_e_lastore (q := 3) n33_29 rfl (by decide) (by decide) ?_
  refine am_e_aload n33_30 rfl ?_
  refine am_e_getf (v := .ref 17) n33_31 rfl (f11_7 (h := h) hT) ?_
  refine am_e_iconst (w := 4) n33_32 rfl ?_
  refine am_e_aload_n n33_33 rfl ?_
  refine am_e_getf (v := .ref 149) n33_34 rfl (f148_1 (h := h) hT) ?_
  refine am_e_getf (v := .int 0) n33_35 rfl rfl ?_
  refine am_e_i2l (w := 0) n33_36 (by decide) ?_
  refine am_e_lastore (q := 4) n33_37 rfl (by decide) (by decide) ?_
  refine am_e_aload n33_38 rfl ?_
  refine am_e_getf (v := .ref 17) n33_39 rfl (f11_7 (h := h) hT) ?_
  refine am_e_iconst (w := 0) n33_40 rfl ?_
  refine am_e_lconst (w := 0) n33_41 rfl ?_
  refine am_e_lastore (q := 0) n33_42 rfl (by decide) (by decide) ?_
  refine am_e_aload n33_43 rfl ?_
  refine am_e_getf (v := .ref 17) n33_44 rfl (f11_7 (h := h) hT) ?_
  refine am_e_iconst (w := 5) n33_45 rfl ?_
  refine am_e_lconst (w := 0) n33_46 rfl ?_
  refine am_e_lastore (q := 5) n33_47 rfl (by decide) (by decide) ?_
  refine am_e_iload_n n33_48 rfl ?_
  refine am_e_iconst (w := 2) n33_49 rfl ?_
  refine am_e_cmpT n33_50 (am_c_eqT (by decide)) t33_50 ?_
  refine am_e_aload n33_70 rfl ?_
  refine am_e_getf (v := .ref 17) n33_71 rfl (f11_7 (h := h) hT) ?_
  refine am_e_iconst (w := 5) n33_72 rfl ?_
  refine am_e_iload_n n33_73 rfl ?_
  refine am_e_i2l (w := 0) n33_74 (by decide) ?_
  refine am_e_lastore (q := 5) n33_75 rfl (by decide) (by decide) ?_
  refine am_e_aload n33_76 rfl ?_
  refine am_e_iload_n n33_77 rfl ?_
  refine am_e_callV (L := [(0, .ref 11), (1, .int 2)]) n33_78 rfl rfl rfl rfl rfl rfl rfl rfl ?_
  refine am_e_iconst (w := 0) n34_0 rfl ?_
  refine am_e_istore_n (ls' := [(2, .int 0), (0, .ref 11), (1, .int 2)]) n34_1 rfl rfl ?_
  refine am_e_aload_n n34_2 rfl ?_
  refine am_e_getf (v := .ref 14) n34_3 rfl (f11_4 (h := h) hT) ?_
  refine am_e_iload_n n34_4 rfl ?_
  refine am_e_iaload (v := 0) (q := 2) n34_5 rfl (by decide) (by decide) (f14_2 (h := h) hT) ?_
  refine am_e_istore_n (ls' := [(3, .int 0), (2, .int 0), (0, .ref 11), (1, .int 2)]) n34_6 rfl rfl ?_
  refine am_e_iload_n n34_7 rfl ?_
  refine am_e_aload_n n34_8 rfl ?_
  refine am_e_getf (v := .ref 15) n34_9 rfl (f11_5 (h := h) hT) ?_
  refine am_e_iload_n n34_10 rfl ?_
  refine am_e_iaload (v := 0) (q := 2) n34_11 rfl (by decide) (by decide) (f15_2 (h := h) hT) ?_
  refine am_e_cmpT n34_12 (am_c_geT (by decide)) t34_12 ?_
  refine am_e_iload_n n34_114 rfl ?_
  refine am_e_iconst (w := 1) n34_115 rfl ?_
  refine am_e_cmpT n34_116 (am_c_neT (by decide)) t34_116 ?_
  refine am_e_ldc2 (w := (-9223372036854775808)) n34_122 (by decide) ?_
  refine am_e_lret c34_123 rfl rfl ?_
  refine am_e_lret c33_79 rfl rfl ?_
  refine am_e_lret c29_48 rfl rfl ?_
  refine am_e_aload_n n136_200 rfl ?_
  refine am_e_sload_n n136_201 rfl ?_
  refine am_e_iload n136_202 rfl ?_
  refine am_e_iconst (w := 1) n136_203 rfl ?_
  refine am_e_iadd (w := 1) n136_204 (by decide) ?_
  refine am_e_sald1 n136_205 rfl (by decide) (by decide) hx1 ?_
  refine am_e_sload_n n136_206 rfl ?_
  refine am_e_iload n136_207 rfl ?_
  refine am_e_iconst (w := 2) n136_208 rfl ?_
  refine am_e_iadd (w := 2) n136_209 (by decide) ?_
  refine am_e_sald1 n136_210 rfl (by decide) (by decide) hx2 ?_
  refine am_e_callV (L := [(0, .ref 164), (1, .int 2), (2, .int a2)]) n136_211 rfl rfl rfl rfl rfl rfl rfl rfl ?_
  refine am_e_aload_n n92_0 rfl ?_
  refine am_e_iconst (w := 0) n92_1 rfl ?_
  refine am_e_putf n92_2 rfl rfl ?_
  refine am_e_iload_n n92_3 rfl ?_
  refine am_e_iconst (w := 0) n92_4 rfl ?_
  refine am_e_iconst (w := 2) n92_5 rfl ?_
  refine am_e_callS (L := [(0, .int 2), (1, .int 0), (2, .int 2)]) n92_6 rfl rfl rfl rfl rfl rfl rfl ?_
  refine am_e_iload_n n87_0 rfl ?_
  refine am_e_iload_n n87_1 rfl ?_
  refine am_e_cmpF n87_2 (am_c_ltF (by decide)) ?_
  refine am_e_iload_n n87_3 rfl ?_
  refine am_e_iload_n n87_4 rfl ?_
  refine am_e_cmpF n87_5 (am_c_gtF (by decide)) ?_
  refine am_e_iconst (w := 1) n87_6 rfl ?_
  refine am_e_goto c87_7 t87_7 ?_
  refine am_e_iret c87_9 rfl rfl rfl ?_
  refine am_e_ifF n92_7 (am_c_eqF (by decide)) ?_
  refine am_e_iload_n n92_8 rfl ?_
  refine am_e_ifT n92_9 (am_c_neT (by decide)) t92_9 ?_
  refine am_e_iload_n n92_15 rfl ?_
  refine am_e_iconst (w := 1) n92_16 rfl ?_
  refine am_e_cmpT n92_17 (am_c_neT (by decide)) t92_17 ?_
  refine am_e_iload_n n92_25 rfl ?_
  refine am_e_istore_n (ls' := [(3, .int 2), (0, .ref 164), (1, .int 2), (2, .int a2)]) n92_26 rfl rfl ?_
  refine am_e_aload_n n92_27 rfl ?_
  refine am_e_getf (v := .ref 178) n92_28 rfl (f164_33 (h := h) hT) ?_
  refine am_e_iload_n n92_29 rfl ?_
  refine am_e_baload (v := 0) (q := 2) n92_30 rfl (by decide) (by decide) (f178_2 (h := h) hT) ?_
  refine am_e_ifF n92_31 (am_c_neF (by decide)) ?_
  refine am_e_ldc2 (w := (-9223372036854775808)) n92_32 (by decide) ?_
  refine am_e_lret c92_33 rfl rfl ?_
  refine am_e_lcmp (w := 0) n136_212 (by decide) ?_
  refine am_e_ifT n136_213 (am_c_eqT (by decide)) t136_213 ?_
  exact K _
theorem am_op5_m {lk : List Value → List am_k → am_H → Option am_O} {xs : Nat → Int32} {h : am_H} {Q : Option Value → List am_k → am_H → Prop} {a1 : Int32} {a2 : Int32} {a3 : Int32} {a4 : Int32} {a5 : Int32} (ha : (a1 : Int32) < 0) (hT : am_T h) (hx1 : xs 1 = a1) (hx2 : xs 2 = a2) (hx3 : xs 3 = a3) (hx4 : xs 4 = a4) (hx5 : xs 5 = a5) (K : ∀ h', am_Ek false (am_P1 (some (6, xs)) lk) am_m136 841 [(4, .int 0), (3, .ref 202), (2, .ref 164), (1, .ref 0), (0, .retAddr 0)] [] am_ks0 h' 203 4392 Q) : am_Ek false (am_P1 (some (6, xs)) lk) am_m136 188 [(4, .int 0), (3, .ref 202), (2, .ref 164), (1, .ref 0), (0, .retAddr 0)] [] am_ks0 h 203 4392 Q := by
  refine am_e_aload_n n136_188 rfl ?_
  refine am_e_sload_n n136_189 rfl ?_
  refine am_e_iload n136_190 rfl ?_
  refine am_e_iconst (w := 1) n136_191 rfl ?_
  refine am_e_iadd (w := 1) n136_192 (by decide) ?_
  refine am_e_sald1 n136_193 rfl (by decide) (by decide) hx1 ?_
  refine am_e_sload_n n136_194 rfl ?_
  refine am_e_iload n136_195 rfl ?_
  refine am_e_iconst (w := 2) n136_196 rfl ?_
  refine am_e_iadd (w := 2) n136_197 (by decide) ?_
  refine am_e_sald1 n136_198 rfl (by decide) (by decide) hx2 ?_
  refine am_e_callV (L := [(0, .ref 0), (1, .int a1), (2, .int a2)]) n136_199 rfl rfl rfl rfl rfl rfl rfl rfl ?_
  refine am_e_iload_n n29_0 rfl ?_
  refine am_e_ifT n29_1 (am_c_neT (fun q => absurd ha (by rw [q]; decide))) t29_1 ?_
  refine am_e_iload_n n29_7 rfl ?_
  refine am_e_iconst (w := 1) n29_8 rfl ?_
  refine am_e_cmpT n29_9 (am_c_neT (fun q => absurd ha (by rw [q]; decide))) t29_9 ?_
  refine am_e_iload_n n29_15 rfl ?_
  refine am_e_iconst (w := 2) n29_16 rfl ?_
  refine am_e_cmpT n29_17 (am_c_neT (fun q => absurd ha (by rw [q]; decide))) t29_17 ?_
  refine am_e_iconst (w := 0) n29_20 rfl ?_
  refine am_e_istore_n (ls' := [(3, .int 0), (0, .ref 0), (1, .int a1), (2, .int a2)]) n29_21 rfl rfl ?_
  refine am_e_iload_n n29_22 rfl ?_
  refine am_e_ifF n29_23 (am_c_neF (by decide)) ?_
  refine am_e_ldc2 (w := (-9223372036854775808)) n29_24 (by decide) ?_
  refine am_e_lret c29_25 rfl rfl ?_
  refine am_e_aload_n n136_200 rfl ?_
  refine am_e_sload_n n136_201 rfl ?_
  refine am_e_iload n136_202 rfl ?_
  refine am_e_iconst (w := 1) n136_203 rfl ?_
  refine am_e_iadd (w := 1) n136_204 (by decide) ?_
  refine am_e_sald1 n136_205 rfl (by decide) (by decide) hx1 ?_
  refine am_e_sload_n n136_206 rfl ?_
  refine am_e_iload n136_207 rfl ?_
  refine am_e_iconst (w := 2) n136_208 rfl ?_
  refine am_e_iadd (w := 2) n136_209 (by decide) ?_
  refine am_e_sald1 n136_210 rfl (by decide) (by decide) hx2 ?_
  refine am_e_callV (L := [(0, .ref 164), (1, .int a1), (2, .int a2)]) n136_211 rfl rfl rfl rfl rfl rfl rfl rfl ?_
  refine am_e_aload_n n92_0 rfl ?_
  refine am_e_iconst (w := 0) n92_1 rfl ?_
  refine am_e_putf n92_2 rfl rfl ?_
  refine am_e_iload_n n92_3 rfl ?_
  refine am_e_iconst (w := 0) n92_4 rfl ?_
  refine am_e_iconst (w := 2) n92_5 rfl ?_
  refine am_e_callS (L := [(0, .int a1), (1, .int 0), (2, .int 2)]) n92_6 rfl rfl rfl rfl rfl rfl rfl ?_
  refine am_e_iload_n n87_0 rfl ?_
  refine am_e_iload_n n87_1 rfl ?_
  refine am_e_cmpT n87_2 (am_c_ltT ha) t87_2 ?_
  refine am_e_iconst (w := 0) n87_8 rfl ?_
  refine am_e_iret c87_9 rfl rfl rfl ?_
  refine am_e_ifT n92_7 (am_c_eqT (by decide)) t92_7 ?_
  refine am_e_ldc2 (w := (-9223372036854775808)) n92_23 (by decide) ?_
  refine am_e_lret c92_24 rfl rfl ?_
  refine am_e_lcmp (w := 0) n136_212 (by decide) ?_
  refine am_e_ifT n136_213 (am_c_eqT (by decide)) t136_213 ?_
  exact K _
theorem am_op5_p {lk : List Value → List am_k → am_H → Option am_O} {xs : Nat → Int32} {h : am_H} {Q : Option Value → List am_k → am_H → Prop} {a1 : Int32} {a2 : Int32} {a3 : Int32} {a4 : Int32} {a5 : Int32} (ha : (2 : Int32) < a1) (hT : am_T h) (hx1 : xs 1 = a1) (hx2 : xs 2 = a2) (hx3 : xs 3 = a3) (hx4 : xs 4 = a4) (hx5 : xs 5 = a5) (K : ∀ h', am_Ek false (am_P1 (some (6, xs)) lk) am_m136 841 [(4, .int 0), (3, .ref 202), (2, .ref 164), (1, .ref 0), (0, .retAddr 0)] [] am_ks0 h' 203 4392 Q) : am_Ek false (am_P1 (some (6, xs)) lk) am_m136 188 [(4, .int 0), (3, .ref 202), (2, .ref 164), (1, .ref 0), (0, .retAddr 0)] [] am_ks0 h 203 4392 Q := by
  refine am_e_aload_n n136_188 rfl ?_
  refine am_e_sload_n n136_189 rfl ?_
  refine am_e_iload n136_190 rfl ?_
  refine am_e_iconst (w := 1) n136_191 rfl ?_
  refine am_e_iadd (w := 1) n136_192 (by decide) ?_
  refine am_e_sald1 n136_193 rfl (by decide) (by decide) hx1 ?_
  refine am_e_sload_n n136_194 rfl ?_
  refine am_e_iload n136_195 rfl ?_
  refine am_e_iconst (w := 2) n136_196 rfl ?_
  refine am_e_iadd (w := 2) n136_197 (by decide) ?_
  refine am_e_sald1 n136_198 rfl (by decide) (by decide) hx2 ?_
  refine am_e_callV (L := [(0, .ref 0), (1, .int a1), (2, .int a2)]) n136_199 rfl rfl rfl rfl rfl rfl rfl rfl ?_
  refine am_e_iload_n n29_0 rfl ?_
  refine am_e_ifT n29_1 (am_c_neT (fun q => absurd ha (by rw [q]; decide))) t29_1 ?_
  refine am_e_iload_n n29_7 rfl ?_
  refine am_e_iconst (w := 1) n29_8 rfl ?_
  refine am_e_cmpT n29_9 (am_c_neT (fun q => absurd ha (by rw [q]; decide))) t29_9 ?_
  refine am_e_iload_n n29_15 rfl ?_
  refine am_e_iconst (w := 2) n29_16 rfl ?_
  refine am_e_cmpT n29_17 (am_c_neT (fun q => absurd ha (by rw [q]; decide))) t29_17 ?_
  refine am_e_iconst (w := 0) n29_20 rfl ?_
  refine am_e_istore_n (ls' := [(3, .int 0), (0, .ref 0), (1, .int a1), (2, .int a2)]) n29_21 rfl rfl ?_
  refine am_e_iload_n n29_22 rfl ?_
  refine am_e_ifF n29_23 (am_c_neF (by decide)) ?_
  refine am_e_ldc2 (w := (-9223372036854775808)) n29_24 (by decide) ?_
  refine am_e_lret c29_25 rfl rfl ?_
  refine am_e_aload_n n136_200 rfl ?_
  refine am_e_sload_n n136_201 rfl ?_
  refine am_e_iload n136_202 rfl ?_
  refine am_e_iconst (w := 1) n136_203 rfl ?_
  refine am_e_iadd (w := 1) n136_204 (by decide) ?_
  refine am_e_sald1 n136_205 rfl (by decide) (by decide) hx1 ?_
  refine am_e_sload_n n136_206 rfl ?_
  refine am_e_iload n136_207 rfl ?_
  refine am_e_iconst (w := 2) n136_208 rfl ?_
  refine am_e_iadd (w := 2) n136_209 (by decide) ?_
  refine am_e_sald1 n136_210 rfl (by decide) (by decide) hx2 ?_
  refine am_e_callV (L := [(0, .ref 164), (1, .int a1), (2, .int a2)]) n136_211 rfl rfl rfl rfl rfl rfl rfl rfl ?_
  refine am_e_aload_n n92_0 rfl ?_
  refine am_e_iconst (w := 0) n92_1 rfl ?_
  refine am_e_putf n92_2 rfl rfl ?_
  refine am_e_iload_n n92_3 rfl ?_
  refine am_e_iconst (w := 0) n92_4 rfl ?_
  refine am_e_iconst (w := 2) n92_5 rfl ?_
  refine am_e_callS (L := [(0, .int a1), (1, .int 0), (2, .int 2)]) n92_6 rfl rfl rfl rfl rfl rfl rfl ?_
  refine am_e_iload_n n87_0 rfl ?_
  refine am_e_iload_n n87_1 rfl ?_
  refine am_e_cmpF n87_2 (am_c_ltF (am_lt_as (by decide) ha)) ?_
  refine am_e_iload_n n87_3 rfl ?_
  refine am_e_iload_n n87_4 rfl ?_
  refine am_e_cmpT n87_5 (am_c_gtT ha) t87_5 ?_
  refine am_e_iconst (w := 0) n87_8 rfl ?_
  refine am_e_iret c87_9 rfl rfl rfl ?_
  refine am_e_ifT n92_7 (am_c_eqT (by decide)) t92_7 ?_
  refine am_e_ldc2 (w := (-9223372036854775808)) n92_23 (by decide) ?_
  refine am_e_lret c92_24 rfl rfl ?_
  refine am_e_lcmp (w := 0) n136_212 (by decide) ?_
  refine am_e_ifT n136_213 (am_c_eqT (by decide)) t136_213 ?_
  exact K _
theorem am_op32_0 {lk : List Value → List am_k → am_H → Option am_O} {xs : Nat → Int32} {h : am_H} {Q : Option Value → List am_k → am_H → Prop} {a2 : Int32} {a3 : Int32} {a4 : Int32} {a5 : Int32} (hT : am_T h) (hx1 : xs 1 = 0) (hx2 : xs 2 = a2) (hx3 : xs 3 = a3) (hx4 : xs 4 = a4) (hx5 : xs 5 = a5) (K : ∀ h', am_Ek false (am_P1 (some (6, xs)) lk) am_m136 841 [(4, .int 0), (3, .ref 202), (2, .ref 164), (1, .ref 0), (0, .retAddr 0)] [] am_ks0 h' 203 4392 Q) : am_Ek false (am_P1 (some (6, xs)) lk) am_m136 824 [(4, .int 0), (3, .ref 202), (2, .ref 164), (1, .ref 0), (0, .retAddr 0)] [] am_ks0 h 203 4392 Q := by
  refine am_e_aload_n n136_824 rfl ?_
  refine am_e_sload_n n136_825 rfl ?_
  refine am_e_iload n136_826 rfl ?_
  refine am_e_iconst (w := 1) n136_827 rfl ?_
  refine am_e_iadd (w := 1) n136_828 (by decide) ?_
  refine am_e_sald1 n136_829 rfl (by decide) (by decide) hx1 ?_
  refine am_e_callV (L := [(0, .ref 0), (1, .int 0)]) n136_830 rfl rfl rfl rfl rfl rfl rfl rfl ?_
  refine am_e_iload_n n76_0 rfl ?_
  refine am_e_swI (off := 71) c76_1 (by decide) (by decide) s76_1_71 ?_
  refine am_e_aload_n n76_2 rfl ?_
  refine am_e_getf (v := .ref 2) n76_3 rfl (f0_2 (h := h) hT) ?_
  refine am_e_getf (v := .int 500) n76_4 rfl (f2_0 (h := h) hT) ?_
  refine am_e_iret c76_5 rfl rfl rfl ?_
  refine am_e_aload_n n136_831 rfl ?_
  refine am_e_sload_n n136_832 rfl ?_
  refine am_e_iload n136_833 rfl ?_
  refine am_e_iconst (w := 1) n136_834 rfl ?_
  refine am_e_iadd (w := 1) n136_835 (by decide) ?_
  refine am_e_sald1 n136_836 rfl (by decide) (by decide) hx1 ?_
  refine am_e_callV (L := [(0, .ref 164), (1, .int 0)]) n136_837 rfl rfl rfl rfl rfl rfl rfl rfl ?_
  refine am_e_aload_n n132_0 rfl ?_
  refine am_e_iconst (w := 0) n132_1 rfl ?_
  refine am_e_putf n132_2 rfl rfl ?_
  refine am_e_iload_n n132_3 rfl ?_
  refine am_e_swI (off := 70) c132_4 (by decide) (by decide) s132_4_70 ?_
  refine am_e_aload_n n132_5 rfl ?_
  refine am_e_getf (v := .ref 168) n132_6 rfl (f164_23 (h := h) hT) ?_
  refine am_e_iconst (w := 0) n132_7 rfl ?_
  refine am_e_iaload (v := 500) (q := 0) n132_8 rfl (by decide) (by decide) (f168_0 (h := h) hT) ?_
  refine am_e_iret c132_9 rfl rfl rfl ?_
  refine am_e_cmpT n136_838 (am_c_eqT (by decide)) t136_838 ?_
  exact K _
theorem am_op32_1 {lk : List Value → List am_k → am_H → Option am_O} {xs : Nat → Int32} {h : am_H} {Q : Option Value → List am_k → am_H → Prop} {a2 : Int32} {a3 : Int32} {a4 : Int32} {a5 : Int32} (hT : am_T h) (hx1 : xs 1 = 1) (hx2 : xs 2 = a2) (hx3 : xs 3 = a3) (hx4 : xs 4 = a4) (hx5 : xs 5 = a5) (K : ∀ h', am_Ek false (am_P1 (some (6, xs)) lk) am_m136 841 [(4, .int 0), (3, .ref 202), (2, .ref 164), (1, .ref 0), (0, .retAddr 0)] [] am_ks0 h' 203 4392 Q) : am_Ek false (am_P1 (some (6, xs)) lk) am_m136 824 [(4, .int 0), (3, .ref 202), (2, .ref 164), (1, .ref 0), (0, .retAddr 0)] [] am_ks0 h 203 4392 Q := by
  refine am_e_aload_n n136_824 rfl ?_
  refine am_e_sload_n n136_825 rfl ?_
  refine am_e_iload n136_826 rfl ?_
  refine am_e_iconst (w := 1) n136_827 rfl ?_
  refine am_e_iadd (w := 1) n136_828 (by decide) ?_
  refine am_e_sald1 n136_829 rfl (by decide) (by decide) hx1 ?_
  refine am_e_callV (L := [(0, .ref 0), (1, .int 1)]) n136_830 rfl rfl rfl rfl rfl rfl rfl rfl ?_
  refine am_e_iload_n n76_0 rfl ?_
  refine am_e_swI (off := 79) c76_1 (by decide) (by decide) s76_1_79 ?_
  refine am_e_aload_n n76_6 rfl ?_
  refine am_e_getf (v := .ref 48) n76_7 rfl (f0_5 (h := h) hT) ?_
  refine am_e_getf (v := .int 0) n76_8 rfl (f48_0 (h := h) hT) ?_
  refine am_e_iret c76_9 rfl rfl rfl ?_
  refine am_e_aload_n n136_831 rfl ?_
  refine am_e_sload_n n136_832 rfl ?_
  refine am_e_iload n136_833 rfl ?_
  refine am_e_iconst (w := 1) n136_834 rfl ?_
  refine am_e_iadd (w := 1) n136_835 (by decide) ?_
  refine am_e_sald1 n136_836 rfl (by decide) (by decide) hx1 ?_
  refine am_e_callV (L := [(0, .ref 164), (1, .int 1)]) n136_837 rfl rfl rfl rfl rfl rfl rfl rfl ?_
  refine am_e_aload_n n132_0 rfl ?_
  refine am_e_iconst (w := 0) n132_1 rfl ?_
  refine am_e_putf n132_2 rfl rfl ?_
  refine am_e_iload_n n132_3 rfl ?_
  refine am_e_swI (off := 77) c132_4 (by decide) (by decide) s132_4_77 ?_
  refine am_e_aload_n n132_10 rfl ?_
  refine am_e_getf (v := .ref 188) n132_11 rfl (f164_50 (h := h) hT) ?_
  refine am_e_iconst (w := 0) n132_12 rfl ?_
  refine am_e_iaload (v := 0) (q := 0) n132_13 rfl (by decide) (by decide) (f188_0 (h := h) hT) ?_
  refine am_e_iret c132_14 rfl rfl rfl ?_
  refine am_e_cmpT n136_838 (am_c_eqT (by decide)) t136_838 ?_
  exact K _
theorem am_op32_2 {lk : List Value → List am_k → am_H → Option am_O} {xs : Nat → Int32} {h : am_H} {Q : Option Value → List am_k → am_H → Prop} {a2 : Int32} {a3 : Int32} {a4 : Int32} {a5 : Int32} (hT : am_T h) (hx1 : xs 1 = 2) (hx2 : xs 2 = a2) (hx3 : xs 3 = a3) (hx4 : xs 4 = a4) (hx5 : xs 5 = a5) (K : ∀ h', am_Ek false (am_P1 (some (6, xs)) lk) am_m136 841 [(4, .int 0), (3, .ref 202), (2, .ref 164), (1, .ref 0), (0, .retAddr 0)] [] am_ks0 h' 203 4392 Q) : am_Ek false (am_P1 (some (6, xs)) lk) am_m136 824 [(4, .int 0), (3, .ref 202), (2, .ref 164), (1, .ref 0), (0, .retAddr 0)] [] am_ks0 h 203 4392 Q := by
  refine am_e_aload_n n136_824 rfl ?_
  refine am_e_sload_n n136_825 rfl ?_
  refine am_e_iload n136_826 rfl ?_
  refine am_e_iconst (w := 1) n136_827 rfl ?_
  refine am_e_iadd (w := 1) n136_828 (by decide) ?_
  refine am_e_sald1 n136_829 rfl (by decide) (by decide) hx1 ?_
  refine am_e_callV (L := [(0, .ref 0), (1, .int 2)]) n136_830 rfl rfl rfl rfl rfl rfl rfl rfl ?_
  refine am_e_iload_n n76_0 rfl ?_
  refine am_e_swI (off := 87) c76_1 (by decide) (by decide) s76_1_87 ?_
  refine am_e_aload_n n76_10 rfl ?_
  refine am_e_getf (v := .ref 2) n76_11 rfl (f0_2 (h := h) hT) ?_
  refine am_e_getf (v := .int 0) n76_12 rfl (f2_2 (h := h) hT) ?_
  refine am_e_iret c76_13 rfl rfl rfl ?_
  refine am_e_aload_n n136_831 rfl ?_
  refine am_e_sload_n n136_832 rfl ?_
  refine am_e_iload n136_833 rfl ?_
  refine am_e_iconst (w := 1) n136_834 rfl ?_
  refine am_e_iadd (w := 1) n136_835 (by decide) ?_
  refine am_e_sald1 n136_836 rfl (by decide) (by decide) hx1 ?_
  refine am_e_callV (L := [(0, .ref 164), (1, .int 2)]) n136_837 rfl rfl rfl rfl rfl rfl rfl rfl ?_
  refine am_e_aload_n n132_0 rfl ?_
  refine am_e_iconst (w := 0) n132_1 rfl ?_
  refine am_e_putf n132_2 rfl rfl ?_
  refine am_e_iload_n n132_3 rfl ?_
  refine am_e_swI (off := 84) c132_4 (by decide) (by decide) s132_4_84 ?_
  refine am_e_aload_n n132_15 rfl ?_
  refine am_e_getf (v := .int 0) n132_16 rfl (f164_12 (h := h) hT) ?_
  refine am_e_iret c132_17 rfl rfl rfl ?_
  refine am_e_cmpT n136_838 (am_c_eqT (by decide)) t136_838 ?_
  exact K _
theorem am_op32_3 {lk : List Value → List am_k → am_H → Option am_O} {xs : Nat → Int32} {h : am_H} {Q : Option Value → List am_k → am_H → Prop} {a2 : Int32} {a3 : Int32} {a4 : Int32} {a5 : Int32} (hT : am_T h) (hx1 : xs 1 = 3) (hx2 : xs 2 = a2) (hx3 : xs 3 = a3) (hx4 : xs 4 = a4) (hx5 : xs 5 = a5) (K : ∀ h', am_Ek false (am_P1 (some (6, xs)) lk) am_m136 841 [(4, .int 0), (3, .ref 202), (2, .ref 164), (1, .ref 0), (0, .retAddr 0)] [] am_ks0 h' 203 4392 Q) : am_Ek false (am_P1 (some (6, xs)) lk) am_m136 824 [(4, .int 0), (3, .ref 202), (2, .ref 164), (1, .ref 0), (0, .retAddr 0)] [] am_ks0 h 203 4392 Q := by
  refine am_e_aload_n n136_824 rfl ?_
  refine am_e_sload_n n136_825 rfl ?_
  refine am_e_iload n136_826 rfl ?_
  refine am_e_iconst (w := 1) n136_827 rfl ?_
  refine am_e_iadd (w := 1) n136_828 (by decide) ?_
  refine am_e_sald1 n136_829 rfl (by decide) (by decide) hx1 ?_
  refine am_e_callV (L := [(0, .ref 0), (1, .int 3)]) n136_830 rfl rfl rfl rfl rfl rfl rfl rfl ?_
  refine am_e_iload_n n76_0 rfl ?_
  refine am_e_swI (off := 95) c76_1 (by decide) (by decide) s76_1_95 ?_
  refine am_e_aload_n n76_14 rfl ?_
  refine am_e_getf (v := .ref 2) n76_15 rfl (f0_2 (h := h) hT) ?_
  refine am_e_getf (v := .int 0) n76_16 rfl (f2_4 (h := h) hT) ?_
  refine am_e_iret c76_17 rfl rfl rfl ?_
  refine am_e_aload_n n136_831 rfl ?_
  refine am_e_sload_n n136_832 rfl ?_
  refine am_e_iload n136_833 rfl ?_
  refine am_e_iconst (w := 1) n136_834 rfl ?_
  refine am_e_iadd (w := 1) n136_835 (by decide) ?_
  refine am_e_sald1 n136_836 rfl (by decide) (by decide) hx1 ?_
  refine am_e_callV (L := [(0, .ref 164), (1, .int 3)]) n136_837 rfl rfl rfl rfl rfl rfl rfl rfl ?_
  refine am_e_aload_n n132_0 rfl ?_
  refine am_e_iconst (w := 0) n132_1 rfl ?_
  refine am_e_putf n132_2 rfl rfl ?_
  refine am_e_iload_n n132_3 rfl ?_
  refine am_e_swI (off := 89) c132_4 (by decide) (by decide) s132_4_89 ?_
  refine am_e_aload_n n132_18 rfl ?_
  refine am_e_getf (v := .int 0) n132_19 rfl (f164_13 (h := h) hT) ?_
  refine am_e_iret c132_20 rfl rfl rfl ?_
  refine am_e_cmpT n136_838 (am_c_eqT (by decide)) t136_838 ?_
  exact K _
theorem am_op32_4 {lk : List Value → List am_k → am_H → Option am_O} {xs : Nat → Int32} {h : am_H} {Q : Option Value → List am_k → am_H → Prop} {a2 : Int32} {a3 : Int32} {a4 : Int32} {a5 : Int32} (hT : am_T h) (hx1 : xs 1 = 4) (hx2 : xs 2 = a2) (hx3 : xs 3 = a3) (hx4 : xs 4 = a4) (hx5 : xs 5 = a5) (K : ∀ h', am_Ek false (am_P1 (some (6, xs)) lk) am_m136 841 [(4, .int 0), (3, .ref 202), (2, .ref 164), (1, .ref 0), (0, .retAddr 0)] [] am_ks0 h' 203 4392 Q) : am_Ek false (am_P1 (some (6, xs)) lk) am_m136 824 [(4, .int 0), (3, .ref 202), (2, .ref 164), (1, .ref 0), (0, .retAddr 0)] [] am_ks0 h 203 4392 Q := by
  refine am_e_aload_n n136_824 rfl ?_
  refine am_e_sload_n n136_825 rfl ?_
  refine am_e_iload n136_826 rfl ?_
  refine am_e_iconst (w := 1) n136_827 rfl ?_
  refine am_e_iadd (w := 1) n136_828 (by decide) ?_
  refine am_e_sald1 n136_829 rfl (by decide) (by decide) hx1 ?_
  refine am_e_callV (L := [(0, .ref 0), (1, .int 4)]) n136_830 rfl rfl rfl rfl rfl rfl rfl rfl ?_
  refine am_e_iload_n n76_0 rfl ?_
  refine am_e_swI (off := 103) c76_1 (by decide) (by decide) s76_1_103 ?_
  refine am_e_aload_n n76_18 rfl ?_
  refine am_e_getf (v := .ref 2) n76_19 rfl (f0_2 (h := h) hT) ?_
  refine am_e_getf (v := .int 0) n76_20 rfl (f2_9 (h := h) hT) ?_
  refine am_e_iret c76_21 rfl rfl rfl ?_
  refine am_e_aload_n n136_831 rfl ?_
  refine am_e_sload_n n136_832 rfl ?_
  refine am_e_iload n136_833 rfl ?_
  refine am_e_iconst (w := 1) n136_834 rfl ?_
  refine am_e_iadd (w := 1) n136_835 (by decide) ?_
  refine am_e_sald1 n136_836 rfl (by decide) (by decide) hx1 ?_
  refine am_e_callV (L := [(0, .ref 164), (1, .int 4)]) n136_837 rfl rfl rfl rfl rfl rfl rfl rfl ?_
  refine am_e_aload_n n132_0 rfl ?_
  refine am_e_iconst (w := 0) n132_1 rfl ?_
  refine am_e_putf n132_2 rfl rfl ?_
  refine am_e_iload_n n132_3 rfl ?_
  refine am_e_swI (off := 94) c132_4 (by decide) (by decide) s132_4_94 ?_
  refine am_e_aload_n n132_21 rfl ?_
  refine am_e_getf (v := .int 0) n132_22 rfl (f164_14 (h := h) hT) ?_
  refine am_e_iret c132_23 rfl rfl rfl ?_
  refine am_e_cmpT n136_838 (am_c_eqT (by decide)) t136_838 ?_
  exact K _
theorem am_op32_5 {lk : List Value → List am_k → am_H → Option am_O} {xs : Nat → Int32} {h : am_H} {Q : Option Value → List am_k → am_H → Prop} {a2 : Int32} {a3 : Int32} {a4 : Int32} {a5 : Int32} (hT : am_T h) (hx1 : xs 1 = 5) (hx2 : xs 2 = a2) (hx3 : xs 3 = a3) (hx4 : xs 4 = a4) (hx5 : xs 5 = a5) (K : ∀ h', am_Ek false (am_P1 (some (6, xs)) lk) am_m136 841 [(4, .int 0), (3, .ref 202), (2, .ref 164), (1, .ref 0), (0, .retAddr 0)] [] am_ks0 h' 203 4392 Q) : am_Ek false (am_P1 (some (6, xs)) lk) am_m136 824 [(4, .int 0), (3, .ref 202), (2, .ref 164), (1, .ref 0), (0, .retAddr 0)] [] am_ks0 h 203 4392 Q := by
  refine am_e_aload_n n136_824 rfl ?_
  refine am_e_sload_n n136_825 rfl ?_
  refine am_e_iload n136_826 rfl ?_
  refine am_e_iconst (w := 1) n136_827 rfl ?_
  refine am_e_iadd (w := 1) n136_828 (by decide) ?_
  refine am_e_sald1 n136_829 rfl (by decide) (by decide) hx1 ?_
  refine am_e_callV (L := [(0, .ref 0), (1, .int 5)]) n136_830 rfl rfl rfl rfl rfl rfl rfl rfl ?_
  refine am_e_iload_n n76_0 rfl ?_
  refine am_e_swI (off := 111) c76_1 (by decide) (by decide) s76_1_111 ?_
  refine am_e_aload_n n76_22 rfl ?_
  refine am_e_getf (v := .ref 2) n76_23 rfl (f0_2 (h := h) hT) ?_
  refine am_e_getf (v := .int 0) n76_24 rfl (f2_12 (h := h) hT) ?_
  refine am_e_iret c76_25 rfl rfl rfl ?_
  refine am_e_aload_n n136_831 rfl ?_
  refine am_e_sload_n n136_832 rfl ?_
  refine am_e_iload n136_833 rfl ?_
  refine am_e_iconst (w := 1) n136_834 rfl ?_
  refine am_e_iadd (w := 1) n136_835 (by decide) ?_
  refine am_e_sald1 n136_836 rfl (by decide) (by decide) hx1 ?_
  refine am_e_callV (L := [(0, .ref 164), (1, .int 5)]) n136_837 rfl rfl rfl rfl rfl rfl rfl rfl ?_
  refine am_e_aload_n n132_0 rfl ?_
  refine am_e_iconst (w := 0) n132_1 rfl ?_
  refine am_e_putf n132_2 rfl rfl ?_
  refine am_e_iload_n n132_3 rfl ?_
  refine am_e_swI (off := 99) c132_4 (by decide) (by decide) s132_4_99 ?_
  refine am_e_aload_n n132_24 rfl ?_
  refine am_e_getf (v := .int 0) n132_25 rfl (f164_15 (h := h) hT) ?_
  refine am_e_iret c132_26 rfl rfl rfl ?_
  refine am_e_cmpT n136_838 (am_c_eqT (by decide)) t136_838 ?_
  exact K _
theorem am_op32_6 {lk : List Value → List am_k → am_H → Option am_O} {xs : Nat → Int32} {h : am_H} {Q : Option Value → List am_k → am_H → Prop} {a2 : Int32} {a3 : Int32} {a4 : Int32} {a5 : Int32} (hT : am_T h) (hx1 : xs 1 = 6) (hx2 : xs 2 = a2) (hx3 : xs 3 = a3) (hx4 : xs 4 = a4) (hx5 : xs 5 = a5) (K : ∀ h', am_Ek false (am_P1 (some (6, xs)) lk) am_m136 841 [(4, .int 0), (3, .ref 202), (2, .ref 164), (1, .ref 0), (0, .retAddr 0)] [] am_ks0 h' 203 4392 Q) : am_Ek false (am_P1 (some (6, xs)) lk) am_m136 824 [(4, .int 0), (3, .ref 202), (2, .ref 164), (1, .ref 0), (0, .retAddr 0)] [] am_ks0 h 203 4392 Q := by
  refine am_e_aload_n n136_824 rfl ?_
  refine am_e_sload_n n136_825 rfl ?_
  refine am_e_iload n136_826 rfl ?_
  refine am_e_iconst (w := 1) n136_827 rfl ?_
  refine am_e_iadd (w := 1) n136_828 (by decide) ?_
  refine am_e_sald1 n136_829 rfl (by decide) (by decide) hx1 ?_
  refine am_e_callV (L := [(0, .ref 0), (1, .int 6)]) n136_830 rfl rfl rfl rfl rfl rfl rfl rfl ?_
  refine am_e_iload_n n76_0 rfl ?_
  refine am_e_swI (off := 119) c76_1 (by decide) (by decide) s76_1_119 ?_
  refine am_e_aload_n n76_26 rfl ?_
  refine am_e_getf (v := .ref 2) n76_27 rfl (f0_2 (h := h) hT) ?_
  refine am_e_getf (v := .ref 11) n76_28 rfl (f2_19 (h := h) hT) ?_
  refine am_e_getf (v := .int 0) n76_29 rfl (f11_0 (h := h) hT) ?_
  refine am_e_iret c76_30 rfl rfl rfl ?_
  refine am_e_aload_n n136_831 rfl ?_
  refine am_e_sload_n n136_832 rfl ?_
  refine am_e_iload n136_833 rfl ?_
  refine am_e_iconst (w := 1) n136_834 rfl ?_
  refine am_e_iadd (w := 1) n136_835 (by decide) ?_
  refine am_e_sald1 n136_836 rfl (by decide) (by decide) hx1 ?_
  refine am_e_callV (L := [(0, .ref 164), (1, .int 6)]) n136_837 rfl rfl rfl rfl rfl rfl rfl rfl ?_
  refine am_e_aload_n n132_0 rfl ?_
  refine am_e_iconst (w := 0) n132_1 rfl ?_
  refine am_e_putf n132_2 rfl rfl ?_
  refine am_e_iload_n n132_3 rfl ?_
  refine am_e_swI (off := 104) c132_4 (by decide) (by decide) s132_4_104 ?_
  refine am_e_aload_n n132_27 rfl ?_
  refine am_e_getf (v := .int 0) n132_28 rfl (f164_16 (h := h) hT) ?_
  refine am_e_iret c132_29 rfl rfl rfl ?_
  refine am_e_cmpT n136_838 (am_c_eqT (by decide)) t136_838 ?_
  exact K _
theorem am_op32_7 {lk : List Value → List am_k → am_H → Option am_O} {xs : Nat → Int32} {h : am_H} {Q : Option Value → List am_k → am_H → Prop} {a2 : Int32} {a3 : Int32} {a4 : Int32} {a5 : Int32} (hT : am_T h) (hx1 : xs 1 = 7) (hx2 : xs 2 = a2) (hx3 : xs 3 = a3) (hx4 : xs 4 = a4) (hx5 : xs 5 = a5) (K : ∀ h', am_Ek false (am_P1 (some (6, xs)) lk) am_m136 841 [(4, .int 0), (3, .ref 202), (2, .ref 164), (1, .ref 0), (0, .retAddr 0)] [] am_ks0 h' 203 4392 Q) : am_Ek false (am_P1 (some (6, xs)) lk) am_m136 824 [(4, .int 0), (3, .ref 202), (2, .ref 164), (1, .ref 0), (0, .retAddr 0)] [] am_ks0 h 203 4392 Q := by
  refine am_e_aload_n n136_824 rfl ?_
  refine am_e_sload_n n136_825 rfl ?_
  refine am_e_iload n136_826 rfl ?_
  refine am_e_iconst (w := 1) n136_827 rfl ?_
  refine am_e_iadd (w := 1) n136_828 (by decide) ?_
  refine am_e_sald1 n136_829 rfl (by decide) (by decide) hx1 ?_
  refine am_e_callV (L := [(0, .ref 0), (1, .int 7)]) n136_830 rfl rfl rfl rfl rfl rfl rfl rfl ?_
  refine am_e_iload_n n76_0 rfl ?_
  refine am_e_swI (off := 130) c76_1 (by decide) (by decide) s76_1_130 ?_
  refine am_e_aload_n n76_31 rfl ?_
  refine am_e_getf (v := .ref 48) n76_32 rfl (f0_5 (h := h) hT) ?_
  refine am_e_getf (v := .int 0) n76_33 rfl (f48_1 (h := h) hT) ?_
  refine am_e_iret c76_34 rfl rfl rfl ?_
  refine am_e_aload_n n136_831 rfl ?_
  refine am_e_sload_n n136_832 rfl ?_
  refine am_e_iload n136_833 rfl ?_
  refine am_e_iconst (w := 1) n136_834 rfl ?_
  refine am_e_iadd (w := 1) n136_835 (by decide) ?_
  refine am_e_sald1 n136_836 rfl (by decide) (by decide) hx1 ?_
  refine am_e_callV (L := [(0, .ref 164), (1, .int 7)]) n136_837 rfl rfl rfl rfl rfl rfl rfl rfl ?_
  refine am_e_aload_n n132_0 rfl ?_
  refine am_e_iconst (w := 0) n132_1 rfl ?_
  refine am_e_putf n132_2 rfl rfl ?_
  refine am_e_iload_n n132_3 rfl ?_
  refine am_e_swI (off := 109) c132_4 (by decide) (by decide) s132_4_109 ?_
  refine am_e_aload_n n132_30 rfl ?_
  refine am_e_getf (v := .ref 189) n132_31 rfl (f164_51 (h := h) hT) ?_
  refine am_e_iconst (w := 0) n132_32 rfl ?_
  refine am_e_iaload (v := 0) (q := 0) n132_33 rfl (by decide) (by decide) (f189_0 (h := h) hT) ?_
  refine am_e_iret c132_34 rfl rfl rfl ?_
  refine am_e_cmpT n136_838 (am_c_eqT (by decide)) t136_838 ?_
  exact K _
theorem am_op32_8 {lk : List Value → List am_k → am_H → Option am_O} {xs : Nat → Int32} {h : am_H} {Q : Option Value → List am_k → am_H → Prop} {a2 : Int32} {a3 : Int32} {a4 : Int32} {a5 : Int32} (hT : am_T h) (hx1 : xs 1 = 8) (hx2 : xs 2 = a2) (hx3 : xs 3 = a3) (hx4 : xs 4 = a4) (hx5 : xs 5 = a5) (K : ∀ h', am_Ek false (am_P1 (some (6, xs)) lk) am_m136 841 [(4, .int 0), (3, .ref 202), (2, .ref 164), (1, .ref 0), (0, .retAddr 0)] [] am_ks0 h' 203 4392 Q) : am_Ek false (am_P1 (some (6, xs)) lk) am_m136 824 [(4, .int 0), (3, .ref 202), (2, .ref 164), (1, .ref 0), (0, .retAddr 0)] [] am_ks0 h 203 4392 Q := by
  refine am_e_aload_n n136_824 rfl ?_
  refine am_e_sload_n n136_825 rfl ?_
  refine am_e_iload n136_826 rfl ?_
  refine am_e_iconst (w := 1) n136_827 rfl ?_
  refine am_e_iadd (w := 1) n136_828 (by decide) ?_
  refine am_e_sald1 n136_829 rfl (by decide) (by decide) hx1 ?_
  refine am_e_callV (L := [(0, .ref 0), (1, .int 8)]) n136_830 rfl rfl rfl rfl rfl rfl rfl rfl ?_
  refine am_e_iload_n n76_0 rfl ?_
  refine am_e_swI (off := 138) c76_1 (by decide) (by decide) s76_1_138 ?_
  refine am_e_aload_n n76_35 rfl ?_
  refine am_e_getf (v := .ref 48) n76_36 rfl (f0_5 (h := h) hT) ?_
  refine am_e_getf (v := .int 0) n76_37 rfl (f48_3 (h := h) hT) ?_
  refine am_e_iret c76_38 rfl rfl rfl ?_
  refine am_e_aload_n n136_831 rfl ?_
  refine am_e_sload_n n136_832 rfl ?_
  refine am_e_iload n136_833 rfl ?_
  refine am_e_iconst (w := 1) n136_834 rfl ?_
  refine am_e_iadd (w := 1) n136_835 (by decide) ?_
  refine am_e_sald1 n136_836 rfl (by decide) (by decide) hx1 ?_
  refine am_e_callV (L := [(0, .ref 164), (1, .int 8)]) n136_837 rfl rfl rfl rfl rfl rfl rfl rfl ?_
  refine am_e_aload_n n132_0 rfl ?_
  refine am_e_iconst (w := 0) n132_1 rfl ?_
  refine am_e_putf n132_2 rfl rfl ?_
  refine am_e_iload_n n132_3 rfl ?_
  refine am_e_swI (off := 116) c132_4 (by decide) (by decide) s132_4_116 ?_
  refine am_e_aload_n n132_35 rfl ?_
  refine am_e_getf (v := .ref 194) n132_36 rfl (f164_56 (h := h) hT) ?_
  refine am_e_iconst (w := 0) n132_37 rfl ?_
  refine am_e_iaload (v := 0) (q := 0) n132_38 rfl (by decide) (by decide) (f194_0 (h := h) hT) ?_
  refine am_e_iret c132_39 rfl rfl rfl ?_
  refine am_e_cmpT n136_838 (am_c_eqT (by decide)) t136_838 ?_
  exact K _
theorem am_op32_9 {lk : List Value → List am_k → am_H → Option am_O} {xs : Nat → Int32} {h : am_H} {Q : Option Value → List am_k → am_H → Prop} {a2 : Int32} {a3 : Int32} {a4 : Int32} {a5 : Int32} (hT : am_T h) (hx1 : xs 1 = 9) (hx2 : xs 2 = a2) (hx3 : xs 3 = a3) (hx4 : xs 4 = a4) (hx5 : xs 5 = a5) (K : ∀ h', am_Ek false (am_P1 (some (6, xs)) lk) am_m136 841 [(4, .int 0), (3, .ref 202), (2, .ref 164), (1, .ref 0), (0, .retAddr 0)] [] am_ks0 h' 203 4392 Q) : am_Ek false (am_P1 (some (6, xs)) lk) am_m136 824 [(4, .int 0), (3, .ref 202), (2, .ref 164), (1, .ref 0), (0, .retAddr 0)] [] am_ks0 h 203 4392 Q := by
  refine am_e_aload_n n136_824 rfl ?_
  refine am_e_sload_n n136_825 rfl ?_
  refine am_e_iload n136_826 rfl ?_
  refine am_e_iconst (w := 1) n136_827 rfl ?_
  refine am_e_iadd (w := 1) n136_828 (by decide) ?_
  refine am_e_sald1 n136_829 rfl (by decide) (by decide) hx1 ?_
  refine am_e_callV (L := [(0, .ref 0), (1, .int 9)]) n136_830 rfl rfl rfl rfl rfl rfl rfl rfl ?_
  refine am_e_iload_n n76_0 rfl ?_
  refine am_e_swI (off := 146) c76_1 (by decide) (by decide) s76_1_146 ?_
  refine am_e_aload_n n76_39 rfl ?_
  refine am_e_getf (v := .ref 48) n76_40 rfl (f0_5 (h := h) hT) ?_
  refine am_e_getf (v := .int (-1)) n76_41 rfl (f48_2 (h := h) hT) ?_
  refine am_e_ifT n76_42 (am_c_ltT (by decide)) t76_42 ?_
  refine am_e_iconst (w := (-1)) n76_47 rfl ?_
  refine am_e_iret c76_48 rfl rfl rfl ?_
  refine am_e_aload_n n136_831 rfl ?_
  refine am_e_sload_n n136_832 rfl ?_
  refine am_e_iload n136_833 rfl ?_
  refine am_e_iconst (w := 1) n136_834 rfl ?_
  refine am_e_iadd (w := 1) n136_835 (by decide) ?_
  refine am_e_sald1 n136_836 rfl (by decide) (by decide) hx1 ?_
  refine am_e_callV (L := [(0, .ref 164), (1, .int 9)]) n136_837 rfl rfl rfl rfl rfl rfl rfl rfl ?_
  refine am_e_aload_n n132_0 rfl ?_
  refine am_e_iconst (w := 0) n132_1 rfl ?_
  refine am_e_putf n132_2 rfl rfl ?_
  refine am_e_iload_n n132_3 rfl ?_
  refine am_e_swI (off := 123) c132_4 (by decide) (by decide) s132_4_123 ?_
  refine am_e_aload_n n132_40 rfl ?_
  refine am_e_getf (v := .ref 190) n132_41 rfl (f164_52 (h := h) hT) ?_
  refine am_e_iconst (w := 0) n132_42 rfl ?_
  refine am_e_iaload (v := (-1)) (q := 0) n132_43 rfl (by decide) (by decide) (f190_0 (h := h) hT) ?_
  refine am_e_ifF n132_44 (am_c_geF (by decide)) ?_
  refine am_e_iconst (w := (-1)) n132_45 rfl ?_
  refine am_e_goto c132_46 t132_46 ?_
  refine am_e_iret c132_51 rfl rfl rfl ?_
  refine am_e_cmpT n136_838 (am_c_eqT (by decide)) t136_838 ?_
  exact K _
theorem am_op32_10 {lk : List Value → List am_k → am_H → Option am_O} {xs : Nat → Int32} {h : am_H} {Q : Option Value → List am_k → am_H → Prop} {a2 : Int32} {a3 : Int32} {a4 : Int32} {a5 : Int32} (hT : am_T h) (hx1 : xs 1 = 10) (hx2 : xs 2 = a2) (hx3 : xs 3 = a3) (hx4 : xs 4 = a4) (hx5 : xs 5 = a5) (K : ∀ h', am_Ek false (am_P1 (some (6, xs)) lk) am_m136 841 [(4, .int 0), (3, .ref 202), (2, .ref 164), (1, .ref 0), (0, .retAddr 0)] [] am_ks0 h' 203 4392 Q) : am_Ek false (am_P1 (some (6, xs)) lk) am_m136 824 [(4, .int 0), (3, .ref 202), (2, .ref 164), (1, .ref 0), (0, .retAddr 0)] [] am_ks0 h 203 4392 Q := by
  refine am_e_aload_n n136_824 rfl ?_
  refine am_e_sload_n n136_825 rfl ?_
  refine am_e_iload n136_826 rfl ?_
  refine am_e_iconst (w := 1) n136_827 rfl ?_
  refine am_e_iadd (w := 1) n136_828 (by decide) ?_
  refine am_e_sald1 n136_829 rfl (by decide) (by decide) hx1 ?_
  refine am_e_callV (L := [(0, .ref 0), (1, .int 10)]) n136_830 rfl rfl rfl rfl rfl rfl rfl rfl ?_
  refine am_e_iload_n n76_0 rfl ?_
  refine am_e_swI (off := 168) c76_1 (by decide) (by decide) s76_1_168 ?_
  refine am_e_aload_n n76_49 rfl ?_
  refine am_e_getf (v := .ref 48) n76_50 rfl (f0_5 (h := h) hT) ?_
  refine am_e_getf (v := .int 0) n76_51 rfl (f48_4 (h := h) hT) ?_
  refine am_e_iret c76_52 rfl rfl rfl ?_
  refine am_e_aload_n n136_831 rfl ?_
  refine am_e_sload_n n136_832 rfl ?_
  refine am_e_iload n136_833 rfl ?_
  refine am_e_iconst (w := 1) n136_834 rfl ?_
  refine am_e_iadd (w := 1) n136_835 (by decide) ?_
  refine am_e_sald1 n136_836 rfl (by decide) (by decide) hx1 ?_
  refine am_e_callV (L := [(0, .ref 164), (1, .int 10)]) n136_837 rfl rfl rfl rfl rfl rfl rfl rfl ?_
  refine am_e_aload_n n132_0 rfl ?_
  refine am_e_iconst (w := 0) n132_1 rfl ?_
  refine am_e_putf n132_2 rfl rfl ?_
  refine am_e_iload_n n132_3 rfl ?_
  refine am_e_swI (off := 143) c132_4 (by decide) (by decide) s132_4_143 ?_
  refine am_e_aload_n n132_52 rfl ?_
  refine am_e_getf (v := .int 0) n132_53 rfl (f164_57 (h := h) hT) ?_
  refine am_e_iret c132_54 rfl rfl rfl ?_
  refine am_e_cmpT n136_838 (am_c_eqT (by decide)) t136_838 ?_
  exact K _
theorem am_op32_11 {lk : List Value → List am_k → am_H → Option am_O} {xs : Nat → Int32} {h : am_H} {Q : Option Value → List am_k → am_H → Prop} {a2 : Int32} {a3 : Int32} {a4 : Int32} {a5 : Int32} (hT : am_T h) (hx1 : xs 1 = 11) (hx2 : xs 2 = a2) (hx3 : xs 3 = a3) (hx4 : xs 4 = a4) (hx5 : xs 5 = a5) (K : ∀ h', am_Ek false (am_P1 (some (6, xs)) lk) am_m136 841 [(4, .int 0), (3, .ref 202), (2, .ref 164), (1, .ref 0), (0, .retAddr 0)] [] am_ks0 h' 203 4392 Q) : am_Ek false (am_P1 (some (6, xs)) lk) am_m136 824 [(4, .int 0), (3, .ref 202), (2, .ref 164), (1, .ref 0), (0, .retAddr 0)] [] am_ks0 h 203 4392 Q := by
  refine am_e_aload_n n136_824 rfl ?_
  refine am_e_sload_n n136_825 rfl ?_
  refine am_e_iload n136_826 rfl ?_
  refine am_e_iconst (w := 1) n136_827 rfl ?_
  refine am_e_iadd (w := 1) n136_828 (by decide) ?_
  refine am_e_sald1 n136_829 rfl (by decide) (by decide) hx1 ?_
  refine am_e_callV (L := [(0, .ref 0), (1, .int 11)]) n136_830 rfl rfl rfl rfl rfl rfl rfl rfl ?_
  refine am_e_iload_n n76_0 rfl ?_
  refine am_e_swI (off := 176) c76_1 (by decide) (by decide) s76_1_176 ?_
  refine am_e_aload_n n76_53 rfl ?_
  refine am_e_getf (v := .ref 142) n76_54 rfl (f0_10 (h := h) hT) ?_
  refine am_e_getf (v := .int 0) n76_55 rfl (f142_0 (h := h) hT) ?_
  refine am_e_iret c76_56 rfl rfl rfl ?_
  refine am_e_aload_n n136_831 rfl ?_
  refine am_e_sload_n n136_832 rfl ?_
  refine am_e_iload n136_833 rfl ?_
  refine am_e_iconst (w := 1) n136_834 rfl ?_
  refine am_e_iadd (w := 1) n136_835 (by decide) ?_
  refine am_e_sald1 n136_836 rfl (by decide) (by decide) hx1 ?_
  refine am_e_callV (L := [(0, .ref 164), (1, .int 11)]) n136_837 rfl rfl rfl rfl rfl rfl rfl rfl ?_
  refine am_e_aload_n n132_0 rfl ?_
  refine am_e_iconst (w := 0) n132_1 rfl ?_
  refine am_e_putf n132_2 rfl rfl ?_
  refine am_e_iload_n n132_3 rfl ?_
  refine am_e_swI (off := 148) c132_4 (by decide) (by decide) s132_4_148 ?_
  refine am_e_aload_n n132_55 rfl ?_
  refine am_e_getf (v := .int 0) n132_56 rfl (f164_73 (h := h) hT) ?_
  refine am_e_iret c132_57 rfl rfl rfl ?_
  refine am_e_cmpT n136_838 (am_c_eqT (by decide)) t136_838 ?_
  exact K _
theorem am_op32_12 {lk : List Value → List am_k → am_H → Option am_O} {xs : Nat → Int32} {h : am_H} {Q : Option Value → List am_k → am_H → Prop} {a2 : Int32} {a3 : Int32} {a4 : Int32} {a5 : Int32} (hT : am_T h) (hx1 : xs 1 = 12) (hx2 : xs 2 = a2) (hx3 : xs 3 = a3) (hx4 : xs 4 = a4) (hx5 : xs 5 = a5) (K : ∀ h', am_Ek false (am_P1 (some (6, xs)) lk) am_m136 841 [(4, .int 0), (3, .ref 202), (2, .ref 164), (1, .ref 0), (0, .retAddr 0)] [] am_ks0 h' 203 4392 Q) : am_Ek false (am_P1 (some (6, xs)) lk) am_m136 824 [(4, .int 0), (3, .ref 202), (2, .ref 164), (1, .ref 0), (0, .retAddr 0)] [] am_ks0 h 203 4392 Q := by
  refine am_e_aload_n n136_824 rfl ?_
  refine am_e_sload_n n136_825 rfl ?_
  refine am_e_iload n136_826 rfl ?_
  refine am_e_iconst (w := 1) n136_827 rfl ?_
  refine am_e_iadd (w := 1) n136_828 (by decide) ?_
  refine am_e_sald1 n136_829 rfl (by decide) (by decide) hx1 ?_
  refine am_e_callV (L := [(0, .ref 0), (1, .int 12)]) n136_830 rfl rfl rfl rfl rfl rfl rfl rfl ?_
  refine am_e_iload_n n76_0 rfl ?_
  refine am_e_swI (off := 184) c76_1 (by decide) (by decide) s76_1_184 ?_
  refine am_e_aload_n n76_57 rfl ?_
  refine am_e_getf (v := .ref 142) n76_58 rfl (f0_10 (h := h) hT) ?_
  refine am_e_callV (L := [(0, .ref 142)]) n76_59 rfl rfl rfl rfl rfl rfl rfl rfl ?_
  refine am_e_aload_n n68_0 rfl ?_
  refine am_e_getf (v := .int (-1)) n68_1 rfl (f142_1 (h := h) hT) ?_
  refine am_e_ifF n68_2 (am_c_geF (by decide)) ?_
  refine am_e_aload_n n68_3 rfl ?_
  refine am_e_getf (v := .int 0) n68_4 rfl (f142_0 (h := h) hT) ?_
  refine am_e_goto c68_5 t68_5 ?_
  refine am_e_iret c68_8 rfl rfl rfl ?_
  refine am_e_iret c76_60 rfl rfl rfl ?_
  refine am_e_aload_n n136_831 rfl ?_
  refine am_e_sload_n n136_832 rfl ?_
  refine am_e_iload n136_833 rfl ?_
  refine am_e_iconst (w := 1) n136_834 rfl ?_
  refine am_e_iadd (w := 1) n136_835 (by decide) ?_
  refine am_e_sald1 n136_836 rfl (by decide) (by decide) hx1 ?_
  refine am_e_callV (L := [(0, .ref 164), (1, .int 12)]) n136_837 rfl rfl rfl rfl rfl rfl rfl rfl ?_
  refine am_e_aload_n n132_0 rfl ?_
  refine am_e_iconst (w := 0) n132_1 rfl ?_
  refine am_e_putf n132_2 rfl rfl ?_
  refine am_e_iload_n n132_3 rfl ?_
  refine am_e_swI (off := 153) c132_4 (by decide) (by decide) s132_4_153 ?_
  refine am_e_aload_n n132_58 rfl ?_
  refine am_e_callV (L := [(0, .ref 164)]) n132_59 rfl rfl rfl rfl rfl rfl rfl rfl ?_
  refine am_e_aload_n n125_0 rfl ?_
  refine am_e_getf (v := .int (-1)) n125_1 rfl (f164_74 (h := h) hT) ?_
  refine am_e_ifF n125_2 (am_c_geF (by decide)) ?_
  refine am_e_aload_n n125_3 rfl ?_
  refine am_e_getf (v := .int 0) n125_4 rfl (f164_73 (h := h) hT) ?_
  refine am_e_goto c125_5 t125_5 ?_
  refine am_e_iret c125_8 rfl rfl rfl ?_
  refine am_e_iret c132_60 rfl rfl rfl ?_
  refine am_e_cmpT n136_838 (am_c_eqT (by decide)) t136_838 ?_
  exact K _
theorem am_op32_13 {lk : List Value → List am_k → am_H → Option am_O} {xs : Nat → Int32} {h : am_H} {Q : Option Value → List am_k → am_H → Prop} {a2 : Int32} {a3 : Int32} {a4 : Int32} {a5 : Int32} (hT : am_T h) (hx1 : xs 1 = 13) (hx2 : xs 2 = a2) (hx3 : xs 3 = a3) (hx4 : xs 4 = a4) (hx5 : xs 5 = a5) (K : ∀ h', am_Ek false (am_P1 (some (6, xs)) lk) am_m136 841 [(4, .int 0), (3, .ref 202), (2, .ref 164), (1, .ref 0), (0, .retAddr 0)] [] am_ks0 h' 203 4392 Q) : am_Ek false (am_P1 (some (6, xs)) lk) am_m136 824 [(4, .int 0), (3, .ref 202), (2, .ref 164), (1, .ref 0), (0, .retAddr 0)] [] am_ks0 h 203 4392 Q := by
  refine am_e_aload_n n136_824 rfl ?_
  refine am_e_sload_n n136_825 rfl ?_
  refine am_e_iload n136_826 rfl ?_
  refine am_e_iconst (w := 1) n136_827 rfl ?_
  refine am_e_iadd (w := 1) n136_828 (by decide) ?_
  refine am_e_sald1 n136_829 rfl (by decide) (by decide) hx1 ?_
  refine am_e_callV (L := [(0, .ref 0), (1, .int 13)]) n136_830 rfl rfl rfl rfl rfl rfl rfl rfl ?_
  refine am_e_iload_n n76_0 rfl ?_
  refine am_e_swI (off := 192) c76_1 (by decide) (by decide) s76_1_192 ?_
  refine am_e_aload_n n76_61 rfl ?_
  refine am_e_getf (v := .ref 60) n76_62 rfl (f0_9 (h := h) hT) ?_
  refine am_e_getf (v := .int 0) n76_63 rfl (f60_2 (h := h) hT) ?_
  refine am_e_iret c76_64 rfl rfl rfl ?_
  refine am_e_aload_n n136_831 rfl ?_
  refine am_e_sload_n n136_832 rfl ?_
  refine am_e_iload n136_833 rfl ?_
  refine am_e_iconst (w := 1) n136_834 rfl ?_
  refine am_e_iadd (w := 1) n136_835 (by decide) ?_
  refine am_e_sald1 n136_836 rfl (by decide) (by decide) hx1 ?_
  refine am_e_callV (L := [(0, .ref 164), (1, .int 13)]) n136_837 rfl rfl rfl rfl rfl rfl rfl rfl ?_
  refine am_e_aload_n n132_0 rfl ?_
  refine am_e_iconst (w := 0) n132_1 rfl ?_
  refine am_e_putf n132_2 rfl rfl ?_
  refine am_e_iload_n n132_3 rfl ?_
  refine am_e_swI (off := 158) c132_4 (by decide) (by decide) s132_4_158 ?_
  refine am_e_aload_n n132_61 rfl ?_
  refine am_e_getf (v := .int 0) n132_62 rfl (f164_77 (h := h) hT) ?_
  refine am_e_iret c132_63 rfl rfl rfl ?_
  refine am_e_cmpT n136_838 (am_c_eqT (by decide)) t136_838 ?_
  exact K _
theorem am_op32_o {lk : List Value → List am_k → am_H → Option am_O} {xs : Nat → Int32} {h : am_H} {Q : Option Value → List am_k → am_H → Prop} {a1 : Int32} {a2 : Int32} {a3 : Int32} {a4 : Int32} {a5 : Int32} (ha : a1.toInt < 0 ∨ 13 < a1.toInt) (hT : am_T h) (hx1 : xs 1 = a1) (hx2 : xs 2 = a2) (hx3 : xs 3 = a3) (hx4 : xs 4 = a4) (hx5 : xs 5 = a5) (K : ∀ h', am_Ek false (am_P1 (some (6, xs)) lk) am_m136 841 [(4, .int 0), (3, .ref 202), (2, .ref 164), (1, .ref 0), (0, .retAddr 0)] [] am_ks0 h' 203 4392 Q) : am_Ek false (am_P1 (some (6, xs)) lk) am_m136 824 [(4, .int 0), (3, .ref 202), (2, .ref 164), (1, .ref 0), (0, .retAddr 0)] [] am_ks0 h 203 4392 Q := by
  refine am_e_aload_n n136_824 rfl ?_
  refine am_e_sload_n n136_825 rfl ?_
  refine am_e_iload n136_826 rfl ?_
  refine am_e_iconst (w := 1) n136_827 rfl ?_
  refine am_e_iadd (w := 1) n136_828 (by decide) ?_
  refine am_e_sald1 n136_829 rfl (by decide) (by decide) hx1 ?_
  refine am_e_callV (L := [(0, .ref 0), (1, .int a1)]) n136_830 rfl rfl rfl rfl rfl rfl rfl rfl ?_
  refine am_e_iload_n n76_0 rfl ?_
  refine am_e_swO c76_1 ha s76_1_200 ?_
  refine am_e_iconst (w := (-1)) n76_65 rfl ?_
  refine am_e_iret c76_66 rfl rfl rfl ?_
  refine am_e_aload_n n136_831 rfl ?_
  refine am_e_sload_n n136_832 rfl ?_
  refine am_e_iload n136_833 rfl ?_
  refine am_e_iconst (w := 1) n136_834 rfl ?_
  refine am_e_iadd (w := 1) n136_835 (by decide) ?_
  refine am_e_sald1 n136_836 rfl (by decide) (by decide) hx1 ?_
  refine am_e_callV (L := [(0, .ref 164), (1, .int a1)]) n136_837 rfl rfl rfl rfl rfl rfl rfl rfl ?_
  refine am_e_aload_n n132_0 rfl ?_
  refine am_e_iconst (w := 0) n132_1 rfl ?_
  refine am_e_putf n132_2 rfl rfl ?_
  refine am_e_iload_n n132_3 rfl ?_
  refine am_e_swO c132_4 ha s132_4_163 ?_
  refine am_e_iconst (w := (-1)) n132_64 rfl ?_
  refine am_e_iret c132_65 rfl rfl rfl ?_
  refine am_e_cmpT n136_838 (am_c_eqT (by decide)) t136_838 ?_
  exact K _
