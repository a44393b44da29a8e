theorem am_op28_0_m {lk : List Value → List am_k → am_H → Option am_O} {xs : Nat → Int32} {h : am_H} {Q : Option Value → List am_k → am_H → Prop} {a2 : Int32} {a3 : Int32} {a4 : Int32} {a5 : Int32} (ha : a3 < (0 : Int32)) (hT : am_T h) (hx1 : xs 1 = 0) (hx2 : xs 2 = a2) (hx3 : xs 3 = a3) (hx4 : xs 4 = a4) (hx5 : xs 5 = a5) (K : ∀ h', am_Ek false (am_P1 (some (6, xs)) lk) am_m136 841 [(4, .int 0), (3, .ref 202), (2, .ref 164), (1, .ref 0), (0, .retAddr 0)] [] am_ks0 h' 203 4392 Q) : am_Ek false (am_P1 (some (6, xs)) lk) am_m136 766 [(4, .int 0), (3, .ref 202), (2, .ref 164), (1, .ref 0), (0, .retAddr 0)] [] am_ks0 h 203 4392 Q := by
  refine am_e_aload_n n136_766 rfl ?_
  refine am_e_sload_n n136_767 rfl ?_
  refine am_e_iload n136_768 rfl ?_
  refine am_e_iconst (w := 1) n136_769 rfl ?_
  refine am_e_iadd (w := 1) n136_770 (by decide) ?_
  refine am_e_sald1 n136_771 rfl (by decide) (by decide) hx1 ?_
  refine am_e_sload_n n136_772 rfl ?_
  refine am_e_iload n136_773 rfl ?_
  refine am_e_iconst (w := 2) n136_774 rfl ?_
  refine am_e_iadd (w := 2) n136_775 (by decide) ?_
  refine am_e_sald1 n136_776 rfl (by decide) (by decide) hx2 ?_
  refine am_e_sload_n n136_777 rfl ?_
  refine am_e_iload n136_778 rfl ?_
  refine am_e_iconst (w := 3) n136_779 rfl ?_
  refine am_e_iadd (w := 3) n136_780 (by decide) ?_
  refine am_e_sald1 n136_781 rfl (by decide) (by decide) hx3 ?_
  refine am_e_callV (L := [(0, .ref 0), (1, .int 0), (2, .int a2), (3, .int a3)]) n136_782 rfl rfl rfl rfl rfl rfl rfl rfl ?_
  refine am_e_iload_n n71_0 rfl ?_
  refine am_e_iconst (w := 0) n71_1 rfl ?_
  refine am_e_iconst (w := 4) n71_2 rfl ?_
  refine am_e_callS (L := [(0, .int 0), (1, .int 0), (2, .int 4)]) n71_3 rfl rfl rfl rfl rfl rfl rfl ?_
  refine am_e_iload_n n30_0 rfl ?_
  refine am_e_iload_n n30_1 rfl ?_
  refine am_e_cmpF n30_2 (am_c_ltF (by decide)) ?_
  refine am_e_iload_n n30_3 rfl ?_
  refine am_e_iload_n n30_4 rfl ?_
  refine am_e_cmpF n30_5 (am_c_gtF (by decide)) ?_
  refine am_e_iconst (w := 1) n30_6 rfl ?_
  refine am_e_goto c30_7 t30_7 ?_
  refine am_e_iret c30_9 rfl rfl rfl ?_
  refine am_e_ifF n71_4 (am_c_eqF (by decide)) ?_
  refine am_e_iload_n n71_5 rfl ?_
  refine am_e_iconst (w := 0) n71_6 rfl ?_
  refine am_e_sipush (w := 3600) n71_7 (by decide) ?_
  refine am_e_callS (L := [(0, .int a3), (1, .int 0), (2, .int 3600)]) n71_8 rfl rfl rfl rfl rfl rfl rfl ?_
  refine am_e_iload_n n30_0 rfl ?_
  refine am_e_iload_n n30_1 rfl ?_
  refine am_e_cmpT n30_2 (am_c_ltT ha) t30_2 ?_
  refine am_e_iconst (w := 0) n30_8 rfl ?_
  refine am_e_iret c30_9 rfl rfl rfl ?_
  refine am_e_ifF n71_9 (am_c_neF (by decide)) ?_
  refine am_e_iconst (w := (-1)) n71_10 rfl ?_
  refine am_e_iret c71_11 rfl rfl rfl ?_
  refine am_e_aload_n n136_783 rfl ?_
  refine am_e_sload_n n136_784 rfl ?_
  refine am_e_iload n136_785 rfl ?_
  refine am_e_iconst (w := 1) n136_786 rfl ?_
  refine am_e_iadd (w := 1) n136_787 (by decide) ?_
  refine am_e_sald1 n136_788 rfl (by decide) (by decide) hx1 ?_
  refine am_e_sload_n n136_789 rfl ?_
  refine am_e_iload n136_790 rfl ?_
  refine am_e_iconst (w := 2) n136_791 rfl ?_
  refine am_e_iadd (w := 2) n136_792 (by decide) ?_
  refine am_e_sald1 n136_793 rfl (by decide) (by decide) hx2 ?_
  refine am_e_sload_n n136_794 rfl ?_
  refine am_e_iload n136_795 rfl ?_
  refine am_e_iconst (w := 3) n136_796 rfl ?_
  refine am_e_iadd (w := 3) n136_797 (by decide) ?_
  refine am_e_sald1 n136_798 rfl (by decide) (by decide) hx3 ?_
  refine am_e_callV (L := [(0, .ref 164), (1, .int 0), (2, .int a2), (3, .int a3)]) n136_799 rfl rfl rfl rfl rfl rfl rfl rfl ?_
  refine am_e_aload_n n128_0 rfl ?_
  refine am_e_iconst (w := 0) n128_1 rfl ?_
  refine am_e_putf n128_2 rfl rfl ?_
  refine am_e_iload_n n128_3 rfl ?_
  refine am_e_iconst (w := 0) n128_4 rfl ?_
  refine am_e_iconst (w := 4) n128_5 rfl ?_
  refine am_e_callS (L := [(0, .int 0), (1, .int 0), (2, .int 4)]) n128_6 rfl rfl rfl rfl rfl rfl rfl ?_
  refine am_e_iload_n n87_0 rfl ?_
  refine am_e_iload_n n87_1 rfl ?_
  refine am_e_cmpF n87_2 (am_c_ltF (by decide)) ?_
  refine am_e_iload_n n87_3 rfl ?_
  refine am_e_iload_n n87_4 rfl ?_
  refine am_e_cmpF n87_5 (am_c_gtF (by decide)) ?_
  refine am_e_iconst (w := 1) n87_6 rfl ?_
  refine am_e_goto c87_7 t87_7 ?_
  refine am_e_iret c87_9 rfl rfl rfl ?_
  refine am_e_ifF n128_7 (am_c_eqF (by decide)) ?_
  refine am_e_iload_n n128_8 rfl ?_
  refine am_e_iconst (w := 0) n128_9 rfl ?_
  refine am_e_sipush (w := 3600) n128_10 (by decide) ?_
  refine am_e_callS (L := [(0, .int a3), (1, .int 0), (2, .int 3600)]) n128_11 rfl rfl rfl rfl rfl rfl rfl ?_
  refine am_e_iload_n n87_0 rfl ?_
  refine am_e_iload_n n87_1 rfl ?_
  refine am_e_cmpT n87_2 (am_c_ltT ha) t87_2 ?_
  refine am_e_iconst (w := 0) n87_8 rfl ?_
  refine am_e_iret c87_9 rfl rfl rfl ?_
  refine am_e_ifT n128_12 (am_c_eqT (by decide)) t128_12 ?_
  refine am_e_iconst (w := (-1)) n128_33 rfl ?_
  refine am_e_iret c128_34 rfl rfl rfl ?_
  refine am_e_cmpT n136_800 (am_c_eqT (by decide)) t136_800 ?_
  exact K _
theorem am_op28_0_p {lk : List Value → List am_k → am_H → Option am_O} {xs : Nat → Int32} {h : am_H} {Q : Option Value → List am_k → am_H → Prop} {a2 : Int32} {a3 : Int32} {a4 : Int32} {a5 : Int32} (hb : ¬ a3 < (0 : Int32)) (ha : (3600 : Int32) < a3) (hT : am_T h) (hx1 : xs 1 = 0) (hx2 : xs 2 = a2) (hx3 : xs 3 = a3) (hx4 : xs 4 = a4) (hx5 : xs 5 = a5) (K : ∀ h', am_Ek false (am_P1 (some (6, xs)) lk) am_m136 841 [(4, .int 0), (3, .ref 202), (2, .ref 164), (1, .ref 0), (0, .retAddr 0)] [] am_ks0 h' 203 4392 Q) : am_Ek false (am_P1 (some (6, xs)) lk) am_m136 766 [(4, .int 0), (3, .ref 202), (2, .ref 164), (1, .ref 0), (0, .retAddr 0)] [] am_ks0 h 203 4392 Q := by
  refine am_e_aload_n n136_766 rfl ?_
  refine am_e_sload_n n136_767 rfl ?_
  refine am_e_iload n136_768 rfl ?_
  refine am_e_iconst (w := 1) n136_769 rfl ?_
  refine am_e_iadd (w := 1) n136_770 (by decide) ?_
  refine am_e_sald1 n136_771 rfl (by decide) (by decide) hx1 ?_
  refine am_e_sload_n n136_772 rfl ?_
  refine am_e_iload n136_773 rfl ?_
  refine am_e_iconst (w := 2) n136_774 rfl ?_
  refine am_e_iadd (w := 2) n136_775 (by decide) ?_
  refine am_e_sald1 n136_776 rfl (by decide) (by decide) hx2 ?_
  refine am_e_sload_n n136_777 rfl ?_
  refine am_e_iload n136_778 rfl ?_
  refine am_e_iconst (w := 3) n136_779 rfl ?_
  refine am_e_iadd (w := 3) n136_780 (by decide) ?_
  refine am_e_sald1 n136_781 rfl (by decide) (by decide) hx3 ?_
  refine am_e_callV (L := [(0, .ref 0), (1, .int 0), (2, .int a2), (3, .int a3)]) n136_782 rfl rfl rfl rfl rfl rfl rfl rfl ?_
  refine am_e_iload_n n71_0 rfl ?_
  refine am_e_iconst (w := 0) n71_1 rfl ?_
  refine am_e_iconst (w := 4) n71_2 rfl ?_
  refine am_e_callS (L := [(0, .int 0), (1, .int 0), (2, .int 4)]) n71_3 rfl rfl rfl rfl rfl rfl rfl ?_
  refine am_e_iload_n n30_0 rfl ?_
  refine am_e_iload_n n30_1 rfl ?_
  refine am_e_cmpF n30_2 (am_c_ltF (by decide)) ?_
  refine am_e_iload_n n30_3 rfl ?_
  refine am_e_iload_n n30_4 rfl ?_
  refine am_e_cmpF n30_5 (am_c_gtF (by decide)) ?_
  refine am_e_iconst (w := 1) n30_6 rfl ?_
  refine am_e_goto c30_7 t30_7 ?_
  refine am_e_iret c30_9 rfl rfl rfl ?_
  refine am_e_ifF n71_4 (am_c_eqF (by decide)) ?_
  refine am_e_iload_n n71_5 rfl ?_
  refine am_e_iconst (w := 0) n71_6 rfl ?_
  refine am_e_sipush (w := 3600) n71_7 (by decide) ?_
  refine am_e_callS (L := [(0, .int a3), (1, .int 0), (2, .int 3600)]) n71_8 rfl rfl rfl rfl rfl rfl rfl ?_
  refine am_e_iload_n n30_0 rfl ?_
  refine am_e_iload_n n30_1 rfl ?_
  refine am_e_cmpF n30_2 (am_c_ltF hb) ?_
  refine am_e_iload_n n30_3 rfl ?_
  refine am_e_iload_n n30_4 rfl ?_
  refine am_e_cmpT n30_5 (am_c_gtT ha) t30_5 ?_
  refine am_e_iconst (w := 0) n30_8 rfl ?_
  refine am_e_iret c30_9 rfl rfl rfl ?_
  refine am_e_ifF n71_9 (am_c_neF (by decide)) ?_
  refine am_e_iconst (w := (-1)) n71_10 rfl ?_
  refine am_e_iret c71_11 rfl rfl rfl ?_
  refine am_e_aload_n n136_783 rfl ?_
  refine am_e_sload_n n136_784 rfl ?_
  refine am_e_iload n136_785 rfl ?_
  refine am_e_iconst (w := 1) n136_786 rfl ?_
  refine am_e_iadd (w := 1) n136_787 (by decide) ?_
  refine am_e_sald1 n136_788 rfl (by decide) (by decide) hx1 ?_
  refine am_e_sload_n n136_789 rfl ?_
  refine am_e_iload n136_790 rfl ?_
  refine am_e_iconst (w := 2) n136_791 rfl ?_
  refine am_e_iadd (w := 2) n136_792 (by decide) ?_
  refine am_e_sald1 n136_793 rfl (by decide) (by decide) hx2 ?_
  refine am_e_sload_n n136_794 rfl ?_
  refine am_e_iload n136_795 rfl ?_
  refine am_e_iconst (w := 3) n136_796 rfl ?_
  refine am_e_iadd (w := 3) n136_797 (by decide) ?_
  refine am_e_sald1 n136_798 rfl (by decide) (by decide) hx3 ?_
  refine am_e_callV (L := [(0, .ref 164), (1, .int 0), (2, .int a2), (3, .int a3)]) n136_799 rfl rfl rfl rfl rfl rfl rfl rfl ?_
  refine am_e_aload_n n128_0 rfl ?_
  refine am_e_iconst (w := 0) n128_1 rfl ?_
  refine am_e_putf n128_2 rfl rfl ?_
  refine am_e_iload_n n128_3 rfl ?_
  refine am_e_iconst (w := 0) n128_4 rfl ?_
  refine am_e_iconst (w := 4) n128_5 rfl ?_
  refine am_e_callS (L := [(0, .int 0), (1, .int 0), (2, .int 4)]) n128_6 rfl rfl rfl rfl rfl rfl rfl ?_
  refine am_e_iload_n n87_0 rfl ?_
  refine am_e_iload_n n87_1 rfl ?_
  refine am_e_cmpF n87_2 (am_c_ltF (by decide)) ?_
  refine am_e_iload_n n87_3 rfl ?_
  refine am_e_iload_n n87_4 rfl ?_
  refine am_e_cmpF n87_5 (am_c_gtF (by decide)) ?_
  refine am_e_iconst (w := 1) n87_6 rfl ?_
  refine am_e_goto c87_7 t87_7 ?_
  refine am_e_iret c87_9 rfl rfl rfl ?_
  refine am_e_ifF n128_7 (am_c_eqF (by decide)) ?_
  refine am_e_iload_n n128_8 rfl ?_
  refine am_e_iconst (w := 0) n128_9 rfl ?_
  refine am_e_sipush (w := 3600) n128_10 (by decide) ?_
  refine am_e_callS (L := [(0, .int a3), (1, .int 0), (2, .int 3600)]) n128_11 rfl rfl rfl rfl rfl rfl rfl ?_
  refine am_e_iload_n n87_0 rfl ?_
  refine am_e_iload_n n87_1 rfl ?_
  refine am_e_cmpF n87_2 (am_c_ltF hb) ?_
  refine am_e_iload_n n87_3 rfl ?_
  refine am_e_iload_n n87_4 rfl ?_
  refine am_e_cmpT n87_5 (am_c_gtT ha) t87_5 ?_
  refine am_e_iconst (w := 0) n87_8 rfl ?_
  refine am_e_iret c87_9 rfl rfl rfl ?_
  refine am_e_ifT n128_12 (am_c_eqT (by decide)) t128_12 ?_
  refine am_e_iconst (w := (-1)) n128_33 rfl ?_
  refine am_e_iret c128_34 rfl rfl rfl ?_
  refine am_e_cmpT n136_800 (am_c_eqT (by decide)) t136_800 ?_
  exact K _
theorem am_op28_0_n {lk : List Value → List am_k → am_H → Option am_O} {xs : Nat → Int32} {h : am_H} {Q : Option Value → List am_k → am_H → Prop} {a2 : Int32} {a4 : Int32} {a5 : Int32} {n : Nat} (hn9 : n ≤ 3600) (hT : am_T h) (hx1 : xs 1 = 0) (hx2 : xs 2 = a2) (hx3 : xs 3 = (nI n)) (hx4 : xs 4 = a4) (hx5 : xs 5 = a5) (K : ∀ h', am_Ek false (am_P1 (some (6, xs)) lk) am_m136 841 [(4, .int 0), (3, .ref 202), (2, .ref 164), (1, .ref 0), (0, .retAddr 0)] [] am_ks0 h' 203 4392 Q) : am_Ek false (am_P1 (some (6, xs)) lk) am_m136 766 [(4, .int 0), (3, .ref 202), (2, .ref 164), (1, .ref 0), (0, .retAddr 0)] [] am_ks0 h 203 4392 Q := by
  refine am_e_aload_n n136_766 rfl ?_
  refine am_e_sload_n n136_767 rfl ?_
  refine am_e_iload n136_768 rfl ?_
  refine am_e_iconst (w := 1) n136_769 rfl ?_
  refine am_e_iadd (w := 1) n136_770 (by decide) ?_
  refine am_e_sald1 n136_771 rfl (by decide) (by decide) hx1 ?_
  refine am_e_sload_n n136_772 rfl ?_
  refine am_e_iload n136_773 rfl ?_
  refine am_e_iconst (w := 2) n136_774 rfl ?_
  refine am_e_iadd (w := 2) n136_775 (by decide) ?_
  refine am_e_sald1 n136_776 rfl (by decide) (by decide) hx2 ?_
  refine am_e_sload_n n136_777 rfl ?_
  refine am_e_iload n136_778 rfl ?_
  refine am_e_iconst (w := 3) n136_779 rfl ?_
  refine am_e_iadd (w := 3) n136_780 (by decide) ?_
  refine am_e_sald1 n136_781 rfl (by decide) (by decide) hx3 ?_
  refine am_e_callV (L := [(0, .ref 0), (1, .int 0), (2, .int a2), (3, .int (nI n))]) n136_782 rfl rfl rfl rfl rfl rfl rfl rfl ?_
  refine am_e_iload_n n71_0 rfl ?_
  refine am_e_iconst (w := 0) n71_1 rfl ?_
  refine am_e_iconst (w := 4) n71_2 rfl ?_
  refine am_e_callS (L := [(0, .int 0), (1, .int 0), (2, .int 4)]) n71_3 rfl rfl rfl rfl rfl rfl rfl ?_
  refine am_e_iload_n n30_0 rfl ?_
  refine am_e_iload_n n30_1 rfl ?_
  refine am_e_cmpF n30_2 (am_c_ltF (by decide)) ?_
  refine am_e_iload_n n30_3 rfl ?_
  refine am_e_iload_n n30_4 rfl ?_
  refine am_e_cmpF n30_5 (am_c_gtF (by decide)) ?_
  refine am_e_iconst (w := 1) n30_6 rfl ?_
  refine am_e_goto c30_7 t30_7 ?_
  refine am_e_iret c30_9 rfl rfl rfl ?_
  refine am_e_ifF n71_4 (am_c_eqF (by decide)) ?_
  refine am_e_iload_n n71_5 rfl ?_
  refine am_e_iconst (w := 0) n71_6 rfl ?_
  refine am_e_sipush (w := 3600) n71_7 (by decide) ?_
  refine am_e_callS (L := [(0, .int (nI n)), (1, .int 0), (2, .int 3600)]) n71_8 rfl rfl rfl rfl rfl rfl rfl ?_
  refine am_e_iload_n n30_0 rfl ?_
  refine am_e_iload_n n30_1 rfl ?_
  refine am_e_cmpF n30_2 (am_c_ltF (nI_pos (by omega))) ?_
  refine am_e_iload_n n30_3 rfl ?_
  refine am_e_iload_n n30_4 rfl ?_
  refine am_e_cmpF n30_5 (am_c_gtF (nI_nlt (a := 3600) (b := n) hn9 (by decide))) ?_
  refine am_e_iconst (w := 1) n30_6 rfl ?_
  refine am_e_goto c30_7 t30_7 ?_
  refine am_e_iret c30_9 rfl rfl rfl ?_
  refine am_e_ifT n71_9 (am_c_neT (by decide)) t71_9 ?_
  refine am_e_iload_n n71_12 rfl ?_
  refine am_e_iconst (w := 4) n71_13 rfl ?_
  refine am_e_cmpT n71_14 (am_c_neT (by decide)) t71_14 ?_
  refine am_e_iload_n n71_26 rfl ?_
  by_cases hb1 : (a2 : Int32) = 0
  · subst hb1
    refine am_e_ifF n71_27 (am_c_neF rfl) ?_
    refine am_e_iconst (w := 1) n71_28 rfl ?_
    refine am_e_goto c71_29 t71_29 ?_
    refine am_e_istore (ls' := [(4, .int 1), (0, .ref 0), (1, .int 0), (2, .int 0), (3, .int (nI n))]) n71_31 rfl rfl ?_
    refine am_e_iload n71_32 rfl ?_
    refine am_e_ifF n71_33 (am_c_eqF (by decide)) ?_
    refine am_e_iload_n n71_34 rfl ?_
    refine am_e_iconst (w := 3) n71_35 rfl ?_
    refine am_e_cmpT n71_36 (am_c_neT (by decide)) t71_36 ?_
    refine am_e_aload_n n71_43 rfl ?_
    refine am_e_getf (v := .ref 148) n71_44 rfl (f0_11 (h := h) hT) ?_
    refine am_e_aload_n n71_45 rfl ?_
    refine am_e_getf (v := .ref 2) n71_46 rfl (f0_2 (h := h) hT) ?_
    refine am_e_aload_n n71_47 rfl ?_
    refine am_e_getf (v := .ref 48) n71_48 rfl (f0_5 (h := h) hT) ?_
    refine am_e_callV (L := [(0, .ref 148), (1, .ref 2), (2, .ref 48)]) n71_49 rfl rfl rfl rfl rfl rfl rfl rfl ?_
    refine am_e_aload_n n31_0 rfl ?_
    refine am_e_aload_n n31_1 rfl ?_
    refine am_e_putf n31_2 rfl rfl ?_
    refine am_e_aload_n n31_3 rfl ?_
    refine am_e_getf (v := .ref 149) n31_4 rfl (f148_1 (h := h) hT) ?_
    refine am_e_aload_n n31_5 rfl ?_
    refine am_e_callV (L := [(0, .ref 149), (1, .ref 48)]) n31_6 rfl rfl rfl rfl rfl rfl rfl rfl ?_
    refine am_e_aload_n n32_0 rfl ?_
    refine am_e_aload_n n32_1 rfl ?_
    refine am_e_getf (v := .int 0) n32_2 rfl (f48_0 (h := h) hT) ?_
    refine am_e_putf n32_3 rfl rfl ?_
    refine am_e_aload_n n32_4 rfl ?_
    refine am_e_aload_n n32_5 rfl ?_
    refine am_e_getf (v := .int 0) n32_6 rfl (f48_1 (h := h) hT) ?_
    refine am_e_putf n32_7 rfl rfl ?_
    refine am_e_aload_n n32_8 rfl ?_
    refine am_e_aload_n n32_9 rfl ?_
    refine am_e_getf (v := .int (-1)) n32_10 rfl (f48_2 (h := h) hT) ?_
    refine am_e_putf n32_11 rfl rfl ?_
    refine am_e_aload_n n32_12 rfl ?_
    refine am_e_aload_n n32_13 rfl ?_
    refine am_e_getf (v := .int 0) n32_14 rfl (f48_3 (h := h) hT) ?_
    refine am_e_putf n32_15 rfl rfl ?_
    refine am_e_aload_n n32_16 rfl ?_
    refine am_e_aload_n n32_17 rfl ?_
    refine am_e_getf (v := .int 0) n32_18 rfl (f48_4 (h := h) hT) ?_
    refine am_e_putf n32_19 rfl rfl ?_
    refine am_e_iconst (w := 0) n32_20 rfl ?_
    refine am_e_istore_n (ls' := [(2, .int 0), (0, .ref 149), (1, .ref 48)]) n32_21 rfl rfl ?_
    refine am_e_iload_n n32_22 rfl ?_
    refine am_e_iconst (w := 4) n32_23 rfl ?_
    refine am_e_cmpF n32_24 (am_c_geF (by decide)) ?_
    refine am_e_aload_n n32_25 rfl ?_
    refine am_e_getf (v := .ref 150) n32_26 rfl (f149_5 (h := h) hT) ?_
    refine am_e_iload_n n32_27 rfl ?_
    refine am_e_aload_n n32_28 rfl ?_
    refine am_e_getf (v := .ref 49) n32_29 rfl (f48_5 (h := h) hT) ?_
    refine am_e_iload_n n32_30 rfl ?_
    refine am_e_iaload (v := 0) (q := 0) n32_31 rfl (by decide) (by decide) (f49_0 (h := h) hT) ?_
    refine am_e_iastore (q := 0) n32_32 rfl (by decide) (by decide) ?_
    refine am_e_aload_n n32_33 rfl ?_
    refine am_e_getf (v := .ref 151) n32_34 rfl (f149_6 (h := h) hT) ?_
    refine am_e_iload_n n32_35 rfl ?_
    refine am_e_aload_n n32_36 rfl ?_
    refine am_e_getf (v := .ref 50) n32_37 rfl (f48_6 (h := h) hT) ?_
    refine am_e_iload_n n32_38 rfl ?_
    refine am_e_iaload (v := 0) (q := 0) n32_39 rfl (by decide) (by decide) (f50_0 (h := h) hT) ?_
    refine am_e_iastore (q := 0) n32_40 rfl (by decide) (by decide) ?_
    refine am_e_aload_n n32_41 rfl ?_
    refine am_e_getf (v := .ref 152) n32_42 rfl (f149_7 (h := h) hT) ?_
    refine am_e_iload_n n32_43 rfl ?_
    refine am_e_aload_n n32_44 rfl ?_
    refine am_e_getf (v := .ref 51) n32_45 rfl (f48_7 (h := h) hT) ?_
    refine am_e_iload_n n32_46 rfl ?_
    refine am_e_iaload (v := 0) (q := 0) n32_47 rfl (by decide) (by decide) (f51_0 (h := h) hT) ?_
    refine am_e_iastore (q := 0) n32_48 rfl (by decide) (by decide) ?_
    refine am_e_iinc (w := 1) (ls' := [(2, .int 1), (0, .ref 149), (1, .ref 48)]) n32_49 rfl rfl (by decide) rfl ?_
    refine am_e_goto c32_50 t32_50 ?_
    refine am_e_iload_n n32_22 rfl ?_
    refine am_e_iconst (w := 4) n32_23 rfl ?_
    refine am_e_cmpF n32_24 (am_c_geF (by decide)) ?_
    refine am_e_aload_n n32_25 rfl ?_
    refine am_e_getf (v := .ref 150) n32_26 rfl (f149_5 (h := h) hT) ?_
    refine am_e_iload_n n32_27 rfl ?_
    refine am_e_aload_n n32_28 rfl ?_
    refine am_e_getf (v := .ref 49) n32_29 rfl (f48_5 (h := h) hT) ?_
    refine am_e_iload_n n32_30 rfl ?_
    refine am_e_iaload (v := 0) (q := 1) n32_31 rfl (by decide) (by decide) (f49_1 (h := h) hT) ?_
    refine am_e_iastore (q := 1) n32_32 rfl (by decide) (by decide) ?_
    refine am_e_aload_n n32_33 rfl ?_
    refine am_e_getf (v := .ref 151) n32_34 rfl (f149_6 (h := h) hT) ?_
    refine am_e_iload_n n32_35 rfl ?_
    refine am_e_aload_n n32_36 rfl ?_
    refine am_e_getf (v := .ref 50) n32_37 rfl (f48_6 (h := h) hT) ?_
    refine am_e_iload_n n32_38 rfl ?_
    refine am_e_iaload (v := 0) (q := 1) n32_39 rfl (by decide) (by decide) (f50_1 (h := h) hT) ?_
    refine am_e_iastore (q := 1) n32_40 rfl (by decide) (by decide) ?_
    refine am_e_aload_n n32_41 rfl ?_
    refine am_e_getf (v := .ref 152) n32_42 rfl (f149_7 (h := h) hT) ?_
    refine am_e_iload_n n32_43 rfl ?_
    refine am_e_aload_n n32_44 rfl ?_
    refine am_e_getf (v := .ref 51) n32_45 rfl (f48_7 (h := h) hT) ?_
    refine am_e_iload_n n32_46 rfl ?_
    refine am_e_iaload (v := 0) (q := 1) n32_47 rfl (by decide) (by decide) (f51_1 (h := h) hT) ?_
    refine am_e_iastore (q := 1) n32_48 rfl (by decide) (by decide) ?_
    refine am_e_iinc (w := 2) (ls' := [(2, .int 2), (0, .ref 149), (1, .ref 48)]) n32_49 rfl rfl (by decide) rfl ?_
    refine am_e_goto c32_50 t32_50 ?_
    refine am_e_iload_n n32_22 rfl ?_
    refine am_e_iconst (w := 4) n32_23 rfl ?_
    refine am_e_cmpF n32_24 (am_c_geF (by decide)) ?_
    refine am_e_aload_n n32_25 rfl ?_
    refine am_e_getf (v := .ref 150) n32_26 rfl (f149_5 (h := h) hT) ?_
    refine am_e_iload_n n32_27 rfl ?_
    refine am_e_aload_n n32_28 rfl ?_
    refine am_e_getf (v := .ref 49) n32_29 rfl (f48_5 (h := h) hT) ?_
    refine am_e_iload_n n32_30 rfl ?_
    refine am_e_iaload (v := 0) (q := 2) n32_31 rfl (by decide) (by decide) (f49_2 (h := h) hT) ?_
    refine am_e_iastore (q := 2) n32_32 rfl (by decide) (by decide) ?_
    refine am_e_aload_n n32_33 rfl ?_
    refine am_e_getf (v := .ref 151) n32_34 rfl (f149_6 (h := h) hT) ?_
    refine am_e_iload_n n32_35 rfl ?_
    refine am_e_aload_n n32_36 rfl ?_
    refine am_e_getf (v := .ref 50) n32_37 rfl (f48_6 (h := h) hT) ?_
    refine am_e_iload_n n32_38 rfl ?_
    refine am_e_iaload (v := 0) (q := 2) n32_39 rfl (by decide) (by decide) (f50_2 (h := h) hT) ?_
    refine am_e_iastore (q := 2) n32_40 rfl (by decide) (by decide) ?_
    refine am_e_aload_n n32_41 rfl ?_
    refine am_e_getf (v := .ref 152) n32_42 rfl (f149_7 (h := h) hT) ?_
    refine am_e_iload_n n32_43 rfl ?_
    refine am_e_aload_n n32_44 rfl ?_
    refine am_e_getf (v := .ref 51) n32_45 rfl (f48_7 (h := h) hT) ?_
    refine am_e_iload_n n32_46 rfl ?_
    refine am_e_iaload (v := 0) (q := 2) n32_47 rfl (by decide) (by decide) (f51_2 (h := h) hT) ?_
    refine am_e_iastore (q := 2) n32_48 rfl (by decide) (by decide) ?_
    refine am_e_iinc (w := 3) (ls' := [(2, .int 3), (0, .ref 149), (1, .ref 48)]) n32_49 rfl rfl (by decide) rfl ?_
    refine am_e_goto c32_50 t32_50 ?_
    refine am_e_iload_n n32_22 rfl ?_
    refine am_e_iconst (w := 4) n32_23 rfl ?_
    refine am_e_cmpF n32_24 (am_c_geF (by decide)) ?_
    refine am_e_aload_n n32_25 rfl ?_
    refine am_e_getf (v := .ref 150) n32_26 rfl (f149_5 (h := h) hT) ?_
    refine am_e_iload_n n32_27 rfl ?_
    refine am_e_aload_n n32_28 rfl ?_
    refine am_e_getf (v := .ref 49) n32_29 rfl (f48_5 (h := h) hT) ?_
    refine am_e_iload_n n32_30 rfl ?_
    refine am_e_iaload (v := 0) (q := 3) n32_31 rfl (by decide) (by decide) (f49_3 (h := h) hT) ?_
    refine am_e_iastore (q := 3) n32_32 rfl (by decide) (by decide) ?_
    refine am_e_aload_n n32_33 rfl ?_
    refine am_e_getf (v := .ref 151) n32_34 rfl (f149_6 (h := h) hT) ?_
    refine am_e_iload_n n32_35 rfl ?_
    refine am_e_aload_n n32_36 rfl ?_
    refine am_e_getf (v := .ref 50) n32_37 rfl (f48_6 (h := h) hT) ?_
    refine am_e_iload_n n32_38 rfl ?_
    refine am_e_iaload (v := 0) (q := 3) n32_39 rfl (by decide) (by decide) (f50_3 (h := h) hT) ?_
    refine am_e_iastore (q := 3) n32_40 rfl (by decide) (by decide) ?_
    refine am_e_aload_n n32_41 rfl ?_
    refine am_e_getf (v := .ref 152) n32_42 rfl (f149_7 (h := h) hT) ?_
    refine am_e_iload_n n32_43 rfl ?_
    refine am_e_aload_n n32_44 rfl ?_
    refine am_e_getf (v := .ref 51) n32_45 rfl (f48_7 (h := h) hT) ?_
    refine am_e_iload_n n32_46 rfl ?_
    refine am_e_iaload (v := 0) (q := 3) n32_47 rfl (by decide) (by decide) (f51_3 (h := h) hT) ?_
    refine am_e_iastore (q := 3) n32_48 rfl (by decide) (by decide) ?_
    refine am_e_iinc (w := 4) (ls' := [(2, .int 4), (0, .ref 149), (1, .ref 48)]) n32_49 rfl rfl (by decide) rfl ?_
    refine am_e_goto c32_50 t32_50 ?_
    refine am_e_iload_n n32_22 rfl ?_
    refine am_e_iconst (w := 4) n32_23 rfl ?_
    refine am_e_cmpT n32_24 (am_c_geT (by decide)) t32_24 ?_
    refine am_e_vret c32_51 rfl rfl ?_
    refine am_e_aload_n n31_7 rfl ?_
    refine am_e_aload_n n31_8 rfl ?_
    refine am_e_getf (v := .int (-1)) n31_9 rfl (f2_18 (h := h) hT) ?_
    refine am_e_putf n31_10 rfl rfl ?_
    refine am_e_aload_n n31_11 rfl ?_
    refine am_e_iconst (w := 0) n31_12 rfl ?_
    refine am_e_putf n31_13 rfl rfl ?_
    refine am_e_aload_n n31_14 rfl ?_
    refine am_e_iconst (w := 0) n31_15 rfl ?_
    refine am_e_putf n31_16 rfl rfl ?_
    refine am_e_aload_n n31_17 rfl ?_
    refine am_e_ldc (w := 2147483647) n31_18 (by decide) ?_
    refine am_e_putf n31_19 rfl rfl ?_
    refine am_e_aload_n n31_20 rfl ?_
    refine am_e_ldc (w := 2147483647) n31_21 (by decide) ?_
    refine am_e_putf n31_22 rfl rfl ?_
    refine am_e_vret c31_23 rfl rfl ?_
    refine am_e_iload_n n71_50 rfl ?_
    refine am_e_ifF n71_51 (am_c_neF (by decide)) ?_
    refine am_e_aload_n n71_52 rfl ?_
    refine am_e_getf (v := .ref 148) n71_53 rfl (f0_11 (h := h) hT) ?_
    refine am_e_iconst (w := (-1)) n71_54 rfl ?_
    refine am_e_putf n71_55 rfl rfl ?_
    refine am_e_goto c71_56 t71_56 ?_
    refine am_e_aload_n n71_64 rfl ?_
    refine am_e_getf (v := .ref 148) n71_65 rfl (f0_11 (h := h) hT) ?_
    refine am_e_iload_n n71_66 rfl ?_
    refine am_e_iconst (w := 2) n71_67 rfl ?_
    refine am_e_cmpT n71_68 (am_c_neT (by decide)) t71_68 ?_
    refine am_e_iconst (w := 0) n71_71 rfl ?_
    refine am_e_putf n71_72 rfl rfl ?_
    refine am_e_aload_n n71_73 rfl ?_
    refine am_e_getf (v := .ref 148) n71_74 rfl (f0_11 (h := h) hT) ?_
    refine am_e_iload_n n71_75 rfl ?_
    refine am_e_iconst (w := 3) n71_76 rfl ?_
    refine am_e_cmpT n71_77 (am_c_neT (by decide)) t71_77 ?_
    refine am_e_iconst (w := 0) n71_80 rfl ?_
    refine am_e_putf n71_81 rfl rfl ?_
    refine am_e_aload_n n71_82 rfl ?_
    refine am_e_getf (v := .ref 148) n71_83 rfl (f0_11 (h := h) hT) ?_
    refine am_e_iload_n n71_84 rfl ?_
    refine am_e_iload_n n71_85 rfl ?_
    refine am_e_iconst (w := 1) n71_86 rfl ?_
    refine am_e_cmpT n71_87 (am_c_neT (by decide)) t71_87 ?_
    refine am_e_iconst (w := 0) n71_90 rfl ?_
    refine am_e_callV (L := [(0, .ref 148), (1, .int (nI n)), (2, .int 0)]) n71_91 rfl rfl rfl rfl rfl rfl rfl rfl ?_
    refine am_goBy0 (n := n) (f := 0) (s := 0) (by omega) ⟨(f148_1 (h := h) hT), rfl, rfl, (f2_19 (h := h) hT), (f11_7 (h := h) hT), (f2_0 (h := h) hT), (f11_6 (h := h) hT), (f16_0 (h := h) hT), (f11_4 (h := h) hT), (f14_0 (h := h) hT), (f11_5 (h := h) hT), (f15_0 (h := h) hT), rfl, rfl, trivial⟩ (by decide) (by omega) rfl rfl rfl ?_
    intro h10 F10 qa10 qb10 qc10
    rw [am_nfs_0] at qa10
    obtain ⟨l10, qc10⟩ := qc10
    refine am_e_pop n71_92 rfl ?_
    refine am_e_aload_n n71_93 rfl ?_
    refine am_e_getf (v := .ref 148) n71_94 rfl ((F10 0 11 rfl).trans (f0_11 (h := h) hT)) ?_
    refine am_e_getf (v := .ref 149) n71_95 rfl ((F10 148 1 rfl).trans (f148_1 (h := h) hT)) ?_
    refine am_e_getf (v := .int 0) n71_96 rfl qa10 ?_
    refine am_e_iret c71_97 rfl rfl rfl ?_
    refine am_e_aload_n n136_783 rfl ?_
    refine am_e_sload_n n136_784 rfl ?_
    refine am_e_iload n136_785 rfl ?_
    refine am_e_iconst (w := 1) n136_786 rfl ?_
    refine am_e_iadd (w := 1) n136_787 (by decide) ?_
    refine am_e_sald1 n136_788 rfl (by decide) (by decide) hx1 ?_
    refine am_e_sload_n n136_789 rfl ?_
    refine am_e_iload n136_790 rfl ?_
    refine am_e_iconst (w := 2) n136_791 rfl ?_
    refine am_e_iadd (w := 2) n136_792 (by decide) ?_
    refine am_e_sald1 n136_793 rfl (by decide) (by decide) hx2 ?_
    refine am_e_sload_n n136_794 rfl ?_
    refine am_e_iload n136_795 rfl ?_
    refine am_e_iconst (w := 3) n136_796 rfl ?_
    refine am_e_iadd (w := 3) n136_797 (by decide) ?_
    refine am_e_sald1 n136_798 rfl (by decide) (by decide) hx3 ?_
    refine am_e_callV (L := [(0, .ref 164), (1, .int 0), (2, .int 0), (3, .int (nI n))]) n136_799 rfl rfl rfl rfl rfl rfl rfl rfl ?_
    refine am_e_aload_n n128_0 rfl ?_
    refine am_e_iconst (w := 0) n128_1 rfl ?_
    refine am_e_putf n128_2 rfl rfl ?_
    refine am_e_iload_n n128_3 rfl ?_
    refine am_e_iconst (w := 0) n128_4 rfl ?_
    refine am_e_iconst (w := 4) n128_5 rfl ?_
    refine am_e_callS (L := [(0, .int 0), (1, .int 0), (2, .int 4)]) n128_6 rfl rfl rfl rfl rfl rfl rfl ?_
    refine am_e_iload_n n87_0 rfl ?_
    refine am_e_iload_n n87_1 rfl ?_
    refine am_e_cmpF n87_2 (am_c_ltF (by decide)) ?_
    refine am_e_iload_n n87_3 rfl ?_
    refine am_e_iload_n n87_4 rfl ?_
    refine am_e_cmpF n87_5 (am_c_gtF (by decide)) ?_
    refine am_e_iconst (w := 1) n87_6 rfl ?_
    refine am_e_goto c87_7 t87_7 ?_
    refine am_e_iret c87_9 rfl rfl rfl ?_
    refine am_e_ifF n128_7 (am_c_eqF (by decide)) ?_
    refine am_e_iload_n n128_8 rfl ?_
    refine am_e_iconst (w := 0) n128_9 rfl ?_
    refine am_e_sipush (w := 3600) n128_10 (by decide) ?_
    refine am_e_callS (L := [(0, .int (nI n)), (1, .int 0), (2, .int 3600)]) n128_11 rfl rfl rfl rfl rfl rfl rfl ?_
    refine am_e_iload_n n87_0 rfl ?_
    refine am_e_iload_n n87_1 rfl ?_
    refine am_e_cmpF n87_2 (am_c_ltF (nI_pos (by omega))) ?_
    refine am_e_iload_n n87_3 rfl ?_
    refine am_e_iload_n n87_4 rfl ?_
    refine am_e_cmpF n87_5 (am_c_gtF (nI_nlt (a := 3600) (b := n) hn9 (by decide))) ?_
    refine am_e_iconst (w := 1) n87_6 rfl ?_
    refine am_e_goto c87_7 t87_7 ?_
    refine am_e_iret c87_9 rfl rfl rfl ?_
    refine am_e_ifF n128_12 (am_c_eqF (by decide)) ?_
    refine am_e_iload_n n128_13 rfl ?_
    refine am_e_iconst (w := 4) n128_14 rfl ?_
    refine am_e_cmpT n128_15 (am_c_neT (by decide)) t128_15 ?_
    refine am_e_iload_n n128_23 rfl ?_
    refine am_e_ifF n128_24 (am_c_neF (by decide)) ?_
    refine am_e_iload_n n128_25 rfl ?_
    refine am_e_iconst (w := 3) n128_26 rfl ?_
    refine am_e_cmpT n128_27 (am_c_neT (by decide)) t128_27 ?_
    refine am_e_aload_n n128_35 rfl ?_
    refine am_e_iconst (w := 1) n128_36 rfl ?_
    refine am_e_iconst (w := 0) n128_37 rfl ?_
    refine am_e_callV (L := [(0, .ref 164), (1, .int 1), (2, .int 0)]) n128_38 rfl rfl rfl rfl rfl rfl rfl rfl ?_
    refine am_e_aload_n n97_0 rfl ?_
    refine am_e_getf (v := .ref 188) n97_1 rfl ((F10 164 50 rfl).trans (f164_50 (h := h) hT)) ?_
    refine am_e_iload_n n97_2 rfl ?_
    refine am_e_aload_n n97_3 rfl ?_
    refine am_e_getf (v := .ref 188) n97_4 rfl ((F10 164 50 rfl).trans (f164_50 (h := h) hT)) ?_
    refine am_e_iload_n n97_5 rfl ?_
    refine am_e_iaload (v := 0) (q := 0) n97_6 rfl (by decide) (by decide) ((F10 188 0 rfl).trans (f188_0 (h := h) hT)) ?_
    refine am_e_iastore (q := 1) n97_7 rfl (by decide) (by decide) ?_
    refine am_e_aload_n n97_8 rfl ?_
    refine am_e_getf (v := .ref 189) n97_9 rfl ((F10 164 51 rfl).trans (f164_51 (h := h) hT)) ?_
    refine am_e_iload_n n97_10 rfl ?_
    refine am_e_aload_n n97_11 rfl ?_
    refine am_e_getf (v := .ref 189) n97_12 rfl ((F10 164 51 rfl).trans (f164_51 (h := h) hT)) ?_
    refine am_e_iload_n n97_13 rfl ?_
    refine am_e_iaload (v := 0) (q := 0) n97_14 rfl (by decide) (by decide) ((F10 189 0 rfl).trans (f189_0 (h := h) hT)) ?_
    refine am_e_iastore (q := 1) n97_15 rfl (by decide) (by decide) ?_
    refine am_e_aload_n n97_16 rfl ?_
    refine am_e_getf (v := .ref 190) n97_17 rfl ((F10 164 52 rfl).trans (f164_52 (h := h) hT)) ?_
    refine am_e_iload_n n97_18 rfl ?_
    refine am_e_aload_n n97_19 rfl ?_
    refine am_e_getf (v := .ref 190) n97_20 rfl ((F10 164 52 rfl).trans (f164_52 (h := h) hT)) ?_
    refine am_e_iload_n n97_21 rfl ?_
    refine am_e_iaload (v := (-1)) (q := 0) n97_22 rfl (by decide) (by decide) ((F10 190 0 rfl).trans (f190_0 (h := h) hT)) ?_
    refine am_e_iastore (q := 1) n97_23 rfl (by decide) (by decide) ?_
    refine am_e_aload_n n97_24 rfl ?_
    refine am_e_getf (v := .ref 194) n97_25 rfl ((F10 164 56 rfl).trans (f164_56 (h := h) hT)) ?_
    refine am_e_iload_n n97_26 rfl ?_
    refine am_e_aload_n n97_27 rfl ?_
    refine am_e_getf (v := .ref 194) n97_28 rfl ((F10 164 56 rfl).trans (f164_56 (h := h) hT)) ?_
    refine am_e_iload_n n97_29 rfl ?_
    refine am_e_iaload (v := 0) (q := 0) n97_30 rfl (by decide) (by decide) ((F10 194 0 rfl).trans (f194_0 (h := h) hT)) ?_
    refine am_e_iastore (q := 1) n97_31 rfl (by decide) (by decide) ?_
    refine am_e_iconst (w := 0) n97_32 rfl ?_
    refine am_e_istore_n (ls' := [(3, .int 0), (0, .ref 164), (1, .int 1), (2, .int 0)]) n97_33 rfl rfl ?_
    refine am_e_iload_n n97_34 rfl ?_
    refine am_e_iconst (w := 4) n97_35 rfl ?_
    refine am_e_cmpF n97_36 (am_c_geF (by decide)) ?_
    refine am_e_aload_n n97_37 rfl ?_
    refine am_e_getf (v := .ref 191) n97_38 rfl ((F10 164 53 rfl).trans (f164_53 (h := h) hT)) ?_
    refine am_e_iconst (w := 4) n97_39 rfl ?_
    refine am_e_iload_n n97_40 rfl ?_
    refine am_e_imul (w := 4) n97_41 (by decide) ?_
    refine am_e_iload_n n97_42 rfl ?_
    refine am_e_iadd (w := 4) n97_43 (by decide) ?_
    refine am_e_aload_n n97_44 rfl ?_
    refine am_e_getf (v := .ref 191) n97_45 rfl ((F10 164 53 rfl).trans (f164_53 (h := h) hT)) ?_
    refine am_e_iconst (w := 4) n97_46 rfl ?_
    refine am_e_iload_n n97_47 rfl ?_
    refine am_e_imul (w := 0) n97_48 (by decide) ?_
    refine am_e_iload_n n97_49 rfl ?_
    refine am_e_iadd (w := 0) n97_50 (by decide) ?_
    refine am_e_iaload (v := 0) (q := 0) n97_51 rfl (by decide) (by decide) ((F10 191 0 rfl).trans (f191_0 (h := h) hT)) ?_
    refine am_e_iastore (q := 4) n97_52 rfl (by decide) (by decide) ?_
    refine am_e_aload_n n97_53 rfl ?_
    refine am_e_getf (v := .ref 192) n97_54 rfl ((F10 164 54 rfl).trans (f164_54 (h := h) hT)) ?_
    refine am_e_iconst (w := 4) n97_55 rfl ?_
    refine am_e_iload_n n97_56 rfl ?_
    refine am_e_imul (w := 4) n97_57 (by decide) ?_
    refine am_e_iload_n n97_58 rfl ?_
    refine am_e_iadd (w := 4) n97_59 (by decide) ?_
    refine am_e_aload_n n97_60 rfl ?_
    refine am_e_getf (v := .ref 192) n97_61 rfl ((F10 164 54 rfl).trans (f164_54 (h := h) hT)) ?_
    refine am_e_iconst (w := 4) n97_62 rfl ?_
    refine am_e_iload_n n97_63 rfl ?_
    refine am_e_imul (w := 0) n97_64 (by decide) ?_
    refine am_e_iload_n n97_65 rfl ?_
    refine am_e_iadd (w := 0) n97_66 (by decide) ?_
    refine am_e_iaload (v := 0) (q := 0) n97_67 rfl (by decide) (by decide) ((F10 192 0 rfl).trans (f192_0 (h := h) hT)) ?_
    refine am_e_iastore (q := 4) n97_68 rfl (by decide) (by decide) ?_
    refine am_e_aload_n n97_69 rfl ?_
    refine am_e_getf (v := .ref 193) n97_70 rfl ((F10 164 55 rfl).trans (f164_55 (h := h) hT)) ?_
    refine am_e_iconst (w := 4) n97_71 rfl ?_
    refine am_e_iload_n n97_72 rfl ?_
    refine am_e_imul (w := 4) n97_73 (by decide) ?_
    refine am_e_iload_n n97_74 rfl ?_
    refine am_e_iadd (w := 4) n97_75 (by decide) ?_
    refine am_e_aload_n n97_76 rfl ?_
    refine am_e_getf (v := .ref 193) n97_77 rfl ((F10 164 55 rfl).trans (f164_55 (h := h) hT)) ?_
    refine am_e_iconst (w := 4) n97_78 rfl ?_
    refine am_e_iload_n n97_79 rfl ?_
    refine am_e_imul (w := 0) n97_80 (by decide) ?_
    refine am_e_iload_n n97_81 rfl ?_
    refine am_e_iadd (w := 0) n97_82 (by decide) ?_
    refine am_e_iaload (v := 0) (q := 0) n97_83 rfl (by decide) (by decide) ((F10 193 0 rfl).trans (f193_0 (h := h) hT)) ?_
    refine am_e_iastore (q := 4) n97_84 rfl (by decide) (by decide) ?_
    refine am_e_iinc (w := 1) (ls' := [(3, .int 1), (0, .ref 164), (1, .int 1), (2, .int 0)]) n97_85 rfl rfl (by decide) rfl ?_
    refine am_e_goto c97_86 t97_86 ?_
    refine am_e_iload_n n97_34 rfl ?_
    refine am_e_iconst (w := 4) n97_35 rfl ?_
    refine am_e_cmpF n97_36 (am_c_geF (by decide)) ?_
    refine am_e_aload_n n97_37 rfl ?_
    refine am_e_getf (v := .ref 191) n97_38 rfl ((F10 164 53 rfl).trans (f164_53 (h := h) hT)) ?_
    refine am_e_iconst (w := 4) n97_39 rfl ?_
    refine am_e_iload_n n97_40 rfl ?_
    refine am_e_imul (w := 4) n97_41 (by decide) ?_
    refine am_e_iload_n n97_42 rfl ?_
    refine am_e_iadd (w := 5) n97_43 (by decide) ?_
    refine am_e_aload_n n97_44 rfl ?_
    refine am_e_getf (v := .ref 191) n97_45 rfl ((F10 164 53 rfl).trans (f164_53 (h := h) hT)) ?_
    refine am_e_iconst (w := 4) n97_46 rfl ?_
    refine am_e_iload_n n97_47 rfl ?_
    refine am_e_imul (w := 0) n97_48 (by decide) ?_
    refine am_e_iload_n n97_49 rfl ?_
    refine am_e_iadd (w := 1) n97_50 (by decide) ?_
    refine am_e_iaload (v := 0) (q := 1) n97_51 rfl (by decide) (by decide) ((F10 191 1 rfl).trans (f191_1 (h := h) hT)) ?_
    refine am_e_iastore (q := 5) n97_52 rfl (by decide) (by decide) ?_
    refine am_e_aload_n n97_53 rfl ?_
    refine am_e_getf (v := .ref 192) n97_54 rfl ((F10 164 54 rfl).trans (f164_54 (h := h) hT)) ?_
    refine am_e_iconst (w := 4) n97_55 rfl ?_
    refine am_e_iload_n n97_56 rfl ?_
    refine am_e_imul (w := 4) n97_57 (by decide) ?_
    refine am_e_iload_n n97_58 rfl ?_
    refine am_e_iadd (w := 5) n97_59 (by decide) ?_
    refine am_e_aload_n n97_60 rfl ?_
    refine am_e_getf (v := .ref 192) n97_61 rfl ((F10 164 54 rfl).trans (f164_54 (h := h) hT)) ?_
    refine am_e_iconst (w := 4) n97_62 rfl ?_
    refine am_e_iload_n n97_63 rfl ?_
    refine am_e_imul (w := 0) n97_64 (by decide) ?_
    refine am_e_iload_n n97_65 rfl ?_
    refine am_e_iadd (w := 1) n97_66 (by decide) ?_
    refine am_e_iaload (v := 0) (q := 1) n97_67 rfl (by decide) (by decide) ((F10 192 1 rfl).trans (f192_1 (h := h) hT)) ?_
    refine am_e_iastore (q := 5) n97_68 rfl (by decide) (by decide) ?_
    refine am_e_aload_n n97_69 rfl ?_
    refine am_e_getf (v := .ref 193) n97_70 rfl ((F10 164 55 rfl).trans (f164_55 (h := h) hT)) ?_
    refine am_e_iconst (w := 4) n97_71 rfl ?_
    refine am_e_iload_n n97_72 rfl ?_
    refine am_e_imul (w := 4) n97_73 (by decide) ?_
    refine am_e_iload_n n97_74 rfl ?_
    refine am_e_iadd (w := 5) n97_75 (by decide) ?_
    refine am_e_aload_n n97_76 rfl ?_
    refine am_e_getf (v := .ref 193) n97_77 rfl ((F10 164 55 rfl).trans (f164_55 (h := h) hT)) ?_
    refine am_e_iconst (w := 4) n97_78 rfl ?_
    refine am_e_iload_n n97_79 rfl ?_
    refine am_e_imul (w := 0) n97_80 (by decide) ?_
    refine am_e_iload_n n97_81 rfl ?_
    refine am_e_iadd (w := 1) n97_82 (by decide) ?_
    refine am_e_iaload (v := 0) (q := 1) n97_83 rfl (by decide) (by decide) ((F10 193 1 rfl).trans (f193_1 (h := h) hT)) ?_
    refine am_e_iastore (q := 5) n97_84 rfl (by decide) (by decide) ?_
    refine am_e_iinc (w := 2) (ls' := [(3, .int 2), (0, .ref 164), (1, .int 1), (2, .int 0)]) n97_85 rfl rfl (by decide) rfl ?_
    refine am_e_goto c97_86 t97_86 ?_
    refine am_e_iload_n n97_34 rfl ?_
    refine am_e_iconst (w := 4) n97_35 rfl ?_
    refine am_e_cmpF n97_36 (am_c_geF (by decide)) ?_
    refine am_e_aload_n n97_37 rfl ?_
    refine am_e_getf (v := .ref 191) n97_38 rfl ((F10 164 53 rfl).trans (f164_53 (h := h) hT)) ?_
    refine am_e_iconst (w := 4) n97_39 rfl ?_
    refine am_e_iload_n n97_40 rfl ?_
    refine am_e_imul (w := 4) n97_41 (by decide) ?_
    refine am_e_iload_n n97_42 rfl ?_
    refine am_e_iadd (w := 6) n97_43 (by decide) ?_
    refine am_e_aload_n n97_44 rfl ?_
    refine am_e_getf (v := .ref 191) n97_45 rfl ((F10 164 53 rfl).trans (f164_53 (h := h) hT)) ?_
    refine am_e_iconst (w := 4) n97_46 rfl ?_
    refine am_e_iload_n n97_47 rfl ?_
    refine am_e_imul (w := 0) n97_48 (by decide) ?_
    refine am_e_iload_n n97_49 rfl ?_
    refine am_e_iadd (w := 2) n97_50 (by decide) ?_
    refine am_e_iaload (v := 0) (q := 2) n97_51 rfl (by decide) (by decide) ((F10 191 2 rfl).trans (f191_2 (h := h) hT)) ?_
    refine am_e_iastore (q := 6) n97_52 rfl (by decide) (by decide) ?_
    refine am_e_aload_n n97_53 rfl ?_
    refine am_e_getf (v := .ref 192) n97_54 rfl ((F10 164 54 rfl).trans (f164_54 (h := h) hT)) ?_
    refine am_e_iconst (w := 4) n97_55 rfl ?_
    refine am_e_iload_n n97_56 rfl ?_
    refine am_e_imul (w := 4) n97_57 (by decide) ?_
    refine am_e_iload_n n97_58 rfl ?_
    refine am_e_iadd (w := 6) n97_59 (by decide) ?_
    refine am_e_aload_n n97_60 rfl ?_
    refine am_e_getf (v := .ref 192) n97_61 rfl ((F10 164 54 rfl).trans (f164_54 (h := h) hT)) ?_
    refine am_e_iconst (w := 4) n97_62 rfl ?_
    refine am_e_iload_n n97_63 rfl ?_
    refine am_e_imul (w := 0) n97_64 (by decide) ?_
    refine am_e_iload_n n97_65 rfl ?_
    refine am_e_iadd (w := 2) n97_66 (by decide) ?_
    refine am_e_iaload (v := 0) (q := 2) n97_67 rfl (by decide) (by decide) ((F10 192 2 rfl).trans (f192_2 (h := h) hT)) ?_
    refine am_e_iastore (q := 6) n97_68 rfl (by decide) (by decide) ?_
    refine am_e_aload_n n97_69 rfl ?_
    refine am_e_getf (v := .ref 193) n97_70 rfl ((F10 164 55 rfl).trans (f164_55 (h := h) hT)) ?_
    refine am_e_iconst (w := 4) n97_71 rfl ?_
    refine am_e_iload_n n97_72 rfl ?_
    refine am_e_imul (w := 4) n97_73 (by decide) ?_
    refine am_e_iload_n n97_74 rfl ?_
    refine am_e_iadd (w := 6) n97_75 (by decide) ?_
    refine am_e_aload_n n97_76 rfl ?_
    refine am_e_getf (v := .ref 193) n97_77 rfl ((F10 164 55 rfl).trans (f164_55 (h := h) hT)) ?_
    refine am_e_iconst (w := 4) n97_78 rfl ?_
    refine am_e_iload_n n97_79 rfl ?_
    refine am_e_imul (w := 0) n97_80 (by decide) ?_
    refine am_e_iload_n n97_81 rfl ?_
    refine am_e_iadd (w := 2) n97_82 (by decide) ?_
    refine am_e_iaload (v := 0) (q := 2) n97_83 rfl (by decide) (by decide) ((F10 193 2 rfl).trans (f193_2 (h := h) hT)) ?_
    refine am_e_iastore (q := 6) n97_84 rfl (by decide) (by decide) ?_
    refine am_e_iinc (w := 3) (ls' := [(3, .int 3), (0, .ref 164), (1, .int 1), (2, .int 0)]) n97_85 rfl rfl (by decide) rfl ?_
    refine am_e_goto c97_86 t97_86 ?_
    refine am_e_iload_n n97_34 rfl ?_
    refine am_e_iconst (w := 4) n97_35 rfl ?_
    refine am_e_cmpF n97_36 (am_c_geF (by decide)) ?_
    refine am_e_aload_n n97_37 rfl ?_
    refine am_e_getf (v := .ref 191) n97_38 rfl ((F10 164 53 rfl).trans (f164_53 (h := h) hT)) ?_
    refine am_e_iconst (w := 4) n97_39 rfl ?_
    refine am_e_iload_n n97_40 rfl ?_
    refine am_e_imul (w := 4) n97_41 (by decide) ?_
    refine am_e_iload_n n97_42 rfl ?_
    refine am_e_iadd (w := 7) n97_43 (by decide) ?_
    refine am_e_aload_n n97_44 rfl ?_
    refine am_e_getf (v := .ref 191) n97_45 rfl ((F10 164 53 rfl).trans (f164_53 (h := h) hT)) ?_
    refine am_e_iconst (w := 4) n97_46 rfl ?_
    refine am_e_iload_n n97_47 rfl ?_
    refine am_e_imul (w := 0) n97_48 (by decide) ?_
    refine am_e_iload_n n97_49 rfl ?_
    refine am_e_iadd (w := 3) n97_50 (by decide) ?_
    refine am_e_iaload (v := 0) (q := 3) n97_51 rfl (by decide) (by decide) ((F10 191 3 rfl).trans (f191_3 (h := h) hT)) ?_
    refine am_e_iastore (q := 7) n97_52 rfl (by decide) (by decide) ?_
    refine am_e_aload_n n97_53 rfl ?_
    refine am_e_getf (v := .ref 192) n97_54 rfl ((F10 164 54 rfl).trans (f164_54 (h := h) hT)) ?_
    refine am_e_iconst (w := 4) n97_55 rfl ?_
    refine am_e_iload_n n97_56 rfl ?_
    refine am_e_imul (w := 4) n97_57 (by decide) ?_
    refine am_e_iload_n n97_58 rfl ?_
    refine am_e_iadd (w := 7) n97_59 (by decide) ?_
    refine am_e_aload_n n97_60 rfl ?_
    refine am_e_getf (v := .ref 192) n97_61 rfl ((F10 164 54 rfl).trans (f164_54 (h := h) hT)) ?_
    refine am_e_iconst (w := 4) n97_62 rfl ?_
    refine am_e_iload_n n97_63 rfl ?_
    refine am_e_imul (w := 0) n97_64 (by decide) ?_
    refine am_e_iload_n n97_65 rfl ?_
    refine am_e_iadd (w := 3) n97_66 (by decide) ?_
    refine am_e_iaload (v := 0) (q := 3) n97_67 rfl (by decide) (by decide) ((F10 192 3 rfl).trans (f192_3 (h := h) hT)) ?_
    refine am_e_iastore (q := 7) n97_68 rfl (by decide) (by decide) ?_
    refine am_e_aload_n n97_69 rfl ?_
    refine am_e_getf (v := .ref 193) n97_70 rfl ((F10 164 55 rfl).trans (f164_55 (h := h) hT)) ?_
    refine am_e_iconst (w := 4) n97_71 rfl ?_
    refine am_e_iload_n n97_72 rfl ?_
    refine am_e_imul (w := 4) n97_73 (by decide) ?_
    refine am_e_iload_n n97_74 rfl ?_
    refine am_e_iadd (w := 7) n97_75 (by decide) ?_
    refine am_e_aload_n n97_76 rfl ?_
    refine am_e_getf (v := .ref 193) n97_77 rfl ((F10 164 55 rfl).trans (f164_55 (h := h) hT)) ?_
    refine am_e_iconst (w := 4) n97_78 rfl ?_
    refine am_e_iload_n n97_79 rfl ?_
    refine am_e_imul (w := 0) n97_80 (by decide) ?_
    refine am_e_iload_n n97_81 rfl ?_
    refine am_e_iadd (w := 3) n97_82 (by decide) ?_
    refine am_e_iaload (v := 0) (q := 3) n97_83 rfl (by decide) (by decide) ((F10 193 3 rfl).trans (f193_3 (h := h) hT)) ?_
    refine am_e_iastore (q := 7) n97_84 rfl (by decide) (by decide) ?_
    refine am_e_iinc (w := 4) (ls' := [(3, .int 4), (0, .ref 164), (1, .int 1), (2, .int 0)]) n97_85 rfl rfl (by decide) rfl ?_
    refine am_e_goto c97_86 t97_86 ?_
    refine am_e_iload_n n97_34 rfl ?_
    refine am_e_iconst (w := 4) n97_35 rfl ?_
    refine am_e_cmpT n97_36 (am_c_geT (by decide)) t97_36 ?_
    refine am_e_vret c97_87 rfl rfl ?_
    refine am_e_aload_n n128_39 rfl ?_
    refine am_e_iload_n n128_40 rfl ?_
    refine am_e_ifF n128_41 (am_c_neF (by decide)) ?_
    refine am_e_iconst (w := 1) n128_42 rfl ?_
    refine am_e_goto c128_43 t128_43 ?_
    refine am_e_putf n128_45 rfl rfl ?_
    refine am_e_aload_n n128_46 rfl ?_
    refine am_e_iload_n n128_47 rfl ?_
    refine am_e_iconst (w := 2) n128_48 rfl ?_
    refine am_e_cmpT n128_49 (am_c_neT (by decide)) t128_49 ?_
    refine am_e_iconst (w := 0) n128_52 rfl ?_
    refine am_e_putf n128_53 rfl rfl ?_
    refine am_e_aload_n n128_54 rfl ?_
    refine am_e_iload_n n128_55 rfl ?_
    refine am_e_iconst (w := 4) n128_56 rfl ?_
    refine am_e_cmpT n128_57 (am_c_neT (by decide)) t128_57 ?_
    refine am_e_iconst (w := (-1)) n128_60 rfl ?_
    refine am_e_putf n128_61 rfl rfl ?_
    refine am_e_iconst (w := 0) n128_62 rfl ?_
    refine am_e_istore (ls' := [(4, .int 0), (0, .ref 164), (1, .int 0), (2, .int 0), (3, .int (nI n))]) n128_63 rfl rfl ?_
    refine am_Ek_ls (ls' := [(0, .ref 164), (1, .int 0), (3, .int (nI n)), (4, .int (nI 0))]) ⟨rfl, rfl, rfl, rfl, trivial⟩ ?_
    refine am_mT0_e (n := n) (f := 0) (s := 0) (by omega) ⟨((F10 164 50 rfl).trans (f164_50 (h := h) hT)), rfl, ((F10 164 47 rfl).trans (f164_47 (h := h) hT)), ((F10 164 23 rfl).trans (f164_23 (h := h) hT)), ((F10 168 0 rfl).trans (f168_0 (h := h) hT)), ((F10 164 51 rfl).trans (f164_51 (h := h) hT)), ((F10 164 33 rfl).trans (f164_33 (h := h) hT)), ((F10 178 2 rfl).trans (f178_2 (h := h) hT)), ((F10 178 0 rfl).trans (f178_0 (h := h) hT)), rfl, ((F10 164 58 rfl).trans (f164_58 (h := h) hT)), rfl, trivial⟩ (by decide) (by omega) rfl rfl ?_
    intro h11 F11 qa11 qb11
    rw [am_nfs_0] at qa11
    refine am_e_aload_n n128_84 rfl ?_
    refine am_e_iconst (w := 0) n128_85 rfl ?_
    refine am_e_putf n128_86 rfl rfl ?_
    refine am_e_aload_n n128_87 rfl ?_
    refine am_e_iconst (w := 0) n128_88 rfl ?_
    refine am_e_putf n128_89 rfl rfl ?_
    refine am_e_aload_n n128_90 rfl ?_
    refine am_e_iconst (w := (-1)) n128_91 rfl ?_
    refine am_e_putf n128_92 rfl rfl ?_
    refine am_e_aload_n n128_93 rfl ?_
    refine am_e_getf (v := .ref 188) n128_94 rfl ((F11 164 50 rfl).trans ((F10 164 50 rfl).trans (f164_50 (h := h) hT))) ?_
    refine am_e_iconst (w := 1) n128_95 rfl ?_
    refine am_e_iaload (v := 0) (q := 1) n128_96 rfl (by decide) (by decide) qa11 ?_
    refine am_e_iret c128_97 rfl rfl rfl ?_
    refine am_e_cmpT n136_800 (am_c_eqT (by decide)) t136_800 ?_
    exact K _
  · refine am_e_ifT n71_27 (am_c_neT hb1) t71_27 ?_
    refine am_e_iconst (w := 0) n71_30 rfl ?_
    refine am_e_istore (ls' := [(4, .int 0), (0, .ref 0), (1, .int 0), (2, .int a2), (3, .int (nI n))]) n71_31 rfl rfl ?_
    refine am_e_iload n71_32 rfl ?_
    refine am_e_ifT n71_33 (am_c_eqT (by decide)) t71_33 ?_
    refine am_e_iconst (w := (-1)) n71_41 rfl ?_
    refine am_e_iret c71_42 rfl rfl rfl ?_
    refine am_e_aload_n n136_783 rfl ?_
    refine am_e_sload_n n136_784 rfl ?_
    refine am_e_iload n136_785 rfl ?_
    refine am_e_iconst (w := 1) n136_786 rfl ?_
    refine am_e_iadd (w := 1) n136_787 (by decide) ?_
    refine am_e_sald1 n136_788 rfl (by decide) (by decide) hx1 ?_
    refine am_e_sload_n n136_789 rfl ?_
    refine am_e_iload n136_790 rfl ?_
    refine am_e_iconst (w := 2) n136_791 rfl ?_
    refine am_e_iadd (w := 2) n136_792 (by decide) ?_
    refine am_e_sald1 n136_793 rfl (by decide) (by decide) hx2 ?_
    refine am_e_sload_n n136_794 rfl ?_
    refine am_e_iload n136_795 rfl ?_
    refine am_e_iconst (w := 3) n136_796 rfl ?_
    refine am_e_iadd (w := 3) n136_797 (by decide) ?_
    refine am_e_sald1 n136_798 rfl (by decide) (by decide) hx3 ?_
    refine am_e_callV (L := [(0, .ref 164), (1, .int 0), (2, .int a2), (3, .int (nI n))]) n136_799 rfl rfl rfl rfl rfl rfl rfl rfl ?_
    refine am_e_aload_n n128_0 rfl ?_
    refine am_e_iconst (w := 0) n128_1 rfl ?_
    refine am_e_putf n128_2 rfl rfl ?_
    refine am_e_iload_n n128_3 rfl ?_
    refine am_e_iconst (w := 0) n128_4 rfl ?_
    refine am_e_iconst (w := 4) n128_5 rfl ?_
    refine am_e_callS (L := [(0, .int 0), (1, .int 0), (2, .int 4)]) n128_6 rfl rfl rfl rfl rfl rfl rfl ?_
    refine am_e_iload_n n87_0 rfl ?_
    refine am_e_iload_n n87_1 rfl ?_
    refine am_e_cmpF n87_2 (am_c_ltF (by decide)) ?_
    refine am_e_iload_n n87_3 rfl ?_
    refine am_e_iload_n n87_4 rfl ?_
    refine am_e_cmpF n87_5 (am_c_gtF (by decide)) ?_
    refine am_e_iconst (w := 1) n87_6 rfl ?_
    refine am_e_goto c87_7 t87_7 ?_
    refine am_e_iret c87_9 rfl rfl rfl ?_
    refine am_e_ifF n128_7 (am_c_eqF (by decide)) ?_
    refine am_e_iload_n n128_8 rfl ?_
    refine am_e_iconst (w := 0) n128_9 rfl ?_
    refine am_e_sipush (w := 3600) n128_10 (by decide) ?_
    refine am_e_callS (L := [(0, .int (nI n)), (1, .int 0), (2, .int 3600)]) n128_11 rfl rfl rfl rfl rfl rfl rfl ?_
    refine am_e_iload_n n87_0 rfl ?_
    refine am_e_iload_n n87_1 rfl ?_
    refine am_e_cmpF n87_2 (am_c_ltF (nI_pos (by omega))) ?_
    refine am_e_iload_n n87_3 rfl ?_
    refine am_e_iload_n n87_4 rfl ?_
    refine am_e_cmpF n87_5 (am_c_gtF (nI_nlt (a := 3600) (b := n) hn9 (by decide))) ?_
    refine am_e_iconst (w := 1) n87_6 rfl ?_
    refine am_e_goto c87_7 t87_7 ?_
    refine am_e_iret c87_9 rfl rfl rfl ?_
    refine am_e_ifF n128_12 (am_c_eqF (by decide)) ?_
    refine am_e_iload_n n128_13 rfl ?_
    refine am_e_iconst (w := 4) n128_14 rfl ?_
    refine am_e_cmpT n128_15 (am_c_neT (by decide)) t128_15 ?_
    refine am_e_iload_n n128_23 rfl ?_
    refine am_e_ifT n128_24 (am_c_neT hb1) t128_24 ?_
    refine am_e_iconst (w := (-1)) n128_33 rfl ?_
    refine am_e_iret c128_34 rfl rfl rfl ?_
    refine am_e_cmpT n136_800 (am_c_eqT (by decide)) t136_800 ?_
    exact K _
theorem am_op28_1_m {lk : List Value → List am_k → am_H → Option am_O} {xs : Nat → Int32} {h : am_H} {Q : Option Value → List am_k → am_H → Prop} {a2 : Int32} {a3 : Int32} {a4 : Int32} {a5 : Int32} (ha : a3 < (0 : Int32)) (hT : am_T h) (hx1 : xs 1 = 1) (hx2 : xs 2 = a2) (hx3 : xs 3 = a3) (hx4 : xs 4 = a4) (hx5 : xs 5 = a5) (K : ∀ h', am_Ek false (am_P1 (some (6, xs)) lk) am_m136 841 [(4, .int 0), (3, .ref 202), (2, .ref 164), (1, .ref 0), (0, .retAddr 0)] [] am_ks0 h' 203 4392 Q) : am_Ek false (am_P1 (some (6, xs)) lk) am_m136 766 [(4, .int 0), (3, .ref 202), (2, .ref 164), (1, .ref 0), (0, .retAddr 0)] [] am_ks0 h 203 4392 Q := by
  refine am_e_aload_n n136_766 rfl ?_
  refine am_e_sload_n n136_767 rfl ?_
  refine am_e_iload n136_768 rfl ?_
  refine am_e_iconst (w := 1) n136_769 rfl ?_
  refine am_e_iadd (w := 1) n136_770 (by decide) ?_
  refine am_e_sald1 n136_771 rfl (by decide) (by decide) hx1 ?_
  refine am_e_sload_n n136_772 rfl ?_
  refine am_e_iload n136_773 rfl ?_
  refine am_e_iconst (w := 2) n136_774 rfl ?_
  refine am_e_iadd (w := 2) n136_775 (by decide) ?_
  refine am_e_sald1 n136_776 rfl (by decide) (by decide) hx2 ?_
  refine am_e_sload_n n136_777 rfl ?_
  refine am_e_iload n136_778 rfl ?_
  refine am_e_iconst (w := 3) n136_779 rfl ?_
  refine am_e_iadd (w := 3) n136_780 (by decide) ?_
  refine am_e_sald1 n136_781 rfl (by decide) (by decide) hx3 ?_
  refine am_e_callV (L := [(0, .ref 0), (1, .int 1), (2, .int a2), (3, .int a3)]) n136_782 rfl rfl rfl rfl rfl rfl rfl rfl ?_
  refine am_e_iload_n n71_0 rfl ?_
  refine am_e_iconst (w := 0) n71_1 rfl ?_
  refine am_e_iconst (w := 4) n71_2 rfl ?_
  refine am_e_callS (L := [(0, .int 1), (1, .int 0), (2, .int 4)]) n71_3 rfl rfl rfl rfl rfl rfl rfl ?_
  refine am_e_iload_n n30_0 rfl ?_
  refine am_e_iload_n n30_1 rfl ?_
  refine am_e_cmpF n30_2 (am_c_ltF (by decide)) ?_
  refine am_e_iload_n n30_3 rfl ?_
  refine am_e_iload_n n30_4 rfl ?_
  refine am_e_cmpF n30_5 (am_c_gtF (by decide)) ?_
  refine am_e_iconst (w := 1) n30_6 rfl ?_
  refine am_e_goto c30_7 t30_7 ?_
  refine am_e_iret c30_9 rfl rfl rfl ?_
  refine am_e_ifF n71_4 (am_c_eqF (by decide)) ?_
  refine am_e_iload_n n71_5 rfl ?_
  refine am_e_iconst (w := 0) n71_6 rfl ?_
  refine am_e_sipush (w := 3600) n71_7 (by decide) ?_
  refine am_e_callS (L := [(0, .int a3), (1, .int 0), (2, .int 3600)]) n71_8 rfl rfl rfl rfl rfl rfl rfl ?_
  refine am_e_iload_n n30_0 rfl ?_
  refine am_e_iload_n n30_1 rfl ?_
  refine am_e_cmpT n30_2 (am_c_ltT ha) t30_2 ?_
  refine am_e_iconst (w := 0) n30_8 rfl ?_
  refine am_e_iret c30_9 rfl rfl rfl ?_
  refine am_e_ifF n71_9 (am_c_neF (by decide)) ?_
  refine am_e_iconst (w := (-1)) n71_10 rfl ?_
  refine am_e_iret c71_11 rfl rfl rfl ?_
  refine am_e_aload_n n136_783 rfl ?_
  refine am_e_sload_n n136_784 rfl ?_
  refine am_e_iload n136_785 rfl ?_
  refine am_e_iconst (w := 1) n136_786 rfl ?_
  refine am_e_iadd (w := 1) n136_787 (by decide) ?_
  refine am_e_sald1 n136_788 rfl (by decide) (by decide) hx1 ?_
  refine am_e_sload_n n136_789 rfl ?_
  refine am_e_iload n136_790 rfl ?_
  refine am_e_iconst (w := 2) n136_791 rfl ?_
  refine am_e_iadd (w := 2) n136_792 (by decide) ?_
  refine am_e_sald1 n136_793 rfl (by decide) (by decide) hx2 ?_
  refine am_e_sload_n n136_794 rfl ?_
  refine am_e_iload n136_795 rfl ?_
  refine am_e_iconst (w := 3) n136_796 rfl ?_
  refine am_e_iadd (w := 3) n136_797 (by decide) ?_
  refine am_e_sald1 n136_798 rfl (by decide) (by decide) hx3 ?_
  refine am_e_callV (L := [(0, .ref 164), (1, .int 1), (2, .int a2), (3, .int a3)]) n136_799 rfl rfl rfl rfl rfl rfl rfl rfl ?_
  refine am_e_aload_n n128_0 rfl ?_
  refine am_e_iconst (w := 0) n128_1 rfl ?_
  refine am_e_putf n128_2 rfl rfl ?_
  refine am_e_iload_n n128_3 rfl ?_
  refine am_e_iconst (w := 0) n128_4 rfl ?_
  refine am_e_iconst (w := 4) n128_5 rfl ?_
  refine am_e_callS (L := [(0, .int 1), (1, .int 0), (2, .int 4)]) n128_6 rfl rfl rfl rfl rfl rfl rfl ?_
  refine am_e_iload_n n87_0 rfl ?_
  refine am_e_iload_n n87_1 rfl ?_
  refine am_e_cmpF n87_2 (am_c_ltF (by decide)) ?_
  refine am_e_iload_n n87_3 rfl ?_
  refine am_e_iload_n n87_4 rfl ?_
  refine am_e_cmpF n87_5 (am_c_gtF (by decide)) ?_
  refine am_e_iconst (w := 1) n87_6 rfl ?_
  refine am_e_goto c87_7 t87_7 ?_
  refine am_e_iret c87_9 rfl rfl rfl ?_
  refine am_e_ifF n128_7 (am_c_eqF (by decide)) ?_
  refine am_e_iload_n n128_8 rfl ?_
  refine am_e_iconst (w := 0) n128_9 rfl ?_
  refine am_e_sipush (w := 3600) n128_10 (by decide) ?_
  refine am_e_callS (L := [(0, .int a3), (1, .int 0), (2, .int 3600)]) n128_11 rfl rfl rfl rfl rfl rfl rfl ?_
  refine am_e_iload_n n87_0 rfl ?_
  refine am_e_iload_n n87_1 rfl ?_
  refine am_e_cmpT n87_2 (am_c_ltT ha) t87_2 ?_
  refine am_e_iconst (w := 0) n87_8 rfl ?_
  refine am_e_iret c87_9 rfl rfl rfl ?_
  refine am_e_ifT n128_12 (am_c_eqT (by decide)) t128_12 ?_
  refine am_e_iconst (w := (-1)) n128_33 rfl ?_
  refine am_e_iret c128_34 rfl rfl rfl ?_
  refine am_e_cmpT n136_800 (am_c_eqT (by decide)) t136_800 ?_
  exact K _
theorem am_op28_1_p {lk : List Value → List am_k → am_H → Option am_O} {xs : Nat → Int32} {h : am_H} {Q : Option Value → List am_k → am_H → Prop} {a2 : Int32} {a3 : Int32} {a4 : Int32} {a5 : Int32} (hb : ¬ a3 < (0 : Int32)) (ha : (3600 : Int32) < a3) (hT : am_T h) (hx1 : xs 1 = 1) (hx2 : xs 2 = a2) (hx3 : xs 3 = a3) (hx4 : xs 4 = a4) (hx5 : xs 5 = a5) (K : ∀ h', am_Ek false (am_P1 (some (6, xs)) lk) am_m136 841 [(4, .int 0), (3, .ref 202), (2, .ref 164), (1, .ref 0), (0, .retAddr 0)] [] am_ks0 h' 203 4392 Q) : am_Ek false (am_P1 (some (6, xs)) lk) am_m136 766 [(4, .int 0), (3, .ref 202), (2, .ref 164), (1, .ref 0), (0, .retAddr 0)] [] am_ks0 h 203 4392 Q := by
  refine am_e_aload_n n136_766 rfl ?_
  refine am_e_sload_n n136_767 rfl ?_
  refine am_e_iload n136_768 rfl ?_
  refine am_e_iconst (w := 1) n136_769 rfl ?_
  refine am_e_iadd (w := 1) n136_770 (by decide) ?_
  refine am_e_sald1 n136_771 rfl (by decide) (by decide) hx1 ?_
  refine am_e_sload_n n136_772 rfl ?_
  refine am_e_iload n136_773 rfl ?_
  refine am_e_iconst (w := 2) n136_774 rfl ?_
  refine am_e_iadd (w := 2) n136_775 (by decide) ?_
  refine am_e_sald1 n136_776 rfl (by decide) (by decide) hx2 ?_
  refine am_e_sload_n n136_777 rfl ?_
  refine am_e_iload n136_778 rfl ?_
  refine am_e_iconst (w := 3) n136_779 rfl ?_
  refine am_e_iadd (w := 3) n136_780 (by decide) ?_
  refine am_e_sald1 n136_781 rfl (by decide) (by decide) hx3 ?_
  refine am_e_callV (L := [(0, .ref 0), (1, .int 1), (2, .int a2), (3, .int a3)]) n136_782 rfl rfl rfl rfl rfl rfl rfl rfl ?_
  refine am_e_iload_n n71_0 rfl ?_
  refine am_e_iconst (w := 0) n71_1 rfl ?_
  refine am_e_iconst (w := 4) n71_2 rfl ?_
  refine am_e_callS (L := [(0, .int 1), (1, .int 0), (2, .int 4)]) n71_3 rfl rfl rfl rfl rfl rfl rfl ?_
  refine am_e_iload_n n30_0 rfl ?_
  refine am_e_iload_n n30_1 rfl ?_
  refine am_e_cmpF n30_2 (am_c_ltF (by decide)) ?_
  refine am_e_iload_n n30_3 rfl ?_
  refine am_e_iload_n n30_4 rfl ?_
  refine am_e_cmpF n30_5 (am_c_gtF (by decide)) ?_
  refine am_e_iconst (w := 1) n30_6 rfl ?_
  refine am_e_goto c30_7 t30_7 ?_
  refine am_e_iret c30_9 rfl rfl rfl ?_
  refine am_e_ifF n71_4 (am_c_eqF (by decide)) ?_
  refine am_e_iload_n n71_5 rfl ?_
  refine am_e_iconst (w := 0) n71_6 rfl ?_
  refine am_e_sipush (w := 3600) n71_7 (by decide) ?_
  refine am_e_callS (L := [(0, .int a3), (1, .int 0), (2, .int 3600)]) n71_8 rfl rfl rfl rfl rfl rfl rfl ?_
  refine am_e_iload_n n30_0 rfl ?_
  refine am_e_iload_n n30_1 rfl ?_
  refine am_e_cmpF n30_2 (am_c_ltF hb) ?_
  refine am_e_iload_n n30_3 rfl ?_
  refine am_e_iload_n n30_4 rfl ?_
  refine am_e_cmpT n30_5 (am_c_gtT ha) t30_5 ?_
  refine am_e_iconst (w := 0) n30_8 rfl ?_
  refine am_e_iret c30_9 rfl rfl rfl ?_
  refine am_e_ifF n71_9 (am_c_neF (by decide)) ?_
  refine am_e_iconst (w := (-1)) n71_10 rfl ?_
  refine am_e_iret c71_11 rfl rfl rfl ?_
  refine am_e_aload_n n136_783 rfl ?_
  refine am_e_sload_n n136_784 rfl ?_
  refine am_e_iload n136_785 rfl ?_
  refine am_e_iconst (w := 1) n136_786 rfl ?_
  refine am_e_iadd (w := 1) n136_787 (by decide) ?_
  refine am_e_sald1 n136_788 rfl (by decide) (by decide) hx1 ?_
  refine am_e_sload_n n136_789 rfl ?_
  refine am_e_iload n136_790 rfl ?_
  refine am_e_iconst (w := 2) n136_791 rfl ?_
  refine am_e_iadd (w := 2) n136_792 (by decide) ?_
  refine am_e_sald1 n136_793 rfl (by decide) (by decide) hx2 ?_
  refine am_e_sload_n n136_794 rfl ?_
  refine am_e_iload n136_795 rfl ?_
  refine am_e_iconst (w := 3) n136_796 rfl ?_
  refine am_e_iadd (w := 3) n136_797 (by decide) ?_
  refine am_e_sald1 n136_798 rfl (by decide) (by decide) hx3 ?_
  refine am_e_callV (L := [(0, .ref 164), (1, .int 1), (2, .int a2), (3, .int a3)]) n136_799 rfl rfl rfl rfl rfl rfl rfl rfl ?_
  refine am_e_aload_n n128_0 rfl ?_
  refine am_e_iconst (w := 0) n128_1 rfl ?_
  refine am_e_putf n128_2 rfl rfl ?_
  refine am_e_iload_n n128_3 rfl ?_
  refine am_e_iconst (w := 0) n128_4 rfl ?_
  refine am_e_iconst (w := 4) n128_5 rfl ?_
  refine am_e_callS (L := [(0, .int 1), (1, .int 0), (2, .int 4)]) n128_6 rfl rfl rfl rfl rfl rfl rfl ?_
  refine am_e_iload_n n87_0 rfl ?_
  refine am_e_iload_n n87_1 rfl ?_
  refine am_e_cmpF n87_2 (am_c_ltF (by decide)) ?_
  refine am_e_iload_n n87_3 rfl ?_
  refine am_e_iload_n n87_4 rfl ?_
  refine am_e_cmpF n87_5 (am_c_gtF (by decide)) ?_
  refine am_e_iconst (w := 1) n87_6 rfl ?_
  refine am_e_goto c87_7 t87_7 ?_
  refine am_e_iret c87_9 rfl rfl rfl ?_
  refine am_e_ifF n128_7 (am_c_eqF (by decide)) ?_
  refine am_e_iload_n n128_8 rfl ?_
  refine am_e_iconst (w := 0) n128_9 rfl ?_
  refine am_e_sipush (w := 3600) n128_10 (by decide) ?_
  refine am_e_callS (L := [(0, .int a3), (1, .int 0), (2, .int 3600)]) n128_11 rfl rfl rfl rfl rfl rfl rfl ?_
  refine am_e_iload_n n87_0 rfl ?_
  refine am_e_iload_n n87_1 rfl ?_
  refine am_e_cmpF n87_2 (am_c_ltF hb) ?_
  refine am_e_iload_n n87_3 rfl ?_
  refine am_e_iload_n n87_4 rfl ?_
  refine am_e_cmpT n87_5 (am_c_gtT ha) t87_5 ?_
  refine am_e_iconst (w := 0) n87_8 rfl ?_
  refine am_e_iret c87_9 rfl rfl rfl ?_
  refine am_e_ifT n128_12 (am_c_eqT (by decide)) t128_12 ?_
  refine am_e_iconst (w := (-1)) n128_33 rfl ?_
  refine am_e_iret c128_34 rfl rfl rfl ?_
  refine am_e_cmpT n136_800 (am_c_eqT (by decide)) t136_800 ?_
  exact K _
theorem am_op28_1_n {lk : List Value → List am_k → am_H → Option am_O} {xs : Nat → Int32} {h : am_H} {Q : Option Value → List am_k → am_H → Prop} {a2 : Int32} {a4 : Int32} {a5 : Int32} {n : Nat} (hn9 : n ≤ 3600) (hT : am_T h) (hx1 : xs 1 = 1) (hx2 : xs 2 = a2) (hx3 : xs 3 = (nI n)) (hx4 : xs 4 = a4) (hx5 : xs 5 = a5) (K : ∀ h', am_Ek false (am_P1 (some (6, xs)) lk) am_m136 841 [(4, .int 0), (3, .ref 202), (2, .ref 164), (1, .ref 0), (0, .retAddr 0)] [] am_ks0 h' 203 4392 Q) : am_Ek false (am_P1 (some (6, xs)) lk) am_m136 766 [(4, .int 0), (3, .ref 202), (2, .ref 164), (1, .ref 0), (0, .retAddr 0)] [] am_ks0 h 203 4392 Q := by
  refine am_e_aload_n n136_766 rfl ?_
  refine am_e_sload_n n136_767 rfl ?_
  refine am_e_iload n136_768 rfl ?_
  refine am_e_iconst (w := 1) n136_769 rfl ?_
  refine am_e_iadd (w := 1) n136_770 (by decide) ?_
  refine am_e_sald1 n136_771 rfl (by decide) (by decide) hx1 ?_
  refine am_e_sload_n n136_772 rfl ?_
  refine am_e_iload n136_773 rfl ?_
  refine am_e_iconst (w := 2) n136_774 rfl ?_
  refine am_e_iadd (w := 2) n136_775 (by decide) ?_
  refine am_e_sald1 n136_776 rfl (by decide) (by decide) hx2 ?_
  refine am_e_sload_n n136_777 rfl ?_
  refine am_e_iload n136_778 rfl ?_
  refine am_e_iconst (w := 3) n136_779 rfl ?_
  refine am_e_iadd (w := 3) n136_780 (by decide) ?_
  refine am_e_sald1 n136_781 rfl (by decide) (by decide) hx3 ?_
  refine am_e_callV (L := [(0, .ref 0), (1, .int 1), (2, .int a2), (3, .int (nI n))]) n136_782 rfl rfl rfl rfl rfl rfl rfl rfl ?_
  refine am_e_iload_n n71_0 rfl ?_
  refine am_e_iconst (w := 0) n71_1 rfl ?_
  refine am_e_iconst (w := 4) n71_2 rfl ?_
  refine am_e_callS (L := [(0, .int 1), (1, .int 0), (2, .int 4)]) n71_3 rfl rfl rfl rfl rfl rfl rfl ?_
  refine am_e_iload_n n30_0 rfl ?_
  refine am_e_iload_n n30_1 rfl ?_
  refine am_e_cmpF n30_2 (am_c_ltF (by decide)) ?_
  refine am_e_iload_n n30_3 rfl ?_
  refine am_e_iload_n n30_4 rfl ?_
  refine am_e_cmpF n30_5 (am_c_gtF (by decide)) ?_
  refine am_e_iconst (w := 1) n30_6 rfl ?_
  refine am_e_goto c30_7 t30_7 ?_
  refine am_e_iret c30_9 rfl rfl rfl ?_
  refine am_e_ifF n71_4 (am_c_eqF (by decide)) ?_
  refine am_e_iload_n n71_5 rfl ?_
  refine am_e_iconst (w := 0) n71_6 rfl ?_
  refine am_e_sipush (w := 3600) n71_7 (by decide) ?_
  refine am_e_callS (L := [(0, .int (nI n)), (1, .int 0), (2, .int 3600)]) n71_8 rfl rfl rfl rfl rfl rfl rfl ?_
  refine am_e_iload_n n30_0 rfl ?_
  refine am_e_iload_n n30_1 rfl ?_
  refine am_e_cmpF n30_2 (am_c_ltF (nI_pos (by omega))) ?_
  refine am_e_iload_n n30_3 rfl ?_
  refine am_e_iload_n n30_4 rfl ?_
  refine am_e_cmpF n30_5 (am_c_gtF (nI_nlt (a := 3600) (b := n) hn9 (by decide))) ?_
  refine am_e_iconst (w := 1) n30_6 rfl ?_
  refine am_e_goto c30_7 t30_7 ?_
  refine am_e_iret c30_9 rfl rfl rfl ?_
  refine am_e_ifT n71_9 (am_c_neT (by decide)) t71_9 ?_
  refine am_e_iload_n n71_12 rfl ?_
  refine am_e_iconst (w := 4) n71_13 rfl ?_
  refine am_e_cmpT n71_14 (am_c_neT (by decide)) t71_14 ?_
  refine am_e_iload_n n71_26 rfl ?_
  by_cases hb1 : (a2 : Int32) = 0
  · subst hb1
    refine am_e_ifF n71_27 (am_c_neF rfl) ?_
    refine am_e_iconst (w := 1) n71_28 rfl ?_
    refine am_e_goto c71_29 t71_29 ?_
    refine am_e_istore (ls' := [(4, .int 1), (0, .ref 0), (1, .int 1), (2, .int 0), (3, .int (nI n))]) n71_31 rfl rfl ?_
    refine am_e_iload n71_32 rfl ?_
    refine am_e_ifF n71_33 (am_c_eqF (by decide)) ?_
    refine am_e_iload_n n71_34 rfl ?_
    refine am_e_iconst (w := 3) n71_35 rfl ?_
    refine am_e_cmpT n71_36 (am_c_neT (by decide)) t71_36 ?_
    refine am_e_aload_n n71_43 rfl ?_
    refine am_e_getf (v := .ref 148) n71_44 rfl (f0_11 (h := h) hT) ?_
    refine am_e_aload_n n71_45 rfl ?_
    refine am_e_getf (v := .ref 2) n71_46 rfl (f0_2 (h := h) hT) ?_
    refine am_e_aload_n n71_47 rfl ?_
    refine am_e_getf (v := .ref 48) n71_48 rfl (f0_5 (h := h) hT) ?_
    refine am_e_callV (L := [(0, .ref 148), (1, .ref 2), (2, .ref 48)]) n71_49 rfl rfl rfl rfl rfl rfl rfl rfl ?_
    refine am_e_aload_n n31_0 rfl ?_
    refine am_e_aload_n n31_1 rfl ?_
    refine am_e_putf n31_2 rfl rfl ?_
    refine am_e_aload_n n31_3 rfl ?_
    refine am_e_getf (v := .ref 149) n31_4 rfl (f148_1 (h := h) hT) ?_
    refine am_e_aload_n n31_5 rfl ?_
    refine am_e_callV (L := [(0, .ref 149), (1, .ref 48)]) n31_6 rfl rfl rfl rfl rfl rfl rfl rfl ?_
    refine am_e_aload_n n32_0 rfl ?_
    refine am_e_aload_n n32_1 rfl ?_
    refine am_e_getf (v := .int 0) n32_2 rfl (f48_0 (h := h) hT) ?_
    refine am_e_putf n32_3 rfl rfl ?_
    refine am_e_aload_n n32_4 rfl ?_
    refine am_e_aload_n n32_5 rfl ?_
    refine am_e_getf (v := .int 0) n32_6 rfl (f48_1 (h := h) hT) ?_
    refine am_e_putf n32_7 rfl rfl ?_
    refine am_e_aload_n n32_8 rfl ?_
    refine am_e_aload_n n32_9 rfl ?_
    refine am_e_getf (v := .int (-1)) n32_10 rfl (f48_2 (h := h) hT) ?_
    refine am_e_putf n32_11 rfl rfl ?_
    refine am_e_aload_n n32_12 rfl ?_
    refine am_e_aload_n n32_13 rfl ?_
    refine am_e_getf (v := .int 0) n32_14 rfl (f48_3 (h := h) hT) ?_
    refine am_e_putf n32_15 rfl rfl ?_
    refine am_e_aload_n n32_16 rfl ?_
    refine am_e_aload_n n32_17 rfl ?_
    refine am_e_getf (v := .int 0) n32_18 rfl (f48_4 (h := h) hT) ?_
    refine am_e_putf n32_19 rfl rfl ?_
    refine am_e_iconst (w := 0) n32_20 rfl ?_
    refine am_e_istore_n (ls' := [(2, .int 0), (0, .ref 149), (1, .ref 48)]) n32_21 rfl rfl ?_
    refine am_e_iload_n n32_22 rfl ?_
    refine am_e_iconst (w := 4) n32_23 rfl ?_
    refine am_e_cmpF n32_24 (am_c_geF (by decide)) ?_
    refine am_e_aload_n n32_25 rfl ?_
    refine am_e_getf (v := .ref 150) n32_26 rfl (f149_5 (h := h) hT) ?_
    refine am_e_iload_n n32_27 rfl ?_
    refine am_e_aload_n n32_28 rfl ?_
    refine am_e_getf (v := .ref 49) n32_29 rfl (f48_5 (h := h) hT) ?_
    refine am_e_iload_n n32_30 rfl ?_
    refine am_e_iaload (v := 0) (q := 0) n32_31 rfl (by decide) (by decide) (f49_0 (h := h) hT) ?_
    refine am_e_iastore (q := 0) n32_32 rfl (by decide) (by decide) ?_
    refine am_e_aload_n n32_33 rfl ?_
    refine am_e_getf (v := .ref 151) n32_34 rfl (f149_6 (h := h) hT) ?_
    refine am_e_iload_n n32_35 rfl ?_
    refine am_e_aload_n n32_36 rfl ?_
    refine am_e_getf (v := .ref 50) n32_37 rfl (f48_6 (h := h) hT) ?_
    refine am_e_iload_n n32_38 rfl ?_
    refine am_e_iaload (v := 0) (q := 0) n32_39 rfl (by decide) (by decide) (f50_0 (h := h) hT) ?_
    refine am_e_iastore (q := 0) n32_40 rfl (by decide) (by decide) ?_
    refine am_e_aload_n n32_41 rfl ?_
    refine am_e_getf (v := .ref 152) n32_42 rfl (f149_7 (h := h) hT) ?_
    refine am_e_iload_n n32_43 rfl ?_
    refine am_e_aload_n n32_44 rfl ?_
    refine am_e_getf (v := .ref 51) n32_45 rfl (f48_7 (h := h) hT) ?_
    refine am_e_iload_n n32_46 rfl ?_
    refine am_e_iaload (v := 0) (q := 0) n32_47 rfl (by decide) (by decide) (f51_0 (h := h) hT) ?_
    refine am_e_iastore (q := 0) n32_48 rfl (by decide) (by decide) ?_
    refine am_e_iinc (w := 1) (ls' := [(2, .int 1), (0, .ref 149), (1, .ref 48)]) n32_49 rfl rfl (by decide) rfl ?_
    refine am_e_goto c32_50 t32_50 ?_
    refine am_e_iload_n n32_22 rfl ?_
    refine am_e_iconst (w := 4) n32_23 rfl ?_
    refine am_e_cmpF n32_24 (am_c_geF (by decide)) ?_
    refine am_e_aload_n n32_25 rfl ?_
    refine am_e_getf (v := .ref 150) n32_26 rfl (f149_5 (h := h) hT) ?_
    refine am_e_iload_n n32_27 rfl ?_
    refine am_e_aload_n n32_28 rfl ?_
    refine am_e_getf (v := .ref 49) n32_29 rfl (f48_5 (h := h) hT) ?_
    refine am_e_iload_n n32_30 rfl ?_
    refine am_e_iaload (v := 0) (q := 1) n32_31 rfl (by decide) (by decide) (f49_1 (h := h) hT) ?_
    refine am_e_iastore (q := 1) n32_32 rfl (by decide) (by decide) ?_
    refine am_e_aload_n n32_33 rfl ?_
    refine am_e_getf (v := .ref 151) n32_34 rfl (f149_6 (h := h) hT) ?_
    refine am_e_iload_n n32_35 rfl ?_
    refine am_e_aload_n n32_36 rfl ?_
    refine am_e_getf (v := .ref 50) n32_37 rfl (f48_6 (h := h) hT) ?_
    refine am_e_iload_n n32_38 rfl ?_
    refine am_e_iaload (v := 0) (q := 1) n32_39 rfl (by decide) (by decide) (f50_1 (h := h) hT) ?_
    refine am_e_iastore (q := 1) n32_40 rfl (by decide) (by decide) ?_
    refine am_e_aload_n n32_41 rfl ?_
    refine am_e_getf (v := .ref 152) n32_42 rfl (f149_7 (h := h) hT) ?_
    refine am_e_iload_n n32_43 rfl ?_
    refine am_e_aload_n n32_44 rfl ?_
    refine am_e_getf (v := .ref 51) n32_45 rfl (f48_7 (h := h) hT) ?_
    refine am_e_iload_n n32_46 rfl ?_
    refine am_e_iaload (v := 0) (q := 1) n32_47 rfl (by decide) (by decide) (f51_1 (h := h) hT) ?_
    refine am_e_iastore (q := 1) n32_48 rfl (by decide) (by decide) ?_
    refine am_e_iinc (w := 2) (ls' := [(2, .int 2), (0, .ref 149), (1, .ref 48)]) n32_49 rfl rfl (by decide) rfl ?_
    refine am_e_goto c32_50 t32_50 ?_
    refine am_e_iload_n n32_22 rfl ?_
    refine am_e_iconst (w := 4) n32_23 rfl ?_
    refine am_e_cmpF n32_24 (am_c_geF (by decide)) ?_
    refine am_e_aload_n n32_25 rfl ?_
    refine am_e_getf (v := .ref 150) n32_26 rfl (f149_5 (h := h) hT) ?_
    refine am_e_iload_n n32_27 rfl ?_
    refine am_e_aload_n n32_28 rfl ?_
    refine am_e_getf (v := .ref 49) n32_29 rfl (f48_5 (h := h) hT) ?_
    refine am_e_iload_n n32_30 rfl ?_
    refine am_e_iaload (v := 0) (q := 2) n32_31 rfl (by decide) (by decide) (f49_2 (h := h) hT) ?_
    refine am_e_iastore (q := 2) n32_32 rfl (by decide) (by decide) ?_
    refine am_e_aload_n n32_33 rfl ?_
    refine am_e_getf (v := .ref 151) n32_34 rfl (f149_6 (h := h) hT) ?_
    refine am_e_iload_n n32_35 rfl ?_
    refine am_e_aload_n n32_36 rfl ?_
    refine am_e_getf (v := .ref 50) n32_37 rfl (f48_6 (h := h) hT) ?_
    refine am_e_iload_n n32_38 rfl ?_
    refine am_e_iaload (v := 0) (q := 2) n32_39 rfl (by decide) (by decide) (f50_2 (h := h) hT) ?_
    refine am_e_iastore (q := 2) n32_40 rfl (by decide) (by decide) ?_
    refine am_e_aload_n n32_41 rfl ?_
    refine am_e_getf (v := .ref 152) n32_42 rfl (f149_7 (h := h) hT) ?_
    refine am_e_iload_n n32_43 rfl ?_
    refine am_e_aload_n n32_44 rfl ?_
    refine am_e_getf (v := .ref 51) n32_45 rfl (f48_7 (h := h) hT) ?_
    refine am_e_iload_n n32_46 rfl ?_
    refine am_e_iaload (v := 0) (q := 2) n32_47 rfl (by decide) (by decide) (f51_2 (h := h) hT) ?_
    refine am_e_iastore (q := 2) n32_48 rfl (by decide) (by decide) ?_
    refine am_e_iinc (w := 3) (ls' := [(2, .int 3), (0, .ref 149), (1, .ref 48)]) n32_49 rfl rfl (by decide) rfl ?_
    refine am_e_goto c32_50 t32_50 ?_
    refine am_e_iload_n n32_22 rfl ?_
    refine am_e_iconst (w := 4) n32_23 rfl ?_
    refine am_e_cmpF n32_24 (am_c_geF (by decide)) ?_
    refine am_e_aload_n n32_25 rfl ?_
    refine am_e_getf (v := .ref 150) n32_26 rfl (f149_5 (h := h) hT) ?_
    refine am_e_iload_n n32_27 rfl ?_
    refine am_e_aload_n n32_28 rfl ?_
    refine am_e_getf (v := .ref 49) n32_29 rfl (f48_5 (h := h) hT) ?_
    refine am_e_iload_n n32_30 rfl ?_
    refine am_e_iaload (v := 0) (q := 3) n32_31 rfl (by decide) (by decide) (f49_3 (h := h) hT) ?_
    refine am_e_iastore (q := 3) n32_32 rfl (by decide) (by decide) ?_
    refine am_e_aload_n n32_33 rfl ?_
    refine am_e_getf (v := .ref 151) n32_34 rfl (f149_6 (h := h) hT) ?_
    refine am_e_iload_n n32_35 rfl ?_
    refine am_e_aload_n n32_36 rfl ?_
    refine am_e_getf (v := .ref 50) n32_37 rfl (f48_6 (h := h) hT) ?_
    refine am_e_iload_n n32_38 rfl ?_
    refine am_e_iaload (v := 0) (q := 3) n32_39 rfl (by decide) (by decide) (f50_3 (h := h) hT) ?_
    refine am_e_iastore (q := 3) n32_40 rfl (by decide) (by decide) ?_
    refine am_e_aload_n n32_41 rfl ?_
    refine am_e_getf (v := .ref 152) n32_42 rfl (f149_7 (h := h) hT) ?_
    refine am_e_iload_n n32_43 rfl ?_
    refine am_e_aload_n n32_44 rfl ?_
    refine am_e_getf (v := .ref 51) n32_45 rfl (f48_7 (h := h) hT) ?_
    refine am_e_iload_n n32_46 rfl ?_
    refine am_e_iaload (v := 0) (q := 3) n32_47 rfl (by decide) (by decide) (f51_3 (h := h) hT) ?_
    refine am_e_iastore (q := 3) n32_48 rfl (by decide) (by decide) ?_
    refine am_e_iinc (w := 4) (ls' := [(2, .int 4), (0, .ref 149), (1, .ref 48)]) n32_49 rfl rfl (by decide) rfl ?_
    refine am_e_goto c32_50 t32_50 ?_
    refine am_e_iload_n n32_22 rfl ?_
    refine am_e_iconst (w := 4) n32_23 rfl ?_
    refine am_e_cmpT n32_24 (am_c_geT (by decide)) t32_24 ?_
    refine am_e_vret c32_51 rfl rfl ?_
    refine am_e_aload_n n31_7 rfl ?_
    refine am_e_aload_n n31_8 rfl ?_
    refine am_e_getf (v := .int (-1)) n31_9 rfl (f2_18 (h := h) hT) ?_
    refine am_e_putf n31_10 rfl rfl ?_
    refine am_e_aload_n n31_11 rfl ?_
    refine am_e_iconst (w := 0) n31_12 rfl ?_
    refine am_e_putf n31_13 rfl rfl ?_
    refine am_e_aload_n n31_14 rfl ?_
    refine am_e_iconst (w := 0) n31_15 rfl ?_
    refine am_e_putf n31_16 rfl rfl ?_
    refine am_e_aload_n n31_17 rfl ?_
    refine am_e_ldc (w := 2147483647) n31_18 (by decide) ?_
    refine am_e_putf n31_19 rfl rfl ?_
    refine am_e_aload_n n31_20 rfl ?_
    refine am_e_ldc (w := 2147483647) n31_21 (by decide) ?_
    refine am_e_putf n31_22 rfl rfl ?_
    refine am_e_vret c31_23 rfl rfl ?_
    refine am_e_iload_n n71_50 rfl ?_
    refine am_e_ifT n71_51 (am_c_neT (by decide)) t71_51 ?_
    refine am_e_iload_n n71_57 rfl ?_
    refine am_e_iconst (w := 4) n71_58 rfl ?_
    refine am_e_cmpT n71_59 (am_c_neT (by decide)) t71_59 ?_
    refine am_e_aload_n n71_64 rfl ?_
    refine am_e_getf (v := .ref 148) n71_65 rfl (f0_11 (h := h) hT) ?_
    refine am_e_iload_n n71_66 rfl ?_
    refine am_e_iconst (w := 2) n71_67 rfl ?_
    refine am_e_cmpT n71_68 (am_c_neT (by decide)) t71_68 ?_
    refine am_e_iconst (w := 0) n71_71 rfl ?_
    refine am_e_putf n71_72 rfl rfl ?_
    refine am_e_aload_n n71_73 rfl ?_
    refine am_e_getf (v := .ref 148) n71_74 rfl (f0_11 (h := h) hT) ?_
    refine am_e_iload_n n71_75 rfl ?_
    refine am_e_iconst (w := 3) n71_76 rfl ?_
    refine am_e_cmpT n71_77 (am_c_neT (by decide)) t71_77 ?_
    refine am_e_iconst (w := 0) n71_80 rfl ?_
    refine am_e_putf n71_81 rfl rfl ?_
    refine am_e_aload_n n71_82 rfl ?_
    refine am_e_getf (v := .ref 148) n71_83 rfl (f0_11 (h := h) hT) ?_
    refine am_e_iload_n n71_84 rfl ?_
    refine am_e_iload_n n71_85 rfl ?_
    refine am_e_iconst (w := 1) n71_86 rfl ?_
    refine am_e_cmpF n71_87 (am_c_neF (by decide)) ?_
    refine am_e_iconst (w := 1) n71_88 rfl ?_
    refine am_e_goto c71_89 t71_89 ?_
    refine am_e_callV (L := [(0, .ref 148), (1, .int (nI n)), (2, .int 1)]) n71_91 rfl rfl rfl rfl rfl rfl rfl rfl ?_
    refine am_goBy1 (n := n) (s := 0) (by omega) ⟨(f148_1 (h := h) hT), rfl, rfl, (f2_19 (h := h) hT), (f11_7 (h := h) hT), (f2_0 (h := h) hT), (f11_6 (h := h) hT), (f16_0 (h := h) hT), (f11_4 (h := h) hT), (f14_0 (h := h) hT), (f11_5 (h := h) hT), (f15_0 (h := h) hT), rfl, rfl, trivial⟩ (by omega) rfl rfl rfl ?_
    intro h12 F12 qa12 qb12 qc12
    obtain ⟨l12, qc12⟩ := qc12
    refine am_e_pop n71_92 rfl ?_
    refine am_e_aload_n n71_93 rfl ?_
    refine am_e_getf (v := .ref 148) n71_94 rfl ((F12 0 11 rfl).trans (f0_11 (h := h) hT)) ?_
    refine am_e_getf (v := .ref 149) n71_95 rfl ((F12 148 1 rfl).trans (f148_1 (h := h) hT)) ?_
    refine am_e_getf (v := .int 0) n71_96 rfl qa12 ?_
    refine am_e_iret c71_97 rfl rfl rfl ?_
    refine am_e_aload_n n136_783 rfl ?_
    refine am_e_sload_n n136_784 rfl ?_
    refine am_e_iload n136_785 rfl ?_
    refine am_e_iconst (w := 1) n136_786 rfl ?_
    refine am_e_iadd (w := 1) n136_787 (by decide) ?_
    refine am_e_sald1 n136_788 rfl (by decide) (by decide) hx1 ?_
    refine am_e_sload_n n136_789 rfl ?_
    refine am_e_iload n136_790 rfl ?_
    refine am_e_iconst (w := 2) n136_791 rfl ?_
    refine am_e_iadd (w := 2) n136_792 (by decide) ?_
    refine am_e_sald1 n136_793 rfl (by decide) (by decide) hx2 ?_
    refine am_e_sload_n n136_794 rfl ?_
    refine am_e_iload n136_795 rfl ?_
    refine am_e_iconst (w := 3) n136_796 rfl ?_
    refine am_e_iadd (w := 3) n136_797 (by decide) ?_
    refine am_e_sald1 n136_798 rfl (by decide) (by decide) hx3 ?_
    refine am_e_callV (L := [(0, .ref 164), (1, .int 1), (2, .int 0), (3, .int (nI n))]) n136_799 rfl rfl rfl rfl rfl rfl rfl rfl ?_
    refine am_e_aload_n n128_0 rfl ?_
    refine am_e_iconst (w := 0) n128_1 rfl ?_
    refine am_e_putf n128_2 rfl rfl ?_
    refine am_e_iload_n n128_3 rfl ?_
    refine am_e_iconst (w := 0) n128_4 rfl ?_
    refine am_e_iconst (w := 4) n128_5 rfl ?_
    refine am_e_callS (L := [(0, .int 1), (1, .int 0), (2, .int 4)]) n128_6 rfl rfl rfl rfl rfl rfl rfl ?_
    refine am_e_iload_n n87_0 rfl ?_
    refine am_e_iload_n n87_1 rfl ?_
    refine am_e_cmpF n87_2 (am_c_ltF (by decide)) ?_
    refine am_e_iload_n n87_3 rfl ?_
    refine am_e_iload_n n87_4 rfl ?_
    refine am_e_cmpF n87_5 (am_c_gtF (by decide)) ?_
    refine am_e_iconst (w := 1) n87_6 rfl ?_
    refine am_e_goto c87_7 t87_7 ?_
    refine am_e_iret c87_9 rfl rfl rfl ?_
    refine am_e_ifF n128_7 (am_c_eqF (by decide)) ?_
    refine am_e_iload_n n128_8 rfl ?_
    refine am_e_iconst (w := 0) n128_9 rfl ?_
    refine am_e_sipush (w := 3600) n128_10 (by decide) ?_
    refine am_e_callS (L := [(0, .int (nI n)), (1, .int 0), (2, .int 3600)]) n128_11 rfl rfl rfl rfl rfl rfl rfl ?_
    refine am_e_iload_n n87_0 rfl ?_
    refine am_e_iload_n n87_1 rfl ?_
    refine am_e_cmpF n87_2 (am_c_ltF (nI_pos (by omega))) ?_
    refine am_e_iload_n n87_3 rfl ?_
    refine am_e_iload_n n87_4 rfl ?_
    refine am_e_cmpF n87_5 (am_c_gtF (nI_nlt (a := 3600) (b := n) hn9 (by decide))) ?_
    refine am_e_iconst (w := 1) n87_6 rfl ?_
    refine am_e_goto c87_7 t87_7 ?_
    refine am_e_iret c87_9 rfl rfl rfl ?_
    refine am_e_ifF n128_12 (am_c_eqF (by decide)) ?_
    refine am_e_iload_n n128_13 rfl ?_
    refine am_e_iconst (w := 4) n128_14 rfl ?_
    refine am_e_cmpT n128_15 (am_c_neT (by decide)) t128_15 ?_
    refine am_e_iload_n n128_23 rfl ?_
    refine am_e_ifF n128_24 (am_c_neF (by decide)) ?_
    refine am_e_iload_n n128_25 rfl ?_
    refine am_e_iconst (w := 3) n128_26 rfl ?_
    refine am_e_cmpT n128_27 (am_c_neT (by decide)) t128_27 ?_
    refine am_e_aload_n n128_35 rfl ?_
    refine am_e_iconst (w := 1) n128_36 rfl ?_
    refine am_e_iconst (w := 0) n128_37 rfl ?_
    refine am_e_callV (L := [(0, .ref 164), (1, .int 1), (2, .int 0)]) n128_38 rfl rfl rfl rfl rfl rfl rfl rfl ?_
    refine am_e_aload_n n97_0 rfl ?_
    refine am_e_getf (v := .ref 188) n97_1 rfl ((F12 164 50 rfl).trans (f164_50 (h := h) hT)) ?_
    refine am_e_iload_n n97_2 rfl ?_
    refine am_e_aload_n n97_3 rfl ?_
    refine am_e_getf (v := .ref 188) n97_4 rfl ((F12 164 50 rfl).trans (f164_50 (h := h) hT)) ?_
    refine am_e_iload_n n97_5 rfl ?_
    refine am_e_iaload (v := 0) (q := 0) n97_6 rfl (by decide) (by decide) ((F12 188 0 rfl).trans (f188_0 (h := h) hT)) ?_
    refine am_e_iastore (q := 1) n97_7 rfl (by decide) (by decide) ?_
    refine am_e_aload_n n97_8 rfl ?_
    refine am_e_getf (v := .ref 189) n97_9 rfl ((F12 164 51 rfl).trans (f164_51 (h := h) hT)) ?_
    refine am_e_iload_n n97_10 rfl ?_
    refine am_e_aload_n n97_11 rfl ?_
    refine am_e_getf (v := .ref 189) n97_12 rfl ((F12 164 51 rfl).trans (f164_51 (h := h) hT)) ?_
    refine am_e_iload_n n97_13 rfl ?_
    refine am_e_iaload (v := 0) (q := 0) n97_14 rfl (by decide) (by decide) ((F12 189 0 rfl).trans (f189_0 (h := h) hT)) ?_
    refine am_e_iastore (q := 1) n97_15 rfl (by decide) (by decide) ?_
    refine am_e_aload_n n97_16 rfl ?_
    refine am_e_getf (v := .ref 190) n97_17 rfl ((F12 164 52 rfl).trans (f164_52 (h := h) hT)) ?_
    refine am_e_iload_n n97_18 rfl ?_
    refine am_e_aload_n n97_19 rfl ?_
    refine am_e_getf (v := .ref 190) n97_20 rfl ((F12 164 52 rfl).trans (f164_52 (h := h) hT)) ?_
    refine am_e_iload_n n97_21 rfl ?_
    refine am_e_iaload (v := (-1)) (q := 0) n97_22 rfl (by decide) (by decide) ((F12 190 0 rfl).trans (f190_0 (h := h) hT)) ?_
    refine am_e_iastore (q := 1) n97_23 rfl (by decide) (by decide) ?_
    refine am_e_aload_n n97_24 rfl ?_
    refine am_e_getf (v := .ref 194) n97_25 rfl ((F12 164 56 rfl).trans (f164_56 (h := h) hT)) ?_
    refine am_e_iload_n n97_26 rfl ?_
    refine am_e_aload_n n97_27 rfl ?_
    refine am_e_getf (v := .ref 194) n97_28 rfl ((F12 164 56 rfl).trans (f164_56 (h := h) hT)) ?_
    refine am_e_iload_n n97_29 rfl ?_
    refine am_e_iaload (v := 0) (q := 0) n97_30 rfl (by decide) (by decide) ((F12 194 0 rfl).trans (f194_0 (h := h) hT)) ?_
    refine am_e_iastore (q := 1) n97_31 rfl (by decide) (by decide) ?_
    refine am_e_iconst (w := 0) n97_32 rfl ?_
    refine am_e_istore_n (ls' := [(3, .int 0), (0, .ref 164), (1, .int 1), (2, .int 0)]) n97_33 rfl rfl ?_
    refine am_e_iload_n n97_34 rfl ?_
    refine am_e_iconst (w := 4) n97_35 rfl ?_
    refine am_e_cmpF n97_36 (am_c_geF (by decide)) ?_
    refine am_e_aload_n n97_37 rfl ?_
    refine am_e_getf (v := .ref 191) n97_38 rfl ((F12 164 53 rfl).trans (f164_53 (h := h) hT)) ?_
    refine am_e_iconst (w := 4) n97_39 rfl ?_
    refine am_e_iload_n n97_40 rfl ?_
    refine am_e_imul (w := 4) n97_41 (by decide) ?_
    refine am_e_iload_n n97_42 rfl ?_
    refine am_e_iadd (w := 4) n97_43 (by decide) ?_
    refine am_e_aload_n n97_44 rfl ?_
    refine am_e_getf (v := .ref 191) n97_45 rfl ((F12 164 53 rfl).trans (f164_53 (h := h) hT)) ?_
    refine am_e_iconst (w := 4) n97_46 rfl ?_
    refine am_e_iload_n n97_47 rfl ?_
    refine am_e_imul (w := 0) n97_48 (by decide) ?_
    refine am_e_iload_n n97_49 rfl ?_
    refine am_e_iadd (w := 0) n97_50 (by decide) ?_
    refine am_e_iaload (v := 0) (q := 0) n97_51 rfl (by decide) (by decide) ((F12 191 0 rfl).trans (f191_0 (h := h) hT)) ?_
    refine am_e_iastore (q := 4) n97_52 rfl (by decide) (by decide) ?_
    refine am_e_aload_n n97_53 rfl ?_
    refine am_e_getf (v := .ref 192) n97_54 rfl ((F12 164 54 rfl).trans (f164_54 (h := h) hT)) ?_
    refine am_e_iconst (w := 4) n97_55 rfl ?_
    refine am_e_iload_n n97_56 rfl ?_
    refine am_e_imul (w := 4) n97_57 (by decide) ?_
    refine am_e_iload_n n97_58 rfl ?_
    refine am_e_iadd (w := 4) n97_59 (by decide) ?_
    refine am_e_aload_n n97_60 rfl ?_
    refine am_e_getf (v := .ref 192) n97_61 rfl ((F12 164 54 rfl).trans (f164_54 (h := h) hT)) ?_
    refine am_e_iconst (w := 4) n97_62 rfl ?_
    refine am_e_iload_n n97_63 rfl ?_
    refine am_e_imul (w := 0) n97_64 (by decide) ?_
    refine am_e_iload_n n97_65 rfl ?_
    refine am_e_iadd (w := 0) n97_66 (by decide) ?_
    refine am_e_iaload (v := 0) (q := 0) n97_67 rfl (by decide) (by decide) ((F12 192 0 rfl).trans (f192_0 (h := h) hT)) ?_
    refine am_e_iastore (q := 4) n97_68 rfl (by decide) (by decide) ?_
    refine am_e_aload_n n97_69 rfl ?_
    refine am_e_getf (v := .ref 193) n97_70 rfl ((F12 164 55 rfl).trans (f164_55 (h := h) hT)) ?_
    refine am_e_iconst (w := 4) n97_71 rfl ?_
    refine am_e_iload_n n97_72 rfl ?_
    refine am_e_imul (w := 4) n97_73 (by decide) ?_
    refine am_e_iload_n n97_74 rfl ?_
    refine am_e_iadd (w := 4) n97_75 (by decide) ?_
    refine am_e_aload_n n97_76 rfl ?_
    refine am_e_getf (v := .ref 193) n97_77 rfl ((F12 164 55 rfl).trans (f164_55 (h := h) hT)) ?_
    refine am_e_iconst (w := 4) n97_78 rfl ?_
    refine am_e_iload_n n97_79 rfl ?_
    refine am_e_imul (w := 0) n97_80 (by decide) ?_
    refine am_e_iload_n n97_81 rfl ?_
    refine am_e_iadd (w := 0) n97_82 (by decide) ?_
    refine am_e_iaload (v := 0) (q := 0) n97_83 rfl (by decide) (by decide) ((F12 193 0 rfl).trans (f193_0 (h := h) hT)) ?_
    refine am_e_iastore (q := 4) n97_84 rfl (by decide) (by decide) ?_
    refine am_e_iinc (w := 1) (ls' := [(3, .int 1), (0, .ref 164), (1, .int 1), (2, .int 0)]) n97_85 rfl rfl (by decide) rfl ?_
    refine am_e_goto c97_86 t97_86 ?_
    refine am_e_iload_n n97_34 rfl ?_
    refine am_e_iconst (w := 4) n97_35 rfl ?_
    refine am_e_cmpF n97_36 (am_c_geF (by decide)) ?_
    refine am_e_aload_n n97_37 rfl ?_
    refine am_e_getf (v := .ref 191) n97_38 rfl ((F12 164 53 rfl).trans (f164_53 (h := h) hT)) ?_
    refine am_e_iconst (w := 4) n97_39 rfl ?_
    refine am_e_iload_n n97_40 rfl ?_
    refine am_e_imul (w := 4) n97_41 (by decide) ?_
    refine am_e_iload_n n97_42 rfl ?_
    refine am_e_iadd (w := 5) n97_43 (by decide) ?_
    refine am_e_aload_n n97_44 rfl ?_
    refine am_e_getf (v := .ref 191) n97_45 rfl ((F12 164 53 rfl).trans (f164_53 (h := h) hT)) ?_
    refine am_e_iconst (w := 4) n97_46 rfl ?_
    refine am_e_iload_n n97_47 rfl ?_
    refine am_e_imul (w := 0) n97_48 (by decide) ?_
    refine am_e_iload_n n97_49 rfl ?_
    refine am_e_iadd (w := 1) n97_50 (by decide) ?_
    refine am_e_iaload (v := 0) (q := 1) n97_51 rfl (by decide) (by decide) ((F12 191 1 rfl).trans (f191_1 (h := h) hT)) ?_
    refine am_e_iastore (q := 5) n97_52 rfl (by decide) (by decide) ?_
    refine am_e_aload_n n97_53 rfl ?_
    refine am_e_getf (v := .ref 192) n97_54 rfl ((F12 164 54 rfl).trans (f164_54 (h := h) hT)) ?_
    refine am_e_iconst (w := 4) n97_55 rfl ?_
    refine am_e_iload_n n97_56 rfl ?_
    refine am_e_imul (w := 4) n97_57 (by decide) ?_
    refine am_e_iload_n n97_58 rfl ?_
    refine am_e_iadd (w := 5) n97_59 (by decide) ?_
    refine am_e_aload_n n97_60 rfl ?_
    refine am_e_getf (v := .ref 192) n97_61 rfl ((F12 164 54 rfl).trans (f164_54 (h := h) hT)) ?_
    refine am_e_iconst (w := 4) n97_62 rfl ?_
    refine am_e_iload_n n97_63 rfl ?_
    refine am_e_imul (w := 0) n97_64 (by decide) ?_
    refine am_e_iload_n n97_65 rfl ?_
    refine am_e_iadd (w := 1) n97_66 (by decide) ?_
    refine am_e_iaload (v := 0) (q := 1) n97_67 rfl (by decide) (by decide) ((F12 192 1 rfl).trans (f192_1 (h := h) hT)) ?_
    refine am_e_iastore (q := 5) n97_68 rfl (by decide) (by decide) ?_
    refine am_e_aload_n n97_69 rfl ?_
    refine am_e_getf (v := .ref 193) n97_70 rfl ((F12 164 55 rfl).trans (f164_55 (h := h) hT)) ?_
    refine am_e_iconst (w := 4) n97_71 rfl ?_
    refine am_e_iload_n n97_72 rfl ?_
    refine am_e_imul (w := 4) n97_73 (by decide) ?_
    refine am_e_iload_n n97_74 rfl ?_
    refine am_e_iadd (w := 5) n97_75 (by decide) ?_
    refine am_e_aload_n n97_76 rfl ?_
    refine am_e_getf (v := .ref 193) n97_77 rfl ((F12 164 55 rfl).trans (f164_55 (h := h) hT)) ?_
    refine am_e_iconst (w := 4) n97_78 rfl ?_
    refine am_e_iload_n n97_79 rfl ?_
    refine am_e_imul (w := 0) n97_80 (by decide) ?_
    refine am_e_iload_n n97_81 rfl ?_
    refine am_e_iadd (w := 1) n97_82 (by decide) ?_
    refine am_e_iaload (v := 0) (q := 1) n97_83 rfl (by decide) (by decide) ((F12 193 1 rfl).trans (f193_1 (h := h) hT)) ?_
    refine am_e_iastore (q := 5) n97_84 rfl (by decide) (by decide) ?_
    refine am_e_iinc (w := 2) (ls' := [(3, .int 2), (0, .ref 164), (1, .int 1), (2, .int 0)]) n97_85 rfl rfl (by decide) rfl ?_
    refine am_e_goto c97_86 t97_86 ?_
    refine am_e_iload_n n97_34 rfl ?_
    refine am_e_iconst (w := 4) n97_35 rfl ?_
    refine am_e_cmpF n97_36 (am_c_geF (by decide)) ?_
    refine am_e_aload_n n97_37 rfl ?_
    refine am_e_getf (v := .ref 191) n97_38 rfl ((F12 164 53 rfl).trans (f164_53 (h := h) hT)) ?_
    refine am_e_iconst (w := 4) n97_39 rfl ?_
    refine am_e_iload_n n97_40 rfl ?_
    refine am_e_imul (w := 4) n97_41 (by decide) ?_
    refine am_e_iload_n n97_42 rfl ?_
    refine am_e_iadd (w := 6) n97_43 (by decide) ?_
    refine am_e_aload_n n97_44 rfl ?_
    refine am_e_getf (v := .ref 191) n97_45 rfl ((F12 164 53 rfl).trans (f164_53 (h := h) hT)) ?_
    refine am_e_iconst (w := 4) n97_46 rfl ?_
    refine am_e_iload_n n97_47 rfl ?_
    refine am_e_imul (w := 0) n97_48 (by decide) ?_
    refine am_e_iload_n n97_49 rfl ?_
    refine am_e_iadd (w := 2) n97_50 (by decide) ?_
    refine am_e_iaload (v := 0) (q := 2) n97_51 rfl (by decide) (by decide) ((F12 191 2 rfl).trans (f191_2 (h := h) hT)) ?_
    refine am_e_iastore (q := 6) n97_52 rfl (by decide) (by decide) ?_
    refine am_e_aload_n n97_53 rfl ?_
    refine am_e_getf (v := .ref 192) n97_54 rfl ((F12 164 54 rfl).trans (f164_54 (h := h) hT)) ?_
    refine am_e_iconst (w := 4) n97_55 rfl ?_
    refine am_e_iload_n n97_56 rfl ?_
    refine am_e_imul (w := 4) n97_57 (by decide) ?_
    refine am_e_iload_n n97_58 rfl ?_
    refine am_e_iadd (w := 6) n97_59 (by decide) ?_
    refine am_e_aload_n n97_60 rfl ?_
    refine am_e_getf (v := .ref 192) n97_61 rfl ((F12 164 54 rfl).trans (f164_54 (h := h) hT)) ?_
    refine am_e_iconst (w := 4) n97_62 rfl ?_
    refine am_e_iload_n n97_63 rfl ?_
    refine am_e_imul (w := 0) n97_64 (by decide) ?_
    refine am_e_iload_n n97_65 rfl ?_
    refine am_e_iadd (w := 2) n97_66 (by decide) ?_
    refine am_e_iaload (v := 0) (q := 2) n97_67 rfl (by decide) (by decide) ((F12 192 2 rfl).trans (f192_2 (h := h) hT)) ?_
    refine am_e_iastore (q := 6) n97_68 rfl (by decide) (by decide) ?_
    refine am_e_aload_n n97_69 rfl ?_
    refine am_e_getf (v := .ref 193) n97_70 rfl ((F12 164 55 rfl).trans (f164_55 (h := h) hT)) ?_
    refine am_e_iconst (w := 4) n97_71 rfl ?_
    refine am_e_iload_n n97_72 rfl ?_
    refine am_e_imul (w := 4) n97_73 (by decide) ?_
    refine am_e_iload_n n97_74 rfl ?_
    refine am_e_iadd (w := 6) n97_75 (by decide) ?_
    refine am_e_aload_n n97_76 rfl ?_
    refine am_e_getf (v := .ref 193) n97_77 rfl ((F12 164 55 rfl).trans (f164_55 (h := h) hT)) ?_
    refine am_e_iconst (w := 4) n97_78 rfl ?_
    refine am_e_iload_n n97_79 rfl ?_
    refine am_e_imul (w := 0) n97_80 (by decide) ?_
    refine am_e_iload_n n97_81 rfl ?_
    refine am_e_iadd (w := 2) n97_82 (by decide) ?_
    refine am_e_iaload (v := 0) (q := 2) n97_83 rfl (by decide) (by decide) ((F12 193 2 rfl).trans (f193_2 (h := h) hT)) ?_
    refine am_e_iastore (q := 6) n97_84 rfl (by decide) (by decide) ?_
    refine am_e_iinc (w := 3) (ls' := [(3, .int 3), (0, .ref 164), (1, .int 1), (2, .int 0)]) n97_85 rfl rfl (by decide) rfl ?_
    refine am_e_goto c97_86 t97_86 ?_
    refine am_e_iload_n n97_34 rfl ?_
    refine am_e_iconst (w := 4) n97_35 rfl ?_
    refine am_e_cmpF n97_36 (am_c_geF (by decide)) ?_
    refine am_e_aload_n n97_37 rfl ?_
    refine am_e_getf (v := .ref 191) n97_38 rfl ((F12 164 53 rfl).trans (f164_53 (h := h) hT)) ?_
    refine am_e_iconst (w := 4) n97_39 rfl ?_
    refine am_e_iload_n n97_40 rfl ?_
    refine am_e_imul (w := 4) n97_41 (by decide) ?_
    refine am_e_iload_n n97_42 rfl ?_
    refine am_e_iadd (w := 7) n97_43 (by decide) ?_
    refine am_e_aload_n n97_44 rfl ?_
    refine am_e_getf (v := .ref 191) n97_45 rfl ((F12 164 53 rfl).trans (f164_53 (h := h) hT)) ?_
    refine am_e_iconst (w := 4) n97_46 rfl ?_
    refine am_e_iload_n n97_47 rfl ?_
    refine am_e_imul (w := 0) n97_48 (by decide) ?_
    refine am_e_iload_n n97_49 rfl ?_
    refine am_e_iadd (w := 3) n97_50 (by decide) ?_
    refine am_e_iaload (v := 0) (q := 3) n97_51 rfl (by decide) (by decide) ((F12 191 3 rfl).trans (f191_3 (h := h) hT)) ?_
    refine am_e_iastore (q := 7) n97_52 rfl (by decide) (by decide) ?_
    refine am_e_aload_n n97_53 rfl ?_
    refine am_e_getf (v := .ref 192) n97_54 rfl ((F12 164 54 rfl).trans (f164_54 (h := h) hT)) ?_
    refine am_e_iconst (w := 4) n97_55 rfl ?_
    refine am_e_iload_n n97_56 rfl ?_
    refine am_e_imul (w := 4) n97_57 (by decide) ?_
    refine am_e_iload_n n97_58 rfl ?_
    refine am_e_iadd (w := 7) n97_59 (by decide) ?_
    refine am_e_aload_n n97_60 rfl ?_
    refine am_e_getf (v := .ref 192) n97_61 rfl ((F12 164 54 rfl).trans (f164_54 (h := h) hT)) ?_
    refine am_e_iconst (w := 4) n97_62 rfl ?_
    refine am_e_iload_n n97_63 rfl ?_
    refine am_e_imul (w := 0) n97_64 (by decide) ?_
    refine am_e_iload_n n97_65 rfl ?_
    refine am_e_iadd (w := 3) n97_66 (by decide) ?_
    refine am_e_iaload (v := 0) (q := 3) n97_67 rfl (by decide) (by decide) ((F12 192 3 rfl).trans (f192_3 (h := h) hT)) ?_
    refine am_e_iastore (q := 7) n97_68 rfl (by decide) (by decide) ?_
    refine am_e_aload_n n97_69 rfl ?_
    refine am_e_getf (v := .ref 193) n97_70 rfl ((F12 164 55 rfl).trans (f164_55 (h := h) hT)) ?_
    refine am_e_iconst (w := 4) n97_71 rfl ?_
    refine am_e_iload_n n97_72 rfl ?_
    refine am_e_imul (w := 4) n97_73 (by decide) ?_
    refine am_e_iload_n n97_74 rfl ?_
    refine am_e_iadd (w := 7) n97_75 (by decide) ?_
    refine am_e_aload_n n97_76 rfl ?_
    refine am_e_getf (v := .ref 193) n97_77 rfl ((F12 164 55 rfl).trans (f164_55 (h := h) hT)) ?_
    refine am_e_iconst (w := 4) n97_78 rfl ?_
    refine am_e_iload_n n97_79 rfl ?_
    refine am_e_imul (w := 0) n97_80 (by decide) ?_
    refine am_e_iload_n n97_81 rfl ?_
    refine am_e_iadd (w := 3) n97_82 (by decide) ?_
    refine am_e_iaload (v := 0) (q := 3) n97_83 rfl (by decide) (by decide) ((F12 193 3 rfl).trans (f193_3 (h := h) hT)) ?_
    refine am_e_iastore (q := 7) n97_84 rfl (by decide) (by decide) ?_
    refine am_e_iinc (w := 4) (ls' := [(3, .int 4), (0, .ref 164), (1, .int 1), (2, .int 0)]) n97_85 rfl rfl (by decide) rfl ?_
    refine am_e_goto c97_86 t97_86 ?_
    refine am_e_iload_n n97_34 rfl ?_
    refine am_e_iconst (w := 4) n97_35 rfl ?_
    refine am_e_cmpT n97_36 (am_c_geT (by decide)) t97_36 ?_
    refine am_e_vret c97_87 rfl rfl ?_
    refine am_e_aload_n n128_39 rfl ?_
    refine am_e_iload_n n128_40 rfl ?_
    refine am_e_ifT n128_41 (am_c_neT (by decide)) t128_41 ?_
    refine am_e_iconst (w := 0) n128_44 rfl ?_
    refine am_e_putf n128_45 rfl rfl ?_
    refine am_e_aload_n n128_46 rfl ?_
    refine am_e_iload_n n128_47 rfl ?_
    refine am_e_iconst (w := 2) n128_48 rfl ?_
    refine am_e_cmpT n128_49 (am_c_neT (by decide)) t128_49 ?_
    refine am_e_iconst (w := 0) n128_52 rfl ?_
    refine am_e_putf n128_53 rfl rfl ?_
    refine am_e_aload_n n128_54 rfl ?_
    refine am_e_iload_n n128_55 rfl ?_
    refine am_e_iconst (w := 4) n128_56 rfl ?_
    refine am_e_cmpT n128_57 (am_c_neT (by decide)) t128_57 ?_
    refine am_e_iconst (w := (-1)) n128_60 rfl ?_
    refine am_e_putf n128_61 rfl rfl ?_
    refine am_e_iconst (w := 0) n128_62 rfl ?_
    refine am_e_istore (ls' := [(4, .int 0), (0, .ref 164), (1, .int 1), (2, .int 0), (3, .int (nI n))]) n128_63 rfl rfl ?_
    refine am_Ek_ls (ls' := [(0, .ref 164), (1, .int 1), (3, .int (nI n)), (4, .int (nI 0))]) ⟨rfl, rfl, rfl, rfl, trivial⟩ ?_
    refine am_mT1_e (n := n) (s := 0) (by omega) ⟨((F12 164 50 rfl).trans (f164_50 (h := h) hT)), rfl, ((F12 164 47 rfl).trans (f164_47 (h := h) hT)), ((F12 164 23 rfl).trans (f164_23 (h := h) hT)), ((F12 168 0 rfl).trans (f168_0 (h := h) hT)), ((F12 164 51 rfl).trans (f164_51 (h := h) hT)), ((F12 164 33 rfl).trans (f164_33 (h := h) hT)), ((F12 178 2 rfl).trans (f178_2 (h := h) hT)), ((F12 178 0 rfl).trans (f178_0 (h := h) hT)), rfl, ((F12 164 58 rfl).trans (f164_58 (h := h) hT)), rfl, trivial⟩ (by omega) rfl rfl ?_
    intro h13 F13 qa13 qb13
    refine am_e_aload_n n128_84 rfl ?_
    refine am_e_iconst (w := 0) n128_85 rfl ?_
    refine am_e_putf n128_86 rfl rfl ?_
    refine am_e_aload_n n128_87 rfl ?_
    refine am_e_iconst (w := 0) n128_88 rfl ?_
    refine am_e_putf n128_89 rfl rfl ?_
    refine am_e_aload_n n128_90 rfl ?_
    refine am_e_iconst (w := (-1)) n128_91 rfl ?_
    refine am_e_putf n128_92 rfl rfl ?_
    refine am_e_aload_n n128_93 rfl ?_
    refine am_e_getf (v := .ref 188) n128_94 rfl ((F13 164 50 rfl).trans ((F12 164 50 rfl).trans (f164_50 (h := h) hT))) ?_
    refine am_e_iconst (w := 1) n128_95 rfl ?_
    refine am_e_iaload (v := 0) (q := 1) n128_96 rfl (by decide) (by decide) qa13 ?_
    refine am_e_iret c128_97 rfl rfl rfl ?_
    refine am_e_cmpT n136_800 (am_c_eqT (by decide)) t136_800 ?_
    exact K _
  · refine am_e_ifT n71_27 (am_c_neT hb1) t71_27 ?_
    refine am_e_iconst (w := 0) n71_30 rfl ?_
    refine am_e_istore (ls' := [(4, .int 0), (0, .ref 0), (1, .int 1), (2, .int a2), (3, .int (nI n))]) n71_31 rfl rfl ?_
    refine am_e_iload n71_32 rfl ?_
    refine am_e_ifT n71_33 (am_c_eqT (by decide)) t71_33 ?_
    refine am_e_iconst (w := (-1)) n71_41 rfl ?_
    refine am_e_iret c71_42 rfl rfl rfl ?_
    refine am_e_aload_n n136_783 rfl ?_
    refine am_e_sload_n n136_784 rfl ?_
    refine am_e_iload n136_785 rfl ?_
    refine am_e_iconst (w := 1) n136_786 rfl ?_
    refine am_e_iadd (w := 1) n136_787 (by decide) ?_
    refine am_e_sald1 n136_788 rfl (by decide) (by decide) hx1 ?_
    refine am_e_sload_n n136_789 rfl ?_
    refine am_e_iload n136_790 rfl ?_
    refine am_e_iconst (w := 2) n136_791 rfl ?_
    refine am_e_iadd (w := 2) n136_792 (by decide) ?_
    refine am_e_sald1 n136_793 rfl (by decide) (by decide) hx2 ?_
    refine am_e_sload_n n136_794 rfl ?_
    refine am_e_iload n136_795 rfl ?_
    refine am_e_iconst (w := 3) n136_796 rfl ?_
    refine am_e_iadd (w := 3) n136_797 (by decide) ?_
    refine am_e_sald1 n136_798 rfl (by decide) (by decide) hx3 ?_
    refine am_e_callV (L := [(0, .ref 164), (1, .int 1), (2, .int a2), (3, .int (nI n))]) n136_799 rfl rfl rfl rfl rfl rfl rfl rfl ?_
    refine am_e_aload_n n128_0 rfl ?_
    refine am_e_iconst (w := 0) n128_1 rfl ?_
    refine am_e_putf n128_2 rfl rfl ?_
    refine am_e_iload_n n128_3 rfl ?_
    refine am_e_iconst (w := 0) n128_4 rfl ?_
    refine am_e_iconst (w := 4) n128_5 rfl ?_
    refine am_e_callS (L := [(0, .int 1), (1, .int 0), (2, .int 4)]) n128_6 rfl rfl rfl rfl rfl rfl rfl ?_
    refine am_e_iload_n n87_0 rfl ?_
    refine am_e_iload_n n87_1 rfl ?_
    refine am_e_cmpF n87_2 (am_c_ltF (by decide)) ?_
    refine am_e_iload_n n87_3 rfl ?_
    refine am_e_iload_n n87_4 rfl ?_
    refine am_e_cmpF n87_5 (am_c_gtF (by decide)) ?_
    refine am_e_iconst (w := 1) n87_6 rfl ?_
    refine am_e_goto c87_7 t87_7 ?_
    refine am_e_iret c87_9 rfl rfl rfl ?_
    refine am_e_ifF n128_7 (am_c_eqF (by decide)) ?_
    refine am_e_iload_n n128_8 rfl ?_
    refine am_e_iconst (w := 0) n128_9 rfl ?_
    refine am_e_sipush (w := 3600) n128_10 (by decide) ?_
    refine am_e_callS (L := [(0, .int (nI n)), (1, .int 0), (2, .int 3600)]) n128_11 rfl rfl rfl rfl rfl rfl rfl ?_
    refine am_e_iload_n n87_0 rfl ?_
    refine am_e_iload_n n87_1 rfl ?_
    refine am_e_cmpF n87_2 (am_c_ltF (nI_pos (by omega))) ?_
    refine am_e_iload_n n87_3 rfl ?_
    refine am_e_iload_n n87_4 rfl ?_
    refine am_e_cmpF n87_5 (am_c_gtF (nI_nlt (a := 3600) (b := n) hn9 (by decide))) ?_
    refine am_e_iconst (w := 1) n87_6 rfl ?_
    refine am_e_goto c87_7 t87_7 ?_
    refine am_e_iret c87_9 rfl rfl rfl ?_
    refine am_e_ifF n128_12 (am_c_eqF (by decide)) ?_
    refine am_e_iload_n n128_13 rfl ?_
    refine am_e_iconst (w := 4) n128_14 rfl ?_
    refine am_e_cmpT n128_15 (am_c_neT (by decide)) t128_15 ?_
    refine am_e_iload_n n128_23 rfl ?_
    refine am_e_ifT n128_24 (am_c_neT hb1) t128_24 ?_
    refine am_e_iconst (w := (-1)) n128_33 rfl ?_
    refine am_e_iret c128_34 rfl rfl rfl ?_
    refine am_e_cmpT n136_800 (am_c_eqT (by decide)) t136_800 ?_
    exact K _
theorem am_op28_2_m {lk : List Value → List am_k → am_H → Option am_O} {xs : Nat → Int32} {h : am_H} {Q : Option Value → List am_k → am_H → Prop} {a2 : Int32} {a3 : Int32} {a4 : Int32} {a5 : Int32} (ha : a3 < (0 : Int32)) (hT : am_T h) (hx1 : xs 1 = 2) (hx2 : xs 2 = a2) (hx3 : xs 3 = a3) (hx4 : xs 4 = a4) (hx5 : xs 5 = a5) (K : ∀ h', am_Ek false (am_P1 (some (6, xs)) lk) am_m136 841 [(4, .int 0), (3, .ref 202), (2, .ref 164), (1, .ref 0), (0, .retAddr 0)] [] am_ks0 h' 203 4392 Q) : am_Ek false (am_P1 (some (6, xs)) lk) am_m136 766 [(4, .int 0), (3, .ref 202), (2, .ref 164), (1, .ref 0), (0, .retAddr 0)] [] am_ks0 h 203 4392 Q := by
  refine am_e_aload_n n136_766 rfl ?_
  refine am_e_sload_n n136_767 rfl ?_
  refine am_e_iload n136_768 rfl ?_
  refine am_e_iconst (w := 1) n136_769 rfl ?_
  refine am_e_iadd (w := 1) n136_770 (by decide) ?_
  refine am_e_sald1 n136_771 rfl (by decide) (by decide) hx1 ?_
  refine am_e_sload_n n136_772 rfl ?_
  refine am_e_iload n136_773 rfl ?_
  refine am_e_iconst (w := 2) n136_774 rfl ?_
  refine am_e_iadd (w := 2) n136_775 (by decide) ?_
  refine am_e_sald1 n136_776 rfl (by decide) (by decide) hx2 ?_
  refine am_e_sload_n n136_777 rfl ?_
  refine am_e_iload n136_778 rfl ?_
  refine am_e_iconst (w := 3) n136_779 rfl ?_
  refine am_e_iadd (w := 3) n136_780 (by decide) ?_
  refine am_e_sald1 n136_781 rfl (by decide) (by decide) hx3 ?_
  refine am_e_callV (L := [(0, .ref 0), (1, .int 2), (2, .int a2), (3, .int a3)]) n136_782 rfl rfl rfl rfl rfl rfl rfl rfl ?_
  refine am_e_iload_n n71_0 rfl ?_
  refine am_e_iconst (w := 0) n71_1 rfl ?_
  refine am_e_iconst (w := 4) n71_2 rfl ?_
  refine am_e_callS (L := [(0, .int 2), (1, .int 0), (2, .int 4)]) n71_3 rfl rfl rfl rfl rfl rfl rfl ?_
  refine am_e_iload_n n30_0 rfl ?_
  refine am_e_iload_n n30_1 rfl ?_
  refine am_e_cmpF n30_2 (am_c_ltF (by decide)) ?_
  refine am_e_iload_n n30_3 rfl ?_
  refine am_e_iload_n n30_4 rfl ?_
  refine am_e_cmpF n30_5 (am_c_gtF (by decide)) ?_
  refine am_e_iconst (w := 1) n30_6 rfl ?_
  refine am_e_goto c30_7 t30_7 ?_
  refine am_e_iret c30_9 rfl rfl rfl ?_
  refine am_e_ifF n71_4 (am_c_eqF (by decide)) ?_
  refine am_e_iload_n n71_5 rfl ?_
  refine am_e_iconst (w := 0) n71_6 rfl ?_
  refine am_e_sipush (w := 3600) n71_7 (by decide) ?_
  refine am_e_callS (L := [(0, .int a3), (1, .int 0), (2, .int 3600)]) n71_8 rfl rfl rfl rfl rfl rfl rfl ?_
  refine am_e_iload_n n30_0 rfl ?_
  refine am_e_iload_n n30_1 rfl ?_
  refine am_e_cmpT n30_2 (am_c_ltT ha) t30_2 ?_
  refine am_e_iconst (w := 0) n30_8 rfl ?_
  refine am_e_iret c30_9 rfl rfl rfl ?_
  refine am_e_ifF n71_9 (am_c_neF (by decide)) ?_
  refine am_e_iconst (w := (-1)) n71_10 rfl ?_
  refine am_e_iret c71_11 rfl rfl rfl ?_
  refine am_e_aload_n n136_783 rfl ?_
  refine am_e_sload_n n136_784 rfl ?_
  refine am_e_iload n136_785 rfl ?_
  refine am_e_iconst (w := 1) n136_786 rfl ?_
  refine am_e_iadd (w := 1) n136_787 (by decide) ?_
  refine am_e_sald1 n136_788 rfl (by decide) (by decide) hx1 ?_
  refine am_e_sload_n n136_789 rfl ?_
  refine am_e_iload n136_790 rfl ?_
  refine am_e_iconst (w := 2) n136_791 rfl ?_
  refine am_e_iadd (w := 2) n136_792 (by decide) ?_
  refine am_e_sald1 n136_793 rfl (by decide) (by decide) hx2 ?_
  refine am_e_sload_n n136_794 rfl ?_
  refine am_e_iload n136_795 rfl ?_
  refine am_e_iconst (w := 3) n136_796 rfl ?_
  refine am_e_iadd (w := 3) n136_797 (by decide) ?_
  refine am_e_sald1 n136_798 rfl (by decide) (by decide) hx3 ?_
  refine am_e_callV (L := [(0, .ref 164), (1, .int 2), (2, .int a2), (3, .int a3)]) n136_799 rfl rfl rfl rfl rfl rfl rfl rfl ?_
  refine am_e_aload_n n128_0 rfl ?_
  refine am_e_iconst (w := 0) n128_1 rfl ?_
  refine am_e_putf n128_2 rfl rfl ?_
  refine am_e_iload_n n128_3 rfl ?_
  refine am_e_iconst (w := 0) n128_4 rfl ?_
  refine am_e_iconst (w := 4) n128_5 rfl ?_
  refine am_e_callS (L := [(0, .int 2), (1, .int 0), (2, .int 4)]) n128_6 rfl rfl rfl rfl rfl rfl rfl ?_
  refine am_e_iload_n n87_0 rfl ?_
  refine am_e_iload_n n87_1 rfl ?_
  refine am_e_cmpF n87_2 (am_c_ltF (by decide)) ?_
  refine am_e_iload_n n87_3 rfl ?_
  refine am_e_iload_n n87_4 rfl ?_
  refine am_e_cmpF n87_5 (am_c_gtF (by decide)) ?_
  refine am_e_iconst (w := 1) n87_6 rfl ?_
  refine am_e_goto c87_7 t87_7 ?_
  refine am_e_iret c87_9 rfl rfl rfl ?_
  refine am_e_ifF n128_7 (am_c_eqF (by decide)) ?_
  refine am_e_iload_n n128_8 rfl ?_
  refine am_e_iconst (w := 0) n128_9 rfl ?_
  refine am_e_sipush (w := 3600) n128_10 (by decide) ?_
  refine am_e_callS (L := [(0, .int a3), (1, .int 0), (2, .int 3600)]) n128_11 rfl rfl rfl rfl rfl rfl rfl ?_
  refine am_e_iload_n n87_0 rfl ?_
  refine am_e_iload_n n87_1 rfl ?_
  refine am_e_cmpT n87_2 (am_c_ltT ha) t87_2 ?_
  refine am_e_iconst (w := 0) n87_8 rfl ?_
  refine am_e_iret c87_9 rfl rfl rfl ?_
  refine am_e_ifT n128_12 (am_c_eqT (by decide)) t128_12 ?_
  refine am_e_iconst (w := (-1)) n128_33 rfl ?_
  refine am_e_iret c128_34 rfl rfl rfl ?_
  refine am_e_cmpT n136_800 (am_c_eqT (by decide)) t136_800 ?_
  exact K _
theorem am_op28_2_p {lk : List Value → List am_k → am_H → Option am_O} {xs : Nat → Int32} {h : am_H} {Q : Option Value → List am_k → am_H → Prop} {a2 : Int32} {a3 : Int32} {a4 : Int32} {a5 : Int32} (hb : ¬ a3 < (0 : Int32)) (ha : (3600 : Int32) < a3) (hT : am_T h) (hx1 : xs 1 = 2) (hx2 : xs 2 = a2) (hx3 : xs 3 = a3) (hx4 : xs 4 = a4) (hx5 : xs 5 = a5) (K : ∀ h', am_Ek false (am_P1 (some (6, xs)) lk) am_m136 841 [(4, .int 0), (3, .ref 202), (2, .ref 164), (1, .ref 0), (0, .retAddr 0)] [] am_ks0 h' 203 4392 Q) : am_Ek false (am_P1 (some (6, xs)) lk) am_m136 766 [(4, .int 0), (3, .ref 202), (2, .ref 164), (1, .ref 0), (0, .retAddr 0)] [] am_ks0 h 203 4392 Q := by
  refine am_e_aload_n n136_766 rfl ?_
  refine am_e_sload_n n136_767 rfl ?_
  refine am_e_iload n136_768 rfl ?_
  refine am_e_iconst (w := 1) n136_769 rfl ?_
  refine am_e_iadd (w := 1) n136_770 (by decide) ?_
  refine am_e_sald1 n136_771 rfl (by decide) (by decide) hx1 ?_
  refine am_e_sload_n n136_772 rfl ?_
  refine am_e_iload n136_773 rfl ?_
  refine am_e_iconst (w := 2) n136_774 rfl ?_
  refine am_e_iadd (w := 2) n136_775 (by decide) ?_
  refine am_e_sald1 n136_776 rfl (by decide) (by decide) hx2 ?_
  refine am_e_sload_n n136_777 rfl ?_
  refine am_e_iload n136_778 rfl ?_
  refine am_e_iconst (w := 3) n136_779 rfl ?_
  refine am_e_iadd (w := 3) n136_780 (by decide) ?_
  refine am_e_sald1 n136_781 rfl (by decide) (by decide) hx3 ?_
  refine am_e_callV (L := [(0, .ref 0), (1, .int 2), (2, .int a2), (3, .int a3)]) n136_782 rfl rfl rfl rfl rfl rfl rfl rfl ?_
  refine am_e_iload_n n71_0 rfl ?_
  refine am_e_iconst (w := 0) n71_1 rfl ?_
  refine am_e_iconst (w := 4) n71_2 rfl ?_
  refine am_e_callS (L := [(0, .int 2), (1, .int 0), (2, .int 4)]) n71_3 rfl rfl rfl rfl rfl rfl rfl ?_
  refine am_e_iload_n n30_0 rfl ?_
  refine am_e_iload_n n30_1 rfl ?_
  refine am_e_cmpF n30_2 (am_c_ltF (by decide)) ?_
  refine am_e_iload_n n30_3 rfl ?_
  refine am_e_iload_n n30_4 rfl ?_
  refine am_e_cmpF n30_5 (am_c_gtF (by decide)) ?_
  refine am_e_iconst (w := 1) n30_6 rfl ?_
  refine am_e_goto c30_7 t30_7 ?_
  refine am_e_iret c30_9 rfl rfl rfl ?_
  refine am_e_ifF n71_4 (am_c_eqF (by decide)) ?_
  refine am_e_iload_n n71_5 rfl ?_
  refine am_e_iconst (w := 0) n71_6 rfl ?_
  refine am_e_sipush (w := 3600) n71_7 (by decide) ?_
  refine am_e_callS (L := [(0, .int a3), (1, .int 0), (2, .int 3600)]) n71_8 rfl rfl rfl rfl rfl rfl rfl ?_
  refine am_e_iload_n n30_0 rfl ?_
  refine am_e_iload_n n30_1 rfl ?_
  refine am_e_cmpF n30_2 (am_c_ltF hb) ?_
  refine am_e_iload_n n30_3 rfl ?_
  refine am_e_iload_n n30_4 rfl ?_
  refine am_e_cmpT n30_5 (am_c_gtT ha) t30_5 ?_
  refine am_e_iconst (w := 0) n30_8 rfl ?_
  refine am_e_iret c30_9 rfl rfl rfl ?_
  refine am_e_ifF n71_9 (am_c_neF (by decide)) ?_
  refine am_e_iconst (w := (-1)) n71_10 rfl ?_
  refine am_e_iret c71_11 rfl rfl rfl ?_
  refine am_e_aload_n n136_783 rfl ?_
  refine am_e_sload_n n136_784 rfl ?_
  refine am_e_iload n136_785 rfl ?_
  refine am_e_iconst (w := 1) n136_786 rfl ?_
  refine am_e_iadd (w := 1) n136_787 (by decide) ?_
  refine am_e_sald1 n136_788 rfl (by decide) (by decide) hx1 ?_
  refine am_e_sload_n n136_789 rfl ?_
  refine am_e_iload n136_790 rfl ?_
  refine am_e_iconst (w := 2) n136_791 rfl ?_
  refine am_e_iadd (w := 2) n136_792 (by decide) ?_
  refine am_e_sald1 n136_793 rfl (by decide) (by decide) hx2 ?_
  refine am_e_sload_n n136_794 rfl ?_
  refine am_e_iload n136_795 rfl ?_
  refine am_e_iconst (w := 3) n136_796 rfl ?_
  refine am_e_iadd (w := 3) n136_797 (by decide) ?_
  refine am_e_sald1 n136_798 rfl (by decide) (by decide) hx3 ?_
  refine am_e_callV (L := [(0, .ref 164), (1, .int 2), (2, .int a2), (3, .int a3)]) n136_799 rfl rfl rfl rfl rfl rfl rfl rfl ?_
  refine am_e_aload_n n128_0 rfl ?_
  refine am_e_iconst (w := 0) n128_1 rfl ?_
  refine am_e_putf n128_2 rfl rfl ?_
  refine am_e_iload_n n128_3 rfl ?_
  refine am_e_iconst (w := 0) n128_4 rfl ?_
  refine am_e_iconst (w := 4) n128_5 rfl ?_
  refine am_e_callS (L := [(0, .int 2), (1, .int 0), (2, .int 4)]) n128_6 rfl rfl rfl rfl rfl rfl rfl ?_
  refine am_e_iload_n n87_0 rfl ?_
  refine am_e_iload_n n87_1 rfl ?_
  refine am_e_cmpF n87_2 (am_c_ltF (by decide)) ?_
  refine am_e_iload_n n87_3 rfl ?_
  refine am_e_iload_n n87_4 rfl ?_
  refine am_e_cmpF n87_5 (am_c_gtF (by decide)) ?_
  refine am_e_iconst (w := 1) n87_6 rfl ?_
  refine am_e_goto c87_7 t87_7 ?_
  refine am_e_iret c87_9 rfl rfl rfl ?_
  refine am_e_ifF n128_7 (am_c_eqF (by decide)) ?_
  refine am_e_iload_n n128_8 rfl ?_
  refine am_e_iconst (w := 0) n128_9 rfl ?_
  refine am_e_sipush (w := 3600) n128_10 (by decide) ?_
  refine am_e_callS (L := [(0, .int a3), (1, .int 0), (2, .int 3600)]) n128_11 rfl rfl rfl rfl rfl rfl rfl ?_
  refine am_e_iload_n n87_0 rfl ?_
  refine am_e_iload_n n87_1 rfl ?_
  refine am_e_cmpF n87_2 (am_c_ltF hb) ?_
  refine am_e_iload_n n87_3 rfl ?_
  refine am_e_iload_n n87_4 rfl ?_
  refine am_e_cmpT n87_5 (am_c_gtT ha) t87_5 ?_
  refine am_e_iconst (w := 0) n87_8 rfl ?_
  refine am_e_iret c87_9 rfl rfl rfl ?_
  refine am_e_ifT n128_12 (am_c_eqT (by decide)) t128_12 ?_
  refine am_e_iconst (w := (-1)) n128_33 rfl ?_
  refine am_e_iret c128_34 rfl rfl rfl ?_
  refine am_e_cmpT n136_800 (am_c_eqT (by decide)) t136_800 ?_
  exact K _
theorem am_op28_2_n {lk : List Value → List am_k → am_H → Option am_O} {xs : Nat → Int32} {h : am_H} {Q : Option Value → List am_k → am_H → Prop} {a2 : Int32} {a4 : Int32} {a5 : Int32} {n : Nat} (hn9 : n ≤ 3600) (hT : am_T h) (hx1 : xs 1 = 2) (hx2 : xs 2 = a2) (hx3 : xs 3 = (nI n)) (hx4 : xs 4 = a4) (hx5 : xs 5 = a5) (K : ∀ h', am_Ek false (am_P1 (some (6, xs)) lk) am_m136 841 [(4, .int 0), (3, .ref 202), (2, .ref 164), (1, .ref 0), (0, .retAddr 0)] [] am_ks0 h' 203 4392 Q) : am_Ek false (am_P1 (some (6, xs)) lk) am_m136 766 [(4, .int 0), (3, .ref 202), (2, .ref 164), (1, .ref 0), (0, .retAddr 0)] [] am_ks0 h 203 4392 Q := by
  refine am_e_aload_n n136_766 rfl ?_
  refine am_e_sload_n n136_767 rfl ?_
  refine am_e_iload n136_768 rfl ?_
  refine am_e_iconst (w := 1) n136_769 rfl ?_
  refine am_e_iadd (w := 1) n136_770 (by decide) ?_
  refine am_e_sald1 n136_771 rfl (by decide) (by decide) hx1 ?_
  refine am_e_sload_n n136_772 rfl ?_
  refine am_e_iload n136_773 rfl ?_
  refine am_e_iconst (w := 2) n136_774 rfl ?_
  refine am_e_iadd (w := 2) n136_775 (by decide) ?_
  refine am_e_sald1 n136_776 rfl (by decide) (by decide) hx2 ?_
  refine am_e_sload_n n136_777 rfl ?_
  refine am_e_iload n136_778 rfl ?_
  refine am_e_iconst (w := 3) n136_779 rfl ?_
  refine am_e_iadd (w := 3) n136_780 (by decide) ?_
  refine am_e_sald1 n136_781 rfl (by decide) (by decide) hx3 ?_
  refine am_e_callV (L := [(0, .ref 0), (1, .int 2), (2, .int a2), (3, .int (nI n))]) n136_782 rfl rfl rfl rfl rfl rfl rfl rfl ?_
  refine am_e_iload_n n71_0 rfl ?_
  refine am_e_iconst (w := 0) n71_1 rfl ?_
  refine am_e_iconst (w := 4) n71_2 rfl ?_
  refine am_e_callS (L := [(0, .int 2), (1, .int 0), (2, .int 4)]) n71_3 rfl rfl rfl rfl rfl rfl rfl ?_
  refine am_e_iload_n n30_0 rfl ?_
  refine am_e_iload_n n30_1 rfl ?_
  refine am_e_cmpF n30_2 (am_c_ltF (by decide)) ?_
  refine am_e_iload_n n30_3 rfl ?_
  refine am_e_iload_n n30_4 rfl ?_
  refine am_e_cmpF n30_5 (am_c_gtF (by decide)) ?_
  refine am_e_iconst (w := 1) n30_6 rfl ?_
  refine am_e_goto c30_7 t30_7 ?_
  refine am_e_iret c30_9 rfl rfl rfl ?_
  refine am_e_ifF n71_4 (am_c_eqF (by decide)) ?_
  refine am_e_iload_n n71_5 rfl ?_
  refine am_e_iconst (w := 0) n71_6 rfl ?_
  refine am_e_sipush (w := 3600) n71_7 (by decide) ?_
  refine am_e_callS (L := [(0, .int (nI n)), (1, .int 0), (2, .int 3600)]) n71_8 rfl rfl rfl rfl rfl rfl rfl ?_
  refine am_e_iload_n n30_0 rfl ?_
  refine am_e_iload_n n30_1 rfl ?_
  refine am_e_cmpF n30_2 (am_c_ltF (nI_pos (by omega))) ?_
  refine am_e_iload_n n30_3 rfl ?_
  refine am_e_iload_n n30_4 rfl ?_
  refine am_e_cmpF n30_5 (am_c_gtF (nI_nlt (a := 3600) (b := n) hn9 (by decide))) ?_
  refine am_e_iconst (w := 1) n30_6 rfl ?_
  refine am_e_goto c30_7 t30_7 ?_
  refine am_e_iret c30_9 rfl rfl rfl ?_
  refine am_e_ifT n71_9 (am_c_neT (by decide)) t71_9 ?_
  refine am_e_iload_n n71_12 rfl ?_
  refine am_e_iconst (w := 4) n71_13 rfl ?_
  refine am_e_cmpT n71_14 (am_c_neT (by decide)) t71_14 ?_
  refine am_e_iload_n n71_26 rfl ?_
  by_cases hb1 : (a2 : Int32) = 0
  · subst hb1
    refine am_e_ifF n71_27 (am_c_neF rfl) ?_
    refine am_e_iconst (w := 1) n71_28 rfl ?_
    refine am_e_goto c71_29 t71_29 ?_
    refine am_e_istore (ls' := [(4, .int 1), (0, .ref 0), (1, .int 2), (2, .int 0), (3, .int (nI n))]) n71_31 rfl rfl ?_
    refine am_e_iload n71_32 rfl ?_
    refine am_e_ifF n71_33 (am_c_eqF (by decide)) ?_
    refine am_e_iload_n n71_34 rfl ?_
    refine am_e_iconst (w := 3) n71_35 rfl ?_
    refine am_e_cmpT n71_36 (am_c_neT (by decide)) t71_36 ?_
    refine am_e_aload_n n71_43 rfl ?_
    refine am_e_getf (v := .ref 148) n71_44 rfl (f0_11 (h := h) hT) ?_
    refine am_e_aload_n n71_45 rfl ?_
    refine am_e_getf (v := .ref 2) n71_46 rfl (f0_2 (h := h) hT) ?_
    refine am_e_aload_n n71_47 rfl ?_
    refine am_e_getf (v := .ref 48) n71_48 rfl (f0_5 (h := h) hT) ?_
    refine am_e_callV (L := [(0, .ref 148), (1, .ref 2), (2, .ref 48)]) n71_49 rfl rfl rfl rfl rfl rfl rfl rfl ?_
    refine am_e_aload_n n31_0 rfl ?_
    refine am_e_aload_n n31_1 rfl ?_
    refine am_e_putf n31_2 rfl rfl ?_
    refine am_e_aload_n n31_3 rfl ?_
    refine am_e_getf (v := .ref 149) n31_4 rfl (f148_1 (h := h) hT) ?_
    refine am_e_aload_n n31_5 rfl ?_
    refine am_e_callV (L := [(0, .ref 149), (1, .ref 48)]) n31_6 rfl rfl rfl rfl rfl rfl rfl rfl ?_
    refine am_e_aload_n n32_0 rfl ?_
    refine am_e_aload_n n32_1 rfl ?_
    refine am_e_getf (v := .int 0) n32_2 rfl (f48_0 (h := h) hT) ?_
    refine am_e_putf n32_3 rfl rfl ?_
    refine am_e_aload_n n32_4 rfl ?_
    refine am_e_aload_n n32_5 rfl ?_
    refine am_e_getf (v := .int 0) n32_6 rfl (f48_1 (h := h) hT) ?_
    refine am_e_putf n32_7 rfl rfl ?_
    refine am_e_aload_n n32_8 rfl ?_
    refine am_e_aload_n n32_9 rfl ?_
    refine am_e_getf (v := .int (-1)) n32_10 rfl (f48_2 (h := h) hT) ?_
    refine am_e_putf n32_11 rfl rfl ?_
    refine am_e_aload_n n32_12 rfl ?_
    refine am_e_aload_n n32_13 rfl ?_
    refine am_e_getf (v := .int 0) n32_14 rfl (f48_3 (h := h) hT) ?_
    refine am_e_putf n32_15 rfl rfl ?_
    refine am_e_aload_n n32_16 rfl ?_
    refine am_e_aload_n n32_17 rfl ?_
    refine am_e_getf (v := .int 0) n32_18 rfl (f48_4 (h := h) hT) ?_
    refine am_e_putf n32_19 rfl rfl ?_
    refine am_e_iconst (w := 0) n32_20 rfl ?_
    refine am_e_istore_n (ls' := [(2, .int 0), (0, .ref 149), (1, .ref 48)]) n32_21 rfl rfl ?_
    refine am_e_iload_n n32_22 rfl ?_
    refine am_e_iconst (w := 4) n32_23 rfl ?_
    refine am_e_cmpF n32_24 (am_c_geF (by decide)) ?_
    refine am_e_aload_n n32_25 rfl ?_
    refine am_e_getf (v := .ref 150) n32_26 rfl (f149_5 (h := h) hT) ?_
    refine am_e_iload_n n32_27 rfl ?_
    refine am_e_aload_n n32_28 rfl ?_
    refine am_e_getf (v := .ref 49) n32_29 rfl (f48_5 (h := h) hT) ?_
    refine am_e_iload_n n32_30 rfl ?_
    refine am_e_iaload (v := 0) (q := 0) n32_31 rfl (by decide) (by decide) (f49_0 (h := h) hT) ?_
    refine am_e_iastore (q := 0) n32_32 rfl (by decide) (by decide) ?_
    refine am_e_aload_n n32_33 rfl ?_
    refine am_e_getf (v := .ref 151) n32_34 rfl (f149_6 (h := h) hT) ?_
    refine am_e_iload_n n32_35 rfl ?_
    refine am_e_aload_n n32_36 rfl ?_
    refine am_e_getf (v := .ref 50) n32_37 rfl (f48_6 (h := h) hT) ?_
    refine am_e_iload_n n32_38 rfl ?_
    refine am_e_iaload (v := 0) (q := 0) n32_39 rfl (by decide) (by decide) (f50_0 (h := h) hT) ?_
    refine am_e_iastore (q := 0) n32_40 rfl (by decide) (by decide) ?_
    refine am_e_aload_n n32_41 rfl ?_
    refine am_e_getf (v := .ref 152) n32_42 rfl (f149_7 (h := h) hT) ?_
    refine am_e_iload_n n32_43 rfl ?_
    refine am_e_aload_n n32_44 rfl ?_
    refine am_e_getf (v := .ref 51) n32_45 rfl (f48_7 (h := h) hT) ?_
    refine am_e_iload_n n32_46 rfl ?_
    refine am_e_iaload (v := 0) (q := 0) n32_47 rfl (by decide) (by decide) (f51_0 (h := h) hT) ?_
    refine am_e_iastore (q := 0) n32_48 rfl (by decide) (by decide) ?_
    refine am_e_iinc (w := 1) (ls' := [(2, .int 1), (0, .ref 149), (1, .ref 48)]) n32_49 rfl rfl (by decide) rfl ?_
    refine am_e_goto c32_50 t32_50 ?_
    refine am_e_iload_n n32_22 rfl ?_
    refine am_e_iconst (w := 4) n32_23 rfl ?_
    refine am_e_cmpF n32_24 (am_c_geF (by decide)) ?_
    refine am_e_aload_n n32_25 rfl ?_
    refine am_e_getf (v := .ref 150) n32_26 rfl (f149_5 (h := h) hT) ?_
    refine am_e_iload_n n32_27 rfl ?_
    refine am_e_aload_n n32_28 rfl ?_
    refine am_e_getf (v := .ref 49) n32_29 rfl (f48_5 (h := h) hT) ?_
    refine am_e_iload_n n32_30 rfl ?_
    refine am_e_iaload (v := 0) (q := 1) n32_31 rfl (by decide) (by decide) (f49_1 (h := h) hT) ?_
    refine am_e_iastore (q := 1) n32_32 rfl (by decide) (by decide) ?_
    refine am_e_aload_n n32_33 rfl ?_
    refine am_e_getf (v := .ref 151) n32_34 rfl (f149_6 (h := h) hT) ?_
    refine am_e_iload_n n32_35 rfl ?_
    refine am_e_aload_n n32_36 rfl ?_
    refine am_e_getf (v := .ref 50) n32_37 rfl (f48_6 (h := h) hT) ?_
    refine am_e_iload_n n32_38 rfl ?_
    refine am_e_iaload (v := 0) (q := 1) n32_39 rfl (by decide) (by decide) (f50_1 (h := h) hT) ?_
    refine am_e_iastore (q := 1) n32_40 rfl (by decide) (by decide) ?_
    refine am_e_aload_n n32_41 rfl ?_
    refine am_e_getf (v := .ref 152) n32_42 rfl (f149_7 (h := h) hT) ?_
    refine am_e_iload_n n32_43 rfl ?_
    refine am_e_aload_n n32_44 rfl ?_
    refine am_e_getf (v := .ref 51) n32_45 rfl (f48_7 (h := h) hT) ?_
    refine am_e_iload_n n32_46 rfl ?_
    refine am_e_iaload (v := 0) (q := 1) n32_47 rfl (by decide) (by decide) (f51_1 (h := h) hT) ?_
    refine am_e_iastore (q := 1) n32_48 rfl (by decide) (by decide) ?_
    refine am_e_iinc (w := 2) (ls' := [(2, .int 2), (0, .ref 149), (1, .ref 48)]) n32_49 rfl rfl (by decide) rfl ?_
    refine am_e_goto c32_50 t32_50 ?_
    refine am_e_iload_n n32_22 rfl ?_
    refine am_e_iconst (w := 4) n32_23 rfl ?_
    refine am_e_cmpF n32_24 (am_c_geF (by decide)) ?_
    refine am_e_aload_n n32_25 rfl ?_
    refine am_e_getf (v := .ref 150) n32_26 rfl (f149_5 (h := h) hT) ?_
    refine am_e_iload_n n32_27 rfl ?_
    refine am_e_aload_n n32_28 rfl ?_
    refine am_e_getf (v := .ref 49) n32_29 rfl (f48_5 (h := h) hT) ?_
    refine am_e_iload_n n32_30 rfl ?_
    refine am_e_iaload (v := 0) (q := 2) n32_31 rfl (by decide) (by decide) (f49_2 (h := h) hT) ?_
    refine am_e_iastore (q := 2) n32_32 rfl (by decide) (by decide) ?_
    refine am_e_aload_n n32_33 rfl ?_
    refine am_e_getf (v := .ref 151) n32_34 rfl (f149_6 (h := h) hT) ?_
    refine am_e_iload_n n32_35 rfl ?_
    refine am_e_aload_n n32_36 rfl ?_
    refine am_e_getf (v := .ref 50) n32_37 rfl (f48_6 (h := h) hT) ?_
    refine am_e_iload_n n32_38 rfl ?_
    refine am_e_iaload (v := 0) (q := 2) n32_39 rfl (by decide) (by decide) (f50_2 (h := h) hT) ?_
    refine am_e_iastore (q := 2) n32_40 rfl (by decide) (by decide) ?_
    refine am_e_aload_n n32_41 rfl ?_
    refine am_e_getf (v := .ref 152) n32_42 rfl (f149_7 (h := h) hT) ?_
    refine am_e_iload_n n32_43 rfl ?_
    refine am_e_aload_n n32_44 rfl ?_
    refine am_e_getf (v := .ref 51) n32_45 rfl (f48_7 (h := h) hT) ?_
    refine am_e_iload_n n32_46 rfl ?_
    refine am_e_iaload (v := 0) (q := 2) n32_47 rfl (by decide) (by decide) (f51_2 (h := h) hT) ?_
    refine am_e_iastore (q := 2) n32_48 rfl (by decide) (by decide) ?_
    refine am_e_iinc (w := 3) (ls' := [(2, .int 3), (0, .ref 149), (1, .ref 48)]) n32_49 rfl rfl (by decide) rfl ?_
    refine am_e_goto c32_50 t32_50 ?_
    refine am_e_iload_n n32_22 rfl ?_
    refine am_e_iconst (w := 4) n32_23 rfl ?_
    refine am_e_cmpF n32_24 (am_c_geF (by decide)) ?_
    refine am_e_aload_n n32_25 rfl ?_
    refine am_e_getf (v := .ref 150) n32_26 rfl (f149_5 (h := h) hT) ?_
    refine am_e_iload_n n32_27 rfl ?_
    refine am_e_aload_n n32_28 rfl ?_
    refine am_e_getf (v := .ref 49) n32_29 rfl (f48_5 (h := h) hT) ?_
    refine am_e_iload_n n32_30 rfl ?_
    refine am_e_iaload (v := 0) (q := 3) n32_31 rfl (by decide) (by decide) (f49_3 (h := h) hT) ?_
    refine am_e_iastore (q := 3) n32_32 rfl (by decide) (by decide) ?_
    refine am_e_aload_n n32_33 rfl ?_
    refine am_e_getf (v := .ref 151) n32_34 rfl (f149_6 (h := h) hT) ?_
    refine am_e_iload_n n32_35 rfl ?_
    refine am_e_aload_n n32_36 rfl ?_
    refine am_e_getf (v := .ref 50) n32_37 rfl (f48_6 (h := h) hT) ?_
    refine am_e_iload_n n32_38 rfl ?_
    refine am_e_iaload (v := 0) (q := 3) n32_39 rfl (by decide) (by decide) (f50_3 (h := h) hT) ?_
    refine am_e_iastore (q := 3) n32_40 rfl (by decide) (by decide) ?_
    refine am_e_aload_n n32_41 rfl ?_
    refine am_e_getf (v := .ref 152) n32_42 rfl (f149_7 (h := h) hT) ?_
    refine am_e_iload_n n32_43 rfl ?_
    refine am_e_aload_n n32_44 rfl ?_
    refine am_e_getf (v := .ref 51) n32_45 rfl (f48_7 (h := h) hT) ?_
    refine am_e_iload_n n32_46 rfl ?_
    refine am_e_iaload (v := 0) (q := 3) n32_47 rfl (by decide) (by decide) (f51_3 (h := h) hT) ?_
    refine am_e_iastore (q := 3) n32_48 rfl (by decide) (by decide) ?_
    refine am_e_iinc (w := 4) (ls' := [(2, .int 4), (0, .ref 149), (1, .ref 48)]) n32_49 rfl rfl (by decide) rfl ?_
    refine am_e_goto c32_50 t32_50 ?_
    refine am_e_iload_n n32_22 rfl ?_
    refine am_e_iconst (w := 4) n32_23 rfl ?_
    refine am_e_cmpT n32_24 (am_c_geT (by decide)) t32_24 ?_
    refine am_e_vret c32_51 rfl rfl ?_
    refine am_e_aload_n n31_7 rfl ?_
    refine am_e_aload_n n31_8 rfl ?_
    refine am_e_getf (v := .int (-1)) n31_9 rfl (f2_18 (h := h) hT) ?_
    refine am_e_putf n31_10 rfl rfl ?_
    refine am_e_aload_n n31_11 rfl ?_
    refine am_e_iconst (w := 0) n31_12 rfl ?_
    refine am_e_putf n31_13 rfl rfl ?_
    refine am_e_aload_n n31_14 rfl ?_
    refine am_e_iconst (w := 0) n31_15 rfl ?_
    refine am_e_putf n31_16 rfl rfl ?_
    refine am_e_aload_n n31_17 rfl ?_
    refine am_e_ldc (w := 2147483647) n31_18 (by decide) ?_
    refine am_e_putf n31_19 rfl rfl ?_
    refine am_e_aload_n n31_20 rfl ?_
    refine am_e_ldc (w := 2147483647) n31_21 (by decide) ?_
    refine am_e_putf n31_22 rfl rfl ?_
    refine am_e_vret c31_23 rfl rfl ?_
    refine am_e_iload_n n71_50 rfl ?_
    refine am_e_ifT n71_51 (am_c_neT (by decide)) t71_51 ?_
    refine am_e_iload_n n71_57 rfl ?_
    refine am_e_iconst (w := 4) n71_58 rfl ?_
    refine am_e_cmpT n71_59 (am_c_neT (by decide)) t71_59 ?_
    refine am_e_aload_n n71_64 rfl ?_
    refine am_e_getf (v := .ref 148) n71_65 rfl (f0_11 (h := h) hT) ?_
    refine am_e_iload_n n71_66 rfl ?_
    refine am_e_iconst (w := 2) n71_67 rfl ?_
    refine am_e_cmpF n71_68 (am_c_neF (by decide)) ?_
    refine am_e_iconst (w := 1) n71_69 rfl ?_
    refine am_e_goto c71_70 t71_70 ?_
    refine am_e_putf n71_72 rfl rfl ?_
    refine am_e_aload_n n71_73 rfl ?_
    refine am_e_getf (v := .ref 148) n71_74 rfl (f0_11 (h := h) hT) ?_
    refine am_e_iload_n n71_75 rfl ?_
    refine am_e_iconst (w := 3) n71_76 rfl ?_
    refine am_e_cmpT n71_77 (am_c_neT (by decide)) t71_77 ?_
    refine am_e_iconst (w := 0) n71_80 rfl ?_
    refine am_e_putf n71_81 rfl rfl ?_
    refine am_e_aload_n n71_82 rfl ?_
    refine am_e_getf (v := .ref 148) n71_83 rfl (f0_11 (h := h) hT) ?_
    refine am_e_iload_n n71_84 rfl ?_
    refine am_e_iload_n n71_85 rfl ?_
    refine am_e_iconst (w := 1) n71_86 rfl ?_
    refine am_e_cmpT n71_87 (am_c_neT (by decide)) t71_87 ?_
    refine am_e_iconst (w := 0) n71_90 rfl ?_
    refine am_e_callV (L := [(0, .ref 148), (1, .int (nI n)), (2, .int 0)]) n71_91 rfl rfl rfl rfl rfl rfl rfl rfl ?_
    refine am_goBy0 (n := n) (f := 0) (s := 0) (by omega) ⟨(f148_1 (h := h) hT), rfl, rfl, (f2_19 (h := h) hT), (f11_7 (h := h) hT), (f2_0 (h := h) hT), (f11_6 (h := h) hT), (f16_0 (h := h) hT), (f11_4 (h := h) hT), (f14_0 (h := h) hT), (f11_5 (h := h) hT), (f15_0 (h := h) hT), rfl, rfl, trivial⟩ (by decide) (by omega) rfl rfl rfl ?_
    intro h14 F14 qa14 qb14 qc14
    rw [am_nfs_0] at qa14
    obtain ⟨l14, qc14⟩ := qc14
    refine am_e_pop n71_92 rfl ?_
    refine am_e_aload_n n71_93 rfl ?_
    refine am_e_getf (v := .ref 148) n71_94 rfl ((F14 0 11 rfl).trans (f0_11 (h := h) hT)) ?_
    refine am_e_getf (v := .ref 149) n71_95 rfl ((F14 148 1 rfl).trans (f148_1 (h := h) hT)) ?_
    refine am_e_getf (v := .int 0) n71_96 rfl qa14 ?_
    refine am_e_iret c71_97 rfl rfl rfl ?_
    refine am_e_aload_n n136_783 rfl ?_
    refine am_e_sload_n n136_784 rfl ?_
    refine am_e_iload n136_785 rfl ?_
    refine am_e_iconst (w := 1) n136_786 rfl ?_
    refine am_e_iadd (w := 1) n136_787 (by decide) ?_
    refine am_e_sald1 n136_788 rfl (by decide) (by decide) hx1 ?_
    refine am_e_sload_n n136_789 rfl ?_
    refine am_e_iload n136_790 rfl ?_
    refine am_e_iconst (w := 2) n136_791 rfl ?_
    refine am_e_iadd (w := 2) n136_792 (by decide) ?_
    refine am_e_sald1 n136_793 rfl (by decide) (by decide) hx2 ?_
    refine am_e_sload_n n136_794 rfl ?_
    refine am_e_iload n136_795 rfl ?_
    refine am_e_iconst (w := 3) n136_796 rfl ?_
    refine am_e_iadd (w := 3) n136_797 (by decide) ?_
    refine am_e_sald1 n136_798 rfl (by decide) (by decide) hx3 ?_
    refine am_e_callV (L := [(0, .ref 164), (1, .int 2), (2, .int 0), (3, .int (nI n))]) n136_799 rfl rfl rfl rfl rfl rfl rfl rfl ?_
    refine am_e_aload_n n128_0 rfl ?_
    refine am_e_iconst (w := 0) n128_1 rfl ?_
    refine am_e_putf n128_2 rfl rfl ?_
    refine am_e_iload_n n128_3 rfl ?_
    refine am_e_iconst (w := 0) n128_4 rfl ?_
    refine am_e_iconst (w := 4) n128_5 rfl ?_
    refine am_e_callS (L := [(0, .int 2), (1, .int 0), (2, .int 4)]) n128_6 rfl rfl rfl rfl rfl rfl rfl ?_
    refine am_e_iload_n n87_0 rfl ?_
    refine am_e_iload_n n87_1 rfl ?_
    refine am_e_cmpF n87_2 (am_c_ltF (by decide)) ?_
    refine am_e_iload_n n87_3 rfl ?_
    refine am_e_iload_n n87_4 rfl ?_
    refine am_e_cmpF n87_5 (am_c_gtF (by decide)) ?_
    refine am_e_iconst (w := 1) n87_6 rfl ?_
    refine am_e_goto c87_7 t87_7 ?_
    refine am_e_iret c87_9 rfl rfl rfl ?_
    refine am_e_ifF n128_7 (am_c_eqF (by decide)) ?_
    refine am_e_iload_n n128_8 rfl ?_
    refine am_e_iconst (w := 0) n128_9 rfl ?_
    refine am_e_sipush (w := 3600) n128_10 (by decide) ?_
    refine am_e_callS (L := [(0, .int (nI n)), (1, .int 0), (2, .int 3600)]) n128_11 rfl rfl rfl rfl rfl rfl rfl ?_
    refine am_e_iload_n n87_0 rfl ?_
    refine am_e_iload_n n87_1 rfl ?_
    refine am_e_cmpF n87_2 (am_c_ltF (nI_pos (by omega))) ?_
    refine am_e_iload_n n87_3 rfl ?_
    refine am_e_iload_n n87_4 rfl ?_
    refine am_e_cmpF n87_5 (am_c_gtF (nI_nlt (a := 3600) (b := n) hn9 (by decide))) ?_
    refine am_e_iconst (w := 1) n87_6 rfl ?_
    refine am_e_goto c87_7 t87_7 ?_
    refine am_e_iret c87_9 rfl rfl rfl ?_
    refine am_e_ifF n128_12 (am_c_eqF (by decide)) ?_
    refine am_e_iload_n n128_13 rfl ?_
    refine am_e_iconst (w := 4) n128_14 rfl ?_
    refine am_e_cmpT n128_15 (am_c_neT (by decide)) t128_15 ?_
    refine am_e_iload_n n128_23 rfl ?_
    refine am_e_ifF n128_24 (am_c_neF (by decide)) ?_
    refine am_e_iload_n n128_25 rfl ?_
    refine am_e_iconst (w := 3) n128_26 rfl ?_
    refine am_e_cmpT n128_27 (am_c_neT (by decide)) t128_27 ?_
    refine am_e_aload_n n128_35 rfl ?_
    refine am_e_iconst (w := 1) n128_36 rfl ?_
    refine am_e_iconst (w := 0) n128_37 rfl ?_
    refine am_e_callV (L := [(0, .ref 164), (1, .int 1), (2, .int 0)]) n128_38 rfl rfl rfl rfl rfl rfl rfl rfl ?_
    refine am_e_aload_n n97_0 rfl ?_
    refine am_e_getf (v := .ref 188) n97_1 rfl ((F14 164 50 rfl).trans (f164_50 (h := h) hT)) ?_
    refine am_e_iload_n n97_2 rfl ?_
    refine am_e_aload_n n97_3 rfl ?_
    refine am_e_getf (v := .ref 188) n97_4 rfl ((F14 164 50 rfl).trans (f164_50 (h := h) hT)) ?_
    refine am_e_iload_n n97_5 rfl ?_
    refine am_e_iaload (v := 0) (q := 0) n97_6 rfl (by decide) (by decide) ((F14 188 0 rfl).trans (f188_0 (h := h) hT)) ?_
    refine am_e_iastore (q := 1) n97_7 rfl (by decide) (by decide) ?_
    refine am_e_aload_n n97_8 rfl ?_
    refine am_e_getf (v := .ref 189) n97_9 rfl ((F14 164 51 rfl).trans (f164_51 (h := h) hT)) ?_
    refine am_e_iload_n n97_10 rfl ?_
    refine am_e_aload_n n97_11 rfl ?_
    refine am_e_getf (v := .ref 189) n97_12 rfl ((F14 164 51 rfl).trans (f164_51 (h := h) hT)) ?_
    refine am_e_iload_n n97_13 rfl ?_
    refine am_e_iaload (v := 0) (q := 0) n97_14 rfl (by decide) (by decide) ((F14 189 0 rfl).trans (f189_0 (h := h) hT)) ?_
    refine am_e_iastore (q := 1) n97_15 rfl (by decide) (by decide) ?_
    refine am_e_aload_n n97_16 rfl ?_
    refine am_e_getf (v := .ref 190) n97_17 rfl ((F14 164 52 rfl).trans (f164_52 (h := h) hT)) ?_
    refine am_e_iload_n n97_18 rfl ?_
    refine am_e_aload_n n97_19 rfl ?_
    refine am_e_getf (v := .ref 190) n97_20 rfl ((F14 164 52 rfl).trans (f164_52 (h := h) hT)) ?_
    refine am_e_iload_n n97_21 rfl ?_
    refine am_e_iaload (v := (-1)) (q := 0) n97_22 rfl (by decide) (by decide) ((F14 190 0 rfl).trans (f190_0 (h := h) hT)) ?_
    refine am_e_iastore (q := 1) n97_23 rfl (by decide) (by decide) ?_
    refine am_e_aload_n n97_24 rfl ?_
    refine am_e_getf (v := .ref 194) n97_25 rfl ((F14 164 56 rfl).trans (f164_56 (h := h) hT)) ?_
    refine am_e_iload_n n97_26 rfl ?_
    refine am_e_aload_n n97_27 rfl ?_
    refine am_e_getf (v := .ref 194) n97_28 rfl ((F14 164 56 rfl).trans (f164_56 (h := h) hT)) ?_
    refine am_e_iload_n n97_29 rfl ?_
    refine am_e_iaload (v := 0) (q := 0) n97_30 rfl (by decide) (by decide) ((F14 194 0 rfl).trans (f194_0 (h := h) hT)) ?_
    refine am_e_iastore (q := 1) n97_31 rfl (by decide) (by decide) ?_
    refine am_e_iconst (w := 0) n97_32 rfl ?_
    refine am_e_istore_n (ls' := [(3, .int 0), (0, .ref 164), (1, .int 1), (2, .int 0)]) n97_33 rfl rfl ?_
    refine am_e_iload_n n97_34 rfl ?_
    refine am_e_iconst (w := 4) n97_35 rfl ?_
    refine am_e_cmpF n97_36 (am_c_geF (by decide)) ?_
    refine am_e_aload_n n97_37 rfl ?_
    refine am_e_getf (v := .ref 191) n97_38 rfl ((F14 164 53 rfl).trans (f164_53 (h := h) hT)) ?_
    refine am_e_iconst (w := 4) n97_39 rfl ?_
    refine am_e_iload_n n97_40 rfl ?_
    refine am_e_imul (w := 4) n97_41 (by decide) ?_
    refine am_e_iload_n n97_42 rfl ?_
    refine am_e_iadd (w := 4) n97_43 (by decide) ?_
    refine am_e_aload_n n97_44 rfl ?_
    refine am_e_getf (v := .ref 191) n97_45 rfl ((F14 164 53 rfl).trans (f164_53 (h := h) hT)) ?_
    refine am_e_iconst (w := 4) n97_46 rfl ?_
    refine am_e_iload_n n97_47 rfl ?_
    refine am_e_imul (w := 0) n97_48 (by decide) ?_
    refine am_e_iload_n n97_49 rfl ?_
    refine am_e_iadd (w := 0) n97_50 (by decide) ?_
    refine am_e_iaload (v := 0) (q := 0) n97_51 rfl (by decide) (by decide) ((F14 191 0 rfl).trans (f191_0 (h := h) hT)) ?_
    refine am_e_iastore (q := 4) n97_52 rfl (by decide) (by decide) ?_
    refine am_e_aload_n n97_53 rfl ?_
    refine am_e_getf (v := .ref 192) n97_54 rfl ((F14 164 54 rfl).trans (f164_54 (h := h) hT)) ?_
    refine am_e_iconst (w := 4) n97_55 rfl ?_
    refine am_e_iload_n n97_56 rfl ?_
    refine am_e_imul (w := 4) n97_57 (by decide) ?_
    refine am_e_iload_n n97_58 rfl ?_
    refine am_e_iadd (w := 4) n97_59 (by decide) ?_
    refine am_e_aload_n n97_60 rfl ?_
    refine am_e_getf (v := .ref 192) n97_61 rfl ((F14 164 54 rfl).trans (f164_54 (h := h) hT)) ?_
    refine am_e_iconst (w := 4) n97_62 rfl ?_
    refine am_e_iload_n n97_63 rfl ?_
    refine am_e_imul (w := 0) n97_64 (by decide) ?_
    refine am_e_iload_n n97_65 rfl ?_
    refine am_e_iadd (w := 0) n97_66 (by decide) ?_
    refine am_e_iaload (v := 0) (q := 0) n97_67 rfl (by decide) (by decide) ((F14 192 0 rfl).trans (f192_0 (h := h) hT)) ?_
    refine am_e_iastore (q := 4) n97_68 rfl (by decide) (by decide) ?_
    refine am_e_aload_n n97_69 rfl ?_
    refine am_e_getf (v := .ref 193) n97_70 rfl ((F14 164 55 rfl).trans (f164_55 (h := h) hT)) ?_
    refine am_e_iconst (w := 4) n97_71 rfl ?_
    refine am_e_iload_n n97_72 rfl ?_
    refine am_e_imul (w := 4) n97_73 (by decide) ?_
    refine am_e_iload_n n97_74 rfl ?_
    refine am_e_iadd (w := 4) n97_75 (by decide) ?_
    refine am_e_aload_n n97_76 rfl ?_
    refine am_e_getf (v := .ref 193) n97_77 rfl ((F14 164 55 rfl).trans (f164_55 (h := h) hT)) ?_
    refine am_e_iconst (w := 4) n97_78 rfl ?_
    refine am_e_iload_n n97_79 rfl ?_
    refine am_e_imul (w := 0) n97_80 (by decide) ?_
    refine am_e_iload_n n97_81 rfl ?_
    refine am_e_iadd (w := 0) n97_82 (by decide) ?_
    refine am_e_iaload (v := 0) (q := 0) n97_83 rfl (by decide) (by decide) ((F14 193 0 rfl).trans (f193_0 (h := h) hT)) ?_
    refine am_e_iastore (q := 4) n97_84 rfl (by decide) (by decide) ?_
    refine am_e_iinc (w := 1) (ls' := [(3, .int 1), (0, .ref 164), (1, .int 1), (2, .int 0)]) n97_85 rfl rfl (by decide) rfl ?_
    refine am_e_goto c97_86 t97_86 ?_
    refine am_e_iload_n n97_34 rfl ?_
    refine am_e_iconst (w := 4) n97_35 rfl ?_
    refine am_e_cmpF n97_36 (am_c_geF (by decide)) ?_
    refine am_e_aload_n n97_37 rfl ?_
    refine am_e_getf (v := .ref 191) n97_38 rfl ((F14 164 53 rfl).trans (f164_53 (h := h) hT)) ?_
    refine am_e_iconst (w := 4) n97_39 rfl ?_
    refine am_e_iload_n n97_40 rfl ?_
    refine am_e_imul (w := 4) n97_41 (by decide) ?_
    refine am_e_iload_n n97_42 rfl ?_
    refine am_e_iadd (w := 5) n97_43 (by decide) ?_
    refine am_e_aload_n n97_44 rfl ?_
    refine am_e_getf (v := .ref 191) n97_45 rfl ((F14 164 53 rfl).trans (f164_53 (h := h) hT)) ?_
    refine am_e_iconst (w := 4) n97_46 rfl ?_
    refine am_e_iload_n n97_47 rfl ?_
    refine am_e_imul (w := 0) n97_48 (by decide) ?_
    refine am_e_iload_n n97_49 rfl ?_
    refine am_e_iadd (w := 1) n97_50 (by decide) ?_
    refine am_e_iaload (v := 0) (q := 1) n97_51 rfl (by decide) (by decide) ((F14 191 1 rfl).trans (f191_1 (h := h) hT)) ?_
    refine am_e_iastore (q := 5) n97_52 rfl (by decide) (by decide) ?_
    refine am_e_aload_n n97_53 rfl ?_
    refine am_e_getf (v := .ref 192) n97_54 rfl ((F14 164 54 rfl).trans (f164_54 (h := h) hT)) ?_
    refine am_e_iconst (w := 4) n97_55 rfl ?_
    refine am_e_iload_n n97_56 rfl ?_
    refine am_e_imul (w := 4) n97_57 (by decide) ?_
    refine am_e_iload_n n97_58 rfl ?_
    refine am_e_iadd (w := 5) n97_59 (by decide) ?_
    refine am_e_aload_n n97_60 rfl ?_
    refine am_e_getf (v := .ref 192) n97_61 rfl ((F14 164 54 rfl).trans (f164_54 (h := h) hT)) ?_
    refine am_e_iconst (w := 4) n97_62 rfl ?_
    refine am_e_iload_n n97_63 rfl ?_
    refine am_e_imul (w := 0) n97_64 (by decide) ?_
    refine am_e_iload_n n97_65 rfl ?_
    refine am_e_iadd (w := 1) n97_66 (by decide) ?_
    refine am_e_iaload (v := 0) (q := 1) n97_67 rfl (by decide) (by decide) ((F14 192 1 rfl).trans (f192_1 (h := h) hT)) ?_
    refine am_e_iastore (q := 5) n97_68 rfl (by decide) (by decide) ?_
    refine am_e_aload_n n97_69 rfl ?_
    refine am_e_getf (v := .ref 193) n97_70 rfl ((F14 164 55 rfl).trans (f164_55 (h := h) hT)) ?_
    refine am_e_iconst (w := 4) n97_71 rfl ?_
    refine am_e_iload_n n97_72 rfl ?_
    refine am_e_imul (w := 4) n97_73 (by decide) ?_
    refine am_e_iload_n n97_74 rfl ?_
    refine am_e_iadd (w := 5) n97_75 (by decide) ?_
    refine am_e_aload_n n97_76 rfl ?_
    refine am_e_getf (v := .ref 193) n97_77 rfl ((F14 164 55 rfl).trans (f164_55 (h := h) hT)) ?_
    refine am_e_iconst (w := 4) n97_78 rfl ?_
    refine am_e_iload_n n97_79 rfl ?_
    refine am_e_imul (w := 0) n97_80 (by decide) ?_
    refine am_e_iload_n n97_81 rfl ?_
    refine am_e_iadd (w := 1) n97_82 (by decide) ?_
    refine am_e_iaload (v := 0) (q := 1) n97_83 rfl (by decide) (by decide) ((F14 193 1 rfl).trans (f193_1 (h := h) hT)) ?_
    refine am_e_iastore (q := 5) n97_84 rfl (by decide) (by decide) ?_
    refine am_e_iinc (w := 2) (ls' := [(3, .int 2), (0, .ref 164), (1, .int 1), (2, .int 0)]) n97_85 rfl rfl (by decide) rfl ?_
    refine am_e_goto c97_86 t97_86 ?_
    refine am_e_iload_n n97_34 rfl ?_
    refine am_e_iconst (w := 4) n97_35 rfl ?_
    refine am_e_cmpF n97_36 (am_c_geF (by decide)) ?_
    refine am_e_aload_n n97_37 rfl ?_
    refine am_e_getf (v := .ref 191) n97_38 rfl ((F14 164 53 rfl).trans (f164_53 (h := h) hT)) ?_
    refine am_e_iconst (w := 4) n97_39 rfl ?_
    refine am_e_iload_n n97_40 rfl ?_
    refine am_e_imul (w := 4) n97_41 (by decide) ?_
    refine am_e_iload_n n97_42 rfl ?_
    refine am_e_iadd (w := 6) n97_43 (by decide) ?_
    refine am_e_aload_n n97_44 rfl ?_
    refine am_e_getf (v := .ref 191) n97_45 rfl ((F14 164 53 rfl).trans (f164_53 (h := h) hT)) ?_
    refine am_e_iconst (w := 4) n97_46 rfl ?_
    refine am_e_iload_n n97_47 rfl ?_
    refine am_e_imul (w := 0) n97_48 (by decide) ?_
    refine am_e_iload_n n97_49 rfl ?_
    refine am_e_iadd (w := 2) n97_50 (by decide) ?_
    refine am_e_iaload (v := 0) (q := 2) n97_51 rfl (by decide) (by decide) ((F14 191 2 rfl).trans (f191_2 (h := h) hT)) ?_
    refine am_e_iastore (q := 6) n97_52 rfl (by decide) (by decide) ?_
    refine am_e_aload_n n97_53 rfl ?_
    refine am_e_getf (v := .ref 192) n97_54 rfl ((F14 164 54 rfl).trans (f164_54 (h := h) hT)) ?_
    refine am_e_iconst (w := 4) n97_55 rfl ?_
    refine am_e_iload_n n97_56 rfl ?_
    refine am_e_imul (w := 4) n97_57 (by decide) ?_
    refine am_e_iload_n n97_58 rfl ?_
    refine am_e_iadd (w := 6) n97_59 (by decide) ?_
    refine am_e_aload_n n97_60 rfl ?_
    refine am_e_getf (v := .ref 192) n97_61 rfl ((F14 164 54 rfl).trans (f164_54 (h := h) hT)) ?_
    refine am_e_iconst (w := 4) n97_62 rfl ?_
    refine am_e_iload_n n97_63 rfl ?_
    refine am_e_imul (w := 0) n97_64 (by decide) ?_
    refine am_e_iload_n n97_65 rfl ?_
    refine am_e_iadd (w := 2) n97_66 (by decide) ?_
    refine am_e_iaload (v := 0) (q := 2) n97_67 rfl (by decide) (by decide) ((F14 192 2 rfl).trans (f192_2 (h := h) hT)) ?_
    refine am_e_iastore (q := 6) n97_68 rfl (by decide) (by decide) ?_
    refine am_e_aload_n n97_69 rfl ?_
    refine am_e_getf (v := .ref 193) n97_70 rfl ((F14 164 55 rfl).trans (f164_55 (h := h) hT)) ?_
    refine am_e_iconst (w := 4) n97_71 rfl ?_
    refine am_e_iload_n n97_72 rfl ?_
    refine am_e_imul (w := 4) n97_73 (by decide) ?_
    refine am_e_iload_n n97_74 rfl ?_
    refine am_e_iadd (w := 6) n97_75 (by decide) ?_
    refine am_e_aload_n n97_76 rfl ?_
    refine am_e_getf (v := .ref 193) n97_77 rfl ((F14 164 55 rfl).trans (f164_55 (h := h) hT)) ?_
    refine am_e_iconst (w := 4) n97_78 rfl ?_
    refine am_e_iload_n n97_79 rfl ?_
    refine am_e_imul (w := 0) n97_80 (by decide) ?_
    refine am_e_iload_n n97_81 rfl ?_
    refine am_e_iadd (w := 2) n97_82 (by decide) ?_
    refine am_e_iaload (v := 0) (q := 2) n97_83 rfl (by decide) (by decide) ((F14 193 2 rfl).trans (f193_2 (h := h) hT)) ?_
    refine am_e_iastore (q := 6) n97_84 rfl (by decide) (by decide) ?_
    refine am_e_iinc (w := 3) (ls' := [(3, .int 3), (0, .ref 164), (1, .int 1), (2, .int 0)]) n97_85 rfl rfl (by decide) rfl ?_
    refine am_e_goto c97_86 t97_86 ?_
    refine am_e_iload_n n97_34 rfl ?_
    refine am_e_iconst (w := 4) n97_35 rfl ?_
    refine am_e_cmpF n97_36 (am_c_geF (by decide)) ?_
    refine am_e_aload_n n97_37 rfl ?_
    refine am_e_getf (v := .ref 191) n97_38 rfl ((F14 164 53 rfl).trans (f164_53 (h := h) hT)) ?_
    refine am_e_iconst (w := 4) n97_39 rfl ?_
    refine am_e_iload_n n97_40 rfl ?_
    refine am_e_imul (w := 4) n97_41 (by decide) ?_
    refine am_e_iload_n n97_42 rfl ?_
    refine am_e_iadd (w := 7) n97_43 (by decide) ?_
    refine am_e_aload_n n97_44 rfl ?_
    refine am_e_getf (v := .ref 191) n97_45 rfl ((F14 164 53 rfl).trans (f164_53 (h := h) hT)) ?_
    refine am_e_iconst (w := 4) n97_46 rfl ?_
    refine am_e_iload_n n97_47 rfl ?_
    refine am_e_imul (w := 0) n97_48 (by decide) ?_
    refine am_e_iload_n n97_49 rfl ?_
    refine am_e_iadd (w := 3) n97_50 (by decide) ?_
    refine am_e_iaload (v := 0) (q := 3) n97_51 rfl (by decide) (by decide) ((F14 191 3 rfl).trans (f191_3 (h := h) hT)) ?_
    refine am_e_iastore (q := 7) n97_52 rfl (by decide) (by decide) ?_
    refine am_e_aload_n n97_53 rfl ?_
    refine am_e_getf (v := .ref 192) n97_54 rfl ((F14 164 54 rfl).trans (f164_54 (h := h) hT)) ?_
    refine am_e_iconst (w := 4) n97_55 rfl ?_
    refine am_e_iload_n n97_56 rfl ?_
    refine am_e_imul (w := 4) n97_57 (by decide) ?_
    refine am_e_iload_n n97_58 rfl ?_
    refine am_e_iadd (w := 7) n97_59 (by decide) ?_
    refine am_e_aload_n n97_60 rfl ?_
    refine am_e_getf (v := .ref 192) n97_61 rfl ((F14 164 54 rfl).trans (f164_54 (h := h) hT)) ?_
    refine am_e_iconst (w := 4) n97_62 rfl ?_
    refine am_e_iload_n n97_63 rfl ?_
    refine am_e_imul (w := 0) n97_64 (by decide) ?_
    refine am_e_iload_n n97_65 rfl ?_
    refine am_e_iadd (w := 3) n97_66 (by decide) ?_
    refine am_e_iaload (v := 0) (q := 3) n97_67 rfl (by decide) (by decide) ((F14 192 3 rfl).trans (f192_3 (h := h) hT)) ?_
    refine am_e_iastore (q := 7) n97_68 rfl (by decide) (by decide) ?_
    refine am_e_aload_n n97_69 rfl ?_
    refine am_e_getf (v := .ref 193) n97_70 rfl ((F14 164 55 rfl).trans (f164_55 (h := h) hT)) ?_
    refine am_e_iconst (w := 4) n97_71 rfl ?_
    refine am_e_iload_n n97_72 rfl ?_
    refine am_e_imul (w := 4) n97_73 (by decide) ?_
    refine am_e_iload_n n97_74 rfl ?_
    refine am_e_iadd (w := 7) n97_75 (by decide) ?_
    refine am_e_aload_n n97_76 rfl ?_
    refine am_e_getf (v := .ref 193) n97_77 rfl ((F14 164 55 rfl).trans (f164_55 (h := h) hT)) ?_
    refine am_e_iconst (w := 4) n97_78 rfl ?_
    refine am_e_iload_n n97_79 rfl ?_
    refine am_e_imul (w := 0) n97_80 (by decide) ?_
    refine am_e_iload_n n97_81 rfl ?_
    refine am_e_iadd (w := 3) n97_82 (by decide) ?_
    refine am_e_iaload (v := 0) (q := 3) n97_83 rfl (by decide) (by decide) ((F14 193 3 rfl).trans (f193_3 (h := h) hT)) ?_
    refine am_e_iastore (q := 7) n97_84 rfl (by decide) (by decide) ?_
    refine am_e_iinc (w := 4) (ls' := [(3, .int 4), (0, .ref 164), (1, .int 1), (2, .int 0)]) n97_85 rfl rfl (by decide) rfl ?_
    refine am_e_goto c97_86 t97_86 ?_
    refine am_e_iload_n n97_34 rfl ?_
    refine am_e_iconst (w := 4) n97_35 rfl ?_
    refine am_e_cmpT n97_36 (am_c_geT (by decide)) t97_36 ?_
    refine am_e_vret c97_87 rfl rfl ?_
    refine am_e_aload_n n128_39 rfl ?_
    refine am_e_iload_n n128_40 rfl ?_
    refine am_e_ifT n128_41 (am_c_neT (by decide)) t128_41 ?_
    refine am_e_iconst (w := 0) n128_44 rfl ?_
    refine am_e_putf n128_45 rfl rfl ?_
    refine am_e_aload_n n128_46 rfl ?_
    refine am_e_iload_n n128_47 rfl ?_
    refine am_e_iconst (w := 2) n128_48 rfl ?_
    refine am_e_cmpF n128_49 (am_c_neF (by decide)) ?_
    refine am_e_iconst (w := 1) n128_50 rfl ?_
    refine am_e_goto c128_51 t128_51 ?_
    refine am_e_putf n128_53 rfl rfl ?_
    refine am_e_aload_n n128_54 rfl ?_
    refine am_e_iload_n n128_55 rfl ?_
    refine am_e_iconst (w := 4) n128_56 rfl ?_
    refine am_e_cmpT n128_57 (am_c_neT (by decide)) t128_57 ?_
    refine am_e_iconst (w := (-1)) n128_60 rfl ?_
    refine am_e_putf n128_61 rfl rfl ?_
    refine am_e_iconst (w := 0) n128_62 rfl ?_
    refine am_e_istore (ls' := [(4, .int 0), (0, .ref 164), (1, .int 2), (2, .int 0), (3, .int (nI n))]) n128_63 rfl rfl ?_
    refine am_Ek_ls (ls' := [(0, .ref 164), (1, .int 2), (3, .int (nI n)), (4, .int (nI 0))]) ⟨rfl, rfl, rfl, rfl, trivial⟩ ?_
    refine am_mT2_e (n := n) (f := 0) (s := 0) (by omega) ⟨((F14 164 50 rfl).trans (f164_50 (h := h) hT)), rfl, ((F14 164 47 rfl).trans (f164_47 (h := h) hT)), ((F14 164 23 rfl).trans (f164_23 (h := h) hT)), ((F14 168 0 rfl).trans (f168_0 (h := h) hT)), ((F14 164 51 rfl).trans (f164_51 (h := h) hT)), ((F14 164 33 rfl).trans (f164_33 (h := h) hT)), ((F14 178 0 rfl).trans (f178_0 (h := h) hT)), rfl, ((F14 164 58 rfl).trans (f164_58 (h := h) hT)), rfl, trivial⟩ (by decide) (by omega) rfl rfl ?_
    intro h15 F15 qa15 qb15
    rw [am_nfs_0] at qa15
    refine am_e_aload_n n128_84 rfl ?_
    refine am_e_iconst (w := 0) n128_85 rfl ?_
    refine am_e_putf n128_86 rfl rfl ?_
    refine am_e_aload_n n128_87 rfl ?_
    refine am_e_iconst (w := 0) n128_88 rfl ?_
    refine am_e_putf n128_89 rfl rfl ?_
    refine am_e_aload_n n128_90 rfl ?_
    refine am_e_iconst (w := (-1)) n128_91 rfl ?_
    refine am_e_putf n128_92 rfl rfl ?_
    refine am_e_aload_n n128_93 rfl ?_
    refine am_e_getf (v := .ref 188) n128_94 rfl ((F15 164 50 rfl).trans ((F14 164 50 rfl).trans (f164_50 (h := h) hT))) ?_
    refine am_e_iconst (w := 1) n128_95 rfl ?_
    refine am_e_iaload (v := 0) (q := 1) n128_96 rfl (by decide) (by decide) qa15 ?_
    refine am_e_iret c128_97 rfl rfl rfl ?_
    refine am_e_cmpT n136_800 (am_c_eqT (by decide)) t136_800 ?_
    exact K _
  · refine am_e_ifT n71_27 (am_c_neT hb1) t71_27 ?_
    refine am_e_iconst (w := 0) n71_30 rfl ?_
    refine am_e_istore (ls' := [(4, .int 0), (0, .ref 0), (1, .int 2), (2, .int a2), (3, .int (nI n))]) n71_31 rfl rfl ?_
    refine am_e_iload n71_32 rfl ?_
    refine am_e_ifT n71_33 (am_c_eqT (by decide)) t71_33 ?_
    refine am_e_iconst (w := (-1)) n71_41 rfl ?_
    refine am_e_iret c71_42 rfl rfl rfl ?_
    refine am_e_aload_n n136_783 rfl ?_
    refine am_e_sload_n n136_784 rfl ?_
    refine am_e_iload n136_785 rfl ?_
    refine am_e_iconst (w := 1) n136_786 rfl ?_
    refine am_e_iadd (w := 1) n136_787 (by decide) ?_
    refine am_e_sald1 n136_788 rfl (by decide) (by decide) hx1 ?_
    refine am_e_sload_n n136_789 rfl ?_
    refine am_e_iload n136_790 rfl ?_
    refine am_e_iconst (w := 2) n136_791 rfl ?_
    refine am_e_iadd (w := 2) n136_792 (by decide) ?_
    refine am_e_sald1 n136_793 rfl (by decide) (by decide) hx2 ?_
    refine am_e_sload_n n136_794 rfl ?_
    refine am_e_iload n136_795 rfl ?_
    refine am_e_iconst (w := 3) n136_796 rfl ?_
    refine am_e_iadd (w := 3) n136_797 (by decide) ?_
    refine am_e_sald1 n136_798 rfl (by decide) (by decide) hx3 ?_
    refine am_e_callV (L := [(0, .ref 164), (1, .int 2), (2, .int a2), (3, .int (nI n))]) n136_799 rfl rfl rfl rfl rfl rfl rfl rfl ?_
    refine am_e_aload_n n128_0 rfl ?_
    refine am_e_iconst (w := 0) n128_1 rfl ?_
    refine am_e_putf n128_2 rfl rfl ?_
    refine am_e_iload_n n128_3 rfl ?_
    refine am_e_iconst (w := 0) n128_4 rfl ?_
    refine am_e_iconst (w := 4) n128_5 rfl ?_
    refine am_e_callS (L := [(0, .int 2), (1, .int 0), (2, .int 4)]) n128_6 rfl rfl rfl rfl rfl rfl rfl ?_
    refine am_e_iload_n n87_0 rfl ?_
    refine am_e_iload_n n87_1 rfl ?_
    refine am_e_cmpF n87_2 (am_c_ltF (by decide)) ?_
    refine am_e_iload_n n87_3 rfl ?_
    refine am_e_iload_n n87_4 rfl ?_
    refine am_e_cmpF n87_5 (am_c_gtF (by decide)) ?_
    refine am_e_iconst (w := 1) n87_6 rfl ?_
    refine am_e_goto c87_7 t87_7 ?_
    refine am_e_iret c87_9 rfl rfl rfl ?_
    refine am_e_ifF n128_7 (am_c_eqF (by decide)) ?_
    refine am_e_iload_n n128_8 rfl ?_
    refine am_e_iconst (w := 0) n128_9 rfl ?_
    refine am_e_sipush (w := 3600) n128_10 (by decide) ?_
    refine am_e_callS (L := [(0, .int (nI n)), (1, .int 0), (2, .int 3600)]) n128_11 rfl rfl rfl rfl rfl rfl rfl ?_
    refine am_e_iload_n n87_0 rfl ?_
    refine am_e_iload_n n87_1 rfl ?_
    refine am_e_cmpF n87_2 (am_c_ltF (nI_pos (by omega))) ?_
    refine am_e_iload_n n87_3 rfl ?_
    refine am_e_iload_n n87_4 rfl ?_
    refine am_e_cmpF n87_5 (am_c_gtF (nI_nlt (a := 3600) (b := n) hn9 (by decide))) ?_
    refine am_e_iconst (w := 1) n87_6 rfl ?_
    refine am_e_goto c87_7 t87_7 ?_
    refine am_e_iret c87_9 rfl rfl rfl ?_
    refine am_e_ifF n128_12 (am_c_eqF (by decide)) ?_
    refine am_e_iload_n n128_13 rfl ?_
    refine am_e_iconst (w := 4) n128_14 rfl ?_
    refine am_e_cmpT n128_15 (am_c_neT (by decide)) t128_15 ?_
    refine am_e_iload_n n128_23 rfl ?_
    refine am_e_ifT n128_24 (am_c_neT hb1) t128_24 ?_
    refine am_e_iconst (w := (-1)) n128_33 rfl ?_
    refine am_e_iret c128_34 rfl rfl rfl ?_
    refine am_e_cmpT n136_800 (am_c_eqT (by decide)) t136_800 ?_
    exact K _
theorem am_op28_3_m {lk : List Value → List am_k → am_H → Option am_O} {xs : Nat → Int32} {h : am_H} {Q : Option Value → List am_k → am_H → Prop} {a2 : Int32} {a3 : Int32} {a4 : Int32} {a5 : Int32} (ha : a3 < (0 : Int32)) (hT : am_T h) (hx1 : xs 1 = 3) (hx2 : xs 2 = a2) (hx3 : xs 3 = a3) (hx4 : xs 4 = a4) (hx5 : xs 5 = a5) (K : ∀ h', am_Ek false (am_P1 (some (6, xs)) lk) am_m136 841 [(4, .int 0), (3, .ref 202), (2, .ref 164), (1, .ref 0), (0, .retAddr 0)] [] am_ks0 h' 203 4392 Q) : am_Ek false (am_P1 (some (6, xs)) lk) am_m136 766 [(4, .int 0), (3, .ref 202), (2, .ref 164), (1, .ref 0), (0, .retAddr 0)] [] am_ks0 h 203 4392 Q := by
  refine am_e_aload_n n136_766 rfl ?_
  refine am_e_sload_n n136_767 rfl ?_
  refine am_e_iload n136_768 rfl ?_
  refine am_e_iconst (w := 1) n136_769 rfl ?_
  refine am_e_iadd (w := 1) n136_770 (by decide) ?_
  refine am_e_sald1 n136_771 rfl (by decide) (by decide) hx1 ?_
  refine am_e_sload_n n136_772 rfl ?_
  refine am_e_iload n136_773 rfl ?_
  refine am_e_iconst (w := 2) n136_774 rfl ?_
  refine am_e_iadd (w := 2) n136_775 (by decide) ?_
  refine am_e_sald1 n136_776 rfl (by decide) (by decide) hx2 ?_
  refine am_e_sload_n n136_777 rfl ?_
  refine am_e_iload n136_778 rfl ?_
  refine am_e_iconst (w := 3) n136_779 rfl ?_
  refine am_e_iadd (w := 3) n136_780 (by decide) ?_
  refine am_e_sald1 n136_781 rfl (by decide) (by decide) hx3 ?_
  refine am_e_callV (L := [(0, .ref 0), (1, .int 3), (2, .int a2), (3, .int a3)]) n136_782 rfl rfl rfl rfl rfl rfl rfl rfl ?_
  refine am_e_iload_n n71_0 rfl ?_
  refine am_e_iconst (w := 0) n71_1 rfl ?_
  refine am_e_iconst (w := 4) n71_2 rfl ?_
  refine am_e_callS (L := [(0, .int 3), (1, .int 0), (2, .int 4)]) n71_3 rfl rfl rfl rfl rfl rfl rfl ?_
  refine am_e_iload_n n30_0 rfl ?_
  refine am_e_iload_n n30_1 rfl ?_
  refine am_e_cmpF n30_2 (am_c_ltF (by decide)) ?_
  refine am_e_iload_n n30_3 rfl ?_
  refine am_e_iload_n n30_4 rfl ?_
  refine am_e_cmpF n30_5 (am_c_gtF (by decide)) ?_
  refine am_e_iconst (w := 1) n30_6 rfl ?_
  refine am_e_goto c30_7 t30_7 ?_
  refine am_e_iret c30_9 rfl rfl rfl ?_
  refine am_e_ifF n71_4 (am_c_eqF (by decide)) ?_
  refine am_e_iload_n n71_5 rfl ?_
  refine am_e_iconst (w := 0) n71_6 rfl ?_
  refine am_e_sipush (w := 3600) n71_7 (by decide) ?_
  refine am_e_callS (L := [(0, .int a3), (1, .int 0), (2, .int 3600)]) n71_8 rfl rfl rfl rfl rfl rfl rfl ?_
  refine am_e_iload_n n30_0 rfl ?_
  refine am_e_iload_n n30_1 rfl ?_
  refine am_e_cmpT n30_2 (am_c_ltT ha) t30_2 ?_
  refine am_e_iconst (w := 0) n30_8 rfl ?_
  refine am_e_iret c30_9 rfl rfl rfl ?_
  refine am_e_ifF n71_9 (am_c_neF (by decide)) ?_
  refine am_e_iconst (w := (-1)) n71_10 rfl ?_
  refine am_e_iret c71_11 rfl rfl rfl ?_
  refine am_e_aload_n n136_783 rfl ?_
  refine am_e_sload_n n136_784 rfl ?_
  refine am_e_iload n136_785 rfl ?_
  refine am_e_iconst (w := 1) n136_786 rfl ?_
  refine am_e_iadd (w := 1) n136_787 (by decide) ?_
  refine am_e_sald1 n136_788 rfl (by decide) (by decide) hx1 ?_
  refine am_e_sload_n n136_789 rfl ?_
  refine am_e_iload n136_790 rfl ?_
  refine am_e_iconst (w := 2) n136_791 rfl ?_
  refine am_e_iadd (w := 2) n136_792 (by decide) ?_
  refine am_e_sald1 n136_793 rfl (by decide) (by decide) hx2 ?_
  refine am_e_sload_n n136_794 rfl ?_
  refine am_e_iload n136_795 rfl ?_
  refine am_e_iconst (w := 3) n136_796 rfl ?_
  refine am_e_iadd (w := 3) n136_797 (by decide) ?_
  refine am_e_sald1 n136_798 rfl (by decide) (by decide) hx3 ?_
  refine am_e_callV (L := [(0, .ref 164), (1, .int 3), (2, .int a2), (3, .int a3)]) n136_799 rfl rfl rfl rfl rfl rfl rfl rfl ?_
  refine am_e_aload_n n128_0 rfl ?_
  refine am_e_iconst (w := 0) n128_1 rfl ?_
  refine am_e_putf n128_2 rfl rfl ?_
  refine am_e_iload_n n128_3 rfl ?_
  refine am_e_iconst (w := 0) n128_4 rfl ?_
  refine am_e_iconst (w := 4) n128_5 rfl ?_
  refine am_e_callS (L := [(0, .int 3), (1, .int 0), (2, .int 4)]) n128_6 rfl rfl rfl rfl rfl rfl rfl ?_
  refine am_e_iload_n n87_0 rfl ?_
  refine am_e_iload_n n87_1 rfl ?_
  refine am_e_cmpF n87_2 (am_c_ltF (by decide)) ?_
  refine am_e_iload_n n87_3 rfl ?_
  refine am_e_iload_n n87_4 rfl ?_
  refine am_e_cmpF n87_5 (am_c_gtF (by decide)) ?_
  refine am_e_iconst (w := 1) n87_6 rfl ?_
  refine am_e_goto c87_7 t87_7 ?_
  refine am_e_iret c87_9 rfl rfl rfl ?_
  refine am_e_ifF n128_7 (am_c_eqF (by decide)) ?_
  refine am_e_iload_n n128_8 rfl ?_
  refine am_e_iconst (w := 0) n128_9 rfl ?_
  refine am_e_sipush (w := 3600) n128_10 (by decide) ?_
  refine am_e_callS (L := [(0, .int a3), (1, .int 0), (2, .int 3600)]) n128_11 rfl rfl rfl rfl rfl rfl rfl ?_
  refine am_e_iload_n n87_0 rfl ?_
  refine am_e_iload_n n87_1 rfl ?_
  refine am_e_cmpT n87_2 (am_c_ltT ha) t87_2 ?_
  refine am_e_iconst (w := 0) n87_8 rfl ?_
  refine am_e_iret c87_9 rfl rfl rfl ?_
  refine am_e_ifT n128_12 (am_c_eqT (by decide)) t128_12 ?_
  refine am_e_iconst (w := (-1)) n128_33 rfl ?_
  refine am_e_iret c128_34 rfl rfl rfl ?_
  refine am_e_cmpT n136_800 (am_c_eqT (by decide)) t136_800 ?_
  exact K _
theorem am_op28_3_p {lk : List Value → List am_k → am_H → Option am_O} {xs : Nat → Int32} {h : am_H} {Q : Option Value → List am_k → am_H → Prop} {a2 : Int32} {a3 : Int32} {a4 : Int32} {a5 : Int32} (hb : ¬ a3 < (0 : Int32)) (ha : (3600 : Int32) < a3) (hT : am_T h) (hx1 : xs 1 = 3) (hx2 : xs 2 = a2) (hx3 : xs 3 = a3) (hx4 : xs 4 = a4) (hx5 : xs 5 = a5) (K : ∀ h', am_Ek false (am_P1 (some (6, xs)) lk) am_m136 841 [(4, .int 0), (3, .ref 202), (2, .ref 164), (1, .ref 0), (0, .retAddr 0)] [] am_ks0 h' 203 4392 Q) : am_Ek false (am_P1 (some (6, xs)) lk) am_m136 766 [(4, .int 0), (3, .ref 202), (2, .ref 164), (1, .ref 0), (0, .retAddr 0)] [] am_ks0 h 203 4392 Q := by
  refine am_e_aload_n n136_766 rfl ?_
  refine am_e_sload_n n136_767 rfl ?_
  refine am_e_iload n136_768 rfl ?_
  refine am_e_iconst (w := 1) n136_769 rfl ?_
  refine am_e_iadd (w := 1) n136_770 (by decide) ?_
  refine am_e_sald1 n136_771 rfl (by decide) (by decide) hx1 ?_
  refine am_e_sload_n n136_772 rfl ?_
  refine am_e_iload n136_773 rfl ?_
  refine am_e_iconst (w := 2) n136_774 rfl ?_
  refine am_e_iadd (w := 2) n136_775 (by decide) ?_
  refine am_e_sald1 n136_776 rfl (by decide) (by decide) hx2 ?_
  refine am_e_sload_n n136_777 rfl ?_
  refine am_e_iload n136_778 rfl ?_
  refine am_e_iconst (w := 3) n136_779 rfl ?_
  refine am_e_iadd (w := 3) n136_780 (by decide) ?_
  refine am_e_sald1 n136_781 rfl (by decide) (by decide) hx3 ?_
  refine am_e_callV (L := [(0, .ref 0), (1, .int 3), (2, .int a2), (3, .int a3)]) n136_782 rfl rfl rfl rfl rfl rfl rfl rfl ?_
  refine am_e_iload_n n71_0 rfl ?_
  refine am_e_iconst (w := 0) n71_1 rfl ?_
  refine am_e_iconst (w := 4) n71_2 rfl ?_
  refine am_e_callS (L := [(0, .int 3), (1, .int 0), (2, .int 4)]) n71_3 rfl rfl rfl rfl rfl rfl rfl ?_
  refine am_e_iload_n n30_0 rfl ?_
  refine am_e_iload_n n30_1 rfl ?_
  refine am_e_cmpF n30_2 (am_c_ltF (by decide)) ?_
  refine am_e_iload_n n30_3 rfl ?_
  refine am_e_iload_n n30_4 rfl ?_
  refine am_e_cmpF n30_5 (am_c_gtF (by decide)) ?_
  refine am_e_iconst (w := 1) n30_6 rfl ?_
  refine am_e_goto c30_7 t30_7 ?_
  refine am_e_iret c30_9 rfl rfl rfl ?_
  refine am_e_ifF n71_4 (am_c_eqF (by decide)) ?_
  refine am_e_iload_n n71_5 rfl ?_
  refine am_e_iconst (w := 0) n71_6 rfl ?_
  refine am_e_sipush (w := 3600) n71_7 (by decide) ?_
  refine am_e_callS (L := [(0, .int a3), (1, .int 0), (2, .int 3600)]) n71_8 rfl rfl rfl rfl rfl rfl rfl ?_
  refine am_e_iload_n n30_0 rfl ?_
  refine am_e_iload_n n30_1 rfl ?_
  refine am_e_cmpF n30_2 (am_c_ltF hb) ?_
  refine am_e_iload_n n30_3 rfl ?_
  refine am_e_iload_n n30_4 rfl ?_
  refine am_e_cmpT n30_5 (am_c_gtT ha) t30_5 ?_
  refine am_e_iconst (w := 0) n30_8 rfl ?_
  refine am_e_iret c30_9 rfl rfl rfl ?_
  refine am_e_ifF n71_9 (am_c_neF (by decide)) ?_
  refine am_e_iconst (w := (-1)) n71_10 rfl ?_
  refine am_e_iret c71_11 rfl rfl rfl ?_
  refine am_e_aload_n n136_783 rfl ?_
  refine am_e_sload_n n136_784 rfl ?_
  refine am_e_iload n136_785 rfl ?_
  refine am_e_iconst (w := 1) n136_786 rfl ?_
  refine am_e_iadd (w := 1) n136_787 (by decide) ?_
  refine am_e_sald1 n136_788 rfl (by decide) (by decide) hx1 ?_
  refine am_e_sload_n n136_789 rfl ?_
  refine am_e_iload n136_790 rfl ?_
  refine am_e_iconst (w := 2) n136_791 rfl ?_
  refine am_e_iadd (w := 2) n136_792 (by decide) ?_
  refine am_e_sald1 n136_793 rfl (by decide) (by decide) hx2 ?_
  refine am_e_sload_n n136_794 rfl ?_
  refine am_e_iload n136_795 rfl ?_
  refine am_e_iconst (w := 3) n136_796 rfl ?_
  refine am_e_iadd (w := 3) n136_797 (by decide) ?_
  refine am_e_sald1 n136_798 rfl (by decide) (by decide) hx3 ?_
  refine am_e_callV (L := [(0, .ref 164), (1, .int 3), (2, .int a2), (3, .int a3)]) n136_799 rfl rfl rfl rfl rfl rfl rfl rfl ?_
  refine am_e_aload_n n128_0 rfl ?_
  refine am_e_iconst (w := 0) n128_1 rfl ?_
  refine am_e_putf n128_2 rfl rfl ?_
  refine am_e_iload_n n128_3 rfl ?_
  refine am_e_iconst (w := 0) n128_4 rfl ?_
  refine am_e_iconst (w := 4) n128_5 rfl ?_
  refine am_e_callS (L := [(0, .int 3), (1, .int 0), (2, .int 4)]) n128_6 rfl rfl rfl rfl rfl rfl rfl ?_
  refine am_e_iload_n n87_0 rfl ?_
  refine am_e_iload_n n87_1 rfl ?_
  refine am_e_cmpF n87_2 (am_c_ltF (by decide)) ?_
  refine am_e_iload_n n87_3 rfl ?_
  refine am_e_iload_n n87_4 rfl ?_
  refine am_e_cmpF n87_5 (am_c_gtF (by decide)) ?_
  refine am_e_iconst (w := 1) n87_6 rfl ?_
  refine am_e_goto c87_7 t87_7 ?_
  refine am_e_iret c87_9 rfl rfl rfl ?_
  refine am_e_ifF n128_7 (am_c_eqF (by decide)) ?_
  refine am_e_iload_n n128_8 rfl ?_
  refine am_e_iconst (w := 0) n128_9 rfl ?_
  refine am_e_sipush (w := 3600) n128_10 (by decide) ?_
  refine am_e_callS (L := [(0, .int a3), (1, .int 0), (2, .int 3600)]) n128_11 rfl rfl rfl rfl rfl rfl rfl ?_
  refine am_e_iload_n n87_0 rfl ?_
  refine am_e_iload_n n87_1 rfl ?_
  refine am_e_cmpF n87_2 (am_c_ltF hb) ?_
  refine am_e_iload_n n87_3 rfl ?_
  refine am_e_iload_n n87_4 rfl ?_
  refine am_e_cmpT n87_5 (am_c_gtT ha) t87_5 ?_
  refine am_e_iconst (w := 0) n87_8 rfl ?_
  refine am_e_iret c87_9 rfl rfl rfl ?_
  refine am_e_ifT n128_12 (am_c_eqT (by decide)) t128_12 ?_
  refine am_e_iconst (w := (-1)) n128_33 rfl ?_
  refine am_e_iret c128_34 rfl rfl rfl ?_
  refine am_e_cmpT n136_800 (am_c_eqT (by decide)) t136_800 ?_
  exact K _
theorem am_op28_3_n {lk : List Value → List am_k → am_H → Option am_O} {xs : Nat → Int32} {h : am_H} {Q : Option Value → List am_k → am_H → Prop} {a2 : Int32} {a4 : Int32} {a5 : Int32} {n : Nat} (hn9 : n ≤ 3600) (hT : am_T h) (hx1 : xs 1 = 3) (hx2 : xs 2 = a2) (hx3 : xs 3 = (nI n)) (hx4 : xs 4 = a4) (hx5 : xs 5 = a5) (K : ∀ h', am_Ek false (am_P1 (some (6, xs)) lk) am_m136 841 [(4, .int 0), (3, .ref 202), (2, .ref 164), (1, .ref 0), (0, .retAddr 0)] [] am_ks0 h' 203 4392 Q) : am_Ek false (am_P1 (some (6, xs)) lk) am_m136 766 [(4, .int 0), (3, .ref 202), (2, .ref 164), (1, .ref 0), (0, .retAddr 0)] [] am_ks0 h 203 4392 Q := by
  refine am_e_aload_n n136_766 rfl ?_
  refine am_e_sload_n n136_767 rfl ?_
  refine am_e_iload n136_768 rfl ?_
  refine am_e_iconst (w := 1) n136_769 rfl ?_
  refine am_e_iadd (w := 1) n136_770 (by decide) ?_
  refine am_e_sald1 n136_771 rfl (by decide) (by decide) hx1 ?_
  refine am_e_sload_n n136_772 rfl ?_
  refine am_e_iload n136_773 rfl ?_
  refine am_e_iconst (w := 2) n136_774 rfl ?_
  refine am_e_iadd (w := 2) n136_775 (by decide) ?_
  refine am_e_sald1 n136_776 rfl (by decide) (by decide) hx2 ?_
  refine am_e_sload_n n136_777 rfl ?_
  refine am_e_iload n136_778 rfl ?_
  refine am_e_iconst (w := 3) n136_779 rfl ?_
  refine am_e_iadd (w := 3) n136_780 (by decide) ?_
  refine am_e_sald1 n136_781 rfl (by decide) (by decide) hx3 ?_
  refine am_e_callV (L := [(0, .ref 0), (1, .int 3), (2, .int a2), (3, .int (nI n))]) n136_782 rfl rfl rfl rfl rfl rfl rfl rfl ?_
  refine am_e_iload_n n71_0 rfl ?_
  refine am_e_iconst (w := 0) n71_1 rfl ?_
  refine am_e_iconst (w := 4) n71_2 rfl ?_
  refine am_e_callS (L := [(0, .int 3), (1, .int 0), (2, .int 4)]) n71_3 rfl rfl rfl rfl rfl rfl rfl ?_
  refine am_e_iload_n n30_0 rfl ?_
  refine am_e_iload_n n30_1 rfl ?_
  refine am_e_cmpF n30_2 (am_c_ltF (by decide)) ?_
  refine am_e_iload_n n30_3 rfl ?_
  refine am_e_iload_n n30_4 rfl ?_
  refine am_e_cmpF n30_5 (am_c_gtF (by decide)) ?_
  refine am_e_iconst (w := 1) n30_6 rfl ?_
  refine am_e_goto c30_7 t30_7 ?_
  refine am_e_iret c30_9 rfl rfl rfl ?_
  refine am_e_ifF n71_4 (am_c_eqF (by decide)) ?_
  refine am_e_iload_n n71_5 rfl ?_
  refine am_e_iconst (w := 0) n71_6 rfl ?_
  refine am_e_sipush (w := 3600) n71_7 (by decide) ?_
  refine am_e_callS (L := [(0, .int (nI n)), (1, .int 0), (2, .int 3600)]) n71_8 rfl rfl rfl rfl rfl rfl rfl ?_
  refine am_e_iload_n n30_0 rfl ?_
  refine am_e_iload_n n30_1 rfl ?_
  refine am_e_cmpF n30_2 (am_c_ltF (nI_pos (by omega))) ?_
  refine am_e_iload_n n30_3 rfl ?_
  refine am_e_iload_n n30_4 rfl ?_
  refine am_e_cmpF n30_5 (am_c_gtF (nI_nlt (a := 3600) (b := n) hn9 (by decide))) ?_
  refine am_e_iconst (w := 1) n30_6 rfl ?_
  refine am_e_goto c30_7 t30_7 ?_
  refine am_e_iret c30_9 rfl rfl rfl ?_
  refine am_e_ifT n71_9 (am_c_neT (by decide)) t71_9 ?_
  refine am_e_iload_n n71_12 rfl ?_
  refine am_e_iconst (w := 4) n71_13 rfl ?_
  refine am_e_cmpT n71_14 (am_c_neT (by decide)) t71_14 ?_
  refine am_e_iload_n n71_26 rfl ?_
  by_cases hb1 : (a2 : Int32) = 0
  · subst hb1
    refine am_e_ifF n71_27 (am_c_neF rfl) ?_
    refine am_e_iconst (w := 1) n71_28 rfl ?_
    refine am_e_goto c71_29 t71_29 ?_
    refine am_e_istore (ls' := [(4, .int 1), (0, .ref 0), (1, .int 3), (2, .int 0), (3, .int (nI n))]) n71_31 rfl rfl ?_
    refine am_e_iload n71_32 rfl ?_
    refine am_e_ifF n71_33 (am_c_eqF (by decide)) ?_
    refine am_e_iload_n n71_34 rfl ?_
    refine am_e_iconst (w := 3) n71_35 rfl ?_
    refine am_e_cmpF n71_36 (am_c_neF (by decide)) ?_
    refine am_e_aload_n n71_37 rfl ?_
    refine am_e_getf (v := .ref 2) n71_38 rfl (f0_2 (h := h) hT) ?_
    refine am_e_getf (v := .int 0) n71_39 rfl (f2_8 (h := h) hT) ?_
    refine am_e_ifF n71_40 (am_c_neF (by decide)) ?_
    refine am_e_iconst (w := (-1)) n71_41 rfl ?_
    refine am_e_iret c71_42 rfl rfl rfl ?_
    refine am_e_aload_n n136_783 rfl ?_
    refine am_e_sload_n n136_784 rfl ?_
    refine am_e_iload n136_785 rfl ?_
    refine am_e_iconst (w := 1) n136_786 rfl ?_
    refine am_e_iadd (w := 1) n136_787 (by decide) ?_
    refine am_e_sald1 n136_788 rfl (by decide) (by decide) hx1 ?_
    refine am_e_sload_n n136_789 rfl ?_
    refine am_e_iload n136_790 rfl ?_
    refine am_e_iconst (w := 2) n136_791 rfl ?_
    refine am_e_iadd (w := 2) n136_792 (by decide) ?_
    refine am_e_sald1 n136_793 rfl (by decide) (by decide) hx2 ?_
    refine am_e_sload_n n136_794 rfl ?_
    refine am_e_iload n136_795 rfl ?_
    refine am_e_iconst (w := 3) n136_796 rfl ?_
    refine am_e_iadd (w := 3) n136_797 (by decide) ?_
    refine am_e_sald1 n136_798 rfl (by decide) (by decide) hx3 ?_
    refine am_e_callV (L := [(0, .ref 164), (1, .int 3), (2, .int 0), (3, .int (nI n))]) n136_799 rfl rfl rfl rfl rfl rfl rfl rfl ?_
    refine am_e_aload_n n128_0 rfl ?_
    refine am_e_iconst (w := 0) n128_1 rfl ?_
    refine am_e_putf n128_2 rfl rfl ?_
    refine am_e_iload_n n128_3 rfl ?_
    refine am_e_iconst (w := 0) n128_4 rfl ?_
    refine am_e_iconst (w := 4) n128_5 rfl ?_
    refine am_e_callS (L := [(0, .int 3), (1, .int 0), (2, .int 4)]) n128_6 rfl rfl rfl rfl rfl rfl rfl ?_
    refine am_e_iload_n n87_0 rfl ?_
    refine am_e_iload_n n87_1 rfl ?_
    refine am_e_cmpF n87_2 (am_c_ltF (by decide)) ?_
    refine am_e_iload_n n87_3 rfl ?_
    refine am_e_iload_n n87_4 rfl ?_
    refine am_e_cmpF n87_5 (am_c_gtF (by decide)) ?_
    refine am_e_iconst (w := 1) n87_6 rfl ?_
    refine am_e_goto c87_7 t87_7 ?_
    refine am_e_iret c87_9 rfl rfl rfl ?_
    refine am_e_ifF n128_7 (am_c_eqF (by decide)) ?_
    refine am_e_iload_n n128_8 rfl ?_
    refine am_e_iconst (w := 0) n128_9 rfl ?_
    refine am_e_sipush (w := 3600) n128_10 (by decide) ?_
    refine am_e_callS (L := [(0, .int (nI n)), (1, .int 0), (2, .int 3600)]) n128_11 rfl rfl rfl rfl rfl rfl rfl ?_
    refine am_e_iload_n n87_0 rfl ?_
    refine am_e_iload_n n87_1 rfl ?_
    refine am_e_cmpF n87_2 (am_c_ltF (nI_pos (by omega))) ?_
    refine am_e_iload_n n87_3 rfl ?_
    refine am_e_iload_n n87_4 rfl ?_
    refine am_e_cmpF n87_5 (am_c_gtF (nI_nlt (a := 3600) (b := n) hn9 (by decide))) ?_
    refine am_e_iconst (w := 1) n87_6 rfl ?_
    refine am_e_goto c87_7 t87_7 ?_
    refine am_e_iret c87_9 rfl rfl rfl ?_
    refine am_e_ifF n128_12 (am_c_eqF (by decide)) ?_
    refine am_e_iload_n n128_13 rfl ?_
    refine am_e_iconst (w := 4) n128_14 rfl ?_
    refine am_e_cmpT n128_15 (am_c_neT (by decide)) t128_15 ?_
    refine am_e_iload_n n128_23 rfl ?_
    refine am_e_ifF n128_24 (am_c_neF (by decide)) ?_
    refine am_e_iload_n n128_25 rfl ?_
    refine am_e_iconst (w := 3) n128_26 rfl ?_
    refine am_e_cmpF n128_27 (am_c_neF (by decide)) ?_
    refine am_e_aload_n n128_28 rfl ?_
    refine am_e_getf (v := .ref 168) n128_29 rfl (f164_23 (h := h) hT) ?_
    refine am_e_iconst (w := 2) n128_30 rfl ?_
    refine am_e_iaload (v := 0) (q := 2) n128_31 rfl (by decide) (by decide) (f168_2 (h := h) hT) ?_
    refine am_e_ifF n128_32 (am_c_neF (by decide)) ?_
    refine am_e_iconst (w := (-1)) n128_33 rfl ?_
    refine am_e_iret c128_34 rfl rfl rfl ?_
    refine am_e_cmpT n136_800 (am_c_eqT (by decide)) t136_800 ?_
    exact K _
  · refine am_e_ifT n71_27 (am_c_neT hb1) t71_27 ?_
    refine am_e_iconst (w := 0) n71_30 rfl ?_
    refine am_e_istore (ls' := [(4, .int 0), (0, .ref 0), (1, .int 3), (2, .int a2), (3, .int (nI n))]) n71_31 rfl rfl ?_
    refine am_e_iload n71_32 rfl ?_
    refine am_e_ifT n71_33 (am_c_eqT (by decide)) t71_33 ?_
    refine am_e_iconst (w := (-1)) n71_41 rfl ?_
    refine am_e_iret c71_42 rfl rfl rfl ?_
    refine am_e_aload_n n136_783 rfl ?_
    refine am_e_sload_n n136_784 rfl ?_
    refine am_e_iload n136_785 rfl ?_
    refine am_e_iconst (w := 1) n136_786 rfl ?_
    refine am_e_iadd (w := 1) n136_787 (by decide) ?_
    refine am_e_sald1 n136_788 rfl (by decide) (by decide) hx1 ?_
    refine am_e_sload_n n136_789 rfl ?_
    refine am_e_iload n136_790 rfl ?_
    refine am_e_iconst (w := 2) n136_791 rfl ?_
    refine am_e_iadd (w := 2) n136_792 (by decide) ?_
    refine am_e_sald1 n136_793 rfl (by decide) (by decide) hx2 ?_
    refine am_e_sload_n n136_794 rfl ?_
    refine am_e_iload n136_795 rfl ?_
    refine am_e_iconst (w := 3) n136_796 rfl ?_
    refine am_e_iadd (w := 3) n136_797 (by decide) ?_
    refine am_e_sald1 n136_798 rfl (by decide) (by decide) hx3 ?_
    refine am_e_callV (L := [(0, .ref 164), (1, .int 3), (2, .int a2), (3, .int (nI n))]) n136_799 rfl rfl rfl rfl rfl rfl rfl rfl ?_
    refine am_e_aload_n n128_0 rfl ?_
    refine am_e_iconst (w := 0) n128_1 rfl ?_
    refine am_e_putf n128_2 rfl rfl ?_
    refine am_e_iload_n n128_3 rfl ?_
    refine am_e_iconst (w := 0) n128_4 rfl ?_
    refine am_e_iconst (w := 4) n128_5 rfl ?_
    refine am_e_callS (L := [(0, .int 3), (1, .int 0), (2, .int 4)]) n128_6 rfl rfl rfl rfl rfl rfl rfl ?_
    refine am_e_iload_n n87_0 rfl ?_
    refine am_e_iload_n n87_1 rfl ?_
    refine am_e_cmpF n87_2 (am_c_ltF (by decide)) ?_
    refine am_e_iload_n n87_3 rfl ?_
    refine am_e_iload_n n87_4 rfl ?_
    refine am_e_cmpF n87_5 (am_c_gtF (by decide)) ?_
    refine am_e_iconst (w := 1) n87_6 rfl ?_
    refine am_e_goto c87_7 t87_7 ?_
    refine am_e_iret c87_9 rfl rfl rfl ?_
    refine am_e_ifF n128_7 (am_c_eqF (by decide)) ?_
    refine am_e_iload_n n128_8 rfl ?_
    refine am_e_iconst (w := 0) n128_9 rfl ?_
    refine am_e_sipush (w := 3600) n128_10 (by decide) ?_
    refine am_e_callS (L := [(0, .int (nI n)), (1, .int 0), (2, .int 3600)]) n128_11 rfl rfl rfl rfl rfl rfl rfl ?_
    refine am_e_iload_n n87_0 rfl ?_
    refine am_e_iload_n n87_1 rfl ?_
    refine am_e_cmpF n87_2 (am_c_ltF (nI_pos (by omega))) ?_
    refine am_e_iload_n n87_3 rfl ?_
    refine am_e_iload_n n87_4 rfl ?_
    refine am_e_cmpF n87_5 (am_c_gtF (nI_nlt (a := 3600) (b := n) hn9 (by decide))) ?_
    refine am_e_iconst (w := 1) n87_6 rfl ?_
    refine am_e_goto c87_7 t87_7 ?_
    refine am_e_iret c87_9 rfl rfl rfl ?_
    refine am_e_ifF n128_12 (am_c_eqF (by decide)) ?_
    refine am_e_iload_n n128_13 rfl ?_
    refine am_e_iconst (w := 4) n128_14 rfl ?_
    refine am_e_cmpT n128_15 (am_c_neT (by decide)) t128_15 ?_
    refine am_e_iload_n n128_23 rfl ?_
    refine am_e_ifT n128_24 (am_c_neT hb1) t128_24 ?_
    refine am_e_iconst (w := (-1)) n128_33 rfl ?_
    refine am_e_iret c128_34 rfl rfl rfl ?_
    refine am_e_cmpT n136_800 (am_c_eqT (by decide)) t136_800 ?_
    exact K _
theorem am_op28_4_m {lk : List Value → List am_k → am_H → Option am_O} {xs : Nat → Int32} {h : am_H} {Q : Option Value → List am_k → am_H → Prop} {a2 : Int32} {a3 : Int32} {a4 : Int32} {a5 : Int32} (ha : a3 < (0 : Int32)) (hT : am_T h) (hx1 : xs 1 = 4) (hx2 : xs 2 = a2) (hx3 : xs 3 = a3) (hx4 : xs 4 = a4) (hx5 : xs 5 = a5) (K : ∀ h', am_Ek false (am_P1 (some (6, xs)) lk) am_m136 841 [(4, .int 0), (3, .ref 202), (2, .ref 164), (1, .ref 0), (0, .retAddr 0)] [] am_ks0 h' 203 4392 Q) : am_Ek false (am_P1 (some (6, xs)) lk) am_m136 766 [(4, .int 0), (3, .ref 202), (2, .ref 164), (1, .ref 0), (0, .retAddr 0)] [] am_ks0 h 203 4392 Q := by
  refine am_e_aload_n n136_766 rfl ?_
  refine am_e_sload_n n136_767 rfl ?_
  refine am_e_iload n136_768 rfl ?_
  refine am_e_iconst (w := 1) n136_769 rfl ?_
  refine am_e_iadd (w := 1) n136_770 (by decide) ?_
  refine am_e_sald1 n136_771 rfl (by decide) (by decide) hx1 ?_
  refine am_e_sload_n n136_772 rfl ?_
  refine am_e_iload n136_773 rfl ?_
  refine am_e_iconst (w := 2) n136_774 rfl ?_
  refine am_e_iadd (w := 2) n136_775 (by decide) ?_
  refine am_e_sald1 n136_776 rfl (by decide) (by decide) hx2 ?_
  refine am_e_sload_n n136_777 rfl ?_
  refine am_e_iload n136_778 rfl ?_
  refine am_e_iconst (w := 3) n136_779 rfl ?_
  refine am_e_iadd (w := 3) n136_780 (by decide) ?_
  refine am_e_sald1 n136_781 rfl (by decide) (by decide) hx3 ?_
  refine am_e_callV (L := [(0, .ref 0), (1, .int 4), (2, .int a2), (3, .int a3)]) n136_782 rfl rfl rfl rfl rfl rfl rfl rfl ?_
  refine am_e_iload_n n71_0 rfl ?_
  refine am_e_iconst (w := 0) n71_1 rfl ?_
  refine am_e_iconst (w := 4) n71_2 rfl ?_
  refine am_e_callS (L := [(0, .int 4), (1, .int 0), (2, .int 4)]) n71_3 rfl rfl rfl rfl rfl rfl rfl ?_
  refine am_e_iload_n n30_0 rfl ?_
  refine am_e_iload_n n30_1 rfl ?_
  refine am_e_cmpF n30_2 (am_c_ltF (by decide)) ?_
  refine am_e_iload_n n30_3 rfl ?_
  refine am_e_iload_n n30_4 rfl ?_
  refine am_e_cmpF n30_5 (am_c_gtF (by decide)) ?_
  refine am_e_iconst (w := 1) n30_6 rfl ?_
  refine am_e_goto c30_7 t30_7 ?_
  refine am_e_iret c30_9 rfl rfl rfl ?_
  refine am_e_ifF n71_4 (am_c_eqF (by decide)) ?_
  refine am_e_iload_n n71_5 rfl ?_
  refine am_e_iconst (w := 0) n71_6 rfl ?_
  refine am_e_sipush (w := 3600) n71_7 (by decide) ?_
  refine am_e_callS (L := [(0, .int a3), (1, .int 0), (2, .int 3600)]) n71_8 rfl rfl rfl rfl rfl rfl rfl ?_
  refine am_e_iload_n n30_0 rfl ?_
  refine am_e_iload_n n30_1 rfl ?_
  refine am_e_cmpT n30_2 (am_c_ltT ha) t30_2 ?_
  refine am_e_iconst (w := 0) n30_8 rfl ?_
  refine am_e_iret c30_9 rfl rfl rfl ?_
  refine am_e_ifF n71_9 (am_c_neF (by decide)) ?_
  refine am_e_iconst (w := (-1)) n71_10 rfl ?_
  refine am_e_iret c71_11 rfl rfl rfl ?_
  refine am_e_aload_n n136_783 rfl ?_
  refine am_e_sload_n n136_784 rfl ?_
  refine am_e_iload n136_785 rfl ?_
  refine am_e_iconst (w := 1) n136_786 rfl ?_
  refine am_e_iadd (w := 1) n136_787 (by decide) ?_
  refine am_e_sald1 n136_788 rfl (by decide) (by decide) hx1 ?_
  refine am_e_sload_n n136_789 rfl ?_
  refine am_e_iload n136_790 rfl ?_
  refine am_e_iconst (w := 2) n136_791 rfl ?_
  refine am_e_iadd (w := 2) n136_792 (by decide) ?_
  refine am_e_sald1 n136_793 rfl (by decide) (by decide) hx2 ?_
  refine am_e_sload_n n136_794 rfl ?_
  refine am_e_iload n136_795 rfl ?_
  refine am_e_iconst (w := 3) n136_796 rfl ?_
  refine am_e_iadd (w := 3) n136_797 (by decide) ?_
  refine am_e_sald1 n136_798 rfl (by decide) (by decide) hx3 ?_
  refine am_e_callV (L := [(0, .ref 164), (1, .int 4), (2, .int a2), (3, .int a3)]) n136_799 rfl rfl rfl rfl rfl rfl rfl rfl ?_
  refine am_e_aload_n n128_0 rfl ?_
  refine am_e_iconst (w := 0) n128_1 rfl ?_
  refine am_e_putf n128_2 rfl rfl ?_
  refine am_e_iload_n n128_3 rfl ?_
  refine am_e_iconst (w := 0) n128_4 rfl ?_
  refine am_e_iconst (w := 4) n128_5 rfl ?_
  refine am_e_callS (L := [(0, .int 4), (1, .int 0), (2, .int 4)]) n128_6 rfl rfl rfl rfl rfl rfl rfl ?_
  refine am_e_iload_n n87_0 rfl ?_
  refine am_e_iload_n n87_1 rfl ?_
  refine am_e_cmpF n87_2 (am_c_ltF (by decide)) ?_
  refine am_e_iload_n n87_3 rfl ?_
  refine am_e_iload_n n87_4 rfl ?_
  refine am_e_cmpF n87_5 (am_c_gtF (by decide)) ?_
  refine am_e_iconst (w := 1) n87_6 rfl ?_
  refine am_e_goto c87_7 t87_7 ?_
  refine am_e_iret c87_9 rfl rfl rfl ?_
  refine am_e_ifF n128_7 (am_c_eqF (by decide)) ?_
  refine am_e_iload_n n128_8 rfl ?_
  refine am_e_iconst (w := 0) n128_9 rfl ?_
  refine am_e_sipush (w := 3600) n128_10 (by decide) ?_
  refine am_e_callS (L := [(0, .int a3), (1, .int 0), (2, .int 3600)]) n128_11 rfl rfl rfl rfl rfl rfl rfl ?_
  refine am_e_iload_n n87_0 rfl ?_
  refine am_e_iload_n n87_1 rfl ?_
  refine am_e_cmpT n87_2 (am_c_ltT ha) t87_2 ?_
  refine am_e_iconst (w := 0) n87_8 rfl ?_
  refine am_e_iret c87_9 rfl rfl rfl ?_
  refine am_e_ifT n128_12 (am_c_eqT (by decide)) t128_12 ?_
  refine am_e_iconst (w := (-1)) n128_33 rfl ?_
  refine am_e_iret c128_34 rfl rfl rfl ?_
  refine am_e_cmpT n136_800 (am_c_eqT (by decide)) t136_800 ?_
  exact K _
theorem am_op28_4_p {lk : List Value → List am_k → am_H → Option am_O} {xs : Nat → Int32} {h : am_H} {Q : Option Value → List am_k → am_H → Prop} {a2 : Int32} {a3 : Int32} {a4 : Int32} {a5 : Int32} (hb : ¬ a3 < (0 : Int32)) (ha : (3600 : Int32) < a3) (hT : am_T h) (hx1 : xs 1 = 4) (hx2 : xs 2 = a2) (hx3 : xs 3 = a3) (hx4 : xs 4 = a4) (hx5 : xs 5 = a5) (K : ∀ h', am_Ek false (am_P1 (some (6, xs)) lk) am_m136 841 [(4, .int 0), (3, .ref 202), (2, .ref 164), (1, .ref 0), (0, .retAddr 0)] [] am_ks0 h' 203 4392 Q) : am_Ek false (am_P1 (some (6, xs)) lk) am_m136 766 [(4, .int 0), (3, .ref 202), (2, .ref 164), (1, .ref 0), (0, .retAddr 0)] [] am_ks0 h 203 4392 Q := by
  refine am_e_aload_n n136_766 rfl ?_
  refine am_e_sload_n n136_767 rfl ?_
  refine am_e_iload n136_768 rfl ?_
  refine am_e_iconst (w := 1) n136_769 rfl ?_
  refine am_e_iadd (w := 1) n136_770 (by decide) ?_
  refine am_e_sald1 n136_771 rfl (by decide) (by decide) hx1 ?_
  refine am_e_sload_n n136_772 rfl ?_
  refine am_e_iload n136_773 rfl ?_
  refine am_e_iconst (w := 2) n136_774 rfl ?_
  refine am_e_iadd (w := 2) n136_775 (by decide) ?_
  refine am_e_sald1 n136_776 rfl (by decide) (by decide) hx2 ?_
  refine am_e_sload_n n136_777 rfl ?_
  refine am_e_iload n136_778 rfl ?_
  refine am_e_iconst (w := 3) n136_779 rfl ?_
  refine am_e_iadd (w := 3) n136_780 (by decide) ?_
  refine am_e_sald1 n136_781 rfl (by decide) (by decide) hx3 ?_
  refine am_e_callV (L := [(0, .ref 0), (1, .int 4), (2, .int a2), (3, .int a3)]) n136_782 rfl rfl rfl rfl rfl rfl rfl rfl ?_
  refine am_e_iload_n n71_0 rfl ?_
  refine am_e_iconst (w := 0) n71_1 rfl ?_
  refine am_e_iconst (w := 4) n71_2 rfl ?_
  refine am_e_callS (L := [(0, .int 4), (1, .int 0), (2, .int 4)]) n71_3 rfl rfl rfl rfl rfl rfl rfl ?_
  refine am_e_iload_n n30_0 rfl ?_
  refine am_e_iload_n n30_1 rfl ?_
  refine am_e_cmpF n30_2 (am_c_ltF (by decide)) ?_
  refine am_e_iload_n n30_3 rfl ?_
  refine am_e_iload_n n30_4 rfl ?_
  refine am_e_cmpF n30_5 (am_c_gtF (by decide)) ?_
  refine am_e_iconst (w := 1) n30_6 rfl ?_
  refine am_e_goto c30_7 t30_7 ?_
  refine am_e_iret c30_9 rfl rfl rfl ?_
  refine am_e_ifF n71_4 (am_c_eqF (by decide)) ?_
  refine am_e_iload_n n71_5 rfl ?_
  refine am_e_iconst (w := 0) n71_6 rfl ?_
  refine am_e_sipush (w := 3600) n71_7 (by decide) ?_
  refine am_e_callS (L := [(0, .int a3), (1, .int 0), (2, .int 3600)]) n71_8 rfl rfl rfl rfl rfl rfl rfl ?_
  refine am_e_iload_n n30_0 rfl ?_
  refine am_e_iload_n n30_1 rfl ?_
  refine am_e_cmpF n30_2 (am_c_ltF hb) ?_
  refine am_e_iload_n n30_3 rfl ?_
  refine am_e_iload_n n30_4 rfl ?_
  refine am_e_cmpT n30_5 (am_c_gtT ha) t30_5 ?_
  refine am_e_iconst (w := 0) n30_8 rfl ?_
  refine am_e_iret c30_9 rfl rfl rfl ?_
  refine am_e_ifF n71_9 (am_c_neF (by decide)) ?_
  refine am_e_iconst (w := (-1)) n71_10 rfl ?_
  refine am_e_iret c71_11 rfl rfl rfl ?_
  refine am_e_aload_n n136_783 rfl ?_
  refine am_e_sload_n n136_784 rfl ?_
  refine am_e_iload n136_785 rfl ?_
  refine am_e_iconst (w := 1) n136_786 rfl ?_
  refine am_e_iadd (w := 1) n136_787 (by decide) ?_
  refine am_e_sald1 n136_788 rfl (by decide) (by decide) hx1 ?_
  refine am_e_sload_n n136_789 rfl ?_
  refine am_e_iload n136_790 rfl ?_
  refine am_e_iconst (w := 2) n136_791 rfl ?_
  refine am_e_iadd (w := 2) n136_792 (by decide) ?_
  refine am_e_sald1 n136_793 rfl (by decide) (by decide) hx2 ?_
  refine am_e_sload_n n136_794 rfl ?_
  refine am_e_iload n136_795 rfl ?_
  refine am_e_iconst (w := 3) n136_796 rfl ?_
  refine am_e_iadd (w := 3) n136_797 (by decide) ?_
  refine am_e_sald1 n136_798 rfl (by decide) (by decide) hx3 ?_
  refine am_e_callV (L := [(0, .ref 164), (1, .int 4), (2, .int a2), (3, .int a3)]) n136_799 rfl rfl rfl rfl rfl rfl rfl rfl ?_
  refine am_e_aload_n n128_0 rfl ?_
  refine am_e_iconst (w := 0) n128_1 rfl ?_
  refine am_e_putf n128_2 rfl rfl ?_
  refine am_e_iload_n n128_3 rfl ?_
  refine am_e_iconst (w := 0) n128_4 rfl ?_
  refine am_e_iconst (w := 4) n128_5 rfl ?_
  refine am_e_callS (L := [(0, .int 4), (1, .int 0), (2, .int 4)]) n128_6 rfl rfl rfl rfl rfl rfl rfl ?_
  refine am_e_iload_n n87_0 rfl ?_
  refine am_e_iload_n n87_1 rfl ?_
  refine am_e_cmpF n87_2 (am_c_ltF (by decide)) ?_
  refine am_e_iload_n n87_3 rfl ?_
  refine am_e_iload_n n87_4 rfl ?_
  refine am_e_cmpF n87_5 (am_c_gtF (by decide)) ?_
  refine am_e_iconst (w := 1) n87_6 rfl ?_
  refine am_e_goto c87_7 t87_7 ?_
  refine am_e_iret c87_9 rfl rfl rfl ?_
  refine am_e_ifF n128_7 (am_c_eqF (by decide)) ?_
  refine am_e_iload_n n128_8 rfl ?_
  refine am_e_iconst (w := 0) n128_9 rfl ?_
  refine am_e_sipush (w := 3600) n128_10 (by decide) ?_
  refine am_e_callS (L := [(0, .int a3), (1, .int 0), (2, .int 3600)]) n128_11 rfl rfl rfl rfl rfl rfl rfl ?_
  refine am_e_iload_n n87_0 rfl ?_
  refine am_e_iload_n n87_1 rfl ?_
  refine am_e_cmpF n87_2 (am_c_ltF hb) ?_
  refine am_e_iload_n n87_3 rfl ?_
  refine am_e_iload_n n87_4 rfl ?_
  refine am_e_cmpT n87_5 (am_c_gtT ha) t87_5 ?_
  refine am_e_iconst (w := 0) n87_8 rfl ?_
  refine am_e_iret c87_9 rfl rfl rfl ?_
  refine am_e_ifT n128_12 (am_c_eqT (by decide)) t128_12 ?_
  refine am_e_iconst (w := (-1)) n128_33 rfl ?_
  refine am_e_iret c128_34 rfl rfl rfl ?_
  refine am_e_cmpT n136_800 (am_c_eqT (by decide)) t136_800 ?_
  exact K _
theorem am_op28_4_n {lk : List Value → List am_k → am_H → Option am_O} {xs : Nat → Int32} {h : am_H} {Q : Option Value → List am_k → am_H → Prop} {a2 : Int32} {a4 : Int32} {a5 : Int32} {n : Nat} (hn9 : n ≤ 3600) (hT : am_T h) (hx1 : xs 1 = 4) (hx2 : xs 2 = a2) (hx3 : xs 3 = (nI n)) (hx4 : xs 4 = a4) (hx5 : xs 5 = a5) (K : ∀ h', am_Ek false (am_P1 (some (6, xs)) lk) am_m136 841 [(4, .int 0), (3, .ref 202), (2, .ref 164), (1, .ref 0), (0, .retAddr 0)] [] am_ks0 h' 203 4392 Q) : am_Ek false (am_P1 (some (6, xs)) lk) am_m136 766 [(4, .int 0), (3, .ref 202), (2, .ref 164), (1, .ref 0), (0, .retAddr 0)] [] am_ks0 h 203 4392 Q := by
  refine am_e_aload_n n136_766 rfl ?_
  refine am_e_sload_n n136_767 rfl ?_
  refine am_e_iload n136_768 rfl ?_
  refine am_e_iconst (w := 1) n136_769 rfl ?_
  refine am_e_iadd (w := 1) n136_770 (by decide) ?_
  refine am_e_sald1 n136_771 rfl (by decide) (by decide) hx1 ?_
  refine am_e_sload_n n136_772 rfl ?_
  refine am_e_iload n136_773 rfl ?_
  refine am_e_iconst (w := 2) n136_774 rfl ?_
  refine am_e_iadd (w := 2) n136_775 (by decide) ?_
  refine am_e_sald1 n136_776 rfl (by decide) (by decide) hx2 ?_
  refine am_e_sload_n n136_777 rfl ?_
  refine am_e_iload n136_778 rfl ?_
  refine am_e_iconst (w := 3) n136_779 rfl ?_
  refine am_e_iadd (w := 3) n136_780 (by decide) ?_
  refine am_e_sald1 n136_781 rfl (by decide) (by decide) hx3 ?_
  refine am_e_callV (L := [(0, .ref 0), (1, .int 4), (2, .int a2), (3, .int (nI n))]) n136_782 rfl rfl rfl rfl rfl rfl rfl rfl ?_
  refine am_e_iload_n n71_0 rfl ?_
  refine am_e_iconst (w := 0) n71_1 rfl ?_
  refine am_e_iconst (w := 4) n71_2 rfl ?_
  refine am_e_callS (L := [(0, .int 4), (1, .int 0), (2, .int 4)]) n71_3 rfl rfl rfl rfl rfl rfl rfl ?_
  refine am_e_iload_n n30_0 rfl ?_
  refine am_e_iload_n n30_1 rfl ?_
  refine am_e_cmpF n30_2 (am_c_ltF (by decide)) ?_
  refine am_e_iload_n n30_3 rfl ?_
  refine am_e_iload_n n30_4 rfl ?_
  refine am_e_cmpF n30_5 (am_c_gtF (by decide)) ?_
  refine am_e_iconst (w := 1) n30_6 rfl ?_
  refine am_e_goto c30_7 t30_7 ?_
  refine am_e_iret c30_9 rfl rfl rfl ?_
  refine am_e_ifF n71_4 (am_c_eqF (by decide)) ?_
  refine am_e_iload_n n71_5 rfl ?_
  refine am_e_iconst (w := 0) n71_6 rfl ?_
  refine am_e_sipush (w := 3600) n71_7 (by decide) ?_
  refine am_e_callS (L := [(0, .int (nI n)), (1, .int 0), (2, .int 3600)]) n71_8 rfl rfl rfl rfl rfl rfl rfl ?_
  refine am_e_iload_n n30_0 rfl ?_
  refine am_e_iload_n n30_1 rfl ?_
  refine am_e_cmpF n30_2 (am_c_ltF (nI_pos (by omega))) ?_
  refine am_e_iload_n n30_3 rfl ?_
  refine am_e_iload_n n30_4 rfl ?_
  refine am_e_cmpF n30_5 (am_c_gtF (nI_nlt (a := 3600) (b := n) hn9 (by decide))) ?_
  refine am_e_iconst (w := 1) n30_6 rfl ?_
  refine am_e_goto c30_7 t30_7 ?_
  refine am_e_iret c30_9 rfl rfl rfl ?_
  refine am_e_ifT n71_9 (am_c_neT (by decide)) t71_9 ?_
  refine am_e_iload_n n71_12 rfl ?_
  refine am_e_iconst (w := 4) n71_13 rfl ?_
  refine am_e_cmpF n71_14 (am_c_neF (by decide)) ?_
  refine am_e_iload_n n71_15 rfl ?_
  by_cases hb1 : (a2 : Int32) < 0
  · refine am_e_ifT n71_16 (am_c_ltT hb1) t71_16 ?_
    refine am_e_iconst (w := 0) n71_24 rfl ?_
    refine am_e_goto c71_25 t71_25 ?_
    refine am_e_istore (ls' := [(4, .int 0), (0, .ref 0), (1, .int 4), (2, .int a2), (3, .int (nI n))]) n71_31 rfl rfl ?_
    refine am_e_iload n71_32 rfl ?_
    refine am_e_ifT n71_33 (am_c_eqT (by decide)) t71_33 ?_
    refine am_e_iconst (w := (-1)) n71_41 rfl ?_
    refine am_e_iret c71_42 rfl rfl rfl ?_
    refine am_e_aload_n n136_783 rfl ?_
    refine am_e_sload_n n136_784 rfl ?_
    refine am_e_iload n136_785 rfl ?_
    refine am_e_iconst (w := 1) n136_786 rfl ?_
    refine am_e_iadd (w := 1) n136_787 (by decide) ?_
    refine am_e_sald1 n136_788 rfl (by decide) (by decide) hx1 ?_
    refine am_e_sload_n n136_789 rfl ?_
    refine am_e_iload n136_790 rfl ?_
    refine am_e_iconst (w := 2) n136_791 rfl ?_
    refine am_e_iadd (w := 2) n136_792 (by decide) ?_
    refine am_e_sald1 n136_793 rfl (by decide) (by decide) hx2 ?_
    refine am_e_sload_n n136_794 rfl ?_
    refine am_e_iload n136_795 rfl ?_
    refine am_e_iconst (w := 3) n136_796 rfl ?_
    refine am_e_iadd (w := 3) n136_797 (by decide) ?_
    refine am_e_sald1 n136_798 rfl (by decide) (by decide) hx3 ?_
    refine am_e_callV (L := [(0, .ref 164), (1, .int 4), (2, .int a2), (3, .int (nI n))]) n136_799 rfl rfl rfl rfl rfl rfl rfl rfl ?_
    refine am_e_aload_n n128_0 rfl ?_
    refine am_e_iconst (w := 0) n128_1 rfl ?_
    refine am_e_putf n128_2 rfl rfl ?_
    refine am_e_iload_n n128_3 rfl ?_
    refine am_e_iconst (w := 0) n128_4 rfl ?_
    refine am_e_iconst (w := 4) n128_5 rfl ?_
    refine am_e_callS (L := [(0, .int 4), (1, .int 0), (2, .int 4)]) n128_6 rfl rfl rfl rfl rfl rfl rfl ?_
    refine am_e_iload_n n87_0 rfl ?_
    refine am_e_iload_n n87_1 rfl ?_
    refine am_e_cmpF n87_2 (am_c_ltF (by decide)) ?_
    refine am_e_iload_n n87_3 rfl ?_
    refine am_e_iload_n n87_4 rfl ?_
    refine am_e_cmpF n87_5 (am_c_gtF (by decide)) ?_
    refine am_e_iconst (w := 1) n87_6 rfl ?_
    refine am_e_goto c87_7 t87_7 ?_
    refine am_e_iret c87_9 rfl rfl rfl ?_
    refine am_e_ifF n128_7 (am_c_eqF (by decide)) ?_
    refine am_e_iload_n n128_8 rfl ?_
    refine am_e_iconst (w := 0) n128_9 rfl ?_
    refine am_e_sipush (w := 3600) n128_10 (by decide) ?_
    refine am_e_callS (L := [(0, .int (nI n)), (1, .int 0), (2, .int 3600)]) n128_11 rfl rfl rfl rfl rfl rfl rfl ?_
    refine am_e_iload_n n87_0 rfl ?_
    refine am_e_iload_n n87_1 rfl ?_
    refine am_e_cmpF n87_2 (am_c_ltF (nI_pos (by omega))) ?_
    refine am_e_iload_n n87_3 rfl ?_
    refine am_e_iload_n n87_4 rfl ?_
    refine am_e_cmpF n87_5 (am_c_gtF (nI_nlt (a := 3600) (b := n) hn9 (by decide))) ?_
    refine am_e_iconst (w := 1) n87_6 rfl ?_
    refine am_e_goto c87_7 t87_7 ?_
    refine am_e_iret c87_9 rfl rfl rfl ?_
    refine am_e_ifF n128_12 (am_c_eqF (by decide)) ?_
    refine am_e_iload_n n128_13 rfl ?_
    refine am_e_iconst (w := 4) n128_14 rfl ?_
    refine am_e_cmpF n128_15 (am_c_neF (by decide)) ?_
    refine am_e_iload_n n128_16 rfl ?_
    refine am_e_ifT n128_17 (am_c_ltT hb1) t128_17 ?_
    refine am_e_iconst (w := (-1)) n128_33 rfl ?_
    refine am_e_iret c128_34 rfl rfl rfl ?_
    refine am_e_cmpT n136_800 (am_c_eqT (by decide)) t136_800 ?_
    exact K _
  · refine am_e_ifF n71_16 (am_c_ltF hb1) ?_
    refine am_e_iload_n n71_17 rfl ?_
    refine am_e_aload_n n71_18 rfl ?_
    refine am_e_getf (v := .ref 2) n71_19 rfl (f0_2 (h := h) hT) ?_
    refine am_e_getf (v := .int 0) n71_20 rfl (f2_9 (h := h) hT) ?_
    refine am_e_cmpT n71_21 (am_c_geT hb1) t71_21 ?_
    refine am_e_iconst (w := 0) n71_24 rfl ?_
    refine am_e_goto c71_25 t71_25 ?_
    refine am_e_istore (ls' := [(4, .int 0), (0, .ref 0), (1, .int 4), (2, .int a2), (3, .int (nI n))]) n71_31 rfl rfl ?_
    refine am_e_iload n71_32 rfl ?_
    refine am_e_ifT n71_33 (am_c_eqT (by decide)) t71_33 ?_
    refine am_e_iconst (w := (-1)) n71_41 rfl ?_
    refine am_e_iret c71_42 rfl rfl rfl ?_
    refine am_e_aload_n n136_783 rfl ?_
    refine am_e_sload_n n136_784 rfl ?_
    refine am_e_iload n136_785 rfl ?_
    refine am_e_iconst (w := 1) n136_786 rfl ?_
    refine am_e_iadd (w := 1) n136_787 (by decide) ?_
    refine am_e_sald1 n136_788 rfl (by decide) (by decide) hx1 ?_
    refine am_e_sload_n n136_789 rfl ?_
    refine am_e_iload n136_790 rfl ?_
    refine am_e_iconst (w := 2) n136_791 rfl ?_
    refine am_e_iadd (w := 2) n136_792 (by decide) ?_
    refine am_e_sald1 n136_793 rfl (by decide) (by decide) hx2 ?_
    refine am_e_sload_n n136_794 rfl ?_
    refine am_e_iload n136_795 rfl ?_
    refine am_e_iconst (w := 3) n136_796 rfl ?_
    refine am_e_iadd (w := 3) n136_797 (by decide) ?_
    refine am_e_sald1 n136_798 rfl (by decide) (by decide) hx3 ?_
    refine am_e_callV (L := [(0, .ref 164), (1, .int 4), (2, .int a2), (3, .int (nI n))]) n136_799 rfl rfl rfl rfl rfl rfl rfl rfl ?_
    refine am_e_aload_n n128_0 rfl ?_
    refine am_e_iconst (w := 0) n128_1 rfl ?_
    refine am_e_putf n128_2 rfl rfl ?_
    refine am_e_iload_n n128_3 rfl ?_
    refine am_e_iconst (w := 0) n128_4 rfl ?_
    refine am_e_iconst (w := 4) n128_5 rfl ?_
    refine am_e_callS (L := [(0, .int 4), (1, .int 0), (2, .int 4)]) n128_6 rfl rfl rfl rfl rfl rfl rfl ?_
    refine am_e_iload_n n87_0 rfl ?_
    refine am_e_iload_n n87_1 rfl ?_
    refine am_e_cmpF n87_2 (am_c_ltF (by decide)) ?_
    refine am_e_iload_n n87_3 rfl ?_
    refine am_e_iload_n n87_4 rfl ?_
    refine am_e_cmpF n87_5 (am_c_gtF (by decide)) ?_
    refine am_e_iconst (w := 1) n87_6 rfl ?_
    refine am_e_goto c87_7 t87_7 ?_
    refine am_e_iret c87_9 rfl rfl rfl ?_
    refine am_e_ifF n128_7 (am_c_eqF (by decide)) ?_
    refine am_e_iload_n n128_8 rfl ?_
    refine am_e_iconst (w := 0) n128_9 rfl ?_
    refine am_e_sipush (w := 3600) n128_10 (by decide) ?_
    refine am_e_callS (L := [(0, .int (nI n)), (1, .int 0), (2, .int 3600)]) n128_11 rfl rfl rfl rfl rfl rfl rfl ?_
    refine am_e_iload_n n87_0 rfl ?_
    refine am_e_iload_n n87_1 rfl ?_
    refine am_e_cmpF n87_2 (am_c_ltF (nI_pos (by omega))) ?_
    refine am_e_iload_n n87_3 rfl ?_
    refine am_e_iload_n n87_4 rfl ?_
    refine am_e_cmpF n87_5 (am_c_gtF (nI_nlt (a := 3600) (b := n) hn9 (by decide))) ?_
    refine am_e_iconst (w := 1) n87_6 rfl ?_
    refine am_e_goto c87_7 t87_7 ?_
    refine am_e_iret c87_9 rfl rfl rfl ?_
    refine am_e_ifF n128_12 (am_c_eqF (by decide)) ?_
    refine am_e_iload_n n128_13 rfl ?_
    refine am_e_iconst (w := 4) n128_14 rfl ?_
    refine am_e_cmpF n128_15 (am_c_neF (by decide)) ?_
    refine am_e_iload_n n128_16 rfl ?_
    refine am_e_ifF n128_17 (am_c_ltF hb1) ?_
    refine am_e_iload_n n128_18 rfl ?_
    refine am_e_aload_n n128_19 rfl ?_
    refine am_e_getf (v := .int 0) n128_20 rfl (f164_14 (h := h) hT) ?_
    refine am_e_cmpF n128_21 (am_c_ltF hb1) ?_
    refine am_e_goto c128_22 t128_22 ?_
    refine am_e_iconst (w := (-1)) n128_33 rfl ?_
    refine am_e_iret c128_34 rfl rfl rfl ?_
    refine am_e_cmpT n136_800 (am_c_eqT (by decide)) t136_800 ?_
    exact K _
theorem am_op28_om {lk : List Value → List am_k → am_H → Option am_O} {xs : Nat → Int32} {h : am_H} {Q : Option Value → List am_k → am_H → Prop} {a1 : Int32} {a2 : Int32} {a3 : Int32} {a4 : Int32} {a5 : Int32} (ha : a1 < (0 : Int32)) (hT : am_T h) (hx1 : xs 1 = a1) (hx2 : xs 2 = a2) (hx3 : xs 3 = a3) (hx4 : xs 4 = a4) (hx5 : xs 5 = a5) (K : ∀ h', am_Ek false (am_P1 (some (6, xs)) lk) am_m136 841 [(4, .int 0), (3, .ref 202), (2, .ref 164), (1, .ref 0), (0, .retAddr 0)] [] am_ks0 h' 203 4392 Q) : am_Ek false (am_P1 (some (6, xs)) lk) am_m136 766 [(4, .int 0), (3, .ref 202), (2, .ref 164), (1, .ref 0), (0, .retAddr 0)] [] am_ks0 h 203 4392 Q := by
  refine am_e_aload_n n136_766 rfl ?_
  refine am_e_sload_n n136_767 rfl ?_
  refine am_e_iload n136_768 rfl ?_
  refine am_e_iconst (w := 1) n136_769 rfl ?_
  refine am_e_iadd (w := 1) n136_770 (by decide) ?_
  refine am_e_sald1 n136_771 rfl (by decide) (by decide) hx1 ?_
  refine am_e_sload_n n136_772 rfl ?_
  refine am_e_iload n136_773 rfl ?_
  refine am_e_iconst (w := 2) n136_774 rfl ?_
  refine am_e_iadd (w := 2) n136_775 (by decide) ?_
  refine am_e_sald1 n136_776 rfl (by decide) (by decide) hx2 ?_
  refine am_e_sload_n n136_777 rfl ?_
  refine am_e_iload n136_778 rfl ?_
  refine am_e_iconst (w := 3) n136_779 rfl ?_
  refine am_e_iadd (w := 3) n136_780 (by decide) ?_
  refine am_e_sald1 n136_781 rfl (by decide) (by decide) hx3 ?_
  refine am_e_callV (L := [(0, .ref 0), (1, .int a1), (2, .int a2), (3, .int a3)]) n136_782 rfl rfl rfl rfl rfl rfl rfl rfl ?_
  refine am_e_iload_n n71_0 rfl ?_
  refine am_e_iconst (w := 0) n71_1 rfl ?_
  refine am_e_iconst (w := 4) n71_2 rfl ?_
  refine am_e_callS (L := [(0, .int a1), (1, .int 0), (2, .int 4)]) n71_3 rfl rfl rfl rfl rfl rfl rfl ?_
  refine am_e_iload_n n30_0 rfl ?_
  refine am_e_iload_n n30_1 rfl ?_
  refine am_e_cmpT n30_2 (am_c_ltT ha) t30_2 ?_
  refine am_e_iconst (w := 0) n30_8 rfl ?_
  refine am_e_iret c30_9 rfl rfl rfl ?_
  refine am_e_ifT n71_4 (am_c_eqT (by decide)) t71_4 ?_
  refine am_e_iconst (w := (-1)) n71_10 rfl ?_
  refine am_e_iret c71_11 rfl rfl rfl ?_
  refine am_e_aload_n n136_783 rfl ?_
  refine am_e_sload_n n136_784 rfl ?_
  refine am_e_iload n136_785 rfl ?_
  refine am_e_iconst (w := 1) n136_786 rfl ?_
  refine am_e_iadd (w := 1) n136_787 (by decide) ?_
  refine am_e_sald1 n136_788 rfl (by decide) (by decide) hx1 ?_
  refine am_e_sload_n n136_789 rfl ?_
  refine am_e_iload n136_790 rfl ?_
  refine am_e_iconst (w := 2) n136_791 rfl ?_
  refine am_e_iadd (w := 2) n136_792 (by decide) ?_
  refine am_e_sald1 n136_793 rfl (by decide) (by decide) hx2 ?_
  refine am_e_sload_n n136_794 rfl ?_
  refine am_e_iload n136_795 rfl ?_
  refine am_e_iconst (w := 3) n136_796 rfl ?_
  refine am_e_iadd (w := 3) n136_797 (by decide) ?_
  refine am_e_sald1 n136_798 rfl (by decide) (by decide) hx3 ?_
  refine am_e_callV (L := [(0, .ref 164), (1, .int a1), (2, .int a2), (3, .int a3)]) n136_799 rfl rfl rfl rfl rfl rfl rfl rfl ?_
  refine am_e_aload_n n128_0 rfl ?_
  refine am_e_iconst (w := 0) n128_1 rfl ?_
  refine am_e_putf n128_2 rfl rfl ?_
  refine am_e_iload_n n128_3 rfl ?_
  refine am_e_iconst (w := 0) n128_4 rfl ?_
  refine am_e_iconst (w := 4) n128_5 rfl ?_
  refine am_e_callS (L := [(0, .int a1), (1, .int 0), (2, .int 4)]) n128_6 rfl rfl rfl rfl rfl rfl rfl ?_
  refine am_e_iload_n n87_0 rfl ?_
  refine am_e_iload_n n87_1 rfl ?_
  refine am_e_cmpT n87_2 (am_c_ltT ha) t87_2 ?_
  refine am_e_iconst (w := 0) n87_8 rfl ?_
  refine am_e_iret c87_9 rfl rfl rfl ?_
  refine am_e_ifT n128_7 (am_c_eqT (by decide)) t128_7 ?_
  refine am_e_iconst (w := (-1)) n128_33 rfl ?_
  refine am_e_iret c128_34 rfl rfl rfl ?_
  refine am_e_cmpT n136_800 (am_c_eqT (by decide)) t136_800 ?_
  exact K _
theorem am_op28_op {lk : List Value → List am_k → am_H → Option am_O} {xs : Nat → Int32} {h : am_H} {Q : Option Value → List am_k → am_H → Prop} {a1 : Int32} {a2 : Int32} {a3 : Int32} {a4 : Int32} {a5 : Int32} (hb : ¬ a1 < (0 : Int32)) (ha : (4 : Int32) < a1) (hT : am_T h) (hx1 : xs 1 = a1) (hx2 : xs 2 = a2) (hx3 : xs 3 = a3) (hx4 : xs 4 = a4) (hx5 : xs 5 = a5) (K : ∀ h', am_Ek false (am_P1 (some (6, xs)) lk) am_m136 841 [(4, .int 0), (3, .ref 202), (2, .ref 164), (1, .ref 0), (0, .retAddr 0)] [] am_ks0 h' 203 4392 Q) : am_Ek false (am_P1 (some (6, xs)) lk) am_m136 766 [(4, .int 0), (3, .ref 202), (2, .ref 164), (1, .ref 0), (0, .retAddr 0)] [] am_ks0 h 203 4392 Q := by
  refine am_e_aload_n n136_766 rfl ?_
  refine am_e_sload_n n136_767 rfl ?_
  refine am_e_iload n136_768 rfl ?_
  refine am_e_iconst (w := 1) n136_769 rfl ?_
  refine am_e_iadd (w := 1) n136_770 (by decide) ?_
  refine am_e_sald1 n136_771 rfl (by decide) (by decide) hx1 ?_
  refine am_e_sload_n n136_772 rfl ?_
  refine am_e_iload n136_773 rfl ?_
  refine am_e_iconst (w := 2) n136_774 rfl ?_
  refine am_e_iadd (w := 2) n136_775 (by decide) ?_
  refine am_e_sald1 n136_776 rfl (by decide) (by decide) hx2 ?_
  refine am_e_sload_n n136_777 rfl ?_
  refine am_e_iload n136_778 rfl ?_
  refine am_e_iconst (w := 3) n136_779 rfl ?_
  refine am_e_iadd (w := 3) n136_780 (by decide) ?_
  refine am_e_sald1 n136_781 rfl (by decide) (by decide) hx3 ?_
  refine am_e_callV (L := [(0, .ref 0), (1, .int a1), (2, .int a2), (3, .int a3)]) n136_782 rfl rfl rfl rfl rfl rfl rfl rfl ?_
  refine am_e_iload_n n71_0 rfl ?_
  refine am_e_iconst (w := 0) n71_1 rfl ?_
  refine am_e_iconst (w := 4) n71_2 rfl ?_
  refine am_e_callS (L := [(0, .int a1), (1, .int 0), (2, .int 4)]) n71_3 rfl rfl rfl rfl rfl rfl rfl ?_
  refine am_e_iload_n n30_0 rfl ?_
  refine am_e_iload_n n30_1 rfl ?_
  refine am_e_cmpF n30_2 (am_c_ltF hb) ?_
  refine am_e_iload_n n30_3 rfl ?_
  refine am_e_iload_n n30_4 rfl ?_
  refine am_e_cmpT n30_5 (am_c_gtT ha) t30_5 ?_
  refine am_e_iconst (w := 0) n30_8 rfl ?_
  refine am_e_iret c30_9 rfl rfl rfl ?_
  refine am_e_ifT n71_4 (am_c_eqT (by decide)) t71_4 ?_
  refine am_e_iconst (w := (-1)) n71_10 rfl ?_
  refine am_e_iret c71_11 rfl rfl rfl ?_
  refine am_e_aload_n n136_783 rfl ?_
  refine am_e_sload_n n136_784 rfl ?_
  refine am_e_iload n136_785 rfl ?_
  refine am_e_iconst (w := 1) n136_786 rfl ?_
  refine am_e_iadd (w := 1) n136_787 (by decide) ?_
  refine am_e_sald1 n136_788 rfl (by decide) (by decide) hx1 ?_
  refine am_e_sload_n n136_789 rfl ?_
  refine am_e_iload n136_790 rfl ?_
  refine am_e_iconst (w := 2) n136_791 rfl ?_
  refine am_e_iadd (w := 2) n136_792 (by decide) ?_
  refine am_e_sald1 n136_793 rfl (by decide) (by decide) hx2 ?_
  refine am_e_sload_n n136_794 rfl ?_
  refine am_e_iload n136_795 rfl ?_
  refine am_e_iconst (w := 3) n136_796 rfl ?_
  refine am_e_iadd (w := 3) n136_797 (by decide) ?_
  refine am_e_sald1 n136_798 rfl (by decide) (by decide) hx3 ?_
  refine am_e_callV (L := [(0, .ref 164), (1, .int a1), (2, .int a2), (3, .int a3)]) n136_799 rfl rfl rfl rfl rfl rfl rfl rfl ?_
  refine am_e_aload_n n128_0 rfl ?_
  refine am_e_iconst (w := 0) n128_1 rfl ?_
  refine am_e_putf n128_2 rfl rfl ?_
  refine am_e_iload_n n128_3 rfl ?_
  refine am_e_iconst (w := 0) n128_4 rfl ?_
  refine am_e_iconst (w := 4) n128_5 rfl ?_
  refine am_e_callS (L := [(0, .int a1), (1, .int 0), (2, .int 4)]) n128_6 rfl rfl rfl rfl rfl rfl rfl ?_
  refine am_e_iload_n n87_0 rfl ?_
  refine am_e_iload_n n87_1 rfl ?_
  refine am_e_cmpF n87_2 (am_c_ltF hb) ?_
  refine am_e_iload_n n87_3 rfl ?_
  refine am_e_iload_n n87_4 rfl ?_
  refine am_e_cmpT n87_5 (am_c_gtT ha) t87_5 ?_
  refine am_e_iconst (w := 0) n87_8 rfl ?_
  refine am_e_iret c87_9 rfl rfl rfl ?_
  refine am_e_ifT n128_7 (am_c_eqT (by decide)) t128_7 ?_
  refine am_e_iconst (w := (-1)) n128_33 rfl ?_
  refine am_e_iret c128_34 rfl rfl rfl ?_
  refine am_e_cmpT n136_800 (am_c_eqT (by decide)) t136_800 ?_
  exact K _
