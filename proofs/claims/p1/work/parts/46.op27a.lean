theorem am_op27_n0 {lk : List Value → List am_k → am_H → Option am_O} {xs : Nat → Int32} {h : am_H} {Q : Option Value → List am_k → am_H → Prop} {a1 : Int32} {a4 : Int32} {a5 : Int32} {n : Nat} (h1 : ¬ a1 < (0 : Int32)) (hn1 : 1 ≤ n) (hn9 : n ≤ 600) (hT : am_T h) (hx1 : xs 1 = a1) (hx2 : xs 2 = (nI n)) (hx3 : xs 3 = (nI 0)) (hx4 : xs 4 = a4) (hx5 : xs 5 = a5) (K : ∀ h', am_Ek false (am_P1 (some (6, xs)) lk) am_m136 841 [(4, .int 0), (3, .ref 202), (2, .ref 164), (1, .ref 0), (0, .retAddr 0)] [] am_ks0 h' 203 4392 Q) : am_Ek false (am_P1 (some (6, xs)) lk) am_m136 729 [(4, .int 0), (3, .ref 202), (2, .ref 164), (1, .ref 0), (0, .retAddr 0)] [] am_ks0 h 203 4392 Q := by
  refine am_e_aload_n n136_729 rfl ?_
  refine am_e_sload_n n136_730 rfl ?_
  refine am_e_iload n136_731 rfl ?_
  refine am_e_iconst (w := 1) n136_732 rfl ?_
  refine am_e_iadd (w := 1) n136_733 (by decide) ?_
  refine am_e_sald1 n136_734 rfl (by decide) (by decide) hx1 ?_
  refine am_e_sload_n n136_735 rfl ?_
  refine am_e_iload n136_736 rfl ?_
  refine am_e_iconst (w := 2) n136_737 rfl ?_
  refine am_e_iadd (w := 2) n136_738 (by decide) ?_
  refine am_e_sald1 n136_739 rfl (by decide) (by decide) hx2 ?_
  refine am_e_sload_n n136_740 rfl ?_
  refine am_e_iload n136_741 rfl ?_
  refine am_e_iconst (w := 3) n136_742 rfl ?_
  refine am_e_iadd (w := 3) n136_743 (by decide) ?_
  refine am_e_sald1 n136_744 rfl (by decide) (by decide) hx3 ?_
  refine am_e_callV (L := [(0, .ref 0), (1, .int a1), (2, .int (nI n)), (3, .int (nI 0))]) n136_745 rfl rfl rfl rfl rfl rfl rfl rfl ?_
  refine am_e_iload_n n70_0 rfl ?_
  refine am_e_ifF n70_1 (am_c_ltF h1) ?_
  refine am_e_iload_n n70_2 rfl ?_
  refine am_e_iconst (w := 1) n70_3 rfl ?_
  refine am_e_sipush (w := 600) n70_4 (by decide) ?_
  refine am_e_callS (L := [(0, .int (nI n)), (1, .int 1), (2, .int 600)]) n70_5 rfl rfl rfl rfl rfl rfl rfl ?_
  refine am_e_iload_n n30_0 rfl ?_
  refine am_e_iload_n n30_1 rfl ?_
  refine am_e_cmpF n30_2 (am_c_ltF (nI_nlt (b := 1) hn1 (by omega))) ?_
  refine am_e_iload_n n30_3 rfl ?_
  refine am_e_iload_n n30_4 rfl ?_
  refine am_e_cmpF n30_5 (am_c_gtF (nI_nlt (a := 600) (b := n) hn9 (by decide))) ?_
  refine am_e_iconst (w := 1) n30_6 rfl ?_
  refine am_e_goto c30_7 t30_7 ?_
  refine am_e_iret c30_9 rfl rfl rfl ?_
  refine am_e_ifF n70_6 (am_c_eqF (by decide)) ?_
  refine am_e_iload_n n70_7 rfl ?_
  refine am_e_iconst (w := 0) n70_8 rfl ?_
  refine am_e_sipush (w := 9999) n70_9 (by decide) ?_
  refine am_e_callS (L := [(0, .int (nI 0)), (1, .int 0), (2, .int 9999)]) n70_10 rfl rfl rfl rfl rfl rfl rfl ?_
  refine am_e_iload_n n30_0 rfl ?_
  refine am_e_iload_n n30_1 rfl ?_
  refine am_e_cmpF n30_2 (am_c_ltF (by decide)) ?_
  refine am_e_iload_n n30_3 rfl ?_
  refine am_e_iload_n n30_4 rfl ?_
  refine am_e_cmpF n30_5 (am_c_gtF (by decide)) ?_
  refine am_e_iconst (w := 1) n30_6 rfl ?_
  refine am_e_goto c30_7 t30_7 ?_
  refine am_e_iret c30_9 rfl rfl rfl ?_
  refine am_e_ifT n70_11 (am_c_neT (by decide)) t70_11 ?_
  refine am_e_iload_n n70_14 rfl ?_
  refine am_e_i2l (w := (a1.toInt64)) n70_15 rfl ?_
  refine am_e_lstore (ls' := [(4, .long (a1.toInt64)), (0, .ref 0), (1, .int a1), (2, .int (nI n)), (3, .int (nI 0))]) n70_16 rfl rfl ?_
  refine am_e_iconst (w := 0) n70_17 rfl ?_
  refine am_e_istore (ls' := [(6, .int 0), (4, .long (a1.toInt64)), (0, .ref 0), (1, .int a1), (2, .int (nI n)), (3, .int (nI 0))]) n70_18 rfl rfl ?_
  refine am_e_iconst (w := 0) n70_19 rfl ?_
  refine am_e_istore (ls' := [(7, .int 0), (6, .int 0), (4, .long (a1.toInt64)), (0, .ref 0), (1, .int a1), (2, .int (nI n)), (3, .int (nI 0))]) n70_20 rfl rfl ?_
  refine am_e_iload n70_21 rfl ?_
  refine am_e_bipush (w := 10) n70_22 (by decide) ?_
  refine am_e_cmpF n70_23 (am_c_geF (by decide)) ?_
  refine am_e_aload_n n70_24 rfl ?_
  refine am_e_getf (v := .ref 148) n70_25 rfl (f0_11 (h := h) hT) ?_
  refine am_e_aload_n n70_26 rfl ?_
  refine am_e_getf (v := .ref 2) n70_27 rfl (f0_2 (h := h) hT) ?_
  refine am_e_aload_n n70_28 rfl ?_
  refine am_e_getf (v := .ref 48) n70_29 rfl (f0_5 (h := h) hT) ?_
  refine am_e_callV (L := [(0, .ref 148), (1, .ref 2), (2, .ref 48)]) n70_30 rfl rfl rfl rfl rfl rfl rfl rfl ?_
  refine am_e_aload_n n31_0 rfl ?_
  refine am_e_aload_n n31_1 rfl ?_
  refine am_e_putf n31_2 rfl rfl ?_
  refine am_e_aload_n n31_3 rfl ?_
  refine am_e_getf (v := .ref 149) n31_4 rfl (f148_1 (h := h) hT) ?_
  refine am_e_aload_n n31_5 rfl ?_
  refine am_e_callV (L := [(0, .ref 149), (1, .ref 48)]) n31_6 rfl rfl rfl rfl rfl rfl rfl rfl ?_
  refine am_e_aload_n n32_0 rfl ?_
  refine am_e_aload_n n32_1 rfl ?_
  refine am_e_getf (v := .int 0) n32_2 rfl (f48_0 (h := h) hT) ?_
  refine am_e_putf n32_3 rfl rfl ?_
  refine am_e_aload_n n32_4 rfl ?_
  refine am_e_aload_n n32_5 rfl ?_
  refine am_e_getf (v := .int 0) n32_6 rfl (f48_1 (h := h) hT) ?_
  refine am_e_putf n32_7 rfl rfl ?_
  refine am_e_aload_n n32_8 rfl ?_
  refine am_e_aload_n n32_9 rfl ?_
  refine am_e_getf (v := .int (-1)) n32_10 rfl (f48_2 (h := h) hT) ?_
  refine am_e_putf n32_11 rfl rfl ?_
  refine am_e_aload_n n32_12 rfl ?_
  refine am_e_aload_n n32_13 rfl ?_
  refine am_e_getf (v := .int 0) n32_14 rfl (f48_3 (h := h) hT) ?_
  refine am_e_putf n32_15 rfl rfl ?_
  refine am_e_aload_n n32_16 rfl ?_
  refine am_e_aload_n n32_17 rfl ?_
  refine am_e_getf (v := .int 0) n32_18 rfl (f48_4 (h := h) hT) ?_
  refine am_e_putf n32_19 rfl rfl ?_
  refine am_e_iconst (w := 0) n32_20 rfl ?_
  refine am_e_istore_n (ls' := [(2, .int 0), (0, .ref 149), (1, .ref 48)]) n32_21 rfl rfl ?_
  refine am_e_iload_n n32_22 rfl ?_
  refine am_e_iconst (w := 4) n32_23 rfl ?_
  refine am_e_cmpF n32_24 (am_c_geF (by decide)) ?_
  refine am_e_aload_n n32_25 rfl ?_
  refine am_e_getf (v := .ref 150) n32_26 rfl (f149_5 (h := h) hT) ?_
  refine am_e_iload_n n32_27 rfl ?_
  refine am_e_aload_n n32_28 rfl ?_
  refine am_e_getf (v := .ref 49) n32_29 rfl (f48_5 (h := h) hT) ?_
  refine am_e_iload_n n32_30 rfl ?_
  refine am_e_iaload (v := 0) (q := 0) n32_31 rfl (by decide) (by decide) (f49_0 (h := h) hT) ?_
  refine am_e_iastore (q := 0) n32_32 rfl (by decide) (by decide) ?_
  refine am_e_aload_n n32_33 rfl ?_
  refine am_e_getf (v := .ref 151) n32_34 rfl (f149_6 (h := h) hT) ?_
  refine am_e_iload_n n32_35 rfl ?_
  refine am_e_aload_n n32_36 rfl ?_
  refine am_e_getf (v := .ref 50) n32_37 rfl (f48_6 (h := h) hT) ?_
  refine am_e_iload_n n32_38 rfl ?_
  refine am_e_iaload (v := 0) (q := 0) n32_39 rfl (by decide) (by decide) (f50_0 (h := h) hT) ?_
  refine am_e_iastore (q := 0) n32_40 rfl (by decide) (by decide) ?_
  refine am_e_aload_n n32_41 rfl ?_
  refine am_e_getf (v := .ref 152) n32_42 rfl (f149_7 (h := h) hT) ?_
  refine am_e_iload_n n32_43 rfl ?_
  refine am_e_aload_n n32_44 rfl ?_
  refine am_e_getf (v := .ref 51) n32_45 rfl (f48_7 (h := h) hT) ?_
  refine am_e_iload_n n32_46 rfl ?_
  refine am_e_iaload (v := 0) (q := 0) n32_47 rfl (by decide) (by decide) (f51_0 (h := h) hT) ?_
  refine am_e_iastore (q := 0) n32_48 rfl (by decide) (by decide) ?_
  refine am_e_iinc (w := 1) (ls' := [(2, .int 1), (0, .ref 149), (1, .ref 48)]) n32_49 rfl rfl (by decide) rfl ?_
  refine am_e_goto c32_50 t32_50 ?_
  refine am_e_iload_n n32_22 rfl ?_
  refine am_e_iconst (w := 4) n32_23 rfl ?_
  refine am_e_cmpF n32_24 (am_c_geF (by decide)) ?_
  refine am_e_aload_n n32_25 rfl ?_
  refine am_e_getf (v := .ref 150) n32_26 rfl (f149_5 (h := h) hT) ?_
  refine am_e_iload_n n32_27 rfl ?_
  refine am_e_aload_n n32_28 rfl ?_
  refine am_e_getf (v := .ref 49) n32_29 rfl (f48_5 (h := h) hT) ?_
  refine am_e_iload_n n32_30 rfl ?_
  refine am_e_iaload (v := 0) (q := 1) n32_31 rfl (by decide) (by decide) (f49_1 (h := h) hT) ?_
  refine am_e_iastore (q := 1) n32_32 rfl (by decide) (by decide) ?_
  refine am_e_aload_n n32_33 rfl ?_
  refine am_e_getf (v := .ref 151) n32_34 rfl (f149_6 (h := h) hT) ?_
  refine am_e_iload_n n32_35 rfl ?_
  refine am_e_aload_n n32_36 rfl ?_
  refine am_e_getf (v := .ref 50) n32_37 rfl (f48_6 (h := h) hT) ?_
  refine am_e_iload_n n32_38 rfl ?_
  refine am_e_iaload (v := 0) (q := 1) n32_39 rfl (by decide) (by decide) (f50_1 (h := h) hT) ?_
  refine am_e_iastore (q := 1) n32_40 rfl (by decide) (by decide) ?_
  refine am_e_aload_n n32_41 rfl ?_
  refine am_e_getf (v := .ref 152) n32_42 rfl (f149_7 (h := h) hT) ?_
  refine am_e_iload_n n32_43 rfl ?_
  refine am_e_aload_n n32_44 rfl ?_
  refine am_e_getf (v := .ref 51) n32_45 rfl (f48_7 (h := h) hT) ?_
  refine am_e_iload_n n32_46 rfl ?_
  refine am_e_iaload (v := 0) (q := 1) n32_47 rfl (by decide) (by decide) (f51_1 (h := h) hT) ?_
  refine am_e_iastore (q := 1) n32_48 rfl (by decide) (by decide) ?_
  refine am_e_iinc (w := 2) (ls' := [(2, .int 2), (0, .ref 149), (1, .ref 48)]) n32_49 rfl rfl (by decide) rfl ?_
  refine am_e_goto c32_50 t32_50 ?_
  refine am_e_iload_n n32_22 rfl ?_
  refine am_e_iconst (w := 4) n32_23 rfl ?_
  refine am_e_cmpF n32_24 (am_c_geF (by decide)) ?_
  refine am_e_aload_n n32_25 rfl ?_
  refine am_e_getf (v := .ref 150) n32_26 rfl (f149_5 (h := h) hT) ?_
  refine am_e_iload_n n32_27 rfl ?_
  refine am_e_aload_n n32_28 rfl ?_
  refine am_e_getf (v := .ref 49) n32_29 rfl (f48_5 (h := h) hT) ?_
  refine am_e_iload_n n32_30 rfl ?_
  refine am_e_iaload (v := 0) (q := 2) n32_31 rfl (by decide) (by decide) (f49_2 (h := h) hT) ?_
  refine am_e_iastore (q := 2) n32_32 rfl (by decide) (by decide) ?_
  refine am_e_aload_n n32_33 rfl ?_
  refine am_e_getf (v := .ref 151) n32_34 rfl (f149_6 (h := h) hT) ?_
  refine am_e_iload_n n32_35 rfl ?_
  refine am_e_aload_n n32_36 rfl ?_
  refine am_e_getf (v := .ref 50) n32_37 rfl (f48_6 (h := h) hT) ?_
  refine am_e_iload_n n32_38 rfl ?_
  refine am_e_iaload (v := 0) (q := 2) n32_39 rfl (by decide) (by decide) (f50_2 (h := h) hT) ?_
  refine am_e_iastore (q := 2) n32_40 rfl (by decide) (by decide) ?_
  refine am_e_aload_n n32_41 rfl ?_
  refine am_e_getf (v := .ref 152) n32_42 rfl (f149_7 (h := h) hT) ?_
  refine am_e_iload_n n32_43 rfl ?_
  refine am_e_aload_n n32_44 rfl ?_
  refine am_e_getf (v := .ref 51) n32_45 rfl (f48_7 (h := h) hT) ?_
  refine am_e_iload_n n32_46 rfl ?_
  refine am_e_iaload (v := 0) (q := 2) n32_47 rfl (by decide) (by decide) (f51_2 (h := h) hT) ?_
  refine am_e_iastore (q := 2) n32_48 rfl (by decide) (by decide) ?_
  refine am_e_iinc (w := 3) (ls' := [(2, .int 3), (0, .ref 149), (1, .ref 48)]) n32_49 rfl rfl (by decide) rfl ?_
  refine am_e_goto c32_50 t32_50 ?_
  refine am_e_iload_n n32_22 rfl ?_
  refine am_e_iconst (w := 4) n32_23 rfl ?_
  refine am_e_cmpF n32_24 (am_c_geF (by decide)) ?_
  refine am_e_aload_n n32_25 rfl ?_
  refine am_e_getf (v := .ref 150) n32_26 rfl (f149_5 (h := h) hT) ?_
  refine am_e_iload_n n32_27 rfl ?_
  refine am_e_aload_n n32_28 rfl ?_
  refine am_e_getf (v := .ref 49) n32_29 rfl (f48_5 (h := h) hT) ?_
  refine am_e_iload_n n32_30 rfl ?_
  refine am_e_iaload (v := 0) (q := 3) n32_31 rfl (by decide) (by decide) (f49_3 (h := h) hT) ?_
  refine am_e_iastore (q := 3) n32_32 rfl (by decide) (by decide) ?_
  refine am_e_aload_n n32_33 rfl ?_
  refine am_e_getf (v := .ref 151) n32_34 rfl (f149_6 (h := h) hT) ?_
  refine am_e_iload_n n32_35 rfl ?_
  refine am_e_aload_n n32_36 rfl ?_
  refine am_e_getf (v := .ref 50) n32_37 rfl (f48_6 (h := h) hT) ?_
  refine am_e_iload_n n32_38 rfl ?_
  refine am_e_iaload (v := 0) (q := 3) n32_39 rfl (by decide) (by decide) (f50_3 (h := h) hT) ?_
  refine am_e_iastore (q := 3) n32_40 rfl (by decide) (by decide) ?_
  refine am_e_aload_n n32_41 rfl ?_
  refine am_e_getf (v := .ref 152) n32_42 rfl (f149_7 (h := h) hT) ?_
  refine am_e_iload_n n32_43 rfl ?_
  refine am_e_aload_n n32_44 rfl ?_
  refine am_e_getf (v := .ref 51) n32_45 rfl (f48_7 (h := h) hT) ?_
  refine am_e_iload_n n32_46 rfl ?_
  refine am_e_iaload (v := 0) (q := 3) n32_47 rfl (by decide) (by decide) (f51_3 (h := h) hT) ?_
  refine am_e_iastore (q := 3) n32_48 rfl (by decide) (by decide) ?_
  refine am_e_iinc (w := 4) (ls' := [(2, .int 4), (0, .ref 149), (1, .ref 48)]) n32_49 rfl rfl (by decide) rfl ?_
  refine am_e_goto c32_50 t32_50 ?_
  refine am_e_iload_n n32_22 rfl ?_
  refine am_e_iconst (w := 4) n32_23 rfl ?_
  refine am_e_cmpT n32_24 (am_c_geT (by decide)) t32_24 ?_
  refine am_e_vret c32_51 rfl rfl ?_
  refine am_e_aload_n n31_7 rfl ?_
  refine am_e_aload_n n31_8 rfl ?_
  refine am_e_getf (v := .int (-1)) n31_9 rfl (f2_18 (h := h) hT) ?_
  refine am_e_putf n31_10 rfl rfl ?_
  refine am_e_aload_n n31_11 rfl ?_
  refine am_e_iconst (w := 0) n31_12 rfl ?_
  refine am_e_putf n31_13 rfl rfl ?_
  refine am_e_aload_n n31_14 rfl ?_
  refine am_e_iconst (w := 0) n31_15 rfl ?_
  refine am_e_putf n31_16 rfl rfl ?_
  refine am_e_aload_n n31_17 rfl ?_
  refine am_e_ldc (w := 2147483647) n31_18 (by decide) ?_
  refine am_e_putf n31_19 rfl rfl ?_
  refine am_e_aload_n n31_20 rfl ?_
  refine am_e_ldc (w := 2147483647) n31_21 (by decide) ?_
  refine am_e_putf n31_22 rfl rfl ?_
  refine am_e_vret c31_23 rfl rfl ?_
  refine am_e_iconst (w := 0) n70_31 rfl ?_
  refine am_e_istore (ls' := [(8, .int 0), (7, .int 0), (6, .int 0), (4, .long (a1.toInt64)), (0, .ref 0), (1, .int a1), (2, .int (nI n)), (3, .int (nI 0))]) n70_32 rfl rfl ?_
  refine am_Ek_ls (ls' := [(0, .ref 0), (2, .int (nI n)), (3, .int (nI 0)), (4, .long (a1.toInt64)), (6, .int 0), (7, .int 0), (8, .int (nI 0))]) ⟨rfl, rfl, rfl, rfl, rfl, rfl, rfl, trivial⟩ ?_
  refine am_cc_e (n := n) (b := 0) (s := 0) (t := 0) (i7 := 0) (dr := (a1.toInt64)) (by omega) (by omega) ⟨(f0_11 (h := h) hT), (f0_2 (h := h) hT), (f2_16 (h := h) hT), (f148_1 (h := h) hT), rfl, rfl, (f2_19 (h := h) hT), (f11_7 (h := h) hT), (f2_0 (h := h) hT), (f11_6 (h := h) hT), (f16_0 (h := h) hT), (f11_4 (h := h) hT), (f14_0 (h := h) hT), (f11_5 (h := h) hT), (f15_0 (h := h) hT), rfl, rfl, trivial⟩ rfl rfl rfl ?_
  intro h28 dr28 F28 qa28 qb28 qc28
  obtain ⟨l28, qc28⟩ := qc28
  refine am_e_aload_n n70_57 rfl ?_
  refine am_e_getf (v := .ref 148) n70_58 rfl ((F28 0 11 rfl).trans (f0_11 (h := h) hT)) ?_
  refine am_e_getf (v := .ref 149) n70_59 rfl ((F28 148 1 rfl).trans (f148_1 (h := h) hT)) ?_
  refine am_e_getf (v := .int 0) n70_60 rfl qa28 ?_
  refine am_e_iload_n n70_61 rfl ?_
  refine am_e_cmpF n70_62 (am_c_ltF (by decide)) ?_
  refine am_e_iinc (w := 1) (ls' := [(6, .int 1), (0, .ref 0), (2, .int (nI n)), (3, .int (nI 0)), (4, .long dr28), (7, .int 0), (8, .int (nI n))]) n70_63 rfl rfl (by decide) rfl ?_
  refine am_e_iinc (w := 1) (ls' := [(7, .int 1), (6, .int 1), (0, .ref 0), (2, .int (nI n)), (3, .int (nI 0)), (4, .long dr28), (8, .int (nI n))]) n70_64 rfl rfl (by decide) rfl ?_
  refine am_e_goto c70_65 t70_65 ?_
  refine am_e_iload n70_21 rfl ?_
  refine am_e_bipush (w := 10) n70_22 (by decide) ?_
  refine am_e_cmpF n70_23 (am_c_geF (by decide)) ?_
  refine am_e_aload_n n70_24 rfl ?_
  refine am_e_getf (v := .ref 148) n70_25 rfl ((F28 0 11 rfl).trans (f0_11 (h := h) hT)) ?_
  refine am_e_aload_n n70_26 rfl ?_
  refine am_e_getf (v := .ref 2) n70_27 rfl ((F28 0 2 rfl).trans (f0_2 (h := h) hT)) ?_
  refine am_e_aload_n n70_28 rfl ?_
  refine am_e_getf (v := .ref 48) n70_29 rfl ((F28 0 5 rfl).trans (f0_5 (h := h) hT)) ?_
  refine am_e_callV (L := [(0, .ref 148), (1, .ref 2), (2, .ref 48)]) n70_30 rfl rfl rfl rfl rfl rfl rfl rfl ?_
  refine am_e_aload_n n31_0 rfl ?_
  refine am_e_aload_n n31_1 rfl ?_
  refine am_e_putf n31_2 rfl rfl ?_
  refine am_e_aload_n n31_3 rfl ?_
  refine am_e_getf (v := .ref 149) n31_4 rfl ((F28 148 1 rfl).trans (f148_1 (h := h) hT)) ?_
  refine am_e_aload_n n31_5 rfl ?_
  refine am_e_callV (L := [(0, .ref 149), (1, .ref 48)]) n31_6 rfl rfl rfl rfl rfl rfl rfl rfl ?_
  refine am_e_aload_n n32_0 rfl ?_
  refine am_e_aload_n n32_1 rfl ?_
  refine am_e_getf (v := .int 0) n32_2 rfl ((F28 48 0 rfl).trans (f48_0 (h := h) hT)) ?_
  refine am_e_putf n32_3 rfl rfl ?_
  refine am_e_aload_n n32_4 rfl ?_
  refine am_e_aload_n n32_5 rfl ?_
  refine am_e_getf (v := .int 0) n32_6 rfl ((F28 48 1 rfl).trans (f48_1 (h := h) hT)) ?_
  refine am_e_putf n32_7 rfl rfl ?_
  refine am_e_aload_n n32_8 rfl ?_
  refine am_e_aload_n n32_9 rfl ?_
  refine am_e_getf (v := .int (-1)) n32_10 rfl ((F28 48 2 rfl).trans (f48_2 (h := h) hT)) ?_
  refine am_e_putf n32_11 rfl rfl ?_
  refine am_e_aload_n n32_12 rfl ?_
  refine am_e_aload_n n32_13 rfl ?_
  refine am_e_getf (v := .int 0) n32_14 rfl ((F28 48 3 rfl).trans (f48_3 (h := h) hT)) ?_
  refine am_e_putf n32_15 rfl rfl ?_
  refine am_e_aload_n n32_16 rfl ?_
  refine am_e_aload_n n32_17 rfl ?_
  refine am_e_getf (v := .int 0) n32_18 rfl ((F28 48 4 rfl).trans (f48_4 (h := h) hT)) ?_
  refine am_e_putf n32_19 rfl rfl ?_
  refine am_e_iconst (w := 0) n32_20 rfl ?_
  refine am_e_istore_n (ls' := [(2, .int 0), (0, .ref 149), (1, .ref 48)]) n32_21 rfl rfl ?_
  refine am_e_iload_n n32_22 rfl ?_
  refine am_e_iconst (w := 4) n32_23 rfl ?_
  refine am_e_cmpF n32_24 (am_c_geF (by decide)) ?_
  refine am_e_aload_n n32_25 rfl ?_
  refine am_e_getf (v := .ref 150) n32_26 rfl ((F28 149 5 rfl).trans (f149_5 (h := h) hT)) ?_
  refine am_e_iload_n n32_27 rfl ?_
  refine am_e_aload_n n32_28 rfl ?_
  refine am_e_getf (v := .ref 49) n32_29 rfl ((F28 48 5 rfl).trans (f48_5 (h := h) hT)) ?_
  refine am_e_iload_n n32_30 rfl ?_
  refine am_e_iaload (v := 0) (q := 0) n32_31 rfl (by decide) (by decide) ((F28 49 0 rfl).trans (f49_0 (h := h) hT)) ?_
  refine am_e_iastore (q := 0) n32_32 rfl (by decide) (by decide) ?_
  refine am_e_aload_n n32_33 rfl ?_
  refine am_e_getf (v := .ref 151) n32_34 rfl ((F28 149 6 rfl).trans (f149_6 (h := h) hT)) ?_
  refine am_e_iload_n n32_35 rfl ?_
  refine am_e_aload_n n32_36 rfl ?_
  refine am_e_getf (v := .ref 50) n32_37 rfl ((F28 48 6 rfl).trans (f48_6 (h := h) hT)) ?_
  refine am_e_iload_n n32_38 rfl ?_
  refine am_e_iaload (v := 0) (q := 0) n32_39 rfl (by decide) (by decide) ((F28 50 0 rfl).trans (f50_0 (h := h) hT)) ?_
  refine am_e_iastore (q := 0) n32_40 rfl (by decide) (by decide) ?_
  refine am_e_aload_n n32_41 rfl ?_
  refine am_e_getf (v := .ref 152) n32_42 rfl ((F28 149 7 rfl).trans (f149_7 (h := h) hT)) ?_
  refine am_e_iload_n n32_43 rfl ?_
  refine am_e_aload_n n32_44 rfl ?_
  refine am_e_getf (v := .ref 51) n32_45 rfl ((F28 48 7 rfl).trans (f48_7 (h := h) hT)) ?_
  refine am_e_iload_n n32_46 rfl ?_
  refine am_e_iaload (v := 0) (q := 0) n32_47 rfl (by decide) (by decide) ((F28 51 0 rfl).trans (f51_0 (h := h) hT)) ?_
  refine am_e_iastore (q := 0) n32_48 rfl (by decide) (by decide) ?_
  refine am_e_iinc (w := 1) (ls' := [(2, .int 1), (0, .ref 149), (1, .ref 48)]) n32_49 rfl rfl (by decide) rfl ?_
  refine am_e_goto c32_50 t32_50 ?_
  refine am_e_iload_n n32_22 rfl ?_
  refine am_e_iconst (w := 4) n32_23 rfl ?_
  refine am_e_cmpF n32_24 (am_c_geF (by decide)) ?_
  refine am_e_aload_n n32_25 rfl ?_
  refine am_e_getf (v := .ref 150) n32_26 rfl ((F28 149 5 rfl).trans (f149_5 (h := h) hT)) ?_
  refine am_e_iload_n n32_27 rfl ?_
  refine am_e_aload_n n32_28 rfl ?_
  refine am_e_getf (v := .ref 49) n32_29 rfl ((F28 48 5 rfl).trans (f48_5 (h := h) hT)) ?_
  refine am_e_iload_n n32_30 rfl ?_
  refine am_e_iaload (v := 0) (q := 1) n32_31 rfl (by decide) (by decide) ((F28 49 1 rfl).trans (f49_1 (h := h) hT)) ?_
  refine am_e_iastore (q := 1) n32_32 rfl (by decide) (by decide) ?_
  refine am_e_aload_n n32_33 rfl ?_
  refine am_e_getf (v := .ref 151) n32_34 rfl ((F28 149 6 rfl).trans (f149_6 (h := h) hT)) ?_
  refine am_e_iload_n n32_35 rfl ?_
  refine am_e_aload_n n32_36 rfl ?_
  refine am_e_getf (v := .ref 50) n32_37 rfl ((F28 48 6 rfl).trans (f48_6 (h := h) hT)) ?_
  refine am_e_iload_n n32_38 rfl ?_
  refine am_e_iaload (v := 0) (q := 1) n32_39 rfl (by decide) (by decide) ((F28 50 1 rfl).trans (f50_1 (h := h) hT)) ?_
  refine am_e_iastore (q := 1) n32_40 rfl (by decide) (by decide) ?_
  refine am_e_aload_n n32_41 rfl ?_
  refine am_e_getf (v := .ref 152) n32_42 rfl ((F28 149 7 rfl).trans (f149_7 (h := h) hT)) ?_
  refine am_e_iload_n n32_43 rfl ?_
  refine am_e_aload_n n32_44 rfl ?_
  refine am_e_getf (v := .ref 51) n32_45 rfl ((F28 48 7 rfl).trans (f48_7 (h := h) hT)) ?_
  refine am_e_iload_n n32_46 rfl ?_
  refine am_e_iaload (v := 0) (q := 1) n32_47 rfl (by decide) (by decide) ((F28 51 1 rfl).trans (f51_1 (h := h) hT)) ?_
  refine am_e_iastore (q := 1) n32_48 rfl (by decide) (by decide) ?_
  refine am_e_iinc (w := 2) (ls' := [(2, .int 2), (0, .ref 149), (1, .ref 48)]) n32_49 rfl rfl (by decide) rfl ?_
  refine am_e_goto c32_50 t32_50 ?_
  refine am_e_iload_n n32_22 rfl ?_
  refine am_e_iconst (w := 4) n32_23 rfl ?_
  refine am_e_cmpF n32_24 (am_c_geF (by decide)) ?_
  refine am_e_aload_n n32_25 rfl ?_
  refine am_e_getf (v := .ref 150) n32_26 rfl ((F28 149 5 rfl).trans (f149_5 (h := h) hT)) ?_
  refine am_e_iload_n n32_27 rfl ?_
  refine am_e_aload_n n32_28 rfl ?_
  refine am_e_getf (v := .ref 49) n32_29 rfl ((F28 48 5 rfl).trans (f48_5 (h := h) hT)) ?_
  refine am_e_iload_n n32_30 rfl ?_
  refine am_e_iaload (v := 0) (q := 2) n32_31 rfl (by decide) (by decide) ((F28 49 2 rfl).trans (f49_2 (h := h) hT)) ?_
  refine am_e_iastore (q := 2) n32_32 rfl (by decide) (by decide) ?_
  refine am_e_aload_n n32_33 rfl ?_
  refine am_e_getf (v := .ref 151) n32_34 rfl ((F28 149 6 rfl).trans (f149_6 (h := h) hT)) ?_
  refine am_e_iload_n n32_35 rfl ?_
  refine am_e_aload_n n32_36 rfl ?_
  refine am_e_getf (v := .ref 50) n32_37 rfl ((F28 48 6 rfl).trans (f48_6 (h := h) hT)) ?_
  refine am_e_iload_n n32_38 rfl ?_
  refine am_e_iaload (v := 0) (q := 2) n32_39 rfl (by decide) (by decide) ((F28 50 2 rfl).trans (f50_2 (h := h) hT)) ?_
  refine am_e_iastore (q := 2) n32_40 rfl (by decide) (by decide) ?_
  refine am_e_aload_n n32_41 rfl ?_
  refine am_e_getf (v := .ref 152) n32_42 rfl ((F28 149 7 rfl).trans (f149_7 (h := h) hT)) ?_
  refine am_e_iload_n n32_43 rfl ?_
  refine am_e_aload_n n32_44 rfl ?_
  refine am_e_getf (v := .ref 51) n32_45 rfl ((F28 48 7 rfl).trans (f48_7 (h := h) hT)) ?_
  refine am_e_iload_n n32_46 rfl ?_
  refine am_e_iaload (v := 0) (q := 2) n32_47 rfl (by decide) (by decide) ((F28 51 2 rfl).trans (f51_2 (h := h) hT)) ?_
  refine am_e_iastore (q := 2) n32_48 rfl (by decide) (by decide) ?_
  refine am_e_iinc (w := 3) (ls' := [(2, .int 3), (0, .ref 149), (1, .ref 48)]) n32_49 rfl rfl (by decide) rfl ?_
  refine am_e_goto c32_50 t32_50 ?_
  refine am_e_iload_n n32_22 rfl ?_
  refine am_e_iconst (w := 4) n32_23 rfl ?_
  refine am_e_cmpF n32_24 (am_c_geF (by decide)) ?_
  refine am_e_aload_n n32_25 rfl ?_
  refine am_e_getf (v := .ref 150) n32_26 rfl ((F28 149 5 rfl).trans (f149_5 (h := h) hT)) ?_
  refine am_e_iload_n n32_27 rfl ?_
  refine am_e_aload_n n32_28 rfl ?_
  refine am_e_getf (v := .ref 49) n32_29 rfl ((F28 48 5 rfl).trans (f48_5 (h := h) hT)) ?_
  refine am_e_iload_n n32_30 rfl ?_
  refine am_e_iaload (v := 0) (q := 3) n32_31 rfl (by decide) (by decide) ((F28 49 3 rfl).trans (f49_3 (h := h) hT)) ?_
  refine am_e_iastore (q := 3) n32_32 rfl (by decide) (by decide) ?_
  refine am_e_aload_n n32_33 rfl ?_
  refine am_e_getf (v := .ref 151) n32_34 rfl ((F28 149 6 rfl).trans (f149_6 (h := h) hT)) ?_
  refine am_e_iload_n n32_35 rfl ?_
  refine am_e_aload_n n32_36 rfl ?_
  refine am_e_getf (v := .ref 50) n32_37 rfl ((F28 48 6 rfl).trans (f48_6 (h := h) hT)) ?_
  refine am_e_iload_n n32_38 rfl ?_
  refine am_e_iaload (v := 0) (q := 3) n32_39 rfl (by decide) (by decide) ((F28 50 3 rfl).trans (f50_3 (h := h) hT)) ?_
  refine am_e_iastore (q := 3) n32_40 rfl (by decide) (by decide) ?_
  refine am_e_aload_n n32_41 rfl ?_
  refine am_e_getf (v := .ref 152) n32_42 rfl ((F28 149 7 rfl).trans (f149_7 (h := h) hT)) ?_
  refine am_e_iload_n n32_43 rfl ?_
  refine am_e_aload_n n32_44 rfl ?_
  refine am_e_getf (v := .ref 51) n32_45 rfl ((F28 48 7 rfl).trans (f48_7 (h := h) hT)) ?_
  refine am_e_iload_n n32_46 rfl ?_
  refine am_e_iaload (v := 0) (q := 3) n32_47 rfl (by decide) (by decide) ((F28 51 3 rfl).trans (f51_3 (h := h) hT)) ?_
  refine am_e_iastore (q := 3) n32_48 rfl (by decide) (by decide) ?_
  refine am_e_iinc (w := 4) (ls' := [(2, .int 4), (0, .ref 149), (1, .ref 48)]) n32_49 rfl rfl (by decide) rfl ?_
  refine am_e_goto c32_50 t32_50 ?_
  refine am_e_iload_n n32_22 rfl ?_
  refine am_e_iconst (w := 4) n32_23 rfl ?_
  refine am_e_cmpT n32_24 (am_c_geT (by decide)) t32_24 ?_
  refine am_e_vret c32_51 rfl rfl ?_
  refine am_e_aload_n n31_7 rfl ?_
  refine am_e_aload_n n31_8 rfl ?_
  refine am_e_getf (v := .int (-1)) n31_9 rfl ((F28 2 18 rfl).trans (f2_18 (h := h) hT)) ?_
  refine am_e_putf n31_10 rfl rfl ?_
  refine am_e_aload_n n31_11 rfl ?_
  refine am_e_iconst (w := 0) n31_12 rfl ?_
  refine am_e_putf n31_13 rfl rfl ?_
  refine am_e_aload_n n31_14 rfl ?_
  refine am_e_iconst (w := 0) n31_15 rfl ?_
  refine am_e_putf n31_16 rfl rfl ?_
  refine am_e_aload_n n31_17 rfl ?_
  refine am_e_ldc (w := 2147483647) n31_18 (by decide) ?_
  refine am_e_putf n31_19 rfl rfl ?_
  refine am_e_aload_n n31_20 rfl ?_
  refine am_e_ldc (w := 2147483647) n31_21 (by decide) ?_
  refine am_e_putf n31_22 rfl rfl ?_
  refine am_e_vret c31_23 rfl rfl ?_
  refine am_e_iconst (w := 0) n70_31 rfl ?_
  refine am_e_istore (ls' := [(8, .int 0), (7, .int 1), (6, .int 1), (0, .ref 0), (2, .int (nI n)), (3, .int (nI 0)), (4, .long dr28)]) n70_32 rfl rfl ?_
  refine am_Ek_ls (ls' := [(0, .ref 0), (2, .int (nI n)), (3, .int (nI 0)), (4, .long dr28), (6, .int 1), (7, .int 1), (8, .int (nI 0))]) ⟨rfl, rfl, rfl, rfl, rfl, rfl, rfl, trivial⟩ ?_
  refine am_cc_e (n := n) (b := 0) (s := 0) (t := 1) (i7 := 1) (dr := dr28) (by omega) (by omega) ⟨((F28 0 11 rfl).trans (f0_11 (h := h) hT)), ((F28 0 2 rfl).trans (f0_2 (h := h) hT)), ((F28 2 16 rfl).trans (f2_16 (h := h) hT)), ((F28 148 1 rfl).trans (f148_1 (h := h) hT)), rfl, rfl, ((F28 2 19 rfl).trans (f2_19 (h := h) hT)), ((F28 11 7 rfl).trans (f11_7 (h := h) hT)), ((F28 2 0 rfl).trans (f2_0 (h := h) hT)), ((F28 11 6 rfl).trans (f11_6 (h := h) hT)), ((F28 16 0 rfl).trans (f16_0 (h := h) hT)), ((F28 11 4 rfl).trans (f11_4 (h := h) hT)), ((F28 14 0 rfl).trans (f14_0 (h := h) hT)), ((F28 11 5 rfl).trans (f11_5 (h := h) hT)), ((F28 15 0 rfl).trans (f15_0 (h := h) hT)), rfl, rfl, trivial⟩ rfl rfl rfl ?_
  intro h29 dr29 F29 qa29 qb29 qc29
  obtain ⟨l29, qc29⟩ := qc29
  refine am_e_aload_n n70_57 rfl ?_
  refine am_e_getf (v := .ref 148) n70_58 rfl ((F29 0 11 rfl).trans ((F28 0 11 rfl).trans (f0_11 (h := h) hT))) ?_
  refine am_e_getf (v := .ref 149) n70_59 rfl ((F29 148 1 rfl).trans ((F28 148 1 rfl).trans (f148_1 (h := h) hT))) ?_
  refine am_e_getf (v := .int 0) n70_60 rfl qa29 ?_
  refine am_e_iload_n n70_61 rfl ?_
  refine am_e_cmpF n70_62 (am_c_ltF (by decide)) ?_
  refine am_e_iinc (w := 2) (ls' := [(6, .int 2), (0, .ref 0), (2, .int (nI n)), (3, .int (nI 0)), (4, .long dr29), (7, .int 1), (8, .int (nI n))]) n70_63 rfl rfl (by decide) rfl ?_
  refine am_e_iinc (w := 2) (ls' := [(7, .int 2), (6, .int 2), (0, .ref 0), (2, .int (nI n)), (3, .int (nI 0)), (4, .long dr29), (8, .int (nI n))]) n70_64 rfl rfl (by decide) rfl ?_
  refine am_e_goto c70_65 t70_65 ?_
  refine am_e_iload n70_21 rfl ?_
  refine am_e_bipush (w := 10) n70_22 (by decide) ?_
  refine am_e_cmpF n70_23 (am_c_geF (by decide)) ?_
  refine am_e_aload_n n70_24 rfl ?_
  refine am_e_getf (v := .ref 148) n70_25 rfl ((F29 0 11 rfl).trans ((F28 0 11 rfl).trans (f0_11 (h := h) hT))) ?_
  refine am_e_aload_n n70_26 rfl ?_
  refine am_e_getf (v := .ref 2) n70_27 rfl ((F29 0 2 rfl).trans ((F28 0 2 rfl).trans (f0_2 (h := h) hT))) ?_
  refine am_e_aload_n n70_28 rfl ?_
  refine am_e_getf (v := .ref 48) n70_29 rfl ((F29 0 5 rfl).trans ((F28 0 5 rfl).trans (f0_5 (h := h) hT))) ?_
  refine am_e_callV (L := [(0, .ref 148), (1, .ref 2), (2, .ref 48)]) n70_30 rfl rfl rfl rfl rfl rfl rfl rfl ?_
  refine am_e_aload_n n31_0 rfl ?_
  refine am_e_aload_n n31_1 rfl ?_
  refine am_e_putf n31_2 rfl rfl ?_
  refine am_e_aload_n n31_3 rfl ?_
  refine am_e_getf (v := .ref 149) n31_4 rfl ((F29 148 1 rfl).trans ((F28 148 1 rfl).trans (f148_1 (h := h) hT))) ?_
  refine am_e_aload_n n31_5 rfl ?_
  refine am_e_callV (L := [(0, .ref 149), (1, .ref 48)]) n31_6 rfl rfl rfl rfl rfl rfl rfl rfl ?_
  refine am_e_aload_n n32_0 rfl ?_
  refine am_e_aload_n n32_1 rfl ?_
  refine am_e_getf (v := .int 0) n32_2 rfl ((F29 48 0 rfl).trans ((F28 48 0 rfl).trans (f48_0 (h := h) hT))) ?_
  refine am_e_putf n32_3 rfl rfl ?_
  refine am_e_aload_n n32_4 rfl ?_
  refine am_e_aload_n n32_5 rfl ?_
  refine am_e_getf (v := .int 0) n32_6 rfl ((F29 48 1 rfl).trans ((F28 48 1 rfl).trans (f48_1 (h := h) hT))) ?_
  refine am_e_putf n32_7 rfl rfl ?_
  refine am_e_aload_n n32_8 rfl ?_
  refine am_e_aload_n n32_9 rfl ?_
  refine am_e_getf (v := .int (-1)) n32_10 rfl ((F29 48 2 rfl).trans ((F28 48 2 rfl).trans (f48_2 (h := h) hT))) ?_
  refine am_e_putf n32_11 rfl rfl ?_
  refine am_e_aload_n n32_12 rfl ?_
  refine am_e_aload_n n32_13 rfl ?_
  refine am_e_getf (v := .int 0) n32_14 rfl ((F29 48 3 rfl).trans ((F28 48 3 rfl).trans (f48_3 (h := h) hT))) ?_
  refine am_e_putf n32_15 rfl rfl ?_
  refine am_e_aload_n n32_16 rfl ?_
  refine am_e_aload_n n32_17 rfl ?_
  refine am_e_getf (v := .int 0) n32_18 rfl ((F29 48 4 rfl).trans ((F28 48 4 rfl).trans (f48_4 (h := h) hT))) ?_
  refine am_e_putf n32_19 rfl rfl ?_
  refine am_e_iconst (w := 0) n32_20 rfl ?_
  refine am_e_istore_n (ls' := [(2, .int 0), (0, .ref 149), (1, .ref 48)]) n32_21 rfl rfl ?_
  refine am_e_iload_n n32_22 rfl ?_
  refine am_e_iconst (w := 4) n32_23 rfl ?_
  refine am_e_cmpF n32_24 (am_c_geF (by decide)) ?_
  refine am_e_aload_n n32_25 rfl ?_
  refine am_e_getf (v := .ref 150) n32_26 rfl ((F29 149 5 rfl).trans ((F28 149 5 rfl).trans (f149_5 (h := h) hT))) ?_
  refine am_e_iload_n n32_27 rfl ?_
  refine am_e_aload_n n32_28 rfl ?_
  refine am_e_getf (v := .ref 49) n32_29 rfl ((F29 48 5 rfl).trans ((F28 48 5 rfl).trans (f48_5 (h := h) hT))) ?_
  refine am_e_iload_n n32_30 rfl ?_
  refine am_e_iaload (v := 0) (q := 0) n32_31 rfl (by decide) (by decide) ((F29 49 0 rfl).trans ((F28 49 0 rfl).trans (f49_0 (h := h) hT))) ?_
  refine am_e_iastore (q := 0) n32_32 rfl (by decide) (by decide) ?_
  refine am_e_aload_n n32_33 rfl ?_
  refine am_e_getf (v := .ref 151) n32_34 rfl ((F29 149 6 rfl).trans ((F28 149 6 rfl).trans (f149_6 (h := h) hT))) ?_
  refine am_e_iload_n n32_35 rfl ?_
  refine am_e_aload_n n32_36 rfl ?_
  refine am_e_getf (v := .ref 50) n32_37 rfl ((F29 48 6 rfl).trans ((F28 48 6 rfl).trans (f48_6 (h := h) hT))) ?_
  refine am_e_iload_n n32_38 rfl ?_
  refine am_e_iaload (v := 0) (q := 0) n32_39 rfl (by decide) (by decide) ((F29 50 0 rfl).trans ((F28 50 0 rfl).trans (f50_0 (h := h) hT))) ?_
  refine am_e_iastore (q := 0) n32_40 rfl (by decide) (by decide) ?_
  refine am_e_aload_n n32_41 rfl ?_
  refine am_e_getf (v := .ref 152) n32_42 rfl ((F29 149 7 rfl).trans ((F28 149 7 rfl).trans (f149_7 (h := h) hT))) ?_
  refine am_e_iload_n n32_43 rfl ?_
  refine am_e_aload_n n32_44 rfl ?_
  refine am_e_getf (v := .ref 51) n32_45 rfl ((F29 48 7 rfl).trans ((F28 48 7 rfl).trans (f48_7 (h := h) hT))) ?_
  refine am_e_iload_n n32_46 rfl ?_
  refine am_e_iaload (v := 0) (q := 0) n32_47 rfl (by decide) (by decide) ((F29 51 0 rfl).trans ((F28 51 0 rfl).trans (f51_0 (h := h) hT))) ?_
  refine am_e_iastore (q := 0) n32_48 rfl (by decide) (by decide) ?_
  refine am_e_iinc (w := 1) (ls' := [(2, .int 1), (0, .ref 149), (1, .ref 48)]) n32_49 rfl rfl (by decide) rfl ?_
  refine am_e_goto c32_50 t32_50 ?_
  refine am_e_iload_n n32_22 rfl ?_
  refine am_e_iconst (w := 4) n32_23 rfl ?_
  refine am_e_cmpF n32_24 (am_c_geF (by decide)) ?_
  refine am_e_aload_n n32_25 rfl ?_
  refine am_e_getf (v := .ref 150) n32_26 rfl ((F29 149 5 rfl).trans ((F28 149 5 rfl).trans (f149_5 (h := h) hT))) ?_
  refine am_e_iload_n n32_27 rfl ?_
  refine am_e_aload_n n32_28 rfl ?_
  refine am_e_getf (v := .ref 49) n32_29 rfl ((F29 48 5 rfl).trans ((F28 48 5 rfl).trans (f48_5 (h := h) hT))) ?_
  refine am_e_iload_n n32_30 rfl ?_
  refine am_e_iaload (v := 0) (q := 1) n32_31 rfl (by decide) (by decide) ((F29 49 1 rfl).trans ((F28 49 1 rfl).trans (f49_1 (h := h) hT))) ?_
  refine am_e_iastore (q := 1) n32_32 rfl (by decide) (by decide) ?_
  refine am_e_aload_n n32_33 rfl ?_
  refine am_e_getf (v := .ref 151) n32_34 rfl ((F29 149 6 rfl).trans ((F28 149 6 rfl).trans (f149_6 (h := h) hT))) ?_
  refine am_e_iload_n n32_35 rfl ?_
  refine am_e_aload_n n32_36 rfl ?_
  refine am_e_getf (v := .ref 50) n32_37 rfl ((F29 48 6 rfl).trans ((F28 48 6 rfl).trans (f48_6 (h := h) hT))) ?_
  refine am_e_iload_n n32_38 rfl ?_
  refine am_e_iaload (v := 0) (q := 1) n32_39 rfl (by decide) (by decide) ((F29 50 1 rfl).trans ((F28 50 1 rfl).trans (f50_1 (h := h) hT))) ?_
  refine am_e_iastore (q := 1) n32_40 rfl (by decide) (by decide) ?_
  refine am_e_aload_n n32_41 rfl ?_
  refine am_e_getf (v := .ref 152) n32_42 rfl ((F29 149 7 rfl).trans ((F28 149 7 rfl).trans (f149_7 (h := h) hT))) ?_
  refine am_e_iload_n n32_43 rfl ?_
  refine am_e_aload_n n32_44 rfl ?_
  refine am_e_getf (v := .ref 51) n32_45 rfl ((F29 48 7 rfl).trans ((F28 48 7 rfl).trans (f48_7 (h := h) hT))) ?_
  refine am_e_iload_n n32_46 rfl ?_
  refine am_e_iaload (v := 0) (q := 1) n32_47 rfl (by decide) (by decide) ((F29 51 1 rfl).trans ((F28 51 1 rfl).trans (f51_1 (h := h) hT))) ?_
  refine am_e_iastore (q := 1) n32_48 rfl (by decide) (by decide) ?_
  refine am_e_iinc (w := 2) (ls' := [(2, .int 2), (0, .ref 149), (1, .ref 48)]) n32_49 rfl rfl (by decide) rfl ?_
  refine am_e_goto c32_50 t32_50 ?_
  refine am_e_iload_n n32_22 rfl ?_
  refine am_e_iconst (w := 4) n32_23 rfl ?_
  refine am_e_cmpF n32_24 (am_c_geF (by decide)) ?_
  refine am_e_aload_n n32_25 rfl ?_
  refine am_e_getf (v := .ref 150) n32_26 rfl ((F29 149 5 rfl).trans ((F28 149 5 rfl).trans (f149_5 (h := h) hT))) ?_
  refine am_e_iload_n n32_27 rfl ?_
  refine am_e_aload_n n32_28 rfl ?_
  refine am_e_getf (v := .ref 49) n32_29 rfl ((F29 48 5 rfl).trans ((F28 48 5 rfl).trans (f48_5 (h := h) hT))) ?_
  refine am_e_iload_n n32_30 rfl ?_
  refine am_e_iaload (v := 0) (q := 2) n32_31 rfl (by decide) (by decide) ((F29 49 2 rfl).trans ((F28 49 2 rfl).trans (f49_2 (h := h) hT))) ?_
  refine am_e_iastore (q := 2) n32_32 rfl (by decide) (by decide) ?_
  refine am_e_aload_n n32_33 rfl ?_
  refine am_e_getf (v := .ref 151) n32_34 rfl ((F29 149 6 rfl).trans ((F28 149 6 rfl).trans (f149_6 (h := h) hT))) ?_
  refine am_e_iload_n n32_35 rfl ?_
  refine am_e_aload_n n32_36 rfl ?_
  refine am_e_getf (v := .ref 50) n32_37 rfl ((F29 48 6 rfl).trans ((F28 48 6 rfl).trans (f48_6 (h := h) hT))) ?_
  refine am_e_iload_n n32_38 rfl ?_
  refine am_e_iaload (v := 0) (q := 2) n32_39 rfl (by decide) (by decide) ((F29 50 2 rfl).trans ((F28 50 2 rfl).trans (f50_2 (h := h) hT))) ?_
  refine am_e_iastore (q := 2) n32_40 rfl (by decide) (by decide) ?_
  refine am_e_aload_n n32_41 rfl ?_
  refine am_e_getf (v := .ref 152) n32_42 rfl ((F29 149 7 rfl).trans ((F28 149 7 rfl).trans (f149_7 (h := h) hT))) ?_
  refine am_e_iload_n n32_43 rfl ?_
  refine am_e_aload_n n32_44 rfl ?_
  refine am_e_getf (v := .ref 51) n32_45 rfl ((F29 48 7 rfl).trans ((F28 48 7 rfl).trans (f48_7 (h := h) hT))) ?_
  refine am_e_iload_n n32_46 rfl ?_
  refine am_e_iaload (v := 0) (q := 2) n32_47 rfl (by decide) (by decide) ((F29 51 2 rfl).trans ((F28 51 2 rfl).trans (f51_2 (h := h) hT))) ?_
  refine am_e_iastore (q := 2) n32_48 rfl (by decide) (by decide) ?_
  refine am_e_iinc (w := 3) (ls' := [(2, .int 3), (0, .ref 149), (1, .ref 48)]) n32_49 rfl rfl (by decide) rfl ?_
  refine am_e_goto c32_50 t32_50 ?_
  refine am_e_iload_n n32_22 rfl ?_
  refine am_e_iconst (w := 4) n32_23 rfl ?_
  refine am_e_cmpF n32_24 (am_c_geF (by decide)) ?_
  refine am_e_aload_n n32_25 rfl ?_
  refine am_e_getf (v := .ref 150) n32_26 rfl ((F29 149 5 rfl).trans ((F28 149 5 rfl).trans (f149_5 (h := h) hT))) ?_
  refine am_e_iload_n n32_27 rfl ?_
  refine am_e_aload_n n32_28 rfl ?_
  refine am_e_getf (v := .ref 49) n32_29 rfl ((F29 48 5 rfl).trans ((F28 48 5 rfl).trans (f48_5 (h := h) hT))) ?_
  refine am_e_iload_n n32_30 rfl ?_
  refine am_e_iaload (v := 0) (q := 3) n32_31 rfl (by decide) (by decide) ((F29 49 3 rfl).trans ((F28 49 3 rfl).trans (f49_3 (h := h) hT))) ?_
  refine am_e_iastore (q := 3) n32_32 rfl (by decide) (by decide) ?_
  refine am_e_aload_n n32_33 rfl ?_
  refine am_e_getf (v := .ref 151) n32_34 rfl ((F29 149 6 rfl).trans ((F28 149 6 rfl).trans (f149_6 (h := h) hT))) ?_
  refine am_e_iload_n n32_35 rfl ?_
  refine am_e_aload_n n32_36 rfl ?_
  refine am_e_getf (v := .ref 50) n32_37 rfl ((F29 48 6 rfl).trans ((F28 48 6 rfl).trans (f48_6 (h := h) hT))) ?_
  refine am_e_iload_n n32_38 rfl ?_
  refine am_e_iaload (v := 0) (q := 3) n32_39 rfl (by decide) (by decide) ((F29 50 3 rfl).trans ((F28 50 3 rfl).trans (f50_3 (h := h) hT))) ?_
  refine am_e_iastore (q := 3) n32_40 rfl (by decide) (by decide) ?_
  refine am_e_aload_n n32_41 rfl ?_
  refine am_e_getf (v := .ref 152) n32_42 rfl ((F29 149 7 rfl).trans ((F28 149 7 rfl).trans (f149_7 (h := h) hT))) ?_
  refine am_e_iload_n n32_43 rfl ?_
  refine am_e_aload_n n32_44 rfl ?_
  refine am_e_getf (v := .ref 51) n32_45 rfl ((F29 48 7 rfl).trans ((F28 48 7 rfl).trans (f48_7 (h := h) hT))) ?_
  refine am_e_iload_n n32_46 rfl ?_
  refine am_e_iaload (v := 0) (q := 3) n32_47 rfl (by decide) (by decide) ((F29 51 3 rfl).trans ((F28 51 3 rfl).trans (f51_3 (h := h) hT))) ?_
  refine am_e_iastore (q := 3) n32_48 rfl (by decide) (by decide) ?_
  refine am_e_iinc (w := 4) (ls' := [(2, .int 4), (0, .ref 149), (1, .ref 48)]) n32_49 rfl rfl (by decide) rfl ?_
  refine am_e_goto c32_50 t32_50 ?_
  refine am_e_iload_n n32_22 rfl ?_
  refine am_e_iconst (w := 4) n32_23 rfl ?_
  refine am_e_cmpT n32_24 (am_c_geT (by decide)) t32_24 ?_
  refine am_e_vret c32_51 rfl rfl ?_
  refine am_e_aload_n n31_7 rfl ?_
  refine am_e_aload_n n31_8 rfl ?_
  refine am_e_getf (v := .int (-1)) n31_9 rfl ((F29 2 18 rfl).trans ((F28 2 18 rfl).trans (f2_18 (h := h) hT))) ?_
  refine am_e_putf n31_10 rfl rfl ?_
  refine am_e_aload_n n31_11 rfl ?_
  refine am_e_iconst (w := 0) n31_12 rfl ?_
  refine am_e_putf n31_13 rfl rfl ?_
  refine am_e_aload_n n31_14 rfl ?_
  refine am_e_iconst (w := 0) n31_15 rfl ?_
  refine am_e_putf n31_16 rfl rfl ?_
  refine am_e_aload_n n31_17 rfl ?_
  refine am_e_ldc (w := 2147483647) n31_18 (by decide) ?_
  refine am_e_putf n31_19 rfl rfl ?_
  refine am_e_aload_n n31_20 rfl ?_
  refine am_e_ldc (w := 2147483647) n31_21 (by decide) ?_
  refine am_e_putf n31_22 rfl rfl ?_
  refine am_e_vret c31_23 rfl rfl ?_
  refine am_e_iconst (w := 0) n70_31 rfl ?_
  refine am_e_istore (ls' := [(8, .int 0), (7, .int 2), (6, .int 2), (0, .ref 0), (2, .int (nI n)), (3, .int (nI 0)), (4, .long dr29)]) n70_32 rfl rfl ?_
  refine am_Ek_ls (ls' := [(0, .ref 0), (2, .int (nI n)), (3, .int (nI 0)), (4, .long dr29), (6, .int 2), (7, .int 2), (8, .int (nI 0))]) ⟨rfl, rfl, rfl, rfl, rfl, rfl, rfl, trivial⟩ ?_
  refine am_cc_e (n := n) (b := 0) (s := 0) (t := 2) (i7 := 2) (dr := dr29) (by omega) (by omega) ⟨((F29 0 11 rfl).trans ((F28 0 11 rfl).trans (f0_11 (h := h) hT))), ((F29 0 2 rfl).trans ((F28 0 2 rfl).trans (f0_2 (h := h) hT))), ((F29 2 16 rfl).trans ((F28 2 16 rfl).trans (f2_16 (h := h) hT))), ((F29 148 1 rfl).trans ((F28 148 1 rfl).trans (f148_1 (h := h) hT))), rfl, rfl, ((F29 2 19 rfl).trans ((F28 2 19 rfl).trans (f2_19 (h := h) hT))), ((F29 11 7 rfl).trans ((F28 11 7 rfl).trans (f11_7 (h := h) hT))), ((F29 2 0 rfl).trans ((F28 2 0 rfl).trans (f2_0 (h := h) hT))), ((F29 11 6 rfl).trans ((F28 11 6 rfl).trans (f11_6 (h := h) hT))), ((F29 16 0 rfl).trans ((F28 16 0 rfl).trans (f16_0 (h := h) hT))), ((F29 11 4 rfl).trans ((F28 11 4 rfl).trans (f11_4 (h := h) hT))), ((F29 14 0 rfl).trans ((F28 14 0 rfl).trans (f14_0 (h := h) hT))), ((F29 11 5 rfl).trans ((F28 11 5 rfl).trans (f11_5 (h := h) hT))), ((F29 15 0 rfl).trans ((F28 15 0 rfl).trans (f15_0 (h := h) hT))), rfl, rfl, trivial⟩ rfl rfl rfl ?_
  intro h30 dr30 F30 qa30 qb30 qc30
  obtain ⟨l30, qc30⟩ := qc30
  refine am_e_aload_n n70_57 rfl ?_
  refine am_e_getf (v := .ref 148) n70_58 rfl ((F30 0 11 rfl).trans ((F29 0 11 rfl).trans ((F28 0 11 rfl).trans (f0_11 (h := h) hT)))) ?_
  refine am_e_getf (v := .ref 149) n70_59 rfl ((F30 148 1 rfl).trans ((F29 148 1 rfl).trans ((F28 148 1 rfl).trans (f148_1 (h := h) hT)))) ?_
  refine am_e_getf (v := .int 0) n70_60 rfl qa30 ?_
  refine am_e_iload_n n70_61 rfl ?_
  refine am_e_cmpF n70_62 (am_c_ltF (by decide)) ?_
  refine am_e_iinc (w := 3) (ls' := [(6, .int 3), (0, .ref 0), (2, .int (nI n)), (3, .int (nI 0)), (4, .long dr30), (7, .int 2), (8, .int (nI n))]) n70_63 rfl rfl (by decide) rfl ?_
  refine am_e_iinc (w := 3) (ls' := [(7, .int 3), (6, .int 3), (0, .ref 0), (2, .int (nI n)), (3, .int (nI 0)), (4, .long dr30), (8, .int (nI n))]) n70_64 rfl rfl (by decide) rfl ?_
  refine am_e_goto c70_65 t70_65 ?_
  refine am_e_iload n70_21 rfl ?_
  refine am_e_bipush (w := 10) n70_22 (by decide) ?_
  refine am_e_cmpF n70_23 (am_c_geF (by decide)) ?_
  refine am_e_aload_n n70_24 rfl ?_
  refine am_e_getf (v := .ref 148) n70_25 rfl ((F30 0 11 rfl).trans ((F29 0 11 rfl).trans ((F28 0 11 rfl).trans (f0_11 (h := h) hT)))) ?_
  refine am_e_aload_n n70_26 rfl ?_
  refine am_e_getf (v := .ref 2) n70_27 rfl ((F30 0 2 rfl).trans ((F29 0 2 rfl).trans ((F28 0 2 rfl).trans (f0_2 (h := h) hT)))) ?_
  refine am_e_aload_n n70_28 rfl ?_
  refine am_e_getf (v := .ref 48) n70_29 rfl ((F30 0 5 rfl).trans ((F29 0 5 rfl).trans ((F28 0 5 rfl).trans (f0_5 (h := h) hT)))) ?_
  refine am_e_callV (L := [(0, .ref 148), (1, .ref 2), (2, .ref 48)]) n70_30 rfl rfl rfl rfl rfl rfl rfl rfl ?_
  refine am_e_aload_n n31_0 rfl ?_
  refine am_e_aload_n n31_1 rfl ?_
  refine am_e_putf n31_2 rfl rfl ?_
  refine am_e_aload_n n31_3 rfl ?_
  refine am_e_getf (v := .ref 149) n31_4 rfl ((F30 148 1 rfl).trans ((F29 148 1 rfl).trans ((F28 148 1 rfl).trans (f148_1 (h := h) hT)))) ?_
  refine am_e_aload_n n31_5 rfl ?_
  refine am_e_callV (L := [(0, .ref 149), (1, .ref 48)]) n31_6 rfl rfl rfl rfl rfl rfl rfl rfl ?_
  refine am_e_aload_n n32_0 rfl ?_
  refine am_e_aload_n n32_1 rfl ?_
  refine am_e_getf (v := .int 0) n32_2 rfl ((F30 48 0 rfl).trans ((F29 48 0 rfl).trans ((F28 48 0 rfl).trans (f48_0 (h := h) hT)))) ?_
  refine am_e_putf n32_3 rfl rfl ?_
  refine am_e_aload_n n32_4 rfl ?_
  refine am_e_aload_n n32_5 rfl ?_
  refine am_e_getf (v := .int 0) n32_6 rfl ((F30 48 1 rfl).trans ((F29 48 1 rfl).trans ((F28 48 1 rfl).trans (f48_1 (h := h) hT)))) ?_
  refine am_e_putf n32_7 rfl rfl ?_
  refine am_e_aload_n n32_8 rfl ?_
  refine am_e_aload_n n32_9 rfl ?_
  refine am_e_getf (v := .int (-1)) n32_10 rfl ((F30 48 2 rfl).trans ((F29 48 2 rfl).trans ((F28 48 2 rfl).trans (f48_2 (h := h) hT)))) ?_
  refine am_e_putf n32_11 rfl rfl ?_
  refine am_e_aload_n n32_12 rfl ?_
  refine am_e_aload_n n32_13 rfl ?_
  refine am_e_getf (v := .int 0) n32_14 rfl ((F30 48 3 rfl).trans ((F29 48 3 rfl).trans ((F28 48 3 rfl).trans (f48_3 (h := h) hT)))) ?_
  refine am_e_putf n32_15 rfl rfl ?_
  refine am_e_aload_n n32_16 rfl ?_
  refine am_e_aload_n n32_17 rfl ?_
  refine am_e_getf (v := .int 0) n32_18 rfl ((F30 48 4 rfl).trans ((F29 48 4 rfl).trans ((F28 48 4 rfl).trans (f48_4 (h := h) hT)))) ?_
  refine am_e_putf n32_19 rfl rfl ?_
  refine am_e_iconst (w := 0) n32_20 rfl ?_
  refine am_e_istore_n (ls' := [(2, .int 0), (0, .ref 149), (1, .ref 48)]) n32_21 rfl rfl ?_
  refine am_e_iload_n n32_22 rfl ?_
  refine am_e_iconst (w := 4) n32_23 rfl ?_
  refine am_e_cmpF n32_24 (am_c_geF (by decide)) ?_
  refine am_e_aload_n n32_25 rfl ?_
  refine am_e_getf (v := .ref 150) n32_26 rfl ((F30 149 5 rfl).trans ((F29 149 5 rfl).trans ((F28 149 5 rfl).trans (f149_5 (h := h) hT)))) ?_
  refine am_e_iload_n n32_27 rfl ?_
  refine am_e_aload_n n32_28 rfl ?_
  refine am_e_getf (v := .ref 49) n32_29 rfl ((F30 48 5 rfl).trans ((F29 48 5 rfl).trans ((F28 48 5 rfl).trans (f48_5 (h := h) hT)))) ?_
  refine am_e_iload_n n32_30 rfl ?_
  refine am_e_iaload (v := 0) (q := 0) n32_31 rfl (by decide) (by decide) ((F30 49 0 rfl).trans ((F29 49 0 rfl).trans ((F28 49 0 rfl).trans (f49_0 (h := h) hT)))) ?_
  refine am_e_iastore (q := 0) n32_32 rfl (by decide) (by decide) ?_
  refine am_e_aload_n n32_33 rfl ?_
  refine am_e_getf (v := .ref 151) n32_34 rfl ((F30 149 6 rfl).trans ((F29 149 6 rfl).trans ((F28 149 6 rfl).trans (f149_6 (h := h) hT)))) ?_
  refine am_e_iload_n n32_35 rfl ?_
  refine am_e_aload_n n32_36 rfl ?_
  refine am_e_getf (v := .ref 50) n32_37 rfl ((F30 48 6 rfl).trans ((F29 48 6 rfl).trans ((F28 48 6 rfl).trans (f48_6 (h := h) hT)))) ?_
  refine am_e_iload_n n32_38 rfl ?_
  refine am_e_iaload (v := 0) (q := 0) n32_39 rfl (by decide) (by decide) ((F30 50 0 rfl).trans ((F29 50 0 rfl).trans ((F28 50 0 rfl).trans (f50_0 (h := h) hT)))) ?_
  refine am_e_iastore (q := 0) n32_40 rfl (by decide) (by decide) ?_
  refine am_e_aload_n n32_41 rfl ?_
  refine am_e_getf (v := .ref 152) n32_42 rfl ((F30 149 7 rfl).trans ((F29 149 7 rfl).trans ((F28 149 7 rfl).trans (f149_7 (h := h) hT)))) ?_
  refine am_e_iload_n n32_43 rfl ?_
  refine am_e_aload_n n32_44 rfl ?_
  refine am_e_getf (v := .ref 51) n32_45 rfl ((F30 48 7 rfl).trans ((F29 48 7 rfl).trans ((F28 48 7 rfl).trans (f48_7 (h := h) hT)))) ?_
  refine am_e_iload_n n32_46 rfl ?_
  refine am_e_iaload (v := 0) (q := 0) n32_47 rfl (by decide) (by decide) ((F30 51 0 rfl).trans ((F29 51 0 rfl).trans ((F28 51 0 rfl).trans (f51_0 (h := h) hT)))) ?_
  refine am_e_iastore (q := 0) n32_48 rfl (by decide) (by decide) ?_
  refine am_e_iinc (w := 1) (ls' := [(2, .int 1), (0, .ref 149), (1, .ref 48)]) n32_49 rfl rfl (by decide) rfl ?_
  refine am_e_goto c32_50 t32_50 ?_
  refine am_e_iload_n n32_22 rfl ?_
  refine am_e_iconst (w := 4) n32_23 rfl ?_
  refine am_e_cmpF n32_24 (am_c_geF (by decide)) ?_
  refine am_e_aload_n n32_25 rfl ?_
  refine am_e_getf (v := .ref 150) n32_26 rfl ((F30 149 5 rfl).trans ((F29 149 5 rfl).trans ((F28 149 5 rfl).trans (f149_5 (h := h) hT)))) ?_
  refine am_e_iload_n n32_27 rfl ?_
  refine am_e_aload_n n32_28 rfl ?_
  refine am_e_getf (v := .ref 49) n32_29 rfl ((F30 48 5 rfl).trans ((F29 48 5 rfl).trans ((F28 48 5 rfl).trans (f48_5 (h := h) hT)))) ?_
  refine am_e_iload_n n32_30 rfl ?_
  refine am_e_iaload (v := 0) (q := 1) n32_31 rfl (by decide) (by decide) ((F30 49 1 rfl).trans ((F29 49 1 rfl).trans ((F28 49 1 rfl).trans (f49_1 (h := h) hT)))) ?_
  refine am_e_iastore (q := 1) n32_32 rfl (by decide) (by decide) ?_
  refine am_e_aload_n n32_33 rfl ?_
  refine am_e_getf (v := .ref 151) n32_34 rfl ((F30 149 6 rfl).trans ((F29 149 6 rfl).trans ((F28 149 6 rfl).trans (f149_6 (h := h) hT)))) ?_
  refine am_e_iload_n n32_35 rfl ?_
  refine am_e_aload_n n32_36 rfl ?_
  refine am_e_getf (v := .ref 50) n32_37 rfl ((F30 48 6 rfl).trans ((F29 48 6 rfl).trans ((F28 48 6 rfl).trans (f48_6 (h := h) hT)))) ?_
  refine am_e_iload_n n32_38 rfl ?_
  refine am_e_iaload (v := 0) (q := 1) n32_39 rfl (by decide) (by decide) ((F30 50 1 rfl).trans ((F29 50 1 rfl).trans ((F28 50 1 rfl).trans (f50_1 (h := h) hT)))) ?_
  refine am_e_iastore (q := 1) n32_40 rfl (by decide) (by decide) ?_
  refine am_e_aload_n n32_41 rfl ?_
  refine am_e_getf (v := .ref 152) n32_42 rfl ((F30 149 7 rfl).trans ((F29 149 7 rfl).trans ((F28 149 7 rfl).trans (f149_7 (h := h) hT)))) ?_
  refine am_e_iload_n n32_43 rfl ?_
  refine am_e_aload_n n32_44 rfl ?_
  refine am_e_getf (v := .ref 51) n32_45 rfl ((F30 48 7 rfl).trans ((F29 48 7 rfl).trans ((F28 48 7 rfl).trans (f48_7 (h := h) hT)))) ?_
  refine am_e_iload_n n32_46 rfl ?_
  refine am_e_iaload (v := 0) (q := 1) n32_47 rfl (by decide) (by decide) ((F30 51 1 rfl).trans ((F29 51 1 rfl).trans ((F28 51 1 rfl).trans (f51_1 (h := h) hT)))) ?_
  refine am_e_iastore (q := 1) n32_48 rfl (by decide) (by decide) ?_
  refine am_e_iinc (w := 2) (ls' := [(2, .int 2), (0, .ref 149), (1, .ref 48)]) n32_49 rfl rfl (by decide) rfl ?_
  refine am_e_goto c32_50 t32_50 ?_
  refine am_e_iload_n n32_22 rfl ?_
  refine am_e_iconst (w := 4) n32_23 rfl ?_
  refine am_e_cmpF n32_24 (am_c_geF (by decide)) ?_
  refine am_e_aload_n n32_25 rfl ?_
  refine am_e_getf (v := .ref 150) n32_26 rfl ((F30 149 5 rfl).trans ((F29 149 5 rfl).trans ((F28 149 5 rfl).trans (f149_5 (h := h) hT)))) ?_
  refine am_e_iload_n n32_27 rfl ?_
  refine am_e_aload_n n32_28 rfl ?_
  refine am_e_getf (v := .ref 49) n32_29 rfl ((F30 48 5 rfl).trans ((F29 48 5 rfl).trans ((F28 48 5 rfl).trans (f48_5 (h := h) hT)))) ?_
  refine am_e_iload_n n32_30 rfl ?_
  refine am_e_iaload (v := 0) (q := 2) n32_31 rfl (by decide) (by decide) ((F30 49 2 rfl).trans ((F29 49 2 rfl).trans ((F28 49 2 rfl).trans (f49_2 (h := h) hT)))) ?_
  refine am_e_iastore (q := 2) n32_32 rfl (by decide) (by decide) ?_
  refine am_e_aload_n n32_33 rfl ?_
  refine am_e_getf (v := .ref 151) n32_34 rfl ((F30 149 6 rfl).trans ((F29 149 6 rfl).trans ((F28 149 6 rfl).trans (f149_6 (h := h) hT)))) ?_
  refine am_e_iload_n n32_35 rfl ?_
  refine am_e_aload_n n32_36 rfl ?_
  refine am_e_getf (v := .ref 50) n32_37 rfl ((F30 48 6 rfl).trans ((F29 48 6 rfl).trans ((F28 48 6 rfl).trans (f48_6 (h := h) hT)))) ?_
  refine am_e_iload_n n32_38 rfl ?_
  refine am_e_iaload (v := 0) (q := 2) n32_39 rfl (by decide) (by decide) ((F30 50 2 rfl).trans ((F29 50 2 rfl).trans ((F28 50 2 rfl).trans (f50_2 (h := h) hT)))) ?_
  refine am_e_iastore (q := 2) n32_40 rfl (by decide) (by decide) ?_
  refine am_e_aload_n n32_41 rfl ?_
  refine am_e_getf (v := .ref 152) n32_42 rfl ((F30 149 7 rfl).trans ((F29 149 7 rfl).trans ((F28 149 7 rfl).trans (f149_7 (h := h) hT)))) ?_
  refine am_e_iload_n n32_43 rfl ?_
  refine am_e_aload_n n32_44 rfl ?_
  refine am_e_getf (v := .ref 51) n32_45 rfl ((F30 48 7 rfl).trans ((F29 48 7 rfl).trans ((F28 48 7 rfl).trans (f48_7 (h := h) hT)))) ?_
  refine am_e_iload_n n32_46 rfl ?_
  refine am_e_iaload (v := 0) (q := 2) n32_47 rfl (by decide) (by decide) ((F30 51 2 rfl).trans ((F29 51 2 rfl).trans ((F28 51 2 rfl).trans (f51_2 (h := h) hT)))) ?_
  refine am_e_iastore (q := 2) n32_48 rfl (by decide) (by decide) ?_
  refine am_e_iinc (w := 3) (ls' := [(2, .int 3), (0, .ref 149), (1, .ref 48)]) n32_49 rfl rfl (by decide) rfl ?_
  refine am_e_goto c32_50 t32_50 ?_
  refine am_e_iload_n n32_22 rfl ?_
  refine am_e_iconst (w := 4) n32_23 rfl ?_
  refine am_e_cmpF n32_24 (am_c_geF (by decide)) ?_
  refine am_e_aload_n n32_25 rfl ?_
  refine am_e_getf (v := .ref 150) n32_26 rfl ((F30 149 5 rfl).trans ((F29 149 5 rfl).trans ((F28 149 5 rfl).trans (f149_5 (h := h) hT)))) ?_
  refine am_e_iload_n n32_27 rfl ?_
  refine am_e_aload_n n32_28 rfl ?_
  refine am_e_getf (v := .ref 49) n32_29 rfl ((F30 48 5 rfl).trans ((F29 48 5 rfl).trans ((F28 48 5 rfl).trans (f48_5 (h := h) hT)))) ?_
  refine am_e_iload_n n32_30 rfl ?_
  refine am_e_iaload (v := 0) (q := 3) n32_31 rfl (by decide) (by decide) ((F30 49 3 rfl).trans ((F29 49 3 rfl).trans ((F28 49 3 rfl).trans (f49_3 (h := h) hT)))) ?_
  refine am_e_iastore (q := 3) n32_32 rfl (by decide) (by decide) ?_
  refine am_e_aload_n n32_33 rfl ?_
  refine am_e_getf (v := .ref 151) n32_34 rfl ((F30 149 6 rfl).trans ((F29 149 6 rfl).trans ((F28 149 6 rfl).trans (f149_6 (h := h) hT)))) ?_
  refine am_e_iload_n n32_35 rfl ?_
  refine am_e_aload_n n32_36 rfl ?_
  refine am_e_getf (v := .ref 50) n32_37 rfl ((F30 48 6 rfl).trans ((F29 48 6 rfl).trans ((F28 48 6 rfl).trans (f48_6 (h := h) hT)))) ?_
  refine am_e_iload_n n32_38 rfl ?_
  refine am_e_iaload (v := 0) (q := 3) n32_39 rfl (by decide) (by decide) ((F30 50 3 rfl).trans ((F29 50 3 rfl).trans ((F28 50 3 rfl).trans (f50_3 (h := h) hT)))) ?_
  refine am_e_iastore (q := 3) n32_40 rfl (by decide) (by decide) ?_
  refine am_e_aload_n n32_41 rfl ?_
  refine am_e_getf (v := .ref 152) n32_42 rfl ((F30 149 7 rfl).trans ((F29 149 7 rfl).trans ((F28 149 7 rfl).trans (f149_7 (h := h) hT)))) ?_
  refine am_e_iload_n n32_43 rfl ?_
  refine am_e_aload_n n32_44 rfl ?_
  refine am_e_getf (v := .ref 51) n32_45 rfl ((F30 48 7 rfl).trans ((F29 48 7 rfl).trans ((F28 48 7 rfl).trans (f48_7 (h := h) hT)))) ?_
  refine am_e_iload_n n32_46 rfl ?_
  refine am_e_iaload (v := 0) (q := 3) n32_47 rfl (by decide) (by decide) ((F30 51 3 rfl).trans ((F29 51 3 rfl).trans ((F28 51 3 rfl).trans (f51_3 (h := h) hT)))) ?_
  refine am_e_iastore (q := 3) n32_48 rfl (by decide) (by decide) ?_
  refine am_e_iinc (w := 4) (ls' := [(2, .int 4), (0, .ref 149), (1, .ref 48)]) n32_49 rfl rfl (by decide) rfl ?_
  refine am_e_goto c32_50 t32_50 ?_
  refine am_e_iload_n n32_22 rfl ?_
  refine am_e_iconst (w := 4) n32_23 rfl ?_
  refine am_e_cmpT n32_24 (am_c_geT (by decide)) t32_24 ?_
  refine am_e_vret c32_51 rfl rfl ?_
  refine am_e_aload_n n31_7 rfl ?_
  refine am_e_aload_n n31_8 rfl ?_
  refine am_e_getf (v := .int (-1)) n31_9 rfl ((F30 2 18 rfl).trans ((F29 2 18 rfl).trans ((F28 2 18 rfl).trans (f2_18 (h := h) hT)))) ?_
  refine am_e_putf n31_10 rfl rfl ?_
  refine am_e_aload_n n31_11 rfl ?_
  refine am_e_iconst (w := 0) n31_12 rfl ?_
  refine am_e_putf n31_13 rfl rfl ?_
  refine am_e_aload_n n31_14 rfl ?_
  refine am_e_iconst (w := 0) n31_15 rfl ?_
  refine am_e_putf n31_16 rfl rfl ?_
  refine am_e_aload_n n31_17 rfl ?_
  refine am_e_ldc (w := 2147483647) n31_18 (by decide) ?_
  refine am_e_putf n31_19 rfl rfl ?_
  refine am_e_aload_n n31_20 rfl ?_
  refine am_e_ldc (w := 2147483647) n31_21 (by decide) ?_
  refine am_e_putf n31_22 rfl rfl ?_
  refine am_e_vret c31_23 rfl rfl ?_
  refine am_e_iconst (w := 0) n70_31 rfl ?_
  refine am_e_istore (ls' := [(8, .int 0), (7, .int 3), (6, .int 3), (0, .ref 0), (2, .int (nI n)), (3, .int (nI 0)), (4, .long dr30)]) n70_32 rfl rfl ?_
  refine am_Ek_ls (ls' := [(0, .ref 0), (2, .int (nI n)), (3, .int (nI 0)), (4, .long dr30), (6, .int 3), (7, .int 3), (8, .int (nI 0))]) ⟨rfl, rfl, rfl, rfl, rfl, rfl, rfl, trivial⟩ ?_
  refine am_cc_e (n := n) (b := 0) (s := 0) (t := 3) (i7 := 3) (dr := dr30) (by omega) (by omega) ⟨((F30 0 11 rfl).trans ((F29 0 11 rfl).trans ((F28 0 11 rfl).trans (f0_11 (h := h) hT)))), ((F30 0 2 rfl).trans ((F29 0 2 rfl).trans ((F28 0 2 rfl).trans (f0_2 (h := h) hT)))), ((F30 2 16 rfl).trans ((F29 2 16 rfl).trans ((F28 2 16 rfl).trans (f2_16 (h := h) hT)))), ((F30 148 1 rfl).trans ((F29 148 1 rfl).trans ((F28 148 1 rfl).trans (f148_1 (h := h) hT)))), rfl, rfl, ((F30 2 19 rfl).trans ((F29 2 19 rfl).trans ((F28 2 19 rfl).trans (f2_19 (h := h) hT)))), ((F30 11 7 rfl).trans ((F29 11 7 rfl).trans ((F28 11 7 rfl).trans (f11_7 (h := h) hT)))), ((F30 2 0 rfl).trans ((F29 2 0 rfl).trans ((F28 2 0 rfl).trans (f2_0 (h := h) hT)))), ((F30 11 6 rfl).trans ((F29 11 6 rfl).trans ((F28 11 6 rfl).trans (f11_6 (h := h) hT)))), ((F30 16 0 rfl).trans ((F29 16 0 rfl).trans ((F28 16 0 rfl).trans (f16_0 (h := h) hT)))), ((F30 11 4 rfl).trans ((F29 11 4 rfl).trans ((F28 11 4 rfl).trans (f11_4 (h := h) hT)))), ((F30 14 0 rfl).trans ((F29 14 0 rfl).trans ((F28 14 0 rfl).trans (f14_0 (h := h) hT)))), ((F30 11 5 rfl).trans ((F29 11 5 rfl).trans ((F28 11 5 rfl).trans (f11_5 (h := h) hT)))), ((F30 15 0 rfl).trans ((F29 15 0 rfl).trans ((F28 15 0 rfl).trans (f15_0 (h := h) hT)))), rfl, rfl, trivial⟩ rfl rfl rfl ?_
  intro h31 dr31 F31 qa31 qb31 qc31
  obtain ⟨l31, qc31⟩ := qc31
  refine am_e_aload_n n70_57 rfl ?_
  refine am_e_getf (v := .ref 148) n70_58 rfl ((F31 0 11 rfl).trans ((F30 0 11 rfl).trans ((F29 0 11 rfl).trans ((F28 0 11 rfl).trans (f0_11 (h := h) hT))))) ?_
  refine am_e_getf (v := .ref 149) n70_59 rfl ((F31 148 1 rfl).trans ((F30 148 1 rfl).trans ((F29 148 1 rfl).trans ((F28 148 1 rfl).trans (f148_1 (h := h) hT))))) ?_
  refine am_e_getf (v := .int 0) n70_60 rfl qa31 ?_
  refine am_e_iload_n n70_61 rfl ?_
  refine am_e_cmpF n70_62 (am_c_ltF (by decide)) ?_
  refine am_e_iinc (w := 4) (ls' := [(6, .int 4), (0, .ref 0), (2, .int (nI n)), (3, .int (nI 0)), (4, .long dr31), (7, .int 3), (8, .int (nI n))]) n70_63 rfl rfl (by decide) rfl ?_
  refine am_e_iinc (w := 4) (ls' := [(7, .int 4), (6, .int 4), (0, .ref 0), (2, .int (nI n)), (3, .int (nI 0)), (4, .long dr31), (8, .int (nI n))]) n70_64 rfl rfl (by decide) rfl ?_
  refine am_e_goto c70_65 t70_65 ?_
  refine am_e_iload n70_21 rfl ?_
  refine am_e_bipush (w := 10) n70_22 (by decide) ?_
  refine am_e_cmpF n70_23 (am_c_geF (by decide)) ?_
  refine am_e_aload_n n70_24 rfl ?_
  refine am_e_getf (v := .ref 148) n70_25 rfl ((F31 0 11 rfl).trans ((F30 0 11 rfl).trans ((F29 0 11 rfl).trans ((F28 0 11 rfl).trans (f0_11 (h := h) hT))))) ?_
  refine am_e_aload_n n70_26 rfl ?_
  refine am_e_getf (v := .ref 2) n70_27 rfl ((F31 0 2 rfl).trans ((F30 0 2 rfl).trans ((F29 0 2 rfl).trans ((F28 0 2 rfl).trans (f0_2 (h := h) hT))))) ?_
  refine am_e_aload_n n70_28 rfl ?_
  refine am_e_getf (v := .ref 48) n70_29 rfl ((F31 0 5 rfl).trans ((F30 0 5 rfl).trans ((F29 0 5 rfl).trans ((F28 0 5 rfl).trans (f0_5 (h := h) hT))))) ?_
  refine am_e_callV (L := [(0, .ref 148), (1, .ref 2), (2, .ref 48)]) n70_30 rfl rfl rfl rfl rfl rfl rfl rfl ?_
  refine am_e_aload_n n31_0 rfl ?_
  refine am_e_aload_n n31_1 rfl ?_
  refine am_e_putf n31_2 rfl rfl ?_
  refine am_e_aload_n n31_3 rfl ?_
  refine am_e_getf (v := .ref 149) n31_4 rfl ((F31 148 1 rfl).trans ((F30 148 1 rfl).trans ((F29 148 1 rfl).trans ((F28 148 1 rfl).trans (f148_1 (h := h) hT))))) ?_
  refine am_e_aload_n n31_5 rfl ?_
  refine am_e_callV (L := [(0, .ref 149), (1, .ref 48)]) n31_6 rfl rfl rfl rfl rfl rfl rfl rfl ?_
  refine am_e_aload_n n32_0 rfl ?_
  refine am_e_aload_n n32_1 rfl ?_
  refine am_e_getf (v := .int 0) n32_2 rfl ((F31 48 0 rfl).trans ((F30 48 0 rfl).trans ((F29 48 0 rfl).trans ((F28 48 0 rfl).trans (f48_0 (h := h) hT))))) ?_
  refine am_e_putf n32_3 rfl rfl ?_
  refine am_e_aload_n n32_4 rfl ?_
  refine am_e_aload_n n32_5 rfl ?_
  refine am_e_getf (v := .int 0) n32_6 rfl ((F31 48 1 rfl).trans ((F30 48 1 rfl).trans ((F29 48 1 rfl).trans ((F28 48 1 rfl).trans (f48_1 (h := h) hT))))) ?_
  refine am_e_putf n32_7 rfl rfl ?_
  refine am_e_aload_n n32_8 rfl ?_
  refine am_e_aload_n n32_9 rfl ?_
  refine am_e_getf (v := .int (-1)) n32_10 rfl ((F31 48 2 rfl).trans ((F30 48 2 rfl).trans ((F29 48 2 rfl).trans ((F28 48 2 rfl).trans (f48_2 (h := h) hT))))) ?_
  refine am_e_putf n32_11 rfl rfl ?_
  refine am_e_aload_n n32_12 rfl ?_
  refine am_e_aload_n n32_13 rfl ?_
  refine am_e_getf (v := .int 0) n32_14 rfl ((F31 48 3 rfl).trans ((F30 48 3 rfl).trans ((F29 48 3 rfl).trans ((F28 48 3 rfl).trans (f48_3 (h := h) hT))))) ?_
  refine am_e_putf n32_15 rfl rfl ?_
  refine am_e_aload_n n32_16 rfl ?_
  refine am_e_aload_n n32_17 rfl ?_
  refine am_e_getf (v := .int 0) n32_18 rfl ((F31 48 4 rfl).trans ((F30 48 4 rfl).trans ((F29 48 4 rfl).trans ((F28 48 4 rfl).trans (f48_4 (h := h) hT))))) ?_
  refine am_e_putf n32_19 rfl rfl ?_
  refine am_e_iconst (w := 0) n32_20 rfl ?_
  refine am_e_istore_n (ls' := [(2, .int 0), (0, .ref 149), (1, .ref 48)]) n32_21 rfl rfl ?_
  refine am_e_iload_n n32_22 rfl ?_
  refine am_e_iconst (w := 4) n32_23 rfl ?_
  refine am_e_cmpF n32_24 (am_c_geF (by decide)) ?_
  refine am_e_aload_n n32_25 rfl ?_
  refine am_e_getf (v := .ref 150) n32_26 rfl ((F31 149 5 rfl).trans ((F30 149 5 rfl).trans ((F29 149 5 rfl).trans ((F28 149 5 rfl).trans (f149_5 (h := h) hT))))) ?_
  refine am_e_iload_n n32_27 rfl ?_
  refine am_e_aload_n n32_28 rfl ?_
  refine am_e_getf (v := .ref 49) n32_29 rfl ((F31 48 5 rfl).trans ((F30 48 5 rfl).trans ((F29 48 5 rfl).trans ((F28 48 5 rfl).trans (f48_5 (h := h) hT))))) ?_
  refine am_e_iload_n n32_30 rfl ?_
  refine am_e_iaload (v := 0) (q := 0) n32_31 rfl (by decide) (by decide) ((F31 49 0 rfl).trans ((F30 49 0 rfl).trans ((F29 49 0 rfl).trans ((F28 49 0 rfl).trans (f49_0 (h := h) hT))))) ?_
  refine am_e_iastore (q := 0) n32_32 rfl (by decide) (by decide) ?_
  refine am_e_aload_n n32_33 rfl ?_
  refine am_e_getf (v := .ref 151) n32_34 rfl ((F31 149 6 rfl).trans ((F30 149 6 rfl).trans ((F29 149 6 rfl).trans ((F28 149 6 rfl).trans (f149_6 (h := h) hT))))) ?_
  refine am_e_iload_n n32_35 rfl ?_
  refine am_e_aload_n n32_36 rfl ?_
  refine am_e_getf (v := .ref 50) n32_37 rfl ((F31 48 6 rfl).trans ((F30 48 6 rfl).trans ((F29 48 6 rfl).trans ((F28 48 6 rfl).trans (f48_6 (h := h) hT))))) ?_
  refine am_e_iload_n n32_38 rfl ?_
  refine am_e_iaload (v := 0) (q := 0) n32_39 rfl (by decide) (by decide) ((F31 50 0 rfl).trans ((F30 50 0 rfl).trans ((F29 50 0 rfl).trans ((F28 50 0 rfl).trans (f50_0 (h := h) hT))))) ?_
  refine am_e_iastore (q := 0) n32_40 rfl (by decide) (by decide) ?_
  refine am_e_aload_n n32_41 rfl ?_
  refine am_e_getf (v := .ref 152) n32_42 rfl ((F31 149 7 rfl).trans ((F30 149 7 rfl).trans ((F29 149 7 rfl).trans ((F28 149 7 rfl).trans (f149_7 (h := h) hT))))) ?_
  refine am_e_iload_n n32_43 rfl ?_
  refine am_e_aload_n n32_44 rfl ?_
  refine am_e_getf (v := .ref 51) n32_45 rfl ((F31 48 7 rfl).trans ((F30 48 7 rfl).trans ((F29 48 7 rfl).trans ((F28 48 7 rfl).trans (f48_7 (h := h) hT))))) ?_
  refine am_e_iload_n n32_46 rfl ?_
  refine am_e_iaload (v := 0) (q := 0) n32_47 rfl (by decide) (by decide) ((F31 51 0 rfl).trans ((F30 51 0 rfl).trans ((F29 51 0 rfl).trans ((F28 51 0 rfl).trans (f51_0 (h := h) hT))))) ?_
  refine am_e_iastore (q := 0) n32_48 rfl (by decide) (by decide) ?_
  refine am_e_iinc (w := 1) (ls' := [(2, .int 1), (0, .ref 149), (1, .ref 48)]) n32_49 rfl rfl (by decide) rfl ?_
  refine am_e_goto c32_50 t32_50 ?_
  refine am_e_iload_n n32_22 rfl ?_
  refine am_e_iconst (w := 4) n32_23 rfl ?_
  refine am_e_cmpF n32_24 (am_c_geF (by decide)) ?_
  refine am_e_aload_n n32_25 rfl ?_
  refine am_e_getf (v := .ref 150) n32_26 rfl ((F31 149 5 rfl).trans ((F30 149 5 rfl).trans ((F29 149 5 rfl).trans ((F28 149 5 rfl).trans (f149_5 (h := h) hT))))) ?_
  refine am_e_iload_n n32_27 rfl ?_
  refine am_e_aload_n n32_28 rfl ?_
  refine am_e_getf (v := .ref 49) n32_29 rfl ((F31 48 5 rfl).trans ((F30 48 5 rfl).trans ((F29 48 5 rfl).trans ((F28 48 5 rfl).trans (f48_5 (h := h) hT))))) ?_
  refine am_e_iload_n n32_30 rfl ?_
  refine am_e_iaload (v := 0) (q := 1) n32_31 rfl (by decide) (by decide) ((F31 49 1 rfl).trans ((F30 49 1 rfl).trans ((F29 49 1 rfl).trans ((F28 49 1 rfl).trans (f49_1 (h := h) hT))))) ?_
  refine am_e_iastore (q := 1) n32_32 rfl (by decide) (by decide) ?_
  refine am_e_aload_n n32_33 rfl ?_
  refine am_e_getf (v := .ref 151) n32_34 rfl ((F31 149 6 rfl).trans ((F30 149 6 rfl).trans ((F29 149 6 rfl).trans ((F28 149 6 rfl).trans (f149_6 (h := h) hT))))) ?_
  refine am_e_iload_n n32_35 rfl ?_
  refine am_e_aload_n n32_36 rfl ?_
  refine am_e_getf (v := .ref 50) n32_37 rfl ((F31 48 6 rfl).trans ((F30 48 6 rfl).trans ((F29 48 6 rfl).trans ((F28 48 6 rfl).trans (f48_6 (h := h) hT))))) ?_
  refine am_e_iload_n n32_38 rfl ?_
  refine am_e_iaload (v := 0) (q := 1) n32_39 rfl (by decide) (by decide) ((F31 50 1 rfl).trans ((F30 50 1 rfl).trans ((F29 50 1 rfl).trans ((F28 50 1 rfl).trans (f50_1 (h := h) hT))))) ?_
  refine am_e_iastore (q := 1) n32_40 rfl (by decide) (by decide) ?_
  refine am_e_aload_n n32_41 rfl ?_
  refine am_e_getf (v := .ref 152) n32_42 rfl ((F31 149 7 rfl).trans ((F30 149 7 rfl).trans ((F29 149 7 rfl).trans ((F28 149 7 rfl).trans (f149_7 (h := h) hT))))) ?_
  refine am_e_iload_n n32_43 rfl ?_
  refine am_e_aload_n n32_44 rfl ?_
  refine am_e_getf (v := .ref 51) n32_45 rfl ((F31 48 7 rfl).trans ((F30 48 7 rfl).trans ((F29 48 7 rfl).trans ((F28 48 7 rfl).trans (f48_7 (h := h) hT))))) ?_
  refine am_e_iload_n n32_46 rfl ?_
  refine am_e_iaload (v := 0) (q := 1) n32_47 rfl (by decide) (by decide) ((F31 51 1 rfl).trans ((F30 51 1 rfl).trans ((F29 51 1 rfl).trans ((F28 51 1 rfl).trans (f51_1 (h := h) hT))))) ?_
  refine am_e_iastore (q := 1) n32_48 rfl (by decide) (by decide) ?_
  refine am_e_iinc (w := 2) (ls' := [(2, .int 2), (0, .ref 149), (1, .ref 48)]) n32_49 rfl rfl (by decide) rfl ?_
  refine am_e_goto c32_50 t32_50 ?_
  refine am_e_iload_n n32_22 rfl ?_
  refine am_e_iconst (w := 4) n32_23 rfl ?_
  refine am_e_cmpF n32_24 (am_c_geF (by decide)) ?_
  refine am_e_aload_n n32_25 rfl ?_
  refine am_e_getf (v := .ref 150) n32_26 rfl ((F31 149 5 rfl).trans ((F30 149 5 rfl).trans ((F29 149 5 rfl).trans ((F28 149 5 rfl).trans (f149_5 (h := h) hT))))) ?_
  refine am_e_iload_n n32_27 rfl ?_
  refine am_e_aload_n n32_28 rfl ?_
  refine am_e_getf (v := .ref 49) n32_29 rfl ((F31 48 5 rfl).trans ((F30 48 5 rfl).trans ((F29 48 5 rfl).trans ((F28 48 5 rfl).trans (f48_5 (h := h) hT))))) ?_
  refine am_e_iload_n n32_30 rfl ?_
  refine am_e_iaload (v := 0) (q := 2) n32_31 rfl (by decide) (by decide) ((F31 49 2 rfl).trans ((F30 49 2 rfl).trans ((F29 49 2 rfl).trans ((F28 49 2 rfl).trans (f49_2 (h := h) hT))))) ?_
  refine am_e_iastore (q := 2) n32_32 rfl (by decide) (by decide) ?_
  refine am_e_aload_n n32_33 rfl ?_
  refine am_e_getf (v := .ref 151) n32_34 rfl ((F31 149 6 rfl).trans ((F30 149 6 rfl).trans ((F29 149 6 rfl).trans ((F28 149 6 rfl).trans (f149_6 (h := h) hT))))) ?_
  refine am_e_iload_n n32_35 rfl ?_
  refine am_e_aload_n n32_36 rfl ?_
  refine am_e_getf (v := .ref 50) n32_37 rfl ((F31 48 6 rfl).trans ((F30 48 6 rfl).trans ((F29 48 6 rfl).trans ((F28 48 6 rfl).trans (f48_6 (h := h) hT))))) ?_
  refine am_e_iload_n n32_38 rfl ?_
  refine am_e_iaload (v := 0) (q := 2) n32_39 rfl (by decide) (by decide) ((F31 50 2 rfl).trans ((F30 50 2 rfl).trans ((F29 50 2 rfl).trans ((F28 50 2 rfl).trans (f50_2 (h := h) hT))))) ?_
  refine am_e_iastore (q := 2) n32_40 rfl (by decide) (by decide) ?_
  refine am_e_aload_n n32_41 rfl ?_
  refine am_e_getf (v := .ref 152) n32_42 rfl ((F31 149 7 rfl).trans ((F30 149 7 rfl).trans ((F29 149 7 rfl).trans ((F28 149 7 rfl).trans (f149_7 (h := h) hT))))) ?_
  refine am_e_iload_n n32_43 rfl ?_
  refine am_e_aload_n n32_44 rfl ?_
  refine am_e_getf (v := .ref 51) n32_45 rfl ((F31 48 7 rfl).trans ((F30 48 7 rfl).trans ((F29 48 7 rfl).trans ((F28 48 7 rfl).trans (f48_7 (h := h) hT))))) ?_
  refine am_e_iload_n n32_46 rfl ?_
  refine am_e_iaload (v := 0) (q := 2) n32_47 rfl (by decide) (by decide) ((F31 51 2 rfl).trans ((F30 51 2 rfl).trans ((F29 51 2 rfl).trans ((F28 51 2 rfl).trans (f51_2 (h := h) hT))))) ?_
  refine am_e_iastore (q := 2) n32_48 rfl (by decide) (by decide) ?_
  refine am_e_iinc (w := 3) (ls' := [(2, .int 3), (0, .ref 149), (1, .ref 48)]) n32_49 rfl rfl (by decide) rfl ?_
  refine am_e_goto c32_50 t32_50 ?_
  refine am_e_iload_n n32_22 rfl ?_
  refine am_e_iconst (w := 4) n32_23 rfl ?_
  refine am_e_cmpF n32_24 (am_c_geF (by decide)) ?_
  refine am_e_aload_n n32_25 rfl ?_
  refine am_e_getf (v := .ref 150) n32_26 rfl ((F31 149 5 rfl).trans ((F30 149 5 rfl).trans ((F29 149 5 rfl).trans ((F28 149 5 rfl).trans (f149_5 (h := h) hT))))) ?_
  refine am_e_iload_n n32_27 rfl ?_
  refine am_e_aload_n n32_28 rfl ?_
  refine am_e_getf (v := .ref 49) n32_29 rfl ((F31 48 5 rfl).trans ((F30 48 5 rfl).trans ((F29 48 5 rfl).trans ((F28 48 5 rfl).trans (f48_5 (h := h) hT))))) ?_
  refine am_e_iload_n n32_30 rfl ?_
  refine am_e_iaload (v := 0) (q := 3) n32_31 rfl (by decide) (by decide) ((F31 49 3 rfl).trans ((F30 49 3 rfl).trans ((F29 49 3 rfl).trans ((F28 49 3 rfl).trans (f49_3 (h := h) hT))))) ?_
  refine am_e_iastore (q := 3) n32_32 rfl (by decide) (by decide) ?_
  refine am_e_aload_n n32_33 rfl ?_
  refine am_e_getf (v := .ref 151) n32_34 rfl ((F31 149 6 rfl).trans ((F30 149 6 rfl).trans ((F29 149 6 rfl).trans ((F28 149 6 rfl).trans (f149_6 (h := h) hT))))) ?_
  refine am_e_iload_n n32_35 rfl ?_
  refine am_e_aload_n n32_36 rfl ?_
  refine am_e_getf (v := .ref 50) n32_37 rfl ((F31 48 6 rfl).trans ((F30 48 6 rfl).trans ((F29 48 6 rfl).trans ((F28 48 6 rfl).trans (f48_6 (h := h) hT))))) ?_
  refine am_e_iload_n n32_38 rfl ?_
  refine am_e_iaload (v := 0) (q := 3) n32_39 rfl (by decide) (by decide) ((F31 50 3 rfl).trans ((F30 50 3 rfl).trans ((F29 50 3 rfl).trans ((F28 50 3 rfl).trans (f50_3 (h := h) hT))))) ?_
  refine am_e_iastore (q := 3) n32_40 rfl (by decide) (by decide) ?_
  refine am_e_aload_n n32_41 rfl ?_
  refine am_e_getf (v := .ref 152) n32_42 rfl ((F31 149 7 rfl).trans ((F30 149 7 rfl).trans ((F29 149 7 rfl).trans ((F28 149 7 rfl).trans (f149_7 (h := h) hT))))) ?_
  refine am_e_iload_n n32_43 rfl ?_
  refine am_e_aload_n n32_44 rfl ?_
  refine am_e_getf (v := .ref 51) n32_45 rfl ((F31 48 7 rfl).trans ((F30 48 7 rfl).trans ((F29 48 7 rfl).trans ((F28 48 7 rfl).trans (f48_7 (h := h) hT))))) ?_
  refine am_e_iload_n n32_46 rfl ?_
  refine am_e_iaload (v := 0) (q := 3) n32_47 rfl (by decide) (by decide) ((F31 51 3 rfl).trans ((F30 51 3 rfl).trans ((F29 51 3 rfl).trans ((F28 51 3 rfl).trans (f51_3 (h := h) hT))))) ?_
  refine am_e_iastore (q := 3) n32_48 rfl (by decide) (by decide) ?_
  refine am_e_iinc (w := 4) (ls' := [(2, .int 4), (0, .ref 149), (1, .ref 48)]) n32_49 rfl rfl (by decide) rfl ?_
  refine am_e_goto c32_50 t32_50 ?_
  refine am_e_iload_n n32_22 rfl ?_
  refine am_e_iconst (w := 4) n32_23 rfl ?_
  refine am_e_cmpT n32_24 (am_c_geT (by decide)) t32_24 ?_
  refine am_e_vret c32_51 rfl rfl ?_
  refine am_e_aload_n n31_7 rfl ?_
  refine am_e_aload_n n31_8 rfl ?_
  refine am_e_getf (v := .int (-1)) n31_9 rfl ((F31 2 18 rfl).trans ((F30 2 18 rfl).trans ((F29 2 18 rfl).trans ((F28 2 18 rfl).trans (f2_18 (h := h) hT))))) ?_
  refine am_e_putf n31_10 rfl rfl ?_
  refine am_e_aload_n n31_11 rfl ?_
  refine am_e_iconst (w := 0) n31_12 rfl ?_
  refine am_e_putf n31_13 rfl rfl ?_
  refine am_e_aload_n n31_14 rfl ?_
  refine am_e_iconst (w := 0) n31_15 rfl ?_
  refine am_e_putf n31_16 rfl rfl ?_
  refine am_e_aload_n n31_17 rfl ?_
  refine am_e_ldc (w := 2147483647) n31_18 (by decide) ?_
  refine am_e_putf n31_19 rfl rfl ?_
  refine am_e_aload_n n31_20 rfl ?_
  refine am_e_ldc (w := 2147483647) n31_21 (by decide) ?_
  refine am_e_putf n31_22 rfl rfl ?_
  refine am_e_vret c31_23 rfl rfl ?_
  refine am_e_iconst (w := 0) n70_31 rfl ?_
  refine am_e_istore (ls' := [(8, .int 0), (7, .int 4), (6, .int 4), (0, .ref 0), (2, .int (nI n)), (3, .int (nI 0)), (4, .long dr31)]) n70_32 rfl rfl ?_
  refine am_Ek_ls (ls' := [(0, .ref 0), (2, .int (nI n)), (3, .int (nI 0)), (4, .long dr31), (6, .int 4), (7, .int 4), (8, .int (nI 0))]) ⟨rfl, rfl, rfl, rfl, rfl, rfl, rfl, trivial⟩ ?_
  refine am_cc_e (n := n) (b := 0) (s := 0) (t := 4) (i7 := 4) (dr := dr31) (by omega) (by omega) ⟨((F31 0 11 rfl).trans ((F30 0 11 rfl).trans ((F29 0 11 rfl).trans ((F28 0 11 rfl).trans (f0_11 (h := h) hT))))), ((F31 0 2 rfl).trans ((F30 0 2 rfl).trans ((F29 0 2 rfl).trans ((F28 0 2 rfl).trans (f0_2 (h := h) hT))))), ((F31 2 16 rfl).trans ((F30 2 16 rfl).trans ((F29 2 16 rfl).trans ((F28 2 16 rfl).trans (f2_16 (h := h) hT))))), ((F31 148 1 rfl).trans ((F30 148 1 rfl).trans ((F29 148 1 rfl).trans ((F28 148 1 rfl).trans (f148_1 (h := h) hT))))), rfl, rfl, ((F31 2 19 rfl).trans ((F30 2 19 rfl).trans ((F29 2 19 rfl).trans ((F28 2 19 rfl).trans (f2_19 (h := h) hT))))), ((F31 11 7 rfl).trans ((F30 11 7 rfl).trans ((F29 11 7 rfl).trans ((F28 11 7 rfl).trans (f11_7 (h := h) hT))))), ((F31 2 0 rfl).trans ((F30 2 0 rfl).trans ((F29 2 0 rfl).trans ((F28 2 0 rfl).trans (f2_0 (h := h) hT))))), ((F31 11 6 rfl).trans ((F30 11 6 rfl).trans ((F29 11 6 rfl).trans ((F28 11 6 rfl).trans (f11_6 (h := h) hT))))), ((F31 16 0 rfl).trans ((F30 16 0 rfl).trans ((F29 16 0 rfl).trans ((F28 16 0 rfl).trans (f16_0 (h := h) hT))))), ((F31 11 4 rfl).trans ((F30 11 4 rfl).trans ((F29 11 4 rfl).trans ((F28 11 4 rfl).trans (f11_4 (h := h) hT))))), ((F31 14 0 rfl).trans ((F30 14 0 rfl).trans ((F29 14 0 rfl).trans ((F28 14 0 rfl).trans (f14_0 (h := h) hT))))), ((F31 11 5 rfl).trans ((F30 11 5 rfl).trans ((F29 11 5 rfl).trans ((F28 11 5 rfl).trans (f11_5 (h := h) hT))))), ((F31 15 0 rfl).trans ((F30 15 0 rfl).trans ((F29 15 0 rfl).trans ((F28 15 0 rfl).trans (f15_0 (h := h) hT))))), rfl, rfl, trivial⟩ rfl rfl rfl ?_
  intro h32 dr32 F32 qa32 qb32 qc32
  obtain ⟨l32, qc32⟩ := qc32
  refine am_e_aload_n n70_57 rfl ?_
  refine am_e_getf (v := .ref 148) n70_58 rfl ((F32 0 11 rfl).trans ((F31 0 11 rfl).trans ((F30 0 11 rfl).trans ((F29 0 11 rfl).trans ((F28 0 11 rfl).trans (f0_11 (h := h) hT)))))) ?_
  refine am_e_getf (v := .ref 149) n70_59 rfl ((F32 148 1 rfl).trans ((F31 148 1 rfl).trans ((F30 148 1 rfl).trans ((F29 148 1 rfl).trans ((F28 148 1 rfl).trans (f148_1 (h := h) hT)))))) ?_
  refine am_e_getf (v := .int 0) n70_60 rfl qa32 ?_
  refine am_e_iload_n n70_61 rfl ?_
  refine am_e_cmpF n70_62 (am_c_ltF (by decide)) ?_
  refine am_e_iinc (w := 5) (ls' := [(6, .int 5), (0, .ref 0), (2, .int (nI n)), (3, .int (nI 0)), (4, .long dr32), (7, .int 4), (8, .int (nI n))]) n70_63 rfl rfl (by decide) rfl ?_
  refine am_e_iinc (w := 5) (ls' := [(7, .int 5), (6, .int 5), (0, .ref 0), (2, .int (nI n)), (3, .int (nI 0)), (4, .long dr32), (8, .int (nI n))]) n70_64 rfl rfl (by decide) rfl ?_
  refine am_e_goto c70_65 t70_65 ?_
  refine am_e_iload n70_21 rfl ?_
  refine am_e_bipush (w := 10) n70_22 (by decide) ?_
  refine am_e_cmpF n70_23 (am_c_geF (by decide)) ?_
  refine am_e_aload_n n70_24 rfl ?_
  refine am_e_getf (v := .ref 148) n70_25 rfl ((F32 0 11 rfl).trans ((F31 0 11 rfl).trans ((F30 0 11 rfl).trans ((F29 0 11 rfl).trans ((F28 0 11 rfl).trans (f0_11 (h := h) hT)))))) ?_
  refine am_e_aload_n n70_26 rfl ?_
  refine am_e_getf (v := .ref 2) n70_27 rfl ((F32 0 2 rfl).trans ((F31 0 2 rfl).trans ((F30 0 2 rfl).trans ((F29 0 2 rfl).trans ((F28 0 2 rfl).trans (f0_2 (h := h) hT)))))) ?_
  refine am_e_aload_n n70_28 rfl ?_
  refine am_e_getf (v := .ref 48) n70_29 rfl ((F32 0 5 rfl).trans ((F31 0 5 rfl).trans ((F30 0 5 rfl).trans ((F29 0 5 rfl).trans ((F28 0 5 rfl).trans (f0_5 (h := h) hT)))))) ?_
  refine am_e_callV (L := [(0, .ref 148), (1, .ref 2), (2, .ref 48)]) n70_30 rfl rfl rfl rfl rfl rfl rfl rfl ?_
  refine am_e_aload_n n31_0 rfl ?_
  refine am_e_aload_n n31_1 rfl ?_
  refine am_e_putf n31_2 rfl rfl ?_
  refine am_e_aload_n n31_3 rfl ?_
  refine am_e_getf (v := .ref 149) n31_4 rfl ((F32 148 1 rfl).trans ((F31 148 1 rfl).trans ((F30 148 1 rfl).trans ((F29 148 1 rfl).trans ((F28 148 1 rfl).trans (f148_1 (h := h) hT)))))) ?_
  refine am_e_aload_n n31_5 rfl ?_
  refine am_e_callV (L := [(0, .ref 149), (1, .ref 48)]) n31_6 rfl rfl rfl rfl rfl rfl rfl rfl ?_
  refine am_e_aload_n n32_0 rfl ?_
  refine am_e_aload_n n32_1 rfl ?_
  refine am_e_getf (v := .int 0) n32_2 rfl ((F32 48 0 rfl).trans ((F31 48 0 rfl).trans ((F30 48 0 rfl).trans ((F29 48 0 rfl).trans ((F28 48 0 rfl).trans (f48_0 (h := h) hT)))))) ?_
  refine am_e_putf n32_3 rfl rfl ?_
  refine am_e_aload_n n32_4 rfl ?_
  refine am_e_aload_n n32_5 rfl ?_
  refine am_e_getf (v := .int 0) n32_6 rfl ((F32 48 1 rfl).trans ((F31 48 1 rfl).trans ((F30 48 1 rfl).trans ((F29 48 1 rfl).trans ((F28 48 1 rfl).trans (f48_1 (h := h) hT)))))) ?_
  refine am_e_putf n32_7 rfl rfl ?_
  refine am_e_aload_n n32_8 rfl ?_
  refine am_e_aload_n n32_9 rfl ?_
  refine am_e_getf (v := .int (-1)) n32_10 rfl ((F32 48 2 rfl).trans ((F31 48 2 rfl).trans ((F30 48 2 rfl).trans ((F29 48 2 rfl).trans ((F28 48 2 rfl).trans (f48_2 (h := h) hT)))))) ?_
  refine am_e_putf n32_11 rfl rfl ?_
  refine am_e_aload_n n32_12 rfl ?_
  refine am_e_aload_n n32_13 rfl ?_
  refine am_e_getf (v := .int 0) n32_14 rfl ((F32 48 3 rfl).trans ((F31 48 3 rfl).trans ((F30 48 3 rfl).trans ((F29 48 3 rfl).trans ((F28 48 3 rfl).trans (f48_3 (h := h) hT)))))) ?_
  refine am_e_putf n32_15 rfl rfl ?_
  refine am_e_aload_n n32_16 rfl ?_
  refine am_e_aload_n n32_17 rfl ?_
  refine am_e_getf (v := .int 0) n32_18 rfl ((F32 48 4 rfl).trans ((F31 48 4 rfl).trans ((F30 48 4 rfl).trans ((F29 48 4 rfl).trans ((F28 48 4 rfl).trans (f48_4 (h := h) hT)))))) ?_
  refine am_e_putf n32_19 rfl rfl ?_
  refine am_e_iconst (w := 0) n32_20 rfl ?_
  refine am_e_istore_n (ls' := [(2, .int 0), (0, .ref 149), (1, .ref 48)]) n32_21 rfl rfl ?_
  refine am_e_iload_n n32_22 rfl ?_
  refine am_e_iconst (w := 4) n32_23 rfl ?_
  refine am_e_cmpF n32_24 (am_c_geF (by decide)) ?_
  refine am_e_aload_n n32_25 rfl ?_
  refine am_e_getf (v := .ref 150) n32_26 rfl ((F32 149 5 rfl).trans ((F31 149 5 rfl).trans ((F30 149 5 rfl).trans ((F29 149 5 rfl).trans ((F28 149 5 rfl).trans (f149_5 (h := h) hT)))))) ?_
  refine am_e_iload_n n32_27 rfl ?_
  refine am_e_aload_n n32_28 rfl ?_
  refine am_e_getf (v := .ref 49) n32_29 rfl ((F32 48 5 rfl).trans ((F31 48 5 rfl).trans ((F30 48 5 rfl).trans ((F29 48 5 rfl).trans ((F28 48 5 rfl).trans (f48_5 (h := h) hT)))))) ?_
  refine am_e_iload_n n32_30 rfl ?_
  refine am_e_iaload (v := 0) (q := 0) n32_31 rfl (by decide) (by decide) ((F32 49 0 rfl).trans ((F31 49 0 rfl).trans ((F30 49 0 rfl).trans ((F29 49 0 rfl).trans ((F28 49 0 rfl).trans (f49_0 (h := h) hT)))))) ?_
  refine am_e_iastore (q := 0) n32_32 rfl (by decide) (by decide) ?_
  refine am_e_aload_n n32_33 rfl ?_
  refine am_e_getf (v := .ref 151) n32_34 rfl ((F32 149 6 rfl).trans ((F31 149 6 rfl).trans ((F30 149 6 rfl).trans ((F29 149 6 rfl).trans ((F28 149 6 rfl).trans (f149_6 (h := h) hT)))))) ?_
  refine am_e_iload_n n32_35 rfl ?_
  refine am_e_aload_n n32_36 rfl ?_
  refine am_e_getf (v := .ref 50) n32_37 rfl ((F32 48 6 rfl).trans ((F31 48 6 rfl).trans ((F30 48 6 rfl).trans ((F29 48 6 rfl).trans ((F28 48 6 rfl).trans (f48_6 (h := h) hT)))))) ?_
  refine am_e_iload_n n32_38 rfl ?_
  refine am_e_iaload (v := 0) (q := 0) n32_39 rfl (by decide) (by decide) ((F32 50 0 rfl).trans ((F31 50 0 rfl).trans ((F30 50 0 rfl).trans ((F29 50 0 rfl).trans ((F28 50 0 rfl).trans (f50_0 (h := h) hT)))))) ?_
  refine am_e_iastore (q := 0) n32_40 rfl (by decide) (by decide) ?_
  refine am_e_aload_n n32_41 rfl ?_
  refine am_e_getf (v := .ref 152) n32_42 rfl ((F32 149 7 rfl).trans ((F31 149 7 rfl).trans ((F30 149 7 rfl).trans ((F29 149 7 rfl).trans ((F28 149 7 rfl).trans (f149_7 (h := h) hT)))))) ?_
  refine am_e_iload_n n32_43 rfl ?_
  refine am_e_aload_n n32_44 rfl ?_
  refine am_e_getf (v := .ref 51) n32_45 rfl ((F32 48 7 rfl).trans ((F31 48 7 rfl).trans ((F30 48 7 rfl).trans ((F29 48 7 rfl).trans ((F28 48 7 rfl).trans (f48_7 (h := h) hT)))))) ?_
  refine am_e_iload_n n32_46 rfl ?_
  refine am_e_iaload (v := 0) (q := 0) n32_47 rfl (by decide) (by decide) ((F32 51 0 rfl).trans ((F31 51 0 rfl).trans ((F30 51 0 rfl).trans ((F29 51 0 rfl).trans ((F28 51 0 rfl).trans (f51_0 (h := h) hT)))))) ?_
  refine am_e_iastore (q := 0) n32_48 rfl (by decide) (by decide) ?_
  refine am_e_iinc (w := 1) (ls' := [(2, .int 1), (0, .ref 149), (1, .ref 48)]) n32_49 rfl rfl (by decide) rfl ?_
  refine am_e_goto c32_50 t32_50 ?_
  refine am_e_iload_n n32_22 rfl ?_
  refine am_e_iconst (w := 4) n32_23 rfl ?_
  refine am_e_cmpF n32_24 (am_c_geF (by decide)) ?_
  refine am_e_aload_n n32_25 rfl ?_
  refine am_e_getf (v := .ref 150) n32_26 rfl ((F32 149 5 rfl).trans ((F31 149 5 rfl).trans ((F30 149 5 rfl).trans ((F29 149 5 rfl).trans ((F28 149 5 rfl).trans (f149_5 (h := h) hT)))))) ?_
  refine am_e_iload_n n32_27 rfl ?_
  refine am_e_aload_n n32_28 rfl ?_
  refine am_e_getf (v := .ref 49) n32_29 rfl ((F32 48 5 rfl).trans ((F31 48 5 rfl).trans ((F30 48 5 rfl).trans ((F29 48 5 rfl).trans ((F28 48 5 rfl).trans (f48_5 (h := h) hT)))))) ?_
  refine am_e_iload_n n32_30 rfl ?_
  refine am_e_iaload (v := 0) (q := 1) n32_31 rfl (by decide) (by decide) ((F32 49 1 rfl).trans ((F31 49 1 rfl).trans ((F30 49 1 rfl).trans ((F29 49 1 rfl).trans ((F28 49 1 rfl).trans (f49_1 (h := h) hT)))))) ?_
  refine am_e_iastore (q := 1) n32_32 rfl (by decide) (by decide) ?_
  refine am_e_aload_n n32_33 rfl ?_
  refine am_e_getf (v := .ref 151) n32_34 rfl ((F32 149 6 rfl).trans ((F31 149 6 rfl).trans ((F30 149 6 rfl).trans ((F29 149 6 rfl).trans ((F28 149 6 rfl).trans (f149_6 (h := h) hT)))))) ?_
  refine am_e_iload_n n32_35 rfl ?_
  refine am_e_aload_n n32_36 rfl ?_
  refine am_e_getf (v := .ref 50) n32_37 rfl ((F32 48 6 rfl).trans ((F31 48 6 rfl).trans ((F30 48 6 rfl).trans ((F29 48 6 rfl).trans ((F28 48 6 rfl).trans (f48_6 (h := h) hT)))))) ?_
  refine am_e_iload_n n32_38 rfl ?_
  refine am_e_iaload (v := 0) (q := 1) n32_39 rfl (by decide) (by decide) ((F32 50 1 rfl).trans ((F31 50 1 rfl).trans ((F30 50 1 rfl).trans ((F29 50 1 rfl).trans ((F28 50 1 rfl).trans (f50_1 (h := h) hT)))))) ?_
  refine am_e_iastore (q := 1) n32_40 rfl (by decide) (by decide) ?_
  refine am_e_aload_n n32_41 rfl ?_
  refine am_e_getf (v := .ref 152) n32_42 rfl ((F32 149 7 rfl).trans ((F31 149 7 rfl).trans ((F30 149 7 rfl).trans ((F29 149 7 rfl).trans ((F28 149 7 rfl).trans (f149_7 (h := h) hT)))))) ?_
  refine am_e_iload_n n32_43 rfl ?_
  refine am_e_aload_n n32_44 rfl ?_
  refine am_e_getf (v := .ref 51) n32_45 rfl ((F32 48 7 rfl).trans ((F31 48 7 rfl).trans ((F30 48 7 rfl).trans ((F29 48 7 rfl).trans ((F28 48 7 rfl).trans (f48_7 (h := h) hT)))))) ?_
  refine am_e_iload_n n32_46 rfl ?_
  refine am_e_iaload (v := 0) (q := 1) n32_47 rfl (by decide) (by decide) ((F32 51 1 rfl).trans ((F31 51 1 rfl).trans ((F30 51 1 rfl).trans ((F29 51 1 rfl).trans ((F28 51 1 rfl).trans (f51_1 (h := h) hT)))))) ?_
  refine am_e_iastore (q := 1) n32_48 rfl (by decide) (by decide) ?_
  refine am_e_iinc (w := 2) (ls' := [(2, .int 2), (0, .ref 149), (1, .ref 48)]) n32_49 rfl rfl (by decide) rfl ?_
  refine am_e_goto c32_50 t32_50 ?_
  refine am_e_iload_n n32_22 rfl ?_
  refine am_e_iconst (w := 4) n32_23 rfl ?_
  refine am_e_cmpF n32_24 (am_c_geF (by decide)) ?_
  refine am_e_aload_n n32_25 rfl ?_
  refine am_e_getf (v := .ref 150) n32_26 rfl ((F32 149 5 rfl).trans ((F31 149 5 rfl).trans ((F30 149 5 rfl).trans ((F29 149 5 rfl).trans ((F28 149 5 rfl).trans (f149_5 (h := h) hT)))))) ?_
  refine am_e_iload_n n32_27 rfl ?_
  refine am_e_aload_n n32_28 rfl ?_
  refine am_e_getf (v := .ref 49) n32_29 rfl ((F32 48 5 rfl).trans ((F31 48 5 rfl).trans ((F30 48 5 rfl).trans ((F29 48 5 rfl).trans ((F28 48 5 rfl).trans (f48_5 (h := h) hT)))))) ?_
  refine am_e_iload_n n32_30 rfl ?_
  refine am_e_iaload (v := 0) (q := 2) n32_31 rfl (by decide) (by decide) ((F32 49 2 rfl).trans ((F31 49 2 rfl).trans ((F30 49 2 rfl).trans ((F29 49 2 rfl).trans ((F28 49 2 rfl).trans (f49_2 (h := h) hT)))))) ?_
  refine am_e_iastore (q := 2) n32_32 rfl (by decide) (by decide) ?_
  refine am_e_aload_n n32_33 rfl ?_
  refine am_e_getf (v := .ref 151) n32_34 rfl ((F32 149 6 rfl).trans ((F31 149 6 rfl).trans ((F30 149 6 rfl).trans ((F29 149 6 rfl).trans ((F28 149 6 rfl).trans (f149_6 (h := h) hT)))))) ?_
  refine am_e_iload_n n32_35 rfl ?_
  refine am_e_aload_n n32_36 rfl ?_
  refine am_e_getf (v := .ref 50) n32_37 rfl ((F32 48 6 rfl).trans ((F31 48 6 rfl).trans ((F30 48 6 rfl).trans ((F29 48 6 rfl).trans ((F28 48 6 rfl).trans (f48_6 (h := h) hT)))))) ?_
  refine am_e_iload_n n32_38 rfl ?_
  refine am_e_iaload (v := 0) (q := 2) n32_39 rfl (by decide) (by decide) ((F32 50 2 rfl).trans ((F31 50 2 rfl).trans ((F30 50 2 rfl).trans ((F29 50 2 rfl).trans ((F28 50 2 rfl).trans (f50_2 (h := h) hT)))))) ?_
  refine am_e_iastore (q := 2) n32_40 rfl (by decide) (by decide) ?_
  refine am_e_aload_n n32_41 rfl ?_
  refine am_e_getf (v := .ref 152) n32_42 rfl ((F32 149 7 rfl).trans ((F31 149 7 rfl).trans ((F30 149 7 rfl).trans ((F29 149 7 rfl).trans ((F28 149 7 rfl).trans (f149_7 (h := h) hT)))))) ?_
  refine am_e_iload_n n32_43 rfl ?_
  refine am_e_aload_n n32_44 rfl ?_
  refine am_e_getf (v := .ref 51) n32_45 rfl ((F32 48 7 rfl).trans ((F31 48 7 rfl).trans ((F30 48 7 rfl).trans ((F29 48 7 rfl).trans ((F28 48 7 rfl).trans (f48_7 (h := h) hT)))))) ?_
  refine am_e_iload_n n32_46 rfl ?_
  refine am_e_iaload (v := 0) (q := 2) n32_47 rfl (by decide) (by decide) ((F32 51 2 rfl).trans ((F31 51 2 rfl).trans ((F30 51 2 rfl).trans ((F29 51 2 rfl).trans ((F28 51 2 rfl).trans (f51_2 (h := h) hT)))))) ?_
  refine am_e_iastore (q := 2) n32_48 rfl (by decide) (by decide) ?_
  refine am_e_iinc (w := 3) (ls' := [(2, .int 3), (0, .ref 149), (1, .ref 48)]) n32_49 rfl rfl (by decide) rfl ?_
  refine am_e_goto c32_50 t32_50 ?_
  refine am_e_iload_n n32_22 rfl ?_
  refine am_e_iconst (w := 4) n32_23 rfl ?_
  refine am_e_cmpF n32_24 (am_c_geF (by decide)) ?_
  refine am_e_aload_n n32_25 rfl ?_
  refine am_e_getf (v := .ref 150) n32_26 rfl ((F32 149 5 rfl).trans ((F31 149 5 rfl).trans ((F30 149 5 rfl).trans ((F29 149 5 rfl).trans ((F28 149 5 rfl).trans (f149_5 (h := h) hT)))))) ?_
  refine am_e_iload_n n32_27 rfl ?_
  refine am_e_aload_n n32_28 rfl ?_
  refine am_e_getf (v := .ref 49) n32_29 rfl ((F32 48 5 rfl).trans ((F31 48 5 rfl).trans ((F30 48 5 rfl).trans ((F29 48 5 rfl).trans ((F28 48 5 rfl).trans (f48_5 (h := h) hT)))))) ?_
  refine am_e_iload_n n32_30 rfl ?_
  refine am_e_iaload (v := 0) (q := 3) n32_31 rfl (by decide) (by decide) ((F32 49 3 rfl).trans ((F31 49 3 rfl).trans ((F30 49 3 rfl).trans ((F29 49 3 rfl).trans ((F28 49 3 rfl).trans (f49_3 (h := h) hT)))))) ?_
  refine am_e_iastore (q := 3) n32_32 rfl (by decide) (by decide) ?_
  refine am_e_aload_n n32_33 rfl ?_
  refine am_e_getf (v := .ref 151) n32_34 rfl ((F32 149 6 rfl).trans ((F31 149 6 rfl).trans ((F30 149 6 rfl).trans ((F29 149 6 rfl).trans ((F28 149 6 rfl).trans (f149_6 (h := h) hT)))))) ?_
  refine am_e_iload_n n32_35 rfl ?_
  refine am_e_aload_n n32_36 rfl ?_
  refine am_e_getf (v := .ref 50) n32_37 rfl ((F32 48 6 rfl).trans ((F31 48 6 rfl).trans ((F30 48 6 rfl).trans ((F29 48 6 rfl).trans ((F28 48 6 rfl).trans (f48_6 (h := h) hT)))))) ?_
  refine am_e_iload_n n32_38 rfl ?_
  refine am_e_iaload (v := 0) (q := 3) n32_39 rfl (by decide) (by decide) ((F32 50 3 rfl).trans ((F31 50 3 rfl).trans ((F30 50 3 rfl).trans ((F29 50 3 rfl).trans ((F28 50 3 rfl).trans (f50_3 (h := h) hT)))))) ?_
  refine am_e_iastore (q := 3) n32_40 rfl (by decide) (by decide) ?_
  refine am_e_aload_n n32_41 rfl ?_
  refine am_e_getf (v := .ref 152) n32_42 rfl ((F32 149 7 rfl).trans ((F31 149 7 rfl).trans ((F30 149 7 rfl).trans ((F29 149 7 rfl).trans ((F28 149 7 rfl).trans (f149_7 (h := h) hT)))))) ?_
  refine am_e_iload_n n32_43 rfl ?_
  refine am_e_aload_n n32_44 rfl ?_
  refine am_e_getf (v := .ref 51) n32_45 rfl ((F32 48 7 rfl).trans ((F31 48 7 rfl).trans ((F30 48 7 rfl).trans ((F29 48 7 rfl).trans ((F28 48 7 rfl).trans (f48_7 (h := h) hT)))))) ?_
  refine am_e_iload_n n32_46 rfl ?_
  refine am_e_iaload (v := 0) (q := 3) n32_47 rfl (by decide) (by decide) ((F32 51 3 rfl).trans ((F31 51 3 rfl).trans ((F30 51 3 rfl).trans ((F29 51 3 rfl).trans ((F28 51 3 rfl).trans (f51_3 (h := h) hT)))))) ?_
  refine am_e_iastore (q := 3) n32_48 rfl (by decide) (by decide) ?_
  refine am_e_iinc (w := 4) (ls' := [(2, .int 4), (0, .ref 149), (1, .ref 48)]) n32_49 rfl rfl (by decide) rfl ?_
  refine am_e_goto c32_50 t32_50 ?_
  refine am_e_iload_n n32_22 rfl ?_
  refine am_e_iconst (w := 4) n32_23 rfl ?_
  refine am_e_cmpT n32_24 (am_c_geT (by decide)) t32_24 ?_
  refine am_e_vret c32_51 rfl rfl ?_
  refine am_e_aload_n n31_7 rfl ?_
  refine am_e_aload_n n31_8 rfl ?_
  refine am_e_getf (v := .int (-1)) n31_9 rfl ((F32 2 18 rfl).trans ((F31 2 18 rfl).trans ((F30 2 18 rfl).trans ((F29 2 18 rfl).trans ((F28 2 18 rfl).trans (f2_18 (h := h) hT)))))) ?_
  refine am_e_putf n31_10 rfl rfl ?_
  refine am_e_aload_n n31_11 rfl ?_
  refine am_e_iconst (w := 0) n31_12 rfl ?_
  refine am_e_putf n31_13 rfl rfl ?_
  refine am_e_aload_n n31_14 rfl ?_
  refine am_e_iconst (w := 0) n31_15 rfl ?_
  refine am_e_putf n31_16 rfl rfl ?_
  refine am_e_aload_n n31_17 rfl ?_
  refine am_e_ldc (w := 2147483647) n31_18 (by decide) ?_
  refine am_e_putf n31_19 rfl rfl ?_
  refine am_e_aload_n n31_20 rfl ?_
  refine am_e_ldc (w := 2147483647) n31_21 (by decide) ?_
  refine am_e_putf n31_22 rfl rfl ?_
  refine am_e_vret c31_23 rfl rfl ?_
  refine am_e_iconst (w := 0) n70_31 rfl ?_
  refine am_e_istore (ls' := [(8, .int 0), (7, .int 5), (6, .int 5), (0, .ref 0), (2, .int (nI n)), (3, .int (nI 0)), (4, .long dr32)]) n70_32 rfl rfl ?_
  refine am_Ek_ls (ls' := [(0, .ref 0), (2, .int (nI n)), (3, .int (nI 0)), (4, .long dr32), (6, .int 5), (7, .int 5), (8, .int (nI 0))]) ⟨rfl, rfl, rfl, rfl, rfl, rfl, rfl, trivial⟩ ?_
  refine am_cc_e (n := n) (b := 0) (s := 0) (t := 5) (i7 := 5) (dr := dr32) (by omega) (by omega) ⟨((F32 0 11 rfl).trans ((F31 0 11 rfl).trans ((F30 0 11 rfl).trans ((F29 0 11 rfl).trans ((F28 0 11 rfl).trans (f0_11 (h := h) hT)))))), ((F32 0 2 rfl).trans ((F31 0 2 rfl).trans ((F30 0 2 rfl).trans ((F29 0 2 rfl).trans ((F28 0 2 rfl).trans (f0_2 (h := h) hT)))))), ((F32 2 16 rfl).trans ((F31 2 16 rfl).trans ((F30 2 16 rfl).trans ((F29 2 16 rfl).trans ((F28 2 16 rfl).trans (f2_16 (h := h) hT)))))), ((F32 148 1 rfl).trans ((F31 148 1 rfl).trans ((F30 148 1 rfl).trans ((F29 148 1 rfl).trans ((F28 148 1 rfl).trans (f148_1 (h := h) hT)))))), rfl, rfl, ((F32 2 19 rfl).trans ((F31 2 19 rfl).trans ((F30 2 19 rfl).trans ((F29 2 19 rfl).trans ((F28 2 19 rfl).trans (f2_19 (h := h) hT)))))), ((F32 11 7 rfl).trans ((F31 11 7 rfl).trans ((F30 11 7 rfl).trans ((F29 11 7 rfl).trans ((F28 11 7 rfl).trans (f11_7 (h := h) hT)))))), ((F32 2 0 rfl).trans ((F31 2 0 rfl).trans ((F30 2 0 rfl).trans ((F29 2 0 rfl).trans ((F28 2 0 rfl).trans (f2_0 (h := h) hT)))))), ((F32 11 6 rfl).trans ((F31 11 6 rfl).trans ((F30 11 6 rfl).trans ((F29 11 6 rfl).trans ((F28 11 6 rfl).trans (f11_6 (h := h) hT)))))), ((F32 16 0 rfl).trans ((F31 16 0 rfl).trans ((F30 16 0 rfl).trans ((F29 16 0 rfl).trans ((F28 16 0 rfl).trans (f16_0 (h := h) hT)))))), ((F32 11 4 rfl).trans ((F31 11 4 rfl).trans ((F30 11 4 rfl).trans ((F29 11 4 rfl).trans ((F28 11 4 rfl).trans (f11_4 (h := h) hT)))))), ((F32 14 0 rfl).trans ((F31 14 0 rfl).trans ((F30 14 0 rfl).trans ((F29 14 0 rfl).trans ((F28 14 0 rfl).trans (f14_0 (h := h) hT)))))), ((F32 11 5 rfl).trans ((F31 11 5 rfl).trans ((F30 11 5 rfl).trans ((F29 11 5 rfl).trans ((F28 11 5 rfl).trans (f11_5 (h := h) hT)))))), ((F32 15 0 rfl).trans ((F31 15 0 rfl).trans ((F30 15 0 rfl).trans ((F29 15 0 rfl).trans ((F28 15 0 rfl).trans (f15_0 (h := h) hT)))))), rfl, rfl, trivial⟩ rfl rfl rfl ?_
  intro h33 dr33 F33 qa33 qb33 qc33
  obtain ⟨l33, qc33⟩ := qc33
  refine am_e_aload_n n70_57 rfl ?_
  refine am_e_getf (v := .ref 148) n70_58 rfl ((F33 0 11 rfl).trans ((F32 0 11 rfl).trans ((F31 0 11 rfl).trans ((F30 0 11 rfl).trans ((F29 0 11 rfl).trans ((F28 0 11 rfl).trans (f0_11 (h := h) hT))))))) ?_
  refine am_e_getf (v := .ref 149) n70_59 rfl ((F33 148 1 rfl).trans ((F32 148 1 rfl).trans ((F31 148 1 rfl).trans ((F30 148 1 rfl).trans ((F29 148 1 rfl).trans ((F28 148 1 rfl).trans (f148_1 (h := h) hT))))))) ?_
  refine am_e_getf (v := .int 0) n70_60 rfl qa33 ?_
  refine am_e_iload_n n70_61 rfl ?_
  refine am_e_cmpF n70_62 (am_c_ltF (by decide)) ?_
  refine am_e_iinc (w := 6) (ls' := [(6, .int 6), (0, .ref 0), (2, .int (nI n)), (3, .int (nI 0)), (4, .long dr33), (7, .int 5), (8, .int (nI n))]) n70_63 rfl rfl (by decide) rfl ?_
  refine am_e_iinc (w := 6) (ls' := [(7, .int 6), (6, .int 6), (0, .ref 0), (2, .int (nI n)), (3, .int (nI 0)), (4, .long dr33), (8, .int (nI n))]) n70_64 rfl rfl (by decide) rfl ?_
  refine am_e_goto c70_65 t70_65 ?_
  refine am_e_iload n70_21 rfl ?_
  refine am_e_bipush (w := 10) n70_22 (by decide) ?_
  refine am_e_cmpF n70_23 (am_c_geF (by decide)) ?_
  refine am_e_aload_n n70_24 rfl ?_
  refine am_e_getf (v := .ref 148) n70_25 rfl ((F33 0 11 rfl).trans ((F32 0 11 rfl).trans ((F31 0 11 rfl).trans ((F30 0 11 rfl).trans ((F29 0 11 rfl).trans ((F28 0 11 rfl).trans (f0_11 (h := h) hT))))))) ?_
  refine am_e_aload_n n70_26 rfl ?_
  refine am_e_getf (v := .ref 2) n70_27 rfl ((F33 0 2 rfl).trans ((F32 0 2 rfl).trans ((F31 0 2 rfl).trans ((F30 0 2 rfl).trans ((F29 0 2 rfl).trans ((F28 0 2 rfl).trans (f0_2 (h := h) hT))))))) ?_
  refine am_e_aload_n n70_28 rfl ?_
  refine am_e_getf (v := .ref 48) n70_29 rfl ((F33 0 5 rfl).trans ((F32 0 5 rfl).trans ((F31 0 5 rfl).trans ((F30 0 5 rfl).trans ((F29 0 5 rfl).trans ((F28 0 5 rfl).trans (f0_5 (h := h) hT))))))) ?_
  refine am_e_callV (L := [(0, .ref 148), (1, .ref 2), (2, .ref 48)]) n70_30 rfl rfl rfl rfl rfl rfl rfl rfl ?_
  refine am_e_aload_n n31_0 rfl ?_
  refine am_e_aload_n n31_1 rfl ?_
  refine am_e_putf n31_2 rfl rfl ?_
  refine am_e_aload_n n31_3 rfl ?_
  refine am_e_getf (v := .ref 149) n31_4 rfl ((F33 148 1 rfl).trans ((F32 148 1 rfl).trans ((F31 148 1 rfl).trans ((F30 148 1 rfl).trans ((F29 148 1 rfl).trans ((F28 148 1 rfl).trans (f148_1 (h := h) hT))))))) ?_
  refine am_e_aload_n n31_5 rfl ?_
  refine am_e_callV (L := [(0, .ref 149), (1, .ref 48)]) n31_6 rfl rfl rfl rfl rfl rfl rfl rfl ?_
  refine am_e_aload_n n32_0 rfl ?_
  refine am_e_aload_n n32_1 rfl ?_
  refine am_e_getf (v := .int 0) n32_2 rfl ((F33 48 0 rfl).trans ((F32 48 0 rfl).trans ((F31 48 0 rfl).trans ((F30 48 0 rfl).trans ((F29 48 0 rfl).trans ((F28 48 0 rfl).trans (f48_0 (h := h) hT))))))) ?_
  refine am_e_putf n32_3 rfl rfl ?_
  refine am_e_aload_n n32_4 rfl ?_
  refine am_e_aload_n n32_5 rfl ?_
  refine am_e_getf (v := .int 0) n32_6 rfl ((F33 48 1 rfl).trans ((F32 48 1 rfl).trans ((F31 48 1 rfl).trans ((F30 48 1 rfl).trans ((F29 48 1 rfl).trans ((F28 48 1 rfl).trans (f48_1 (h := h) hT))))))) ?_
  refine am_e_putf n32_7 rfl rfl ?_
  refine am_e_aload_n n32_8 rfl ?_
  refine am_e_aload_n n32_9 rfl ?_
  refine am_e_getf (v := .int (-1)) n32_10 rfl ((F33 48 2 rfl).trans ((F32 48 2 rfl).trans ((F31 48 2 rfl).trans ((F30 48 2 rfl).trans ((F29 48 2 rfl).trans ((F28 48 2 rfl).trans (f48_2 (h := h) hT))))))) ?_
  refine am_e_putf n32_11 rfl rfl ?_
  refine am_e_aload_n n32_12 rfl ?_
  refine am_e_aload_n n32_13 rfl ?_
  refine am_e_getf (v := .int 0) n32_14 rfl ((F33 48 3 rfl).trans ((F32 48 3 rfl).trans ((F31 48 3 rfl).trans ((F30 48 3 rfl).trans ((F29 48 3 rfl).trans ((F28 48 3 rfl).trans (f48_3 (h := h) hT))))))) ?_
  refine am_e_putf n32_15 rfl rfl ?_
  refine am_e_aload_n n32_16 rfl ?_
  refine am_e_aload_n n32_17 rfl ?_
  refine am_e_getf (v := .int 0) n32_18 rfl ((F33 48 4 rfl).trans ((F32 48 4 rfl).trans ((F31 48 4 rfl).trans ((F30 48 4 rfl).trans ((F29 48 4 rfl).trans ((F28 48 4 rfl).trans (f48_4 (h := h) hT))))))) ?_
  refine am_e_putf n32_19 rfl rfl ?_
  refine am_e_iconst (w := 0) n32_20 rfl ?_
  refine am_e_istore_n (ls' := [(2, .int 0), (0, .ref 149), (1, .ref 48)]) n32_21 rfl rfl ?_
  refine am_e_iload_n n32_22 rfl ?_
  refine am_e_iconst (w := 4) n32_23 rfl ?_
  refine am_e_cmpF n32_24 (am_c_geF (by decide)) ?_
  refine am_e_aload_n n32_25 rfl ?_
  refine am_e_getf (v := .ref 150) n32_26 rfl ((F33 149 5 rfl).trans ((F32 149 5 rfl).trans ((F31 149 5 rfl).trans ((F30 149 5 rfl).trans ((F29 149 5 rfl).trans ((F28 149 5 rfl).trans (f149_5 (h := h) hT))))))) ?_
  refine am_e_iload_n n32_27 rfl ?_
  refine am_e_aload_n n32_28 rfl ?_
  refine am_e_getf (v := .ref 49) n32_29 rfl ((F33 48 5 rfl).trans ((F32 48 5 rfl).trans ((F31 48 5 rfl).trans ((F30 48 5 rfl).trans ((F29 48 5 rfl).trans ((F28 48 5 rfl).trans (f48_5 (h := h) hT))))))) ?_
  refine am_e_iload_n n32_30 rfl ?_
  refine am_e_iaload (v := 0) (q := 0) n32_31 rfl (by decide) (by decide) ((F33 49 0 rfl).trans ((F32 49 0 rfl).trans ((F31 49 0 rfl).trans ((F30 49 0 rfl).trans ((F29 49 0 rfl).trans ((F28 49 0 rfl).trans (f49_0 (h := h) hT))))))) ?_
  refine am_e_iastore (q := 0) n32_32 rfl (by decide) (by decide) ?_
  refine am_e_aload_n n32_33 rfl ?_
  refine am_e_getf (v := .ref 151) n32_34 rfl ((F33 149 6 rfl).trans ((F32 149 6 rfl).trans ((F31 149 6 rfl).trans ((F30 149 6 rfl).trans ((F29 149 6 rfl).trans ((F28 149 6 rfl).trans (f149_6 (h := h) hT))))))) ?_
  refine am_e_iload_n n32_35 rfl ?_
  refine am_e_aload_n n32_36 rfl ?_
  refine am_e_getf (v := .ref 50) n32_37 rfl ((F33 48 6 rfl).trans ((F32 48 6 rfl).trans ((F31 48 6 rfl).trans ((F30 48 6 rfl).trans ((F29 48 6 rfl).trans ((F28 48 6 rfl).trans (f48_6 (h := h) hT))))))) ?_
  refine am_e_iload_n n32_38 rfl ?_
  refine am_e_iaload (v := 0) (q := 0) n32_39 rfl (by decide) (by decide) ((F33 50 0 rfl).trans ((F32 50 0 rfl).trans ((F31 50 0 rfl).trans ((F30 50 0 rfl).trans ((F29 50 0 rfl).trans ((F28 50 0 rfl).trans (f50_0 (h := h) hT))))))) ?_
  refine am_e_iastore (q := 0) n32_40 rfl (by decide) (by decide) ?_
  refine am_e_aload_n n32_41 rfl ?_
  refine am_e_getf (v := .ref 152) n32_42 rfl ((F33 149 7 rfl).trans ((F32 149 7 rfl).trans ((F31 149 7 rfl).trans ((F30 149 7 rfl).trans ((F29 149 7 rfl).trans ((F28 149 7 rfl).trans (f149_7 (h := h) hT))))))) ?_
  refine am_e_iload_n n32_43 rfl ?_
  refine am_e_aload_n n32_44 rfl ?_
  refine am_e_getf (v := .ref 51) n32_45 rfl ((F33 48 7 rfl).trans ((F32 48 7 rfl).trans ((F31 48 7 rfl).trans ((F30 48 7 rfl).trans ((F29 48 7 rfl).trans ((F28 48 7 rfl).trans (f48_7 (h := h) hT))))))) ?_
  refine am_e_iload_n n32_46 rfl ?_
  refine am_e_iaload (v := 0) (q := 0) n32_47 rfl (by decide) (by decide) ((F33 51 0 rfl).trans ((F32 51 0 rfl).trans ((F31 51 0 rfl).trans ((F30 51 0 rfl).trans ((F29 51 0 rfl).trans ((F28 51 0 rfl).trans (f51_0 (h := h) hT))))))) ?_
  refine am_e_iastore (q := 0) n32_48 rfl (by decide) (by decide) ?_
  refine am_e_iinc (w := 1) (ls' := [(2, .int 1), (0, .ref 149), (1, .ref 48)]) n32_49 rfl rfl (by decide) rfl ?_
  refine am_e_goto c32_50 t32_50 ?_
  refine am_e_iload_n n32_22 rfl ?_
  refine am_e_iconst (w := 4) n32_23 rfl ?_
  refine am_e_cmpF n32_24 (am_c_geF (by decide)) ?_
  refine am_e_aload_n n32_25 rfl ?_
  refine am_e_getf (v := .ref 150) n32_26 rfl ((F33 149 5 rfl).trans ((F32 149 5 rfl).trans ((F31 149 5 rfl).trans ((F30 149 5 rfl).trans ((F29 149 5 rfl).trans ((F28 149 5 rfl).trans (f149_5 (h := h) hT))))))) ?_
  refine am_e_iload_n n32_27 rfl ?_
  refine am_e_aload_n n32_28 rfl ?_
  refine am_e_getf (v := .ref 49) n32_29 rfl ((F33 48 5 rfl).trans ((F32 48 5 rfl).trans ((F31 48 5 rfl).trans ((F30 48 5 rfl).trans ((F29 48 5 rfl).trans ((F28 48 5 rfl).trans (f48_5 (h := h) hT))))))) ?_
  refine am_e_iload_n n32_30 rfl ?_
  refine am_e_iaload (v := 0) (q := 1) n32_31 rfl (by decide) (by decide) ((F33 49 1 rfl).trans ((F32 49 1 rfl).trans ((F31 49 1 rfl).trans ((F30 49 1 rfl).trans ((F29 49 1 rfl).trans ((F28 49 1 rfl).trans (f49_1 (h := h) hT))))))) ?_
  refine am_e_iastore (q := 1) n32_32 rfl (by decide) (by decide) ?_
  refine am_e_aload_n n32_33 rfl ?_
  refine am_e_getf (v := .ref 151) n32_34 rfl ((F33 149 6 rfl).trans ((F32 149 6 rfl).trans ((F31 149 6 rfl).trans ((F30 149 6 rfl).trans ((F29 149 6 rfl).trans ((F28 149 6 rfl).trans (f149_6 (h := h) hT))))))) ?_
  refine am_e_iload_n n32_35 rfl ?_
  refine am_e_aload_n n32_36 rfl ?_
  refine am_e_getf (v := .ref 50) n32_37 rfl ((F33 48 6 rfl).trans ((F32 48 6 rfl).trans ((F31 48 6 rfl).trans ((F30 48 6 rfl).trans ((F29 48 6 rfl).trans ((F28 48 6 rfl).trans (f48_6 (h := h) hT))))))) ?_
  refine am_e_iload_n n32_38 rfl ?_
  refine am_e_iaload (v := 0) (q := 1) n32_39 rfl (by decide) (by decide) ((F33 50 1 rfl).trans ((F32 50 1 rfl).trans ((F31 50 1 rfl).trans ((F30 50 1 rfl).trans ((F29 50 1 rfl).trans ((F28 50 1 rfl).trans (f50_1 (h := h) hT))))))) ?_
  refine am_e_iastore (q := 1) n32_40 rfl (by decide) (by decide) ?_
  refine am_e_aload_n n32_41 rfl ?_
  refine am_e_getf (v := .ref 152) n32_42 rfl ((F33 149 7 rfl).trans ((F32 149 7 rfl).trans ((F31 149 7 rfl).trans ((F30 149 7 rfl).trans ((F29 149 7 rfl).trans ((F28 149 7 rfl).trans (f149_7 (h := h) hT))))))) ?_
  refine am_e_iload_n n32_43 rfl ?_
  refine am_e_aload_n n32_44 rfl ?_
  refine am_e_getf (v := .ref 51) n32_45 rfl ((F33 48 7 rfl).trans ((F32 48 7 rfl).trans ((F31 48 7 rfl).trans ((F30 48 7 rfl).trans ((F29 48 7 rfl).trans ((F28 48 7 rfl).trans (f48_7 (h := h) hT))))))) ?_
  refine am_e_iload_n n32_46 rfl ?_
  refine am_e_iaload (v := 0) (q := 1) n32_47 rfl (by decide) (by decide) ((F33 51 1 rfl).trans ((F32 51 1 rfl).trans ((F31 51 1 rfl).trans ((F30 51 1 rfl).trans ((F29 51 1 rfl).trans ((F28 51 1 rfl).trans (f51_1 (h := h) hT))))))) ?_
  refine am_e_iastore (q := 1) n32_48 rfl (by decide) (by decide) ?_
  refine am_e_iinc (w := 2) (ls' := [(2, .int 2), (0, .ref 149), (1, .ref 48)]) n32_49 rfl rfl (by decide) rfl ?_
  refine am_e_goto c32_50 t32_50 ?_
  refine am_e_iload_n n32_22 rfl ?_
  refine am_e_iconst (w := 4) n32_23 rfl ?_
  refine am_e_cmpF n32_24 (am_c_geF (by decide)) ?_
  refine am_e_aload_n n32_25 rfl ?_
  refine am_e_getf (v := .ref 150) n32_26 rfl ((F33 149 5 rfl).trans ((F32 149 5 rfl).trans ((F31 149 5 rfl).trans ((F30 149 5 rfl).trans ((F29 149 5 rfl).trans ((F28 149 5 rfl).trans (f149_5 (h := h) hT))))))) ?_
  refine am_e_iload_n n32_27 rfl ?_
  refine am_e_aload_n n32_28 rfl ?_
  refine am_e_getf (v := .ref 49) n32_29 rfl ((F33 48 5 rfl).trans ((F32 48 5 rfl).trans ((F31 48 5 rfl).trans ((F30 48 5 rfl).trans ((F29 48 5 rfl).trans ((F28 48 5 rfl).trans (f48_5 (h := h) hT))))))) ?_
  refine am_e_iload_n n32_30 rfl ?_
  refine am_e_iaload (v := 0) (q := 2) n32_31 rfl (by decide) (by decide) ((F33 49 2 rfl).trans ((F32 49 2 rfl).trans ((F31 49 2 rfl).trans ((F30 49 2 rfl).trans ((F29 49 2 rfl).trans ((F28 49 2 rfl).trans (f49_2 (h := h) hT))))))) ?_
  refine am_e_iastore (q := 2) n32_32 rfl (by decide) (by decide) ?_
  refine am_e_aload_n n32_33 rfl ?_
  refine am_e_getf (v := .ref 151) n32_34 rfl ((F33 149 6 rfl).trans ((F32 149 6 rfl).trans ((F31 149 6 rfl).trans ((F30 149 6 rfl).trans ((F29 149 6 rfl).trans ((F28 149 6 rfl).trans (f149_6 (h := h) hT))))))) ?_
  refine am_e_iload_n n32_35 rfl ?_
  refine am_e_aload_n n32_36 rfl ?_
  refine am_e_getf (v := .ref 50) n32_37 rfl ((F33 48 6 rfl).trans ((F32 48 6 rfl).trans ((F31 48 6 rfl).trans ((F30 48 6 rfl).trans ((F29 48 6 rfl).trans ((F28 48 6 rfl).trans (f48_6 (h := h) hT))))))) ?_
  refine am_e_iload_n n32_38 rfl ?_
  refine am_e_iaload (v := 0) (q := 2) n32_39 rfl (by decide) (by decide) ((F33 50 2 rfl).trans ((F32 50 2 rfl).trans ((F31 50 2 rfl).trans ((F30 50 2 rfl).trans ((F29 50 2 rfl).trans ((F28 50 2 rfl).trans (f50_2 (h := h) hT))))))) ?_
  refine am_e_iastore (q := 2) n32_40 rfl (by decide) (by decide) ?_
  refine am_e_aload_n n32_41 rfl ?_
  refine am_e_getf (v := .ref 152) n32_42 rfl ((F33 149 7 rfl).trans ((F32 149 7 rfl).trans ((F31 149 7 rfl).trans ((F30 149 7 rfl).trans ((F29 149 7 rfl).trans ((F28 149 7 rfl).trans (f149_7 (h := h) hT))))))) ?_
  refine am_e_iload_n n32_43 rfl ?_
  refine am_e_aload_n n32_44 rfl ?_
  refine am_e_getf (v := .ref 51) n32_45 rfl ((F33 48 7 rfl).trans ((F32 48 7 rfl).trans ((F31 48 7 rfl).trans ((F30 48 7 rfl).trans ((F29 48 7 rfl).trans ((F28 48 7 rfl).trans (f48_7 (h := h) hT))))))) ?_
  refine am_e_iload_n n32_46 rfl ?_
  refine am_e_iaload (v := 0) (q := 2) n32_47 rfl (by decide) (by decide) ((F33 51 2 rfl).trans ((F32 51 2 rfl).trans ((F31 51 2 rfl).trans ((F30 51 2 rfl).trans ((F29 51 2 rfl).trans ((F28 51 2 rfl).trans (f51_2 (h := h) hT))))))) ?_
  refine am_e_iastore (q := 2) n32_48 rfl (by decide) (by decide) ?_
  refine am_e_iinc (w := 3) (ls' := [(2, .int 3), (0, .ref 149), (1, .ref 48)]) n32_49 rfl rfl (by decide) rfl ?_
  refine am_e_goto c32_50 t32_50 ?_
  refine am_e_iload_n n32_22 rfl ?_
  refine am_e_iconst (w := 4) n32_23 rfl ?_
  refine am_e_cmpF n32_24 (am_c_geF (by decide)) ?_
  refine am_e_aload_n n32_25 rfl ?_
  refine am_e_getf (v := .ref 150) n32_26 rfl ((F33 149 5 rfl).trans ((F32 149 5 rfl).trans ((F31 149 5 rfl).trans ((F30 149 5 rfl).trans ((F29 149 5 rfl).trans ((F28 149 5 rfl).trans (f149_5 (h := h) hT))))))) ?_
  refine am_e_iload_n n32_27 rfl ?_
  refine am_e_aload_n n32_28 rfl ?_
  refine am_e_getf (v := .ref 49) n32_29 rfl ((F33 48 5 rfl).trans ((F32 48 5 rfl).trans ((F31 48 5 rfl).trans ((F30 48 5 rfl).trans ((F29 48 5 rfl).trans ((F28 48 5 rfl).trans (f48_5 (h := h) hT))))))) ?_
  refine am_e_iload_n n32_30 rfl ?_
  refine am_e_iaload (v := 0) (q := 3) n32_31 rfl (by decide) (by decide) ((F33 49 3 rfl).trans ((F32 49 3 rfl).trans ((F31 49 3 rfl).trans ((F30 49 3 rfl).trans ((F29 49 3 rfl).trans ((F28 49 3 rfl).trans (f49_3 (h := h) hT))))))) ?_
  refine am_e_iastore (q := 3) n32_32 rfl (by decide) (by decide) ?_
  refine am_e_aload_n n32_33 rfl ?_
  refine am_e_getf (v := .ref 151) n32_34 rfl ((F33 149 6 rfl).trans ((F32 149 6 rfl).trans ((F31 149 6 rfl).trans ((F30 149 6 rfl).trans ((F29 149 6 rfl).trans ((F28 149 6 rfl).trans (f149_6 (h := h) hT))))))) ?_
  refine am_e_iload_n n32_35 rfl ?_
  refine am_e_aload_n n32_36 rfl ?_
  refine am_e_getf (v := .ref 50) n32_37 rfl ((F33 48 6 rfl).trans ((F32 48 6 rfl).trans ((F31 48 6 rfl).trans ((F30 48 6 rfl).trans ((F29 48 6 rfl).trans ((F28 48 6 rfl).trans (f48_6 (h := h) hT))))))) ?_
  refine am_e_iload_n n32_38 rfl ?_
  refine am_e_iaload (v := 0) (q := 3) n32_39 rfl (by decide) (by decide) ((F33 50 3 rfl).trans ((F32 50 3 rfl).trans ((F31 50 3 rfl).trans ((F30 50 3 rfl).trans ((F29 50 3 rfl).trans ((F28 50 3 rfl).trans (f50_3 (h := h) hT))))))) ?_
  refine am_e_iastore (q := 3) n32_40 rfl (by decide) (by decide) ?_
  refine am_e_aload_n n32_41 rfl ?_
  refine am_e_getf (v := .ref 152) n32_42 rfl ((F33 149 7 rfl).trans ((F32 149 7 rfl).trans ((F31 149 7 rfl).trans ((F30 149 7 rfl).trans ((F29 149 7 rfl).trans ((F28 149 7 rfl).trans (f149_7 (h := h) hT))))))) ?_
  refine am_e_iload_n n32_43 rfl ?_
  refine am_e_aload_n n32_44 rfl ?_
  refine am_e_getf (v := .ref 51) n32_45 rfl ((F33 48 7 rfl).trans ((F32 48 7 rfl).trans ((F31 48 7 rfl).trans ((F30 48 7 rfl).trans ((F29 48 7 rfl).trans ((F28 48 7 rfl).trans (f48_7 (h := h) hT))))))) ?_
  refine am_e_iload_n n32_46 rfl ?_
  refine am_e_iaload (v := 0) (q := 3) n32_47 rfl (by decide) (by decide) ((F33 51 3 rfl).trans ((F32 51 3 rfl).trans ((F31 51 3 rfl).trans ((F30 51 3 rfl).trans ((F29 51 3 rfl).trans ((F28 51 3 rfl).trans (f51_3 (h := h) hT))))))) ?_
  refine am_e_iastore (q := 3) n32_48 rfl (by decide) (by decide) ?_
  refine am_e_iinc (w := 4) (ls' := [(2, .int 4), (0, .ref 149), (1, .ref 48)]) n32_49 rfl rfl (by decide) rfl ?_
  refine am_e_goto c32_50 t32_50 ?_
  refine am_e_iload_n n32_22 rfl ?_
  refine am_e_iconst (w := 4) n32_23 rfl ?_
  refine am_e_cmpT n32_24 (am_c_geT (by decide)) t32_24 ?_
  refine am_e_vret c32_51 rfl rfl ?_
  refine am_e_aload_n n31_7 rfl ?_
  refine am_e_aload_n n31_8 rfl ?_
  refine am_e_getf (v := .int (-1)) n31_9 rfl ((F33 2 18 rfl).trans ((F32 2 18 rfl).trans ((F31 2 18 rfl).trans ((F30 2 18 rfl).trans ((F29 2 18 rfl).trans ((F28 2 18 rfl).trans (f2_18 (h := h) hT))))))) ?_
  refine am_e_putf n31_10 rfl rfl ?_
  refine am_e_aload_n n31_11 rfl ?_
  refine am_e_iconst (w := 0) n31_12 rfl ?_
  refine am_e_putf n31_13 rfl rfl ?_
  refine am_e_aload_n n31_14 rfl ?_
  refine am_e_iconst (w := 0) n31_15 rfl ?_
  refine am_e_putf n31_16 rfl rfl ?_
  refine am_e_aload_n n31_17 rfl ?_
  refine am_e_ldc (w := 2147483647) n31_18 (by decide) ?_
  refine am_e_putf n31_19 rfl rfl ?_
  refine am_e_aload_n n31_20 rfl ?_
  refine am_e_ldc (w := 2147483647) n31_21 (by decide) ?_
  refine am_e_putf n31_22 rfl rfl ?_
  refine am_e_vret c31_23 rfl rfl ?_
  refine am_e_iconst (w := 0) n70_31 rfl ?_
  refine am_e_istore (ls' := [(8, .int 0), (7, .int 6), (6, .int 6), (0, .ref 0), (2, .int (nI n)), (3, .int (nI 0)), (4, .long dr33)]) n70_32 rfl rfl ?_
  refine am_Ek_ls (ls' := [(0, .ref 0), (2, .int (nI n)), (3, .int (nI 0)), (4, .long dr33), (6, .int 6), (7, .int 6), (8, .int (nI 0))]) ⟨rfl, rfl, rfl, rfl, rfl, rfl, rfl, trivial⟩ ?_
  refine am_cc_e (n := n) (b := 0) (s := 0) (t := 6) (i7 := 6) (dr := dr33) (by omega) (by omega) ⟨((F33 0 11 rfl).trans ((F32 0 11 rfl).trans ((F31 0 11 rfl).trans ((F30 0 11 rfl).trans ((F29 0 11 rfl).trans ((F28 0 11 rfl).trans (f0_11 (h := h) hT))))))), ((F33 0 2 rfl).trans ((F32 0 2 rfl).trans ((F31 0 2 rfl).trans ((F30 0 2 rfl).trans ((F29 0 2 rfl).trans ((F28 0 2 rfl).trans (f0_2 (h := h) hT))))))), ((F33 2 16 rfl).trans ((F32 2 16 rfl).trans ((F31 2 16 rfl).trans ((F30 2 16 rfl).trans ((F29 2 16 rfl).trans ((F28 2 16 rfl).trans (f2_16 (h := h) hT))))))), ((F33 148 1 rfl).trans ((F32 148 1 rfl).trans ((F31 148 1 rfl).trans ((F30 148 1 rfl).trans ((F29 148 1 rfl).trans ((F28 148 1 rfl).trans (f148_1 (h := h) hT))))))), rfl, rfl, ((F33 2 19 rfl).trans ((F32 2 19 rfl).trans ((F31 2 19 rfl).trans ((F30 2 19 rfl).trans ((F29 2 19 rfl).trans ((F28 2 19 rfl).trans (f2_19 (h := h) hT))))))), ((F33 11 7 rfl).trans ((F32 11 7 rfl).trans ((F31 11 7 rfl).trans ((F30 11 7 rfl).trans ((F29 11 7 rfl).trans ((F28 11 7 rfl).trans (f11_7 (h := h) hT))))))), ((F33 2 0 rfl).trans ((F32 2 0 rfl).trans ((F31 2 0 rfl).trans ((F30 2 0 rfl).trans ((F29 2 0 rfl).trans ((F28 2 0 rfl).trans (f2_0 (h := h) hT))))))), ((F33 11 6 rfl).trans ((F32 11 6 rfl).trans ((F31 11 6 rfl).trans ((F30 11 6 rfl).trans ((F29 11 6 rfl).trans ((F28 11 6 rfl).trans (f11_6 (h := h) hT))))))), ((F33 16 0 rfl).trans ((F32 16 0 rfl).trans ((F31 16 0 rfl).trans ((F30 16 0 rfl).trans ((F29 16 0 rfl).trans ((F28 16 0 rfl).trans (f16_0 (h := h) hT))))))), ((F33 11 4 rfl).trans ((F32 11 4 rfl).trans ((F31 11 4 rfl).trans ((F30 11 4 rfl).trans ((F29 11 4 rfl).trans ((F28 11 4 rfl).trans (f11_4 (h := h) hT))))))), ((F33 14 0 rfl).trans ((F32 14 0 rfl).trans ((F31 14 0 rfl).trans ((F30 14 0 rfl).trans ((F29 14 0 rfl).trans ((F28 14 0 rfl).trans (f14_0 (h := h) hT))))))), ((F33 11 5 rfl).trans ((F32 11 5 rfl).trans ((F31 11 5 rfl).trans ((F30 11 5 rfl).trans ((F29 11 5 rfl).trans ((F28 11 5 rfl).trans (f11_5 (h := h) hT))))))), ((F33 15 0 rfl).trans ((F32 15 0 rfl).trans ((F31 15 0 rfl).trans ((F30 15 0 rfl).trans ((F29 15 0 rfl).trans ((F28 15 0 rfl).trans (f15_0 (h := h) hT))))))), rfl, rfl, trivial⟩ rfl rfl rfl ?_
  intro h34 dr34 F34 qa34 qb34 qc34
  obtain ⟨l34, qc34⟩ := qc34
  refine am_e_aload_n n70_57 rfl ?_
  refine am_e_getf (v := .ref 148) n70_58 rfl ((F34 0 11 rfl).trans ((F33 0 11 rfl).trans ((F32 0 11 rfl).trans ((F31 0 11 rfl).trans ((F30 0 11 rfl).trans ((F29 0 11 rfl).trans ((F28 0 11 rfl).trans (f0_11 (h := h) hT)))))))) ?_
  refine am_e_getf (v := .ref 149) n70_59 rfl ((F34 148 1 rfl).trans ((F33 148 1 rfl).trans ((F32 148 1 rfl).trans ((F31 148 1 rfl).trans ((F30 148 1 rfl).trans ((F29 148 1 rfl).trans ((F28 148 1 rfl).trans (f148_1 (h := h) hT)))))))) ?_
  refine am_e_getf (v := .int 0) n70_60 rfl qa34 ?_
  refine am_e_iload_n n70_61 rfl ?_
  refine am_e_cmpF n70_62 (am_c_ltF (by decide)) ?_
  refine am_e_iinc (w := 7) (ls' := [(6, .int 7), (0, .ref 0), (2, .int (nI n)), (3, .int (nI 0)), (4, .long dr34), (7, .int 6), (8, .int (nI n))]) n70_63 rfl rfl (by decide) rfl ?_
  refine am_e_iinc (w := 7) (ls' := [(7, .int 7), (6, .int 7), (0, .ref 0), (2, .int (nI n)), (3, .int (nI 0)), (4, .long dr34), (8, .int (nI n))]) n70_64 rfl rfl (by decide) rfl ?_
  refine am_e_goto c70_65 t70_65 ?_
  refine am_e_iload n70_21 rfl ?_
  refine am_e_bipush (w := 10) n70_22 (by decide) ?_
  refine am_e_cmpF n70_23 (am_c_geF (by decide)) ?_
  refine am_e_aload_n n70_24 rfl ?_
  refine am_e_getf (v := .ref 148) n70_25 rfl ((F34 0 11 rfl).trans ((F33 0 11 rfl).trans ((F32 0 11 rfl).trans ((F31 0 11 rfl).trans ((F30 0 11 rfl).trans ((F29 0 11 rfl).trans ((F28 0 11 rfl).trans (f0_11 (h := h) hT)))))))) ?_
  refine am_e_aload_n n70_26 rfl ?_
  refine am_e_getf (v := .ref 2) n70_27 rfl ((F34 0 2 rfl).trans ((F33 0 2 rfl).trans ((F32 0 2 rfl).trans ((F31 0 2 rfl).trans ((F30 0 2 rfl).trans ((F29 0 2 rfl).trans ((F28 0 2 rfl).trans (f0_2 (h := h) hT)))))))) ?_
  refine am_e_aload_n n70_28 rfl ?_
  refine am_e_getf (v := .ref 48) n70_29 rfl ((F34 0 5 rfl).trans ((F33 0 5 rfl).trans ((F32 0 5 rfl).trans ((F31 0 5 rfl).trans ((F30 0 5 rfl).trans ((F29 0 5 rfl).trans ((F28 0 5 rfl).trans (f0_5 (h := h) hT)))))))) ?_
  refine am_e_callV (L := [(0, .ref 148), (1, .ref 2), (2, .ref 48)]) n70_30 rfl rfl rfl rfl rfl rfl rfl rfl ?_
  refine am_e_aload_n n31_0 rfl ?_
  refine am_e_aload_n n31_1 rfl ?_
  refine am_e_putf n31_2 rfl rfl ?_
  refine am_e_aload_n n31_3 rfl ?_
  refine am_e_getf (v := .ref 149) n31_4 rfl ((F34 148 1 rfl).trans ((F33 148 1 rfl).trans ((F32 148 1 rfl).trans ((F31 148 1 rfl).trans ((F30 148 1 rfl).trans ((F29 148 1 rfl).trans ((F28 148 1 rfl).trans (f148_1 (h := h) hT)))))))) ?_
  refine am_e_aload_n n31_5 rfl ?_
  refine am_e_callV (L := [(0, .ref 149), (1, .ref 48)]) n31_6 rfl rfl rfl rfl rfl rfl rfl rfl ?_
  refine am_e_aload_n n32_0 rfl ?_
  refine am_e_aload_n n32_1 rfl ?_
  refine am_e_getf (v := .int 0) n32_2 rfl ((F34 48 0 rfl).trans ((F33 48 0 rfl).trans ((F32 48 0 rfl).trans ((F31 48 0 rfl).trans ((F30 48 0 rfl).trans ((F29 48 0 rfl).trans ((F28 48 0 rfl).trans (f48_0 (h := h) hT)))))))) ?_
  refine am_e_putf n32_3 rfl rfl ?_
  refine am_e_aload_n n32_4 rfl ?_
  refine am_e_aload_n n32_5 rfl ?_
  refine am_e_getf (v := .int 0) n32_6 rfl ((F34 48 1 rfl).trans ((F33 48 1 rfl).trans ((F32 48 1 rfl).trans ((F31 48 1 rfl).trans ((F30 48 1 rfl).trans ((F29 48 1 rfl).trans ((F28 48 1 rfl).trans (f48_1 (h := h) hT)))))))) ?_
  refine am_e_putf n32_7 rfl rfl ?_
  refine am_e_aload_n n32_8 rfl ?_
  refine am_e_aload_n n32_9 rfl ?_
  refine am_e_getf (v := .int (-1)) n32_10 rfl ((F34 48 2 rfl).trans ((F33 48 2 rfl).trans ((F32 48 2 rfl).trans ((F31 48 2 rfl).trans ((F30 48 2 rfl).trans ((F29 48 2 rfl).trans ((F28 48 2 rfl).trans (f48_2 (h := h) hT)))))))) ?_
  refine am_e_putf n32_11 rfl rfl ?_
  refine am_e_aload_n n32_12 rfl ?_
  refine am_e_aload_n n32_13 rfl ?_
  refine am_e_getf (v := .int 0) n32_14 rfl ((F34 48 3 rfl).trans ((F33 48 3 rfl).trans ((F32 48 3 rfl).trans ((F31 48 3 rfl).trans ((F30 48 3 rfl).trans ((F29 48 3 rfl).trans ((F28 48 3 rfl).trans (f48_3 (h := h) hT)))))))) ?_
  refine am_e_putf n32_15 rfl rfl ?_
  refine am_e_aload_n n32_16 rfl ?_
  refine am_e_aload_n n32_17 rfl ?_
  refine am_e_getf (v := .int 0) n32_18 rfl ((F34 48 4 rfl).trans ((F33 48 4 rfl).trans ((F32 48 4 rfl).trans ((F31 48 4 rfl).trans ((F30 48 4 rfl).trans ((F29 48 4 rfl).trans ((F28 48 4 rfl).trans (f48_4 (h := h) hT)))))))) ?_
  refine am_e_putf n32_19 rfl rfl ?_
  refine am_e_iconst (w := 0) n32_20 rfl ?_
  refine am_e_istore_n (ls' := [(2, .int 0), (0, .ref 149), (1, .ref 48)]) n32_21 rfl rfl ?_
  refine am_e_iload_n n32_22 rfl ?_
  refine am_e_iconst (w := 4) n32_23 rfl ?_
  refine am_e_cmpF n32_24 (am_c_geF (by decide)) ?_
  refine am_e_aload_n n32_25 rfl ?_
  refine am_e_getf (v := .ref 150) n32_26 rfl ((F34 149 5 rfl).trans ((F33 149 5 rfl).trans ((F32 149 5 rfl).trans ((F31 149 5 rfl).trans ((F30 149 5 rfl).trans ((F29 149 5 rfl).trans ((F28 149 5 rfl).trans (f149_5 (h := h) hT)))))))) ?_
  refine am_e_iload_n n32_27 rfl ?_
  refine am_e_aload_n n32_28 rfl ?_
  refine am_e_getf (v := .ref 49) n32_29 rfl ((F34 48 5 rfl).trans ((F33 48 5 rfl).trans ((F32 48 5 rfl).trans ((F31 48 5 rfl).trans ((F30 48 5 rfl).trans ((F29 48 5 rfl).trans ((F28 48 5 rfl).trans (f48_5 (h := h) hT)))))))) ?_
  refine am_e_iload_n n32_30 rfl ?_
  refine am_e_iaload (v := 0) (q := 0) n32_31 rfl (by decide) (by decide) ((F34 49 0 rfl).trans ((F33 49 0 rfl).trans ((F32 49 0 rfl).trans ((F31 49 0 rfl).trans ((F30 49 0 rfl).trans ((F29 49 0 rfl).trans ((F28 49 0 rfl).trans (f49_0 (h := h) hT)))))))) ?_
  refine am_e_iastore (q := 0) n32_32 rfl (by decide) (by decide) ?_
  refine am_e_aload_n n32_33 rfl ?_
  refine am_e_getf (v := .ref 151) n32_34 rfl ((F34 149 6 rfl).trans ((F33 149 6 rfl).trans ((F32 149 6 rfl).trans ((F31 149 6 rfl).trans ((F30 149 6 rfl).trans ((F29 149 6 rfl).trans ((F28 149 6 rfl).trans (f149_6 (h := h) hT)))))))) ?_
  refine am_e_iload_n n32_35 rfl ?_
  refine am_e_aload_n n32_36 rfl ?_
  refine am_e_getf (v := .ref 50) n32_37 rfl ((F34 48 6 rfl).trans ((F33 48 6 rfl).trans ((F32 48 6 rfl).trans ((F31 48 6 rfl).trans ((F30 48 6 rfl).trans ((F29 48 6 rfl).trans ((F28 48 6 rfl).trans (f48_6 (h := h) hT)))))))) ?_
  refine am_e_iload_n n32_38 rfl ?_
  refine am_e_iaload (v := 0) (q := 0) n32_39 rfl (by decide) (by decide) ((F34 50 0 rfl).trans ((F33 50 0 rfl).trans ((F32 50 0 rfl).trans ((F31 50 0 rfl).trans ((F30 50 0 rfl).trans ((F29 50 0 rfl).trans ((F28 50 0 rfl).trans (f50_0 (h := h) hT)))))))) ?_
  refine am_e_iastore (q := 0) n32_40 rfl (by decide) (by decide) ?_
  refine am_e_aload_n n32_41 rfl ?_
  refine am_e_getf (v := .ref 152) n32_42 rfl ((F34 149 7 rfl).trans ((F33 149 7 rfl).trans ((F32 149 7 rfl).trans ((F31 149 7 rfl).trans ((F30 149 7 rfl).trans ((F29 149 7 rfl).trans ((F28 149 7 rfl).trans (f149_7 (h := h) hT)))))))) ?_
  refine am_e_iload_n n32_43 rfl ?_
  refine am_e_aload_n n32_44 rfl ?_
  refine am_e_getf (v := .ref 51) n32_45 rfl ((F34 48 7 rfl).trans ((F33 48 7 rfl).trans ((F32 48 7 rfl).trans ((F31 48 7 rfl).trans ((F30 48 7 rfl).trans ((F29 48 7 rfl).trans ((F28 48 7 rfl).trans (f48_7 (h := h) hT)))))))) ?_
  refine am_e_iload_n n32_46 rfl ?_
  refine am_e_iaload (v := 0) (q := 0) n32_47 rfl (by decide) (by decide) ((F34 51 0 rfl).trans ((F33 51 0 rfl).trans ((F32 51 0 rfl).trans ((F31 51 0 rfl).trans ((F30 51 0 rfl).trans ((F29 51 0 rfl).trans ((F28 51 0 rfl).trans (f51_0 (h := h) hT)))))))) ?_
  refine am_e_iastore (q := 0) n32_48 rfl (by decide) (by decide) ?_
  refine am_e_iinc (w := 1) (ls' := [(2, .int 1), (0, .ref 149), (1, .ref 48)]) n32_49 rfl rfl (by decide) rfl ?_
  refine am_e_goto c32_50 t32_50 ?_
  refine am_e_iload_n n32_22 rfl ?_
  refine am_e_iconst (w := 4) n32_23 rfl ?_
  refine am_e_cmpF n32_24 (am_c_geF (by decide)) ?_
  refine am_e_aload_n n32_25 rfl ?_
  refine am_e_getf (v := .ref 150) n32_26 rfl ((F34 149 5 rfl).trans ((F33 149 5 rfl).trans ((F32 149 5 rfl).trans ((F31 149 5 rfl).trans ((F30 149 5 rfl).trans ((F29 149 5 rfl).trans ((F28 149 5 rfl).trans (f149_5 (h := h) hT)))))))) ?_
  refine am_e_iload_n n32_27 rfl ?_
  refine am_e_aload_n n32_28 rfl ?_
  refine am_e_getf (v := .ref 49) n32_29 rfl ((F34 48 5 rfl).trans ((F33 48 5 rfl).trans ((F32 48 5 rfl).trans ((F31 48 5 rfl).trans ((F30 48 5 rfl).trans ((F29 48 5 rfl).trans ((F28 48 5 rfl).trans (f48_5 (h := h) hT)))))))) ?_
  refine am_e_iload_n n32_30 rfl ?_
  refine am_e_iaload (v := 0) (q := 1) n32_31 rfl (by decide) (by decide) ((F34 49 1 rfl).trans ((F33 49 1 rfl).trans ((F32 49 1 rfl).trans ((F31 49 1 rfl).trans ((F30 49 1 rfl).trans ((F29 49 1 rfl).trans ((F28 49 1 rfl).trans (f49_1 (h := h) hT)))))))) ?_
  refine am_e_iastore (q := 1) n32_32 rfl (by decide) (by decide) ?_
  refine am_e_aload_n n32_33 rfl ?_
  refine am_e_getf (v := .ref 151) n32_34 rfl ((F34 149 6 rfl).trans ((F33 149 6 rfl).trans ((F32 149 6 rfl).trans ((F31 149 6 rfl).trans ((F30 149 6 rfl).trans ((F29 149 6 rfl).trans ((F28 149 6 rfl).trans (f149_6 (h := h) hT)))))))) ?_
  refine am_e_iload_n n32_35 rfl ?_
  refine am_e_aload_n n32_36 rfl ?_
  refine am_e_getf (v := .ref 50) n32_37 rfl ((F34 48 6 rfl).trans ((F33 48 6 rfl).trans ((F32 48 6 rfl).trans ((F31 48 6 rfl).trans ((F30 48 6 rfl).trans ((F29 48 6 rfl).trans ((F28 48 6 rfl).trans (f48_6 (h := h) hT)))))))) ?_
  refine am_e_iload_n n32_38 rfl ?_
  refine am_e_iaload (v := 0) (q := 1) n32_39 rfl (by decide) (by decide) ((F34 50 1 rfl).trans ((F33 50 1 rfl).trans ((F32 50 1 rfl).trans ((F31 50 1 rfl).trans ((F30 50 1 rfl).trans ((F29 50 1 rfl).trans ((F28 50 1 rfl).trans (f50_1 (h := h) hT)))))))) ?_
  refine am_e_iastore (q := 1) n32_40 rfl (by decide) (by decide) ?_
  refine am_e_aload_n n32_41 rfl ?_
  refine am_e_getf (v := .ref 152) n32_42 rfl ((F34 149 7 rfl).trans ((F33 149 7 rfl).trans ((F32 149 7 rfl).trans ((F31 149 7 rfl).trans ((F30 149 7 rfl).trans ((F29 149 7 rfl).trans ((F28 149 7 rfl).trans (f149_7 (h := h) hT)))))))) ?_
  refine am_e_iload_n n32_43 rfl ?_
  refine am_e_aload_n n32_44 rfl ?_
  refine am_e_getf (v := .ref 51) n32_45 rfl ((F34 48 7 rfl).trans ((F33 48 7 rfl).trans ((F32 48 7 rfl).trans ((F31 48 7 rfl).trans ((F30 48 7 rfl).trans ((F29 48 7 rfl).trans ((F28 48 7 rfl).trans (f48_7 (h := h) hT)))))))) ?_
  refine am_e_iload_n n32_46 rfl ?_
  refine am_e_iaload (v := 0) (q := 1) n32_47 rfl (by decide) (by decide) ((F34 51 1 rfl).trans ((F33 51 1 rfl).trans ((F32 51 1 rfl).trans ((F31 51 1 rfl).trans ((F30 51 1 rfl).trans ((F29 51 1 rfl).trans ((F28 51 1 rfl).trans (f51_1 (h := h) hT)))))))) ?_
  refine am_e_iastore (q := 1) n32_48 rfl (by decide) (by decide) ?_
  refine am_e_iinc (w := 2) (ls' := [(2, .int 2), (0, .ref 149), (1, .ref 48)]) n32_49 rfl rfl (by decide) rfl ?_
  refine am_e_goto c32_50 t32_50 ?_
  refine am_e_iload_n n32_22 rfl ?_
  refine am_e_iconst (w := 4) n32_23 rfl ?_
  refine am_e_cmpF n32_24 (am_c_geF (by decide)) ?_
  refine am_e_aload_n n32_25 rfl ?_
  refine am_e_getf (v := .ref 150) n32_26 rfl ((F34 149 5 rfl).trans ((F33 149 5 rfl).trans ((F32 149 5 rfl).trans ((F31 149 5 rfl).trans ((F30 149 5 rfl).trans ((F29 149 5 rfl).trans ((F28 149 5 rfl).trans (f149_5 (h := h) hT)))))))) ?_
  refine am_e_iload_n n32_27 rfl ?_
  refine am_e_aload_n n32_28 rfl ?_
  refine am_e_getf (v := .ref 49) n32_29 rfl ((F34 48 5 rfl).trans ((F33 48 5 rfl).trans ((F32 48 5 rfl).trans ((F31 48 5 rfl).trans ((F30 48 5 rfl).trans ((F29 48 5 rfl).trans ((F28 48 5 rfl).trans (f48_5 (h := h) hT)))))))) ?_
  refine am_e_iload_n n32_30 rfl ?_
  refine am_e_iaload (v := 0) (q := 2) n32_31 rfl (by decide) (by decide) ((F34 49 2 rfl).trans ((F33 49 2 rfl).trans ((F32 49 2 rfl).trans ((F31 49 2 rfl).trans ((F30 49 2 rfl).trans ((F29 49 2 rfl).trans ((F28 49 2 rfl).trans (f49_2 (h := h) hT)))))))) ?_
  refine am_e_iastore (q := 2) n32_32 rfl (by decide) (by decide) ?_
  refine am_e_aload_n n32_33 rfl ?_
  refine am_e_getf (v := .ref 151) n32_34 rfl ((F34 149 6 rfl).trans ((F33 149 6 rfl).trans ((F32 149 6 rfl).trans ((F31 149 6 rfl).trans ((F30 149 6 rfl).trans ((F29 149 6 rfl).trans ((F28 149 6 rfl).trans (f149_6 (h := h) hT)))))))) ?_
  refine am_e_iload_n n32_35 rfl ?_
  refine am_e_aload_n n32_36 rfl ?_
  refine am_e_getf (v := .ref 50) n32_37 rfl ((F34 48 6 rfl).trans ((F33 48 6 rfl).trans ((F32 48 6 rfl).trans ((F31 48 6 rfl).trans ((F30 48 6 rfl).trans ((F29 48 6 rfl).trans ((F28 48 6 rfl).trans (f48_6 (h := h) hT)))))))) ?_
  refine am_e_iload_n n32_38 rfl ?_
  refine am_e_iaload (v := 0) (q := 2) n32_39 rfl (by decide) (by decide) ((F34 50 2 rfl).trans ((F33 50 2 rfl).trans ((F32 50 2 rfl).trans ((F31 50 2 rfl).trans ((F30 50 2 rfl).trans ((F29 50 2 rfl).trans ((F28 50 2 rfl).trans (f50_2 (h := h) hT)))))))) ?_
  refine am_e_iastore (q := 2) n32_40 rfl (by decide) (by decide) ?_
  refine am_e_aload_n n32_41 rfl ?_
  refine am_e_getf (v := .ref 152) n32_42 rfl ((F34 149 7 rfl).trans ((F33 149 7 rfl).trans ((F32 149 7 rfl).trans ((F31 149 7 rfl).trans ((F30 149 7 rfl).trans ((F29 149 7 rfl).trans ((F28 149 7 rfl).trans (f149_7 (h := h) hT)))))))) ?_
  refine am_e_iload_n n32_43 rfl ?_
  refine am_e_aload_n n32_44 rfl ?_
  refine am_e_getf (v := .ref 51) n32_45 rfl ((F34 48 7 rfl).trans ((F33 48 7 rfl).trans ((F32 48 7 rfl).trans ((F31 48 7 rfl).trans ((F30 48 7 rfl).trans ((F29 48 7 rfl).trans ((F28 48 7 rfl).trans (f48_7 (h := h) hT)))))))) ?_
  refine am_e_iload_n n32_46 rfl ?_
  refine am_e_iaload (v := 0) (q := 2) n32_47 rfl (by decide) (by decide) ((F34 51 2 rfl).trans ((F33 51 2 rfl).trans ((F32 51 2 rfl).trans ((F31 51 2 rfl).trans ((F30 51 2 rfl).trans ((F29 51 2 rfl).trans ((F28 51 2 rfl).trans (f51_2 (h := h) hT)))))))) ?_
  refine am_e_iastore (q := 2) n32_48 rfl (by decide) (by decide) ?_
  refine am_e_iinc (w := 3) (ls' := [(2, .int 3), (0, .ref 149), (1, .ref 48)]) n32_49 rfl rfl (by decide) rfl ?_
  refine am_e_goto c32_50 t32_50 ?_
  refine am_e_iload_n n32_22 rfl ?_
  refine am_e_iconst (w := 4) n32_23 rfl ?_
  refine am_e_cmpF n32_24 (am_c_geF (by decide)) ?_
  refine am_e_aload_n n32_25 rfl ?_
  refine am_e_getf (v := .ref 150) n32_26 rfl ((F34 149 5 rfl).trans ((F33 149 5 rfl).trans ((F32 149 5 rfl).trans ((F31 149 5 rfl).trans ((F30 149 5 rfl).trans ((F29 149 5 rfl).trans ((F28 149 5 rfl).trans (f149_5 (h := h) hT)))))))) ?_
  refine am_e_iload_n n32_27 rfl ?_
  refine am_e_aload_n n32_28 rfl ?_
  refine am_e_getf (v := .ref 49) n32_29 rfl ((F34 48 5 rfl).trans ((F33 48 5 rfl).trans ((F32 48 5 rfl).trans ((F31 48 5 rfl).trans ((F30 48 5 rfl).trans ((F29 48 5 rfl).trans ((F28 48 5 rfl).trans (f48_5 (h := h) hT)))))))) ?_
  refine am_e_iload_n n32_30 rfl ?_
  refine am_e_iaload (v := 0) (q := 3) n32_31 rfl (by decide) (by decide) ((F34 49 3 rfl).trans ((F33 49 3 rfl).trans ((F32 49 3 rfl).trans ((F31 49 3 rfl).trans ((F30 49 3 rfl).trans ((F29 49 3 rfl).trans ((F28 49 3 rfl).trans (f49_3 (h := h) hT)))))))) ?_
  refine am_e_iastore (q := 3) n32_32 rfl (by decide) (by decide) ?_
  refine am_e_aload_n n32_33 rfl ?_
  refine am_e_getf (v := .ref 151) n32_34 rfl ((F34 149 6 rfl).trans ((F33 149 6 rfl).trans ((F32 149 6 rfl).trans ((F31 149 6 rfl).trans ((F30 149 6 rfl).trans ((F29 149 6 rfl).trans ((F28 149 6 rfl).trans (f149_6 (h := h) hT)))))))) ?_
  refine am_e_iload_n n32_35 rfl ?_
  refine am_e_aload_n n32_36 rfl ?_
  refine am_e_getf (v := .ref 50) n32_37 rfl ((F34 48 6 rfl).trans ((F33 48 6 rfl).trans ((F32 48 6 rfl).trans ((F31 48 6 rfl).trans ((F30 48 6 rfl).trans ((F29 48 6 rfl).trans ((F28 48 6 rfl).trans (f48_6 (h := h) hT)))))))) ?_
  refine am_e_iload_n n32_38 rfl ?_
  refine am_e_iaload (v := 0) (q := 3) n32_39 rfl (by decide) (by decide) ((F34 50 3 rfl).trans ((F33 50 3 rfl).trans ((F32 50 3 rfl).trans ((F31 50 3 rfl).trans ((F30 50 3 rfl).trans ((F29 50 3 rfl).trans ((F28 50 3 rfl).trans (f50_3 (h := h) hT)))))))) ?_
  refine am_e_iastore (q := 3) n32_40 rfl (by decide) (by decide) ?_
  refine am_e_aload_n n32_41 rfl ?_
  refine am_e_getf (v := .ref 152) n32_42 rfl ((F34 149 7 rfl).trans ((F33 149 7 rfl).trans ((F32 149 7 rfl).trans ((F31 149 7 rfl).trans ((F30 149 7 rfl).trans ((F29 149 7 rfl).trans ((F28 149 7 rfl).trans (f149_7 (h := h) hT)))))))) ?_
  refine am_e_iload_n n32_43 rfl ?_
  refine am_e_aload_n n32_44 rfl ?_
  refine am_e_getf (v := .ref 51) n32_45 rfl ((F34 48 7 rfl).trans ((F33 48 7 rfl).trans ((F32 48 7 rfl).trans ((F31 48 7 rfl).trans ((F30 48 7 rfl).trans ((F29 48 7 rfl).trans ((F28 48 7 rfl).trans (f48_7 (h := h) hT)))))))) ?_
  refine am_e_iload_n n32_46 rfl ?_
  refine am_e_iaload (v := 0) (q := 3) n32_47 rfl (by decide) (by decide) ((F34 51 3 rfl).trans ((F33 51 3 rfl).trans ((F32 51 3 rfl).trans ((F31 51 3 rfl).trans ((F30 51 3 rfl).trans ((F29 51 3 rfl).trans ((F28 51 3 rfl).trans (f51_3 (h := h) hT)))))))) ?_
  refine am_e_iastore (q := 3) n32_48 rfl (by decide) (by decide) ?_
  refine am_e_iinc (w := 4) (ls' := [(2, .int 4), (0, .ref 149), (1, .ref 48)]) n32_49 rfl rfl (by decide) rfl ?_
  refine am_e_goto c32_50 t32_50 ?_
  refine am_e_iload_n n32_22 rfl ?_
  refine am_e_iconst (w := 4) n32_23 rfl ?_
  refine am_e_cmpT n32_24 (am_c_geT (by decide)) t32_24 ?_
  refine am_e_vret c32_51 rfl rfl ?_
  refine am_e_aload_n n31_7 rfl ?_
  refine am_e_aload_n n31_8 rfl ?_
  refine am_e_getf (v := .int (-1)) n31_9 rfl ((F34 2 18 rfl).trans ((F33 2 18 rfl).trans ((F32 2 18 rfl).trans ((F31 2 18 rfl).trans ((F30 2 18 rfl).trans ((F29 2 18 rfl).trans ((F28 2 18 rfl).trans (f2_18 (h := h) hT)))))))) ?_
  refine am_e_putf n31_10 rfl rfl ?_
  refine am_e_aload_n n31_11 rfl ?_
  refine am_e_iconst (w := 0) n31_12 rfl ?_
  refine am_e_putf n31_13 rfl rfl ?_
  refine am_e_aload_n n31_14 rfl ?_
  refine am_e_iconst (w := 0) n31_15 rfl ?_
  refine am_e_putf n31_16 rfl rfl ?_
  refine am_e_aload_n n31_17 rfl ?_
  refine am_e_ldc (w := 2147483647) n31_18 (by decide) ?_
  refine am_e_putf n31_19 rfl rfl ?_
  refine am_e_aload_n n31_20 rfl ?_
  refine am_e_ldc (w := 2147483647) n31_21 (by decide) ?_
  refine am_e_putf n31_22 rfl rfl ?_
  refine am_e_vret c31_23 rfl rfl ?_
  refine am_e_iconst (w := 0) n70_31 rfl ?_
  refine am_e_istore (ls' := [(8, .int 0), (7, .int 7), (6, .int 7), (0, .ref 0), (2, .int (nI n)), (3, .int (nI 0)), (4, .long dr34)]) n70_32 rfl rfl ?_
  refine am_Ek_ls (ls' := [(0, .ref 0), (2, .int (nI n)), (3, .int (nI 0)), (4, .long dr34), (6, .int 7), (7, .int 7), (8, .int (nI 0))]) ⟨rfl, rfl, rfl, rfl, rfl, rfl, rfl, trivial⟩ ?_
  refine am_cc_e (n := n) (b := 0) (s := 0) (t := 7) (i7 := 7) (dr := dr34) (by omega) (by omega) ⟨((F34 0 11 rfl).trans ((F33 0 11 rfl).trans ((F32 0 11 rfl).trans ((F31 0 11 rfl).trans ((F30 0 11 rfl).trans ((F29 0 11 rfl).trans ((F28 0 11 rfl).trans (f0_11 (h := h) hT)))))))), ((F34 0 2 rfl).trans ((F33 0 2 rfl).trans ((F32 0 2 rfl).trans ((F31 0 2 rfl).trans ((F30 0 2 rfl).trans ((F29 0 2 rfl).trans ((F28 0 2 rfl).trans (f0_2 (h := h) hT)))))))), ((F34 2 16 rfl).trans ((F33 2 16 rfl).trans ((F32 2 16 rfl).trans ((F31 2 16 rfl).trans ((F30 2 16 rfl).trans ((F29 2 16 rfl).trans ((F28 2 16 rfl).trans (f2_16 (h := h) hT)))))))), ((F34 148 1 rfl).trans ((F33 148 1 rfl).trans ((F32 148 1 rfl).trans ((F31 148 1 rfl).trans ((F30 148 1 rfl).trans ((F29 148 1 rfl).trans ((F28 148 1 rfl).trans (f148_1 (h := h) hT)))))))), rfl, rfl, ((F34 2 19 rfl).trans ((F33 2 19 rfl).trans ((F32 2 19 rfl).trans ((F31 2 19 rfl).trans ((F30 2 19 rfl).trans ((F29 2 19 rfl).trans ((F28 2 19 rfl).trans (f2_19 (h := h) hT)))))))), ((F34 11 7 rfl).trans ((F33 11 7 rfl).trans ((F32 11 7 rfl).trans ((F31 11 7 rfl).trans ((F30 11 7 rfl).trans ((F29 11 7 rfl).trans ((F28 11 7 rfl).trans (f11_7 (h := h) hT)))))))), ((F34 2 0 rfl).trans ((F33 2 0 rfl).trans ((F32 2 0 rfl).trans ((F31 2 0 rfl).trans ((F30 2 0 rfl).trans ((F29 2 0 rfl).trans ((F28 2 0 rfl).trans (f2_0 (h := h) hT)))))))), ((F34 11 6 rfl).trans ((F33 11 6 rfl).trans ((F32 11 6 rfl).trans ((F31 11 6 rfl).trans ((F30 11 6 rfl).trans ((F29 11 6 rfl).trans ((F28 11 6 rfl).trans (f11_6 (h := h) hT)))))))), ((F34 16 0 rfl).trans ((F33 16 0 rfl).trans ((F32 16 0 rfl).trans ((F31 16 0 rfl).trans ((F30 16 0 rfl).trans ((F29 16 0 rfl).trans ((F28 16 0 rfl).trans (f16_0 (h := h) hT)))))))), ((F34 11 4 rfl).trans ((F33 11 4 rfl).trans ((F32 11 4 rfl).trans ((F31 11 4 rfl).trans ((F30 11 4 rfl).trans ((F29 11 4 rfl).trans ((F28 11 4 rfl).trans (f11_4 (h := h) hT)))))))), ((F34 14 0 rfl).trans ((F33 14 0 rfl).trans ((F32 14 0 rfl).trans ((F31 14 0 rfl).trans ((F30 14 0 rfl).trans ((F29 14 0 rfl).trans ((F28 14 0 rfl).trans (f14_0 (h := h) hT)))))))), ((F34 11 5 rfl).trans ((F33 11 5 rfl).trans ((F32 11 5 rfl).trans ((F31 11 5 rfl).trans ((F30 11 5 rfl).trans ((F29 11 5 rfl).trans ((F28 11 5 rfl).trans (f11_5 (h := h) hT)))))))), ((F34 15 0 rfl).trans ((F33 15 0 rfl).trans ((F32 15 0 rfl).trans ((F31 15 0 rfl).trans ((F30 15 0 rfl).trans ((F29 15 0 rfl).trans ((F28 15 0 rfl).trans (f15_0 (h := h) hT)))))))), rfl, rfl, trivial⟩ rfl rfl rfl ?_
  intro h35 dr35 F35 qa35 qb35 qc35
  obtain ⟨l35, qc35⟩ := qc35
  refine am_e_aload_n n70_57 rfl ?_
  refine am_e_getf (v := .ref 148) n70_58 rfl ((F35 0 11 rfl).trans ((F34 0 11 rfl).trans ((F33 0 11 rfl).trans ((F32 0 11 rfl).trans ((F31 0 11 rfl).trans ((F30 0 11 rfl).trans ((F29 0 11 rfl).trans ((F28 0 11 rfl).trans (f0_11 (h := h) hT))))))))) ?_
  refine am_e_getf (v := .ref 149) n70_59 rfl ((F35 148 1 rfl).trans ((F34 148 1 rfl).trans ((F33 148 1 rfl).trans ((F32 148 1 rfl).trans ((F31 148 1 rfl).trans ((F30 148 1 rfl).trans ((F29 148 1 rfl).trans ((F28 148 1 rfl).trans (f148_1 (h := h) hT))))))))) ?_
  refine am_e_getf (v := .int 0) n70_60 rfl qa35 ?_
  refine am_e_iload_n n70_61 rfl ?_
  refine am_e_cmpF n70_62 (am_c_ltF (by decide)) ?_
  refine am_e_iinc (w := 8) (ls' := [(6, .int 8), (0, .ref 0), (2, .int (nI n)), (3, .int (nI 0)), (4, .long dr35), (7, .int 7), (8, .int (nI n))]) n70_63 rfl rfl (by decide) rfl ?_
  refine am_e_iinc (w := 8) (ls' := [(7, .int 8), (6, .int 8), (0, .ref 0), (2, .int (nI n)), (3, .int (nI 0)), (4, .long dr35), (8, .int (nI n))]) n70_64 rfl rfl (by decide) rfl ?_
  refine am_e_goto c70_65 t70_65 ?_
  refine am_e_iload n70_21 rfl ?_
  refine am_e_bipush (w := 10) n70_22 (by decide) ?_
  refine am_e_cmpF n70_23 (am_c_geF (by decide)) ?_
  refine am_e_aload_n n70_24 rfl ?_
  refine am_e_getf (v := .ref 148) n70_25 rfl ((F35 0 11 rfl).trans ((F34 0 11 rfl).trans ((F33 0 11 rfl).trans ((F32 0 11 rfl).trans ((F31 0 11 rfl).trans ((F30 0 11 rfl).trans ((F29 0 11 rfl).trans ((F28 0 11 rfl).trans (f0_11 (h := h) hT))))))))) ?_
  refine am_e_aload_n n70_26 rfl ?_
  refine am_e_getf (v := .ref 2) n70_27 rfl ((F35 0 2 rfl).trans ((F34 0 2 rfl).trans ((F33 0 2 rfl).trans ((F32 0 2 rfl).trans ((F31 0 2 rfl).trans ((F30 0 2 rfl).trans ((F29 0 2 rfl).trans ((F28 0 2 rfl).trans (f0_2 (h := h) hT))))))))) ?_
  refine am_e_aload_n n70_28 rfl ?_
  refine am_e_getf (v := .ref 48) n70_29 rfl ((F35 0 5 rfl).trans ((F34 0 5 rfl).trans ((F33 0 5 rfl).trans ((F32 0 5 rfl).trans ((F31 0 5 rfl).trans ((F30 0 5 rfl).trans ((F29 0 5 rfl).trans ((F28 0 5 rfl).trans (f0_5 (h := h) hT))))))))) ?_
  refine am_e_callV (L := [(0, .ref 148), (1, .ref 2), (2, .ref 48)]) n70_30 rfl rfl rfl rfl rfl rfl rfl rfl ?_
  refine am_e_aload_n n31_0 rfl ?_
  refine am_e_aload_n n31_1 rfl ?_
  refine am_e_putf n31_2 rfl rfl ?_
  refine am_e_aload_n n31_3 rfl ?_
  refine am_e_getf (v := .ref 149) n31_4 rfl ((F35 148 1 rfl).trans ((F34 148 1 rfl).trans ((F33 148 1 rfl).trans ((F32 148 1 rfl).trans ((F31 148 1 rfl).trans ((F30 148 1 rfl).trans ((F29 148 1 rfl).trans ((F28 148 1 rfl).trans (f148_1 (h := h) hT))))))))) ?_
  refine am_e_aload_n n31_5 rfl ?_
  refine am_e_callV (L := [(0, .ref 149), (1, .ref 48)]) n31_6 rfl rfl rfl rfl rfl rfl rfl rfl ?_
  refine am_e_aload_n n32_0 rfl ?_
  refine am_e_aload_n n32_1 rfl ?_
  refine am_e_getf (v := .int 0) n32_2 rfl ((F35 48 0 rfl).trans ((F34 48 0 rfl).trans ((F33 48 0 rfl).trans ((F32 48 0 rfl).trans ((F31 48 0 rfl).trans ((F30 48 0 rfl).trans ((F29 48 0 rfl).trans ((F28 48 0 rfl).trans (f48_0 (h := h) hT))))))))) ?_
  refine am_e_putf n32_3 rfl rfl ?_
  refine am_e_aload_n n32_4 rfl ?_
  refine am_e_aload_n n32_5 rfl ?_
  refine am_e_getf (v := .int 0) n32_6 rfl ((F35 48 1 rfl).trans ((F34 48 1 rfl).trans ((F33 48 1 rfl).trans ((F32 48 1 rfl).trans ((F31 48 1 rfl).trans ((F30 48 1 rfl).trans ((F29 48 1 rfl).trans ((F28 48 1 rfl).trans (f48_1 (h := h) hT))))))))) ?_
  refine am_e_putf n32_7 rfl rfl ?_
  refine am_e_aload_n n32_8 rfl ?_
  refine am_e_aload_n n32_9 rfl ?_
  refine am_e_getf (v := .int (-1)) n32_10 rfl ((F35 48 2 rfl).trans ((F34 48 2 rfl).trans ((F33 48 2 rfl).trans ((F32 48 2 rfl).trans ((F31 48 2 rfl).trans ((F30 48 2 rfl).trans ((F29 48 2 rfl).trans ((F28 48 2 rfl).trans (f48_2 (h := h) hT))))))))) ?_
  refine am_e_putf n32_11 rfl rfl ?_
  refine am_e_aload_n n32_12 rfl ?_
  refine am_e_aload_n n32_13 rfl ?_
  refine am_e_getf (v := .int 0) n32_14 rfl ((F35 48 3 rfl).trans ((F34 48 3 rfl).trans ((F33 48 3 rfl).trans ((F32 48 3 rfl).trans ((F31 48 3 rfl).trans ((F30 48 3 rfl).trans ((F29 48 3 rfl).trans ((F28 48 3 rfl).trans (f48_3 (h := h) hT))))))))) ?_
  refine am_e_putf n32_15 rfl rfl ?_
  refine am_e_aload_n n32_16 rfl ?_
  refine am_e_aload_n n32_17 rfl ?_
  refine am_e_getf (v := .int 0) n32_18 rfl ((F35 48 4 rfl).trans ((F34 48 4 rfl).trans ((F33 48 4 rfl).trans ((F32 48 4 rfl).trans ((F31 48 4 rfl).trans ((F30 48 4 rfl).trans ((F29 48 4 rfl).trans ((F28 48 4 rfl).trans (f48_4 (h := h) hT))))))))) ?_
  refine am_e_putf n32_19 rfl rfl ?_
  refine am_e_iconst (w := 0) n32_20 rfl ?_
  refine am_e_istore_n (ls' := [(2, .int 0), (0, .ref 149), (1, .ref 48)]) n32_21 rfl rfl ?_
  refine am_e_iload_n n32_22 rfl ?_
  refine am_e_iconst (w := 4) n32_23 rfl ?_
  refine am_e_cmpF n32_24 (am_c_geF (by decide)) ?_
  refine am_e_aload_n n32_25 rfl ?_
  refine am_e_getf (v := .ref 150) n32_26 rfl ((F35 149 5 rfl).trans ((F34 149 5 rfl).trans ((F33 149 5 rfl).trans ((F32 149 5 rfl).trans ((F31 149 5 rfl).trans ((F30 149 5 rfl).trans ((F29 149 5 rfl).trans ((F28 149 5 rfl).trans (f149_5 (h := h) hT))))))))) ?_
  refine am_e_iload_n n32_27 rfl ?_
  refine am_e_aload_n n32_28 rfl ?_
  refine am_e_getf (v := .ref 49) n32_29 rfl ((F35 48 5 rfl).trans ((F34 48 5 rfl).trans ((F33 48 5 rfl).trans ((F32 48 5 rfl).trans ((F31 48 5 rfl).trans ((F30 48 5 rfl).trans ((F29 48 5 rfl).trans ((F28 48 5 rfl).trans (f48_5 (h := h) hT))))))))) ?_
  refine am_e_iload_n n32_30 rfl ?_
  refine am_e_iaload (v := 0) (q := 0) n32_31 rfl (by decide) (by decide) ((F35 49 0 rfl).trans ((F34 49 0 rfl).trans ((F33 49 0 rfl).trans ((F32 49 0 rfl).trans ((F31 49 0 rfl).trans ((F30 49 0 rfl).trans ((F29 49 0 rfl).trans ((F28 49 0 rfl).trans (f49_0 (h := h) hT))))))))) ?_
  refine am_e_iastore (q := 0) n32_32 rfl (by decide) (by decide) ?_
  refine am_e_aload_n n32_33 rfl ?_
  refine am_e_getf (v := .ref 151) n32_34 rfl ((F35 149 6 rfl).trans ((F34 149 6 rfl).trans ((F33 149 6 rfl).trans ((F32 149 6 rfl).trans ((F31 149 6 rfl).trans ((F30 149 6 rfl).trans ((F29 149 6 rfl).trans ((F28 149 6 rfl).trans (f149_6 (h := h) hT))))))))) ?_
  refine am_e_iload_n n32_35 rfl ?_
  refine am_e_aload_n n32_36 rfl ?_
  refine am_e_getf (v := .ref 50) n32_37 rfl ((F35 48 6 rfl).trans ((F34 48 6 rfl).trans ((F33 48 6 rfl).trans ((F32 48 6 rfl).trans ((F31 48 6 rfl).trans ((F30 48 6 rfl).trans ((F29 48 6 rfl).trans ((F28 48 6 rfl).trans (f48_6 (h := h) hT))))))))) ?_
  refine am_e_iload_n n32_38 rfl ?_
  refine am_e_iaload (v := 0) (q := 0) n32_39 rfl (by decide) (by decide) ((F35 50 0 rfl).trans ((F34 50 0 rfl).trans ((F33 50 0 rfl).trans ((F32 50 0 rfl).trans ((F31 50 0 rfl).trans ((F30 50 0 rfl).trans ((F29 50 0 rfl).trans ((F28 50 0 rfl).trans (f50_0 (h := h) hT))))))))) ?_
  refine am_e_iastore (q := 0) n32_40 rfl (by decide) (by decide) ?_
  refine am_e_aload_n n32_41 rfl ?_
  refine am_e_getf (v := .ref 152) n32_42 rfl ((F35 149 7 rfl).trans ((F34 149 7 rfl).trans ((F33 149 7 rfl).trans ((F32 149 7 rfl).trans ((F31 149 7 rfl).trans ((F30 149 7 rfl).trans ((F29 149 7 rfl).trans ((F28 149 7 rfl).trans (f149_7 (h := h) hT))))))))) ?_
  refine am_e_iload_n n32_43 rfl ?_
  refine am_e_aload_n n32_44 rfl ?_
  refine am_e_getf (v := .ref 51) n32_45 rfl ((F35 48 7 rfl).trans ((F34 48 7 rfl).trans ((F33 48 7 rfl).trans ((F32 48 7 rfl).trans ((F31 48 7 rfl).trans ((F30 48 7 rfl).trans ((F29 48 7 rfl).trans ((F28 48 7 rfl).trans (f48_7 (h := h) hT))))))))) ?_
  refine am_e_iload_n n32_46 rfl ?_
  refine am_e_iaload (v := 0) (q := 0) n32_47 rfl (by decide) (by decide) ((F35 51 0 rfl).trans ((F34 51 0 rfl).trans ((F33 51 0 rfl).trans ((F32 51 0 rfl).trans ((F31 51 0 rfl).trans ((F30 51 0 rfl).trans ((F29 51 0 rfl).trans ((F28 51 0 rfl).trans (f51_0 (h := h) hT))))))))) ?_
  refine am_e_iastore (q := 0) n32_48 rfl (by decide) (by decide) ?_
  refine am_e_iinc (w := 1) (ls' := [(2, .int 1), (0, .ref 149), (1, .ref 48)]) n32_49 rfl rfl (by decide) rfl ?_
  refine am_e_goto c32_50 t32_50 ?_
  refine am_e_iload_n n32_22 rfl ?_
  refine am_e_iconst (w := 4) n32_23 rfl ?_
  refine am_e_cmpF n32_24 (am_c_geF (by decide)) ?_
  refine am_e_aload_n n32_25 rfl ?_
  refine am_e_getf (v := .ref 150) n32_26 rfl ((F35 149 5 rfl).trans ((F34 149 5 rfl).trans ((F33 149 5 rfl).trans ((F32 149 5 rfl).trans ((F31 149 5 rfl).trans ((F30 149 5 rfl).trans ((F29 149 5 rfl).trans ((F28 149 5 rfl).trans (f149_5 (h := h) hT))))))))) ?_
  refine am_e_iload_n n32_27 rfl ?_
  refine am_e_aload_n n32_28 rfl ?_
  refine am_e_getf (v := .ref 49) n32_29 rfl ((F35 48 5 rfl).trans ((F34 48 5 rfl).trans ((F33 48 5 rfl).trans ((F32 48 5 rfl).trans ((F31 48 5 rfl).trans ((F30 48 5 rfl).trans ((F29 48 5 rfl).trans ((F28 48 5 rfl).trans (f48_5 (h := h) hT))))))))) ?_
  refine am_e_iload_n n32_30 rfl ?_
  refine am_e_iaload (v := 0) (q := 1) n32_31 rfl (by decide) (by decide) ((F35 49 1 rfl).trans ((F34 49 1 rfl).trans ((F33 49 1 rfl).trans ((F32 49 1 rfl).trans ((F31 49 1 rfl).trans ((F30 49 1 rfl).trans ((F29 49 1 rfl).trans ((F28 49 1 rfl).trans (f49_1 (h := h) hT))))))))) ?_
  refine am_e_iastore (q := 1) n32_32 rfl (by decide) (by decide) ?_
  refine am_e_aload_n n32_33 rfl ?_
  refine am_e_getf (v := .ref 151) n32_34 rfl ((F35 149 6 rfl).trans ((F34 149 6 rfl).trans ((F33 149 6 rfl).trans ((F32 149 6 rfl).trans ((F31 149 6 rfl).trans ((F30 149 6 rfl).trans ((F29 149 6 rfl).trans ((F28 149 6 rfl).trans (f149_6 (h := h) hT))))))))) ?_
  refine am_e_iload_n n32_35 rfl ?_
  refine am_e_aload_n n32_36 rfl ?_
  refine am_e_getf (v := .ref 50) n32_37 rfl ((F35 48 6 rfl).trans ((F34 48 6 rfl).trans ((F33 48 6 rfl).trans ((F32 48 6 rfl).trans ((F31 48 6 rfl).trans ((F30 48 6 rfl).trans ((F29 48 6 rfl).trans ((F28 48 6 rfl).trans (f48_6 (h := h) hT))))))))) ?_
  refine am_e_iload_n n32_38 rfl ?_
  refine am_e_iaload (v := 0) (q := 1) n32_39 rfl (by decide) (by decide) ((F35 50 1 rfl).trans ((F34 50 1 rfl).trans ((F33 50 1 rfl).trans ((F32 50 1 rfl).trans ((F31 50 1 rfl).trans ((F30 50 1 rfl).trans ((F29 50 1 rfl).trans ((F28 50 1 rfl).trans (f50_1 (h := h) hT))))))))) ?_
  refine am_e_iastore (q := 1) n32_40 rfl (by decide) (by decide) ?_
  refine am_e_aload_n n32_41 rfl ?_
  refine am_e_getf (v := .ref 152) n32_42 rfl ((F35 149 7 rfl).trans ((F34 149 7 rfl).trans ((F33 149 7 rfl).trans ((F32 149 7 rfl).trans ((F31 149 7 rfl).trans ((F30 149 7 rfl).trans ((F29 149 7 rfl).trans ((F28 149 7 rfl).trans (f149_7 (h := h) hT))))))))) ?_
  refine am_e_iload_n n32_43 rfl ?_
  refine am_e_aload_n n32_44 rfl ?_
  refine am_e_getf (v := .ref 51) n32_45 rfl ((F35 48 7 rfl).trans ((F34 48 7 rfl).trans ((F33 48 7 rfl).trans ((F32 48 7 rfl).trans ((F31 48 7 rfl).trans ((F30 48 7 rfl).trans ((F29 48 7 rfl).trans ((F28 48 7 rfl).trans (f48_7 (h := h) hT))))))))) ?_
  refine am_e_iload_n n32_46 rfl ?_
  refine am_e_iaload (v := 0) (q := 1) n32_47 rfl (by decide) (by decide) ((F35 51 1 rfl).trans ((F34 51 1 rfl).trans ((F33 51 1 rfl).trans ((F32 51 1 rfl).trans ((F31 51 1 rfl).trans ((F30 51 1 rfl).trans ((F29 51 1 rfl).trans ((F28 51 1 rfl).trans (f51_1 (h := h) hT))))))))) ?_
  refine am_e_iastore (q := 1) n32_48 rfl (by decide) (by decide) ?_
  refine am_e_iinc (w := 2) (ls' := [(2, .int 2), (0, .ref 149), (1, .ref 48)]) n32_49 rfl rfl (by decide) rfl ?_
  refine am_e_goto c32_50 t32_50 ?_
  refine am_e_iload_n n32_22 rfl ?_
  refine am_e_iconst (w := 4) n32_23 rfl ?_
  refine am_e_cmpF n32_24 (am_c_geF (by decide)) ?_
  refine am_e_aload_n n32_25 rfl ?_
  refine am_e_getf (v := .ref 150) n32_26 rfl ((F35 149 5 rfl).trans ((F34 149 5 rfl).trans ((F33 149 5 rfl).trans ((F32 149 5 rfl).trans ((F31 149 5 rfl).trans ((F30 149 5 rfl).trans ((F29 149 5 rfl).trans ((F28 149 5 rfl).trans (f149_5 (h := h) hT))))))))) ?_
  refine am_e_iload_n n32_27 rfl ?_
  refine am_e_aload_n n32_28 rfl ?_
  refine am_e_getf (v := .ref 49) n32_29 rfl ((F35 48 5 rfl).trans ((F34 48 5 rfl).trans ((F33 48 5 rfl).trans ((F32 48 5 rfl).trans ((F31 48 5 rfl).trans ((F30 48 5 rfl).trans ((F29 48 5 rfl).trans ((F28 48 5 rfl).trans (f48_5 (h := h) hT))))))))) ?_
  refine am_e_iload_n n32_30 rfl ?_
  refine am_e_iaload (v := 0) (q := 2) n32_31 rfl (by decide) (by decide) ((F35 49 2 rfl).trans ((F34 49 2 rfl).trans ((F33 49 2 rfl).trans ((F32 49 2 rfl).trans ((F31 49 2 rfl).trans ((F30 49 2 rfl).trans ((F29 49 2 rfl).trans ((F28 49 2 rfl).trans (f49_2 (h := h) hT))))))))) ?_
  refine am_e_iastore (q := 2) n32_32 rfl (by decide) (by decide) ?_
  refine am_e_aload_n n32_33 rfl ?_
  refine am_e_getf (v := .ref 151) n32_34 rfl ((F35 149 6 rfl).trans ((F34 149 6 rfl).trans ((F33 149 6 rfl).trans ((F32 149 6 rfl).trans ((F31 149 6 rfl).trans ((F30 149 6 rfl).trans ((F29 149 6 rfl).trans ((F28 149 6 rfl).trans (f149_6 (h := h) hT))))))))) ?_
  refine am_e_iload_n n32_35 rfl ?_
  refine am_e_aload_n n32_36 rfl ?_
  refine am_e_getf (v := .ref 50) n32_37 rfl ((F35 48 6 rfl).trans ((F34 48 6 rfl).trans ((F33 48 6 rfl).trans ((F32 48 6 rfl).trans ((F31 48 6 rfl).trans ((F30 48 6 rfl).trans ((F29 48 6 rfl).trans ((F28 48 6 rfl).trans (f48_6 (h := h) hT))))))))) ?_
  refine am_e_iload_n n32_38 rfl ?_
  refine am_e_iaload (v := 0) (q := 2) n32_39 rfl (by decide) (by decide) ((F35 50 2 rfl).trans ((F34 50 2 rfl).trans ((F33 50 2 rfl).trans ((F32 50 2 rfl).trans ((F31 50 2 rfl).trans ((F30 50 2 rfl).trans ((F29 50 2 rfl).trans ((F28 50 2 rfl).trans (f50_2 (h := h) hT))))))))) ?_
  refine am_e_iastore (q := 2) n32_40 rfl (by decide) (by decide) ?_
  refine am_e_aload_n n32_41 rfl ?_
  refine am_e_getf (v := .ref 152) n32_42 rfl ((F35 149 7 rfl).trans ((F34 149 7 rfl).trans ((F33 149 7 rfl).trans ((F32 149 7 rfl).trans ((F31 149 7 rfl).trans ((F30 149 7 rfl).trans ((F29 149 7 rfl).trans ((F28 149 7 rfl).trans (f149_7 (h := h) hT))))))))) ?_
  refine am_e_iload_n n32_43 rfl ?_
  refine am_e_aload_n n32_44 rfl ?_
  refine am_e_getf (v := .ref 51) n32_45 rfl ((F35 48 7 rfl).trans ((F34 48 7 rfl).trans ((F33 48 7 rfl).trans ((F32 48 7 rfl).trans ((F31 48 7 rfl).trans ((F30 48 7 rfl).trans ((F29 48 7 rfl).trans ((F28 48 7 rfl).trans (f48_7 (h := h) hT))))))))) ?_
  refine am_e_iload_n n32_46 rfl ?_
  refine am_e_iaload (v := 0) (q := 2) n32_47 rfl (by decide) (by decide) ((F35 51 2 rfl).trans ((F34 51 2 rfl).trans ((F33 51 2 rfl).trans ((F32 51 2 rfl).trans ((F31 51 2 rfl).trans ((F30 51 2 rfl).trans ((F29 51 2 rfl).trans ((F28 51 2 rfl).trans (f51_2 (h := h) hT))))))))) ?_
  refine am_e_iastore (q := 2) n32_48 rfl (by decide) (by decide) ?_
  refine am_e_iinc (w := 3) (ls' := [(2, .int 3), (0, .ref 149), (1, .ref 48)]) n32_49 rfl rfl (by decide) rfl ?_
  refine am_e_goto c32_50 t32_50 ?_
  refine am_e_iload_n n32_22 rfl ?_
  refine am_e_iconst (w := 4) n32_23 rfl ?_
  refine am_e_cmpF n32_24 (am_c_geF (by decide)) ?_
  refine am_e_aload_n n32_25 rfl ?_
  refine am_e_getf (v := .ref 150) n32_26 rfl ((F35 149 5 rfl).trans ((F34 149 5 rfl).trans ((F33 149 5 rfl).trans ((F32 149 5 rfl).trans ((F31 149 5 rfl).trans ((F30 149 5 rfl).trans ((F29 149 5 rfl).trans ((F28 149 5 rfl).trans (f149_5 (h := h) hT))))))))) ?_
  refine am_e_iload_n n32_27 rfl ?_
  refine am_e_aload_n n32_28 rfl ?_
  refine am_e_getf (v := .ref 49) n32_29 rfl ((F35 48 5 rfl).trans ((F34 48 5 rfl).trans ((F33 48 5 rfl).trans ((F32 48 5 rfl).trans ((F31 48 5 rfl).trans ((F30 48 5 rfl).trans ((F29 48 5 rfl).trans ((F28 48 5 rfl).trans (f48_5 (h := h) hT))))))))) ?_
  refine am_e_iload_n n32_30 rfl ?_
  refine am_e_iaload (v := 0) (q := 3) n32_31 rfl (by decide) (by decide) ((F35 49 3 rfl).trans ((F34 49 3 rfl).trans ((F33 49 3 rfl).trans ((F32 49 3 rfl).trans ((F31 49 3 rfl).trans ((F30 49 3 rfl).trans ((F29 49 3 rfl).trans ((F28 49 3 rfl).trans (f49_3 (h := h) hT))))))))) ?_
  refine am_e_iastore (q := 3) n32_32 rfl (by decide) (by decide) ?_
  refine am_e_aload_n n32_33 rfl ?_
  refine am_e_getf (v := .ref 151) n32_34 rfl ((F35 149 6 rfl).trans ((F34 149 6 rfl).trans ((F33 149 6 rfl).trans ((F32 149 6 rfl).trans ((F31 149 6 rfl).trans ((F30 149 6 rfl).trans ((F29 149 6 rfl).trans ((F28 149 6 rfl).trans (f149_6 (h := h) hT))))))))) ?_
  refine am_e_iload_n n32_35 rfl ?_
  refine am_e_aload_n n32_36 rfl ?_
  refine am_e_getf (v := .ref 50) n32_37 rfl ((F35 48 6 rfl).trans ((F34 48 6 rfl).trans ((F33 48 6 rfl).trans ((F32 48 6 rfl).trans ((F31 48 6 rfl).trans ((F30 48 6 rfl).trans ((F29 48 6 rfl).trans ((F28 48 6 rfl).trans (f48_6 (h := h) hT))))))))) ?_
  refine am_e_iload_n n32_38 rfl ?_
  refine am_e_iaload (v := 0) (q := 3) n32_39 rfl (by decide) (by decide) ((F35 50 3 rfl).trans ((F34 50 3 rfl).trans ((F33 50 3 rfl).trans ((F32 50 3 rfl).trans ((F31 50 3 rfl).trans ((F30 50 3 rfl).trans ((F29 50 3 rfl).trans ((F28 50 3 rfl).trans (f50_3 (h := h) hT))))))))) ?_
  refine am_e_iastore (q := 3) n32_40 rfl (by decide) (by decide) ?_
  refine am_e_aload_n n32_41 rfl ?_
  refine am_e_getf (v := .ref 152) n32_42 rfl ((F35 149 7 rfl).trans ((F34 149 7 rfl).trans ((F33 149 7 rfl).trans ((F32 149 7 rfl).trans ((F31 149 7 rfl).trans ((F30 149 7 rfl).trans ((F29 149 7 rfl).trans ((F28 149 7 rfl).trans (f149_7 (h := h) hT))))))))) ?_
  refine am_e_iload_n n32_43 rfl ?_
  refine am_e_aload_n n32_44 rfl ?_
  refine am_e_getf (v := .ref 51) n32_45 rfl ((F35 48 7 rfl).trans ((F34 48 7 rfl).trans ((F33 48 7 rfl).trans ((F32 48 7 rfl).trans ((F31 48 7 rfl).trans ((F30 48 7 rfl).trans ((F29 48 7 rfl).trans ((F28 48 7 rfl).trans (f48_7 (h := h) hT))))))))) ?_
  refine am_e_iload_n n32_46 rfl ?_
  refine am_e_iaload (v := 0) (q := 3) n32_47 rfl (by decide) (by decide) ((F35 51 3 rfl).trans ((F34 51 3 rfl).trans ((F33 51 3 rfl).trans ((F32 51 3 rfl).trans ((F31 51 3 rfl).trans ((F30 51 3 rfl).trans ((F29 51 3 rfl).trans ((F28 51 3 rfl).trans (f51_3 (h := h) hT))))))))) ?_
  refine am_e_iastore (q := 3) n32_48 rfl (by decide) (by decide) ?_
  refine am_e_iinc (w := 4) (ls' := [(2, .int 4), (0, .ref 149), (1, .ref 48)]) n32_49 rfl rfl (by decide) rfl ?_
  refine am_e_goto c32_50 t32_50 ?_
  refine am_e_iload_n n32_22 rfl ?_
  refine am_e_iconst (w := 4) n32_23 rfl ?_
  refine am_e_cmpT n32_24 (am_c_geT (by decide)) t32_24 ?_
  refine am_e_vret c32_51 rfl rfl ?_
  refine am_e_aload_n n31_7 rfl ?_
  refine am_e_aload_n n31_8 rfl ?_
  refine am_e_getf (v := .int (-1)) n31_9 rfl ((F35 2 18 rfl).trans ((F34 2 18 rfl).trans ((F33 2 18 rfl).trans ((F32 2 18 rfl).trans ((F31 2 18 rfl).trans ((F30 2 18 rfl).trans ((F29 2 18 rfl).trans ((F28 2 18 rfl).trans (f2_18 (h := h) hT))))))))) ?_
  refine am_e_putf n31_10 rfl rfl ?_
  refine am_e_aload_n n31_11 rfl ?_
  refine am_e_iconst (w := 0) n31_12 rfl ?_
  refine am_e_putf n31_13 rfl rfl ?_
  refine am_e_aload_n n31_14 rfl ?_
  refine am_e_iconst (w := 0) n31_15 rfl ?_
  refine am_e_putf n31_16 rfl rfl ?_
  refine am_e_aload_n n31_17 rfl ?_
  refine am_e_ldc (w := 2147483647) n31_18 (by decide) ?_
  refine am_e_putf n31_19 rfl rfl ?_
  refine am_e_aload_n n31_20 rfl ?_
  refine am_e_ldc (w := 2147483647) n31_21 (by decide) ?_
  refine am_e_putf n31_22 rfl rfl ?_
  refine am_e_vret c31_23 rfl rfl ?_
  refine am_e_iconst (w := 0) n70_31 rfl ?_
  refine am_e_istore (ls' := [(8, .int 0), (7, .int 8), (6, .int 8), (0, .ref 0), (2, .int (nI n)), (3, .int (nI 0)), (4, .long dr35)]) n70_32 rfl rfl ?_
  refine am_Ek_ls (ls' := [(0, .ref 0), (2, .int (nI n)), (3, .int (nI 0)), (4, .long dr35), (6, .int 8), (7, .int 8), (8, .int (nI 0))]) ⟨rfl, rfl, rfl, rfl, rfl, rfl, rfl, trivial⟩ ?_
  refine am_cc_e (n := n) (b := 0) (s := 0) (t := 8) (i7 := 8) (dr := dr35) (by omega) (by omega) ⟨((F35 0 11 rfl).trans ((F34 0 11 rfl).trans ((F33 0 11 rfl).trans ((F32 0 11 rfl).trans ((F31 0 11 rfl).trans ((F30 0 11 rfl).trans ((F29 0 11 rfl).trans ((F28 0 11 rfl).trans (f0_11 (h := h) hT))))))))), ((F35 0 2 rfl).trans ((F34 0 2 rfl).trans ((F33 0 2 rfl).trans ((F32 0 2 rfl).trans ((F31 0 2 rfl).trans ((F30 0 2 rfl).trans ((F29 0 2 rfl).trans ((F28 0 2 rfl).trans (f0_2 (h := h) hT))))))))), ((F35 2 16 rfl).trans ((F34 2 16 rfl).trans ((F33 2 16 rfl).trans ((F32 2 16 rfl).trans ((F31 2 16 rfl).trans ((F30 2 16 rfl).trans ((F29 2 16 rfl).trans ((F28 2 16 rfl).trans (f2_16 (h := h) hT))))))))), ((F35 148 1 rfl).trans ((F34 148 1 rfl).trans ((F33 148 1 rfl).trans ((F32 148 1 rfl).trans ((F31 148 1 rfl).trans ((F30 148 1 rfl).trans ((F29 148 1 rfl).trans ((F28 148 1 rfl).trans (f148_1 (h := h) hT))))))))), rfl, rfl, ((F35 2 19 rfl).trans ((F34 2 19 rfl).trans ((F33 2 19 rfl).trans ((F32 2 19 rfl).trans ((F31 2 19 rfl).trans ((F30 2 19 rfl).trans ((F29 2 19 rfl).trans ((F28 2 19 rfl).trans (f2_19 (h := h) hT))))))))), ((F35 11 7 rfl).trans ((F34 11 7 rfl).trans ((F33 11 7 rfl).trans ((F32 11 7 rfl).trans ((F31 11 7 rfl).trans ((F30 11 7 rfl).trans ((F29 11 7 rfl).trans ((F28 11 7 rfl).trans (f11_7 (h := h) hT))))))))), ((F35 2 0 rfl).trans ((F34 2 0 rfl).trans ((F33 2 0 rfl).trans ((F32 2 0 rfl).trans ((F31 2 0 rfl).trans ((F30 2 0 rfl).trans ((F29 2 0 rfl).trans ((F28 2 0 rfl).trans (f2_0 (h := h) hT))))))))), ((F35 11 6 rfl).trans ((F34 11 6 rfl).trans ((F33 11 6 rfl).trans ((F32 11 6 rfl).trans ((F31 11 6 rfl).trans ((F30 11 6 rfl).trans ((F29 11 6 rfl).trans ((F28 11 6 rfl).trans (f11_6 (h := h) hT))))))))), ((F35 16 0 rfl).trans ((F34 16 0 rfl).trans ((F33 16 0 rfl).trans ((F32 16 0 rfl).trans ((F31 16 0 rfl).trans ((F30 16 0 rfl).trans ((F29 16 0 rfl).trans ((F28 16 0 rfl).trans (f16_0 (h := h) hT))))))))), ((F35 11 4 rfl).trans ((F34 11 4 rfl).trans ((F33 11 4 rfl).trans ((F32 11 4 rfl).trans ((F31 11 4 rfl).trans ((F30 11 4 rfl).trans ((F29 11 4 rfl).trans ((F28 11 4 rfl).trans (f11_4 (h := h) hT))))))))), ((F35 14 0 rfl).trans ((F34 14 0 rfl).trans ((F33 14 0 rfl).trans ((F32 14 0 rfl).trans ((F31 14 0 rfl).trans ((F30 14 0 rfl).trans ((F29 14 0 rfl).trans ((F28 14 0 rfl).trans (f14_0 (h := h) hT))))))))), ((F35 11 5 rfl).trans ((F34 11 5 rfl).trans ((F33 11 5 rfl).trans ((F32 11 5 rfl).trans ((F31 11 5 rfl).trans ((F30 11 5 rfl).trans ((F29 11 5 rfl).trans ((F28 11 5 rfl).trans (f11_5 (h := h) hT))))))))), ((F35 15 0 rfl).trans ((F34 15 0 rfl).trans ((F33 15 0 rfl).trans ((F32 15 0 rfl).trans ((F31 15 0 rfl).trans ((F30 15 0 rfl).trans ((F29 15 0 rfl).trans ((F28 15 0 rfl).trans (f15_0 (h := h) hT))))))))), rfl, rfl, trivial⟩ rfl rfl rfl ?_
  intro h36 dr36 F36 qa36 qb36 qc36
  obtain ⟨l36, qc36⟩ := qc36
  refine am_e_aload_n n70_57 rfl ?_
  refine am_e_getf (v := .ref 148) n70_58 rfl ((F36 0 11 rfl).trans ((F35 0 11 rfl).trans ((F34 0 11 rfl).trans ((F33 0 11 rfl).trans ((F32 0 11 rfl).trans ((F31 0 11 rfl).trans ((F30 0 11 rfl).trans ((F29 0 11 rfl).trans ((F28 0 11 rfl).trans (f0_11 (h := h) hT)))))))))) ?_
  refine am_e_getf (v := .ref 149) n70_59 rfl ((F36 148 1 rfl).trans ((F35 148 1 rfl).trans ((F34 148 1 rfl).trans ((F33 148 1 rfl).trans ((F32 148 1 rfl).trans ((F31 148 1 rfl).trans ((F30 148 1 rfl).trans ((F29 148 1 rfl).trans ((F28 148 1 rfl).trans (f148_1 (h := h) hT)))))))))) ?_
  refine am_e_getf (v := .int 0) n70_60 rfl qa36 ?_
  refine am_e_iload_n n70_61 rfl ?_
  refine am_e_cmpF n70_62 (am_c_ltF (by decide)) ?_
  refine am_e_iinc (w := 9) (ls' := [(6, .int 9), (0, .ref 0), (2, .int (nI n)), (3, .int (nI 0)), (4, .long dr36), (7, .int 8), (8, .int (nI n))]) n70_63 rfl rfl (by decide) rfl ?_
  refine am_e_iinc (w := 9) (ls' := [(7, .int 9), (6, .int 9), (0, .ref 0), (2, .int (nI n)), (3, .int (nI 0)), (4, .long dr36), (8, .int (nI n))]) n70_64 rfl rfl (by decide) rfl ?_
  refine am_e_goto c70_65 t70_65 ?_
  refine am_e_iload n70_21 rfl ?_
  refine am_e_bipush (w := 10) n70_22 (by decide) ?_
  refine am_e_cmpF n70_23 (am_c_geF (by decide)) ?_
  refine am_e_aload_n n70_24 rfl ?_
  refine am_e_getf (v := .ref 148) n70_25 rfl ((F36 0 11 rfl).trans ((F35 0 11 rfl).trans ((F34 0 11 rfl).trans ((F33 0 11 rfl).trans ((F32 0 11 rfl).trans ((F31 0 11 rfl).trans ((F30 0 11 rfl).trans ((F29 0 11 rfl).trans ((F28 0 11 rfl).trans (f0_11 (h := h) hT)))))))))) ?_
  refine am_e_aload_n n70_26 rfl ?_
  refine am_e_getf (v := .ref 2) n70_27 rfl ((F36 0 2 rfl).trans ((F35 0 2 rfl).trans ((F34 0 2 rfl).trans ((F33 0 2 rfl).trans ((F32 0 2 rfl).trans ((F31 0 2 rfl).trans ((F30 0 2 rfl).trans ((F29 0 2 rfl).trans ((F28 0 2 rfl).trans (f0_2 (h := h) hT)))))))))) ?_
  refine am_e_aload_n n70_28 rfl ?_
  refine am_e_getf (v := .ref 48) n70_29 rfl ((F36 0 5 rfl).trans ((F35 0 5 rfl).trans ((F34 0 5 rfl).trans ((F33 0 5 rfl).trans ((F32 0 5 rfl).trans ((F31 0 5 rfl).trans ((F30 0 5 rfl).trans ((F29 0 5 rfl).trans ((F28 0 5 rfl).trans (f0_5 (h := h) hT)))))))))) ?_
  refine am_e_callV (L := [(0, .ref 148), (1, .ref 2), (2, .ref 48)]) n70_30 rfl rfl rfl rfl rfl rfl rfl rfl ?_
  refine am_e_aload_n n31_0 rfl ?_
  refine am_e_aload_n n31_1 rfl ?_
  refine am_e_putf n31_2 rfl rfl ?_
  refine am_e_aload_n n31_3 rfl ?_
  refine am_e_getf (v := .ref 149) n31_4 rfl ((F36 148 1 rfl).trans ((F35 148 1 rfl).trans ((F34 148 1 rfl).trans ((F33 148 1 rfl).trans ((F32 148 1 rfl).trans ((F31 148 1 rfl).trans ((F30 148 1 rfl).trans ((F29 148 1 rfl).trans ((F28 148 1 rfl).trans (f148_1 (h := h) hT)))))))))) ?_
  refine am_e_aload_n n31_5 rfl ?_
  refine am_e_callV (L := [(0, .ref 149), (1, .ref 48)]) n31_6 rfl rfl rfl rfl rfl rfl rfl rfl ?_
  refine am_e_aload_n n32_0 rfl ?_
  refine am_e_aload_n n32_1 rfl ?_
  refine am_e_getf (v := .int 0) n32_2 rfl ((F36 48 0 rfl).trans ((F35 48 0 rfl).trans ((F34 48 0 rfl).trans ((F33 48 0 rfl).trans ((F32 48 0 rfl).trans ((F31 48 0 rfl).trans ((F30 48 0 rfl).trans ((F29 48 0 rfl).trans ((F28 48 0 rfl).trans (f48_0 (h := h) hT)))))))))) ?_
  refine am_e_putf n32_3 rfl rfl ?_
  refine am_e_aload_n n32_4 rfl ?_
  refine am_e_aload_n n32_5 rfl ?_
  refine am_e_getf (v := .int 0) n32_6 rfl ((F36 48 1 rfl).trans ((F35 48 1 rfl).trans ((F34 48 1 rfl).trans ((F33 48 1 rfl).trans ((F32 48 1 rfl).trans ((F31 48 1 rfl).trans ((F30 48 1 rfl).trans ((F29 48 1 rfl).trans ((F28 48 1 rfl).trans (f48_1 (h := h) hT)))))))))) ?_
  refine am_e_putf n32_7 rfl rfl ?_
  refine am_e_aload_n n32_8 rfl ?_
  refine am_e_aload_n n32_9 rfl ?_
  refine am_e_getf (v := .int (-1)) n32_10 rfl ((F36 48 2 rfl).trans ((F35 48 2 rfl).trans ((F34 48 2 rfl).trans ((F33 48 2 rfl).trans ((F32 48 2 rfl).trans ((F31 48 2 rfl).trans ((F30 48 2 rfl).trans ((F29 48 2 rfl).trans ((F28 48 2 rfl).trans (f48_2 (h := h) hT)))))))))) ?_
  refine am_e_putf n32_11 rfl rfl ?_
  refine am_e_aload_n n32_12 rfl ?_
  refine am_e_aload_n n32_13 rfl ?_
  refine am_e_getf (v := .int 0) n32_14 rfl ((F36 48 3 rfl).trans ((F35 48 3 rfl).trans ((F34 48 3 rfl).trans ((F33 48 3 rfl).trans ((F32 48 3 rfl).trans ((F31 48 3 rfl).trans ((F30 48 3 rfl).trans ((F29 48 3 rfl).trans ((F28 48 3 rfl).trans (f48_3 (h := h) hT)))))))))) ?_
  refine am_e_putf n32_15 rfl rfl ?_
  refine am_e_aload_n n32_16 rfl ?_
  refine am_e_aload_n n32_17 rfl ?_
  refine am_e_getf (v := .int 0) n32_18 rfl ((F36 48 4 rfl).trans ((F35 48 4 rfl).trans ((F34 48 4 rfl).trans ((F33 48 4 rfl).trans ((F32 48 4 rfl).trans ((F31 48 4 rfl).trans ((F30 48 4 rfl).trans ((F29 48 4 rfl).trans ((F28 48 4 rfl).trans (f48_4 (h := h) hT)))))))))) ?_
  refine am_e_putf n32_19 rfl rfl ?_
  refine am_e_iconst (w := 0) n32_20 rfl ?_
  refine am_e_istore_n (ls' := [(2, .int 0), (0, .ref 149), (1, .ref 48)]) n32_21 rfl rfl ?_
  refine am_e_iload_n n32_22 rfl ?_
  refine am_e_iconst (w := 4) n32_23 rfl ?_
  refine am_e_cmpF n32_24 (am_c_geF (by decide)) ?_
  refine am_e_aload_n n32_25 rfl ?_
  refine am_e_getf (v := .ref 150) n32_26 rfl ((F36 149 5 rfl).trans ((F35 149 5 rfl).trans ((F34 149 5 rfl).trans ((F33 149 5 rfl).trans ((F32 149 5 rfl).trans ((F31 149 5 rfl).trans ((F30 149 5 rfl).trans ((F29 149 5 rfl).trans ((F28 149 5 rfl).trans (f149_5 (h := h) hT)))))))))) ?_
  refine am_e_iload_n n32_27 rfl ?_
  refine am_e_aload_n n32_28 rfl ?_
  refine am_e_getf (v := .ref 49) n32_29 rfl ((F36 48 5 rfl).trans ((F35 48 5 rfl).trans ((F34 48 5 rfl).trans ((F33 48 5 rfl).trans ((F32 48 5 rfl).trans ((F31 48 5 rfl).trans ((F30 48 5 rfl).trans ((F29 48 5 rfl).trans ((F28 48 5 rfl).trans (f48_5 (h := h) hT)))))))))) ?_
  refine am_e_iload_n n32_30 rfl ?_
  refine am_e_iaload (v := 0) (q := 0) n32_31 rfl (by decide) (by decide) ((F36 49 0 rfl).trans ((F35 49 0 rfl).trans ((F34 49 0 rfl).trans ((F33 49 0 rfl).trans ((F32 49 0 rfl).trans ((F31 49 0 rfl).trans ((F30 49 0 rfl).trans ((F29 49 0 rfl).trans ((F28 49 0 rfl).trans (f49_0 (h := h) hT)))))))))) ?_
  refine am_e_iastore (q := 0) n32_32 rfl (by decide) (by decide) ?_
  refine am_e_aload_n n32_33 rfl ?_
  refine am_e_getf (v := .ref 151) n32_34 rfl ((F36 149 6 rfl).trans ((F35 149 6 rfl).trans ((F34 149 6 rfl).trans ((F33 149 6 rfl).trans ((F32 149 6 rfl).trans ((F31 149 6 rfl).trans ((F30 149 6 rfl).trans ((F29 149 6 rfl).trans ((F28 149 6 rfl).trans (f149_6 (h := h) hT)))))))))) ?_
  refine am_e_iload_n n32_35 rfl ?_
  refine am_e_aload_n n32_36 rfl ?_
  refine am_e_getf (v := .ref 50) n32_37 rfl ((F36 48 6 rfl).trans ((F35 48 6 rfl).trans ((F34 48 6 rfl).trans ((F33 48 6 rfl).trans ((F32 48 6 rfl).trans ((F31 48 6 rfl).trans ((F30 48 6 rfl).trans ((F29 48 6 rfl).trans ((F28 48 6 rfl).trans (f48_6 (h := h) hT)))))))))) ?_
  refine am_e_iload_n n32_38 rfl ?_
  refine am_e_iaload (v := 0) (q := 0) n32_39 rfl (by decide) (by decide) ((F36 50 0 rfl).trans ((F35 50 0 rfl).trans ((F34 50 0 rfl).trans ((F33 50 0 rfl).trans ((F32 50 0 rfl).trans ((F31 50 0 rfl).trans ((F30 50 0 rfl).trans ((F29 50 0 rfl).trans ((F28 50 0 rfl).trans (f50_0 (h := h) hT)))))))))) ?_
  refine am_e_iastore (q := 0) n32_40 rfl (by decide) (by decide) ?_
  refine am_e_aload_n n32_41 rfl ?_
  refine am_e_getf (v := .ref 152) n32_42 rfl ((F36 149 7 rfl).trans ((F35 149 7 rfl).trans ((F34 149 7 rfl).trans ((F33 149 7 rfl).trans ((F32 149 7 rfl).trans ((F31 149 7 rfl).trans ((F30 149 7 rfl).trans ((F29 149 7 rfl).trans ((F28 149 7 rfl).trans (f149_7 (h := h) hT)))))))))) ?_
  refine am_e_iload_n n32_43 rfl ?_
  refine am_e_aload_n n32_44 rfl ?_
  refine am_e_getf (v := .ref 51) n32_45 rfl ((F36 48 7 rfl).trans ((F35 48 7 rfl).trans ((F34 48 7 rfl).trans ((F33 48 7 rfl).trans ((F32 48 7 rfl).trans ((F31 48 7 rfl).trans ((F30 48 7 rfl).trans ((F29 48 7 rfl).trans ((F28 48 7 rfl).trans (f48_7 (h := h) hT)))))))))) ?_
  refine am_e_iload_n n32_46 rfl ?_
  refine am_e_iaload (v := 0) (q := 0) n32_47 rfl (by decide) (by decide) ((F36 51 0 rfl).trans ((F35 51 0 rfl).trans ((F34 51 0 rfl).trans ((F33 51 0 rfl).trans ((F32 51 0 rfl).trans ((F31 51 0 rfl).trans ((F30 51 0 rfl).trans ((F29 51 0 rfl).trans ((F28 51 0 rfl).trans (f51_0 (h := h) hT)))))))))) ?_
  refine am_e_iastore (q := 0) n32_48 rfl (by decide) (by decide) ?_
  refine am_e_iinc (w := 1) (ls' := [(2, .int 1), (0, .ref 149), (1, .ref 48)]) n32_49 rfl rfl (by decide) rfl ?_
  refine am_e_goto c32_50 t32_50 ?_
  refine am_e_iload_n n32_22 rfl ?_
  refine am_e_iconst (w := 4) n32_23 rfl ?_
  refine am_e_cmpF n32_24 (am_c_geF (by decide)) ?_
  refine am_e_aload_n n32_25 rfl ?_
  refine am_e_getf (v := .ref 150) n32_26 rfl ((F36 149 5 rfl).trans ((F35 149 5 rfl).trans ((F34 149 5 rfl).trans ((F33 149 5 rfl).trans ((F32 149 5 rfl).trans ((F31 149 5 rfl).trans ((F30 149 5 rfl).trans ((F29 149 5 rfl).trans ((F28 149 5 rfl).trans (f149_5 (h := h) hT)))))))))) ?_
  refine am_e_iload_n n32_27 rfl ?_
  refine am_e_aload_n n32_28 rfl ?_
  refine am_e_getf (v := .ref 49) n32_29 rfl ((F36 48 5 rfl).trans ((F35 48 5 rfl).trans ((F34 48 5 rfl).trans ((F33 48 5 rfl).trans ((F32 48 5 rfl).trans ((F31 48 5 rfl).trans ((F30 48 5 rfl).trans ((F29 48 5 rfl).trans ((F28 48 5 rfl).trans (f48_5 (h := h) hT)))))))))) ?_
  refine am_e_iload_n n32_30 rfl ?_
  refine am_e_iaload (v := 0) (q := 1) n32_31 rfl (by decide) (by decide) ((F36 49 1 rfl).trans ((F35 49 1 rfl).trans ((F34 49 1 rfl).trans ((F33 49 1 rfl).trans ((F32 49 1 rfl).trans ((F31 49 1 rfl).trans ((F30 49 1 rfl).trans ((F29 49 1 rfl).trans ((F28 49 1 rfl).trans (f49_1 (h := h) hT)))))))))) ?_
  refine am_e_iastore (q := 1) n32_32 rfl (by decide) (by decide) ?_
  refine am_e_aload_n n32_33 rfl ?_
  refine am_e_getf (v := .ref 151) n32_34 rfl ((F36 149 6 rfl).trans ((F35 149 6 rfl).trans ((F34 149 6 rfl).trans ((F33 149 6 rfl).trans ((F32 149 6 rfl).trans ((F31 149 6 rfl).trans ((F30 149 6 rfl).trans ((F29 149 6 rfl).trans ((F28 149 6 rfl).trans (f149_6 (h := h) hT)))))))))) ?_
  refine am_e_iload_n n32_35 rfl ?_
  refine am_e_aload_n n32_36 rfl ?_
  refine am_e_getf (v := .ref 50) n32_37 rfl ((F36 48 6 rfl).trans ((F35 48 6 rfl).trans ((F34 48 6 rfl).trans ((F33 48 6 rfl).trans ((F32 48 6 rfl).trans ((F31 48 6 rfl).trans ((F30 48 6 rfl).trans ((F29 48 6 rfl).trans ((F28 48 6 rfl).trans (f48_6 (h := h) hT)))))))))) ?_
  refine am_e_iload_n n32_38 rfl ?_
  refine am_e_iaload (v := 0) (q := 1) n32_39 rfl (by decide) (by decide) ((F36 50 1 rfl).trans ((F35 50 1 rfl).trans ((F34 50 1 rfl).trans ((F33 50 1 rfl).trans ((F32 50 1 rfl).trans ((F31 50 1 rfl).trans ((F30 50 1 rfl).trans ((F29 50 1 rfl).trans ((F28 50 1 rfl).trans (f50_1 (h := h) hT)))))))))) ?_
  refine am_e_iastore (q := 1) n32_40 rfl (by decide) (by decide) ?_
  refine am_e_aload_n n32_41 rfl ?_
  refine am_e_getf (v := .ref 152) n32_42 rfl ((F36 149 7 rfl).trans ((F35 149 7 rfl).trans ((F34 149 7 rfl).trans ((F33 149 7 rfl).trans ((F32 149 7 rfl).trans ((F31 149 7 rfl).trans ((F30 149 7 rfl).trans ((F29 149 7 rfl).trans ((F28 149 7 rfl).trans (f149_7 (h := h) hT)))))))))) ?_
  refine am_e_iload_n n32_43 rfl ?_
  refine am_e_aload_n n32_44 rfl ?_
  refine am_e_getf (v := .ref 51) n32_45 rfl ((F36 48 7 rfl).trans ((F35 48 7 rfl).trans ((F34 48 7 rfl).trans ((F33 48 7 rfl).trans ((F32 48 7 rfl).trans ((F31 48 7 rfl).trans ((F30 48 7 rfl).trans ((F29 48 7 rfl).trans ((F28 48 7 rfl).trans (f48_7 (h := h) hT)))))))))) ?_
  refine am_e_iload_n n32_46 rfl ?_
  refine am_e_iaload (v := 0) (q := 1) n32_47 rfl (by decide) (by decide) ((F36 51 1 rfl).trans ((F35 51 1 rfl).trans ((F34 51 1 rfl).trans ((F33 51 1 rfl).trans ((F32 51 1 rfl).trans ((F31 51 1 rfl).trans ((F30 51 1 rfl).trans ((F29 51 1 rfl).trans ((F28 51 1 rfl).trans (f51_1 (h := h) hT)))))))))) ?_
  refine am_e_iastore (q := 1) n32_48 rfl (by decide) (by decide) ?_
  refine am_e_iinc (w := 2) (ls' := [(2, .int 2), (0, .ref 149), (1, .ref 48)]) n32_49 rfl rfl (by decide) rfl ?_
  refine am_e_goto c32_50 t32_50 ?_
  refine am_e_iload_n n32_22 rfl ?_
  refine am_e_iconst (w := 4) n32_23 rfl ?_
  refine am_e_cmpF n32_24 (am_c_geF (by decide)) ?_
  refine am_e_aload_n n32_25 rfl ?_
  refine am_e_getf (v := .ref 150) n32_26 rfl ((F36 149 5 rfl).trans ((F35 149 5 rfl).trans ((F34 149 5 rfl).trans ((F33 149 5 rfl).trans ((F32 149 5 rfl).trans ((F31 149 5 rfl).trans ((F30 149 5 rfl).trans ((F29 149 5 rfl).trans ((F28 149 5 rfl).trans (f149_5 (h := h) hT)))))))))) ?_
  refine am_e_iload_n n32_27 rfl ?_
  refine am_e_aload_n n32_28 rfl ?_
  refine am_e_getf (v := .ref 49) n32_29 rfl ((F36 48 5 rfl).trans ((F35 48 5 rfl).trans ((F34 48 5 rfl).trans ((F33 48 5 rfl).trans ((F32 48 5 rfl).trans ((F31 48 5 rfl).trans ((F30 48 5 rfl).trans ((F29 48 5 rfl).trans ((F28 48 5 rfl).trans (f48_5 (h := h) hT)))))))))) ?_
  refine am_e_iload_n n32_30 rfl ?_
  refine am_e_iaload (v := 0) (q := 2) n32_31 rfl (by decide) (by decide) ((F36 49 2 rfl).trans ((F35 49 2 rfl).trans ((F34 49 2 rfl).trans ((F33 49 2 rfl).trans ((F32 49 2 rfl).trans ((F31 49 2 rfl).trans ((F30 49 2 rfl).trans ((F29 49 2 rfl).trans ((F28 49 2 rfl).trans (f49_2 (h := h) hT)))))))))) ?_
  refine am_e_iastore (q := 2) n32_32 rfl (by decide) (by decide) ?_
  refine am_e_aload_n n32_33 rfl ?_
  refine am_e_getf (v := .ref 151) n32_34 rfl ((F36 149 6 rfl).trans ((F35 149 6 rfl).trans ((F34 149 6 rfl).trans ((F33 149 6 rfl).trans ((F32 149 6 rfl).trans ((F31 149 6 rfl).trans ((F30 149 6 rfl).trans ((F29 149 6 rfl).trans ((F28 149 6 rfl).trans (f149_6 (h := h) hT)))))))))) ?_
  refine am_e_iload_n n32_35 rfl ?_
  refine am_e_aload_n n32_36 rfl ?_
  refine am_e_getf (v := .ref 50) n32_37 rfl ((F36 48 6 rfl).trans ((F35 48 6 rfl).trans ((F34 48 6 rfl).trans ((F33 48 6 rfl).trans ((F32 48 6 rfl).trans ((F31 48 6 rfl).trans ((F30 48 6 rfl).trans ((F29 48 6 rfl).trans ((F28 48 6 rfl).trans (f48_6 (h := h) hT)))))))))) ?_
  refine am_e_iload_n n32_38 rfl ?_
  refine am_e_iaload (v := 0) (q := 2) n32_39 rfl (by decide) (by decide) ((F36 50 2 rfl).trans ((F35 50 2 rfl).trans ((F34 50 2 rfl).trans ((F33 50 2 rfl).trans ((F32 50 2 rfl).trans ((F31 50 2 rfl).trans ((F30 50 2 rfl).trans ((F29 50 2 rfl).trans ((F28 50 2 rfl).trans (f50_2 (h := h) hT)))))))))) ?_
  refine am_e_iastore (q := 2) n32_40 rfl (by decide) (by decide) ?_
  refine am_e_aload_n n32_41 rfl ?_
  refine am_e_getf (v := .ref 152) n32_42 rfl ((F36 149 7 rfl).trans ((F35 149 7 rfl).trans ((F34 149 7 rfl).trans ((F33 149 7 rfl).trans ((F32 149 7 rfl).trans ((F31 149 7 rfl).trans ((F30 149 7 rfl).trans ((F29 149 7 rfl).trans ((F28 149 7 rfl).trans (f149_7 (h := h) hT)))))))))) ?_
  refine am_e_iload_n n32_43 rfl ?_
  refine am_e_aload_n n32_44 rfl ?_
  refine am_e_getf (v := .ref 51) n32_45 rfl ((F36 48 7 rfl).trans ((F35 48 7 rfl).trans ((F34 48 7 rfl).trans ((F33 48 7 rfl).trans ((F32 48 7 rfl).trans ((F31 48 7 rfl).trans ((F30 48 7 rfl).trans ((F29 48 7 rfl).trans ((F28 48 7 rfl).trans (f48_7 (h := h) hT)))))))))) ?_
  refine am_e_iload_n n32_46 rfl ?_
  refine am_e_iaload (v := 0) (q := 2) n32_47 rfl (by decide) (by decide) ((F36 51 2 rfl).trans ((F35 51 2 rfl).trans ((F34 51 2 rfl).trans ((F33 51 2 rfl).trans ((F32 51 2 rfl).trans ((F31 51 2 rfl).trans ((F30 51 2 rfl).trans ((F29 51 2 rfl).trans ((F28 51 2 rfl).trans (f51_2 (h := h) hT)))))))))) ?_
  refine am_e_iastore (q := 2) n32_48 rfl (by decide) (by decide) ?_
  refine am_e_iinc (w := 3) (ls' := [(2, .int 3), (0, .ref 149), (1, .ref 48)]) n32_49 rfl rfl (by decide) rfl ?_
  refine am_e_goto c32_50 t32_50 ?_
  refine am_e_iload_n n32_22 rfl ?_
  refine am_e_iconst (w := 4) n32_23 rfl ?_
  refine am_e_cmpF n32_24 (am_c_geF (by decide)) ?_
  refine am_e_aload_n n32_25 rfl ?_
  refine am_e_getf (v := .ref 150) n32_26 rfl ((F36 149 5 rfl).trans ((F35 149 5 rfl).trans ((F34 149 5 rfl).trans ((F33 149 5 rfl).trans ((F32 149 5 rfl).trans ((F31 149 5 rfl).trans ((F30 149 5 rfl).trans ((F29 149 5 rfl).trans ((F28 149 5 rfl).trans (f149_5 (h := h) hT)))))))))) ?_
  refine am_e_iload_n n32_27 rfl ?_
  refine am_e_aload_n n32_28 rfl ?_
  refine am_e_getf (v := .ref 49) n32_29 rfl ((F36 48 5 rfl).trans ((F35 48 5 rfl).trans ((F34 48 5 rfl).trans ((F33 48 5 rfl).trans ((F32 48 5 rfl).trans ((F31 48 5 rfl).trans ((F30 48 5 rfl).trans ((F29 48 5 rfl).trans ((F28 48 5 rfl).trans (f48_5 (h := h) hT)))))))))) ?_
  refine am_e_iload_n n32_30 rfl ?_
  refine am_e_iaload (v := 0) (q := 3) n32_31 rfl (by decide) (by decide) ((F36 49 3 rfl).trans ((F35 49 3 rfl).trans ((F34 49 3 rfl).trans ((F33 49 3 rfl).trans ((F32 49 3 rfl).trans ((F31 49 3 rfl).trans ((F30 49 3 rfl).trans ((F29 49 3 rfl).trans ((F28 49 3 rfl).trans (f49_3 (h := h) hT)))))))))) ?_
  refine am_e_iastore (q := 3) n32_32 rfl (by decide) (by decide) ?_
  refine am_e_aload_n n32_33 rfl ?_
  refine am_e_getf (v := .ref 151) n32_34 rfl ((F36 149 6 rfl).trans ((F35 149 6 rfl).trans ((F34 149 6 rfl).trans ((F33 149 6 rfl).trans ((F32 149 6 rfl).trans ((F31 149 6 rfl).trans ((F30 149 6 rfl).trans ((F29 149 6 rfl).trans ((F28 149 6 rfl).trans (f149_6 (h := h) hT)))))))))) ?_
  refine am_e_iload_n n32_35 rfl ?_
  refine am_e_aload_n n32_36 rfl ?_
  refine am_e_getf (v := .ref 50) n32_37 rfl ((F36 48 6 rfl).trans ((F35 48 6 rfl).trans ((F34 48 6 rfl).trans ((F33 48 6 rfl).trans ((F32 48 6 rfl).trans ((F31 48 6 rfl).trans ((F30 48 6 rfl).trans ((F29 48 6 rfl).trans ((F28 48 6 rfl).trans (f48_6 (h := h) hT)))))))))) ?_
  refine am_e_iload_n n32_38 rfl ?_
  refine am_e_iaload (v := 0) (q := 3) n32_39 rfl (by decide) (by decide) ((F36 50 3 rfl).trans ((F35 50 3 rfl).trans ((F34 50 3 rfl).trans ((F33 50 3 rfl).trans ((F32 50 3 rfl).trans ((F31 50 3 rfl).trans ((F30 50 3 rfl).trans ((F29 50 3 rfl).trans ((F28 50 3 rfl).trans (f50_3 (h := h) hT)))))))))) ?_
  refine am_e_iastore (q := 3) n32_40 rfl (by decide) (by decide) ?_
  refine am_e_aload_n n32_41 rfl ?_
  refine am_e_getf (v := .ref 152) n32_42 rfl ((F36 149 7 rfl).trans ((F35 149 7 rfl).trans ((F34 149 7 rfl).trans ((F33 149 7 rfl).trans ((F32 149 7 rfl).trans ((F31 149 7 rfl).trans ((F30 149 7 rfl).trans ((F29 149 7 rfl).trans ((F28 149 7 rfl).trans (f149_7 (h := h) hT)))))))))) ?_
  refine am_e_iload_n n32_43 rfl ?_
  refine am_e_aload_n n32_44 rfl ?_
  refine am_e_getf (v := .ref 51) n32_45 rfl ((F36 48 7 rfl).trans ((F35 48 7 rfl).trans ((F34 48 7 rfl).trans ((F33 48 7 rfl).trans ((F32 48 7 rfl).trans ((F31 48 7 rfl).trans ((F30 48 7 rfl).trans ((F29 48 7 rfl).trans ((F28 48 7 rfl).trans (f48_7 (h := h) hT)))))))))) ?_
  refine am_e_iload_n n32_46 rfl ?_
  refine am_e_iaload (v := 0) (q := 3) n32_47 rfl (by decide) (by decide) ((F36 51 3 rfl).trans ((F35 51 3 rfl).trans ((F34 51 3 rfl).trans ((F33 51 3 rfl).trans ((F32 51 3 rfl).trans ((F31 51 3 rfl).trans ((F30 51 3 rfl).trans ((F29 51 3 rfl).trans ((F28 51 3 rfl).trans (f51_3 (h := h) hT)))))))))) ?_
  refine am_e_iastore (q := 3) n32_48 rfl (by decide) (by decide) ?_
  refine am_e_iinc (w := 4) (ls' := [(2, .int 4), (0, .ref 149), (1, .ref 48)]) n32_49 rfl rfl (by decide) rfl ?_
  refine am_e_goto c32_50 t32_50 ?_
  refine am_e_iload_n n32_22 rfl ?_
  refine am_e_iconst (w := 4) n32_23 rfl ?_
  refine am_e_cmpT n32_24 (am_c_geT (by decide)) t32_24 ?_
  refine am_e_vret c32_51 rfl rfl ?_
  refine am_e_aload_n n31_7 rfl ?_
  refine am_e_aload_n n31_8 rfl ?_
  refine am_e_getf (v := .int (-1)) n31_9 rfl ((F36 2 18 rfl).trans ((F35 2 18 rfl).trans ((F34 2 18 rfl).trans ((F33 2 18 rfl).trans ((F32 2 18 rfl).trans ((F31 2 18 rfl).trans ((F30 2 18 rfl).trans ((F29 2 18 rfl).trans ((F28 2 18 rfl).trans (f2_18 (h := h) hT)))))))))) ?_
  refine am_e_putf n31_10 rfl rfl ?_
  refine am_e_aload_n n31_11 rfl ?_
  refine am_e_iconst (w := 0) n31_12 rfl ?_
  refine am_e_putf n31_13 rfl rfl ?_
  refine am_e_aload_n n31_14 rfl ?_
  refine am_e_iconst (w := 0) n31_15 rfl ?_
  refine am_e_putf n31_16 rfl rfl ?_
  refine am_e_aload_n n31_17 rfl ?_
  refine am_e_ldc (w := 2147483647) n31_18 (by decide) ?_
  refine am_e_putf n31_19 rfl rfl ?_
  refine am_e_aload_n n31_20 rfl ?_
  refine am_e_ldc (w := 2147483647) n31_21 (by decide) ?_
  refine am_e_putf n31_22 rfl rfl ?_
  refine am_e_vret c31_23 rfl rfl ?_
  refine am_e_iconst (w := 0) n70_31 rfl ?_
  refine am_e_istore (ls' := [(8, .int 0), (7, .int 9), (6, .int 9), (0, .ref 0), (2, .int (nI n)), (3, .int (nI 0)), (4, .long dr36)]) n70_32 rfl rfl ?_
  refine am_Ek_ls (ls' := [(0, .ref 0), (2, .int (nI n)), (3, .int (nI 0)), (4, .long dr36), (6, .int 9), (7, .int 9), (8, .int (nI 0))]) ⟨rfl, rfl, rfl, rfl, rfl, rfl, rfl, trivial⟩ ?_
  refine am_cc_e (n := n) (b := 0) (s := 0) (t := 9) (i7 := 9) (dr := dr36) (by omega) (by omega) ⟨((F36 0 11 rfl).trans ((F35 0 11 rfl).trans ((F34 0 11 rfl).trans ((F33 0 11 rfl).trans ((F32 0 11 rfl).trans ((F31 0 11 rfl).trans ((F30 0 11 rfl).trans ((F29 0 11 rfl).trans ((F28 0 11 rfl).trans (f0_11 (h := h) hT)))))))))), ((F36 0 2 rfl).trans ((F35 0 2 rfl).trans ((F34 0 2 rfl).trans ((F33 0 2 rfl).trans ((F32 0 2 rfl).trans ((F31 0 2 rfl).trans ((F30 0 2 rfl).trans ((F29 0 2 rfl).trans ((F28 0 2 rfl).trans (f0_2 (h := h) hT)))))))))), ((F36 2 16 rfl).trans ((F35 2 16 rfl).trans ((F34 2 16 rfl).trans ((F33 2 16 rfl).trans ((F32 2 16 rfl).trans ((F31 2 16 rfl).trans ((F30 2 16 rfl).trans ((F29 2 16 rfl).trans ((F28 2 16 rfl).trans (f2_16 (h := h) hT)))))))))), ((F36 148 1 rfl).trans ((F35 148 1 rfl).trans ((F34 148 1 rfl).trans ((F33 148 1 rfl).trans ((F32 148 1 rfl).trans ((F31 148 1 rfl).trans ((F30 148 1 rfl).trans ((F29 148 1 rfl).trans ((F28 148 1 rfl).trans (f148_1 (h := h) hT)))))))))), rfl, rfl, ((F36 2 19 rfl).trans ((F35 2 19 rfl).trans ((F34 2 19 rfl).trans ((F33 2 19 rfl).trans ((F32 2 19 rfl).trans ((F31 2 19 rfl).trans ((F30 2 19 rfl).trans ((F29 2 19 rfl).trans ((F28 2 19 rfl).trans (f2_19 (h := h) hT)))))))))), ((F36 11 7 rfl).trans ((F35 11 7 rfl).trans ((F34 11 7 rfl).trans ((F33 11 7 rfl).trans ((F32 11 7 rfl).trans ((F31 11 7 rfl).trans ((F30 11 7 rfl).trans ((F29 11 7 rfl).trans ((F28 11 7 rfl).trans (f11_7 (h := h) hT)))))))))), ((F36 2 0 rfl).trans ((F35 2 0 rfl).trans ((F34 2 0 rfl).trans ((F33 2 0 rfl).trans ((F32 2 0 rfl).trans ((F31 2 0 rfl).trans ((F30 2 0 rfl).trans ((F29 2 0 rfl).trans ((F28 2 0 rfl).trans (f2_0 (h := h) hT)))))))))), ((F36 11 6 rfl).trans ((F35 11 6 rfl).trans ((F34 11 6 rfl).trans ((F33 11 6 rfl).trans ((F32 11 6 rfl).trans ((F31 11 6 rfl).trans ((F30 11 6 rfl).trans ((F29 11 6 rfl).trans ((F28 11 6 rfl).trans (f11_6 (h := h) hT)))))))))), ((F36 16 0 rfl).trans ((F35 16 0 rfl).trans ((F34 16 0 rfl).trans ((F33 16 0 rfl).trans ((F32 16 0 rfl).trans ((F31 16 0 rfl).trans ((F30 16 0 rfl).trans ((F29 16 0 rfl).trans ((F28 16 0 rfl).trans (f16_0 (h := h) hT)))))))))), ((F36 11 4 rfl).trans ((F35 11 4 rfl).trans ((F34 11 4 rfl).trans ((F33 11 4 rfl).trans ((F32 11 4 rfl).trans ((F31 11 4 rfl).trans ((F30 11 4 rfl).trans ((F29 11 4 rfl).trans ((F28 11 4 rfl).trans (f11_4 (h := h) hT)))))))))), ((F36 14 0 rfl).trans ((F35 14 0 rfl).trans ((F34 14 0 rfl).trans ((F33 14 0 rfl).trans ((F32 14 0 rfl).trans ((F31 14 0 rfl).trans ((F30 14 0 rfl).trans ((F29 14 0 rfl).trans ((F28 14 0 rfl).trans (f14_0 (h := h) hT)))))))))), ((F36 11 5 rfl).trans ((F35 11 5 rfl).trans ((F34 11 5 rfl).trans ((F33 11 5 rfl).trans ((F32 11 5 rfl).trans ((F31 11 5 rfl).trans ((F30 11 5 rfl).trans ((F29 11 5 rfl).trans ((F28 11 5 rfl).trans (f11_5 (h := h) hT)))))))))), ((F36 15 0 rfl).trans ((F35 15 0 rfl).trans ((F34 15 0 rfl).trans ((F33 15 0 rfl).trans ((F32 15 0 rfl).trans ((F31 15 0 rfl).trans ((F30 15 0 rfl).trans ((F29 15 0 rfl).trans ((F28 15 0 rfl).trans (f15_0 (h := h) hT)))))))))), rfl, rfl, trivial⟩ rfl rfl rfl ?_
  intro h37 dr37 F37 qa37 qb37 qc37
  obtain ⟨l37, qc37⟩ := qc37
  refine am_e_aload_n n70_57 rfl ?_
  refine am_e_getf (v := .ref 148) n70_58 rfl ((F37 0 11 rfl).trans ((F36 0 11 rfl).trans ((F35 0 11 rfl).trans ((F34 0 11 rfl).trans ((F33 0 11 rfl).trans ((F32 0 11 rfl).trans ((F31 0 11 rfl).trans ((F30 0 11 rfl).trans ((F29 0 11 rfl).trans ((F28 0 11 rfl).trans (f0_11 (h := h) hT))))))))))) ?_
  refine am_e_getf (v := .ref 149) n70_59 rfl ((F37 148 1 rfl).trans ((F36 148 1 rfl).trans ((F35 148 1 rfl).trans ((F34 148 1 rfl).trans ((F33 148 1 rfl).trans ((F32 148 1 rfl).trans ((F31 148 1 rfl).trans ((F30 148 1 rfl).trans ((F29 148 1 rfl).trans ((F28 148 1 rfl).trans (f148_1 (h := h) hT))))))))))) ?_
  refine am_e_getf (v := .int 0) n70_60 rfl qa37 ?_
  refine am_e_iload_n n70_61 rfl ?_
  refine am_e_cmpF n70_62 (am_c_ltF (by decide)) ?_
  refine am_e_iinc (w := 10) (ls' := [(6, .int 10), (0, .ref 0), (2, .int (nI n)), (3, .int (nI 0)), (4, .long dr37), (7, .int 9), (8, .int (nI n))]) n70_63 rfl rfl (by decide) rfl ?_
  refine am_e_iinc (w := 10) (ls' := [(7, .int 10), (6, .int 10), (0, .ref 0), (2, .int (nI n)), (3, .int (nI 0)), (4, .long dr37), (8, .int (nI n))]) n70_64 rfl rfl (by decide) rfl ?_
  refine am_e_goto c70_65 t70_65 ?_
  refine am_e_iload n70_21 rfl ?_
  refine am_e_bipush (w := 10) n70_22 (by decide) ?_
  refine am_e_cmpT n70_23 (am_c_geT (by decide)) t70_23 ?_
  refine am_e_iload n70_66 rfl ?_
  refine am_e_iret c70_67 rfl rfl rfl ?_
  refine am_e_aload_n n136_746 rfl ?_
  refine am_e_sload_n n136_747 rfl ?_
  refine am_e_iload n136_748 rfl ?_
  refine am_e_iconst (w := 1) n136_749 rfl ?_
  refine am_e_iadd (w := 1) n136_750 (by decide) ?_
  refine am_e_sald1 n136_751 rfl (by decide) (by decide) hx1 ?_
  refine am_e_sload_n n136_752 rfl ?_
  refine am_e_iload n136_753 rfl ?_
  refine am_e_iconst (w := 2) n136_754 rfl ?_
  refine am_e_iadd (w := 2) n136_755 (by decide) ?_
  refine am_e_sald1 n136_756 rfl (by decide) (by decide) hx2 ?_
  refine am_e_sload_n n136_757 rfl ?_
  refine am_e_iload n136_758 rfl ?_
  refine am_e_iconst (w := 3) n136_759 rfl ?_
  refine am_e_iadd (w := 3) n136_760 (by decide) ?_
  refine am_e_sald1 n136_761 rfl (by decide) (by decide) hx3 ?_
  refine am_e_callV (L := [(0, .ref 164), (1, .int a1), (2, .int (nI n)), (3, .int (nI 0))]) n136_762 rfl rfl rfl rfl rfl rfl rfl rfl ?_
  refine am_e_aload_n n127_0 rfl ?_
  refine am_e_iconst (w := 0) n127_1 rfl ?_
  refine am_e_putf n127_2 rfl rfl ?_
  refine am_e_iload_n n127_3 rfl ?_
  refine am_e_ifF n127_4 (am_c_ltF h1) ?_
  refine am_e_iload_n n127_5 rfl ?_
  refine am_e_iconst (w := 1) n127_6 rfl ?_
  refine am_e_sipush (w := 600) n127_7 (by decide) ?_
  refine am_e_callS (L := [(0, .int (nI n)), (1, .int 1), (2, .int 600)]) n127_8 rfl rfl rfl rfl rfl rfl rfl ?_
  refine am_e_iload_n n87_0 rfl ?_
  refine am_e_iload_n n87_1 rfl ?_
  refine am_e_cmpF n87_2 (am_c_ltF (nI_nlt (b := 1) hn1 (by omega))) ?_
  refine am_e_iload_n n87_3 rfl ?_
  refine am_e_iload_n n87_4 rfl ?_
  refine am_e_cmpF n87_5 (am_c_gtF (nI_nlt (a := 600) (b := n) hn9 (by decide))) ?_
  refine am_e_iconst (w := 1) n87_6 rfl ?_
  refine am_e_goto c87_7 t87_7 ?_
  refine am_e_iret c87_9 rfl rfl rfl ?_
  refine am_e_ifF n127_9 (am_c_eqF (by decide)) ?_
  refine am_e_iload_n n127_10 rfl ?_
  refine am_e_iconst (w := 0) n127_11 rfl ?_
  refine am_e_sipush (w := 9999) n127_12 (by decide) ?_
  refine am_e_callS (L := [(0, .int (nI 0)), (1, .int 0), (2, .int 9999)]) n127_13 rfl rfl rfl rfl rfl rfl rfl ?_
  refine am_e_iload_n n87_0 rfl ?_
  refine am_e_iload_n n87_1 rfl ?_
  refine am_e_cmpF n87_2 (am_c_ltF (by decide)) ?_
  refine am_e_iload_n n87_3 rfl ?_
  refine am_e_iload_n n87_4 rfl ?_
  refine am_e_cmpF n87_5 (am_c_gtF (by decide)) ?_
  refine am_e_iconst (w := 1) n87_6 rfl ?_
  refine am_e_goto c87_7 t87_7 ?_
  refine am_e_iret c87_9 rfl rfl rfl ?_
  refine am_e_ifT n127_14 (am_c_neT (by decide)) t127_14 ?_
  refine am_e_aload_n n127_17 rfl ?_
  refine am_e_getf (v := .long 0) n127_18 rfl ((F37 164 59 rfl).trans ((F36 164 59 rfl).trans ((F35 164 59 rfl).trans ((F34 164 59 rfl).trans ((F33 164 59 rfl).trans ((F32 164 59 rfl).trans ((F31 164 59 rfl).trans ((F30 164 59 rfl).trans ((F29 164 59 rfl).trans ((F28 164 59 rfl).trans (f164_59 (h := h) hT))))))))))) ?_
  refine am_e_lstore (ls' := [(4, .long 0), (0, .ref 164), (1, .int a1), (2, .int (nI n)), (3, .int (nI 0))]) n127_19 rfl rfl ?_
  refine am_e_aload_n n127_20 rfl ?_
  refine am_e_iload_n n127_21 rfl ?_
  refine am_e_i2l (w := (a1.toInt64)) n127_22 rfl ?_
  refine am_e_putf n127_23 rfl rfl ?_
  refine am_e_iconst (w := 0) n127_24 rfl ?_
  refine am_e_istore (ls' := [(6, .int 0), (4, .long 0), (0, .ref 164), (1, .int a1), (2, .int (nI n)), (3, .int (nI 0))]) n127_25 rfl rfl ?_
  refine am_e_iconst (w := 0) n127_26 rfl ?_
  refine am_e_istore (ls' := [(7, .int 0), (6, .int 0), (4, .long 0), (0, .ref 164), (1, .int a1), (2, .int (nI n)), (3, .int (nI 0))]) n127_27 rfl rfl ?_
  refine am_e_iload n127_28 rfl ?_
  refine am_e_bipush (w := 10) n127_29 (by decide) ?_
  refine am_e_cmpF n127_30 (am_c_geF (by decide)) ?_
  refine am_e_aload_n n127_31 rfl ?_
  refine am_e_iconst (w := 1) n127_32 rfl ?_
  refine am_e_iconst (w := 0) n127_33 rfl ?_
  refine am_e_callV (L := [(0, .ref 164), (1, .int 1), (2, .int 0)]) n127_34 rfl rfl rfl rfl rfl rfl rfl rfl ?_
  refine am_e_aload_n n97_0 rfl ?_
  refine am_e_getf (v := .ref 188) n97_1 rfl ((F37 164 50 rfl).trans ((F36 164 50 rfl).trans ((F35 164 50 rfl).trans ((F34 164 50 rfl).trans ((F33 164 50 rfl).trans ((F32 164 50 rfl).trans ((F31 164 50 rfl).trans ((F30 164 50 rfl).trans ((F29 164 50 rfl).trans ((F28 164 50 rfl).trans (f164_50 (h := h) hT))))))))))) ?_
  refine am_e_iload_n n97_2 rfl ?_
  refine am_e_aload_n n97_3 rfl ?_
  refine am_e_getf (v := .ref 188) n97_4 rfl ((F37 164 50 rfl).trans ((F36 164 50 rfl).trans ((F35 164 50 rfl).trans ((F34 164 50 rfl).trans ((F33 164 50 rfl).trans ((F32 164 50 rfl).trans ((F31 164 50 rfl).trans ((F30 164 50 rfl).trans ((F29 164 50 rfl).trans ((F28 164 50 rfl).trans (f164_50 (h := h) hT))))))))))) ?_
  refine am_e_iload_n n97_5 rfl ?_
  refine am_e_iaload (v := 0) (q := 0) n97_6 rfl (by decide) (by decide) ((F37 188 0 rfl).trans ((F36 188 0 rfl).trans ((F35 188 0 rfl).trans ((F34 188 0 rfl).trans ((F33 188 0 rfl).trans ((F32 188 0 rfl).trans ((F31 188 0 rfl).trans ((F30 188 0 rfl).trans ((F29 188 0 rfl).trans ((F28 188 0 rfl).trans (f188_0 (h := h) hT))))))))))) ?_
  refine am_e_iastore (q := 1) n97_7 rfl (by decide) (by decide) ?_
  refine am_e_aload_n n97_8 rfl ?_
  refine am_e_getf (v := .ref 189) n97_9 rfl ((F37 164 51 rfl).trans ((F36 164 51 rfl).trans ((F35 164 51 rfl).trans ((F34 164 51 rfl).trans ((F33 164 51 rfl).trans ((F32 164 51 rfl).trans ((F31 164 51 rfl).trans ((F30 164 51 rfl).trans ((F29 164 51 rfl).trans ((F28 164 51 rfl).trans (f164_51 (h := h) hT))))))))))) ?_
  refine am_e_iload_n n97_10 rfl ?_
  refine am_e_aload_n n97_11 rfl ?_
  refine am_e_getf (v := .ref 189) n97_12 rfl ((F37 164 51 rfl).trans ((F36 164 51 rfl).trans ((F35 164 51 rfl).trans ((F34 164 51 rfl).trans ((F33 164 51 rfl).trans ((F32 164 51 rfl).trans ((F31 164 51 rfl).trans ((F30 164 51 rfl).trans ((F29 164 51 rfl).trans ((F28 164 51 rfl).trans (f164_51 (h := h) hT))))))))))) ?_
  refine am_e_iload_n n97_13 rfl ?_
  refine am_e_iaload (v := 0) (q := 0) n97_14 rfl (by decide) (by decide) ((F37 189 0 rfl).trans ((F36 189 0 rfl).trans ((F35 189 0 rfl).trans ((F34 189 0 rfl).trans ((F33 189 0 rfl).trans ((F32 189 0 rfl).trans ((F31 189 0 rfl).trans ((F30 189 0 rfl).trans ((F29 189 0 rfl).trans ((F28 189 0 rfl).trans (f189_0 (h := h) hT))))))))))) ?_
  refine am_e_iastore (q := 1) n97_15 rfl (by decide) (by decide) ?_
  refine am_e_aload_n n97_16 rfl ?_
  refine am_e_getf (v := .ref 190) n97_17 rfl ((F37 164 52 rfl).trans ((F36 164 52 rfl).trans ((F35 164 52 rfl).trans ((F34 164 52 rfl).trans ((F33 164 52 rfl).trans ((F32 164 52 rfl).trans ((F31 164 52 rfl).trans ((F30 164 52 rfl).trans ((F29 164 52 rfl).trans ((F28 164 52 rfl).trans (f164_52 (h := h) hT))))))))))) ?_
  refine am_e_iload_n n97_18 rfl ?_
  refine am_e_aload_n n97_19 rfl ?_
  refine am_e_getf (v := .ref 190) n97_20 rfl ((F37 164 52 rfl).trans ((F36 164 52 rfl).trans ((F35 164 52 rfl).trans ((F34 164 52 rfl).trans ((F33 164 52 rfl).trans ((F32 164 52 rfl).trans ((F31 164 52 rfl).trans ((F30 164 52 rfl).trans ((F29 164 52 rfl).trans ((F28 164 52 rfl).trans (f164_52 (h := h) hT))))))))))) ?_
  refine am_e_iload_n n97_21 rfl ?_
  refine am_e_iaload (v := (-1)) (q := 0) n97_22 rfl (by decide) (by decide) ((F37 190 0 rfl).trans ((F36 190 0 rfl).trans ((F35 190 0 rfl).trans ((F34 190 0 rfl).trans ((F33 190 0 rfl).trans ((F32 190 0 rfl).trans ((F31 190 0 rfl).trans ((F30 190 0 rfl).trans ((F29 190 0 rfl).trans ((F28 190 0 rfl).trans (f190_0 (h := h) hT))))))))))) ?_
  refine am_e_iastore (q := 1) n97_23 rfl (by decide) (by decide) ?_
  refine am_e_aload_n n97_24 rfl ?_
  refine am_e_getf (v := .ref 194) n97_25 rfl ((F37 164 56 rfl).trans ((F36 164 56 rfl).trans ((F35 164 56 rfl).trans ((F34 164 56 rfl).trans ((F33 164 56 rfl).trans ((F32 164 56 rfl).trans ((F31 164 56 rfl).trans ((F30 164 56 rfl).trans ((F29 164 56 rfl).trans ((F28 164 56 rfl).trans (f164_56 (h := h) hT))))))))))) ?_
  refine am_e_iload_n n97_26 rfl ?_
  refine am_e_aload_n n97_27 rfl ?_
  refine am_e_getf (v := .ref 194) n97_28 rfl ((F37 164 56 rfl).trans ((F36 164 56 rfl).trans ((F35 164 56 rfl).trans ((F34 164 56 rfl).trans ((F33 164 56 rfl).trans ((F32 164 56 rfl).trans ((F31 164 56 rfl).trans ((F30 164 56 rfl).trans ((F29 164 56 rfl).trans ((F28 164 56 rfl).trans (f164_56 (h := h) hT))))))))))) ?_
  refine am_e_iload_n n97_29 rfl ?_
  refine am_e_iaload (v := 0) (q := 0) n97_30 rfl (by decide) (by decide) ((F37 194 0 rfl).trans ((F36 194 0 rfl).trans ((F35 194 0 rfl).trans ((F34 194 0 rfl).trans ((F33 194 0 rfl).trans ((F32 194 0 rfl).trans ((F31 194 0 rfl).trans ((F30 194 0 rfl).trans ((F29 194 0 rfl).trans ((F28 194 0 rfl).trans (f194_0 (h := h) hT))))))))))) ?_
  refine am_e_iastore (q := 1) n97_31 rfl (by decide) (by decide) ?_
  refine am_e_iconst (w := 0) n97_32 rfl ?_
  refine am_e_istore_n (ls' := [(3, .int 0), (0, .ref 164), (1, .int 1), (2, .int 0)]) n97_33 rfl rfl ?_
  refine am_e_iload_n n97_34 rfl ?_
  refine am_e_iconst (w := 4) n97_35 rfl ?_
  refine am_e_cmpF n97_36 (am_c_geF (by decide)) ?_
  refine am_e_aload_n n97_37 rfl ?_
  refine am_e_getf (v := .ref 191) n97_38 rfl ((F37 164 53 rfl).trans ((F36 164 53 rfl).trans ((F35 164 53 rfl).trans ((F34 164 53 rfl).trans ((F33 164 53 rfl).trans ((F32 164 53 rfl).trans ((F31 164 53 rfl).trans ((F30 164 53 rfl).trans ((F29 164 53 rfl).trans ((F28 164 53 rfl).trans (f164_53 (h := h) hT))))))))))) ?_
  refine am_e_iconst (w := 4) n97_39 rfl ?_
  refine am_e_iload_n n97_40 rfl ?_
  refine am_e_imul (w := 4) n97_41 (by decide) ?_
  refine am_e_iload_n n97_42 rfl ?_
  refine am_e_iadd (w := 4) n97_43 (by decide) ?_
  refine am_e_aload_n n97_44 rfl ?_
  refine am_e_getf (v := .ref 191) n97_45 rfl ((F37 164 53 rfl).trans ((F36 164 53 rfl).trans ((F35 164 53 rfl).trans ((F34 164 53 rfl).trans ((F33 164 53 rfl).trans ((F32 164 53 rfl).trans ((F31 164 53 rfl).trans ((F30 164 53 rfl).trans ((F29 164 53 rfl).trans ((F28 164 53 rfl).trans (f164_53 (h := h) hT))))))))))) ?_
  refine am_e_iconst (w := 4) n97_46 rfl ?_
  refine am_e_iload_n n97_47 rfl ?_
  refine am_e_imul (w := 0) n97_48 (by decide) ?_
  refine am_e_iload_n n97_49 rfl ?_
  refine am_e_iadd (w := 0) n97_50 (by decide) ?_
  refine am_e_iaload (v := 0) (q := 0) n97_51 rfl (by decide) (by decide) ((F37 191 0 rfl).trans ((F36 191 0 rfl).trans ((F35 191 0 rfl).trans ((F34 191 0 rfl).trans ((F33 191 0 rfl).trans ((F32 191 0 rfl).trans ((F31 191 0 rfl).trans ((F30 191 0 rfl).trans ((F29 191 0 rfl).trans ((F28 191 0 rfl).trans (f191_0 (h := h) hT))))))))))) ?_
  refine am_e_iastore (q := 4) n97_52 rfl (by decide) (by decide) ?_
  refine am_e_aload_n n97_53 rfl ?_
  refine am_e_getf (v := .ref 192) n97_54 rfl ((F37 164 54 rfl).trans ((F36 164 54 rfl).trans ((F35 164 54 rfl).trans ((F34 164 54 rfl).trans ((F33 164 54 rfl).trans ((F32 164 54 rfl).trans ((F31 164 54 rfl).trans ((F30 164 54 rfl).trans ((F29 164 54 rfl).trans ((F28 164 54 rfl).trans (f164_54 (h := h) hT))))))))))) ?_
  refine am_e_iconst (w := 4) n97_55 rfl ?_
  refine am_e_iload_n n97_56 rfl ?_
  refine am_e_imul (w := 4) n97_57 (by decide) ?_
  refine am_e_iload_n n97_58 rfl ?_
  refine am_e_iadd (w := 4) n97_59 (by decide) ?_
  refine am_e_aload_n n97_60 rfl ?_
  refine am_e_getf (v := .ref 192) n97_61 rfl ((F37 164 54 rfl).trans ((F36 164 54 rfl).trans ((F35 164 54 rfl).trans ((F34 164 54 rfl).trans ((F33 164 54 rfl).trans ((F32 164 54 rfl).trans ((F31 164 54 rfl).trans ((F30 164 54 rfl).trans ((F29 164 54 rfl).trans ((F28 164 54 rfl).trans (f164_54 (h := h) hT))))))))))) ?_
  refine am_e_iconst (w := 4) n97_62 rfl ?_
  refine am_e_iload_n n97_63 rfl ?_
  refine am_e_imul (w := 0) n97_64 (by decide) ?_
  refine am_e_iload_n n97_65 rfl ?_
  refine am_e_iadd (w := 0) n97_66 (by decide) ?_
  refine am_e_iaload (v := 0) (q := 0) n97_67 rfl (by decide) (by decide) ((F37 192 0 rfl).trans ((F36 192 0 rfl).trans ((F35 192 0 rfl).trans ((F34 192 0 rfl).trans ((F33 192 0 rfl).trans ((F32 192 0 rfl).trans ((F31 192 0 rfl).trans ((F30 192 0 rfl).trans ((F29 192 0 rfl).trans ((F28 192 0 rfl).trans (f192_0 (h := h) hT))))))))))) ?_
  refine am_e_iastore (q := 4) n97_68 rfl (by decide) (by decide) ?_
  refine am_e_aload_n n97_69 rfl ?_
  refine am_e_getf (v := .ref 193) n97_70 rfl ((F37 164 55 rfl).trans ((F36 164 55 rfl).trans ((F35 164 55 rfl).trans ((F34 164 55 rfl).trans ((F33 164 55 rfl).trans ((F32 164 55 rfl).trans ((F31 164 55 rfl).trans ((F30 164 55 rfl).trans ((F29 164 55 rfl).trans ((F28 164 55 rfl).trans (f164_55 (h := h) hT))))))))))) ?_
  refine am_e_iconst (w := 4) n97_71 rfl ?_
  refine am_e_iload_n n97_72 rfl ?_
  refine am_e_imul (w := 4) n97_73 (by decide) ?_
  refine am_e_iload_n n97_74 rfl ?_
  refine am_e_iadd (w := 4) n97_75 (by decide) ?_
  refine am_e_aload_n n97_76 rfl ?_
  refine am_e_getf (v := .ref 193) n97_77 rfl ((F37 164 55 rfl).trans ((F36 164 55 rfl).trans ((F35 164 55 rfl).trans ((F34 164 55 rfl).trans ((F33 164 55 rfl).trans ((F32 164 55 rfl).trans ((F31 164 55 rfl).trans ((F30 164 55 rfl).trans ((F29 164 55 rfl).trans ((F28 164 55 rfl).trans (f164_55 (h := h) hT))))))))))) ?_
  refine am_e_iconst (w := 4) n97_78 rfl ?_
  refine am_e_iload_n n97_79 rfl ?_
  refine am_e_imul (w := 0) n97_80 (by decide) ?_
  refine am_e_iload_n n97_81 rfl ?_
  refine am_e_iadd (w := 0) n97_82 (by decide) ?_
  refine am_e_iaload (v := 0) (q := 0) n97_83 rfl (by decide) (by decide) ((F37 193 0 rfl).trans ((F36 193 0 rfl).trans ((F35 193 0 rfl).trans ((F34 193 0 rfl).trans ((F33 193 0 rfl).trans ((F32 193 0 rfl).trans ((F31 193 0 rfl).trans ((F30 193 0 rfl).trans ((F29 193 0 rfl).trans ((F28 193 0 rfl).trans (f193_0 (h := h) hT))))))))))) ?_
  refine am_e_iastore (q := 4) n97_84 rfl (by decide) (by decide) ?_
  refine am_e_iinc (w := 1) (ls' := [(3, .int 1), (0, .ref 164), (1, .int 1), (2, .int 0)]) n97_85 rfl rfl (by decide) rfl ?_
  refine am_e_goto c97_86 t97_86 ?_
  refine am_e_iload_n n97_34 rfl ?_
  refine am_e_iconst (w := 4) n97_35 rfl ?_
  refine am_e_cmpF n97_36 (am_c_geF (by decide)) ?_
  refine am_e_aload_n n97_37 rfl ?_
  refine am_e_getf (v := .ref 191) n97_38 rfl ((F37 164 53 rfl).trans ((F36 164 53 rfl).trans ((F35 164 53 rfl).trans ((F34 164 53 rfl).trans ((F33 164 53 rfl).trans ((F32 164 53 rfl).trans ((F31 164 53 rfl).trans ((F30 164 53 rfl).trans ((F29 164 53 rfl).trans ((F28 164 53 rfl).trans (f164_53 (h := h) hT))))))))))) ?_
  refine am_e_iconst (w := 4) n97_39 rfl ?_
  refine am_e_iload_n n97_40 rfl ?_
  refine am_e_imul (w := 4) n97_41 (by decide) ?_
  refine am_e_iload_n n97_42 rfl ?_
  refine am_e_iadd (w := 5) n97_43 (by decide) ?_
  refine am_e_aload_n n97_44 rfl ?_
  refine am_e_getf (v := .ref 191) n97_45 rfl ((F37 164 53 rfl).trans ((F36 164 53 rfl).trans ((F35 164 53 rfl).trans ((F34 164 53 rfl).trans ((F33 164 53 rfl).trans ((F32 164 53 rfl).trans ((F31 164 53 rfl).trans ((F30 164 53 rfl).trans ((F29 164 53 rfl).trans ((F28 164 53 rfl).trans (f164_53 (h := h) hT))))))))))) ?_
  refine am_e_iconst (w := 4) n97_46 rfl ?_
  refine am_e_iload_n n97_47 rfl ?_
  refine am_e_imul (w := 0) n97_48 (by decide) ?_
  refine am_e_iload_n n97_49 rfl ?_
  refine am_e_iadd (w := 1) n97_50 (by decide) ?_
  refine am_e_iaload (v := 0) (q := 1) n97_51 rfl (by decide) (by decide) ((F37 191 1 rfl).trans ((F36 191 1 rfl).trans ((F35 191 1 rfl).trans ((F34 191 1 rfl).trans ((F33 191 1 rfl).trans ((F32 191 1 rfl).trans ((F31 191 1 rfl).trans ((F30 191 1 rfl).trans ((F29 191 1 rfl).trans ((F28 191 1 rfl).trans (f191_1 (h := h) hT))))))))))) ?_
  refine am_e_iastore (q := 5) n97_52 rfl (by decide) (by decide) ?_
  refine am_e_aload_n n97_53 rfl ?_
  refine am_e_getf (v := .ref 192) n97_54 rfl ((F37 164 54 rfl).trans ((F36 164 54 rfl).trans ((F35 164 54 rfl).trans ((F34 164 54 rfl).trans ((F33 164 54 rfl).trans ((F32 164 54 rfl).trans ((F31 164 54 rfl).trans ((F30 164 54 rfl).trans ((F29 164 54 rfl).trans ((F28 164 54 rfl).trans (f164_54 (h := h) hT))))))))))) ?_
  refine am_e_iconst (w := 4) n97_55 rfl ?_
  refine am_e_iload_n n97_56 rfl ?_
  refine am_e_imul (w := 4) n97_57 (by decide) ?_
  refine am_e_iload_n n97_58 rfl ?_
  refine am_e_iadd (w := 5) n97_59 (by decide) ?_
  refine am_e_aload_n n97_60 rfl ?_
  refine am_e_getf (v := .ref 192) n97_61 rfl ((F37 164 54 rfl).trans ((F36 164 54 rfl).trans ((F35 164 54 rfl).trans ((F34 164 54 rfl).trans ((F33 164 54 rfl).trans ((F32 164 54 rfl).trans ((F31 164 54 rfl).trans ((F30 164 54 rfl).trans ((F29 164 54 rfl).trans ((F28 164 54 rfl).trans (f164_54 (h := h) hT))))))))))) ?_
  refine am_e_iconst (w := 4) n97_62 rfl ?_
  refine am_e_iload_n n97_63 rfl ?_
  refine am_e_imul (w := 0) n97_64 (by decide) ?_
  refine am_e_iload_n n97_65 rfl ?_
  refine am_e_iadd (w := 1) n97_66 (by decide) ?_
  refine am_e_iaload (v := 0) (q := 1) n97_67 rfl (by decide) (by decide) ((F37 192 1 rfl).trans ((F36 192 1 rfl).trans ((F35 192 1 rfl).trans ((F34 192 1 rfl).trans ((F33 192 1 rfl).trans ((F32 192 1 rfl).trans ((F31 192 1 rfl).trans ((F30 192 1 rfl).trans ((F29 192 1 rfl).trans ((F28 192 1 rfl).trans (f192_1 (h := h) hT))))))))))) ?_
  refine am_e_iastore (q := 5) n97_68 rfl (by decide) (by decide) ?_
  refine am_e_aload_n n97_69 rfl ?_
  refine am_e_getf (v := .ref 193) n97_70 rfl ((F37 164 55 rfl).trans ((F36 164 55 rfl).trans ((F35 164 55 rfl).trans ((F34 164 55 rfl).trans ((F33 164 55 rfl).trans ((F32 164 55 rfl).trans ((F31 164 55 rfl).trans ((F30 164 55 rfl).trans ((F29 164 55 rfl).trans ((F28 164 55 rfl).trans (f164_55 (h := h) hT))))))))))) ?_
  refine am_e_iconst (w := 4) n97_71 rfl ?_
  refine am_e_iload_n n97_72 rfl ?_
  refine am_e_imul (w := 4) n97_73 (by decide) ?_
  refine am_e_iload_n n97_74 rfl ?_
  refine am_e_iadd (w := 5) n97_75 (by decide) ?_
  refine am_e_aload_n n97_76 rfl ?_
  refine am_e_getf (v := .ref 193) n97_77 rfl ((F37 164 55 rfl).trans ((F36 164 55 rfl).trans ((F35 164 55 rfl).trans ((F34 164 55 rfl).trans ((F33 164 55 rfl).trans ((F32 164 55 rfl).trans ((F31 164 55 rfl).trans ((F30 164 55 rfl).trans ((F29 164 55 rfl).trans ((F28 164 55 rfl).trans (f164_55 (h := h) hT))))))))))) ?_
  refine am_e_iconst (w := 4) n97_78 rfl ?_
  refine am_e_iload_n n97_79 rfl ?_
  refine am_e_imul (w := 0) n97_80 (by decide) ?_
  refine am_e_iload_n n97_81 rfl ?_
  refine am_e_iadd (w := 1) n97_82 (by decide) ?_
  refine am_e_iaload (v := 0) (q := 1) n97_83 rfl (by decide) (by decide) ((F37 193 1 rfl).trans ((F36 193 1 rfl).trans ((F35 193 1 rfl).trans ((F34 193 1 rfl).trans ((F33 193 1 rfl).trans ((F32 193 1 rfl).trans ((F31 193 1 rfl).trans ((F30 193 1 rfl).trans ((F29 193 1 rfl).trans ((F28 193 1 rfl).trans (f193_1 (h := h) hT))))))))))) ?_
  refine am_e_iastore (q := 5) n97_84 rfl (by decide) (by decide) ?_
  refine am_e_iinc (w := 2) (ls' := [(3, .int 2), (0, .ref 164), (1, .int 1), (2, .int 0)]) n97_85 rfl rfl (by decide) rfl ?_
  refine am_e_goto c97_86 t97_86 ?_
  refine am_e_iload_n n97_34 rfl ?_
  refine am_e_iconst (w := 4) n97_35 rfl ?_
  refine am_e_cmpF n97_36 (am_c_geF (by decide)) ?_
  refine am_e_aload_n n97_37 rfl ?_
  refine am_e_getf (v := .ref 191) n97_38 rfl ((F37 164 53 rfl).trans ((F36 164 53 rfl).trans ((F35 164 53 rfl).trans ((F34 164 53 rfl).trans ((F33 164 53 rfl).trans ((F32 164 53 rfl).trans ((F31 164 53 rfl).trans ((F30 164 53 rfl).trans ((F29 164 53 rfl).trans ((F28 164 53 rfl).trans (f164_53 (h := h) hT))))))))))) ?_
  refine am_e_iconst (w := 4) n97_39 rfl ?_
  refine am_e_iload_n n97_40 rfl ?_
  refine am_e_imul (w := 4) n97_41 (by decide) ?_
  refine am_e_iload_n n97_42 rfl ?_
  refine am_e_iadd (w := 6) n97_43 (by decide) ?_
  refine am_e_aload_n n97_44 rfl ?_
  refine am_e_getf (v := .ref 191) n97_45 rfl ((F37 164 53 rfl).trans ((F36 164 53 rfl).trans ((F35 164 53 rfl).trans ((F34 164 53 rfl).trans ((F33 164 53 rfl).trans ((F32 164 53 rfl).trans ((F31 164 53 rfl).trans ((F30 164 53 rfl).trans ((F29 164 53 rfl).trans ((F28 164 53 rfl).trans (f164_53 (h := h) hT))))))))))) ?_
  refine am_e_iconst (w := 4) n97_46 rfl ?_
  refine am_e_iload_n n97_47 rfl ?_
  refine am_e_imul (w := 0) n97_48 (by decide) ?_
  refine am_e_iload_n n97_49 rfl ?_
  refine am_e_iadd (w := 2) n97_50 (by decide) ?_
  refine am_e_iaload (v := 0) (q := 2) n97_51 rfl (by decide) (by decide) ((F37 191 2 rfl).trans ((F36 191 2 rfl).trans ((F35 191 2 rfl).trans ((F34 191 2 rfl).trans ((F33 191 2 rfl).trans ((F32 191 2 rfl).trans ((F31 191 2 rfl).trans ((F30 191 2 rfl).trans ((F29 191 2 rfl).trans ((F28 191 2 rfl).trans (f191_2 (h := h) hT))))))))))) ?_
  refine am_e_iastore (q := 6) n97_52 rfl (by decide) (by decide) ?_
  refine am_e_aload_n n97_53 rfl ?_
  refine am_e_getf (v := .ref 192) n97_54 rfl ((F37 164 54 rfl).trans ((F36 164 54 rfl).trans ((F35 164 54 rfl).trans ((F34 164 54 rfl).trans ((F33 164 54 rfl).trans ((F32 164 54 rfl).trans ((F31 164 54 rfl).trans ((F30 164 54 rfl).trans ((F29 164 54 rfl).trans ((F28 164 54 rfl).trans (f164_54 (h := h) hT))))))))))) ?_
  refine am_e_iconst (w := 4) n97_55 rfl ?_
  refine am_e_iload_n n97_56 rfl ?_
  refine am_e_imul (w := 4) n97_57 (by decide) ?_
  refine am_e_iload_n n97_58 rfl ?_
  refine am_e_iadd (w := 6) n97_59 (by decide) ?_
  refine am_e_aload_n n97_60 rfl ?_
  refine am_e_getf (v := .ref 192) n97_61 rfl ((F37 164 54 rfl).trans ((F36 164 54 rfl).trans ((F35 164 54 rfl).trans ((F34 164 54 rfl).trans ((F33 164 54 rfl).trans ((F32 164 54 rfl).trans ((F31 164 54 rfl).trans ((F30 164 54 rfl).trans ((F29 164 54 rfl).trans ((F28 164 54 rfl).trans (f164_54 (h := h) hT))))))))))) ?_
  refine am_e_iconst (w := 4) n97_62 rfl ?_
  refine am_e_iload_n n97_63 rfl ?_
  refine am_e_imul (w := 0) n97_64 (by decide) ?_
  refine am_e_iload_n n97_65 rfl ?_
  refine am_e_iadd (w := 2) n97_66 (by decide) ?_
  refine am_e_iaload (v := 0) (q := 2) n97_67 rfl (by decide) (by decide) ((F37 192 2 rfl).trans ((F36 192 2 rfl).trans ((F35 192 2 rfl).trans ((F34 192 2 rfl).trans ((F33 192 2 rfl).trans ((F32 192 2 rfl).trans ((F31 192 2 rfl).trans ((F30 192 2 rfl).trans ((F29 192 2 rfl).trans ((F28 192 2 rfl).trans (f192_2 (h := h) hT))))))))))) ?_
  refine am_e_iastore (q := 6) n97_68 rfl (by decide) (by decide) ?_
  refine am_e_aload_n n97_69 rfl ?_
  refine am_e_getf (v := .ref 193) n97_70 rfl ((F37 164 55 rfl).trans ((F36 164 55 rfl).trans ((F35 164 55 rfl).trans ((F34 164 55 rfl).trans ((F33 164 55 rfl).trans ((F32 164 55 rfl).trans ((F31 164 55 rfl).trans ((F30 164 55 rfl).trans ((F29 164 55 rfl).trans ((F28 164 55 rfl).trans (f164_55 (h := h) hT))))))))))) ?_
  refine am_e_iconst (w := 4) n97_71 rfl ?_
  refine am_e_iload_n n97_72 rfl ?_
  refine am_e_imul (w := 4) n97_73 (by decide) ?_
  refine am_e_iload_n n97_74 rfl ?_
  refine am_e_iadd (w := 6) n97_75 (by decide) ?_
  refine am_e_aload_n n97_76 rfl ?_
  refine am_e_getf (v := .ref 193) n97_77 rfl ((F37 164 55 rfl).trans ((F36 164 55 rfl).trans ((F35 164 55 rfl).trans ((F34 164 55 rfl).trans ((F33 164 55 rfl).trans ((F32 164 55 rfl).trans ((F31 164 55 rfl).trans ((F30 164 55 rfl).trans ((F29 164 55 rfl).trans ((F28 164 55 rfl).trans (f164_55 (h := h) hT))))))))))) ?_
  refine am_e_iconst (w := 4) n97_78 rfl ?_
  refine am_e_iload_n n97_79 rfl ?_
  refine am_e_imul (w := 0) n97_80 (by decide) ?_
  refine am_e_iload_n n97_81 rfl ?_
  refine am_e_iadd (w := 2) n97_82 (by decide) ?_
  refine am_e_iaload (v := 0) (q := 2) n97_83 rfl (by decide) (by decide) ((F37 193 2 rfl).trans ((F36 193 2 rfl).trans ((F35 193 2 rfl).trans ((F34 193 2 rfl).trans ((F33 193 2 rfl).trans ((F32 193 2 rfl).trans ((F31 193 2 rfl).trans ((F30 193 2 rfl).trans ((F29 193 2 rfl).trans ((F28 193 2 rfl).trans (f193_2 (h := h) hT))))))))))) ?_
  refine am_e_iastore (q := 6) n97_84 rfl (by decide) (by decide) ?_
  refine am_e_iinc (w := 3) (ls' := [(3, .int 3), (0, .ref 164), (1, .int 1), (2, .int 0)]) n97_85 rfl rfl (by decide) rfl ?_
  refine am_e_goto c97_86 t97_86 ?_
  refine am_e_iload_n n97_34 rfl ?_
  refine am_e_iconst (w := 4) n97_35 rfl ?_
  refine am_e_cmpF n97_36 (am_c_geF (by decide)) ?_
  refine am_e_aload_n n97_37 rfl ?_
  refine am_e_getf (v := .ref 191) n97_38 rfl ((F37 164 53 rfl).trans ((F36 164 53 rfl).trans ((F35 164 53 rfl).trans ((F34 164 53 rfl).trans ((F33 164 53 rfl).trans ((F32 164 53 rfl).trans ((F31 164 53 rfl).trans ((F30 164 53 rfl).trans ((F29 164 53 rfl).trans ((F28 164 53 rfl).trans (f164_53 (h := h) hT))))))))))) ?_
  refine am_e_iconst (w := 4) n97_39 rfl ?_
  refine am_e_iload_n n97_40 rfl ?_
  refine am_e_imul (w := 4) n97_41 (by decide) ?_
  refine am_e_iload_n n97_42 rfl ?_
  refine am_e_iadd (w := 7) n97_43 (by decide) ?_
  refine am_e_aload_n n97_44 rfl ?_
  refine am_e_getf (v := .ref 191) n97_45 rfl ((F37 164 53 rfl).trans ((F36 164 53 rfl).trans ((F35 164 53 rfl).trans ((F34 164 53 rfl).trans ((F33 164 53 rfl).trans ((F32 164 53 rfl).trans ((F31 164 53 rfl).trans ((F30 164 53 rfl).trans ((F29 164 53 rfl).trans ((F28 164 53 rfl).trans (f164_53 (h := h) hT))))))))))) ?_
  refine am_e_iconst (w := 4) n97_46 rfl ?_
  refine am_e_iload_n n97_47 rfl ?_
  refine am_e_imul (w := 0) n97_48 (by decide) ?_
  refine am_e_iload_n n97_49 rfl ?_
  refine am_e_iadd (w := 3) n97_50 (by decide) ?_
  refine am_e_iaload (v := 0) (q := 3) n97_51 rfl (by decide) (by decide) ((F37 191 3 rfl).trans ((F36 191 3 rfl).trans ((F35 191 3 rfl).trans ((F34 191 3 rfl).trans ((F33 191 3 rfl).trans ((F32 191 3 rfl).trans ((F31 191 3 rfl).trans ((F30 191 3 rfl).trans ((F29 191 3 rfl).trans ((F28 191 3 rfl).trans (f191_3 (h := h) hT))))))))))) ?_
  refine am_e_iastore (q := 7) n97_52 rfl (by decide) (by decide) ?_
  refine am_e_aload_n n97_53 rfl ?_
  refine am_e_getf (v := .ref 192) n97_54 rfl ((F37 164 54 rfl).trans ((F36 164 54 rfl).trans ((F35 164 54 rfl).trans ((F34 164 54 rfl).trans ((F33 164 54 rfl).trans ((F32 164 54 rfl).trans ((F31 164 54 rfl).trans ((F30 164 54 rfl).trans ((F29 164 54 rfl).trans ((F28 164 54 rfl).trans (f164_54 (h := h) hT))))))))))) ?_
  refine am_e_iconst (w := 4) n97_55 rfl ?_
  refine am_e_iload_n n97_56 rfl ?_
  refine am_e_imul (w := 4) n97_57 (by decide) ?_
  refine am_e_iload_n n97_58 rfl ?_
  refine am_e_iadd (w := 7) n97_59 (by decide) ?_
  refine am_e_aload_n n97_60 rfl ?_
  refine am_e_getf (v := .ref 192) n97_61 rfl ((F37 164 54 rfl).trans ((F36 164 54 rfl).trans ((F35 164 54 rfl).trans ((F34 164 54 rfl).trans ((F33 164 54 rfl).trans ((F32 164 54 rfl).trans ((F31 164 54 rfl).trans ((F30 164 54 rfl).trans ((F29 164 54 rfl).trans ((F28 164 54 rfl).trans (f164_54 (h := h) hT))))))))))) ?_
  refine am_e_iconst (w := 4) n97_62 rfl ?_
  refine am_e_iload_n n97_63 rfl ?_
  refine am_e_imul (w := 0) n97_64 (by decide) ?_
  refine am_e_iload_n n97_65 rfl ?_
  refine am_e_iadd (w := 3) n97_66 (by decide) ?_
  refine am_e_iaload (v := 0) (q := 3) n97_67 rfl (by decide) (by decide) ((F37 192 3 rfl).trans ((F36 192 3 rfl).trans ((F35 192 3 rfl).trans ((F34 192 3 rfl).trans ((F33 192 3 rfl).trans ((F32 192 3 rfl).trans ((F31 192 3 rfl).trans ((F30 192 3 rfl).trans ((F29 192 3 rfl).trans ((F28 192 3 rfl).trans (f192_3 (h := h) hT))))))))))) ?_
  refine am_e_iastore (q := 7) n97_68 rfl (by decide) (by decide) ?_
  refine am_e_aload_n n97_69 rfl ?_
  refine am_e_getf (v := .ref 193) n97_70 rfl ((F37 164 55 rfl).trans ((F36 164 55 rfl).trans ((F35 164 55 rfl).trans ((F34 164 55 rfl).trans ((F33 164 55 rfl).trans ((F32 164 55 rfl).trans ((F31 164 55 rfl).trans ((F30 164 55 rfl).trans ((F29 164 55 rfl).trans ((F28 164 55 rfl).trans (f164_55 (h := h) hT))))))))))) ?_
  refine am_e_iconst (w := 4) n97_71 rfl ?_
  refine am_e_iload_n n97_72 rfl ?_
  refine am_e_imul (w := 4) n97_73 (by decide) ?_
  refine am_e_iload_n n97_74 rfl ?_
  refine am_e_iadd (w := 7) n97_75 (by decide) ?_
  refine am_e_aload_n n97_76 rfl ?_
  refine am_e_getf (v := .ref 193) n97_77 rfl ((F37 164 55 rfl).trans ((F36 164 55 rfl).trans ((F35 164 55 rfl).trans ((F34 164 55 rfl).trans ((F33 164 55 rfl).trans ((F32 164 55 rfl).trans ((F31 164 55 rfl).trans ((F30 164 55 rfl).trans ((F29 164 55 rfl).trans ((F28 164 55 rfl).trans (f164_55 (h := h) hT))))))))))) ?_
  refine am_e_iconst (w := 4) n97_78 rfl ?_
  refine am_e_iload_n n97_79 rfl ?_
  refine am_e_imul (w := 0) n97_80 (by decide) ?_
  refine am_e_iload_n n97_81 rfl ?_
  refine am_e_iadd (w := 3) n97_82 (by decide) ?_
  refine am_e_iaload (v := 0) (q := 3) n97_83 rfl (by decide) (by decide) ((F37 193 3 rfl).trans ((F36 193 3 rfl).trans ((F35 193 3 rfl).trans ((F34 193 3 rfl).trans ((F33 193 3 rfl).trans ((F32 193 3 rfl).trans ((F31 193 3 rfl).trans ((F30 193 3 rfl).trans ((F29 193 3 rfl).trans ((F28 193 3 rfl).trans (f193_3 (h := h) hT))))))))))) ?_
  refine am_e_iastore (q := 7) n97_84 rfl (by decide) (by decide) ?_
  refine am_e_iinc (w := 4) (ls' := [(3, .int 4), (0, .ref 164), (1, .int 1), (2, .int 0)]) n97_85 rfl rfl (by decide) rfl ?_
  refine am_e_goto c97_86 t97_86 ?_
  refine am_e_iload_n n97_34 rfl ?_
  refine am_e_iconst (w := 4) n97_35 rfl ?_
  refine am_e_cmpT n97_36 (am_c_geT (by decide)) t97_36 ?_
  refine am_e_vret c97_87 rfl rfl ?_
  refine am_e_iconst (w := 0) n127_35 rfl ?_
  refine am_e_istore (ls' := [(8, .int 0), (7, .int 0), (6, .int 0), (4, .long 0), (0, .ref 164), (1, .int a1), (2, .int (nI n)), (3, .int (nI 0))]) n127_36 rfl rfl ?_
  refine am_Ek_ls (ls' := [(0, .ref 164), (2, .int (nI n)), (3, .int (nI 0)), (4, .long 0), (6, .int 0), (7, .int 0), (8, .int (nI 0))]) ⟨rfl, rfl, rfl, rfl, rfl, rfl, rfl, trivial⟩ ?_
  refine am_cm_e (n := n) (b := 0) (s := 0) (t := 0) (i7 := 0) (dr := (a1.toInt64)) (by omega) (by omega) ⟨((F37 164 23 rfl).trans ((F36 164 23 rfl).trans ((F35 164 23 rfl).trans ((F34 164 23 rfl).trans ((F33 164 23 rfl).trans ((F32 164 23 rfl).trans ((F31 164 23 rfl).trans ((F30 164 23 rfl).trans ((F29 164 23 rfl).trans ((F28 164 23 rfl).trans (f164_23 (h := h) hT))))))))))), ((F37 168 4 rfl).trans ((F36 168 4 rfl).trans ((F35 168 4 rfl).trans ((F34 168 4 rfl).trans ((F33 168 4 rfl).trans ((F32 168 4 rfl).trans ((F31 168 4 rfl).trans ((F30 168 4 rfl).trans ((F29 168 4 rfl).trans ((F28 168 4 rfl).trans (f168_4 (h := h) hT))))))))))), ((F37 164 50 rfl).trans ((F36 164 50 rfl).trans ((F35 164 50 rfl).trans ((F34 164 50 rfl).trans ((F33 164 50 rfl).trans ((F32 164 50 rfl).trans ((F31 164 50 rfl).trans ((F30 164 50 rfl).trans ((F29 164 50 rfl).trans ((F28 164 50 rfl).trans (f164_50 (h := h) hT))))))))))), ((F37 164 61 rfl).trans ((F36 164 61 rfl).trans ((F35 164 61 rfl).trans ((F34 164 61 rfl).trans ((F33 164 61 rfl).trans ((F32 164 61 rfl).trans ((F31 164 61 rfl).trans ((F30 164 61 rfl).trans ((F29 164 61 rfl).trans ((F28 164 61 rfl).trans (f164_61 (h := h) hT))))))))))), ((F37 164 47 rfl).trans ((F36 164 47 rfl).trans ((F35 164 47 rfl).trans ((F34 164 47 rfl).trans ((F33 164 47 rfl).trans ((F32 164 47 rfl).trans ((F31 164 47 rfl).trans ((F30 164 47 rfl).trans ((F29 164 47 rfl).trans ((F28 164 47 rfl).trans (f164_47 (h := h) hT))))))))))), ((F37 168 0 rfl).trans ((F36 168 0 rfl).trans ((F35 168 0 rfl).trans ((F34 168 0 rfl).trans ((F33 168 0 rfl).trans ((F32 168 0 rfl).trans ((F31 168 0 rfl).trans ((F30 168 0 rfl).trans ((F29 168 0 rfl).trans ((F28 168 0 rfl).trans (f168_0 (h := h) hT))))))))))), ((F37 164 51 rfl).trans ((F36 164 51 rfl).trans ((F35 164 51 rfl).trans ((F34 164 51 rfl).trans ((F33 164 51 rfl).trans ((F32 164 51 rfl).trans ((F31 164 51 rfl).trans ((F30 164 51 rfl).trans ((F29 164 51 rfl).trans ((F28 164 51 rfl).trans (f164_51 (h := h) hT))))))))))), ((F37 164 33 rfl).trans ((F36 164 33 rfl).trans ((F35 164 33 rfl).trans ((F34 164 33 rfl).trans ((F33 164 33 rfl).trans ((F32 164 33 rfl).trans ((F31 164 33 rfl).trans ((F30 164 33 rfl).trans ((F29 164 33 rfl).trans ((F28 164 33 rfl).trans (f164_33 (h := h) hT))))))))))), ((F37 178 2 rfl).trans ((F36 178 2 rfl).trans ((F35 178 2 rfl).trans ((F34 178 2 rfl).trans ((F33 178 2 rfl).trans ((F32 178 2 rfl).trans ((F31 178 2 rfl).trans ((F30 178 2 rfl).trans ((F29 178 2 rfl).trans ((F28 178 2 rfl).trans (f178_2 (h := h) hT))))))))))), ((F37 178 0 rfl).trans ((F36 178 0 rfl).trans ((F35 178 0 rfl).trans ((F34 178 0 rfl).trans ((F33 178 0 rfl).trans ((F32 178 0 rfl).trans ((F31 178 0 rfl).trans ((F30 178 0 rfl).trans ((F29 178 0 rfl).trans ((F28 178 0 rfl).trans (f178_0 (h := h) hT))))))))))), ((F37 164 62 rfl).trans ((F36 164 62 rfl).trans ((F35 164 62 rfl).trans ((F34 164 62 rfl).trans ((F33 164 62 rfl).trans ((F32 164 62 rfl).trans ((F31 164 62 rfl).trans ((F30 164 62 rfl).trans ((F29 164 62 rfl).trans ((F28 164 62 rfl).trans (f164_62 (h := h) hT))))))))))), ((F37 164 58 rfl).trans ((F36 164 58 rfl).trans ((F35 164 58 rfl).trans ((F34 164 58 rfl).trans ((F33 164 58 rfl).trans ((F32 164 58 rfl).trans ((F31 164 58 rfl).trans ((F30 164 58 rfl).trans ((F29 164 58 rfl).trans ((F28 164 58 rfl).trans (f164_58 (h := h) hT))))))))))), ((F37 164 60 rfl).trans ((F36 164 60 rfl).trans ((F35 164 60 rfl).trans ((F34 164 60 rfl).trans ((F33 164 60 rfl).trans ((F32 164 60 rfl).trans ((F31 164 60 rfl).trans ((F30 164 60 rfl).trans ((F29 164 60 rfl).trans ((F28 164 60 rfl).trans (f164_60 (h := h) hT))))))))))), trivial⟩ rfl rfl rfl ?_
  intro h38 dr38 F38 qa38 qb38 qc38
  refine am_e_iload n127_59 rfl ?_
  refine am_e_aload_n n127_60 rfl ?_
  refine am_e_getf (v := .ref 188) n127_61 rfl ((F38 164 50 rfl).trans ((F37 164 50 rfl).trans ((F36 164 50 rfl).trans ((F35 164 50 rfl).trans ((F34 164 50 rfl).trans ((F33 164 50 rfl).trans ((F32 164 50 rfl).trans ((F31 164 50 rfl).trans ((F30 164 50 rfl).trans ((F29 164 50 rfl).trans ((F28 164 50 rfl).trans (f164_50 (h := h) hT)))))))))))) ?_
  refine am_e_iconst (w := 1) n127_62 rfl ?_
  refine am_e_iaload (v := 0) (q := 1) n127_63 rfl (by decide) (by decide) qa38 ?_
  refine am_e_iload_n n127_64 rfl ?_
  refine am_e_cmpF n127_65 (am_c_ltF (by decide)) ?_
  refine am_e_iconst (w := 1) n127_66 rfl ?_
  refine am_e_goto c127_67 t127_67 ?_
  refine am_e_iadd (w := 1) n127_69 (by decide) ?_
  refine am_e_istore (ls' := [(6, .int 1), (0, .ref 164), (2, .int (nI n)), (3, .int (nI 0)), (4, .long 0), (7, .int 0), (8, .int (nI n))]) n127_70 rfl rfl ?_
  refine am_e_iinc (w := 1) (ls' := [(7, .int 1), (6, .int 1), (0, .ref 164), (2, .int (nI n)), (3, .int (nI 0)), (4, .long 0), (8, .int (nI n))]) n127_71 rfl rfl (by decide) rfl ?_
  refine am_e_goto c127_72 t127_72 ?_
  refine am_e_iload n127_28 rfl ?_
  refine am_e_bipush (w := 10) n127_29 (by decide) ?_
  refine am_e_cmpF n127_30 (am_c_geF (by decide)) ?_
  refine am_e_aload_n n127_31 rfl ?_
  refine am_e_iconst (w := 1) n127_32 rfl ?_
  refine am_e_iconst (w := 0) n127_33 rfl ?_
  refine am_e_callV (L := [(0, .ref 164), (1, .int 1), (2, .int 0)]) n127_34 rfl rfl rfl rfl rfl rfl rfl rfl ?_
  refine am_e_aload_n n97_0 rfl ?_
  refine am_e_getf (v := .ref 188) n97_1 rfl ((F38 164 50 rfl).trans ((F37 164 50 rfl).trans ((F36 164 50 rfl).trans ((F35 164 50 rfl).trans ((F34 164 50 rfl).trans ((F33 164 50 rfl).trans ((F32 164 50 rfl).trans ((F31 164 50 rfl).trans ((F30 164 50 rfl).trans ((F29 164 50 rfl).trans ((F28 164 50 rfl).trans (f164_50 (h := h) hT)))))))))))) ?_
  refine am_e_iload_n n97_2 rfl ?_
  refine am_e_aload_n n97_3 rfl ?_
  refine am_e_getf (v := .ref 188) n97_4 rfl ((F38 164 50 rfl).trans ((F37 164 50 rfl).trans ((F36 164 50 rfl).trans ((F35 164 50 rfl).trans ((F34 164 50 rfl).trans ((F33 164 50 rfl).trans ((F32 164 50 rfl).trans ((F31 164 50 rfl).trans ((F30 164 50 rfl).trans ((F29 164 50 rfl).trans ((F28 164 50 rfl).trans (f164_50 (h := h) hT)))))))))))) ?_
  refine am_e_iload_n n97_5 rfl ?_
  refine am_e_iaload (v := 0) (q := 0) n97_6 rfl (by decide) (by decide) ((F38 188 0 rfl).trans ((F37 188 0 rfl).trans ((F36 188 0 rfl).trans ((F35 188 0 rfl).trans ((F34 188 0 rfl).trans ((F33 188 0 rfl).trans ((F32 188 0 rfl).trans ((F31 188 0 rfl).trans ((F30 188 0 rfl).trans ((F29 188 0 rfl).trans ((F28 188 0 rfl).trans (f188_0 (h := h) hT)))))))))))) ?_
  refine am_e_iastore (q := 1) n97_7 rfl (by decide) (by decide) ?_
  refine am_e_aload_n n97_8 rfl ?_
  refine am_e_getf (v := .ref 189) n97_9 rfl ((F38 164 51 rfl).trans ((F37 164 51 rfl).trans ((F36 164 51 rfl).trans ((F35 164 51 rfl).trans ((F34 164 51 rfl).trans ((F33 164 51 rfl).trans ((F32 164 51 rfl).trans ((F31 164 51 rfl).trans ((F30 164 51 rfl).trans ((F29 164 51 rfl).trans ((F28 164 51 rfl).trans (f164_51 (h := h) hT)))))))))))) ?_
  refine am_e_iload_n n97_10 rfl ?_
  refine am_e_aload_n n97_11 rfl ?_
  refine am_e_getf (v := .ref 189) n97_12 rfl ((F38 164 51 rfl).trans ((F37 164 51 rfl).trans ((F36 164 51 rfl).trans ((F35 164 51 rfl).trans ((F34 164 51 rfl).trans ((F33 164 51 rfl).trans ((F32 164 51 rfl).trans ((F31 164 51 rfl).trans ((F30 164 51 rfl).trans ((F29 164 51 rfl).trans ((F28 164 51 rfl).trans (f164_51 (h := h) hT)))))))))))) ?_
  refine am_e_iload_n n97_13 rfl ?_
  refine am_e_iaload (v := 0) (q := 0) n97_14 rfl (by decide) (by decide) ((F38 189 0 rfl).trans ((F37 189 0 rfl).trans ((F36 189 0 rfl).trans ((F35 189 0 rfl).trans ((F34 189 0 rfl).trans ((F33 189 0 rfl).trans ((F32 189 0 rfl).trans ((F31 189 0 rfl).trans ((F30 189 0 rfl).trans ((F29 189 0 rfl).trans ((F28 189 0 rfl).trans (f189_0 (h := h) hT)))))))))))) ?_
  refine am_e_iastore (q := 1) n97_15 rfl (by decide) (by decide) ?_
  refine am_e_aload_n n97_16 rfl ?_
  refine am_e_getf (v := .ref 190) n97_17 rfl ((F38 164 52 rfl).trans ((F37 164 52 rfl).trans ((F36 164 52 rfl).trans ((F35 164 52 rfl).trans ((F34 164 52 rfl).trans ((F33 164 52 rfl).trans ((F32 164 52 rfl).trans ((F31 164 52 rfl).trans ((F30 164 52 rfl).trans ((F29 164 52 rfl).trans ((F28 164 52 rfl).trans (f164_52 (h := h) hT)))))))))))) ?_
  refine am_e_iload_n n97_18 rfl ?_
  refine am_e_aload_n n97_19 rfl ?_
  refine am_e_getf (v := .ref 190) n97_20 rfl ((F38 164 52 rfl).trans ((F37 164 52 rfl).trans ((F36 164 52 rfl).trans ((F35 164 52 rfl).trans ((F34 164 52 rfl).trans ((F33 164 52 rfl).trans ((F32 164 52 rfl).trans ((F31 164 52 rfl).trans ((F30 164 52 rfl).trans ((F29 164 52 rfl).trans ((F28 164 52 rfl).trans (f164_52 (h := h) hT)))))))))))) ?_
  refine am_e_iload_n n97_21 rfl ?_
  refine am_e_iaload (v := (-1)) (q := 0) n97_22 rfl (by decide) (by decide) ((F38 190 0 rfl).trans ((F37 190 0 rfl).trans ((F36 190 0 rfl).trans ((F35 190 0 rfl).trans ((F34 190 0 rfl).trans ((F33 190 0 rfl).trans ((F32 190 0 rfl).trans ((F31 190 0 rfl).trans ((F30 190 0 rfl).trans ((F29 190 0 rfl).trans ((F28 190 0 rfl).trans (f190_0 (h := h) hT)))))))))))) ?_
  refine am_e_iastore (q := 1) n97_23 rfl (by decide) (by decide) ?_
  refine am_e_aload_n n97_24 rfl ?_
  refine am_e_getf (v := .ref 194) n97_25 rfl ((F38 164 56 rfl).trans ((F37 164 56 rfl).trans ((F36 164 56 rfl).trans ((F35 164 56 rfl).trans ((F34 164 56 rfl).trans ((F33 164 56 rfl).trans ((F32 164 56 rfl).trans ((F31 164 56 rfl).trans ((F30 164 56 rfl).trans ((F29 164 56 rfl).trans ((F28 164 56 rfl).trans (f164_56 (h := h) hT)))))))))))) ?_
  refine am_e_iload_n n97_26 rfl ?_
  refine am_e_aload_n n97_27 rfl ?_
  refine am_e_getf (v := .ref 194) n97_28 rfl ((F38 164 56 rfl).trans ((F37 164 56 rfl).trans ((F36 164 56 rfl).trans ((F35 164 56 rfl).trans ((F34 164 56 rfl).trans ((F33 164 56 rfl).trans ((F32 164 56 rfl).trans ((F31 164 56 rfl).trans ((F30 164 56 rfl).trans ((F29 164 56 rfl).trans ((F28 164 56 rfl).trans (f164_56 (h := h) hT)))))))))))) ?_
  refine am_e_iload_n n97_29 rfl ?_
  refine am_e_iaload (v := 0) (q := 0) n97_30 rfl (by decide) (by decide) ((F38 194 0 rfl).trans ((F37 194 0 rfl).trans ((F36 194 0 rfl).trans ((F35 194 0 rfl).trans ((F34 194 0 rfl).trans ((F33 194 0 rfl).trans ((F32 194 0 rfl).trans ((F31 194 0 rfl).trans ((F30 194 0 rfl).trans ((F29 194 0 rfl).trans ((F28 194 0 rfl).trans (f194_0 (h := h) hT)))))))))))) ?_
  refine am_e_iastore (q := 1) n97_31 rfl (by decide) (by decide) ?_
  refine am_e_iconst (w := 0) n97_32 rfl ?_
  refine am_e_istore_n (ls' := [(3, .int 0), (0, .ref 164), (1, .int 1), (2, .int 0)]) n97_33 rfl rfl ?_
  refine am_e_iload_n n97_34 rfl ?_
  refine am_e_iconst (w := 4) n97_35 rfl ?_
  refine am_e_cmpF n97_36 (am_c_geF (by decide)) ?_
  refine am_e_aload_n n97_37 rfl ?_
  refine am_e_getf (v := .ref 191) n97_38 rfl ((F38 164 53 rfl).trans ((F37 164 53 rfl).trans ((F36 164 53 rfl).trans ((F35 164 53 rfl).trans ((F34 164 53 rfl).trans ((F33 164 53 rfl).trans ((F32 164 53 rfl).trans ((F31 164 53 rfl).trans ((F30 164 53 rfl).trans ((F29 164 53 rfl).trans ((F28 164 53 rfl).trans (f164_53 (h := h) hT)))))))))))) ?_
  refine am_e_iconst (w := 4) n97_39 rfl ?_
  refine am_e_iload_n n97_40 rfl ?_
  refine am_e_imul (w := 4) n97_41 (by decide) ?_
  refine am_e_iload_n n97_42 rfl ?_
  refine am_e_iadd (w := 4) n97_43 (by decide) ?_
  refine am_e_aload_n n97_44 rfl ?_
  refine am_e_getf (v := .ref 191) n97_45 rfl ((F38 164 53 rfl).trans ((F37 164 53 rfl).trans ((F36 164 53 rfl).trans ((F35 164 53 rfl).trans ((F34 164 53 rfl).trans ((F33 164 53 rfl).trans ((F32 164 53 rfl).trans ((F31 164 53 rfl).trans ((F30 164 53 rfl).trans ((F29 164 53 rfl).trans ((F28 164 53 rfl).trans (f164_53 (h := h) hT)))))))))))) ?_
  refine am_e_iconst (w := 4) n97_46 rfl ?_
  refine am_e_iload_n n97_47 rfl ?_
  refine am_e_imul (w := 0) n97_48 (by decide) ?_
  refine am_e_iload_n n97_49 rfl ?_
  refine am_e_iadd (w := 0) n97_50 (by decide) ?_
  refine am_e_iaload (v := 0) (q := 0) n97_51 rfl (by decide) (by decide) ((F38 191 0 rfl).trans ((F37 191 0 rfl).trans ((F36 191 0 rfl).trans ((F35 191 0 rfl).trans ((F34 191 0 rfl).trans ((F33 191 0 rfl).trans ((F32 191 0 rfl).trans ((F31 191 0 rfl).trans ((F30 191 0 rfl).trans ((F29 191 0 rfl).trans ((F28 191 0 rfl).trans (f191_0 (h := h) hT)))))))))))) ?_
  refine am_e_iastore (q := 4) n97_52 rfl (by decide) (by decide) ?_
  refine am_e_aload_n n97_53 rfl ?_
  refine am_e_getf (v := .ref 192) n97_54 rfl ((F38 164 54 rfl).trans ((F37 164 54 rfl).trans ((F36 164 54 rfl).trans ((F35 164 54 rfl).trans ((F34 164 54 rfl).trans ((F33 164 54 rfl).trans ((F32 164 54 rfl).trans ((F31 164 54 rfl).trans ((F30 164 54 rfl).trans ((F29 164 54 rfl).trans ((F28 164 54 rfl).trans (f164_54 (h := h) hT)))))))))))) ?_
  refine am_e_iconst (w := 4) n97_55 rfl ?_
  refine am_e_iload_n n97_56 rfl ?_
  refine am_e_imul (w := 4) n97_57 (by decide) ?_
  refine am_e_iload_n n97_58 rfl ?_
  refine am_e_iadd (w := 4) n97_59 (by decide) ?_
  refine am_e_aload_n n97_60 rfl ?_
  refine am_e_getf (v := .ref 192) n97_61 rfl ((F38 164 54 rfl).trans ((F37 164 54 rfl).trans ((F36 164 54 rfl).trans ((F35 164 54 rfl).trans ((F34 164 54 rfl).trans ((F33 164 54 rfl).trans ((F32 164 54 rfl).trans ((F31 164 54 rfl).trans ((F30 164 54 rfl).trans ((F29 164 54 rfl).trans ((F28 164 54 rfl).trans (f164_54 (h := h) hT)))))))))))) ?_
  refine am_e_iconst (w := 4) n97_62 rfl ?_
  refine am_e_iload_n n97_63 rfl ?_
  refine am_e_imul (w := 0) n97_64 (by decide) ?_
  refine am_e_iload_n n97_65 rfl ?_
  refine am_e_iadd (w := 0) n97_66 (by decide) ?_
  refine am_e_iaload (v := 0) (q := 0) n97_67 rfl (by decide) (by decide) ((F38 192 0 rfl).trans ((F37 192 0 rfl).trans ((F36 192 0 rfl).trans ((F35 192 0 rfl).trans ((F34 192 0 rfl).trans ((F33 192 0 rfl).trans ((F32 192 0 rfl).trans ((F31 192 0 rfl).trans ((F30 192 0 rfl).trans ((F29 192 0 rfl).trans ((F28 192 0 rfl).trans (f192_0 (h := h) hT)))))))))))) ?_
  refine am_e_iastore (q := 4) n97_68 rfl (by decide) (by decide) ?_
  refine am_e_aload_n n97_69 rfl ?_
  refine am_e_getf (v := .ref 193) n97_70 rfl ((F38 164 55 rfl).trans ((F37 164 55 rfl).trans ((F36 164 55 rfl).trans ((F35 164 55 rfl).trans ((F34 164 55 rfl).trans ((F33 164 55 rfl).trans ((F32 164 55 rfl).trans ((F31 164 55 rfl).trans ((F30 164 55 rfl).trans ((F29 164 55 rfl).trans ((F28 164 55 rfl).trans (f164_55 (h := h) hT)))))))))))) ?_
  refine am_e_iconst (w := 4) n97_71 rfl ?_
  refine am_e_iload_n n97_72 rfl ?_
  refine am_e_imul (w := 4) n97_73 (by decide) ?_
  refine am_e_iload_n n97_74 rfl ?_
  refine am_e_iadd (w := 4) n97_75 (by decide) ?_
  refine am_e_aload_n n97_76 rfl ?_
  refine am_e_getf (v := .ref 193) n97_77 rfl ((F38 164 55 rfl).trans ((F37 164 55 rfl).trans ((F36 164 55 rfl).trans ((F35 164 55 rfl).trans ((F34 164 55 rfl).trans ((F33 164 55 rfl).trans ((F32 164 55 rfl).trans ((F31 164 55 rfl).trans ((F30 164 55 rfl).trans ((F29 164 55 rfl).trans ((F28 164 55 rfl).trans (f164_55 (h := h) hT)))))))))))) ?_
  refine am_e_iconst (w := 4) n97_78 rfl ?_
  refine am_e_iload_n n97_79 rfl ?_
  refine am_e_imul (w := 0) n97_80 (by decide) ?_
  refine am_e_iload_n n97_81 rfl ?_
  refine am_e_iadd (w := 0) n97_82 (by decide) ?_
  refine am_e_iaload (v := 0) (q := 0) n97_83 rfl (by decide) (by decide) ((F38 193 0 rfl).trans ((F37 193 0 rfl).trans ((F36 193 0 rfl).trans ((F35 193 0 rfl).trans ((F34 193 0 rfl).trans ((F33 193 0 rfl).trans ((F32 193 0 rfl).trans ((F31 193 0 rfl).trans ((F30 193 0 rfl).trans ((F29 193 0 rfl).trans ((F28 193 0 rfl).trans (f193_0 (h := h) hT)))))))))))) ?_
  refine am_e_iastore (q := 4) n97_84 rfl (by decide) (by decide) ?_
  refine am_e_iinc (w := 1) (ls' := [(3, .int 1), (0, .ref 164), (1, .int 1), (2, .int 0)]) n97_85 rfl rfl (by decide) rfl ?_
  refine am_e_goto c97_86 t97_86 ?_
  refine am_e_iload_n n97_34 rfl ?_
  refine am_e_iconst (w := 4) n97_35 rfl ?_
  refine am_e_cmpF n97_36 (am_c_geF (by decide)) ?_
  refine am_e_aload_n n97_37 rfl ?_
  refine am_e_getf (v := .ref 191) n97_38 rfl ((F38 164 53 rfl).trans ((F37 164 53 rfl).trans ((F36 164 53 rfl).trans ((F35 164 53 rfl).trans ((F34 164 53 rfl).trans ((F33 164 53 rfl).trans ((F32 164 53 rfl).trans ((F31 164 53 rfl).trans ((F30 164 53 rfl).trans ((F29 164 53 rfl).trans ((F28 164 53 rfl).trans (f164_53 (h := h) hT)))))))))))) ?_
  refine am_e_iconst (w := 4) n97_39 rfl ?_
  refine am_e_iload_n n97_40 rfl ?_
  refine am_e_imul (w := 4) n97_41 (by decide) ?_
  refine am_e_iload_n n97_42 rfl ?_
  refine am_e_iadd (w := 5) n97_43 (by decide) ?_
  refine am_e_aload_n n97_44 rfl ?_
  refine am_e_getf (v := .ref 191) n97_45 rfl ((F38 164 53 rfl).trans ((F37 164 53 rfl).trans ((F36 164 53 rfl).trans ((F35 164 53 rfl).trans ((F34 164 53 rfl).trans ((F33 164 53 rfl).trans ((F32 164 53 rfl).trans ((F31 164 53 rfl).trans ((F30 164 53 rfl).trans ((F29 164 53 rfl).trans ((F28 164 53 rfl).trans (f164_53 (h := h) hT)))))))))))) ?_
  refine am_e_iconst (w := 4) n97_46 rfl ?_
  refine am_e_iload_n n97_47 rfl ?_
  refine am_e_imul (w := 0) n97_48 (by decide) ?_
  refine am_e_iload_n n97_49 rfl ?_
  refine am_e_iadd (w := 1) n97_50 (by decide) ?_
  refine am_e_iaload (v := 0) (q := 1) n97_51 rfl (by decide) (by decide) ((F38 191 1 rfl).trans ((F37 191 1 rfl).trans ((F36 191 1 rfl).trans ((F35 191 1 rfl).trans ((F34 191 1 rfl).trans ((F33 191 1 rfl).trans ((F32 191 1 rfl).trans ((F31 191 1 rfl).trans ((F30 191 1 rfl).trans ((F29 191 1 rfl).trans ((F28 191 1 rfl).trans (f191_1 (h := h) hT)))))))))))) ?_
  refine am_e_iastore (q := 5) n97_52 rfl (by decide) (by decide) ?_
  refine am_e_aload_n n97_53 rfl ?_
  refine am_e_getf (v := .ref 192) n97_54 rfl ((F38 164 54 rfl).trans ((F37 164 54 rfl).trans ((F36 164 54 rfl).trans ((F35 164 54 rfl).trans ((F34 164 54 rfl).trans ((F33 164 54 rfl).trans ((F32 164 54 rfl).trans ((F31 164 54 rfl).trans ((F30 164 54 rfl).trans ((F29 164 54 rfl).trans ((F28 164 54 rfl).trans (f164_54 (h := h) hT)))))))))))) ?_
  refine am_e_iconst (w := 4) n97_55 rfl ?_
  refine am_e_iload_n n97_56 rfl ?_
  refine am_e_imul (w := 4) n97_57 (by decide) ?_
  refine am_e_iload_n n97_58 rfl ?_
  refine am_e_iadd (w := 5) n97_59 (by decide) ?_
  refine am_e_aload_n n97_60 rfl ?_
  refine am_e_getf (v := .ref 192) n97_61 rfl ((F38 164 54 rfl).trans ((F37 164 54 rfl).trans ((F36 164 54 rfl).trans ((F35 164 54 rfl).trans ((F34 164 54 rfl).trans ((F33 164 54 rfl).trans ((F32 164 54 rfl).trans ((F31 164 54 rfl).trans ((F30 164 54 rfl).trans ((F29 164 54 rfl).trans ((F28 164 54 rfl).trans (f164_54 (h := h) hT)))))))))))) ?_
  refine am_e_iconst (w := 4) n97_62 rfl ?_
  refine am_e_iload_n n97_63 rfl ?_
  refine am_e_imul (w := 0) n97_64 (by decide) ?_
  refine am_e_iload_n n97_65 rfl ?_
  refine am_e_iadd (w := 1) n97_66 (by decide) ?_
  refine am_e_iaload (v := 0) (q := 1) n97_67 rfl (by decide) (by decide) ((F38 192 1 rfl).trans ((F37 192 1 rfl).trans ((F36 192 1 rfl).trans ((F35 192 1 rfl).trans ((F34 192 1 rfl).trans ((F33 192 1 rfl).trans ((F32 192 1 rfl).trans ((F31 192 1 rfl).trans ((F30 192 1 rfl).trans ((F29 192 1 rfl).trans ((F28 192 1 rfl).trans (f192_1 (h := h) hT)))))))))))) ?_
  refine am_e_iastore (q := 5) n97_68 rfl (by decide) (by decide) ?_
  refine am_e_aload_n n97_69 rfl ?_
  refine am_e_getf (v := .ref 193) n97_70 rfl ((F38 164 55 rfl).trans ((F37 164 55 rfl).trans ((F36 164 55 rfl).trans ((F35 164 55 rfl).trans ((F34 164 55 rfl).trans ((F33 164 55 rfl).trans ((F32 164 55 rfl).trans ((F31 164 55 rfl).trans ((F30 164 55 rfl).trans ((F29 164 55 rfl).trans ((F28 164 55 rfl).trans (f164_55 (h := h) hT)))))))))))) ?_
  refine am_e_iconst (w := 4) n97_71 rfl ?_
  refine am_e_iload_n n97_72 rfl ?_
  refine am_e_imul (w := 4) n97_73 (by decide) ?_
  refine am_e_iload_n n97_74 rfl ?_
  refine am_e_iadd (w := 5) n97_75 (by decide) ?_
  refine am_e_aload_n n97_76 rfl ?_
  refine am_e_getf (v := .ref 193) n97_77 rfl ((F38 164 55 rfl).trans ((F37 164 55 rfl).trans ((F36 164 55 rfl).trans ((F35 164 55 rfl).trans ((F34 164 55 rfl).trans ((F33 164 55 rfl).trans ((F32 164 55 rfl).trans ((F31 164 55 rfl).trans ((F30 164 55 rfl).trans ((F29 164 55 rfl).trans ((F28 164 55 rfl).trans (f164_55 (h := h) hT)))))))))))) ?_
  refine am_e_iconst (w := 4) n97_78 rfl ?_
  refine am_e_iload_n n97_79 rfl ?_
  refine am_e_imul (w := 0) n97_80 (by decide) ?_
  refine am_e_iload_n n97_81 rfl ?_
  refine am_e_iadd (w := 1) n97_82 (by decide) ?_
  refine am_e_iaload (v := 0) (q := 1) n97_83 rfl (by decide) (by decide) ((F38 193 1 rfl).trans ((F37 193 1 rfl).trans ((F36 193 1 rfl).trans ((F35 193 1 rfl).trans ((F34 193 1 rfl).trans ((F33 193 1 rfl).trans ((F32 193 1 rfl).trans ((F31 193 1 rfl).trans ((F30 193 1 rfl).trans ((F29 193 1 rfl).trans ((F28 193 1 rfl).trans (f193_1 (h := h) hT)))))))))))) ?_
  refine am_e_iastore (q := 5) n97_84 rfl (by decide) (by decide) ?_
  refine am_e_iinc (w := 2) (ls' := [(3, .int 2), (0, .ref 164), (1, .int 1), (2, .int 0)]) n97_85 rfl rfl (by decide) rfl ?_
  refine am_e_goto c97_86 t97_86 ?_
  refine am_e_iload_n n97_34 rfl ?_
  refine am_e_iconst (w := 4) n97_35 rfl ?_
  refine am_e_cmpF n97_36 (am_c_geF (by decide)) ?_
  refine am_e_aload_n n97_37 rfl ?_
  refine am_e_getf (v := .ref 191) n97_38 rfl ((F38 164 53 rfl).trans ((F37 164 53 rfl).trans ((F36 164 53 rfl).trans ((F35 164 53 rfl).trans ((F34 164 53 rfl).trans ((F33 164 53 rfl).trans ((F32 164 53 rfl).trans ((F31 164 53 rfl).trans ((F30 164 53 rfl).trans ((F29 164 53 rfl).trans ((F28 164 53 rfl).trans (f164_53 (h := h) hT)))))))))))) ?_
  refine am_e_iconst (w := 4) n97_39 rfl ?_
  refine am_e_iload_n n97_40 rfl ?_
  refine am_e_imul (w := 4) n97_41 (by decide) ?_
  refine am_e_iload_n n97_42 rfl ?_
  refine am_e_iadd (w := 6) n97_43 (by decide) ?_
  refine am_e_aload_n n97_44 rfl ?_
  refine am_e_getf (v := .ref 191) n97_45 rfl ((F38 164 53 rfl).trans ((F37 164 53 rfl).trans ((F36 164 53 rfl).trans ((F35 164 53 rfl).trans ((F34 164 53 rfl).trans ((F33 164 53 rfl).trans ((F32 164 53 rfl).trans ((F31 164 53 rfl).trans ((F30 164 53 rfl).trans ((F29 164 53 rfl).trans ((F28 164 53 rfl).trans (f164_53 (h := h) hT)))))))))))) ?_
  refine am_e_iconst (w := 4) n97_46 rfl ?_
  refine am_e_iload_n n97_47 rfl ?_
  refine am_e_imul (w := 0) n97_48 (by decide) ?_
  refine am_e_iload_n n97_49 rfl ?_
  refine am_e_iadd (w := 2) n97_50 (by decide) ?_
  refine am_e_iaload (v := 0) (q := 2) n97_51 rfl (by decide) (by decide) ((F38 191 2 rfl).trans ((F37 191 2 rfl).trans ((F36 191 2 rfl).trans ((F35 191 2 rfl).trans ((F34 191 2 rfl).trans ((F33 191 2 rfl).trans ((F32 191 2 rfl).trans ((F31 191 2 rfl).trans ((F30 191 2 rfl).trans ((F29 191 2 rfl).trans ((F28 191 2 rfl).trans (f191_2 (h := h) hT)))))))))))) ?_
  refine am_e_iastore (q := 6) n97_52 rfl (by decide) (by decide) ?_
  refine am_e_aload_n n97_53 rfl ?_
  refine am_e_getf (v := .ref 192) n97_54 rfl ((F38 164 54 rfl).trans ((F37 164 54 rfl).trans ((F36 164 54 rfl).trans ((F35 164 54 rfl).trans ((F34 164 54 rfl).trans ((F33 164 54 rfl).trans ((F32 164 54 rfl).trans ((F31 164 54 rfl).trans ((F30 164 54 rfl).trans ((F29 164 54 rfl).trans ((F28 164 54 rfl).trans (f164_54 (h := h) hT)))))))))))) ?_
  refine am_e_iconst (w := 4) n97_55 rfl ?_
  refine am_e_iload_n n97_56 rfl ?_
  refine am_e_imul (w := 4) n97_57 (by decide) ?_
  refine am_e_iload_n n97_58 rfl ?_
  refine am_e_iadd (w := 6) n97_59 (by decide) ?_
  refine am_e_aload_n n97_60 rfl ?_
  refine am_e_getf (v := .ref 192) n97_61 rfl ((F38 164 54 rfl).trans ((F37 164 54 rfl).trans ((F36 164 54 rfl).trans ((F35 164 54 rfl).trans ((F34 164 54 rfl).trans ((F33 164 54 rfl).trans ((F32 164 54 rfl).trans ((F31 164 54 rfl).trans ((F30 164 54 rfl).trans ((F29 164 54 rfl).trans ((F28 164 54 rfl).trans (f164_54 (h := h) hT)))))))))))) ?_
  refine am_e_iconst (w := 4) n97_62 rfl ?_
  refine am_e_iload_n n97_63 rfl ?_
  refine am_e_imul (w := 0) n97_64 (by decide) ?_
  refine am_e_iload_n n97_65 rfl ?_
  refine am_e_iadd (w := 2) n97_66 (by decide) ?_
  refine am_e_iaload (v := 0) (q := 2) n97_67 rfl (by decide) (by decide) ((F38 192 2 rfl).trans ((F37 192 2 rfl).trans ((F36 192 2 rfl).trans ((F35 192 2 rfl).trans ((F34 192 2 rfl).trans ((F33 192 2 rfl).trans ((F32 192 2 rfl).trans ((F31 192 2 rfl).trans ((F30 192 2 rfl).trans ((F29 192 2 rfl).trans ((F28 192 2 rfl).trans (f192_2 (h := h) hT)))))))))))) ?_
  refine am_e_iastore (q := 6) n97_68 rfl (by decide) (by decide) ?_
  refine am_e_aload_n n97_69 rfl ?_
  refine am_e_getf (v := .ref 193) n97_70 rfl ((F38 164 55 rfl).trans ((F37 164 55 rfl).trans ((F36 164 55 rfl).trans ((F35 164 55 rfl).trans ((F34 164 55 rfl).trans ((F33 164 55 rfl).trans ((F32 164 55 rfl).trans ((F31 164 55 rfl).trans ((F30 164 55 rfl).trans ((F29 164 55 rfl).trans ((F28 164 55 rfl).trans (f164_55 (h := h) hT)))))))))))) ?_
  refine am_e_iconst (w := 4) n97_71 rfl ?_
  refine am_e_iload_n n97_72 rfl ?_
  refine am_e_imul (w := 4) n97_73 (by decide) ?_
  refine am_e_iload_n n97_74 rfl ?_
  refine am_e_iadd (w := 6) n97_75 (by decide) ?_
  refine am_e_aload_n n97_76 rfl ?_
  refine am_e_getf (v := .ref 193) n97_77 rfl ((F38 164 55 rfl).trans ((F37 164 55 rfl).trans ((F36 164 55 rfl).trans ((F35 164 55 rfl).trans ((F34 164 55 rfl).trans ((F33 164 55 rfl).trans ((F32 164 55 rfl).trans ((F31 164 55 rfl).trans ((F30 164 55 rfl).trans ((F29 164 55 rfl).trans ((F28 164 55 rfl).trans (f164_55 (h := h) hT)))))))))))) ?_
  refine am_e_iconst (w := 4) n97_78 rfl ?_
  refine am_e_iload_n n97_79 rfl ?_
  refine am_e_imul (w := 0) n97_80 (by decide) ?_
  refine am_e_iload_n n97_81 rfl ?_
  refine am_e_iadd (w := 2) n97_82 (by decide) ?_
  refine am_e_iaload (v := 0) (q := 2) n97_83 rfl (by decide) (by decide) ((F38 193 2 rfl).trans ((F37 193 2 rfl).trans ((F36 193 2 rfl).trans ((F35 193 2 rfl).trans ((F34 193 2 rfl).trans ((F33 193 2 rfl).trans ((F32 193 2 rfl).trans ((F31 193 2 rfl).trans ((F30 193 2 rfl).trans ((F29 193 2 rfl).trans ((F28 193 2 rfl).trans (f193_2 (h := h) hT)))))))))))) ?_
  refine am_e_iastore (q := 6) n97_84 rfl (by decide) (by decide) ?_
  refine am_e_iinc (w := 3) (ls' := [(3, .int 3), (0, .ref 164), (1, .int 1), (2, .int 0)]) n97_85 rfl rfl (by decide) rfl ?_
  refine am_e_goto c97_86 t97_86 ?_
  refine am_e_iload_n n97_34 rfl ?_
  refine am_e_iconst (w := 4) n97_35 rfl ?_
  refine am_e_cmpF n97_36 (am_c_geF (by decide)) ?_
  refine am_e_aload_n n97_37 rfl ?_
  refine am_e_getf (v := .ref 191) n97_38 rfl ((F38 164 53 rfl).trans ((F37 164 53 rfl).trans ((F36 164 53 rfl).trans ((F35 164 53 rfl).trans ((F34 164 53 rfl).trans ((F33 164 53 rfl).trans ((F32 164 53 rfl).trans ((F31 164 53 rfl).trans ((F30 164 53 rfl).trans ((F29 164 53 rfl).trans ((F28 164 53 rfl).trans (f164_53 (h := h) hT)))))))))))) ?_
  refine am_e_iconst (w := 4) n97_39 rfl ?_
  refine am_e_iload_n n97_40 rfl ?_
  refine am_e_imul (w := 4) n97_41 (by decide) ?_
  refine am_e_iload_n n97_42 rfl ?_
  refine am_e_iadd (w := 7) n97_43 (by decide) ?_
  refine am_e_aload_n n97_44 rfl ?_
  refine am_e_getf (v := .ref 191) n97_45 rfl ((F38 164 53 rfl).trans ((F37 164 53 rfl).trans ((F36 164 53 rfl).trans ((F35 164 53 rfl).trans ((F34 164 53 rfl).trans ((F33 164 53 rfl).trans ((F32 164 53 rfl).trans ((F31 164 53 rfl).trans ((F30 164 53 rfl).trans ((F29 164 53 rfl).trans ((F28 164 53 rfl).trans (f164_53 (h := h) hT)))))))))))) ?_
  refine am_e_iconst (w := 4) n97_46 rfl ?_
  refine am_e_iload_n n97_47 rfl ?_
  refine am_e_imul (w := 0) n97_48 (by decide) ?_
  refine am_e_iload_n n97_49 rfl ?_
  refine am_e_iadd (w := 3) n97_50 (by decide) ?_
  refine am_e_iaload (v := 0) (q := 3) n97_51 rfl (by decide) (by decide) ((F38 191 3 rfl).trans ((F37 191 3 rfl).trans ((F36 191 3 rfl).trans ((F35 191 3 rfl).trans ((F34 191 3 rfl).trans ((F33 191 3 rfl).trans ((F32 191 3 rfl).trans ((F31 191 3 rfl).trans ((F30 191 3 rfl).trans ((F29 191 3 rfl).trans ((F28 191 3 rfl).trans (f191_3 (h := h) hT)))))))))))) ?_
  refine am_e_iastore (q := 7) n97_52 rfl (by decide) (by decide) ?_
  refine am_e_aload_n n97_53 rfl ?_
  refine am_e_getf (v := .ref 192) n97_54 rfl ((F38 164 54 rfl).trans ((F37 164 54 rfl).trans ((F36 164 54 rfl).trans ((F35 164 54 rfl).trans ((F34 164 54 rfl).trans ((F33 164 54 rfl).trans ((F32 164 54 rfl).trans ((F31 164 54 rfl).trans ((F30 164 54 rfl).trans ((F29 164 54 rfl).trans ((F28 164 54 rfl).trans (f164_54 (h := h) hT)))))))))))) ?_
  refine am_e_iconst (w := 4) n97_55 rfl ?_
  refine am_e_iload_n n97_56 rfl ?_
  refine am_e_imul (w := 4) n97_57 (by decide) ?_
  refine am_e_iload_n n97_58 rfl ?_
  refine am_e_iadd (w := 7) n97_59 (by decide) ?_
  refine am_e_aload_n n97_60 rfl ?_
  refine am_e_getf (v := .ref 192) n97_61 rfl ((F38 164 54 rfl).trans ((F37 164 54 rfl).trans ((F36 164 54 rfl).trans ((F35 164 54 rfl).trans ((F34 164 54 rfl).trans ((F33 164 54 rfl).trans ((F32 164 54 rfl).trans ((F31 164 54 rfl).trans ((F30 164 54 rfl).trans ((F29 164 54 rfl).trans ((F28 164 54 rfl).trans (f164_54 (h := h) hT)))))))))))) ?_
  refine am_e_iconst (w := 4) n97_62 rfl ?_
  refine am_e_iload_n n97_63 rfl ?_
  refine am_e_imul (w := 0) n97_64 (by decide) ?_
  refine am_e_iload_n n97_65 rfl ?_
  refine am_e_iadd (w := 3) n97_66 (by decide) ?_
  refine am_e_iaload (v := 0) (q := 3) n97_67 rfl (by decide) (by decide) ((F38 192 3 rfl).trans ((F37 192 3 rfl).trans ((F36 192 3 rfl).trans ((F35 192 3 rfl).trans ((F34 192 3 rfl).trans ((F33 192 3 rfl).trans ((F32 192 3 rfl).trans ((F31 192 3 rfl).trans ((F30 192 3 rfl).trans ((F29 192 3 rfl).trans ((F28 192 3 rfl).trans (f192_3 (h := h) hT)))))))))))) ?_
  refine am_e_iastore (q := 7) n97_68 rfl (by decide) (by decide) ?_
  refine am_e_aload_n n97_69 rfl ?_
  refine am_e_getf (v := .ref 193) n97_70 rfl ((F38 164 55 rfl).trans ((F37 164 55 rfl).trans ((F36 164 55 rfl).trans ((F35 164 55 rfl).trans ((F34 164 55 rfl).trans ((F33 164 55 rfl).trans ((F32 164 55 rfl).trans ((F31 164 55 rfl).trans ((F30 164 55 rfl).trans ((F29 164 55 rfl).trans ((F28 164 55 rfl).trans (f164_55 (h := h) hT)))))))))))) ?_
  refine am_e_iconst (w := 4) n97_71 rfl ?_
  refine am_e_iload_n n97_72 rfl ?_
  refine am_e_imul (w := 4) n97_73 (by decide) ?_
  refine am_e_iload_n n97_74 rfl ?_
  refine am_e_iadd (w := 7) n97_75 (by decide) ?_
  refine am_e_aload_n n97_76 rfl ?_
  refine am_e_getf (v := .ref 193) n97_77 rfl ((F38 164 55 rfl).trans ((F37 164 55 rfl).trans ((F36 164 55 rfl).trans ((F35 164 55 rfl).trans ((F34 164 55 rfl).trans ((F33 164 55 rfl).trans ((F32 164 55 rfl).trans ((F31 164 55 rfl).trans ((F30 164 55 rfl).trans ((F29 164 55 rfl).trans ((F28 164 55 rfl).trans (f164_55 (h := h) hT)))))))))))) ?_
  refine am_e_iconst (w := 4) n97_78 rfl ?_
  refine am_e_iload_n n97_79 rfl ?_
  refine am_e_imul (w := 0) n97_80 (by decide) ?_
  refine am_e_iload_n n97_81 rfl ?_
  refine am_e_iadd (w := 3) n97_82 (by decide) ?_
  refine am_e_iaload (v := 0) (q := 3) n97_83 rfl (by decide) (by decide) ((F38 193 3 rfl).trans ((F37 193 3 rfl).trans ((F36 193 3 rfl).trans ((F35 193 3 rfl).trans ((F34 193 3 rfl).trans ((F33 193 3 rfl).trans ((F32 193 3 rfl).trans ((F31 193 3 rfl).trans ((F30 193 3 rfl).trans ((F29 193 3 rfl).trans ((F28 193 3 rfl).trans (f193_3 (h := h) hT)))))))))))) ?_
  refine am_e_iastore (q := 7) n97_84 rfl (by decide) (by decide) ?_
  refine am_e_iinc (w := 4) (ls' := [(3, .int 4), (0, .ref 164), (1, .int 1), (2, .int 0)]) n97_85 rfl rfl (by decide) rfl ?_
  refine am_e_goto c97_86 t97_86 ?_
  refine am_e_iload_n n97_34 rfl ?_
  refine am_e_iconst (w := 4) n97_35 rfl ?_
  refine am_e_cmpT n97_36 (am_c_geT (by decide)) t97_36 ?_
  refine am_e_vret c97_87 rfl rfl ?_
  refine am_e_iconst (w := 0) n127_35 rfl ?_
  refine am_e_istore (ls' := [(8, .int 0), (7, .int 1), (6, .int 1), (0, .ref 164), (2, .int (nI n)), (3, .int (nI 0)), (4, .long 0)]) n127_36 rfl rfl ?_
  refine am_Ek_ls (ls' := [(0, .ref 164), (2, .int (nI n)), (3, .int (nI 0)), (4, .long 0), (6, .int 1), (7, .int 1), (8, .int (nI 0))]) ⟨rfl, rfl, rfl, rfl, rfl, rfl, rfl, trivial⟩ ?_
  refine am_cm_e (n := n) (b := 0) (s := 0) (t := 1) (i7 := 1) (dr := dr38) (by omega) (by omega) ⟨((F38 164 23 rfl).trans ((F37 164 23 rfl).trans ((F36 164 23 rfl).trans ((F35 164 23 rfl).trans ((F34 164 23 rfl).trans ((F33 164 23 rfl).trans ((F32 164 23 rfl).trans ((F31 164 23 rfl).trans ((F30 164 23 rfl).trans ((F29 164 23 rfl).trans ((F28 164 23 rfl).trans (f164_23 (h := h) hT)))))))))))), ((F38 168 4 rfl).trans ((F37 168 4 rfl).trans ((F36 168 4 rfl).trans ((F35 168 4 rfl).trans ((F34 168 4 rfl).trans ((F33 168 4 rfl).trans ((F32 168 4 rfl).trans ((F31 168 4 rfl).trans ((F30 168 4 rfl).trans ((F29 168 4 rfl).trans ((F28 168 4 rfl).trans (f168_4 (h := h) hT)))))))))))), ((F38 164 50 rfl).trans ((F37 164 50 rfl).trans ((F36 164 50 rfl).trans ((F35 164 50 rfl).trans ((F34 164 50 rfl).trans ((F33 164 50 rfl).trans ((F32 164 50 rfl).trans ((F31 164 50 rfl).trans ((F30 164 50 rfl).trans ((F29 164 50 rfl).trans ((F28 164 50 rfl).trans (f164_50 (h := h) hT)))))))))))), ((F38 164 61 rfl).trans ((F37 164 61 rfl).trans ((F36 164 61 rfl).trans ((F35 164 61 rfl).trans ((F34 164 61 rfl).trans ((F33 164 61 rfl).trans ((F32 164 61 rfl).trans ((F31 164 61 rfl).trans ((F30 164 61 rfl).trans ((F29 164 61 rfl).trans ((F28 164 61 rfl).trans (f164_61 (h := h) hT)))))))))))), ((F38 164 47 rfl).trans ((F37 164 47 rfl).trans ((F36 164 47 rfl).trans ((F35 164 47 rfl).trans ((F34 164 47 rfl).trans ((F33 164 47 rfl).trans ((F32 164 47 rfl).trans ((F31 164 47 rfl).trans ((F30 164 47 rfl).trans ((F29 164 47 rfl).trans ((F28 164 47 rfl).trans (f164_47 (h := h) hT)))))))))))), ((F38 168 0 rfl).trans ((F37 168 0 rfl).trans ((F36 168 0 rfl).trans ((F35 168 0 rfl).trans ((F34 168 0 rfl).trans ((F33 168 0 rfl).trans ((F32 168 0 rfl).trans ((F31 168 0 rfl).trans ((F30 168 0 rfl).trans ((F29 168 0 rfl).trans ((F28 168 0 rfl).trans (f168_0 (h := h) hT)))))))))))), ((F38 164 51 rfl).trans ((F37 164 51 rfl).trans ((F36 164 51 rfl).trans ((F35 164 51 rfl).trans ((F34 164 51 rfl).trans ((F33 164 51 rfl).trans ((F32 164 51 rfl).trans ((F31 164 51 rfl).trans ((F30 164 51 rfl).trans ((F29 164 51 rfl).trans ((F28 164 51 rfl).trans (f164_51 (h := h) hT)))))))))))), ((F38 164 33 rfl).trans ((F37 164 33 rfl).trans ((F36 164 33 rfl).trans ((F35 164 33 rfl).trans ((F34 164 33 rfl).trans ((F33 164 33 rfl).trans ((F32 164 33 rfl).trans ((F31 164 33 rfl).trans ((F30 164 33 rfl).trans ((F29 164 33 rfl).trans ((F28 164 33 rfl).trans (f164_33 (h := h) hT)))))))))))), ((F38 178 2 rfl).trans ((F37 178 2 rfl).trans ((F36 178 2 rfl).trans ((F35 178 2 rfl).trans ((F34 178 2 rfl).trans ((F33 178 2 rfl).trans ((F32 178 2 rfl).trans ((F31 178 2 rfl).trans ((F30 178 2 rfl).trans ((F29 178 2 rfl).trans ((F28 178 2 rfl).trans (f178_2 (h := h) hT)))))))))))), ((F38 178 0 rfl).trans ((F37 178 0 rfl).trans ((F36 178 0 rfl).trans ((F35 178 0 rfl).trans ((F34 178 0 rfl).trans ((F33 178 0 rfl).trans ((F32 178 0 rfl).trans ((F31 178 0 rfl).trans ((F30 178 0 rfl).trans ((F29 178 0 rfl).trans ((F28 178 0 rfl).trans (f178_0 (h := h) hT)))))))))))), ((F38 164 62 rfl).trans ((F37 164 62 rfl).trans ((F36 164 62 rfl).trans ((F35 164 62 rfl).trans ((F34 164 62 rfl).trans ((F33 164 62 rfl).trans ((F32 164 62 rfl).trans ((F31 164 62 rfl).trans ((F30 164 62 rfl).trans ((F29 164 62 rfl).trans ((F28 164 62 rfl).trans (f164_62 (h := h) hT)))))))))))), ((F38 164 58 rfl).trans ((F37 164 58 rfl).trans ((F36 164 58 rfl).trans ((F35 164 58 rfl).trans ((F34 164 58 rfl).trans ((F33 164 58 rfl).trans ((F32 164 58 rfl).trans ((F31 164 58 rfl).trans ((F30 164 58 rfl).trans ((F29 164 58 rfl).trans ((F28 164 58 rfl).trans (f164_58 (h := h) hT)))))))))))), ((F38 164 60 rfl).trans ((F37 164 60 rfl).trans ((F36 164 60 rfl).trans ((F35 164 60 rfl).trans ((F34 164 60 rfl).trans ((F33 164 60 rfl).trans ((F32 164 60 rfl).trans ((F31 164 60 rfl).trans ((F30 164 60 rfl).trans ((F29 164 60 rfl).trans ((F28 164 60 rfl).trans (f164_60 (h := h) hT)))))))))))), trivial⟩ rfl rfl qc38 ?_
  intro h39 dr39 F39 qa39 qb39 qc39
  refine am_e_iload n127_59 rfl ?_
  refine am_e_aload_n n127_60 rfl ?_
  refine am_e_getf (v := .ref 188) n127_61 rfl ((F39 164 50 rfl).trans ((F38 164 50 rfl).trans ((F37 164 50 rfl).trans ((F36 164 50 rfl).trans ((F35 164 50 rfl).trans ((F34 164 50 rfl).trans ((F33 164 50 rfl).trans ((F32 164 50 rfl).trans ((F31 164 50 rfl).trans ((F30 164 50 rfl).trans ((F29 164 50 rfl).trans ((F28 164 50 rfl).trans (f164_50 (h := h) hT))))))))))))) ?_
  refine am_e_iconst (w := 1) n127_62 rfl ?_
  refine am_e_iaload (v := 0) (q := 1) n127_63 rfl (by decide) (by decide) qa39 ?_
  refine am_e_iload_n n127_64 rfl ?_
  refine am_e_cmpF n127_65 (am_c_ltF (by decide)) ?_
  refine am_e_iconst (w := 1) n127_66 rfl ?_
  refine am_e_goto c127_67 t127_67 ?_
  refine am_e_iadd (w := 2) n127_69 (by decide) ?_
  refine am_e_istore (ls' := [(6, .int 2), (0, .ref 164), (2, .int (nI n)), (3, .int (nI 0)), (4, .long 0), (7, .int 1), (8, .int (nI n))]) n127_70 rfl rfl ?_
  refine am_e_iinc (w := 2) (ls' := [(7, .int 2), (6, .int 2), (0, .ref 164), (2, .int (nI n)), (3, .int (nI 0)), (4, .long 0), (8, .int (nI n))]) n127_71 rfl rfl (by decide) rfl ?_
  refine am_e_goto c127_72 t127_72 ?_
  refine am_e_iload n127_28 rfl ?_
  refine am_e_bipush (w := 10) n127_29 (by decide) ?_
  refine am_e_cmpF n127_30 (am_c_geF (by decide)) ?_
  refine am_e_aload_n n127_31 rfl ?_
  refine am_e_iconst (w := 1) n127_32 rfl ?_
  refine am_e_iconst (w := 0) n127_33 rfl ?_
  refine am_e_callV (L := [(0, .ref 164), (1, .int 1), (2, .int 0)]) n127_34 rfl rfl rfl rfl rfl rfl rfl rfl ?_
  refine am_e_aload_n n97_0 rfl ?_
  refine am_e_getf (v := .ref 188) n97_1 rfl ((F39 164 50 rfl).trans ((F38 164 50 rfl).trans ((F37 164 50 rfl).trans ((F36 164 50 rfl).trans ((F35 164 50 rfl).trans ((F34 164 50 rfl).trans ((F33 164 50 rfl).trans ((F32 164 50 rfl).trans ((F31 164 50 rfl).trans ((F30 164 50 rfl).trans ((F29 164 50 rfl).trans ((F28 164 50 rfl).trans (f164_50 (h := h) hT))))))))))))) ?_
  refine am_e_iload_n n97_2 rfl ?_
  refine am_e_aload_n n97_3 rfl ?_
  refine am_e_getf (v := .ref 188) n97_4 rfl ((F39 164 50 rfl).trans ((F38 164 50 rfl).trans ((F37 164 50 rfl).trans ((F36 164 50 rfl).trans ((F35 164 50 rfl).trans ((F34 164 50 rfl).trans ((F33 164 50 rfl).trans ((F32 164 50 rfl).trans ((F31 164 50 rfl).trans ((F30 164 50 rfl).trans ((F29 164 50 rfl).trans ((F28 164 50 rfl).trans (f164_50 (h := h) hT))))))))))))) ?_
  refine am_e_iload_n n97_5 rfl ?_
  refine am_e_iaload (v := 0) (q := 0) n97_6 rfl (by decide) (by decide) ((F39 188 0 rfl).trans ((F38 188 0 rfl).trans ((F37 188 0 rfl).trans ((F36 188 0 rfl).trans ((F35 188 0 rfl).trans ((F34 188 0 rfl).trans ((F33 188 0 rfl).trans ((F32 188 0 rfl).trans ((F31 188 0 rfl).trans ((F30 188 0 rfl).trans ((F29 188 0 rfl).trans ((F28 188 0 rfl).trans (f188_0 (h := h) hT))))))))))))) ?_
  refine am_e_iastore (q := 1) n97_7 rfl (by decide) (by decide) ?_
  refine am_e_aload_n n97_8 rfl ?_
  refine am_e_getf (v := .ref 189) n97_9 rfl ((F39 164 51 rfl).trans ((F38 164 51 rfl).trans ((F37 164 51 rfl).trans ((F36 164 51 rfl).trans ((F35 164 51 rfl).trans ((F34 164 51 rfl).trans ((F33 164 51 rfl).trans ((F32 164 51 rfl).trans ((F31 164 51 rfl).trans ((F30 164 51 rfl).trans ((F29 164 51 rfl).trans ((F28 164 51 rfl).trans (f164_51 (h := h) hT))))))))))))) ?_
  refine am_e_iload_n n97_10 rfl ?_
  refine am_e_aload_n n97_11 rfl ?_
  refine am_e_getf (v := .ref 189) n97_12 rfl ((F39 164 51 rfl).trans ((F38 164 51 rfl).trans ((F37 164 51 rfl).trans ((F36 164 51 rfl).trans ((F35 164 51 rfl).trans ((F34 164 51 rfl).trans ((F33 164 51 rfl).trans ((F32 164 51 rfl).trans ((F31 164 51 rfl).trans ((F30 164 51 rfl).trans ((F29 164 51 rfl).trans ((F28 164 51 rfl).trans (f164_51 (h := h) hT))))))))))))) ?_
  refine am_e_iload_n n97_13 rfl ?_
  refine am_e_iaload (v := 0) (q := 0) n97_14 rfl (by decide) (by decide) ((F39 189 0 rfl).trans ((F38 189 0 rfl).trans ((F37 189 0 rfl).trans ((F36 189 0 rfl).trans ((F35 189 0 rfl).trans ((F34 189 0 rfl).trans ((F33 189 0 rfl).trans ((F32 189 0 rfl).trans ((F31 189 0 rfl).trans ((F30 189 0 rfl).trans ((F29 189 0 rfl).trans ((F28 189 0 rfl).trans (f189_0 (h := h) hT))))))))))))) ?_
  refine am_e_iastore (q := 1) n97_15 rfl (by decide) (by decide) ?_
  refine am_e_aload_n n97_16 rfl ?_
  refine am_e_getf (v := .ref 190) n97_17 rfl ((F39 164 52 rfl).trans ((F38 164 52 rfl).trans ((F37 164 52 rfl).trans ((F36 164 52 rfl).trans ((F35 164 52 rfl).trans ((F34 164 52 rfl).trans ((F33 164 52 rfl).trans ((F32 164 52 rfl).trans ((F31 164 52 rfl).trans ((F30 164 52 rfl).trans ((F29 164 52 rfl).trans ((F28 164 52 rfl).trans (f164_52 (h := h) hT))))))))))))) ?_
  refine am_e_iload_n n97_18 rfl ?_
  refine am_e_aload_n n97_19 rfl ?_
  refine am_e_getf (v := .ref 190) n97_20 rfl ((F39 164 52 rfl).trans ((F38 164 52 rfl).trans ((F37 164 52 rfl).trans ((F36 164 52 rfl).trans ((F35 164 52 rfl).trans ((F34 164 52 rfl).trans ((F33 164 52 rfl).trans ((F32 164 52 rfl).trans ((F31 164 52 rfl).trans ((F30 164 52 rfl).trans ((F29 164 52 rfl).trans ((F28 164 52 rfl).trans (f164_52 (h := h) hT))))))))))))) ?_
  refine am_e_iload_n n97_21 rfl ?_
  refine am_e_iaload (v := (-1)) (q := 0) n97_22 rfl (by decide) (by decide) ((F39 190 0 rfl).trans ((F38 190 0 rfl).trans ((F37 190 0 rfl).trans ((F36 190 0 rfl).trans ((F35 190 0 rfl).trans ((F34 190 0 rfl).trans ((F33 190 0 rfl).trans ((F32 190 0 rfl).trans ((F31 190 0 rfl).trans ((F30 190 0 rfl).trans ((F29 190 0 rfl).trans ((F28 190 0 rfl).trans (f190_0 (h := h) hT))))))))))))) ?_
  refine am_e_iastore (q := 1) n97_23 rfl (by decide) (by decide) ?_
  refine am_e_aload_n n97_24 rfl ?_
  refine am_e_getf (v := .ref 194) n97_25 rfl ((F39 164 56 rfl).trans ((F38 164 56 rfl).trans ((F37 164 56 rfl).trans ((F36 164 56 rfl).trans ((F35 164 56 rfl).trans ((F34 164 56 rfl).trans ((F33 164 56 rfl).trans ((F32 164 56 rfl).trans ((F31 164 56 rfl).trans ((F30 164 56 rfl).trans ((F29 164 56 rfl).trans ((F28 164 56 rfl).trans (f164_56 (h := h) hT))))))))))))) ?_
  refine am_e_iload_n n97_26 rfl ?_
  refine am_e_aload_n n97_27 rfl ?_
  refine am_e_getf (v := .ref 194) n97_28 rfl ((F39 164 56 rfl).trans ((F38 164 56 rfl).trans ((F37 164 56 rfl).trans ((F36 164 56 rfl).trans ((F35 164 56 rfl).trans ((F34 164 56 rfl).trans ((F33 164 56 rfl).trans ((F32 164 56 rfl).trans ((F31 164 56 rfl).trans ((F30 164 56 rfl).trans ((F29 164 56 rfl).trans ((F28 164 56 rfl).trans (f164_56 (h := h) hT))))))))))))) ?_
  refine am_e_iload_n n97_29 rfl ?_
  refine am_e_iaload (v := 0) (q := 0) n97_30 rfl (by decide) (by decide) ((F39 194 0 rfl).trans ((F38 194 0 rfl).trans ((F37 194 0 rfl).trans ((F36 194 0 rfl).trans ((F35 194 0 rfl).trans ((F34 194 0 rfl).trans ((F33 194 0 rfl).trans ((F32 194 0 rfl).trans ((F31 194 0 rfl).trans ((F30 194 0 rfl).trans ((F29 194 0 rfl).trans ((F28 194 0 rfl).trans (f194_0 (h := h) hT))))))))))))) ?_
  refine am_e_iastore (q := 1) n97_31 rfl (by decide) (by decide) ?_
  refine am_e_iconst (w := 0) n97_32 rfl ?_
  refine am_e_istore_n (ls' := [(3, .int 0), (0, .ref 164), (1, .int 1), (2, .int 0)]) n97_33 rfl rfl ?_
  refine am_e_iload_n n97_34 rfl ?_
  refine am_e_iconst (w := 4) n97_35 rfl ?_
  refine am_e_cmpF n97_36 (am_c_geF (by decide)) ?_
  refine am_e_aload_n n97_37 rfl ?_
  refine am_e_getf (v := .ref 191) n97_38 rfl ((F39 164 53 rfl).trans ((F38 164 53 rfl).trans ((F37 164 53 rfl).trans ((F36 164 53 rfl).trans ((F35 164 53 rfl).trans ((F34 164 53 rfl).trans ((F33 164 53 rfl).trans ((F32 164 53 rfl).trans ((F31 164 53 rfl).trans ((F30 164 53 rfl).trans ((F29 164 53 rfl).trans ((F28 164 53 rfl).trans (f164_53 (h := h) hT))))))))))))) ?_
  refine am_e_iconst (w := 4) n97_39 rfl ?_
  refine am_e_iload_n n97_40 rfl ?_
  refine am_e_imul (w := 4) n97_41 (by decide) ?_
  refine am_e_iload_n n97_42 rfl ?_
  refine am_e_iadd (w := 4) n97_43 (by decide) ?_
  refine am_e_aload_n n97_44 rfl ?_
  refine am_e_getf (v := .ref 191) n97_45 rfl ((F39 164 53 rfl).trans ((F38 164 53 rfl).trans ((F37 164 53 rfl).trans ((F36 164 53 rfl).trans ((F35 164 53 rfl).trans ((F34 164 53 rfl).trans ((F33 164 53 rfl).trans ((F32 164 53 rfl).trans ((F31 164 53 rfl).trans ((F30 164 53 rfl).trans ((F29 164 53 rfl).trans ((F28 164 53 rfl).trans (f164_53 (h := h) hT))))))))))))) ?_
  refine am_e_iconst (w := 4) n97_46 rfl ?_
  refine am_e_iload_n n97_47 rfl ?_
  refine am_e_imul (w := 0) n97_48 (by decide) ?_
  refine am_e_iload_n n97_49 rfl ?_
  refine am_e_iadd (w := 0) n97_50 (by decide) ?_
  refine am_e_iaload (v := 0) (q := 0) n97_51 rfl (by decide) (by decide) ((F39 191 0 rfl).trans ((F38 191 0 rfl).trans ((F37 191 0 rfl).trans ((F36 191 0 rfl).trans ((F35 191 0 rfl).trans ((F34 191 0 rfl).trans ((F33 191 0 rfl).trans ((F32 191 0 rfl).trans ((F31 191 0 rfl).trans ((F30 191 0 rfl).trans ((F29 191 0 rfl).trans ((F28 191 0 rfl).trans (f191_0 (h := h) hT))))))))))))) ?_
  refine am_e_iastore (q := 4) n97_52 rfl (by decide) (by decide) ?_
  refine am_e_aload_n n97_53 rfl ?_
  refine am_e_getf (v := .ref 192) n97_54 rfl ((F39 164 54 rfl).trans ((F38 164 54 rfl).trans ((F37 164 54 rfl).trans ((F36 164 54 rfl).trans ((F35 164 54 rfl).trans ((F34 164 54 rfl).trans ((F33 164 54 rfl).trans ((F32 164 54 rfl).trans ((F31 164 54 rfl).trans ((F30 164 54 rfl).trans ((F29 164 54 rfl).trans ((F28 164 54 rfl).trans (f164_54 (h := h) hT))))))))))))) ?_
  refine am_e_iconst (w := 4) n97_55 rfl ?_
  refine am_e_iload_n n97_56 rfl ?_
  refine am_e_imul (w := 4) n97_57 (by decide) ?_
  refine am_e_iload_n n97_58 rfl ?_
  refine am_e_iadd (w := 4) n97_59 (by decide) ?_
  refine am_e_aload_n n97_60 rfl ?_
  refine am_e_getf (v := .ref 192) n97_61 rfl ((F39 164 54 rfl).trans ((F38 164 54 rfl).trans ((F37 164 54 rfl).trans ((F36 164 54 rfl).trans ((F35 164 54 rfl).trans ((F34 164 54 rfl).trans ((F33 164 54 rfl).trans ((F32 164 54 rfl).trans ((F31 164 54 rfl).trans ((F30 164 54 rfl).trans ((F29 164 54 rfl).trans ((F28 164 54 rfl).trans (f164_54 (h := h) hT))))))))))))) ?_
  refine am_e_iconst (w := 4) n97_62 rfl ?_
  refine am_e_iload_n n97_63 rfl ?_
  refine am_e_imul (w := 0) n97_64 (by decide) ?_
  refine am_e_iload_n n97_65 rfl ?_
  refine am_e_iadd (w := 0) n97_66 (by decide) ?_
  refine am_e_iaload (v := 0) (q := 0) n97_67 rfl (by decide) (by decide) ((F39 192 0 rfl).trans ((F38 192 0 rfl).trans ((F37 192 0 rfl).trans ((F36 192 0 rfl).trans ((F35 192 0 rfl).trans ((F34 192 0 rfl).trans ((F33 192 0 rfl).trans ((F32 192 0 rfl).trans ((F31 192 0 rfl).trans ((F30 192 0 rfl).trans ((F29 192 0 rfl).trans ((F28 192 0 rfl).trans (f192_0 (h := h) hT))))))))))))) ?_
  refine am_e_iastore (q := 4) n97_68 rfl (by decide) (by decide) ?_
  refine am_e_aload_n n97_69 rfl ?_
  refine am_e_getf (v := .ref 193) n97_70 rfl ((F39 164 55 rfl).trans ((F38 164 55 rfl).trans ((F37 164 55 rfl).trans ((F36 164 55 rfl).trans ((F35 164 55 rfl).trans ((F34 164 55 rfl).trans ((F33 164 55 rfl).trans ((F32 164 55 rfl).trans ((F31 164 55 rfl).trans ((F30 164 55 rfl).trans ((F29 164 55 rfl).trans ((F28 164 55 rfl).trans (f164_55 (h := h) hT))))))))))))) ?_
  refine am_e_iconst (w := 4) n97_71 rfl ?_
  refine am_e_iload_n n97_72 rfl ?_
  refine am_e_imul (w := 4) n97_73 (by decide) ?_
  refine am_e_iload_n n97_74 rfl ?_
  refine am_e_iadd (w := 4) n97_75 (by decide) ?_
  refine am_e_aload_n n97_76 rfl ?_
  refine am_e_getf (v := .ref 193) n97_77 rfl ((F39 164 55 rfl).trans ((F38 164 55 rfl).trans ((F37 164 55 rfl).trans ((F36 164 55 rfl).trans ((F35 164 55 rfl).trans ((F34 164 55 rfl).trans ((F33 164 55 rfl).trans ((F32 164 55 rfl).trans ((F31 164 55 rfl).trans ((F30 164 55 rfl).trans ((F29 164 55 rfl).trans ((F28 164 55 rfl).trans (f164_55 (h := h) hT))))))))))))) ?_
  refine am_e_iconst (w := 4) n97_78 rfl ?_
  refine am_e_iload_n n97_79 rfl ?_
  refine am_e_imul (w := 0) n97_80 (by decide) ?_
  refine am_e_iload_n n97_81 rfl ?_
  refine am_e_iadd (w := 0) n97_82 (by decide) ?_
  refine am_e_iaload (v := 0) (q := 0) n97_83 rfl (by decide) (by decide) ((F39 193 0 rfl).trans ((F38 193 0 rfl).trans ((F37 193 0 rfl).trans ((F36 193 0 rfl).trans ((F35 193 0 rfl).trans ((F34 193 0 rfl).trans ((F33 193 0 rfl).trans ((F32 193 0 rfl).trans ((F31 193 0 rfl).trans ((F30 193 0 rfl).trans ((F29 193 0 rfl).trans ((F28 193 0 rfl).trans (f193_0 (h := h) hT))))))))))))) ?_
  refine am_e_iastore (q := 4) n97_84 rfl (by decide) (by decide) ?_
  refine am_e_iinc (w := 1) (ls' := [(3, .int 1), (0, .ref 164), (1, .int 1), (2, .int 0)]) n97_85 rfl rfl (by decide) rfl ?_
  refine am_e_goto c97_86 t97_86 ?_
  refine am_e_iload_n n97_34 rfl ?_
  refine am_e_iconst (w := 4) n97_35 rfl ?_
  refine am_e_cmpF n97_36 (am_c_geF (by decide)) ?_
  refine am_e_aload_n n97_37 rfl ?_
  refine am_e_getf (v := .ref 191) n97_38 rfl ((F39 164 53 rfl).trans ((F38 164 53 rfl).trans ((F37 164 53 rfl).trans ((F36 164 53 rfl).trans ((F35 164 53 rfl).trans ((F34 164 53 rfl).trans ((F33 164 53 rfl).trans ((F32 164 53 rfl).trans ((F31 164 53 rfl).trans ((F30 164 53 rfl).trans ((F29 164 53 rfl).trans ((F28 164 53 rfl).trans (f164_53 (h := h) hT))))))))))))) ?_
  refine am_e_iconst (w := 4) n97_39 rfl ?_
  refine am_e_iload_n n97_40 rfl ?_
  refine am_e_imul (w := 4) n97_41 (by decide) ?_
  refine am_e_iload_n n97_42 rfl ?_
  refine am_e_iadd (w := 5) n97_43 (by decide) ?_
  refine am_e_aload_n n97_44 rfl ?_
  refine am_e_getf (v := .ref 191) n97_45 rfl ((F39 164 53 rfl).trans ((F38 164 53 rfl).trans ((F37 164 53 rfl).trans ((F36 164 53 rfl).trans ((F35 164 53 rfl).trans ((F34 164 53 rfl).trans ((F33 164 53 rfl).trans ((F32 164 53 rfl).trans ((F31 164 53 rfl).trans ((F30 164 53 rfl).trans ((F29 164 53 rfl).trans ((F28 164 53 rfl).trans (f164_53 (h := h) hT))))))))))))) ?_
  refine am_e_iconst (w := 4) n97_46 rfl ?_
  refine am_e_iload_n n97_47 rfl ?_
  refine am_e_imul (w := 0) n97_48 (by decide) ?_
  refine am_e_iload_n n97_49 rfl ?_
  refine am_e_iadd (w := 1) n97_50 (by decide) ?_
  refine am_e_iaload (v := 0) (q := 1) n97_51 rfl (by decide) (by decide) ((F39 191 1 rfl).trans ((F38 191 1 rfl).trans ((F37 191 1 rfl).trans ((F36 191 1 rfl).trans ((F35 191 1 rfl).trans ((F34 191 1 rfl).trans ((F33 191 1 rfl).trans ((F32 191 1 rfl).trans ((F31 191 1 rfl).trans ((F30 191 1 rfl).trans ((F29 191 1 rfl).trans ((F28 191 1 rfl).trans (f191_1 (h := h) hT))))))))))))) ?_
  refine am_e_iastore (q := 5) n97_52 rfl (by decide) (by decide) ?_
  refine am_e_aload_n n97_53 rfl ?_
  refine am_e_getf (v := .ref 192) n97_54 rfl ((F39 164 54 rfl).trans ((F38 164 54 rfl).trans ((F37 164 54 rfl).trans ((F36 164 54 rfl).trans ((F35 164 54 rfl).trans ((F34 164 54 rfl).trans ((F33 164 54 rfl).trans ((F32 164 54 rfl).trans ((F31 164 54 rfl).trans ((F30 164 54 rfl).trans ((F29 164 54 rfl).trans ((F28 164 54 rfl).trans (f164_54 (h := h) hT))))))))))))) ?_
  refine am_e_iconst (w := 4) n97_55 rfl ?_
  refine am_e_iload_n n97_56 rfl ?_
  refine am_e_imul (w := 4) n97_57 (by decide) ?_
  refine am_e_iload_n n97_58 rfl ?_
  refine am_e_iadd (w := 5) n97_59 (by decide) ?_
  refine am_e_aload_n n97_60 rfl ?_
  refine am_e_getf (v := .ref 192) n97_61 rfl ((F39 164 54 rfl).trans ((F38 164 54 rfl).trans ((F37 164 54 rfl).trans ((F36 164 54 rfl).trans ((F35 164 54 rfl).trans ((F34 164 54 rfl).trans ((F33 164 54 rfl).trans ((F32 164 54 rfl).trans ((F31 164 54 rfl).trans ((F30 164 54 rfl).trans ((F29 164 54 rfl).trans ((F28 164 54 rfl).trans (f164_54 (h := h) hT))))))))))))) ?_
  refine am_e_iconst (w := 4) n97_62 rfl ?_
  refine am_e_iload_n n97_63 rfl ?_
  refine am_e_imul (w := 0) n97_64 (by decide) ?_
  refine am_e_iload_n n97_65 rfl ?_
  refine am_e_iadd (w := 1) n97_66 (by decide) ?_
  refine am_e_iaload (v := 0) (q := 1) n97_67 rfl (by decide) (by decide) ((F39 192 1 rfl).trans ((F38 192 1 rfl).trans ((F37 192 1 rfl).trans ((F36 192 1 rfl).trans ((F35 192 1 rfl).trans ((F34 192 1 rfl).trans ((F33 192 1 rfl).trans ((F32 192 1 rfl).trans ((F31 192 1 rfl).trans ((F30 192 1 rfl).trans ((F29 192 1 rfl).trans ((F28 192 1 rfl).trans (f192_1 (h := h) hT))))))))))))) ?_
  refine am_e_iastore (q := 5) n97_68 rfl (by decide) (by decide) ?_
  refine am_e_aload_n n97_69 rfl ?_
  refine am_e_getf (v := .ref 193) n97_70 rfl ((F39 164 55 rfl).trans ((F38 164 55 rfl).trans ((F37 164 55 rfl).trans ((F36 164 55 rfl).trans ((F35 164 55 rfl).trans ((F34 164 55 rfl).trans ((F33 164 55 rfl).trans ((F32 164 55 rfl).trans ((F31 164 55 rfl).trans ((F30 164 55 rfl).trans ((F29 164 55 rfl).trans ((F28 164 55 rfl).trans (f164_55 (h := h) hT))))))))))))) ?_
  refine am_e_iconst (w := 4) n97_71 rfl ?_
  refine am_e_iload_n n97_72 rfl ?_
  refine am_e_imul (w := 4) n97_73 (by decide) ?_
  refine am_e_iload_n n97_74 rfl ?_
  refine am_e_iadd (w := 5) n97_75 (by decide) ?_
  refine am_e_aload_n n97_76 rfl ?_
  refine am_e_getf (v := .ref 193) n97_77 rfl ((F39 164 55 rfl).trans ((F38 164 55 rfl).trans ((F37 164 55 rfl).trans ((F36 164 55 rfl).trans ((F35 164 55 rfl).trans ((F34 164 55 rfl).trans ((F33 164 55 rfl).trans ((F32 164 55 rfl).trans ((F31 164 55 rfl).trans ((F30 164 55 rfl).trans ((F29 164 55 rfl).trans ((F28 164 55 rfl).trans (f164_55 (h := h) hT))))))))))))) ?_
  refine am_e_iconst (w := 4) n97_78 rfl ?_
  refine am_e_iload_n n97_79 rfl ?_
  refine am_e_imul (w := 0) n97_80 (by decide) ?_
  refine am_e_iload_n n97_81 rfl ?_
  refine am_e_iadd (w := 1) n97_82 (by decide) ?_
  refine am_e_iaload (v := 0) (q := 1) n97_83 rfl (by decide) (by decide) ((F39 193 1 rfl).trans ((F38 193 1 rfl).trans ((F37 193 1 rfl).trans ((F36 193 1 rfl).trans ((F35 193 1 rfl).trans ((F34 193 1 rfl).trans ((F33 193 1 rfl).trans ((F32 193 1 rfl).trans ((F31 193 1 rfl).trans ((F30 193 1 rfl).trans ((F29 193 1 rfl).trans ((F28 193 1 rfl).trans (f193_1 (h := h) hT))))))))))))) ?_
  refine am_e_iastore (q := 5) n97_84 rfl (by decide) (by decide) ?_
  refine am_e_iinc (w := 2) (ls' := [(3, .int 2), (0, .ref 164), (1, .int 1), (2, .int 0)]) n97_85 rfl rfl (by decide) rfl ?_
  refine am_e_goto c97_86 t97_86 ?_
  refine am_e_iload_n n97_34 rfl ?_
  refine am_e_iconst (w := 4) n97_35 rfl ?_
  refine am_e_cmpF n97_36 (am_c_geF (by decide)) ?_
  refine am_e_aload_n n97_37 rfl ?_
  refine am_e_getf (v := .ref 191) n97_38 rfl ((F39 164 53 rfl).trans ((F38 164 53 rfl).trans ((F37 164 53 rfl).trans ((F36 164 53 rfl).trans ((F35 164 53 rfl).trans ((F34 164 53 rfl).trans ((F33 164 53 rfl).trans ((F32 164 53 rfl).trans ((F31 164 53 rfl).trans ((F30 164 53 rfl).trans ((F29 164 53 rfl).trans ((F28 164 53 rfl).trans (f164_53 (h := h) hT))))))))))))) ?_
  refine am_e_iconst (w := 4) n97_39 rfl ?_
  refine am_e_iload_n n97_40 rfl ?_
  refine am_e_imul (w := 4) n97_41 (by decide) ?_
  refine am_e_iload_n n97_42 rfl ?_
  refine am_e_iadd (w := 6) n97_43 (by decide) ?_
  refine am_e_aload_n n97_44 rfl ?_
  refine am_e_getf (v := .ref 191) n97_45 rfl ((F39 164 53 rfl).trans ((F38 164 53 rfl).trans ((F37 164 53 rfl).trans ((F36 164 53 rfl).trans ((F35 164 53 rfl).trans ((F34 164 53 rfl).trans ((F33 164 53 rfl).trans ((F32 164 53 rfl).trans ((F31 164 53 rfl).trans ((F30 164 53 rfl).trans ((F29 164 53 rfl).trans ((F28 164 53 rfl).trans (f164_53 (h := h) hT))))))))))))) ?_
  refine am_e_iconst (w := 4) n97_46 rfl ?_
  refine am_e_iload_n n97_47 rfl ?_
  refine am_e_imul (w := 0) n97_48 (by decide) ?_
  refine am_e_iload_n n97_49 rfl ?_
  refine am_e_iadd (w := 2) n97_50 (by decide) ?_
  refine am_e_iaload (v := 0) (q := 2) n97_51 rfl (by decide) (by decide) ((F39 191 2 rfl).trans ((F38 191 2 rfl).trans ((F37 191 2 rfl).trans ((F36 191 2 rfl).trans ((F35 191 2 rfl).trans ((F34 191 2 rfl).trans ((F33 191 2 rfl).trans ((F32 191 2 rfl).trans ((F31 191 2 rfl).trans ((F30 191 2 rfl).trans ((F29 191 2 rfl).trans ((F28 191 2 rfl).trans (f191_2 (h := h) hT))))))))))))) ?_
  refine am_e_iastore (q := 6) n97_52 rfl (by decide) (by decide) ?_
  refine am_e_aload_n n97_53 rfl ?_
  refine am_e_getf (v := .ref 192) n97_54 rfl ((F39 164 54 rfl).trans ((F38 164 54 rfl).trans ((F37 164 54 rfl).trans ((F36 164 54 rfl).trans ((F35 164 54 rfl).trans ((F34 164 54 rfl).trans ((F33 164 54 rfl).trans ((F32 164 54 rfl).trans ((F31 164 54 rfl).trans ((F30 164 54 rfl).trans ((F29 164 54 rfl).trans ((F28 164 54 rfl).trans (f164_54 (h := h) hT))))))))))))) ?_
  refine am_e_iconst (w := 4) n97_55 rfl ?_
  refine am_e_iload_n n97_56 rfl ?_
  refine am_e_imul (w := 4) n97_57 (by decide) ?_
  refine am_e_iload_n n97_58 rfl ?_
  refine am_e_iadd (w := 6) n97_59 (by decide) ?_
  refine am_e_aload_n n97_60 rfl ?_
  refine am_e_getf (v := .ref 192) n97_61 rfl ((F39 164 54 rfl).trans ((F38 164 54 rfl).trans ((F37 164 54 rfl).trans ((F36 164 54 rfl).trans ((F35 164 54 rfl).trans ((F34 164 54 rfl).trans ((F33 164 54 rfl).trans ((F32 164 54 rfl).trans ((F31 164 54 rfl).trans ((F30 164 54 rfl).trans ((F29 164 54 rfl).trans ((F28 164 54 rfl).trans (f164_54 (h := h) hT))))))))))))) ?_
  refine am_e_iconst (w := 4) n97_62 rfl ?_
  refine am_e_iload_n n97_63 rfl ?_
  refine am_e_imul (w := 0) n97_64 (by decide) ?_
  refine am_e_iload_n n97_65 rfl ?_
  refine am_e_iadd (w := 2) n97_66 (by decide) ?_
  refine am_e_iaload (v := 0) (q := 2) n97_67 rfl (by decide) (by decide) ((F39 192 2 rfl).trans ((F38 192 2 rfl).trans ((F37 192 2 rfl).trans ((F36 192 2 rfl).trans ((F35 192 2 rfl).trans ((F34 192 2 rfl).trans ((F33 192 2 rfl).trans ((F32 192 2 rfl).trans ((F31 192 2 rfl).trans ((F30 192 2 rfl).trans ((F29 192 2 rfl).trans ((F28 192 2 rfl).trans (f192_2 (h := h) hT))))))))))))) ?_
  refine am_e_iastore (q := 6) n97_68 rfl (by decide) (by decide) ?_
  refine am_e_aload_n n97_69 rfl ?_
  refine am_e_getf (v := .ref 193) n97_70 rfl ((F39 164 55 rfl).trans ((F38 164 55 rfl).trans ((F37 164 55 rfl).trans ((F36 164 55 rfl).trans ((F35 164 55 rfl).trans ((F34 164 55 rfl).trans ((F33 164 55 rfl).trans ((F32 164 55 rfl).trans ((F31 164 55 rfl).trans ((F30 164 55 rfl).trans ((F29 164 55 rfl).trans ((F28 164 55 rfl).trans (f164_55 (h := h) hT))))))))))))) ?_
  refine am_e_iconst (w := 4) n97_71 rfl ?_
  refine am_e_iload_n n97_72 rfl ?_
  refine am_e_imul (w := 4) n97_73 (by decide) ?_
  refine am_e_iload_n n97_74 rfl ?_
  refine am_e_iadd (w := 6) n97_75 (by decide) ?_
  refine am_e_aload_n n97_76 rfl ?_
  refine am_e_getf (v := .ref 193) n97_77 rfl ((F39 164 55 rfl).trans ((F38 164 55 rfl).trans ((F37 164 55 rfl).trans ((F36 164 55 rfl).trans ((F35 164 55 rfl).trans ((F34 164 55 rfl).trans ((F33 164 55 rfl).trans ((F32 164 55 rfl).trans ((F31 164 55 rfl).trans ((F30 164 55 rfl).trans ((F29 164 55 rfl).trans ((F28 164 55 rfl).trans (f164_55 (h := h) hT))))))))))))) ?_
  refine am_e_iconst (w := 4) n97_78 rfl ?_
  refine am_e_iload_n n97_79 rfl ?_
  refine am_e_imul (w := 0) n97_80 (by decide) ?_
  refine am_e_iload_n n97_81 rfl ?_
  refine am_e_iadd (w := 2) n97_82 (by decide) ?_
  refine am_e_iaload (v := 0) (q := 2) n97_83 rfl (by decide) (by decide) ((F39 193 2 rfl).trans ((F38 193 2 rfl).trans ((F37 193 2 rfl).trans ((F36 193 2 rfl).trans ((F35 193 2 rfl).trans ((F34 193 2 rfl).trans ((F33 193 2 rfl).trans ((F32 193 2 rfl).trans ((F31 193 2 rfl).trans ((F30 193 2 rfl).trans ((F29 193 2 rfl).trans ((F28 193 2 rfl).trans (f193_2 (h := h) hT))))))))))))) ?_
  refine am_e_iastore (q := 6) n97_84 rfl (by decide) (by decide) ?_
  refine am_e_iinc (w := 3) (ls' := [(3, .int 3), (0, .ref 164), (1, .int 1), (2, .int 0)]) n97_85 rfl rfl (by decide) rfl ?_
  refine am_e_goto c97_86 t97_86 ?_
  refine am_e_iload_n n97_34 rfl ?_
  refine am_e_iconst (w := 4) n97_35 rfl ?_
  refine am_e_cmpF n97_36 (am_c_geF (by decide)) ?_
  refine am_e_aload_n n97_37 rfl ?_
  refine am_e_getf (v := .ref 191) n97_38 rfl ((F39 164 53 rfl).trans ((F38 164 53 rfl).trans ((F37 164 53 rfl).trans ((F36 164 53 rfl).trans ((F35 164 53 rfl).trans ((F34 164 53 rfl).trans ((F33 164 53 rfl).trans ((F32 164 53 rfl).trans ((F31 164 53 rfl).trans ((F30 164 53 rfl).trans ((F29 164 53 rfl).trans ((F28 164 53 rfl).trans (f164_53 (h := h) hT))))))))))))) ?_
  refine am_e_iconst (w := 4) n97_39 rfl ?_
  refine am_e_iload_n n97_40 rfl ?_
  refine am_e_imul (w := 4) n97_41 (by decide) ?_
  refine am_e_iload_n n97_42 rfl ?_
  refine am_e_iadd (w := 7) n97_43 (by decide) ?_
  refine am_e_aload_n n97_44 rfl ?_
  refine am_e_getf (v := .ref 191) n97_45 rfl ((F39 164 53 rfl).trans ((F38 164 53 rfl).trans ((F37 164 53 rfl).trans ((F36 164 53 rfl).trans ((F35 164 53 rfl).trans ((F34 164 53 rfl).trans ((F33 164 53 rfl).trans ((F32 164 53 rfl).trans ((F31 164 53 rfl).trans ((F30 164 53 rfl).trans ((F29 164 53 rfl).trans ((F28 164 53 rfl).trans (f164_53 (h := h) hT))))))))))))) ?_
  refine am_e_iconst (w := 4) n97_46 rfl ?_
  refine am_e_iload_n n97_47 rfl ?_
  refine am_e_imul (w := 0) n97_48 (by decide) ?_
  refine am_e_iload_n n97_49 rfl ?_
  refine am_e_iadd (w := 3) n97_50 (by decide) ?_
  refine am_e_iaload (v := 0) (q := 3) n97_51 rfl (by decide) (by decide) ((F39 191 3 rfl).trans ((F38 191 3 rfl).trans ((F37 191 3 rfl).trans ((F36 191 3 rfl).trans ((F35 191 3 rfl).trans ((F34 191 3 rfl).trans ((F33 191 3 rfl).trans ((F32 191 3 rfl).trans ((F31 191 3 rfl).trans ((F30 191 3 rfl).trans ((F29 191 3 rfl).trans ((F28 191 3 rfl).trans (f191_3 (h := h) hT))))))))))))) ?_
  refine am_e_iastore (q := 7) n97_52 rfl (by decide) (by decide) ?_
  refine am_e_aload_n n97_53 rfl ?_
  refine am_e_getf (v := .ref 192) n97_54 rfl ((F39 164 54 rfl).trans ((F38 164 54 rfl).trans ((F37 164 54 rfl).trans ((F36 164 54 rfl).trans ((F35 164 54 rfl).trans ((F34 164 54 rfl).trans ((F33 164 54 rfl).trans ((F32 164 54 rfl).trans ((F31 164 54 rfl).trans ((F30 164 54 rfl).trans ((F29 164 54 rfl).trans ((F28 164 54 rfl).trans (f164_54 (h := h) hT))))))))))))) ?_
  refine am_e_iconst (w := 4) n97_55 rfl ?_
  refine am_e_iload_n n97_56 rfl ?_
  refine am_e_imul (w := 4) n97_57 (by decide) ?_
  refine am_e_iload_n n97_58 rfl ?_
  refine am_e_iadd (w := 7) n97_59 (by decide) ?_
  refine am_e_aload_n n97_60 rfl ?_
  refine am_e_getf (v := .ref 192) n97_61 rfl ((F39 164 54 rfl).trans ((F38 164 54 rfl).trans ((F37 164 54 rfl).trans ((F36 164 54 rfl).trans ((F35 164 54 rfl).trans ((F34 164 54 rfl).trans ((F33 164 54 rfl).trans ((F32 164 54 rfl).trans ((F31 164 54 rfl).trans ((F30 164 54 rfl).trans ((F29 164 54 rfl).trans ((F28 164 54 rfl).trans (f164_54 (h := h) hT))))))))))))) ?_
  refine am_e_iconst (w := 4) n97_62 rfl ?_
  refine am_e_iload_n n97_63 rfl ?_
  refine am_e_imul (w := 0) n97_64 (by decide) ?_
  refine am_e_iload_n n97_65 rfl ?_
  refine am_e_iadd (w := 3) n97_66 (by decide) ?_
  refine am_e_iaload (v := 0) (q := 3) n97_67 rfl (by decide) (by decide) ((F39 192 3 rfl).trans ((F38 192 3 rfl).trans ((F37 192 3 rfl).trans ((F36 192 3 rfl).trans ((F35 192 3 rfl).trans ((F34 192 3 rfl).trans ((F33 192 3 rfl).trans ((F32 192 3 rfl).trans ((F31 192 3 rfl).trans ((F30 192 3 rfl).trans ((F29 192 3 rfl).trans ((F28 192 3 rfl).trans (f192_3 (h := h) hT))))))))))))) ?_
  refine am_e_iastore (q := 7) n97_68 rfl (by decide) (by decide) ?_
  refine am_e_aload_n n97_69 rfl ?_
  refine am_e_getf (v := .ref 193) n97_70 rfl ((F39 164 55 rfl).trans ((F38 164 55 rfl).trans ((F37 164 55 rfl).trans ((F36 164 55 rfl).trans ((F35 164 55 rfl).trans ((F34 164 55 rfl).trans ((F33 164 55 rfl).trans ((F32 164 55 rfl).trans ((F31 164 55 rfl).trans ((F30 164 55 rfl).trans ((F29 164 55 rfl).trans ((F28 164 55 rfl).trans (f164_55 (h := h) hT))))))))))))) ?_
  refine am_e_iconst (w := 4) n97_71 rfl ?_
  refine am_e_iload_n n97_72 rfl ?_
  refine am_e_imul (w := 4) n97_73 (by decide) ?_
  refine am_e_iload_n n97_74 rfl ?_
  refine am_e_iadd (w := 7) n97_75 (by decide) ?_
  refine am_e_aload_n n97_76 rfl ?_
  refine am_e_getf (v := .ref 193) n97_77 rfl ((F39 164 55 rfl).trans ((F38 164 55 rfl).trans ((F37 164 55 rfl).trans ((F36 164 55 rfl).trans ((F35 164 55 rfl).trans ((F34 164 55 rfl).trans ((F33 164 55 rfl).trans ((F32 164 55 rfl).trans ((F31 164 55 rfl).trans ((F30 164 55 rfl).trans ((F29 164 55 rfl).trans ((F28 164 55 rfl).trans (f164_55 (h := h) hT))))))))))))) ?_
  refine am_e_iconst (w := 4) n97_78 rfl ?_
  refine am_e_iload_n n97_79 rfl ?_
  refine am_e_imul (w := 0) n97_80 (by decide) ?_
  refine am_e_iload_n n97_81 rfl ?_
  refine am_e_iadd (w := 3) n97_82 (by decide) ?_
  refine am_e_iaload (v := 0) (q := 3) n97_83 rfl (by decide) (by decide) ((F39 193 3 rfl).trans ((F38 193 3 rfl).trans ((F37 193 3 rfl).trans ((F36 193 3 rfl).trans ((F35 193 3 rfl).trans ((F34 193 3 rfl).trans ((F33 193 3 rfl).trans ((F32 193 3 rfl).trans ((F31 193 3 rfl).trans ((F30 193 3 rfl).trans ((F29 193 3 rfl).trans ((F28 193 3 rfl).trans (f193_3 (h := h) hT))))))))))))) ?_
  refine am_e_iastore (q := 7) n97_84 rfl (by decide) (by decide) ?_
  refine am_e_iinc (w := 4) (ls' := [(3, .int 4), (0, .ref 164), (1, .int 1), (2, .int 0)]) n97_85 rfl rfl (by decide) rfl ?_
  refine am_e_goto c97_86 t97_86 ?_
  refine am_e_iload_n n97_34 rfl ?_
  refine am_e_iconst (w := 4) n97_35 rfl ?_
  refine am_e_cmpT n97_36 (am_c_geT (by decide)) t97_36 ?_
  refine am_e_vret c97_87 rfl rfl ?_
  refine am_e_iconst (w := 0) n127_35 rfl ?_
  refine am_e_istore (ls' := [(8, .int 0), (7, .int 2), (6, .int 2), (0, .ref 164), (2, .int (nI n)), (3, .int (nI 0)), (4, .long 0)]) n127_36 rfl rfl ?_
  refine am_Ek_ls (ls' := [(0, .ref 164), (2, .int (nI n)), (3, .int (nI 0)), (4, .long 0), (6, .int 2), (7, .int 2), (8, .int (nI 0))]) ⟨rfl, rfl, rfl, rfl, rfl, rfl, rfl, trivial⟩ ?_
  refine am_cm_e (n := n) (b := 0) (s := 0) (t := 2) (i7 := 2) (dr := dr39) (by omega) (by omega) ⟨((F39 164 23 rfl).trans ((F38 164 23 rfl).trans ((F37 164 23 rfl).trans ((F36 164 23 rfl).trans ((F35 164 23 rfl).trans ((F34 164 23 rfl).trans ((F33 164 23 rfl).trans ((F32 164 23 rfl).trans ((F31 164 23 rfl).trans ((F30 164 23 rfl).trans ((F29 164 23 rfl).trans ((F28 164 23 rfl).trans (f164_23 (h := h) hT))))))))))))), ((F39 168 4 rfl).trans ((F38 168 4 rfl).trans ((F37 168 4 rfl).trans ((F36 168 4 rfl).trans ((F35 168 4 rfl).trans ((F34 168 4 rfl).trans ((F33 168 4 rfl).trans ((F32 168 4 rfl).trans ((F31 168 4 rfl).trans ((F30 168 4 rfl).trans ((F29 168 4 rfl).trans ((F28 168 4 rfl).trans (f168_4 (h := h) hT))))))))))))), ((F39 164 50 rfl).trans ((F38 164 50 rfl).trans ((F37 164 50 rfl).trans ((F36 164 50 rfl).trans ((F35 164 50 rfl).trans ((F34 164 50 rfl).trans ((F33 164 50 rfl).trans ((F32 164 50 rfl).trans ((F31 164 50 rfl).trans ((F30 164 50 rfl).trans ((F29 164 50 rfl).trans ((F28 164 50 rfl).trans (f164_50 (h := h) hT))))))))))))), ((F39 164 61 rfl).trans ((F38 164 61 rfl).trans ((F37 164 61 rfl).trans ((F36 164 61 rfl).trans ((F35 164 61 rfl).trans ((F34 164 61 rfl).trans ((F33 164 61 rfl).trans ((F32 164 61 rfl).trans ((F31 164 61 rfl).trans ((F30 164 61 rfl).trans ((F29 164 61 rfl).trans ((F28 164 61 rfl).trans (f164_61 (h := h) hT))))))))))))), ((F39 164 47 rfl).trans ((F38 164 47 rfl).trans ((F37 164 47 rfl).trans ((F36 164 47 rfl).trans ((F35 164 47 rfl).trans ((F34 164 47 rfl).trans ((F33 164 47 rfl).trans ((F32 164 47 rfl).trans ((F31 164 47 rfl).trans ((F30 164 47 rfl).trans ((F29 164 47 rfl).trans ((F28 164 47 rfl).trans (f164_47 (h := h) hT))))))))))))), ((F39 168 0 rfl).trans ((F38 168 0 rfl).trans ((F37 168 0 rfl).trans ((F36 168 0 rfl).trans ((F35 168 0 rfl).trans ((F34 168 0 rfl).trans ((F33 168 0 rfl).trans ((F32 168 0 rfl).trans ((F31 168 0 rfl).trans ((F30 168 0 rfl).trans ((F29 168 0 rfl).trans ((F28 168 0 rfl).trans (f168_0 (h := h) hT))))))))))))), ((F39 164 51 rfl).trans ((F38 164 51 rfl).trans ((F37 164 51 rfl).trans ((F36 164 51 rfl).trans ((F35 164 51 rfl).trans ((F34 164 51 rfl).trans ((F33 164 51 rfl).trans ((F32 164 51 rfl).trans ((F31 164 51 rfl).trans ((F30 164 51 rfl).trans ((F29 164 51 rfl).trans ((F28 164 51 rfl).trans (f164_51 (h := h) hT))))))))))))), ((F39 164 33 rfl).trans ((F38 164 33 rfl).trans ((F37 164 33 rfl).trans ((F36 164 33 rfl).trans ((F35 164 33 rfl).trans ((F34 164 33 rfl).trans ((F33 164 33 rfl).trans ((F32 164 33 rfl).trans ((F31 164 33 rfl).trans ((F30 164 33 rfl).trans ((F29 164 33 rfl).trans ((F28 164 33 rfl).trans (f164_33 (h := h) hT))))))))))))), ((F39 178 2 rfl).trans ((F38 178 2 rfl).trans ((F37 178 2 rfl).trans ((F36 178 2 rfl).trans ((F35 178 2 rfl).trans ((F34 178 2 rfl).trans ((F33 178 2 rfl).trans ((F32 178 2 rfl).trans ((F31 178 2 rfl).trans ((F30 178 2 rfl).trans ((F29 178 2 rfl).trans ((F28 178 2 rfl).trans (f178_2 (h := h) hT))))))))))))), ((F39 178 0 rfl).trans ((F38 178 0 rfl).trans ((F37 178 0 rfl).trans ((F36 178 0 rfl).trans ((F35 178 0 rfl).trans ((F34 178 0 rfl).trans ((F33 178 0 rfl).trans ((F32 178 0 rfl).trans ((F31 178 0 rfl).trans ((F30 178 0 rfl).trans ((F29 178 0 rfl).trans ((F28 178 0 rfl).trans (f178_0 (h := h) hT))))))))))))), ((F39 164 62 rfl).trans ((F38 164 62 rfl).trans ((F37 164 62 rfl).trans ((F36 164 62 rfl).trans ((F35 164 62 rfl).trans ((F34 164 62 rfl).trans ((F33 164 62 rfl).trans ((F32 164 62 rfl).trans ((F31 164 62 rfl).trans ((F30 164 62 rfl).trans ((F29 164 62 rfl).trans ((F28 164 62 rfl).trans (f164_62 (h := h) hT))))))))))))), ((F39 164 58 rfl).trans ((F38 164 58 rfl).trans ((F37 164 58 rfl).trans ((F36 164 58 rfl).trans ((F35 164 58 rfl).trans ((F34 164 58 rfl).trans ((F33 164 58 rfl).trans ((F32 164 58 rfl).trans ((F31 164 58 rfl).trans ((F30 164 58 rfl).trans ((F29 164 58 rfl).trans ((F28 164 58 rfl).trans (f164_58 (h := h) hT))))))))))))), ((F39 164 60 rfl).trans ((F38 164 60 rfl).trans ((F37 164 60 rfl).trans ((F36 164 60 rfl).trans ((F35 164 60 rfl).trans ((F34 164 60 rfl).trans ((F33 164 60 rfl).trans ((F32 164 60 rfl).trans ((F31 164 60 rfl).trans ((F30 164 60 rfl).trans ((F29 164 60 rfl).trans ((F28 164 60 rfl).trans (f164_60 (h := h) hT))))))))))))), trivial⟩ rfl rfl qc39 ?_
  intro h40 dr40 F40 qa40 qb40 qc40
  refine am_e_iload n127_59 rfl ?_
  refine am_e_aload_n n127_60 rfl ?_
  refine am_e_getf (v := .ref 188) n127_61 rfl ((F40 164 50 rfl).trans ((F39 164 50 rfl).trans ((F38 164 50 rfl).trans ((F37 164 50 rfl).trans ((F36 164 50 rfl).trans ((F35 164 50 rfl).trans ((F34 164 50 rfl).trans ((F33 164 50 rfl).trans ((F32 164 50 rfl).trans ((F31 164 50 rfl).trans ((F30 164 50 rfl).trans ((F29 164 50 rfl).trans ((F28 164 50 rfl).trans (f164_50 (h := h) hT)))))))))))))) ?_
  refine am_e_iconst (w := 1) n127_62 rfl ?_
  refine am_e_iaload (v := 0) (q := 1) n127_63 rfl (by decide) (by decide) qa40 ?_
  refine am_e_iload_n n127_64 rfl ?_
  refine am_e_cmpF n127_65 (am_c_ltF (by decide)) ?_
  refine am_e_iconst (w := 1) n127_66 rfl ?_
  refine am_e_goto c127_67 t127_67 ?_
  refine am_e_iadd (w := 3) n127_69 (by decide) ?_
  refine am_e_istore (ls' := [(6, .int 3), (0, .ref 164), (2, .int (nI n)), (3, .int (nI 0)), (4, .long 0), (7, .int 2), (8, .int (nI n))]) n127_70 rfl rfl ?_
  refine am_e_iinc (w := 3) (ls' := [(7, .int 3), (6, .int 3), (0, .ref 164), (2, .int (nI n)), (3, .int (nI 0)), (4, .long 0), (8, .int (nI n))]) n127_71 rfl rfl (by decide) rfl ?_
  refine am_e_goto c127_72 t127_72 ?_
  refine am_e_iload n127_28 rfl ?_
  refine am_e_bipush (w := 10) n127_29 (by decide) ?_
  refine am_e_cmpF n127_30 (am_c_geF (by decide)) ?_
  refine am_e_aload_n n127_31 rfl ?_
  refine am_e_iconst (w := 1) n127_32 rfl ?_
  refine am_e_iconst (w := 0) n127_33 rfl ?_
  refine am_e_callV (L := [(0, .ref 164), (1, .int 1), (2, .int 0)]) n127_34 rfl rfl rfl rfl rfl rfl rfl rfl ?_
  refine am_e_aload_n n97_0 rfl ?_
  refine am_e_getf (v := .ref 188) n97_1 rfl ((F40 164 50 rfl).trans ((F39 164 50 rfl).trans ((F38 164 50 rfl).trans ((F37 164 50 rfl).trans ((F36 164 50 rfl).trans ((F35 164 50 rfl).trans ((F34 164 50 rfl).trans ((F33 164 50 rfl).trans ((F32 164 50 rfl).trans ((F31 164 50 rfl).trans ((F30 164 50 rfl).trans ((F29 164 50 rfl).trans ((F28 164 50 rfl).trans (f164_50 (h := h) hT)))))))))))))) ?_
  refine am_e_iload_n n97_2 rfl ?_
  refine am_e_aload_n n97_3 rfl ?_
  refine am_e_getf (v := .ref 188) n97_4 rfl ((F40 164 50 rfl).trans ((F39 164 50 rfl).trans ((F38 164 50 rfl).trans ((F37 164 50 rfl).trans ((F36 164 50 rfl).trans ((F35 164 50 rfl).trans ((F34 164 50 rfl).trans ((F33 164 50 rfl).trans ((F32 164 50 rfl).trans ((F31 164 50 rfl).trans ((F30 164 50 rfl).trans ((F29 164 50 rfl).trans ((F28 164 50 rfl).trans (f164_50 (h := h) hT)))))))))))))) ?_
  refine am_e_iload_n n97_5 rfl ?_
  refine am_e_iaload (v := 0) (q := 0) n97_6 rfl (by decide) (by decide) ((F40 188 0 rfl).trans ((F39 188 0 rfl).trans ((F38 188 0 rfl).trans ((F37 188 0 rfl).trans ((F36 188 0 rfl).trans ((F35 188 0 rfl).trans ((F34 188 0 rfl).trans ((F33 188 0 rfl).trans ((F32 188 0 rfl).trans ((F31 188 0 rfl).trans ((F30 188 0 rfl).trans ((F29 188 0 rfl).trans ((F28 188 0 rfl).trans (f188_0 (h := h) hT)))))))))))))) ?_
  refine am_e_iastore (q := 1) n97_7 rfl (by decide) (by decide) ?_
  refine am_e_aload_n n97_8 rfl ?_
  refine am_e_getf (v := .ref 189) n97_9 rfl ((F40 164 51 rfl).trans ((F39 164 51 rfl).trans ((F38 164 51 rfl).trans ((F37 164 51 rfl).trans ((F36 164 51 rfl).trans ((F35 164 51 rfl).trans ((F34 164 51 rfl).trans ((F33 164 51 rfl).trans ((F32 164 51 rfl).trans ((F31 164 51 rfl).trans ((F30 164 51 rfl).trans ((F29 164 51 rfl).trans ((F28 164 51 rfl).trans (f164_51 (h := h) hT)))))))))))))) ?_
  refine am_e_iload_n n97_10 rfl ?_
  refine am_e_aload_n n97_11 rfl ?_
  refine am_e_getf (v := .ref 189) n97_12 rfl ((F40 164 51 rfl).trans ((F39 164 51 rfl).trans ((F38 164 51 rfl).trans ((F37 164 51 rfl).trans ((F36 164 51 rfl).trans ((F35 164 51 rfl).trans ((F34 164 51 rfl).trans ((F33 164 51 rfl).trans ((F32 164 51 rfl).trans ((F31 164 51 rfl).trans ((F30 164 51 rfl).trans ((F29 164 51 rfl).trans ((F28 164 51 rfl).trans (f164_51 (h := h) hT)))))))))))))) ?_
  refine am_e_iload_n n97_13 rfl ?_
  refine am_e_iaload (v := 0) (q := 0) n97_14 rfl (by decide) (by decide) ((F40 189 0 rfl).trans ((F39 189 0 rfl).trans ((F38 189 0 rfl).trans ((F37 189 0 rfl).trans ((F36 189 0 rfl).trans ((F35 189 0 rfl).trans ((F34 189 0 rfl).trans ((F33 189 0 rfl).trans ((F32 189 0 rfl).trans ((F31 189 0 rfl).trans ((F30 189 0 rfl).trans ((F29 189 0 rfl).trans ((F28 189 0 rfl).trans (f189_0 (h := h) hT)))))))))))))) ?_
  refine am_e_iastore (q := 1) n97_15 rfl (by decide) (by decide) ?_
  refine am_e_aload_n n97_16 rfl ?_
  refine am_e_getf (v := .ref 190) n97_17 rfl ((F40 164 52 rfl).trans ((F39 164 52 rfl).trans ((F38 164 52 rfl).trans ((F37 164 52 rfl).trans ((F36 164 52 rfl).trans ((F35 164 52 rfl).trans ((F34 164 52 rfl).trans ((F33 164 52 rfl).trans ((F32 164 52 rfl).trans ((F31 164 52 rfl).trans ((F30 164 52 rfl).trans ((F29 164 52 rfl).trans ((F28 164 52 rfl).trans (f164_52 (h := h) hT)))))))))))))) ?_
  refine am_e_iload_n n97_18 rfl ?_
  refine am_e_aload_n n97_19 rfl ?_
  refine am_e_getf (v := .ref 190) n97_20 rfl ((F40 164 52 rfl).trans ((F39 164 52 rfl).trans ((F38 164 52 rfl).trans ((F37 164 52 rfl).trans ((F36 164 52 rfl).trans ((F35 164 52 rfl).trans ((F34 164 52 rfl).trans ((F33 164 52 rfl).trans ((F32 164 52 rfl).trans ((F31 164 52 rfl).trans ((F30 164 52 rfl).trans ((F29 164 52 rfl).trans ((F28 164 52 rfl).trans (f164_52 (h := h) hT)))))))))))))) ?_
  refine am_e_iload_n n97_21 rfl ?_
  refine am_e_iaload (v := (-1)) (q := 0) n97_22 rfl (by decide) (by decide) ((F40 190 0 rfl).trans ((F39 190 0 rfl).trans ((F38 190 0 rfl).trans ((F37 190 0 rfl).trans ((F36 190 0 rfl).trans ((F35 190 0 rfl).trans ((F34 190 0 rfl).trans ((F33 190 0 rfl).trans ((F32 190 0 rfl).trans ((F31 190 0 rfl).trans ((F30 190 0 rfl).trans ((F29 190 0 rfl).trans ((F28 190 0 rfl).trans (f190_0 (h := h) hT)))))))))))))) ?_
  refine am_e_iastore (q := 1) n97_23 rfl (by decide) (by decide) ?_
  refine am_e_aload_n n97_24 rfl ?_
  refine am_e_getf (v := .ref 194) n97_25 rfl ((F40 164 56 rfl).trans ((F39 164 56 rfl).trans ((F38 164 56 rfl).trans ((F37 164 56 rfl).trans ((F36 164 56 rfl).trans ((F35 164 56 rfl).trans ((F34 164 56 rfl).trans ((F33 164 56 rfl).trans ((F32 164 56 rfl).trans ((F31 164 56 rfl).trans ((F30 164 56 rfl).trans ((F29 164 56 rfl).trans ((F28 164 56 rfl).trans (f164_56 (h := h) hT)))))))))))))) ?_
  refine am_e_iload_n n97_26 rfl ?_
  refine am_e_aload_n n97_27 rfl ?_
  refine am_e_getf (v := .ref 194) n97_28 rfl ((F40 164 56 rfl).trans ((F39 164 56 rfl).trans ((F38 164 56 rfl).trans ((F37 164 56 rfl).trans ((F36 164 56 rfl).trans ((F35 164 56 rfl).trans ((F34 164 56 rfl).trans ((F33 164 56 rfl).trans ((F32 164 56 rfl).trans ((F31 164 56 rfl).trans ((F30 164 56 rfl).trans ((F29 164 56 rfl).trans ((F28 164 56 rfl).trans (f164_56 (h := h) hT)))))))))))))) ?_
  refine am_e_iload_n n97_29 rfl ?_
  refine am_e_iaload (v := 0) (q := 0) n97_30 rfl (by decide) (by decide) ((F40 194 0 rfl).trans ((F39 194 0 rfl).trans ((F38 194 0 rfl).trans ((F37 194 0 rfl).trans ((F36 194 0 rfl).trans ((F35 194 0 rfl).trans ((F34 194 0 rfl).trans ((F33 194 0 rfl).trans ((F32 194 0 rfl).trans ((F31 194 0 rfl).trans ((F30 194 0 rfl).trans ((F29 194 0 rfl).trans ((F28 194 0 rfl).trans (f194_0 (h := h) hT)))))))))))))) ?_
  refine am_e_iastore (q := 1) n97_31 rfl (by decide) (by decide) ?_
  refine am_e_iconst (w := 0) n97_32 rfl ?_
  refine am_e_istore_n (ls' := [(3, .int 0), (0, .ref 164), (1, .int 1), (2, .int 0)]) n97_33 rfl rfl ?_
  refine am_e_iload_n n97_34 rfl ?_
  refine am_e_iconst (w := 4) n97_35 rfl ?_
  refine am_e_cmpF n97_36 (am_c_geF (by decide)) ?_
  refine am_e_aload_n n97_37 rfl ?_
  refine am_e_getf (v := .ref 191) n97_38 rfl ((F40 164 53 rfl).trans ((F39 164 53 rfl).trans ((F38 164 53 rfl).trans ((F37 164 53 rfl).trans ((F36 164 53 rfl).trans ((F35 164 53 rfl).trans ((F34 164 53 rfl).trans ((F33 164 53 rfl).trans ((F32 164 53 rfl).trans ((F31 164 53 rfl).trans ((F30 164 53 rfl).trans ((F29 164 53 rfl).trans ((F28 164 53 rfl).trans (f164_53 (h := h) hT)))))))))))))) ?_
  refine am_e_iconst (w := 4) n97_39 rfl ?_
  refine am_e_iload_n n97_40 rfl ?_
  refine am_e_imul (w := 4) n97_41 (by decide) ?_
  refine am_e_iload_n n97_42 rfl ?_
  refine am_e_iadd (w := 4) n97_43 (by decide) ?_
  refine am_e_aload_n n97_44 rfl ?_
  refine am_e_getf (v := .ref 191) n97_45 rfl ((F40 164 53 rfl).trans ((F39 164 53 rfl).trans ((F38 164 53 rfl).trans ((F37 164 53 rfl).trans ((F36 164 53 rfl).trans ((F35 164 53 rfl).trans ((F34 164 53 rfl).trans ((F33 164 53 rfl).trans ((F32 164 53 rfl).trans ((F31 164 53 rfl).trans ((F30 164 53 rfl).trans ((F29 164 53 rfl).trans ((F28 164 53 rfl).trans (f164_53 (h := h) hT)))))))))))))) ?_
  refine am_e_iconst (w := 4) n97_46 rfl ?_
  refine am_e_iload_n n97_47 rfl ?_
  refine am_e_imul (w := 0) n97_48 (by decide) ?_
  refine am_e_iload_n n97_49 rfl ?_
  refine am_e_iadd (w := 0) n97_50 (by decide) ?_
  refine am_e_iaload (v := 0) (q := 0) n97_51 rfl (by decide) (by decide) ((F40 191 0 rfl).trans ((F39 191 0 rfl).trans ((F38 191 0 rfl).trans ((F37 191 0 rfl).trans ((F36 191 0 rfl).trans ((F35 191 0 rfl).trans ((F34 191 0 rfl).trans ((F33 191 0 rfl).trans ((F32 191 0 rfl).trans ((F31 191 0 rfl).trans ((F30 191 0 rfl).trans ((F29 191 0 rfl).trans ((F28 191 0 rfl).trans (f191_0 (h := h) hT)))))))))))))) ?_
  refine am_e_iastore (q := 4) n97_52 rfl (by decide) (by decide) ?_
  refine am_e_aload_n n97_53 rfl ?_
  refine am_e_getf (v := .ref 192) n97_54 rfl ((F40 164 54 rfl).trans ((F39 164 54 rfl).trans ((F38 164 54 rfl).trans ((F37 164 54 rfl).trans ((F36 164 54 rfl).trans ((F35 164 54 rfl).trans ((F34 164 54 rfl).trans ((F33 164 54 rfl).trans ((F32 164 54 rfl).trans ((F31 164 54 rfl).trans ((F30 164 54 rfl).trans ((F29 164 54 rfl).trans ((F28 164 54 rfl).trans (f164_54 (h := h) hT)))))))))))))) ?_
  refine am_e_iconst (w := 4) n97_55 rfl ?_
  refine am_e_iload_n n97_56 rfl ?_
  refine am_e_imul (w := 4) n97_57 (by decide) ?_
  refine am_e_iload_n n97_58 rfl ?_
  refine am_e_iadd (w := 4) n97_59 (by decide) ?_
  refine am_e_aload_n n97_60 rfl ?_
  refine am_e_getf (v := .ref 192) n97_61 rfl ((F40 164 54 rfl).trans ((F39 164 54 rfl).trans ((F38 164 54 rfl).trans ((F37 164 54 rfl).trans ((F36 164 54 rfl).trans ((F35 164 54 rfl).trans ((F34 164 54 rfl).trans ((F33 164 54 rfl).trans ((F32 164 54 rfl).trans ((F31 164 54 rfl).trans ((F30 164 54 rfl).trans ((F29 164 54 rfl).trans ((F28 164 54 rfl).trans (f164_54 (h := h) hT)))))))))))))) ?_
  refine am_e_iconst (w := 4) n97_62 rfl ?_
  refine am_e_iload_n n97_63 rfl ?_
  refine am_e_imul (w := 0) n97_64 (by decide) ?_
  refine am_e_iload_n n97_65 rfl ?_
  refine am_e_iadd (w := 0) n97_66 (by decide) ?_
  refine am_e_iaload (v := 0) (q := 0) n97_67 rfl (by decide) (by decide) ((F40 192 0 rfl).trans ((F39 192 0 rfl).trans ((F38 192 0 rfl).trans ((F37 192 0 rfl).trans ((F36 192 0 rfl).trans ((F35 192 0 rfl).trans ((F34 192 0 rfl).trans ((F33 192 0 rfl).trans ((F32 192 0 rfl).trans ((F31 192 0 rfl).trans ((F30 192 0 rfl).trans ((F29 192 0 rfl).trans ((F28 192 0 rfl).trans (f192_0 (h := h) hT)))))))))))))) ?_
  refine am_e_iastore (q := 4) n97_68 rfl (by decide) (by decide) ?_
  refine am_e_aload_n n97_69 rfl ?_
  refine am_e_getf (v := .ref 193) n97_70 rfl ((F40 164 55 rfl).trans ((F39 164 55 rfl).trans ((F38 164 55 rfl).trans ((F37 164 55 rfl).trans ((F36 164 55 rfl).trans ((F35 164 55 rfl).trans ((F34 164 55 rfl).trans ((F33 164 55 rfl).trans ((F32 164 55 rfl).trans ((F31 164 55 rfl).trans ((F30 164 55 rfl).trans ((F29 164 55 rfl).trans ((F28 164 55 rfl).trans (f164_55 (h := h) hT)))))))))))))) ?_
  refine am_e_iconst (w := 4) n97_71 rfl ?_
  refine am_e_iload_n n97_72 rfl ?_
  refine am_e_imul (w := 4) n97_73 (by decide) ?_
  refine am_e_iload_n n97_74 rfl ?_
  refine am_e_iadd (w := 4) n97_75 (by decide) ?_
  refine am_e_aload_n n97_76 rfl ?_
  refine am_e_getf (v := .ref 193) n97_77 rfl ((F40 164 55 rfl).trans ((F39 164 55 rfl).trans ((F38 164 55 rfl).trans ((F37 164 55 rfl).trans ((F36 164 55 rfl).trans ((F35 164 55 rfl).trans ((F34 164 55 rfl).trans ((F33 164 55 rfl).trans ((F32 164 55 rfl).trans ((F31 164 55 rfl).trans ((F30 164 55 rfl).trans ((F29 164 55 rfl).trans ((F28 164 55 rfl).trans (f164_55 (h := h) hT)))))))))))))) ?_
  refine am_e_iconst (w := 4) n97_78 rfl ?_
  refine am_e_iload_n n97_79 rfl ?_
  refine am_e_imul (w := 0) n97_80 (by decide) ?_
  refine am_e_iload_n n97_81 rfl ?_
  refine am_e_iadd (w := 0) n97_82 (by decide) ?_
  refine am_e_iaload (v := 0) (q := 0) n97_83 rfl (by decide) (by decide) ((F40 193 0 rfl).trans ((F39 193 0 rfl).trans ((F38 193 0 rfl).trans ((F37 193 0 rfl).trans ((F36 193 0 rfl).trans ((F35 193 0 rfl).trans ((F34 193 0 rfl).trans ((F33 193 0 rfl).trans ((F32 193 0 rfl).trans ((F31 193 0 rfl).trans ((F30 193 0 rfl).trans ((F29 193 0 rfl).trans ((F28 193 0 rfl).trans (f193_0 (h := h) hT)))))))))))))) ?_
  refine am_e_iastore (q := 4) n97_84 rfl (by decide) (by decide) ?_
  refine am_e_iinc (w := 1) (ls' := [(3, .int 1), (0, .ref 164), (1, .int 1), (2, .int 0)]) n97_85 rfl rfl (by decide) rfl ?_
  refine am_e_goto c97_86 t97_86 ?_
  refine am_e_iload_n n97_34 rfl ?_
  refine am_e_iconst (w := 4) n97_35 rfl ?_
  refine am_e_cmpF n97_36 (am_c_geF (by decide)) ?_
  refine am_e_aload_n n97_37 rfl ?_
  refine am_e_getf (v := .ref 191) n97_38 rfl ((F40 164 53 rfl).trans ((F39 164 53 rfl).trans ((F38 164 53 rfl).trans ((F37 164 53 rfl).trans ((F36 164 53 rfl).trans ((F35 164 53 rfl).trans ((F34 164 53 rfl).trans ((F33 164 53 rfl).trans ((F32 164 53 rfl).trans ((F31 164 53 rfl).trans ((F30 164 53 rfl).trans ((F29 164 53 rfl).trans ((F28 164 53 rfl).trans (f164_53 (h := h) hT)))))))))))))) ?_
  refine am_e_iconst (w := 4) n97_39 rfl ?_
  refine am_e_iload_n n97_40 rfl ?_
  refine am_e_imul (w := 4) n97_41 (by decide) ?_
  refine am_e_iload_n n97_42 rfl ?_
  refine am_e_iadd (w := 5) n97_43 (by decide) ?_
  refine am_e_aload_n n97_44 rfl ?_
  refine am_e_getf (v := .ref 191) n97_45 rfl ((F40 164 53 rfl).trans ((F39 164 53 rfl).trans ((F38 164 53 rfl).trans ((F37 164 53 rfl).trans ((F36 164 53 rfl).trans ((F35 164 53 rfl).trans ((F34 164 53 rfl).trans ((F33 164 53 rfl).trans ((F32 164 53 rfl).trans ((F31 164 53 rfl).trans ((F30 164 53 rfl).trans ((F29 164 53 rfl).trans ((F28 164 53 rfl).trans (f164_53 (h := h) hT)))))))))))))) ?_
  refine am_e_iconst (w := 4) n97_46 rfl ?_
  refine am_e_iload_n n97_47 rfl ?_
  refine am_e_imul (w := 0) n97_48 (by decide) ?_
  refine am_e_iload_n n97_49 rfl ?_
  refine am_e_iadd (w := 1) n97_50 (by decide) ?_
  refine am_e_iaload (v := 0) (q := 1) n97_51 rfl (by decide) (by decide) ((F40 191 1 rfl).trans ((F39 191 1 rfl).trans ((F38 191 1 rfl).trans ((F37 191 1 rfl).trans ((F36 191 1 rfl).trans ((F35 191 1 rfl).trans ((F34 191 1 rfl).trans ((F33 191 1 rfl).trans ((F32 191 1 rfl).trans ((F31 191 1 rfl).trans ((F30 191 1 rfl).trans ((F29 191 1 rfl).trans ((F28 191 1 rfl).trans (f191_1 (h := h) hT)))))))))))))) ?_
  refine am_e_iastore (q := 5) n97_52 rfl (by decide) (by decide) ?_
  refine am_e_aload_n n97_53 rfl ?_
  refine am_e_getf (v := .ref 192) n97_54 rfl ((F40 164 54 rfl).trans ((F39 164 54 rfl).trans ((F38 164 54 rfl).trans ((F37 164 54 rfl).trans ((F36 164 54 rfl).trans ((F35 164 54 rfl).trans ((F34 164 54 rfl).trans ((F33 164 54 rfl).trans ((F32 164 54 rfl).trans ((F31 164 54 rfl).trans ((F30 164 54 rfl).trans ((F29 164 54 rfl).trans ((F28 164 54 rfl).trans (f164_54 (h := h) hT)))))))))))))) ?_
  refine am_e_iconst (w := 4) n97_55 rfl ?_
  refine am_e_iload_n n97_56 rfl ?_
  refine am_e_imul (w := 4) n97_57 (by decide) ?_
  refine am_e_iload_n n97_58 rfl ?_
  refine am_e_iadd (w := 5) n97_59 (by decide) ?_
  refine am_e_aload_n n97_60 rfl ?_
  refine am_e_getf (v := .ref 192) n97_61 rfl ((F40 164 54 rfl).trans ((F39 164 54 rfl).trans ((F38 164 54 rfl).trans ((F37 164 54 rfl).trans ((F36 164 54 rfl).trans ((F35 164 54 rfl).trans ((F34 164 54 rfl).trans ((F33 164 54 rfl).trans ((F32 164 54 rfl).trans ((F31 164 54 rfl).trans ((F30 164 54 rfl).trans ((F29 164 54 rfl).trans ((F28 164 54 rfl).trans (f164_54 (h := h) hT)))))))))))))) ?_
  refine am_e_iconst (w := 4) n97_62 rfl ?_
  refine am_e_iload_n n97_63 rfl ?_
  refine am_e_imul (w := 0) n97_64 (by decide) ?_
  refine am_e_iload_n n97_65 rfl ?_
  refine am_e_iadd (w := 1) n97_66 (by decide) ?_
  refine am_e_iaload (v := 0) (q := 1) n97_67 rfl (by decide) (by decide) ((F40 192 1 rfl).trans ((F39 192 1 rfl).trans ((F38 192 1 rfl).trans ((F37 192 1 rfl).trans ((F36 192 1 rfl).trans ((F35 192 1 rfl).trans ((F34 192 1 rfl).trans ((F33 192 1 rfl).trans ((F32 192 1 rfl).trans ((F31 192 1 rfl).trans ((F30 192 1 rfl).trans ((F29 192 1 rfl).trans ((F28 192 1 rfl).trans (f192_1 (h := h) hT)))))))))))))) ?_
  refine am_e_iastore (q := 5) n97_68 rfl (by decide) (by decide) ?_
  refine am_e_aload_n n97_69 rfl ?_
  refine am_e_getf (v := .ref 193) n97_70 rfl ((F40 164 55 rfl).trans ((F39 164 55 rfl).trans ((F38 164 55 rfl).trans ((F37 164 55 rfl).trans ((F36 164 55 rfl).trans ((F35 164 55 rfl).trans ((F34 164 55 rfl).trans ((F33 164 55 rfl).trans ((F32 164 55 rfl).trans ((F31 164 55 rfl).trans ((F30 164 55 rfl).trans ((F29 164 55 rfl).trans ((F28 164 55 rfl).trans (f164_55 (h := h) hT)))))))))))))) ?_
  refine am_e_iconst (w := 4) n97_71 rfl ?_
  refine am_e_iload_n n97_72 rfl ?_
  refine am_e_imul (w := 4) n97_73 (by decide) ?_
  refine am_e_iload_n n97_74 rfl ?_
  refine am_e_iadd (w := 5) n97_75 (by decide) ?_
  refine am_e_aload_n n97_76 rfl ?_
  refine am_e_getf (v := .ref 193) n97_77 rfl ((F40 164 55 rfl).trans ((F39 164 55 rfl).trans ((F38 164 55 rfl).trans ((F37 164 55 rfl).trans ((F36 164 55 rfl).trans ((F35 164 55 rfl).trans ((F34 164 55 rfl).trans ((F33 164 55 rfl).trans ((F32 164 55 rfl).trans ((F31 164 55 rfl).trans ((F30 164 55 rfl).trans ((F29 164 55 rfl).trans ((F28 164 55 rfl).trans (f164_55 (h := h) hT)))))))))))))) ?_
  refine am_e_iconst (w := 4) n97_78 rfl ?_
  refine am_e_iload_n n97_79 rfl ?_
  refine am_e_imul (w := 0) n97_80 (by decide) ?_
  refine am_e_iload_n n97_81 rfl ?_
  refine am_e_iadd (w := 1) n97_82 (by decide) ?_
  refine am_e_iaload (v := 0) (q := 1) n97_83 rfl (by decide) (by decide) ((F40 193 1 rfl).trans ((F39 193 1 rfl).trans ((F38 193 1 rfl).trans ((F37 193 1 rfl).trans ((F36 193 1 rfl).trans ((F35 193 1 rfl).trans ((F34 193 1 rfl).trans ((F33 193 1 rfl).trans ((F32 193 1 rfl).trans ((F31 193 1 rfl).trans ((F30 193 1 rfl).trans ((F29 193 1 rfl).trans ((F28 193 1 rfl).trans (f193_1 (h := h) hT)))))))))))))) ?_
  refine am_e_iastore (q := 5) n97_84 rfl (by decide) (by decide) ?_
  refine am_e_iinc (w := 2) (ls' := [(3, .int 2), (0, .ref 164), (1, .int 1), (2, .int 0)]) n97_85 rfl rfl (by decide) rfl ?_
  refine am_e_goto c97_86 t97_86 ?_
  refine am_e_iload_n n97_34 rfl ?_
  refine am_e_iconst (w := 4) n97_35 rfl ?_
  refine am_e_cmpF n97_36 (am_c_geF (by decide)) ?_
  refine am_e_aload_n n97_37 rfl ?_
  refine am_e_getf (v := .ref 191) n97_38 rfl ((F40 164 53 rfl).trans ((F39 164 53 rfl).trans ((F38 164 53 rfl).trans ((F37 164 53 rfl).trans ((F36 164 53 rfl).trans ((F35 164 53 rfl).trans ((F34 164 53 rfl).trans ((F33 164 53 rfl).trans ((F32 164 53 rfl).trans ((F31 164 53 rfl).trans ((F30 164 53 rfl).trans ((F29 164 53 rfl).trans ((F28 164 53 rfl).trans (f164_53 (h := h) hT)))))))))))))) ?_
  refine am_e_iconst (w := 4) n97_39 rfl ?_
  refine am_e_iload_n n97_40 rfl ?_
  refine am_e_imul (w := 4) n97_41 (by decide) ?_
  refine am_e_iload_n n97_42 rfl ?_
  refine am_e_iadd (w := 6) n97_43 (by decide) ?_
  refine am_e_aload_n n97_44 rfl ?_
  refine am_e_getf (v := .ref 191) n97_45 rfl ((F40 164 53 rfl).trans ((F39 164 53 rfl).trans ((F38 164 53 rfl).trans ((F37 164 53 rfl).trans ((F36 164 53 rfl).trans ((F35 164 53 rfl).trans ((F34 164 53 rfl).trans ((F33 164 53 rfl).trans ((F32 164 53 rfl).trans ((F31 164 53 rfl).trans ((F30 164 53 rfl).trans ((F29 164 53 rfl).trans ((F28 164 53 rfl).trans (f164_53 (h := h) hT)))))))))))))) ?_
  refine am_e_iconst (w := 4) n97_46 rfl ?_
  refine am_e_iload_n n97_47 rfl ?_
  refine am_e_imul (w := 0) n97_48 (by decide) ?_
  refine am_e_iload_n n97_49 rfl ?_
  refine am_e_iadd (w := 2) n97_50 (by decide) ?_
  refine am_e_iaload (v := 0) (q := 2) n97_51 rfl (by decide) (by decide) ((F40 191 2 rfl).trans ((F39 191 2 rfl).trans ((F38 191 2 rfl).trans ((F37 191 2 rfl).trans ((F36 191 2 rfl).trans ((F35 191 2 rfl).trans ((F34 191 2 rfl).trans ((F33 191 2 rfl).trans ((F32 191 2 rfl).trans ((F31 191 2 rfl).trans ((F30 191 2 rfl).trans ((F29 191 2 rfl).trans ((F28 191 2 rfl).trans (f191_2 (h := h) hT)))))))))))))) ?_
  refine am_e_iastore (q := 6) n97_52 rfl (by decide) (by decide) ?_
  refine am_e_aload_n n97_53 rfl ?_
  refine am_e_getf (v := .ref 192) n97_54 rfl ((F40 164 54 rfl).trans ((F39 164 54 rfl).trans ((F38 164 54 rfl).trans ((F37 164 54 rfl).trans ((F36 164 54 rfl).trans ((F35 164 54 rfl).trans ((F34 164 54 rfl).trans ((F33 164 54 rfl).trans ((F32 164 54 rfl).trans ((F31 164 54 rfl).trans ((F30 164 54 rfl).trans ((F29 164 54 rfl).trans ((F28 164 54 rfl).trans (f164_54 (h := h) hT)))))))))))))) ?_
  refine am_e_iconst (w := 4) n97_55 rfl ?_
  refine am_e_iload_n n97_56 rfl ?_
  refine am_e_imul (w := 4) n97_57 (by decide) ?_
  refine am_e_iload_n n97_58 rfl ?_
  refine am_e_iadd (w := 6) n97_59 (by decide) ?_
  refine am_e_aload_n n97_60 rfl ?_
  refine am_e_getf (v := .ref 192) n97_61 rfl ((F40 164 54 rfl).trans ((F39 164 54 rfl).trans ((F38 164 54 rfl).trans ((F37 164 54 rfl).trans ((F36 164 54 rfl).trans ((F35 164 54 rfl).trans ((F34 164 54 rfl).trans ((F33 164 54 rfl).trans ((F32 164 54 rfl).trans ((F31 164 54 rfl).trans ((F30 164 54 rfl).trans ((F29 164 54 rfl).trans ((F28 164 54 rfl).trans (f164_54 (h := h) hT)))))))))))))) ?_
  refine am_e_iconst (w := 4) n97_62 rfl ?_
  refine am_e_iload_n n97_63 rfl ?_
  refine am_e_imul (w := 0) n97_64 (by decide) ?_
  refine am_e_iload_n n97_65 rfl ?_
  refine am_e_iadd (w := 2) n97_66 (by decide) ?_
  refine am_e_iaload (v := 0) (q := 2) n97_67 rfl (by decide) (by decide) ((F40 192 2 rfl).trans ((F39 192 2 rfl).trans ((F38 192 2 rfl).trans ((F37 192 2 rfl).trans ((F36 192 2 rfl).trans ((F35 192 2 rfl).trans ((F34 192 2 rfl).trans ((F33 192 2 rfl).trans ((F32 192 2 rfl).trans ((F31 192 2 rfl).trans ((F30 192 2 rfl).trans ((F29 192 2 rfl).trans ((F28 192 2 rfl).trans (f192_2 (h := h) hT)))))))))))))) ?_
  refine am_e_iastore (q := 6) n97_68 rfl (by decide) (by decide) ?_
  refine am_e_aload_n n97_69 rfl ?_
  refine am_e_getf (v := .ref 193) n97_70 rfl ((F40 164 55 rfl).trans ((F39 164 55 rfl).trans ((F38 164 55 rfl).trans ((F37 164 55 rfl).trans ((F36 164 55 rfl).trans ((F35 164 55 rfl).trans ((F34 164 55 rfl).trans ((F33 164 55 rfl).trans ((F32 164 55 rfl).trans ((F31 164 55 rfl).trans ((F30 164 55 rfl).trans ((F29 164 55 rfl).trans ((F28 164 55 rfl).trans (f164_55 (h := h) hT)))))))))))))) ?_
  refine am_e_iconst (w := 4) n97_71 rfl ?_
  refine am_e_iload_n n97_72 rfl ?_
  refine am_e_imul (w := 4) n97_73 (by decide) ?_
  refine am_e_iload_n n97_74 rfl ?_
  refine am_e_iadd (w := 6) n97_75 (by decide) ?_
  refine am_e_aload_n n97_76 rfl ?_
  refine am_e_getf (v := .ref 193) n97_77 rfl ((F40 164 55 rfl).trans ((F39 164 55 rfl).trans ((F38 164 55 rfl).trans ((F37 164 55 rfl).trans ((F36 164 55 rfl).trans ((F35 164 55 rfl).trans ((F34 164 55 rfl).trans ((F33 164 55 rfl).trans ((F32 164 55 rfl).trans ((F31 164 55 rfl).trans ((F30 164 55 rfl).trans ((F29 164 55 rfl).trans ((F28 164 55 rfl).trans (f164_55 (h := h) hT)))))))))))))) ?_
  refine am_e_iconst (w := 4) n97_78 rfl ?_
  refine am_e_iload_n n97_79 rfl ?_
  refine am_e_imul (w := 0) n97_80 (by decide) ?_
  refine am_e_iload_n n97_81 rfl ?_
  refine am_e_iadd (w := 2) n97_82 (by decide) ?_
  refine am_e_iaload (v := 0) (q := 2) n97_83 rfl (by decide) (by decide) ((F40 193 2 rfl).trans ((F39 193 2 rfl).trans ((F38 193 2 rfl).trans ((F37 193 2 rfl).trans ((F36 193 2 rfl).trans ((F35 193 2 rfl).trans ((F34 193 2 rfl).trans ((F33 193 2 rfl).trans ((F32 193 2 rfl).trans ((F31 193 2 rfl).trans ((F30 193 2 rfl).trans ((F29 193 2 rfl).trans ((F28 193 2 rfl).trans (f193_2 (h := h) hT)))))))))))))) ?_
  refine am_e_iastore (q := 6) n97_84 rfl (by decide) (by decide) ?_
  refine am_e_iinc (w := 3) (ls' := [(3, .int 3), (0, .ref 164), (1, .int 1), (2, .int 0)]) n97_85 rfl rfl (by decide) rfl ?_
  refine am_e_goto c97_86 t97_86 ?_
  refine am_e_iload_n n97_34 rfl ?_
  refine am_e_iconst (w := 4) n97_35 rfl ?_
  refine am_e_cmpF n97_36 (am_c_geF (by decide)) ?_
  refine am_e_aload_n n97_37 rfl ?_
  refine am_e_getf (v := .ref 191) n97_38 rfl ((F40 164 53 rfl).trans ((F39 164 53 rfl).trans ((F38 164 53 rfl).trans ((F37 164 53 rfl).trans ((F36 164 53 rfl).trans ((F35 164 53 rfl).trans ((F34 164 53 rfl).trans ((F33 164 53 rfl).trans ((F32 164 53 rfl).trans ((F31 164 53 rfl).trans ((F30 164 53 rfl).trans ((F29 164 53 rfl).trans ((F28 164 53 rfl).trans (f164_53 (h := h) hT)))))))))))))) ?_
  refine am_e_iconst (w := 4) n97_39 rfl ?_
  refine am_e_iload_n n97_40 rfl ?_
  refine am_e_imul (w := 4) n97_41 (by decide) ?_
  refine am_e_iload_n n97_42 rfl ?_
  refine am_e_iadd (w := 7) n97_43 (by decide) ?_
  refine am_e_aload_n n97_44 rfl ?_
  refine am_e_getf (v := .ref 191) n97_45 rfl ((F40 164 53 rfl).trans ((F39 164 53 rfl).trans ((F38 164 53 rfl).trans ((F37 164 53 rfl).trans ((F36 164 53 rfl).trans ((F35 164 53 rfl).trans ((F34 164 53 rfl).trans ((F33 164 53 rfl).trans ((F32 164 53 rfl).trans ((F31 164 53 rfl).trans ((F30 164 53 rfl).trans ((F29 164 53 rfl).trans ((F28 164 53 rfl).trans (f164_53 (h := h) hT)))))))))))))) ?_
  refine am_e_iconst (w := 4) n97_46 rfl ?_
  refine am_e_iload_n n97_47 rfl ?_
  refine am_e_imul (w := 0) n97_48 (by decide) ?_
  refine am_e_iload_n n97_49 rfl ?_
  refine am_e_iadd (w := 3) n97_50 (by decide) ?_
  refine am_e_iaload (v := 0) (q := 3) n97_51 rfl (by decide) (by decide) ((F40 191 3 rfl).trans ((F39 191 3 rfl).trans ((F38 191 3 rfl).trans ((F37 191 3 rfl).trans ((F36 191 3 rfl).trans ((F35 191 3 rfl).trans ((F34 191 3 rfl).trans ((F33 191 3 rfl).trans ((F32 191 3 rfl).trans ((F31 191 3 rfl).trans ((F30 191 3 rfl).trans ((F29 191 3 rfl).trans ((F28 191 3 rfl).trans (f191_3 (h := h) hT)))))))))))))) ?_
  refine am_e_iastore (q := 7) n97_52 rfl (by decide) (by decide) ?_
  refine am_e_aload_n n97_53 rfl ?_
  refine am_e_getf (v := .ref 192) n97_54 rfl ((F40 164 54 rfl).trans ((F39 164 54 rfl).trans ((F38 164 54 rfl).trans ((F37 164 54 rfl).trans ((F36 164 54 rfl).trans ((F35 164 54 rfl).trans ((F34 164 54 rfl).trans ((F33 164 54 rfl).trans ((F32 164 54 rfl).trans ((F31 164 54 rfl).trans ((F30 164 54 rfl).trans ((F29 164 54 rfl).trans ((F28 164 54 rfl).trans (f164_54 (h := h) hT)))))))))))))) ?_
  refine am_e_iconst (w := 4) n97_55 rfl ?_
  refine am_e_iload_n n97_56 rfl ?_
  refine am_e_imul (w := 4) n97_57 (by decide) ?_
  refine am_e_iload_n n97_58 rfl ?_
  refine am_e_iadd (w := 7) n97_59 (by decide) ?_
  refine am_e_aload_n n97_60 rfl ?_
  refine am_e_getf (v := .ref 192) n97_61 rfl ((F40 164 54 rfl).trans ((F39 164 54 rfl).trans ((F38 164 54 rfl).trans ((F37 164 54 rfl).trans ((F36 164 54 rfl).trans ((F35 164 54 rfl).trans ((F34 164 54 rfl).trans ((F33 164 54 rfl).trans ((F32 164 54 rfl).trans ((F31 164 54 rfl).trans ((F30 164 54 rfl).trans ((F29 164 54 rfl).trans ((F28 164 54 rfl).trans (f164_54 (h := h) hT)))))))))))))) ?_
  refine am_e_iconst (w := 4) n97_62 rfl ?_
  refine am_e_iload_n n97_63 rfl ?_
  refine am_e_imul (w := 0) n97_64 (by decide) ?_
  refine am_e_iload_n n97_65 rfl ?_
  refine am_e_iadd (w := 3) n97_66 (by decide) ?_
  refine am_e_iaload (v := 0) (q := 3) n97_67 rfl (by decide) (by decide) ((F40 192 3 rfl).trans ((F39 192 3 rfl).trans ((F38 192 3 rfl).trans ((F37 192 3 rfl).trans ((F36 192 3 rfl).trans ((F35 192 3 rfl).trans ((F34 192 3 rfl).trans ((F33 192 3 rfl).trans ((F32 192 3 rfl).trans ((F31 192 3 rfl).trans ((F30 192 3 rfl).trans ((F29 192 3 rfl).trans ((F28 192 3 rfl).trans (f192_3 (h := h) hT)))))))))))))) ?_
  refine am_e_iastore (q := 7) n97_68 rfl (by decide) (by decide) ?_
  refine am_e_aload_n n97_69 rfl ?_
  refine am_e_getf (v := .ref 193) n97_70 rfl ((F40 164 55 rfl).trans ((F39 164 55 rfl).trans ((F38 164 55 rfl).trans ((F37 164 55 rfl).trans ((F36 164 55 rfl).trans ((F35 164 55 rfl).trans ((F34 164 55 rfl).trans ((F33 164 55 rfl).trans ((F32 164 55 rfl).trans ((F31 164 55 rfl).trans ((F30 164 55 rfl).trans ((F29 164 55 rfl).trans ((F28 164 55 rfl).trans (f164_55 (h := h) hT)))))))))))))) ?_
  refine am_e_iconst (w := 4) n97_71 rfl ?_
  refine am_e_iload_n n97_72 rfl ?_
  refine am_e_imul (w := 4) n97_73 (by decide) ?_
  refine am_e_iload_n n97_74 rfl ?_
  refine am_e_iadd (w := 7) n97_75 (by decide) ?_
  refine am_e_aload_n n97_76 rfl ?_
  refine am_e_getf (v := .ref 193) n97_77 rfl ((F40 164 55 rfl).trans ((F39 164 55 rfl).trans ((F38 164 55 rfl).trans ((F37 164 55 rfl).trans ((F36 164 55 rfl).trans ((F35 164 55 rfl).trans ((F34 164 55 rfl).trans ((F33 164 55 rfl).trans ((F32 164 55 rfl).trans ((F31 164 55 rfl).trans ((F30 164 55 rfl).trans ((F29 164 55 rfl).trans ((F28 164 55 rfl).trans (f164_55 (h := h) hT)))))))))))))) ?_
  refine am_e_iconst (w := 4) n97_78 rfl ?_
  refine am_e_iload_n n97_79 rfl ?_
  refine am_e_imul (w := 0) n97_80 (by decide) ?_
  refine am_e_iload_n n97_81 rfl ?_
  refine am_e_iadd (w := 3) n97_82 (by decide) ?_
  refine am_e_iaload (v := 0) (q := 3) n97_83 rfl (by decide) (by decide) ((F40 193 3 rfl).trans ((F39 193 3 rfl).trans ((F38 193 3 rfl).trans ((F37 193 3 rfl).trans ((F36 193 3 rfl).trans ((F35 193 3 rfl).trans ((F34 193 3 rfl).trans ((F33 193 3 rfl).trans ((F32 193 3 rfl).trans ((F31 193 3 rfl).trans ((F30 193 3 rfl).trans ((F29 193 3 rfl).trans ((F28 193 3 rfl).trans (f193_3 (h := h) hT)))))))))))))) ?_
  refine am_e_iastore (q := 7) n97_84 rfl (by decide) (by decide) ?_
  refine am_e_iinc (w := 4) (ls' := [(3, .int 4), (0, .ref 164), (1, .int 1), (2, .int 0)]) n97_85 rfl rfl (by decide) rfl ?_
  refine am_e_goto c97_86 t97_86 ?_
  refine am_e_iload_n n97_34 rfl ?_
  refine am_e_iconst (w := 4) n97_35 rfl ?_
  refine am_e_cmpT n97_36 (am_c_geT (by decide)) t97_36 ?_
  refine am_e_vret c97_87 rfl rfl ?_
  refine am_e_iconst (w := 0) n127_35 rfl ?_
  refine am_e_istore (ls' := [(8, .int 0), (7, .int 3), (6, .int 3), (0, .ref 164), (2, .int (nI n)), (3, .int (nI 0)), (4, .long 0)]) n127_36 rfl rfl ?_
  refine am_Ek_ls (ls' := [(0, .ref 164), (2, .int (nI n)), (3, .int (nI 0)), (4, .long 0), (6, .int 3), (7, .int 3), (8, .int (nI 0))]) ⟨rfl, rfl, rfl, rfl, rfl, rfl, rfl, trivial⟩ ?_
  refine am_cm_e (n := n) (b := 0) (s := 0) (t := 3) (i7 := 3) (dr := dr40) (by omega) (by omega) ⟨((F40 164 23 rfl).trans ((F39 164 23 rfl).trans ((F38 164 23 rfl).trans ((F37 164 23 rfl).trans ((F36 164 23 rfl).trans ((F35 164 23 rfl).trans ((F34 164 23 rfl).trans ((F33 164 23 rfl).trans ((F32 164 23 rfl).trans ((F31 164 23 rfl).trans ((F30 164 23 rfl).trans ((F29 164 23 rfl).trans ((F28 164 23 rfl).trans (f164_23 (h := h) hT)))))))))))))), ((F40 168 4 rfl).trans ((F39 168 4 rfl).trans ((F38 168 4 rfl).trans ((F37 168 4 rfl).trans ((F36 168 4 rfl).trans ((F35 168 4 rfl).trans ((F34 168 4 rfl).trans ((F33 168 4 rfl).trans ((F32 168 4 rfl).trans ((F31 168 4 rfl).trans ((F30 168 4 rfl).trans ((F29 168 4 rfl).trans ((F28 168 4 rfl).trans (f168_4 (h := h) hT)))))))))))))), ((F40 164 50 rfl).trans ((F39 164 50 rfl).trans ((F38 164 50 rfl).trans ((F37 164 50 rfl).trans ((F36 164 50 rfl).trans ((F35 164 50 rfl).trans ((F34 164 50 rfl).trans ((F33 164 50 rfl).trans ((F32 164 50 rfl).trans ((F31 164 50 rfl).trans ((F30 164 50 rfl).trans ((F29 164 50 rfl).trans ((F28 164 50 rfl).trans (f164_50 (h := h) hT)))))))))))))), ((F40 164 61 rfl).trans ((F39 164 61 rfl).trans ((F38 164 61 rfl).trans ((F37 164 61 rfl).trans ((F36 164 61 rfl).trans ((F35 164 61 rfl).trans ((F34 164 61 rfl).trans ((F33 164 61 rfl).trans ((F32 164 61 rfl).trans ((F31 164 61 rfl).trans ((F30 164 61 rfl).trans ((F29 164 61 rfl).trans ((F28 164 61 rfl).trans (f164_61 (h := h) hT)))))))))))))), ((F40 164 47 rfl).trans ((F39 164 47 rfl).trans ((F38 164 47 rfl).trans ((F37 164 47 rfl).trans ((F36 164 47 rfl).trans ((F35 164 47 rfl).trans ((F34 164 47 rfl).trans ((F33 164 47 rfl).trans ((F32 164 47 rfl).trans ((F31 164 47 rfl).trans ((F30 164 47 rfl).trans ((F29 164 47 rfl).trans ((F28 164 47 rfl).trans (f164_47 (h := h) hT)))))))))))))), ((F40 168 0 rfl).trans ((F39 168 0 rfl).trans ((F38 168 0 rfl).trans ((F37 168 0 rfl).trans ((F36 168 0 rfl).trans ((F35 168 0 rfl).trans ((F34 168 0 rfl).trans ((F33 168 0 rfl).trans ((F32 168 0 rfl).trans ((F31 168 0 rfl).trans ((F30 168 0 rfl).trans ((F29 168 0 rfl).trans ((F28 168 0 rfl).trans (f168_0 (h := h) hT)))))))))))))), ((F40 164 51 rfl).trans ((F39 164 51 rfl).trans ((F38 164 51 rfl).trans ((F37 164 51 rfl).trans ((F36 164 51 rfl).trans ((F35 164 51 rfl).trans ((F34 164 51 rfl).trans ((F33 164 51 rfl).trans ((F32 164 51 rfl).trans ((F31 164 51 rfl).trans ((F30 164 51 rfl).trans ((F29 164 51 rfl).trans ((F28 164 51 rfl).trans (f164_51 (h := h) hT)))))))))))))), ((F40 164 33 rfl).trans ((F39 164 33 rfl).trans ((F38 164 33 rfl).trans ((F37 164 33 rfl).trans ((F36 164 33 rfl).trans ((F35 164 33 rfl).trans ((F34 164 33 rfl).trans ((F33 164 33 rfl).trans ((F32 164 33 rfl).trans ((F31 164 33 rfl).trans ((F30 164 33 rfl).trans ((F29 164 33 rfl).trans ((F28 164 33 rfl).trans (f164_33 (h := h) hT)))))))))))))), ((F40 178 2 rfl).trans ((F39 178 2 rfl).trans ((F38 178 2 rfl).trans ((F37 178 2 rfl).trans ((F36 178 2 rfl).trans ((F35 178 2 rfl).trans ((F34 178 2 rfl).trans ((F33 178 2 rfl).trans ((F32 178 2 rfl).trans ((F31 178 2 rfl).trans ((F30 178 2 rfl).trans ((F29 178 2 rfl).trans ((F28 178 2 rfl).trans (f178_2 (h := h) hT)))))))))))))), ((F40 178 0 rfl).trans ((F39 178 0 rfl).trans ((F38 178 0 rfl).trans ((F37 178 0 rfl).trans ((F36 178 0 rfl).trans ((F35 178 0 rfl).trans ((F34 178 0 rfl).trans ((F33 178 0 rfl).trans ((F32 178 0 rfl).trans ((F31 178 0 rfl).trans ((F30 178 0 rfl).trans ((F29 178 0 rfl).trans ((F28 178 0 rfl).trans (f178_0 (h := h) hT)))))))))))))), ((F40 164 62 rfl).trans ((F39 164 62 rfl).trans ((F38 164 62 rfl).trans ((F37 164 62 rfl).trans ((F36 164 62 rfl).trans ((F35 164 62 rfl).trans ((F34 164 62 rfl).trans ((F33 164 62 rfl).trans ((F32 164 62 rfl).trans ((F31 164 62 rfl).trans ((F30 164 62 rfl).trans ((F29 164 62 rfl).trans ((F28 164 62 rfl).trans (f164_62 (h := h) hT)))))))))))))), ((F40 164 58 rfl).trans ((F39 164 58 rfl).trans ((F38 164 58 rfl).trans ((F37 164 58 rfl).trans ((F36 164 58 rfl).trans ((F35 164 58 rfl).trans ((F34 164 58 rfl).trans ((F33 164 58 rfl).trans ((F32 164 58 rfl).trans ((F31 164 58 rfl).trans ((F30 164 58 rfl).trans ((F29 164 58 rfl).trans ((F28 164 58 rfl).trans (f164_58 (h := h) hT)))))))))))))), ((F40 164 60 rfl).trans ((F39 164 60 rfl).trans ((F38 164 60 rfl).trans ((F37 164 60 rfl).trans ((F36 164 60 rfl).trans ((F35 164 60 rfl).trans ((F34 164 60 rfl).trans ((F33 164 60 rfl).trans ((F32 164 60 rfl).trans ((F31 164 60 rfl).trans ((F30 164 60 rfl).trans ((F29 164 60 rfl).trans ((F28 164 60 rfl).trans (f164_60 (h := h) hT)))))))))))))), trivial⟩ rfl rfl qc40 ?_
  intro h41 dr41 F41 qa41 qb41 qc41
  refine am_e_iload n127_59 rfl ?_
  refine am_e_aload_n n127_60 rfl ?_
  refine am_e_getf (v := .ref 188) n127_61 rfl ((F41 164 50 rfl).trans ((F40 164 50 rfl).trans ((F39 164 50 rfl).trans ((F38 164 50 rfl).trans ((F37 164 50 rfl).trans ((F36 164 50 rfl).trans ((F35 164 50 rfl).trans ((F34 164 50 rfl).trans ((F33 164 50 rfl).trans ((F32 164 50 rfl).trans ((F31 164 50 rfl).trans ((F30 164 50 rfl).trans ((F29 164 50 rfl).trans ((F28 164 50 rfl).trans (f164_50 (h := h) hT))))))))))))))) ?_
  refine am_e_iconst (w := 1) n127_62 rfl ?_
  refine am_e_iaload (v := 0) (q := 1) n127_63 rfl (by decide) (by decide) qa41 ?_
  refine am_e_iload_n n127_64 rfl ?_
  refine am_e_cmpF n127_65 (am_c_ltF (by decide)) ?_
  refine am_e_iconst (w := 1) n127_66 rfl ?_
  refine am_e_goto c127_67 t127_67 ?_
  refine am_e_iadd (w := 4) n127_69 (by decide) ?_
  refine am_e_istore (ls' := [(6, .int 4), (0, .ref 164), (2, .int (nI n)), (3, .int (nI 0)), (4, .long 0), (7, .int 3), (8, .int (nI n))]) n127_70 rfl rfl ?_
  refine am_e_iinc (w := 4) (ls' := [(7, .int 4), (6, .int 4), (0, .ref 164), (2, .int (nI n)), (3, .int (nI 0)), (4, .long 0), (8, .int (nI n))]) n127_71 rfl rfl (by decide) rfl ?_
  refine am_e_goto c127_72 t127_72 ?_
  refine am_e_iload n127_28 rfl ?_
  refine am_e_bipush (w := 10) n127_29 (by decide) ?_
  refine am_e_cmpF n127_30 (am_c_geF (by decide)) ?_
  refine am_e_aload_n n127_31 rfl ?_
  refine am_e_iconst (w := 1) n127_32 rfl ?_
  refine am_e_iconst (w := 0) n127_33 rfl ?_
  refine am_e_callV (L := [(0, .ref 164), (1, .int 1), (2, .int 0)]) n127_34 rfl rfl rfl rfl rfl rfl rfl rfl ?_
  refine am_e_aload_n n97_0 rfl ?_
  refine am_e_getf (v := .ref 188) n97_1 rfl ((F41 164 50 rfl).trans ((F40 164 50 rfl).trans ((F39 164 50 rfl).trans ((F38 164 50 rfl).trans ((F37 164 50 rfl).trans ((F36 164 50 rfl).trans ((F35 164 50 rfl).trans ((F34 164 50 rfl).trans ((F33 164 50 rfl).trans ((F32 164 50 rfl).trans ((F31 164 50 rfl).trans ((F30 164 50 rfl).trans ((F29 164 50 rfl).trans ((F28 164 50 rfl).trans (f164_50 (h := h) hT))))))))))))))) ?_
  refine am_e_iload_n n97_2 rfl ?_
  refine am_e_aload_n n97_3 rfl ?_
  refine am_e_getf (v := .ref 188) n97_4 rfl ((F41 164 50 rfl).trans ((F40 164 50 rfl).trans ((F39 164 50 rfl).trans ((F38 164 50 rfl).trans ((F37 164 50 rfl).trans ((F36 164 50 rfl).trans ((F35 164 50 rfl).trans ((F34 164 50 rfl).trans ((F33 164 50 rfl).trans ((F32 164 50 rfl).trans ((F31 164 50 rfl).trans ((F30 164 50 rfl).trans ((F29 164 50 rfl).trans ((F28 164 50 rfl).trans (f164_50 (h := h) hT))))))))))))))) ?_
  refine am_e_iload_n n97_5 rfl ?_
  refine am_e_iaload (v := 0) (q := 0) n97_6 rfl (by decide) (by decide) ((F41 188 0 rfl).trans ((F40 188 0 rfl).trans ((F39 188 0 rfl).trans ((F38 188 0 rfl).trans ((F37 188 0 rfl).trans ((F36 188 0 rfl).trans ((F35 188 0 rfl).trans ((F34 188 0 rfl).trans ((F33 188 0 rfl).trans ((F32 188 0 rfl).trans ((F31 188 0 rfl).trans ((F30 188 0 rfl).trans ((F29 188 0 rfl).trans ((F28 188 0 rfl).trans (f188_0 (h := h) hT))))))))))))))) ?_
  refine am_e_iastore (q := 1) n97_7 rfl (by decide) (by decide) ?_
  refine am_e_aload_n n97_8 rfl ?_
  refine am_e_getf (v := .ref 189) n97_9 rfl ((F41 164 51 rfl).trans ((F40 164 51 rfl).trans ((F39 164 51 rfl).trans ((F38 164 51 rfl).trans ((F37 164 51 rfl).trans ((F36 164 51 rfl).trans ((F35 164 51 rfl).trans ((F34 164 51 rfl).trans ((F33 164 51 rfl).trans ((F32 164 51 rfl).trans ((F31 164 51 rfl).trans ((F30 164 51 rfl).trans ((F29 164 51 rfl).trans ((F28 164 51 rfl).trans (f164_51 (h := h) hT))))))))))))))) ?_
  refine am_e_iload_n n97_10 rfl ?_
  refine am_e_aload_n n97_11 rfl ?_
  refine am_e_getf (v := .ref 189) n97_12 rfl ((F41 164 51 rfl).trans ((F40 164 51 rfl).trans ((F39 164 51 rfl).trans ((F38 164 51 rfl).trans ((F37 164 51 rfl).trans ((F36 164 51 rfl).trans ((F35 164 51 rfl).trans ((F34 164 51 rfl).trans ((F33 164 51 rfl).trans ((F32 164 51 rfl).trans ((F31 164 51 rfl).trans ((F30 164 51 rfl).trans ((F29 164 51 rfl).trans ((F28 164 51 rfl).trans (f164_51 (h := h) hT))))))))))))))) ?_
  refine am_e_iload_n n97_13 rfl ?_
  refine am_e_iaload (v := 0) (q := 0) n97_14 rfl (by decide) (by decide) ((F41 189 0 rfl).trans ((F40 189 0 rfl).trans ((F39 189 0 rfl).trans ((F38 189 0 rfl).trans ((F37 189 0 rfl).trans ((F36 189 0 rfl).trans ((F35 189 0 rfl).trans ((F34 189 0 rfl).trans ((F33 189 0 rfl).trans ((F32 189 0 rfl).trans ((F31 189 0 rfl).trans ((F30 189 0 rfl).trans ((F29 189 0 rfl).trans ((F28 189 0 rfl).trans (f189_0 (h := h) hT))))))))))))))) ?_
  refine am_e_iastore (q := 1) n97_15 rfl (by decide) (by decide) ?_
  refine am_e_aload_n n97_16 rfl ?_
  refine am_e_getf (v := .ref 190) n97_17 rfl ((F41 164 52 rfl).trans ((F40 164 52 rfl).trans ((F39 164 52 rfl).trans ((F38 164 52 rfl).trans ((F37 164 52 rfl).trans ((F36 164 52 rfl).trans ((F35 164 52 rfl).trans ((F34 164 52 rfl).trans ((F33 164 52 rfl).trans ((F32 164 52 rfl).trans ((F31 164 52 rfl).trans ((F30 164 52 rfl).trans ((F29 164 52 rfl).trans ((F28 164 52 rfl).trans (f164_52 (h := h) hT))))))))))))))) ?_
  refine am_e_iload_n n97_18 rfl ?_
  refine am_e_aload_n n97_19 rfl ?_
  refine am_e_getf (v := .ref 190) n97_20 rfl ((F41 164 52 rfl).trans ((F40 164 52 rfl).trans ((F39 164 52 rfl).trans ((F38 164 52 rfl).trans ((F37 164 52 rfl).trans ((F36 164 52 rfl).trans ((F35 164 52 rfl).trans ((F34 164 52 rfl).trans ((F33 164 52 rfl).trans ((F32 164 52 rfl).trans ((F31 164 52 rfl).trans ((F30 164 52 rfl).trans ((F29 164 52 rfl).trans ((F28 164 52 rfl).trans (f164_52 (h := h) hT))))))))))))))) ?_
  refine am_e_iload_n n97_21 rfl ?_
  refine am_e_iaload (v := (-1)) (q := 0) n97_22 rfl (by decide) (by decide) ((F41 190 0 rfl).trans ((F40 190 0 rfl).trans ((F39 190 0 rfl).trans ((F38 190 0 rfl).trans ((F37 190 0 rfl).trans ((F36 190 0 rfl).trans ((F35 190 0 rfl).trans ((F34 190 0 rfl).trans ((F33 190 0 rfl).trans ((F32 190 0 rfl).trans ((F31 190 0 rfl).trans ((F30 190 0 rfl).trans ((F29 190 0 rfl).trans ((F28 190 0 rfl).trans (f190_0 (h := h) hT))))))))))))))) ?_
  refine am_e_iastore (q := 1) n97_23 rfl (by decide) (by decide) ?_
  refine am_e_aload_n n97_24 rfl ?_
  refine am_e_getf (v := .ref 194) n97_25 rfl ((F41 164 56 rfl).trans ((F40 164 56 rfl).trans ((F39 164 56 rfl).trans ((F38 164 56 rfl).trans ((F37 164 56 rfl).trans ((F36 164 56 rfl).trans ((F35 164 56 rfl).trans ((F34 164 56 rfl).trans ((F33 164 56 rfl).trans ((F32 164 56 rfl).trans ((F31 164 56 rfl).trans ((F30 164 56 rfl).trans ((F29 164 56 rfl).trans ((F28 164 56 rfl).trans (f164_56 (h := h) hT))))))))))))))) ?_
  refine am_e_iload_n n97_26 rfl ?_
  refine am_e_aload_n n97_27 rfl ?_
  refine am_e_getf (v := .ref 194) n97_28 rfl ((F41 164 56 rfl).trans ((F40 164 56 rfl).trans ((F39 164 56 rfl).trans ((F38 164 56 rfl).trans ((F37 164 56 rfl).trans ((F36 164 56 rfl).trans ((F35 164 56 rfl).trans ((F34 164 56 rfl).trans ((F33 164 56 rfl).trans ((F32 164 56 rfl).trans ((F31 164 56 rfl).trans ((F30 164 56 rfl).trans ((F29 164 56 rfl).trans ((F28 164 56 rfl).trans (f164_56 (h := h) hT))))))))))))))) ?_
  refine am_e_iload_n n97_29 rfl ?_
  refine am_e_iaload (v := 0) (q := 0) n97_30 rfl (by decide) (by decide) ((F41 194 0 rfl).trans ((F40 194 0 rfl).trans ((F39 194 0 rfl).trans ((F38 194 0 rfl).trans ((F37 194 0 rfl).trans ((F36 194 0 rfl).trans ((F35 194 0 rfl).trans ((F34 194 0 rfl).trans ((F33 194 0 rfl).trans ((F32 194 0 rfl).trans ((F31 194 0 rfl).trans ((F30 194 0 rfl).trans ((F29 194 0 rfl).trans ((F28 194 0 rfl).trans (f194_0 (h := h) hT))))))))))))))) ?_
  refine am_e_iastore (q := 1) n97_31 rfl (by decide) (by decide) ?_
  refine am_e_iconst (w := 0) n97_32 rfl ?_
  refine am_e_istore_n (ls' := [(3, .int 0), (0, .ref 164), (1, .int 1), (2, .int 0)]) n97_33 rfl rfl ?_
  refine am_e_iload_n n97_34 rfl ?_
  refine am_e_iconst (w := 4) n97_35 rfl ?_
  refine am_e_cmpF n97_36 (am_c_geF (by decide)) ?_
  refine am_e_aload_n n97_37 rfl ?_
  refine am_e_getf (v := .ref 191) n97_38 rfl ((F41 164 53 rfl).trans ((F40 164 53 rfl).trans ((F39 164 53 rfl).trans ((F38 164 53 rfl).trans ((F37 164 53 rfl).trans ((F36 164 53 rfl).trans ((F35 164 53 rfl).trans ((F34 164 53 rfl).trans ((F33 164 53 rfl).trans ((F32 164 53 rfl).trans ((F31 164 53 rfl).trans ((F30 164 53 rfl).trans ((F29 164 53 rfl).trans ((F28 164 53 rfl).trans (f164_53 (h := h) hT))))))))))))))) ?_
  refine am_e_iconst (w := 4) n97_39 rfl ?_
  refine am_e_iload_n n97_40 rfl ?_
  refine am_e_imul (w := 4) n97_41 (by decide) ?_
  refine am_e_iload_n n97_42 rfl ?_
  refine am_e_iadd (w := 4) n97_43 (by decide) ?_
  refine am_e_aload_n n97_44 rfl ?_
  refine am_e_getf (v := .ref 191) n97_45 rfl ((F41 164 53 rfl).trans ((F40 164 53 rfl).trans ((F39 164 53 rfl).trans ((F38 164 53 rfl).trans ((F37 164 53 rfl).trans ((F36 164 53 rfl).trans ((F35 164 53 rfl).trans ((F34 164 53 rfl).trans ((F33 164 53 rfl).trans ((F32 164 53 rfl).trans ((F31 164 53 rfl).trans ((F30 164 53 rfl).trans ((F29 164 53 rfl).trans ((F28 164 53 rfl).trans (f164_53 (h := h) hT))))))))))))))) ?_
  refine am_e_iconst (w := 4) n97_46 rfl ?_
  refine am_e_iload_n n97_47 rfl ?_
  refine am_e_imul (w := 0) n97_48 (by decide) ?_
  refine am_e_iload_n n97_49 rfl ?_
  refine am_e_iadd (w := 0) n97_50 (by decide) ?_
  refine am_e_iaload (v := 0) (q := 0) n97_51 rfl (by decide) (by decide) ((F41 191 0 rfl).trans ((F40 191 0 rfl).trans ((F39 191 0 rfl).trans ((F38 191 0 rfl).trans ((F37 191 0 rfl).trans ((F36 191 0 rfl).trans ((F35 191 0 rfl).trans ((F34 191 0 rfl).trans ((F33 191 0 rfl).trans ((F32 191 0 rfl).trans ((F31 191 0 rfl).trans ((F30 191 0 rfl).trans ((F29 191 0 rfl).trans ((F28 191 0 rfl).trans (f191_0 (h := h) hT))))))))))))))) ?_
  refine am_e_iastore (q := 4) n97_52 rfl (by decide) (by decide) ?_
  refine am_e_aload_n n97_53 rfl ?_
  refine am_e_getf (v := .ref 192) n97_54 rfl ((F41 164 54 rfl).trans ((F40 164 54 rfl).trans ((F39 164 54 rfl).trans ((F38 164 54 rfl).trans ((F37 164 54 rfl).trans ((F36 164 54 rfl).trans ((F35 164 54 rfl).trans ((F34 164 54 rfl).trans ((F33 164 54 rfl).trans ((F32 164 54 rfl).trans ((F31 164 54 rfl).trans ((F30 164 54 rfl).trans ((F29 164 54 rfl).trans ((F28 164 54 rfl).trans (f164_54 (h := h) hT))))))))))))))) ?_
  refine am_e_iconst (w := 4) n97_55 rfl ?_
  refine am_e_iload_n n97_56 rfl ?_
  refine am_e_imul (w := 4) n97_57 (by decide) ?_
  refine am_e_iload_n n97_58 rfl ?_
  refine am_e_iadd (w := 4) n97_59 (by decide) ?_
  refine am_e_aload_n n97_60 rfl ?_
  refine am_e_getf (v := .ref 192) n97_61 rfl ((F41 164 54 rfl).trans ((F40 164 54 rfl).trans ((F39 164 54 rfl).trans ((F38 164 54 rfl).trans ((F37 164 54 rfl).trans ((F36 164 54 rfl).trans ((F35 164 54 rfl).trans ((F34 164 54 rfl).trans ((F33 164 54 rfl).trans ((F32 164 54 rfl).trans ((F31 164 54 rfl).trans ((F30 164 54 rfl).trans ((F29 164 54 rfl).trans ((F28 164 54 rfl).trans (f164_54 (h := h) hT))))))))))))))) ?_
  refine am_e_iconst (w := 4) n97_62 rfl ?_
  refine am_e_iload_n n97_63 rfl ?_
  refine am_e_imul (w := 0) n97_64 (by decide) ?_
  refine am_e_iload_n n97_65 rfl ?_
  refine am_e_iadd (w := 0) n97_66 (by decide) ?_
  refine am_e_iaload (v := 0) (q := 0) n97_67 rfl (by decide) (by decide) ((F41 192 0 rfl).trans ((F40 192 0 rfl).trans ((F39 192 0 rfl).trans ((F38 192 0 rfl).trans ((F37 192 0 rfl).trans ((F36 192 0 rfl).trans ((F35 192 0 rfl).trans ((F34 192 0 rfl).trans ((F33 192 0 rfl).trans ((F32 192 0 rfl).trans ((F31 192 0 rfl).trans ((F30 192 0 rfl).trans ((F29 192 0 rfl).trans ((F28 192 0 rfl).trans (f192_0 (h := h) hT))))))))))))))) ?_
  refine am_e_iastore (q := 4) n97_68 rfl (by decide) (by decide) ?_
  refine am_e_aload_n n97_69 rfl ?_
  refine am_e_getf (v := .ref 193) n97_70 rfl ((F41 164 55 rfl).trans ((F40 164 55 rfl).trans ((F39 164 55 rfl).trans ((F38 164 55 rfl).trans ((F37 164 55 rfl).trans ((F36 164 55 rfl).trans ((F35 164 55 rfl).trans ((F34 164 55 rfl).trans ((F33 164 55 rfl).trans ((F32 164 55 rfl).trans ((F31 164 55 rfl).trans ((F30 164 55 rfl).trans ((F29 164 55 rfl).trans ((F28 164 55 rfl).trans (f164_55 (h := h) hT))))))))))))))) ?_
  refine am_e_iconst (w := 4) n97_71 rfl ?_
  refine am_e_iload_n n97_72 rfl ?_
  refine am_e_imul (w := 4) n97_73 (by decide) ?_
  refine am_e_iload_n n97_74 rfl ?_
  refine am_e_iadd (w := 4) n97_75 (by decide) ?_
  refine am_e_aload_n n97_76 rfl ?_
  refine am_e_getf (v := .ref 193) n97_77 rfl ((F41 164 55 rfl).trans ((F40 164 55 rfl).trans ((F39 164 55 rfl).trans ((F38 164 55 rfl).trans ((F37 164 55 rfl).trans ((F36 164 55 rfl).trans ((F35 164 55 rfl).trans ((F34 164 55 rfl).trans ((F33 164 55 rfl).trans ((F32 164 55 rfl).trans ((F31 164 55 rfl).trans ((F30 164 55 rfl).trans ((F29 164 55 rfl).trans ((F28 164 55 rfl).trans (f164_55 (h := h) hT))))))))))))))) ?_
  refine am_e_iconst (w := 4) n97_78 rfl ?_
  refine am_e_iload_n n97_79 rfl ?_
  refine am_e_imul (w := 0) n97_80 (by decide) ?_
  refine am_e_iload_n n97_81 rfl ?_
  refine am_e_iadd (w := 0) n97_82 (by decide) ?_
  refine am_e_iaload (v := 0) (q := 0) n97_83 rfl (by decide) (by decide) ((F41 193 0 rfl).trans ((F40 193 0 rfl).trans ((F39 193 0 rfl).trans ((F38 193 0 rfl).trans ((F37 193 0 rfl).trans ((F36 193 0 rfl).trans ((F35 193 0 rfl).trans ((F34 193 0 rfl).trans ((F33 193 0 rfl).trans ((F32 193 0 rfl).trans ((F31 193 0 rfl).trans ((F30 193 0 rfl).trans ((F29 193 0 rfl).trans ((F28 193 0 rfl).trans (f193_0 (h := h) hT))))))))))))))) ?_
  refine am_e_iastore (q := 4) n97_84 rfl (by decide) (by decide) ?_
  refine am_e_iinc (w := 1) (ls' := [(3, .int 1), (0, .ref 164), (1, .int 1), (2, .int 0)]) n97_85 rfl rfl (by decide) rfl ?_
  refine am_e_goto c97_86 t97_86 ?_
  refine am_e_iload_n n97_34 rfl ?_
  refine am_e_iconst (w := 4) n97_35 rfl ?_
  refine am_e_cmpF n97_36 (am_c_geF (by decide)) ?_
  refine am_e_aload_n n97_37 rfl ?_
  refine am_e_getf (v := .ref 191) n97_38 rfl ((F41 164 53 rfl).trans ((F40 164 53 rfl).trans ((F39 164 53 rfl).trans ((F38 164 53 rfl).trans ((F37 164 53 rfl).trans ((F36 164 53 rfl).trans ((F35 164 53 rfl).trans ((F34 164 53 rfl).trans ((F33 164 53 rfl).trans ((F32 164 53 rfl).trans ((F31 164 53 rfl).trans ((F30 164 53 rfl).trans ((F29 164 53 rfl).trans ((F28 164 53 rfl).trans (f164_53 (h := h) hT))))))))))))))) ?_
  refine am_e_iconst (w := 4) n97_39 rfl ?_
  refine am_e_iload_n n97_40 rfl ?_
  refine am_e_imul (w := 4) n97_41 (by decide) ?_
  refine am_e_iload_n n97_42 rfl ?_
  refine am_e_iadd (w := 5) n97_43 (by decide) ?_
  refine am_e_aload_n n97_44 rfl ?_
  refine am_e_getf (v := .ref 191) n97_45 rfl ((F41 164 53 rfl).trans ((F40 164 53 rfl).trans ((F39 164 53 rfl).trans ((F38 164 53 rfl).trans ((F37 164 53 rfl).trans ((F36 164 53 rfl).trans ((F35 164 53 rfl).trans ((F34 164 53 rfl).trans ((F33 164 53 rfl).trans ((F32 164 53 rfl).trans ((F31 164 53 rfl).trans ((F30 164 53 rfl).trans ((F29 164 53 rfl).trans ((F28 164 53 rfl).trans (f164_53 (h := h) hT))))))))))))))) ?_
  refine am_e_iconst (w := 4) n97_46 rfl ?_
  refine am_e_iload_n n97_47 rfl ?_
  refine am_e_imul (w := 0) n97_48 (by decide) ?_
  refine am_e_iload_n n97_49 rfl ?_
  refine am_e_iadd (w := 1) n97_50 (by decide) ?_
  refine am_e_iaload (v := 0) (q := 1) n97_51 rfl (by decide) (by decide) ((F41 191 1 rfl).trans ((F40 191 1 rfl).trans ((F39 191 1 rfl).trans ((F38 191 1 rfl).trans ((F37 191 1 rfl).trans ((F36 191 1 rfl).trans ((F35 191 1 rfl).trans ((F34 191 1 rfl).trans ((F33 191 1 rfl).trans ((F32 191 1 rfl).trans ((F31 191 1 rfl).trans ((F30 191 1 rfl).trans ((F29 191 1 rfl).trans ((F28 191 1 rfl).trans (f191_1 (h := h) hT))))))))))))))) ?_
  refine am_e_iastore (q := 5) n97_52 rfl (by decide) (by decide) ?_
  refine am_e_aload_n n97_53 rfl ?_
  refine am_e_getf (v := .ref 192) n97_54 rfl ((F41 164 54 rfl).trans ((F40 164 54 rfl).trans ((F39 164 54 rfl).trans ((F38 164 54 rfl).trans ((F37 164 54 rfl).trans ((F36 164 54 rfl).trans ((F35 164 54 rfl).trans ((F34 164 54 rfl).trans ((F33 164 54 rfl).trans ((F32 164 54 rfl).trans ((F31 164 54 rfl).trans ((F30 164 54 rfl).trans ((F29 164 54 rfl).trans ((F28 164 54 rfl).trans (f164_54 (h := h) hT))))))))))))))) ?_
  refine am_e_iconst (w := 4) n97_55 rfl ?_
  refine am_e_iload_n n97_56 rfl ?_
  refine am_e_imul (w := 4) n97_57 (by decide) ?_
  refine am_e_iload_n n97_58 rfl ?_
  refine am_e_iadd (w := 5) n97_59 (by decide) ?_
  refine am_e_aload_n n97_60 rfl ?_
  refine am_e_getf (v := .ref 192) n97_61 rfl ((F41 164 54 rfl).trans ((F40 164 54 rfl).trans ((F39 164 54 rfl).trans ((F38 164 54 rfl).trans ((F37 164 54 rfl).trans ((F36 164 54 rfl).trans ((F35 164 54 rfl).trans ((F34 164 54 rfl).trans ((F33 164 54 rfl).trans ((F32 164 54 rfl).trans ((F31 164 54 rfl).trans ((F30 164 54 rfl).trans ((F29 164 54 rfl).trans ((F28 164 54 rfl).trans (f164_54 (h := h) hT))))))))))))))) ?_
  refine am_e_iconst (w := 4) n97_62 rfl ?_
  refine am_e_iload_n n97_63 rfl ?_
  refine am_e_imul (w := 0) n97_64 (by decide) ?_
  refine am_e_iload_n n97_65 rfl ?_
  refine am_e_iadd (w := 1) n97_66 (by decide) ?_
  refine am_e_iaload (v := 0) (q := 1) n97_67 rfl (by decide) (by decide) ((F41 192 1 rfl).trans ((F40 192 1 rfl).trans ((F39 192 1 rfl).trans ((F38 192 1 rfl).trans ((F37 192 1 rfl).trans ((F36 192 1 rfl).trans ((F35 192 1 rfl).trans ((F34 192 1 rfl).trans ((F33 192 1 rfl).trans ((F32 192 1 rfl).trans ((F31 192 1 rfl).trans ((F30 192 1 rfl).trans ((F29 192 1 rfl).trans ((F28 192 1 rfl).trans (f192_1 (h := h) hT))))))))))))))) ?_
  refine am_e_iastore (q := 5) n97_68 rfl (by decide) (by decide) ?_
  refine am_e_aload_n n97_69 rfl ?_
  refine am_e_getf (v := .ref 193) n97_70 rfl ((F41 164 55 rfl).trans ((F40 164 55 rfl).trans ((F39 164 55 rfl).trans ((F38 164 55 rfl).trans ((F37 164 55 rfl).trans ((F36 164 55 rfl).trans ((F35 164 55 rfl).trans ((F34 164 55 rfl).trans ((F33 164 55 rfl).trans ((F32 164 55 rfl).trans ((F31 164 55 rfl).trans ((F30 164 55 rfl).trans ((F29 164 55 rfl).trans ((F28 164 55 rfl).trans (f164_55 (h := h) hT))))))))))))))) ?_
  refine am_e_iconst (w := 4) n97_71 rfl ?_
  refine am_e_iload_n n97_72 rfl ?_
  refine am_e_imul (w := 4) n97_73 (by decide) ?_
  refine am_e_iload_n n97_74 rfl ?_
  refine am_e_iadd (w := 5) n97_75 (by decide) ?_
  refine am_e_aload_n n97_76 rfl ?_
  refine am_e_getf (v := .ref 193) n97_77 rfl ((F41 164 55 rfl).trans ((F40 164 55 rfl).trans ((F39 164 55 rfl).trans ((F38 164 55 rfl).trans ((F37 164 55 rfl).trans ((F36 164 55 rfl).trans ((F35 164 55 rfl).trans ((F34 164 55 rfl).trans ((F33 164 55 rfl).trans ((F32 164 55 rfl).trans ((F31 164 55 rfl).trans ((F30 164 55 rfl).trans ((F29 164 55 rfl).trans ((F28 164 55 rfl).trans (f164_55 (h := h) hT))))))))))))))) ?_
  refine am_e_iconst (w := 4) n97_78 rfl ?_
  refine am_e_iload_n n97_79 rfl ?_
  refine am_e_imul (w := 0) n97_80 (by decide) ?_
  refine am_e_iload_n n97_81 rfl ?_
  refine am_e_iadd (w := 1) n97_82 (by decide) ?_
  refine am_e_iaload (v := 0) (q := 1) n97_83 rfl (by decide) (by decide) ((F41 193 1 rfl).trans ((F40 193 1 rfl).trans ((F39 193 1 rfl).trans ((F38 193 1 rfl).trans ((F37 193 1 rfl).trans ((F36 193 1 rfl).trans ((F35 193 1 rfl).trans ((F34 193 1 rfl).trans ((F33 193 1 rfl).trans ((F32 193 1 rfl).trans ((F31 193 1 rfl).trans ((F30 193 1 rfl).trans ((F29 193 1 rfl).trans ((F28 193 1 rfl).trans (f193_1 (h := h) hT))))))))))))))) ?_
  refine am_e_iastore (q := 5) n97_84 rfl (by decide) (by decide) ?_
  refine am_e_iinc (w := 2) (ls' := [(3, .int 2), (0, .ref 164), (1, .int 1), (2, .int 0)]) n97_85 rfl rfl (by decide) rfl ?_
  refine am_e_goto c97_86 t97_86 ?_
  refine am_e_iload_n n97_34 rfl ?_
  refine am_e_iconst (w := 4) n97_35 rfl ?_
  refine am_e_cmpF n97_36 (am_c_geF (by decide)) ?_
  refine am_e_aload_n n97_37 rfl ?_
  refine am_e_getf (v := .ref 191) n97_38 rfl ((F41 164 53 rfl).trans ((F40 164 53 rfl).trans ((F39 164 53 rfl).trans ((F38 164 53 rfl).trans ((F37 164 53 rfl).trans ((F36 164 53 rfl).trans ((F35 164 53 rfl).trans ((F34 164 53 rfl).trans ((F33 164 53 rfl).trans ((F32 164 53 rfl).trans ((F31 164 53 rfl).trans ((F30 164 53 rfl).trans ((F29 164 53 rfl).trans ((F28 164 53 rfl).trans (f164_53 (h := h) hT))))))))))))))) ?_
  refine am_e_iconst (w := 4) n97_39 rfl ?_
  refine am_e_iload_n n97_40 rfl ?_
  refine am_e_imul (w := 4) n97_41 (by decide) ?_
  refine am_e_iload_n n97_42 rfl ?_
  refine am_e_iadd (w := 6) n97_43 (by decide) ?_
  refine am_e_aload_n n97_44 rfl ?_
  refine am_e_getf (v := .ref 191) n97_45 rfl ((F41 164 53 rfl).trans ((F40 164 53 rfl).trans ((F39 164 53 rfl).trans ((F38 164 53 rfl).trans ((F37 164 53 rfl).trans ((F36 164 53 rfl).trans ((F35 164 53 rfl).trans ((F34 164 53 rfl).trans ((F33 164 53 rfl).trans ((F32 164 53 rfl).trans ((F31 164 53 rfl).trans ((F30 164 53 rfl).trans ((F29 164 53 rfl).trans ((F28 164 53 rfl).trans (f164_53 (h := h) hT))))))))))))))) ?_
  refine am_e_iconst (w := 4) n97_46 rfl ?_
  refine am_e_iload_n n97_47 rfl ?_
  refine am_e_imul (w := 0) n97_48 (by decide) ?_
  refine am_e_iload_n n97_49 rfl ?_
  refine am_e_iadd (w := 2) n97_50 (by decide) ?_
  refine am_e_iaload (v := 0) (q := 2) n97_51 rfl (by decide) (by decide) ((F41 191 2 rfl).trans ((F40 191 2 rfl).trans ((F39 191 2 rfl).trans ((F38 191 2 rfl).trans ((F37 191 2 rfl).trans ((F36 191 2 rfl).trans ((F35 191 2 rfl).trans ((F34 191 2 rfl).trans ((F33 191 2 rfl).trans ((F32 191 2 rfl).trans ((F31 191 2 rfl).trans ((F30 191 2 rfl).trans ((F29 191 2 rfl).trans ((F28 191 2 rfl).trans (f191_2 (h := h) hT))))))))))))))) ?_
  refine am_e_iastore (q := 6) n97_52 rfl (by decide) (by decide) ?_
  refine am_e_aload_n n97_53 rfl ?_
  refine am_e_getf (v := .ref 192) n97_54 rfl ((F41 164 54 rfl).trans ((F40 164 54 rfl).trans ((F39 164 54 rfl).trans ((F38 164 54 rfl).trans ((F37 164 54 rfl).trans ((F36 164 54 rfl).trans ((F35 164 54 rfl).trans ((F34 164 54 rfl).trans ((F33 164 54 rfl).trans ((F32 164 54 rfl).trans ((F31 164 54 rfl).trans ((F30 164 54 rfl).trans ((F29 164 54 rfl).trans ((F28 164 54 rfl).trans (f164_54 (h := h) hT))))))))))))))) ?_
  refine am_e_iconst (w := 4) n97_55 rfl ?_
  refine am_e_iload_n n97_56 rfl ?_
  refine am_e_imul (w := 4) n97_57 (by decide) ?_
  refine am_e_iload_n n97_58 rfl ?_
  refine am_e_iadd (w := 6) n97_59 (by decide) ?_
  refine am_e_aload_n n97_60 rfl ?_
  refine am_e_getf (v := .ref 192) n97_61 rfl ((F41 164 54 rfl).trans ((F40 164 54 rfl).trans ((F39 164 54 rfl).trans ((F38 164 54 rfl).trans ((F37 164 54 rfl).trans ((F36 164 54 rfl).trans ((F35 164 54 rfl).trans ((F34 164 54 rfl).trans ((F33 164 54 rfl).trans ((F32 164 54 rfl).trans ((F31 164 54 rfl).trans ((F30 164 54 rfl).trans ((F29 164 54 rfl).trans ((F28 164 54 rfl).trans (f164_54 (h := h) hT))))))))))))))) ?_
  refine am_e_iconst (w := 4) n97_62 rfl ?_
  refine am_e_iload_n n97_63 rfl ?_
  refine am_e_imul (w := 0) n97_64 (by decide) ?_
  refine am_e_iload_n n97_65 rfl ?_
  refine am_e_iadd (w := 2) n97_66 (by decide) ?_
  refine am_e_iaload (v := 0) (q := 2) n97_67 rfl (by decide) (by decide) ((F41 192 2 rfl).trans ((F40 192 2 rfl).trans ((F39 192 2 rfl).trans ((F38 192 2 rfl).trans ((F37 192 2 rfl).trans ((F36 192 2 rfl).trans ((F35 192 2 rfl).trans ((F34 192 2 rfl).trans ((F33 192 2 rfl).trans ((F32 192 2 rfl).trans ((F31 192 2 rfl).trans ((F30 192 2 rfl).trans ((F29 192 2 rfl).trans ((F28 192 2 rfl).trans (f192_2 (h := h) hT))))))))))))))) ?_
  refine am_e_iastore (q := 6) n97_68 rfl (by decide) (by decide) ?_
  refine am_e_aload_n n97_69 rfl ?_
  refine am_e_getf (v := .ref 193) n97_70 rfl ((F41 164 55 rfl).trans ((F40 164 55 rfl).trans ((F39 164 55 rfl).trans ((F38 164 55 rfl).trans ((F37 164 55 rfl).trans ((F36 164 55 rfl).trans ((F35 164 55 rfl).trans ((F34 164 55 rfl).trans ((F33 164 55 rfl).trans ((F32 164 55 rfl).trans ((F31 164 55 rfl).trans ((F30 164 55 rfl).trans ((F29 164 55 rfl).trans ((F28 164 55 rfl).trans (f164_55 (h := h) hT))))))))))))))) ?_
  refine am_e_iconst (w := 4) n97_71 rfl ?_
  refine am_e_iload_n n97_72 rfl ?_
  refine am_e_imul (w := 4) n97_73 (by decide) ?_
  refine am_e_iload_n n97_74 rfl ?_
  refine am_e_iadd (w := 6) n97_75 (by decide) ?_
  refine am_e_aload_n n97_76 rfl ?_
  refine am_e_getf (v := .ref 193) n97_77 rfl ((F41 164 55 rfl).trans ((F40 164 55 rfl).trans ((F39 164 55 rfl).trans ((F38 164 55 rfl).trans ((F37 164 55 rfl).trans ((F36 164 55 rfl).trans ((F35 164 55 rfl).trans ((F34 164 55 rfl).trans ((F33 164 55 rfl).trans ((F32 164 55 rfl).trans ((F31 164 55 rfl).trans ((F30 164 55 rfl).trans ((F29 164 55 rfl).trans ((F28 164 55 rfl).trans (f164_55 (h := h) hT))))))))))))))) ?_
  refine am_e_iconst (w := 4) n97_78 rfl ?_
  refine am_e_iload_n n97_79 rfl ?_
  refine am_e_imul (w := 0) n97_80 (by decide) ?_
  refine am_e_iload_n n97_81 rfl ?_
  refine am_e_iadd (w := 2) n97_82 (by decide) ?_
  refine am_e_iaload (v := 0) (q := 2) n97_83 rfl (by decide) (by decide) ((F41 193 2 rfl).trans ((F40 193 2 rfl).trans ((F39 193 2 rfl).trans ((F38 193 2 rfl).trans ((F37 193 2 rfl).trans ((F36 193 2 rfl).trans ((F35 193 2 rfl).trans ((F34 193 2 rfl).trans ((F33 193 2 rfl).trans ((F32 193 2 rfl).trans ((F31 193 2 rfl).trans ((F30 193 2 rfl).trans ((F29 193 2 rfl).trans ((F28 193 2 rfl).trans (f193_2 (h := h) hT))))))))))))))) ?_
  refine am_e_iastore (q := 6) n97_84 rfl (by decide) (by decide) ?_
  refine am_e_iinc (w := 3) (ls' := [(3, .int 3), (0, .ref 164), (1, .int 1), (2, .int 0)]) n97_85 rfl rfl (by decide) rfl ?_
  refine am_e_goto c97_86 t97_86 ?_
  refine am_e_iload_n n97_34 rfl ?_
  refine am_e_iconst (w := 4) n97_35 rfl ?_
  refine am_e_cmpF n97_36 (am_c_geF (by decide)) ?_
  refine am_e_aload_n n97_37 rfl ?_
  refine am_e_getf (v := .ref 191) n97_38 rfl ((F41 164 53 rfl).trans ((F40 164 53 rfl).trans ((F39 164 53 rfl).trans ((F38 164 53 rfl).trans ((F37 164 53 rfl).trans ((F36 164 53 rfl).trans ((F35 164 53 rfl).trans ((F34 164 53 rfl).trans ((F33 164 53 rfl).trans ((F32 164 53 rfl).trans ((F31 164 53 rfl).trans ((F30 164 53 rfl).trans ((F29 164 53 rfl).trans ((F28 164 53 rfl).trans (f164_53 (h := h) hT))))))))))))))) ?_
  refine am_e_iconst (w := 4) n97_39 rfl ?_
  refine am_e_iload_n n97_40 rfl ?_
  refine am_e_imul (w := 4) n97_41 (by decide) ?_
  refine am_e_iload_n n97_42 rfl ?_
  refine am_e_iadd (w := 7) n97_43 (by decide) ?_
  refine am_e_aload_n n97_44 rfl ?_
  refine am_e_getf (v := .ref 191) n97_45 rfl ((F41 164 53 rfl).trans ((F40 164 53 rfl).trans ((F39 164 53 rfl).trans ((F38 164 53 rfl).trans ((F37 164 53 rfl).trans ((F36 164 53 rfl).trans ((F35 164 53 rfl).trans ((F34 164 53 rfl).trans ((F33 164 53 rfl).trans ((F32 164 53 rfl).trans ((F31 164 53 rfl).trans ((F30 164 53 rfl).trans ((F29 164 53 rfl).trans ((F28 164 53 rfl).trans (f164_53 (h := h) hT))))))))))))))) ?_
  refine am_e_iconst (w := 4) n97_46 rfl ?_
  refine am_e_iload_n n97_47 rfl ?_
  refine am_e_imul (w := 0) n97_48 (by decide) ?_
  refine am_e_iload_n n97_49 rfl ?_
  refine am_e_iadd (w := 3) n97_50 (by decide) ?_
  refine am_e_iaload (v := 0) (q := 3) n97_51 rfl (by decide) (by decide) ((F41 191 3 rfl).trans ((F40 191 3 rfl).trans ((F39 191 3 rfl).trans ((F38 191 3 rfl).trans ((F37 191 3 rfl).trans ((F36 191 3 rfl).trans ((F35 191 3 rfl).trans ((F34 191 3 rfl).trans ((F33 191 3 rfl).trans ((F32 191 3 rfl).trans ((F31 191 3 rfl).trans ((F30 191 3 rfl).trans ((F29 191 3 rfl).trans ((F28 191 3 rfl).trans (f191_3 (h := h) hT))))))))))))))) ?_
  refine am_e_iastore (q := 7) n97_52 rfl (by decide) (by decide) ?_
  refine am_e_aload_n n97_53 rfl ?_
  refine am_e_getf (v := .ref 192) n97_54 rfl ((F41 164 54 rfl).trans ((F40 164 54 rfl).trans ((F39 164 54 rfl).trans ((F38 164 54 rfl).trans ((F37 164 54 rfl).trans ((F36 164 54 rfl).trans ((F35 164 54 rfl).trans ((F34 164 54 rfl).trans ((F33 164 54 rfl).trans ((F32 164 54 rfl).trans ((F31 164 54 rfl).trans ((F30 164 54 rfl).trans ((F29 164 54 rfl).trans ((F28 164 54 rfl).trans (f164_54 (h := h) hT))))))))))))))) ?_
  refine am_e_iconst (w := 4) n97_55 rfl ?_
  refine am_e_iload_n n97_56 rfl ?_
  refine am_e_imul (w := 4) n97_57 (by decide) ?_
  refine am_e_iload_n n97_58 rfl ?_
  refine am_e_iadd (w := 7) n97_59 (by decide) ?_
  refine am_e_aload_n n97_60 rfl ?_
  refine am_e_getf (v := .ref 192) n97_61 rfl ((F41 164 54 rfl).trans ((F40 164 54 rfl).trans ((F39 164 54 rfl).trans ((F38 164 54 rfl).trans ((F37 164 54 rfl).trans ((F36 164 54 rfl).trans ((F35 164 54 rfl).trans ((F34 164 54 rfl).trans ((F33 164 54 rfl).trans ((F32 164 54 rfl).trans ((F31 164 54 rfl).trans ((F30 164 54 rfl).trans ((F29 164 54 rfl).trans ((F28 164 54 rfl).trans (f164_54 (h := h) hT))))))))))))))) ?_
  refine am_e_iconst (w := 4) n97_62 rfl ?_
  refine am_e_iload_n n97_63 rfl ?_
  refine am_e_imul (w := 0) n97_64 (by decide) ?_
  refine am_e_iload_n n97_65 rfl ?_
  refine am_e_iadd (w := 3) n97_66 (by decide) ?_
  refine am_e_iaload (v := 0) (q := 3) n97_67 rfl (by decide) (by decide) ((F41 192 3 rfl).trans ((F40 192 3 rfl).trans ((F39 192 3 rfl).trans ((F38 192 3 rfl).trans ((F37 192 3 rfl).trans ((F36 192 3 rfl).trans ((F35 192 3 rfl).trans ((F34 192 3 rfl).trans ((F33 192 3 rfl).trans ((F32 192 3 rfl).trans ((F31 192 3 rfl).trans ((F30 192 3 rfl).trans ((F29 192 3 rfl).trans ((F28 192 3 rfl).trans (f192_3 (h := h) hT))))))))))))))) ?_
  refine am_e_iastore (q := 7) n97_68 rfl (by decide) (by decide) ?_
  refine am_e_aload_n n97_69 rfl ?_
  refine am_e_getf (v := .ref 193) n97_70 rfl ((F41 164 55 rfl).trans ((F40 164 55 rfl).trans ((F39 164 55 rfl).trans ((F38 164 55 rfl).trans ((F37 164 55 rfl).trans ((F36 164 55 rfl).trans ((F35 164 55 rfl).trans ((F34 164 55 rfl).trans ((F33 164 55 rfl).trans ((F32 164 55 rfl).trans ((F31 164 55 rfl).trans ((F30 164 55 rfl).trans ((F29 164 55 rfl).trans ((F28 164 55 rfl).trans (f164_55 (h := h) hT))))))))))))))) ?_
  refine am_e_iconst (w := 4) n97_71 rfl ?_
  refine am_e_iload_n n97_72 rfl ?_
  refine am_e_imul (w := 4) n97_73 (by decide) ?_
  refine am_e_iload_n n97_74 rfl ?_
  refine am_e_iadd (w := 7) n97_75 (by decide) ?_
  refine am_e_aload_n n97_76 rfl ?_
  refine am_e_getf (v := .ref 193) n97_77 rfl ((F41 164 55 rfl).trans ((F40 164 55 rfl).trans ((F39 164 55 rfl).trans ((F38 164 55 rfl).trans ((F37 164 55 rfl).trans ((F36 164 55 rfl).trans ((F35 164 55 rfl).trans ((F34 164 55 rfl).trans ((F33 164 55 rfl).trans ((F32 164 55 rfl).trans ((F31 164 55 rfl).trans ((F30 164 55 rfl).trans ((F29 164 55 rfl).trans ((F28 164 55 rfl).trans (f164_55 (h := h) hT))))))))))))))) ?_
  refine am_e_iconst (w := 4) n97_78 rfl ?_
  refine am_e_iload_n n97_79 rfl ?_
  refine am_e_imul (w := 0) n97_80 (by decide) ?_
  refine am_e_iload_n n97_81 rfl ?_
  refine am_e_iadd (w := 3) n97_82 (by decide) ?_
  refine am_e_iaload (v := 0) (q := 3) n97_83 rfl (by decide) (by decide) ((F41 193 3 rfl).trans ((F40 193 3 rfl).trans ((F39 193 3 rfl).trans ((F38 193 3 rfl).trans ((F37 193 3 rfl).trans ((F36 193 3 rfl).trans ((F35 193 3 rfl).trans ((F34 193 3 rfl).trans ((F33 193 3 rfl).trans ((F32 193 3 rfl).trans ((F31 193 3 rfl).trans ((F30 193 3 rfl).trans ((F29 193 3 rfl).trans ((F28 193 3 rfl).trans (f193_3 (h := h) hT))))))))))))))) ?_
  refine am_e_iastore (q := 7) n97_84 rfl (by decide) (by decide) ?_
  refine am_e_iinc (w := 4) (ls' := [(3, .int 4), (0, .ref 164), (1, .int 1), (2, .int 0)]) n97_85 rfl rfl (by decide) rfl ?_
  refine am_e_goto c97_86 t97_86 ?_
  refine am_e_iload_n n97_34 rfl ?_
  refine am_e_iconst (w := 4) n97_35 rfl ?_
  refine am_e_cmpT n97_36 (am_c_geT (by decide)) t97_36 ?_
  refine am_e_vret c97_87 rfl rfl ?_
  refine am_e_iconst (w := 0) n127_35 rfl ?_
  refine am_e_istore (ls' := [(8, .int 0), (7, .int 4), (6, .int 4), (0, .ref 164), (2, .int (nI n)), (3, .int (nI 0)), (4, .long 0)]) n127_36 rfl rfl ?_
  refine am_Ek_ls (ls' := [(0, .ref 164), (2, .int (nI n)), (3, .int (nI 0)), (4, .long 0), (6, .int 4), (7, .int 4), (8, .int (nI 0))]) ⟨rfl, rfl, rfl, rfl, rfl, rfl, rfl, trivial⟩ ?_
  refine am_cm_e (n := n) (b := 0) (s := 0) (t := 4) (i7 := 4) (dr := dr41) (by omega) (by omega) ⟨((F41 164 23 rfl).trans ((F40 164 23 rfl).trans ((F39 164 23 rfl).trans ((F38 164 23 rfl).trans ((F37 164 23 rfl).trans ((F36 164 23 rfl).trans ((F35 164 23 rfl).trans ((F34 164 23 rfl).trans ((F33 164 23 rfl).trans ((F32 164 23 rfl).trans ((F31 164 23 rfl).trans ((F30 164 23 rfl).trans ((F29 164 23 rfl).trans ((F28 164 23 rfl).trans (f164_23 (h := h) hT))))))))))))))), ((F41 168 4 rfl).trans ((F40 168 4 rfl).trans ((F39 168 4 rfl).trans ((F38 168 4 rfl).trans ((F37 168 4 rfl).trans ((F36 168 4 rfl).trans ((F35 168 4 rfl).trans ((F34 168 4 rfl).trans ((F33 168 4 rfl).trans ((F32 168 4 rfl).trans ((F31 168 4 rfl).trans ((F30 168 4 rfl).trans ((F29 168 4 rfl).trans ((F28 168 4 rfl).trans (f168_4 (h := h) hT))))))))))))))), ((F41 164 50 rfl).trans ((F40 164 50 rfl).trans ((F39 164 50 rfl).trans ((F38 164 50 rfl).trans ((F37 164 50 rfl).trans ((F36 164 50 rfl).trans ((F35 164 50 rfl).trans ((F34 164 50 rfl).trans ((F33 164 50 rfl).trans ((F32 164 50 rfl).trans ((F31 164 50 rfl).trans ((F30 164 50 rfl).trans ((F29 164 50 rfl).trans ((F28 164 50 rfl).trans (f164_50 (h := h) hT))))))))))))))), ((F41 164 61 rfl).trans ((F40 164 61 rfl).trans ((F39 164 61 rfl).trans ((F38 164 61 rfl).trans ((F37 164 61 rfl).trans ((F36 164 61 rfl).trans ((F35 164 61 rfl).trans ((F34 164 61 rfl).trans ((F33 164 61 rfl).trans ((F32 164 61 rfl).trans ((F31 164 61 rfl).trans ((F30 164 61 rfl).trans ((F29 164 61 rfl).trans ((F28 164 61 rfl).trans (f164_61 (h := h) hT))))))))))))))), ((F41 164 47 rfl).trans ((F40 164 47 rfl).trans ((F39 164 47 rfl).trans ((F38 164 47 rfl).trans ((F37 164 47 rfl).trans ((F36 164 47 rfl).trans ((F35 164 47 rfl).trans ((F34 164 47 rfl).trans ((F33 164 47 rfl).trans ((F32 164 47 rfl).trans ((F31 164 47 rfl).trans ((F30 164 47 rfl).trans ((F29 164 47 rfl).trans ((F28 164 47 rfl).trans (f164_47 (h := h) hT))))))))))))))), ((F41 168 0 rfl).trans ((F40 168 0 rfl).trans ((F39 168 0 rfl).trans ((F38 168 0 rfl).trans ((F37 168 0 rfl).trans ((F36 168 0 rfl).trans ((F35 168 0 rfl).trans ((F34 168 0 rfl).trans ((F33 168 0 rfl).trans ((F32 168 0 rfl).trans ((F31 168 0 rfl).trans ((F30 168 0 rfl).trans ((F29 168 0 rfl).trans ((F28 168 0 rfl).trans (f168_0 (h := h) hT))))))))))))))), ((F41 164 51 rfl).trans ((F40 164 51 rfl).trans ((F39 164 51 rfl).trans ((F38 164 51 rfl).trans ((F37 164 51 rfl).trans ((F36 164 51 rfl).trans ((F35 164 51 rfl).trans ((F34 164 51 rfl).trans ((F33 164 51 rfl).trans ((F32 164 51 rfl).trans ((F31 164 51 rfl).trans ((F30 164 51 rfl).trans ((F29 164 51 rfl).trans ((F28 164 51 rfl).trans (f164_51 (h := h) hT))))))))))))))), ((F41 164 33 rfl).trans ((F40 164 33 rfl).trans ((F39 164 33 rfl).trans ((F38 164 33 rfl).trans ((F37 164 33 rfl).trans ((F36 164 33 rfl).trans ((F35 164 33 rfl).trans ((F34 164 33 rfl).trans ((F33 164 33 rfl).trans ((F32 164 33 rfl).trans ((F31 164 33 rfl).trans ((F30 164 33 rfl).trans ((F29 164 33 rfl).trans ((F28 164 33 rfl).trans (f164_33 (h := h) hT))))))))))))))), ((F41 178 2 rfl).trans ((F40 178 2 rfl).trans ((F39 178 2 rfl).trans ((F38 178 2 rfl).trans ((F37 178 2 rfl).trans ((F36 178 2 rfl).trans ((F35 178 2 rfl).trans ((F34 178 2 rfl).trans ((F33 178 2 rfl).trans ((F32 178 2 rfl).trans ((F31 178 2 rfl).trans ((F30 178 2 rfl).trans ((F29 178 2 rfl).trans ((F28 178 2 rfl).trans (f178_2 (h := h) hT))))))))))))))), ((F41 178 0 rfl).trans ((F40 178 0 rfl).trans ((F39 178 0 rfl).trans ((F38 178 0 rfl).trans ((F37 178 0 rfl).trans ((F36 178 0 rfl).trans ((F35 178 0 rfl).trans ((F34 178 0 rfl).trans ((F33 178 0 rfl).trans ((F32 178 0 rfl).trans ((F31 178 0 rfl).trans ((F30 178 0 rfl).trans ((F29 178 0 rfl).trans ((F28 178 0 rfl).trans (f178_0 (h := h) hT))))))))))))))), ((F41 164 62 rfl).trans ((F40 164 62 rfl).trans ((F39 164 62 rfl).trans ((F38 164 62 rfl).trans ((F37 164 62 rfl).trans ((F36 164 62 rfl).trans ((F35 164 62 rfl).trans ((F34 164 62 rfl).trans ((F33 164 62 rfl).trans ((F32 164 62 rfl).trans ((F31 164 62 rfl).trans ((F30 164 62 rfl).trans ((F29 164 62 rfl).trans ((F28 164 62 rfl).trans (f164_62 (h := h) hT))))))))))))))), ((F41 164 58 rfl).trans ((F40 164 58 rfl).trans ((F39 164 58 rfl).trans ((F38 164 58 rfl).trans ((F37 164 58 rfl).trans ((F36 164 58 rfl).trans ((F35 164 58 rfl).trans ((F34 164 58 rfl).trans ((F33 164 58 rfl).trans ((F32 164 58 rfl).trans ((F31 164 58 rfl).trans ((F30 164 58 rfl).trans ((F29 164 58 rfl).trans ((F28 164 58 rfl).trans (f164_58 (h := h) hT))))))))))))))), ((F41 164 60 rfl).trans ((F40 164 60 rfl).trans ((F39 164 60 rfl).trans ((F38 164 60 rfl).trans ((F37 164 60 rfl).trans ((F36 164 60 rfl).trans ((F35 164 60 rfl).trans ((F34 164 60 rfl).trans ((F33 164 60 rfl).trans ((F32 164 60 rfl).trans ((F31 164 60 rfl).trans ((F30 164 60 rfl).trans ((F29 164 60 rfl).trans ((F28 164 60 rfl).trans (f164_60 (h := h) hT))))))))))))))), trivial⟩ rfl rfl qc41 ?_
  intro h42 dr42 F42 qa42 qb42 qc42
  refine am_e_iload n127_59 rfl ?_
  refine am_e_aload_n n127_60 rfl ?_
  refine am_e_getf (v := .ref 188) n127_61 rfl ((F42 164 50 rfl).trans ((F41 164 50 rfl).trans ((F40 164 50 rfl).trans ((F39 164 50 rfl).trans ((F38 164 50 rfl).trans ((F37 164 50 rfl).trans ((F36 164 50 rfl).trans ((F35 164 50 rfl).trans ((F34 164 50 rfl).trans ((F33 164 50 rfl).trans ((F32 164 50 rfl).trans ((F31 164 50 rfl).trans ((F30 164 50 rfl).trans ((F29 164 50 rfl).trans ((F28 164 50 rfl).trans (f164_50 (h := h) hT)))))))))))))))) ?_
  refine am_e_iconst (w := 1) n127_62 rfl ?_
  refine am_e_iaload (v := 0) (q := 1) n127_63 rfl (by decide) (by decide) qa42 ?_
  refine am_e_iload_n n127_64 rfl ?_
  refine am_e_cmpF n127_65 (am_c_ltF (by decide)) ?_
  refine am_e_iconst (w := 1) n127_66 rfl ?_
  refine am_e_goto c127_67 t127_67 ?_
  refine am_e_iadd (w := 5) n127_69 (by decide) ?_
  refine am_e_istore (ls' := [(6, .int 5), (0, .ref 164), (2, .int (nI n)), (3, .int (nI 0)), (4, .long 0), (7, .int 4), (8, .int (nI n))]) n127_70 rfl rfl ?_
  refine am_e_iinc (w := 5) (ls' := [(7, .int 5), (6, .int 5), (0, .ref 164), (2, .int (nI n)), (3, .int (nI 0)), (4, .long 0), (8, .int (nI n))]) n127_71 rfl rfl (by decide) rfl ?_
  refine am_e_goto c127_72 t127_72 ?_
  refine am_e_iload n127_28 rfl ?_
  refine am_e_bipush (w := 10) n127_29 (by decide) ?_
  refine am_e_cmpF n127_30 (am_c_geF (by decide)) ?_
  refine am_e_aload_n n127_31 rfl ?_
  refine am_e_iconst (w := 1) n127_32 rfl ?_
  refine am_e_iconst (w := 0) n127_33 rfl ?_
  refine am_e_callV (L := [(0, .ref 164), (1, .int 1), (2, .int 0)]) n127_34 rfl rfl rfl rfl rfl rfl rfl rfl ?_
  refine am_e_aload_n n97_0 rfl ?_
  refine am_e_getf (v := .ref 188) n97_1 rfl ((F42 164 50 rfl).trans ((F41 164 50 rfl).trans ((F40 164 50 rfl).trans ((F39 164 50 rfl).trans ((F38 164 50 rfl).trans ((F37 164 50 rfl).trans ((F36 164 50 rfl).trans ((F35 164 50 rfl).trans ((F34 164 50 rfl).trans ((F33 164 50 rfl).trans ((F32 164 50 rfl).trans ((F31 164 50 rfl).trans ((F30 164 50 rfl).trans ((F29 164 50 rfl).trans ((F28 164 50 rfl).trans (f164_50 (h := h) hT)))))))))))))))) ?_
  refine am_e_iload_n n97_2 rfl ?_
  refine am_e_aload_n n97_3 rfl ?_
  refine am_e_getf (v := .ref 188) n97_4 rfl ((F42 164 50 rfl).trans ((F41 164 50 rfl).trans ((F40 164 50 rfl).trans ((F39 164 50 rfl).trans ((F38 164 50 rfl).trans ((F37 164 50 rfl).trans ((F36 164 50 rfl).trans ((F35 164 50 rfl).trans ((F34 164 50 rfl).trans ((F33 164 50 rfl).trans ((F32 164 50 rfl).trans ((F31 164 50 rfl).trans ((F30 164 50 rfl).trans ((F29 164 50 rfl).trans ((F28 164 50 rfl).trans (f164_50 (h := h) hT)))))))))))))))) ?_
  refine am_e_iload_n n97_5 rfl ?_
  refine am_e_iaload (v := 0) (q := 0) n97_6 rfl (by decide) (by decide) ((F42 188 0 rfl).trans ((F41 188 0 rfl).trans ((F40 188 0 rfl).trans ((F39 188 0 rfl).trans ((F38 188 0 rfl).trans ((F37 188 0 rfl).trans ((F36 188 0 rfl).trans ((F35 188 0 rfl).trans ((F34 188 0 rfl).trans ((F33 188 0 rfl).trans ((F32 188 0 rfl).trans ((F31 188 0 rfl).trans ((F30 188 0 rfl).trans ((F29 188 0 rfl).trans ((F28 188 0 rfl).trans (f188_0 (h := h) hT)))))))))))))))) ?_
  refine am_e_iastore (q := 1) n97_7 rfl (by decide) (by decide) ?_
  refine am_e_aload_n n97_8 rfl ?_
  refine am_e_getf (v := .ref 189) n97_9 rfl ((F42 164 51 rfl).trans ((F41 164 51 rfl).trans ((F40 164 51 rfl).trans ((F39 164 51 rfl).trans ((F38 164 51 rfl).trans ((F37 164 51 rfl).trans ((F36 164 51 rfl).trans ((F35 164 51 rfl).trans ((F34 164 51 rfl).trans ((F33 164 51 rfl).trans ((F32 164 51 rfl).trans ((F31 164 51 rfl).trans ((F30 164 51 rfl).trans ((F29 164 51 rfl).trans ((F28 164 51 rfl).trans (f164_51 (h := h) hT)))))))))))))))) ?_
  refine am_e_iload_n n97_10 rfl ?_
  refine am_e_aload_n n97_11 rfl ?_
  refine am_e_getf (v := .ref 189) n97_12 rfl ((F42 164 51 rfl).trans ((F41 164 51 rfl).trans ((F40 164 51 rfl).trans ((F39 164 51 rfl).trans ((F38 164 51 rfl).trans ((F37 164 51 rfl).trans ((F36 164 51 rfl).trans ((F35 164 51 rfl).trans ((F34 164 51 rfl).trans ((F33 164 51 rfl).trans ((F32 164 51 rfl).trans ((F31 164 51 rfl).trans ((F30 164 51 rfl).trans ((F29 164 51 rfl).trans ((F28 164 51 rfl).trans (f164_51 (h := h) hT)))))))))))))))) ?_
  refine am_e_iload_n n97_13 rfl ?_
  refine am_e_iaload (v := 0) (q := 0) n97_14 rfl (by decide) (by decide) ((F42 189 0 rfl).trans ((F41 189 0 rfl).trans ((F40 189 0 rfl).trans ((F39 189 0 rfl).trans ((F38 189 0 rfl).trans ((F37 189 0 rfl).trans ((F36 189 0 rfl).trans ((F35 189 0 rfl).trans ((F34 189 0 rfl).trans ((F33 189 0 rfl).trans ((F32 189 0 rfl).trans ((F31 189 0 rfl).trans ((F30 189 0 rfl).trans ((F29 189 0 rfl).trans ((F28 189 0 rfl).trans (f189_0 (h := h) hT)))))))))))))))) ?_
  refine am_e_iastore (q := 1) n97_15 rfl (by decide) (by decide) ?_
  refine am_e_aload_n n97_16 rfl ?_
  refine am_e_getf (v := .ref 190) n97_17 rfl ((F42 164 52 rfl).trans ((F41 164 52 rfl).trans ((F40 164 52 rfl).trans ((F39 164 52 rfl).trans ((F38 164 52 rfl).trans ((F37 164 52 rfl).trans ((F36 164 52 rfl).trans ((F35 164 52 rfl).trans ((F34 164 52 rfl).trans ((F33 164 52 rfl).trans ((F32 164 52 rfl).trans ((F31 164 52 rfl).trans ((F30 164 52 rfl).trans ((F29 164 52 rfl).trans ((F28 164 52 rfl).trans (f164_52 (h := h) hT)))))))))))))))) ?_
  refine am_e_iload_n n97_18 rfl ?_
  refine am_e_aload_n n97_19 rfl ?_
  refine am_e_getf (v := .ref 190) n97_20 rfl ((F42 164 52 rfl).trans ((F41 164 52 rfl).trans ((F40 164 52 rfl).trans ((F39 164 52 rfl).trans ((F38 164 52 rfl).trans ((F37 164 52 rfl).trans ((F36 164 52 rfl).trans ((F35 164 52 rfl).trans ((F34 164 52 rfl).trans ((F33 164 52 rfl).trans ((F32 164 52 rfl).trans ((F31 164 52 rfl).trans ((F30 164 52 rfl).trans ((F29 164 52 rfl).trans ((F28 164 52 rfl).trans (f164_52 (h := h) hT)))))))))))))))) ?_
  refine am_e_iload_n n97_21 rfl ?_
  refine am_e_iaload (v := (-1)) (q := 0) n97_22 rfl (by decide) (by decide) ((F42 190 0 rfl).trans ((F41 190 0 rfl).trans ((F40 190 0 rfl).trans ((F39 190 0 rfl).trans ((F38 190 0 rfl).trans ((F37 190 0 rfl).trans ((F36 190 0 rfl).trans ((F35 190 0 rfl).trans ((F34 190 0 rfl).trans ((F33 190 0 rfl).trans ((F32 190 0 rfl).trans ((F31 190 0 rfl).trans ((F30 190 0 rfl).trans ((F29 190 0 rfl).trans ((F28 190 0 rfl).trans (f190_0 (h := h) hT)))))))))))))))) ?_
  refine am_e_iastore (q := 1) n97_23 rfl (by decide) (by decide) ?_
  refine am_e_aload_n n97_24 rfl ?_
  refine am_e_getf (v := .ref 194) n97_25 rfl ((F42 164 56 rfl).trans ((F41 164 56 rfl).trans ((F40 164 56 rfl).trans ((F39 164 56 rfl).trans ((F38 164 56 rfl).trans ((F37 164 56 rfl).trans ((F36 164 56 rfl).trans ((F35 164 56 rfl).trans ((F34 164 56 rfl).trans ((F33 164 56 rfl).trans ((F32 164 56 rfl).trans ((F31 164 56 rfl).trans ((F30 164 56 rfl).trans ((F29 164 56 rfl).trans ((F28 164 56 rfl).trans (f164_56 (h := h) hT)))))))))))))))) ?_
  refine am_e_iload_n n97_26 rfl ?_
  refine am_e_aload_n n97_27 rfl ?_
  refine am_e_getf (v := .ref 194) n97_28 rfl ((F42 164 56 rfl).trans ((F41 164 56 rfl).trans ((F40 164 56 rfl).trans ((F39 164 56 rfl).trans ((F38 164 56 rfl).trans ((F37 164 56 rfl).trans ((F36 164 56 rfl).trans ((F35 164 56 rfl).trans ((F34 164 56 rfl).trans ((F33 164 56 rfl).trans ((F32 164 56 rfl).trans ((F31 164 56 rfl).trans ((F30 164 56 rfl).trans ((F29 164 56 rfl).trans ((F28 164 56 rfl).trans (f164_56 (h := h) hT)))))))))))))))) ?_
  refine am_e_iload_n n97_29 rfl ?_
  refine am_e_iaload (v := 0) (q := 0) n97_30 rfl (by decide) (by decide) ((F42 194 0 rfl).trans ((F41 194 0 rfl).trans ((F40 194 0 rfl).trans ((F39 194 0 rfl).trans ((F38 194 0 rfl).trans ((F37 194 0 rfl).trans ((F36 194 0 rfl).trans ((F35 194 0 rfl).trans ((F34 194 0 rfl).trans ((F33 194 0 rfl).trans ((F32 194 0 rfl).trans ((F31 194 0 rfl).trans ((F30 194 0 rfl).trans ((F29 194 0 rfl).trans ((F28 194 0 rfl).trans (f194_0 (h := h) hT)))))))))))))))) ?_
  refine am_e_iastore (q := 1) n97_31 rfl (by decide) (by decide) ?_
  refine am_e_iconst (w := 0) n97_32 rfl ?_
  refine am_e_istore_n (ls' := [(3, .int 0), (0, .ref 164), (1, .int 1), (2, .int 0)]) n97_33 rfl rfl ?_
  refine am_e_iload_n n97_34 rfl ?_
  refine am_e_iconst (w := 4) n97_35 rfl ?_
  refine am_e_cmpF n97_36 (am_c_geF (by decide)) ?_
  refine am_e_aload_n n97_37 rfl ?_
  refine am_e_getf (v := .ref 191) n97_38 rfl ((F42 164 53 rfl).trans ((F41 164 53 rfl).trans ((F40 164 53 rfl).trans ((F39 164 53 rfl).trans ((F38 164 53 rfl).trans ((F37 164 53 rfl).trans ((F36 164 53 rfl).trans ((F35 164 53 rfl).trans ((F34 164 53 rfl).trans ((F33 164 53 rfl).trans ((F32 164 53 rfl).trans ((F31 164 53 rfl).trans ((F30 164 53 rfl).trans ((F29 164 53 rfl).trans ((F28 164 53 rfl).trans (f164_53 (h := h) hT)))))))))))))))) ?_
  refine am_e_iconst (w := 4) n97_39 rfl ?_
  refine am_e_iload_n n97_40 rfl ?_
  refine am_e_imul (w := 4) n97_41 (by decide) ?_
  refine am_e_iload_n n97_42 rfl ?_
  refine am_e_iadd (w := 4) n97_43 (by decide) ?_
  refine am_e_aload_n n97_44 rfl ?_
  refine am_e_getf (v := .ref 191) n97_45 rfl ((F42 164 53 rfl).trans ((F41 164 53 rfl).trans ((F40 164 53 rfl).trans ((F39 164 53 rfl).trans ((F38 164 53 rfl).trans ((F37 164 53 rfl).trans ((F36 164 53 rfl).trans ((F35 164 53 rfl).trans ((F34 164 53 rfl).trans ((F33 164 53 rfl).trans ((F32 164 53 rfl).trans ((F31 164 53 rfl).trans ((F30 164 53 rfl).trans ((F29 164 53 rfl).trans ((F28 164 53 rfl).trans (f164_53 (h := h) hT)))))))))))))))) ?_
  refine am_e_iconst (w := 4) n97_46 rfl ?_
  refine am_e_iload_n n97_47 rfl ?_
  refine am_e_imul (w := 0) n97_48 (by decide) ?_
  refine am_e_iload_n n97_49 rfl ?_
  refine am_e_iadd (w := 0) n97_50 (by decide) ?_
  refine am_e_iaload (v := 0) (q := 0) n97_51 rfl (by decide) (by decide) ((F42 191 0 rfl).trans ((F41 191 0 rfl).trans ((F40 191 0 rfl).trans ((F39 191 0 rfl).trans ((F38 191 0 rfl).trans ((F37 191 0 rfl).trans ((F36 191 0 rfl).trans ((F35 191 0 rfl).trans ((F34 191 0 rfl).trans ((F33 191 0 rfl).trans ((F32 191 0 rfl).trans ((F31 191 0 rfl).trans ((F30 191 0 rfl).trans ((F29 191 0 rfl).trans ((F28 191 0 rfl).trans (f191_0 (h := h) hT)))))))))))))))) ?_
  refine am_e_iastore (q := 4) n97_52 rfl (by decide) (by decide) ?_
  refine am_e_aload_n n97_53 rfl ?_
  refine am_e_getf (v := .ref 192) n97_54 rfl ((F42 164 54 rfl).trans ((F41 164 54 rfl).trans ((F40 164 54 rfl).trans ((F39 164 54 rfl).trans ((F38 164 54 rfl).trans ((F37 164 54 rfl).trans ((F36 164 54 rfl).trans ((F35 164 54 rfl).trans ((F34 164 54 rfl).trans ((F33 164 54 rfl).trans ((F32 164 54 rfl).trans ((F31 164 54 rfl).trans ((F30 164 54 rfl).trans ((F29 164 54 rfl).trans ((F28 164 54 rfl).trans (f164_54 (h := h) hT)))))))))))))))) ?_
  refine am_e_iconst (w := 4) n97_55 rfl ?_
  refine am_e_iload_n n97_56 rfl ?_
  refine am_e_imul (w := 4) n97_57 (by decide) ?_
  refine am_e_iload_n n97_58 rfl ?_
  refine am_e_iadd (w := 4) n97_59 (by decide) ?_
  refine am_e_aload_n n97_60 rfl ?_
  refine am_e_getf (v := .ref 192) n97_61 rfl ((F42 164 54 rfl).trans ((F41 164 54 rfl).trans ((F40 164 54 rfl).trans ((F39 164 54 rfl).trans ((F38 164 54 rfl).trans ((F37 164 54 rfl).trans ((F36 164 54 rfl).trans ((F35 164 54 rfl).trans ((F34 164 54 rfl).trans ((F33 164 54 rfl).trans ((F32 164 54 rfl).trans ((F31 164 54 rfl).trans ((F30 164 54 rfl).trans ((F29 164 54 rfl).trans ((F28 164 54 rfl).trans (f164_54 (h := h) hT)))))))))))))))) ?_
  refine am_e_iconst (w := 4) n97_62 rfl ?_
  refine am_e_iload_n n97_63 rfl ?_
  refine am_e_imul (w := 0) n97_64 (by decide) ?_
  refine am_e_iload_n n97_65 rfl ?_
  refine am_e_iadd (w := 0) n97_66 (by decide) ?_
  refine am_e_iaload (v := 0) (q := 0) n97_67 rfl (by decide) (by decide) ((F42 192 0 rfl).trans ((F41 192 0 rfl).trans ((F40 192 0 rfl).trans ((F39 192 0 rfl).trans ((F38 192 0 rfl).trans ((F37 192 0 rfl).trans ((F36 192 0 rfl).trans ((F35 192 0 rfl).trans ((F34 192 0 rfl).trans ((F33 192 0 rfl).trans ((F32 192 0 rfl).trans ((F31 192 0 rfl).trans ((F30 192 0 rfl).trans ((F29 192 0 rfl).trans ((F28 192 0 rfl).trans (f192_0 (h := h) hT)))))))))))))))) ?_
  refine am_e_iastore (q := 4) n97_68 rfl (by decide) (by decide) ?_
  refine am_e_aload_n n97_69 rfl ?_
  refine am_e_getf (v := .ref 193) n97_70 rfl ((F42 164 55 rfl).trans ((F41 164 55 rfl).trans ((F40 164 55 rfl).trans ((F39 164 55 rfl).trans ((F38 164 55 rfl).trans ((F37 164 55 rfl).trans ((F36 164 55 rfl).trans ((F35 164 55 rfl).trans ((F34 164 55 rfl).trans ((F33 164 55 rfl).trans ((F32 164 55 rfl).trans ((F31 164 55 rfl).trans ((F30 164 55 rfl).trans ((F29 164 55 rfl).trans ((F28 164 55 rfl).trans (f164_55 (h := h) hT)))))))))))))))) ?_
  refine am_e_iconst (w := 4) n97_71 rfl ?_
  refine am_e_iload_n n97_72 rfl ?_
  refine am_e_imul (w := 4) n97_73 (by decide) ?_
  refine am_e_iload_n n97_74 rfl ?_
  refine am_e_iadd (w := 4) n97_75 (by decide) ?_
  refine am_e_aload_n n97_76 rfl ?_
  refine am_e_getf (v := .ref 193) n97_77 rfl ((F42 164 55 rfl).trans ((F41 164 55 rfl).trans ((F40 164 55 rfl).trans ((F39 164 55 rfl).trans ((F38 164 55 rfl).trans ((F37 164 55 rfl).trans ((F36 164 55 rfl).trans ((F35 164 55 rfl).trans ((F34 164 55 rfl).trans ((F33 164 55 rfl).trans ((F32 164 55 rfl).trans ((F31 164 55 rfl).trans ((F30 164 55 rfl).trans ((F29 164 55 rfl).trans ((F28 164 55 rfl).trans (f164_55 (h := h) hT)))))))))))))))) ?_
  refine am_e_iconst (w := 4) n97_78 rfl ?_
  refine am_e_iload_n n97_79 rfl ?_
  refine am_e_imul (w := 0) n97_80 (by decide) ?_
  refine am_e_iload_n n97_81 rfl ?_
  refine am_e_iadd (w := 0) n97_82 (by decide) ?_
  refine am_e_iaload (v := 0) (q := 0) n97_83 rfl (by decide) (by decide) ((F42 193 0 rfl).trans ((F41 193 0 rfl).trans ((F40 193 0 rfl).trans ((F39 193 0 rfl).trans ((F38 193 0 rfl).trans ((F37 193 0 rfl).trans ((F36 193 0 rfl).trans ((F35 193 0 rfl).trans ((F34 193 0 rfl).trans ((F33 193 0 rfl).trans ((F32 193 0 rfl).trans ((F31 193 0 rfl).trans ((F30 193 0 rfl).trans ((F29 193 0 rfl).trans ((F28 193 0 rfl).trans (f193_0 (h := h) hT)))))))))))))))) ?_
  refine am_e_iastore (q := 4) n97_84 rfl (by decide) (by decide) ?_
  refine am_e_iinc (w := 1) (ls' := [(3, .int 1), (0, .ref 164), (1, .int 1), (2, .int 0)]) n97_85 rfl rfl (by decide) rfl ?_
  refine am_e_goto c97_86 t97_86 ?_
  refine am_e_iload_n n97_34 rfl ?_
  refine am_e_iconst (w := 4) n97_35 rfl ?_
  refine am_e_cmpF n97_36 (am_c_geF (by decide)) ?_
  refine am_e_aload_n n97_37 rfl ?_
  refine am_e_getf (v := .ref 191) n97_38 rfl ((F42 164 53 rfl).trans ((F41 164 53 rfl).trans ((F40 164 53 rfl).trans ((F39 164 53 rfl).trans ((F38 164 53 rfl).trans ((F37 164 53 rfl).trans ((F36 164 53 rfl).trans ((F35 164 53 rfl).trans ((F34 164 53 rfl).trans ((F33 164 53 rfl).trans ((F32 164 53 rfl).trans ((F31 164 53 rfl).trans ((F30 164 53 rfl).trans ((F29 164 53 rfl).trans ((F28 164 53 rfl).trans (f164_53 (h := h) hT)))))))))))))))) ?_
  refine am_e_iconst (w := 4) n97_39 rfl ?_
  refine am_e_iload_n n97_40 rfl ?_
  refine am_e_imul (w := 4) n97_41 (by decide) ?_
  refine am_e_iload_n n97_42 rfl ?_
  refine am_e_iadd (w := 5) n97_43 (by decide) ?_
  refine am_e_aload_n n97_44 rfl ?_
  refine am_e_getf (v := .ref 191) n97_45 rfl ((F42 164 53 rfl).trans ((F41 164 53 rfl).trans ((F40 164 53 rfl).trans ((F39 164 53 rfl).trans ((F38 164 53 rfl).trans ((F37 164 53 rfl).trans ((F36 164 53 rfl).trans ((F35 164 53 rfl).trans ((F34 164 53 rfl).trans ((F33 164 53 rfl).trans ((F32 164 53 rfl).trans ((F31 164 53 rfl).trans ((F30 164 53 rfl).trans ((F29 164 53 rfl).trans ((F28 164 53 rfl).trans (f164_53 (h := h) hT)))))))))))))))) ?_
  refine am_e_iconst (w := 4) n97_46 rfl ?_
  refine am_e_iload_n n97_47 rfl ?_
  refine am_e_imul (w := 0) n97_48 (by decide) ?_
  refine am_e_iload_n n97_49 rfl ?_
  refine am_e_iadd (w := 1) n97_50 (by decide) ?_
  refine am_e_iaload (v := 0) (q := 1) n97_51 rfl (by decide) (by decide) ((F42 191 1 rfl).trans ((F41 191 1 rfl).trans ((F40 191 1 rfl).trans ((F39 191 1 rfl).trans ((F38 191 1 rfl).trans ((F37 191 1 rfl).trans ((F36 191 1 rfl).trans ((F35 191 1 rfl).trans ((F34 191 1 rfl).trans ((F33 191 1 rfl).trans ((F32 191 1 rfl).trans ((F31 191 1 rfl).trans ((F30 191 1 rfl).trans ((F29 191 1 rfl).trans ((F28 191 1 rfl).trans (f191_1 (h := h) hT)))))))))))))))) ?_
  refine am_e_iastore (q := 5) n97_52 rfl (by decide) (by decide) ?_
  refine am_e_aload_n n97_53 rfl ?_
  refine am_e_getf (v := .ref 192) n97_54 rfl ((F42 164 54 rfl).trans ((F41 164 54 rfl).trans ((F40 164 54 rfl).trans ((F39 164 54 rfl).trans ((F38 164 54 rfl).trans ((F37 164 54 rfl).trans ((F36 164 54 rfl).trans ((F35 164 54 rfl).trans ((F34 164 54 rfl).trans ((F33 164 54 rfl).trans ((F32 164 54 rfl).trans ((F31 164 54 rfl).trans ((F30 164 54 rfl).trans ((F29 164 54 rfl).trans ((F28 164 54 rfl).trans (f164_54 (h := h) hT)))))))))))))))) ?_
  refine am_e_iconst (w := 4) n97_55 rfl ?_
  refine am_e_iload_n n97_56 rfl ?_
  refine am_e_imul (w := 4) n97_57 (by decide) ?_
  refine am_e_iload_n n97_58 rfl ?_
  refine am_e_iadd (w := 5) n97_59 (by decide) ?_
  refine am_e_aload_n n97_60 rfl ?_
  refine am_e_getf (v := .ref 192) n97_61 rfl ((F42 164 54 rfl).trans ((F41 164 54 rfl).trans ((F40 164 54 rfl).trans ((F39 164 54 rfl).trans ((F38 164 54 rfl).trans ((F37 164 54 rfl).trans ((F36 164 54 rfl).trans ((F35 164 54 rfl).trans ((F34 164 54 rfl).trans ((F33 164 54 rfl).trans ((F32 164 54 rfl).trans ((F31 164 54 rfl).trans ((F30 164 54 rfl).trans ((F29 164 54 rfl).trans ((F28 164 54 rfl).trans (f164_54 (h := h) hT)))))))))))))))) ?_
  refine am_e_iconst (w := 4) n97_62 rfl ?_
  refine am_e_iload_n n97_63 rfl ?_
  refine am_e_imul (w := 0) n97_64 (by decide) ?_
  refine am_e_iload_n n97_65 rfl ?_
  refine am_e_iadd (w := 1) n97_66 (by decide) ?_
  refine am_e_iaload (v := 0) (q := 1) n97_67 rfl (by decide) (by decide) ((F42 192 1 rfl).trans ((F41 192 1 rfl).trans ((F40 192 1 rfl).trans ((F39 192 1 rfl).trans ((F38 192 1 rfl).trans ((F37 192 1 rfl).trans ((F36 192 1 rfl).trans ((F35 192 1 rfl).trans ((F34 192 1 rfl).trans ((F33 192 1 rfl).trans ((F32 192 1 rfl).trans ((F31 192 1 rfl).trans ((F30 192 1 rfl).trans ((F29 192 1 rfl).trans ((F28 192 1 rfl).trans (f192_1 (h := h) hT)))))))))))))))) ?_
  refine am_e_iastore (q := 5) n97_68 rfl (by decide) (by decide) ?_
  refine am_e_aload_n n97_69 rfl ?_
  refine am_e_getf (v := .ref 193) n97_70 rfl ((F42 164 55 rfl).trans ((F41 164 55 rfl).trans ((F40 164 55 rfl).trans ((F39 164 55 rfl).trans ((F38 164 55 rfl).trans ((F37 164 55 rfl).trans ((F36 164 55 rfl).trans ((F35 164 55 rfl).trans ((F34 164 55 rfl).trans ((F33 164 55 rfl).trans ((F32 164 55 rfl).trans ((F31 164 55 rfl).trans ((F30 164 55 rfl).trans ((F29 164 55 rfl).trans ((F28 164 55 rfl).trans (f164_55 (h := h) hT)))))))))))))))) ?_
  refine am_e_iconst (w := 4) n97_71 rfl ?_
  refine am_e_iload_n n97_72 rfl ?_
  refine am_e_imul (w := 4) n97_73 (by decide) ?_
  refine am_e_iload_n n97_74 rfl ?_
  refine am_e_iadd (w := 5) n97_75 (by decide) ?_
  refine am_e_aload_n n97_76 rfl ?_
  refine am_e_getf (v := .ref 193) n97_77 rfl ((F42 164 55 rfl).trans ((F41 164 55 rfl).trans ((F40 164 55 rfl).trans ((F39 164 55 rfl).trans ((F38 164 55 rfl).trans ((F37 164 55 rfl).trans ((F36 164 55 rfl).trans ((F35 164 55 rfl).trans ((F34 164 55 rfl).trans ((F33 164 55 rfl).trans ((F32 164 55 rfl).trans ((F31 164 55 rfl).trans ((F30 164 55 rfl).trans ((F29 164 55 rfl).trans ((F28 164 55 rfl).trans (f164_55 (h := h) hT)))))))))))))))) ?_
  refine am_e_iconst (w := 4) n97_78 rfl ?_
  refine am_e_iload_n n97_79 rfl ?_
  refine am_e_imul (w := 0) n97_80 (by decide) ?_
  refine am_e_iload_n n97_81 rfl ?_
  refine am_e_iadd (w := 1) n97_82 (by decide) ?_
  refine am_e_iaload (v := 0) (q := 1) n97_83 rfl (by decide) (by decide) ((F42 193 1 rfl).trans ((F41 193 1 rfl).trans ((F40 193 1 rfl).trans ((F39 193 1 rfl).trans ((F38 193 1 rfl).trans ((F37 193 1 rfl).trans ((F36 193 1 rfl).trans ((F35 193 1 rfl).trans ((F34 193 1 rfl).trans ((F33 193 1 rfl).trans ((F32 193 1 rfl).trans ((F31 193 1 rfl).trans ((F30 193 1 rfl).trans ((F29 193 1 rfl).trans ((F28 193 1 rfl).trans (f193_1 (h := h) hT)))))))))))))))) ?_
  refine am_e_iastore (q := 5) n97_84 rfl (by decide) (by decide) ?_
  refine am_e_iinc (w := 2) (ls' := [(3, .int 2), (0, .ref 164), (1, .int 1), (2, .int 0)]) n97_85 rfl rfl (by decide) rfl ?_
  refine am_e_goto c97_86 t97_86 ?_
  refine am_e_iload_n n97_34 rfl ?_
  refine am_e_iconst (w := 4) n97_35 rfl ?_
  refine am_e_cmpF n97_36 (am_c_geF (by decide)) ?_
  refine am_e_aload_n n97_37 rfl ?_
  refine am_e_getf (v := .ref 191) n97_38 rfl ((F42 164 53 rfl).trans ((F41 164 53 rfl).trans ((F40 164 53 rfl).trans ((F39 164 53 rfl).trans ((F38 164 53 rfl).trans ((F37 164 53 rfl).trans ((F36 164 53 rfl).trans ((F35 164 53 rfl).trans ((F34 164 53 rfl).trans ((F33 164 53 rfl).trans ((F32 164 53 rfl).trans ((F31 164 53 rfl).trans ((F30 164 53 rfl).trans ((F29 164 53 rfl).trans ((F28 164 53 rfl).trans (f164_53 (h := h) hT)))))))))))))))) ?_
  refine am_e_iconst (w := 4) n97_39 rfl ?_
  refine am_e_iload_n n97_40 rfl ?_
  refine am_e_imul (w := 4) n97_41 (by decide) ?_
  refine am_e_iload_n n97_42 rfl ?_
  refine am_e_iadd (w := 6) n97_43 (by decide) ?_
  refine am_e_aload_n n97_44 rfl ?_
  refine am_e_getf (v := .ref 191) n97_45 rfl ((F42 164 53 rfl).trans ((F41 164 53 rfl).trans ((F40 164 53 rfl).trans ((F39 164 53 rfl).trans ((F38 164 53 rfl).trans ((F37 164 53 rfl).trans ((F36 164 53 rfl).trans ((F35 164 53 rfl).trans ((F34 164 53 rfl).trans ((F33 164 53 rfl).trans ((F32 164 53 rfl).trans ((F31 164 53 rfl).trans ((F30 164 53 rfl).trans ((F29 164 53 rfl).trans ((F28 164 53 rfl).trans (f164_53 (h := h) hT)))))))))))))))) ?_
  refine am_e_iconst (w := 4) n97_46 rfl ?_
  refine am_e_iload_n n97_47 rfl ?_
  refine am_e_imul (w := 0) n97_48 (by decide) ?_
  refine am_e_iload_n n97_49 rfl ?_
  refine am_e_iadd (w := 2) n97_50 (by decide) ?_
  refine am_e_iaload (v := 0) (q := 2) n97_51 rfl (by decide) (by decide) ((F42 191 2 rfl).trans ((F41 191 2 rfl).trans ((F40 191 2 rfl).trans ((F39 191 2 rfl).trans ((F38 191 2 rfl).trans ((F37 191 2 rfl).trans ((F36 191 2 rfl).trans ((F35 191 2 rfl).trans ((F34 191 2 rfl).trans ((F33 191 2 rfl).trans ((F32 191 2 rfl).trans ((F31 191 2 rfl).trans ((F30 191 2 rfl).trans ((F29 191 2 rfl).trans ((F28 191 2 rfl).trans (f191_2 (h := h) hT)))))))))))))))) ?_
  refine am_e_iastore (q := 6) n97_52 rfl (by decide) (by decide) ?_
  refine am_e_aload_n n97_53 rfl ?_
  refine am_e_getf (v := .ref 192) n97_54 rfl ((F42 164 54 rfl).trans ((F41 164 54 rfl).trans ((F40 164 54 rfl).trans ((F39 164 54 rfl).trans ((F38 164 54 rfl).trans ((F37 164 54 rfl).trans ((F36 164 54 rfl).trans ((F35 164 54 rfl).trans ((F34 164 54 rfl).trans ((F33 164 54 rfl).trans ((F32 164 54 rfl).trans ((F31 164 54 rfl).trans ((F30 164 54 rfl).trans ((F29 164 54 rfl).trans ((F28 164 54 rfl).trans (f164_54 (h := h) hT)))))))))))))))) ?_
  refine am_e_iconst (w := 4) n97_55 rfl ?_
  refine am_e_iload_n n97_56 rfl ?_
  refine am_e_imul (w := 4) n97_57 (by decide) ?_
  refine am_e_iload_n n97_58 rfl ?_
  refine am_e_iadd (w := 6) n97_59 (by decide) ?_
  refine am_e_aload_n n97_60 rfl ?_
  refine am_e_getf (v := .ref 192) n97_61 rfl ((F42 164 54 rfl).trans ((F41 164 54 rfl).trans ((F40 164 54 rfl).trans ((F39 164 54 rfl).trans ((F38 164 54 rfl).trans ((F37 164 54 rfl).trans ((F36 164 54 rfl).trans ((F35 164 54 rfl).trans ((F34 164 54 rfl).trans ((F33 164 54 rfl).trans ((F32 164 54 rfl).trans ((F31 164 54 rfl).trans ((F30 164 54 rfl).trans ((F29 164 54 rfl).trans ((F28 164 54 rfl).trans (f164_54 (h := h) hT)))))))))))))))) ?_
  refine am_e_iconst (w := 4) n97_62 rfl ?_
  refine am_e_iload_n n97_63 rfl ?_
  refine am_e_imul (w := 0) n97_64 (by decide) ?_
  refine am_e_iload_n n97_65 rfl ?_
  refine am_e_iadd (w := 2) n97_66 (by decide) ?_
  refine am_e_iaload (v := 0) (q := 2) n97_67 rfl (by decide) (by decide) ((F42 192 2 rfl).trans ((F41 192 2 rfl).trans ((F40 192 2 rfl).trans ((F39 192 2 rfl).trans ((F38 192 2 rfl).trans ((F37 192 2 rfl).trans ((F36 192 2 rfl).trans ((F35 192 2 rfl).trans ((F34 192 2 rfl).trans ((F33 192 2 rfl).trans ((F32 192 2 rfl).trans ((F31 192 2 rfl).trans ((F30 192 2 rfl).trans ((F29 192 2 rfl).trans ((F28 192 2 rfl).trans (f192_2 (h := h) hT)))))))))))))))) ?_
  refine am_e_iastore (q := 6) n97_68 rfl (by decide) (by decide) ?_
  refine am_e_aload_n n97_69 rfl ?_
  refine am_e_getf (v := .ref 193) n97_70 rfl ((F42 164 55 rfl).trans ((F41 164 55 rfl).trans ((F40 164 55 rfl).trans ((F39 164 55 rfl).trans ((F38 164 55 rfl).trans ((F37 164 55 rfl).trans ((F36 164 55 rfl).trans ((F35 164 55 rfl).trans ((F34 164 55 rfl).trans ((F33 164 55 rfl).trans ((F32 164 55 rfl).trans ((F31 164 55 rfl).trans ((F30 164 55 rfl).trans ((F29 164 55 rfl).trans ((F28 164 55 rfl).trans (f164_55 (h := h) hT)))))))))))))))) ?_
  refine am_e_iconst (w := 4) n97_71 rfl ?_
  refine am_e_iload_n n97_72 rfl ?_
  refine am_e_imul (w := 4) n97_73 (by decide) ?_
  refine am_e_iload_n n97_74 rfl ?_
  refine am_e_iadd (w := 6) n97_75 (by decide) ?_
  refine am_e_aload_n n97_76 rfl ?_
  refine am_e_getf (v := .ref 193) n97_77 rfl ((F42 164 55 rfl).trans ((F41 164 55 rfl).trans ((F40 164 55 rfl).trans ((F39 164 55 rfl).trans ((F38 164 55 rfl).trans ((F37 164 55 rfl).trans ((F36 164 55 rfl).trans ((F35 164 55 rfl).trans ((F34 164 55 rfl).trans ((F33 164 55 rfl).trans ((F32 164 55 rfl).trans ((F31 164 55 rfl).trans ((F30 164 55 rfl).trans ((F29 164 55 rfl).trans ((F28 164 55 rfl).trans (f164_55 (h := h) hT)))))))))))))))) ?_
  refine am_e_iconst (w := 4) n97_78 rfl ?_
  refine am_e_iload_n n97_79 rfl ?_
  refine am_e_imul (w := 0) n97_80 (by decide) ?_
  refine am_e_iload_n n97_81 rfl ?_
  refine am_e_iadd (w := 2) n97_82 (by decide) ?_
  refine am_e_iaload (v := 0) (q := 2) n97_83 rfl (by decide) (by decide) ((F42 193 2 rfl).trans ((F41 193 2 rfl).trans ((F40 193 2 rfl).trans ((F39 193 2 rfl).trans ((F38 193 2 rfl).trans ((F37 193 2 rfl).trans ((F36 193 2 rfl).trans ((F35 193 2 rfl).trans ((F34 193 2 rfl).trans ((F33 193 2 rfl).trans ((F32 193 2 rfl).trans ((F31 193 2 rfl).trans ((F30 193 2 rfl).trans ((F29 193 2 rfl).trans ((F28 193 2 rfl).trans (f193_2 (h := h) hT)))))))))))))))) ?_
  refine am_e_iastore (q := 6) n97_84 rfl (by decide) (by decide) ?_
  refine am_e_iinc (w := 3) (ls' := [(3, .int 3), (0, .ref 164), (1, .int 1), (2, .int 0)]) n97_85 rfl rfl (by decide) rfl ?_
  refine am_e_goto c97_86 t97_86 ?_
  refine am_e_iload_n n97_34 rfl ?_
  refine am_e_iconst (w := 4) n97_35 rfl ?_
  refine am_e_cmpF n97_36 (am_c_geF (by decide)) ?_
  refine am_e_aload_n n97_37 rfl ?_
  refine am_e_getf (v := .ref 191) n97_38 rfl ((F42 164 53 rfl).trans ((F41 164 53 rfl).trans ((F40 164 53 rfl).trans ((F39 164 53 rfl).trans ((F38 164 53 rfl).trans ((F37 164 53 rfl).trans ((F36 164 53 rfl).trans ((F35 164 53 rfl).trans ((F34 164 53 rfl).trans ((F33 164 53 rfl).trans ((F32 164 53 rfl).trans ((F31 164 53 rfl).trans ((F30 164 53 rfl).trans ((F29 164 53 rfl).trans ((F28 164 53 rfl).trans (f164_53 (h := h) hT)))))))))))))))) ?_
  refine am_e_iconst (w := 4) n97_39 rfl ?_
  refine am_e_iload_n n97_40 rfl ?_
  refine am_e_imul (w := 4) n97_41 (by decide) ?_
  refine am_e_iload_n n97_42 rfl ?_
  refine am_e_iadd (w := 7) n97_43 (by decide) ?_
  refine am_e_aload_n n97_44 rfl ?_
  refine am_e_getf (v := .ref 191) n97_45 rfl ((F42 164 53 rfl).trans ((F41 164 53 rfl).trans ((F40 164 53 rfl).trans ((F39 164 53 rfl).trans ((F38 164 53 rfl).trans ((F37 164 53 rfl).trans ((F36 164 53 rfl).trans ((F35 164 53 rfl).trans ((F34 164 53 rfl).trans ((F33 164 53 rfl).trans ((F32 164 53 rfl).trans ((F31 164 53 rfl).trans ((F30 164 53 rfl).trans ((F29 164 53 rfl).trans ((F28 164 53 rfl).trans (f164_53 (h := h) hT)))))))))))))))) ?_
  refine am_e_iconst (w := 4) n97_46 rfl ?_
  refine am_e_iload_n n97_47 rfl ?_
  refine am_e_imul (w := 0) n97_48 (by decide) ?_
  refine am_e_iload_n n97_49 rfl ?_
  refine am_e_iadd (w := 3) n97_50 (by decide) ?_
  refine am_e_iaload (v := 0) (q := 3) n97_51 rfl (by decide) (by decide) ((F42 191 3 rfl).trans ((F41 191 3 rfl).trans ((F40 191 3 rfl).trans ((F39 191 3 rfl).trans ((F38 191 3 rfl).trans ((F37 191 3 rfl).trans ((F36 191 3 rfl).trans ((F35 191 3 rfl).trans ((F34 191 3 rfl).trans ((F33 191 3 rfl).trans ((F32 191 3 rfl).trans ((F31 191 3 rfl).trans ((F30 191 3 rfl).trans ((F29 191 3 rfl).trans ((F28 191 3 rfl).trans (f191_3 (h := h) hT)))))))))))))))) ?_
  refine am_e_iastore (q := 7) n97_52 rfl (by decide) (by decide) ?_
  refine am_e_aload_n n97_53 rfl ?_
  refine am_e_getf (v := .ref 192) n97_54 rfl ((F42 164 54 rfl).trans ((F41 164 54 rfl).trans ((F40 164 54 rfl).trans ((F39 164 54 rfl).trans ((F38 164 54 rfl).trans ((F37 164 54 rfl).trans ((F36 164 54 rfl).trans ((F35 164 54 rfl).trans ((F34 164 54 rfl).trans ((F33 164 54 rfl).trans ((F32 164 54 rfl).trans ((F31 164 54 rfl).trans ((F30 164 54 rfl).trans ((F29 164 54 rfl).trans ((F28 164 54 rfl).trans (f164_54 (h := h) hT)))))))))))))))) ?_
  refine am_e_iconst (w := 4) n97_55 rfl ?_
  refine am_e_iload_n n97_56 rfl ?_
  refine am_e_imul (w := 4) n97_57 (by decide) ?_
  refine am_e_iload_n n97_58 rfl ?_
  refine am_e_iadd (w := 7) n97_59 (by decide) ?_
  refine am_e_aload_n n97_60 rfl ?_
  refine am_e_getf (v := .ref 192) n97_61 rfl ((F42 164 54 rfl).trans ((F41 164 54 rfl).trans ((F40 164 54 rfl).trans ((F39 164 54 rfl).trans ((F38 164 54 rfl).trans ((F37 164 54 rfl).trans ((F36 164 54 rfl).trans ((F35 164 54 rfl).trans ((F34 164 54 rfl).trans ((F33 164 54 rfl).trans ((F32 164 54 rfl).trans ((F31 164 54 rfl).trans ((F30 164 54 rfl).trans ((F29 164 54 rfl).trans ((F28 164 54 rfl).trans (f164_54 (h := h) hT)))))))))))))))) ?_
  refine am_e_iconst (w := 4) n97_62 rfl ?_
  refine am_e_iload_n n97_63 rfl ?_
  refine am_e_imul (w := 0) n97_64 (by decide) ?_
  refine am_e_iload_n n97_65 rfl ?_
  refine am_e_iadd (w := 3) n97_66 (by decide) ?_
  refine am_e_iaload (v := 0) (q := 3) n97_67 rfl (by decide) (by decide) ((F42 192 3 rfl).trans ((F41 192 3 rfl).trans ((F40 192 3 rfl).trans ((F39 192 3 rfl).trans ((F38 192 3 rfl).trans ((F37 192 3 rfl).trans ((F36 192 3 rfl).trans ((F35 192 3 rfl).trans ((F34 192 3 rfl).trans ((F33 192 3 rfl).trans ((F32 192 3 rfl).trans ((F31 192 3 rfl).trans ((F30 192 3 rfl).trans ((F29 192 3 rfl).trans ((F28 192 3 rfl).trans (f192_3 (h := h) hT)))))))))))))))) ?_
  refine am_e_iastore (q := 7) n97_68 rfl (by decide) (by decide) ?_
  refine am_e_aload_n n97_69 rfl ?_
  refine am_e_getf (v := .ref 193) n97_70 rfl ((F42 164 55 rfl).trans ((F41 164 55 rfl).trans ((F40 164 55 rfl).trans ((F39 164 55 rfl).trans ((F38 164 55 rfl).trans ((F37 164 55 rfl).trans ((F36 164 55 rfl).trans ((F35 164 55 rfl).trans ((F34 164 55 rfl).trans ((F33 164 55 rfl).trans ((F32 164 55 rfl).trans ((F31 164 55 rfl).trans ((F30 164 55 rfl).trans ((F29 164 55 rfl).trans ((F28 164 55 rfl).trans (f164_55 (h := h) hT)))))))))))))))) ?_
  refine am_e_iconst (w := 4) n97_71 rfl ?_
  refine am_e_iload_n n97_72 rfl ?_
  refine am_e_imul (w := 4) n97_73 (by decide) ?_
  refine am_e_iload_n n97_74 rfl ?_
  refine am_e_iadd (w := 7) n97_75 (by decide) ?_
  refine am_e_aload_n n97_76 rfl ?_
  refine am_e_getf (v := .ref 193) n97_77 rfl ((F42 164 55 rfl).trans ((F41 164 55 rfl).trans ((F40 164 55 rfl).trans ((F39 164 55 rfl).trans ((F38 164 55 rfl).trans ((F37 164 55 rfl).trans ((F36 164 55 rfl).trans ((F35 164 55 rfl).trans ((F34 164 55 rfl).trans ((F33 164 55 rfl).trans ((F32 164 55 rfl).trans ((F31 164 55 rfl).trans ((F30 164 55 rfl).trans ((F29 164 55 rfl).trans ((F28 164 55 rfl).trans (f164_55 (h := h) hT)))))))))))))))) ?_
  refine am_e_iconst (w := 4) n97_78 rfl ?_
  refine am_e_iload_n n97_79 rfl ?_
  refine am_e_imul (w := 0) n97_80 (by decide) ?_
  refine am_e_iload_n n97_81 rfl ?_
  refine am_e_iadd (w := 3) n97_82 (by decide) ?_
  refine am_e_iaload (v := 0) (q := 3) n97_83 rfl (by decide) (by decide) ((F42 193 3 rfl).trans ((F41 193 3 rfl).trans ((F40 193 3 rfl).trans ((F39 193 3 rfl).trans ((F38 193 3 rfl).trans ((F37 193 3 rfl).trans ((F36 193 3 rfl).trans ((F35 193 3 rfl).trans ((F34 193 3 rfl).trans ((F33 193 3 rfl).trans ((F32 193 3 rfl).trans ((F31 193 3 rfl).trans ((F30 193 3 rfl).trans ((F29 193 3 rfl).trans ((F28 193 3 rfl).trans (f193_3 (h := h) hT)))))))))))))))) ?_
  refine am_e_iastore (q := 7) n97_84 rfl (by decide) (by decide) ?_
  refine am_e_iinc (w := 4) (ls' := [(3, .int 4), (0, .ref 164), (1, .int 1), (2, .int 0)]) n97_85 rfl rfl (by decide) rfl ?_
  refine am_e_goto c97_86 t97_86 ?_
  refine am_e_iload_n n97_34 rfl ?_
  refine am_e_iconst (w := 4) n97_35 rfl ?_
  refine am_e_cmpT n97_36 (am_c_geT (by decide)) t97_36 ?_
  refine am_e_vret c97_87 rfl rfl ?_
  refine am_e_iconst (w := 0) n127_35 rfl ?_
  refine am_e_istore (ls' := [(8, .int 0), (7, .int 5), (6, .int 5), (0, .ref 164), (2, .int (nI n)), (3, .int (nI 0)), (4, .long 0)]) n127_36 rfl rfl ?_
  refine am_Ek_ls (ls' := [(0, .ref 164), (2, .int (nI n)), (3, .int (nI 0)), (4, .long 0), (6, .int 5), (7, .int 5), (8, .int (nI 0))]) ⟨rfl, rfl, rfl, rfl, rfl, rfl, rfl, trivial⟩ ?_
  refine am_cm_e (n := n) (b := 0) (s := 0) (t := 5) (i7 := 5) (dr := dr42) (by omega) (by omega) ⟨((F42 164 23 rfl).trans ((F41 164 23 rfl).trans ((F40 164 23 rfl).trans ((F39 164 23 rfl).trans ((F38 164 23 rfl).trans ((F37 164 23 rfl).trans ((F36 164 23 rfl).trans ((F35 164 23 rfl).trans ((F34 164 23 rfl).trans ((F33 164 23 rfl).trans ((F32 164 23 rfl).trans ((F31 164 23 rfl).trans ((F30 164 23 rfl).trans ((F29 164 23 rfl).trans ((F28 164 23 rfl).trans (f164_23 (h := h) hT)))))))))))))))), ((F42 168 4 rfl).trans ((F41 168 4 rfl).trans ((F40 168 4 rfl).trans ((F39 168 4 rfl).trans ((F38 168 4 rfl).trans ((F37 168 4 rfl).trans ((F36 168 4 rfl).trans ((F35 168 4 rfl).trans ((F34 168 4 rfl).trans ((F33 168 4 rfl).trans ((F32 168 4 rfl).trans ((F31 168 4 rfl).trans ((F30 168 4 rfl).trans ((F29 168 4 rfl).trans ((F28 168 4 rfl).trans (f168_4 (h := h) hT)))))))))))))))), ((F42 164 50 rfl).trans ((F41 164 50 rfl).trans ((F40 164 50 rfl).trans ((F39 164 50 rfl).trans ((F38 164 50 rfl).trans ((F37 164 50 rfl).trans ((F36 164 50 rfl).trans ((F35 164 50 rfl).trans ((F34 164 50 rfl).trans ((F33 164 50 rfl).trans ((F32 164 50 rfl).trans ((F31 164 50 rfl).trans ((F30 164 50 rfl).trans ((F29 164 50 rfl).trans ((F28 164 50 rfl).trans (f164_50 (h := h) hT)))))))))))))))), ((F42 164 61 rfl).trans ((F41 164 61 rfl).trans ((F40 164 61 rfl).trans ((F39 164 61 rfl).trans ((F38 164 61 rfl).trans ((F37 164 61 rfl).trans ((F36 164 61 rfl).trans ((F35 164 61 rfl).trans ((F34 164 61 rfl).trans ((F33 164 61 rfl).trans ((F32 164 61 rfl).trans ((F31 164 61 rfl).trans ((F30 164 61 rfl).trans ((F29 164 61 rfl).trans ((F28 164 61 rfl).trans (f164_61 (h := h) hT)))))))))))))))), ((F42 164 47 rfl).trans ((F41 164 47 rfl).trans ((F40 164 47 rfl).trans ((F39 164 47 rfl).trans ((F38 164 47 rfl).trans ((F37 164 47 rfl).trans ((F36 164 47 rfl).trans ((F35 164 47 rfl).trans ((F34 164 47 rfl).trans ((F33 164 47 rfl).trans ((F32 164 47 rfl).trans ((F31 164 47 rfl).trans ((F30 164 47 rfl).trans ((F29 164 47 rfl).trans ((F28 164 47 rfl).trans (f164_47 (h := h) hT)))))))))))))))), ((F42 168 0 rfl).trans ((F41 168 0 rfl).trans ((F40 168 0 rfl).trans ((F39 168 0 rfl).trans ((F38 168 0 rfl).trans ((F37 168 0 rfl).trans ((F36 168 0 rfl).trans ((F35 168 0 rfl).trans ((F34 168 0 rfl).trans ((F33 168 0 rfl).trans ((F32 168 0 rfl).trans ((F31 168 0 rfl).trans ((F30 168 0 rfl).trans ((F29 168 0 rfl).trans ((F28 168 0 rfl).trans (f168_0 (h := h) hT)))))))))))))))), ((F42 164 51 rfl).trans ((F41 164 51 rfl).trans ((F40 164 51 rfl).trans ((F39 164 51 rfl).trans ((F38 164 51 rfl).trans ((F37 164 51 rfl).trans ((F36 164 51 rfl).trans ((F35 164 51 rfl).trans ((F34 164 51 rfl).trans ((F33 164 51 rfl).trans ((F32 164 51 rfl).trans ((F31 164 51 rfl).trans ((F30 164 51 rfl).trans ((F29 164 51 rfl).trans ((F28 164 51 rfl).trans (f164_51 (h := h) hT)))))))))))))))), ((F42 164 33 rfl).trans ((F41 164 33 rfl).trans ((F40 164 33 rfl).trans ((F39 164 33 rfl).trans ((F38 164 33 rfl).trans ((F37 164 33 rfl).trans ((F36 164 33 rfl).trans ((F35 164 33 rfl).trans ((F34 164 33 rfl).trans ((F33 164 33 rfl).trans ((F32 164 33 rfl).trans ((F31 164 33 rfl).trans ((F30 164 33 rfl).trans ((F29 164 33 rfl).trans ((F28 164 33 rfl).trans (f164_33 (h := h) hT)))))))))))))))), ((F42 178 2 rfl).trans ((F41 178 2 rfl).trans ((F40 178 2 rfl).trans ((F39 178 2 rfl).trans ((F38 178 2 rfl).trans ((F37 178 2 rfl).trans ((F36 178 2 rfl).trans ((F35 178 2 rfl).trans ((F34 178 2 rfl).trans ((F33 178 2 rfl).trans ((F32 178 2 rfl).trans ((F31 178 2 rfl).trans ((F30 178 2 rfl).trans ((F29 178 2 rfl).trans ((F28 178 2 rfl).trans (f178_2 (h := h) hT)))))))))))))))), ((F42 178 0 rfl).trans ((F41 178 0 rfl).trans ((F40 178 0 rfl).trans ((F39 178 0 rfl).trans ((F38 178 0 rfl).trans ((F37 178 0 rfl).trans ((F36 178 0 rfl).trans ((F35 178 0 rfl).trans ((F34 178 0 rfl).trans ((F33 178 0 rfl).trans ((F32 178 0 rfl).trans ((F31 178 0 rfl).trans ((F30 178 0 rfl).trans ((F29 178 0 rfl).trans ((F28 178 0 rfl).trans (f178_0 (h := h) hT)))))))))))))))), ((F42 164 62 rfl).trans ((F41 164 62 rfl).trans ((F40 164 62 rfl).trans ((F39 164 62 rfl).trans ((F38 164 62 rfl).trans ((F37 164 62 rfl).trans ((F36 164 62 rfl).trans ((F35 164 62 rfl).trans ((F34 164 62 rfl).trans ((F33 164 62 rfl).trans ((F32 164 62 rfl).trans ((F31 164 62 rfl).trans ((F30 164 62 rfl).trans ((F29 164 62 rfl).trans ((F28 164 62 rfl).trans (f164_62 (h := h) hT)))))))))))))))), ((F42 164 58 rfl).trans ((F41 164 58 rfl).trans ((F40 164 58 rfl).trans ((F39 164 58 rfl).trans ((F38 164 58 rfl).trans ((F37 164 58 rfl).trans ((F36 164 58 rfl).trans ((F35 164 58 rfl).trans ((F34 164 58 rfl).trans ((F33 164 58 rfl).trans ((F32 164 58 rfl).trans ((F31 164 58 rfl).trans ((F30 164 58 rfl).trans ((F29 164 58 rfl).trans ((F28 164 58 rfl).trans (f164_58 (h := h) hT)))))))))))))))), ((F42 164 60 rfl).trans ((F41 164 60 rfl).trans ((F40 164 60 rfl).trans ((F39 164 60 rfl).trans ((F38 164 60 rfl).trans ((F37 164 60 rfl).trans ((F36 164 60 rfl).trans ((F35 164 60 rfl).trans ((F34 164 60 rfl).trans ((F33 164 60 rfl).trans ((F32 164 60 rfl).trans ((F31 164 60 rfl).trans ((F30 164 60 rfl).trans ((F29 164 60 rfl).trans ((F28 164 60 rfl).trans (f164_60 (h := h) hT)))))))))))))))), trivial⟩ rfl rfl qc42 ?_
  intro h43 dr43 F43 qa43 qb43 qc43
  refine am_e_iload n127_59 rfl ?_
  refine am_e_aload_n n127_60 rfl ?_
  refine am_e_getf (v := .ref 188) n127_61 rfl ((F43 164 50 rfl).trans ((F42 164 50 rfl).trans ((F41 164 50 rfl).trans ((F40 164 50 rfl).trans ((F39 164 50 rfl).trans ((F38 164 50 rfl).trans ((F37 164 50 rfl).trans ((F36 164 50 rfl).trans ((F35 164 50 rfl).trans ((F34 164 50 rfl).trans ((F33 164 50 rfl).trans ((F32 164 50 rfl).trans ((F31 164 50 rfl).trans ((F30 164 50 rfl).trans ((F29 164 50 rfl).trans ((F28 164 50 rfl).trans (f164_50 (h := h) hT))))))))))))))))) ?_
  refine am_e_iconst (w := 1) n127_62 rfl ?_
  refine am_e_iaload (v := 0) (q := 1) n127_63 rfl (by decide) (by decide) qa43 ?_
  refine am_e_iload_n n127_64 rfl ?_
  refine am_e_cmpF n127_65 (am_c_ltF (by decide)) ?_
  refine am_e_iconst (w := 1) n127_66 rfl ?_
  refine am_e_goto c127_67 t127_67 ?_
  refine am_e_iadd (w := 6) n127_69 (by decide) ?_
  refine am_e_istore (ls' := [(6, .int 6), (0, .ref 164), (2, .int (nI n)), (3, .int (nI 0)), (4, .long 0), (7, .int 5), (8, .int (nI n))]) n127_70 rfl rfl ?_
  refine am_e_iinc (w := 6) (ls' := [(7, .int 6), (6, .int 6), (0, .ref 164), (2, .int (nI n)), (3, .int (nI 0)), (4, .long 0), (8, .int (nI n))]) n127_71 rfl rfl (by decide) rfl ?_
  refine am_e_goto c127_72 t127_72 ?_
  refine am_e_iload n127_28 rfl ?_
  refine am_e_bipush (w := 10) n127_29 (by decide) ?_
  refine am_e_cmpF n127_30 (am_c_geF (by decide)) ?_
  refine am_e_aload_n n127_31 rfl ?_
  refine am_e_iconst (w := 1) n127_32 rfl ?_
  refine am_e_iconst (w := 0) n127_33 rfl ?_
  refine am_e_callV (L := [(0, .ref 164), (1, .int 1), (2, .int 0)]) n127_34 rfl rfl rfl rfl rfl rfl rfl rfl ?_
  refine am_e_aload_n n97_0 rfl ?_
  refine am_e_getf (v := .ref 188) n97_1 rfl ((F43 164 50 rfl).trans ((F42 164 50 rfl).trans ((F41 164 50 rfl).trans ((F40 164 50 rfl).trans ((F39 164 50 rfl).trans ((F38 164 50 rfl).trans ((F37 164 50 rfl).trans ((F36 164 50 rfl).trans ((F35 164 50 rfl).trans ((F34 164 50 rfl).trans ((F33 164 50 rfl).trans ((F32 164 50 rfl).trans ((F31 164 50 rfl).trans ((F30 164 50 rfl).trans ((F29 164 50 rfl).trans ((F28 164 50 rfl).trans (f164_50 (h := h) hT))))))))))))))))) ?_
  refine am_e_iload_n n97_2 rfl ?_
  refine am_e_aload_n n97_3 rfl ?_
  refine am_e_getf (v := .ref 188) n97_4 rfl ((F43 164 50 rfl).trans ((F42 164 50 rfl).trans ((F41 164 50 rfl).trans ((F40 164 50 rfl).trans ((F39 164 50 rfl).trans ((F38 164 50 rfl).trans ((F37 164 50 rfl).trans ((F36 164 50 rfl).trans ((F35 164 50 rfl).trans ((F34 164 50 rfl).trans ((F33 164 50 rfl).trans ((F32 164 50 rfl).trans ((F31 164 50 rfl).trans ((F30 164 50 rfl).trans ((F29 164 50 rfl).trans ((F28 164 50 rfl).trans (f164_50 (h := h) hT))))))))))))))))) ?_
  refine am_e_iload_n n97_5 rfl ?_
  refine am_e_iaload (v := 0) (q := 0) n97_6 rfl (by decide) (by decide) ((F43 188 0 rfl).trans ((F42 188 0 rfl).trans ((F41 188 0 rfl).trans ((F40 188 0 rfl).trans ((F39 188 0 rfl).trans ((F38 188 0 rfl).trans ((F37 188 0 rfl).trans ((F36 188 0 rfl).trans ((F35 188 0 rfl).trans ((F34 188 0 rfl).trans ((F33 188 0 rfl).trans ((F32 188 0 rfl).trans ((F31 188 0 rfl).trans ((F30 188 0 rfl).trans ((F29 188 0 rfl).trans ((F28 188 0 rfl).trans (f188_0 (h := h) hT))))))))))))))))) ?_
  refine am_e_iastore (q := 1) n97_7 rfl (by decide) (by decide) ?_
  refine am_e_aload_n n97_8 rfl ?_
  refine am_e_getf (v := .ref 189) n97_9 rfl ((F43 164 51 rfl).trans ((F42 164 51 rfl).trans ((F41 164 51 rfl).trans ((F40 164 51 rfl).trans ((F39 164 51 rfl).trans ((F38 164 51 rfl).trans ((F37 164 51 rfl).trans ((F36 164 51 rfl).trans ((F35 164 51 rfl).trans ((F34 164 51 rfl).trans ((F33 164 51 rfl).trans ((F32 164 51 rfl).trans ((F31 164 51 rfl).trans ((F30 164 51 rfl).trans ((F29 164 51 rfl).trans ((F28 164 51 rfl).trans (f164_51 (h := h) hT))))))))))))))))) ?_
  refine am_e_iload_n n97_10 rfl ?_
  refine am_e_aload_n n97_11 rfl ?_
  refine am_e_getf (v := .ref 189) n97_12 rfl ((F43 164 51 rfl).trans ((F42 164 51 rfl).trans ((F41 164 51 rfl).trans ((F40 164 51 rfl).trans ((F39 164 51 rfl).trans ((F38 164 51 rfl).trans ((F37 164 51 rfl).trans ((F36 164 51 rfl).trans ((F35 164 51 rfl).trans ((F34 164 51 rfl).trans ((F33 164 51 rfl).trans ((F32 164 51 rfl).trans ((F31 164 51 rfl).trans ((F30 164 51 rfl).trans ((F29 164 51 rfl).trans ((F28 164 51 rfl).trans (f164_51 (h := h) hT))))))))))))))))) ?_
  refine am_e_iload_n n97_13 rfl ?_
  refine am_e_iaload (v := 0) (q := 0) n97_14 rfl (by decide) (by decide) ((F43 189 0 rfl).trans ((F42 189 0 rfl).trans ((F41 189 0 rfl).trans ((F40 189 0 rfl).trans ((F39 189 0 rfl).trans ((F38 189 0 rfl).trans ((F37 189 0 rfl).trans ((F36 189 0 rfl).trans ((F35 189 0 rfl).trans ((F34 189 0 rfl).trans ((F33 189 0 rfl).trans ((F32 189 0 rfl).trans ((F31 189 0 rfl).trans ((F30 189 0 rfl).trans ((F29 189 0 rfl).trans ((F28 189 0 rfl).trans (f189_0 (h := h) hT))))))))))))))))) ?_
  refine am_e_iastore (q := 1) n97_15 rfl (by decide) (by decide) ?_
  refine am_e_aload_n n97_16 rfl ?_
  refine am_e_getf (v := .ref 190) n97_17 rfl ((F43 164 52 rfl).trans ((F42 164 52 rfl).trans ((F41 164 52 rfl).trans ((F40 164 52 rfl).trans ((F39 164 52 rfl).trans ((F38 164 52 rfl).trans ((F37 164 52 rfl).trans ((F36 164 52 rfl).trans ((F35 164 52 rfl).trans ((F34 164 52 rfl).trans ((F33 164 52 rfl).trans ((F32 164 52 rfl).trans ((F31 164 52 rfl).trans ((F30 164 52 rfl).trans ((F29 164 52 rfl).trans ((F28 164 52 rfl).trans (f164_52 (h := h) hT))))))))))))))))) ?_
  refine am_e_iload_n n97_18 rfl ?_
  refine am_e_aload_n n97_19 rfl ?_
  refine am_e_getf (v := .ref 190) n97_20 rfl ((F43 164 52 rfl).trans ((F42 164 52 rfl).trans ((F41 164 52 rfl).trans ((F40 164 52 rfl).trans ((F39 164 52 rfl).trans ((F38 164 52 rfl).trans ((F37 164 52 rfl).trans ((F36 164 52 rfl).trans ((F35 164 52 rfl).trans ((F34 164 52 rfl).trans ((F33 164 52 rfl).trans ((F32 164 52 rfl).trans ((F31 164 52 rfl).trans ((F30 164 52 rfl).trans ((F29 164 52 rfl).trans ((F28 164 52 rfl).trans (f164_52 (h := h) hT))))))))))))))))) ?_
  refine am_e_iload_n n97_21 rfl ?_
  refine am_e_iaload (v := (-1)) (q := 0) n97_22 rfl (by decide) (by decide) ((F43 190 0 rfl).trans ((F42 190 0 rfl).trans ((F41 190 0 rfl).trans ((F40 190 0 rfl).trans ((F39 190 0 rfl).trans ((F38 190 0 rfl).trans ((F37 190 0 rfl).trans ((F36 190 0 rfl).trans ((F35 190 0 rfl).trans ((F34 190 0 rfl).trans ((F33 190 0 rfl).trans ((F32 190 0 rfl).trans ((F31 190 0 rfl).trans ((F30 190 0 rfl).trans ((F29 190 0 rfl).trans ((F28 190 0 rfl).trans (f190_0 (h := h) hT))))))))))))))))) ?_
  refine am_e_iastore (q := 1) n97_23 rfl (by decide) (by decide) ?_
  refine am_e_aload_n n97_24 rfl ?_
  refine am_e_getf (v := .ref 194) n97_25 rfl ((F43 164 56 rfl).trans ((F42 164 56 rfl).trans ((F41 164 56 rfl).trans ((F40 164 56 rfl).trans ((F39 164 56 rfl).trans ((F38 164 56 rfl).trans ((F37 164 56 rfl).trans ((F36 164 56 rfl).trans ((F35 164 56 rfl).trans ((F34 164 56 rfl).trans ((F33 164 56 rfl).trans ((F32 164 56 rfl).trans ((F31 164 56 rfl).trans ((F30 164 56 rfl).trans ((F29 164 56 rfl).trans ((F28 164 56 rfl).trans (f164_56 (h := h) hT))))))))))))))))) ?_
  refine am_e_iload_n n97_26 rfl ?_
  refine am_e_aload_n n97_27 rfl ?_
  refine am_e_getf (v := .ref 194) n97_28 rfl ((F43 164 56 rfl).trans ((F42 164 56 rfl).trans ((F41 164 56 rfl).trans ((F40 164 56 rfl).trans ((F39 164 56 rfl).trans ((F38 164 56 rfl).trans ((F37 164 56 rfl).trans ((F36 164 56 rfl).trans ((F35 164 56 rfl).trans ((F34 164 56 rfl).trans ((F33 164 56 rfl).trans ((F32 164 56 rfl).trans ((F31 164 56 rfl).trans ((F30 164 56 rfl).trans ((F29 164 56 rfl).trans ((F28 164 56 rfl).trans (f164_56 (h := h) hT))))))))))))))))) ?_
  refine am_e_iload_n n97_29 rfl ?_
  refine am_e_iaload (v := 0) (q := 0) n97_30 rfl (by decide) (by decide) ((F43 194 0 rfl).trans ((F42 194 0 rfl).trans ((F41 194 0 rfl).trans ((F40 194 0 rfl).trans ((F39 194 0 rfl).trans ((F38 194 0 rfl).trans ((F37 194 0 rfl).trans ((F36 194 0 rfl).trans ((F35 194 0 rfl).trans ((F34 194 0 rfl).trans ((F33 194 0 rfl).trans ((F32 194 0 rfl).trans ((F31 194 0 rfl).trans ((F30 194 0 rfl).trans ((F29 194 0 rfl).trans ((F28 194 0 rfl).trans (f194_0 (h := h) hT))))))))))))))))) ?_
  refine am_e_iastore (q := 1) n97_31 rfl (by decide) (by decide) ?_
  refine am_e_iconst (w := 0) n97_32 rfl ?_
  refine am_e_istore_n (ls' := [(3, .int 0), (0, .ref 164), (1, .int 1), (2, .int 0)]) n97_33 rfl rfl ?_
  refine am_e_iload_n n97_34 rfl ?_
  refine am_e_iconst (w := 4) n97_35 rfl ?_
  refine am_e_cmpF n97_36 (am_c_geF (by decide)) ?_
  refine am_e_aload_n n97_37 rfl ?_
  refine am_e_getf (v := .ref 191) n97_38 rfl ((F43 164 53 rfl).trans ((F42 164 53 rfl).trans ((F41 164 53 rfl).trans ((F40 164 53 rfl).trans ((F39 164 53 rfl).trans ((F38 164 53 rfl).trans ((F37 164 53 rfl).trans ((F36 164 53 rfl).trans ((F35 164 53 rfl).trans ((F34 164 53 rfl).trans ((F33 164 53 rfl).trans ((F32 164 53 rfl).trans ((F31 164 53 rfl).trans ((F30 164 53 rfl).trans ((F29 164 53 rfl).trans ((F28 164 53 rfl).trans (f164_53 (h := h) hT))))))))))))))))) ?_
  refine am_e_iconst (w := 4) n97_39 rfl ?_
  refine am_e_iload_n n97_40 rfl ?_
  refine am_e_imul (w := 4) n97_41 (by decide) ?_
  refine am_e_iload_n n97_42 rfl ?_
  refine am_e_iadd (w := 4) n97_43 (by decide) ?_
  refine am_e_aload_n n97_44 rfl ?_
  refine am_e_getf (v := .ref 191) n97_45 rfl ((F43 164 53 rfl).trans ((F42 164 53 rfl).trans ((F41 164 53 rfl).trans ((F40 164 53 rfl).trans ((F39 164 53 rfl).trans ((F38 164 53 rfl).trans ((F37 164 53 rfl).trans ((F36 164 53 rfl).trans ((F35 164 53 rfl).trans ((F34 164 53 rfl).trans ((F33 164 53 rfl).trans ((F32 164 53 rfl).trans ((F31 164 53 rfl).trans ((F30 164 53 rfl).trans ((F29 164 53 rfl).trans ((F28 164 53 rfl).trans (f164_53 (h := h) hT))))))))))))))))) ?_
  refine am_e_iconst (w := 4) n97_46 rfl ?_
  refine am_e_iload_n n97_47 rfl ?_
  refine am_e_imul (w := 0) n97_48 (by decide) ?_
  refine am_e_iload_n n97_49 rfl ?_
  refine am_e_iadd (w := 0) n97_50 (by decide) ?_
  refine am_e_iaload (v := 0) (q := 0) n97_51 rfl (by decide) (by decide) ((F43 191 0 rfl).trans ((F42 191 0 rfl).trans ((F41 191 0 rfl).trans ((F40 191 0 rfl).trans ((F39 191 0 rfl).trans ((F38 191 0 rfl).trans ((F37 191 0 rfl).trans ((F36 191 0 rfl).trans ((F35 191 0 rfl).trans ((F34 191 0 rfl).trans ((F33 191 0 rfl).trans ((F32 191 0 rfl).trans ((F31 191 0 rfl).trans ((F30 191 0 rfl).trans ((F29 191 0 rfl).trans ((F28 191 0 rfl).trans (f191_0 (h := h) hT))))))))))))))))) ?_
  refine am_e_iastore (q := 4) n97_52 rfl (by decide) (by decide) ?_
  refine am_e_aload_n n97_53 rfl ?_
  refine am_e_getf (v := .ref 192) n97_54 rfl ((F43 164 54 rfl).trans ((F42 164 54 rfl).trans ((F41 164 54 rfl).trans ((F40 164 54 rfl).trans ((F39 164 54 rfl).trans ((F38 164 54 rfl).trans ((F37 164 54 rfl).trans ((F36 164 54 rfl).trans ((F35 164 54 rfl).trans ((F34 164 54 rfl).trans ((F33 164 54 rfl).trans ((F32 164 54 rfl).trans ((F31 164 54 rfl).trans ((F30 164 54 rfl).trans ((F29 164 54 rfl).trans ((F28 164 54 rfl).trans (f164_54 (h := h) hT))))))))))))))))) ?_
  refine am_e_iconst (w := 4) n97_55 rfl ?_
  refine am_e_iload_n n97_56 rfl ?_
  refine am_e_imul (w := 4) n97_57 (by decide) ?_
  refine am_e_iload_n n97_58 rfl ?_
  refine am_e_iadd (w := 4) n97_59 (by decide) ?_
  refine am_e_aload_n n97_60 rfl ?_
  refine am_e_getf (v := .ref 192) n97_61 rfl ((F43 164 54 rfl).trans ((F42 164 54 rfl).trans ((F41 164 54 rfl).trans ((F40 164 54 rfl).trans ((F39 164 54 rfl).trans ((F38 164 54 rfl).trans ((F37 164 54 rfl).trans ((F36 164 54 rfl).trans ((F35 164 54 rfl).trans ((F34 164 54 rfl).trans ((F33 164 54 rfl).trans ((F32 164 54 rfl).trans ((F31 164 54 rfl).trans ((F30 164 54 rfl).trans ((F29 164 54 rfl).trans ((F28 164 54 rfl).trans (f164_54 (h := h) hT))))))))))))))))) ?_
  refine am_e_iconst (w := 4) n97_62 rfl ?_
  refine am_e_iload_n n97_63 rfl ?_
  refine am_e_imul (w := 0) n97_64 (by decide) ?_
  refine am_e_iload_n n97_65 rfl ?_
  refine am_e_iadd (w := 0) n97_66 (by decide) ?_
  refine am_e_iaload (v := 0) (q := 0) n97_67 rfl (by decide) (by decide) ((F43 192 0 rfl).trans ((F42 192 0 rfl).trans ((F41 192 0 rfl).trans ((F40 192 0 rfl).trans ((F39 192 0 rfl).trans ((F38 192 0 rfl).trans ((F37 192 0 rfl).trans ((F36 192 0 rfl).trans ((F35 192 0 rfl).trans ((F34 192 0 rfl).trans ((F33 192 0 rfl).trans ((F32 192 0 rfl).trans ((F31 192 0 rfl).trans ((F30 192 0 rfl).trans ((F29 192 0 rfl).trans ((F28 192 0 rfl).trans (f192_0 (h := h) hT))))))))))))))))) ?_
  refine am_e_iastore (q := 4) n97_68 rfl (by decide) (by decide) ?_
  refine am_e_aload_n n97_69 rfl ?_
  refine am_e_getf (v := .ref 193) n97_70 rfl ((F43 164 55 rfl).trans ((F42 164 55 rfl).trans ((F41 164 55 rfl).trans ((F40 164 55 rfl).trans ((F39 164 55 rfl).trans ((F38 164 55 rfl).trans ((F37 164 55 rfl).trans ((F36 164 55 rfl).trans ((F35 164 55 rfl).trans ((F34 164 55 rfl).trans ((F33 164 55 rfl).trans ((F32 164 55 rfl).trans ((F31 164 55 rfl).trans ((F30 164 55 rfl).trans ((F29 164 55 rfl).trans ((F28 164 55 rfl).trans (f164_55 (h := h) hT))))))))))))))))) ?_
  refine am_e_iconst (w := 4) n97_71 rfl ?_
  refine am_e_iload_n n97_72 rfl ?_
  refine am_e_imul (w := 4) n97_73 (by decide) ?_
  refine am_e_iload_n n97_74 rfl ?_
  refine am_e_iadd (w := 4) n97_75 (by decide) ?_
  refine am_e_aload_n n97_76 rfl ?_
  refine am_e_getf (v := .ref 193) n97_77 rfl ((F43 164 55 rfl).trans ((F42 164 55 rfl).trans ((F41 164 55 rfl).trans ((F40 164 55 rfl).trans ((F39 164 55 rfl).trans ((F38 164 55 rfl).trans ((F37 164 55 rfl).trans ((F36 164 55 rfl).trans ((F35 164 55 rfl).trans ((F34 164 55 rfl).trans ((F33 164 55 rfl).trans ((F32 164 55 rfl).trans ((F31 164 55 rfl).trans ((F30 164 55 rfl).trans ((F29 164 55 rfl).trans ((F28 164 55 rfl).trans (f164_55 (h := h) hT))))))))))))))))) ?_
  refine am_e_iconst (w := 4) n97_78 rfl ?_
  refine am_e_iload_n n97_79 rfl ?_
  refine am_e_imul (w := 0) n97_80 (by decide) ?_
  refine am_e_iload_n n97_81 rfl ?_
  refine am_e_iadd (w := 0) n97_82 (by decide) ?_
  refine am_e_iaload (v := 0) (q := 0) n97_83 rfl (by decide) (by decide) ((F43 193 0 rfl).trans ((F42 193 0 rfl).trans ((F41 193 0 rfl).trans ((F40 193 0 rfl).trans ((F39 193 0 rfl).trans ((F38 193 0 rfl).trans ((F37 193 0 rfl).trans ((F36 193 0 rfl).trans ((F35 193 0 rfl).trans ((F34 193 0 rfl).trans ((F33 193 0 rfl).trans ((F32 193 0 rfl).trans ((F31 193 0 rfl).trans ((F30 193 0 rfl).trans ((F29 193 0 rfl).trans ((F28 193 0 rfl).trans (f193_0 (h := h) hT))))))))))))))))) ?_
  refine am_e_iastore (q := 4) n97_84 rfl (by decide) (by decide) ?_
  refine am_e_iinc (w := 1) (ls' := [(3, .int 1), (0, .ref 164), (1, .int 1), (2, .int 0)]) n97_85 rfl rfl (by decide) rfl ?_
  refine am_e_goto c97_86 t97_86 ?_
  refine am_e_iload_n n97_34 rfl ?_
  refine am_e_iconst (w := 4) n97_35 rfl ?_
  refine am_e_cmpF n97_36 (am_c_geF (by decide)) ?_
  refine am_e_aload_n n97_37 rfl ?_
  refine am_e_getf (v := .ref 191) n97_38 rfl ((F43 164 53 rfl).trans ((F42 164 53 rfl).trans ((F41 164 53 rfl).trans ((F40 164 53 rfl).trans ((F39 164 53 rfl).trans ((F38 164 53 rfl).trans ((F37 164 53 rfl).trans ((F36 164 53 rfl).trans ((F35 164 53 rfl).trans ((F34 164 53 rfl).trans ((F33 164 53 rfl).trans ((F32 164 53 rfl).trans ((F31 164 53 rfl).trans ((F30 164 53 rfl).trans ((F29 164 53 rfl).trans ((F28 164 53 rfl).trans (f164_53 (h := h) hT))))))))))))))))) ?_
  refine am_e_iconst (w := 4) n97_39 rfl ?_
  refine am_e_iload_n n97_40 rfl ?_
  refine am_e_imul (w := 4) n97_41 (by decide) ?_
  refine am_e_iload_n n97_42 rfl ?_
  refine am_e_iadd (w := 5) n97_43 (by decide) ?_
  refine am_e_aload_n n97_44 rfl ?_
  refine am_e_getf (v := .ref 191) n97_45 rfl ((F43 164 53 rfl).trans ((F42 164 53 rfl).trans ((F41 164 53 rfl).trans ((F40 164 53 rfl).trans ((F39 164 53 rfl).trans ((F38 164 53 rfl).trans ((F37 164 53 rfl).trans ((F36 164 53 rfl).trans ((F35 164 53 rfl).trans ((F34 164 53 rfl).trans ((F33 164 53 rfl).trans ((F32 164 53 rfl).trans ((F31 164 53 rfl).trans ((F30 164 53 rfl).trans ((F29 164 53 rfl).trans ((F28 164 53 rfl).trans (f164_53 (h := h) hT))))))))))))))))) ?_
  refine am_e_iconst (w := 4) n97_46 rfl ?_
  refine am_e_iload_n n97_47 rfl ?_
  refine am_e_imul (w := 0) n97_48 (by decide) ?_
  refine am_e_iload_n n97_49 rfl ?_
  refine am_e_iadd (w := 1) n97_50 (by decide) ?_
  refine am_e_iaload (v := 0) (q := 1) n97_51 rfl (by decide) (by decide) ((F43 191 1 rfl).trans ((F42 191 1 rfl).trans ((F41 191 1 rfl).trans ((F40 191 1 rfl).trans ((F39 191 1 rfl).trans ((F38 191 1 rfl).trans ((F37 191 1 rfl).trans ((F36 191 1 rfl).trans ((F35 191 1 rfl).trans ((F34 191 1 rfl).trans ((F33 191 1 rfl).trans ((F32 191 1 rfl).trans ((F31 191 1 rfl).trans ((F30 191 1 rfl).trans ((F29 191 1 rfl).trans ((F28 191 1 rfl).trans (f191_1 (h := h) hT))))))))))))))))) ?_
  refine am_e_iastore (q := 5) n97_52 rfl (by decide) (by decide) ?_
  refine am_e_aload_n n97_53 rfl ?_
  refine am_e_getf (v := .ref 192) n97_54 rfl ((F43 164 54 rfl).trans ((F42 164 54 rfl).trans ((F41 164 54 rfl).trans ((F40 164 54 rfl).trans ((F39 164 54 rfl).trans ((F38 164 54 rfl).trans ((F37 164 54 rfl).trans ((F36 164 54 rfl).trans ((F35 164 54 rfl).trans ((F34 164 54 rfl).trans ((F33 164 54 rfl).trans ((F32 164 54 rfl).trans ((F31 164 54 rfl).trans ((F30 164 54 rfl).trans ((F29 164 54 rfl).trans ((F28 164 54 rfl).trans (f164_54 (h := h) hT))))))))))))))))) ?_
  refine am_e_iconst (w := 4) n97_55 rfl ?_
  refine am_e_iload_n n97_56 rfl ?_
  refine am_e_imul (w := 4) n97_57 (by decide) ?_
  refine am_e_iload_n n97_58 rfl ?_
  refine am_e_iadd (w := 5) n97_59 (by decide) ?_
  refine am_e_aload_n n97_60 rfl ?_
  refine am_e_getf (v := .ref 192) n97_61 rfl ((F43 164 54 rfl).trans ((F42 164 54 rfl).trans ((F41 164 54 rfl).trans ((F40 164 54 rfl).trans ((F39 164 54 rfl).trans ((F38 164 54 rfl).trans ((F37 164 54 rfl).trans ((F36 164 54 rfl).trans ((F35 164 54 rfl).trans ((F34 164 54 rfl).trans ((F33 164 54 rfl).trans ((F32 164 54 rfl).trans ((F31 164 54 rfl).trans ((F30 164 54 rfl).trans ((F29 164 54 rfl).trans ((F28 164 54 rfl).trans (f164_54 (h := h) hT))))))))))))))))) ?_
  refine am_e_iconst (w := 4) n97_62 rfl ?_
  refine am_e_iload_n n97_63 rfl ?_
  refine am_e_imul (w := 0) n97_64 (by decide) ?_
  refine am_e_iload_n n97_65 rfl ?_
  refine am_e_iadd (w := 1) n97_66 (by decide) ?_
  refine am_e_iaload (v := 0) (q := 1) n97_67 rfl (by decide) (by decide) ((F43 192 1 rfl).trans ((F42 192 1 rfl).trans ((F41 192 1 rfl).trans ((F40 192 1 rfl).trans ((F39 192 1 rfl).trans ((F38 192 1 rfl).trans ((F37 192 1 rfl).trans ((F36 192 1 rfl).trans ((F35 192 1 rfl).trans ((F34 192 1 rfl).trans ((F33 192 1 rfl).trans ((F32 192 1 rfl).trans ((F31 192 1 rfl).trans ((F30 192 1 rfl).trans ((F29 192 1 rfl).trans ((F28 192 1 rfl).trans (f192_1 (h := h) hT))))))))))))))))) ?_
  refine am_e_iastore (q := 5) n97_68 rfl (by decide) (by decide) ?_
  refine am_e_aload_n n97_69 rfl ?_
  refine am_e_getf (v := .ref 193) n97_70 rfl ((F43 164 55 rfl).trans ((F42 164 55 rfl).trans ((F41 164 55 rfl).trans ((F40 164 55 rfl).trans ((F39 164 55 rfl).trans ((F38 164 55 rfl).trans ((F37 164 55 rfl).trans ((F36 164 55 rfl).trans ((F35 164 55 rfl).trans ((F34 164 55 rfl).trans ((F33 164 55 rfl).trans ((F32 164 55 rfl).trans ((F31 164 55 rfl).trans ((F30 164 55 rfl).trans ((F29 164 55 rfl).trans ((F28 164 55 rfl).trans (f164_55 (h := h) hT))))))))))))))))) ?_
  refine am_e_iconst (w := 4) n97_71 rfl ?_
  refine am_e_iload_n n97_72 rfl ?_
  refine am_e_imul (w := 4) n97_73 (by decide) ?_
  refine am_e_iload_n n97_74 rfl ?_
  refine am_e_iadd (w := 5) n97_75 (by decide) ?_
  refine am_e_aload_n n97_76 rfl ?_
  refine am_e_getf (v := .ref 193) n97_77 rfl ((F43 164 55 rfl).trans ((F42 164 55 rfl).trans ((F41 164 55 rfl).trans ((F40 164 55 rfl).trans ((F39 164 55 rfl).trans ((F38 164 55 rfl).trans ((F37 164 55 rfl).trans ((F36 164 55 rfl).trans ((F35 164 55 rfl).trans ((F34 164 55 rfl).trans ((F33 164 55 rfl).trans ((F32 164 55 rfl).trans ((F31 164 55 rfl).trans ((F30 164 55 rfl).trans ((F29 164 55 rfl).trans ((F28 164 55 rfl).trans (f164_55 (h := h) hT))))))))))))))))) ?_
  refine am_e_iconst (w := 4) n97_78 rfl ?_
  refine am_e_iload_n n97_79 rfl ?_
  refine am_e_imul (w := 0) n97_80 (by decide) ?_
  refine am_e_iload_n n97_81 rfl ?_
  refine am_e_iadd (w := 1) n97_82 (by decide) ?_
  refine am_e_iaload (v := 0) (q := 1) n97_83 rfl (by decide) (by decide) ((F43 193 1 rfl).trans ((F42 193 1 rfl).trans ((F41 193 1 rfl).trans ((F40 193 1 rfl).trans ((F39 193 1 rfl).trans ((F38 193 1 rfl).trans ((F37 193 1 rfl).trans ((F36 193 1 rfl).trans ((F35 193 1 rfl).trans ((F34 193 1 rfl).trans ((F33 193 1 rfl).trans ((F32 193 1 rfl).trans ((F31 193 1 rfl).trans ((F30 193 1 rfl).trans ((F29 193 1 rfl).trans ((F28 193 1 rfl).trans (f193_1 (h := h) hT))))))))))))))))) ?_
  refine am_e_iastore (q := 5) n97_84 rfl (by decide) (by decide) ?_
  refine am_e_iinc (w := 2) (ls' := [(3, .int 2), (0, .ref 164), (1, .int 1), (2, .int 0)]) n97_85 rfl rfl (by decide) rfl ?_
  refine am_e_goto c97_86 t97_86 ?_
  refine am_e_iload_n n97_34 rfl ?_
  refine am_e_iconst (w := 4) n97_35 rfl ?_
  refine am_e_cmpF n97_36 (am_c_geF (by decide)) ?_
  refine am_e_aload_n n97_37 rfl ?_
  refine am_e_getf (v := .ref 191) n97_38 rfl ((F43 164 53 rfl).trans ((F42 164 53 rfl).trans ((F41 164 53 rfl).trans ((F40 164 53 rfl).trans ((F39 164 53 rfl).trans ((F38 164 53 rfl).trans ((F37 164 53 rfl).trans ((F36 164 53 rfl).trans ((F35 164 53 rfl).trans ((F34 164 53 rfl).trans ((F33 164 53 rfl).trans ((F32 164 53 rfl).trans ((F31 164 53 rfl).trans ((F30 164 53 rfl).trans ((F29 164 53 rfl).trans ((F28 164 53 rfl).trans (f164_53 (h := h) hT))))))))))))))))) ?_
  refine am_e_iconst (w := 4) n97_39 rfl ?_
  refine am_e_iload_n n97_40 rfl ?_
  refine am_e_imul (w := 4) n97_41 (by decide) ?_
  refine am_e_iload_n n97_42 rfl ?_
  refine am_e_iadd (w := 6) n97_43 (by decide) ?_
  refine am_e_aload_n n97_44 rfl ?_
  refine am_e_getf (v := .ref 191) n97_45 rfl ((F43 164 53 rfl).trans ((F42 164 53 rfl).trans ((F41 164 53 rfl).trans ((F40 164 53 rfl).trans ((F39 164 53 rfl).trans ((F38 164 53 rfl).trans ((F37 164 53 rfl).trans ((F36 164 53 rfl).trans ((F35 164 53 rfl).trans ((F34 164 53 rfl).trans ((F33 164 53 rfl).trans ((F32 164 53 rfl).trans ((F31 164 53 rfl).trans ((F30 164 53 rfl).trans ((F29 164 53 rfl).trans ((F28 164 53 rfl).trans (f164_53 (h := h) hT))))))))))))))))) ?_
  refine am_e_iconst (w := 4) n97_46 rfl ?_
  refine am_e_iload_n n97_47 rfl ?_
  refine am_e_imul (w := 0) n97_48 (by decide) ?_
  refine am_e_iload_n n97_49 rfl ?_
  refine am_e_iadd (w := 2) n97_50 (by decide) ?_
  refine am_e_iaload (v := 0) (q := 2) n97_51 rfl (by decide) (by decide) ((F43 191 2 rfl).trans ((F42 191 2 rfl).trans ((F41 191 2 rfl).trans ((F40 191 2 rfl).trans ((F39 191 2 rfl).trans ((F38 191 2 rfl).trans ((F37 191 2 rfl).trans ((F36 191 2 rfl).trans ((F35 191 2 rfl).trans ((F34 191 2 rfl).trans ((F33 191 2 rfl).trans ((F32 191 2 rfl).trans ((F31 191 2 rfl).trans ((F30 191 2 rfl).trans ((F29 191 2 rfl).trans ((F28 191 2 rfl).trans (f191_2 (h := h) hT))))))))))))))))) ?_
  refine am_e_iastore (q := 6) n97_52 rfl (by decide) (by decide) ?_
  refine am_e_aload_n n97_53 rfl ?_
  refine am_e_getf (v := .ref 192) n97_54 rfl ((F43 164 54 rfl).trans ((F42 164 54 rfl).trans ((F41 164 54 rfl).trans ((F40 164 54 rfl).trans ((F39 164 54 rfl).trans ((F38 164 54 rfl).trans ((F37 164 54 rfl).trans ((F36 164 54 rfl).trans ((F35 164 54 rfl).trans ((F34 164 54 rfl).trans ((F33 164 54 rfl).trans ((F32 164 54 rfl).trans ((F31 164 54 rfl).trans ((F30 164 54 rfl).trans ((F29 164 54 rfl).trans ((F28 164 54 rfl).trans (f164_54 (h := h) hT))))))))))))))))) ?_
  refine am_e_iconst (w := 4) n97_55 rfl ?_
  refine am_e_iload_n n97_56 rfl ?_
  refine am_e_imul (w := 4) n97_57 (by decide) ?_
  refine am_e_iload_n n97_58 rfl ?_
  refine am_e_iadd (w := 6) n97_59 (by decide) ?_
  refine am_e_aload_n n97_60 rfl ?_
  refine am_e_getf (v := .ref 192) n97_61 rfl ((F43 164 54 rfl).trans ((F42 164 54 rfl).trans ((F41 164 54 rfl).trans ((F40 164 54 rfl).trans ((F39 164 54 rfl).trans ((F38 164 54 rfl).trans ((F37 164 54 rfl).trans ((F36 164 54 rfl).trans ((F35 164 54 rfl).trans ((F34 164 54 rfl).trans ((F33 164 54 rfl).trans ((F32 164 54 rfl).trans ((F31 164 54 rfl).trans ((F30 164 54 rfl).trans ((F29 164 54 rfl).trans ((F28 164 54 rfl).trans (f164_54 (h := h) hT))))))))))))))))) ?_
  refine am_e_iconst (w := 4) n97_62 rfl ?_
  refine am_e_iload_n n97_63 rfl ?_
  refine am_e_imul (w := 0) n97_64 (by decide) ?_
  refine am_e_iload_n n97_65 rfl ?_
  refine am_e_iadd (w := 2) n97_66 (by decide) ?_
  refine am_e_iaload (v := 0) (q := 2) n97_67 rfl (by decide) (by decide) ((F43 192 2 rfl).trans ((F42 192 2 rfl).trans ((F41 192 2 rfl).trans ((F40 192 2 rfl).trans ((F39 192 2 rfl).trans ((F38 192 2 rfl).trans ((F37 192 2 rfl).trans ((F36 192 2 rfl).trans ((F35 192 2 rfl).trans ((F34 192 2 rfl).trans ((F33 192 2 rfl).trans ((F32 192 2 rfl).trans ((F31 192 2 rfl).trans ((F30 192 2 rfl).trans ((F29 192 2 rfl).trans ((F28 192 2 rfl).trans (f192_2 (h := h) hT))))))))))))))))) ?_
  refine am_e_iastore (q := 6) n97_68 rfl (by decide) (by decide) ?_
  refine am_e_aload_n n97_69 rfl ?_
  refine am_e_getf (v := .ref 193) n97_70 rfl ((F43 164 55 rfl).trans ((F42 164 55 rfl).trans ((F41 164 55 rfl).trans ((F40 164 55 rfl).trans ((F39 164 55 rfl).trans ((F38 164 55 rfl).trans ((F37 164 55 rfl).trans ((F36 164 55 rfl).trans ((F35 164 55 rfl).trans ((F34 164 55 rfl).trans ((F33 164 55 rfl).trans ((F32 164 55 rfl).trans ((F31 164 55 rfl).trans ((F30 164 55 rfl).trans ((F29 164 55 rfl).trans ((F28 164 55 rfl).trans (f164_55 (h := h) hT))))))))))))))))) ?_
  refine am_e_iconst (w := 4) n97_71 rfl ?_
  refine am_e_iload_n n97_72 rfl ?_
  refine am_e_imul (w := 4) n97_73 (by decide) ?_
  refine am_e_iload_n n97_74 rfl ?_
  refine am_e_iadd (w := 6) n97_75 (by decide) ?_
  refine am_e_aload_n n97_76 rfl ?_
  refine am_e_getf (v := .ref 193) n97_77 rfl ((F43 164 55 rfl).trans ((F42 164 55 rfl).trans ((F41 164 55 rfl).trans ((F40 164 55 rfl).trans ((F39 164 55 rfl).trans ((F38 164 55 rfl).trans ((F37 164 55 rfl).trans ((F36 164 55 rfl).trans ((F35 164 55 rfl).trans ((F34 164 55 rfl).trans ((F33 164 55 rfl).trans ((F32 164 55 rfl).trans ((F31 164 55 rfl).trans ((F30 164 55 rfl).trans ((F29 164 55 rfl).trans ((F28 164 55 rfl).trans (f164_55 (h := h) hT))))))))))))))))) ?_
  refine am_e_iconst (w := 4) n97_78 rfl ?_
  refine am_e_iload_n n97_79 rfl ?_
  refine am_e_imul (w := 0) n97_80 (by decide) ?_
  refine am_e_iload_n n97_81 rfl ?_
  refine am_e_iadd (w := 2) n97_82 (by decide) ?_
  refine am_e_iaload (v := 0) (q := 2) n97_83 rfl (by decide) (by decide) ((F43 193 2 rfl).trans ((F42 193 2 rfl).trans ((F41 193 2 rfl).trans ((F40 193 2 rfl).trans ((F39 193 2 rfl).trans ((F38 193 2 rfl).trans ((F37 193 2 rfl).trans ((F36 193 2 rfl).trans ((F35 193 2 rfl).trans ((F34 193 2 rfl).trans ((F33 193 2 rfl).trans ((F32 193 2 rfl).trans ((F31 193 2 rfl).trans ((F30 193 2 rfl).trans ((F29 193 2 rfl).trans ((F28 193 2 rfl).trans (f193_2 (h := h) hT))))))))))))))))) ?_
  refine am_e_iastore (q := 6) n97_84 rfl (by decide) (by decide) ?_
  refine am_e_iinc (w := 3) (ls' := [(3, .int 3), (0, .ref 164), (1, .int 1), (2, .int 0)]) n97_85 rfl rfl (by decide) rfl ?_
  refine am_e_goto c97_86 t97_86 ?_
  refine am_e_iload_n n97_34 rfl ?_
  refine am_e_iconst (w := 4) n97_35 rfl ?_
  refine am_e_cmpF n97_36 (am_c_geF (by decide)) ?_
  refine am_e_aload_n n97_37 rfl ?_
  refine am_e_getf (v := .ref 191) n97_38 rfl ((F43 164 53 rfl).trans ((F42 164 53 rfl).trans ((F41 164 53 rfl).trans ((F40 164 53 rfl).trans ((F39 164 53 rfl).trans ((F38 164 53 rfl).trans ((F37 164 53 rfl).trans ((F36 164 53 rfl).trans ((F35 164 53 rfl).trans ((F34 164 53 rfl).trans ((F33 164 53 rfl).trans ((F32 164 53 rfl).trans ((F31 164 53 rfl).trans ((F30 164 53 rfl).trans ((F29 164 53 rfl).trans ((F28 164 53 rfl).trans (f164_53 (h := h) hT))))))))))))))))) ?_
  refine am_e_iconst (w := 4) n97_39 rfl ?_
  refine am_e_iload_n n97_40 rfl ?_
  refine am_e_imul (w := 4) n97_41 (by decide) ?_
  refine am_e_iload_n n97_42 rfl ?_
  refine am_e_iadd (w := 7) n97_43 (by decide) ?_
  refine am_e_aload_n n97_44 rfl ?_
  refine am_e_getf (v := .ref 191) n97_45 rfl ((F43 164 53 rfl).trans ((F42 164 53 rfl).trans ((F41 164 53 rfl).trans ((F40 164 53 rfl).trans ((F39 164 53 rfl).trans ((F38 164 53 rfl).trans ((F37 164 53 rfl).trans ((F36 164 53 rfl).trans ((F35 164 53 rfl).trans ((F34 164 53 rfl).trans ((F33 164 53 rfl).trans ((F32 164 53 rfl).trans ((F31 164 53 rfl).trans ((F30 164 53 rfl).trans ((F29 164 53 rfl).trans ((F28 164 53 rfl).trans (f164_53 (h := h) hT))))))))))))))))) ?_
  refine am_e_iconst (w := 4) n97_46 rfl ?_
  refine am_e_iload_n n97_47 rfl ?_
  refine am_e_imul (w := 0) n97_48 (by decide) ?_
  refine am_e_iload_n n97_49 rfl ?_
  refine am_e_iadd (w := 3) n97_50 (by decide) ?_
  refine am_e_iaload (v := 0) (q := 3) n97_51 rfl (by decide) (by decide) ((F43 191 3 rfl).trans ((F42 191 3 rfl).trans ((F41 191 3 rfl).trans ((F40 191 3 rfl).trans ((F39 191 3 rfl).trans ((F38 191 3 rfl).trans ((F37 191 3 rfl).trans ((F36 191 3 rfl).trans ((F35 191 3 rfl).trans ((F34 191 3 rfl).trans ((F33 191 3 rfl).trans ((F32 191 3 rfl).trans ((F31 191 3 rfl).trans ((F30 191 3 rfl).trans ((F29 191 3 rfl).trans ((F28 191 3 rfl).trans (f191_3 (h := h) hT))))))))))))))))) ?_
  refine am_e_iastore (q := 7) n97_52 rfl (by decide) (by decide) ?_
  refine am_e_aload_n n97_53 rfl ?_
  refine am_e_getf (v := .ref 192) n97_54 rfl ((F43 164 54 rfl).trans ((F42 164 54 rfl).trans ((F41 164 54 rfl).trans ((F40 164 54 rfl).trans ((F39 164 54 rfl).trans ((F38 164 54 rfl).trans ((F37 164 54 rfl).trans ((F36 164 54 rfl).trans ((F35 164 54 rfl).trans ((F34 164 54 rfl).trans ((F33 164 54 rfl).trans ((F32 164 54 rfl).trans ((F31 164 54 rfl).trans ((F30 164 54 rfl).trans ((F29 164 54 rfl).trans ((F28 164 54 rfl).trans (f164_54 (h := h) hT))))))))))))))))) ?_
  refine am_e_iconst (w := 4) n97_55 rfl ?_
  refine am_e_iload_n n97_56 rfl ?_
  refine am_e_imul (w := 4) n97_57 (by decide) ?_
  refine am_e_iload_n n97_58 rfl ?_
  refine am_e_iadd (w := 7) n97_59 (by decide) ?_
  refine am_e_aload_n n97_60 rfl ?_
  refine am_e_getf (v := .ref 192) n97_61 rfl ((F43 164 54 rfl).trans ((F42 164 54 rfl).trans ((F41 164 54 rfl).trans ((F40 164 54 rfl).trans ((F39 164 54 rfl).trans ((F38 164 54 rfl).trans ((F37 164 54 rfl).trans ((F36 164 54 rfl).trans ((F35 164 54 rfl).trans ((F34 164 54 rfl).trans ((F33 164 54 rfl).trans ((F32 164 54 rfl).trans ((F31 164 54 rfl).trans ((F30 164 54 rfl).trans ((F29 164 54 rfl).trans ((F28 164 54 rfl).trans (f164_54 (h := h) hT))))))))))))))))) ?_
  refine am_e_iconst (w := 4) n97_62 rfl ?_
  refine am_e_iload_n n97_63 rfl ?_
  refine am_e_imul (w := 0) n97_64 (by decide) ?_
  refine am_e_iload_n n97_65 rfl ?_
  refine am_e_iadd (w := 3) n97_66 (by decide) ?_
  refine am_e_iaload (v := 0) (q := 3) n97_67 rfl (by decide) (by decide) ((F43 192 3 rfl).trans ((F42 192 3 rfl).trans ((F41 192 3 rfl).trans ((F40 192 3 rfl).trans ((F39 192 3 rfl).trans ((F38 192 3 rfl).trans ((F37 192 3 rfl).trans ((F36 192 3 rfl).trans ((F35 192 3 rfl).trans ((F34 192 3 rfl).trans ((F33 192 3 rfl).trans ((F32 192 3 rfl).trans ((F31 192 3 rfl).trans ((F30 192 3 rfl).trans ((F29 192 3 rfl).trans ((F28 192 3 rfl).trans (f192_3 (h := h) hT))))))))))))))))) ?_
  refine am_e_iastore (q := 7) n97_68 rfl (by decide) (by decide) ?_
  refine am_e_aload_n n97_69 rfl ?_
  refine am_e_getf (v := .ref 193) n97_70 rfl ((F43 164 55 rfl).trans ((F42 164 55 rfl).trans ((F41 164 55 rfl).trans ((F40 164 55 rfl).trans ((F39 164 55 rfl).trans ((F38 164 55 rfl).trans ((F37 164 55 rfl).trans ((F36 164 55 rfl).trans ((F35 164 55 rfl).trans ((F34 164 55 rfl).trans ((F33 164 55 rfl).trans ((F32 164 55 rfl).trans ((F31 164 55 rfl).trans ((F30 164 55 rfl).trans ((F29 164 55 rfl).trans ((F28 164 55 rfl).trans (f164_55 (h := h) hT))))))))))))))))) ?_
  refine am_e_iconst (w := 4) n97_71 rfl ?_
  refine am_e_iload_n n97_72 rfl ?_
  refine am_e_imul (w := 4) n97_73 (by decide) ?_
  refine am_e_iload_n n97_74 rfl ?_
  refine am_e_iadd (w := 7) n97_75 (by decide) ?_
  refine am_e_aload_n n97_76 rfl ?_
  refine am_e_getf (v := .ref 193) n97_77 rfl ((F43 164 55 rfl).trans ((F42 164 55 rfl).trans ((F41 164 55 rfl).trans ((F40 164 55 rfl).trans ((F39 164 55 rfl).trans ((F38 164 55 rfl).trans ((F37 164 55 rfl).trans ((F36 164 55 rfl).trans ((F35 164 55 rfl).trans ((F34 164 55 rfl).trans ((F33 164 55 rfl).trans ((F32 164 55 rfl).trans ((F31 164 55 rfl).trans ((F30 164 55 rfl).trans ((F29 164 55 rfl).trans ((F28 164 55 rfl).trans (f164_55 (h := h) hT))))))))))))))))) ?_
  refine am_e_iconst (w := 4) n97_78 rfl ?_
  refine am_e_iload_n n97_79 rfl ?_
  refine am_e_imul (w := 0) n97_80 (by decide) ?_
  refine am_e_iload_n n97_81 rfl ?_
  refine am_e_iadd (w := 3) n97_82 (by decide) ?_
  refine am_e_iaload (v := 0) (q := 3) n97_83 rfl (by decide) (by decide) ((F43 193 3 rfl).trans ((F42 193 3 rfl).trans ((F41 193 3 rfl).trans ((F40 193 3 rfl).trans ((F39 193 3 rfl).trans ((F38 193 3 rfl).trans ((F37 193 3 rfl).trans ((F36 193 3 rfl).trans ((F35 193 3 rfl).trans ((F34 193 3 rfl).trans ((F33 193 3 rfl).trans ((F32 193 3 rfl).trans ((F31 193 3 rfl).trans ((F30 193 3 rfl).trans ((F29 193 3 rfl).trans ((F28 193 3 rfl).trans (f193_3 (h := h) hT))))))))))))))))) ?_
  refine am_e_iastore (q := 7) n97_84 rfl (by decide) (by decide) ?_
  refine am_e_iinc (w := 4) (ls' := [(3, .int 4), (0, .ref 164), (1, .int 1), (2, .int 0)]) n97_85 rfl rfl (by decide) rfl ?_
  refine am_e_goto c97_86 t97_86 ?_
  refine am_e_iload_n n97_34 rfl ?_
  refine am_e_iconst (w := 4) n97_35 rfl ?_
  refine am_e_cmpT n97_36 (am_c_geT (by decide)) t97_36 ?_
  refine am_e_vret c97_87 rfl rfl ?_
  refine am_e_iconst (w := 0) n127_35 rfl ?_
  refine am_e_istore (ls' := [(8, .int 0), (7, .int 6), (6, .int 6), (0, .ref 164), (2, .int (nI n)), (3, .int (nI 0)), (4, .long 0)]) n127_36 rfl rfl ?_
  refine am_Ek_ls (ls' := [(0, .ref 164), (2, .int (nI n)), (3, .int (nI 0)), (4, .long 0), (6, .int 6), (7, .int 6), (8, .int (nI 0))]) ⟨rfl, rfl, rfl, rfl, rfl, rfl, rfl, trivial⟩ ?_
  refine am_cm_e (n := n) (b := 0) (s := 0) (t := 6) (i7 := 6) (dr := dr43) (by omega) (by omega) ⟨((F43 164 23 rfl).trans ((F42 164 23 rfl).trans ((F41 164 23 rfl).trans ((F40 164 23 rfl).trans ((F39 164 23 rfl).trans ((F38 164 23 rfl).trans ((F37 164 23 rfl).trans ((F36 164 23 rfl).trans ((F35 164 23 rfl).trans ((F34 164 23 rfl).trans ((F33 164 23 rfl).trans ((F32 164 23 rfl).trans ((F31 164 23 rfl).trans ((F30 164 23 rfl).trans ((F29 164 23 rfl).trans ((F28 164 23 rfl).trans (f164_23 (h := h) hT))))))))))))))))), ((F43 168 4 rfl).trans ((F42 168 4 rfl).trans ((F41 168 4 rfl).trans ((F40 168 4 rfl).trans ((F39 168 4 rfl).trans ((F38 168 4 rfl).trans ((F37 168 4 rfl).trans ((F36 168 4 rfl).trans ((F35 168 4 rfl).trans ((F34 168 4 rfl).trans ((F33 168 4 rfl).trans ((F32 168 4 rfl).trans ((F31 168 4 rfl).trans ((F30 168 4 rfl).trans ((F29 168 4 rfl).trans ((F28 168 4 rfl).trans (f168_4 (h := h) hT))))))))))))))))), ((F43 164 50 rfl).trans ((F42 164 50 rfl).trans ((F41 164 50 rfl).trans ((F40 164 50 rfl).trans ((F39 164 50 rfl).trans ((F38 164 50 rfl).trans ((F37 164 50 rfl).trans ((F36 164 50 rfl).trans ((F35 164 50 rfl).trans ((F34 164 50 rfl).trans ((F33 164 50 rfl).trans ((F32 164 50 rfl).trans ((F31 164 50 rfl).trans ((F30 164 50 rfl).trans ((F29 164 50 rfl).trans ((F28 164 50 rfl).trans (f164_50 (h := h) hT))))))))))))))))), ((F43 164 61 rfl).trans ((F42 164 61 rfl).trans ((F41 164 61 rfl).trans ((F40 164 61 rfl).trans ((F39 164 61 rfl).trans ((F38 164 61 rfl).trans ((F37 164 61 rfl).trans ((F36 164 61 rfl).trans ((F35 164 61 rfl).trans ((F34 164 61 rfl).trans ((F33 164 61 rfl).trans ((F32 164 61 rfl).trans ((F31 164 61 rfl).trans ((F30 164 61 rfl).trans ((F29 164 61 rfl).trans ((F28 164 61 rfl).trans (f164_61 (h := h) hT))))))))))))))))), ((F43 164 47 rfl).trans ((F42 164 47 rfl).trans ((F41 164 47 rfl).trans ((F40 164 47 rfl).trans ((F39 164 47 rfl).trans ((F38 164 47 rfl).trans ((F37 164 47 rfl).trans ((F36 164 47 rfl).trans ((F35 164 47 rfl).trans ((F34 164 47 rfl).trans ((F33 164 47 rfl).trans ((F32 164 47 rfl).trans ((F31 164 47 rfl).trans ((F30 164 47 rfl).trans ((F29 164 47 rfl).trans ((F28 164 47 rfl).trans (f164_47 (h := h) hT))))))))))))))))), ((F43 168 0 rfl).trans ((F42 168 0 rfl).trans ((F41 168 0 rfl).trans ((F40 168 0 rfl).trans ((F39 168 0 rfl).trans ((F38 168 0 rfl).trans ((F37 168 0 rfl).trans ((F36 168 0 rfl).trans ((F35 168 0 rfl).trans ((F34 168 0 rfl).trans ((F33 168 0 rfl).trans ((F32 168 0 rfl).trans ((F31 168 0 rfl).trans ((F30 168 0 rfl).trans ((F29 168 0 rfl).trans ((F28 168 0 rfl).trans (f168_0 (h := h) hT))))))))))))))))), ((F43 164 51 rfl).trans ((F42 164 51 rfl).trans ((F41 164 51 rfl).trans ((F40 164 51 rfl).trans ((F39 164 51 rfl).trans ((F38 164 51 rfl).trans ((F37 164 51 rfl).trans ((F36 164 51 rfl).trans ((F35 164 51 rfl).trans ((F34 164 51 rfl).trans ((F33 164 51 rfl).trans ((F32 164 51 rfl).trans ((F31 164 51 rfl).trans ((F30 164 51 rfl).trans ((F29 164 51 rfl).trans ((F28 164 51 rfl).trans (f164_51 (h := h) hT))))))))))))))))), ((F43 164 33 rfl).trans ((F42 164 33 rfl).trans ((F41 164 33 rfl).trans ((F40 164 33 rfl).trans ((F39 164 33 rfl).trans ((F38 164 33 rfl).trans ((F37 164 33 rfl).trans ((F36 164 33 rfl).trans ((F35 164 33 rfl).trans ((F34 164 33 rfl).trans ((F33 164 33 rfl).trans ((F32 164 33 rfl).trans ((F31 164 33 rfl).trans ((F30 164 33 rfl).trans ((F29 164 33 rfl).trans ((F28 164 33 rfl).trans (f164_33 (h := h) hT))))))))))))))))), ((F43 178 2 rfl).trans ((F42 178 2 rfl).trans ((F41 178 2 rfl).trans ((F40 178 2 rfl).trans ((F39 178 2 rfl).trans ((F38 178 2 rfl).trans ((F37 178 2 rfl).trans ((F36 178 2 rfl).trans ((F35 178 2 rfl).trans ((F34 178 2 rfl).trans ((F33 178 2 rfl).trans ((F32 178 2 rfl).trans ((F31 178 2 rfl).trans ((F30 178 2 rfl).trans ((F29 178 2 rfl).trans ((F28 178 2 rfl).trans (f178_2 (h := h) hT))))))))))))))))), ((F43 178 0 rfl).trans ((F42 178 0 rfl).trans ((F41 178 0 rfl).trans ((F40 178 0 rfl).trans ((F39 178 0 rfl).trans ((F38 178 0 rfl).trans ((F37 178 0 rfl).trans ((F36 178 0 rfl).trans ((F35 178 0 rfl).trans ((F34 178 0 rfl).trans ((F33 178 0 rfl).trans ((F32 178 0 rfl).trans ((F31 178 0 rfl).trans ((F30 178 0 rfl).trans ((F29 178 0 rfl).trans ((F28 178 0 rfl).trans (f178_0 (h := h) hT))))))))))))))))), ((F43 164 62 rfl).trans ((F42 164 62 rfl).trans ((F41 164 62 rfl).trans ((F40 164 62 rfl).trans ((F39 164 62 rfl).trans ((F38 164 62 rfl).trans ((F37 164 62 rfl).trans ((F36 164 62 rfl).trans ((F35 164 62 rfl).trans ((F34 164 62 rfl).trans ((F33 164 62 rfl).trans ((F32 164 62 rfl).trans ((F31 164 62 rfl).trans ((F30 164 62 rfl).trans ((F29 164 62 rfl).trans ((F28 164 62 rfl).trans (f164_62 (h := h) hT))))))))))))))))), ((F43 164 58 rfl).trans ((F42 164 58 rfl).trans ((F41 164 58 rfl).trans ((F40 164 58 rfl).trans ((F39 164 58 rfl).trans ((F38 164 58 rfl).trans ((F37 164 58 rfl).trans ((F36 164 58 rfl).trans ((F35 164 58 rfl).trans ((F34 164 58 rfl).trans ((F33 164 58 rfl).trans ((F32 164 58 rfl).trans ((F31 164 58 rfl).trans ((F30 164 58 rfl).trans ((F29 164 58 rfl).trans ((F28 164 58 rfl).trans (f164_58 (h := h) hT))))))))))))))))), ((F43 164 60 rfl).trans ((F42 164 60 rfl).trans ((F41 164 60 rfl).trans ((F40 164 60 rfl).trans ((F39 164 60 rfl).trans ((F38 164 60 rfl).trans ((F37 164 60 rfl).trans ((F36 164 60 rfl).trans ((F35 164 60 rfl).trans ((F34 164 60 rfl).trans ((F33 164 60 rfl).trans ((F32 164 60 rfl).trans ((F31 164 60 rfl).trans ((F30 164 60 rfl).trans ((F29 164 60 rfl).trans ((F28 164 60 rfl).trans (f164_60 (h := h) hT))))))))))))))))), trivial⟩ rfl rfl qc43 ?_
  intro h44 dr44 F44 qa44 qb44 qc44
  refine am_e_iload n127_59 rfl ?_
  refine am_e_aload_n n127_60 rfl ?_
  refine am_e_getf (v := .ref 188) n127_61 rfl ((F44 164 50 rfl).trans ((F43 164 50 rfl).trans ((F42 164 50 rfl).trans ((F41 164 50 rfl).trans ((F40 164 50 rfl).trans ((F39 164 50 rfl).trans ((F38 164 50 rfl).trans ((F37 164 50 rfl).trans ((F36 164 50 rfl).trans ((F35 164 50 rfl).trans ((F34 164 50 rfl).trans ((F33 164 50 rfl).trans ((F32 164 50 rfl).trans ((F31 164 50 rfl).trans ((F30 164 50 rfl).trans ((F29 164 50 rfl).trans ((F28 164 50 rfl).trans (f164_50 (h := h) hT)))))))))))))))))) ?_
  refine am_e_iconst (w := 1) n127_62 rfl ?_
  refine am_e_iaload (v := 0) (q := 1) n127_63 rfl (by decide) (by decide) qa44 ?_
  refine am_e_iload_n n127_64 rfl ?_
  refine am_e_cmpF n127_65 (am_c_ltF (by decide)) ?_
  refine am_e_iconst (w := 1) n127_66 rfl ?_
  refine am_e_goto c127_67 t127_67 ?_
  refine am_e_iadd (w := 7) n127_69 (by decide) ?_
  refine am_e_istore (ls' := [(6, .int 7), (0, .ref 164), (2, .int (nI n)), (3, .int (nI 0)), (4, .long 0), (7, .int 6), (8, .int (nI n))]) n127_70 rfl rfl ?_
  refine am_e_iinc (w := 7) (ls' := [(7, .int 7), (6, .int 7), (0, .ref 164), (2, .int (nI n)), (3, .int (nI 0)), (4, .long 0), (8, .int (nI n))]) n127_71 rfl rfl (by decide) rfl ?_
  refine am_e_goto c127_72 t127_72 ?_
  refine am_e_iload n127_28 rfl ?_
  refine am_e_bipush (w := 10) n127_29 (by decide) ?_
  refine am_e_cmpF n127_30 (am_c_geF (by decide)) ?_
  refine am_e_aload_n n127_31 rfl ?_
  refine am_e_iconst (w := 1) n127_32 rfl ?_
  refine am_e_iconst (w := 0) n127_33 rfl ?_
  refine am_e_callV (L := [(0, .ref 164), (1, .int 1), (2, .int 0)]) n127_34 rfl rfl rfl rfl rfl rfl rfl rfl ?_
  refine am_e_aload_n n97_0 rfl ?_
  refine am_e_getf (v := .ref 188) n97_1 rfl ((F44 164 50 rfl).trans ((F43 164 50 rfl).trans ((F42 164 50 rfl).trans ((F41 164 50 rfl).trans ((F40 164 50 rfl).trans ((F39 164 50 rfl).trans ((F38 164 50 rfl).trans ((F37 164 50 rfl).trans ((F36 164 50 rfl).trans ((F35 164 50 rfl).trans ((F34 164 50 rfl).trans ((F33 164 50 rfl).trans ((F32 164 50 rfl).trans ((F31 164 50 rfl).trans ((F30 164 50 rfl).trans ((F29 164 50 rfl).trans ((F28 164 50 rfl).trans (f164_50 (h := h) hT)))))))))))))))))) ?_
  refine am_e_iload_n n97_2 rfl ?_
  refine am_e_aload_n n97_3 rfl ?_
  refine am_e_getf (v := .ref 188) n97_4 rfl ((F44 164 50 rfl).trans ((F43 164 50 rfl).trans ((F42 164 50 rfl).trans ((F41 164 50 rfl).trans ((F40 164 50 rfl).trans ((F39 164 50 rfl).trans ((F38 164 50 rfl).trans ((F37 164 50 rfl).trans ((F36 164 50 rfl).trans ((F35 164 50 rfl).trans ((F34 164 50 rfl).trans ((F33 164 50 rfl).trans ((F32 164 50 rfl).trans ((F31 164 50 rfl).trans ((F30 164 50 rfl).trans ((F29 164 50 rfl).trans ((F28 164 50 rfl).trans (f164_50 (h := h) hT)))))))))))))))))) ?_
  refine am_e_iload_n n97_5 rfl ?_
  refine am_e_iaload (v := 0) (q := 0) n97_6 rfl (by decide) (by decide) ((F44 188 0 rfl).trans ((F43 188 0 rfl).trans ((F42 188 0 rfl).trans ((F41 188 0 rfl).trans ((F40 188 0 rfl).trans ((F39 188 0 rfl).trans ((F38 188 0 rfl).trans ((F37 188 0 rfl).trans ((F36 188 0 rfl).trans ((F35 188 0 rfl).trans ((F34 188 0 rfl).trans ((F33 188 0 rfl).trans ((F32 188 0 rfl).trans ((F31 188 0 rfl).trans ((F30 188 0 rfl).trans ((F29 188 0 rfl).trans ((F28 188 0 rfl).trans (f188_0 (h := h) hT)))))))))))))))))) ?_
  refine am_e_iastore (q := 1) n97_7 rfl (by decide) (by decide) ?_
  refine am_e_aload_n n97_8 rfl ?_
  refine am_e_getf (v := .ref 189) n97_9 rfl ((F44 164 51 rfl).trans ((F43 164 51 rfl).trans ((F42 164 51 rfl).trans ((F41 164 51 rfl).trans ((F40 164 51 rfl).trans ((F39 164 51 rfl).trans ((F38 164 51 rfl).trans ((F37 164 51 rfl).trans ((F36 164 51 rfl).trans ((F35 164 51 rfl).trans ((F34 164 51 rfl).trans ((F33 164 51 rfl).trans ((F32 164 51 rfl).trans ((F31 164 51 rfl).trans ((F30 164 51 rfl).trans ((F29 164 51 rfl).trans ((F28 164 51 rfl).trans (f164_51 (h := h) hT)))))))))))))))))) ?_
  refine am_e_iload_n n97_10 rfl ?_
  refine am_e_aload_n n97_11 rfl ?_
  refine am_e_getf (v := .ref 189) n97_12 rfl ((F44 164 51 rfl).trans ((F43 164 51 rfl).trans ((F42 164 51 rfl).trans ((F41 164 51 rfl).trans ((F40 164 51 rfl).trans ((F39 164 51 rfl).trans ((F38 164 51 rfl).trans ((F37 164 51 rfl).trans ((F36 164 51 rfl).trans ((F35 164 51 rfl).trans ((F34 164 51 rfl).trans ((F33 164 51 rfl).trans ((F32 164 51 rfl).trans ((F31 164 51 rfl).trans ((F30 164 51 rfl).trans ((F29 164 51 rfl).trans ((F28 164 51 rfl).trans (f164_51 (h := h) hT)))))))))))))))))) ?_
  refine am_e_iload_n n97_13 rfl ?_
  refine am_e_iaload (v := 0) (q := 0) n97_14 rfl (by decide) (by decide) ((F44 189 0 rfl).trans ((F43 189 0 rfl).trans ((F42 189 0 rfl).trans ((F41 189 0 rfl).trans ((F40 189 0 rfl).trans ((F39 189 0 rfl).trans ((F38 189 0 rfl).trans ((F37 189 0 rfl).trans ((F36 189 0 rfl).trans ((F35 189 0 rfl).trans ((F34 189 0 rfl).trans ((F33 189 0 rfl).trans ((F32 189 0 rfl).trans ((F31 189 0 rfl).trans ((F30 189 0 rfl).trans ((F29 189 0 rfl).trans ((F28 189 0 rfl).trans (f189_0 (h := h) hT)))))))))))))))))) ?_
  refine am_e_iastore (q := 1) n97_15 rfl (by decide) (by decide) ?_
  refine am_e_aload_n n97_16 rfl ?_
  refine am_e_getf (v := .ref 190) n97_17 rfl ((F44 164 52 rfl).trans ((F43 164 52 rfl).trans ((F42 164 52 rfl).trans ((F41 164 52 rfl).trans ((F40 164 52 rfl).trans ((F39 164 52 rfl).trans ((F38 164 52 rfl).trans ((F37 164 52 rfl).trans ((F36 164 52 rfl).trans ((F35 164 52 rfl).trans ((F34 164 52 rfl).trans ((F33 164 52 rfl).trans ((F32 164 52 rfl).trans ((F31 164 52 rfl).trans ((F30 164 52 rfl).trans ((F29 164 52 rfl).trans ((F28 164 52 rfl).trans (f164_52 (h := h) hT)))))))))))))))))) ?_
  refine am_e_iload_n n97_18 rfl ?_
  refine am_e_aload_n n97_19 rfl ?_
  refine am_e_getf (v := .ref 190) n97_20 rfl ((F44 164 52 rfl).trans ((F43 164 52 rfl).trans ((F42 164 52 rfl).trans ((F41 164 52 rfl).trans ((F40 164 52 rfl).trans ((F39 164 52 rfl).trans ((F38 164 52 rfl).trans ((F37 164 52 rfl).trans ((F36 164 52 rfl).trans ((F35 164 52 rfl).trans ((F34 164 52 rfl).trans ((F33 164 52 rfl).trans ((F32 164 52 rfl).trans ((F31 164 52 rfl).trans ((F30 164 52 rfl).trans ((F29 164 52 rfl).trans ((F28 164 52 rfl).trans (f164_52 (h := h) hT)))))))))))))))))) ?_
  refine am_e_iload_n n97_21 rfl ?_
  refine am_e_iaload (v := (-1)) (q := 0) n97_22 rfl (by decide) (by decide) ((F44 190 0 rfl).trans ((F43 190 0 rfl).trans ((F42 190 0 rfl).trans ((F41 190 0 rfl).trans ((F40 190 0 rfl).trans ((F39 190 0 rfl).trans ((F38 190 0 rfl).trans ((F37 190 0 rfl).trans ((F36 190 0 rfl).trans ((F35 190 0 rfl).trans ((F34 190 0 rfl).trans ((F33 190 0 rfl).trans ((F32 190 0 rfl).trans ((F31 190 0 rfl).trans ((F30 190 0 rfl).trans ((F29 190 0 rfl).trans ((F28 190 0 rfl).trans (f190_0 (h := h) hT)))))))))))))))))) ?_
  refine am_e_iastore (q := 1) n97_23 rfl (by decide) (by decide) ?_
  refine am_e_aload_n n97_24 rfl ?_
  refine am_e_getf (v := .ref 194) n97_25 rfl ((F44 164 56 rfl).trans ((F43 164 56 rfl).trans ((F42 164 56 rfl).trans ((F41 164 56 rfl).trans ((F40 164 56 rfl).trans ((F39 164 56 rfl).trans ((F38 164 56 rfl).trans ((F37 164 56 rfl).trans ((F36 164 56 rfl).trans ((F35 164 56 rfl).trans ((F34 164 56 rfl).trans ((F33 164 56 rfl).trans ((F32 164 56 rfl).trans ((F31 164 56 rfl).trans ((F30 164 56 rfl).trans ((F29 164 56 rfl).trans ((F28 164 56 rfl).trans (f164_56 (h := h) hT)))))))))))))))))) ?_
  refine am_e_iload_n n97_26 rfl ?_
  refine am_e_aload_n n97_27 rfl ?_
  refine am_e_getf (v := .ref 194) n97_28 rfl ((F44 164 56 rfl).trans ((F43 164 56 rfl).trans ((F42 164 56 rfl).trans ((F41 164 56 rfl).trans ((F40 164 56 rfl).trans ((F39 164 56 rfl).trans ((F38 164 56 rfl).trans ((F37 164 56 rfl).trans ((F36 164 56 rfl).trans ((F35 164 56 rfl).trans ((F34 164 56 rfl).trans ((F33 164 56 rfl).trans ((F32 164 56 rfl).trans ((F31 164 56 rfl).trans ((F30 164 56 rfl).trans ((F29 164 56 rfl).trans ((F28 164 56 rfl).trans (f164_56 (h := h) hT)))))))))))))))))) ?_
  refine am_e_iload_n n97_29 rfl ?_
  refine am_e_iaload (v := 0) (q := 0) n97_30 rfl (by decide) (by decide) ((F44 194 0 rfl).trans ((F43 194 0 rfl).trans ((F42 194 0 rfl).trans ((F41 194 0 rfl).trans ((F40 194 0 rfl).trans ((F39 194 0 rfl).trans ((F38 194 0 rfl).trans ((F37 194 0 rfl).trans ((F36 194 0 rfl).trans ((F35 194 0 rfl).trans ((F34 194 0 rfl).trans ((F33 194 0 rfl).trans ((F32 194 0 rfl).trans ((F31 194 0 rfl).trans ((F30 194 0 rfl).trans ((F29 194 0 rfl).trans ((F28 194 0 rfl).trans (f194_0 (h := h) hT)))))))))))))))))) ?_
  refine am_e_iastore (q := 1) n97_31 rfl (by decide) (by decide) ?_
  refine am_e_iconst (w := 0) n97_32 rfl ?_
  refine am_e_istore_n (ls' := [(3, .int 0), (0, .ref 164), (1, .int 1), (2, .int 0)]) n97_33 rfl rfl ?_
  refine am_e_iload_n n97_34 rfl ?_
  refine am_e_iconst (w := 4) n97_35 rfl ?_
  refine am_e_cmpF n97_36 (am_c_geF (by decide)) ?_
  refine am_e_aload_n n97_37 rfl ?_
  refine am_e_getf (v := .ref 191) n97_38 rfl ((F44 164 53 rfl).trans ((F43 164 53 rfl).trans ((F42 164 53 rfl).trans ((F41 164 53 rfl).trans ((F40 164 53 rfl).trans ((F39 164 53 rfl).trans ((F38 164 53 rfl).trans ((F37 164 53 rfl).trans ((F36 164 53 rfl).trans ((F35 164 53 rfl).trans ((F34 164 53 rfl).trans ((F33 164 53 rfl).trans ((F32 164 53 rfl).trans ((F31 164 53 rfl).trans ((F30 164 53 rfl).trans ((F29 164 53 rfl).trans ((F28 164 53 rfl).trans (f164_53 (h := h) hT)))))))))))))))))) ?_
  refine am_e_iconst (w := 4) n97_39 rfl ?_
  refine am_e_iload_n n97_40 rfl ?_
  refine am_e_imul (w := 4) n97_41 (by decide) ?_
  refine am_e_iload_n n97_42 rfl ?_
  refine am_e_iadd (w := 4) n97_43 (by decide) ?_
  refine am_e_aload_n n97_44 rfl ?_
  refine am_e_getf (v := .ref 191) n97_45 rfl ((F44 164 53 rfl).trans ((F43 164 53 rfl).trans ((F42 164 53 rfl).trans ((F41 164 53 rfl).trans ((F40 164 53 rfl).trans ((F39 164 53 rfl).trans ((F38 164 53 rfl).trans ((F37 164 53 rfl).trans ((F36 164 53 rfl).trans ((F35 164 53 rfl).trans ((F34 164 53 rfl).trans ((F33 164 53 rfl).trans ((F32 164 53 rfl).trans ((F31 164 53 rfl).trans ((F30 164 53 rfl).trans ((F29 164 53 rfl).trans ((F28 164 53 rfl).trans (f164_53 (h := h) hT)))))))))))))))))) ?_
  refine am_e_iconst (w := 4) n97_46 rfl ?_
  refine am_e_iload_n n97_47 rfl ?_
  refine am_e_imul (w := 0) n97_48 (by decide) ?_
  refine am_e_iload_n n97_49 rfl ?_
  refine am_e_iadd (w := 0) n97_50 (by decide) ?_
  refine am_e_iaload (v := 0) (q := 0) n97_51 rfl (by decide) (by decide) ((F44 191 0 rfl).trans ((F43 191 0 rfl).trans ((F42 191 0 rfl).trans ((F41 191 0 rfl).trans ((F40 191 0 rfl).trans ((F39 191 0 rfl).trans ((F38 191 0 rfl).trans ((F37 191 0 rfl).trans ((F36 191 0 rfl).trans ((F35 191 0 rfl).trans ((F34 191 0 rfl).trans ((F33 191 0 rfl).trans ((F32 191 0 rfl).trans ((F31 191 0 rfl).trans ((F30 191 0 rfl).trans ((F29 191 0 rfl).trans ((F28 191 0 rfl).trans (f191_0 (h := h) hT)))))))))))))))))) ?_
  refine am_e_iastore (q := 4) n97_52 rfl (by decide) (by decide) ?_
  refine am_e_aload_n n97_53 rfl ?_
  refine am_e_getf (v := .ref 192) n97_54 rfl ((F44 164 54 rfl).trans ((F43 164 54 rfl).trans ((F42 164 54 rfl).trans ((F41 164 54 rfl).trans ((F40 164 54 rfl).trans ((F39 164 54 rfl).trans ((F38 164 54 rfl).trans ((F37 164 54 rfl).trans ((F36 164 54 rfl).trans ((F35 164 54 rfl).trans ((F34 164 54 rfl).trans ((F33 164 54 rfl).trans ((F32 164 54 rfl).trans ((F31 164 54 rfl).trans ((F30 164 54 rfl).trans ((F29 164 54 rfl).trans ((F28 164 54 rfl).trans (f164_54 (h := h) hT)))))))))))))))))) ?_
  refine am_e_iconst (w := 4) n97_55 rfl ?_
  refine am_e_iload_n n97_56 rfl ?_
  refine am_e_imul (w := 4) n97_57 (by decide) ?_
  refine am_e_iload_n n97_58 rfl ?_
  refine am_e_iadd (w := 4) n97_59 (by decide) ?_
  refine am_e_aload_n n97_60 rfl ?_
  refine am_e_getf (v := .ref 192) n97_61 rfl ((F44 164 54 rfl).trans ((F43 164 54 rfl).trans ((F42 164 54 rfl).trans ((F41 164 54 rfl).trans ((F40 164 54 rfl).trans ((F39 164 54 rfl).trans ((F38 164 54 rfl).trans ((F37 164 54 rfl).trans ((F36 164 54 rfl).trans ((F35 164 54 rfl).trans ((F34 164 54 rfl).trans ((F33 164 54 rfl).trans ((F32 164 54 rfl).trans ((F31 164 54 rfl).trans ((F30 164 54 rfl).trans ((F29 164 54 rfl).trans ((F28 164 54 rfl).trans (f164_54 (h := h) hT)))))))))))))))))) ?_
  refine am_e_iconst (w := 4) n97_62 rfl ?_
  refine am_e_iload_n n97_63 rfl ?_
  refine am_e_imul (w := 0) n97_64 (by decide) ?_
  refine am_e_iload_n n97_65 rfl ?_
  refine am_e_iadd (w := 0) n97_66 (by decide) ?_
  refine am_e_iaload (v := 0) (q := 0) n97_67 rfl (by decide) (by decide) ((F44 192 0 rfl).trans ((F43 192 0 rfl).trans ((F42 192 0 rfl).trans ((F41 192 0 rfl).trans ((F40 192 0 rfl).trans ((F39 192 0 rfl).trans ((F38 192 0 rfl).trans ((F37 192 0 rfl).trans ((F36 192 0 rfl).trans ((F35 192 0 rfl).trans ((F34 192 0 rfl).trans ((F33 192 0 rfl).trans ((F32 192 0 rfl).trans ((F31 192 0 rfl).trans ((F30 192 0 rfl).trans ((F29 192 0 rfl).trans ((F28 192 0 rfl).trans (f192_0 (h := h) hT)))))))))))))))))) ?_
  refine am_e_iastore (q := 4) n97_68 rfl (by decide) (by decide) ?_
  refine am_e_aload_n n97_69 rfl ?_
  refine am_e_getf (v := .ref 193) n97_70 rfl ((F44 164 55 rfl).trans ((F43 164 55 rfl).trans ((F42 164 55 rfl).trans ((F41 164 55 rfl).trans ((F40 164 55 rfl).trans ((F39 164 55 rfl).trans ((F38 164 55 rfl).trans ((F37 164 55 rfl).trans ((F36 164 55 rfl).trans ((F35 164 55 rfl).trans ((F34 164 55 rfl).trans ((F33 164 55 rfl).trans ((F32 164 55 rfl).trans ((F31 164 55 rfl).trans ((F30 164 55 rfl).trans ((F29 164 55 rfl).trans ((F28 164 55 rfl).trans (f164_55 (h := h) hT)))))))))))))))))) ?_
  refine am_e_iconst (w := 4) n97_71 rfl ?_
  refine am_e_iload_n n97_72 rfl ?_
  refine am_e_imul (w := 4) n97_73 (by decide) ?_
  refine am_e_iload_n n97_74 rfl ?_
  refine am_e_iadd (w := 4) n97_75 (by decide) ?_
  refine am_e_aload_n n97_76 rfl ?_
  refine am_e_getf (v := .ref 193) n97_77 rfl ((F44 164 55 rfl).trans ((F43 164 55 rfl).trans ((F42 164 55 rfl).trans ((F41 164 55 rfl).trans ((F40 164 55 rfl).trans ((F39 164 55 rfl).trans ((F38 164 55 rfl).trans ((F37 164 55 rfl).trans ((F36 164 55 rfl).trans ((F35 164 55 rfl).trans ((F34 164 55 rfl).trans ((F33 164 55 rfl).trans ((F32 164 55 rfl).trans ((F31 164 55 rfl).trans ((F30 164 55 rfl).trans ((F29 164 55 rfl).trans ((F28 164 55 rfl).trans (f164_55 (h := h) hT)))))))))))))))))) ?_
  refine am_e_iconst (w := 4) n97_78 rfl ?_
  refine am_e_iload_n n97_79 rfl ?_
  refine am_e_imul (w := 0) n97_80 (by decide) ?_
  refine am_e_iload_n n97_81 rfl ?_
  refine am_e_iadd (w := 0) n97_82 (by decide) ?_
  refine am_e_iaload (v := 0) (q := 0) n97_83 rfl (by decide) (by decide) ((F44 193 0 rfl).trans ((F43 193 0 rfl).trans ((F42 193 0 rfl).trans ((F41 193 0 rfl).trans ((F40 193 0 rfl).trans ((F39 193 0 rfl).trans ((F38 193 0 rfl).trans ((F37 193 0 rfl).trans ((F36 193 0 rfl).trans ((F35 193 0 rfl).trans ((F34 193 0 rfl).trans ((F33 193 0 rfl).trans ((F32 193 0 rfl).trans ((F31 193 0 rfl).trans ((F30 193 0 rfl).trans ((F29 193 0 rfl).trans ((F28 193 0 rfl).trans (f193_0 (h := h) hT)))))))))))))))))) ?_
  refine am_e_iastore (q := 4) n97_84 rfl (by decide) (by decide) ?_
  refine am_e_iinc (w := 1) (ls' := [(3, .int 1), (0, .ref 164), (1, .int 1), (2, .int 0)]) n97_85 rfl rfl (by decide) rfl ?_
  refine am_e_goto c97_86 t97_86 ?_
  refine am_e_iload_n n97_34 rfl ?_
  refine am_e_iconst (w := 4) n97_35 rfl ?_
  refine am_e_cmpF n97_36 (am_c_geF (by decide)) ?_
  refine am_e_aload_n n97_37 rfl ?_
  refine am_e_getf (v := .ref 191) n97_38 rfl ((F44 164 53 rfl).trans ((F43 164 53 rfl).trans ((F42 164 53 rfl).trans ((F41 164 53 rfl).trans ((F40 164 53 rfl).trans ((F39 164 53 rfl).trans ((F38 164 53 rfl).trans ((F37 164 53 rfl).trans ((F36 164 53 rfl).trans ((F35 164 53 rfl).trans ((F34 164 53 rfl).trans ((F33 164 53 rfl).trans ((F32 164 53 rfl).trans ((F31 164 53 rfl).trans ((F30 164 53 rfl).trans ((F29 164 53 rfl).trans ((F28 164 53 rfl).trans (f164_53 (h := h) hT)))))))))))))))))) ?_
  refine am_e_iconst (w := 4) n97_39 rfl ?_
  refine am_e_iload_n n97_40 rfl ?_
  refine am_e_imul (w := 4) n97_41 (by decide) ?_
  refine am_e_iload_n n97_42 rfl ?_
  refine am_e_iadd (w := 5) n97_43 (by decide) ?_
  refine am_e_aload_n n97_44 rfl ?_
  refine am_e_getf (v := .ref 191) n97_45 rfl ((F44 164 53 rfl).trans ((F43 164 53 rfl).trans ((F42 164 53 rfl).trans ((F41 164 53 rfl).trans ((F40 164 53 rfl).trans ((F39 164 53 rfl).trans ((F38 164 53 rfl).trans ((F37 164 53 rfl).trans ((F36 164 53 rfl).trans ((F35 164 53 rfl).trans ((F34 164 53 rfl).trans ((F33 164 53 rfl).trans ((F32 164 53 rfl).trans ((F31 164 53 rfl).trans ((F30 164 53 rfl).trans ((F29 164 53 rfl).trans ((F28 164 53 rfl).trans (f164_53 (h := h) hT)))))))))))))))))) ?_
  refine am_e_iconst (w := 4) n97_46 rfl ?_
  refine am_e_iload_n n97_47 rfl ?_
  refine am_e_imul (w := 0) n97_48 (by decide) ?_
  refine am_e_iload_n n97_49 rfl ?_
  refine am_e_iadd (w := 1) n97_50 (by decide) ?_
  refine am_e_iaload (v := 0) (q := 1) n97_51 rfl (by decide) (by decide) ((F44 191 1 rfl).trans ((F43 191 1 rfl).trans ((F42 191 1 rfl).trans ((F41 191 1 rfl).trans ((F40 191 1 rfl).trans ((F39 191 1 rfl).trans ((F38 191 1 rfl).trans ((F37 191 1 rfl).trans ((F36 191 1 rfl).trans ((F35 191 1 rfl).trans ((F34 191 1 rfl).trans ((F33 191 1 rfl).trans ((F32 191 1 rfl).trans ((F31 191 1 rfl).trans ((F30 191 1 rfl).trans ((F29 191 1 rfl).trans ((F28 191 1 rfl).trans (f191_1 (h := h) hT)))))))))))))))))) ?_
  refine am_e_iastore (q := 5) n97_52 rfl (by decide) (by decide) ?_
  refine am_e_aload_n n97_53 rfl ?_
  refine am_e_getf (v := .ref 192) n97_54 rfl ((F44 164 54 rfl).trans ((F43 164 54 rfl).trans ((F42 164 54 rfl).trans ((F41 164 54 rfl).trans ((F40 164 54 rfl).trans ((F39 164 54 rfl).trans ((F38 164 54 rfl).trans ((F37 164 54 rfl).trans ((F36 164 54 rfl).trans ((F35 164 54 rfl).trans ((F34 164 54 rfl).trans ((F33 164 54 rfl).trans ((F32 164 54 rfl).trans ((F31 164 54 rfl).trans ((F30 164 54 rfl).trans ((F29 164 54 rfl).trans ((F28 164 54 rfl).trans (f164_54 (h := h) hT)))))))))))))))))) ?_
  refine am_e_iconst (w := 4) n97_55 rfl ?_
  refine am_e_iload_n n97_56 rfl ?_
  refine am_e_imul (w := 4) n97_57 (by decide) ?_
  refine am_e_iload_n n97_58 rfl ?_
  refine am_e_iadd (w := 5) n97_59 (by decide) ?_
  refine am_e_aload_n n97_60 rfl ?_
  refine am_e_getf (v := .ref 192) n97_61 rfl ((F44 164 54 rfl).trans ((F43 164 54 rfl).trans ((F42 164 54 rfl).trans ((F41 164 54 rfl).trans ((F40 164 54 rfl).trans ((F39 164 54 rfl).trans ((F38 164 54 rfl).trans ((F37 164 54 rfl).trans ((F36 164 54 rfl).trans ((F35 164 54 rfl).trans ((F34 164 54 rfl).trans ((F33 164 54 rfl).trans ((F32 164 54 rfl).trans ((F31 164 54 rfl).trans ((F30 164 54 rfl).trans ((F29 164 54 rfl).trans ((F28 164 54 rfl).trans (f164_54 (h := h) hT)))))))))))))))))) ?_
  refine am_e_iconst (w := 4) n97_62 rfl ?_
  refine am_e_iload_n n97_63 rfl ?_
  refine am_e_imul (w := 0) n97_64 (by decide) ?_
  refine am_e_iload_n n97_65 rfl ?_
  refine am_e_iadd (w := 1) n97_66 (by decide) ?_
  refine am_e_iaload (v := 0) (q := 1) n97_67 rfl (by decide) (by decide) ((F44 192 1 rfl).trans ((F43 192 1 rfl).trans ((F42 192 1 rfl).trans ((F41 192 1 rfl).trans ((F40 192 1 rfl).trans ((F39 192 1 rfl).trans ((F38 192 1 rfl).trans ((F37 192 1 rfl).trans ((F36 192 1 rfl).trans ((F35 192 1 rfl).trans ((F34 192 1 rfl).trans ((F33 192 1 rfl).trans ((F32 192 1 rfl).trans ((F31 192 1 rfl).trans ((F30 192 1 rfl).trans ((F29 192 1 rfl).trans ((F28 192 1 rfl).trans (f192_1 (h := h) hT)))))))))))))))))) ?_
  refine am_e_iastore (q := 5) n97_68 rfl (by decide) (by decide) ?_
  refine am_e_aload_n n97_69 rfl ?_
  refine am_e_getf (v := .ref 193) n97_70 rfl ((F44 164 55 rfl).trans ((F43 164 55 rfl).trans ((F42 164 55 rfl).trans ((F41 164 55 rfl).trans ((F40 164 55 rfl).trans ((F39 164 55 rfl).trans ((F38 164 55 rfl).trans ((F37 164 55 rfl).trans ((F36 164 55 rfl).trans ((F35 164 55 rfl).trans ((F34 164 55 rfl).trans ((F33 164 55 rfl).trans ((F32 164 55 rfl).trans ((F31 164 55 rfl).trans ((F30 164 55 rfl).trans ((F29 164 55 rfl).trans ((F28 164 55 rfl).trans (f164_55 (h := h) hT)))))))))))))))))) ?_
  refine am_e_iconst (w := 4) n97_71 rfl ?_
  refine am_e_iload_n n97_72 rfl ?_
  refine am_e_imul (w := 4) n97_73 (by decide) ?_
  refine am_e_iload_n n97_74 rfl ?_
  refine am_e_iadd (w := 5) n97_75 (by decide) ?_
  refine am_e_aload_n n97_76 rfl ?_
  refine am_e_getf (v := .ref 193) n97_77 rfl ((F44 164 55 rfl).trans ((F43 164 55 rfl).trans ((F42 164 55 rfl).trans ((F41 164 55 rfl).trans ((F40 164 55 rfl).trans ((F39 164 55 rfl).trans ((F38 164 55 rfl).trans ((F37 164 55 rfl).trans ((F36 164 55 rfl).trans ((F35 164 55 rfl).trans ((F34 164 55 rfl).trans ((F33 164 55 rfl).trans ((F32 164 55 rfl).trans ((F31 164 55 rfl).trans ((F30 164 55 rfl).trans ((F29 164 55 rfl).trans ((F28 164 55 rfl).trans (f164_55 (h := h) hT)))))))))))))))))) ?_
  refine am_e_iconst (w := 4) n97_78 rfl ?_
  refine am_e_iload_n n97_79 rfl ?_
  refine am_e_imul (w := 0) n97_80 (by decide) ?_
  refine am_e_iload_n n97_81 rfl ?_
  refine am_e_iadd (w := 1) n97_82 (by decide) ?_
  refine am_e_iaload (v := 0) (q := 1) n97_83 rfl (by decide) (by decide) ((F44 193 1 rfl).trans ((F43 193 1 rfl).trans ((F42 193 1 rfl).trans ((F41 193 1 rfl).trans ((F40 193 1 rfl).trans ((F39 193 1 rfl).trans ((F38 193 1 rfl).trans ((F37 193 1 rfl).trans ((F36 193 1 rfl).trans ((F35 193 1 rfl).trans ((F34 193 1 rfl).trans ((F33 193 1 rfl).trans ((F32 193 1 rfl).trans ((F31 193 1 rfl).trans ((F30 193 1 rfl).trans ((F29 193 1 rfl).trans ((F28 193 1 rfl).trans (f193_1 (h := h) hT)))))))))))))))))) ?_
  refine am_e_iastore (q := 5) n97_84 rfl (by decide) (by decide) ?_
  refine am_e_iinc (w := 2) (ls' := [(3, .int 2), (0, .ref 164), (1, .int 1), (2, .int 0)]) n97_85 rfl rfl (by decide) rfl ?_
  refine am_e_goto c97_86 t97_86 ?_
  refine am_e_iload_n n97_34 rfl ?_
  refine am_e_iconst (w := 4) n97_35 rfl ?_
  refine am_e_cmpF n97_36 (am_c_geF (by decide)) ?_
  refine am_e_aload_n n97_37 rfl ?_
  refine am_e_getf (v := .ref 191) n97_38 rfl ((F44 164 53 rfl).trans ((F43 164 53 rfl).trans ((F42 164 53 rfl).trans ((F41 164 53 rfl).trans ((F40 164 53 rfl).trans ((F39 164 53 rfl).trans ((F38 164 53 rfl).trans ((F37 164 53 rfl).trans ((F36 164 53 rfl).trans ((F35 164 53 rfl).trans ((F34 164 53 rfl).trans ((F33 164 53 rfl).trans ((F32 164 53 rfl).trans ((F31 164 53 rfl).trans ((F30 164 53 rfl).trans ((F29 164 53 rfl).trans ((F28 164 53 rfl).trans (f164_53 (h := h) hT)))))))))))))))))) ?_
  refine am_e_iconst (w := 4) n97_39 rfl ?_
  refine am_e_iload_n n97_40 rfl ?_
  refine am_e_imul (w := 4) n97_41 (by decide) ?_
  refine am_e_iload_n n97_42 rfl ?_
  refine am_e_iadd (w := 6) n97_43 (by decide) ?_
  refine am_e_aload_n n97_44 rfl ?_
  refine am_e_getf (v := .ref 191) n97_45 rfl ((F44 164 53 rfl).trans ((F43 164 53 rfl).trans ((F42 164 53 rfl).trans ((F41 164 53 rfl).trans ((F40 164 53 rfl).trans ((F39 164 53 rfl).trans ((F38 164 53 rfl).trans ((F37 164 53 rfl).trans ((F36 164 53 rfl).trans ((F35 164 53 rfl).trans ((F34 164 53 rfl).trans ((F33 164 53 rfl).trans ((F32 164 53 rfl).trans ((F31 164 53 rfl).trans ((F30 164 53 rfl).trans ((F29 164 53 rfl).trans ((F28 164 53 rfl).trans (f164_53 (h := h) hT)))))))))))))))))) ?_
  refine am_e_iconst (w := 4) n97_46 rfl ?_
  refine am_e_iload_n n97_47 rfl ?_
  refine am_e_imul (w := 0) n97_48 (by decide) ?_
  refine am_e_iload_n n97_49 rfl ?_
  refine am_e_iadd (w := 2) n97_50 (by decide) ?_
  refine am_e_iaload (v := 0) (q := 2) n97_51 rfl (by decide) (by decide) ((F44 191 2 rfl).trans ((F43 191 2 rfl).trans ((F42 191 2 rfl).trans ((F41 191 2 rfl).trans ((F40 191 2 rfl).trans ((F39 191 2 rfl).trans ((F38 191 2 rfl).trans ((F37 191 2 rfl).trans ((F36 191 2 rfl).trans ((F35 191 2 rfl).trans ((F34 191 2 rfl).trans ((F33 191 2 rfl).trans ((F32 191 2 rfl).trans ((F31 191 2 rfl).trans ((F30 191 2 rfl).trans ((F29 191 2 rfl).trans ((F28 191 2 rfl).trans (f191_2 (h := h) hT)))))))))))))))))) ?_
  refine am_e_iastore (q := 6) n97_52 rfl (by decide) (by decide) ?_
  refine am_e_aload_n n97_53 rfl ?_
  refine am_e_getf (v := .ref 192) n97_54 rfl ((F44 164 54 rfl).trans ((F43 164 54 rfl).trans ((F42 164 54 rfl).trans ((F41 164 54 rfl).trans ((F40 164 54 rfl).trans ((F39 164 54 rfl).trans ((F38 164 54 rfl).trans ((F37 164 54 rfl).trans ((F36 164 54 rfl).trans ((F35 164 54 rfl).trans ((F34 164 54 rfl).trans ((F33 164 54 rfl).trans ((F32 164 54 rfl).trans ((F31 164 54 rfl).trans ((F30 164 54 rfl).trans ((F29 164 54 rfl).trans ((F28 164 54 rfl).trans (f164_54 (h := h) hT)))))))))))))))))) ?_
  refine am_e_iconst (w := 4) n97_55 rfl ?_
  refine am_e_iload_n n97_56 rfl ?_
  refine am_e_imul (w := 4) n97_57 (by decide) ?_
  refine am_e_iload_n n97_58 rfl ?_
  refine am_e_iadd (w := 6) n97_59 (by decide) ?_
  refine am_e_aload_n n97_60 rfl ?_
  refine am_e_getf (v := .ref 192) n97_61 rfl ((F44 164 54 rfl).trans ((F43 164 54 rfl).trans ((F42 164 54 rfl).trans ((F41 164 54 rfl).trans ((F40 164 54 rfl).trans ((F39 164 54 rfl).trans ((F38 164 54 rfl).trans ((F37 164 54 rfl).trans ((F36 164 54 rfl).trans ((F35 164 54 rfl).trans ((F34 164 54 rfl).trans ((F33 164 54 rfl).trans ((F32 164 54 rfl).trans ((F31 164 54 rfl).trans ((F30 164 54 rfl).trans ((F29 164 54 rfl).trans ((F28 164 54 rfl).trans (f164_54 (h := h) hT)))))))))))))))))) ?_
  refine am_e_iconst (w := 4) n97_62 rfl ?_
  refine am_e_iload_n n97_63 rfl ?_
  refine am_e_imul (w := 0) n97_64 (by decide) ?_
  refine am_e_iload_n n97_65 rfl ?_
  refine am_e_iadd (w := 2) n97_66 (by decide) ?_
  refine am_e_iaload (v := 0) (q := 2) n97_67 rfl (by decide) (by decide) ((F44 192 2 rfl).trans ((F43 192 2 rfl).trans ((F42 192 2 rfl).trans ((F41 192 2 rfl).trans ((F40 192 2 rfl).trans ((F39 192 2 rfl).trans ((F38 192 2 rfl).trans ((F37 192 2 rfl).trans ((F36 192 2 rfl).trans ((F35 192 2 rfl).trans ((F34 192 2 rfl).trans ((F33 192 2 rfl).trans ((F32 192 2 rfl).trans ((F31 192 2 rfl).trans ((F30 192 2 rfl).trans ((F29 192 2 rfl).trans ((F28 192 2 rfl).trans (f192_2 (h := h) hT)))))))))))))))))) ?_
  refine am_e_iastore (q := 6) n97_68 rfl (by decide) (by decide) ?_
  refine am_e_aload_n n97_69 rfl ?_
  refine am_e_getf (v := .ref 193) n97_70 rfl ((F44 164 55 rfl).trans ((F43 164 55 rfl).trans ((F42 164 55 rfl).trans ((F41 164 55 rfl).trans ((F40 164 55 rfl).trans ((F39 164 55 rfl).trans ((F38 164 55 rfl).trans ((F37 164 55 rfl).trans ((F36 164 55 rfl).trans ((F35 164 55 rfl).trans ((F34 164 55 rfl).trans ((F33 164 55 rfl).trans ((F32 164 55 rfl).trans ((F31 164 55 rfl).trans ((F30 164 55 rfl).trans ((F29 164 55 rfl).trans ((F28 164 55 rfl).trans (f164_55 (h := h) hT)))))))))))))))))) ?_
  refine am_e_iconst (w := 4) n97_71 rfl ?_
  refine am_e_iload_n n97_72 rfl ?_
  refine am_e_imul (w := 4) n97_73 (by decide) ?_
  refine am_e_iload_n n97_74 rfl ?_
  refine am_e_iadd (w := 6) n97_75 (by decide) ?_
  refine am_e_aload_n n97_76 rfl ?_
  refine am_e_getf (v := .ref 193) n97_77 rfl ((F44 164 55 rfl).trans ((F43 164 55 rfl).trans ((F42 164 55 rfl).trans ((F41 164 55 rfl).trans ((F40 164 55 rfl).trans ((F39 164 55 rfl).trans ((F38 164 55 rfl).trans ((F37 164 55 rfl).trans ((F36 164 55 rfl).trans ((F35 164 55 rfl).trans ((F34 164 55 rfl).trans ((F33 164 55 rfl).trans ((F32 164 55 rfl).trans ((F31 164 55 rfl).trans ((F30 164 55 rfl).trans ((F29 164 55 rfl).trans ((F28 164 55 rfl).trans (f164_55 (h := h) hT)))))))))))))))))) ?_
  refine am_e_iconst (w := 4) n97_78 rfl ?_
  refine am_e_iload_n n97_79 rfl ?_
  refine am_e_imul (w := 0) n97_80 (by decide) ?_
  refine am_e_iload_n n97_81 rfl ?_
  refine am_e_iadd (w := 2) n97_82 (by decide) ?_
  refine am_e_iaload (v := 0) (q := 2) n97_83 rfl (by decide) (by decide) ((F44 193 2 rfl).trans ((F43 193 2 rfl).trans ((F42 193 2 rfl).trans ((F41 193 2 rfl).trans ((F40 193 2 rfl).trans ((F39 193 2 rfl).trans ((F38 193 2 rfl).trans ((F37 193 2 rfl).trans ((F36 193 2 rfl).trans ((F35 193 2 rfl).trans ((F34 193 2 rfl).trans ((F33 193 2 rfl).trans ((F32 193 2 rfl).trans ((F31 193 2 rfl).trans ((F30 193 2 rfl).trans ((F29 193 2 rfl).trans ((F28 193 2 rfl).trans (f193_2 (h := h) hT)))))))))))))))))) ?_
  refine am_e_iastore (q := 6) n97_84 rfl (by decide) (by decide) ?_
  refine am_e_iinc (w := 3) (ls' := [(3, .int 3), (0, .ref 164), (1, .int 1), (2, .int 0)]) n97_85 rfl rfl (by decide) rfl ?_
  refine am_e_goto c97_86 t97_86 ?_
  refine am_e_iload_n n97_34 rfl ?_
  refine am_e_iconst (w := 4) n97_35 rfl ?_
  refine am_e_cmpF n97_36 (am_c_geF (by decide)) ?_
  refine am_e_aload_n n97_37 rfl ?_
  refine am_e_getf (v := .ref 191) n97_38 rfl ((F44 164 53 rfl).trans ((F43 164 53 rfl).trans ((F42 164 53 rfl).trans ((F41 164 53 rfl).trans ((F40 164 53 rfl).trans ((F39 164 53 rfl).trans ((F38 164 53 rfl).trans ((F37 164 53 rfl).trans ((F36 164 53 rfl).trans ((F35 164 53 rfl).trans ((F34 164 53 rfl).trans ((F33 164 53 rfl).trans ((F32 164 53 rfl).trans ((F31 164 53 rfl).trans ((F30 164 53 rfl).trans ((F29 164 53 rfl).trans ((F28 164 53 rfl).trans (f164_53 (h := h) hT)))))))))))))))))) ?_
  refine am_e_iconst (w := 4) n97_39 rfl ?_
  refine am_e_iload_n n97_40 rfl ?_
  refine am_e_imul (w := 4) n97_41 (by decide) ?_
  refine am_e_iload_n n97_42 rfl ?_
  refine am_e_iadd (w := 7) n97_43 (by decide) ?_
  refine am_e_aload_n n97_44 rfl ?_
  refine am_e_getf (v := .ref 191) n97_45 rfl ((F44 164 53 rfl).trans ((F43 164 53 rfl).trans ((F42 164 53 rfl).trans ((F41 164 53 rfl).trans ((F40 164 53 rfl).trans ((F39 164 53 rfl).trans ((F38 164 53 rfl).trans ((F37 164 53 rfl).trans ((F36 164 53 rfl).trans ((F35 164 53 rfl).trans ((F34 164 53 rfl).trans ((F33 164 53 rfl).trans ((F32 164 53 rfl).trans ((F31 164 53 rfl).trans ((F30 164 53 rfl).trans ((F29 164 53 rfl).trans ((F28 164 53 rfl).trans (f164_53 (h := h) hT)))))))))))))))))) ?_
  refine am_e_iconst (w := 4) n97_46 rfl ?_
  refine am_e_iload_n n97_47 rfl ?_
  refine am_e_imul (w := 0) n97_48 (by decide) ?_
  refine am_e_iload_n n97_49 rfl ?_
  refine am_e_iadd (w := 3) n97_50 (by decide) ?_
  refine am_e_iaload (v := 0) (q := 3) n97_51 rfl (by decide) (by decide) ((F44 191 3 rfl).trans ((F43 191 3 rfl).trans ((F42 191 3 rfl).trans ((F41 191 3 rfl).trans ((F40 191 3 rfl).trans ((F39 191 3 rfl).trans ((F38 191 3 rfl).trans ((F37 191 3 rfl).trans ((F36 191 3 rfl).trans ((F35 191 3 rfl).trans ((F34 191 3 rfl).trans ((F33 191 3 rfl).trans ((F32 191 3 rfl).trans ((F31 191 3 rfl).trans ((F30 191 3 rfl).trans ((F29 191 3 rfl).trans ((F28 191 3 rfl).trans (f191_3 (h := h) hT)))))))))))))))))) ?_
  refine am_e_iastore (q := 7) n97_52 rfl (by decide) (by decide) ?_
  refine am_e_aload_n n97_53 rfl ?_
  refine am_e_getf (v := .ref 192) n97_54 rfl ((F44 164 54 rfl).trans ((F43 164 54 rfl).trans ((F42 164 54 rfl).trans ((F41 164 54 rfl).trans ((F40 164 54 rfl).trans ((F39 164 54 rfl).trans ((F38 164 54 rfl).trans ((F37 164 54 rfl).trans ((F36 164 54 rfl).trans ((F35 164 54 rfl).trans ((F34 164 54 rfl).trans ((F33 164 54 rfl).trans ((F32 164 54 rfl).trans ((F31 164 54 rfl).trans ((F30 164 54 rfl).trans ((F29 164 54 rfl).trans ((F28 164 54 rfl).trans (f164_54 (h := h) hT)))))))))))))))))) ?_
  refine am_e_iconst (w := 4) n97_55 rfl ?_
  refine am_e_iload_n n97_56 rfl ?_
  refine am_e_imul (w := 4) n97_57 (by decide) ?_
  refine am_e_iload_n n97_58 rfl ?_
  refine am_e_iadd (w := 7) n97_59 (by decide) ?_
  refine am_e_aload_n n97_60 rfl ?_
  refine am_e_getf (v := .ref 192) n97_61 rfl ((F44 164 54 rfl).trans ((F43 164 54 rfl).trans ((F42 164 54 rfl).trans ((F41 164 54 rfl).trans ((F40 164 54 rfl).trans ((F39 164 54 rfl).trans ((F38 164 54 rfl).trans ((F37 164 54 rfl).trans ((F36 164 54 rfl).trans ((F35 164 54 rfl).trans ((F34 164 54 rfl).trans ((F33 164 54 rfl).trans ((F32 164 54 rfl).trans ((F31 164 54 rfl).trans ((F30 164 54 rfl).trans ((F29 164 54 rfl).trans ((F28 164 54 rfl).trans (f164_54 (h := h) hT)))))))))))))))))) ?_
  refine am_e_iconst (w := 4) n97_62 rfl ?_
  refine am_e_iload_n n97_63 rfl ?_
  refine am_e_imul (w := 0) n97_64 (by decide) ?_
  refine am_e_iload_n n97_65 rfl ?_
  refine am_e_iadd (w := 3) n97_66 (by decide) ?_
  refine am_e_iaload (v := 0) (q := 3) n97_67 rfl (by decide) (by decide) ((F44 192 3 rfl).trans ((F43 192 3 rfl).trans ((F42 192 3 rfl).trans ((F41 192 3 rfl).trans ((F40 192 3 rfl).trans ((F39 192 3 rfl).trans ((F38 192 3 rfl).trans ((F37 192 3 rfl).trans ((F36 192 3 rfl).trans ((F35 192 3 rfl).trans ((F34 192 3 rfl).trans ((F33 192 3 rfl).trans ((F32 192 3 rfl).trans ((F31 192 3 rfl).trans ((F30 192 3 rfl).trans ((F29 192 3 rfl).trans ((F28 192 3 rfl).trans (f192_3 (h := h) hT)))))))))))))))))) ?_
  refine am_e_iastore (q := 7) n97_68 rfl (by decide) (by decide) ?_
  refine am_e_aload_n n97_69 rfl ?_
  refine am_e_getf (v := .ref 193) n97_70 rfl ((F44 164 55 rfl).trans ((F43 164 55 rfl).trans ((F42 164 55 rfl).trans ((F41 164 55 rfl).trans ((F40 164 55 rfl).trans ((F39 164 55 rfl).trans ((F38 164 55 rfl).trans ((F37 164 55 rfl).trans ((F36 164 55 rfl).trans ((F35 164 55 rfl).trans ((F34 164 55 rfl).trans ((F33 164 55 rfl).trans ((F32 164 55 rfl).trans ((F31 164 55 rfl).trans ((F30 164 55 rfl).trans ((F29 164 55 rfl).trans ((F28 164 55 rfl).trans (f164_55 (h := h) hT)))))))))))))))))) ?_
  refine am_e_iconst (w := 4) n97_71 rfl ?_
  refine am_e_iload_n n97_72 rfl ?_
  refine am_e_imul (w := 4) n97_73 (by decide) ?_
  refine am_e_iload_n n97_74 rfl ?_
  refine am_e_iadd (w := 7) n97_75 (by decide) ?_
  refine am_e_aload_n n97_76 rfl ?_
  refine am_e_getf (v := .ref 193) n97_77 rfl ((F44 164 55 rfl).trans ((F43 164 55 rfl).trans ((F42 164 55 rfl).trans ((F41 164 55 rfl).trans ((F40 164 55 rfl).trans ((F39 164 55 rfl).trans ((F38 164 55 rfl).trans ((F37 164 55 rfl).trans ((F36 164 55 rfl).trans ((F35 164 55 rfl).trans ((F34 164 55 rfl).trans ((F33 164 55 rfl).trans ((F32 164 55 rfl).trans ((F31 164 55 rfl).trans ((F30 164 55 rfl).trans ((F29 164 55 rfl).trans ((F28 164 55 rfl).trans (f164_55 (h := h) hT)))))))))))))))))) ?_
  refine am_e_iconst (w := 4) n97_78 rfl ?_
  refine am_e_iload_n n97_79 rfl ?_
  refine am_e_imul (w := 0) n97_80 (by decide) ?_
  refine am_e_iload_n n97_81 rfl ?_
  refine am_e_iadd (w := 3) n97_82 (by decide) ?_
  refine am_e_iaload (v := 0) (q := 3) n97_83 rfl (by decide) (by decide) ((F44 193 3 rfl).trans ((F43 193 3 rfl).trans ((F42 193 3 rfl).trans ((F41 193 3 rfl).trans ((F40 193 3 rfl).trans ((F39 193 3 rfl).trans ((F38 193 3 rfl).trans ((F37 193 3 rfl).trans ((F36 193 3 rfl).trans ((F35 193 3 rfl).trans ((F34 193 3 rfl).trans ((F33 193 3 rfl).trans ((F32 193 3 rfl).trans ((F31 193 3 rfl).trans ((F30 193 3 rfl).trans ((F29 193 3 rfl).trans ((F28 193 3 rfl).trans (f193_3 (h := h) hT)))))))))))))))))) ?_
  refine am_e_iastore (q := 7) n97_84 rfl (by decide) (by decide) ?_
  refine am_e_iinc (w := 4) (ls' := [(3, .int 4), (0, .ref 164), (1, .int 1), (2, .int 0)]) n97_85 rfl rfl (by decide) rfl ?_
  refine am_e_goto c97_86 t97_86 ?_
  refine am_e_iload_n n97_34 rfl ?_
  refine am_e_iconst (w := 4) n97_35 rfl ?_
  refine am_e_cmpT n97_36 (am_c_geT (by decide)) t97_36 ?_
  refine am_e_vret c97_87 rfl rfl ?_
  refine am_e_iconst (w := 0) n127_35 rfl ?_
  refine am_e_istore (ls' := [(8, .int 0), (7, .int 7), (6, .int 7), (0, .ref 164), (2, .int (nI n)), (3, .int (nI 0)), (4, .long 0)]) n127_36 rfl rfl ?_
  refine am_Ek_ls (ls' := [(0, .ref 164), (2, .int (nI n)), (3, .int (nI 0)), (4, .long 0), (6, .int 7), (7, .int 7), (8, .int (nI 0))]) ⟨rfl, rfl, rfl, rfl, rfl, rfl, rfl, trivial⟩ ?_
  refine am_cm_e (n := n) (b := 0) (s := 0) (t := 7) (i7 := 7) (dr := dr44) (by omega) (by omega) ⟨((F44 164 23 rfl).trans ((F43 164 23 rfl).trans ((F42 164 23 rfl).trans ((F41 164 23 rfl).trans ((F40 164 23 rfl).trans ((F39 164 23 rfl).trans ((F38 164 23 rfl).trans ((F37 164 23 rfl).trans ((F36 164 23 rfl).trans ((F35 164 23 rfl).trans ((F34 164 23 rfl).trans ((F33 164 23 rfl).trans ((F32 164 23 rfl).trans ((F31 164 23 rfl).trans ((F30 164 23 rfl).trans ((F29 164 23 rfl).trans ((F28 164 23 rfl).trans (f164_23 (h := h) hT)))))))))))))))))), ((F44 168 4 rfl).trans ((F43 168 4 rfl).trans ((F42 168 4 rfl).trans ((F41 168 4 rfl).trans ((F40 168 4 rfl).trans ((F39 168 4 rfl).trans ((F38 168 4 rfl).trans ((F37 168 4 rfl).trans ((F36 168 4 rfl).trans ((F35 168 4 rfl).trans ((F34 168 4 rfl).trans ((F33 168 4 rfl).trans ((F32 168 4 rfl).trans ((F31 168 4 rfl).trans ((F30 168 4 rfl).trans ((F29 168 4 rfl).trans ((F28 168 4 rfl).trans (f168_4 (h := h) hT)))))))))))))))))), ((F44 164 50 rfl).trans ((F43 164 50 rfl).trans ((F42 164 50 rfl).trans ((F41 164 50 rfl).trans ((F40 164 50 rfl).trans ((F39 164 50 rfl).trans ((F38 164 50 rfl).trans ((F37 164 50 rfl).trans ((F36 164 50 rfl).trans ((F35 164 50 rfl).trans ((F34 164 50 rfl).trans ((F33 164 50 rfl).trans ((F32 164 50 rfl).trans ((F31 164 50 rfl).trans ((F30 164 50 rfl).trans ((F29 164 50 rfl).trans ((F28 164 50 rfl).trans (f164_50 (h := h) hT)))))))))))))))))), ((F44 164 61 rfl).trans ((F43 164 61 rfl).trans ((F42 164 61 rfl).trans ((F41 164 61 rfl).trans ((F40 164 61 rfl).trans ((F39 164 61 rfl).trans ((F38 164 61 rfl).trans ((F37 164 61 rfl).trans ((F36 164 61 rfl).trans ((F35 164 61 rfl).trans ((F34 164 61 rfl).trans ((F33 164 61 rfl).trans ((F32 164 61 rfl).trans ((F31 164 61 rfl).trans ((F30 164 61 rfl).trans ((F29 164 61 rfl).trans ((F28 164 61 rfl).trans (f164_61 (h := h) hT)))))))))))))))))), ((F44 164 47 rfl).trans ((F43 164 47 rfl).trans ((F42 164 47 rfl).trans ((F41 164 47 rfl).trans ((F40 164 47 rfl).trans ((F39 164 47 rfl).trans ((F38 164 47 rfl).trans ((F37 164 47 rfl).trans ((F36 164 47 rfl).trans ((F35 164 47 rfl).trans ((F34 164 47 rfl).trans ((F33 164 47 rfl).trans ((F32 164 47 rfl).trans ((F31 164 47 rfl).trans ((F30 164 47 rfl).trans ((F29 164 47 rfl).trans ((F28 164 47 rfl).trans (f164_47 (h := h) hT)))))))))))))))))), ((F44 168 0 rfl).trans ((F43 168 0 rfl).trans ((F42 168 0 rfl).trans ((F41 168 0 rfl).trans ((F40 168 0 rfl).trans ((F39 168 0 rfl).trans ((F38 168 0 rfl).trans ((F37 168 0 rfl).trans ((F36 168 0 rfl).trans ((F35 168 0 rfl).trans ((F34 168 0 rfl).trans ((F33 168 0 rfl).trans ((F32 168 0 rfl).trans ((F31 168 0 rfl).trans ((F30 168 0 rfl).trans ((F29 168 0 rfl).trans ((F28 168 0 rfl).trans (f168_0 (h := h) hT)))))))))))))))))), ((F44 164 51 rfl).trans ((F43 164 51 rfl).trans ((F42 164 51 rfl).trans ((F41 164 51 rfl).trans ((F40 164 51 rfl).trans ((F39 164 51 rfl).trans ((F38 164 51 rfl).trans ((F37 164 51 rfl).trans ((F36 164 51 rfl).trans ((F35 164 51 rfl).trans ((F34 164 51 rfl).trans ((F33 164 51 rfl).trans ((F32 164 51 rfl).trans ((F31 164 51 rfl).trans ((F30 164 51 rfl).trans ((F29 164 51 rfl).trans ((F28 164 51 rfl).trans (f164_51 (h := h) hT)))))))))))))))))), ((F44 164 33 rfl).trans ((F43 164 33 rfl).trans ((F42 164 33 rfl).trans ((F41 164 33 rfl).trans ((F40 164 33 rfl).trans ((F39 164 33 rfl).trans ((F38 164 33 rfl).trans ((F37 164 33 rfl).trans ((F36 164 33 rfl).trans ((F35 164 33 rfl).trans ((F34 164 33 rfl).trans ((F33 164 33 rfl).trans ((F32 164 33 rfl).trans ((F31 164 33 rfl).trans ((F30 164 33 rfl).trans ((F29 164 33 rfl).trans ((F28 164 33 rfl).trans (f164_33 (h := h) hT)))))))))))))))))), ((F44 178 2 rfl).trans ((F43 178 2 rfl).trans ((F42 178 2 rfl).trans ((F41 178 2 rfl).trans ((F40 178 2 rfl).trans ((F39 178 2 rfl).trans ((F38 178 2 rfl).trans ((F37 178 2 rfl).trans ((F36 178 2 rfl).trans ((F35 178 2 rfl).trans ((F34 178 2 rfl).trans ((F33 178 2 rfl).trans ((F32 178 2 rfl).trans ((F31 178 2 rfl).trans ((F30 178 2 rfl).trans ((F29 178 2 rfl).trans ((F28 178 2 rfl).trans (f178_2 (h := h) hT)))))))))))))))))), ((F44 178 0 rfl).trans ((F43 178 0 rfl).trans ((F42 178 0 rfl).trans ((F41 178 0 rfl).trans ((F40 178 0 rfl).trans ((F39 178 0 rfl).trans ((F38 178 0 rfl).trans ((F37 178 0 rfl).trans ((F36 178 0 rfl).trans ((F35 178 0 rfl).trans ((F34 178 0 rfl).trans ((F33 178 0 rfl).trans ((F32 178 0 rfl).trans ((F31 178 0 rfl).trans ((F30 178 0 rfl).trans ((F29 178 0 rfl).trans ((F28 178 0 rfl).trans (f178_0 (h := h) hT)))))))))))))))))), ((F44 164 62 rfl).trans ((F43 164 62 rfl).trans ((F42 164 62 rfl).trans ((F41 164 62 rfl).trans ((F40 164 62 rfl).trans ((F39 164 62 rfl).trans ((F38 164 62 rfl).trans ((F37 164 62 rfl).trans ((F36 164 62 rfl).trans ((F35 164 62 rfl).trans ((F34 164 62 rfl).trans ((F33 164 62 rfl).trans ((F32 164 62 rfl).trans ((F31 164 62 rfl).trans ((F30 164 62 rfl).trans ((F29 164 62 rfl).trans ((F28 164 62 rfl).trans (f164_62 (h := h) hT)))))))))))))))))), ((F44 164 58 rfl).trans ((F43 164 58 rfl).trans ((F42 164 58 rfl).trans ((F41 164 58 rfl).trans ((F40 164 58 rfl).trans ((F39 164 58 rfl).trans ((F38 164 58 rfl).trans ((F37 164 58 rfl).trans ((F36 164 58 rfl).trans ((F35 164 58 rfl).trans ((F34 164 58 rfl).trans ((F33 164 58 rfl).trans ((F32 164 58 rfl).trans ((F31 164 58 rfl).trans ((F30 164 58 rfl).trans ((F29 164 58 rfl).trans ((F28 164 58 rfl).trans (f164_58 (h := h) hT)))))))))))))))))), ((F44 164 60 rfl).trans ((F43 164 60 rfl).trans ((F42 164 60 rfl).trans ((F41 164 60 rfl).trans ((F40 164 60 rfl).trans ((F39 164 60 rfl).trans ((F38 164 60 rfl).trans ((F37 164 60 rfl).trans ((F36 164 60 rfl).trans ((F35 164 60 rfl).trans ((F34 164 60 rfl).trans ((F33 164 60 rfl).trans ((F32 164 60 rfl).trans ((F31 164 60 rfl).trans ((F30 164 60 rfl).trans ((F29 164 60 rfl).trans ((F28 164 60 rfl).trans (f164_60 (h := h) hT)))))))))))))))))), trivial⟩ rfl rfl qc44 ?_
  intro h45 dr45 F45 qa45 qb45 qc45
  refine am_e_iload n127_59 rfl ?_
  refine am_e_aload_n n127_60 rfl ?_
  refine am_e_getf (v := .ref 188) n127_61 rfl ((F45 164 50 rfl).trans ((F44 164 50 rfl).trans ((F43 164 50 rfl).trans ((F42 164 50 rfl).trans ((F41 164 50 rfl).trans ((F40 164 50 rfl).trans ((F39 164 50 rfl).trans ((F38 164 50 rfl).trans ((F37 164 50 rfl).trans ((F36 164 50 rfl).trans ((F35 164 50 rfl).trans ((F34 164 50 rfl).trans ((F33 164 50 rfl).trans ((F32 164 50 rfl).trans ((F31 164 50 rfl).trans ((F30 164 50 rfl).trans ((F29 164 50 rfl).trans ((F28 164 50 rfl).trans (f164_50 (h := h) hT))))))))))))))))))) ?_
  refine am_e_iconst (w := 1) n127_62 rfl ?_
  refine am_e_iaload (v := 0) (q := 1) n127_63 rfl (by decide) (by decide) qa45 ?_
  refine am_e_iload_n n127_64 rfl ?_
  refine am_e_cmpF n127_65 (am_c_ltF (by decide)) ?_
  refine am_e_iconst (w := 1) n127_66 rfl ?_
  refine am_e_goto c127_67 t127_67 ?_
  refine am_e_iadd (w := 8) n127_69 (by decide) ?_
  refine am_e_istore (ls' := [(6, .int 8), (0, .ref 164), (2, .int (nI n)), (3, .int (nI 0)), (4, .long 0), (7, .int 7), (8, .int (nI n))]) n127_70 rfl rfl ?_
  refine am_e_iinc (w := 8) (ls' := [(7, .int 8), (6, .int 8), (0, .ref 164), (2, .int (nI n)), (3, .int (nI 0)), (4, .long 0), (8, .int (nI n))]) n127_71 rfl rfl (by decide) rfl ?_
  refine am_e_goto c127_72 t127_72 ?_
  refine am_e_iload n127_28 rfl ?_
  refine am_e_bipush (w := 10) n127_29 (by decide) ?_
  refine am_e_cmpF n127_30 (am_c_geF (by decide)) ?_
  refine am_e_aload_n n127_31 rfl ?_
  refine am_e_iconst (w := 1) n127_32 rfl ?_
  refine am_e_iconst (w := 0) n127_33 rfl ?_
  refine am_e_callV (L := [(0, .ref 164), (1, .int 1), (2, .int 0)]) n127_34 rfl rfl rfl rfl rfl rfl rfl rfl ?_
  refine am_e_aload_n n97_0 rfl ?_
  refine am_e_getf (v := .ref 188) n97_1 rfl ((F45 164 50 rfl).trans ((F44 164 50 rfl).trans ((F43 164 50 rfl).trans ((F42 164 50 rfl).trans ((F41 164 50 rfl).trans ((F40 164 50 rfl).trans ((F39 164 50 rfl).trans ((F38 164 50 rfl).trans ((F37 164 50 rfl).trans ((F36 164 50 rfl).trans ((F35 164 50 rfl).trans ((F34 164 50 rfl).trans ((F33 164 50 rfl).trans ((F32 164 50 rfl).trans ((F31 164 50 rfl).trans ((F30 164 50 rfl).trans ((F29 164 50 rfl).trans ((F28 164 50 rfl).trans (f164_50 (h := h) hT))))))))))))))))))) ?_
  refine am_e_iload_n n97_2 rfl ?_
  refine am_e_aload_n n97_3 rfl ?_
  refine am_e_getf (v := .ref 188) n97_4 rfl ((F45 164 50 rfl).trans ((F44 164 50 rfl).trans ((F43 164 50 rfl).trans ((F42 164 50 rfl).trans ((F41 164 50 rfl).trans ((F40 164 50 rfl).trans ((F39 164 50 rfl).trans ((F38 164 50 rfl).trans ((F37 164 50 rfl).trans ((F36 164 50 rfl).trans ((F35 164 50 rfl).trans ((F34 164 50 rfl).trans ((F33 164 50 rfl).trans ((F32 164 50 rfl).trans ((F31 164 50 rfl).trans ((F30 164 50 rfl).trans ((F29 164 50 rfl).trans ((F28 164 50 rfl).trans (f164_50 (h := h) hT))))))))))))))))))) ?_
  refine am_e_iload_n n97_5 rfl ?_
  refine am_e_iaload (v := 0) (q := 0) n97_6 rfl (by decide) (by decide) ((F45 188 0 rfl).trans ((F44 188 0 rfl).trans ((F43 188 0 rfl).trans ((F42 188 0 rfl).trans ((F41 188 0 rfl).trans ((F40 188 0 rfl).trans ((F39 188 0 rfl).trans ((F38 188 0 rfl).trans ((F37 188 0 rfl).trans ((F36 188 0 rfl).trans ((F35 188 0 rfl).trans ((F34 188 0 rfl).trans ((F33 188 0 rfl).trans ((F32 188 0 rfl).trans ((F31 188 0 rfl).trans ((F30 188 0 rfl).trans ((F29 188 0 rfl).trans ((F28 188 0 rfl).trans (f188_0 (h := h) hT))))))))))))))))))) ?_
  refine am_e_iastore (q := 1) n97_7 rfl (by decide) (by decide) ?_
  refine am_e_aload_n n97_8 rfl ?_
  refine am_e_getf (v := .ref 189) n97_9 rfl ((F45 164 51 rfl).trans ((F44 164 51 rfl).trans ((F43 164 51 rfl).trans ((F42 164 51 rfl).trans ((F41 164 51 rfl).trans ((F40 164 51 rfl).trans ((F39 164 51 rfl).trans ((F38 164 51 rfl).trans ((F37 164 51 rfl).trans ((F36 164 51 rfl).trans ((F35 164 51 rfl).trans ((F34 164 51 rfl).trans ((F33 164 51 rfl).trans ((F32 164 51 rfl).trans ((F31 164 51 rfl).trans ((F30 164 51 rfl).trans ((F29 164 51 rfl).trans ((F28 164 51 rfl).trans (f164_51 (h := h) hT))))))))))))))))))) ?_
  refine am_e_iload_n n97_10 rfl ?_
  refine am_e_aload_n n97_11 rfl ?_
  refine am_e_getf (v := .ref 189) n97_12 rfl ((F45 164 51 rfl).trans ((F44 164 51 rfl).trans ((F43 164 51 rfl).trans ((F42 164 51 rfl).trans ((F41 164 51 rfl).trans ((F40 164 51 rfl).trans ((F39 164 51 rfl).trans ((F38 164 51 rfl).trans ((F37 164 51 rfl).trans ((F36 164 51 rfl).trans ((F35 164 51 rfl).trans ((F34 164 51 rfl).trans ((F33 164 51 rfl).trans ((F32 164 51 rfl).trans ((F31 164 51 rfl).trans ((F30 164 51 rfl).trans ((F29 164 51 rfl).trans ((F28 164 51 rfl).trans (f164_51 (h := h) hT))))))))))))))))))) ?_
  refine am_e_iload_n n97_13 rfl ?_
  refine am_e_iaload (v := 0) (q := 0) n97_14 rfl (by decide) (by decide) ((F45 189 0 rfl).trans ((F44 189 0 rfl).trans ((F43 189 0 rfl).trans ((F42 189 0 rfl).trans ((F41 189 0 rfl).trans ((F40 189 0 rfl).trans ((F39 189 0 rfl).trans ((F38 189 0 rfl).trans ((F37 189 0 rfl).trans ((F36 189 0 rfl).trans ((F35 189 0 rfl).trans ((F34 189 0 rfl).trans ((F33 189 0 rfl).trans ((F32 189 0 rfl).trans ((F31 189 0 rfl).trans ((F30 189 0 rfl).trans ((F29 189 0 rfl).trans ((F28 189 0 rfl).trans (f189_0 (h := h) hT))))))))))))))))))) ?_
  refine am_e_iastore (q := 1) n97_15 rfl (by decide) (by decide) ?_
  refine am_e_aload_n n97_16 rfl ?_
  refine am_e_getf (v := .ref 190) n97_17 rfl ((F45 164 52 rfl).trans ((F44 164 52 rfl).trans ((F43 164 52 rfl).trans ((F42 164 52 rfl).trans ((F41 164 52 rfl).trans ((F40 164 52 rfl).trans ((F39 164 52 rfl).trans ((F38 164 52 rfl).trans ((F37 164 52 rfl).trans ((F36 164 52 rfl).trans ((F35 164 52 rfl).trans ((F34 164 52 rfl).trans ((F33 164 52 rfl).trans ((F32 164 52 rfl).trans ((F31 164 52 rfl).trans ((F30 164 52 rfl).trans ((F29 164 52 rfl).trans ((F28 164 52 rfl).trans (f164_52 (h := h) hT))))))))))))))))))) ?_
  refine am_e_iload_n n97_18 rfl ?_
  refine am_e_aload_n n97_19 rfl ?_
  refine am_e_getf (v := .ref 190) n97_20 rfl ((F45 164 52 rfl).trans ((F44 164 52 rfl).trans ((F43 164 52 rfl).trans ((F42 164 52 rfl).trans ((F41 164 52 rfl).trans ((F40 164 52 rfl).trans ((F39 164 52 rfl).trans ((F38 164 52 rfl).trans ((F37 164 52 rfl).trans ((F36 164 52 rfl).trans ((F35 164 52 rfl).trans ((F34 164 52 rfl).trans ((F33 164 52 rfl).trans ((F32 164 52 rfl).trans ((F31 164 52 rfl).trans ((F30 164 52 rfl).trans ((F29 164 52 rfl).trans ((F28 164 52 rfl).trans (f164_52 (h := h) hT))))))))))))))))))) ?_
  refine am_e_iload_n n97_21 rfl ?_
  refine am_e_iaload (v := (-1)) (q := 0) n97_22 rfl (by decide) (by decide) ((F45 190 0 rfl).trans ((F44 190 0 rfl).trans ((F43 190 0 rfl).trans ((F42 190 0 rfl).trans ((F41 190 0 rfl).trans ((F40 190 0 rfl).trans ((F39 190 0 rfl).trans ((F38 190 0 rfl).trans ((F37 190 0 rfl).trans ((F36 190 0 rfl).trans ((F35 190 0 rfl).trans ((F34 190 0 rfl).trans ((F33 190 0 rfl).trans ((F32 190 0 rfl).trans ((F31 190 0 rfl).trans ((F30 190 0 rfl).trans ((F29 190 0 rfl).trans ((F28 190 0 rfl).trans (f190_0 (h := h) hT))))))))))))))))))) ?_
  refine am_e_iastore (q := 1) n97_23 rfl (by decide) (by decide) ?_
  refine am_e_aload_n n97_24 rfl ?_
  refine am_e_getf (v := .ref 194) n97_25 rfl ((F45 164 56 rfl).trans ((F44 164 56 rfl).trans ((F43 164 56 rfl).trans ((F42 164 56 rfl).trans ((F41 164 56 rfl).trans ((F40 164 56 rfl).trans ((F39 164 56 rfl).trans ((F38 164 56 rfl).trans ((F37 164 56 rfl).trans ((F36 164 56 rfl).trans ((F35 164 56 rfl).trans ((F34 164 56 rfl).trans ((F33 164 56 rfl).trans ((F32 164 56 rfl).trans ((F31 164 56 rfl).trans ((F30 164 56 rfl).trans ((F29 164 56 rfl).trans ((F28 164 56 rfl).trans (f164_56 (h := h) hT))))))))))))))))))) ?_
  refine am_e_iload_n n97_26 rfl ?_
  refine am_e_aload_n n97_27 rfl ?_
  refine am_e_getf (v := .ref 194) n97_28 rfl ((F45 164 56 rfl).trans ((F44 164 56 rfl).trans ((F43 164 56 rfl).trans ((F42 164 56 rfl).trans ((F41 164 56 rfl).trans ((F40 164 56 rfl).trans ((F39 164 56 rfl).trans ((F38 164 56 rfl).trans ((F37 164 56 rfl).trans ((F36 164 56 rfl).trans ((F35 164 56 rfl).trans ((F34 164 56 rfl).trans ((F33 164 56 rfl).trans ((F32 164 56 rfl).trans ((F31 164 56 rfl).trans ((F30 164 56 rfl).trans ((F29 164 56 rfl).trans ((F28 164 56 rfl).trans (f164_56 (h := h) hT))))))))))))))))))) ?_
  refine am_e_iload_n n97_29 rfl ?_
  refine am_e_iaload (v := 0) (q := 0) n97_30 rfl (by decide) (by decide) ((F45 194 0 rfl).trans ((F44 194 0 rfl).trans ((F43 194 0 rfl).trans ((F42 194 0 rfl).trans ((F41 194 0 rfl).trans ((F40 194 0 rfl).trans ((F39 194 0 rfl).trans ((F38 194 0 rfl).trans ((F37 194 0 rfl).trans ((F36 194 0 rfl).trans ((F35 194 0 rfl).trans ((F34 194 0 rfl).trans ((F33 194 0 rfl).trans ((F32 194 0 rfl).trans ((F31 194 0 rfl).trans ((F30 194 0 rfl).trans ((F29 194 0 rfl).trans ((F28 194 0 rfl).trans (f194_0 (h := h) hT))))))))))))))))))) ?_
  refine am_e_iastore (q := 1) n97_31 rfl (by decide) (by decide) ?_
  refine am_e_iconst (w := 0) n97_32 rfl ?_
  refine am_e_istore_n (ls' := [(3, .int 0), (0, .ref 164), (1, .int 1), (2, .int 0)]) n97_33 rfl rfl ?_
  refine am_e_iload_n n97_34 rfl ?_
  refine am_e_iconst (w := 4) n97_35 rfl ?_
  refine am_e_cmpF n97_36 (am_c_geF (by decide)) ?_
  refine am_e_aload_n n97_37 rfl ?_
  refine am_e_getf (v := .ref 191) n97_38 rfl ((F45 164 53 rfl).trans ((F44 164 53 rfl).trans ((F43 164 53 rfl).trans ((F42 164 53 rfl).trans ((F41 164 53 rfl).trans ((F40 164 53 rfl).trans ((F39 164 53 rfl).trans ((F38 164 53 rfl).trans ((F37 164 53 rfl).trans ((F36 164 53 rfl).trans ((F35 164 53 rfl).trans ((F34 164 53 rfl).trans ((F33 164 53 rfl).trans ((F32 164 53 rfl).trans ((F31 164 53 rfl).trans ((F30 164 53 rfl).trans ((F29 164 53 rfl).trans ((F28 164 53 rfl).trans (f164_53 (h := h) hT))))))))))))))))))) ?_
  refine am_e_iconst (w := 4) n97_39 rfl ?_
  refine am_e_iload_n n97_40 rfl ?_
  refine am_e_imul (w := 4) n97_41 (by decide) ?_
  refine am_e_iload_n n97_42 rfl ?_
  refine am_e_iadd (w := 4) n97_43 (by decide) ?_
  refine am_e_aload_n n97_44 rfl ?_
  refine am_e_getf (v := .ref 191) n97_45 rfl ((F45 164 53 rfl).trans ((F44 164 53 rfl).trans ((F43 164 53 rfl).trans ((F42 164 53 rfl).trans ((F41 164 53 rfl).trans ((F40 164 53 rfl).trans ((F39 164 53 rfl).trans ((F38 164 53 rfl).trans ((F37 164 53 rfl).trans ((F36 164 53 rfl).trans ((F35 164 53 rfl).trans ((F34 164 53 rfl).trans ((F33 164 53 rfl).trans ((F32 164 53 rfl).trans ((F31 164 53 rfl).trans ((F30 164 53 rfl).trans ((F29 164 53 rfl).trans ((F28 164 53 rfl).trans (f164_53 (h := h) hT))))))))))))))))))) ?_
  refine am_e_iconst (w := 4) n97_46 rfl ?_
  refine am_e_iload_n n97_47 rfl ?_
  refine am_e_imul (w := 0) n97_48 (by decide) ?_
  refine am_e_iload_n n97_49 rfl ?_
  refine am_e_iadd (w := 0) n97_50 (by decide) ?_
  refine am_e_iaload (v := 0) (q := 0) n97_51 rfl (by decide) (by decide) ((F45 191 0 rfl).trans ((F44 191 0 rfl).trans ((F43 191 0 rfl).trans ((F42 191 0 rfl).trans ((F41 191 0 rfl).trans ((F40 191 0 rfl).trans ((F39 191 0 rfl).trans ((F38 191 0 rfl).trans ((F37 191 0 rfl).trans ((F36 191 0 rfl).trans ((F35 191 0 rfl).trans ((F34 191 0 rfl).trans ((F33 191 0 rfl).trans ((F32 191 0 rfl).trans ((F31 191 0 rfl).trans ((F30 191 0 rfl).trans ((F29 191 0 rfl).trans ((F28 191 0 rfl).trans (f191_0 (h := h) hT))))))))))))))))))) ?_
  refine am_e_iastore (q := 4) n97_52 rfl (by decide) (by decide) ?_
  refine am_e_aload_n n97_53 rfl ?_
  refine am_e_getf (v := .ref 192) n97_54 rfl ((F45 164 54 rfl).trans ((F44 164 54 rfl).trans ((F43 164 54 rfl).trans ((F42 164 54 rfl).trans ((F41 164 54 rfl).trans ((F40 164 54 rfl).trans ((F39 164 54 rfl).trans ((F38 164 54 rfl).trans ((F37 164 54 rfl).trans ((F36 164 54 rfl).trans ((F35 164 54 rfl).trans ((F34 164 54 rfl).trans ((F33 164 54 rfl).trans ((F32 164 54 rfl).trans ((F31 164 54 rfl).trans ((F30 164 54 rfl).trans ((F29 164 54 rfl).trans ((F28 164 54 rfl).trans (f164_54 (h := h) hT))))))))))))))))))) ?_
  refine am_e_iconst (w := 4) n97_55 rfl ?_
  refine am_e_iload_n n97_56 rfl ?_
  refine am_e_imul (w := 4) n97_57 (by decide) ?_
  refine am_e_iload_n n97_58 rfl ?_
  refine am_e_iadd (w := 4) n97_59 (by decide) ?_
  refine am_e_aload_n n97_60 rfl ?_
  refine am_e_getf (v := .ref 192) n97_61 rfl ((F45 164 54 rfl).trans ((F44 164 54 rfl).trans ((F43 164 54 rfl).trans ((F42 164 54 rfl).trans ((F41 164 54 rfl).trans ((F40 164 54 rfl).trans ((F39 164 54 rfl).trans ((F38 164 54 rfl).trans ((F37 164 54 rfl).trans ((F36 164 54 rfl).trans ((F35 164 54 rfl).trans ((F34 164 54 rfl).trans ((F33 164 54 rfl).trans ((F32 164 54 rfl).trans ((F31 164 54 rfl).trans ((F30 164 54 rfl).trans ((F29 164 54 rfl).trans ((F28 164 54 rfl).trans (f164_54 (h := h) hT))))))))))))))))))) ?_
  refine am_e_iconst (w := 4) n97_62 rfl ?_
  refine am_e_iload_n n97_63 rfl ?_
  refine am_e_imul (w := 0) n97_64 (by decide) ?_
  refine am_e_iload_n n97_65 rfl ?_
  refine am_e_iadd (w := 0) n97_66 (by decide) ?_
  refine am_e_iaload (v := 0) (q := 0) n97_67 rfl (by decide) (by decide) ((F45 192 0 rfl).trans ((F44 192 0 rfl).trans ((F43 192 0 rfl).trans ((F42 192 0 rfl).trans ((F41 192 0 rfl).trans ((F40 192 0 rfl).trans ((F39 192 0 rfl).trans ((F38 192 0 rfl).trans ((F37 192 0 rfl).trans ((F36 192 0 rfl).trans ((F35 192 0 rfl).trans ((F34 192 0 rfl).trans ((F33 192 0 rfl).trans ((F32 192 0 rfl).trans ((F31 192 0 rfl).trans ((F30 192 0 rfl).trans ((F29 192 0 rfl).trans ((F28 192 0 rfl).trans (f192_0 (h := h) hT))))))))))))))))))) ?_
  refine am_e_iastore (q := 4) n97_68 rfl (by decide) (by decide) ?_
  refine am_e_aload_n n97_69 rfl ?_
  refine am_e_getf (v := .ref 193) n97_70 rfl ((F45 164 55 rfl).trans ((F44 164 55 rfl).trans ((F43 164 55 rfl).trans ((F42 164 55 rfl).trans ((F41 164 55 rfl).trans ((F40 164 55 rfl).trans ((F39 164 55 rfl).trans ((F38 164 55 rfl).trans ((F37 164 55 rfl).trans ((F36 164 55 rfl).trans ((F35 164 55 rfl).trans ((F34 164 55 rfl).trans ((F33 164 55 rfl).trans ((F32 164 55 rfl).trans ((F31 164 55 rfl).trans ((F30 164 55 rfl).trans ((F29 164 55 rfl).trans ((F28 164 55 rfl).trans (f164_55 (h := h) hT))))))))))))))))))) ?_
  refine am_e_iconst (w := 4) n97_71 rfl ?_
  refine am_e_iload_n n97_72 rfl ?_
  refine am_e_imul (w := 4) n97_73 (by decide) ?_
  refine am_e_iload_n n97_74 rfl ?_
  refine am_e_iadd (w := 4) n97_75 (by decide) ?_
  refine am_e_aload_n n97_76 rfl ?_
  refine am_e_getf (v := .ref 193) n97_77 rfl ((F45 164 55 rfl).trans ((F44 164 55 rfl).trans ((F43 164 55 rfl).trans ((F42 164 55 rfl).trans ((F41 164 55 rfl).trans ((F40 164 55 rfl).trans ((F39 164 55 rfl).trans ((F38 164 55 rfl).trans ((F37 164 55 rfl).trans ((F36 164 55 rfl).trans ((F35 164 55 rfl).trans ((F34 164 55 rfl).trans ((F33 164 55 rfl).trans ((F32 164 55 rfl).trans ((F31 164 55 rfl).trans ((F30 164 55 rfl).trans ((F29 164 55 rfl).trans ((F28 164 55 rfl).trans (f164_55 (h := h) hT))))))))))))))))))) ?_
  refine am_e_iconst (w := 4) n97_78 rfl ?_
  refine am_e_iload_n n97_79 rfl ?_
  refine am_e_imul (w := 0) n97_80 (by decide) ?_
  refine am_e_iload_n n97_81 rfl ?_
  refine am_e_iadd (w := 0) n97_82 (by decide) ?_
  refine am_e_iaload (v := 0) (q := 0) n97_83 rfl (by decide) (by decide) ((F45 193 0 rfl).trans ((F44 193 0 rfl).trans ((F43 193 0 rfl).trans ((F42 193 0 rfl).trans ((F41 193 0 rfl).trans ((F40 193 0 rfl).trans ((F39 193 0 rfl).trans ((F38 193 0 rfl).trans ((F37 193 0 rfl).trans ((F36 193 0 rfl).trans ((F35 193 0 rfl).trans ((F34 193 0 rfl).trans ((F33 193 0 rfl).trans ((F32 193 0 rfl).trans ((F31 193 0 rfl).trans ((F30 193 0 rfl).trans ((F29 193 0 rfl).trans ((F28 193 0 rfl).trans (f193_0 (h := h) hT))))))))))))))))))) ?_
  refine am_e_iastore (q := 4) n97_84 rfl (by decide) (by decide) ?_
  refine am_e_iinc (w := 1) (ls' := [(3, .int 1), (0, .ref 164), (1, .int 1), (2, .int 0)]) n97_85 rfl rfl (by decide) rfl ?_
  refine am_e_goto c97_86 t97_86 ?_
  refine am_e_iload_n n97_34 rfl ?_
  refine am_e_iconst (w := 4) n97_35 rfl ?_
  refine am_e_cmpF n97_36 (am_c_geF (by decide)) ?_
  refine am_e_aload_n n97_37 rfl ?_
  refine am_e_getf (v := .ref 191) n97_38 rfl ((F45 164 53 rfl).trans ((F44 164 53 rfl).trans ((F43 164 53 rfl).trans ((F42 164 53 rfl).trans ((F41 164 53 rfl).trans ((F40 164 53 rfl).trans ((F39 164 53 rfl).trans ((F38 164 53 rfl).trans ((F37 164 53 rfl).trans ((F36 164 53 rfl).trans ((F35 164 53 rfl).trans ((F34 164 53 rfl).trans ((F33 164 53 rfl).trans ((F32 164 53 rfl).trans ((F31 164 53 rfl).trans ((F30 164 53 rfl).trans ((F29 164 53 rfl).trans ((F28 164 53 rfl).trans (f164_53 (h := h) hT))))))))))))))))))) ?_
  refine am_e_iconst (w := 4) n97_39 rfl ?_
  refine am_e_iload_n n97_40 rfl ?_
  refine am_e_imul (w := 4) n97_41 (by decide) ?_
  refine am_e_iload_n n97_42 rfl ?_
  refine am_e_iadd (w := 5) n97_43 (by decide) ?_
  refine am_e_aload_n n97_44 rfl ?_
  refine am_e_getf (v := .ref 191) n97_45 rfl ((F45 164 53 rfl).trans ((F44 164 53 rfl).trans ((F43 164 53 rfl).trans ((F42 164 53 rfl).trans ((F41 164 53 rfl).trans ((F40 164 53 rfl).trans ((F39 164 53 rfl).trans ((F38 164 53 rfl).trans ((F37 164 53 rfl).trans ((F36 164 53 rfl).trans ((F35 164 53 rfl).trans ((F34 164 53 rfl).trans ((F33 164 53 rfl).trans ((F32 164 53 rfl).trans ((F31 164 53 rfl).trans ((F30 164 53 rfl).trans ((F29 164 53 rfl).trans ((F28 164 53 rfl).trans (f164_53 (h := h) hT))))))))))))))))))) ?_
  refine am_e_iconst (w := 4) n97_46 rfl ?_
  refine am_e_iload_n n97_47 rfl ?_
  refine am_e_imul (w := 0) n97_48 (by decide) ?_
  refine am_e_iload_n n97_49 rfl ?_
  refine am_e_iadd (w := 1) n97_50 (by decide) ?_
  refine am_e_iaload (v := 0) (q := 1) n97_51 rfl (by decide) (by decide) ((F45 191 1 rfl).trans ((F44 191 1 rfl).trans ((F43 191 1 rfl).trans ((F42 191 1 rfl).trans ((F41 191 1 rfl).trans ((F40 191 1 rfl).trans ((F39 191 1 rfl).trans ((F38 191 1 rfl).trans ((F37 191 1 rfl).trans ((F36 191 1 rfl).trans ((F35 191 1 rfl).trans ((F34 191 1 rfl).trans ((F33 191 1 rfl).trans ((F32 191 1 rfl).trans ((F31 191 1 rfl).trans ((F30 191 1 rfl).trans ((F29 191 1 rfl).trans ((F28 191 1 rfl).trans (f191_1 (h := h) hT))))))))))))))))))) ?_
  refine am_e_iastore (q := 5) n97_52 rfl (by decide) (by decide) ?_
  refine am_e_aload_n n97_53 rfl ?_
  refine am_e_getf (v := .ref 192) n97_54 rfl ((F45 164 54 rfl).trans ((F44 164 54 rfl).trans ((F43 164 54 rfl).trans ((F42 164 54 rfl).trans ((F41 164 54 rfl).trans ((F40 164 54 rfl).trans ((F39 164 54 rfl).trans ((F38 164 54 rfl).trans ((F37 164 54 rfl).trans ((F36 164 54 rfl).trans ((F35 164 54 rfl).trans ((F34 164 54 rfl).trans ((F33 164 54 rfl).trans ((F32 164 54 rfl).trans ((F31 164 54 rfl).trans ((F30 164 54 rfl).trans ((F29 164 54 rfl).trans ((F28 164 54 rfl).trans (f164_54 (h := h) hT))))))))))))))))))) ?_
  refine am_e_iconst (w := 4) n97_55 rfl ?_
  refine am_e_iload_n n97_56 rfl ?_
  refine am_e_imul (w := 4) n97_57 (by decide) ?_
  refine am_e_iload_n n97_58 rfl ?_
  refine am_e_iadd (w := 5) n97_59 (by decide) ?_
  refine am_e_aload_n n97_60 rfl ?_
  refine am_e_getf (v := .ref 192) n97_61 rfl ((F45 164 54 rfl).trans ((F44 164 54 rfl).trans ((F43 164 54 rfl).trans ((F42 164 54 rfl).trans ((F41 164 54 rfl).trans ((F40 164 54 rfl).trans ((F39 164 54 rfl).trans ((F38 164 54 rfl).trans ((F37 164 54 rfl).trans ((F36 164 54 rfl).trans ((F35 164 54 rfl).trans ((F34 164 54 rfl).trans ((F33 164 54 rfl).trans ((F32 164 54 rfl).trans ((F31 164 54 rfl).trans ((F30 164 54 rfl).trans ((F29 164 54 rfl).trans ((F28 164 54 rfl).trans (f164_54 (h := h) hT))))))))))))))))))) ?_
  refine am_e_iconst (w := 4) n97_62 rfl ?_
  refine am_e_iload_n n97_63 rfl ?_
  refine am_e_imul (w := 0) n97_64 (by decide) ?_
  refine am_e_iload_n n97_65 rfl ?_
  refine am_e_iadd (w := 1) n97_66 (by decide) ?_
  refine am_e_iaload (v := 0) (q := 1) n97_67 rfl (by decide) (by decide) ((F45 192 1 rfl).trans ((F44 192 1 rfl).trans ((F43 192 1 rfl).trans ((F42 192 1 rfl).trans ((F41 192 1 rfl).trans ((F40 192 1 rfl).trans ((F39 192 1 rfl).trans ((F38 192 1 rfl).trans ((F37 192 1 rfl).trans ((F36 192 1 rfl).trans ((F35 192 1 rfl).trans ((F34 192 1 rfl).trans ((F33 192 1 rfl).trans ((F32 192 1 rfl).trans ((F31 192 1 rfl).trans ((F30 192 1 rfl).trans ((F29 192 1 rfl).trans ((F28 192 1 rfl).trans (f192_1 (h := h) hT))))))))))))))))))) ?_
  refine am_e_iastore (q := 5) n97_68 rfl (by decide) (by decide) ?_
  refine am_e_aload_n n97_69 rfl ?_
  refine am_e_getf (v := .ref 193) n97_70 rfl ((F45 164 55 rfl).trans ((F44 164 55 rfl).trans ((F43 164 55 rfl).trans ((F42 164 55 rfl).trans ((F41 164 55 rfl).trans ((F40 164 55 rfl).trans ((F39 164 55 rfl).trans ((F38 164 55 rfl).trans ((F37 164 55 rfl).trans ((F36 164 55 rfl).trans ((F35 164 55 rfl).trans ((F34 164 55 rfl).trans ((F33 164 55 rfl).trans ((F32 164 55 rfl).trans ((F31 164 55 rfl).trans ((F30 164 55 rfl).trans ((F29 164 55 rfl).trans ((F28 164 55 rfl).trans (f164_55 (h := h) hT))))))))))))))))))) ?_
  refine am_e_iconst (w := 4) n97_71 rfl ?_
  refine am_e_iload_n n97_72 rfl ?_
  refine am_e_imul (w := 4) n97_73 (by decide) ?_
  refine am_e_iload_n n97_74 rfl ?_
  refine am_e_iadd (w := 5) n97_75 (by decide) ?_
  refine am_e_aload_n n97_76 rfl ?_
  refine am_e_getf (v := .ref 193) n97_77 rfl ((F45 164 55 rfl).trans ((F44 164 55 rfl).trans ((F43 164 55 rfl).trans ((F42 164 55 rfl).trans ((F41 164 55 rfl).trans ((F40 164 55 rfl).trans ((F39 164 55 rfl).trans ((F38 164 55 rfl).trans ((F37 164 55 rfl).trans ((F36 164 55 rfl).trans ((F35 164 55 rfl).trans ((F34 164 55 rfl).trans ((F33 164 55 rfl).trans ((F32 164 55 rfl).trans ((F31 164 55 rfl).trans ((F30 164 55 rfl).trans ((F29 164 55 rfl).trans ((F28 164 55 rfl).trans (f164_55 (h := h) hT))))))))))))))))))) ?_
  refine am_e_iconst (w := 4) n97_78 rfl ?_
  refine am_e_iload_n n97_79 rfl ?_
  refine am_e_imul (w := 0) n97_80 (by decide) ?_
  refine am_e_iload_n n97_81 rfl ?_
  refine am_e_iadd (w := 1) n97_82 (by decide) ?_
  refine am_e_iaload (v := 0) (q := 1) n97_83 rfl (by decide) (by decide) ((F45 193 1 rfl).trans ((F44 193 1 rfl).trans ((F43 193 1 rfl).trans ((F42 193 1 rfl).trans ((F41 193 1 rfl).trans ((F40 193 1 rfl).trans ((F39 193 1 rfl).trans ((F38 193 1 rfl).trans ((F37 193 1 rfl).trans ((F36 193 1 rfl).trans ((F35 193 1 rfl).trans ((F34 193 1 rfl).trans ((F33 193 1 rfl).trans ((F32 193 1 rfl).trans ((F31 193 1 rfl).trans ((F30 193 1 rfl).trans ((F29 193 1 rfl).trans ((F28 193 1 rfl).trans (f193_1 (h := h) hT))))))))))))))))))) ?_
  refine am_e_iastore (q := 5) n97_84 rfl (by decide) (by decide) ?_
  refine am_e_iinc (w := 2) (ls' := [(3, .int 2), (0, .ref 164), (1, .int 1), (2, .int 0)]) n97_85 rfl rfl (by decide) rfl ?_
  refine am_e_goto c97_86 t97_86 ?_
  refine am_e_iload_n n97_34 rfl ?_
  refine am_e_iconst (w := 4) n97_35 rfl ?_
  refine am_e_cmpF n97_36 (am_c_geF (by decide)) ?_
  refine am_e_aload_n n97_37 rfl ?_
  refine am_e_getf (v := .ref 191) n97_38 rfl ((F45 164 53 rfl).trans ((F44 164 53 rfl).trans ((F43 164 53 rfl).trans ((F42 164 53 rfl).trans ((F41 164 53 rfl).trans ((F40 164 53 rfl).trans ((F39 164 53 rfl).trans ((F38 164 53 rfl).trans ((F37 164 53 rfl).trans ((F36 164 53 rfl).trans ((F35 164 53 rfl).trans ((F34 164 53 rfl).trans ((F33 164 53 rfl).trans ((F32 164 53 rfl).trans ((F31 164 53 rfl).trans ((F30 164 53 rfl).trans ((F29 164 53 rfl).trans ((F28 164 53 rfl).trans (f164_53 (h := h) hT))))))))))))))))))) ?_
  refine am_e_iconst (w := 4) n97_39 rfl ?_
  refine am_e_iload_n n97_40 rfl ?_
  refine am_e_imul (w := 4) n97_41 (by decide) ?_
  refine am_e_iload_n n97_42 rfl ?_
  refine am_e_iadd (w := 6) n97_43 (by decide) ?_
  refine am_e_aload_n n97_44 rfl ?_
  refine am_e_getf (v := .ref 191) n97_45 rfl ((F45 164 53 rfl).trans ((F44 164 53 rfl).trans ((F43 164 53 rfl).trans ((F42 164 53 rfl).trans ((F41 164 53 rfl).trans ((F40 164 53 rfl).trans ((F39 164 53 rfl).trans ((F38 164 53 rfl).trans ((F37 164 53 rfl).trans ((F36 164 53 rfl).trans ((F35 164 53 rfl).trans ((F34 164 53 rfl).trans ((F33 164 53 rfl).trans ((F32 164 53 rfl).trans ((F31 164 53 rfl).trans ((F30 164 53 rfl).trans ((F29 164 53 rfl).trans ((F28 164 53 rfl).trans (f164_53 (h := h) hT))))))))))))))))))) ?_
  refine am_e_iconst (w := 4) n97_46 rfl ?_
  refine am_e_iload_n n97_47 rfl ?_
  refine am_e_imul (w := 0) n97_48 (by decide) ?_
  refine am_e_iload_n n97_49 rfl ?_
  refine am_e_iadd (w := 2) n97_50 (by decide) ?_
  refine am_e_iaload (v := 0) (q := 2) n97_51 rfl (by decide) (by decide) ((F45 191 2 rfl).trans ((F44 191 2 rfl).trans ((F43 191 2 rfl).trans ((F42 191 2 rfl).trans ((F41 191 2 rfl).trans ((F40 191 2 rfl).trans ((F39 191 2 rfl).trans ((F38 191 2 rfl).trans ((F37 191 2 rfl).trans ((F36 191 2 rfl).trans ((F35 191 2 rfl).trans ((F34 191 2 rfl).trans ((F33 191 2 rfl).trans ((F32 191 2 rfl).trans ((F31 191 2 rfl).trans ((F30 191 2 rfl).trans ((F29 191 2 rfl).trans ((F28 191 2 rfl).trans (f191_2 (h := h) hT))))))))))))))))))) ?_
  refine am_e_iastore (q := 6) n97_52 rfl (by decide) (by decide) ?_
  refine am_e_aload_n n97_53 rfl ?_
  refine am_e_getf (v := .ref 192) n97_54 rfl ((F45 164 54 rfl).trans ((F44 164 54 rfl).trans ((F43 164 54 rfl).trans ((F42 164 54 rfl).trans ((F41 164 54 rfl).trans ((F40 164 54 rfl).trans ((F39 164 54 rfl).trans ((F38 164 54 rfl).trans ((F37 164 54 rfl).trans ((F36 164 54 rfl).trans ((F35 164 54 rfl).trans ((F34 164 54 rfl).trans ((F33 164 54 rfl).trans ((F32 164 54 rfl).trans ((F31 164 54 rfl).trans ((F30 164 54 rfl).trans ((F29 164 54 rfl).trans ((F28 164 54 rfl).trans (f164_54 (h := h) hT))))))))))))))))))) ?_
  refine am_e_iconst (w := 4) n97_55 rfl ?_
  refine am_e_iload_n n97_56 rfl ?_
  refine am_e_imul (w := 4) n97_57 (by decide) ?_
  refine am_e_iload_n n97_58 rfl ?_
  refine am_e_iadd (w := 6) n97_59 (by decide) ?_
  refine am_e_aload_n n97_60 rfl ?_
  refine am_e_getf (v := .ref 192) n97_61 rfl ((F45 164 54 rfl).trans ((F44 164 54 rfl).trans ((F43 164 54 rfl).trans ((F42 164 54 rfl).trans ((F41 164 54 rfl).trans ((F40 164 54 rfl).trans ((F39 164 54 rfl).trans ((F38 164 54 rfl).trans ((F37 164 54 rfl).trans ((F36 164 54 rfl).trans ((F35 164 54 rfl).trans ((F34 164 54 rfl).trans ((F33 164 54 rfl).trans ((F32 164 54 rfl).trans ((F31 164 54 rfl).trans ((F30 164 54 rfl).trans ((F29 164 54 rfl).trans ((F28 164 54 rfl).trans (f164_54 (h := h) hT))))))))))))))))))) ?_
  refine am_e_iconst (w := 4) n97_62 rfl ?_
  refine am_e_iload_n n97_63 rfl ?_
  refine am_e_imul (w := 0) n97_64 (by decide) ?_
  refine am_e_iload_n n97_65 rfl ?_
  refine am_e_iadd (w := 2) n97_66 (by decide) ?_
  refine am_e_iaload (v := 0) (q := 2) n97_67 rfl (by decide) (by decide) ((F45 192 2 rfl).trans ((F44 192 2 rfl).trans ((F43 192 2 rfl).trans ((F42 192 2 rfl).trans ((F41 192 2 rfl).trans ((F40 192 2 rfl).trans ((F39 192 2 rfl).trans ((F38 192 2 rfl).trans ((F37 192 2 rfl).trans ((F36 192 2 rfl).trans ((F35 192 2 rfl).trans ((F34 192 2 rfl).trans ((F33 192 2 rfl).trans ((F32 192 2 rfl).trans ((F31 192 2 rfl).trans ((F30 192 2 rfl).trans ((F29 192 2 rfl).trans ((F28 192 2 rfl).trans (f192_2 (h := h) hT))))))))))))))))))) ?_
  refine am_e_iastore (q := 6) n97_68 rfl (by decide) (by decide) ?_
  refine am_e_aload_n n97_69 rfl ?_
  refine am_e_getf (v := .ref 193) n97_70 rfl ((F45 164 55 rfl).trans ((F44 164 55 rfl).trans ((F43 164 55 rfl).trans ((F42 164 55 rfl).trans ((F41 164 55 rfl).trans ((F40 164 55 rfl).trans ((F39 164 55 rfl).trans ((F38 164 55 rfl).trans ((F37 164 55 rfl).trans ((F36 164 55 rfl).trans ((F35 164 55 rfl).trans ((F34 164 55 rfl).trans ((F33 164 55 rfl).trans ((F32 164 55 rfl).trans ((F31 164 55 rfl).trans ((F30 164 55 rfl).trans ((F29 164 55 rfl).trans ((F28 164 55 rfl).trans (f164_55 (h := h) hT))))))))))))))))))) ?_
  refine am_e_iconst (w := 4) n97_71 rfl ?_
  refine am_e_iload_n n97_72 rfl ?_
  refine am_e_imul (w := 4) n97_73 (by decide) ?_
  refine am_e_iload_n n97_74 rfl ?_
  refine am_e_iadd (w := 6) n97_75 (by decide) ?_
  refine am_e_aload_n n97_76 rfl ?_
  refine am_e_getf (v := .ref 193) n97_77 rfl ((F45 164 55 rfl).trans ((F44 164 55 rfl).trans ((F43 164 55 rfl).trans ((F42 164 55 rfl).trans ((F41 164 55 rfl).trans ((F40 164 55 rfl).trans ((F39 164 55 rfl).trans ((F38 164 55 rfl).trans ((F37 164 55 rfl).trans ((F36 164 55 rfl).trans ((F35 164 55 rfl).trans ((F34 164 55 rfl).trans ((F33 164 55 rfl).trans ((F32 164 55 rfl).trans ((F31 164 55 rfl).trans ((F30 164 55 rfl).trans ((F29 164 55 rfl).trans ((F28 164 55 rfl).trans (f164_55 (h := h) hT))))))))))))))))))) ?_
  refine am_e_iconst (w := 4) n97_78 rfl ?_
  refine am_e_iload_n n97_79 rfl ?_
  refine am_e_imul (w := 0) n97_80 (by decide) ?_
  refine am_e_iload_n n97_81 rfl ?_
  refine am_e_iadd (w := 2) n97_82 (by decide) ?_
  refine am_e_iaload (v := 0) (q := 2) n97_83 rfl (by decide) (by decide) ((F45 193 2 rfl).trans ((F44 193 2 rfl).trans ((F43 193 2 rfl).trans ((F42 193 2 rfl).trans ((F41 193 2 rfl).trans ((F40 193 2 rfl).trans ((F39 193 2 rfl).trans ((F38 193 2 rfl).trans ((F37 193 2 rfl).trans ((F36 193 2 rfl).trans ((F35 193 2 rfl).trans ((F34 193 2 rfl).trans ((F33 193 2 rfl).trans ((F32 193 2 rfl).trans ((F31 193 2 rfl).trans ((F30 193 2 rfl).trans ((F29 193 2 rfl).trans ((F28 193 2 rfl).trans (f193_2 (h := h) hT))))))))))))))))))) ?_
  refine am_e_iastore (q := 6) n97_84 rfl (by decide) (by decide) ?_
  refine am_e_iinc (w := 3) (ls' := [(3, .int 3), (0, .ref 164), (1, .int 1), (2, .int 0)]) n97_85 rfl rfl (by decide) rfl ?_
  refine am_e_goto c97_86 t97_86 ?_
  refine am_e_iload_n n97_34 rfl ?_
  refine am_e_iconst (w := 4) n97_35 rfl ?_
  refine am_e_cmpF n97_36 (am_c_geF (by decide)) ?_
  refine am_e_aload_n n97_37 rfl ?_
  refine am_e_getf (v := .ref 191) n97_38 rfl ((F45 164 53 rfl).trans ((F44 164 53 rfl).trans ((F43 164 53 rfl).trans ((F42 164 53 rfl).trans ((F41 164 53 rfl).trans ((F40 164 53 rfl).trans ((F39 164 53 rfl).trans ((F38 164 53 rfl).trans ((F37 164 53 rfl).trans ((F36 164 53 rfl).trans ((F35 164 53 rfl).trans ((F34 164 53 rfl).trans ((F33 164 53 rfl).trans ((F32 164 53 rfl).trans ((F31 164 53 rfl).trans ((F30 164 53 rfl).trans ((F29 164 53 rfl).trans ((F28 164 53 rfl).trans (f164_53 (h := h) hT))))))))))))))))))) ?_
  refine am_e_iconst (w := 4) n97_39 rfl ?_
  refine am_e_iload_n n97_40 rfl ?_
  refine am_e_imul (w := 4) n97_41 (by decide) ?_
  refine am_e_iload_n n97_42 rfl ?_
  refine am_e_iadd (w := 7) n97_43 (by decide) ?_
  refine am_e_aload_n n97_44 rfl ?_
  refine am_e_getf (v := .ref 191) n97_45 rfl ((F45 164 53 rfl).trans ((F44 164 53 rfl).trans ((F43 164 53 rfl).trans ((F42 164 53 rfl).trans ((F41 164 53 rfl).trans ((F40 164 53 rfl).trans ((F39 164 53 rfl).trans ((F38 164 53 rfl).trans ((F37 164 53 rfl).trans ((F36 164 53 rfl).trans ((F35 164 53 rfl).trans ((F34 164 53 rfl).trans ((F33 164 53 rfl).trans ((F32 164 53 rfl).trans ((F31 164 53 rfl).trans ((F30 164 53 rfl).trans ((F29 164 53 rfl).trans ((F28 164 53 rfl).trans (f164_53 (h := h) hT))))))))))))))))))) ?_
  refine am_e_iconst (w := 4) n97_46 rfl ?_
  refine am_e_iload_n n97_47 rfl ?_
  refine am_e_imul (w := 0) n97_48 (by decide) ?_
  refine am_e_iload_n n97_49 rfl ?_
  refine am_e_iadd (w := 3) n97_50 (by decide) ?_
  refine am_e_iaload (v := 0) (q := 3) n97_51 rfl (by decide) (by decide) ((F45 191 3 rfl).trans ((F44 191 3 rfl).trans ((F43 191 3 rfl).trans ((F42 191 3 rfl).trans ((F41 191 3 rfl).trans ((F40 191 3 rfl).trans ((F39 191 3 rfl).trans ((F38 191 3 rfl).trans ((F37 191 3 rfl).trans ((F36 191 3 rfl).trans ((F35 191 3 rfl).trans ((F34 191 3 rfl).trans ((F33 191 3 rfl).trans ((F32 191 3 rfl).trans ((F31 191 3 rfl).trans ((F30 191 3 rfl).trans ((F29 191 3 rfl).trans ((F28 191 3 rfl).trans (f191_3 (h := h) hT))))))))))))))))))) ?_
  refine am_e_iastore (q := 7) n97_52 rfl (by decide) (by decide) ?_
  refine am_e_aload_n n97_53 rfl ?_
  refine am_e_getf (v := .ref 192) n97_54 rfl ((F45 164 54 rfl).trans ((F44 164 54 rfl).trans ((F43 164 54 rfl).trans ((F42 164 54 rfl).trans ((F41 164 54 rfl).trans ((F40 164 54 rfl).trans ((F39 164 54 rfl).trans ((F38 164 54 rfl).trans ((F37 164 54 rfl).trans ((F36 164 54 rfl).trans ((F35 164 54 rfl).trans ((F34 164 54 rfl).trans ((F33 164 54 rfl).trans ((F32 164 54 rfl).trans ((F31 164 54 rfl).trans ((F30 164 54 rfl).trans ((F29 164 54 rfl).trans ((F28 164 54 rfl).trans (f164_54 (h := h) hT))))))))))))))))))) ?_
  refine am_e_iconst (w := 4) n97_55 rfl ?_
  refine am_e_iload_n n97_56 rfl ?_
  refine am_e_imul (w := 4) n97_57 (by decide) ?_
  refine am_e_iload_n n97_58 rfl ?_
  refine am_e_iadd (w := 7) n97_59 (by decide) ?_
  refine am_e_aload_n n97_60 rfl ?_
  refine am_e_getf (v := .ref 192) n97_61 rfl ((F45 164 54 rfl).trans ((F44 164 54 rfl).trans ((F43 164 54 rfl).trans ((F42 164 54 rfl).trans ((F41 164 54 rfl).trans ((F40 164 54 rfl).trans ((F39 164 54 rfl).trans ((F38 164 54 rfl).trans ((F37 164 54 rfl).trans ((F36 164 54 rfl).trans ((F35 164 54 rfl).trans ((F34 164 54 rfl).trans ((F33 164 54 rfl).trans ((F32 164 54 rfl).trans ((F31 164 54 rfl).trans ((F30 164 54 rfl).trans ((F29 164 54 rfl).trans ((F28 164 54 rfl).trans (f164_54 (h := h) hT))))))))))))))))))) ?_
  refine am_e_iconst (w := 4) n97_62 rfl ?_
  refine am_e_iload_n n97_63 rfl ?_
  refine am_e_imul (w := 0) n97_64 (by decide) ?_
  refine am_e_iload_n n97_65 rfl ?_
  refine am_e_iadd (w := 3) n97_66 (by decide) ?_
  refine am_e_iaload (v := 0) (q := 3) n97_67 rfl (by decide) (by decide) ((F45 192 3 rfl).trans ((F44 192 3 rfl).trans ((F43 192 3 rfl).trans ((F42 192 3 rfl).trans ((F41 192 3 rfl).trans ((F40 192 3 rfl).trans ((F39 192 3 rfl).trans ((F38 192 3 rfl).trans ((F37 192 3 rfl).trans ((F36 192 3 rfl).trans ((F35 192 3 rfl).trans ((F34 192 3 rfl).trans ((F33 192 3 rfl).trans ((F32 192 3 rfl).trans ((F31 192 3 rfl).trans ((F30 192 3 rfl).trans ((F29 192 3 rfl).trans ((F28 192 3 rfl).trans (f192_3 (h := h) hT))))))))))))))))))) ?_
  refine am_e_iastore (q := 7) n97_68 rfl (by decide) (by decide) ?_
  refine am_e_aload_n n97_69 rfl ?_
  refine am_e_getf (v := .ref 193) n97_70 rfl ((F45 164 55 rfl).trans ((F44 164 55 rfl).trans ((F43 164 55 rfl).trans ((F42 164 55 rfl).trans ((F41 164 55 rfl).trans ((F40 164 55 rfl).trans ((F39 164 55 rfl).trans ((F38 164 55 rfl).trans ((F37 164 55 rfl).trans ((F36 164 55 rfl).trans ((F35 164 55 rfl).trans ((F34 164 55 rfl).trans ((F33 164 55 rfl).trans ((F32 164 55 rfl).trans ((F31 164 55 rfl).trans ((F30 164 55 rfl).trans ((F29 164 55 rfl).trans ((F28 164 55 rfl).trans (f164_55 (h := h) hT))))))))))))))))))) ?_
  refine am_e_iconst (w := 4) n97_71 rfl ?_
  refine am_e_iload_n n97_72 rfl ?_
  refine am_e_imul (w := 4) n97_73 (by decide) ?_
  refine am_e_iload_n n97_74 rfl ?_
  refine am_e_iadd (w := 7) n97_75 (by decide) ?_
  refine am_e_aload_n n97_76 rfl ?_
  refine am_e_getf (v := .ref 193) n97_77 rfl ((F45 164 55 rfl).trans ((F44 164 55 rfl).trans ((F43 164 55 rfl).trans ((F42 164 55 rfl).trans ((F41 164 55 rfl).trans ((F40 164 55 rfl).trans ((F39 164 55 rfl).trans ((F38 164 55 rfl).trans ((F37 164 55 rfl).trans ((F36 164 55 rfl).trans ((F35 164 55 rfl).trans ((F34 164 55 rfl).trans ((F33 164 55 rfl).trans ((F32 164 55 rfl).trans ((F31 164 55 rfl).trans ((F30 164 55 rfl).trans ((F29 164 55 rfl).trans ((F28 164 55 rfl).trans (f164_55 (h := h) hT))))))))))))))))))) ?_
  refine am_e_iconst (w := 4) n97_78 rfl ?_
  refine am_e_iload_n n97_79 rfl ?_
  refine am_e_imul (w := 0) n97_80 (by decide) ?_
  refine am_e_iload_n n97_81 rfl ?_
  refine am_e_iadd (w := 3) n97_82 (by decide) ?_
  refine am_e_iaload (v := 0) (q := 3) n97_83 rfl (by decide) (by decide) ((F45 193 3 rfl).trans ((F44 193 3 rfl).trans ((F43 193 3 rfl).trans ((F42 193 3 rfl).trans ((F41 193 3 rfl).trans ((F40 193 3 rfl).trans ((F39 193 3 rfl).trans ((F38 193 3 rfl).trans ((F37 193 3 rfl).trans ((F36 193 3 rfl).trans ((F35 193 3 rfl).trans ((F34 193 3 rfl).trans ((F33 193 3 rfl).trans ((F32 193 3 rfl).trans ((F31 193 3 rfl).trans ((F30 193 3 rfl).trans ((F29 193 3 rfl).trans ((F28 193 3 rfl).trans (f193_3 (h := h) hT))))))))))))))))))) ?_
  refine am_e_iastore (q := 7) n97_84 rfl (by decide) (by decide) ?_
  refine am_e_iinc (w := 4) (ls' := [(3, .int 4), (0, .ref 164), (1, .int 1), (2, .int 0)]) n97_85 rfl rfl (by decide) rfl ?_
  refine am_e_goto c97_86 t97_86 ?_
  refine am_e_iload_n n97_34 rfl ?_
  refine am_e_iconst (w := 4) n97_35 rfl ?_
  refine am_e_cmpT n97_36 (am_c_geT (by decide)) t97_36 ?_
  refine am_e_vret c97_87 rfl rfl ?_
  refine am_e_iconst (w := 0) n127_35 rfl ?_
  refine am_e_istore (ls' := [(8, .int 0), (7, .int 8), (6, .int 8), (0, .ref 164), (2, .int (nI n)), (3, .int (nI 0)), (4, .long 0)]) n127_36 rfl rfl ?_
  refine am_Ek_ls (ls' := [(0, .ref 164), (2, .int (nI n)), (3, .int (nI 0)), (4, .long 0), (6, .int 8), (7, .int 8), (8, .int (nI 0))]) ⟨rfl, rfl, rfl, rfl, rfl, rfl, rfl, trivial⟩ ?_
  refine am_cm_e (n := n) (b := 0) (s := 0) (t := 8) (i7 := 8) (dr := dr45) (by omega) (by omega) ⟨((F45 164 23 rfl).trans ((F44 164 23 rfl).trans ((F43 164 23 rfl).trans ((F42 164 23 rfl).trans ((F41 164 23 rfl).trans ((F40 164 23 rfl).trans ((F39 164 23 rfl).trans ((F38 164 23 rfl).trans ((F37 164 23 rfl).trans ((F36 164 23 rfl).trans ((F35 164 23 rfl).trans ((F34 164 23 rfl).trans ((F33 164 23 rfl).trans ((F32 164 23 rfl).trans ((F31 164 23 rfl).trans ((F30 164 23 rfl).trans ((F29 164 23 rfl).trans ((F28 164 23 rfl).trans (f164_23 (h := h) hT))))))))))))))))))), ((F45 168 4 rfl).trans ((F44 168 4 rfl).trans ((F43 168 4 rfl).trans ((F42 168 4 rfl).trans ((F41 168 4 rfl).trans ((F40 168 4 rfl).trans ((F39 168 4 rfl).trans ((F38 168 4 rfl).trans ((F37 168 4 rfl).trans ((F36 168 4 rfl).trans ((F35 168 4 rfl).trans ((F34 168 4 rfl).trans ((F33 168 4 rfl).trans ((F32 168 4 rfl).trans ((F31 168 4 rfl).trans ((F30 168 4 rfl).trans ((F29 168 4 rfl).trans ((F28 168 4 rfl).trans (f168_4 (h := h) hT))))))))))))))))))), ((F45 164 50 rfl).trans ((F44 164 50 rfl).trans ((F43 164 50 rfl).trans ((F42 164 50 rfl).trans ((F41 164 50 rfl).trans ((F40 164 50 rfl).trans ((F39 164 50 rfl).trans ((F38 164 50 rfl).trans ((F37 164 50 rfl).trans ((F36 164 50 rfl).trans ((F35 164 50 rfl).trans ((F34 164 50 rfl).trans ((F33 164 50 rfl).trans ((F32 164 50 rfl).trans ((F31 164 50 rfl).trans ((F30 164 50 rfl).trans ((F29 164 50 rfl).trans ((F28 164 50 rfl).trans (f164_50 (h := h) hT))))))))))))))))))), ((F45 164 61 rfl).trans ((F44 164 61 rfl).trans ((F43 164 61 rfl).trans ((F42 164 61 rfl).trans ((F41 164 61 rfl).trans ((F40 164 61 rfl).trans ((F39 164 61 rfl).trans ((F38 164 61 rfl).trans ((F37 164 61 rfl).trans ((F36 164 61 rfl).trans ((F35 164 61 rfl).trans ((F34 164 61 rfl).trans ((F33 164 61 rfl).trans ((F32 164 61 rfl).trans ((F31 164 61 rfl).trans ((F30 164 61 rfl).trans ((F29 164 61 rfl).trans ((F28 164 61 rfl).trans (f164_61 (h := h) hT))))))))))))))))))), ((F45 164 47 rfl).trans ((F44 164 47 rfl).trans ((F43 164 47 rfl).trans ((F42 164 47 rfl).trans ((F41 164 47 rfl).trans ((F40 164 47 rfl).trans ((F39 164 47 rfl).trans ((F38 164 47 rfl).trans ((F37 164 47 rfl).trans ((F36 164 47 rfl).trans ((F35 164 47 rfl).trans ((F34 164 47 rfl).trans ((F33 164 47 rfl).trans ((F32 164 47 rfl).trans ((F31 164 47 rfl).trans ((F30 164 47 rfl).trans ((F29 164 47 rfl).trans ((F28 164 47 rfl).trans (f164_47 (h := h) hT))))))))))))))))))), ((F45 168 0 rfl).trans ((F44 168 0 rfl).trans ((F43 168 0 rfl).trans ((F42 168 0 rfl).trans ((F41 168 0 rfl).trans ((F40 168 0 rfl).trans ((F39 168 0 rfl).trans ((F38 168 0 rfl).trans ((F37 168 0 rfl).trans ((F36 168 0 rfl).trans ((F35 168 0 rfl).trans ((F34 168 0 rfl).trans ((F33 168 0 rfl).trans ((F32 168 0 rfl).trans ((F31 168 0 rfl).trans ((F30 168 0 rfl).trans ((F29 168 0 rfl).trans ((F28 168 0 rfl).trans (f168_0 (h := h) hT))))))))))))))))))), ((F45 164 51 rfl).trans ((F44 164 51 rfl).trans ((F43 164 51 rfl).trans ((F42 164 51 rfl).trans ((F41 164 51 rfl).trans ((F40 164 51 rfl).trans ((F39 164 51 rfl).trans ((F38 164 51 rfl).trans ((F37 164 51 rfl).trans ((F36 164 51 rfl).trans ((F35 164 51 rfl).trans ((F34 164 51 rfl).trans ((F33 164 51 rfl).trans ((F32 164 51 rfl).trans ((F31 164 51 rfl).trans ((F30 164 51 rfl).trans ((F29 164 51 rfl).trans ((F28 164 51 rfl).trans (f164_51 (h := h) hT))))))))))))))))))), ((F45 164 33 rfl).trans ((F44 164 33 rfl).trans ((F43 164 33 rfl).trans ((F42 164 33 rfl).trans ((F41 164 33 rfl).trans ((F40 164 33 rfl).trans ((F39 164 33 rfl).trans ((F38 164 33 rfl).trans ((F37 164 33 rfl).trans ((F36 164 33 rfl).trans ((F35 164 33 rfl).trans ((F34 164 33 rfl).trans ((F33 164 33 rfl).trans ((F32 164 33 rfl).trans ((F31 164 33 rfl).trans ((F30 164 33 rfl).trans ((F29 164 33 rfl).trans ((F28 164 33 rfl).trans (f164_33 (h := h) hT))))))))))))))))))), ((F45 178 2 rfl).trans ((F44 178 2 rfl).trans ((F43 178 2 rfl).trans ((F42 178 2 rfl).trans ((F41 178 2 rfl).trans ((F40 178 2 rfl).trans ((F39 178 2 rfl).trans ((F38 178 2 rfl).trans ((F37 178 2 rfl).trans ((F36 178 2 rfl).trans ((F35 178 2 rfl).trans ((F34 178 2 rfl).trans ((F33 178 2 rfl).trans ((F32 178 2 rfl).trans ((F31 178 2 rfl).trans ((F30 178 2 rfl).trans ((F29 178 2 rfl).trans ((F28 178 2 rfl).trans (f178_2 (h := h) hT))))))))))))))))))), ((F45 178 0 rfl).trans ((F44 178 0 rfl).trans ((F43 178 0 rfl).trans ((F42 178 0 rfl).trans ((F41 178 0 rfl).trans ((F40 178 0 rfl).trans ((F39 178 0 rfl).trans ((F38 178 0 rfl).trans ((F37 178 0 rfl).trans ((F36 178 0 rfl).trans ((F35 178 0 rfl).trans ((F34 178 0 rfl).trans ((F33 178 0 rfl).trans ((F32 178 0 rfl).trans ((F31 178 0 rfl).trans ((F30 178 0 rfl).trans ((F29 178 0 rfl).trans ((F28 178 0 rfl).trans (f178_0 (h := h) hT))))))))))))))))))), ((F45 164 62 rfl).trans ((F44 164 62 rfl).trans ((F43 164 62 rfl).trans ((F42 164 62 rfl).trans ((F41 164 62 rfl).trans ((F40 164 62 rfl).trans ((F39 164 62 rfl).trans ((F38 164 62 rfl).trans ((F37 164 62 rfl).trans ((F36 164 62 rfl).trans ((F35 164 62 rfl).trans ((F34 164 62 rfl).trans ((F33 164 62 rfl).trans ((F32 164 62 rfl).trans ((F31 164 62 rfl).trans ((F30 164 62 rfl).trans ((F29 164 62 rfl).trans ((F28 164 62 rfl).trans (f164_62 (h := h) hT))))))))))))))))))), ((F45 164 58 rfl).trans ((F44 164 58 rfl).trans ((F43 164 58 rfl).trans ((F42 164 58 rfl).trans ((F41 164 58 rfl).trans ((F40 164 58 rfl).trans ((F39 164 58 rfl).trans ((F38 164 58 rfl).trans ((F37 164 58 rfl).trans ((F36 164 58 rfl).trans ((F35 164 58 rfl).trans ((F34 164 58 rfl).trans ((F33 164 58 rfl).trans ((F32 164 58 rfl).trans ((F31 164 58 rfl).trans ((F30 164 58 rfl).trans ((F29 164 58 rfl).trans ((F28 164 58 rfl).trans (f164_58 (h := h) hT))))))))))))))))))), ((F45 164 60 rfl).trans ((F44 164 60 rfl).trans ((F43 164 60 rfl).trans ((F42 164 60 rfl).trans ((F41 164 60 rfl).trans ((F40 164 60 rfl).trans ((F39 164 60 rfl).trans ((F38 164 60 rfl).trans ((F37 164 60 rfl).trans ((F36 164 60 rfl).trans ((F35 164 60 rfl).trans ((F34 164 60 rfl).trans ((F33 164 60 rfl).trans ((F32 164 60 rfl).trans ((F31 164 60 rfl).trans ((F30 164 60 rfl).trans ((F29 164 60 rfl).trans ((F28 164 60 rfl).trans (f164_60 (h := h) hT))))))))))))))))))), trivial⟩ rfl rfl qc45 ?_
  intro h46 dr46 F46 qa46 qb46 qc46
  refine am_e_iload n127_59 rfl ?_
  refine am_e_aload_n n127_60 rfl ?_
  refine am_e_getf (v := .ref 188) n127_61 rfl ((F46 164 50 rfl).trans ((F45 164 50 rfl).trans ((F44 164 50 rfl).trans ((F43 164 50 rfl).trans ((F42 164 50 rfl).trans ((F41 164 50 rfl).trans ((F40 164 50 rfl).trans ((F39 164 50 rfl).trans ((F38 164 50 rfl).trans ((F37 164 50 rfl).trans ((F36 164 50 rfl).trans ((F35 164 50 rfl).trans ((F34 164 50 rfl).trans ((F33 164 50 rfl).trans ((F32 164 50 rfl).trans ((F31 164 50 rfl).trans ((F30 164 50 rfl).trans ((F29 164 50 rfl).trans ((F28 164 50 rfl).trans (f164_50 (h := h) hT)))))))))))))))))))) ?_
  refine am_e_iconst (w := 1) n127_62 rfl ?_
  refine am_e_iaload (v := 0) (q := 1) n127_63 rfl (by decide) (by decide) qa46 ?_
  refine am_e_iload_n n127_64 rfl ?_
  refine am_e_cmpF n127_65 (am_c_ltF (by decide)) ?_
  refine am_e_iconst (w := 1) n127_66 rfl ?_
  refine am_e_goto c127_67 t127_67 ?_
  refine am_e_iadd (w := 9) n127_69 (by decide) ?_
  refine am_e_istore (ls' := [(6, .int 9), (0, .ref 164), (2, .int (nI n)), (3, .int (nI 0)), (4, .long 0), (7, .int 8), (8, .int (nI n))]) n127_70 rfl rfl ?_
  refine am_e_iinc (w := 9) (ls' := [(7, .int 9), (6, .int 9), (0, .ref 164), (2, .int (nI n)), (3, .int (nI 0)), (4, .long 0), (8, .int (nI n))]) n127_71 rfl rfl (by decide) rfl ?_
  refine am_e_goto c127_72 t127_72 ?_
  refine am_e_iload n127_28 rfl ?_
  refine am_e_bipush (w := 10) n127_29 (by decide) ?_
  refine am_e_cmpF n127_30 (am_c_geF (by decide)) ?_
  refine am_e_aload_n n127_31 rfl ?_
  refine am_e_iconst (w := 1) n127_32 rfl ?_
  refine am_e_iconst (w := 0) n127_33 rfl ?_
  refine am_e_callV (L := [(0, .ref 164), (1, .int 1), (2, .int 0)]) n127_34 rfl rfl rfl rfl rfl rfl rfl rfl ?_
  refine am_e_aload_n n97_0 rfl ?_
  refine am_e_getf (v := .ref 188) n97_1 rfl ((F46 164 50 rfl).trans ((F45 164 50 rfl).trans ((F44 164 50 rfl).trans ((F43 164 50 rfl).trans ((F42 164 50 rfl).trans ((F41 164 50 rfl).trans ((F40 164 50 rfl).trans ((F39 164 50 rfl).trans ((F38 164 50 rfl).trans ((F37 164 50 rfl).trans ((F36 164 50 rfl).trans ((F35 164 50 rfl).trans ((F34 164 50 rfl).trans ((F33 164 50 rfl).trans ((F32 164 50 rfl).trans ((F31 164 50 rfl).trans ((F30 164 50 rfl).trans ((F29 164 50 rfl).trans ((F28 164 50 rfl).trans (f164_50 (h := h) hT)))))))))))))))))))) ?_
  refine am_e_iload_n n97_2 rfl ?_
  refine am_e_aload_n n97_3 rfl ?_
  refine am_e_getf (v := .ref 188) n97_4 rfl ((F46 164 50 rfl).trans ((F45 164 50 rfl).trans ((F44 164 50 rfl).trans ((F43 164 50 rfl).trans ((F42 164 50 rfl).trans ((F41 164 50 rfl).trans ((F40 164 50 rfl).trans ((F39 164 50 rfl).trans ((F38 164 50 rfl).trans ((F37 164 50 rfl).trans ((F36 164 50 rfl).trans ((F35 164 50 rfl).trans ((F34 164 50 rfl).trans ((F33 164 50 rfl).trans ((F32 164 50 rfl).trans ((F31 164 50 rfl).trans ((F30 164 50 rfl).trans ((F29 164 50 rfl).trans ((F28 164 50 rfl).trans (f164_50 (h := h) hT)))))))))))))))))))) ?_
  refine am_e_iload_n n97_5 rfl ?_
  refine am_e_iaload (v := 0) (q := 0) n97_6 rfl (by decide) (by decide) ((F46 188 0 rfl).trans ((F45 188 0 rfl).trans ((F44 188 0 rfl).trans ((F43 188 0 rfl).trans ((F42 188 0 rfl).trans ((F41 188 0 rfl).trans ((F40 188 0 rfl).trans ((F39 188 0 rfl).trans ((F38 188 0 rfl).trans ((F37 188 0 rfl).trans ((F36 188 0 rfl).trans ((F35 188 0 rfl).trans ((F34 188 0 rfl).trans ((F33 188 0 rfl).trans ((F32 188 0 rfl).trans ((F31 188 0 rfl).trans ((F30 188 0 rfl).trans ((F29 188 0 rfl).trans ((F28 188 0 rfl).trans (f188_0 (h := h) hT)))))))))))))))))))) ?_
  refine am_e_iastore (q := 1) n97_7 rfl (by decide) (by decide) ?_
  refine am_e_aload_n n97_8 rfl ?_
  refine am_e_getf (v := .ref 189) n97_9 rfl ((F46 164 51 rfl).trans ((F45 164 51 rfl).trans ((F44 164 51 rfl).trans ((F43 164 51 rfl).trans ((F42 164 51 rfl).trans ((F41 164 51 rfl).trans ((F40 164 51 rfl).trans ((F39 164 51 rfl).trans ((F38 164 51 rfl).trans ((F37 164 51 rfl).trans ((F36 164 51 rfl).trans ((F35 164 51 rfl).trans ((F34 164 51 rfl).trans ((F33 164 51 rfl).trans ((F32 164 51 rfl).trans ((F31 164 51 rfl).trans ((F30 164 51 rfl).trans ((F29 164 51 rfl).trans ((F28 164 51 rfl).trans (f164_51 (h := h) hT)))))))))))))))))))) ?_
  refine am_e_iload_n n97_10 rfl ?_
  refine am_e_aload_n n97_11 rfl ?_
  refine am_e_getf (v := .ref 189) n97_12 rfl ((F46 164 51 rfl).trans ((F45 164 51 rfl).trans ((F44 164 51 rfl).trans ((F43 164 51 rfl).trans ((F42 164 51 rfl).trans ((F41 164 51 rfl).trans ((F40 164 51 rfl).trans ((F39 164 51 rfl).trans ((F38 164 51 rfl).trans ((F37 164 51 rfl).trans ((F36 164 51 rfl).trans ((F35 164 51 rfl).trans ((F34 164 51 rfl).trans ((F33 164 51 rfl).trans ((F32 164 51 rfl).trans ((F31 164 51 rfl).trans ((F30 164 51 rfl).trans ((F29 164 51 rfl).trans ((F28 164 51 rfl).trans (f164_51 (h := h) hT)))))))))))))))))))) ?_
  refine am_e_iload_n n97_13 rfl ?_
  refine am_e_iaload (v := 0) (q := 0) n97_14 rfl (by decide) (by decide) ((F46 189 0 rfl).trans ((F45 189 0 rfl).trans ((F44 189 0 rfl).trans ((F43 189 0 rfl).trans ((F42 189 0 rfl).trans ((F41 189 0 rfl).trans ((F40 189 0 rfl).trans ((F39 189 0 rfl).trans ((F38 189 0 rfl).trans ((F37 189 0 rfl).trans ((F36 189 0 rfl).trans ((F35 189 0 rfl).trans ((F34 189 0 rfl).trans ((F33 189 0 rfl).trans ((F32 189 0 rfl).trans ((F31 189 0 rfl).trans ((F30 189 0 rfl).trans ((F29 189 0 rfl).trans ((F28 189 0 rfl).trans (f189_0 (h := h) hT)))))))))))))))))))) ?_
  refine am_e_iastore (q := 1) n97_15 rfl (by decide) (by decide) ?_
  refine am_e_aload_n n97_16 rfl ?_
  refine am_e_getf (v := .ref 190) n97_17 rfl ((F46 164 52 rfl).trans ((F45 164 52 rfl).trans ((F44 164 52 rfl).trans ((F43 164 52 rfl).trans ((F42 164 52 rfl).trans ((F41 164 52 rfl).trans ((F40 164 52 rfl).trans ((F39 164 52 rfl).trans ((F38 164 52 rfl).trans ((F37 164 52 rfl).trans ((F36 164 52 rfl).trans ((F35 164 52 rfl).trans ((F34 164 52 rfl).trans ((F33 164 52 rfl).trans ((F32 164 52 rfl).trans ((F31 164 52 rfl).trans ((F30 164 52 rfl).trans ((F29 164 52 rfl).trans ((F28 164 52 rfl).trans (f164_52 (h := h) hT)))))))))))))))))))) ?_
  refine am_e_iload_n n97_18 rfl ?_
  refine am_e_aload_n n97_19 rfl ?_
  refine am_e_getf (v := .ref 190) n97_20 rfl ((F46 164 52 rfl).trans ((F45 164 52 rfl).trans ((F44 164 52 rfl).trans ((F43 164 52 rfl).trans ((F42 164 52 rfl).trans ((F41 164 52 rfl).trans ((F40 164 52 rfl).trans ((F39 164 52 rfl).trans ((F38 164 52 rfl).trans ((F37 164 52 rfl).trans ((F36 164 52 rfl).trans ((F35 164 52 rfl).trans ((F34 164 52 rfl).trans ((F33 164 52 rfl).trans ((F32 164 52 rfl).trans ((F31 164 52 rfl).trans ((F30 164 52 rfl).trans ((F29 164 52 rfl).trans ((F28 164 52 rfl).trans (f164_52 (h := h) hT)))))))))))))))))))) ?_
  refine am_e_iload_n n97_21 rfl ?_
  refine am_e_iaload (v := (-1)) (q := 0) n97_22 rfl (by decide) (by decide) ((F46 190 0 rfl).trans ((F45 190 0 rfl).trans ((F44 190 0 rfl).trans ((F43 190 0 rfl).trans ((F42 190 0 rfl).trans ((F41 190 0 rfl).trans ((F40 190 0 rfl).trans ((F39 190 0 rfl).trans ((F38 190 0 rfl).trans ((F37 190 0 rfl).trans ((F36 190 0 rfl).trans ((F35 190 0 rfl).trans ((F34 190 0 rfl).trans ((F33 190 0 rfl).trans ((F32 190 0 rfl).trans ((F31 190 0 rfl).trans ((F30 190 0 rfl).trans ((F29 190 0 rfl).trans ((F28 190 0 rfl).trans (f190_0 (h := h) hT)))))))))))))))))))) ?_
  refine am_e_iastore (q := 1) n97_23 rfl (by decide) (by decide) ?_
  refine am_e_aload_n n97_24 rfl ?_
  refine am_e_getf (v := .ref 194) n97_25 rfl ((F46 164 56 rfl).trans ((F45 164 56 rfl).trans ((F44 164 56 rfl).trans ((F43 164 56 rfl).trans ((F42 164 56 rfl).trans ((F41 164 56 rfl).trans ((F40 164 56 rfl).trans ((F39 164 56 rfl).trans ((F38 164 56 rfl).trans ((F37 164 56 rfl).trans ((F36 164 56 rfl).trans ((F35 164 56 rfl).trans ((F34 164 56 rfl).trans ((F33 164 56 rfl).trans ((F32 164 56 rfl).trans ((F31 164 56 rfl).trans ((F30 164 56 rfl).trans ((F29 164 56 rfl).trans ((F28 164 56 rfl).trans (f164_56 (h := h) hT)))))))))))))))))))) ?_
  refine am_e_iload_n n97_26 rfl ?_
  refine am_e_aload_n n97_27 rfl ?_
  refine am_e_getf (v := .ref 194) n97_28 rfl ((F46 164 56 rfl).trans ((F45 164 56 rfl).trans ((F44 164 56 rfl).trans ((F43 164 56 rfl).trans ((F42 164 56 rfl).trans ((F41 164 56 rfl).trans ((F40 164 56 rfl).trans ((F39 164 56 rfl).trans ((F38 164 56 rfl).trans ((F37 164 56 rfl).trans ((F36 164 56 rfl).trans ((F35 164 56 rfl).trans ((F34 164 56 rfl).trans ((F33 164 56 rfl).trans ((F32 164 56 rfl).trans ((F31 164 56 rfl).trans ((F30 164 56 rfl).trans ((F29 164 56 rfl).trans ((F28 164 56 rfl).trans (f164_56 (h := h) hT)))))))))))))))))))) ?_
  refine am_e_iload_n n97_29 rfl ?_
  refine am_e_iaload (v := 0) (q := 0) n97_30 rfl (by decide) (by decide) ((F46 194 0 rfl).trans ((F45 194 0 rfl).trans ((F44 194 0 rfl).trans ((F43 194 0 rfl).trans ((F42 194 0 rfl).trans ((F41 194 0 rfl).trans ((F40 194 0 rfl).trans ((F39 194 0 rfl).trans ((F38 194 0 rfl).trans ((F37 194 0 rfl).trans ((F36 194 0 rfl).trans ((F35 194 0 rfl).trans ((F34 194 0 rfl).trans ((F33 194 0 rfl).trans ((F32 194 0 rfl).trans ((F31 194 0 rfl).trans ((F30 194 0 rfl).trans ((F29 194 0 rfl).trans ((F28 194 0 rfl).trans (f194_0 (h := h) hT)))))))))))))))))))) ?_
  refine am_e_iastore (q := 1) n97_31 rfl (by decide) (by decide) ?_
  refine am_e_iconst (w := 0) n97_32 rfl ?_
  refine am_e_istore_n (ls' := [(3, .int 0), (0, .ref 164), (1, .int 1), (2, .int 0)]) n97_33 rfl rfl ?_
  refine am_e_iload_n n97_34 rfl ?_
  refine am_e_iconst (w := 4) n97_35 rfl ?_
  refine am_e_cmpF n97_36 (am_c_geF (by decide)) ?_
  refine am_e_aload_n n97_37 rfl ?_
  refine am_e_getf (v := .ref 191) n97_38 rfl ((F46 164 53 rfl).trans ((F45 164 53 rfl).trans ((F44 164 53 rfl).trans ((F43 164 53 rfl).trans ((F42 164 53 rfl).trans ((F41 164 53 rfl).trans ((F40 164 53 rfl).trans ((F39 164 53 rfl).trans ((F38 164 53 rfl).trans ((F37 164 53 rfl).trans ((F36 164 53 rfl).trans ((F35 164 53 rfl).trans ((F34 164 53 rfl).trans ((F33 164 53 rfl).trans ((F32 164 53 rfl).trans ((F31 164 53 rfl).trans ((F30 164 53 rfl).trans ((F29 164 53 rfl).trans ((F28 164 53 rfl).trans (f164_53 (h := h) hT)))))))))))))))))))) ?_
  refine am_e_iconst (w := 4) n97_39 rfl ?_
  refine am_e_iload_n n97_40 rfl ?_
  refine am_e_imul (w := 4) n97_41 (by decide) ?_
  refine am_e_iload_n n97_42 rfl ?_
  refine am_e_iadd (w := 4) n97_43 (by decide) ?_
  refine am_e_aload_n n97_44 rfl ?_
  refine am_e_getf (v := .ref 191) n97_45 rfl ((F46 164 53 rfl).trans ((F45 164 53 rfl).trans ((F44 164 53 rfl).trans ((F43 164 53 rfl).trans ((F42 164 53 rfl).trans ((F41 164 53 rfl).trans ((F40 164 53 rfl).trans ((F39 164 53 rfl).trans ((F38 164 53 rfl).trans ((F37 164 53 rfl).trans ((F36 164 53 rfl).trans ((F35 164 53 rfl).trans ((F34 164 53 rfl).trans ((F33 164 53 rfl).trans ((F32 164 53 rfl).trans ((F31 164 53 rfl).trans ((F30 164 53 rfl).trans ((F29 164 53 rfl).trans ((F28 164 53 rfl).trans (f164_53 (h := h) hT)))))))))))))))))))) ?_
  refine am_e_iconst (w := 4) n97_46 rfl ?_
  refine am_e_iload_n n97_47 rfl ?_
  refine am_e_imul (w := 0) n97_48 (by decide) ?_
  refine am_e_iload_n n97_49 rfl ?_
  refine am_e_iadd (w := 0) n97_50 (by decide) ?_
  refine am_e_iaload (v := 0) (q := 0) n97_51 rfl (by decide) (by decide) ((F46 191 0 rfl).trans ((F45 191 0 rfl).trans ((F44 191 0 rfl).trans ((F43 191 0 rfl).trans ((F42 191 0 rfl).trans ((F41 191 0 rfl).trans ((F40 191 0 rfl).trans ((F39 191 0 rfl).trans ((F38 191 0 rfl).trans ((F37 191 0 rfl).trans ((F36 191 0 rfl).trans ((F35 191 0 rfl).trans ((F34 191 0 rfl).trans ((F33 191 0 rfl).trans ((F32 191 0 rfl).trans ((F31 191 0 rfl).trans ((F30 191 0 rfl).trans ((F29 191 0 rfl).trans ((F28 191 0 rfl).trans (f191_0 (h := h) hT)))))))))))))))))))) ?_
  refine am_e_iastore (q := 4) n97_52 rfl (by decide) (by decide) ?_
  refine am_e_aload_n n97_53 rfl ?_
  refine am_e_getf (v := .ref 192) n97_54 rfl ((F46 164 54 rfl).trans ((F45 164 54 rfl).trans ((F44 164 54 rfl).trans ((F43 164 54 rfl).trans ((F42 164 54 rfl).trans ((F41 164 54 rfl).trans ((F40 164 54 rfl).trans ((F39 164 54 rfl).trans ((F38 164 54 rfl).trans ((F37 164 54 rfl).trans ((F36 164 54 rfl).trans ((F35 164 54 rfl).trans ((F34 164 54 rfl).trans ((F33 164 54 rfl).trans ((F32 164 54 rfl).trans ((F31 164 54 rfl).trans ((F30 164 54 rfl).trans ((F29 164 54 rfl).trans ((F28 164 54 rfl).trans (f164_54 (h := h) hT)))))))))))))))))))) ?_
  refine am_e_iconst (w := 4) n97_55 rfl ?_
  refine am_e_iload_n n97_56 rfl ?_
  refine am_e_imul (w := 4) n97_57 (by decide) ?_
  refine am_e_iload_n n97_58 rfl ?_
  refine am_e_iadd (w := 4) n97_59 (by decide) ?_
  refine am_e_aload_n n97_60 rfl ?_
  refine am_e_getf (v := .ref 192) n97_61 rfl ((F46 164 54 rfl).trans ((F45 164 54 rfl).trans ((F44 164 54 rfl).trans ((F43 164 54 rfl).trans ((F42 164 54 rfl).trans ((F41 164 54 rfl).trans ((F40 164 54 rfl).trans ((F39 164 54 rfl).trans ((F38 164 54 rfl).trans ((F37 164 54 rfl).trans ((F36 164 54 rfl).trans ((F35 164 54 rfl).trans ((F34 164 54 rfl).trans ((F33 164 54 rfl).trans ((F32 164 54 rfl).trans ((F31 164 54 rfl).trans ((F30 164 54 rfl).trans ((F29 164 54 rfl).trans ((F28 164 54 rfl).trans (f164_54 (h := h) hT)))))))))))))))))))) ?_
  refine am_e_iconst (w := 4) n97_62 rfl ?_
  refine am_e_iload_n n97_63 rfl ?_
  refine am_e_imul (w := 0) n97_64 (by decide) ?_
  refine am_e_iload_n n97_65 rfl ?_
  refine am_e_iadd (w := 0) n97_66 (by decide) ?_
  refine am_e_iaload (v := 0) (q := 0) n97_67 rfl (by decide) (by decide) ((F46 192 0 rfl).trans ((F45 192 0 rfl).trans ((F44 192 0 rfl).trans ((F43 192 0 rfl).trans ((F42 192 0 rfl).trans ((F41 192 0 rfl).trans ((F40 192 0 rfl).trans ((F39 192 0 rfl).trans ((F38 192 0 rfl).trans ((F37 192 0 rfl).trans ((F36 192 0 rfl).trans ((F35 192 0 rfl).trans ((F34 192 0 rfl).trans ((F33 192 0 rfl).trans ((F32 192 0 rfl).trans ((F31 192 0 rfl).trans ((F30 192 0 rfl).trans ((F29 192 0 rfl).trans ((F28 192 0 rfl).trans (f192_0 (h := h) hT)))))))))))))))))))) ?_
  refine am_e_iastore (q := 4) n97_68 rfl (by decide) (by decide) ?_
  refine am_e_aload_n n97_69 rfl ?_
  refine am_e_getf (v := .ref 193) n97_70 rfl ((F46 164 55 rfl).trans ((F45 164 55 rfl).trans ((F44 164 55 rfl).trans ((F43 164 55 rfl).trans ((F42 164 55 rfl).trans ((F41 164 55 rfl).trans ((F40 164 55 rfl).trans ((F39 164 55 rfl).trans ((F38 164 55 rfl).trans ((F37 164 55 rfl).trans ((F36 164 55 rfl).trans ((F35 164 55 rfl).trans ((F34 164 55 rfl).trans ((F33 164 55 rfl).trans ((F32 164 55 rfl).trans ((F31 164 55 rfl).trans ((F30 164 55 rfl).trans ((F29 164 55 rfl).trans ((F28 164 55 rfl).trans (f164_55 (h := h) hT)))))))))))))))))))) ?_
  refine am_e_iconst (w := 4) n97_71 rfl ?_
  refine am_e_iload_n n97_72 rfl ?_
  refine am_e_imul (w := 4) n97_73 (by decide) ?_
  refine am_e_iload_n n97_74 rfl ?_
  refine am_e_iadd (w := 4) n97_75 (by decide) ?_
  refine am_e_aload_n n97_76 rfl ?_
  refine am_e_getf (v := .ref 193) n97_77 rfl ((F46 164 55 rfl).trans ((F45 164 55 rfl).trans ((F44 164 55 rfl).trans ((F43 164 55 rfl).trans ((F42 164 55 rfl).trans ((F41 164 55 rfl).trans ((F40 164 55 rfl).trans ((F39 164 55 rfl).trans ((F38 164 55 rfl).trans ((F37 164 55 rfl).trans ((F36 164 55 rfl).trans ((F35 164 55 rfl).trans ((F34 164 55 rfl).trans ((F33 164 55 rfl).trans ((F32 164 55 rfl).trans ((F31 164 55 rfl).trans ((F30 164 55 rfl).trans ((F29 164 55 rfl).trans ((F28 164 55 rfl).trans (f164_55 (h := h) hT)))))))))))))))))))) ?_
  refine am_e_iconst (w := 4) n97_78 rfl ?_
  refine am_e_iload_n n97_79 rfl ?_
  refine am_e_imul (w := 0) n97_80 (by decide) ?_
  refine am_e_iload_n n97_81 rfl ?_
  refine am_e_iadd (w := 0) n97_82 (by decide) ?_
  refine am_e_iaload (v := 0) (q := 0) n97_83 rfl (by decide) (by decide) ((F46 193 0 rfl).trans ((F45 193 0 rfl).trans ((F44 193 0 rfl).trans ((F43 193 0 rfl).trans ((F42 193 0 rfl).trans ((F41 193 0 rfl).trans ((F40 193 0 rfl).trans ((F39 193 0 rfl).trans ((F38 193 0 rfl).trans ((F37 193 0 rfl).trans ((F36 193 0 rfl).trans ((F35 193 0 rfl).trans ((F34 193 0 rfl).trans ((F33 193 0 rfl).trans ((F32 193 0 rfl).trans ((F31 193 0 rfl).trans ((F30 193 0 rfl).trans ((F29 193 0 rfl).trans ((F28 193 0 rfl).trans (f193_0 (h := h) hT)))))))))))))))))))) ?_
  refine am_e_iastore (q := 4) n97_84 rfl (by decide) (by decide) ?_
  refine am_e_iinc (w := 1) (ls' := [(3, .int 1), (0, .ref 164), (1, .int 1), (2, .int 0)]) n97_85 rfl rfl (by decide) rfl ?_
  refine am_e_goto c97_86 t97_86 ?_
  refine am_e_iload_n n97_34 rfl ?_
  refine am_e_iconst (w := 4) n97_35 rfl ?_
  refine am_e_cmpF n97_36 (am_c_geF (by decide)) ?_
  refine am_e_aload_n n97_37 rfl ?_
  refine am_e_getf (v := .ref 191) n97_38 rfl ((F46 164 53 rfl).trans ((F45 164 53 rfl).trans ((F44 164 53 rfl).trans ((F43 164 53 rfl).trans ((F42 164 53 rfl).trans ((F41 164 53 rfl).trans ((F40 164 53 rfl).trans ((F39 164 53 rfl).trans ((F38 164 53 rfl).trans ((F37 164 53 rfl).trans ((F36 164 53 rfl).trans ((F35 164 53 rfl).trans ((F34 164 53 rfl).trans ((F33 164 53 rfl).trans ((F32 164 53 rfl).trans ((F31 164 53 rfl).trans ((F30 164 53 rfl).trans ((F29 164 53 rfl).trans ((F28 164 53 rfl).trans (f164_53 (h := h) hT)))))))))))))))))))) ?_
  refine am_e_iconst (w := 4) n97_39 rfl ?_
  refine am_e_iload_n n97_40 rfl ?_
  refine am_e_imul (w := 4) n97_41 (by decide) ?_
  refine am_e_iload_n n97_42 rfl ?_
  refine am_e_iadd (w := 5) n97_43 (by decide) ?_
  refine am_e_aload_n n97_44 rfl ?_
  refine am_e_getf (v := .ref 191) n97_45 rfl ((F46 164 53 rfl).trans ((F45 164 53 rfl).trans ((F44 164 53 rfl).trans ((F43 164 53 rfl).trans ((F42 164 53 rfl).trans ((F41 164 53 rfl).trans ((F40 164 53 rfl).trans ((F39 164 53 rfl).trans ((F38 164 53 rfl).trans ((F37 164 53 rfl).trans ((F36 164 53 rfl).trans ((F35 164 53 rfl).trans ((F34 164 53 rfl).trans ((F33 164 53 rfl).trans ((F32 164 53 rfl).trans ((F31 164 53 rfl).trans ((F30 164 53 rfl).trans ((F29 164 53 rfl).trans ((F28 164 53 rfl).trans (f164_53 (h := h) hT)))))))))))))))))))) ?_
  refine am_e_iconst (w := 4) n97_46 rfl ?_
  refine am_e_iload_n n97_47 rfl ?_
  refine am_e_imul (w := 0) n97_48 (by decide) ?_
  refine am_e_iload_n n97_49 rfl ?_
  refine am_e_iadd (w := 1) n97_50 (by decide) ?_
  refine am_e_iaload (v := 0) (q := 1) n97_51 rfl (by decide) (by decide) ((F46 191 1 rfl).trans ((F45 191 1 rfl).trans ((F44 191 1 rfl).trans ((F43 191 1 rfl).trans ((F42 191 1 rfl).trans ((F41 191 1 rfl).trans ((F40 191 1 rfl).trans ((F39 191 1 rfl).trans ((F38 191 1 rfl).trans ((F37 191 1 rfl).trans ((F36 191 1 rfl).trans ((F35 191 1 rfl).trans ((F34 191 1 rfl).trans ((F33 191 1 rfl).trans ((F32 191 1 rfl).trans ((F31 191 1 rfl).trans ((F30 191 1 rfl).trans ((F29 191 1 rfl).trans ((F28 191 1 rfl).trans (f191_1 (h := h) hT)))))))))))))))))))) ?_
  refine am_e_iastore (q := 5) n97_52 rfl (by decide) (by decide) ?_
  refine am_e_aload_n n97_53 rfl ?_
  refine am_e_getf (v := .ref 192) n97_54 rfl ((F46 164 54 rfl).trans ((F45 164 54 rfl).trans ((F44 164 54 rfl).trans ((F43 164 54 rfl).trans ((F42 164 54 rfl).trans ((F41 164 54 rfl).trans ((F40 164 54 rfl).trans ((F39 164 54 rfl).trans ((F38 164 54 rfl).trans ((F37 164 54 rfl).trans ((F36 164 54 rfl).trans ((F35 164 54 rfl).trans ((F34 164 54 rfl).trans ((F33 164 54 rfl).trans ((F32 164 54 rfl).trans ((F31 164 54 rfl).trans ((F30 164 54 rfl).trans ((F29 164 54 rfl).trans ((F28 164 54 rfl).trans (f164_54 (h := h) hT)))))))))))))))))))) ?_
  refine am_e_iconst (w := 4) n97_55 rfl ?_
  refine am_e_iload_n n97_56 rfl ?_
  refine am_e_imul (w := 4) n97_57 (by decide) ?_
  refine am_e_iload_n n97_58 rfl ?_
  refine am_e_iadd (w := 5) n97_59 (by decide) ?_
  refine am_e_aload_n n97_60 rfl ?_
  refine am_e_getf (v := .ref 192) n97_61 rfl ((F46 164 54 rfl).trans ((F45 164 54 rfl).trans ((F44 164 54 rfl).trans ((F43 164 54 rfl).trans ((F42 164 54 rfl).trans ((F41 164 54 rfl).trans ((F40 164 54 rfl).trans ((F39 164 54 rfl).trans ((F38 164 54 rfl).trans ((F37 164 54 rfl).trans ((F36 164 54 rfl).trans ((F35 164 54 rfl).trans ((F34 164 54 rfl).trans ((F33 164 54 rfl).trans ((F32 164 54 rfl).trans ((F31 164 54 rfl).trans ((F30 164 54 rfl).trans ((F29 164 54 rfl).trans ((F28 164 54 rfl).trans (f164_54 (h := h) hT)))))))))))))))))))) ?_
  refine am_e_iconst (w := 4) n97_62 rfl ?_
  refine am_e_iload_n n97_63 rfl ?_
  refine am_e_imul (w := 0) n97_64 (by decide) ?_
  refine am_e_iload_n n97_65 rfl ?_
  refine am_e_iadd (w := 1) n97_66 (by decide) ?_
  refine am_e_iaload (v := 0) (q := 1) n97_67 rfl (by decide) (by decide) ((F46 192 1 rfl).trans ((F45 192 1 rfl).trans ((F44 192 1 rfl).trans ((F43 192 1 rfl).trans ((F42 192 1 rfl).trans ((F41 192 1 rfl).trans ((F40 192 1 rfl).trans ((F39 192 1 rfl).trans ((F38 192 1 rfl).trans ((F37 192 1 rfl).trans ((F36 192 1 rfl).trans ((F35 192 1 rfl).trans ((F34 192 1 rfl).trans ((F33 192 1 rfl).trans ((F32 192 1 rfl).trans ((F31 192 1 rfl).trans ((F30 192 1 rfl).trans ((F29 192 1 rfl).trans ((F28 192 1 rfl).trans (f192_1 (h := h) hT)))))))))))))))))))) ?_
  refine am_e_iastore (q := 5) n97_68 rfl (by decide) (by decide) ?_
  refine am_e_aload_n n97_69 rfl ?_
  refine am_e_getf (v := .ref 193) n97_70 rfl ((F46 164 55 rfl).trans ((F45 164 55 rfl).trans ((F44 164 55 rfl).trans ((F43 164 55 rfl).trans ((F42 164 55 rfl).trans ((F41 164 55 rfl).trans ((F40 164 55 rfl).trans ((F39 164 55 rfl).trans ((F38 164 55 rfl).trans ((F37 164 55 rfl).trans ((F36 164 55 rfl).trans ((F35 164 55 rfl).trans ((F34 164 55 rfl).trans ((F33 164 55 rfl).trans ((F32 164 55 rfl).trans ((F31 164 55 rfl).trans ((F30 164 55 rfl).trans ((F29 164 55 rfl).trans ((F28 164 55 rfl).trans (f164_55 (h := h) hT)))))))))))))))))))) ?_
  refine am_e_iconst (w := 4) n97_71 rfl ?_
  refine am_e_iload_n n97_72 rfl ?_
  refine am_e_imul (w := 4) n97_73 (by decide) ?_
  refine am_e_iload_n n97_74 rfl ?_
  refine am_e_iadd (w := 5) n97_75 (by decide) ?_
  refine am_e_aload_n n97_76 rfl ?_
  refine am_e_getf (v := .ref 193) n97_77 rfl ((F46 164 55 rfl).trans ((F45 164 55 rfl).trans ((F44 164 55 rfl).trans ((F43 164 55 rfl).trans ((F42 164 55 rfl).trans ((F41 164 55 rfl).trans ((F40 164 55 rfl).trans ((F39 164 55 rfl).trans ((F38 164 55 rfl).trans ((F37 164 55 rfl).trans ((F36 164 55 rfl).trans ((F35 164 55 rfl).trans ((F34 164 55 rfl).trans ((F33 164 55 rfl).trans ((F32 164 55 rfl).trans ((F31 164 55 rfl).trans ((F30 164 55 rfl).trans ((F29 164 55 rfl).trans ((F28 164 55 rfl).trans (f164_55 (h := h) hT)))))))))))))))))))) ?_
  refine am_e_iconst (w := 4) n97_78 rfl ?_
  refine am_e_iload_n n97_79 rfl ?_
  refine am_e_imul (w := 0) n97_80 (by decide) ?_
  refine am_e_iload_n n97_81 rfl ?_
  refine am_e_iadd (w := 1) n97_82 (by decide) ?_
  refine am_e_iaload (v := 0) (q := 1) n97_83 rfl (by decide) (by decide) ((F46 193 1 rfl).trans ((F45 193 1 rfl).trans ((F44 193 1 rfl).trans ((F43 193 1 rfl).trans ((F42 193 1 rfl).trans ((F41 193 1 rfl).trans ((F40 193 1 rfl).trans ((F39 193 1 rfl).trans ((F38 193 1 rfl).trans ((F37 193 1 rfl).trans ((F36 193 1 rfl).trans ((F35 193 1 rfl).trans ((F34 193 1 rfl).trans ((F33 193 1 rfl).trans ((F32 193 1 rfl).trans ((F31 193 1 rfl).trans ((F30 193 1 rfl).trans ((F29 193 1 rfl).trans ((F28 193 1 rfl).trans (f193_1 (h := h) hT)))))))))))))))))))) ?_
  refine am_e_iastore (q := 5) n97_84 rfl (by decide) (by decide) ?_
  refine am_e_iinc (w := 2) (ls' := [(3, .int 2), (0, .ref 164), (1, .int 1), (2, .int 0)]) n97_85 rfl rfl (by decide) rfl ?_
  refine am_e_goto c97_86 t97_86 ?_
  refine am_e_iload_n n97_34 rfl ?_
  refine am_e_iconst (w := 4) n97_35 rfl ?_
  refine am_e_cmpF n97_36 (am_c_geF (by decide)) ?_
  refine am_e_aload_n n97_37 rfl ?_
  refine am_e_getf (v := .ref 191) n97_38 rfl ((F46 164 53 rfl).trans ((F45 164 53 rfl).trans ((F44 164 53 rfl).trans ((F43 164 53 rfl).trans ((F42 164 53 rfl).trans ((F41 164 53 rfl).trans ((F40 164 53 rfl).trans ((F39 164 53 rfl).trans ((F38 164 53 rfl).trans ((F37 164 53 rfl).trans ((F36 164 53 rfl).trans ((F35 164 53 rfl).trans ((F34 164 53 rfl).trans ((F33 164 53 rfl).trans ((F32 164 53 rfl).trans ((F31 164 53 rfl).trans ((F30 164 53 rfl).trans ((F29 164 53 rfl).trans ((F28 164 53 rfl).trans (f164_53 (h := h) hT)))))))))))))))))))) ?_
  refine am_e_iconst (w := 4) n97_39 rfl ?_
  refine am_e_iload_n n97_40 rfl ?_
  refine am_e_imul (w := 4) n97_41 (by decide) ?_
  refine am_e_iload_n n97_42 rfl ?_
  refine am_e_iadd (w := 6) n97_43 (by decide) ?_
  refine am_e_aload_n n97_44 rfl ?_
  refine am_e_getf (v := .ref 191) n97_45 rfl ((F46 164 53 rfl).trans ((F45 164 53 rfl).trans ((F44 164 53 rfl).trans ((F43 164 53 rfl).trans ((F42 164 53 rfl).trans ((F41 164 53 rfl).trans ((F40 164 53 rfl).trans ((F39 164 53 rfl).trans ((F38 164 53 rfl).trans ((F37 164 53 rfl).trans ((F36 164 53 rfl).trans ((F35 164 53 rfl).trans ((F34 164 53 rfl).trans ((F33 164 53 rfl).trans ((F32 164 53 rfl).trans ((F31 164 53 rfl).trans ((F30 164 53 rfl).trans ((F29 164 53 rfl).trans ((F28 164 53 rfl).trans (f164_53 (h := h) hT)))))))))))))))))))) ?_
  refine am_e_iconst (w := 4) n97_46 rfl ?_
  refine am_e_iload_n n97_47 rfl ?_
  refine am_e_imul (w := 0) n97_48 (by decide) ?_
  refine am_e_iload_n n97_49 rfl ?_
  refine am_e_iadd (w := 2) n97_50 (by decide) ?_
  refine am_e_iaload (v := 0) (q := 2) n97_51 rfl (by decide) (by decide) ((F46 191 2 rfl).trans ((F45 191 2 rfl).trans ((F44 191 2 rfl).trans ((F43 191 2 rfl).trans ((F42 191 2 rfl).trans ((F41 191 2 rfl).trans ((F40 191 2 rfl).trans ((F39 191 2 rfl).trans ((F38 191 2 rfl).trans ((F37 191 2 rfl).trans ((F36 191 2 rfl).trans ((F35 191 2 rfl).trans ((F34 191 2 rfl).trans ((F33 191 2 rfl).trans ((F32 191 2 rfl).trans ((F31 191 2 rfl).trans ((F30 191 2 rfl).trans ((F29 191 2 rfl).trans ((F28 191 2 rfl).trans (f191_2 (h := h) hT)))))))))))))))))))) ?_
  refine am_e_iastore (q := 6) n97_52 rfl (by decide) (by decide) ?_
  refine am_e_aload_n n97_53 rfl ?_
  refine am_e_getf (v := .ref 192) n97_54 rfl ((F46 164 54 rfl).trans ((F45 164 54 rfl).trans ((F44 164 54 rfl).trans ((F43 164 54 rfl).trans ((F42 164 54 rfl).trans ((F41 164 54 rfl).trans ((F40 164 54 rfl).trans ((F39 164 54 rfl).trans ((F38 164 54 rfl).trans ((F37 164 54 rfl).trans ((F36 164 54 rfl).trans ((F35 164 54 rfl).trans ((F34 164 54 rfl).trans ((F33 164 54 rfl).trans ((F32 164 54 rfl).trans ((F31 164 54 rfl).trans ((F30 164 54 rfl).trans ((F29 164 54 rfl).trans ((F28 164 54 rfl).trans (f164_54 (h := h) hT)))))))))))))))))))) ?_
  refine am_e_iconst (w := 4) n97_55 rfl ?_
  refine am_e_iload_n n97_56 rfl ?_
  refine am_e_imul (w := 4) n97_57 (by decide) ?_
  refine am_e_iload_n n97_58 rfl ?_
  refine am_e_iadd (w := 6) n97_59 (by decide) ?_
  refine am_e_aload_n n97_60 rfl ?_
  refine am_e_getf (v := .ref 192) n97_61 rfl ((F46 164 54 rfl).trans ((F45 164 54 rfl).trans ((F44 164 54 rfl).trans ((F43 164 54 rfl).trans ((F42 164 54 rfl).trans ((F41 164 54 rfl).trans ((F40 164 54 rfl).trans ((F39 164 54 rfl).trans ((F38 164 54 rfl).trans ((F37 164 54 rfl).trans ((F36 164 54 rfl).trans ((F35 164 54 rfl).trans ((F34 164 54 rfl).trans ((F33 164 54 rfl).trans ((F32 164 54 rfl).trans ((F31 164 54 rfl).trans ((F30 164 54 rfl).trans ((F29 164 54 rfl).trans ((F28 164 54 rfl).trans (f164_54 (h := h) hT)))))))))))))))))))) ?_
  refine am_e_iconst (w := 4) n97_62 rfl ?_
  refine am_e_iload_n n97_63 rfl ?_
  refine am_e_imul (w := 0) n97_64 (by decide) ?_
  refine am_e_iload_n n97_65 rfl ?_
  refine am_e_iadd (w := 2) n97_66 (by decide) ?_
  refine am_e_iaload (v := 0) (q := 2) n97_67 rfl (by decide) (by decide) ((F46 192 2 rfl).trans ((F45 192 2 rfl).trans ((F44 192 2 rfl).trans ((F43 192 2 rfl).trans ((F42 192 2 rfl).trans ((F41 192 2 rfl).trans ((F40 192 2 rfl).trans ((F39 192 2 rfl).trans ((F38 192 2 rfl).trans ((F37 192 2 rfl).trans ((F36 192 2 rfl).trans ((F35 192 2 rfl).trans ((F34 192 2 rfl).trans ((F33 192 2 rfl).trans ((F32 192 2 rfl).trans ((F31 192 2 rfl).trans ((F30 192 2 rfl).trans ((F29 192 2 rfl).trans ((F28 192 2 rfl).trans (f192_2 (h := h) hT)))))))))))))))))))) ?_
  refine am_e_iastore (q := 6) n97_68 rfl (by decide) (by decide) ?_
  refine am_e_aload_n n97_69 rfl ?_
  refine am_e_getf (v := .ref 193) n97_70 rfl ((F46 164 55 rfl).trans ((F45 164 55 rfl).trans ((F44 164 55 rfl).trans ((F43 164 55 rfl).trans ((F42 164 55 rfl).trans ((F41 164 55 rfl).trans ((F40 164 55 rfl).trans ((F39 164 55 rfl).trans ((F38 164 55 rfl).trans ((F37 164 55 rfl).trans ((F36 164 55 rfl).trans ((F35 164 55 rfl).trans ((F34 164 55 rfl).trans ((F33 164 55 rfl).trans ((F32 164 55 rfl).trans ((F31 164 55 rfl).trans ((F30 164 55 rfl).trans ((F29 164 55 rfl).trans ((F28 164 55 rfl).trans (f164_55 (h := h) hT)))))))))))))))))))) ?_
  refine am_e_iconst (w := 4) n97_71 rfl ?_
  refine am_e_iload_n n97_72 rfl ?_
  refine am_e_imul (w := 4) n97_73 (by decide) ?_
  refine am_e_iload_n n97_74 rfl ?_
  refine am_e_iadd (w := 6) n97_75 (by decide) ?_
  refine am_e_aload_n n97_76 rfl ?_
  refine am_e_getf (v := .ref 193) n97_77 rfl ((F46 164 55 rfl).trans ((F45 164 55 rfl).trans ((F44 164 55 rfl).trans ((F43 164 55 rfl).trans ((F42 164 55 rfl).trans ((F41 164 55 rfl).trans ((F40 164 55 rfl).trans ((F39 164 55 rfl).trans ((F38 164 55 rfl).trans ((F37 164 55 rfl).trans ((F36 164 55 rfl).trans ((F35 164 55 rfl).trans ((F34 164 55 rfl).trans ((F33 164 55 rfl).trans ((F32 164 55 rfl).trans ((F31 164 55 rfl).trans ((F30 164 55 rfl).trans ((F29 164 55 rfl).trans ((F28 164 55 rfl).trans (f164_55 (h := h) hT)))))))))))))))))))) ?_
  refine am_e_iconst (w := 4) n97_78 rfl ?_
  refine am_e_iload_n n97_79 rfl ?_
  refine am_e_imul (w := 0) n97_80 (by decide) ?_
  refine am_e_iload_n n97_81 rfl ?_
  refine am_e_iadd (w := 2) n97_82 (by decide) ?_
  refine am_e_iaload (v := 0) (q := 2) n97_83 rfl (by decide) (by decide) ((F46 193 2 rfl).trans ((F45 193 2 rfl).trans ((F44 193 2 rfl).trans ((F43 193 2 rfl).trans ((F42 193 2 rfl).trans ((F41 193 2 rfl).trans ((F40 193 2 rfl).trans ((F39 193 2 rfl).trans ((F38 193 2 rfl).trans ((F37 193 2 rfl).trans ((F36 193 2 rfl).trans ((F35 193 2 rfl).trans ((F34 193 2 rfl).trans ((F33 193 2 rfl).trans ((F32 193 2 rfl).trans ((F31 193 2 rfl).trans ((F30 193 2 rfl).trans ((F29 193 2 rfl).trans ((F28 193 2 rfl).trans (f193_2 (h := h) hT)))))))))))))))))))) ?_
  refine am_e_iastore (q := 6) n97_84 rfl (by decide) (by decide) ?_
  refine am_e_iinc (w := 3) (ls' := [(3, .int 3), (0, .ref 164), (1, .int 1), (2, .int 0)]) n97_85 rfl rfl (by decide) rfl ?_
  refine am_e_goto c97_86 t97_86 ?_
  refine am_e_iload_n n97_34 rfl ?_
  refine am_e_iconst (w := 4) n97_35 rfl ?_
  refine am_e_cmpF n97_36 (am_c_geF (by decide)) ?_
  refine am_e_aload_n n97_37 rfl ?_
  refine am_e_getf (v := .ref 191) n97_38 rfl ((F46 164 53 rfl).trans ((F45 164 53 rfl).trans ((F44 164 53 rfl).trans ((F43 164 53 rfl).trans ((F42 164 53 rfl).trans ((F41 164 53 rfl).trans ((F40 164 53 rfl).trans ((F39 164 53 rfl).trans ((F38 164 53 rfl).trans ((F37 164 53 rfl).trans ((F36 164 53 rfl).trans ((F35 164 53 rfl).trans ((F34 164 53 rfl).trans ((F33 164 53 rfl).trans ((F32 164 53 rfl).trans ((F31 164 53 rfl).trans ((F30 164 53 rfl).trans ((F29 164 53 rfl).trans ((F28 164 53 rfl).trans (f164_53 (h := h) hT)))))))))))))))))))) ?_
  refine am_e_iconst (w := 4) n97_39 rfl ?_
  refine am_e_iload_n n97_40 rfl ?_
  refine am_e_imul (w := 4) n97_41 (by decide) ?_
  refine am_e_iload_n n97_42 rfl ?_
  refine am_e_iadd (w := 7) n97_43 (by decide) ?_
  refine am_e_aload_n n97_44 rfl ?_
  refine am_e_getf (v := .ref 191) n97_45 rfl ((F46 164 53 rfl).trans ((F45 164 53 rfl).trans ((F44 164 53 rfl).trans ((F43 164 53 rfl).trans ((F42 164 53 rfl).trans ((F41 164 53 rfl).trans ((F40 164 53 rfl).trans ((F39 164 53 rfl).trans ((F38 164 53 rfl).trans ((F37 164 53 rfl).trans ((F36 164 53 rfl).trans ((F35 164 53 rfl).trans ((F34 164 53 rfl).trans ((F33 164 53 rfl).trans ((F32 164 53 rfl).trans ((F31 164 53 rfl).trans ((F30 164 53 rfl).trans ((F29 164 53 rfl).trans ((F28 164 53 rfl).trans (f164_53 (h := h) hT)))))))))))))))))))) ?_
  refine am_e_iconst (w := 4) n97_46 rfl ?_
  refine am_e_iload_n n97_47 rfl ?_
  refine am_e_imul (w := 0) n97_48 (by decide) ?_
  refine am_e_iload_n n97_49 rfl ?_
  refine am_e_iadd (w := 3) n97_50 (by decide) ?_
  refine am_e_iaload (v := 0) (q := 3) n97_51 rfl (by decide) (by decide) ((F46 191 3 rfl).trans ((F45 191 3 rfl).trans ((F44 191 3 rfl).trans ((F43 191 3 rfl).trans ((F42 191 3 rfl).trans ((F41 191 3 rfl).trans ((F40 191 3 rfl).trans ((F39 191 3 rfl).trans ((F38 191 3 rfl).trans ((F37 191 3 rfl).trans ((F36 191 3 rfl).trans ((F35 191 3 rfl).trans ((F34 191 3 rfl).trans ((F33 191 3 rfl).trans ((F32 191 3 rfl).trans ((F31 191 3 rfl).trans ((F30 191 3 rfl).trans ((F29 191 3 rfl).trans ((F28 191 3 rfl).trans (f191_3 (h := h) hT)))))))))))))))))))) ?_
  refine am_e_iastore (q := 7) n97_52 rfl (by decide) (by decide) ?_
  refine am_e_aload_n n97_53 rfl ?_
  refine am_e_getf (v := .ref 192) n97_54 rfl ((F46 164 54 rfl).trans ((F45 164 54 rfl).trans ((F44 164 54 rfl).trans ((F43 164 54 rfl).trans ((F42 164 54 rfl).trans ((F41 164 54 rfl).trans ((F40 164 54 rfl).trans ((F39 164 54 rfl).trans ((F38 164 54 rfl).trans ((F37 164 54 rfl).trans ((F36 164 54 rfl).trans ((F35 164 54 rfl).trans ((F34 164 54 rfl).trans ((F33 164 54 rfl).trans ((F32 164 54 rfl).trans ((F31 164 54 rfl).trans ((F30 164 54 rfl).trans ((F29 164 54 rfl).trans ((F28 164 54 rfl).trans (f164_54 (h := h) hT)))))))))))))))))))) ?_
  refine am_e_iconst (w := 4) n97_55 rfl ?_
  refine am_e_iload_n n97_56 rfl ?_
  refine am_e_imul (w := 4) n97_57 (by decide) ?_
  refine am_e_iload_n n97_58 rfl ?_
  refine am_e_iadd (w := 7) n97_59 (by decide) ?_
  refine am_e_aload_n n97_60 rfl ?_
  refine am_e_getf (v := .ref 192) n97_61 rfl ((F46 164 54 rfl).trans ((F45 164 54 rfl).trans ((F44 164 54 rfl).trans ((F43 164 54 rfl).trans ((F42 164 54 rfl).trans ((F41 164 54 rfl).trans ((F40 164 54 rfl).trans ((F39 164 54 rfl).trans ((F38 164 54 rfl).trans ((F37 164 54 rfl).trans ((F36 164 54 rfl).trans ((F35 164 54 rfl).trans ((F34 164 54 rfl).trans ((F33 164 54 rfl).trans ((F32 164 54 rfl).trans ((F31 164 54 rfl).trans ((F30 164 54 rfl).trans ((F29 164 54 rfl).trans ((F28 164 54 rfl).trans (f164_54 (h := h) hT)))))))))))))))))))) ?_
  refine am_e_iconst (w := 4) n97_62 rfl ?_
  refine am_e_iload_n n97_63 rfl ?_
  refine am_e_imul (w := 0) n97_64 (by decide) ?_
  refine am_e_iload_n n97_65 rfl ?_
  refine am_e_iadd (w := 3) n97_66 (by decide) ?_
  refine am_e_iaload (v := 0) (q := 3) n97_67 rfl (by decide) (by decide) ((F46 192 3 rfl).trans ((F45 192 3 rfl).trans ((F44 192 3 rfl).trans ((F43 192 3 rfl).trans ((F42 192 3 rfl).trans ((F41 192 3 rfl).trans ((F40 192 3 rfl).trans ((F39 192 3 rfl).trans ((F38 192 3 rfl).trans ((F37 192 3 rfl).trans ((F36 192 3 rfl).trans ((F35 192 3 rfl).trans ((F34 192 3 rfl).trans ((F33 192 3 rfl).trans ((F32 192 3 rfl).trans ((F31 192 3 rfl).trans ((F30 192 3 rfl).trans ((F29 192 3 rfl).trans ((F28 192 3 rfl).trans (f192_3 (h := h) hT)))))))))))))))))))) ?_
  refine am_e_iastore (q := 7) n97_68 rfl (by decide) (by decide) ?_
  refine am_e_aload_n n97_69 rfl ?_
  refine am_e_getf (v := .ref 193) n97_70 rfl ((F46 164 55 rfl).trans ((F45 164 55 rfl).trans ((F44 164 55 rfl).trans ((F43 164 55 rfl).trans ((F42 164 55 rfl).trans ((F41 164 55 rfl).trans ((F40 164 55 rfl).trans ((F39 164 55 rfl).trans ((F38 164 55 rfl).trans ((F37 164 55 rfl).trans ((F36 164 55 rfl).trans ((F35 164 55 rfl).trans ((F34 164 55 rfl).trans ((F33 164 55 rfl).trans ((F32 164 55 rfl).trans ((F31 164 55 rfl).trans ((F30 164 55 rfl).trans ((F29 164 55 rfl).trans ((F28 164 55 rfl).trans (f164_55 (h := h) hT)))))))))))))))))))) ?_
  refine am_e_iconst (w := 4) n97_71 rfl ?_
  refine am_e_iload_n n97_72 rfl ?_
  refine am_e_imul (w := 4) n97_73 (by decide) ?_
  refine am_e_iload_n n97_74 rfl ?_
  refine am_e_iadd (w := 7) n97_75 (by decide) ?_
  refine am_e_aload_n n97_76 rfl ?_
  refine am_e_getf (v := .ref 193) n97_77 rfl ((F46 164 55 rfl).trans ((F45 164 55 rfl).trans ((F44 164 55 rfl).trans ((F43 164 55 rfl).trans ((F42 164 55 rfl).trans ((F41 164 55 rfl).trans ((F40 164 55 rfl).trans ((F39 164 55 rfl).trans ((F38 164 55 rfl).trans ((F37 164 55 rfl).trans ((F36 164 55 rfl).trans ((F35 164 55 rfl).trans ((F34 164 55 rfl).trans ((F33 164 55 rfl).trans ((F32 164 55 rfl).trans ((F31 164 55 rfl).trans ((F30 164 55 rfl).trans ((F29 164 55 rfl).trans ((F28 164 55 rfl).trans (f164_55 (h := h) hT)))))))))))))))))))) ?_
  refine am_e_iconst (w := 4) n97_78 rfl ?_
  refine am_e_iload_n n97_79 rfl ?_
  refine am_e_imul (w := 0) n97_80 (by decide) ?_
  refine am_e_iload_n n97_81 rfl ?_
  refine am_e_iadd (w := 3) n97_82 (by decide) ?_
  refine am_e_iaload (v := 0) (q := 3) n97_83 rfl (by decide) (by decide) ((F46 193 3 rfl).trans ((F45 193 3 rfl).trans ((F44 193 3 rfl).trans ((F43 193 3 rfl).trans ((F42 193 3 rfl).trans ((F41 193 3 rfl).trans ((F40 193 3 rfl).trans ((F39 193 3 rfl).trans ((F38 193 3 rfl).trans ((F37 193 3 rfl).trans ((F36 193 3 rfl).trans ((F35 193 3 rfl).trans ((F34 193 3 rfl).trans ((F33 193 3 rfl).trans ((F32 193 3 rfl).trans ((F31 193 3 rfl).trans ((F30 193 3 rfl).trans ((F29 193 3 rfl).trans ((F28 193 3 rfl).trans (f193_3 (h := h) hT)))))))))))))))))))) ?_
  refine am_e_iastore (q := 7) n97_84 rfl (by decide) (by decide) ?_
  refine am_e_iinc (w := 4) (ls' := [(3, .int 4), (0, .ref 164), (1, .int 1), (2, .int 0)]) n97_85 rfl rfl (by decide) rfl ?_
  refine am_e_goto c97_86 t97_86 ?_
  refine am_e_iload_n n97_34 rfl ?_
  refine am_e_iconst (w := 4) n97_35 rfl ?_
  refine am_e_cmpT n97_36 (am_c_geT (by decide)) t97_36 ?_
  refine am_e_vret c97_87 rfl rfl ?_
  refine am_e_iconst (w := 0) n127_35 rfl ?_
  refine am_e_istore (ls' := [(8, .int 0), (7, .int 9), (6, .int 9), (0, .ref 164), (2, .int (nI n)), (3, .int (nI 0)), (4, .long 0)]) n127_36 rfl rfl ?_
  refine am_Ek_ls (ls' := [(0, .ref 164), (2, .int (nI n)), (3, .int (nI 0)), (4, .long 0), (6, .int 9), (7, .int 9), (8, .int (nI 0))]) ⟨rfl, rfl, rfl, rfl, rfl, rfl, rfl, trivial⟩ ?_
  refine am_cm_e (n := n) (b := 0) (s := 0) (t := 9) (i7 := 9) (dr := dr46) (by omega) (by omega) ⟨((F46 164 23 rfl).trans ((F45 164 23 rfl).trans ((F44 164 23 rfl).trans ((F43 164 23 rfl).trans ((F42 164 23 rfl).trans ((F41 164 23 rfl).trans ((F40 164 23 rfl).trans ((F39 164 23 rfl).trans ((F38 164 23 rfl).trans ((F37 164 23 rfl).trans ((F36 164 23 rfl).trans ((F35 164 23 rfl).trans ((F34 164 23 rfl).trans ((F33 164 23 rfl).trans ((F32 164 23 rfl).trans ((F31 164 23 rfl).trans ((F30 164 23 rfl).trans ((F29 164 23 rfl).trans ((F28 164 23 rfl).trans (f164_23 (h := h) hT)))))))))))))))))))), ((F46 168 4 rfl).trans ((F45 168 4 rfl).trans ((F44 168 4 rfl).trans ((F43 168 4 rfl).trans ((F42 168 4 rfl).trans ((F41 168 4 rfl).trans ((F40 168 4 rfl).trans ((F39 168 4 rfl).trans ((F38 168 4 rfl).trans ((F37 168 4 rfl).trans ((F36 168 4 rfl).trans ((F35 168 4 rfl).trans ((F34 168 4 rfl).trans ((F33 168 4 rfl).trans ((F32 168 4 rfl).trans ((F31 168 4 rfl).trans ((F30 168 4 rfl).trans ((F29 168 4 rfl).trans ((F28 168 4 rfl).trans (f168_4 (h := h) hT)))))))))))))))))))), ((F46 164 50 rfl).trans ((F45 164 50 rfl).trans ((F44 164 50 rfl).trans ((F43 164 50 rfl).trans ((F42 164 50 rfl).trans ((F41 164 50 rfl).trans ((F40 164 50 rfl).trans ((F39 164 50 rfl).trans ((F38 164 50 rfl).trans ((F37 164 50 rfl).trans ((F36 164 50 rfl).trans ((F35 164 50 rfl).trans ((F34 164 50 rfl).trans ((F33 164 50 rfl).trans ((F32 164 50 rfl).trans ((F31 164 50 rfl).trans ((F30 164 50 rfl).trans ((F29 164 50 rfl).trans ((F28 164 50 rfl).trans (f164_50 (h := h) hT)))))))))))))))))))), ((F46 164 61 rfl).trans ((F45 164 61 rfl).trans ((F44 164 61 rfl).trans ((F43 164 61 rfl).trans ((F42 164 61 rfl).trans ((F41 164 61 rfl).trans ((F40 164 61 rfl).trans ((F39 164 61 rfl).trans ((F38 164 61 rfl).trans ((F37 164 61 rfl).trans ((F36 164 61 rfl).trans ((F35 164 61 rfl).trans ((F34 164 61 rfl).trans ((F33 164 61 rfl).trans ((F32 164 61 rfl).trans ((F31 164 61 rfl).trans ((F30 164 61 rfl).trans ((F29 164 61 rfl).trans ((F28 164 61 rfl).trans (f164_61 (h := h) hT)))))))))))))))))))), ((F46 164 47 rfl).trans ((F45 164 47 rfl).trans ((F44 164 47 rfl).trans ((F43 164 47 rfl).trans ((F42 164 47 rfl).trans ((F41 164 47 rfl).trans ((F40 164 47 rfl).trans ((F39 164 47 rfl).trans ((F38 164 47 rfl).trans ((F37 164 47 rfl).trans ((F36 164 47 rfl).trans ((F35 164 47 rfl).trans ((F34 164 47 rfl).trans ((F33 164 47 rfl).trans ((F32 164 47 rfl).trans ((F31 164 47 rfl).trans ((F30 164 47 rfl).trans ((F29 164 47 rfl).trans ((F28 164 47 rfl).trans (f164_47 (h := h) hT)))))))))))))))))))), ((F46 168 0 rfl).trans ((F45 168 0 rfl).trans ((F44 168 0 rfl).trans ((F43 168 0 rfl).trans ((F42 168 0 rfl).trans ((F41 168 0 rfl).trans ((F40 168 0 rfl).trans ((F39 168 0 rfl).trans ((F38 168 0 rfl).trans ((F37 168 0 rfl).trans ((F36 168 0 rfl).trans ((F35 168 0 rfl).trans ((F34 168 0 rfl).trans ((F33 168 0 rfl).trans ((F32 168 0 rfl).trans ((F31 168 0 rfl).trans ((F30 168 0 rfl).trans ((F29 168 0 rfl).trans ((F28 168 0 rfl).trans (f168_0 (h := h) hT)))))))))))))))))))), ((F46 164 51 rfl).trans ((F45 164 51 rfl).trans ((F44 164 51 rfl).trans ((F43 164 51 rfl).trans ((F42 164 51 rfl).trans ((F41 164 51 rfl).trans ((F40 164 51 rfl).trans ((F39 164 51 rfl).trans ((F38 164 51 rfl).trans ((F37 164 51 rfl).trans ((F36 164 51 rfl).trans ((F35 164 51 rfl).trans ((F34 164 51 rfl).trans ((F33 164 51 rfl).trans ((F32 164 51 rfl).trans ((F31 164 51 rfl).trans ((F30 164 51 rfl).trans ((F29 164 51 rfl).trans ((F28 164 51 rfl).trans (f164_51 (h := h) hT)))))))))))))))))))), ((F46 164 33 rfl).trans ((F45 164 33 rfl).trans ((F44 164 33 rfl).trans ((F43 164 33 rfl).trans ((F42 164 33 rfl).trans ((F41 164 33 rfl).trans ((F40 164 33 rfl).trans ((F39 164 33 rfl).trans ((F38 164 33 rfl).trans ((F37 164 33 rfl).trans ((F36 164 33 rfl).trans ((F35 164 33 rfl).trans ((F34 164 33 rfl).trans ((F33 164 33 rfl).trans ((F32 164 33 rfl).trans ((F31 164 33 rfl).trans ((F30 164 33 rfl).trans ((F29 164 33 rfl).trans ((F28 164 33 rfl).trans (f164_33 (h := h) hT)))))))))))))))))))), ((F46 178 2 rfl).trans ((F45 178 2 rfl).trans ((F44 178 2 rfl).trans ((F43 178 2 rfl).trans ((F42 178 2 rfl).trans ((F41 178 2 rfl).trans ((F40 178 2 rfl).trans ((F39 178 2 rfl).trans ((F38 178 2 rfl).trans ((F37 178 2 rfl).trans ((F36 178 2 rfl).trans ((F35 178 2 rfl).trans ((F34 178 2 rfl).trans ((F33 178 2 rfl).trans ((F32 178 2 rfl).trans ((F31 178 2 rfl).trans ((F30 178 2 rfl).trans ((F29 178 2 rfl).trans ((F28 178 2 rfl).trans (f178_2 (h := h) hT)))))))))))))))))))), ((F46 178 0 rfl).trans ((F45 178 0 rfl).trans ((F44 178 0 rfl).trans ((F43 178 0 rfl).trans ((F42 178 0 rfl).trans ((F41 178 0 rfl).trans ((F40 178 0 rfl).trans ((F39 178 0 rfl).trans ((F38 178 0 rfl).trans ((F37 178 0 rfl).trans ((F36 178 0 rfl).trans ((F35 178 0 rfl).trans ((F34 178 0 rfl).trans ((F33 178 0 rfl).trans ((F32 178 0 rfl).trans ((F31 178 0 rfl).trans ((F30 178 0 rfl).trans ((F29 178 0 rfl).trans ((F28 178 0 rfl).trans (f178_0 (h := h) hT)))))))))))))))))))), ((F46 164 62 rfl).trans ((F45 164 62 rfl).trans ((F44 164 62 rfl).trans ((F43 164 62 rfl).trans ((F42 164 62 rfl).trans ((F41 164 62 rfl).trans ((F40 164 62 rfl).trans ((F39 164 62 rfl).trans ((F38 164 62 rfl).trans ((F37 164 62 rfl).trans ((F36 164 62 rfl).trans ((F35 164 62 rfl).trans ((F34 164 62 rfl).trans ((F33 164 62 rfl).trans ((F32 164 62 rfl).trans ((F31 164 62 rfl).trans ((F30 164 62 rfl).trans ((F29 164 62 rfl).trans ((F28 164 62 rfl).trans (f164_62 (h := h) hT)))))))))))))))))))), ((F46 164 58 rfl).trans ((F45 164 58 rfl).trans ((F44 164 58 rfl).trans ((F43 164 58 rfl).trans ((F42 164 58 rfl).trans ((F41 164 58 rfl).trans ((F40 164 58 rfl).trans ((F39 164 58 rfl).trans ((F38 164 58 rfl).trans ((F37 164 58 rfl).trans ((F36 164 58 rfl).trans ((F35 164 58 rfl).trans ((F34 164 58 rfl).trans ((F33 164 58 rfl).trans ((F32 164 58 rfl).trans ((F31 164 58 rfl).trans ((F30 164 58 rfl).trans ((F29 164 58 rfl).trans ((F28 164 58 rfl).trans (f164_58 (h := h) hT)))))))))))))))))))), ((F46 164 60 rfl).trans ((F45 164 60 rfl).trans ((F44 164 60 rfl).trans ((F43 164 60 rfl).trans ((F42 164 60 rfl).trans ((F41 164 60 rfl).trans ((F40 164 60 rfl).trans ((F39 164 60 rfl).trans ((F38 164 60 rfl).trans ((F37 164 60 rfl).trans ((F36 164 60 rfl).trans ((F35 164 60 rfl).trans ((F34 164 60 rfl).trans ((F33 164 60 rfl).trans ((F32 164 60 rfl).trans ((F31 164 60 rfl).trans ((F30 164 60 rfl).trans ((F29 164 60 rfl).trans ((F28 164 60 rfl).trans (f164_60 (h := h) hT)))))))))))))))))))), trivial⟩ rfl rfl qc46 ?_
  intro h47 dr47 F47 qa47 qb47 qc47
  refine am_e_iload n127_59 rfl ?_
  refine am_e_aload_n n127_60 rfl ?_
  refine am_e_getf (v := .ref 188) n127_61 rfl ((F47 164 50 rfl).trans ((F46 164 50 rfl).trans ((F45 164 50 rfl).trans ((F44 164 50 rfl).trans ((F43 164 50 rfl).trans ((F42 164 50 rfl).trans ((F41 164 50 rfl).trans ((F40 164 50 rfl).trans ((F39 164 50 rfl).trans ((F38 164 50 rfl).trans ((F37 164 50 rfl).trans ((F36 164 50 rfl).trans ((F35 164 50 rfl).trans ((F34 164 50 rfl).trans ((F33 164 50 rfl).trans ((F32 164 50 rfl).trans ((F31 164 50 rfl).trans ((F30 164 50 rfl).trans ((F29 164 50 rfl).trans ((F28 164 50 rfl).trans (f164_50 (h := h) hT))))))))))))))))))))) ?_
  refine am_e_iconst (w := 1) n127_62 rfl ?_
  refine am_e_iaload (v := 0) (q := 1) n127_63 rfl (by decide) (by decide) qa47 ?_
  refine am_e_iload_n n127_64 rfl ?_
  refine am_e_cmpF n127_65 (am_c_ltF (by decide)) ?_
  refine am_e_iconst (w := 1) n127_66 rfl ?_
  refine am_e_goto c127_67 t127_67 ?_
  refine am_e_iadd (w := 10) n127_69 (by decide) ?_
  refine am_e_istore (ls' := [(6, .int 10), (0, .ref 164), (2, .int (nI n)), (3, .int (nI 0)), (4, .long 0), (7, .int 9), (8, .int (nI n))]) n127_70 rfl rfl ?_
  refine am_e_iinc (w := 10) (ls' := [(7, .int 10), (6, .int 10), (0, .ref 164), (2, .int (nI n)), (3, .int (nI 0)), (4, .long 0), (8, .int (nI n))]) n127_71 rfl rfl (by decide) rfl ?_
  refine am_e_goto c127_72 t127_72 ?_
  refine am_e_iload n127_28 rfl ?_
  refine am_e_bipush (w := 10) n127_29 (by decide) ?_
  refine am_e_cmpT n127_30 (am_c_geT (by decide)) t127_30 ?_
  refine am_e_aload_n n127_73 rfl ?_
  refine am_e_lload n127_74 rfl ?_
  refine am_e_putf n127_75 rfl rfl ?_
  refine am_e_iload n127_76 rfl ?_
  refine am_e_iret c127_77 rfl rfl rfl ?_
  refine am_e_cmpT n136_763 (am_c_eqT (by decide)) t136_763 ?_
  exact K _
