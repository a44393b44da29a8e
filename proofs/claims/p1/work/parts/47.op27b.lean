theorem am_op27_nb {lk : List Value → List am_k → am_H → Option am_O} {xs : Nat → Int32} {h : am_H} {Q : Option Value → List am_k → am_H → Prop} {a1 : Int32} {a4 : Int32} {a5 : Int32} {n b : Nat} (h1 : ¬ a1 < (0 : Int32)) (hn1 : 1 ≤ n) (hn9 : n ≤ 600) (hb0 : 1 ≤ b) (hb : b ≤ 9999) (hT : am_T h) (hx1 : xs 1 = a1) (hx2 : xs 2 = (nI n)) (hx3 : xs 3 = (nI b)) (hx4 : xs 4 = a4) (hx5 : xs 5 = a5) (K : ∀ h', am_Ek false (am_P1 (some (6, xs)) lk) am_m136 841 [(4, .int 0), (3, .ref 202), (2, .ref 164), (1, .ref 0), (0, .retAddr 0)] [] am_ks0 h' 203 4392 Q) : am_Ek false (am_P1 (some (6, xs)) lk) am_m136 729 [(4, .int 0), (3, .ref 202), (2, .ref 164), (1, .ref 0), (0, .retAddr 0)] [] am_ks0 h 203 4392 Q := by
  refine am_e_aload_n n136_729 rfl ?_
  refine am_e_sload_n n136_730 rfl ?_
  refine am_e_iload n136_731 rfl ?_
  refine am_e_iconst (w := 1) n136_732 rfl ?_
  refine am_e_iadd (w := 1) n136_733 (by decide) ?_
  refine am_e_sald1 n136_734 rfl (by decide) (by decide) hx1 ?_
  refine am_e_sload_n n136_735 rfl ?_
  refine am_e_iload n136_736 rfl ?_
  refine am_e_iconst (w := 2) n136_737 rfl ?_
  refine am_e_iadd (w := 2) n136_738 (by decide) ?_
  refine am_e_sald1 n136_739 rfl (by decide) (by decide) hx2 ?_
  refine am_e_sload_n n136_740 rfl ?_
  refine am_e_iload n136_741 rfl ?_
  refine am_e_iconst (w := 3) n136_742 rfl ?_
  refine am_e_iadd (w := 3) n136_743 (by decide) ?_
  refine am_e_sald1 n136_744 rfl (by decide) (by decide) hx3 ?_
  refine am_e_callV (L := [(0, .ref 0), (1, .int a1), (2, .int (nI n)), (3, .int (nI b))]) n136_745 rfl rfl rfl rfl rfl rfl rfl rfl ?_
  refine am_e_iload_n n70_0 rfl ?_
  refine am_e_ifF n70_1 (am_c_ltF h1) ?_
  refine am_e_iload_n n70_2 rfl ?_
  refine am_e_iconst (w := 1) n70_3 rfl ?_
  refine am_e_sipush (w := 600) n70_4 (by decide) ?_
  refine am_e_callS (L := [(0, .int (nI n)), (1, .int 1), (2, .int 600)]) n70_5 rfl rfl rfl rfl rfl rfl rfl ?_
  refine am_e_iload_n n30_0 rfl ?_
  refine am_e_iload_n n30_1 rfl ?_
  refine am_e_cmpF n30_2 (am_c_ltF (nI_nlt (b := 1) hn1 (by omega))) ?_
  refine am_e_iload_n n30_3 rfl ?_
  refine am_e_iload_n n30_4 rfl ?_
  refine am_e_cmpF n30_5 (am_c_gtF (nI_nlt (a := 600) (b := n) hn9 (by decide))) ?_
  refine am_e_iconst (w := 1) n30_6 rfl ?_
  refine am_e_goto c30_7 t30_7 ?_
  refine am_e_iret c30_9 rfl rfl rfl ?_
  refine am_e_ifF n70_6 (am_c_eqF (by decide)) ?_
  refine am_e_iload_n n70_7 rfl ?_
  refine am_e_iconst (w := 0) n70_8 rfl ?_
  refine am_e_sipush (w := 9999) n70_9 (by decide) ?_
  refine am_e_callS (L := [(0, .int (nI b)), (1, .int 0), (2, .int 9999)]) n70_10 rfl rfl rfl rfl rfl rfl rfl ?_
  refine am_e_iload_n n30_0 rfl ?_
  refine am_e_iload_n n30_1 rfl ?_
  refine am_e_cmpF n30_2 (am_c_ltF (nI_pos (by omega))) ?_
  refine am_e_iload_n n30_3 rfl ?_
  refine am_e_iload_n n30_4 rfl ?_
  refine am_e_cmpF n30_5 (am_c_gtF (nI_nlt (a := 9999) (b := b) hb (by decide))) ?_
  refine am_e_iconst (w := 1) n30_6 rfl ?_
  refine am_e_goto c30_7 t30_7 ?_
  refine am_e_iret c30_9 rfl rfl rfl ?_
  refine am_e_ifT n70_11 (am_c_neT (by decide)) t70_11 ?_
  refine am_e_iload_n n70_14 rfl ?_
  refine am_e_i2l (w := (a1.toInt64)) n70_15 rfl ?_
  refine am_e_lstore (ls' := [(4, .long (a1.toInt64)), (0, .ref 0), (1, .int a1), (2, .int (nI n)), (3, .int (nI b))]) n70_16 rfl rfl ?_
  refine am_e_iconst (w := 0) n70_17 rfl ?_
  refine am_e_istore (ls' := [(6, .int 0), (4, .long (a1.toInt64)), (0, .ref 0), (1, .int a1), (2, .int (nI n)), (3, .int (nI b))]) n70_18 rfl rfl ?_
  refine am_e_iconst (w := 0) n70_19 rfl ?_
  refine am_e_istore (ls' := [(7, .int 0), (6, .int 0), (4, .long (a1.toInt64)), (0, .ref 0), (1, .int a1), (2, .int (nI n)), (3, .int (nI b))]) n70_20 rfl rfl ?_
  refine am_e_iload n70_21 rfl ?_
  refine am_e_bipush (w := 10) n70_22 (by decide) ?_
  refine am_e_cmpF n70_23 (am_c_geF (by decide)) ?_
  refine am_e_aload_n n70_24 rfl ?_
  refine am_e_getf (v := .ref 148) n70_25 rfl (f0_11 (h := h) hT) ?_
  refine am_e_aload_n n70_26 rfl ?_
  refine am_e_getf (v := .ref 2) n70_27 rfl (f0_2 (h := h) hT) ?_
  refine am_e_aload_n n70_28 rfl ?_
  refine am_e_getf (v := .ref 48) n70_29 rfl (f0_5 (h := h) hT) ?_
  refine am_e_callV (L := [(0, .ref 148), (1, .ref 2), (2, .ref 48)]) n70_30 rfl rfl rfl rfl rfl rfl rfl rfl ?_
  refine am_e_aload_n n31_0 rfl ?_
  refine am_e_aload_n n31_1 rfl ?_
  refine am_e_putf n31_2 rfl rfl ?_
  refine am_e_aload_n n31_3 rfl ?_
  refine am_e_getf (v := .ref 149) n31_4 rfl (f148_1 (h := h) hT) ?_
  refine am_e_aload_n n31_5 rfl ?_
  refine am_e_callV (L := [(0, .ref 149), (1, .ref 48)]) n31_6 rfl rfl rfl rfl rfl rfl rfl rfl ?_
  refine am_e_aload_n n32_0 rfl ?_
  refine am_e_aload_n n32_1 rfl ?_
  refine am_e_getf (v := .int 0) n32_2 rfl (f48_0 (h := h) hT) ?_
  refine am_e_putf n32_3 rfl rfl ?_
  refine am_e_aload_n n32_4 rfl ?_
  refine am_e_aload_n n32_5 rfl ?_
  refine am_e_getf (v := .int 0) n32_6 rfl (f48_1 (h := h) hT) ?_
  refine am_e_putf n32_7 rfl rfl ?_
  refine am_e_aload_n n32_8 rfl ?_
  refine am_e_aload_n n32_9 rfl ?_
  refine am_e_getf (v := .int (-1)) n32_10 rfl (f48_2 (h := h) hT) ?_
  refine am_e_putf n32_11 rfl rfl ?_
  refine am_e_aload_n n32_12 rfl ?_
  refine am_e_aload_n n32_13 rfl ?_
  refine am_e_getf (v := .int 0) n32_14 rfl (f48_3 (h := h) hT) ?_
  refine am_e_putf n32_15 rfl rfl ?_
  refine am_e_aload_n n32_16 rfl ?_
  refine am_e_aload_n n32_17 rfl ?_
  refine am_e_getf (v := .int 0) n32_18 rfl (f48_4 (h := h) hT) ?_
  refine am_e_putf n32_19 rfl rfl ?_
  refine am_e_iconst (w := 0) n32_20 rfl ?_
  refine am_e_istore_n (ls' := [(2, .int 0), (0, .ref 149), (1, .ref 48)]) n32_21 rfl rfl ?_
  refine am_e_iload_n n32_22 rfl ?_
  refine am_e_iconst (w := 4) n32_23 rfl ?_
  refine am_e_cmpF n32_24 (am_c_geF (by decide)) ?_
  refine am_e_aload_n n32_25 rfl ?_
  refine am_e_getf (v := .ref 150) n32_26 rfl (f149_5 (h := h) hT) ?_
  refine am_e_iload_n n32_27 rfl ?_
  refine am_e_aload_n n32_28 rfl ?_
  refine am_e_getf (v := .ref 49) n32_29 rfl (f48_5 (h := h) hT) ?_
  refine am_e_iload_n n32_30 rfl ?_
  refine am_e_iaload (v := 0) (q := 0) n32_31 rfl (by decide) (by decide) (f49_0 (h := h) hT) ?_
  refine am_e_iastore (q := 0) n32_32 rfl (by decide) (by decide) ?_
  refine am_e_aload_n n32_33 rfl ?_
  refine am_e_getf (v := .ref 151) n32_34 rfl (f149_6 (h := h) hT) ?_
  refine am_e_iload_n n32_35 rfl ?_
  refine am_e_aload_n n32_36 rfl ?_
  refine am_e_getf (v := .ref 50) n32_37 rfl (f48_6 (h := h) hT) ?_
  refine am_e_iload_n n32_38 rfl ?_
  refine am_e_iaload (v := 0) (q := 0) n32_39 rfl (by decide) (by decide) (f50_0 (h := h) hT) ?_
  refine am_e_iastore (q := 0) n32_40 rfl (by decide) (by decide) ?_
  refine am_e_aload_n n32_41 rfl ?_
  refine am_e_getf (v := .ref 152) n32_42 rfl (f149_7 (h := h) hT) ?_
  refine am_e_iload_n n32_43 rfl ?_
  refine am_e_aload_n n32_44 rfl ?_
  refine am_e_getf (v := .ref 51) n32_45 rfl (f48_7 (h := h) hT) ?_
  refine am_e_iload_n n32_46 rfl ?_
  refine am_e_iaload (v := 0) (q := 0) n32_47 rfl (by decide) (by decide) (f51_0 (h := h) hT) ?_
  refine am_e_iastore (q := 0) n32_48 rfl (by decide) (by decide) ?_
  refine am_e_iinc (w := 1) (ls' := [(2, .int 1), (0, .ref 149), (1, .ref 48)]) n32_49 rfl rfl (by decide) rfl ?_
  refine am_e_goto c32_50 t32_50 ?_
  refine am_e_iload_n n32_22 rfl ?_
  refine am_e_iconst (w := 4) n32_23 rfl ?_
  refine am_e_cmpF n32_24 (am_c_geF (by decide)) ?_
  refine am_e_aload_n n32_25 rfl ?_
  refine am_e_getf (v := .ref 150) n32_26 rfl (f149_5 (h := h) hT) ?_
  refine am_e_iload_n n32_27 rfl ?_
  refine am_e_aload_n n32_28 rfl ?_
  refine am_e_getf (v := .ref 49) n32_29 rfl (f48_5 (h := h) hT) ?_
  refine am_e_iload_n n32_30 rfl ?_
  refine am_e_iaload (v := 0) (q := 1) n32_31 rfl (by decide) (by decide) (f49_1 (h := h) hT) ?_
  refine am_e_iastore (q := 1) n32_32 rfl (by decide) (by decide) ?_
  refine am_e_aload_n n32_33 rfl ?_
  refine am_e_getf (v := .ref 151) n32_34 rfl (f149_6 (h := h) hT) ?_
  refine am_e_iload_n n32_35 rfl ?_
  refine am_e_aload_n n32_36 rfl ?_
  refine am_e_getf (v := .ref 50) n32_37 rfl (f48_6 (h := h) hT) ?_
  refine am_e_iload_n n32_38 rfl ?_
  refine am_e_iaload (v := 0) (q := 1) n32_39 rfl (by decide) (by decide) (f50_1 (h := h) hT) ?_
  refine am_e_iastore (q := 1) n32_40 rfl (by decide) (by decide) ?_
  refine am_e_aload_n n32_41 rfl ?_
  refine am_e_getf (v := .ref 152) n32_42 rfl (f149_7 (h := h) hT) ?_
  refine am_e_iload_n n32_43 rfl ?_
  refine am_e_aload_n n32_44 rfl ?_
  refine am_e_getf (v := .ref 51) n32_45 rfl (f48_7 (h := h) hT) ?_
  refine am_e_iload_n n32_46 rfl ?_
  refine am_e_iaload (v := 0) (q := 1) n32_47 rfl (by decide) (by decide) (f51_1 (h := h) hT) ?_
  refine am_e_iastore (q := 1) n32_48 rfl (by decide) (by decide) ?_
  refine am_e_iinc (w := 2) (ls' := [(2, .int 2), (0, .ref 149), (1, .ref 48)]) n32_49 rfl rfl (by decide) rfl ?_
  refine am_e_goto c32_50 t32_50 ?_
  refine am_e_iload_n n32_22 rfl ?_
  refine am_e_iconst (w := 4) n32_23 rfl ?_
  refine am_e_cmpF n32_24 (am_c_geF (by decide)) ?_
  refine am_e_aload_n n32_25 rfl ?_
  refine am_e_getf (v := .ref 150) n32_26 rfl (f149_5 (h := h) hT) ?_
  refine am_e_iload_n n32_27 rfl ?_
  refine am_e_aload_n n32_28 rfl ?_
  refine am_e_getf (v := .ref 49) n32_29 rfl (f48_5 (h := h) hT) ?_
  refine am_e_iload_n n32_30 rfl ?_
  refine am_e_iaload (v := 0) (q := 2) n32_31 rfl (by decide) (by decide) (f49_2 (h := h) hT) ?_
  refine am_e_iastore (q := 2) n32_32 rfl (by decide) (by decide) ?_
  refine am_e_aload_n n32_33 rfl ?_
  refine am_e_getf (v := .ref 151) n32_34 rfl (f149_6 (h := h) hT) ?_
  refine am_e_iload_n n32_35 rfl ?_
  refine am_e_aload_n n32_36 rfl ?_
  refine am_e_getf (v := .ref 50) n32_37 rfl (f48_6 (h := h) hT) ?_
  refine am_e_iload_n n32_38 rfl ?_
  refine am_e_iaload (v := 0) (q := 2) n32_39 rfl (by decide) (by decide) (f50_2 (h := h) hT) ?_
  refine am_e_iastore (q := 2) n32_40 rfl (by decide) (by decide) ?_
  refine am_e_aload_n n32_41 rfl ?_
  refine am_e_getf (v := .ref 152) n32_42 rfl (f149_7 (h := h) hT) ?_
  refine am_e_iload_n n32_43 rfl ?_
  refine am_e_aload_n n32_44 rfl ?_
  refine am_e_getf (v := .ref 51) n32_45 rfl (f48_7 (h := h) hT) ?_
  refine am_e_iload_n n32_46 rfl ?_
  refine am_e_iaload (v := 0) (q := 2) n32_47 rfl (by decide) (by decide) (f51_2 (h := h) hT) ?_
  refine am_e_iastore (q := 2) n32_48 rfl (by decide) (by decide) ?_
  refine am_e_iinc (w := 3) (ls' := [(2, .int 3), (0, .ref 149), (1, .ref 48)]) n32_49 rfl rfl (by decide) rfl ?_
  refine am_e_goto c32_50 t32_50 ?_
  refine am_e_iload_n n32_22 rfl ?_
  refine am_e_iconst (w := 4) n32_23 rfl ?_
  refine am_e_cmpF n32_24 (am_c_geF (by decide)) ?_
  refine am_e_aload_n n32_25 rfl ?_
  refine am_e_getf (v := .ref 150) n32_26 rfl (f149_5 (h := h) hT) ?_
  refine am_e_iload_n n32_27 rfl ?_
  refine am_e_aload_n n32_28 rfl ?_
  refine am_e_getf (v := .ref 49) n32_29 rfl (f48_5 (h := h) hT) ?_
  refine am_e_iload_n n32_30 rfl ?_
  refine am_e_iaload (v := 0) (q := 3) n32_31 rfl (by decide) (by decide) (f49_3 (h := h) hT) ?_
  refine am_e_iastore (q := 3) n32_32 rfl (by decide) (by decide) ?_
  refine am_e_aload_n n32_33 rfl ?_
  refine am_e_getf (v := .ref 151) n32_34 rfl (f149_6 (h := h) hT) ?_
  refine am_e_iload_n n32_35 rfl ?_
  refine am_e_aload_n n32_36 rfl ?_
  refine am_e_getf (v := .ref 50) n32_37 rfl (f48_6 (h := h) hT) ?_
  refine am_e_iload_n n32_38 rfl ?_
  refine am_e_iaload (v := 0) (q := 3) n32_39 rfl (by decide) (by decide) (f50_3 (h := h) hT) ?_
  refine am_e_iastore (q := 3) n32_40 rfl (by decide) (by decide) ?_
  refine am_e_aload_n n32_41 rfl ?_
  refine am_e_getf (v := .ref 152) n32_42 rfl (f149_7 (h := h) hT) ?_
  refine am_e_iload_n n32_43 rfl ?_
  refine am_e_aload_n n32_44 rfl ?_
  refine am_e_getf (v := .ref 51) n32_45 rfl (f48_7 (h := h) hT) ?_
  refine am_e_iload_n n32_46 rfl ?_
  refine am_e_iaload (v := 0) (q := 3) n32_47 rfl (by decide) (by decide) (f51_3 (h := h) hT) ?_
  refine am_e_iastore (q := 3) n32_48 rfl (by decide) (by decide) ?_
  refine am_e_iinc (w := 4) (ls' := [(2, .int 4), (0, .ref 149), (1, .ref 48)]) n32_49 rfl rfl (by decide) rfl ?_
  refine am_e_goto c32_50 t32_50 ?_
  refine am_e_iload_n n32_22 rfl ?_
  refine am_e_iconst (w := 4) n32_23 rfl ?_
  refine am_e_cmpT n32_24 (am_c_geT (by decide)) t32_24 ?_
  refine am_e_vret c32_51 rfl rfl ?_
  refine am_e_aload_n n31_7 rfl ?_
  refine am_e_aload_n n31_8 rfl ?_
  refine am_e_getf (v := .int (-1)) n31_9 rfl (f2_18 (h := h) hT) ?_
  refine am_e_putf n31_10 rfl rfl ?_
  refine am_e_aload_n n31_11 rfl ?_
  refine am_e_iconst (w := 0) n31_12 rfl ?_
  refine am_e_putf n31_13 rfl rfl ?_
  refine am_e_aload_n n31_14 rfl ?_
  refine am_e_iconst (w := 0) n31_15 rfl ?_
  refine am_e_putf n31_16 rfl rfl ?_
  refine am_e_aload_n n31_17 rfl ?_
  refine am_e_ldc (w := 2147483647) n31_18 (by decide) ?_
  refine am_e_putf n31_19 rfl rfl ?_
  refine am_e_aload_n n31_20 rfl ?_
  refine am_e_ldc (w := 2147483647) n31_21 (by decide) ?_
  refine am_e_putf n31_22 rfl rfl ?_
  refine am_e_vret c31_23 rfl rfl ?_
  refine am_e_iconst (w := 0) n70_31 rfl ?_
  refine am_e_istore (ls' := [(8, .int 0), (7, .int 0), (6, .int 0), (4, .long (a1.toInt64)), (0, .ref 0), (1, .int a1), (2, .int (nI n)), (3, .int (nI b))]) n70_32 rfl rfl ?_
  refine am_Ek_ls (ls' := [(0, .ref 0), (2, .int (nI n)), (3, .int (nI b)), (4, .long (a1.toInt64)), (6, .int 0), (7, .int 0), (8, .int (nI 0))]) ⟨rfl, rfl, rfl, rfl, rfl, rfl, rfl, trivial⟩ ?_
  refine am_cc_e (n := n) (b := b) (s := 0) (t := 0) (i7 := 0) (dr := (a1.toInt64)) (by omega) (by omega) ⟨(f0_11 (h := h) hT), (f0_2 (h := h) hT), (f2_16 (h := h) hT), (f148_1 (h := h) hT), rfl, rfl, (f2_19 (h := h) hT), (f11_7 (h := h) hT), (f2_0 (h := h) hT), (f11_6 (h := h) hT), (f16_0 (h := h) hT), (f11_4 (h := h) hT), (f14_0 (h := h) hT), (f11_5 (h := h) hT), (f15_0 (h := h) hT), rfl, rfl, trivial⟩ rfl rfl rfl ?_
  intro h48 dr48 F48 qa48 qb48 qc48
  obtain ⟨l48, qc48⟩ := qc48
  refine am_e_aload_n n70_57 rfl ?_
  refine am_e_getf (v := .ref 148) n70_58 rfl ((F48 0 11 rfl).trans (f0_11 (h := h) hT)) ?_
  refine am_e_getf (v := .ref 149) n70_59 rfl ((F48 148 1 rfl).trans (f148_1 (h := h) hT)) ?_
  refine am_e_getf (v := .int 0) n70_60 rfl qa48 ?_
  refine am_e_iload_n n70_61 rfl ?_
  refine am_e_cmpT n70_62 (am_c_ltT (nI_lt (a := 0) hb0 (by omega))) t70_62 ?_
  refine am_e_iinc (w := 1) (ls' := [(7, .int 1), (0, .ref 0), (2, .int (nI n)), (3, .int (nI b)), (4, .long dr48), (6, .int 0), (8, .int (nI n))]) n70_64 rfl rfl (by decide) rfl ?_
  refine am_e_goto c70_65 t70_65 ?_
  refine am_e_iload n70_21 rfl ?_
  refine am_e_bipush (w := 10) n70_22 (by decide) ?_
  refine am_e_cmpF n70_23 (am_c_geF (by decide)) ?_
  refine am_e_aload_n n70_24 rfl ?_
  refine am_e_getf (v := .ref 148) n70_25 rfl ((F48 0 11 rfl).trans (f0_11 (h := h) hT)) ?_
  refine am_e_aload_n n70_26 rfl ?_
  refine am_e_getf (v := .ref 2) n70_27 rfl ((F48 0 2 rfl).trans (f0_2 (h := h) hT)) ?_
  refine am_e_aload_n n70_28 rfl ?_
  refine am_e_getf (v := .ref 48) n70_29 rfl ((F48 0 5 rfl).trans (f0_5 (h := h) hT)) ?_
  refine am_e_callV (L := [(0, .ref 148), (1, .ref 2), (2, .ref 48)]) n70_30 rfl rfl rfl rfl rfl rfl rfl rfl ?_
  refine am_e_aload_n n31_0 rfl ?_
  refine am_e_aload_n n31_1 rfl ?_
  refine am_e_putf n31_2 rfl rfl ?_
  refine am_e_aload_n n31_3 rfl ?_
  refine am_e_getf (v := .ref 149) n31_4 rfl ((F48 148 1 rfl).trans (f148_1 (h := h) hT)) ?_
  refine am_e_aload_n n31_5 rfl ?_
  refine am_e_callV (L := [(0, .ref 149), (1, .ref 48)]) n31_6 rfl rfl rfl rfl rfl rfl rfl rfl ?_
  refine am_e_aload_n n32_0 rfl ?_
  refine am_e_aload_n n32_1 rfl ?_
  refine am_e_getf (v := .int 0) n32_2 rfl ((F48 48 0 rfl).trans (f48_0 (h := h) hT)) ?_
  refine am_e_putf n32_3 rfl rfl ?_
  refine am_e_aload_n n32_4 rfl ?_
  refine am_e_aload_n n32_5 rfl ?_
  refine am_e_getf (v := .int 0) n32_6 rfl ((F48 48 1 rfl).trans (f48_1 (h := h) hT)) ?_
  refine am_e_putf n32_7 rfl rfl ?_
  refine am_e_aload_n n32_8 rfl ?_
  refine am_e_aload_n n32_9 rfl ?_
  refine am_e_getf (v := .int (-1)) n32_10 rfl ((F48 48 2 rfl).trans (f48_2 (h := h) hT)) ?_
  refine am_e_putf n32_11 rfl rfl ?_
  refine am_e_aload_n n32_12 rfl ?_
  refine am_e_aload_n n32_13 rfl ?_
  refine am_e_getf (v := .int 0) n32_14 rfl ((F48 48 3 rfl).trans (f48_3 (h := h) hT)) ?_
  refine am_e_putf n32_15 rfl rfl ?_
  refine am_e_aload_n n32_16 rfl ?_
  refine am_e_aload_n n32_17 rfl ?_
  refine am_e_getf (v := .int 0) n32_18 rfl ((F48 48 4 rfl).trans (f48_4 (h := h) hT)) ?_
  refine am_e_putf n32_19 rfl rfl ?_
  refine am_e_iconst (w := 0) n32_20 rfl ?_
  refine am_e_istore_n (ls' := [(2, .int 0), (0, .ref 149), (1, .ref 48)]) n32_21 rfl rfl ?_
  refine am_e_iload_n n32_22 rfl ?_
  refine am_e_iconst (w := 4) n32_23 rfl ?_
  refine am_e_cmpF n32_24 (am_c_geF (by decide)) ?_
  refine am_e_aload_n n32_25 rfl ?_
  refine am_e_getf (v := .ref 150) n32_26 rfl ((F48 149 5 rfl).trans (f149_5 (h := h) hT)) ?_
  refine am_e_iload_n n32_27 rfl ?_
  refine am_e_aload_n n32_28 rfl ?_
  refine am_e_getf (v := .ref 49) n32_29 rfl ((F48 48 5 rfl).trans (f48_5 (h := h) hT)) ?_
  refine am_e_iload_n n32_30 rfl ?_
  refine am_e_iaload (v := 0) (q := 0) n32_31 rfl (by decide) (by decide) ((F48 49 0 rfl).trans (f49_0 (h := h) hT)) ?_
  refine am_e_iastore (q := 0) n32_32 rfl (by decide) (by decide) ?_
  refine am_e_aload_n n32_33 rfl ?_
  refine am_e_getf (v := .ref 151) n32_34 rfl ((F48 149 6 rfl).trans (f149_6 (h := h) hT)) ?_
  refine am_e_iload_n n32_35 rfl ?_
  refine am_e_aload_n n32_36 rfl ?_
  refine am_e_getf (v := .ref 50) n32_37 rfl ((F48 48 6 rfl).trans (f48_6 (h := h) hT)) ?_
  refine am_e_iload_n n32_38 rfl ?_
  refine am_e_iaload (v := 0) (q := 0) n32_39 rfl (by decide) (by decide) ((F48 50 0 rfl).trans (f50_0 (h := h) hT)) ?_
  refine am_e_iastore (q := 0) n32_40 rfl (by decide) (by decide) ?_
  refine am_e_aload_n n32_41 rfl ?_
  refine am_e_getf (v := .ref 152) n32_42 rfl ((F48 149 7 rfl).trans (f149_7 (h := h) hT)) ?_
  refine am_e_iload_n n32_43 rfl ?_
  refine am_e_aload_n n32_44 rfl ?_
  refine am_e_getf (v := .ref 51) n32_45 rfl ((F48 48 7 rfl).trans (f48_7 (h := h) hT)) ?_
  refine am_e_iload_n n32_46 rfl ?_
  refine am_e_iaload (v := 0) (q := 0) n32_47 rfl (by decide) (by decide) ((F48 51 0 rfl).trans (f51_0 (h := h) hT)) ?_
  refine am_e_iastore (q := 0) n32_48 rfl (by decide) (by decide) ?_
  refine am_e_iinc (w := 1) (ls' := [(2, .int 1), (0, .ref 149), (1, .ref 48)]) n32_49 rfl rfl (by decide) rfl ?_
  refine am_e_goto c32_50 t32_50 ?_
  refine am_e_iload_n n32_22 rfl ?_
  refine am_e_iconst (w := 4) n32_23 rfl ?_
  refine am_e_cmpF n32_24 (am_c_geF (by decide)) ?_
  refine am_e_aload_n n32_25 rfl ?_
  refine am_e_getf (v := .ref 150) n32_26 rfl ((F48 149 5 rfl).trans (f149_5 (h := h) hT)) ?_
  refine am_e_iload_n n32_27 rfl ?_
  refine am_e_aload_n n32_28 rfl ?_
  refine am_e_getf (v := .ref 49) n32_29 rfl ((F48 48 5 rfl).trans (f48_5 (h := h) hT)) ?_
  refine am_e_iload_n n32_30 rfl ?_
  refine am_e_iaload (v := 0) (q := 1) n32_31 rfl (by decide) (by decide) ((F48 49 1 rfl).trans (f49_1 (h := h) hT)) ?_
  refine am_e_iastore (q := 1) n32_32 rfl (by decide) (by decide) ?_
  refine am_e_aload_n n32_33 rfl ?_
  refine am_e_getf (v := .ref 151) n32_34 rfl ((F48 149 6 rfl).trans (f149_6 (h := h) hT)) ?_
  refine am_e_iload_n n32_35 rfl ?_
  refine am_e_aload_n n32_36 rfl ?_
  refine am_e_getf (v := .ref 50) n32_37 rfl ((F48 48 6 rfl).trans (f48_6 (h := h) hT)) ?_
  refine am_e_iload_n n32_38 rfl ?_
  refine am_e_iaload (v := 0) (q := 1) n32_39 rfl (by decide) (by decide) ((F48 50 1 rfl).trans (f50_1 (h := h) hT)) ?_
  refine am_e_iastore (q := 1) n32_40 rfl (by decide) (by decide) ?_
  refine am_e_aload_n n32_41 rfl ?_
  refine am_e_getf (v := .ref 152) n32_42 rfl ((F48 149 7 rfl).trans (f149_7 (h := h) hT)) ?_
  refine am_e_iload_n n32_43 rfl ?_
  refine am_e_aload_n n32_44 rfl ?_
  refine am_e_getf (v := .ref 51) n32_45 rfl ((F48 48 7 rfl).trans (f48_7 (h := h) hT)) ?_
  refine am_e_iload_n n32_46 rfl ?_
  refine am_e_iaload (v := 0) (q := 1) n32_47 rfl (by decide) (by decide) ((F48 51 1 rfl).trans (f51_1 (h := h) hT)) ?_
  refine am_e_iastore (q := 1) n32_48 rfl (by decide) (by decide) ?_
  refine am_e_iinc (w := 2) (ls' := [(2, .int 2), (0, .ref 149), (1, .ref 48)]) n32_49 rfl rfl (by decide) rfl ?_
  refine am_e_goto c32_50 t32_50 ?_
  refine am_e_iload_n n32_22 rfl ?_
  refine am_e_iconst (w := 4) n32_23 rfl ?_
  refine am_e_cmpF n32_24 (am_c_geF (by decide)) ?_
  refine am_e_aload_n n32_25 rfl ?_
  refine am_e_getf (v := .ref 150) n32_26 rfl ((F48 149 5 rfl).trans (f149_5 (h := h) hT)) ?_
  refine am_e_iload_n n32_27 rfl ?_
  refine am_e_aload_n n32_28 rfl ?_
  refine am_e_getf (v := .ref 49) n32_29 rfl ((F48 48 5 rfl).trans (f48_5 (h := h) hT)) ?_
  refine am_e_iload_n n32_30 rfl ?_
  refine am_e_iaload (v := 0) (q := 2) n32_31 rfl (by decide) (by decide) ((F48 49 2 rfl).trans (f49_2 (h := h) hT)) ?_
  refine am_e_iastore (q := 2) n32_32 rfl (by decide) (by decide) ?_
  refine am_e_aload_n n32_33 rfl ?_
  refine am_e_getf (v := .ref 151) n32_34 rfl ((F48 149 6 rfl).trans (f149_6 (h := h) hT)) ?_
  refine am_e_iload_n n32_35 rfl ?_
  refine am_e_aload_n n32_36 rfl ?_
  refine am_e_getf (v := .ref 50) n32_37 rfl ((F48 48 6 rfl).trans (f48_6 (h := h) hT)) ?_
  refine am_e_iload_n n32_38 rfl ?_
  refine am_e_iaload (v := 0) (q := 2) n32_39 rfl (by decide) (by decide) ((F48 50 2 rfl).trans (f50_2 (h := h) hT)) ?_
  refine am_e_iastore (q := 2) n32_40 rfl (by decide) (by decide) ?_
  refine am_e_aload_n n32_41 rfl ?_
  refine am_e_getf (v := .ref 152) n32_42 rfl ((F48 149 7 rfl).trans (f149_7 (h := h) hT)) ?_
  refine am_e_iload_n n32_43 rfl ?_
  refine am_e_aload_n n32_44 rfl ?_
  refine am_e_getf (v := .ref 51) n32_45 rfl ((F48 48 7 rfl).trans (f48_7 (h := h) hT)) ?_
  refine am_e_iload_n n32_46 rfl ?_
  refine am_e_iaload (v := 0) (q := 2) n32_47 rfl (by decide) (by decide) ((F48 51 2 rfl).trans (f51_2 (h := h) hT)) ?_
  refine am_e_iastore (q := 2) n32_48 rfl (by decide) (by decide) ?_
  refine am_e_iinc (w := 3) (ls' := [(2, .int 3), (0, .ref 149), (1, .ref 48)]) n32_49 rfl rfl (by decide) rfl ?_
  refine am_e_goto c32_50 t32_50 ?_
  refine am_e_iload_n n32_22 rfl ?_
  refine am_e_iconst (w := 4) n32_23 rfl ?_
  refine am_e_cmpF n32_24 (am_c_geF (by decide)) ?_
  refine am_e_aload_n n32_25 rfl ?_
  refine am_e_getf (v := .ref 150) n32_26 rfl ((F48 149 5 rfl).trans (f149_5 (h := h) hT)) ?_
  refine am_e_iload_n n32_27 rfl ?_
  refine am_e_aload_n n32_28 rfl ?_
  refine am_e_getf (v := .ref 49) n32_29 rfl ((F48 48 5 rfl).trans (f48_5 (h := h) hT)) ?_
  refine am_e_iload_n n32_30 rfl ?_
  refine am_e_iaload (v := 0) (q := 3) n32_31 rfl (by decide) (by decide) ((F48 49 3 rfl).trans (f49_3 (h := h) hT)) ?_
  refine am_e_iastore (q := 3) n32_32 rfl (by decide) (by decide) ?_
  refine am_e_aload_n n32_33 rfl ?_
  refine am_e_getf (v := .ref 151) n32_34 rfl ((F48 149 6 rfl).trans (f149_6 (h := h) hT)) ?_
  refine am_e_iload_n n32_35 rfl ?_
  refine am_e_aload_n n32_36 rfl ?_
  refine am_e_getf (v := .ref 50) n32_37 rfl ((F48 48 6 rfl).trans (f48_6 (h := h) hT)) ?_
  refine am_e_iload_n n32_38 rfl ?_
  refine am_e_iaload (v := 0) (q := 3) n32_39 rfl (by decide) (by decide) ((F48 50 3 rfl).trans (f50_3 (h := h) hT)) ?_
  refine am_e_iastore (q := 3) n32_40 rfl (by decide) (by decide) ?_
  refine am_e_aload_n n32_41 rfl ?_
  refine am_e_getf (v := .ref 152) n32_42 rfl ((F48 149 7 rfl).trans (f149_7 (h := h) hT)) ?_
  refine am_e_iload_n n32_43 rfl ?_
  refine am_e_aload_n n32_44 rfl ?_
  refine am_e_getf (v := .ref 51) n32_45 rfl ((F48 48 7 rfl).trans (f48_7 (h := h) hT)) ?_
  refine am_e_iload_n n32_46 rfl ?_
  refine am_e_iaload (v := 0) (q := 3) n32_47 rfl (by decide) (by decide) ((F48 51 3 rfl).trans (f51_3 (h := h) hT)) ?_
  refine am_e_iastore (q := 3) n32_48 rfl (by decide) (by decide) ?_
  refine am_e_iinc (w := 4) (ls' := [(2, .int 4), (0, .ref 149), (1, .ref 48)]) n32_49 rfl rfl (by decide) rfl ?_
  refine am_e_goto c32_50 t32_50 ?_
  refine am_e_iload_n n32_22 rfl ?_
  refine am_e_iconst (w := 4) n32_23 rfl ?_
  refine am_e_cmpT n32_24 (am_c_geT (by decide)) t32_24 ?_
  refine am_e_vret c32_51 rfl rfl ?_
  refine am_e_aload_n n31_7 rfl ?_
  refine am_e_aload_n n31_8 rfl ?_
  refine am_e_getf (v := .int (-1)) n31_9 rfl ((F48 2 18 rfl).trans (f2_18 (h := h) hT)) ?_
  refine am_e_putf n31_10 rfl rfl ?_
  refine am_e_aload_n n31_11 rfl ?_
  refine am_e_iconst (w := 0) n31_12 rfl ?_
  refine am_e_putf n31_13 rfl rfl ?_
  refine am_e_aload_n n31_14 rfl ?_
  refine am_e_iconst (w := 0) n31_15 rfl ?_
  refine am_e_putf n31_16 rfl rfl ?_
  refine am_e_aload_n n31_17 rfl ?_
  refine am_e_ldc (w := 2147483647) n31_18 (by decide) ?_
  refine am_e_putf n31_19 rfl rfl ?_
  refine am_e_aload_n n31_20 rfl ?_
  refine am_e_ldc (w := 2147483647) n31_21 (by decide) ?_
  refine am_e_putf n31_22 rfl rfl ?_
  refine am_e_vret c31_23 rfl rfl ?_
  refine am_e_iconst (w := 0) n70_31 rfl ?_
  refine am_e_istore (ls' := [(8, .int 0), (7, .int 1), (0, .ref 0), (2, .int (nI n)), (3, .int (nI b)), (4, .long dr48), (6, .int 0)]) n70_32 rfl rfl ?_
  refine am_Ek_ls (ls' := [(0, .ref 0), (2, .int (nI n)), (3, .int (nI b)), (4, .long dr48), (6, .int 0), (7, .int 1), (8, .int (nI 0))]) ⟨rfl, rfl, rfl, rfl, rfl, rfl, rfl, trivial⟩ ?_
  refine am_cc_e (n := n) (b := b) (s := 0) (t := 0) (i7 := 1) (dr := dr48) (by omega) (by omega) ⟨((F48 0 11 rfl).trans (f0_11 (h := h) hT)), ((F48 0 2 rfl).trans (f0_2 (h := h) hT)), ((F48 2 16 rfl).trans (f2_16 (h := h) hT)), ((F48 148 1 rfl).trans (f148_1 (h := h) hT)), rfl, rfl, ((F48 2 19 rfl).trans (f2_19 (h := h) hT)), ((F48 11 7 rfl).trans (f11_7 (h := h) hT)), ((F48 2 0 rfl).trans (f2_0 (h := h) hT)), ((F48 11 6 rfl).trans (f11_6 (h := h) hT)), ((F48 16 0 rfl).trans (f16_0 (h := h) hT)), ((F48 11 4 rfl).trans (f11_4 (h := h) hT)), ((F48 14 0 rfl).trans (f14_0 (h := h) hT)), ((F48 11 5 rfl).trans (f11_5 (h := h) hT)), ((F48 15 0 rfl).trans (f15_0 (h := h) hT)), rfl, rfl, trivial⟩ rfl rfl rfl ?_
  intro h49 dr49 F49 qa49 qb49 qc49
  obtain ⟨l49, qc49⟩ := qc49
  refine am_e_aload_n n70_57 rfl ?_
  refine am_e_getf (v := .ref 148) n70_58 rfl ((F49 0 11 rfl).trans ((F48 0 11 rfl).trans (f0_11 (h := h) hT))) ?_
  refine am_e_getf (v := .ref 149) n70_59 rfl ((F49 148 1 rfl).trans ((F48 148 1 rfl).trans (f148_1 (h := h) hT))) ?_
  refine am_e_getf (v := .int 0) n70_60 rfl qa49 ?_
  refine am_e_iload_n n70_61 rfl ?_
  refine am_e_cmpT n70_62 (am_c_ltT (nI_lt (a := 0) hb0 (by omega))) t70_62 ?_
  refine am_e_iinc (w := 2) (ls' := [(7, .int 2), (0, .ref 0), (2, .int (nI n)), (3, .int (nI b)), (4, .long dr49), (6, .int 0), (8, .int (nI n))]) n70_64 rfl rfl (by decide) rfl ?_
  refine am_e_goto c70_65 t70_65 ?_
  refine am_e_iload n70_21 rfl ?_
  refine am_e_bipush (w := 10) n70_22 (by decide) ?_
  refine am_e_cmpF n70_23 (am_c_geF (by decide)) ?_
  refine am_e_aload_n n70_24 rfl ?_
  refine am_e_getf (v := .ref 148) n70_25 rfl ((F49 0 11 rfl).trans ((F48 0 11 rfl).trans (f0_11 (h := h) hT))) ?_
  refine am_e_aload_n n70_26 rfl ?_
  refine am_e_getf (v := .ref 2) n70_27 rfl ((F49 0 2 rfl).trans ((F48 0 2 rfl).trans (f0_2 (h := h) hT))) ?_
  refine am_e_aload_n n70_28 rfl ?_
  refine am_e_getf (v := .ref 48) n70_29 rfl ((F49 0 5 rfl).trans ((F48 0 5 rfl).trans (f0_5 (h := h) hT))) ?_
  refine am_e_callV (L := [(0, .ref 148), (1, .ref 2), (2, .ref 48)]) n70_30 rfl rfl rfl rfl rfl rfl rfl rfl ?_
  refine am_e_aload_n n31_0 rfl ?_
  refine am_e_aload_n n31_1 rfl ?_
  refine am_e_putf n31_2 rfl rfl ?_
  refine am_e_aload_n n31_3 rfl ?_
  refine am_e_getf (v := .ref 149) n31_4 rfl ((F49 148 1 rfl).trans ((F48 148 1 rfl).trans (f148_1 (h := h) hT))) ?_
  refine am_e_aload_n n31_5 rfl ?_
  refine am_e_callV (L := [(0, .ref 149), (1, .ref 48)]) n31_6 rfl rfl rfl rfl rfl rfl rfl rfl ?_
  refine am_e_aload_n n32_0 rfl ?_
  refine am_e_aload_n n32_1 rfl ?_
  refine am_e_getf (v := .int 0) n32_2 rfl ((F49 48 0 rfl).trans ((F48 48 0 rfl).trans (f48_0 (h := h) hT))) ?_
  refine am_e_putf n32_3 rfl rfl ?_
  refine am_e_aload_n n32_4 rfl ?_
  refine am_e_aload_n n32_5 rfl ?_
  refine am_e_getf (v := .int 0) n32_6 rfl ((F49 48 1 rfl).trans ((F48 48 1 rfl).trans (f48_1 (h := h) hT))) ?_
  refine am_e_putf n32_7 rfl rfl ?_
  refine am_e_aload_n n32_8 rfl ?_
  refine am_e_aload_n n32_9 rfl ?_
  refine am_e_getf (v := .int (-1)) n32_10 rfl ((F49 48 2 rfl).trans ((F48 48 2 rfl).trans (f48_2 (h := h) hT))) ?_
  refine am_e_putf n32_11 rfl rfl ?_
  refine am_e_aload_n n32_12 rfl ?_
  refine am_e_aload_n n32_13 rfl ?_
  refine am_e_getf (v := .int 0) n32_14 rfl ((F49 48 3 rfl).trans ((F48 48 3 rfl).trans (f48_3 (h := h) hT))) ?_
  refine am_e_putf n32_15 rfl rfl ?_
  refine am_e_aload_n n32_16 rfl ?_
  refine am_e_aload_n n32_17 rfl ?_
  refine am_e_getf (v := .int 0) n32_18 rfl ((F49 48 4 rfl).trans ((F48 48 4 rfl).trans (f48_4 (h := h) hT))) ?_
  refine am_e_putf n32_19 rfl rfl ?_
  refine am_e_iconst (w := 0) n32_20 rfl ?_
  refine am_e_istore_n (ls' := [(2, .int 0), (0, .ref 149), (1, .ref 48)]) n32_21 rfl rfl ?_
  refine am_e_iload_n n32_22 rfl ?_
  refine am_e_iconst (w := 4) n32_23 rfl ?_
  refine am_e_cmpF n32_24 (am_c_geF (by decide)) ?_
  refine am_e_aload_n n32_25 rfl ?_
  refine am_e_getf (v := .ref 150) n32_26 rfl ((F49 149 5 rfl).trans ((F48 149 5 rfl).trans (f149_5 (h := h) hT))) ?_
  refine am_e_iload_n n32_27 rfl ?_
  refine am_e_aload_n n32_28 rfl ?_
  refine am_e_getf (v := .ref 49) n32_29 rfl ((F49 48 5 rfl).trans ((F48 48 5 rfl).trans (f48_5 (h := h) hT))) ?_
  refine am_e_iload_n n32_30 rfl ?_
  refine am_e_iaload (v := 0) (q := 0) n32_31 rfl (by decide) (by decide) ((F49 49 0 rfl).trans ((F48 49 0 rfl).trans (f49_0 (h := h) hT))) ?_
  refine am_e_iastore (q := 0) n32_32 rfl (by decide) (by decide) ?_
  refine am_e_aload_n n32_33 rfl ?_
  refine am_e_getf (v := .ref 151) n32_34 rfl ((F49 149 6 rfl).trans ((F48 149 6 rfl).trans (f149_6 (h := h) hT))) ?_
  refine am_e_iload_n n32_35 rfl ?_
  refine am_e_aload_n n32_36 rfl ?_
  refine am_e_getf (v := .ref 50) n32_37 rfl ((F49 48 6 rfl).trans ((F48 48 6 rfl).trans (f48_6 (h := h) hT))) ?_
  refine am_e_iload_n n32_38 rfl ?_
  refine am_e_iaload (v := 0) (q := 0) n32_39 rfl (by decide) (by decide) ((F49 50 0 rfl).trans ((F48 50 0 rfl).trans (f50_0 (h := h) hT))) ?_
  refine am_e_iastore (q := 0) n32_40 rfl (by decide) (by decide) ?_
  refine am_e_aload_n n32_41 rfl ?_
  refine am_e_getf (v := .ref 152) n32_42 rfl ((F49 149 7 rfl).trans ((F48 149 7 rfl).trans (f149_7 (h := h) hT))) ?_
  refine am_e_iload_n n32_43 rfl ?_
  refine am_e_aload_n n32_44 rfl ?_
  refine am_e_getf (v := .ref 51) n32_45 rfl ((F49 48 7 rfl).trans ((F48 48 7 rfl).trans (f48_7 (h := h) hT))) ?_
  refine am_e_iload_n n32_46 rfl ?_
  refine am_e_iaload (v := 0) (q := 0) n32_47 rfl (by decide) (by decide) ((F49 51 0 rfl).trans ((F48 51 0 rfl).trans (f51_0 (h := h) hT))) ?_
  refine am_e_iastore (q := 0) n32_48 rfl (by decide) (by decide) ?_
  refine am_e_iinc (w := 1) (ls' := [(2, .int 1), (0, .ref 149), (1, .ref 48)]) n32_49 rfl rfl (by decide) rfl ?_
  refine am_e_goto c32_50 t32_50 ?_
  refine am_e_iload_n n32_22 rfl ?_
  refine am_e_iconst (w := 4) n32_23 rfl ?_
  refine am_e_cmpF n32_24 (am_c_geF (by decide)) ?_
  refine am_e_aload_n n32_25 rfl ?_
  refine am_e_getf (v := .ref 150) n32_26 rfl ((F49 149 5 rfl).trans ((F48 149 5 rfl).trans (f149_5 (h := h) hT))) ?_
  refine am_e_iload_n n32_27 rfl ?_
  refine am_e_aload_n n32_28 rfl ?_
  refine am_e_getf (v := .ref 49) n32_29 rfl ((F49 48 5 rfl).trans ((F48 48 5 rfl).trans (f48_5 (h := h) hT))) ?_
  refine am_e_iload_n n32_30 rfl ?_
  refine am_e_iaload (v := 0) (q := 1) n32_31 rfl (by decide) (by decide) ((F49 49 1 rfl).trans ((F48 49 1 rfl).trans (f49_1 (h := h) hT))) ?_
  refine am_e_iastore (q := 1) n32_32 rfl (by decide) (by decide) ?_
  refine am_e_aload_n n32_33 rfl ?_
  refine am_e_getf (v := .ref 151) n32_34 rfl ((F49 149 6 rfl).trans ((F48 149 6 rfl).trans (f149_6 (h := h) hT))) ?_
  refine am_e_iload_n n32_35 rfl ?_
  refine am_e_aload_n n32_36 rfl ?_
  refine am_e_getf (v := .ref 50) n32_37 rfl ((F49 48 6 rfl).trans ((F48 48 6 rfl).trans (f48_6 (h := h) hT))) ?_
  refine am_e_iload_n n32_38 rfl ?_
  refine am_e_iaload (v := 0) (q := 1) n32_39 rfl (by decide) (by decide) ((F49 50 1 rfl).trans ((F48 50 1 rfl).trans (f50_1 (h := h) hT))) ?_
  refine am_e_iastore (q := 1) n32_40 rfl (by decide) (by decide) ?_
  refine am_e_aload_n n32_41 rfl ?_
  refine am_e_getf (v := .ref 152) n32_42 rfl ((F49 149 7 rfl).trans ((F48 149 7 rfl).trans (f149_7 (h := h) hT))) ?_
  refine am_e_iload_n n32_43 rfl ?_
  refine am_e_aload_n n32_44 rfl ?_
  refine am_e_getf (v := .ref 51) n32_45 rfl ((F49 48 7 rfl).trans ((F48 48 7 rfl).trans (f48_7 (h := h) hT))) ?_
  refine am_e_iload_n n32_46 rfl ?_
  refine am_e_iaload (v := 0) (q := 1) n32_47 rfl (by decide) (by decide) ((F49 51 1 rfl).trans ((F48 51 1 rfl).trans (f51_1 (h := h) hT))) ?_
  refine am_e_iastore (q := 1) n32_48 rfl (by decide) (by decide) ?_
  refine am_e_iinc (w := 2) (ls' := [(2, .int 2), (0, .ref 149), (1, .ref 48)]) n32_49 rfl rfl (by decide) rfl ?_
  refine am_e_goto c32_50 t32_50 ?_
  refine am_e_iload_n n32_22 rfl ?_
  refine am_e_iconst (w := 4) n32_23 rfl ?_
  refine am_e_cmpF n32_24 (am_c_geF (by decide)) ?_
  refine am_e_aload_n n32_25 rfl ?_
  refine am_e_getf (v := .ref 150) n32_26 rfl ((F49 149 5 rfl).trans ((F48 149 5 rfl).trans (f149_5 (h := h) hT))) ?_
  refine am_e_iload_n n32_27 rfl ?_
  refine am_e_aload_n n32_28 rfl ?_
  refine am_e_getf (v := .ref 49) n32_29 rfl ((F49 48 5 rfl).trans ((F48 48 5 rfl).trans (f48_5 (h := h) hT))) ?_
  refine am_e_iload_n n32_30 rfl ?_
  refine am_e_iaload (v := 0) (q := 2) n32_31 rfl (by decide) (by decide) ((F49 49 2 rfl).trans ((F48 49 2 rfl).trans (f49_2 (h := h) hT))) ?_
  refine am_e_iastore (q := 2) n32_32 rfl (by decide) (by decide) ?_
  refine am_e_aload_n n32_33 rfl ?_
  refine am_e_getf (v := .ref 151) n32_34 rfl ((F49 149 6 rfl).trans ((F48 149 6 rfl).trans (f149_6 (h := h) hT))) ?_
  refine am_e_iload_n n32_35 rfl ?_
  refine am_e_aload_n n32_36 rfl ?_
  refine am_e_getf (v := .ref 50) n32_37 rfl ((F49 48 6 rfl).trans ((F48 48 6 rfl).trans (f48_6 (h := h) hT))) ?_
  refine am_e_iload_n n32_38 rfl ?_
  refine am_e_iaload (v := 0) (q := 2) n32_39 rfl (by decide) (by decide) ((F49 50 2 rfl).trans ((F48 50 2 rfl).trans (f50_2 (h := h) hT))) ?_
  refine am_e_iastore (q := 2) n32_40 rfl (by decide) (by decide) ?_
  refine am_e_aload_n n32_41 rfl ?_
  refine am_e_getf (v := .ref 152) n32_42 rfl ((F49 149 7 rfl).trans ((F48 149 7 rfl).trans (f149_7 (h := h) hT))) ?_
  refine am_e_iload_n n32_43 rfl ?_
  refine am_e_aload_n n32_44 rfl ?_
  refine am_e_getf (v := .ref 51) n32_45 rfl ((F49 48 7 rfl).trans ((F48 48 7 rfl).trans (f48_7 (h := h) hT))) ?_
  refine am_e_iload_n n32_46 rfl ?_
  refine am_e_iaload (v := 0) (q := 2) n32_47 rfl (by decide) (by decide) ((F49 51 2 rfl).trans ((F48 51 2 rfl).trans (f51_2 (h := h) hT))) ?_
  refine am_e_iastore (q := 2) n32_48 rfl (by decide) (by decide) ?_
  refine am_e_iinc (w := 3) (ls' := [(2, .int 3), (0, .ref 149), (1, .ref 48)]) n32_49 rfl rfl (by decide) rfl ?_
  refine am_e_goto c32_50 t32_50 ?_
  refine am_e_iload_n n32_22 rfl ?_
  refine am_e_iconst (w := 4) n32_23 rfl ?_
  refine am_e_cmpF n32_24 (am_c_geF (by decide)) ?_
  refine am_e_aload_n n32_25 rfl ?_
  refine am_e_getf (v := .ref 150) n32_26 rfl ((F49 149 5 rfl).trans ((F48 149 5 rfl).trans (f149_5 (h := h) hT))) ?_
  refine am_e_iload_n n32_27 rfl ?_
  refine am_e_aload_n n32_28 rfl ?_
  refine am_e_getf (v := .ref 49) n32_29 rfl ((F49 48 5 rfl).trans ((F48 48 5 rfl).trans (f48_5 (h := h) hT))) ?_
  refine am_e_iload_n n32_30 rfl ?_
  refine am_e_iaload (v := 0) (q := 3) n32_31 rfl (by decide) (by decide) ((F49 49 3 rfl).trans ((F48 49 3 rfl).trans (f49_3 (h := h) hT))) ?_
  refine am_e_iastore (q := 3) n32_32 rfl (by decide) (by decide) ?_
  refine am_e_aload_n n32_33 rfl ?_
  refine am_e_getf (v := .ref 151) n32_34 rfl ((F49 149 6 rfl).trans ((F48 149 6 rfl).trans (f149_6 (h := h) hT))) ?_
  refine am_e_iload_n n32_35 rfl ?_
  refine am_e_aload_n n32_36 rfl ?_
  refine am_e_getf (v := .ref 50) n32_37 rfl ((F49 48 6 rfl).trans ((F48 48 6 rfl).trans (f48_6 (h := h) hT))) ?_
  refine am_e_iload_n n32_38 rfl ?_
  refine am_e_iaload (v := 0) (q := 3) n32_39 rfl (by decide) (by decide) ((F49 50 3 rfl).trans ((F48 50 3 rfl).trans (f50_3 (h := h) hT))) ?_
  refine am_e_iastore (q := 3) n32_40 rfl (by decide) (by decide) ?_
  refine am_e_aload_n n32_41 rfl ?_
  refine am_e_getf (v := .ref 152) n32_42 rfl ((F49 149 7 rfl).trans ((F48 149 7 rfl).trans (f149_7 (h := h) hT))) ?_
  refine am_e_iload_n n32_43 rfl ?_
  refine am_e_aload_n n32_44 rfl ?_
  refine am_e_getf (v := .ref 51) n32_45 rfl ((F49 48 7 rfl).trans ((F48 48 7 rfl).trans (f48_7 (h := h) hT))) ?_
  refine am_e_iload_n n32_46 rfl ?_
  refine am_e_iaload (v := 0) (q := 3) n32_47 rfl (by decide) (by decide) ((F49 51 3 rfl).trans ((F48 51 3 rfl).trans (f51_3 (h := h) hT))) ?_
  refine am_e_iastore (q := 3) n32_48 rfl (by decide) (by decide) ?_
  refine am_e_iinc (w := 4) (ls' := [(2, .int 4), (0, .ref 149), (1, .ref 48)]) n32_49 rfl rfl (by decide) rfl ?_
  refine am_e_goto c32_50 t32_50 ?_
  refine am_e_iload_n n32_22 rfl ?_
  refine am_e_iconst (w := 4) n32_23 rfl ?_
  refine am_e_cmpT n32_24 (am_c_geT (by decide)) t32_24 ?_
  refine am_e_vret c32_51 rfl rfl ?_
  refine am_e_aload_n n31_7 rfl ?_
  refine am_e_aload_n n31_8 rfl ?_
  refine am_e_getf (v := .int (-1)) n31_9 rfl ((F49 2 18 rfl).trans ((F48 2 18 rfl).trans (f2_18 (h := h) hT))) ?_
  refine am_e_putf n31_10 rfl rfl ?_
  refine am_e_aload_n n31_11 rfl ?_
  refine am_e_iconst (w := 0) n31_12 rfl ?_
  refine am_e_putf n31_13 rfl rfl ?_
  refine am_e_aload_n n31_14 rfl ?_
  refine am_e_iconst (w := 0) n31_15 rfl ?_
  refine am_e_putf n31_16 rfl rfl ?_
  refine am_e_aload_n n31_17 rfl ?_
  refine am_e_ldc (w := 2147483647) n31_18 (by decide) ?_
  refine am_e_putf n31_19 rfl rfl ?_
  refine am_e_aload_n n31_20 rfl ?_
  refine am_e_ldc (w := 2147483647) n31_21 (by decide) ?_
  refine am_e_putf n31_22 rfl rfl ?_
  refine am_e_vret c31_23 rfl rfl ?_
  refine am_e_iconst (w := 0) n70_31 rfl ?_
  refine am_e_istore (ls' := [(8, .int 0), (7, .int 2), (0, .ref 0), (2, .int (nI n)), (3, .int (nI b)), (4, .long dr49), (6, .int 0)]) n70_32 rfl rfl ?_
  refine am_Ek_ls (ls' := [(0, .ref 0), (2, .int (nI n)), (3, .int (nI b)), (4, .long dr49), (6, .int 0), (7, .int 2), (8, .int (nI 0))]) ⟨rfl, rfl, rfl, rfl, rfl, rfl, rfl, trivial⟩ ?_
  refine am_cc_e (n := n) (b := b) (s := 0) (t := 0) (i7 := 2) (dr := dr49) (by omega) (by omega) ⟨((F49 0 11 rfl).trans ((F48 0 11 rfl).trans (f0_11 (h := h) hT))), ((F49 0 2 rfl).trans ((F48 0 2 rfl).trans (f0_2 (h := h) hT))), ((F49 2 16 rfl).trans ((F48 2 16 rfl).trans (f2_16 (h := h) hT))), ((F49 148 1 rfl).trans ((F48 148 1 rfl).trans (f148_1 (h := h) hT))), rfl, rfl, ((F49 2 19 rfl).trans ((F48 2 19 rfl).trans (f2_19 (h := h) hT))), ((F49 11 7 rfl).trans ((F48 11 7 rfl).trans (f11_7 (h := h) hT))), ((F49 2 0 rfl).trans ((F48 2 0 rfl).trans (f2_0 (h := h) hT))), ((F49 11 6 rfl).trans ((F48 11 6 rfl).trans (f11_6 (h := h) hT))), ((F49 16 0 rfl).trans ((F48 16 0 rfl).trans (f16_0 (h := h) hT))), ((F49 11 4 rfl).trans ((F48 11 4 rfl).trans (f11_4 (h := h) hT))), ((F49 14 0 rfl).trans ((F48 14 0 rfl).trans (f14_0 (h := h) hT))), ((F49 11 5 rfl).trans ((F48 11 5 rfl).trans (f11_5 (h := h) hT))), ((F49 15 0 rfl).trans ((F48 15 0 rfl).trans (f15_0 (h := h) hT))), rfl, rfl, trivial⟩ rfl rfl rfl ?_
  intro h50 dr50 F50 qa50 qb50 qc50
  obtain ⟨l50, qc50⟩ := qc50
  refine am_e_aload_n n70_57 rfl ?_
  refine am_e_getf (v := .ref 148) n70_58 rfl ((F50 0 11 rfl).trans ((F49 0 11 rfl).trans ((F48 0 11 rfl).trans (f0_11 (h := h) hT)))) ?_
  refine am_e_getf (v := .ref 149) n70_59 rfl ((F50 148 1 rfl).trans ((F49 148 1 rfl).trans ((F48 148 1 rfl).trans (f148_1 (h := h) hT)))) ?_
  refine am_e_getf (v := .int 0) n70_60 rfl qa50 ?_
  refine am_e_iload_n n70_61 rfl ?_
  refine am_e_cmpT n70_62 (am_c_ltT (nI_lt (a := 0) hb0 (by omega))) t70_62 ?_
  refine am_e_iinc (w := 3) (ls' := [(7, .int 3), (0, .ref 0), (2, .int (nI n)), (3, .int (nI b)), (4, .long dr50), (6, .int 0), (8, .int (nI n))]) n70_64 rfl rfl (by decide) rfl ?_
  refine am_e_goto c70_65 t70_65 ?_
  refine am_e_iload n70_21 rfl ?_
  refine am_e_bipush (w := 10) n70_22 (by decide) ?_
  refine am_e_cmpF n70_23 (am_c_geF (by decide)) ?_
  refine am_e_aload_n n70_24 rfl ?_
  refine am_e_getf (v := .ref 148) n70_25 rfl ((F50 0 11 rfl).trans ((F49 0 11 rfl).trans ((F48 0 11 rfl).trans (f0_11 (h := h) hT)))) ?_
  refine am_e_aload_n n70_26 rfl ?_
  refine am_e_getf (v := .ref 2) n70_27 rfl ((F50 0 2 rfl).trans ((F49 0 2 rfl).trans ((F48 0 2 rfl).trans (f0_2 (h := h) hT)))) ?_
  refine am_e_aload_n n70_28 rfl ?_
  refine am_e_getf (v := .ref 48) n70_29 rfl ((F50 0 5 rfl).trans ((F49 0 5 rfl).trans ((F48 0 5 rfl).trans (f0_5 (h := h) hT)))) ?_
  refine am_e_callV (L := [(0, .ref 148), (1, .ref 2), (2, .ref 48)]) n70_30 rfl rfl rfl rfl rfl rfl rfl rfl ?_
  refine am_e_aload_n n31_0 rfl ?_
  refine am_e_aload_n n31_1 rfl ?_
  refine am_e_putf n31_2 rfl rfl ?_
  refine am_e_aload_n n31_3 rfl ?_
  refine am_e_getf (v := .ref 149) n31_4 rfl ((F50 148 1 rfl).trans ((F49 148 1 rfl).trans ((F48 148 1 rfl).trans (f148_1 (h := h) hT)))) ?_
  refine am_e_aload_n n31_5 rfl ?_
  refine am_e_callV (L := [(0, .ref 149), (1, .ref 48)]) n31_6 rfl rfl rfl rfl rfl rfl rfl rfl ?_
  refine am_e_aload_n n32_0 rfl ?_
  refine am_e_aload_n n32_1 rfl ?_
  refine am_e_getf (v := .int 0) n32_2 rfl ((F50 48 0 rfl).trans ((F49 48 0 rfl).trans ((F48 48 0 rfl).trans (f48_0 (h := h) hT)))) ?_
  refine am_e_putf n32_3 rfl rfl ?_
  refine am_e_aload_n n32_4 rfl ?_
  refine am_e_aload_n n32_5 rfl ?_
  refine am_e_getf (v := .int 0) n32_6 rfl ((F50 48 1 rfl).trans ((F49 48 1 rfl).trans ((F48 48 1 rfl).trans (f48_1 (h := h) hT)))) ?_
  refine am_e_putf n32_7 rfl rfl ?_
  refine am_e_aload_n n32_8 rfl ?_
  refine am_e_aload_n n32_9 rfl ?_
  refine am_e_getf (v := .int (-1)) n32_10 rfl ((F50 48 2 rfl).trans ((F49 48 2 rfl).trans ((F48 48 2 rfl).trans (f48_2 (h := h) hT)))) ?_
  refine am_e_putf n32_11 rfl rfl ?_
  refine am_e_aload_n n32_12 rfl ?_
  refine am_e_aload_n n32_13 rfl ?_
  refine am_e_getf (v := .int 0) n32_14 rfl ((F50 48 3 rfl).trans ((F49 48 3 rfl).trans ((F48 48 3 rfl).trans (f48_3 (h := h) hT)))) ?_
  refine am_e_putf n32_15 rfl rfl ?_
  refine am_e_aload_n n32_16 rfl ?_
  refine am_e_aload_n n32_17 rfl ?_
  refine am_e_getf (v := .int 0) n32_18 rfl ((F50 48 4 rfl).trans ((F49 48 4 rfl).trans ((F48 48 4 rfl).trans (f48_4 (h := h) hT)))) ?_
  refine am_e_putf n32_19 rfl rfl ?_
  refine am_e_iconst (w := 0) n32_20 rfl ?_
  refine am_e_istore_n (ls' := [(2, .int 0), (0, .ref 149), (1, .ref 48)]) n32_21 rfl rfl ?_
  refine am_e_iload_n n32_22 rfl ?_
  refine am_e_iconst (w := 4) n32_23 rfl ?_
  refine am_e_cmpF n32_24 (am_c_geF (by decide)) ?_
  refine am_e_aload_n n32_25 rfl ?_
  refine am_e_getf (v := .ref 150) n32_26 rfl ((F50 149 5 rfl).trans ((F49 149 5 rfl).trans ((F48 149 5 rfl).trans (f149_5 (h := h) hT)))) ?_
  refine am_e_iload_n n32_27 rfl ?_
  refine am_e_aload_n n32_28 rfl ?_
  refine am_e_getf (v := .ref 49) n32_29 rfl ((F50 48 5 rfl).trans ((F49 48 5 rfl).trans ((F48 48 5 rfl).trans (f48_5 (h := h) hT)))) ?_
  refine am_e_iload_n n32_30 rfl ?_
  refine am_e_iaload (v := 0) (q := 0) n32_31 rfl (by decide) (by decide) ((F50 49 0 rfl).trans ((F49 49 0 rfl).trans ((F48 49 0 rfl).trans (f49_0 (h := h) hT)))) ?_
  refine am_e_iastore (q := 0) n32_32 rfl (by decide) (by decide) ?_
  refine am_e_aload_n n32_33 rfl ?_
  refine am_e_getf (v := .ref 151) n32_34 rfl ((F50 149 6 rfl).trans ((F49 149 6 rfl).trans ((F48 149 6 rfl).trans (f149_6 (h := h) hT)))) ?_
  refine am_e_iload_n n32_35 rfl ?_
  refine am_e_aload_n n32_36 rfl ?_
  refine am_e_getf (v := .ref 50) n32_37 rfl ((F50 48 6 rfl).trans ((F49 48 6 rfl).trans ((F48 48 6 rfl).trans (f48_6 (h := h) hT)))) ?_
  refine am_e_iload_n n32_38 rfl ?_
  refine am_e_iaload (v := 0) (q := 0) n32_39 rfl (by decide) (by decide) ((F50 50 0 rfl).trans ((F49 50 0 rfl).trans ((F48 50 0 rfl).trans (f50_0 (h := h) hT)))) ?_
  refine am_e_iastore (q := 0) n32_40 rfl (by decide) (by decide) ?_
  refine am_e_aload_n n32_41 rfl ?_
  refine am_e_getf (v := .ref 152) n32_42 rfl ((F50 149 7 rfl).trans ((F49 149 7 rfl).trans ((F48 149 7 rfl).trans (f149_7 (h := h) hT)))) ?_
  refine am_e_iload_n n32_43 rfl ?_
  refine am_e_aload_n n32_44 rfl ?_
  refine am_e_getf (v := .ref 51) n32_45 rfl ((F50 48 7 rfl).trans ((F49 48 7 rfl).trans ((F48 48 7 rfl).trans (f48_7 (h := h) hT)))) ?_
  refine am_e_iload_n n32_46 rfl ?_
  refine am_e_iaload (v := 0) (q := 0) n32_47 rfl (by decide) (by decide) ((F50 51 0 rfl).trans ((F49 51 0 rfl).trans ((F48 51 0 rfl).trans (f51_0 (h := h) hT)))) ?_
  refine am_e_iastore (q := 0) n32_48 rfl (by decide) (by decide) ?_
  refine am_e_iinc (w := 1) (ls' := [(2, .int 1), (0, .ref 149), (1, .ref 48)]) n32_49 rfl rfl (by decide) rfl ?_
  refine am_e_goto c32_50 t32_50 ?_
  refine am_e_iload_n n32_22 rfl ?_
  refine am_e_iconst (w := 4) n32_23 rfl ?_
  refine am_e_cmpF n32_24 (am_c_geF (by decide)) ?_
  refine am_e_aload_n n32_25 rfl ?_
  refine am_e_getf (v := .ref 150) n32_26 rfl ((F50 149 5 rfl).trans ((F49 149 5 rfl).trans ((F48 149 5 rfl).trans (f149_5 (h := h) hT)))) ?_
  refine am_e_iload_n n32_27 rfl ?_
  refine am_e_aload_n n32_28 rfl ?_
  refine am_e_getf (v := .ref 49) n32_29 rfl ((F50 48 5 rfl).trans ((F49 48 5 rfl).trans ((F48 48 5 rfl).trans (f48_5 (h := h) hT)))) ?_
  refine am_e_iload_n n32_30 rfl ?_
  refine am_e_iaload (v := 0) (q := 1) n32_31 rfl (by decide) (by decide) ((F50 49 1 rfl).trans ((F49 49 1 rfl).trans ((F48 49 1 rfl).trans (f49_1 (h := h) hT)))) ?_
  refine am_e_iastore (q := 1) n32_32 rfl (by decide) (by decide) ?_
  refine am_e_aload_n n32_33 rfl ?_
  refine am_e_getf (v := .ref 151) n32_34 rfl ((F50 149 6 rfl).trans ((F49 149 6 rfl).trans ((F48 149 6 rfl).trans (f149_6 (h := h) hT)))) ?_
  refine am_e_iload_n n32_35 rfl ?_
  refine am_e_aload_n n32_36 rfl ?_
  refine am_e_getf (v := .ref 50) n32_37 rfl ((F50 48 6 rfl).trans ((F49 48 6 rfl).trans ((F48 48 6 rfl).trans (f48_6 (h := h) hT)))) ?_
  refine am_e_iload_n n32_38 rfl ?_
  refine am_e_iaload (v := 0) (q := 1) n32_39 rfl (by decide) (by decide) ((F50 50 1 rfl).trans ((F49 50 1 rfl).trans ((F48 50 1 rfl).trans (f50_1 (h := h) hT)))) ?_
  refine am_e_iastore (q := 1) n32_40 rfl (by decide) (by decide) ?_
  refine am_e_aload_n n32_41 rfl ?_
  refine am_e_getf (v := .ref 152) n32_42 rfl ((F50 149 7 rfl).trans ((F49 149 7 rfl).trans ((F48 149 7 rfl).trans (f149_7 (h := h) hT)))) ?_
  refine am_e_iload_n n32_43 rfl ?_
  refine am_e_aload_n n32_44 rfl ?_
  refine am_e_getf (v := .ref 51) n32_45 rfl ((F50 48 7 rfl).trans ((F49 48 7 rfl).trans ((F48 48 7 rfl).trans (f48_7 (h := h) hT)))) ?_
  refine am_e_iload_n n32_46 rfl ?_
  refine am_e_iaload (v := 0) (q := 1) n32_47 rfl (by decide) (by decide) ((F50 51 1 rfl).trans ((F49 51 1 rfl).trans ((F48 51 1 rfl).trans (f51_1 (h := h) hT)))) ?_
  refine am_e_iastore (q := 1) n32_48 rfl (by decide) (by decide) ?_
  refine am_e_iinc (w := 2) (ls' := [(2, .int 2), (0, .ref 149), (1, .ref 48)]) n32_49 rfl rfl (by decide) rfl ?_
  refine am_e_goto c32_50 t32_50 ?_
  refine am_e_iload_n n32_22 rfl ?_
  refine am_e_iconst (w := 4) n32_23 rfl ?_
  refine am_e_cmpF n32_24 (am_c_geF (by decide)) ?_
  refine am_e_aload_n n32_25 rfl ?_
  refine am_e_getf (v := .ref 150) n32_26 rfl ((F50 149 5 rfl).trans ((F49 149 5 rfl).trans ((F48 149 5 rfl).trans (f149_5 (h := h) hT)))) ?_
  refine am_e_iload_n n32_27 rfl ?_
  refine am_e_aload_n n32_28 rfl ?_
  refine am_e_getf (v := .ref 49) n32_29 rfl ((F50 48 5 rfl).trans ((F49 48 5 rfl).trans ((F48 48 5 rfl).trans (f48_5 (h := h) hT)))) ?_
  refine am_e_iload_n n32_30 rfl ?_
  refine am_e_iaload (v := 0) (q := 2) n32_31 rfl (by decide) (by decide) ((F50 49 2 rfl).trans ((F49 49 2 rfl).trans ((F48 49 2 rfl).trans (f49_2 (h := h) hT)))) ?_
  refine am_e_iastore (q := 2) n32_32 rfl (by decide) (by decide) ?_
  refine am_e_aload_n n32_33 rfl ?_
  refine am_e_getf (v := .ref 151) n32_34 rfl ((F50 149 6 rfl).trans ((F49 149 6 rfl).trans ((F48 149 6 rfl).trans (f149_6 (h := h) hT)))) ?_
  refine am_e_iload_n n32_35 rfl ?_
  refine am_e_aload_n n32_36 rfl ?_
  refine am_e_getf (v := .ref 50) n32_37 rfl ((F50 48 6 rfl).trans ((F49 48 6 rfl).trans ((F48 48 6 rfl).trans (f48_6 (h := h) hT)))) ?_
  refine am_e_iload_n n32_38 rfl ?_
  refine am_e_iaload (v := 0) (q := 2) n32_39 rfl (by decide) (by decide) ((F50 50 2 rfl).trans ((F49 50 2 rfl).trans ((F48 50 2 rfl).trans (f50_2 (h := h) hT)))) ?_
  refine am_e_iastore (q := 2) n32_40 rfl (by decide) (by decide) ?_
  refine am_e_aload_n n32_41 rfl ?_
  refine am_e_getf (v := .ref 152) n32_42 rfl ((F50 149 7 rfl).trans ((F49 149 7 rfl).trans ((F48 149 7 rfl).trans (f149_7 (h := h) hT)))) ?_
  refine am_e_iload_n n32_43 rfl ?_
  refine am_e_aload_n n32_44 rfl ?_
  refine am_e_getf (v := .ref 51) n32_45 rfl ((F50 48 7 rfl).trans ((F49 48 7 rfl).trans ((F48 48 7 rfl).trans (f48_7 (h := h) hT)))) ?_
  refine am_e_iload_n n32_46 rfl ?_
  refine am_e_iaload (v := 0) (q := 2) n32_47 rfl (by decide) (by decide) ((F50 51 2 rfl).trans ((F49 51 2 rfl).trans ((F48 51 2 rfl).trans (f51_2 (h := h) hT)))) ?_
  refine am_e_iastore (q := 2) n32_48 rfl (by decide) (by decide) ?_
  refine am_e_iinc (w := 3) (ls' := [(2, .int 3), (0, .ref 149), (1, .ref 48)]) n32_49 rfl rfl (by decide) rfl ?_
  refine am_e_goto c32_50 t32_50 ?_
  refine am_e_iload_n n32_22 rfl ?_
  refine am_e_iconst (w := 4) n32_23 rfl ?_
  refine am_e_cmpF n32_24 (am_c_geF (by decide)) ?_
  refine am_e_aload_n n32_25 rfl ?_
  refine am_e_getf (v := .ref 150) n32_26 rfl ((F50 149 5 rfl).trans ((F49 149 5 rfl).trans ((F48 149 5 rfl).trans (f149_5 (h := h) hT)))) ?_
  refine am_e_iload_n n32_27 rfl ?_
  refine am_e_aload_n n32_28 rfl ?_
  refine am_e_getf (v := .ref 49) n32_29 rfl ((F50 48 5 rfl).trans ((F49 48 5 rfl).trans ((F48 48 5 rfl).trans (f48_5 (h := h) hT)))) ?_
  refine am_e_iload_n n32_30 rfl ?_
  refine am_e_iaload (v := 0) (q := 3) n32_31 rfl (by decide) (by decide) ((F50 49 3 rfl).trans ((F49 49 3 rfl).trans ((F48 49 3 rfl).trans (f49_3 (h := h) hT)))) ?_
  refine am_e_iastore (q := 3) n32_32 rfl (by decide) (by decide) ?_
  refine am_e_aload_n n32_33 rfl ?_
  refine am_e_getf (v := .ref 151) n32_34 rfl ((F50 149 6 rfl).trans ((F49 149 6 rfl).trans ((F48 149 6 rfl).trans (f149_6 (h := h) hT)))) ?_
  refine am_e_iload_n n32_35 rfl ?_
  refine am_e_aload_n n32_36 rfl ?_
  refine am_e_getf (v := .ref 50) n32_37 rfl ((F50 48 6 rfl).trans ((F49 48 6 rfl).trans ((F48 48 6 rfl).trans (f48_6 (h := h) hT)))) ?_
  refine am_e_iload_n n32_38 rfl ?_
  refine am_e_iaload (v := 0) (q := 3) n32_39 rfl (by decide) (by decide) ((F50 50 3 rfl).trans ((F49 50 3 rfl).trans ((F48 50 3 rfl).trans (f50_3 (h := h) hT)))) ?_
  refine am_e_iastore (q := 3) n32_40 rfl (by decide) (by decide) ?_
  refine am_e_aload_n n32_41 rfl ?_
  refine am_e_getf (v := .ref 152) n32_42 rfl ((F50 149 7 rfl).trans ((F49 149 7 rfl).trans ((F48 149 7 rfl).trans (f149_7 (h := h) hT)))) ?_
  refine am_e_iload_n n32_43 rfl ?_
  refine am_e_aload_n n32_44 rfl ?_
  refine am_e_getf (v := .ref 51) n32_45 rfl ((F50 48 7 rfl).trans ((F49 48 7 rfl).trans ((F48 48 7 rfl).trans (f48_7 (h := h) hT)))) ?_
  refine am_e_iload_n n32_46 rfl ?_
  refine am_e_iaload (v := 0) (q := 3) n32_47 rfl (by decide) (by decide) ((F50 51 3 rfl).trans ((F49 51 3 rfl).trans ((F48 51 3 rfl).trans (f51_3 (h := h) hT)))) ?_
  refine am_e_iastore (q := 3) n32_48 rfl (by decide) (by decide) ?_
  refine am_e_iinc (w := 4) (ls' := [(2, .int 4), (0, .ref 149), (1, .ref 48)]) n32_49 rfl rfl (by decide) rfl ?_
  refine am_e_goto c32_50 t32_50 ?_
  refine am_e_iload_n n32_22 rfl ?_
  refine am_e_iconst (w := 4) n32_23 rfl ?_
  refine am_e_cmpT n32_24 (am_c_geT (by decide)) t32_24 ?_
  refine am_e_vret c32_51 rfl rfl ?_
  refine am_e_aload_n n31_7 rfl ?_
  refine am_e_aload_n n31_8 rfl ?_
  refine am_e_getf (v := .int (-1)) n31_9 rfl ((F50 2 18 rfl).trans ((F49 2 18 rfl).trans ((F48 2 18 rfl).trans (f2_18 (h := h) hT)))) ?_
  refine am_e_putf n31_10 rfl rfl ?_
  refine am_e_aload_n n31_11 rfl ?_
  refine am_e_iconst (w := 0) n31_12 rfl ?_
  refine am_e_putf n31_13 rfl rfl ?_
  refine am_e_aload_n n31_14 rfl ?_
  refine am_e_iconst (w := 0) n31_15 rfl ?_
  refine am_e_putf n31_16 rfl rfl ?_
  refine am_e_aload_n n31_17 rfl ?_
  refine am_e_ldc (w := 2147483647) n31_18 (by decide) ?_
  refine am_e_putf n31_19 rfl rfl ?_
  refine am_e_aload_n n31_20 rfl ?_
  refine am_e_ldc (w := 2147483647) n31_21 (by decide) ?_
  refine am_e_putf n31_22 rfl rfl ?_
  refine am_e_vret c31_23 rfl rfl ?_
  refine am_e_iconst (w := 0) n70_31 rfl ?_
  refine am_e_istore (ls' := [(8, .int 0), (7, .int 3), (0, .ref 0), (2, .int (nI n)), (3, .int (nI b)), (4, .long dr50), (6, .int 0)]) n70_32 rfl rfl ?_
  refine am_Ek_ls (ls' := [(0, .ref 0), (2, .int (nI n)), (3, .int (nI b)), (4, .long dr50), (6, .int 0), (7, .int 3), (8, .int (nI 0))]) ⟨rfl, rfl, rfl, rfl, rfl, rfl, rfl, trivial⟩ ?_
  refine am_cc_e (n := n) (b := b) (s := 0) (t := 0) (i7 := 3) (dr := dr50) (by omega) (by omega) ⟨((F50 0 11 rfl).trans ((F49 0 11 rfl).trans ((F48 0 11 rfl).trans (f0_11 (h := h) hT)))), ((F50 0 2 rfl).trans ((F49 0 2 rfl).trans ((F48 0 2 rfl).trans (f0_2 (h := h) hT)))), ((F50 2 16 rfl).trans ((F49 2 16 rfl).trans ((F48 2 16 rfl).trans (f2_16 (h := h) hT)))), ((F50 148 1 rfl).trans ((F49 148 1 rfl).trans ((F48 148 1 rfl).trans (f148_1 (h := h) hT)))), rfl, rfl, ((F50 2 19 rfl).trans ((F49 2 19 rfl).trans ((F48 2 19 rfl).trans (f2_19 (h := h) hT)))), ((F50 11 7 rfl).trans ((F49 11 7 rfl).trans ((F48 11 7 rfl).trans (f11_7 (h := h) hT)))), ((F50 2 0 rfl).trans ((F49 2 0 rfl).trans ((F48 2 0 rfl).trans (f2_0 (h := h) hT)))), ((F50 11 6 rfl).trans ((F49 11 6 rfl).trans ((F48 11 6 rfl).trans (f11_6 (h := h) hT)))), ((F50 16 0 rfl).trans ((F49 16 0 rfl).trans ((F48 16 0 rfl).trans (f16_0 (h := h) hT)))), ((F50 11 4 rfl).trans ((F49 11 4 rfl).trans ((F48 11 4 rfl).trans (f11_4 (h := h) hT)))), ((F50 14 0 rfl).trans ((F49 14 0 rfl).trans ((F48 14 0 rfl).trans (f14_0 (h := h) hT)))), ((F50 11 5 rfl).trans ((F49 11 5 rfl).trans ((F48 11 5 rfl).trans (f11_5 (h := h) hT)))), ((F50 15 0 rfl).trans ((F49 15 0 rfl).trans ((F48 15 0 rfl).trans (f15_0 (h := h) hT)))), rfl, rfl, trivial⟩ rfl rfl rfl ?_
  intro h51 dr51 F51 qa51 qb51 qc51
  obtain ⟨l51, qc51⟩ := qc51
  refine am_e_aload_n n70_57 rfl ?_
  refine am_e_getf (v := .ref 148) n70_58 rfl ((F51 0 11 rfl).trans ((F50 0 11 rfl).trans ((F49 0 11 rfl).trans ((F48 0 11 rfl).trans (f0_11 (h := h) hT))))) ?_
  refine am_e_getf (v := .ref 149) n70_59 rfl ((F51 148 1 rfl).trans ((F50 148 1 rfl).trans ((F49 148 1 rfl).trans ((F48 148 1 rfl).trans (f148_1 (h := h) hT))))) ?_
  refine am_e_getf (v := .int 0) n70_60 rfl qa51 ?_
  refine am_e_iload_n n70_61 rfl ?_
  refine am_e_cmpT n70_62 (am_c_ltT (nI_lt (a := 0) hb0 (by omega))) t70_62 ?_
  refine am_e_iinc (w := 4) (ls' := [(7, .int 4), (0, .ref 0), (2, .int (nI n)), (3, .int (nI b)), (4, .long dr51), (6, .int 0), (8, .int (nI n))]) n70_64 rfl rfl (by decide) rfl ?_
  refine am_e_goto c70_65 t70_65 ?_
  refine am_e_iload n70_21 rfl ?_
  refine am_e_bipush (w := 10) n70_22 (by decide) ?_
  refine am_e_cmpF n70_23 (am_c_geF (by decide)) ?_
  refine am_e_aload_n n70_24 rfl ?_
  refine am_e_getf (v := .ref 148) n70_25 rfl ((F51 0 11 rfl).trans ((F50 0 11 rfl).trans ((F49 0 11 rfl).trans ((F48 0 11 rfl).trans (f0_11 (h := h) hT))))) ?_
  refine am_e_aload_n n70_26 rfl ?_
  refine am_e_getf (v := .ref 2) n70_27 rfl ((F51 0 2 rfl).trans ((F50 0 2 rfl).trans ((F49 0 2 rfl).trans ((F48 0 2 rfl).trans (f0_2 (h := h) hT))))) ?_
  refine am_e_aload_n n70_28 rfl ?_
  refine am_e_getf (v := .ref 48) n70_29 rfl ((F51 0 5 rfl).trans ((F50 0 5 rfl).trans ((F49 0 5 rfl).trans ((F48 0 5 rfl).trans (f0_5 (h := h) hT))))) ?_
  refine am_e_callV (L := [(0, .ref 148), (1, .ref 2), (2, .ref 48)]) n70_30 rfl rfl rfl rfl rfl rfl rfl rfl ?_
  refine am_e_aload_n n31_0 rfl ?_
  refine am_e_aload_n n31_1 rfl ?_
  refine am_e_putf n31_2 rfl rfl ?_
  refine am_e_aload_n n31_3 rfl ?_
  refine am_e_getf (v := .ref 149) n31_4 rfl ((F51 148 1 rfl).trans ((F50 148 1 rfl).trans ((F49 148 1 rfl).trans ((F48 148 1 rfl).trans (f148_1 (h := h) hT))))) ?_
  refine am_e_aload_n n31_5 rfl ?_
  refine am_e_callV (L := [(0, .ref 149), (1, .ref 48)]) n31_6 rfl rfl rfl rfl rfl rfl rfl rfl ?_
  refine am_e_aload_n n32_0 rfl ?_
  refine am_e_aload_n n32_1 rfl ?_
  refine am_e_getf (v := .int 0) n32_2 rfl ((F51 48 0 rfl).trans ((F50 48 0 rfl).trans ((F49 48 0 rfl).trans ((F48 48 0 rfl).trans (f48_0 (h := h) hT))))) ?_
  refine am_e_putf n32_3 rfl rfl ?_
  refine am_e_aload_n n32_4 rfl ?_
  refine am_e_aload_n n32_5 rfl ?_
  refine am_e_getf (v := .int 0) n32_6 rfl ((F51 48 1 rfl).trans ((F50 48 1 rfl).trans ((F49 48 1 rfl).trans ((F48 48 1 rfl).trans (f48_1 (h := h) hT))))) ?_
  refine am_e_putf n32_7 rfl rfl ?_
  refine am_e_aload_n n32_8 rfl ?_
  refine am_e_aload_n n32_9 rfl ?_
  refine am_e_getf (v := .int (-1)) n32_10 rfl ((F51 48 2 rfl).trans ((F50 48 2 rfl).trans ((F49 48 2 rfl).trans ((F48 48 2 rfl).trans (f48_2 (h := h) hT))))) ?_
  refine am_e_putf n32_11 rfl rfl ?_
  refine am_e_aload_n n32_12 rfl ?_
  refine am_e_aload_n n32_13 rfl ?_
  refine am_e_getf (v := .int 0) n32_14 rfl ((F51 48 3 rfl).trans ((F50 48 3 rfl).trans ((F49 48 3 rfl).trans ((F48 48 3 rfl).trans (f48_3 (h := h) hT))))) ?_
  refine am_e_putf n32_15 rfl rfl ?_
  refine am_e_aload_n n32_16 rfl ?_
  refine am_e_aload_n n32_17 rfl ?_
  refine am_e_getf (v := .int 0) n32_18 rfl ((F51 48 4 rfl).trans ((F50 48 4 rfl).trans ((F49 48 4 rfl).trans ((F48 48 4 rfl).trans (f48_4 (h := h) hT))))) ?_
  refine am_e_putf n32_19 rfl rfl ?_
  refine am_e_iconst (w := 0) n32_20 rfl ?_
  refine am_e_istore_n (ls' := [(2, .int 0), (0, .ref 149), (1, .ref 48)]) n32_21 rfl rfl ?_
  refine am_e_iload_n n32_22 rfl ?_
  refine am_e_iconst (w := 4) n32_23 rfl ?_
  refine am_e_cmpF n32_24 (am_c_geF (by decide)) ?_
  refine am_e_aload_n n32_25 rfl ?_
  refine am_e_getf (v := .ref 150) n32_26 rfl ((F51 149 5 rfl).trans ((F50 149 5 rfl).trans ((F49 149 5 rfl).trans ((F48 149 5 rfl).trans (f149_5 (h := h) hT))))) ?_
  refine am_e_iload_n n32_27 rfl ?_
  refine am_e_aload_n n32_28 rfl ?_
  refine am_e_getf (v := .ref 49) n32_29 rfl ((F51 48 5 rfl).trans ((F50 48 5 rfl).trans ((F49 48 5 rfl).trans ((F48 48 5 rfl).trans (f48_5 (h := h) hT))))) ?_
  refine am_e_iload_n n32_30 rfl ?_
  refine am_e_iaload (v := 0) (q := 0) n32_31 rfl (by decide) (by decide) ((F51 49 0 rfl).trans ((F50 49 0 rfl).trans ((F49 49 0 rfl).trans ((F48 49 0 rfl).trans (f49_0 (h := h) hT))))) ?_
  refine am_e_iastore (q := 0) n32_32 rfl (by decide) (by decide) ?_
  refine am_e_aload_n n32_33 rfl ?_
  refine am_e_getf (v := .ref 151) n32_34 rfl ((F51 149 6 rfl).trans ((F50 149 6 rfl).trans ((F49 149 6 rfl).trans ((F48 149 6 rfl).trans (f149_6 (h := h) hT))))) ?_
  refine am_e_iload_n n32_35 rfl ?_
  refine am_e_aload_n n32_36 rfl ?_
  refine am_e_getf (v := .ref 50) n32_37 rfl ((F51 48 6 rfl).trans ((F50 48 6 rfl).trans ((F49 48 6 rfl).trans ((F48 48 6 rfl).trans (f48_6 (h := h) hT))))) ?_
  refine am_e_iload_n n32_38 rfl ?_
  refine am_e_iaload (v := 0) (q := 0) n32_39 rfl (by decide) (by decide) ((F51 50 0 rfl).trans ((F50 50 0 rfl).trans ((F49 50 0 rfl).trans ((F48 50 0 rfl).trans (f50_0 (h := h) hT))))) ?_
  refine am_e_iastore (q := 0) n32_40 rfl (by decide) (by decide) ?_
  refine am_e_aload_n n32_41 rfl ?_
  refine am_e_getf (v := .ref 152) n32_42 rfl ((F51 149 7 rfl).trans ((F50 149 7 rfl).trans ((F49 149 7 rfl).trans ((F48 149 7 rfl).trans (f149_7 (h := h) hT))))) ?_
  refine am_e_iload_n n32_43 rfl ?_
  refine am_e_aload_n n32_44 rfl ?_
  refine am_e_getf (v := .ref 51) n32_45 rfl ((F51 48 7 rfl).trans ((F50 48 7 rfl).trans ((F49 48 7 rfl).trans ((F48 48 7 rfl).trans (f48_7 (h := h) hT))))) ?_
  refine am_e_iload_n n32_46 rfl ?_
  refine am_e_iaload (v := 0) (q := 0) n32_47 rfl (by decide) (by decide) ((F51 51 0 rfl).trans ((F50 51 0 rfl).trans ((F49 51 0 rfl).trans ((F48 51 0 rfl).trans (f51_0 (h := h) hT))))) ?_
  refine am_e_iastore (q := 0) n32_48 rfl (by decide) (by decide) ?_
  refine am_e_iinc (w := 1) (ls' := [(2, .int 1), (0, .ref 149), (1, .ref 48)]) n32_49 rfl rfl (by decide) rfl ?_
  refine am_e_goto c32_50 t32_50 ?_
  refine am_e_iload_n n32_22 rfl ?_
  refine am_e_iconst (w := 4) n32_23 rfl ?_
  refine am_e_cmpF n32_24 (am_c_geF (by decide)) ?_
  refine am_e_aload_n n32_25 rfl ?_
  refine am_e_getf (v := .ref 150) n32_26 rfl ((F51 149 5 rfl).trans ((F50 149 5 rfl).trans ((F49 149 5 rfl).trans ((F48 149 5 rfl).trans (f149_5 (h := h) hT))))) ?_
  refine am_e_iload_n n32_27 rfl ?_
  refine am_e_aload_n n32_28 rfl ?_
  refine am_e_getf (v := .ref 49) n32_29 rfl ((F51 48 5 rfl).trans ((F50 48 5 rfl).trans ((F49 48 5 rfl).trans ((F48 48 5 rfl).trans (f48_5 (h := h) hT))))) ?_
  refine am_e_iload_n n32_30 rfl ?_
  refine am_e_iaload (v := 0) (q := 1) n32_31 rfl (by decide) (by decide) ((F51 49 1 rfl).trans ((F50 49 1 rfl).trans ((F49 49 1 rfl).trans ((F48 49 1 rfl).trans (f49_1 (h := h) hT))))) ?_
  refine am_e_iastore (q := 1) n32_32 rfl (by decide) (by decide) ?_
  refine am_e_aload_n n32_33 rfl ?_
  refine am_e_getf (v := .ref 151) n32_34 rfl ((F51 149 6 rfl).trans ((F50 149 6 rfl).trans ((F49 149 6 rfl).trans ((F48 149 6 rfl).trans (f149_6 (h := h) hT))))) ?_
  refine am_e_iload_n n32_35 rfl ?_
  refine am_e_aload_n n32_36 rfl ?_
  refine am_e_getf (v := .ref 50) n32_37 rfl ((F51 48 6 rfl).trans ((F50 48 6 rfl).trans ((F49 48 6 rfl).trans ((F48 48 6 rfl).trans (f48_6 (h := h) hT))))) ?_
  refine am_e_iload_n n32_38 rfl ?_
  refine am_e_iaload (v := 0) (q := 1) n32_39 rfl (by decide) (by decide) ((F51 50 1 rfl).trans ((F50 50 1 rfl).trans ((F49 50 1 rfl).trans ((F48 50 1 rfl).trans (f50_1 (h := h) hT))))) ?_
  refine am_e_iastore (q := 1) n32_40 rfl (by decide) (by decide) ?_
  refine am_e_aload_n n32_41 rfl ?_
  refine am_e_getf (v := .ref 152) n32_42 rfl ((F51 149 7 rfl).trans ((F50 149 7 rfl).trans ((F49 149 7 rfl).trans ((F48 149 7 rfl).trans (f149_7 (h := h) hT))))) ?_
  refine am_e_iload_n n32_43 rfl ?_
  refine am_e_aload_n n32_44 rfl ?_
  refine am_e_getf (v := .ref 51) n32_45 rfl ((F51 48 7 rfl).trans ((F50 48 7 rfl).trans ((F49 48 7 rfl).trans ((F48 48 7 rfl).trans (f48_7 (h := h) hT))))) ?_
  refine am_e_iload_n n32_46 rfl ?_
  refine am_e_iaload (v := 0) (q := 1) n32_47 rfl (by decide) (by decide) ((F51 51 1 rfl).trans ((F50 51 1 rfl).trans ((F49 51 1 rfl).trans ((F48 51 1 rfl).trans (f51_1 (h := h) hT))))) ?_
  refine am_e_iastore (q := 1) n32_48 rfl (by decide) (by decide) ?_
  refine am_e_iinc (w := 2) (ls' := [(2, .int 2), (0, .ref 149), (1, .ref 48)]) n32_49 rfl rfl (by decide) rfl ?_
  refine am_e_goto c32_50 t32_50 ?_
  refine am_e_iload_n n32_22 rfl ?_
  refine am_e_iconst (w := 4) n32_23 rfl ?_
  refine am_e_cmpF n32_24 (am_c_geF (by decide)) ?_
  refine am_e_aload_n n32_25 rfl ?_
  refine am_e_getf (v := .ref 150) n32_26 rfl ((F51 149 5 rfl).trans ((F50 149 5 rfl).trans ((F49 149 5 rfl).trans ((F48 149 5 rfl).trans (f149_5 (h := h) hT))))) ?_
  refine am_e_iload_n n32_27 rfl ?_
  refine am_e_aload_n n32_28 rfl ?_
  refine am_e_getf (v := .ref 49) n32_29 rfl ((F51 48 5 rfl).trans ((F50 48 5 rfl).trans ((F49 48 5 rfl).trans ((F48 48 5 rfl).trans (f48_5 (h := h) hT))))) ?_
  refine am_e_iload_n n32_30 rfl ?_
  refine am_e_iaload (v := 0) (q := 2) n32_31 rfl (by decide) (by decide) ((F51 49 2 rfl).trans ((F50 49 2 rfl).trans ((F49 49 2 rfl).trans ((F48 49 2 rfl).trans (f49_2 (h := h) hT))))) ?_
  refine am_e_iastore (q := 2) n32_32 rfl (by decide) (by decide) ?_
  refine am_e_aload_n n32_33 rfl ?_
  refine am_e_getf (v := .ref 151) n32_34 rfl ((F51 149 6 rfl).trans ((F50 149 6 rfl).trans ((F49 149 6 rfl).trans ((F48 149 6 rfl).trans (f149_6 (h := h) hT))))) ?_
  refine am_e_iload_n n32_35 rfl ?_
  refine am_e_aload_n n32_36 rfl ?_
  refine am_e_getf (v := .ref 50) n32_37 rfl ((F51 48 6 rfl).trans ((F50 48 6 rfl).trans ((F49 48 6 rfl).trans ((F48 48 6 rfl).trans (f48_6 (h := h) hT))))) ?_
  refine am_e_iload_n n32_38 rfl ?_
  refine am_e_iaload (v := 0) (q := 2) n32_39 rfl (by decide) (by decide) ((F51 50 2 rfl).trans ((F50 50 2 rfl).trans ((F49 50 2 rfl).trans ((F48 50 2 rfl).trans (f50_2 (h := h) hT))))) ?_
  refine am_e_iastore (q := 2) n32_40 rfl (by decide) (by decide) ?_
  refine am_e_aload_n n32_41 rfl ?_
  refine am_e_getf (v := .ref 152) n32_42 rfl ((F51 149 7 rfl).trans ((F50 149 7 rfl).trans ((F49 149 7 rfl).trans ((F48 149 7 rfl).trans (f149_7 (h := h) hT))))) ?_
  refine am_e_iload_n n32_43 rfl ?_
  refine am_e_aload_n n32_44 rfl ?_
  refine am_e_getf (v := .ref 51) n32_45 rfl ((F51 48 7 rfl).trans ((F50 48 7 rfl).trans ((F49 48 7 rfl).trans ((F48 48 7 rfl).trans (f48_7 (h := h) hT))))) ?_
  refine am_e_iload_n n32_46 rfl ?_
  refine am_e_iaload (v := 0) (q := 2) n32_47 rfl (by decide) (by decide) ((F51 51 2 rfl).trans ((F50 51 2 rfl).trans ((F49 51 2 rfl).trans ((F48 51 2 rfl).trans (f51_2 (h := h) hT))))) ?_
  refine am_e_iastore (q := 2) n32_48 rfl (by decide) (by decide) ?_
  refine am_e_iinc (w := 3) (ls' := [(2, .int 3), (0, .ref 149), (1, .ref 48)]) n32_49 rfl rfl (by decide) rfl ?_
  refine am_e_goto c32_50 t32_50 ?_
  refine am_e_iload_n n32_22 rfl ?_
  refine am_e_iconst (w := 4) n32_23 rfl ?_
  refine am_e_cmpF n32_24 (am_c_geF (by decide)) ?_
  refine am_e_aload_n n32_25 rfl ?_
  refine am_e_getf (v := .ref 150) n32_26 rfl ((F51 149 5 rfl).trans ((F50 149 5 rfl).trans ((F49 149 5 rfl).trans ((F48 149 5 rfl).trans (f149_5 (h := h) hT))))) ?_
  refine am_e_iload_n n32_27 rfl ?_
  refine am_e_aload_n n32_28 rfl ?_
  refine am_e_getf (v := .ref 49) n32_29 rfl ((F51 48 5 rfl).trans ((F50 48 5 rfl).trans ((F49 48 5 rfl).trans ((F48 48 5 rfl).trans (f48_5 (h := h) hT))))) ?_
  refine am_e_iload_n n32_30 rfl ?_
  refine am_e_iaload (v := 0) (q := 3) n32_31 rfl (by decide) (by decide) ((F51 49 3 rfl).trans ((F50 49 3 rfl).trans ((F49 49 3 rfl).trans ((F48 49 3 rfl).trans (f49_3 (h := h) hT))))) ?_
  refine am_e_iastore (q := 3) n32_32 rfl (by decide) (by decide) ?_
  refine am_e_aload_n n32_33 rfl ?_
  refine am_e_getf (v := .ref 151) n32_34 rfl ((F51 149 6 rfl).trans ((F50 149 6 rfl).trans ((F49 149 6 rfl).trans ((F48 149 6 rfl).trans (f149_6 (h := h) hT))))) ?_
  refine am_e_iload_n n32_35 rfl ?_
  refine am_e_aload_n n32_36 rfl ?_
  refine am_e_getf (v := .ref 50) n32_37 rfl ((F51 48 6 rfl).trans ((F50 48 6 rfl).trans ((F49 48 6 rfl).trans ((F48 48 6 rfl).trans (f48_6 (h := h) hT))))) ?_
  refine am_e_iload_n n32_38 rfl ?_
  refine am_e_iaload (v := 0) (q := 3) n32_39 rfl (by decide) (by decide) ((F51 50 3 rfl).trans ((F50 50 3 rfl).trans ((F49 50 3 rfl).trans ((F48 50 3 rfl).trans (f50_3 (h := h) hT))))) ?_
  refine am_e_iastore (q := 3) n32_40 rfl (by decide) (by decide) ?_
  refine am_e_aload_n n32_41 rfl ?_
  refine am_e_getf (v := .ref 152) n32_42 rfl ((F51 149 7 rfl).trans ((F50 149 7 rfl).trans ((F49 149 7 rfl).trans ((F48 149 7 rfl).trans (f149_7 (h := h) hT))))) ?_
  refine am_e_iload_n n32_43 rfl ?_
  refine am_e_aload_n n32_44 rfl ?_
  refine am_e_getf (v := .ref 51) n32_45 rfl ((F51 48 7 rfl).trans ((F50 48 7 rfl).trans ((F49 48 7 rfl).trans ((F48 48 7 rfl).trans (f48_7 (h := h) hT))))) ?_
  refine am_e_iload_n n32_46 rfl ?_
  refine am_e_iaload (v := 0) (q := 3) n32_47 rfl (by decide) (by decide) ((F51 51 3 rfl).trans ((F50 51 3 rfl).trans ((F49 51 3 rfl).trans ((F48 51 3 rfl).trans (f51_3 (h := h) hT))))) ?_
  refine am_e_iastore (q := 3) n32_48 rfl (by decide) (by decide) ?_
  refine am_e_iinc (w := 4) (ls' := [(2, .int 4), (0, .ref 149), (1, .ref 48)]) n32_49 rfl rfl (by decide) rfl ?_
  refine am_e_goto c32_50 t32_50 ?_
  refine am_e_iload_n n32_22 rfl ?_
  refine am_e_iconst (w := 4) n32_23 rfl ?_
  refine am_e_cmpT n32_24 (am_c_geT (by decide)) t32_24 ?_
  refine am_e_vret c32_51 rfl rfl ?_
  refine am_e_aload_n n31_7 rfl ?_
  refine am_e_aload_n n31_8 rfl ?_
  refine am_e_getf (v := .int (-1)) n31_9 rfl ((F51 2 18 rfl).trans ((F50 2 18 rfl).trans ((F49 2 18 rfl).trans ((F48 2 18 rfl).trans (f2_18 (h := h) hT))))) ?_
  refine am_e_putf n31_10 rfl rfl ?_
  refine am_e_aload_n n31_11 rfl ?_
  refine am_e_iconst (w := 0) n31_12 rfl ?_
  refine am_e_putf n31_13 rfl rfl ?_
  refine am_e_aload_n n31_14 rfl ?_
  refine am_e_iconst (w := 0) n31_15 rfl ?_
  refine am_e_putf n31_16 rfl rfl ?_
  refine am_e_aload_n n31_17 rfl ?_
  refine am_e_ldc (w := 2147483647) n31_18 (by decide) ?_
  refine am_e_putf n31_19 rfl rfl ?_
  refine am_e_aload_n n31_20 rfl ?_
  refine am_e_ldc (w := 2147483647) n31_21 (by decide) ?_
  refine am_e_putf n31_22 rfl rfl ?_
  refine am_e_vret c31_23 rfl rfl ?_
  refine am_e_iconst (w := 0) n70_31 rfl ?_
  refine am_e_istore (ls' := [(8, .int 0), (7, .int 4), (0, .ref 0), (2, .int (nI n)), (3, .int (nI b)), (4, .long dr51), (6, .int 0)]) n70_32 rfl rfl ?_
  refine am_Ek_ls (ls' := [(0, .ref 0), (2, .int (nI n)), (3, .int (nI b)), (4, .long dr51), (6, .int 0), (7, .int 4), (8, .int (nI 0))]) ⟨rfl, rfl, rfl, rfl, rfl, rfl, rfl, trivial⟩ ?_
  refine am_cc_e (n := n) (b := b) (s := 0) (t := 0) (i7 := 4) (dr := dr51) (by omega) (by omega) ⟨((F51 0 11 rfl).trans ((F50 0 11 rfl).trans ((F49 0 11 rfl).trans ((F48 0 11 rfl).trans (f0_11 (h := h) hT))))), ((F51 0 2 rfl).trans ((F50 0 2 rfl).trans ((F49 0 2 rfl).trans ((F48 0 2 rfl).trans (f0_2 (h := h) hT))))), ((F51 2 16 rfl).trans ((F50 2 16 rfl).trans ((F49 2 16 rfl).trans ((F48 2 16 rfl).trans (f2_16 (h := h) hT))))), ((F51 148 1 rfl).trans ((F50 148 1 rfl).trans ((F49 148 1 rfl).trans ((F48 148 1 rfl).trans (f148_1 (h := h) hT))))), rfl, rfl, ((F51 2 19 rfl).trans ((F50 2 19 rfl).trans ((F49 2 19 rfl).trans ((F48 2 19 rfl).trans (f2_19 (h := h) hT))))), ((F51 11 7 rfl).trans ((F50 11 7 rfl).trans ((F49 11 7 rfl).trans ((F48 11 7 rfl).trans (f11_7 (h := h) hT))))), ((F51 2 0 rfl).trans ((F50 2 0 rfl).trans ((F49 2 0 rfl).trans ((F48 2 0 rfl).trans (f2_0 (h := h) hT))))), ((F51 11 6 rfl).trans ((F50 11 6 rfl).trans ((F49 11 6 rfl).trans ((F48 11 6 rfl).trans (f11_6 (h := h) hT))))), ((F51 16 0 rfl).trans ((F50 16 0 rfl).trans ((F49 16 0 rfl).trans ((F48 16 0 rfl).trans (f16_0 (h := h) hT))))), ((F51 11 4 rfl).trans ((F50 11 4 rfl).trans ((F49 11 4 rfl).trans ((F48 11 4 rfl).trans (f11_4 (h := h) hT))))), ((F51 14 0 rfl).trans ((F50 14 0 rfl).trans ((F49 14 0 rfl).trans ((F48 14 0 rfl).trans (f14_0 (h := h) hT))))), ((F51 11 5 rfl).trans ((F50 11 5 rfl).trans ((F49 11 5 rfl).trans ((F48 11 5 rfl).trans (f11_5 (h := h) hT))))), ((F51 15 0 rfl).trans ((F50 15 0 rfl).trans ((F49 15 0 rfl).trans ((F48 15 0 rfl).trans (f15_0 (h := h) hT))))), rfl, rfl, trivial⟩ rfl rfl rfl ?_
  intro h52 dr52 F52 qa52 qb52 qc52
  obtain ⟨l52, qc52⟩ := qc52
  refine am_e_aload_n n70_57 rfl ?_
  refine am_e_getf (v := .ref 148) n70_58 rfl ((F52 0 11 rfl).trans ((F51 0 11 rfl).trans ((F50 0 11 rfl).trans ((F49 0 11 rfl).trans ((F48 0 11 rfl).trans (f0_11 (h := h) hT)))))) ?_
  refine am_e_getf (v := .ref 149) n70_59 rfl ((F52 148 1 rfl).trans ((F51 148 1 rfl).trans ((F50 148 1 rfl).trans ((F49 148 1 rfl).trans ((F48 148 1 rfl).trans (f148_1 (h := h) hT)))))) ?_
  refine am_e_getf (v := .int 0) n70_60 rfl qa52 ?_
  refine am_e_iload_n n70_61 rfl ?_
  refine am_e_cmpT n70_62 (am_c_ltT (nI_lt (a := 0) hb0 (by omega))) t70_62 ?_
  refine am_e_iinc (w := 5) (ls' := [(7, .int 5), (0, .ref 0), (2, .int (nI n)), (3, .int (nI b)), (4, .long dr52), (6, .int 0), (8, .int (nI n))]) n70_64 rfl rfl (by decide) rfl ?_
  refine am_e_goto c70_65 t70_65 ?_
  refine am_e_iload n70_21 rfl ?_
  refine am_e_bipush (w := 10) n70_22 (by decide) ?_
  refine am_e_cmpF n70_23 (am_c_geF (by decide)) ?_
  refine am_e_aload_n n70_24 rfl ?_
  refine am_e_getf (v := .ref 148) n70_25 rfl ((F52 0 11 rfl).trans ((F51 0 11 rfl).trans ((F50 0 11 rfl).trans ((F49 0 11 rfl).trans ((F48 0 11 rfl).trans (f0_11 (h := h) hT)))))) ?_
  refine am_e_aload_n n70_26 rfl ?_
  refine am_e_getf (v := .ref 2) n70_27 rfl ((F52 0 2 rfl).trans ((F51 0 2 rfl).trans ((F50 0 2 rfl).trans ((F49 0 2 rfl).trans ((F48 0 2 rfl).trans (f0_2 (h := h) hT)))))) ?_
  refine am_e_aload_n n70_28 rfl ?_
  refine am_e_getf (v := .ref 48) n70_29 rfl ((F52 0 5 rfl).trans ((F51 0 5 rfl).trans ((F50 0 5 rfl).trans ((F49 0 5 rfl).trans ((F48 0 5 rfl).trans (f0_5 (h := h) hT)))))) ?_
  refine am_e_callV (L := [(0, .ref 148), (1, .ref 2), (2, .ref 48)]) n70_30 rfl rfl rfl rfl rfl rfl rfl rfl ?_
  refine am_e_aload_n n31_0 rfl ?_
  refine am_e_aload_n n31_1 rfl ?_
  refine am_e_putf n31_2 rfl rfl ?_
  refine am_e_aload_n n31_3 rfl ?_
  refine am_e_getf (v := .ref 149) n31_4 rfl ((F52 148 1 rfl).trans ((F51 148 1 rfl).trans ((F50 148 1 rfl).trans ((F49 148 1 rfl).trans ((F48 148 1 rfl).trans (f148_1 (h := h) hT)))))) ?_
  refine am_e_aload_n n31_5 rfl ?_
  refine am_e_callV (L := [(0, .ref 149), (1, .ref 48)]) n31_6 rfl rfl rfl rfl rfl rfl rfl rfl ?_
  refine am_e_aload_n n32_0 rfl ?_
  refine am_e_aload_n n32_1 rfl ?_
  refine am_e_getf (v := .int 0) n32_2 rfl ((F52 48 0 rfl).trans ((F51 48 0 rfl).trans ((F50 48 0 rfl).trans ((F49 48 0 rfl).trans ((F48 48 0 rfl).trans (f48_0 (h := h) hT)))))) ?_
  refine am_e_putf n32_3 rfl rfl ?_
  refine am_e_aload_n n32_4 rfl ?_
  refine am_e_aload_n n32_5 rfl ?_
  refine am_e_getf (v := .int 0) n32_6 rfl ((F52 48 1 rfl).trans ((F51 48 1 rfl).trans ((F50 48 1 rfl).trans ((F49 48 1 rfl).trans ((F48 48 1 rfl).trans (f48_1 (h := h) hT)))))) ?_
  refine am_e_putf n32_7 rfl rfl ?_
  refine am_e_aload_n n32_8 rfl ?_
  refine am_e_aload_n n32_9 rfl ?_
  refine am_e_getf (v := .int (-1)) n32_10 rfl ((F52 48 2 rfl).trans ((F51 48 2 rfl).trans ((F50 48 2 rfl).trans ((F49 48 2 rfl).trans ((F48 48 2 rfl).trans (f48_2 (h := h) hT)))))) ?_
  refine am_e_putf n32_11 rfl rfl ?_
  refine am_e_aload_n n32_12 rfl ?_
  refine am_e_aload_n n32_13 rfl ?_
  refine am_e_getf (v := .int 0) n32_14 rfl ((F52 48 3 rfl).trans ((F51 48 3 rfl).trans ((F50 48 3 rfl).trans ((F49 48 3 rfl).trans ((F48 48 3 rfl).trans (f48_3 (h := h) hT)))))) ?_
  refine am_e_putf n32_15 rfl rfl ?_
  refine am_e_aload_n n32_16 rfl ?_
  refine am_e_aload_n n32_17 rfl ?_
  refine am_e_getf (v := .int 0) n32_18 rfl ((F52 48 4 rfl).trans ((F51 48 4 rfl).trans ((F50 48 4 rfl).trans ((F49 48 4 rfl).trans ((F48 48 4 rfl).trans (f48_4 (h := h) hT)))))) ?_
  refine am_e_putf n32_19 rfl rfl ?_
  refine am_e_iconst (w := 0) n32_20 rfl ?_
  refine am_e_istore_n (ls' := [(2, .int 0), (0, .ref 149), (1, .ref 48)]) n32_21 rfl rfl ?_
  refine am_e_iload_n n32_22 rfl ?_
  refine am_e_iconst (w := 4) n32_23 rfl ?_
  refine am_e_cmpF n32_24 (am_c_geF (by decide)) ?_
  refine am_e_aload_n n32_25 rfl ?_
  refine am_e_getf (v := .ref 150) n32_26 rfl ((F52 149 5 rfl).trans ((F51 149 5 rfl).trans ((F50 149 5 rfl).trans ((F49 149 5 rfl).trans ((F48 149 5 rfl).trans (f149_5 (h := h) hT)))))) ?_
  refine am_e_iload_n n32_27 rfl ?_
  refine am_e_aload_n n32_28 rfl ?_
  refine am_e_getf (v := .ref 49) n32_29 rfl ((F52 48 5 rfl).trans ((F51 48 5 rfl).trans ((F50 48 5 rfl).trans ((F49 48 5 rfl).trans ((F48 48 5 rfl).trans (f48_5 (h := h) hT)))))) ?_
  refine am_e_iload_n n32_30 rfl ?_
  refine am_e_iaload (v := 0) (q := 0) n32_31 rfl (by decide) (by decide) ((F52 49 0 rfl).trans ((F51 49 0 rfl).trans ((F50 49 0 rfl).trans ((F49 49 0 rfl).trans ((F48 49 0 rfl).trans (f49_0 (h := h) hT)))))) ?_
  refine am_e_iastore (q := 0) n32_32 rfl (by decide) (by decide) ?_
  refine am_e_aload_n n32_33 rfl ?_
  refine am_e_getf (v := .ref 151) n32_34 rfl ((F52 149 6 rfl).trans ((F51 149 6 rfl).trans ((F50 149 6 rfl).trans ((F49 149 6 rfl).trans ((F48 149 6 rfl).trans (f149_6 (h := h) hT)))))) ?_
  refine am_e_iload_n n32_35 rfl ?_
  refine am_e_aload_n n32_36 rfl ?_
  refine am_e_getf (v := .ref 50) n32_37 rfl ((F52 48 6 rfl).trans ((F51 48 6 rfl).trans ((F50 48 6 rfl).trans ((F49 48 6 rfl).trans ((F48 48 6 rfl).trans (f48_6 (h := h) hT)))))) ?_
  refine am_e_iload_n n32_38 rfl ?_
  refine am_e_iaload (v := 0) (q := 0) n32_39 rfl (by decide) (by decide) ((F52 50 0 rfl).trans ((F51 50 0 rfl).trans ((F50 50 0 rfl).trans ((F49 50 0 rfl).trans ((F48 50 0 rfl).trans (f50_0 (h := h) hT)))))) ?_
  refine am_e_iastore (q := 0) n32_40 rfl (by decide) (by decide) ?_
  refine am_e_aload_n n32_41 rfl ?_
  refine am_e_getf (v := .ref 152) n32_42 rfl ((F52 149 7 rfl).trans ((F51 149 7 rfl).trans ((F50 149 7 rfl).trans ((F49 149 7 rfl).trans ((F48 149 7 rfl).trans (f149_7 (h := h) hT)))))) ?_
  refine am_e_iload_n n32_43 rfl ?_
  refine am_e_aload_n n32_44 rfl ?_
  refine am_e_getf (v := .ref 51) n32_45 rfl ((F52 48 7 rfl).trans ((F51 48 7 rfl).trans ((F50 48 7 rfl).trans ((F49 48 7 rfl).trans ((F48 48 7 rfl).trans (f48_7 (h := h) hT)))))) ?_
  refine am_e_iload_n n32_46 rfl ?_
  refine am_e_iaload (v := 0) (q := 0) n32_47 rfl (by decide) (by decide) ((F52 51 0 rfl).trans ((F51 51 0 rfl).trans ((F50 51 0 rfl).trans ((F49 51 0 rfl).trans ((F48 51 0 rfl).trans (f51_0 (h := h) hT)))))) ?_
  refine am_e_iastore (q := 0) n32_48 rfl (by decide) (by decide) ?_
  refine am_e_iinc (w := 1) (ls' := [(2, .int 1), (0, .ref 149), (1, .ref 48)]) n32_49 rfl rfl (by decide) rfl ?_
  refine am_e_goto c32_50 t32_50 ?_
  refine am_e_iload_n n32_22 rfl ?_
  refine am_e_iconst (w := 4) n32_23 rfl ?_
  refine am_e_cmpF n32_24 (am_c_geF (by decide)) ?_
  refine am_e_aload_n n32_25 rfl ?_
  refine am_e_getf (v := .ref 150) n32_26 rfl ((F52 149 5 rfl).trans ((F51 149 5 rfl).trans ((F50 149 5 rfl).trans ((F49 149 5 rfl).trans ((F48 149 5 rfl).trans (f149_5 (h := h) hT)))))) ?_
  refine am_e_iload_n n32_27 rfl ?_
  refine am_e_aload_n n32_28 rfl ?_
  refine am_e_getf (v := .ref 49) n32_29 rfl ((F52 48 5 rfl).trans ((F51 48 5 rfl).trans ((F50 48 5 rfl).trans ((F49 48 5 rfl).trans ((F48 48 5 rfl).trans (f48_5 (h := h) hT)))))) ?_
  refine am_e_iload_n n32_30 rfl ?_
  refine am_e_iaload (v := 0) (q := 1) n32_31 rfl (by decide) (by decide) ((F52 49 1 rfl).trans ((F51 49 1 rfl).trans ((F50 49 1 rfl).trans ((F49 49 1 rfl).trans ((F48 49 1 rfl).trans (f49_1 (h := h) hT)))))) ?_
  refine am_e_iastore (q := 1) n32_32 rfl (by decide) (by decide) ?_
  refine am_e_aload_n n32_33 rfl ?_
  refine am_e_getf (v := .ref 151) n32_34 rfl ((F52 149 6 rfl).trans ((F51 149 6 rfl).trans ((F50 149 6 rfl).trans ((F49 149 6 rfl).trans ((F48 149 6 rfl).trans (f149_6 (h := h) hT)))))) ?_
  refine am_e_iload_n n32_35 rfl ?_
  refine am_e_aload_n n32_36 rfl ?_
  refine am_e_getf (v := .ref 50) n32_37 rfl ((F52 48 6 rfl).trans ((F51 48 6 rfl).trans ((F50 48 6 rfl).trans ((F49 48 6 rfl).trans ((F48 48 6 rfl).trans (f48_6 (h := h) hT)))))) ?_
  refine am_e_iload_n n32_38 rfl ?_
  refine am_e_iaload (v := 0) (q := 1) n32_39 rfl (by decide) (by decide) ((F52 50 1 rfl).trans ((F51 50 1 rfl).trans ((F50 50 1 rfl).trans ((F49 50 1 rfl).trans ((F48 50 1 rfl).trans (f50_1 (h := h) hT)))))) ?_
  refine am_e_iastore (q := 1) n32_40 rfl (by decide) (by decide) ?_
  refine am_e_aload_n n32_41 rfl ?_
  refine am_e_getf (v := .ref 152) n32_42 rfl ((F52 149 7 rfl).trans ((F51 149 7 rfl).trans ((F50 149 7 rfl).trans ((F49 149 7 rfl).trans ((F48 149 7 rfl).trans (f149_7 (h := h) hT)))))) ?_
  refine am_e_iload_n n32_43 rfl ?_
  refine am_e_aload_n n32_44 rfl ?_
  refine am_e_getf (v := .ref 51) n32_45 rfl ((F52 48 7 rfl).trans ((F51 48 7 rfl).trans ((F50 48 7 rfl).trans ((F49 48 7 rfl).trans ((F48 48 7 rfl).trans (f48_7 (h := h) hT)))))) ?_
  refine am_e_iload_n n32_46 rfl ?_
  refine am_e_iaload (v := 0) (q := 1) n32_47 rfl (by decide) (by decide) ((F52 51 1 rfl).trans ((F51 51 1 rfl).trans ((F50 51 1 rfl).trans ((F49 51 1 rfl).trans ((F48 51 1 rfl).trans (f51_1 (h := h) hT)))))) ?_
  refine am_e_iastore (q := 1) n32_48 rfl (by decide) (by decide) ?_
  refine am_e_iinc (w := 2) (ls' := [(2, .int 2), (0, .ref 149), (1, .ref 48)]) n32_49 rfl rfl (by decide) rfl ?_
  refine am_e_goto c32_50 t32_50 ?_
  refine am_e_iload_n n32_22 rfl ?_
  refine am_e_iconst (w := 4) n32_23 rfl ?_
  refine am_e_cmpF n32_24 (am_c_geF (by decide)) ?_
  refine am_e_aload_n n32_25 rfl ?_
  refine am_e_getf (v := .ref 150) n32_26 rfl ((F52 149 5 rfl).trans ((F51 149 5 rfl).trans ((F50 149 5 rfl).trans ((F49 149 5 rfl).trans ((F48 149 5 rfl).trans (f149_5 (h := h) hT)))))) ?_
  refine am_e_iload_n n32_27 rfl ?_
  refine am_e_aload_n n32_28 rfl ?_
  refine am_e_getf (v := .ref 49) n32_29 rfl ((F52 48 5 rfl).trans ((F51 48 5 rfl).trans ((F50 48 5 rfl).trans ((F49 48 5 rfl).trans ((F48 48 5 rfl).trans (f48_5 (h := h) hT)))))) ?_
  refine am_e_iload_n n32_30 rfl ?_
  refine am_e_iaload (v := 0) (q := 2) n32_31 rfl (by decide) (by decide) ((F52 49 2 rfl).trans ((F51 49 2 rfl).trans ((F50 49 2 rfl).trans ((F49 49 2 rfl).trans ((F48 49 2 rfl).trans (f49_2 (h := h) hT)))))) ?_
  refine am_e_iastore (q := 2) n32_32 rfl (by decide) (by decide) ?_
  refine am_e_aload_n n32_33 rfl ?_
  refine am_e_getf (v := .ref 151) n32_34 rfl ((F52 149 6 rfl).trans ((F51 149 6 rfl).trans ((F50 149 6 rfl).trans ((F49 149 6 rfl).trans ((F48 149 6 rfl).trans (f149_6 (h := h) hT)))))) ?_
  refine am_e_iload_n n32_35 rfl ?_
  refine am_e_aload_n n32_36 rfl ?_
  refine am_e_getf (v := .ref 50) n32_37 rfl ((F52 48 6 rfl).trans ((F51 48 6 rfl).trans ((F50 48 6 rfl).trans ((F49 48 6 rfl).trans ((F48 48 6 rfl).trans (f48_6 (h := h) hT)))))) ?_
  refine am_e_iload_n n32_38 rfl ?_
  refine am_e_iaload (v := 0) (q := 2) n32_39 rfl (by decide) (by decide) ((F52 50 2 rfl).trans ((F51 50 2 rfl).trans ((F50 50 2 rfl).trans ((F49 50 2 rfl).trans ((F48 50 2 rfl).trans (f50_2 (h := h) hT)))))) ?_
  refine am_e_iastore (q := 2) n32_40 rfl (by decide) (by decide) ?_
  refine am_e_aload_n n32_41 rfl ?_
  refine am_e_getf (v := .ref 152) n32_42 rfl ((F52 149 7 rfl).trans ((F51 149 7 rfl).trans ((F50 149 7 rfl).trans ((F49 149 7 rfl).trans ((F48 149 7 rfl).trans (f149_7 (h := h) hT)))))) ?_
  refine am_e_iload_n n32_43 rfl ?_
  refine am_e_aload_n n32_44 rfl ?_
  refine am_e_getf (v := .ref 51) n32_45 rfl ((F52 48 7 rfl).trans ((F51 48 7 rfl).trans ((F50 48 7 rfl).trans ((F49 48 7 rfl).trans ((F48 48 7 rfl).trans (f48_7 (h := h) hT)))))) ?_
  refine am_e_iload_n n32_46 rfl ?_
  refine am_e_iaload (v := 0) (q := 2) n32_47 rfl (by decide) (by decide) ((F52 51 2 rfl).trans ((F51 51 2 rfl).trans ((F50 51 2 rfl).trans ((F49 51 2 rfl).trans ((F48 51 2 rfl).trans (f51_2 (h := h) hT)))))) ?_
  refine am_e_iastore (q := 2) n32_48 rfl (by decide) (by decide) ?_
  refine am_e_iinc (w := 3) (ls' := [(2, .int 3), (0, .ref 149), (1, .ref 48)]) n32_49 rfl rfl (by decide) rfl ?_
  refine am_e_goto c32_50 t32_50 ?_
  refine am_e_iload_n n32_22 rfl ?_
  refine am_e_iconst (w := 4) n32_23 rfl ?_
  refine am_e_cmpF n32_24 (am_c_geF (by decide)) ?_
  refine am_e_aload_n n32_25 rfl ?_
  refine am_e_getf (v := .ref 150) n32_26 rfl ((F52 149 5 rfl).trans ((F51 149 5 rfl).trans ((F50 149 5 rfl).trans ((F49 149 5 rfl).trans ((F48 149 5 rfl).trans (f149_5 (h := h) hT)))))) ?_
  refine am_e_iload_n n32_27 rfl ?_
  refine am_e_aload_n n32_28 rfl ?_
  refine am_e_getf (v := .ref 49) n32_29 rfl ((F52 48 5 rfl).trans ((F51 48 5 rfl).trans ((F50 48 5 rfl).trans ((F49 48 5 rfl).trans ((F48 48 5 rfl).trans (f48_5 (h := h) hT)))))) ?_
  refine am_e_iload_n n32_30 rfl ?_
  refine am_e_iaload (v := 0) (q := 3) n32_31 rfl (by decide) (by decide) ((F52 49 3 rfl).trans ((F51 49 3 rfl).trans ((F50 49 3 rfl).trans ((F49 49 3 rfl).trans ((F48 49 3 rfl).trans (f49_3 (h := h) hT)))))) ?_
  refine am_e_iastore (q := 3) n32_32 rfl (by decide) (by decide) ?_
  refine am_e_aload_n n32_33 rfl ?_
  refine am_e_getf (v := .ref 151) n32_34 rfl ((F52 149 6 rfl).trans ((F51 149 6 rfl).trans ((F50 149 6 rfl).trans ((F49 149 6 rfl).trans ((F48 149 6 rfl).trans (f149_6 (h := h) hT)))))) ?_
  refine am_e_iload_n n32_35 rfl ?_
  refine am_e_aload_n n32_36 rfl ?_
  refine am_e_getf (v := .ref 50) n32_37 rfl ((F52 48 6 rfl).trans ((F51 48 6 rfl).trans ((F50 48 6 rfl).trans ((F49 48 6 rfl).trans ((F48 48 6 rfl).trans (f48_6 (h := h) hT)))))) ?_
  refine am_e_iload_n n32_38 rfl ?_
  refine am_e_iaload (v := 0) (q := 3) n32_39 rfl (by decide) (by decide) ((F52 50 3 rfl).trans ((F51 50 3 rfl).trans ((F50 50 3 rfl).trans ((F49 50 3 rfl).trans ((F48 50 3 rfl).trans (f50_3 (h := h) hT)))))) ?_
  refine am_e_iastore (q := 3) n32_40 rfl (by decide) (by decide) ?_
  refine am_e_aload_n n32_41 rfl ?_
  refine am_e_getf (v := .ref 152) n32_42 rfl ((F52 149 7 rfl).trans ((F51 149 7 rfl).trans ((F50 149 7 rfl).trans ((F49 149 7 rfl).trans ((F48 149 7 rfl).trans (f149_7 (h := h) hT)))))) ?_
  refine am_e_iload_n n32_43 rfl ?_
  refine am_e_aload_n n32_44 rfl ?_
  refine am_e_getf (v := .ref 51) n32_45 rfl ((F52 48 7 rfl).trans ((F51 48 7 rfl).trans ((F50 48 7 rfl).trans ((F49 48 7 rfl).trans ((F48 48 7 rfl).trans (f48_7 (h := h) hT)))))) ?_
  refine am_e_iload_n n32_46 rfl ?_
  refine am_e_iaload (v := 0) (q := 3) n32_47 rfl (by decide) (by decide) ((F52 51 3 rfl).trans ((F51 51 3 rfl).trans ((F50 51 3 rfl).trans ((F49 51 3 rfl).trans ((F48 51 3 rfl).trans (f51_3 (h := h) hT)))))) ?_
  refine am_e_iastore (q := 3) n32_48 rfl (by decide) (by decide) ?_
  refine am_e_iinc (w := 4) (ls' := [(2, .int 4), (0, .ref 149), (1, .ref 48)]) n32_49 rfl rfl (by decide) rfl ?_
  refine am_e_goto c32_50 t32_50 ?_
  refine am_e_iload_n n32_22 rfl ?_
  refine am_e_iconst (w := 4) n32_23 rfl ?_
  refine am_e_cmpT n32_24 (am_c_geT (by decide)) t32_24 ?_
  refine am_e_vret c32_51 rfl rfl ?_
  refine am_e_aload_n n31_7 rfl ?_
  refine am_e_aload_n n31_8 rfl ?_
  refine am_e_getf (v := .int (-1)) n31_9 rfl ((F52 2 18 rfl).trans ((F51 2 18 rfl).trans ((F50 2 18 rfl).trans ((F49 2 18 rfl).trans ((F48 2 18 rfl).trans (f2_18 (h := h) hT)))))) ?_
  refine am_e_putf n31_10 rfl rfl ?_
  refine am_e_aload_n n31_11 rfl ?_
  refine am_e_iconst (w := 0) n31_12 rfl ?_
  refine am_e_putf n31_13 rfl rfl ?_
  refine am_e_aload_n n31_14 rfl ?_
  refine am_e_iconst (w := 0) n31_15 rfl ?_
  refine am_e_putf n31_16 rfl rfl ?_
  refine am_e_aload_n n31_17 rfl ?_
  refine am_e_ldc (w := 2147483647) n31_18 (by decide) ?_
  refine am_e_putf n31_19 rfl rfl ?_
  refine am_e_aload_n n31_20 rfl ?_
  refine am_e_ldc (w := 2147483647) n31_21 (by decide) ?_
  refine am_e_putf n31_22 rfl rfl ?_
  refine am_e_vret c31_23 rfl rfl ?_
  refine am_e_iconst (w := 0) n70_31 rfl ?_
  refine am_e_istore (ls' := [(8, .int 0), (7, .int 5), (0, .ref 0), (2, .int (nI n)), (3, .int (nI b)), (4, .long dr52), (6, .int 0)]) n70_32 rfl rfl ?_
  refine am_Ek_ls (ls' := [(0, .ref 0), (2, .int (nI n)), (3, .int (nI b)), (4, .long dr52), (6, .int 0), (7, .int 5), (8, .int (nI 0))]) ⟨rfl, rfl, rfl, rfl, rfl, rfl, rfl, trivial⟩ ?_
  refine am_cc_e (n := n) (b := b) (s := 0) (t := 0) (i7 := 5) (dr := dr52) (by omega) (by omega) ⟨((F52 0 11 rfl).trans ((F51 0 11 rfl).trans ((F50 0 11 rfl).trans ((F49 0 11 rfl).trans ((F48 0 11 rfl).trans (f0_11 (h := h) hT)))))), ((F52 0 2 rfl).trans ((F51 0 2 rfl).trans ((F50 0 2 rfl).trans ((F49 0 2 rfl).trans ((F48 0 2 rfl).trans (f0_2 (h := h) hT)))))), ((F52 2 16 rfl).trans ((F51 2 16 rfl).trans ((F50 2 16 rfl).trans ((F49 2 16 rfl).trans ((F48 2 16 rfl).trans (f2_16 (h := h) hT)))))), ((F52 148 1 rfl).trans ((F51 148 1 rfl).trans ((F50 148 1 rfl).trans ((F49 148 1 rfl).trans ((F48 148 1 rfl).trans (f148_1 (h := h) hT)))))), rfl, rfl, ((F52 2 19 rfl).trans ((F51 2 19 rfl).trans ((F50 2 19 rfl).trans ((F49 2 19 rfl).trans ((F48 2 19 rfl).trans (f2_19 (h := h) hT)))))), ((F52 11 7 rfl).trans ((F51 11 7 rfl).trans ((F50 11 7 rfl).trans ((F49 11 7 rfl).trans ((F48 11 7 rfl).trans (f11_7 (h := h) hT)))))), ((F52 2 0 rfl).trans ((F51 2 0 rfl).trans ((F50 2 0 rfl).trans ((F49 2 0 rfl).trans ((F48 2 0 rfl).trans (f2_0 (h := h) hT)))))), ((F52 11 6 rfl).trans ((F51 11 6 rfl).trans ((F50 11 6 rfl).trans ((F49 11 6 rfl).trans ((F48 11 6 rfl).trans (f11_6 (h := h) hT)))))), ((F52 16 0 rfl).trans ((F51 16 0 rfl).trans ((F50 16 0 rfl).trans ((F49 16 0 rfl).trans ((F48 16 0 rfl).trans (f16_0 (h := h) hT)))))), ((F52 11 4 rfl).trans ((F51 11 4 rfl).trans ((F50 11 4 rfl).trans ((F49 11 4 rfl).trans ((F48 11 4 rfl).trans (f11_4 (h := h) hT)))))), ((F52 14 0 rfl).trans ((F51 14 0 rfl).trans ((F50 14 0 rfl).trans ((F49 14 0 rfl).trans ((F48 14 0 rfl).trans (f14_0 (h := h) hT)))))), ((F52 11 5 rfl).trans ((F51 11 5 rfl).trans ((F50 11 5 rfl).trans ((F49 11 5 rfl).trans ((F48 11 5 rfl).trans (f11_5 (h := h) hT)))))), ((F52 15 0 rfl).trans ((F51 15 0 rfl).trans ((F50 15 0 rfl).trans ((F49 15 0 rfl).trans ((F48 15 0 rfl).trans (f15_0 (h := h) hT)))))), rfl, rfl, trivial⟩ rfl rfl rfl ?_
  intro h53 dr53 F53 qa53 qb53 qc53
  obtain ⟨l53, qc53⟩ := qc53
  refine am_e_aload_n n70_57 rfl ?_
  refine am_e_getf (v := .ref 148) n70_58 rfl ((F53 0 11 rfl).trans ((F52 0 11 rfl).trans ((F51 0 11 rfl).trans ((F50 0 11 rfl).trans ((F49 0 11 rfl).trans ((F48 0 11 rfl).trans (f0_11 (h := h) hT))))))) ?_
  refine am_e_getf (v := .ref 149) n70_59 rfl ((F53 148 1 rfl).trans ((F52 148 1 rfl).trans ((F51 148 1 rfl).trans ((F50 148 1 rfl).trans ((F49 148 1 rfl).trans ((F48 148 1 rfl).trans (f148_1 (h := h) hT))))))) ?_
  refine am_e_getf (v := .int 0) n70_60 rfl qa53 ?_
  refine am_e_iload_n n70_61 rfl ?_
  refine am_e_cmpT n70_62 (am_c_ltT (nI_lt (a := 0) hb0 (by omega))) t70_62 ?_
  refine am_e_iinc (w := 6) (ls' := [(7, .int 6), (0, .ref 0), (2, .int (nI n)), (3, .int (nI b)), (4, .long dr53), (6, .int 0), (8, .int (nI n))]) n70_64 rfl rfl (by decide) rfl ?_
  refine am_e_goto c70_65 t70_65 ?_
  refine am_e_iload n70_21 rfl ?_
  refine am_e_bipush (w := 10) n70_22 (by decide) ?_
  refine am_e_cmpF n70_23 (am_c_geF (by decide)) ?_
  refine am_e_aload_n n70_24 rfl ?_
  refine am_e_getf (v := .ref 148) n70_25 rfl ((F53 0 11 rfl).trans ((F52 0 11 rfl).trans ((F51 0 11 rfl).trans ((F50 0 11 rfl).trans ((F49 0 11 rfl).trans ((F48 0 11 rfl).trans (f0_11 (h := h) hT))))))) ?_
  refine am_e_aload_n n70_26 rfl ?_
  refine am_e_getf (v := .ref 2) n70_27 rfl ((F53 0 2 rfl).trans ((F52 0 2 rfl).trans ((F51 0 2 rfl).trans ((F50 0 2 rfl).trans ((F49 0 2 rfl).trans ((F48 0 2 rfl).trans (f0_2 (h := h) hT))))))) ?_
  refine am_e_aload_n n70_28 rfl ?_
  refine am_e_getf (v := .ref 48) n70_29 rfl ((F53 0 5 rfl).trans ((F52 0 5 rfl).trans ((F51 0 5 rfl).trans ((F50 0 5 rfl).trans ((F49 0 5 rfl).trans ((F48 0 5 rfl).trans (f0_5 (h := h) hT))))))) ?_
  refine am_e_callV (L := [(0, .ref 148), (1, .ref 2), (2, .ref 48)]) n70_30 rfl rfl rfl rfl rfl rfl rfl rfl ?_
  refine am_e_aload_n n31_0 rfl ?_
  refine am_e_aload_n n31_1 rfl ?_
  refine am_e_putf n31_2 rfl rfl ?_
  refine am_e_aload_n n31_3 rfl ?_
  refine am_e_getf (v := .ref 149) n31_4 rfl ((F53 148 1 rfl).trans ((F52 148 1 rfl).trans ((F51 148 1 rfl).trans ((F50 148 1 rfl).trans ((F49 148 1 rfl).trans ((F48 148 1 rfl).trans (f148_1 (h := h) hT))))))) ?_
  refine am_e_aload_n n31_5 rfl ?_
  refine am_e_callV (L := [(0, .ref 149), (1, .ref 48)]) n31_6 rfl rfl rfl rfl rfl rfl rfl rfl ?_
  refine am_e_aload_n n32_0 rfl ?_
  refine am_e_aload_n n32_1 rfl ?_
  refine am_e_getf (v := .int 0) n32_2 rfl ((F53 48 0 rfl).trans ((F52 48 0 rfl).trans ((F51 48 0 rfl).trans ((F50 48 0 rfl).trans ((F49 48 0 rfl).trans ((F48 48 0 rfl).trans (f48_0 (h := h) hT))))))) ?_
  refine am_e_putf n32_3 rfl rfl ?_
  refine am_e_aload_n n32_4 rfl ?_
  refine am_e_aload_n n32_5 rfl ?_
  refine am_e_getf (v := .int 0) n32_6 rfl ((F53 48 1 rfl).trans ((F52 48 1 rfl).trans ((F51 48 1 rfl).trans ((F50 48 1 rfl).trans ((F49 48 1 rfl).trans ((F48 48 1 rfl).trans (f48_1 (h := h) hT))))))) ?_
  refine am_e_putf n32_7 rfl rfl ?_
  refine am_e_aload_n n32_8 rfl ?_
  refine am_e_aload_n n32_9 rfl ?_
  refine am_e_getf (v := .int (-1)) n32_10 rfl ((F53 48 2 rfl).trans ((F52 48 2 rfl).trans ((F51 48 2 rfl).trans ((F50 48 2 rfl).trans ((F49 48 2 rfl).trans ((F48 48 2 rfl).trans (f48_2 (h := h) hT))))))) ?_
  refine am_e_putf n32_11 rfl rfl ?_
  refine am_e_aload_n n32_12 rfl ?_
  refine am_e_aload_n n32_13 rfl ?_
  refine am_e_getf (v := .int 0) n32_14 rfl ((F53 48 3 rfl).trans ((F52 48 3 rfl).trans ((F51 48 3 rfl).trans ((F50 48 3 rfl).trans ((F49 48 3 rfl).trans ((F48 48 3 rfl).trans (f48_3 (h := h) hT))))))) ?_
  refine am_e_putf n32_15 rfl rfl ?_
  refine am_e_aload_n n32_16 rfl ?_
  refine am_e_aload_n n32_17 rfl ?_
  refine am_e_getf (v := .int 0) n32_18 rfl ((F53 48 4 rfl).trans ((F52 48 4 rfl).trans ((F51 48 4 rfl).trans ((F50 48 4 rfl).trans ((F49 48 4 rfl).trans ((F48 48 4 rfl).trans (f48_4 (h := h) hT))))))) ?_
  refine am_e_putf n32_19 rfl rfl ?_
  refine am_e_iconst (w := 0) n32_20 rfl ?_
  refine am_e_istore_n (ls' := [(2, .int 0), (0, .ref 149), (1, .ref 48)]) n32_21 rfl rfl ?_
  refine am_e_iload_n n32_22 rfl ?_
  refine am_e_iconst (w := 4) n32_23 rfl ?_
  refine am_e_cmpF n32_24 (am_c_geF (by decide)) ?_
  refine am_e_aload_n n32_25 rfl ?_
  refine am_e_getf (v := .ref 150) n32_26 rfl ((F53 149 5 rfl).trans ((F52 149 5 rfl).trans ((F51 149 5 rfl).trans ((F50 149 5 rfl).trans ((F49 149 5 rfl).trans ((F48 149 5 rfl).trans (f149_5 (h := h) hT))))))) ?_
  refine am_e_iload_n n32_27 rfl ?_
  refine am_e_aload_n n32_28 rfl ?_
  refine am_e_getf (v := .ref 49) n32_29 rfl ((F53 48 5 rfl).trans ((F52 48 5 rfl).trans ((F51 48 5 rfl).trans ((F50 48 5 rfl).trans ((F49 48 5 rfl).trans ((F48 48 5 rfl).trans (f48_5 (h := h) hT))))))) ?_
  refine am_e_iload_n n32_30 rfl ?_
  refine am_e_iaload (v := 0) (q := 0) n32_31 rfl (by decide) (by decide) ((F53 49 0 rfl).trans ((F52 49 0 rfl).trans ((F51 49 0 rfl).trans ((F50 49 0 rfl).trans ((F49 49 0 rfl).trans ((F48 49 0 rfl).trans (f49_0 (h := h) hT))))))) ?_
  refine am_e_iastore (q := 0) n32_32 rfl (by decide) (by decide) ?_
  refine am_e_aload_n n32_33 rfl ?_
  refine am_e_getf (v := .ref 151) n32_34 rfl ((F53 149 6 rfl).trans ((F52 149 6 rfl).trans ((F51 149 6 rfl).trans ((F50 149 6 rfl).trans ((F49 149 6 rfl).trans ((F48 149 6 rfl).trans (f149_6 (h := h) hT))))))) ?_
  refine am_e_iload_n n32_35 rfl ?_
  refine am_e_aload_n n32_36 rfl ?_
  refine am_e_getf (v := .ref 50) n32_37 rfl ((F53 48 6 rfl).trans ((F52 48 6 rfl).trans ((F51 48 6 rfl).trans ((F50 48 6 rfl).trans ((F49 48 6 rfl).trans ((F48 48 6 rfl).trans (f48_6 (h := h) hT))))))) ?_
  refine am_e_iload_n n32_38 rfl ?_
  refine am_e_iaload (v := 0) (q := 0) n32_39 rfl (by decide) (by decide) ((F53 50 0 rfl).trans ((F52 50 0 rfl).trans ((F51 50 0 rfl).trans ((F50 50 0 rfl).trans ((F49 50 0 rfl).trans ((F48 50 0 rfl).trans (f50_0 (h := h) hT))))))) ?_
  refine am_e_iastore (q := 0) n32_40 rfl (by decide) (by decide) ?_
  refine am_e_aload_n n32_41 rfl ?_
  refine am_e_getf (v := .ref 152) n32_42 rfl ((F53 149 7 rfl).trans ((F52 149 7 rfl).trans ((F51 149 7 rfl).trans ((F50 149 7 rfl).trans ((F49 149 7 rfl).trans ((F48 149 7 rfl).trans (f149_7 (h := h) hT))))))) ?_
  refine am_e_iload_n n32_43 rfl ?_
  refine am_e_aload_n n32_44 rfl ?_
  refine am_e_getf (v := .ref 51) n32_45 rfl ((F53 48 7 rfl).trans ((F52 48 7 rfl).trans ((F51 48 7 rfl).trans ((F50 48 7 rfl).trans ((F49 48 7 rfl).trans ((F48 48 7 rfl).trans (f48_7 (h := h) hT))))))) ?_
  refine am_e_iload_n n32_46 rfl ?_
  refine am_e_iaload (v := 0) (q := 0) n32_47 rfl (by decide) (by decide) ((F53 51 0 rfl).trans ((F52 51 0 rfl).trans ((F51 51 0 rfl).trans ((F50 51 0 rfl).trans ((F49 51 0 rfl).trans ((F48 51 0 rfl).trans (f51_0 (h := h) hT))))))) ?_
  refine am_e_iastore (q := 0) n32_48 rfl (by decide) (by decide) ?_
  refine am_e_iinc (w := 1) (ls' := [(2, .int 1), (0, .ref 149), (1, .ref 48)]) n32_49 rfl rfl (by decide) rfl ?_
  refine am_e_goto c32_50 t32_50 ?_
  refine am_e_iload_n n32_22 rfl ?_
  refine am_e_iconst (w := 4) n32_23 rfl ?_
  refine am_e_cmpF n32_24 (am_c_geF (by decide)) ?_
  refine am_e_aload_n n32_25 rfl ?_
  refine am_e_getf (v := .ref 150) n32_26 rfl ((F53 149 5 rfl).trans ((F52 149 5 rfl).trans ((F51 149 5 rfl).trans ((F50 149 5 rfl).trans ((F49 149 5 rfl).trans ((F48 149 5 rfl).trans (f149_5 (h := h) hT))))))) ?_
  refine am_e_iload_n n32_27 rfl ?_
  refine am_e_aload_n n32_28 rfl ?_
  refine am_e_getf (v := .ref 49) n32_29 rfl ((F53 48 5 rfl).trans ((F52 48 5 rfl).trans ((F51 48 5 rfl).trans ((F50 48 5 rfl).trans ((F49 48 5 rfl).trans ((F48 48 5 rfl).trans (f48_5 (h := h) hT))))))) ?_
  refine am_e_iload_n n32_30 rfl ?_
  refine am_e_iaload (v := 0) (q := 1) n32_31 rfl (by decide) (by decide) ((F53 49 1 rfl).trans ((F52 49 1 rfl).trans ((F51 49 1 rfl).trans ((F50 49 1 rfl).trans ((F49 49 1 rfl).trans ((F48 49 1 rfl).trans (f49_1 (h := h) hT))))))) ?_
  refine am_e_iastore (q := 1) n32_32 rfl (by decide) (by decide) ?_
  refine am_e_aload_n n32_33 rfl ?_
  refine am_e_getf (v := .ref 151) n32_34 rfl ((F53 149 6 rfl).trans ((F52 149 6 rfl).trans ((F51 149 6 rfl).trans ((F50 149 6 rfl).trans ((F49 149 6 rfl).trans ((F48 149 6 rfl).trans (f149_6 (h := h) hT))))))) ?_
  refine am_e_iload_n n32_35 rfl ?_
  refine am_e_aload_n n32_36 rfl ?_
  refine am_e_getf (v := .ref 50) n32_37 rfl ((F53 48 6 rfl).trans ((F52 48 6 rfl).trans ((F51 48 6 rfl).trans ((F50 48 6 rfl).trans ((F49 48 6 rfl).trans ((F48 48 6 rfl).trans (f48_6 (h := h) hT))))))) ?_
  refine am_e_iload_n n32_38 rfl ?_
  refine am_e_iaload (v := 0) (q := 1) n32_39 rfl (by decide) (by decide) ((F53 50 1 rfl).trans ((F52 50 1 rfl).trans ((F51 50 1 rfl).trans ((F50 50 1 rfl).trans ((F49 50 1 rfl).trans ((F48 50 1 rfl).trans (f50_1 (h := h) hT))))))) ?_
  refine am_e_iastore (q := 1) n32_40 rfl (by decide) (by decide) ?_
  refine am_e_aload_n n32_41 rfl ?_
  refine am_e_getf (v := .ref 152) n32_42 rfl ((F53 149 7 rfl).trans ((F52 149 7 rfl).trans ((F51 149 7 rfl).trans ((F50 149 7 rfl).trans ((F49 149 7 rfl).trans ((F48 149 7 rfl).trans (f149_7 (h := h) hT))))))) ?_
  refine am_e_iload_n n32_43 rfl ?_
  refine am_e_aload_n n32_44 rfl ?_
  refine am_e_getf (v := .ref 51) n32_45 rfl ((F53 48 7 rfl).trans ((F52 48 7 rfl).trans ((F51 48 7 rfl).trans ((F50 48 7 rfl).trans ((F49 48 7 rfl).trans ((F48 48 7 rfl).trans (f48_7 (h := h) hT))))))) ?_
  refine am_e_iload_n n32_46 rfl ?_
  refine am_e_iaload (v := 0) (q := 1) n32_47 rfl (by decide) (by decide) ((F53 51 1 rfl).trans ((F52 51 1 rfl).trans ((F51 51 1 rfl).trans ((F50 51 1 rfl).trans ((F49 51 1 rfl).trans ((F48 51 1 rfl).trans (f51_1 (h := h) hT))))))) ?_
  refine am_e_iastore (q := 1) n32_48 rfl (by decide) (by decide) ?_
  refine am_e_iinc (w := 2) (ls' := [(2, .int 2), (0, .ref 149), (1, .ref 48)]) n32_49 rfl rfl (by decide) rfl ?_
  refine am_e_goto c32_50 t32_50 ?_
  refine am_e_iload_n n32_22 rfl ?_
  refine am_e_iconst (w := 4) n32_23 rfl ?_
  refine am_e_cmpF n32_24 (am_c_geF (by decide)) ?_
  refine am_e_aload_n n32_25 rfl ?_
  refine am_e_getf (v := .ref 150) n32_26 rfl ((F53 149 5 rfl).trans ((F52 149 5 rfl).trans ((F51 149 5 rfl).trans ((F50 149 5 rfl).trans ((F49 149 5 rfl).trans ((F48 149 5 rfl).trans (f149_5 (h := h) hT))))))) ?_
  refine am_e_iload_n n32_27 rfl ?_
  refine am_e_aload_n n32_28 rfl ?_
  refine am_e_getf (v := .ref 49) n32_29 rfl ((F53 48 5 rfl).trans ((F52 48 5 rfl).trans ((F51 48 5 rfl).trans ((F50 48 5 rfl).trans ((F49 48 5 rfl).trans ((F48 48 5 rfl).trans (f48_5 (h := h) hT))))))) ?_
  refine am_e_iload_n n32_30 rfl ?_
  refine am_e_iaload (v := 0) (q := 2) n32_31 rfl (by decide) (by decide) ((F53 49 2 rfl).trans ((F52 49 2 rfl).trans ((F51 49 2 rfl).trans ((F50 49 2 rfl).trans ((F49 49 2 rfl).trans ((F48 49 2 rfl).trans (f49_2 (h := h) hT))))))) ?_
  refine am_e_iastore (q := 2) n32_32 rfl (by decide) (by decide) ?_
  refine am_e_aload_n n32_33 rfl ?_
  refine am_e_getf (v := .ref 151) n32_34 rfl ((F53 149 6 rfl).trans ((F52 149 6 rfl).trans ((F51 149 6 rfl).trans ((F50 149 6 rfl).trans ((F49 149 6 rfl).trans ((F48 149 6 rfl).trans (f149_6 (h := h) hT))))))) ?_
  refine am_e_iload_n n32_35 rfl ?_
  refine am_e_aload_n n32_36 rfl ?_
  refine am_e_getf (v := .ref 50) n32_37 rfl ((F53 48 6 rfl).trans ((F52 48 6 rfl).trans ((F51 48 6 rfl).trans ((F50 48 6 rfl).trans ((F49 48 6 rfl).trans ((F48 48 6 rfl).trans (f48_6 (h := h) hT))))))) ?_
  refine am_e_iload_n n32_38 rfl ?_
  refine am_e_iaload (v := 0) (q := 2) n32_39 rfl (by decide) (by decide) ((F53 50 2 rfl).trans ((F52 50 2 rfl).trans ((F51 50 2 rfl).trans ((F50 50 2 rfl).trans ((F49 50 2 rfl).trans ((F48 50 2 rfl).trans (f50_2 (h := h) hT))))))) ?_
  refine am_e_iastore (q := 2) n32_40 rfl (by decide) (by decide) ?_
  refine am_e_aload_n n32_41 rfl ?_
  refine am_e_getf (v := .ref 152) n32_42 rfl ((F53 149 7 rfl).trans ((F52 149 7 rfl).trans ((F51 149 7 rfl).trans ((F50 149 7 rfl).trans ((F49 149 7 rfl).trans ((F48 149 7 rfl).trans (f149_7 (h := h) hT))))))) ?_
  refine am_e_iload_n n32_43 rfl ?_
  refine am_e_aload_n n32_44 rfl ?_
  refine am_e_getf (v := .ref 51) n32_45 rfl ((F53 48 7 rfl).trans ((F52 48 7 rfl).trans ((F51 48 7 rfl).trans ((F50 48 7 rfl).trans ((F49 48 7 rfl).trans ((F48 48 7 rfl).trans (f48_7 (h := h) hT))))))) ?_
  refine am_e_iload_n n32_46 rfl ?_
  refine am_e_iaload (v := 0) (q := 2) n32_47 rfl (by decide) (by decide) ((F53 51 2 rfl).trans ((F52 51 2 rfl).trans ((F51 51 2 rfl).trans ((F50 51 2 rfl).trans ((F49 51 2 rfl).trans ((F48 51 2 rfl).trans (f51_2 (h := h) hT))))))) ?_
  refine am_e_iastore (q := 2) n32_48 rfl (by decide) (by decide) ?_
  refine am_e_iinc (w := 3) (ls' := [(2, .int 3), (0, .ref 149), (1, .ref 48)]) n32_49 rfl rfl (by decide) rfl ?_
  refine am_e_goto c32_50 t32_50 ?_
  refine am_e_iload_n n32_22 rfl ?_
  refine am_e_iconst (w := 4) n32_23 rfl ?_
  refine am_e_cmpF n32_24 (am_c_geF (by decide)) ?_
  refine am_e_aload_n n32_25 rfl ?_
  refine am_e_getf (v := .ref 150) n32_26 rfl ((F53 149 5 rfl).trans ((F52 149 5 rfl).trans ((F51 149 5 rfl).trans ((F50 149 5 rfl).trans ((F49 149 5 rfl).trans ((F48 149 5 rfl).trans (f149_5 (h := h) hT))))))) ?_
  refine am_e_iload_n n32_27 rfl ?_
  refine am_e_aload_n n32_28 rfl ?_
  refine am_e_getf (v := .ref 49) n32_29 rfl ((F53 48 5 rfl).trans ((F52 48 5 rfl).trans ((F51 48 5 rfl).trans ((F50 48 5 rfl).trans ((F49 48 5 rfl).trans ((F48 48 5 rfl).trans (f48_5 (h := h) hT))))))) ?_
  refine am_e_iload_n n32_30 rfl ?_
  refine am_e_iaload (v := 0) (q := 3) n32_31 rfl (by decide) (by decide) ((F53 49 3 rfl).trans ((F52 49 3 rfl).trans ((F51 49 3 rfl).trans ((F50 49 3 rfl).trans ((F49 49 3 rfl).trans ((F48 49 3 rfl).trans (f49_3 (h := h) hT))))))) ?_
  refine am_e_iastore (q := 3) n32_32 rfl (by decide) (by decide) ?_
  refine am_e_aload_n n32_33 rfl ?_
  refine am_e_getf (v := .ref 151) n32_34 rfl ((F53 149 6 rfl).trans ((F52 149 6 rfl).trans ((F51 149 6 rfl).trans ((F50 149 6 rfl).trans ((F49 149 6 rfl).trans ((F48 149 6 rfl).trans (f149_6 (h := h) hT))))))) ?_
  refine am_e_iload_n n32_35 rfl ?_
  refine am_e_aload_n n32_36 rfl ?_
  refine am_e_getf (v := .ref 50) n32_37 rfl ((F53 48 6 rfl).trans ((F52 48 6 rfl).trans ((F51 48 6 rfl).trans ((F50 48 6 rfl).trans ((F49 48 6 rfl).trans ((F48 48 6 rfl).trans (f48_6 (h := h) hT))))))) ?_
  refine am_e_iload_n n32_38 rfl ?_
  refine am_e_iaload (v := 0) (q := 3) n32_39 rfl (by decide) (by decide) ((F53 50 3 rfl).trans ((F52 50 3 rfl).trans ((F51 50 3 rfl).trans ((F50 50 3 rfl).trans ((F49 50 3 rfl).trans ((F48 50 3 rfl).trans (f50_3 (h := h) hT))))))) ?_
  refine am_e_iastore (q := 3) n32_40 rfl (by decide) (by decide) ?_
  refine am_e_aload_n n32_41 rfl ?_
  refine am_e_getf (v := .ref 152) n32_42 rfl ((F53 149 7 rfl).trans ((F52 149 7 rfl).trans ((F51 149 7 rfl).trans ((F50 149 7 rfl).trans ((F49 149 7 rfl).trans ((F48 149 7 rfl).trans (f149_7 (h := h) hT))))))) ?_
  refine am_e_iload_n n32_43 rfl ?_
  refine am_e_aload_n n32_44 rfl ?_
  refine am_e_getf (v := .ref 51) n32_45 rfl ((F53 48 7 rfl).trans ((F52 48 7 rfl).trans ((F51 48 7 rfl).trans ((F50 48 7 rfl).trans ((F49 48 7 rfl).trans ((F48 48 7 rfl).trans (f48_7 (h := h) hT))))))) ?_
  refine am_e_iload_n n32_46 rfl ?_
  refine am_e_iaload (v := 0) (q := 3) n32_47 rfl (by decide) (by decide) ((F53 51 3 rfl).trans ((F52 51 3 rfl).trans ((F51 51 3 rfl).trans ((F50 51 3 rfl).trans ((F49 51 3 rfl).trans ((F48 51 3 rfl).trans (f51_3 (h := h) hT))))))) ?_
  refine am_e_iastore (q := 3) n32_48 rfl (by decide) (by decide) ?_
  refine am_e_iinc (w := 4) (ls' := [(2, .int 4), (0, .ref 149), (1, .ref 48)]) n32_49 rfl rfl (by decide) rfl ?_
  refine am_e_goto c32_50 t32_50 ?_
  refine am_e_iload_n n32_22 rfl ?_
  refine am_e_iconst (w := 4) n32_23 rfl ?_
  refine am_e_cmpT n32_24 (am_c_geT (by decide)) t32_24 ?_
  refine am_e_vret c32_51 rfl rfl ?_
  refine am_e_aload_n n31_7 rfl ?_
  refine am_e_aload_n n31_8 rfl ?_
  refine am_e_getf (v := .int (-1)) n31_9 rfl ((F53 2 18 rfl).trans ((F52 2 18 rfl).trans ((F51 2 18 rfl).trans ((F50 2 18 rfl).trans ((F49 2 18 rfl).trans ((F48 2 18 rfl).trans (f2_18 (h := h) hT))))))) ?_
  refine am_e_putf n31_10 rfl rfl ?_
  refine am_e_aload_n n31_11 rfl ?_
  refine am_e_iconst (w := 0) n31_12 rfl ?_
  refine am_e_putf n31_13 rfl rfl ?_
  refine am_e_aload_n n31_14 rfl ?_
  refine am_e_iconst (w := 0) n31_15 rfl ?_
  refine am_e_putf n31_16 rfl rfl ?_
  refine am_e_aload_n n31_17 rfl ?_
  refine am_e_ldc (w := 2147483647) n31_18 (by decide) ?_
  refine am_e_putf n31_19 rfl rfl ?_
  refine am_e_aload_n n31_20 rfl ?_
  refine am_e_ldc (w := 2147483647) n31_21 (by decide) ?_
  refine am_e_putf n31_22 rfl rfl ?_
  refine am_e_vret c31_23 rfl rfl ?_
  refine am_e_iconst (w := 0) n70_31 rfl ?_
  refine am_e_istore (ls' := [(8, .int 0), (7, .int 6), (0, .ref 0), (2, .int (nI n)), (3, .int (nI b)), (4, .long dr53), (6, .int 0)]) n70_32 rfl rfl ?_
  refine am_Ek_ls (ls' := [(0, .ref 0), (2, .int (nI n)), (3, .int (nI b)), (4, .long dr53), (6, .int 0), (7, .int 6), (8, .int (nI 0))]) ⟨rfl, rfl, rfl, rfl, rfl, rfl, rfl, trivial⟩ ?_
  refine am_cc_e (n := n) (b := b) (s := 0) (t := 0) (i7 := 6) (dr := dr53) (by omega) (by omega) ⟨((F53 0 11 rfl).trans ((F52 0 11 rfl).trans ((F51 0 11 rfl).trans ((F50 0 11 rfl).trans ((F49 0 11 rfl).trans ((F48 0 11 rfl).trans (f0_11 (h := h) hT))))))), ((F53 0 2 rfl).trans ((F52 0 2 rfl).trans ((F51 0 2 rfl).trans ((F50 0 2 rfl).trans ((F49 0 2 rfl).trans ((F48 0 2 rfl).trans (f0_2 (h := h) hT))))))), ((F53 2 16 rfl).trans ((F52 2 16 rfl).trans ((F51 2 16 rfl).trans ((F50 2 16 rfl).trans ((F49 2 16 rfl).trans ((F48 2 16 rfl).trans (f2_16 (h := h) hT))))))), ((F53 148 1 rfl).trans ((F52 148 1 rfl).trans ((F51 148 1 rfl).trans ((F50 148 1 rfl).trans ((F49 148 1 rfl).trans ((F48 148 1 rfl).trans (f148_1 (h := h) hT))))))), rfl, rfl, ((F53 2 19 rfl).trans ((F52 2 19 rfl).trans ((F51 2 19 rfl).trans ((F50 2 19 rfl).trans ((F49 2 19 rfl).trans ((F48 2 19 rfl).trans (f2_19 (h := h) hT))))))), ((F53 11 7 rfl).trans ((F52 11 7 rfl).trans ((F51 11 7 rfl).trans ((F50 11 7 rfl).trans ((F49 11 7 rfl).trans ((F48 11 7 rfl).trans (f11_7 (h := h) hT))))))), ((F53 2 0 rfl).trans ((F52 2 0 rfl).trans ((F51 2 0 rfl).trans ((F50 2 0 rfl).trans ((F49 2 0 rfl).trans ((F48 2 0 rfl).trans (f2_0 (h := h) hT))))))), ((F53 11 6 rfl).trans ((F52 11 6 rfl).trans ((F51 11 6 rfl).trans ((F50 11 6 rfl).trans ((F49 11 6 rfl).trans ((F48 11 6 rfl).trans (f11_6 (h := h) hT))))))), ((F53 16 0 rfl).trans ((F52 16 0 rfl).trans ((F51 16 0 rfl).trans ((F50 16 0 rfl).trans ((F49 16 0 rfl).trans ((F48 16 0 rfl).trans (f16_0 (h := h) hT))))))), ((F53 11 4 rfl).trans ((F52 11 4 rfl).trans ((F51 11 4 rfl).trans ((F50 11 4 rfl).trans ((F49 11 4 rfl).trans ((F48 11 4 rfl).trans (f11_4 (h := h) hT))))))), ((F53 14 0 rfl).trans ((F52 14 0 rfl).trans ((F51 14 0 rfl).trans ((F50 14 0 rfl).trans ((F49 14 0 rfl).trans ((F48 14 0 rfl).trans (f14_0 (h := h) hT))))))), ((F53 11 5 rfl).trans ((F52 11 5 rfl).trans ((F51 11 5 rfl).trans ((F50 11 5 rfl).trans ((F49 11 5 rfl).trans ((F48 11 5 rfl).trans (f11_5 (h := h) hT))))))), ((F53 15 0 rfl).trans ((F52 15 0 rfl).trans ((F51 15 0 rfl).trans ((F50 15 0 rfl).trans ((F49 15 0 rfl).trans ((F48 15 0 rfl).trans (f15_0 (h := h) hT))))))), rfl, rfl, trivial⟩ rfl rfl rfl ?_
  intro h54 dr54 F54 qa54 qb54 qc54
  obtain ⟨l54, qc54⟩ := qc54
  refine am_e_aload_n n70_57 rfl ?_
  refine am_e_getf (v := .ref 148) n70_58 rfl ((F54 0 11 rfl).trans ((F53 0 11 rfl).trans ((F52 0 11 rfl).trans ((F51 0 11 rfl).trans ((F50 0 11 rfl).trans ((F49 0 11 rfl).trans ((F48 0 11 rfl).trans (f0_11 (h := h) hT)))))))) ?_
  refine am_e_getf (v := .ref 149) n70_59 rfl ((F54 148 1 rfl).trans ((F53 148 1 rfl).trans ((F52 148 1 rfl).trans ((F51 148 1 rfl).trans ((F50 148 1 rfl).trans ((F49 148 1 rfl).trans ((F48 148 1 rfl).trans (f148_1 (h := h) hT)))))))) ?_
  refine am_e_getf (v := .int 0) n70_60 rfl qa54 ?_
  refine am_e_iload_n n70_61 rfl ?_
  refine am_e_cmpT n70_62 (am_c_ltT (nI_lt (a := 0) hb0 (by omega))) t70_62 ?_
  refine am_e_iinc (w := 7) (ls' := [(7, .int 7), (0, .ref 0), (2, .int (nI n)), (3, .int (nI b)), (4, .long dr54), (6, .int 0), (8, .int (nI n))]) n70_64 rfl rfl (by decide) rfl ?_
  refine am_e_goto c70_65 t70_65 ?_
  refine am_e_iload n70_21 rfl ?_
  refine am_e_bipush (w := 10) n70_22 (by decide) ?_
  refine am_e_cmpF n70_23 (am_c_geF (by decide)) ?_
  refine am_e_aload_n n70_24 rfl ?_
  refine am_e_getf (v := .ref 148) n70_25 rfl ((F54 0 11 rfl).trans ((F53 0 11 rfl).trans ((F52 0 11 rfl).trans ((F51 0 11 rfl).trans ((F50 0 11 rfl).trans ((F49 0 11 rfl).trans ((F48 0 11 rfl).trans (f0_11 (h := h) hT)))))))) ?_
  refine am_e_aload_n n70_26 rfl ?_
  refine am_e_getf (v := .ref 2) n70_27 rfl ((F54 0 2 rfl).trans ((F53 0 2 rfl).trans ((F52 0 2 rfl).trans ((F51 0 2 rfl).trans ((F50 0 2 rfl).trans ((F49 0 2 rfl).trans ((F48 0 2 rfl).trans (f0_2 (h := h) hT)))))))) ?_
  refine am_e_aload_n n70_28 rfl ?_
  refine am_e_getf (v := .ref 48) n70_29 rfl ((F54 0 5 rfl).trans ((F53 0 5 rfl).trans ((F52 0 5 rfl).trans ((F51 0 5 rfl).trans ((F50 0 5 rfl).trans ((F49 0 5 rfl).trans ((F48 0 5 rfl).trans (f0_5 (h := h) hT)))))))) ?_
  refine am_e_callV (L := [(0, .ref 148), (1, .ref 2), (2, .ref 48)]) n70_30 rfl rfl rfl rfl rfl rfl rfl rfl ?_
  refine am_e_aload_n n31_0 rfl ?_
  refine am_e_aload_n n31_1 rfl ?_
  refine am_e_putf n31_2 rfl rfl ?_
  refine am_e_aload_n n31_3 rfl ?_
  refine am_e_getf (v := .ref 149) n31_4 rfl ((F54 148 1 rfl).trans ((F53 148 1 rfl).trans ((F52 148 1 rfl).trans ((F51 148 1 rfl).trans ((F50 148 1 rfl).trans ((F49 148 1 rfl).trans ((F48 148 1 rfl).trans (f148_1 (h := h) hT)))))))) ?_
  refine am_e_aload_n n31_5 rfl ?_
  refine am_e_callV (L := [(0, .ref 149), (1, .ref 48)]) n31_6 rfl rfl rfl rfl rfl rfl rfl rfl ?_
  refine am_e_aload_n n32_0 rfl ?_
  refine am_e_aload_n n32_1 rfl ?_
  refine am_e_getf (v := .int 0) n32_2 rfl ((F54 48 0 rfl).trans ((F53 48 0 rfl).trans ((F52 48 0 rfl).trans ((F51 48 0 rfl).trans ((F50 48 0 rfl).trans ((F49 48 0 rfl).trans ((F48 48 0 rfl).trans (f48_0 (h := h) hT)))))))) ?_
  refine am_e_putf n32_3 rfl rfl ?_
  refine am_e_aload_n n32_4 rfl ?_
  refine am_e_aload_n n32_5 rfl ?_
  refine am_e_getf (v := .int 0) n32_6 rfl ((F54 48 1 rfl).trans ((F53 48 1 rfl).trans ((F52 48 1 rfl).trans ((F51 48 1 rfl).trans ((F50 48 1 rfl).trans ((F49 48 1 rfl).trans ((F48 48 1 rfl).trans (f48_1 (h := h) hT)))))))) ?_
  refine am_e_putf n32_7 rfl rfl ?_
  refine am_e_aload_n n32_8 rfl ?_
  refine am_e_aload_n n32_9 rfl ?_
  refine am_e_getf (v := .int (-1)) n32_10 rfl ((F54 48 2 rfl).trans ((F53 48 2 rfl).trans ((F52 48 2 rfl).trans ((F51 48 2 rfl).trans ((F50 48 2 rfl).trans ((F49 48 2 rfl).trans ((F48 48 2 rfl).trans (f48_2 (h := h) hT)))))))) ?_
  refine am_e_putf n32_11 rfl rfl ?_
  refine am_e_aload_n n32_12 rfl ?_
  refine am_e_aload_n n32_13 rfl ?_
  refine am_e_getf (v := .int 0) n32_14 rfl ((F54 48 3 rfl).trans ((F53 48 3 rfl).trans ((F52 48 3 rfl).trans ((F51 48 3 rfl).trans ((F50 48 3 rfl).trans ((F49 48 3 rfl).trans ((F48 48 3 rfl).trans (f48_3 (h := h) hT)))))))) ?_
  refine am_e_putf n32_15 rfl rfl ?_
  refine am_e_aload_n n32_16 rfl ?_
  refine am_e_aload_n n32_17 rfl ?_
  refine am_e_getf (v := .int 0) n32_18 rfl ((F54 48 4 rfl).trans ((F53 48 4 rfl).trans ((F52 48 4 rfl).trans ((F51 48 4 rfl).trans ((F50 48 4 rfl).trans ((F49 48 4 rfl).trans ((F48 48 4 rfl).trans (f48_4 (h := h) hT)))))))) ?_
  refine am_e_putf n32_19 rfl rfl ?_
  refine am_e_iconst (w := 0) n32_20 rfl ?_
  refine am_e_istore_n (ls' := [(2, .int 0), (0, .ref 149), (1, .ref 48)]) n32_21 rfl rfl ?_
  refine am_e_iload_n n32_22 rfl ?_
  refine am_e_iconst (w := 4) n32_23 rfl ?_
  refine am_e_cmpF n32_24 (am_c_geF (by decide)) ?_
  refine am_e_aload_n n32_25 rfl ?_
  refine am_e_getf (v := .ref 150) n32_26 rfl ((F54 149 5 rfl).trans ((F53 149 5 rfl).trans ((F52 149 5 rfl).trans ((F51 149 5 rfl).trans ((F50 149 5 rfl).trans ((F49 149 5 rfl).trans ((F48 149 5 rfl).trans (f149_5 (h := h) hT)))))))) ?_
  refine am_e_iload_n n32_27 rfl ?_
  refine am_e_aload_n n32_28 rfl ?_
  refine am_e_getf (v := .ref 49) n32_29 rfl ((F54 48 5 rfl).trans ((F53 48 5 rfl).trans ((F52 48 5 rfl).trans ((F51 48 5 rfl).trans ((F50 48 5 rfl).trans ((F49 48 5 rfl).trans ((F48 48 5 rfl).trans (f48_5 (h := h) hT)))))))) ?_
  refine am_e_iload_n n32_30 rfl ?_
  refine am_e_iaload (v := 0) (q := 0) n32_31 rfl (by decide) (by decide) ((F54 49 0 rfl).trans ((F53 49 0 rfl).trans ((F52 49 0 rfl).trans ((F51 49 0 rfl).trans ((F50 49 0 rfl).trans ((F49 49 0 rfl).trans ((F48 49 0 rfl).trans (f49_0 (h := h) hT)))))))) ?_
  refine am_e_iastore (q := 0) n32_32 rfl (by decide) (by decide) ?_
  refine am_e_aload_n n32_33 rfl ?_
  refine am_e_getf (v := .ref 151) n32_34 rfl ((F54 149 6 rfl).trans ((F53 149 6 rfl).trans ((F52 149 6 rfl).trans ((F51 149 6 rfl).trans ((F50 149 6 rfl).trans ((F49 149 6 rfl).trans ((F48 149 6 rfl).trans (f149_6 (h := h) hT)))))))) ?_
  refine am_e_iload_n n32_35 rfl ?_
  refine am_e_aload_n n32_36 rfl ?_
  refine am_e_getf (v := .ref 50) n32_37 rfl ((F54 48 6 rfl).trans ((F53 48 6 rfl).trans ((F52 48 6 rfl).trans ((F51 48 6 rfl).trans ((F50 48 6 rfl).trans ((F49 48 6 rfl).trans ((F48 48 6 rfl).trans (f48_6 (h := h) hT)))))))) ?_
  refine am_e_iload_n n32_38 rfl ?_
  refine am_e_iaload (v := 0) (q := 0) n32_39 rfl (by decide) (by decide) ((F54 50 0 rfl).trans ((F53 50 0 rfl).trans ((F52 50 0 rfl).trans ((F51 50 0 rfl).trans ((F50 50 0 rfl).trans ((F49 50 0 rfl).trans ((F48 50 0 rfl).trans (f50_0 (h := h) hT)))))))) ?_
  refine am_e_iastore (q := 0) n32_40 rfl (by decide) (by decide) ?_
  refine am_e_aload_n n32_41 rfl ?_
  refine am_e_getf (v := .ref 152) n32_42 rfl ((F54 149 7 rfl).trans ((F53 149 7 rfl).trans ((F52 149 7 rfl).trans ((F51 149 7 rfl).trans ((F50 149 7 rfl).trans ((F49 149 7 rfl).trans ((F48 149 7 rfl).trans (f149_7 (h := h) hT)))))))) ?_
  refine am_e_iload_n n32_43 rfl ?_
  refine am_e_aload_n n32_44 rfl ?_
  refine am_e_getf (v := .ref 51) n32_45 rfl ((F54 48 7 rfl).trans ((F53 48 7 rfl).trans ((F52 48 7 rfl).trans ((F51 48 7 rfl).trans ((F50 48 7 rfl).trans ((F49 48 7 rfl).trans ((F48 48 7 rfl).trans (f48_7 (h := h) hT)))))))) ?_
  refine am_e_iload_n n32_46 rfl ?_
  refine am_e_iaload (v := 0) (q := 0) n32_47 rfl (by decide) (by decide) ((F54 51 0 rfl).trans ((F53 51 0 rfl).trans ((F52 51 0 rfl).trans ((F51 51 0 rfl).trans ((F50 51 0 rfl).trans ((F49 51 0 rfl).trans ((F48 51 0 rfl).trans (f51_0 (h := h) hT)))))))) ?_
  refine am_e_iastore (q := 0) n32_48 rfl (by decide) (by decide) ?_
  refine am_e_iinc (w := 1) (ls' := [(2, .int 1), (0, .ref 149), (1, .ref 48)]) n32_49 rfl rfl (by decide) rfl ?_
  refine am_e_goto c32_50 t32_50 ?_
  refine am_e_iload_n n32_22 rfl ?_
  refine am_e_iconst (w := 4) n32_23 rfl ?_
  refine am_e_cmpF n32_24 (am_c_geF (by decide)) ?_
  refine am_e_aload_n n32_25 rfl ?_
  refine am_e_getf (v := .ref 150) n32_26 rfl ((F54 149 5 rfl).trans ((F53 149 5 rfl).trans ((F52 149 5 rfl).trans ((F51 149 5 rfl).trans ((F50 149 5 rfl).trans ((F49 149 5 rfl).trans ((F48 149 5 rfl).trans (f149_5 (h := h) hT)))))))) ?_
  refine am_e_iload_n n32_27 rfl ?_
  refine am_e_aload_n n32_28 rfl ?_
  refine am_e_getf (v := .ref 49) n32_29 rfl ((F54 48 5 rfl).trans ((F53 48 5 rfl).trans ((F52 48 5 rfl).trans ((F51 48 5 rfl).trans ((F50 48 5 rfl).trans ((F49 48 5 rfl).trans ((F48 48 5 rfl).trans (f48_5 (h := h) hT)))))))) ?_
  refine am_e_iload_n n32_30 rfl ?_
  refine am_e_iaload (v := 0) (q := 1) n32_31 rfl (by decide) (by decide) ((F54 49 1 rfl).trans ((F53 49 1 rfl).trans ((F52 49 1 rfl).trans ((F51 49 1 rfl).trans ((F50 49 1 rfl).trans ((F49 49 1 rfl).trans ((F48 49 1 rfl).trans (f49_1 (h := h) hT)))))))) ?_
  refine am_e_iastore (q := 1) n32_32 rfl (by decide) (by decide) ?_
  refine am_e_aload_n n32_33 rfl ?_
  refine am_e_getf (v := .ref 151) n32_34 rfl ((F54 149 6 rfl).trans ((F53 149 6 rfl).trans ((F52 149 6 rfl).trans ((F51 149 6 rfl).trans ((F50 149 6 rfl).trans ((F49 149 6 rfl).trans ((F48 149 6 rfl).trans (f149_6 (h := h) hT)))))))) ?_
  refine am_e_iload_n n32_35 rfl ?_
  refine am_e_aload_n n32_36 rfl ?_
  refine am_e_getf (v := .ref 50) n32_37 rfl ((F54 48 6 rfl).trans ((F53 48 6 rfl).trans ((F52 48 6 rfl).trans ((F51 48 6 rfl).trans ((F50 48 6 rfl).trans ((F49 48 6 rfl).trans ((F48 48 6 rfl).trans (f48_6 (h := h) hT)))))))) ?_
  refine am_e_iload_n n32_38 rfl ?_
  refine am_e_iaload (v := 0) (q := 1) n32_39 rfl (by decide) (by decide) ((F54 50 1 rfl).trans ((F53 50 1 rfl).trans ((F52 50 1 rfl).trans ((F51 50 1 rfl).trans ((F50 50 1 rfl).trans ((F49 50 1 rfl).trans ((F48 50 1 rfl).trans (f50_1 (h := h) hT)))))))) ?_
  refine am_e_iastore (q := 1) n32_40 rfl (by decide) (by decide) ?_
  refine am_e_aload_n n32_41 rfl ?_
  refine am_e_getf (v := .ref 152) n32_42 rfl ((F54 149 7 rfl).trans ((F53 149 7 rfl).trans ((F52 149 7 rfl).trans ((F51 149 7 rfl).trans ((F50 149 7 rfl).trans ((F49 149 7 rfl).trans ((F48 149 7 rfl).trans (f149_7 (h := h) hT)))))))) ?_
  refine am_e_iload_n n32_43 rfl ?_
  refine am_e_aload_n n32_44 rfl ?_
  refine am_e_getf (v := .ref 51) n32_45 rfl ((F54 48 7 rfl).trans ((F53 48 7 rfl).trans ((F52 48 7 rfl).trans ((F51 48 7 rfl).trans ((F50 48 7 rfl).trans ((F49 48 7 rfl).trans ((F48 48 7 rfl).trans (f48_7 (h := h) hT)))))))) ?_
  refine am_e_iload_n n32_46 rfl ?_
  refine am_e_iaload (v := 0) (q := 1) n32_47 rfl (by decide) (by decide) ((F54 51 1 rfl).trans ((F53 51 1 rfl).trans ((F52 51 1 rfl).trans ((F51 51 1 rfl).trans ((F50 51 1 rfl).trans ((F49 51 1 rfl).trans ((F48 51 1 rfl).trans (f51_1 (h := h) hT)))))))) ?_
  refine am_e_iastore (q := 1) n32_48 rfl (by decide) (by decide) ?_
  refine am_e_iinc (w := 2) (ls' := [(2, .int 2), (0, .ref 149), (1, .ref 48)]) n32_49 rfl rfl (by decide) rfl ?_
  refine am_e_goto c32_50 t32_50 ?_
  refine am_e_iload_n n32_22 rfl ?_
  refine am_e_iconst (w := 4) n32_23 rfl ?_
  refine am_e_cmpF n32_24 (am_c_geF (by decide)) ?_
  refine am_e_aload_n n32_25 rfl ?_
  refine am_e_getf (v := .ref 150) n32_26 rfl ((F54 149 5 rfl).trans ((F53 149 5 rfl).trans ((F52 149 5 rfl).trans ((F51 149 5 rfl).trans ((F50 149 5 rfl).trans ((F49 149 5 rfl).trans ((F48 149 5 rfl).trans (f149_5 (h := h) hT)))))))) ?_
  refine am_e_iload_n n32_27 rfl ?_
  refine am_e_aload_n n32_28 rfl ?_
  refine am_e_getf (v := .ref 49) n32_29 rfl ((F54 48 5 rfl).trans ((F53 48 5 rfl).trans ((F52 48 5 rfl).trans ((F51 48 5 rfl).trans ((F50 48 5 rfl).trans ((F49 48 5 rfl).trans ((F48 48 5 rfl).trans (f48_5 (h := h) hT)))))))) ?_
  refine am_e_iload_n n32_30 rfl ?_
  refine am_e_iaload (v := 0) (q := 2) n32_31 rfl (by decide) (by decide) ((F54 49 2 rfl).trans ((F53 49 2 rfl).trans ((F52 49 2 rfl).trans ((F51 49 2 rfl).trans ((F50 49 2 rfl).trans ((F49 49 2 rfl).trans ((F48 49 2 rfl).trans (f49_2 (h := h) hT)))))))) ?_
  refine am_e_iastore (q := 2) n32_32 rfl (by decide) (by decide) ?_
  refine am_e_aload_n n32_33 rfl ?_
  refine am_e_getf (v := .ref 151) n32_34 rfl ((F54 149 6 rfl).trans ((F53 149 6 rfl).trans ((F52 149 6 rfl).trans ((F51 149 6 rfl).trans ((F50 149 6 rfl).trans ((F49 149 6 rfl).trans ((F48 149 6 rfl).trans (f149_6 (h := h) hT)))))))) ?_
  refine am_e_iload_n n32_35 rfl ?_
  refine am_e_aload_n n32_36 rfl ?_
  refine am_e_getf (v := .ref 50) n32_37 rfl ((F54 48 6 rfl).trans ((F53 48 6 rfl).trans ((F52 48 6 rfl).trans ((F51 48 6 rfl).trans ((F50 48 6 rfl).trans ((F49 48 6 rfl).trans ((F48 48 6 rfl).trans (f48_6 (h := h) hT)))))))) ?_
  refine am_e_iload_n n32_38 rfl ?_
  refine am_e_iaload (v := 0) (q := 2) n32_39 rfl (by decide) (by decide) ((F54 50 2 rfl).trans ((F53 50 2 rfl).trans ((F52 50 2 rfl).trans ((F51 50 2 rfl).trans ((F50 50 2 rfl).trans ((F49 50 2 rfl).trans ((F48 50 2 rfl).trans (f50_2 (h := h) hT)))))))) ?_
  refine am_e_iastore (q := 2) n32_40 rfl (by decide) (by decide) ?_
  refine am_e_aload_n n32_41 rfl ?_
  refine am_e_getf (v := .ref 152) n32_42 rfl ((F54 149 7 rfl).trans ((F53 149 7 rfl).trans ((F52 149 7 rfl).trans ((F51 149 7 rfl).trans ((F50 149 7 rfl).trans ((F49 149 7 rfl).trans ((F48 149 7 rfl).trans (f149_7 (h := h) hT)))))))) ?_
  refine am_e_iload_n n32_43 rfl ?_
  refine am_e_aload_n n32_44 rfl ?_
  refine am_e_getf (v := .ref 51) n32_45 rfl ((F54 48 7 rfl).trans ((F53 48 7 rfl).trans ((F52 48 7 rfl).trans ((F51 48 7 rfl).trans ((F50 48 7 rfl).trans ((F49 48 7 rfl).trans ((F48 48 7 rfl).trans (f48_7 (h := h) hT)))))))) ?_
  refine am_e_iload_n n32_46 rfl ?_
  refine am_e_iaload (v := 0) (q := 2) n32_47 rfl (by decide) (by decide) ((F54 51 2 rfl).trans ((F53 51 2 rfl).trans ((F52 51 2 rfl).trans ((F51 51 2 rfl).trans ((F50 51 2 rfl).trans ((F49 51 2 rfl).trans ((F48 51 2 rfl).trans (f51_2 (h := h) hT)))))))) ?_
  refine am_e_iastore (q := 2) n32_48 rfl (by decide) (by decide) ?_
  refine am_e_iinc (w := 3) (ls' := [(2, .int 3), (0, .ref 149), (1, .ref 48)]) n32_49 rfl rfl (by decide) rfl ?_
  refine am_e_goto c32_50 t32_50 ?_
  refine am_e_iload_n n32_22 rfl ?_
  refine am_e_iconst (w := 4) n32_23 rfl ?_
  refine am_e_cmpF n32_24 (am_c_geF (by decide)) ?_
  refine am_e_aload_n n32_25 rfl ?_
  refine am_e_getf (v := .ref 150) n32_26 rfl ((F54 149 5 rfl).trans ((F53 149 5 rfl).trans ((F52 149 5 rfl).trans ((F51 149 5 rfl).trans ((F50 149 5 rfl).trans ((F49 149 5 rfl).trans ((F48 149 5 rfl).trans (f149_5 (h := h) hT)))))))) ?_
  refine am_e_iload_n n32_27 rfl ?_
  refine am_e_aload_n n32_28 rfl ?_
  refine am_e_getf (v := .ref 49) n32_29 rfl ((F54 48 5 rfl).trans ((F53 48 5 rfl).trans ((F52 48 5 rfl).trans ((F51 48 5 rfl).trans ((F50 48 5 rfl).trans ((F49 48 5 rfl).trans ((F48 48 5 rfl).trans (f48_5 (h := h) hT)))))))) ?_
  refine am_e_iload_n n32_30 rfl ?_
  refine am_e_iaload (v := 0) (q := 3) n32_31 rfl (by decide) (by decide) ((F54 49 3 rfl).trans ((F53 49 3 rfl).trans ((F52 49 3 rfl).trans ((F51 49 3 rfl).trans ((F50 49 3 rfl).trans ((F49 49 3 rfl).trans ((F48 49 3 rfl).trans (f49_3 (h := h) hT)))))))) ?_
  refine am_e_iastore (q := 3) n32_32 rfl (by decide) (by decide) ?_
  refine am_e_aload_n n32_33 rfl ?_
  refine am_e_getf (v := .ref 151) n32_34 rfl ((F54 149 6 rfl).trans ((F53 149 6 rfl).trans ((F52 149 6 rfl).trans ((F51 149 6 rfl).trans ((F50 149 6 rfl).trans ((F49 149 6 rfl).trans ((F48 149 6 rfl).trans (f149_6 (h := h) hT)))))))) ?_
  refine am_e_iload_n n32_35 rfl ?_
  refine am_e_aload_n n32_36 rfl ?_
  refine am_e_getf (v := .ref 50) n32_37 rfl ((F54 48 6 rfl).trans ((F53 48 6 rfl).trans ((F52 48 6 rfl).trans ((F51 48 6 rfl).trans ((F50 48 6 rfl).trans ((F49 48 6 rfl).trans ((F48 48 6 rfl).trans (f48_6 (h := h) hT)))))))) ?_
  refine am_e_iload_n n32_38 rfl ?_
  refine am_e_iaload (v := 0) (q := 3) n32_39 rfl (by decide) (by decide) ((F54 50 3 rfl).trans ((F53 50 3 rfl).trans ((F52 50 3 rfl).trans ((F51 50 3 rfl).trans ((F50 50 3 rfl).trans ((F49 50 3 rfl).trans ((F48 50 3 rfl).trans (f50_3 (h := h) hT)))))))) ?_
  refine am_e_iastore (q := 3) n32_40 rfl (by decide) (by decide) ?_
  refine am_e_aload_n n32_41 rfl ?_
  refine am_e_getf (v := .ref 152) n32_42 rfl ((F54 149 7 rfl).trans ((F53 149 7 rfl).trans ((F52 149 7 rfl).trans ((F51 149 7 rfl).trans ((F50 149 7 rfl).trans ((F49 149 7 rfl).trans ((F48 149 7 rfl).trans (f149_7 (h := h) hT)))))))) ?_
  refine am_e_iload_n n32_43 rfl ?_
  refine am_e_aload_n n32_44 rfl ?_
  refine am_e_getf (v := .ref 51) n32_45 rfl ((F54 48 7 rfl).trans ((F53 48 7 rfl).trans ((F52 48 7 rfl).trans ((F51 48 7 rfl).trans ((F50 48 7 rfl).trans ((F49 48 7 rfl).trans ((F48 48 7 rfl).trans (f48_7 (h := h) hT)))))))) ?_
  refine am_e_iload_n n32_46 rfl ?_
  refine am_e_iaload (v := 0) (q := 3) n32_47 rfl (by decide) (by decide) ((F54 51 3 rfl).trans ((F53 51 3 rfl).trans ((F52 51 3 rfl).trans ((F51 51 3 rfl).trans ((F50 51 3 rfl).trans ((F49 51 3 rfl).trans ((F48 51 3 rfl).trans (f51_3 (h := h) hT)))))))) ?_
  refine am_e_iastore (q := 3) n32_48 rfl (by decide) (by decide) ?_
  refine am_e_iinc (w := 4) (ls' := [(2, .int 4), (0, .ref 149), (1, .ref 48)]) n32_49 rfl rfl (by decide) rfl ?_
  refine am_e_goto c32_50 t32_50 ?_
  refine am_e_iload_n n32_22 rfl ?_
  refine am_e_iconst (w := 4) n32_23 rfl ?_
  refine am_e_cmpT n32_24 (am_c_geT (by decide)) t32_24 ?_
  refine am_e_vret c32_51 rfl rfl ?_
  refine am_e_aload_n n31_7 rfl ?_
  refine am_e_aload_n n31_8 rfl ?_
  refine am_e_getf (v := .int (-1)) n31_9 rfl ((F54 2 18 rfl).trans ((F53 2 18 rfl).trans ((F52 2 18 rfl).trans ((F51 2 18 rfl).trans ((F50 2 18 rfl).trans ((F49 2 18 rfl).trans ((F48 2 18 rfl).trans (f2_18 (h := h) hT)))))))) ?_
  refine am_e_putf n31_10 rfl rfl ?_
  refine am_e_aload_n n31_11 rfl ?_
  refine am_e_iconst (w := 0) n31_12 rfl ?_
  refine am_e_putf n31_13 rfl rfl ?_
  refine am_e_aload_n n31_14 rfl ?_
  refine am_e_iconst (w := 0) n31_15 rfl ?_
  refine am_e_putf n31_16 rfl rfl ?_
  refine am_e_aload_n n31_17 rfl ?_
  refine am_e_ldc (w := 2147483647) n31_18 (by decide) ?_
  refine am_e_putf n31_19 rfl rfl ?_
  refine am_e_aload_n n31_20 rfl ?_
  refine am_e_ldc (w := 2147483647) n31_21 (by decide) ?_
  refine am_e_putf n31_22 rfl rfl ?_
  refine am_e_vret c31_23 rfl rfl ?_
  refine am_e_iconst (w := 0) n70_31 rfl ?_
  refine am_e_istore (ls' := [(8, .int 0), (7, .int 7), (0, .ref 0), (2, .int (nI n)), (3, .int (nI b)), (4, .long dr54), (6, .int 0)]) n70_32 rfl rfl ?_
  refine am_Ek_ls (ls' := [(0, .ref 0), (2, .int (nI n)), (3, .int (nI b)), (4, .long dr54), (6, .int 0), (7, .int 7), (8, .int (nI 0))]) ⟨rfl, rfl, rfl, rfl, rfl, rfl, rfl, trivial⟩ ?_
  refine am_cc_e (n := n) (b := b) (s := 0) (t := 0) (i7 := 7) (dr := dr54) (by omega) (by omega) ⟨((F54 0 11 rfl).trans ((F53 0 11 rfl).trans ((F52 0 11 rfl).trans ((F51 0 11 rfl).trans ((F50 0 11 rfl).trans ((F49 0 11 rfl).trans ((F48 0 11 rfl).trans (f0_11 (h := h) hT)))))))), ((F54 0 2 rfl).trans ((F53 0 2 rfl).trans ((F52 0 2 rfl).trans ((F51 0 2 rfl).trans ((F50 0 2 rfl).trans ((F49 0 2 rfl).trans ((F48 0 2 rfl).trans (f0_2 (h := h) hT)))))))), ((F54 2 16 rfl).trans ((F53 2 16 rfl).trans ((F52 2 16 rfl).trans ((F51 2 16 rfl).trans ((F50 2 16 rfl).trans ((F49 2 16 rfl).trans ((F48 2 16 rfl).trans (f2_16 (h := h) hT)))))))), ((F54 148 1 rfl).trans ((F53 148 1 rfl).trans ((F52 148 1 rfl).trans ((F51 148 1 rfl).trans ((F50 148 1 rfl).trans ((F49 148 1 rfl).trans ((F48 148 1 rfl).trans (f148_1 (h := h) hT)))))))), rfl, rfl, ((F54 2 19 rfl).trans ((F53 2 19 rfl).trans ((F52 2 19 rfl).trans ((F51 2 19 rfl).trans ((F50 2 19 rfl).trans ((F49 2 19 rfl).trans ((F48 2 19 rfl).trans (f2_19 (h := h) hT)))))))), ((F54 11 7 rfl).trans ((F53 11 7 rfl).trans ((F52 11 7 rfl).trans ((F51 11 7 rfl).trans ((F50 11 7 rfl).trans ((F49 11 7 rfl).trans ((F48 11 7 rfl).trans (f11_7 (h := h) hT)))))))), ((F54 2 0 rfl).trans ((F53 2 0 rfl).trans ((F52 2 0 rfl).trans ((F51 2 0 rfl).trans ((F50 2 0 rfl).trans ((F49 2 0 rfl).trans ((F48 2 0 rfl).trans (f2_0 (h := h) hT)))))))), ((F54 11 6 rfl).trans ((F53 11 6 rfl).trans ((F52 11 6 rfl).trans ((F51 11 6 rfl).trans ((F50 11 6 rfl).trans ((F49 11 6 rfl).trans ((F48 11 6 rfl).trans (f11_6 (h := h) hT)))))))), ((F54 16 0 rfl).trans ((F53 16 0 rfl).trans ((F52 16 0 rfl).trans ((F51 16 0 rfl).trans ((F50 16 0 rfl).trans ((F49 16 0 rfl).trans ((F48 16 0 rfl).trans (f16_0 (h := h) hT)))))))), ((F54 11 4 rfl).trans ((F53 11 4 rfl).trans ((F52 11 4 rfl).trans ((F51 11 4 rfl).trans ((F50 11 4 rfl).trans ((F49 11 4 rfl).trans ((F48 11 4 rfl).trans (f11_4 (h := h) hT)))))))), ((F54 14 0 rfl).trans ((F53 14 0 rfl).trans ((F52 14 0 rfl).trans ((F51 14 0 rfl).trans ((F50 14 0 rfl).trans ((F49 14 0 rfl).trans ((F48 14 0 rfl).trans (f14_0 (h := h) hT)))))))), ((F54 11 5 rfl).trans ((F53 11 5 rfl).trans ((F52 11 5 rfl).trans ((F51 11 5 rfl).trans ((F50 11 5 rfl).trans ((F49 11 5 rfl).trans ((F48 11 5 rfl).trans (f11_5 (h := h) hT)))))))), ((F54 15 0 rfl).trans ((F53 15 0 rfl).trans ((F52 15 0 rfl).trans ((F51 15 0 rfl).trans ((F50 15 0 rfl).trans ((F49 15 0 rfl).trans ((F48 15 0 rfl).trans (f15_0 (h := h) hT)))))))), rfl, rfl, trivial⟩ rfl rfl rfl ?_
  intro h55 dr55 F55 qa55 qb55 qc55
  obtain ⟨l55, qc55⟩ := qc55
  refine am_e_aload_n n70_57 rfl ?_
  refine am_e_getf (v := .ref 148) n70_58 rfl ((F55 0 11 rfl).trans ((F54 0 11 rfl).trans ((F53 0 11 rfl).trans ((F52 0 11 rfl).trans ((F51 0 11 rfl).trans ((F50 0 11 rfl).trans ((F49 0 11 rfl).trans ((F48 0 11 rfl).trans (f0_11 (h := h) hT))))))))) ?_
  refine am_e_getf (v := .ref 149) n70_59 rfl ((F55 148 1 rfl).trans ((F54 148 1 rfl).trans ((F53 148 1 rfl).trans ((F52 148 1 rfl).trans ((F51 148 1 rfl).trans ((F50 148 1 rfl).trans ((F49 148 1 rfl).trans ((F48 148 1 rfl).trans (f148_1 (h := h) hT))))))))) ?_
  refine am_e_getf (v := .int 0) n70_60 rfl qa55 ?_
  refine am_e_iload_n n70_61 rfl ?_
  refine am_e_cmpT n70_62 (am_c_ltT (nI_lt (a := 0) hb0 (by omega))) t70_62 ?_
  refine am_e_iinc (w := 8) (ls' := [(7, .int 8), (0, .ref 0), (2, .int (nI n)), (3, .int (nI b)), (4, .long dr55), (6, .int 0), (8, .int (nI n))]) n70_64 rfl rfl (by decide) rfl ?_
  refine am_e_goto c70_65 t70_65 ?_
  refine am_e_iload n70_21 rfl ?_
  refine am_e_bipush (w := 10) n70_22 (by decide) ?_
  refine am_e_cmpF n70_23 (am_c_geF (by decide)) ?_
  refine am_e_aload_n n70_24 rfl ?_
  refine am_e_getf (v := .ref 148) n70_25 rfl ((F55 0 11 rfl).trans ((F54 0 11 rfl).trans ((F53 0 11 rfl).trans ((F52 0 11 rfl).trans ((F51 0 11 rfl).trans ((F50 0 11 rfl).trans ((F49 0 11 rfl).trans ((F48 0 11 rfl).trans (f0_11 (h := h) hT))))))))) ?_
  refine am_e_aload_n n70_26 rfl ?_
  refine am_e_getf (v := .ref 2) n70_27 rfl ((F55 0 2 rfl).trans ((F54 0 2 rfl).trans ((F53 0 2 rfl).trans ((F52 0 2 rfl).trans ((F51 0 2 rfl).trans ((F50 0 2 rfl).trans ((F49 0 2 rfl).trans ((F48 0 2 rfl).trans (f0_2 (h := h) hT))))))))) ?_
  refine am_e_aload_n n70_28 rfl ?_
  refine am_e_getf (v := .ref 48) n70_29 rfl ((F55 0 5 rfl).trans ((F54 0 5 rfl).trans ((F53 0 5 rfl).trans ((F52 0 5 rfl).trans ((F51 0 5 rfl).trans ((F50 0 5 rfl).trans ((F49 0 5 rfl).trans ((F48 0 5 rfl).trans (f0_5 (h := h) hT))))))))) ?_
  refine am_e_callV (L := [(0, .ref 148), (1, .ref 2), (2, .ref 48)]) n70_30 rfl rfl rfl rfl rfl rfl rfl rfl ?_
  refine am_e_aload_n n31_0 rfl ?_
  refine am_e_aload_n n31_1 rfl ?_
  refine am_e_putf n31_2 rfl rfl ?_
  refine am_e_aload_n n31_3 rfl ?_
  refine am_e_getf (v := .ref 149) n31_4 rfl ((F55 148 1 rfl).trans ((F54 148 1 rfl).trans ((F53 148 1 rfl).trans ((F52 148 1 rfl).trans ((F51 148 1 rfl).trans ((F50 148 1 rfl).trans ((F49 148 1 rfl).trans ((F48 148 1 rfl).trans (f148_1 (h := h) hT))))))))) ?_
  refine am_e_aload_n n31_5 rfl ?_
  refine am_e_callV (L := [(0, .ref 149), (1, .ref 48)]) n31_6 rfl rfl rfl rfl rfl rfl rfl rfl ?_
  refine am_e_aload_n n32_0 rfl ?_
  refine am_e_aload_n n32_1 rfl ?_
  refine am_e_getf (v := .int 0) n32_2 rfl ((F55 48 0 rfl).trans ((F54 48 0 rfl).trans ((F53 48 0 rfl).trans ((F52 48 0 rfl).trans ((F51 48 0 rfl).trans ((F50 48 0 rfl).trans ((F49 48 0 rfl).trans ((F48 48 0 rfl).trans (f48_0 (h := h) hT))))))))) ?_
  refine am_e_putf n32_3 rfl rfl ?_
  refine am_e_aload_n n32_4 rfl ?_
  refine am_e_aload_n n32_5 rfl ?_
  refine am_e_getf (v := .int 0) n32_6 rfl ((F55 48 1 rfl).trans ((F54 48 1 rfl).trans ((F53 48 1 rfl).trans ((F52 48 1 rfl).trans ((F51 48 1 rfl).trans ((F50 48 1 rfl).trans ((F49 48 1 rfl).trans ((F48 48 1 rfl).trans (f48_1 (h := h) hT))))))))) ?_
  refine am_e_putf n32_7 rfl rfl ?_
  refine am_e_aload_n n32_8 rfl ?_
  refine am_e_aload_n n32_9 rfl ?_
  refine am_e_getf (v := .int (-1)) n32_10 rfl ((F55 48 2 rfl).trans ((F54 48 2 rfl).trans ((F53 48 2 rfl).trans ((F52 48 2 rfl).trans ((F51 48 2 rfl).trans ((F50 48 2 rfl).trans ((F49 48 2 rfl).trans ((F48 48 2 rfl).trans (f48_2 (h := h) hT))))))))) ?_
  refine am_e_putf n32_11 rfl rfl ?_
  refine am_e_aload_n n32_12 rfl ?_
  refine am_e_aload_n n32_13 rfl ?_
  refine am_e_getf (v := .int 0) n32_14 rfl ((F55 48 3 rfl).trans ((F54 48 3 rfl).trans ((F53 48 3 rfl).trans ((F52 48 3 rfl).trans ((F51 48 3 rfl).trans ((F50 48 3 rfl).trans ((F49 48 3 rfl).trans ((F48 48 3 rfl).trans (f48_3 (h := h) hT))))))))) ?_
  refine am_e_putf n32_15 rfl rfl ?_
  refine am_e_aload_n n32_16 rfl ?_
  refine am_e_aload_n n32_17 rfl ?_
  refine am_e_getf (v := .int 0) n32_18 rfl ((F55 48 4 rfl).trans ((F54 48 4 rfl).trans ((F53 48 4 rfl).trans ((F52 48 4 rfl).trans ((F51 48 4 rfl).trans ((F50 48 4 rfl).trans ((F49 48 4 rfl).trans ((F48 48 4 rfl).trans (f48_4 (h := h) hT))))))))) ?_
  refine am_e_putf n32_19 rfl rfl ?_
  refine am_e_iconst (w := 0) n32_20 rfl ?_
  refine am_e_istore_n (ls' := [(2, .int 0), (0, .ref 149), (1, .ref 48)]) n32_21 rfl rfl ?_
  refine am_e_iload_n n32_22 rfl ?_
  refine am_e_iconst (w := 4) n32_23 rfl ?_
  refine am_e_cmpF n32_24 (am_c_geF (by decide)) ?_
  refine am_e_aload_n n32_25 rfl ?_
  refine am_e_getf (v := .ref 150) n32_26 rfl ((F55 149 5 rfl).trans ((F54 149 5 rfl).trans ((F53 149 5 rfl).trans ((F52 149 5 rfl).trans ((F51 149 5 rfl).trans ((F50 149 5 rfl).trans ((F49 149 5 rfl).trans ((F48 149 5 rfl).trans (f149_5 (h := h) hT))))))))) ?_
  refine am_e_iload_n n32_27 rfl ?_
  refine am_e_aload_n n32_28 rfl ?_
  refine am_e_getf (v := .ref 49) n32_29 rfl ((F55 48 5 rfl).trans ((F54 48 5 rfl).trans ((F53 48 5 rfl).trans ((F52 48 5 rfl).trans ((F51 48 5 rfl).trans ((F50 48 5 rfl).trans ((F49 48 5 rfl).trans ((F48 48 5 rfl).trans (f48_5 (h := h) hT))))))))) ?_
  refine am_e_iload_n n32_30 rfl ?_
  refine am_e_iaload (v := 0) (q := 0) n32_31 rfl (by decide) (by decide) ((F55 49 0 rfl).trans ((F54 49 0 rfl).trans ((F53 49 0 rfl).trans ((F52 49 0 rfl).trans ((F51 49 0 rfl).trans ((F50 49 0 rfl).trans ((F49 49 0 rfl).trans ((F48 49 0 rfl).trans (f49_0 (h := h) hT))))))))) ?_
  refine am_e_iastore (q := 0) n32_32 rfl (by decide) (by decide) ?_
  refine am_e_aload_n n32_33 rfl ?_
  refine am_e_getf (v := .ref 151) n32_34 rfl ((F55 149 6 rfl).trans ((F54 149 6 rfl).trans ((F53 149 6 rfl).trans ((F52 149 6 rfl).trans ((F51 149 6 rfl).trans ((F50 149 6 rfl).trans ((F49 149 6 rfl).trans ((F48 149 6 rfl).trans (f149_6 (h := h) hT))))))))) ?_
  refine am_e_iload_n n32_35 rfl ?_
  refine am_e_aload_n n32_36 rfl ?_
  refine am_e_getf (v := .ref 50) n32_37 rfl ((F55 48 6 rfl).trans ((F54 48 6 rfl).trans ((F53 48 6 rfl).trans ((F52 48 6 rfl).trans ((F51 48 6 rfl).trans ((F50 48 6 rfl).trans ((F49 48 6 rfl).trans ((F48 48 6 rfl).trans (f48_6 (h := h) hT))))))))) ?_
  refine am_e_iload_n n32_38 rfl ?_
  refine am_e_iaload (v := 0) (q := 0) n32_39 rfl (by decide) (by decide) ((F55 50 0 rfl).trans ((F54 50 0 rfl).trans ((F53 50 0 rfl).trans ((F52 50 0 rfl).trans ((F51 50 0 rfl).trans ((F50 50 0 rfl).trans ((F49 50 0 rfl).trans ((F48 50 0 rfl).trans (f50_0 (h := h) hT))))))))) ?_
  refine am_e_iastore (q := 0) n32_40 rfl (by decide) (by decide) ?_
  refine am_e_aload_n n32_41 rfl ?_
  refine am_e_getf (v := .ref 152) n32_42 rfl ((F55 149 7 rfl).trans ((F54 149 7 rfl).trans ((F53 149 7 rfl).trans ((F52 149 7 rfl).trans ((F51 149 7 rfl).trans ((F50 149 7 rfl).trans ((F49 149 7 rfl).trans ((F48 149 7 rfl).trans (f149_7 (h := h) hT))))))))) ?_
  refine am_e_iload_n n32_43 rfl ?_
  refine am_e_aload_n n32_44 rfl ?_
  refine am_e_getf (v := .ref 51) n32_45 rfl ((F55 48 7 rfl).trans ((F54 48 7 rfl).trans ((F53 48 7 rfl).trans ((F52 48 7 rfl).trans ((F51 48 7 rfl).trans ((F50 48 7 rfl).trans ((F49 48 7 rfl).trans ((F48 48 7 rfl).trans (f48_7 (h := h) hT))))))))) ?_
  refine am_e_iload_n n32_46 rfl ?_
  refine am_e_iaload (v := 0) (q := 0) n32_47 rfl (by decide) (by decide) ((F55 51 0 rfl).trans ((F54 51 0 rfl).trans ((F53 51 0 rfl).trans ((F52 51 0 rfl).trans ((F51 51 0 rfl).trans ((F50 51 0 rfl).trans ((F49 51 0 rfl).trans ((F48 51 0 rfl).trans (f51_0 (h := h) hT))))))))) ?_
  refine am_e_iastore (q := 0) n32_48 rfl (by decide) (by decide) ?_
  refine am_e_iinc (w := 1) (ls' := [(2, .int 1), (0, .ref 149), (1, .ref 48)]) n32_49 rfl rfl (by decide) rfl ?_
  refine am_e_goto c32_50 t32_50 ?_
  refine am_e_iload_n n32_22 rfl ?_
  refine am_e_iconst (w := 4) n32_23 rfl ?_
  refine am_e_cmpF n32_24 (am_c_geF (by decide)) ?_
  refine am_e_aload_n n32_25 rfl ?_
  refine am_e_getf (v := .ref 150) n32_26 rfl ((F55 149 5 rfl).trans ((F54 149 5 rfl).trans ((F53 149 5 rfl).trans ((F52 149 5 rfl).trans ((F51 149 5 rfl).trans ((F50 149 5 rfl).trans ((F49 149 5 rfl).trans ((F48 149 5 rfl).trans (f149_5 (h := h) hT))))))))) ?_
  refine am_e_iload_n n32_27 rfl ?_
  refine am_e_aload_n n32_28 rfl ?_
  refine am_e_getf (v := .ref 49) n32_29 rfl ((F55 48 5 rfl).trans ((F54 48 5 rfl).trans ((F53 48 5 rfl).trans ((F52 48 5 rfl).trans ((F51 48 5 rfl).trans ((F50 48 5 rfl).trans ((F49 48 5 rfl).trans ((F48 48 5 rfl).trans (f48_5 (h := h) hT))))))))) ?_
  refine am_e_iload_n n32_30 rfl ?_
  refine am_e_iaload (v := 0) (q := 1) n32_31 rfl (by decide) (by decide) ((F55 49 1 rfl).trans ((F54 49 1 rfl).trans ((F53 49 1 rfl).trans ((F52 49 1 rfl).trans ((F51 49 1 rfl).trans ((F50 49 1 rfl).trans ((F49 49 1 rfl).trans ((F48 49 1 rfl).trans (f49_1 (h := h) hT))))))))) ?_
  refine am_e_iastore (q := 1) n32_32 rfl (by decide) (by decide) ?_
  refine am_e_aload_n n32_33 rfl ?_
  refine am_e_getf (v := .ref 151) n32_34 rfl ((F55 149 6 rfl).trans ((F54 149 6 rfl).trans ((F53 149 6 rfl).trans ((F52 149 6 rfl).trans ((F51 149 6 rfl).trans ((F50 149 6 rfl).trans ((F49 149 6 rfl).trans ((F48 149 6 rfl).trans (f149_6 (h := h) hT))))))))) ?_
  refine am_e_iload_n n32_35 rfl ?_
  refine am_e_aload_n n32_36 rfl ?_
  refine am_e_getf (v := .ref 50) n32_37 rfl ((F55 48 6 rfl).trans ((F54 48 6 rfl).trans ((F53 48 6 rfl).trans ((F52 48 6 rfl).trans ((F51 48 6 rfl).trans ((F50 48 6 rfl).trans ((F49 48 6 rfl).trans ((F48 48 6 rfl).trans (f48_6 (h := h) hT))))))))) ?_
  refine am_e_iload_n n32_38 rfl ?_
  refine am_e_iaload (v := 0) (q := 1) n32_39 rfl (by decide) (by decide) ((F55 50 1 rfl).trans ((F54 50 1 rfl).trans ((F53 50 1 rfl).trans ((F52 50 1 rfl).trans ((F51 50 1 rfl).trans ((F50 50 1 rfl).trans ((F49 50 1 rfl).trans ((F48 50 1 rfl).trans (f50_1 (h := h) hT))))))))) ?_
  refine am_e_iastore (q := 1) n32_40 rfl (by decide) (by decide) ?_
  refine am_e_aload_n n32_41 rfl ?_
  refine am_e_getf (v := .ref 152) n32_42 rfl ((F55 149 7 rfl).trans ((F54 149 7 rfl).trans ((F53 149 7 rfl).trans ((F52 149 7 rfl).trans ((F51 149 7 rfl).trans ((F50 149 7 rfl).trans ((F49 149 7 rfl).trans ((F48 149 7 rfl).trans (f149_7 (h := h) hT))))))))) ?_
  refine am_e_iload_n n32_43 rfl ?_
  refine am_e_aload_n n32_44 rfl ?_
  refine am_e_getf (v := .ref 51) n32_45 rfl ((F55 48 7 rfl).trans ((F54 48 7 rfl).trans ((F53 48 7 rfl).trans ((F52 48 7 rfl).trans ((F51 48 7 rfl).trans ((F50 48 7 rfl).trans ((F49 48 7 rfl).trans ((F48 48 7 rfl).trans (f48_7 (h := h) hT))))))))) ?_
  refine am_e_iload_n n32_46 rfl ?_
  refine am_e_iaload (v := 0) (q := 1) n32_47 rfl (by decide) (by decide) ((F55 51 1 rfl).trans ((F54 51 1 rfl).trans ((F53 51 1 rfl).trans ((F52 51 1 rfl).trans ((F51 51 1 rfl).trans ((F50 51 1 rfl).trans ((F49 51 1 rfl).trans ((F48 51 1 rfl).trans (f51_1 (h := h) hT))))))))) ?_
  refine am_e_iastore (q := 1) n32_48 rfl (by decide) (by decide) ?_
  refine am_e_iinc (w := 2) (ls' := [(2, .int 2), (0, .ref 149), (1, .ref 48)]) n32_49 rfl rfl (by decide) rfl ?_
  refine am_e_goto c32_50 t32_50 ?_
  refine am_e_iload_n n32_22 rfl ?_
  refine am_e_iconst (w := 4) n32_23 rfl ?_
  refine am_e_cmpF n32_24 (am_c_geF (by decide)) ?_
  refine am_e_aload_n n32_25 rfl ?_
  refine am_e_getf (v := .ref 150) n32_26 rfl ((F55 149 5 rfl).trans ((F54 149 5 rfl).trans ((F53 149 5 rfl).trans ((F52 149 5 rfl).trans ((F51 149 5 rfl).trans ((F50 149 5 rfl).trans ((F49 149 5 rfl).trans ((F48 149 5 rfl).trans (f149_5 (h := h) hT))))))))) ?_
  refine am_e_iload_n n32_27 rfl ?_
  refine am_e_aload_n n32_28 rfl ?_
  refine am_e_getf (v := .ref 49) n32_29 rfl ((F55 48 5 rfl).trans ((F54 48 5 rfl).trans ((F53 48 5 rfl).trans ((F52 48 5 rfl).trans ((F51 48 5 rfl).trans ((F50 48 5 rfl).trans ((F49 48 5 rfl).trans ((F48 48 5 rfl).trans (f48_5 (h := h) hT))))))))) ?_
  refine am_e_iload_n n32_30 rfl ?_
  refine am_e_iaload (v := 0) (q := 2) n32_31 rfl (by decide) (by decide) ((F55 49 2 rfl).trans ((F54 49 2 rfl).trans ((F53 49 2 rfl).trans ((F52 49 2 rfl).trans ((F51 49 2 rfl).trans ((F50 49 2 rfl).trans ((F49 49 2 rfl).trans ((F48 49 2 rfl).trans (f49_2 (h := h) hT))))))))) ?_
  refine am_e_iastore (q := 2) n32_32 rfl (by decide) (by decide) ?_
  refine am_e_aload_n n32_33 rfl ?_
  refine am_e_getf (v := .ref 151) n32_34 rfl ((F55 149 6 rfl).trans ((F54 149 6 rfl).trans ((F53 149 6 rfl).trans ((F52 149 6 rfl).trans ((F51 149 6 rfl).trans ((F50 149 6 rfl).trans ((F49 149 6 rfl).trans ((F48 149 6 rfl).trans (f149_6 (h := h) hT))))))))) ?_
  refine am_e_iload_n n32_35 rfl ?_
  refine am_e_aload_n n32_36 rfl ?_
  refine am_e_getf (v := .ref 50) n32_37 rfl ((F55 48 6 rfl).trans ((F54 48 6 rfl).trans ((F53 48 6 rfl).trans ((F52 48 6 rfl).trans ((F51 48 6 rfl).trans ((F50 48 6 rfl).trans ((F49 48 6 rfl).trans ((F48 48 6 rfl).trans (f48_6 (h := h) hT))))))))) ?_
  refine am_e_iload_n n32_38 rfl ?_
  refine am_e_iaload (v := 0) (q := 2) n32_39 rfl (by decide) (by decide) ((F55 50 2 rfl).trans ((F54 50 2 rfl).trans ((F53 50 2 rfl).trans ((F52 50 2 rfl).trans ((F51 50 2 rfl).trans ((F50 50 2 rfl).trans ((F49 50 2 rfl).trans ((F48 50 2 rfl).trans (f50_2 (h := h) hT))))))))) ?_
  refine am_e_iastore (q := 2) n32_40 rfl (by decide) (by decide) ?_
  refine am_e_aload_n n32_41 rfl ?_
  refine am_e_getf (v := .ref 152) n32_42 rfl ((F55 149 7 rfl).trans ((F54 149 7 rfl).trans ((F53 149 7 rfl).trans ((F52 149 7 rfl).trans ((F51 149 7 rfl).trans ((F50 149 7 rfl).trans ((F49 149 7 rfl).trans ((F48 149 7 rfl).trans (f149_7 (h := h) hT))))))))) ?_
  refine am_e_iload_n n32_43 rfl ?_
  refine am_e_aload_n n32_44 rfl ?_
  refine am_e_getf (v := .ref 51) n32_45 rfl ((F55 48 7 rfl).trans ((F54 48 7 rfl).trans ((F53 48 7 rfl).trans ((F52 48 7 rfl).trans ((F51 48 7 rfl).trans ((F50 48 7 rfl).trans ((F49 48 7 rfl).trans ((F48 48 7 rfl).trans (f48_7 (h := h) hT))))))))) ?_
  refine am_e_iload_n n32_46 rfl ?_
  refine am_e_iaload (v := 0) (q := 2) n32_47 rfl (by decide) (by decide) ((F55 51 2 rfl).trans ((F54 51 2 rfl).trans ((F53 51 2 rfl).trans ((F52 51 2 rfl).trans ((F51 51 2 rfl).trans ((F50 51 2 rfl).trans ((F49 51 2 rfl).trans ((F48 51 2 rfl).trans (f51_2 (h := h) hT))))))))) ?_
  refine am_e_iastore (q := 2) n32_48 rfl (by decide) (by decide) ?_
  refine am_e_iinc (w := 3) (ls' := [(2, .int 3), (0, .ref 149), (1, .ref 48)]) n32_49 rfl rfl (by decide) rfl ?_
  refine am_e_goto c32_50 t32_50 ?_
  refine am_e_iload_n n32_22 rfl ?_
  refine am_e_iconst (w := 4) n32_23 rfl ?_
  refine am_e_cmpF n32_24 (am_c_geF (by decide)) ?_
  refine am_e_aload_n n32_25 rfl ?_
  refine am_e_getf (v := .ref 150) n32_26 rfl ((F55 149 5 rfl).trans ((F54 149 5 rfl).trans ((F53 149 5 rfl).trans ((F52 149 5 rfl).trans ((F51 149 5 rfl).trans ((F50 149 5 rfl).trans ((F49 149 5 rfl).trans ((F48 149 5 rfl).trans (f149_5 (h := h) hT))))))))) ?_
  refine am_e_iload_n n32_27 rfl ?_
  refine am_e_aload_n n32_28 rfl ?_
  refine am_e_getf (v := .ref 49) n32_29 rfl ((F55 48 5 rfl).trans ((F54 48 5 rfl).trans ((F53 48 5 rfl).trans ((F52 48 5 rfl).trans ((F51 48 5 rfl).trans ((F50 48 5 rfl).trans ((F49 48 5 rfl).trans ((F48 48 5 rfl).trans (f48_5 (h := h) hT))))))))) ?_
  refine am_e_iload_n n32_30 rfl ?_
  refine am_e_iaload (v := 0) (q := 3) n32_31 rfl (by decide) (by decide) ((F55 49 3 rfl).trans ((F54 49 3 rfl).trans ((F53 49 3 rfl).trans ((F52 49 3 rfl).trans ((F51 49 3 rfl).trans ((F50 49 3 rfl).trans ((F49 49 3 rfl).trans ((F48 49 3 rfl).trans (f49_3 (h := h) hT))))))))) ?_
  refine am_e_iastore (q := 3) n32_32 rfl (by decide) (by decide) ?_
  refine am_e_aload_n n32_33 rfl ?_
  refine am_e_getf (v := .ref 151) n32_34 rfl ((F55 149 6 rfl).trans ((F54 149 6 rfl).trans ((F53 149 6 rfl).trans ((F52 149 6 rfl).trans ((F51 149 6 rfl).trans ((F50 149 6 rfl).trans ((F49 149 6 rfl).trans ((F48 149 6 rfl).trans (f149_6 (h := h) hT))))))))) ?_
  refine am_e_iload_n n32_35 rfl ?_
  refine am_e_aload_n n32_36 rfl ?_
  refine am_e_getf (v := .ref 50) n32_37 rfl ((F55 48 6 rfl).trans ((F54 48 6 rfl).trans ((F53 48 6 rfl).trans ((F52 48 6 rfl).trans ((F51 48 6 rfl).trans ((F50 48 6 rfl).trans ((F49 48 6 rfl).trans ((F48 48 6 rfl).trans (f48_6 (h := h) hT))))))))) ?_
  refine am_e_iload_n n32_38 rfl ?_
  refine am_e_iaload (v := 0) (q := 3) n32_39 rfl (by decide) (by decide) ((F55 50 3 rfl).trans ((F54 50 3 rfl).trans ((F53 50 3 rfl).trans ((F52 50 3 rfl).trans ((F51 50 3 rfl).trans ((F50 50 3 rfl).trans ((F49 50 3 rfl).trans ((F48 50 3 rfl).trans (f50_3 (h := h) hT))))))))) ?_
  refine am_e_iastore (q := 3) n32_40 rfl (by decide) (by decide) ?_
  refine am_e_aload_n n32_41 rfl ?_
  refine am_e_getf (v := .ref 152) n32_42 rfl ((F55 149 7 rfl).trans ((F54 149 7 rfl).trans ((F53 149 7 rfl).trans ((F52 149 7 rfl).trans ((F51 149 7 rfl).trans ((F50 149 7 rfl).trans ((F49 149 7 rfl).trans ((F48 149 7 rfl).trans (f149_7 (h := h) hT))))))))) ?_
  refine am_e_iload_n n32_43 rfl ?_
  refine am_e_aload_n n32_44 rfl ?_
  refine am_e_getf (v := .ref 51) n32_45 rfl ((F55 48 7 rfl).trans ((F54 48 7 rfl).trans ((F53 48 7 rfl).trans ((F52 48 7 rfl).trans ((F51 48 7 rfl).trans ((F50 48 7 rfl).trans ((F49 48 7 rfl).trans ((F48 48 7 rfl).trans (f48_7 (h := h) hT))))))))) ?_
  refine am_e_iload_n n32_46 rfl ?_
  refine am_e_iaload (v := 0) (q := 3) n32_47 rfl (by decide) (by decide) ((F55 51 3 rfl).trans ((F54 51 3 rfl).trans ((F53 51 3 rfl).trans ((F52 51 3 rfl).trans ((F51 51 3 rfl).trans ((F50 51 3 rfl).trans ((F49 51 3 rfl).trans ((F48 51 3 rfl).trans (f51_3 (h := h) hT))))))))) ?_
  refine am_e_iastore (q := 3) n32_48 rfl (by decide) (by decide) ?_
  refine am_e_iinc (w := 4) (ls' := [(2, .int 4), (0, .ref 149), (1, .ref 48)]) n32_49 rfl rfl (by decide) rfl ?_
  refine am_e_goto c32_50 t32_50 ?_
  refine am_e_iload_n n32_22 rfl ?_
  refine am_e_iconst (w := 4) n32_23 rfl ?_
  refine am_e_cmpT n32_24 (am_c_geT (by decide)) t32_24 ?_
  refine am_e_vret c32_51 rfl rfl ?_
  refine am_e_aload_n n31_7 rfl ?_
  refine am_e_aload_n n31_8 rfl ?_
  refine am_e_getf (v := .int (-1)) n31_9 rfl ((F55 2 18 rfl).trans ((F54 2 18 rfl).trans ((F53 2 18 rfl).trans ((F52 2 18 rfl).trans ((F51 2 18 rfl).trans ((F50 2 18 rfl).trans ((F49 2 18 rfl).trans ((F48 2 18 rfl).trans (f2_18 (h := h) hT))))))))) ?_
  refine am_e_putf n31_10 rfl rfl ?_
  refine am_e_aload_n n31_11 rfl ?_
  refine am_e_iconst (w := 0) n31_12 rfl ?_
  refine am_e_putf n31_13 rfl rfl ?_
  refine am_e_aload_n n31_14 rfl ?_
  refine am_e_iconst (w := 0) n31_15 rfl ?_
  refine am_e_putf n31_16 rfl rfl ?_
  refine am_e_aload_n n31_17 rfl ?_
  refine am_e_ldc (w := 2147483647) n31_18 (by decide) ?_
  refine am_e_putf n31_19 rfl rfl ?_
  refine am_e_aload_n n31_20 rfl ?_
  refine am_e_ldc (w := 2147483647) n31_21 (by decide) ?_
  refine am_e_putf n31_22 rfl rfl ?_
  refine am_e_vret c31_23 rfl rfl ?_
  refine am_e_iconst (w := 0) n70_31 rfl ?_
  refine am_e_istore (ls' := [(8, .int 0), (7, .int 8), (0, .ref 0), (2, .int (nI n)), (3, .int (nI b)), (4, .long dr55), (6, .int 0)]) n70_32 rfl rfl ?_
  refine am_Ek_ls (ls' := [(0, .ref 0), (2, .int (nI n)), (3, .int (nI b)), (4, .long dr55), (6, .int 0), (7, .int 8), (8, .int (nI 0))]) ⟨rfl, rfl, rfl, rfl, rfl, rfl, rfl, trivial⟩ ?_
  refine am_cc_e (n := n) (b := b) (s := 0) (t := 0) (i7 := 8) (dr := dr55) (by omega) (by omega) ⟨((F55 0 11 rfl).trans ((F54 0 11 rfl).trans ((F53 0 11 rfl).trans ((F52 0 11 rfl).trans ((F51 0 11 rfl).trans ((F50 0 11 rfl).trans ((F49 0 11 rfl).trans ((F48 0 11 rfl).trans (f0_11 (h := h) hT))))))))), ((F55 0 2 rfl).trans ((F54 0 2 rfl).trans ((F53 0 2 rfl).trans ((F52 0 2 rfl).trans ((F51 0 2 rfl).trans ((F50 0 2 rfl).trans ((F49 0 2 rfl).trans ((F48 0 2 rfl).trans (f0_2 (h := h) hT))))))))), ((F55 2 16 rfl).trans ((F54 2 16 rfl).trans ((F53 2 16 rfl).trans ((F52 2 16 rfl).trans ((F51 2 16 rfl).trans ((F50 2 16 rfl).trans ((F49 2 16 rfl).trans ((F48 2 16 rfl).trans (f2_16 (h := h) hT))))))))), ((F55 148 1 rfl).trans ((F54 148 1 rfl).trans ((F53 148 1 rfl).trans ((F52 148 1 rfl).trans ((F51 148 1 rfl).trans ((F50 148 1 rfl).trans ((F49 148 1 rfl).trans ((F48 148 1 rfl).trans (f148_1 (h := h) hT))))))))), rfl, rfl, ((F55 2 19 rfl).trans ((F54 2 19 rfl).trans ((F53 2 19 rfl).trans ((F52 2 19 rfl).trans ((F51 2 19 rfl).trans ((F50 2 19 rfl).trans ((F49 2 19 rfl).trans ((F48 2 19 rfl).trans (f2_19 (h := h) hT))))))))), ((F55 11 7 rfl).trans ((F54 11 7 rfl).trans ((F53 11 7 rfl).trans ((F52 11 7 rfl).trans ((F51 11 7 rfl).trans ((F50 11 7 rfl).trans ((F49 11 7 rfl).trans ((F48 11 7 rfl).trans (f11_7 (h := h) hT))))))))), ((F55 2 0 rfl).trans ((F54 2 0 rfl).trans ((F53 2 0 rfl).trans ((F52 2 0 rfl).trans ((F51 2 0 rfl).trans ((F50 2 0 rfl).trans ((F49 2 0 rfl).trans ((F48 2 0 rfl).trans (f2_0 (h := h) hT))))))))), ((F55 11 6 rfl).trans ((F54 11 6 rfl).trans ((F53 11 6 rfl).trans ((F52 11 6 rfl).trans ((F51 11 6 rfl).trans ((F50 11 6 rfl).trans ((F49 11 6 rfl).trans ((F48 11 6 rfl).trans (f11_6 (h := h) hT))))))))), ((F55 16 0 rfl).trans ((F54 16 0 rfl).trans ((F53 16 0 rfl).trans ((F52 16 0 rfl).trans ((F51 16 0 rfl).trans ((F50 16 0 rfl).trans ((F49 16 0 rfl).trans ((F48 16 0 rfl).trans (f16_0 (h := h) hT))))))))), ((F55 11 4 rfl).trans ((F54 11 4 rfl).trans ((F53 11 4 rfl).trans ((F52 11 4 rfl).trans ((F51 11 4 rfl).trans ((F50 11 4 rfl).trans ((F49 11 4 rfl).trans ((F48 11 4 rfl).trans (f11_4 (h := h) hT))))))))), ((F55 14 0 rfl).trans ((F54 14 0 rfl).trans ((F53 14 0 rfl).trans ((F52 14 0 rfl).trans ((F51 14 0 rfl).trans ((F50 14 0 rfl).trans ((F49 14 0 rfl).trans ((F48 14 0 rfl).trans (f14_0 (h := h) hT))))))))), ((F55 11 5 rfl).trans ((F54 11 5 rfl).trans ((F53 11 5 rfl).trans ((F52 11 5 rfl).trans ((F51 11 5 rfl).trans ((F50 11 5 rfl).trans ((F49 11 5 rfl).trans ((F48 11 5 rfl).trans (f11_5 (h := h) hT))))))))), ((F55 15 0 rfl).trans ((F54 15 0 rfl).trans ((F53 15 0 rfl).trans ((F52 15 0 rfl).trans ((F51 15 0 rfl).trans ((F50 15 0 rfl).trans ((F49 15 0 rfl).trans ((F48 15 0 rfl).trans (f15_0 (h := h) hT))))))))), rfl, rfl, trivial⟩ rfl rfl rfl ?_
  intro h56 dr56 F56 qa56 qb56 qc56
  obtain ⟨l56, qc56⟩ := qc56
  refine am_e_aload_n n70_57 rfl ?_
  refine am_e_getf (v := .ref 148) n70_58 rfl ((F56 0 11 rfl).trans ((F55 0 11 rfl).trans ((F54 0 11 rfl).trans ((F53 0 11 rfl).trans ((F52 0 11 rfl).trans ((F51 0 11 rfl).trans ((F50 0 11 rfl).trans ((F49 0 11 rfl).trans ((F48 0 11 rfl).trans (f0_11 (h := h) hT)))))))))) ?_
  refine am_e_getf (v := .ref 149) n70_59 rfl ((F56 148 1 rfl).trans ((F55 148 1 rfl).trans ((F54 148 1 rfl).trans ((F53 148 1 rfl).trans ((F52 148 1 rfl).trans ((F51 148 1 rfl).trans ((F50 148 1 rfl).trans ((F49 148 1 rfl).trans ((F48 148 1 rfl).trans (f148_1 (h := h) hT)))))))))) ?_
  refine am_e_getf (v := .int 0) n70_60 rfl qa56 ?_
  refine am_e_iload_n n70_61 rfl ?_
  refine am_e_cmpT n70_62 (am_c_ltT (nI_lt (a := 0) hb0 (by omega))) t70_62 ?_
  refine am_e_iinc (w := 9) (ls' := [(7, .int 9), (0, .ref 0), (2, .int (nI n)), (3, .int (nI b)), (4, .long dr56), (6, .int 0), (8, .int (nI n))]) n70_64 rfl rfl (by decide) rfl ?_
  refine am_e_goto c70_65 t70_65 ?_
  refine am_e_iload n70_21 rfl ?_
  refine am_e_bipush (w := 10) n70_22 (by decide) ?_
  refine am_e_cmpF n70_23 (am_c_geF (by decide)) ?_
  refine am_e_aload_n n70_24 rfl ?_
  refine am_e_getf (v := .ref 148) n70_25 rfl ((F56 0 11 rfl).trans ((F55 0 11 rfl).trans ((F54 0 11 rfl).trans ((F53 0 11 rfl).trans ((F52 0 11 rfl).trans ((F51 0 11 rfl).trans ((F50 0 11 rfl).trans ((F49 0 11 rfl).trans ((F48 0 11 rfl).trans (f0_11 (h := h) hT)))))))))) ?_
  refine am_e_aload_n n70_26 rfl ?_
  refine am_e_getf (v := .ref 2) n70_27 rfl ((F56 0 2 rfl).trans ((F55 0 2 rfl).trans ((F54 0 2 rfl).trans ((F53 0 2 rfl).trans ((F52 0 2 rfl).trans ((F51 0 2 rfl).trans ((F50 0 2 rfl).trans ((F49 0 2 rfl).trans ((F48 0 2 rfl).trans (f0_2 (h := h) hT)))))))))) ?_
  refine am_e_aload_n n70_28 rfl ?_
  refine am_e_getf (v := .ref 48) n70_29 rfl ((F56 0 5 rfl).trans ((F55 0 5 rfl).trans ((F54 0 5 rfl).trans ((F53 0 5 rfl).trans ((F52 0 5 rfl).trans ((F51 0 5 rfl).trans ((F50 0 5 rfl).trans ((F49 0 5 rfl).trans ((F48 0 5 rfl).trans (f0_5 (h := h) hT)))))))))) ?_
  refine am_e_callV (L := [(0, .ref 148), (1, .ref 2), (2, .ref 48)]) n70_30 rfl rfl rfl rfl rfl rfl rfl rfl ?_
  refine am_e_aload_n n31_0 rfl ?_
  refine am_e_aload_n n31_1 rfl ?_
  refine am_e_putf n31_2 rfl rfl ?_
  refine am_e_aload_n n31_3 rfl ?_
  refine am_e_getf (v := .ref 149) n31_4 rfl ((F56 148 1 rfl).trans ((F55 148 1 rfl).trans ((F54 148 1 rfl).trans ((F53 148 1 rfl).trans ((F52 148 1 rfl).trans ((F51 148 1 rfl).trans ((F50 148 1 rfl).trans ((F49 148 1 rfl).trans ((F48 148 1 rfl).trans (f148_1 (h := h) hT)))))))))) ?_
  refine am_e_aload_n n31_5 rfl ?_
  refine am_e_callV (L := [(0, .ref 149), (1, .ref 48)]) n31_6 rfl rfl rfl rfl rfl rfl rfl rfl ?_
  refine am_e_aload_n n32_0 rfl ?_
  refine am_e_aload_n n32_1 rfl ?_
  refine am_e_getf (v := .int 0) n32_2 rfl ((F56 48 0 rfl).trans ((F55 48 0 rfl).trans ((F54 48 0 rfl).trans ((F53 48 0 rfl).trans ((F52 48 0 rfl).trans ((F51 48 0 rfl).trans ((F50 48 0 rfl).trans ((F49 48 0 rfl).trans ((F48 48 0 rfl).trans (f48_0 (h := h) hT)))))))))) ?_
  refine am_e_putf n32_3 rfl rfl ?_
  refine am_e_aload_n n32_4 rfl ?_
  refine am_e_aload_n n32_5 rfl ?_
  refine am_e_getf (v := .int 0) n32_6 rfl ((F56 48 1 rfl).trans ((F55 48 1 rfl).trans ((F54 48 1 rfl).trans ((F53 48 1 rfl).trans ((F52 48 1 rfl).trans ((F51 48 1 rfl).trans ((F50 48 1 rfl).trans ((F49 48 1 rfl).trans ((F48 48 1 rfl).trans (f48_1 (h := h) hT)))))))))) ?_
  refine am_e_putf n32_7 rfl rfl ?_
  refine am_e_aload_n n32_8 rfl ?_
  refine am_e_aload_n n32_9 rfl ?_
  refine am_e_getf (v := .int (-1)) n32_10 rfl ((F56 48 2 rfl).trans ((F55 48 2 rfl).trans ((F54 48 2 rfl).trans ((F53 48 2 rfl).trans ((F52 48 2 rfl).trans ((F51 48 2 rfl).trans ((F50 48 2 rfl).trans ((F49 48 2 rfl).trans ((F48 48 2 rfl).trans (f48_2 (h := h) hT)))))))))) ?_
  refine am_e_putf n32_11 rfl rfl ?_
  refine am_e_aload_n n32_12 rfl ?_
  refine am_e_aload_n n32_13 rfl ?_
  refine am_e_getf (v := .int 0) n32_14 rfl ((F56 48 3 rfl).trans ((F55 48 3 rfl).trans ((F54 48 3 rfl).trans ((F53 48 3 rfl).trans ((F52 48 3 rfl).trans ((F51 48 3 rfl).trans ((F50 48 3 rfl).trans ((F49 48 3 rfl).trans ((F48 48 3 rfl).trans (f48_3 (h := h) hT)))))))))) ?_
  refine am_e_putf n32_15 rfl rfl ?_
  refine am_e_aload_n n32_16 rfl ?_
  refine am_e_aload_n n32_17 rfl ?_
  refine am_e_getf (v := .int 0) n32_18 rfl ((F56 48 4 rfl).trans ((F55 48 4 rfl).trans ((F54 48 4 rfl).trans ((F53 48 4 rfl).trans ((F52 48 4 rfl).trans ((F51 48 4 rfl).trans ((F50 48 4 rfl).trans ((F49 48 4 rfl).trans ((F48 48 4 rfl).trans (f48_4 (h := h) hT)))))))))) ?_
  refine am_e_putf n32_19 rfl rfl ?_
  refine am_e_iconst (w := 0) n32_20 rfl ?_
  refine am_e_istore_n (ls' := [(2, .int 0), (0, .ref 149), (1, .ref 48)]) n32_21 rfl rfl ?_
  refine am_e_iload_n n32_22 rfl ?_
  refine am_e_iconst (w := 4) n32_23 rfl ?_
  refine am_e_cmpF n32_24 (am_c_geF (by decide)) ?_
  refine am_e_aload_n n32_25 rfl ?_
  refine am_e_getf (v := .ref 150) n32_26 rfl ((F56 149 5 rfl).trans ((F55 149 5 rfl).trans ((F54 149 5 rfl).trans ((F53 149 5 rfl).trans ((F52 149 5 rfl).trans ((F51 149 5 rfl).trans ((F50 149 5 rfl).trans ((F49 149 5 rfl).trans ((F48 149 5 rfl).trans (f149_5 (h := h) hT)))))))))) ?_
  refine am_e_iload_n n32_27 rfl ?_
  refine am_e_aload_n n32_28 rfl ?_
  refine am_e_getf (v := .ref 49) n32_29 rfl ((F56 48 5 rfl).trans ((F55 48 5 rfl).trans ((F54 48 5 rfl).trans ((F53 48 5 rfl).trans ((F52 48 5 rfl).trans ((F51 48 5 rfl).trans ((F50 48 5 rfl).trans ((F49 48 5 rfl).trans ((F48 48 5 rfl).trans (f48_5 (h := h) hT)))))))))) ?_
  refine am_e_iload_n n32_30 rfl ?_
  refine am_e_iaload (v := 0) (q := 0) n32_31 rfl (by decide) (by decide) ((F56 49 0 rfl).trans ((F55 49 0 rfl).trans ((F54 49 0 rfl).trans ((F53 49 0 rfl).trans ((F52 49 0 rfl).trans ((F51 49 0 rfl).trans ((F50 49 0 rfl).trans ((F49 49 0 rfl).trans ((F48 49 0 rfl).trans (f49_0 (h := h) hT)))))))))) ?_
  refine am_e_iastore (q := 0) n32_32 rfl (by decide) (by decide) ?_
  refine am_e_aload_n n32_33 rfl ?_
  refine am_e_getf (v := .ref 151) n32_34 rfl ((F56 149 6 rfl).trans ((F55 149 6 rfl).trans ((F54 149 6 rfl).trans ((F53 149 6 rfl).trans ((F52 149 6 rfl).trans ((F51 149 6 rfl).trans ((F50 149 6 rfl).trans ((F49 149 6 rfl).trans ((F48 149 6 rfl).trans (f149_6 (h := h) hT)))))))))) ?_
  refine am_e_iload_n n32_35 rfl ?_
  refine am_e_aload_n n32_36 rfl ?_
  refine am_e_getf (v := .ref 50) n32_37 rfl ((F56 48 6 rfl).trans ((F55 48 6 rfl).trans ((F54 48 6 rfl).trans ((F53 48 6 rfl).trans ((F52 48 6 rfl).trans ((F51 48 6 rfl).trans ((F50 48 6 rfl).trans ((F49 48 6 rfl).trans ((F48 48 6 rfl).trans (f48_6 (h := h) hT)))))))))) ?_
  refine am_e_iload_n n32_38 rfl ?_
  refine am_e_iaload (v := 0) (q := 0) n32_39 rfl (by decide) (by decide) ((F56 50 0 rfl).trans ((F55 50 0 rfl).trans ((F54 50 0 rfl).trans ((F53 50 0 rfl).trans ((F52 50 0 rfl).trans ((F51 50 0 rfl).trans ((F50 50 0 rfl).trans ((F49 50 0 rfl).trans ((F48 50 0 rfl).trans (f50_0 (h := h) hT)))))))))) ?_
  refine am_e_iastore (q := 0) n32_40 rfl (by decide) (by decide) ?_
  refine am_e_aload_n n32_41 rfl ?_
  refine am_e_getf (v := .ref 152) n32_42 rfl ((F56 149 7 rfl).trans ((F55 149 7 rfl).trans ((F54 149 7 rfl).trans ((F53 149 7 rfl).trans ((F52 149 7 rfl).trans ((F51 149 7 rfl).trans ((F50 149 7 rfl).trans ((F49 149 7 rfl).trans ((F48 149 7 rfl).trans (f149_7 (h := h) hT)))))))))) ?_
  refine am_e_iload_n n32_43 rfl ?_
  refine am_e_aload_n n32_44 rfl ?_
  refine am_e_getf (v := .ref 51) n32_45 rfl ((F56 48 7 rfl).trans ((F55 48 7 rfl).trans ((F54 48 7 rfl).trans ((F53 48 7 rfl).trans ((F52 48 7 rfl).trans ((F51 48 7 rfl).trans ((F50 48 7 rfl).trans ((F49 48 7 rfl).trans ((F48 48 7 rfl).trans (f48_7 (h := h) hT)))))))))) ?_
  refine am_e_iload_n n32_46 rfl ?_
  refine am_e_iaload (v := 0) (q := 0) n32_47 rfl (by decide) (by decide) ((F56 51 0 rfl).trans ((F55 51 0 rfl).trans ((F54 51 0 rfl).trans ((F53 51 0 rfl).trans ((F52 51 0 rfl).trans ((F51 51 0 rfl).trans ((F50 51 0 rfl).trans ((F49 51 0 rfl).trans ((F48 51 0 rfl).trans (f51_0 (h := h) hT)))))))))) ?_
  refine am_e_iastore (q := 0) n32_48 rfl (by decide) (by decide) ?_
  refine am_e_iinc (w := 1) (ls' := [(2, .int 1), (0, .ref 149), (1, .ref 48)]) n32_49 rfl rfl (by decide) rfl ?_
  refine am_e_goto c32_50 t32_50 ?_
  refine am_e_iload_n n32_22 rfl ?_
  refine am_e_iconst (w := 4) n32_23 rfl ?_
  refine am_e_cmpF n32_24 (am_c_geF (by decide)) ?_
  refine am_e_aload_n n32_25 rfl ?_
  refine am_e_getf (v := .ref 150) n32_26 rfl ((F56 149 5 rfl).trans ((F55 149 5 rfl).trans ((F54 149 5 rfl).trans ((F53 149 5 rfl).trans ((F52 149 5 rfl).trans ((F51 149 5 rfl).trans ((F50 149 5 rfl).trans ((F49 149 5 rfl).trans ((F48 149 5 rfl).trans (f149_5 (h := h) hT)))))))))) ?_
  refine am_e_iload_n n32_27 rfl ?_
  refine am_e_aload_n n32_28 rfl ?_
  refine am_e_getf (v := .ref 49) n32_29 rfl ((F56 48 5 rfl).trans ((F55 48 5 rfl).trans ((F54 48 5 rfl).trans ((F53 48 5 rfl).trans ((F52 48 5 rfl).trans ((F51 48 5 rfl).trans ((F50 48 5 rfl).trans ((F49 48 5 rfl).trans ((F48 48 5 rfl).trans (f48_5 (h := h) hT)))))))))) ?_
  refine am_e_iload_n n32_30 rfl ?_
  refine am_e_iaload (v := 0) (q := 1) n32_31 rfl (by decide) (by decide) ((F56 49 1 rfl).trans ((F55 49 1 rfl).trans ((F54 49 1 rfl).trans ((F53 49 1 rfl).trans ((F52 49 1 rfl).trans ((F51 49 1 rfl).trans ((F50 49 1 rfl).trans ((F49 49 1 rfl).trans ((F48 49 1 rfl).trans (f49_1 (h := h) hT)))))))))) ?_
  refine am_e_iastore (q := 1) n32_32 rfl (by decide) (by decide) ?_
  refine am_e_aload_n n32_33 rfl ?_
  refine am_e_getf (v := .ref 151) n32_34 rfl ((F56 149 6 rfl).trans ((F55 149 6 rfl).trans ((F54 149 6 rfl).trans ((F53 149 6 rfl).trans ((F52 149 6 rfl).trans ((F51 149 6 rfl).trans ((F50 149 6 rfl).trans ((F49 149 6 rfl).trans ((F48 149 6 rfl).trans (f149_6 (h := h) hT)))))))))) ?_
  refine am_e_iload_n n32_35 rfl ?_
  refine am_e_aload_n n32_36 rfl ?_
  refine am_e_getf (v := .ref 50) n32_37 rfl ((F56 48 6 rfl).trans ((F55 48 6 rfl).trans ((F54 48 6 rfl).trans ((F53 48 6 rfl).trans ((F52 48 6 rfl).trans ((F51 48 6 rfl).trans ((F50 48 6 rfl).trans ((F49 48 6 rfl).trans ((F48 48 6 rfl).trans (f48_6 (h := h) hT)))))))))) ?_
  refine am_e_iload_n n32_38 rfl ?_
  refine am_e_iaload (v := 0) (q := 1) n32_39 rfl (by decide) (by decide) ((F56 50 1 rfl).trans ((F55 50 1 rfl).trans ((F54 50 1 rfl).trans ((F53 50 1 rfl).trans ((F52 50 1 rfl).trans ((F51 50 1 rfl).trans ((F50 50 1 rfl).trans ((F49 50 1 rfl).trans ((F48 50 1 rfl).trans (f50_1 (h := h) hT)))))))))) ?_
  refine am_e_iastore (q := 1) n32_40 rfl (by decide) (by decide) ?_
  refine am_e_aload_n n32_41 rfl ?_
  refine am_e_getf (v := .ref 152) n32_42 rfl ((F56 149 7 rfl).trans ((F55 149 7 rfl).trans ((F54 149 7 rfl).trans ((F53 149 7 rfl).trans ((F52 149 7 rfl).trans ((F51 149 7 rfl).trans ((F50 149 7 rfl).trans ((F49 149 7 rfl).trans ((F48 149 7 rfl).trans (f149_7 (h := h) hT)))))))))) ?_
  refine am_e_iload_n n32_43 rfl ?_
  refine am_e_aload_n n32_44 rfl ?_
  refine am_e_getf (v := .ref 51) n32_45 rfl ((F56 48 7 rfl).trans ((F55 48 7 rfl).trans ((F54 48 7 rfl).trans ((F53 48 7 rfl).trans ((F52 48 7 rfl).trans ((F51 48 7 rfl).trans ((F50 48 7 rfl).trans ((F49 48 7 rfl).trans ((F48 48 7 rfl).trans (f48_7 (h := h) hT)))))))))) ?_
  refine am_e_iload_n n32_46 rfl ?_
  refine am_e_iaload (v := 0) (q := 1) n32_47 rfl (by decide) (by decide) ((F56 51 1 rfl).trans ((F55 51 1 rfl).trans ((F54 51 1 rfl).trans ((F53 51 1 rfl).trans ((F52 51 1 rfl).trans ((F51 51 1 rfl).trans ((F50 51 1 rfl).trans ((F49 51 1 rfl).trans ((F48 51 1 rfl).trans (f51_1 (h := h) hT)))))))))) ?_
  refine am_e_iastore (q := 1) n32_48 rfl (by decide) (by decide) ?_
  refine am_e_iinc (w := 2) (ls' := [(2, .int 2), (0, .ref 149), (1, .ref 48)]) n32_49 rfl rfl (by decide) rfl ?_
  refine am_e_goto c32_50 t32_50 ?_
  refine am_e_iload_n n32_22 rfl ?_
  refine am_e_iconst (w := 4) n32_23 rfl ?_
  refine am_e_cmpF n32_24 (am_c_geF (by decide)) ?_
  refine am_e_aload_n n32_25 rfl ?_
  refine am_e_getf (v := .ref 150) n32_26 rfl ((F56 149 5 rfl).trans ((F55 149 5 rfl).trans ((F54 149 5 rfl).trans ((F53 149 5 rfl).trans ((F52 149 5 rfl).trans ((F51 149 5 rfl).trans ((F50 149 5 rfl).trans ((F49 149 5 rfl).trans ((F48 149 5 rfl).trans (f149_5 (h := h) hT)))))))))) ?_
  refine am_e_iload_n n32_27 rfl ?_
  refine am_e_aload_n n32_28 rfl ?_
  refine am_e_getf (v := .ref 49) n32_29 rfl ((F56 48 5 rfl).trans ((F55 48 5 rfl).trans ((F54 48 5 rfl).trans ((F53 48 5 rfl).trans ((F52 48 5 rfl).trans ((F51 48 5 rfl).trans ((F50 48 5 rfl).trans ((F49 48 5 rfl).trans ((F48 48 5 rfl).trans (f48_5 (h := h) hT)))))))))) ?_
  refine am_e_iload_n n32_30 rfl ?_
  refine am_e_iaload (v := 0) (q := 2) n32_31 rfl (by decide) (by decide) ((F56 49 2 rfl).trans ((F55 49 2 rfl).trans ((F54 49 2 rfl).trans ((F53 49 2 rfl).trans ((F52 49 2 rfl).trans ((F51 49 2 rfl).trans ((F50 49 2 rfl).trans ((F49 49 2 rfl).trans ((F48 49 2 rfl).trans (f49_2 (h := h) hT)))))))))) ?_
  refine am_e_iastore (q := 2) n32_32 rfl (by decide) (by decide) ?_
  refine am_e_aload_n n32_33 rfl ?_
  refine am_e_getf (v := .ref 151) n32_34 rfl ((F56 149 6 rfl).trans ((F55 149 6 rfl).trans ((F54 149 6 rfl).trans ((F53 149 6 rfl).trans ((F52 149 6 rfl).trans ((F51 149 6 rfl).trans ((F50 149 6 rfl).trans ((F49 149 6 rfl).trans ((F48 149 6 rfl).trans (f149_6 (h := h) hT)))))))))) ?_
  refine am_e_iload_n n32_35 rfl ?_
  refine am_e_aload_n n32_36 rfl ?_
  refine am_e_getf (v := .ref 50) n32_37 rfl ((F56 48 6 rfl).trans ((F55 48 6 rfl).trans ((F54 48 6 rfl).trans ((F53 48 6 rfl).trans ((F52 48 6 rfl).trans ((F51 48 6 rfl).trans ((F50 48 6 rfl).trans ((F49 48 6 rfl).trans ((F48 48 6 rfl).trans (f48_6 (h := h) hT)))))))))) ?_
  refine am_e_iload_n n32_38 rfl ?_
  refine am_e_iaload (v := 0) (q := 2) n32_39 rfl (by decide) (by decide) ((F56 50 2 rfl).trans ((F55 50 2 rfl).trans ((F54 50 2 rfl).trans ((F53 50 2 rfl).trans ((F52 50 2 rfl).trans ((F51 50 2 rfl).trans ((F50 50 2 rfl).trans ((F49 50 2 rfl).trans ((F48 50 2 rfl).trans (f50_2 (h := h) hT)))))))))) ?_
  refine am_e_iastore (q := 2) n32_40 rfl (by decide) (by decide) ?_
  refine am_e_aload_n n32_41 rfl ?_
  refine am_e_getf (v := .ref 152) n32_42 rfl ((F56 149 7 rfl).trans ((F55 149 7 rfl).trans ((F54 149 7 rfl).trans ((F53 149 7 rfl).trans ((F52 149 7 rfl).trans ((F51 149 7 rfl).trans ((F50 149 7 rfl).trans ((F49 149 7 rfl).trans ((F48 149 7 rfl).trans (f149_7 (h := h) hT)))))))))) ?_
  refine am_e_iload_n n32_43 rfl ?_
  refine am_e_aload_n n32_44 rfl ?_
  refine am_e_getf (v := .ref 51) n32_45 rfl ((F56 48 7 rfl).trans ((F55 48 7 rfl).trans ((F54 48 7 rfl).trans ((F53 48 7 rfl).trans ((F52 48 7 rfl).trans ((F51 48 7 rfl).trans ((F50 48 7 rfl).trans ((F49 48 7 rfl).trans ((F48 48 7 rfl).trans (f48_7 (h := h) hT)))))))))) ?_
  refine am_e_iload_n n32_46 rfl ?_
  refine am_e_iaload (v := 0) (q := 2) n32_47 rfl (by decide) (by decide) ((F56 51 2 rfl).trans ((F55 51 2 rfl).trans ((F54 51 2 rfl).trans ((F53 51 2 rfl).trans ((F52 51 2 rfl).trans ((F51 51 2 rfl).trans ((F50 51 2 rfl).trans ((F49 51 2 rfl).trans ((F48 51 2 rfl).trans (f51_2 (h := h) hT)))))))))) ?_
  refine am_e_iastore (q := 2) n32_48 rfl (by decide) (by decide) ?_
  refine am_e_iinc (w := 3) (ls' := [(2, .int 3), (0, .ref 149), (1, .ref 48)]) n32_49 rfl rfl (by decide) rfl ?_
  refine am_e_goto c32_50 t32_50 ?_
  refine am_e_iload_n n32_22 rfl ?_
  refine am_e_iconst (w := 4) n32_23 rfl ?_
  refine am_e_cmpF n32_24 (am_c_geF (by decide)) ?_
  refine am_e_aload_n n32_25 rfl ?_
  refine am_e_getf (v := .ref 150) n32_26 rfl ((F56 149 5 rfl).trans ((F55 149 5 rfl).trans ((F54 149 5 rfl).trans ((F53 149 5 rfl).trans ((F52 149 5 rfl).trans ((F51 149 5 rfl).trans ((F50 149 5 rfl).trans ((F49 149 5 rfl).trans ((F48 149 5 rfl).trans (f149_5 (h := h) hT)))))))))) ?_
  refine am_e_iload_n n32_27 rfl ?_
  refine am_e_aload_n n32_28 rfl ?_
  refine am_e_getf (v := .ref 49) n32_29 rfl ((F56 48 5 rfl).trans ((F55 48 5 rfl).trans ((F54 48 5 rfl).trans ((F53 48 5 rfl).trans ((F52 48 5 rfl).trans ((F51 48 5 rfl).trans ((F50 48 5 rfl).trans ((F49 48 5 rfl).trans ((F48 48 5 rfl).trans (f48_5 (h := h) hT)))))))))) ?_
  refine am_e_iload_n n32_30 rfl ?_
  refine am_e_iaload (v := 0) (q := 3) n32_31 rfl (by decide) (by decide) ((F56 49 3 rfl).trans ((F55 49 3 rfl).trans ((F54 49 3 rfl).trans ((F53 49 3 rfl).trans ((F52 49 3 rfl).trans ((F51 49 3 rfl).trans ((F50 49 3 rfl).trans ((F49 49 3 rfl).trans ((F48 49 3 rfl).trans (f49_3 (h := h) hT)))))))))) ?_
  refine am_e_iastore (q := 3) n32_32 rfl (by decide) (by decide) ?_
  refine am_e_aload_n n32_33 rfl ?_
  refine am_e_getf (v := .ref 151) n32_34 rfl ((F56 149 6 rfl).trans ((F55 149 6 rfl).trans ((F54 149 6 rfl).trans ((F53 149 6 rfl).trans ((F52 149 6 rfl).trans ((F51 149 6 rfl).trans ((F50 149 6 rfl).trans ((F49 149 6 rfl).trans ((F48 149 6 rfl).trans (f149_6 (h := h) hT)))))))))) ?_
  refine am_e_iload_n n32_35 rfl ?_
  refine am_e_aload_n n32_36 rfl ?_
  refine am_e_getf (v := .ref 50) n32_37 rfl ((F56 48 6 rfl).trans ((F55 48 6 rfl).trans ((F54 48 6 rfl).trans ((F53 48 6 rfl).trans ((F52 48 6 rfl).trans ((F51 48 6 rfl).trans ((F50 48 6 rfl).trans ((F49 48 6 rfl).trans ((F48 48 6 rfl).trans (f48_6 (h := h) hT)))))))))) ?_
  refine am_e_iload_n n32_38 rfl ?_
  refine am_e_iaload (v := 0) (q := 3) n32_39 rfl (by decide) (by decide) ((F56 50 3 rfl).trans ((F55 50 3 rfl).trans ((F54 50 3 rfl).trans ((F53 50 3 rfl).trans ((F52 50 3 rfl).trans ((F51 50 3 rfl).trans ((F50 50 3 rfl).trans ((F49 50 3 rfl).trans ((F48 50 3 rfl).trans (f50_3 (h := h) hT)))))))))) ?_
  refine am_e_iastore (q := 3) n32_40 rfl (by decide) (by decide) ?_
  refine am_e_aload_n n32_41 rfl ?_
  refine am_e_getf (v := .ref 152) n32_42 rfl ((F56 149 7 rfl).trans ((F55 149 7 rfl).trans ((F54 149 7 rfl).trans ((F53 149 7 rfl).trans ((F52 149 7 rfl).trans ((F51 149 7 rfl).trans ((F50 149 7 rfl).trans ((F49 149 7 rfl).trans ((F48 149 7 rfl).trans (f149_7 (h := h) hT)))))))))) ?_
  refine am_e_iload_n n32_43 rfl ?_
  refine am_e_aload_n n32_44 rfl ?_
  refine am_e_getf (v := .ref 51) n32_45 rfl ((F56 48 7 rfl).trans ((F55 48 7 rfl).trans ((F54 48 7 rfl).trans ((F53 48 7 rfl).trans ((F52 48 7 rfl).trans ((F51 48 7 rfl).trans ((F50 48 7 rfl).trans ((F49 48 7 rfl).trans ((F48 48 7 rfl).trans (f48_7 (h := h) hT)))))))))) ?_
  refine am_e_iload_n n32_46 rfl ?_
  refine am_e_iaload (v := 0) (q := 3) n32_47 rfl (by decide) (by decide) ((F56 51 3 rfl).trans ((F55 51 3 rfl).trans ((F54 51 3 rfl).trans ((F53 51 3 rfl).trans ((F52 51 3 rfl).trans ((F51 51 3 rfl).trans ((F50 51 3 rfl).trans ((F49 51 3 rfl).trans ((F48 51 3 rfl).trans (f51_3 (h := h) hT)))))))))) ?_
  refine am_e_iastore (q := 3) n32_48 rfl (by decide) (by decide) ?_
  refine am_e_iinc (w := 4) (ls' := [(2, .int 4), (0, .ref 149), (1, .ref 48)]) n32_49 rfl rfl (by decide) rfl ?_
  refine am_e_goto c32_50 t32_50 ?_
  refine am_e_iload_n n32_22 rfl ?_
  refine am_e_iconst (w := 4) n32_23 rfl ?_
  refine am_e_cmpT n32_24 (am_c_geT (by decide)) t32_24 ?_
  refine am_e_vret c32_51 rfl rfl ?_
  refine am_e_aload_n n31_7 rfl ?_
  refine am_e_aload_n n31_8 rfl ?_
  refine am_e_getf (v := .int (-1)) n31_9 rfl ((F56 2 18 rfl).trans ((F55 2 18 rfl).trans ((F54 2 18 rfl).trans ((F53 2 18 rfl).trans ((F52 2 18 rfl).trans ((F51 2 18 rfl).trans ((F50 2 18 rfl).trans ((F49 2 18 rfl).trans ((F48 2 18 rfl).trans (f2_18 (h := h) hT)))))))))) ?_
  refine am_e_putf n31_10 rfl rfl ?_
  refine am_e_aload_n n31_11 rfl ?_
  refine am_e_iconst (w := 0) n31_12 rfl ?_
  refine am_e_putf n31_13 rfl rfl ?_
  refine am_e_aload_n n31_14 rfl ?_
  refine am_e_iconst (w := 0) n31_15 rfl ?_
  refine am_e_putf n31_16 rfl rfl ?_
  refine am_e_aload_n n31_17 rfl ?_
  refine am_e_ldc (w := 2147483647) n31_18 (by decide) ?_
  refine am_e_putf n31_19 rfl rfl ?_
  refine am_e_aload_n n31_20 rfl ?_
  refine am_e_ldc (w := 2147483647) n31_21 (by decide) ?_
  refine am_e_putf n31_22 rfl rfl ?_
  refine am_e_vret c31_23 rfl rfl ?_
  refine am_e_iconst (w := 0) n70_31 rfl ?_
  refine am_e_istore (ls' := [(8, .int 0), (7, .int 9), (0, .ref 0), (2, .int (nI n)), (3, .int (nI b)), (4, .long dr56), (6, .int 0)]) n70_32 rfl rfl ?_
  refine am_Ek_ls (ls' := [(0, .ref 0), (2, .int (nI n)), (3, .int (nI b)), (4, .long dr56), (6, .int 0), (7, .int 9), (8, .int (nI 0))]) ⟨rfl, rfl, rfl, rfl, rfl, rfl, rfl, trivial⟩ ?_
  refine am_cc_e (n := n) (b := b) (s := 0) (t := 0) (i7 := 9) (dr := dr56) (by omega) (by omega) ⟨((F56 0 11 rfl).trans ((F55 0 11 rfl).trans ((F54 0 11 rfl).trans ((F53 0 11 rfl).trans ((F52 0 11 rfl).trans ((F51 0 11 rfl).trans ((F50 0 11 rfl).trans ((F49 0 11 rfl).trans ((F48 0 11 rfl).trans (f0_11 (h := h) hT)))))))))), ((F56 0 2 rfl).trans ((F55 0 2 rfl).trans ((F54 0 2 rfl).trans ((F53 0 2 rfl).trans ((F52 0 2 rfl).trans ((F51 0 2 rfl).trans ((F50 0 2 rfl).trans ((F49 0 2 rfl).trans ((F48 0 2 rfl).trans (f0_2 (h := h) hT)))))))))), ((F56 2 16 rfl).trans ((F55 2 16 rfl).trans ((F54 2 16 rfl).trans ((F53 2 16 rfl).trans ((F52 2 16 rfl).trans ((F51 2 16 rfl).trans ((F50 2 16 rfl).trans ((F49 2 16 rfl).trans ((F48 2 16 rfl).trans (f2_16 (h := h) hT)))))))))), ((F56 148 1 rfl).trans ((F55 148 1 rfl).trans ((F54 148 1 rfl).trans ((F53 148 1 rfl).trans ((F52 148 1 rfl).trans ((F51 148 1 rfl).trans ((F50 148 1 rfl).trans ((F49 148 1 rfl).trans ((F48 148 1 rfl).trans (f148_1 (h := h) hT)))))))))), rfl, rfl, ((F56 2 19 rfl).trans ((F55 2 19 rfl).trans ((F54 2 19 rfl).trans ((F53 2 19 rfl).trans ((F52 2 19 rfl).trans ((F51 2 19 rfl).trans ((F50 2 19 rfl).trans ((F49 2 19 rfl).trans ((F48 2 19 rfl).trans (f2_19 (h := h) hT)))))))))), ((F56 11 7 rfl).trans ((F55 11 7 rfl).trans ((F54 11 7 rfl).trans ((F53 11 7 rfl).trans ((F52 11 7 rfl).trans ((F51 11 7 rfl).trans ((F50 11 7 rfl).trans ((F49 11 7 rfl).trans ((F48 11 7 rfl).trans (f11_7 (h := h) hT)))))))))), ((F56 2 0 rfl).trans ((F55 2 0 rfl).trans ((F54 2 0 rfl).trans ((F53 2 0 rfl).trans ((F52 2 0 rfl).trans ((F51 2 0 rfl).trans ((F50 2 0 rfl).trans ((F49 2 0 rfl).trans ((F48 2 0 rfl).trans (f2_0 (h := h) hT)))))))))), ((F56 11 6 rfl).trans ((F55 11 6 rfl).trans ((F54 11 6 rfl).trans ((F53 11 6 rfl).trans ((F52 11 6 rfl).trans ((F51 11 6 rfl).trans ((F50 11 6 rfl).trans ((F49 11 6 rfl).trans ((F48 11 6 rfl).trans (f11_6 (h := h) hT)))))))))), ((F56 16 0 rfl).trans ((F55 16 0 rfl).trans ((F54 16 0 rfl).trans ((F53 16 0 rfl).trans ((F52 16 0 rfl).trans ((F51 16 0 rfl).trans ((F50 16 0 rfl).trans ((F49 16 0 rfl).trans ((F48 16 0 rfl).trans (f16_0 (h := h) hT)))))))))), ((F56 11 4 rfl).trans ((F55 11 4 rfl).trans ((F54 11 4 rfl).trans ((F53 11 4 rfl).trans ((F52 11 4 rfl).trans ((F51 11 4 rfl).trans ((F50 11 4 rfl).trans ((F49 11 4 rfl).trans ((F48 11 4 rfl).trans (f11_4 (h := h) hT)))))))))), ((F56 14 0 rfl).trans ((F55 14 0 rfl).trans ((F54 14 0 rfl).trans ((F53 14 0 rfl).trans ((F52 14 0 rfl).trans ((F51 14 0 rfl).trans ((F50 14 0 rfl).trans ((F49 14 0 rfl).trans ((F48 14 0 rfl).trans (f14_0 (h := h) hT)))))))))), ((F56 11 5 rfl).trans ((F55 11 5 rfl).trans ((F54 11 5 rfl).trans ((F53 11 5 rfl).trans ((F52 11 5 rfl).trans ((F51 11 5 rfl).trans ((F50 11 5 rfl).trans ((F49 11 5 rfl).trans ((F48 11 5 rfl).trans (f11_5 (h := h) hT)))))))))), ((F56 15 0 rfl).trans ((F55 15 0 rfl).trans ((F54 15 0 rfl).trans ((F53 15 0 rfl).trans ((F52 15 0 rfl).trans ((F51 15 0 rfl).trans ((F50 15 0 rfl).trans ((F49 15 0 rfl).trans ((F48 15 0 rfl).trans (f15_0 (h := h) hT)))))))))), rfl, rfl, trivial⟩ rfl rfl rfl ?_
  intro h57 dr57 F57 qa57 qb57 qc57
  obtain ⟨l57, qc57⟩ := qc57
  refine am_e_aload_n n70_57 rfl ?_
  refine am_e_getf (v := .ref 148) n70_58 rfl ((F57 0 11 rfl).trans ((F56 0 11 rfl).trans ((F55 0 11 rfl).trans ((F54 0 11 rfl).trans ((F53 0 11 rfl).trans ((F52 0 11 rfl).trans ((F51 0 11 rfl).trans ((F50 0 11 rfl).trans ((F49 0 11 rfl).trans ((F48 0 11 rfl).trans (f0_11 (h := h) hT))))))))))) ?_
  refine am_e_getf (v := .ref 149) n70_59 rfl ((F57 148 1 rfl).trans ((F56 148 1 rfl).trans ((F55 148 1 rfl).trans ((F54 148 1 rfl).trans ((F53 148 1 rfl).trans ((F52 148 1 rfl).trans ((F51 148 1 rfl).trans ((F50 148 1 rfl).trans ((F49 148 1 rfl).trans ((F48 148 1 rfl).trans (f148_1 (h := h) hT))))))))))) ?_
  refine am_e_getf (v := .int 0) n70_60 rfl qa57 ?_
  refine am_e_iload_n n70_61 rfl ?_
  refine am_e_cmpT n70_62 (am_c_ltT (nI_lt (a := 0) hb0 (by omega))) t70_62 ?_
  refine am_e_iinc (w := 10) (ls' := [(7, .int 10), (0, .ref 0), (2, .int (nI n)), (3, .int (nI b)), (4, .long dr57), (6, .int 0), (8, .int (nI n))]) n70_64 rfl rfl (by decide) rfl ?_
  refine am_e_goto c70_65 t70_65 ?_
  refine am_e_iload n70_21 rfl ?_
  refine am_e_bipush (w := 10) n70_22 (by decide) ?_
  refine am_e_cmpT n70_23 (am_c_geT (by decide)) t70_23 ?_
  refine am_e_iload n70_66 rfl ?_
  refine am_e_iret c70_67 rfl rfl rfl ?_
  refine am_e_aload_n n136_746 rfl ?_
  refine am_e_sload_n n136_747 rfl ?_
  refine am_e_iload n136_748 rfl ?_
  refine am_e_iconst (w := 1) n136_749 rfl ?_
  refine am_e_iadd (w := 1) n136_750 (by decide) ?_
  refine am_e_sald1 n136_751 rfl (by decide) (by decide) hx1 ?_
  refine am_e_sload_n n136_752 rfl ?_
  refine am_e_iload n136_753 rfl ?_
  refine am_e_iconst (w := 2) n136_754 rfl ?_
  refine am_e_iadd (w := 2) n136_755 (by decide) ?_
  refine am_e_sald1 n136_756 rfl (by decide) (by decide) hx2 ?_
  refine am_e_sload_n n136_757 rfl ?_
  refine am_e_iload n136_758 rfl ?_
  refine am_e_iconst (w := 3) n136_759 rfl ?_
  refine am_e_iadd (w := 3) n136_760 (by decide) ?_
  refine am_e_sald1 n136_761 rfl (by decide) (by decide) hx3 ?_
  refine am_e_callV (L := [(0, .ref 164), (1, .int a1), (2, .int (nI n)), (3, .int (nI b))]) n136_762 rfl rfl rfl rfl rfl rfl rfl rfl ?_
  refine am_e_aload_n n127_0 rfl ?_
  refine am_e_iconst (w := 0) n127_1 rfl ?_
  refine am_e_putf n127_2 rfl rfl ?_
  refine am_e_iload_n n127_3 rfl ?_
  refine am_e_ifF n127_4 (am_c_ltF h1) ?_
  refine am_e_iload_n n127_5 rfl ?_
  refine am_e_iconst (w := 1) n127_6 rfl ?_
  refine am_e_sipush (w := 600) n127_7 (by decide) ?_
  refine am_e_callS (L := [(0, .int (nI n)), (1, .int 1), (2, .int 600)]) n127_8 rfl rfl rfl rfl rfl rfl rfl ?_
  refine am_e_iload_n n87_0 rfl ?_
  refine am_e_iload_n n87_1 rfl ?_
  refine am_e_cmpF n87_2 (am_c_ltF (nI_nlt (b := 1) hn1 (by omega))) ?_
  refine am_e_iload_n n87_3 rfl ?_
  refine am_e_iload_n n87_4 rfl ?_
  refine am_e_cmpF n87_5 (am_c_gtF (nI_nlt (a := 600) (b := n) hn9 (by decide))) ?_
  refine am_e_iconst (w := 1) n87_6 rfl ?_
  refine am_e_goto c87_7 t87_7 ?_
  refine am_e_iret c87_9 rfl rfl rfl ?_
  refine am_e_ifF n127_9 (am_c_eqF (by decide)) ?_
  refine am_e_iload_n n127_10 rfl ?_
  refine am_e_iconst (w := 0) n127_11 rfl ?_
  refine am_e_sipush (w := 9999) n127_12 (by decide) ?_
  refine am_e_callS (L := [(0, .int (nI b)), (1, .int 0), (2, .int 9999)]) n127_13 rfl rfl rfl rfl rfl rfl rfl ?_
  refine am_e_iload_n n87_0 rfl ?_
  refine am_e_iload_n n87_1 rfl ?_
  refine am_e_cmpF n87_2 (am_c_ltF (nI_pos (by omega))) ?_
  refine am_e_iload_n n87_3 rfl ?_
  refine am_e_iload_n n87_4 rfl ?_
  refine am_e_cmpF n87_5 (am_c_gtF (nI_nlt (a := 9999) (b := b) hb (by decide))) ?_
  refine am_e_iconst (w := 1) n87_6 rfl ?_
  refine am_e_goto c87_7 t87_7 ?_
  refine am_e_iret c87_9 rfl rfl rfl ?_
  refine am_e_ifT n127_14 (am_c_neT (by decide)) t127_14 ?_
  refine am_e_aload_n n127_17 rfl ?_
  refine am_e_getf (v := .long 0) n127_18 rfl ((F57 164 59 rfl).trans ((F56 164 59 rfl).trans ((F55 164 59 rfl).trans ((F54 164 59 rfl).trans ((F53 164 59 rfl).trans ((F52 164 59 rfl).trans ((F51 164 59 rfl).trans ((F50 164 59 rfl).trans ((F49 164 59 rfl).trans ((F48 164 59 rfl).trans (f164_59 (h := h) hT))))))))))) ?_
  refine am_e_lstore (ls' := [(4, .long 0), (0, .ref 164), (1, .int a1), (2, .int (nI n)), (3, .int (nI b))]) n127_19 rfl rfl ?_
  refine am_e_aload_n n127_20 rfl ?_
  refine am_e_iload_n n127_21 rfl ?_
  refine am_e_i2l (w := (a1.toInt64)) n127_22 rfl ?_
  refine am_e_putf n127_23 rfl rfl ?_
  refine am_e_iconst (w := 0) n127_24 rfl ?_
  refine am_e_istore (ls' := [(6, .int 0), (4, .long 0), (0, .ref 164), (1, .int a1), (2, .int (nI n)), (3, .int (nI b))]) n127_25 rfl rfl ?_
  refine am_e_iconst (w := 0) n127_26 rfl ?_
  refine am_e_istore (ls' := [(7, .int 0), (6, .int 0), (4, .long 0), (0, .ref 164), (1, .int a1), (2, .int (nI n)), (3, .int (nI b))]) n127_27 rfl rfl ?_
  refine am_e_iload n127_28 rfl ?_
  refine am_e_bipush (w := 10) n127_29 (by decide) ?_
  refine am_e_cmpF n127_30 (am_c_geF (by decide)) ?_
  refine am_e_aload_n n127_31 rfl ?_
  refine am_e_iconst (w := 1) n127_32 rfl ?_
  refine am_e_iconst (w := 0) n127_33 rfl ?_
  refine am_e_callV (L := [(0, .ref 164), (1, .int 1), (2, .int 0)]) n127_34 rfl rfl rfl rfl rfl rfl rfl rfl ?_
  refine am_e_aload_n n97_0 rfl ?_
  refine am_e_getf (v := .ref 188) n97_1 rfl ((F57 164 50 rfl).trans ((F56 164 50 rfl).trans ((F55 164 50 rfl).trans ((F54 164 50 rfl).trans ((F53 164 50 rfl).trans ((F52 164 50 rfl).trans ((F51 164 50 rfl).trans ((F50 164 50 rfl).trans ((F49 164 50 rfl).trans ((F48 164 50 rfl).trans (f164_50 (h := h) hT))))))))))) ?_
  refine am_e_iload_n n97_2 rfl ?_
  refine am_e_aload_n n97_3 rfl ?_
  refine am_e_getf (v := .ref 188) n97_4 rfl ((F57 164 50 rfl).trans ((F56 164 50 rfl).trans ((F55 164 50 rfl).trans ((F54 164 50 rfl).trans ((F53 164 50 rfl).trans ((F52 164 50 rfl).trans ((F51 164 50 rfl).trans ((F50 164 50 rfl).trans ((F49 164 50 rfl).trans ((F48 164 50 rfl).trans (f164_50 (h := h) hT))))))))))) ?_
  refine am_e_iload_n n97_5 rfl ?_
  refine am_e_iaload (v := 0) (q := 0) n97_6 rfl (by decide) (by decide) ((F57 188 0 rfl).trans ((F56 188 0 rfl).trans ((F55 188 0 rfl).trans ((F54 188 0 rfl).trans ((F53 188 0 rfl).trans ((F52 188 0 rfl).trans ((F51 188 0 rfl).trans ((F50 188 0 rfl).trans ((F49 188 0 rfl).trans ((F48 188 0 rfl).trans (f188_0 (h := h) hT))))))))))) ?_
  refine am_e_iastore (q := 1) n97_7 rfl (by decide) (by decide) ?_
  refine am_e_aload_n n97_8 rfl ?_
  refine am_e_getf (v := .ref 189) n97_9 rfl ((F57 164 51 rfl).trans ((F56 164 51 rfl).trans ((F55 164 51 rfl).trans ((F54 164 51 rfl).trans ((F53 164 51 rfl).trans ((F52 164 51 rfl).trans ((F51 164 51 rfl).trans ((F50 164 51 rfl).trans ((F49 164 51 rfl).trans ((F48 164 51 rfl).trans (f164_51 (h := h) hT))))))))))) ?_
  refine am_e_iload_n n97_10 rfl ?_
  refine am_e_aload_n n97_11 rfl ?_
  refine am_e_getf (v := .ref 189) n97_12 rfl ((F57 164 51 rfl).trans ((F56 164 51 rfl).trans ((F55 164 51 rfl).trans ((F54 164 51 rfl).trans ((F53 164 51 rfl).trans ((F52 164 51 rfl).trans ((F51 164 51 rfl).trans ((F50 164 51 rfl).trans ((F49 164 51 rfl).trans ((F48 164 51 rfl).trans (f164_51 (h := h) hT))))))))))) ?_
  refine am_e_iload_n n97_13 rfl ?_
  refine am_e_iaload (v := 0) (q := 0) n97_14 rfl (by decide) (by decide) ((F57 189 0 rfl).trans ((F56 189 0 rfl).trans ((F55 189 0 rfl).trans ((F54 189 0 rfl).trans ((F53 189 0 rfl).trans ((F52 189 0 rfl).trans ((F51 189 0 rfl).trans ((F50 189 0 rfl).trans ((F49 189 0 rfl).trans ((F48 189 0 rfl).trans (f189_0 (h := h) hT))))))))))) ?_
  refine am_e_iastore (q := 1) n97_15 rfl (by decide) (by decide) ?_
  refine am_e_aload_n n97_16 rfl ?_
  refine am_e_getf (v := .ref 190) n97_17 rfl ((F57 164 52 rfl).trans ((F56 164 52 rfl).trans ((F55 164 52 rfl).trans ((F54 164 52 rfl).trans ((F53 164 52 rfl).trans ((F52 164 52 rfl).trans ((F51 164 52 rfl).trans ((F50 164 52 rfl).trans ((F49 164 52 rfl).trans ((F48 164 52 rfl).trans (f164_52 (h := h) hT))))))))))) ?_
  refine am_e_iload_n n97_18 rfl ?_
  refine am_e_aload_n n97_19 rfl ?_
  refine am_e_getf (v := .ref 190) n97_20 rfl ((F57 164 52 rfl).trans ((F56 164 52 rfl).trans ((F55 164 52 rfl).trans ((F54 164 52 rfl).trans ((F53 164 52 rfl).trans ((F52 164 52 rfl).trans ((F51 164 52 rfl).trans ((F50 164 52 rfl).trans ((F49 164 52 rfl).trans ((F48 164 52 rfl).trans (f164_52 (h := h) hT))))))))))) ?_
  refine am_e_iload_n n97_21 rfl ?_
  refine am_e_iaload (v := (-1)) (q := 0) n97_22 rfl (by decide) (by decide) ((F57 190 0 rfl).trans ((F56 190 0 rfl).trans ((F55 190 0 rfl).trans ((F54 190 0 rfl).trans ((F53 190 0 rfl).trans ((F52 190 0 rfl).trans ((F51 190 0 rfl).trans ((F50 190 0 rfl).trans ((F49 190 0 rfl).trans ((F48 190 0 rfl).trans (f190_0 (h := h) hT))))))))))) ?_
  refine am_e_iastore (q := 1) n97_23 rfl (by decide) (by decide) ?_
  refine am_e_aload_n n97_24 rfl ?_
  refine am_e_getf (v := .ref 194) n97_25 rfl ((F57 164 56 rfl).trans ((F56 164 56 rfl).trans ((F55 164 56 rfl).trans ((F54 164 56 rfl).trans ((F53 164 56 rfl).trans ((F52 164 56 rfl).trans ((F51 164 56 rfl).trans ((F50 164 56 rfl).trans ((F49 164 56 rfl).trans ((F48 164 56 rfl).trans (f164_56 (h := h) hT))))))))))) ?_
  refine am_e_iload_n n97_26 rfl ?_
  refine am_e_aload_n n97_27 rfl ?_
  refine am_e_getf (v := .ref 194) n97_28 rfl ((F57 164 56 rfl).trans ((F56 164 56 rfl).trans ((F55 164 56 rfl).trans ((F54 164 56 rfl).trans ((F53 164 56 rfl).trans ((F52 164 56 rfl).trans ((F51 164 56 rfl).trans ((F50 164 56 rfl).trans ((F49 164 56 rfl).trans ((F48 164 56 rfl).trans (f164_56 (h := h) hT))))))))))) ?_
  refine am_e_iload_n n97_29 rfl ?_
  refine am_e_iaload (v := 0) (q := 0) n97_30 rfl (by decide) (by decide) ((F57 194 0 rfl).trans ((F56 194 0 rfl).trans ((F55 194 0 rfl).trans ((F54 194 0 rfl).trans ((F53 194 0 rfl).trans ((F52 194 0 rfl).trans ((F51 194 0 rfl).trans ((F50 194 0 rfl).trans ((F49 194 0 rfl).trans ((F48 194 0 rfl).trans (f194_0 (h := h) hT))))))))))) ?_
  refine am_e_iastore (q := 1) n97_31 rfl (by decide) (by decide) ?_
  refine am_e_iconst (w := 0) n97_32 rfl ?_
  refine am_e_istore_n (ls' := [(3, .int 0), (0, .ref 164), (1, .int 1), (2, .int 0)]) n97_33 rfl rfl ?_
  refine am_e_iload_n n97_34 rfl ?_
  refine am_e_iconst (w := 4) n97_35 rfl ?_
  refine am_e_cmpF n97_36 (am_c_geF (by decide)) ?_
  refine am_e_aload_n n97_37 rfl ?_
  refine am_e_getf (v := .ref 191) n97_38 rfl ((F57 164 53 rfl).trans ((F56 164 53 rfl).trans ((F55 164 53 rfl).trans ((F54 164 53 rfl).trans ((F53 164 53 rfl).trans ((F52 164 53 rfl).trans ((F51 164 53 rfl).trans ((F50 164 53 rfl).trans ((F49 164 53 rfl).trans ((F48 164 53 rfl).trans (f164_53 (h := h) hT))))))))))) ?_
  refine am_e_iconst (w := 4) n97_39 rfl ?_
  refine am_e_iload_n n97_40 rfl ?_
  refine am_e_imul (w := 4) n97_41 (by decide) ?_
  refine am_e_iload_n n97_42 rfl ?_
  refine am_e_iadd (w := 4) n97_43 (by decide) ?_
  refine am_e_aload_n n97_44 rfl ?_
  refine am_e_getf (v := .ref 191) n97_45 rfl ((F57 164 53 rfl).trans ((F56 164 53 rfl).trans ((F55 164 53 rfl).trans ((F54 164 53 rfl).trans ((F53 164 53 rfl).trans ((F52 164 53 rfl).trans ((F51 164 53 rfl).trans ((F50 164 53 rfl).trans ((F49 164 53 rfl).trans ((F48 164 53 rfl).trans (f164_53 (h := h) hT))))))))))) ?_
  refine am_e_iconst (w := 4) n97_46 rfl ?_
  refine am_e_iload_n n97_47 rfl ?_
  refine am_e_imul (w := 0) n97_48 (by decide) ?_
  refine am_e_iload_n n97_49 rfl ?_
  refine am_e_iadd (w := 0) n97_50 (by decide) ?_
  refine am_e_iaload (v := 0) (q := 0) n97_51 rfl (by decide) (by decide) ((F57 191 0 rfl).trans ((F56 191 0 rfl).trans ((F55 191 0 rfl).trans ((F54 191 0 rfl).trans ((F53 191 0 rfl).trans ((F52 191 0 rfl).trans ((F51 191 0 rfl).trans ((F50 191 0 rfl).trans ((F49 191 0 rfl).trans ((F48 191 0 rfl).trans (f191_0 (h := h) hT))))))))))) ?_
  refine am_e_iastore (q := 4) n97_52 rfl (by decide) (by decide) ?_
  refine am_e_aload_n n97_53 rfl ?_
  refine am_e_getf (v := .ref 192) n97_54 rfl ((F57 164 54 rfl).trans ((F56 164 54 rfl).trans ((F55 164 54 rfl).trans ((F54 164 54 rfl).trans ((F53 164 54 rfl).trans ((F52 164 54 rfl).trans ((F51 164 54 rfl).trans ((F50 164 54 rfl).trans ((F49 164 54 rfl).trans ((F48 164 54 rfl).trans (f164_54 (h := h) hT))))))))))) ?_
  refine am_e_iconst (w := 4) n97_55 rfl ?_
  refine am_e_iload_n n97_56 rfl ?_
  refine am_e_imul (w := 4) n97_57 (by decide) ?_
  refine am_e_iload_n n97_58 rfl ?_
  refine am_e_iadd (w := 4) n97_59 (by decide) ?_
  refine am_e_aload_n n97_60 rfl ?_
  refine am_e_getf (v := .ref 192) n97_61 rfl ((F57 164 54 rfl).trans ((F56 164 54 rfl).trans ((F55 164 54 rfl).trans ((F54 164 54 rfl).trans ((F53 164 54 rfl).trans ((F52 164 54 rfl).trans ((F51 164 54 rfl).trans ((F50 164 54 rfl).trans ((F49 164 54 rfl).trans ((F48 164 54 rfl).trans (f164_54 (h := h) hT))))))))))) ?_
  refine am_e_iconst (w := 4) n97_62 rfl ?_
  refine am_e_iload_n n97_63 rfl ?_
  refine am_e_imul (w := 0) n97_64 (by decide) ?_
  refine am_e_iload_n n97_65 rfl ?_
  refine am_e_iadd (w := 0) n97_66 (by decide) ?_
  refine am_e_iaload (v := 0) (q := 0) n97_67 rfl (by decide) (by decide) ((F57 192 0 rfl).trans ((F56 192 0 rfl).trans ((F55 192 0 rfl).trans ((F54 192 0 rfl).trans ((F53 192 0 rfl).trans ((F52 192 0 rfl).trans ((F51 192 0 rfl).trans ((F50 192 0 rfl).trans ((F49 192 0 rfl).trans ((F48 192 0 rfl).trans (f192_0 (h := h) hT))))))))))) ?_
  refine am_e_iastore (q := 4) n97_68 rfl (by decide) (by decide) ?_
  refine am_e_aload_n n97_69 rfl ?_
  refine am_e_getf (v := .ref 193) n97_70 rfl ((F57 164 55 rfl).trans ((F56 164 55 rfl).trans ((F55 164 55 rfl).trans ((F54 164 55 rfl).trans ((F53 164 55 rfl).trans ((F52 164 55 rfl).trans ((F51 164 55 rfl).trans ((F50 164 55 rfl).trans ((F49 164 55 rfl).trans ((F48 164 55 rfl).trans (f164_55 (h := h) hT))))))))))) ?_
  refine am_e_iconst (w := 4) n97_71 rfl ?_
  refine am_e_iload_n n97_72 rfl ?_
  refine am_e_imul (w := 4) n97_73 (by decide) ?_
  refine am_e_iload_n n97_74 rfl ?_
  refine am_e_iadd (w := 4) n97_75 (by decide) ?_
  refine am_e_aload_n n97_76 rfl ?_
  refine am_e_getf (v := .ref 193) n97_77 rfl ((F57 164 55 rfl).trans ((F56 164 55 rfl).trans ((F55 164 55 rfl).trans ((F54 164 55 rfl).trans ((F53 164 55 rfl).trans ((F52 164 55 rfl).trans ((F51 164 55 rfl).trans ((F50 164 55 rfl).trans ((F49 164 55 rfl).trans ((F48 164 55 rfl).trans (f164_55 (h := h) hT))))))))))) ?_
  refine am_e_iconst (w := 4) n97_78 rfl ?_
  refine am_e_iload_n n97_79 rfl ?_
  refine am_e_imul (w := 0) n97_80 (by decide) ?_
  refine am_e_iload_n n97_81 rfl ?_
  refine am_e_iadd (w := 0) n97_82 (by decide) ?_
  refine am_e_iaload (v := 0) (q := 0) n97_83 rfl (by decide) (by decide) ((F57 193 0 rfl).trans ((F56 193 0 rfl).trans ((F55 193 0 rfl).trans ((F54 193 0 rfl).trans ((F53 193 0 rfl).trans ((F52 193 0 rfl).trans ((F51 193 0 rfl).trans ((F50 193 0 rfl).trans ((F49 193 0 rfl).trans ((F48 193 0 rfl).trans (f193_0 (h := h) hT))))))))))) ?_
  refine am_e_iastore (q := 4) n97_84 rfl (by decide) (by decide) ?_
  refine am_e_iinc (w := 1) (ls' := [(3, .int 1), (0, .ref 164), (1, .int 1), (2, .int 0)]) n97_85 rfl rfl (by decide) rfl ?_
  refine am_e_goto c97_86 t97_86 ?_
  refine am_e_iload_n n97_34 rfl ?_
  refine am_e_iconst (w := 4) n97_35 rfl ?_
  refine am_e_cmpF n97_36 (am_c_geF (by decide)) ?_
  refine am_e_aload_n n97_37 rfl ?_
  refine am_e_getf (v := .ref 191) n97_38 rfl ((F57 164 53 rfl).trans ((F56 164 53 rfl).trans ((F55 164 53 rfl).trans ((F54 164 53 rfl).trans ((F53 164 53 rfl).trans ((F52 164 53 rfl).trans ((F51 164 53 rfl).trans ((F50 164 53 rfl).trans ((F49 164 53 rfl).trans ((F48 164 53 rfl).trans (f164_53 (h := h) hT))))))))))) ?_
  refine am_e_iconst (w := 4) n97_39 rfl ?_
  refine am_e_iload_n n97_40 rfl ?_
  refine am_e_imul (w := 4) n97_41 (by decide) ?_
  refine am_e_iload_n n97_42 rfl ?_
  refine am_e_iadd (w := 5) n97_43 (by decide) ?_
  refine am_e_aload_n n97_44 rfl ?_
  refine am_e_getf (v := .ref 191) n97_45 rfl ((F57 164 53 rfl).trans ((F56 164 53 rfl).trans ((F55 164 53 rfl).trans ((F54 164 53 rfl).trans ((F53 164 53 rfl).trans ((F52 164 53 rfl).trans ((F51 164 53 rfl).trans ((F50 164 53 rfl).trans ((F49 164 53 rfl).trans ((F48 164 53 rfl).trans (f164_53 (h := h) hT))))))))))) ?_
  refine am_e_iconst (w := 4) n97_46 rfl ?_
  refine am_e_iload_n n97_47 rfl ?_
  refine am_e_imul (w := 0) n97_48 (by decide) ?_
  refine am_e_iload_n n97_49 rfl ?_
  refine am_e_iadd (w := 1) n97_50 (by decide) ?_
  refine am_e_iaload (v := 0) (q := 1) n97_51 rfl (by decide) (by decide) ((F57 191 1 rfl).trans ((F56 191 1 rfl).trans ((F55 191 1 rfl).trans ((F54 191 1 rfl).trans ((F53 191 1 rfl).trans ((F52 191 1 rfl).trans ((F51 191 1 rfl).trans ((F50 191 1 rfl).trans ((F49 191 1 rfl).trans ((F48 191 1 rfl).trans (f191_1 (h := h) hT))))))))))) ?_
  refine am_e_iastore (q := 5) n97_52 rfl (by decide) (by decide) ?_
  refine am_e_aload_n n97_53 rfl ?_
  refine am_e_getf (v := .ref 192) n97_54 rfl ((F57 164 54 rfl).trans ((F56 164 54 rfl).trans ((F55 164 54 rfl).trans ((F54 164 54 rfl).trans ((F53 164 54 rfl).trans ((F52 164 54 rfl).trans ((F51 164 54 rfl).trans ((F50 164 54 rfl).trans ((F49 164 54 rfl).trans ((F48 164 54 rfl).trans (f164_54 (h := h) hT))))))))))) ?_
  refine am_e_iconst (w := 4) n97_55 rfl ?_
  refine am_e_iload_n n97_56 rfl ?_
  refine am_e_imul (w := 4) n97_57 (by decide) ?_
  refine am_e_iload_n n97_58 rfl ?_
  refine am_e_iadd (w := 5) n97_59 (by decide) ?_
  refine am_e_aload_n n97_60 rfl ?_
  refine am_e_getf (v := .ref 192) n97_61 rfl ((F57 164 54 rfl).trans ((F56 164 54 rfl).trans ((F55 164 54 rfl).trans ((F54 164 54 rfl).trans ((F53 164 54 rfl).trans ((F52 164 54 rfl).trans ((F51 164 54 rfl).trans ((F50 164 54 rfl).trans ((F49 164 54 rfl).trans ((F48 164 54 rfl).trans (f164_54 (h := h) hT))))))))))) ?_
  refine am_e_iconst (w := 4) n97_62 rfl ?_
  refine am_e_iload_n n97_63 rfl ?_
  refine am_e_imul (w := 0) n97_64 (by decide) ?_
  refine am_e_iload_n n97_65 rfl ?_
  refine am_e_iadd (w := 1) n97_66 (by decide) ?_
  refine am_e_iaload (v := 0) (q := 1) n97_67 rfl (by decide) (by decide) ((F57 192 1 rfl).trans ((F56 192 1 rfl).trans ((F55 192 1 rfl).trans ((F54 192 1 rfl).trans ((F53 192 1 rfl).trans ((F52 192 1 rfl).trans ((F51 192 1 rfl).trans ((F50 192 1 rfl).trans ((F49 192 1 rfl).trans ((F48 192 1 rfl).trans (f192_1 (h := h) hT))))))))))) ?_
  refine am_e_iastore (q := 5) n97_68 rfl (by decide) (by decide) ?_
  refine am_e_aload_n n97_69 rfl ?_
  refine am_e_getf (v := .ref 193) n97_70 rfl ((F57 164 55 rfl).trans ((F56 164 55 rfl).trans ((F55 164 55 rfl).trans ((F54 164 55 rfl).trans ((F53 164 55 rfl).trans ((F52 164 55 rfl).trans ((F51 164 55 rfl).trans ((F50 164 55 rfl).trans ((F49 164 55 rfl).trans ((F48 164 55 rfl).trans (f164_55 (h := h) hT))))))))))) ?_
  refine am_e_iconst (w := 4) n97_71 rfl ?_
  refine am_e_iload_n n97_72 rfl ?_
  refine am_e_imul (w := 4) n97_73 (by decide) ?_
  refine am_e_iload_n n97_74 rfl ?_
  refine am_e_iadd (w := 5) n97_75 (by decide) ?_
  refine am_e_aload_n n97_76 rfl ?_
  refine am_e_getf (v := .ref 193) n97_77 rfl ((F57 164 55 rfl).trans ((F56 164 55 rfl).trans ((F55 164 55 rfl).trans ((F54 164 55 rfl).trans ((F53 164 55 rfl).trans ((F52 164 55 rfl).trans ((F51 164 55 rfl).trans ((F50 164 55 rfl).trans ((F49 164 55 rfl).trans ((F48 164 55 rfl).trans (f164_55 (h := h) hT))))))))))) ?_
  refine am_e_iconst (w := 4) n97_78 rfl ?_
  refine am_e_iload_n n97_79 rfl ?_
  refine am_e_imul (w := 0) n97_80 (by decide) ?_
  refine am_e_iload_n n97_81 rfl ?_
  refine am_e_iadd (w := 1) n97_82 (by decide) ?_
  refine am_e_iaload (v := 0) (q := 1) n97_83 rfl (by decide) (by decide) ((F57 193 1 rfl).trans ((F56 193 1 rfl).trans ((F55 193 1 rfl).trans ((F54 193 1 rfl).trans ((F53 193 1 rfl).trans ((F52 193 1 rfl).trans ((F51 193 1 rfl).trans ((F50 193 1 rfl).trans ((F49 193 1 rfl).trans ((F48 193 1 rfl).trans (f193_1 (h := h) hT))))))))))) ?_
  refine am_e_iastore (q := 5) n97_84 rfl (by decide) (by decide) ?_
  refine am_e_iinc (w := 2) (ls' := [(3, .int 2), (0, .ref 164), (1, .int 1), (2, .int 0)]) n97_85 rfl rfl (by decide) rfl ?_
  refine am_e_goto c97_86 t97_86 ?_
  refine am_e_iload_n n97_34 rfl ?_
  refine am_e_iconst (w := 4) n97_35 rfl ?_
  refine am_e_cmpF n97_36 (am_c_geF (by decide)) ?_
  refine am_e_aload_n n97_37 rfl ?_
  refine am_e_getf (v := .ref 191) n97_38 rfl ((F57 164 53 rfl).trans ((F56 164 53 rfl).trans ((F55 164 53 rfl).trans ((F54 164 53 rfl).trans ((F53 164 53 rfl).trans ((F52 164 53 rfl).trans ((F51 164 53 rfl).trans ((F50 164 53 rfl).trans ((F49 164 53 rfl).trans ((F48 164 53 rfl).trans (f164_53 (h := h) hT))))))))))) ?_
  refine am_e_iconst (w := 4) n97_39 rfl ?_
  refine am_e_iload_n n97_40 rfl ?_
  refine am_e_imul (w := 4) n97_41 (by decide) ?_
  refine am_e_iload_n n97_42 rfl ?_
  refine am_e_iadd (w := 6) n97_43 (by decide) ?_
  refine am_e_aload_n n97_44 rfl ?_
  refine am_e_getf (v := .ref 191) n97_45 rfl ((F57 164 53 rfl).trans ((F56 164 53 rfl).trans ((F55 164 53 rfl).trans ((F54 164 53 rfl).trans ((F53 164 53 rfl).trans ((F52 164 53 rfl).trans ((F51 164 53 rfl).trans ((F50 164 53 rfl).trans ((F49 164 53 rfl).trans ((F48 164 53 rfl).trans (f164_53 (h := h) hT))))))))))) ?_
  refine am_e_iconst (w := 4) n97_46 rfl ?_
  refine am_e_iload_n n97_47 rfl ?_
  refine am_e_imul (w := 0) n97_48 (by decide) ?_
  refine am_e_iload_n n97_49 rfl ?_
  refine am_e_iadd (w := 2) n97_50 (by decide) ?_
  refine am_e_iaload (v := 0) (q := 2) n97_51 rfl (by decide) (by decide) ((F57 191 2 rfl).trans ((F56 191 2 rfl).trans ((F55 191 2 rfl).trans ((F54 191 2 rfl).trans ((F53 191 2 rfl).trans ((F52 191 2 rfl).trans ((F51 191 2 rfl).trans ((F50 191 2 rfl).trans ((F49 191 2 rfl).trans ((F48 191 2 rfl).trans (f191_2 (h := h) hT))))))))))) ?_
  refine am_e_iastore (q := 6) n97_52 rfl (by decide) (by decide) ?_
  refine am_e_aload_n n97_53 rfl ?_
  refine am_e_getf (v := .ref 192) n97_54 rfl ((F57 164 54 rfl).trans ((F56 164 54 rfl).trans ((F55 164 54 rfl).trans ((F54 164 54 rfl).trans ((F53 164 54 rfl).trans ((F52 164 54 rfl).trans ((F51 164 54 rfl).trans ((F50 164 54 rfl).trans ((F49 164 54 rfl).trans ((F48 164 54 rfl).trans (f164_54 (h := h) hT))))))))))) ?_
  refine am_e_iconst (w := 4) n97_55 rfl ?_
  refine am_e_iload_n n97_56 rfl ?_
  refine am_e_imul (w := 4) n97_57 (by decide) ?_
  refine am_e_iload_n n97_58 rfl ?_
  refine am_e_iadd (w := 6) n97_59 (by decide) ?_
  refine am_e_aload_n n97_60 rfl ?_
  refine am_e_getf (v := .ref 192) n97_61 rfl ((F57 164 54 rfl).trans ((F56 164 54 rfl).trans ((F55 164 54 rfl).trans ((F54 164 54 rfl).trans ((F53 164 54 rfl).trans ((F52 164 54 rfl).trans ((F51 164 54 rfl).trans ((F50 164 54 rfl).trans ((F49 164 54 rfl).trans ((F48 164 54 rfl).trans (f164_54 (h := h) hT))))))))))) ?_
  refine am_e_iconst (w := 4) n97_62 rfl ?_
  refine am_e_iload_n n97_63 rfl ?_
  refine am_e_imul (w := 0) n97_64 (by decide) ?_
  refine am_e_iload_n n97_65 rfl ?_
  refine am_e_iadd (w := 2) n97_66 (by decide) ?_
  refine am_e_iaload (v := 0) (q := 2) n97_67 rfl (by decide) (by decide) ((F57 192 2 rfl).trans ((F56 192 2 rfl).trans ((F55 192 2 rfl).trans ((F54 192 2 rfl).trans ((F53 192 2 rfl).trans ((F52 192 2 rfl).trans ((F51 192 2 rfl).trans ((F50 192 2 rfl).trans ((F49 192 2 rfl).trans ((F48 192 2 rfl).trans (f192_2 (h := h) hT))))))))))) ?_
  refine am_e_iastore (q := 6) n97_68 rfl (by decide) (by decide) ?_
  refine am_e_aload_n n97_69 rfl ?_
  refine am_e_getf (v := .ref 193) n97_70 rfl ((F57 164 55 rfl).trans ((F56 164 55 rfl).trans ((F55 164 55 rfl).trans ((F54 164 55 rfl).trans ((F53 164 55 rfl).trans ((F52 164 55 rfl).trans ((F51 164 55 rfl).trans ((F50 164 55 rfl).trans ((F49 164 55 rfl).trans ((F48 164 55 rfl).trans (f164_55 (h := h) hT))))))))))) ?_
  refine am_e_iconst (w := 4) n97_71 rfl ?_
  refine am_e_iload_n n97_72 rfl ?_
  refine am_e_imul (w := 4) n97_73 (by decide) ?_
  refine am_e_iload_n n97_74 rfl ?_
  refine am_e_iadd (w := 6) n97_75 (by decide) ?_
  refine am_e_aload_n n97_76 rfl ?_
  refine am_e_getf (v := .ref 193) n97_77 rfl ((F57 164 55 rfl).trans ((F56 164 55 rfl).trans ((F55 164 55 rfl).trans ((F54 164 55 rfl).trans ((F53 164 55 rfl).trans ((F52 164 55 rfl).trans ((F51 164 55 rfl).trans ((F50 164 55 rfl).trans ((F49 164 55 rfl).trans ((F48 164 55 rfl).trans (f164_55 (h := h) hT))))))))))) ?_
  refine am_e_iconst (w := 4) n97_78 rfl ?_
  refine am_e_iload_n n97_79 rfl ?_
  refine am_e_imul (w := 0) n97_80 (by decide) ?_
  refine am_e_iload_n n97_81 rfl ?_
  refine am_e_iadd (w := 2) n97_82 (by decide) ?_
  refine am_e_iaload (v := 0) (q := 2) n97_83 rfl (by decide) (by decide) ((F57 193 2 rfl).trans ((F56 193 2 rfl).trans ((F55 193 2 rfl).trans ((F54 193 2 rfl).trans ((F53 193 2 rfl).trans ((F52 193 2 rfl).trans ((F51 193 2 rfl).trans ((F50 193 2 rfl).trans ((F49 193 2 rfl).trans ((F48 193 2 rfl).trans (f193_2 (h := h) hT))))))))))) ?_
  refine am_e_iastore (q := 6) n97_84 rfl (by decide) (by decide) ?_
  refine am_e_iinc (w := 3) (ls' := [(3, .int 3), (0, .ref 164), (1, .int 1), (2, .int 0)]) n97_85 rfl rfl (by decide) rfl ?_
  refine am_e_goto c97_86 t97_86 ?_
  refine am_e_iload_n n97_34 rfl ?_
  refine am_e_iconst (w := 4) n97_35 rfl ?_
  refine am_e_cmpF n97_36 (am_c_geF (by decide)) ?_
  refine am_e_aload_n n97_37 rfl ?_
  refine am_e_getf (v := .ref 191) n97_38 rfl ((F57 164 53 rfl).trans ((F56 164 53 rfl).trans ((F55 164 53 rfl).trans ((F54 164 53 rfl).trans ((F53 164 53 rfl).trans ((F52 164 53 rfl).trans ((F51 164 53 rfl).trans ((F50 164 53 rfl).trans ((F49 164 53 rfl).trans ((F48 164 53 rfl).trans (f164_53 (h := h) hT))))))))))) ?_
  refine am_e_iconst (w := 4) n97_39 rfl ?_
  refine am_e_iload_n n97_40 rfl ?_
  refine am_e_imul (w := 4) n97_41 (by decide) ?_
  refine am_e_iload_n n97_42 rfl ?_
  refine am_e_iadd (w := 7) n97_43 (by decide) ?_
  refine am_e_aload_n n97_44 rfl ?_
  refine am_e_getf (v := .ref 191) n97_45 rfl ((F57 164 53 rfl).trans ((F56 164 53 rfl).trans ((F55 164 53 rfl).trans ((F54 164 53 rfl).trans ((F53 164 53 rfl).trans ((F52 164 53 rfl).trans ((F51 164 53 rfl).trans ((F50 164 53 rfl).trans ((F49 164 53 rfl).trans ((F48 164 53 rfl).trans (f164_53 (h := h) hT))))))))))) ?_
  refine am_e_iconst (w := 4) n97_46 rfl ?_
  refine am_e_iload_n n97_47 rfl ?_
  refine am_e_imul (w := 0) n97_48 (by decide) ?_
  refine am_e_iload_n n97_49 rfl ?_
  refine am_e_iadd (w := 3) n97_50 (by decide) ?_
  refine am_e_iaload (v := 0) (q := 3) n97_51 rfl (by decide) (by decide) ((F57 191 3 rfl).trans ((F56 191 3 rfl).trans ((F55 191 3 rfl).trans ((F54 191 3 rfl).trans ((F53 191 3 rfl).trans ((F52 191 3 rfl).trans ((F51 191 3 rfl).trans ((F50 191 3 rfl).trans ((F49 191 3 rfl).trans ((F48 191 3 rfl).trans (f191_3 (h := h) hT))))))))))) ?_
  refine am_e_iastore (q := 7) n97_52 rfl (by decide) (by decide) ?_
  refine am_e_aload_n n97_53 rfl ?_
  refine am_e_getf (v := .ref 192) n97_54 rfl ((F57 164 54 rfl).trans ((F56 164 54 rfl).trans ((F55 164 54 rfl).trans ((F54 164 54 rfl).trans ((F53 164 54 rfl).trans ((F52 164 54 rfl).trans ((F51 164 54 rfl).trans ((F50 164 54 rfl).trans ((F49 164 54 rfl).trans ((F48 164 54 rfl).trans (f164_54 (h := h) hT))))))))))) ?_
  refine am_e_iconst (w := 4) n97_55 rfl ?_
  refine am_e_iload_n n97_56 rfl ?_
  refine am_e_imul (w := 4) n97_57 (by decide) ?_
  refine am_e_iload_n n97_58 rfl ?_
  refine am_e_iadd (w := 7) n97_59 (by decide) ?_
  refine am_e_aload_n n97_60 rfl ?_
  refine am_e_getf (v := .ref 192) n97_61 rfl ((F57 164 54 rfl).trans ((F56 164 54 rfl).trans ((F55 164 54 rfl).trans ((F54 164 54 rfl).trans ((F53 164 54 rfl).trans ((F52 164 54 rfl).trans ((F51 164 54 rfl).trans ((F50 164 54 rfl).trans ((F49 164 54 rfl).trans ((F48 164 54 rfl).trans (f164_54 (h := h) hT))))))))))) ?_
  refine am_e_iconst (w := 4) n97_62 rfl ?_
  refine am_e_iload_n n97_63 rfl ?_
  refine am_e_imul (w := 0) n97_64 (by decide) ?_
  refine am_e_iload_n n97_65 rfl ?_
  refine am_e_iadd (w := 3) n97_66 (by decide) ?_
  refine am_e_iaload (v := 0) (q := 3) n97_67 rfl (by decide) (by decide) ((F57 192 3 rfl).trans ((F56 192 3 rfl).trans ((F55 192 3 rfl).trans ((F54 192 3 rfl).trans ((F53 192 3 rfl).trans ((F52 192 3 rfl).trans ((F51 192 3 rfl).trans ((F50 192 3 rfl).trans ((F49 192 3 rfl).trans ((F48 192 3 rfl).trans (f192_3 (h := h) hT))))))))))) ?_
  refine am_e_iastore (q := 7) n97_68 rfl (by decide) (by decide) ?_
  refine am_e_aload_n n97_69 rfl ?_
  refine am_e_getf (v := .ref 193) n97_70 rfl ((F57 164 55 rfl).trans ((F56 164 55 rfl).trans ((F55 164 55 rfl).trans ((F54 164 55 rfl).trans ((F53 164 55 rfl).trans ((F52 164 55 rfl).trans ((F51 164 55 rfl).trans ((F50 164 55 rfl).trans ((F49 164 55 rfl).trans ((F48 164 55 rfl).trans (f164_55 (h := h) hT))))))))))) ?_
  refine am_e_iconst (w := 4) n97_71 rfl ?_
  refine am_e_iload_n n97_72 rfl ?_
  refine am_e_imul (w := 4) n97_73 (by decide) ?_
  refine am_e_iload_n n97_74 rfl ?_
  refine am_e_iadd (w := 7) n97_75 (by decide) ?_
  refine am_e_aload_n n97_76 rfl ?_
  refine am_e_getf (v := .ref 193) n97_77 rfl ((F57 164 55 rfl).trans ((F56 164 55 rfl).trans ((F55 164 55 rfl).trans ((F54 164 55 rfl).trans ((F53 164 55 rfl).trans ((F52 164 55 rfl).trans ((F51 164 55 rfl).trans ((F50 164 55 rfl).trans ((F49 164 55 rfl).trans ((F48 164 55 rfl).trans (f164_55 (h := h) hT))))))))))) ?_
  refine am_e_iconst (w := 4) n97_78 rfl ?_
  refine am_e_iload_n n97_79 rfl ?_
  refine am_e_imul (w := 0) n97_80 (by decide) ?_
  refine am_e_iload_n n97_81 rfl ?_
  refine am_e_iadd (w := 3) n97_82 (by decide) ?_
  refine am_e_iaload (v := 0) (q := 3) n97_83 rfl (by decide) (by decide) ((F57 193 3 rfl).trans ((F56 193 3 rfl).trans ((F55 193 3 rfl).trans ((F54 193 3 rfl).trans ((F53 193 3 rfl).trans ((F52 193 3 rfl).trans ((F51 193 3 rfl).trans ((F50 193 3 rfl).trans ((F49 193 3 rfl).trans ((F48 193 3 rfl).trans (f193_3 (h := h) hT))))))))))) ?_
  refine am_e_iastore (q := 7) n97_84 rfl (by decide) (by decide) ?_
  refine am_e_iinc (w := 4) (ls' := [(3, .int 4), (0, .ref 164), (1, .int 1), (2, .int 0)]) n97_85 rfl rfl (by decide) rfl ?_
  refine am_e_goto c97_86 t97_86 ?_
  refine am_e_iload_n n97_34 rfl ?_
  refine am_e_iconst (w := 4) n97_35 rfl ?_
  refine am_e_cmpT n97_36 (am_c_geT (by decide)) t97_36 ?_
  refine am_e_vret c97_87 rfl rfl ?_
  refine am_e_iconst (w := 0) n127_35 rfl ?_
  refine am_e_istore (ls' := [(8, .int 0), (7, .int 0), (6, .int 0), (4, .long 0), (0, .ref 164), (1, .int a1), (2, .int (nI n)), (3, .int (nI b))]) n127_36 rfl rfl ?_
  refine am_Ek_ls (ls' := [(0, .ref 164), (2, .int (nI n)), (3, .int (nI b)), (4, .long 0), (6, .int 0), (7, .int 0), (8, .int (nI 0))]) ⟨rfl, rfl, rfl, rfl, rfl, rfl, rfl, trivial⟩ ?_
  refine am_cm_e (n := n) (b := b) (s := 0) (t := 0) (i7 := 0) (dr := (a1.toInt64)) (by omega) (by omega) ⟨((F57 164 23 rfl).trans ((F56 164 23 rfl).trans ((F55 164 23 rfl).trans ((F54 164 23 rfl).trans ((F53 164 23 rfl).trans ((F52 164 23 rfl).trans ((F51 164 23 rfl).trans ((F50 164 23 rfl).trans ((F49 164 23 rfl).trans ((F48 164 23 rfl).trans (f164_23 (h := h) hT))))))))))), ((F57 168 4 rfl).trans ((F56 168 4 rfl).trans ((F55 168 4 rfl).trans ((F54 168 4 rfl).trans ((F53 168 4 rfl).trans ((F52 168 4 rfl).trans ((F51 168 4 rfl).trans ((F50 168 4 rfl).trans ((F49 168 4 rfl).trans ((F48 168 4 rfl).trans (f168_4 (h := h) hT))))))))))), ((F57 164 50 rfl).trans ((F56 164 50 rfl).trans ((F55 164 50 rfl).trans ((F54 164 50 rfl).trans ((F53 164 50 rfl).trans ((F52 164 50 rfl).trans ((F51 164 50 rfl).trans ((F50 164 50 rfl).trans ((F49 164 50 rfl).trans ((F48 164 50 rfl).trans (f164_50 (h := h) hT))))))))))), ((F57 164 61 rfl).trans ((F56 164 61 rfl).trans ((F55 164 61 rfl).trans ((F54 164 61 rfl).trans ((F53 164 61 rfl).trans ((F52 164 61 rfl).trans ((F51 164 61 rfl).trans ((F50 164 61 rfl).trans ((F49 164 61 rfl).trans ((F48 164 61 rfl).trans (f164_61 (h := h) hT))))))))))), ((F57 164 47 rfl).trans ((F56 164 47 rfl).trans ((F55 164 47 rfl).trans ((F54 164 47 rfl).trans ((F53 164 47 rfl).trans ((F52 164 47 rfl).trans ((F51 164 47 rfl).trans ((F50 164 47 rfl).trans ((F49 164 47 rfl).trans ((F48 164 47 rfl).trans (f164_47 (h := h) hT))))))))))), ((F57 168 0 rfl).trans ((F56 168 0 rfl).trans ((F55 168 0 rfl).trans ((F54 168 0 rfl).trans ((F53 168 0 rfl).trans ((F52 168 0 rfl).trans ((F51 168 0 rfl).trans ((F50 168 0 rfl).trans ((F49 168 0 rfl).trans ((F48 168 0 rfl).trans (f168_0 (h := h) hT))))))))))), ((F57 164 51 rfl).trans ((F56 164 51 rfl).trans ((F55 164 51 rfl).trans ((F54 164 51 rfl).trans ((F53 164 51 rfl).trans ((F52 164 51 rfl).trans ((F51 164 51 rfl).trans ((F50 164 51 rfl).trans ((F49 164 51 rfl).trans ((F48 164 51 rfl).trans (f164_51 (h := h) hT))))))))))), ((F57 164 33 rfl).trans ((F56 164 33 rfl).trans ((F55 164 33 rfl).trans ((F54 164 33 rfl).trans ((F53 164 33 rfl).trans ((F52 164 33 rfl).trans ((F51 164 33 rfl).trans ((F50 164 33 rfl).trans ((F49 164 33 rfl).trans ((F48 164 33 rfl).trans (f164_33 (h := h) hT))))))))))), ((F57 178 2 rfl).trans ((F56 178 2 rfl).trans ((F55 178 2 rfl).trans ((F54 178 2 rfl).trans ((F53 178 2 rfl).trans ((F52 178 2 rfl).trans ((F51 178 2 rfl).trans ((F50 178 2 rfl).trans ((F49 178 2 rfl).trans ((F48 178 2 rfl).trans (f178_2 (h := h) hT))))))))))), ((F57 178 0 rfl).trans ((F56 178 0 rfl).trans ((F55 178 0 rfl).trans ((F54 178 0 rfl).trans ((F53 178 0 rfl).trans ((F52 178 0 rfl).trans ((F51 178 0 rfl).trans ((F50 178 0 rfl).trans ((F49 178 0 rfl).trans ((F48 178 0 rfl).trans (f178_0 (h := h) hT))))))))))), ((F57 164 62 rfl).trans ((F56 164 62 rfl).trans ((F55 164 62 rfl).trans ((F54 164 62 rfl).trans ((F53 164 62 rfl).trans ((F52 164 62 rfl).trans ((F51 164 62 rfl).trans ((F50 164 62 rfl).trans ((F49 164 62 rfl).trans ((F48 164 62 rfl).trans (f164_62 (h := h) hT))))))))))), ((F57 164 58 rfl).trans ((F56 164 58 rfl).trans ((F55 164 58 rfl).trans ((F54 164 58 rfl).trans ((F53 164 58 rfl).trans ((F52 164 58 rfl).trans ((F51 164 58 rfl).trans ((F50 164 58 rfl).trans ((F49 164 58 rfl).trans ((F48 164 58 rfl).trans (f164_58 (h := h) hT))))))))))), ((F57 164 60 rfl).trans ((F56 164 60 rfl).trans ((F55 164 60 rfl).trans ((F54 164 60 rfl).trans ((F53 164 60 rfl).trans ((F52 164 60 rfl).trans ((F51 164 60 rfl).trans ((F50 164 60 rfl).trans ((F49 164 60 rfl).trans ((F48 164 60 rfl).trans (f164_60 (h := h) hT))))))))))), trivial⟩ rfl rfl rfl ?_
  intro h58 dr58 F58 qa58 qb58 qc58
  refine am_e_iload n127_59 rfl ?_
  refine am_e_aload_n n127_60 rfl ?_
  refine am_e_getf (v := .ref 188) n127_61 rfl ((F58 164 50 rfl).trans ((F57 164 50 rfl).trans ((F56 164 50 rfl).trans ((F55 164 50 rfl).trans ((F54 164 50 rfl).trans ((F53 164 50 rfl).trans ((F52 164 50 rfl).trans ((F51 164 50 rfl).trans ((F50 164 50 rfl).trans ((F49 164 50 rfl).trans ((F48 164 50 rfl).trans (f164_50 (h := h) hT)))))))))))) ?_
  refine am_e_iconst (w := 1) n127_62 rfl ?_
  refine am_e_iaload (v := 0) (q := 1) n127_63 rfl (by decide) (by decide) qa58 ?_
  refine am_e_iload_n n127_64 rfl ?_
  refine am_e_cmpT n127_65 (am_c_ltT (nI_lt (a := 0) hb0 (by omega))) t127_65 ?_
  refine am_e_iconst (w := 0) n127_68 rfl ?_
  refine am_e_iadd (w := 0) n127_69 (by decide) ?_
  refine am_e_istore (ls' := [(6, .int 0), (0, .ref 164), (2, .int (nI n)), (3, .int (nI b)), (4, .long 0), (7, .int 0), (8, .int (nI n))]) n127_70 rfl rfl ?_
  refine am_e_iinc (w := 1) (ls' := [(7, .int 1), (6, .int 0), (0, .ref 164), (2, .int (nI n)), (3, .int (nI b)), (4, .long 0), (8, .int (nI n))]) n127_71 rfl rfl (by decide) rfl ?_
  refine am_e_goto c127_72 t127_72 ?_
  refine am_e_iload n127_28 rfl ?_
  refine am_e_bipush (w := 10) n127_29 (by decide) ?_
  refine am_e_cmpF n127_30 (am_c_geF (by decide)) ?_
  refine am_e_aload_n n127_31 rfl ?_
  refine am_e_iconst (w := 1) n127_32 rfl ?_
  refine am_e_iconst (w := 0) n127_33 rfl ?_
  refine am_e_callV (L := [(0, .ref 164), (1, .int 1), (2, .int 0)]) n127_34 rfl rfl rfl rfl rfl rfl rfl rfl ?_
  refine am_e_aload_n n97_0 rfl ?_
  refine am_e_getf (v := .ref 188) n97_1 rfl ((F58 164 50 rfl).trans ((F57 164 50 rfl).trans ((F56 164 50 rfl).trans ((F55 164 50 rfl).trans ((F54 164 50 rfl).trans ((F53 164 50 rfl).trans ((F52 164 50 rfl).trans ((F51 164 50 rfl).trans ((F50 164 50 rfl).trans ((F49 164 50 rfl).trans ((F48 164 50 rfl).trans (f164_50 (h := h) hT)))))))))))) ?_
  refine am_e_iload_n n97_2 rfl ?_
  refine am_e_aload_n n97_3 rfl ?_
  refine am_e_getf (v := .ref 188) n97_4 rfl ((F58 164 50 rfl).trans ((F57 164 50 rfl).trans ((F56 164 50 rfl).trans ((F55 164 50 rfl).trans ((F54 164 50 rfl).trans ((F53 164 50 rfl).trans ((F52 164 50 rfl).trans ((F51 164 50 rfl).trans ((F50 164 50 rfl).trans ((F49 164 50 rfl).trans ((F48 164 50 rfl).trans (f164_50 (h := h) hT)))))))))))) ?_
  refine am_e_iload_n n97_5 rfl ?_
  refine am_e_iaload (v := 0) (q := 0) n97_6 rfl (by decide) (by decide) ((F58 188 0 rfl).trans ((F57 188 0 rfl).trans ((F56 188 0 rfl).trans ((F55 188 0 rfl).trans ((F54 188 0 rfl).trans ((F53 188 0 rfl).trans ((F52 188 0 rfl).trans ((F51 188 0 rfl).trans ((F50 188 0 rfl).trans ((F49 188 0 rfl).trans ((F48 188 0 rfl).trans (f188_0 (h := h) hT)))))))))))) ?_
  refine am_e_iastore (q := 1) n97_7 rfl (by decide) (by decide) ?_
  refine am_e_aload_n n97_8 rfl ?_
  refine am_e_getf (v := .ref 189) n97_9 rfl ((F58 164 51 rfl).trans ((F57 164 51 rfl).trans ((F56 164 51 rfl).trans ((F55 164 51 rfl).trans ((F54 164 51 rfl).trans ((F53 164 51 rfl).trans ((F52 164 51 rfl).trans ((F51 164 51 rfl).trans ((F50 164 51 rfl).trans ((F49 164 51 rfl).trans ((F48 164 51 rfl).trans (f164_51 (h := h) hT)))))))))))) ?_
  refine am_e_iload_n n97_10 rfl ?_
  refine am_e_aload_n n97_11 rfl ?_
  refine am_e_getf (v := .ref 189) n97_12 rfl ((F58 164 51 rfl).trans ((F57 164 51 rfl).trans ((F56 164 51 rfl).trans ((F55 164 51 rfl).trans ((F54 164 51 rfl).trans ((F53 164 51 rfl).trans ((F52 164 51 rfl).trans ((F51 164 51 rfl).trans ((F50 164 51 rfl).trans ((F49 164 51 rfl).trans ((F48 164 51 rfl).trans (f164_51 (h := h) hT)))))))))))) ?_
  refine am_e_iload_n n97_13 rfl ?_
  refine am_e_iaload (v := 0) (q := 0) n97_14 rfl (by decide) (by decide) ((F58 189 0 rfl).trans ((F57 189 0 rfl).trans ((F56 189 0 rfl).trans ((F55 189 0 rfl).trans ((F54 189 0 rfl).trans ((F53 189 0 rfl).trans ((F52 189 0 rfl).trans ((F51 189 0 rfl).trans ((F50 189 0 rfl).trans ((F49 189 0 rfl).trans ((F48 189 0 rfl).trans (f189_0 (h := h) hT)))))))))))) ?_
  refine am_e_iastore (q := 1) n97_15 rfl (by decide) (by decide) ?_
  refine am_e_aload_n n97_16 rfl ?_
  refine am_e_getf (v := .ref 190) n97_17 rfl ((F58 164 52 rfl).trans ((F57 164 52 rfl).trans ((F56 164 52 rfl).trans ((F55 164 52 rfl).trans ((F54 164 52 rfl).trans ((F53 164 52 rfl).trans ((F52 164 52 rfl).trans ((F51 164 52 rfl).trans ((F50 164 52 rfl).trans ((F49 164 52 rfl).trans ((F48 164 52 rfl).trans (f164_52 (h := h) hT)))))))))))) ?_
  refine am_e_iload_n n97_18 rfl ?_
  refine am_e_aload_n n97_19 rfl ?_
  refine am_e_getf (v := .ref 190) n97_20 rfl ((F58 164 52 rfl).trans ((F57 164 52 rfl).trans ((F56 164 52 rfl).trans ((F55 164 52 rfl).trans ((F54 164 52 rfl).trans ((F53 164 52 rfl).trans ((F52 164 52 rfl).trans ((F51 164 52 rfl).trans ((F50 164 52 rfl).trans ((F49 164 52 rfl).trans ((F48 164 52 rfl).trans (f164_52 (h := h) hT)))))))))))) ?_
  refine am_e_iload_n n97_21 rfl ?_
  refine am_e_iaload (v := (-1)) (q := 0) n97_22 rfl (by decide) (by decide) ((F58 190 0 rfl).trans ((F57 190 0 rfl).trans ((F56 190 0 rfl).trans ((F55 190 0 rfl).trans ((F54 190 0 rfl).trans ((F53 190 0 rfl).trans ((F52 190 0 rfl).trans ((F51 190 0 rfl).trans ((F50 190 0 rfl).trans ((F49 190 0 rfl).trans ((F48 190 0 rfl).trans (f190_0 (h := h) hT)))))))))))) ?_
  refine am_e_iastore (q := 1) n97_23 rfl (by decide) (by decide) ?_
  refine am_e_aload_n n97_24 rfl ?_
  refine am_e_getf (v := .ref 194) n97_25 rfl ((F58 164 56 rfl).trans ((F57 164 56 rfl).trans ((F56 164 56 rfl).trans ((F55 164 56 rfl).trans ((F54 164 56 rfl).trans ((F53 164 56 rfl).trans ((F52 164 56 rfl).trans ((F51 164 56 rfl).trans ((F50 164 56 rfl).trans ((F49 164 56 rfl).trans ((F48 164 56 rfl).trans (f164_56 (h := h) hT)))))))))))) ?_
  refine am_e_iload_n n97_26 rfl ?_
  refine am_e_aload_n n97_27 rfl ?_
  refine am_e_getf (v := .ref 194) n97_28 rfl ((F58 164 56 rfl).trans ((F57 164 56 rfl).trans ((F56 164 56 rfl).trans ((F55 164 56 rfl).trans ((F54 164 56 rfl).trans ((F53 164 56 rfl).trans ((F52 164 56 rfl).trans ((F51 164 56 rfl).trans ((F50 164 56 rfl).trans ((F49 164 56 rfl).trans ((F48 164 56 rfl).trans (f164_56 (h := h) hT)))))))))))) ?_
  refine am_e_iload_n n97_29 rfl ?_
  refine am_e_iaload (v := 0) (q := 0) n97_30 rfl (by decide) (by decide) ((F58 194 0 rfl).trans ((F57 194 0 rfl).trans ((F56 194 0 rfl).trans ((F55 194 0 rfl).trans ((F54 194 0 rfl).trans ((F53 194 0 rfl).trans ((F52 194 0 rfl).trans ((F51 194 0 rfl).trans ((F50 194 0 rfl).trans ((F49 194 0 rfl).trans ((F48 194 0 rfl).trans (f194_0 (h := h) hT)))))))))))) ?_
  refine am_e_iastore (q := 1) n97_31 rfl (by decide) (by decide) ?_
  refine am_e_iconst (w := 0) n97_32 rfl ?_
  refine am_e_istore_n (ls' := [(3, .int 0), (0, .ref 164), (1, .int 1), (2, .int 0)]) n97_33 rfl rfl ?_
  refine am_e_iload_n n97_34 rfl ?_
  refine am_e_iconst (w := 4) n97_35 rfl ?_
  refine am_e_cmpF n97_36 (am_c_geF (by decide)) ?_
  refine am_e_aload_n n97_37 rfl ?_
  refine am_e_getf (v := .ref 191) n97_38 rfl ((F58 164 53 rfl).trans ((F57 164 53 rfl).trans ((F56 164 53 rfl).trans ((F55 164 53 rfl).trans ((F54 164 53 rfl).trans ((F53 164 53 rfl).trans ((F52 164 53 rfl).trans ((F51 164 53 rfl).trans ((F50 164 53 rfl).trans ((F49 164 53 rfl).trans ((F48 164 53 rfl).trans (f164_53 (h := h) hT)))))))))))) ?_
  refine am_e_iconst (w := 4) n97_39 rfl ?_
  refine am_e_iload_n n97_40 rfl ?_
  refine am_e_imul (w := 4) n97_41 (by decide) ?_
  refine am_e_iload_n n97_42 rfl ?_
  refine am_e_iadd (w := 4) n97_43 (by decide) ?_
  refine am_e_aload_n n97_44 rfl ?_
  refine am_e_getf (v := .ref 191) n97_45 rfl ((F58 164 53 rfl).trans ((F57 164 53 rfl).trans ((F56 164 53 rfl).trans ((F55 164 53 rfl).trans ((F54 164 53 rfl).trans ((F53 164 53 rfl).trans ((F52 164 53 rfl).trans ((F51 164 53 rfl).trans ((F50 164 53 rfl).trans ((F49 164 53 rfl).trans ((F48 164 53 rfl).trans (f164_53 (h := h) hT)))))))))))) ?_
  refine am_e_iconst (w := 4) n97_46 rfl ?_
  refine am_e_iload_n n97_47 rfl ?_
  refine am_e_imul (w := 0) n97_48 (by decide) ?_
  refine am_e_iload_n n97_49 rfl ?_
  refine am_e_iadd (w := 0) n97_50 (by decide) ?_
  refine am_e_iaload (v := 0) (q := 0) n97_51 rfl (by decide) (by decide) ((F58 191 0 rfl).trans ((F57 191 0 rfl).trans ((F56 191 0 rfl).trans ((F55 191 0 rfl).trans ((F54 191 0 rfl).trans ((F53 191 0 rfl).trans ((F52 191 0 rfl).trans ((F51 191 0 rfl).trans ((F50 191 0 rfl).trans ((F49 191 0 rfl).trans ((F48 191 0 rfl).trans (f191_0 (h := h) hT)))))))))))) ?_
  refine am_e_iastore (q := 4) n97_52 rfl (by decide) (by decide) ?_
  refine am_e_aload_n n97_53 rfl ?_
  refine am_e_getf (v := .ref 192) n97_54 rfl ((F58 164 54 rfl).trans ((F57 164 54 rfl).trans ((F56 164 54 rfl).trans ((F55 164 54 rfl).trans ((F54 164 54 rfl).trans ((F53 164 54 rfl).trans ((F52 164 54 rfl).trans ((F51 164 54 rfl).trans ((F50 164 54 rfl).trans ((F49 164 54 rfl).trans ((F48 164 54 rfl).trans (f164_54 (h := h) hT)))))))))))) ?_
  refine am_e_iconst (w := 4) n97_55 rfl ?_
  refine am_e_iload_n n97_56 rfl ?_
  refine am_e_imul (w := 4) n97_57 (by decide) ?_
  refine am_e_iload_n n97_58 rfl ?_
  refine am_e_iadd (w := 4) n97_59 (by decide) ?_
  refine am_e_aload_n n97_60 rfl ?_
  refine am_e_getf (v := .ref 192) n97_61 rfl ((F58 164 54 rfl).trans ((F57 164 54 rfl).trans ((F56 164 54 rfl).trans ((F55 164 54 rfl).trans ((F54 164 54 rfl).trans ((F53 164 54 rfl).trans ((F52 164 54 rfl).trans ((F51 164 54 rfl).trans ((F50 164 54 rfl).trans ((F49 164 54 rfl).trans ((F48 164 54 rfl).trans (f164_54 (h := h) hT)))))))))))) ?_
  refine am_e_iconst (w := 4) n97_62 rfl ?_
  refine am_e_iload_n n97_63 rfl ?_
  refine am_e_imul (w := 0) n97_64 (by decide) ?_
  refine am_e_iload_n n97_65 rfl ?_
  refine am_e_iadd (w := 0) n97_66 (by decide) ?_
  refine am_e_iaload (v := 0) (q := 0) n97_67 rfl (by decide) (by decide) ((F58 192 0 rfl).trans ((F57 192 0 rfl).trans ((F56 192 0 rfl).trans ((F55 192 0 rfl).trans ((F54 192 0 rfl).trans ((F53 192 0 rfl).trans ((F52 192 0 rfl).trans ((F51 192 0 rfl).trans ((F50 192 0 rfl).trans ((F49 192 0 rfl).trans ((F48 192 0 rfl).trans (f192_0 (h := h) hT)))))))))))) ?_
  refine am_e_iastore (q := 4) n97_68 rfl (by decide) (by decide) ?_
  refine am_e_aload_n n97_69 rfl ?_
  refine am_e_getf (v := .ref 193) n97_70 rfl ((F58 164 55 rfl).trans ((F57 164 55 rfl).trans ((F56 164 55 rfl).trans ((F55 164 55 rfl).trans ((F54 164 55 rfl).trans ((F53 164 55 rfl).trans ((F52 164 55 rfl).trans ((F51 164 55 rfl).trans ((F50 164 55 rfl).trans ((F49 164 55 rfl).trans ((F48 164 55 rfl).trans (f164_55 (h := h) hT)))))))))))) ?_
  refine am_e_iconst (w := 4) n97_71 rfl ?_
  refine am_e_iload_n n97_72 rfl ?_
  refine am_e_imul (w := 4) n97_73 (by decide) ?_
  refine am_e_iload_n n97_74 rfl ?_
  refine am_e_iadd (w := 4) n97_75 (by decide) ?_
  refine am_e_aload_n n97_76 rfl ?_
  refine am_e_getf (v := .ref 193) n97_77 rfl ((F58 164 55 rfl).trans ((F57 164 55 rfl).trans ((F56 164 55 rfl).trans ((F55 164 55 rfl).trans ((F54 164 55 rfl).trans ((F53 164 55 rfl).trans ((F52 164 55 rfl).trans ((F51 164 55 rfl).trans ((F50 164 55 rfl).trans ((F49 164 55 rfl).trans ((F48 164 55 rfl).trans (f164_55 (h := h) hT)))))))))))) ?_
  refine am_e_iconst (w := 4) n97_78 rfl ?_
  refine am_e_iload_n n97_79 rfl ?_
  refine am_e_imul (w := 0) n97_80 (by decide) ?_
  refine am_e_iload_n n97_81 rfl ?_
  refine am_e_iadd (w := 0) n97_82 (by decide) ?_
  refine am_e_iaload (v := 0) (q := 0) n97_83 rfl (by decide) (by decide) ((F58 193 0 rfl).trans ((F57 193 0 rfl).trans ((F56 193 0 rfl).trans ((F55 193 0 rfl).trans ((F54 193 0 rfl).trans ((F53 193 0 rfl).trans ((F52 193 0 rfl).trans ((F51 193 0 rfl).trans ((F50 193 0 rfl).trans ((F49 193 0 rfl).trans ((F48 193 0 rfl).trans (f193_0 (h := h) hT)))))))))))) ?_
  refine am_e_iastore (q := 4) n97_84 rfl (by decide) (by decide) ?_
  refine am_e_iinc (w := 1) (ls' := [(3, .int 1), (0, .ref 164), (1, .int 1), (2, .int 0)]) n97_85 rfl rfl (by decide) rfl ?_
  refine am_e_goto c97_86 t97_86 ?_
  refine am_e_iload_n n97_34 rfl ?_
  refine am_e_iconst (w := 4) n97_35 rfl ?_
  refine am_e_cmpF n97_36 (am_c_geF (by decide)) ?_
  refine am_e_aload_n n97_37 rfl ?_
  refine am_e_getf (v := .ref 191) n97_38 rfl ((F58 164 53 rfl).trans ((F57 164 53 rfl).trans ((F56 164 53 rfl).trans ((F55 164 53 rfl).trans ((F54 164 53 rfl).trans ((F53 164 53 rfl).trans ((F52 164 53 rfl).trans ((F51 164 53 rfl).trans ((F50 164 53 rfl).trans ((F49 164 53 rfl).trans ((F48 164 53 rfl).trans (f164_53 (h := h) hT)))))))))))) ?_
  refine am_e_iconst (w := 4) n97_39 rfl ?_
  refine am_e_iload_n n97_40 rfl ?_
  refine am_e_imul (w := 4) n97_41 (by decide) ?_
  refine am_e_iload_n n97_42 rfl ?_
  refine am_e_iadd (w := 5) n97_43 (by decide) ?_
  refine am_e_aload_n n97_44 rfl ?_
  refine am_e_getf (v := .ref 191) n97_45 rfl ((F58 164 53 rfl).trans ((F57 164 53 rfl).trans ((F56 164 53 rfl).trans ((F55 164 53 rfl).trans ((F54 164 53 rfl).trans ((F53 164 53 rfl).trans ((F52 164 53 rfl).trans ((F51 164 53 rfl).trans ((F50 164 53 rfl).trans ((F49 164 53 rfl).trans ((F48 164 53 rfl).trans (f164_53 (h := h) hT)))))))))))) ?_
  refine am_e_iconst (w := 4) n97_46 rfl ?_
  refine am_e_iload_n n97_47 rfl ?_
  refine am_e_imul (w := 0) n97_48 (by decide) ?_
  refine am_e_iload_n n97_49 rfl ?_
  refine am_e_iadd (w := 1) n97_50 (by decide) ?_
  refine am_e_iaload (v := 0) (q := 1) n97_51 rfl (by decide) (by decide) ((F58 191 1 rfl).trans ((F57 191 1 rfl).trans ((F56 191 1 rfl).trans ((F55 191 1 rfl).trans ((F54 191 1 rfl).trans ((F53 191 1 rfl).trans ((F52 191 1 rfl).trans ((F51 191 1 rfl).trans ((F50 191 1 rfl).trans ((F49 191 1 rfl).trans ((F48 191 1 rfl).trans (f191_1 (h := h) hT)))))))))))) ?_
  refine am_e_iastore (q := 5) n97_52 rfl (by decide) (by decide) ?_
  refine am_e_aload_n n97_53 rfl ?_
  refine am_e_getf (v := .ref 192) n97_54 rfl ((F58 164 54 rfl).trans ((F57 164 54 rfl).trans ((F56 164 54 rfl).trans ((F55 164 54 rfl).trans ((F54 164 54 rfl).trans ((F53 164 54 rfl).trans ((F52 164 54 rfl).trans ((F51 164 54 rfl).trans ((F50 164 54 rfl).trans ((F49 164 54 rfl).trans ((F48 164 54 rfl).trans (f164_54 (h := h) hT)))))))))))) ?_
  refine am_e_iconst (w := 4) n97_55 rfl ?_
  refine am_e_iload_n n97_56 rfl ?_
  refine am_e_imul (w := 4) n97_57 (by decide) ?_
  refine am_e_iload_n n97_58 rfl ?_
  refine am_e_iadd (w := 5) n97_59 (by decide) ?_
  refine am_e_aload_n n97_60 rfl ?_
  refine am_e_getf (v := .ref 192) n97_61 rfl ((F58 164 54 rfl).trans ((F57 164 54 rfl).trans ((F56 164 54 rfl).trans ((F55 164 54 rfl).trans ((F54 164 54 rfl).trans ((F53 164 54 rfl).trans ((F52 164 54 rfl).trans ((F51 164 54 rfl).trans ((F50 164 54 rfl).trans ((F49 164 54 rfl).trans ((F48 164 54 rfl).trans (f164_54 (h := h) hT)))))))))))) ?_
  refine am_e_iconst (w := 4) n97_62 rfl ?_
  refine am_e_iload_n n97_63 rfl ?_
  refine am_e_imul (w := 0) n97_64 (by decide) ?_
  refine am_e_iload_n n97_65 rfl ?_
  refine am_e_iadd (w := 1) n97_66 (by decide) ?_
  refine am_e_iaload (v := 0) (q := 1) n97_67 rfl (by decide) (by decide) ((F58 192 1 rfl).trans ((F57 192 1 rfl).trans ((F56 192 1 rfl).trans ((F55 192 1 rfl).trans ((F54 192 1 rfl).trans ((F53 192 1 rfl).trans ((F52 192 1 rfl).trans ((F51 192 1 rfl).trans ((F50 192 1 rfl).trans ((F49 192 1 rfl).trans ((F48 192 1 rfl).trans (f192_1 (h := h) hT)))))))))))) ?_
  refine am_e_iastore (q := 5) n97_68 rfl (by decide) (by decide) ?_
  refine am_e_aload_n n97_69 rfl ?_
  refine am_e_getf (v := .ref 193) n97_70 rfl ((F58 164 55 rfl).trans ((F57 164 55 rfl).trans ((F56 164 55 rfl).trans ((F55 164 55 rfl).trans ((F54 164 55 rfl).trans ((F53 164 55 rfl).trans ((F52 164 55 rfl).trans ((F51 164 55 rfl).trans ((F50 164 55 rfl).trans ((F49 164 55 rfl).trans ((F48 164 55 rfl).trans (f164_55 (h := h) hT)))))))))))) ?_
  refine am_e_iconst (w := 4) n97_71 rfl ?_
  refine am_e_iload_n n97_72 rfl ?_
  refine am_e_imul (w := 4) n97_73 (by decide) ?_
  refine am_e_iload_n n97_74 rfl ?_
  refine am_e_iadd (w := 5) n97_75 (by decide) ?_
  refine am_e_aload_n n97_76 rfl ?_
  refine am_e_getf (v := .ref 193) n97_77 rfl ((F58 164 55 rfl).trans ((F57 164 55 rfl).trans ((F56 164 55 rfl).trans ((F55 164 55 rfl).trans ((F54 164 55 rfl).trans ((F53 164 55 rfl).trans ((F52 164 55 rfl).trans ((F51 164 55 rfl).trans ((F50 164 55 rfl).trans ((F49 164 55 rfl).trans ((F48 164 55 rfl).trans (f164_55 (h := h) hT)))))))))))) ?_
  refine am_e_iconst (w := 4) n97_78 rfl ?_
  refine am_e_iload_n n97_79 rfl ?_
  refine am_e_imul (w := 0) n97_80 (by decide) ?_
  refine am_e_iload_n n97_81 rfl ?_
  refine am_e_iadd (w := 1) n97_82 (by decide) ?_
  refine am_e_iaload (v := 0) (q := 1) n97_83 rfl (by decide) (by decide) ((F58 193 1 rfl).trans ((F57 193 1 rfl).trans ((F56 193 1 rfl).trans ((F55 193 1 rfl).trans ((F54 193 1 rfl).trans ((F53 193 1 rfl).trans ((F52 193 1 rfl).trans ((F51 193 1 rfl).trans ((F50 193 1 rfl).trans ((F49 193 1 rfl).trans ((F48 193 1 rfl).trans (f193_1 (h := h) hT)))))))))))) ?_
  refine am_e_iastore (q := 5) n97_84 rfl (by decide) (by decide) ?_
  refine am_e_iinc (w := 2) (ls' := [(3, .int 2), (0, .ref 164), (1, .int 1), (2, .int 0)]) n97_85 rfl rfl (by decide) rfl ?_
  refine am_e_goto c97_86 t97_86 ?_
  refine am_e_iload_n n97_34 rfl ?_
  refine am_e_iconst (w := 4) n97_35 rfl ?_
  refine am_e_cmpF n97_36 (am_c_geF (by decide)) ?_
  refine am_e_aload_n n97_37 rfl ?_
  refine am_e_getf (v := .ref 191) n97_38 rfl ((F58 164 53 rfl).trans ((F57 164 53 rfl).trans ((F56 164 53 rfl).trans ((F55 164 53 rfl).trans ((F54 164 53 rfl).trans ((F53 164 53 rfl).trans ((F52 164 53 rfl).trans ((F51 164 53 rfl).trans ((F50 164 53 rfl).trans ((F49 164 53 rfl).trans ((F48 164 53 rfl).trans (f164_53 (h := h) hT)))))))))))) ?_
  refine am_e_iconst (w := 4) n97_39 rfl ?_
  refine am_e_iload_n n97_40 rfl ?_
  refine am_e_imul (w := 4) n97_41 (by decide) ?_
  refine am_e_iload_n n97_42 rfl ?_
  refine am_e_iadd (w := 6) n97_43 (by decide) ?_
  refine am_e_aload_n n97_44 rfl ?_
  refine am_e_getf (v := .ref 191) n97_45 rfl ((F58 164 53 rfl).trans ((F57 164 53 rfl).trans ((F56 164 53 rfl).trans ((F55 164 53 rfl).trans ((F54 164 53 rfl).trans ((F53 164 53 rfl).trans ((F52 164 53 rfl).trans ((F51 164 53 rfl).trans ((F50 164 53 rfl).trans ((F49 164 53 rfl).trans ((F48 164 53 rfl).trans (f164_53 (h := h) hT)))))))))))) ?_
  refine am_e_iconst (w := 4) n97_46 rfl ?_
  refine am_e_iload_n n97_47 rfl ?_
  refine am_e_imul (w := 0) n97_48 (by decide) ?_
  refine am_e_iload_n n97_49 rfl ?_
  refine am_e_iadd (w := 2) n97_50 (by decide) ?_
  refine am_e_iaload (v := 0) (q := 2) n97_51 rfl (by decide) (by decide) ((F58 191 2 rfl).trans ((F57 191 2 rfl).trans ((F56 191 2 rfl).trans ((F55 191 2 rfl).trans ((F54 191 2 rfl).trans ((F53 191 2 rfl).trans ((F52 191 2 rfl).trans ((F51 191 2 rfl).trans ((F50 191 2 rfl).trans ((F49 191 2 rfl).trans ((F48 191 2 rfl).trans (f191_2 (h := h) hT)))))))))))) ?_
  refine am_e_iastore (q := 6) n97_52 rfl (by decide) (by decide) ?_
  refine am_e_aload_n n97_53 rfl ?_
  refine am_e_getf (v := .ref 192) n97_54 rfl ((F58 164 54 rfl).trans ((F57 164 54 rfl).trans ((F56 164 54 rfl).trans ((F55 164 54 rfl).trans ((F54 164 54 rfl).trans ((F53 164 54 rfl).trans ((F52 164 54 rfl).trans ((F51 164 54 rfl).trans ((F50 164 54 rfl).trans ((F49 164 54 rfl).trans ((F48 164 54 rfl).trans (f164_54 (h := h) hT)))))))))))) ?_
  refine am_e_iconst (w := 4) n97_55 rfl ?_
  refine am_e_iload_n n97_56 rfl ?_
  refine am_e_imul (w := 4) n97_57 (by decide) ?_
  refine am_e_iload_n n97_58 rfl ?_
  refine am_e_iadd (w := 6) n97_59 (by decide) ?_
  refine am_e_aload_n n97_60 rfl ?_
  refine am_e_getf (v := .ref 192) n97_61 rfl ((F58 164 54 rfl).trans ((F57 164 54 rfl).trans ((F56 164 54 rfl).trans ((F55 164 54 rfl).trans ((F54 164 54 rfl).trans ((F53 164 54 rfl).trans ((F52 164 54 rfl).trans ((F51 164 54 rfl).trans ((F50 164 54 rfl).trans ((F49 164 54 rfl).trans ((F48 164 54 rfl).trans (f164_54 (h := h) hT)))))))))))) ?_
  refine am_e_iconst (w := 4) n97_62 rfl ?_
  refine am_e_iload_n n97_63 rfl ?_
  refine am_e_imul (w := 0) n97_64 (by decide) ?_
  refine am_e_iload_n n97_65 rfl ?_
  refine am_e_iadd (w := 2) n97_66 (by decide) ?_
  refine am_e_iaload (v := 0) (q := 2) n97_67 rfl (by decide) (by decide) ((F58 192 2 rfl).trans ((F57 192 2 rfl).trans ((F56 192 2 rfl).trans ((F55 192 2 rfl).trans ((F54 192 2 rfl).trans ((F53 192 2 rfl).trans ((F52 192 2 rfl).trans ((F51 192 2 rfl).trans ((F50 192 2 rfl).trans ((F49 192 2 rfl).trans ((F48 192 2 rfl).trans (f192_2 (h := h) hT)))))))))))) ?_
  refine am_e_iastore (q := 6) n97_68 rfl (by decide) (by decide) ?_
  refine am_e_aload_n n97_69 rfl ?_
  refine am_e_getf (v := .ref 193) n97_70 rfl ((F58 164 55 rfl).trans ((F57 164 55 rfl).trans ((F56 164 55 rfl).trans ((F55 164 55 rfl).trans ((F54 164 55 rfl).trans ((F53 164 55 rfl).trans ((F52 164 55 rfl).trans ((F51 164 55 rfl).trans ((F50 164 55 rfl).trans ((F49 164 55 rfl).trans ((F48 164 55 rfl).trans (f164_55 (h := h) hT)))))))))))) ?_
  refine am_e_iconst (w := 4) n97_71 rfl ?_
  refine am_e_iload_n n97_72 rfl ?_
  refine am_e_imul (w := 4) n97_73 (by decide) ?_
  refine am_e_iload_n n97_74 rfl ?_
  refine am_e_iadd (w := 6) n97_75 (by decide) ?_
  refine am_e_aload_n n97_76 rfl ?_
  refine am_e_getf (v := .ref 193) n97_77 rfl ((F58 164 55 rfl).trans ((F57 164 55 rfl).trans ((F56 164 55 rfl).trans ((F55 164 55 rfl).trans ((F54 164 55 rfl).trans ((F53 164 55 rfl).trans ((F52 164 55 rfl).trans ((F51 164 55 rfl).trans ((F50 164 55 rfl).trans ((F49 164 55 rfl).trans ((F48 164 55 rfl).trans (f164_55 (h := h) hT)))))))))))) ?_
  refine am_e_iconst (w := 4) n97_78 rfl ?_
  refine am_e_iload_n n97_79 rfl ?_
  refine am_e_imul (w := 0) n97_80 (by decide) ?_
  refine am_e_iload_n n97_81 rfl ?_
  refine am_e_iadd (w := 2) n97_82 (by decide) ?_
  refine am_e_iaload (v := 0) (q := 2) n97_83 rfl (by decide) (by decide) ((F58 193 2 rfl).trans ((F57 193 2 rfl).trans ((F56 193 2 rfl).trans ((F55 193 2 rfl).trans ((F54 193 2 rfl).trans ((F53 193 2 rfl).trans ((F52 193 2 rfl).trans ((F51 193 2 rfl).trans ((F50 193 2 rfl).trans ((F49 193 2 rfl).trans ((F48 193 2 rfl).trans (f193_2 (h := h) hT)))))))))))) ?_
  refine am_e_iastore (q := 6) n97_84 rfl (by decide) (by decide) ?_
  refine am_e_iinc (w := 3) (ls' := [(3, .int 3), (0, .ref 164), (1, .int 1), (2, .int 0)]) n97_85 rfl rfl (by decide) rfl ?_
  refine am_e_goto c97_86 t97_86 ?_
  refine am_e_iload_n n97_34 rfl ?_
  refine am_e_iconst (w := 4) n97_35 rfl ?_
  refine am_e_cmpF n97_36 (am_c_geF (by decide)) ?_
  refine am_e_aload_n n97_37 rfl ?_
  refine am_e_getf (v := .ref 191) n97_38 rfl ((F58 164 53 rfl).trans ((F57 164 53 rfl).trans ((F56 164 53 rfl).trans ((F55 164 53 rfl).trans ((F54 164 53 rfl).trans ((F53 164 53 rfl).trans ((F52 164 53 rfl).trans ((F51 164 53 rfl).trans ((F50 164 53 rfl).trans ((F49 164 53 rfl).trans ((F48 164 53 rfl).trans (f164_53 (h := h) hT)))))))))))) ?_
  refine am_e_iconst (w := 4) n97_39 rfl ?_
  refine am_e_iload_n n97_40 rfl ?_
  refine am_e_imul (w := 4) n97_41 (by decide) ?_
  refine am_e_iload_n n97_42 rfl ?_
  refine am_e_iadd (w := 7) n97_43 (by decide) ?_
  refine am_e_aload_n n97_44 rfl ?_
  refine am_e_getf (v := .ref 191) n97_45 rfl ((F58 164 53 rfl).trans ((F57 164 53 rfl).trans ((F56 164 53 rfl).trans ((F55 164 53 rfl).trans ((F54 164 53 rfl).trans ((F53 164 53 rfl).trans ((F52 164 53 rfl).trans ((F51 164 53 rfl).trans ((F50 164 53 rfl).trans ((F49 164 53 rfl).trans ((F48 164 53 rfl).trans (f164_53 (h := h) hT)))))))))))) ?_
  refine am_e_iconst (w := 4) n97_46 rfl ?_
  refine am_e_iload_n n97_47 rfl ?_
  refine am_e_imul (w := 0) n97_48 (by decide) ?_
  refine am_e_iload_n n97_49 rfl ?_
  refine am_e_iadd (w := 3) n97_50 (by decide) ?_
  refine am_e_iaload (v := 0) (q := 3) n97_51 rfl (by decide) (by decide) ((F58 191 3 rfl).trans ((F57 191 3 rfl).trans ((F56 191 3 rfl).trans ((F55 191 3 rfl).trans ((F54 191 3 rfl).trans ((F53 191 3 rfl).trans ((F52 191 3 rfl).trans ((F51 191 3 rfl).trans ((F50 191 3 rfl).trans ((F49 191 3 rfl).trans ((F48 191 3 rfl).trans (f191_3 (h := h) hT)))))))))))) ?_
  refine am_e_iastore (q := 7) n97_52 rfl (by decide) (by decide) ?_
  refine am_e_aload_n n97_53 rfl ?_
  refine am_e_getf (v := .ref 192) n97_54 rfl ((F58 164 54 rfl).trans ((F57 164 54 rfl).trans ((F56 164 54 rfl).trans ((F55 164 54 rfl).trans ((F54 164 54 rfl).trans ((F53 164 54 rfl).trans ((F52 164 54 rfl).trans ((F51 164 54 rfl).trans ((F50 164 54 rfl).trans ((F49 164 54 rfl).trans ((F48 164 54 rfl).trans (f164_54 (h := h) hT)))))))))))) ?_
  refine am_e_iconst (w := 4) n97_55 rfl ?_
  refine am_e_iload_n n97_56 rfl ?_
  refine am_e_imul (w := 4) n97_57 (by decide) ?_
  refine am_e_iload_n n97_58 rfl ?_
  refine am_e_iadd (w := 7) n97_59 (by decide) ?_
  refine am_e_aload_n n97_60 rfl ?_
  refine am_e_getf (v := .ref 192) n97_61 rfl ((F58 164 54 rfl).trans ((F57 164 54 rfl).trans ((F56 164 54 rfl).trans ((F55 164 54 rfl).trans ((F54 164 54 rfl).trans ((F53 164 54 rfl).trans ((F52 164 54 rfl).trans ((F51 164 54 rfl).trans ((F50 164 54 rfl).trans ((F49 164 54 rfl).trans ((F48 164 54 rfl).trans (f164_54 (h := h) hT)))))))))))) ?_
  refine am_e_iconst (w := 4) n97_62 rfl ?_
  refine am_e_iload_n n97_63 rfl ?_
  refine am_e_imul (w := 0) n97_64 (by decide) ?_
  refine am_e_iload_n n97_65 rfl ?_
  refine am_e_iadd (w := 3) n97_66 (by decide) ?_
  refine am_e_iaload (v := 0) (q := 3) n97_67 rfl (by decide) (by decide) ((F58 192 3 rfl).trans ((F57 192 3 rfl).trans ((F56 192 3 rfl).trans ((F55 192 3 rfl).trans ((F54 192 3 rfl).trans ((F53 192 3 rfl).trans ((F52 192 3 rfl).trans ((F51 192 3 rfl).trans ((F50 192 3 rfl).trans ((F49 192 3 rfl).trans ((F48 192 3 rfl).trans (f192_3 (h := h) hT)))))))))))) ?_
  refine am_e_iastore (q := 7) n97_68 rfl (by decide) (by decide) ?_
  refine am_e_aload_n n97_69 rfl ?_
  refine am_e_getf (v := .ref 193) n97_70 rfl ((F58 164 55 rfl).trans ((F57 164 55 rfl).trans ((F56 164 55 rfl).trans ((F55 164 55 rfl).trans ((F54 164 55 rfl).trans ((F53 164 55 rfl).trans ((F52 164 55 rfl).trans ((F51 164 55 rfl).trans ((F50 164 55 rfl).trans ((F49 164 55 rfl).trans ((F48 164 55 rfl).trans (f164_55 (h := h) hT)))))))))))) ?_
  refine am_e_iconst (w := 4) n97_71 rfl ?_
  refine am_e_iload_n n97_72 rfl ?_
  refine am_e_imul (w := 4) n97_73 (by decide) ?_
  refine am_e_iload_n n97_74 rfl ?_
  refine am_e_iadd (w := 7) n97_75 (by decide) ?_
  refine am_e_aload_n n97_76 rfl ?_
  refine am_e_getf (v := .ref 193) n97_77 rfl ((F58 164 55 rfl).trans ((F57 164 55 rfl).trans ((F56 164 55 rfl).trans ((F55 164 55 rfl).trans ((F54 164 55 rfl).trans ((F53 164 55 rfl).trans ((F52 164 55 rfl).trans ((F51 164 55 rfl).trans ((F50 164 55 rfl).trans ((F49 164 55 rfl).trans ((F48 164 55 rfl).trans (f164_55 (h := h) hT)))))))))))) ?_
  refine am_e_iconst (w := 4) n97_78 rfl ?_
  refine am_e_iload_n n97_79 rfl ?_
  refine am_e_imul (w := 0) n97_80 (by decide) ?_
  refine am_e_iload_n n97_81 rfl ?_
  refine am_e_iadd (w := 3) n97_82 (by decide) ?_
  refine am_e_iaload (v := 0) (q := 3) n97_83 rfl (by decide) (by decide) ((F58 193 3 rfl).trans ((F57 193 3 rfl).trans ((F56 193 3 rfl).trans ((F55 193 3 rfl).trans ((F54 193 3 rfl).trans ((F53 193 3 rfl).trans ((F52 193 3 rfl).trans ((F51 193 3 rfl).trans ((F50 193 3 rfl).trans ((F49 193 3 rfl).trans ((F48 193 3 rfl).trans (f193_3 (h := h) hT)))))))))))) ?_
  refine am_e_iastore (q := 7) n97_84 rfl (by decide) (by decide) ?_
  refine am_e_iinc (w := 4) (ls' := [(3, .int 4), (0, .ref 164), (1, .int 1), (2, .int 0)]) n97_85 rfl rfl (by decide) rfl ?_
  refine am_e_goto c97_86 t97_86 ?_
  refine am_e_iload_n n97_34 rfl ?_
  refine am_e_iconst (w := 4) n97_35 rfl ?_
  refine am_e_cmpT n97_36 (am_c_geT (by decide)) t97_36 ?_
  refine am_e_vret c97_87 rfl rfl ?_
  refine am_e_iconst (w := 0) n127_35 rfl ?_
  refine am_e_istore (ls' := [(8, .int 0), (7, .int 1), (6, .int 0), (0, .ref 164), (2, .int (nI n)), (3, .int (nI b)), (4, .long 0)]) n127_36 rfl rfl ?_
  refine am_Ek_ls (ls' := [(0, .ref 164), (2, .int (nI n)), (3, .int (nI b)), (4, .long 0), (6, .int 0), (7, .int 1), (8, .int (nI 0))]) ⟨rfl, rfl, rfl, rfl, rfl, rfl, rfl, trivial⟩ ?_
  refine am_cm_e (n := n) (b := b) (s := 0) (t := 0) (i7 := 1) (dr := dr58) (by omega) (by omega) ⟨((F58 164 23 rfl).trans ((F57 164 23 rfl).trans ((F56 164 23 rfl).trans ((F55 164 23 rfl).trans ((F54 164 23 rfl).trans ((F53 164 23 rfl).trans ((F52 164 23 rfl).trans ((F51 164 23 rfl).trans ((F50 164 23 rfl).trans ((F49 164 23 rfl).trans ((F48 164 23 rfl).trans (f164_23 (h := h) hT)))))))))))), ((F58 168 4 rfl).trans ((F57 168 4 rfl).trans ((F56 168 4 rfl).trans ((F55 168 4 rfl).trans ((F54 168 4 rfl).trans ((F53 168 4 rfl).trans ((F52 168 4 rfl).trans ((F51 168 4 rfl).trans ((F50 168 4 rfl).trans ((F49 168 4 rfl).trans ((F48 168 4 rfl).trans (f168_4 (h := h) hT)))))))))))), ((F58 164 50 rfl).trans ((F57 164 50 rfl).trans ((F56 164 50 rfl).trans ((F55 164 50 rfl).trans ((F54 164 50 rfl).trans ((F53 164 50 rfl).trans ((F52 164 50 rfl).trans ((F51 164 50 rfl).trans ((F50 164 50 rfl).trans ((F49 164 50 rfl).trans ((F48 164 50 rfl).trans (f164_50 (h := h) hT)))))))))))), ((F58 164 61 rfl).trans ((F57 164 61 rfl).trans ((F56 164 61 rfl).trans ((F55 164 61 rfl).trans ((F54 164 61 rfl).trans ((F53 164 61 rfl).trans ((F52 164 61 rfl).trans ((F51 164 61 rfl).trans ((F50 164 61 rfl).trans ((F49 164 61 rfl).trans ((F48 164 61 rfl).trans (f164_61 (h := h) hT)))))))))))), ((F58 164 47 rfl).trans ((F57 164 47 rfl).trans ((F56 164 47 rfl).trans ((F55 164 47 rfl).trans ((F54 164 47 rfl).trans ((F53 164 47 rfl).trans ((F52 164 47 rfl).trans ((F51 164 47 rfl).trans ((F50 164 47 rfl).trans ((F49 164 47 rfl).trans ((F48 164 47 rfl).trans (f164_47 (h := h) hT)))))))))))), ((F58 168 0 rfl).trans ((F57 168 0 rfl).trans ((F56 168 0 rfl).trans ((F55 168 0 rfl).trans ((F54 168 0 rfl).trans ((F53 168 0 rfl).trans ((F52 168 0 rfl).trans ((F51 168 0 rfl).trans ((F50 168 0 rfl).trans ((F49 168 0 rfl).trans ((F48 168 0 rfl).trans (f168_0 (h := h) hT)))))))))))), ((F58 164 51 rfl).trans ((F57 164 51 rfl).trans ((F56 164 51 rfl).trans ((F55 164 51 rfl).trans ((F54 164 51 rfl).trans ((F53 164 51 rfl).trans ((F52 164 51 rfl).trans ((F51 164 51 rfl).trans ((F50 164 51 rfl).trans ((F49 164 51 rfl).trans ((F48 164 51 rfl).trans (f164_51 (h := h) hT)))))))))))), ((F58 164 33 rfl).trans ((F57 164 33 rfl).trans ((F56 164 33 rfl).trans ((F55 164 33 rfl).trans ((F54 164 33 rfl).trans ((F53 164 33 rfl).trans ((F52 164 33 rfl).trans ((F51 164 33 rfl).trans ((F50 164 33 rfl).trans ((F49 164 33 rfl).trans ((F48 164 33 rfl).trans (f164_33 (h := h) hT)))))))))))), ((F58 178 2 rfl).trans ((F57 178 2 rfl).trans ((F56 178 2 rfl).trans ((F55 178 2 rfl).trans ((F54 178 2 rfl).trans ((F53 178 2 rfl).trans ((F52 178 2 rfl).trans ((F51 178 2 rfl).trans ((F50 178 2 rfl).trans ((F49 178 2 rfl).trans ((F48 178 2 rfl).trans (f178_2 (h := h) hT)))))))))))), ((F58 178 0 rfl).trans ((F57 178 0 rfl).trans ((F56 178 0 rfl).trans ((F55 178 0 rfl).trans ((F54 178 0 rfl).trans ((F53 178 0 rfl).trans ((F52 178 0 rfl).trans ((F51 178 0 rfl).trans ((F50 178 0 rfl).trans ((F49 178 0 rfl).trans ((F48 178 0 rfl).trans (f178_0 (h := h) hT)))))))))))), ((F58 164 62 rfl).trans ((F57 164 62 rfl).trans ((F56 164 62 rfl).trans ((F55 164 62 rfl).trans ((F54 164 62 rfl).trans ((F53 164 62 rfl).trans ((F52 164 62 rfl).trans ((F51 164 62 rfl).trans ((F50 164 62 rfl).trans ((F49 164 62 rfl).trans ((F48 164 62 rfl).trans (f164_62 (h := h) hT)))))))))))), ((F58 164 58 rfl).trans ((F57 164 58 rfl).trans ((F56 164 58 rfl).trans ((F55 164 58 rfl).trans ((F54 164 58 rfl).trans ((F53 164 58 rfl).trans ((F52 164 58 rfl).trans ((F51 164 58 rfl).trans ((F50 164 58 rfl).trans ((F49 164 58 rfl).trans ((F48 164 58 rfl).trans (f164_58 (h := h) hT)))))))))))), ((F58 164 60 rfl).trans ((F57 164 60 rfl).trans ((F56 164 60 rfl).trans ((F55 164 60 rfl).trans ((F54 164 60 rfl).trans ((F53 164 60 rfl).trans ((F52 164 60 rfl).trans ((F51 164 60 rfl).trans ((F50 164 60 rfl).trans ((F49 164 60 rfl).trans ((F48 164 60 rfl).trans (f164_60 (h := h) hT)))))))))))), trivial⟩ rfl rfl qc58 ?_
  intro h59 dr59 F59 qa59 qb59 qc59
  refine am_e_iload n127_59 rfl ?_
  refine am_e_aload_n n127_60 rfl ?_
  refine am_e_getf (v := .ref 188) n127_61 rfl ((F59 164 50 rfl).trans ((F58 164 50 rfl).trans ((F57 164 50 rfl).trans ((F56 164 50 rfl).trans ((F55 164 50 rfl).trans ((F54 164 50 rfl).trans ((F53 164 50 rfl).trans ((F52 164 50 rfl).trans ((F51 164 50 rfl).trans ((F50 164 50 rfl).trans ((F49 164 50 rfl).trans ((F48 164 50 rfl).trans (f164_50 (h := h) hT))))))))))))) ?_
  refine am_e_iconst (w := 1) n127_62 rfl ?_
  refine am_e_iaload (v := 0) (q := 1) n127_63 rfl (by decide) (by decide) qa59 ?_
  refine am_e_iload_n n127_64 rfl ?_
  refine am_e_cmpT n127_65 (am_c_ltT (nI_lt (a := 0) hb0 (by omega))) t127_65 ?_
  refine am_e_iconst (w := 0) n127_68 rfl ?_
  refine am_e_iadd (w := 0) n127_69 (by decide) ?_
  refine am_e_istore (ls' := [(6, .int 0), (0, .ref 164), (2, .int (nI n)), (3, .int (nI b)), (4, .long 0), (7, .int 1), (8, .int (nI n))]) n127_70 rfl rfl ?_
  refine am_e_iinc (w := 2) (ls' := [(7, .int 2), (6, .int 0), (0, .ref 164), (2, .int (nI n)), (3, .int (nI b)), (4, .long 0), (8, .int (nI n))]) n127_71 rfl rfl (by decide) rfl ?_
  refine am_e_goto c127_72 t127_72 ?_
  refine am_e_iload n127_28 rfl ?_
  refine am_e_bipush (w := 10) n127_29 (by decide) ?_
  refine am_e_cmpF n127_30 (am_c_geF (by decide)) ?_
  refine am_e_aload_n n127_31 rfl ?_
  refine am_e_iconst (w := 1) n127_32 rfl ?_
  refine am_e_iconst (w := 0) n127_33 rfl ?_
  refine am_e_callV (L := [(0, .ref 164), (1, .int 1), (2, .int 0)]) n127_34 rfl rfl rfl rfl rfl rfl rfl rfl ?_
  refine am_e_aload_n n97_0 rfl ?_
  refine am_e_getf (v := .ref 188) n97_1 rfl ((F59 164 50 rfl).trans ((F58 164 50 rfl).trans ((F57 164 50 rfl).trans ((F56 164 50 rfl).trans ((F55 164 50 rfl).trans ((F54 164 50 rfl).trans ((F53 164 50 rfl).trans ((F52 164 50 rfl).trans ((F51 164 50 rfl).trans ((F50 164 50 rfl).trans ((F49 164 50 rfl).trans ((F48 164 50 rfl).trans (f164_50 (h := h) hT))))))))))))) ?_
  refine am_e_iload_n n97_2 rfl ?_
  refine am_e_aload_n n97_3 rfl ?_
  refine am_e_getf (v := .ref 188) n97_4 rfl ((F59 164 50 rfl).trans ((F58 164 50 rfl).trans ((F57 164 50 rfl).trans ((F56 164 50 rfl).trans ((F55 164 50 rfl).trans ((F54 164 50 rfl).trans ((F53 164 50 rfl).trans ((F52 164 50 rfl).trans ((F51 164 50 rfl).trans ((F50 164 50 rfl).trans ((F49 164 50 rfl).trans ((F48 164 50 rfl).trans (f164_50 (h := h) hT))))))))))))) ?_
  refine am_e_iload_n n97_5 rfl ?_
  refine am_e_iaload (v := 0) (q := 0) n97_6 rfl (by decide) (by decide) ((F59 188 0 rfl).trans ((F58 188 0 rfl).trans ((F57 188 0 rfl).trans ((F56 188 0 rfl).trans ((F55 188 0 rfl).trans ((F54 188 0 rfl).trans ((F53 188 0 rfl).trans ((F52 188 0 rfl).trans ((F51 188 0 rfl).trans ((F50 188 0 rfl).trans ((F49 188 0 rfl).trans ((F48 188 0 rfl).trans (f188_0 (h := h) hT))))))))))))) ?_
  refine am_e_iastore (q := 1) n97_7 rfl (by decide) (by decide) ?_
  refine am_e_aload_n n97_8 rfl ?_
  refine am_e_getf (v := .ref 189) n97_9 rfl ((F59 164 51 rfl).trans ((F58 164 51 rfl).trans ((F57 164 51 rfl).trans ((F56 164 51 rfl).trans ((F55 164 51 rfl).trans ((F54 164 51 rfl).trans ((F53 164 51 rfl).trans ((F52 164 51 rfl).trans ((F51 164 51 rfl).trans ((F50 164 51 rfl).trans ((F49 164 51 rfl).trans ((F48 164 51 rfl).trans (f164_51 (h := h) hT))))))))))))) ?_
  refine am_e_iload_n n97_10 rfl ?_
  refine am_e_aload_n n97_11 rfl ?_
  refine am_e_getf (v := .ref 189) n97_12 rfl ((F59 164 51 rfl).trans ((F58 164 51 rfl).trans ((F57 164 51 rfl).trans ((F56 164 51 rfl).trans ((F55 164 51 rfl).trans ((F54 164 51 rfl).trans ((F53 164 51 rfl).trans ((F52 164 51 rfl).trans ((F51 164 51 rfl).trans ((F50 164 51 rfl).trans ((F49 164 51 rfl).trans ((F48 164 51 rfl).trans (f164_51 (h := h) hT))))))))))))) ?_
  refine am_e_iload_n n97_13 rfl ?_
  refine am_e_iaload (v := 0) (q := 0) n97_14 rfl (by decide) (by decide) ((F59 189 0 rfl).trans ((F58 189 0 rfl).trans ((F57 189 0 rfl).trans ((F56 189 0 rfl).trans ((F55 189 0 rfl).trans ((F54 189 0 rfl).trans ((F53 189 0 rfl).trans ((F52 189 0 rfl).trans ((F51 189 0 rfl).trans ((F50 189 0 rfl).trans ((F49 189 0 rfl).trans ((F48 189 0 rfl).trans (f189_0 (h := h) hT))))))))))))) ?_
  refine am_e_iastore (q := 1) n97_15 rfl (by decide) (by decide) ?_
  refine am_e_aload_n n97_16 rfl ?_
  refine am_e_getf (v := .ref 190) n97_17 rfl ((F59 164 52 rfl).trans ((F58 164 52 rfl).trans ((F57 164 52 rfl).trans ((F56 164 52 rfl).trans ((F55 164 52 rfl).trans ((F54 164 52 rfl).trans ((F53 164 52 rfl).trans ((F52 164 52 rfl).trans ((F51 164 52 rfl).trans ((F50 164 52 rfl).trans ((F49 164 52 rfl).trans ((F48 164 52 rfl).trans (f164_52 (h := h) hT))))))))))))) ?_
  refine am_e_iload_n n97_18 rfl ?_
  refine am_e_aload_n n97_19 rfl ?_
  refine am_e_getf (v := .ref 190) n97_20 rfl ((F59 164 52 rfl).trans ((F58 164 52 rfl).trans ((F57 164 52 rfl).trans ((F56 164 52 rfl).trans ((F55 164 52 rfl).trans ((F54 164 52 rfl).trans ((F53 164 52 rfl).trans ((F52 164 52 rfl).trans ((F51 164 52 rfl).trans ((F50 164 52 rfl).trans ((F49 164 52 rfl).trans ((F48 164 52 rfl).trans (f164_52 (h := h) hT))))))))))))) ?_
  refine am_e_iload_n n97_21 rfl ?_
  refine am_e_iaload (v := (-1)) (q := 0) n97_22 rfl (by decide) (by decide) ((F59 190 0 rfl).trans ((F58 190 0 rfl).trans ((F57 190 0 rfl).trans ((F56 190 0 rfl).trans ((F55 190 0 rfl).trans ((F54 190 0 rfl).trans ((F53 190 0 rfl).trans ((F52 190 0 rfl).trans ((F51 190 0 rfl).trans ((F50 190 0 rfl).trans ((F49 190 0 rfl).trans ((F48 190 0 rfl).trans (f190_0 (h := h) hT))))))))))))) ?_
  refine am_e_iastore (q := 1) n97_23 rfl (by decide) (by decide) ?_
  refine am_e_aload_n n97_24 rfl ?_
  refine am_e_getf (v := .ref 194) n97_25 rfl ((F59 164 56 rfl).trans ((F58 164 56 rfl).trans ((F57 164 56 rfl).trans ((F56 164 56 rfl).trans ((F55 164 56 rfl).trans ((F54 164 56 rfl).trans ((F53 164 56 rfl).trans ((F52 164 56 rfl).trans ((F51 164 56 rfl).trans ((F50 164 56 rfl).trans ((F49 164 56 rfl).trans ((F48 164 56 rfl).trans (f164_56 (h := h) hT))))))))))))) ?_
  refine am_e_iload_n n97_26 rfl ?_
  refine am_e_aload_n n97_27 rfl ?_
  refine am_e_getf (v := .ref 194) n97_28 rfl ((F59 164 56 rfl).trans ((F58 164 56 rfl).trans ((F57 164 56 rfl).trans ((F56 164 56 rfl).trans ((F55 164 56 rfl).trans ((F54 164 56 rfl).trans ((F53 164 56 rfl).trans ((F52 164 56 rfl).trans ((F51 164 56 rfl).trans ((F50 164 56 rfl).trans ((F49 164 56 rfl).trans ((F48 164 56 rfl).trans (f164_56 (h := h) hT))))))))))))) ?_
  refine am_e_iload_n n97_29 rfl ?_
  refine am_e_iaload (v := 0) (q := 0) n97_30 rfl (by decide) (by decide) ((F59 194 0 rfl).trans ((F58 194 0 rfl).trans ((F57 194 0 rfl).trans ((F56 194 0 rfl).trans ((F55 194 0 rfl).trans ((F54 194 0 rfl).trans ((F53 194 0 rfl).trans ((F52 194 0 rfl).trans ((F51 194 0 rfl).trans ((F50 194 0 rfl).trans ((F49 194 0 rfl).trans ((F48 194 0 rfl).trans (f194_0 (h := h) hT))))))))))))) ?_
  refine am_e_iastore (q := 1) n97_31 rfl (by decide) (by decide) ?_
  refine am_e_iconst (w := 0) n97_32 rfl ?_
  refine am_e_istore_n (ls' := [(3, .int 0), (0, .ref 164), (1, .int 1), (2, .int 0)]) n97_33 rfl rfl ?_
  refine am_e_iload_n n97_34 rfl ?_
  refine am_e_iconst (w := 4) n97_35 rfl ?_
  refine am_e_cmpF n97_36 (am_c_geF (by decide)) ?_
  refine am_e_aload_n n97_37 rfl ?_
  refine am_e_getf (v := .ref 191) n97_38 rfl ((F59 164 53 rfl).trans ((F58 164 53 rfl).trans ((F57 164 53 rfl).trans ((F56 164 53 rfl).trans ((F55 164 53 rfl).trans ((F54 164 53 rfl).trans ((F53 164 53 rfl).trans ((F52 164 53 rfl).trans ((F51 164 53 rfl).trans ((F50 164 53 rfl).trans ((F49 164 53 rfl).trans ((F48 164 53 rfl).trans (f164_53 (h := h) hT))))))))))))) ?_
  refine am_e_iconst (w := 4) n97_39 rfl ?_
  refine am_e_iload_n n97_40 rfl ?_
  refine am_e_imul (w := 4) n97_41 (by decide) ?_
  refine am_e_iload_n n97_42 rfl ?_
  refine am_e_iadd (w := 4) n97_43 (by decide) ?_
  refine am_e_aload_n n97_44 rfl ?_
  refine am_e_getf (v := .ref 191) n97_45 rfl ((F59 164 53 rfl).trans ((F58 164 53 rfl).trans ((F57 164 53 rfl).trans ((F56 164 53 rfl).trans ((F55 164 53 rfl).trans ((F54 164 53 rfl).trans ((F53 164 53 rfl).trans ((F52 164 53 rfl).trans ((F51 164 53 rfl).trans ((F50 164 53 rfl).trans ((F49 164 53 rfl).trans ((F48 164 53 rfl).trans (f164_53 (h := h) hT))))))))))))) ?_
  refine am_e_iconst (w := 4) n97_46 rfl ?_
  refine am_e_iload_n n97_47 rfl ?_
  refine am_e_imul (w := 0) n97_48 (by decide) ?_
  refine am_e_iload_n n97_49 rfl ?_
  refine am_e_iadd (w := 0) n97_50 (by decide) ?_
  refine am_e_iaload (v := 0) (q := 0) n97_51 rfl (by decide) (by decide) ((F59 191 0 rfl).trans ((F58 191 0 rfl).trans ((F57 191 0 rfl).trans ((F56 191 0 rfl).trans ((F55 191 0 rfl).trans ((F54 191 0 rfl).trans ((F53 191 0 rfl).trans ((F52 191 0 rfl).trans ((F51 191 0 rfl).trans ((F50 191 0 rfl).trans ((F49 191 0 rfl).trans ((F48 191 0 rfl).trans (f191_0 (h := h) hT))))))))))))) ?_
  refine am_e_iastore (q := 4) n97_52 rfl (by decide) (by decide) ?_
  refine am_e_aload_n n97_53 rfl ?_
  refine am_e_getf (v := .ref 192) n97_54 rfl ((F59 164 54 rfl).trans ((F58 164 54 rfl).trans ((F57 164 54 rfl).trans ((F56 164 54 rfl).trans ((F55 164 54 rfl).trans ((F54 164 54 rfl).trans ((F53 164 54 rfl).trans ((F52 164 54 rfl).trans ((F51 164 54 rfl).trans ((F50 164 54 rfl).trans ((F49 164 54 rfl).trans ((F48 164 54 rfl).trans (f164_54 (h := h) hT))))))))))))) ?_
  refine am_e_iconst (w := 4) n97_55 rfl ?_
  refine am_e_iload_n n97_56 rfl ?_
  refine am_e_imul (w := 4) n97_57 (by decide) ?_
  refine am_e_iload_n n97_58 rfl ?_
  refine am_e_iadd (w := 4) n97_59 (by decide) ?_
  refine am_e_aload_n n97_60 rfl ?_
  refine am_e_getf (v := .ref 192) n97_61 rfl ((F59 164 54 rfl).trans ((F58 164 54 rfl).trans ((F57 164 54 rfl).trans ((F56 164 54 rfl).trans ((F55 164 54 rfl).trans ((F54 164 54 rfl).trans ((F53 164 54 rfl).trans ((F52 164 54 rfl).trans ((F51 164 54 rfl).trans ((F50 164 54 rfl).trans ((F49 164 54 rfl).trans ((F48 164 54 rfl).trans (f164_54 (h := h) hT))))))))))))) ?_
  refine am_e_iconst (w := 4) n97_62 rfl ?_
  refine am_e_iload_n n97_63 rfl ?_
  refine am_e_imul (w := 0) n97_64 (by decide) ?_
  refine am_e_iload_n n97_65 rfl ?_
  refine am_e_iadd (w := 0) n97_66 (by decide) ?_
  refine am_e_iaload (v := 0) (q := 0) n97_67 rfl (by decide) (by decide) ((F59 192 0 rfl).trans ((F58 192 0 rfl).trans ((F57 192 0 rfl).trans ((F56 192 0 rfl).trans ((F55 192 0 rfl).trans ((F54 192 0 rfl).trans ((F53 192 0 rfl).trans ((F52 192 0 rfl).trans ((F51 192 0 rfl).trans ((F50 192 0 rfl).trans ((F49 192 0 rfl).trans ((F48 192 0 rfl).trans (f192_0 (h := h) hT))))))))))))) ?_
  refine am_e_iastore (q := 4) n97_68 rfl (by decide) (by decide) ?_
  refine am_e_aload_n n97_69 rfl ?_
  refine am_e_getf (v := .ref 193) n97_70 rfl ((F59 164 55 rfl).trans ((F58 164 55 rfl).trans ((F57 164 55 rfl).trans ((F56 164 55 rfl).trans ((F55 164 55 rfl).trans ((F54 164 55 rfl).trans ((F53 164 55 rfl).trans ((F52 164 55 rfl).trans ((F51 164 55 rfl).trans ((F50 164 55 rfl).trans ((F49 164 55 rfl).trans ((F48 164 55 rfl).trans (f164_55 (h := h) hT))))))))))))) ?_
  refine am_e_iconst (w := 4) n97_71 rfl ?_
  refine am_e_iload_n n97_72 rfl ?_
  refine am_e_imul (w := 4) n97_73 (by decide) ?_
  refine am_e_iload_n n97_74 rfl ?_
  refine am_e_iadd (w := 4) n97_75 (by decide) ?_
  refine am_e_aload_n n97_76 rfl ?_
  refine am_e_getf (v := .ref 193) n97_77 rfl ((F59 164 55 rfl).trans ((F58 164 55 rfl).trans ((F57 164 55 rfl).trans ((F56 164 55 rfl).trans ((F55 164 55 rfl).trans ((F54 164 55 rfl).trans ((F53 164 55 rfl).trans ((F52 164 55 rfl).trans ((F51 164 55 rfl).trans ((F50 164 55 rfl).trans ((F49 164 55 rfl).trans ((F48 164 55 rfl).trans (f164_55 (h := h) hT))))))))))))) ?_
  refine am_e_iconst (w := 4) n97_78 rfl ?_
  refine am_e_iload_n n97_79 rfl ?_
  refine am_e_imul (w := 0) n97_80 (by decide) ?_
  refine am_e_iload_n n97_81 rfl ?_
  refine am_e_iadd (w := 0) n97_82 (by decide) ?_
  refine am_e_iaload (v := 0) (q := 0) n97_83 rfl (by decide) (by decide) ((F59 193 0 rfl).trans ((F58 193 0 rfl).trans ((F57 193 0 rfl).trans ((F56 193 0 rfl).trans ((F55 193 0 rfl).trans ((F54 193 0 rfl).trans ((F53 193 0 rfl).trans ((F52 193 0 rfl).trans ((F51 193 0 rfl).trans ((F50 193 0 rfl).trans ((F49 193 0 rfl).trans ((F48 193 0 rfl).trans (f193_0 (h := h) hT))))))))))))) ?_
  refine am_e_iastore (q := 4) n97_84 rfl (by decide) (by decide) ?_
  refine am_e_iinc (w := 1) (ls' := [(3, .int 1), (0, .ref 164), (1, .int 1), (2, .int 0)]) n97_85 rfl rfl (by decide) rfl ?_
  refine am_e_goto c97_86 t97_86 ?_
  refine am_e_iload_n n97_34 rfl ?_
  refine am_e_iconst (w := 4) n97_35 rfl ?_
  refine am_e_cmpF n97_36 (am_c_geF (by decide)) ?_
  refine am_e_aload_n n97_37 rfl ?_
  refine am_e_getf (v := .ref 191) n97_38 rfl ((F59 164 53 rfl).trans ((F58 164 53 rfl).trans ((F57 164 53 rfl).trans ((F56 164 53 rfl).trans ((F55 164 53 rfl).trans ((F54 164 53 rfl).trans ((F53 164 53 rfl).trans ((F52 164 53 rfl).trans ((F51 164 53 rfl).trans ((F50 164 53 rfl).trans ((F49 164 53 rfl).trans ((F48 164 53 rfl).trans (f164_53 (h := h) hT))))))))))))) ?_
  refine am_e_iconst (w := 4) n97_39 rfl ?_
  refine am_e_iload_n n97_40 rfl ?_
  refine am_e_imul (w := 4) n97_41 (by decide) ?_
  refine am_e_iload_n n97_42 rfl ?_
  refine am_e_iadd (w := 5) n97_43 (by decide) ?_
  refine am_e_aload_n n97_44 rfl ?_
  refine am_e_getf (v := .ref 191) n97_45 rfl ((F59 164 53 rfl).trans ((F58 164 53 rfl).trans ((F57 164 53 rfl).trans ((F56 164 53 rfl).trans ((F55 164 53 rfl).trans ((F54 164 53 rfl).trans ((F53 164 53 rfl).trans ((F52 164 53 rfl).trans ((F51 164 53 rfl).trans ((F50 164 53 rfl).trans ((F49 164 53 rfl).trans ((F48 164 53 rfl).trans (f164_53 (h := h) hT))))))))))))) ?_
  refine am_e_iconst (w := 4) n97_46 rfl ?_
  refine am_e_iload_n n97_47 rfl ?_
  refine am_e_imul (w := 0) n97_48 (by decide) ?_
  refine am_e_iload_n n97_49 rfl ?_
  refine am_e_iadd (w := 1) n97_50 (by decide) ?_
  refine am_e_iaload (v := 0) (q := 1) n97_51 rfl (by decide) (by decide) ((F59 191 1 rfl).trans ((F58 191 1 rfl).trans ((F57 191 1 rfl).trans ((F56 191 1 rfl).trans ((F55 191 1 rfl).trans ((F54 191 1 rfl).trans ((F53 191 1 rfl).trans ((F52 191 1 rfl).trans ((F51 191 1 rfl).trans ((F50 191 1 rfl).trans ((F49 191 1 rfl).trans ((F48 191 1 rfl).trans (f191_1 (h := h) hT))))))))))))) ?_
  refine am_e_iastore (q := 5) n97_52 rfl (by decide) (by decide) ?_
  refine am_e_aload_n n97_53 rfl ?_
  refine am_e_getf (v := .ref 192) n97_54 rfl ((F59 164 54 rfl).trans ((F58 164 54 rfl).trans ((F57 164 54 rfl).trans ((F56 164 54 rfl).trans ((F55 164 54 rfl).trans ((F54 164 54 rfl).trans ((F53 164 54 rfl).trans ((F52 164 54 rfl).trans ((F51 164 54 rfl).trans ((F50 164 54 rfl).trans ((F49 164 54 rfl).trans ((F48 164 54 rfl).trans (f164_54 (h := h) hT))))))))))))) ?_
  refine am_e_iconst (w := 4) n97_55 rfl ?_
  refine am_e_iload_n n97_56 rfl ?_
  refine am_e_imul (w := 4) n97_57 (by decide) ?_
  refine am_e_iload_n n97_58 rfl ?_
  refine am_e_iadd (w := 5) n97_59 (by decide) ?_
  refine am_e_aload_n n97_60 rfl ?_
  refine am_e_getf (v := .ref 192) n97_61 rfl ((F59 164 54 rfl).trans ((F58 164 54 rfl).trans ((F57 164 54 rfl).trans ((F56 164 54 rfl).trans ((F55 164 54 rfl).trans ((F54 164 54 rfl).trans ((F53 164 54 rfl).trans ((F52 164 54 rfl).trans ((F51 164 54 rfl).trans ((F50 164 54 rfl).trans ((F49 164 54 rfl).trans ((F48 164 54 rfl).trans (f164_54 (h := h) hT))))))))))))) ?_
  refine am_e_iconst (w := 4) n97_62 rfl ?_
  refine am_e_iload_n n97_63 rfl ?_
  refine am_e_imul (w := 0) n97_64 (by decide) ?_
  refine am_e_iload_n n97_65 rfl ?_
  refine am_e_iadd (w := 1) n97_66 (by decide) ?_
  refine am_e_iaload (v := 0) (q := 1) n97_67 rfl (by decide) (by decide) ((F59 192 1 rfl).trans ((F58 192 1 rfl).trans ((F57 192 1 rfl).trans ((F56 192 1 rfl).trans ((F55 192 1 rfl).trans ((F54 192 1 rfl).trans ((F53 192 1 rfl).trans ((F52 192 1 rfl).trans ((F51 192 1 rfl).trans ((F50 192 1 rfl).trans ((F49 192 1 rfl).trans ((F48 192 1 rfl).trans (f192_1 (h := h) hT))))))))))))) ?_
  refine am_e_iastore (q := 5) n97_68 rfl (by decide) (by decide) ?_
  refine am_e_aload_n n97_69 rfl ?_
  refine am_e_getf (v := .ref 193) n97_70 rfl ((F59 164 55 rfl).trans ((F58 164 55 rfl).trans ((F57 164 55 rfl).trans ((F56 164 55 rfl).trans ((F55 164 55 rfl).trans ((F54 164 55 rfl).trans ((F53 164 55 rfl).trans ((F52 164 55 rfl).trans ((F51 164 55 rfl).trans ((F50 164 55 rfl).trans ((F49 164 55 rfl).trans ((F48 164 55 rfl).trans (f164_55 (h := h) hT))))))))))))) ?_
  refine am_e_iconst (w := 4) n97_71 rfl ?_
  refine am_e_iload_n n97_72 rfl ?_
  refine am_e_imul (w := 4) n97_73 (by decide) ?_
  refine am_e_iload_n n97_74 rfl ?_
  refine am_e_iadd (w := 5) n97_75 (by decide) ?_
  refine am_e_aload_n n97_76 rfl ?_
  refine am_e_getf (v := .ref 193) n97_77 rfl ((F59 164 55 rfl).trans ((F58 164 55 rfl).trans ((F57 164 55 rfl).trans ((F56 164 55 rfl).trans ((F55 164 55 rfl).trans ((F54 164 55 rfl).trans ((F53 164 55 rfl).trans ((F52 164 55 rfl).trans ((F51 164 55 rfl).trans ((F50 164 55 rfl).trans ((F49 164 55 rfl).trans ((F48 164 55 rfl).trans (f164_55 (h := h) hT))))))))))))) ?_
  refine am_e_iconst (w := 4) n97_78 rfl ?_
  refine am_e_iload_n n97_79 rfl ?_
  refine am_e_imul (w := 0) n97_80 (by decide) ?_
  refine am_e_iload_n n97_81 rfl ?_
  refine am_e_iadd (w := 1) n97_82 (by decide) ?_
  refine am_e_iaload (v := 0) (q := 1) n97_83 rfl (by decide) (by decide) ((F59 193 1 rfl).trans ((F58 193 1 rfl).trans ((F57 193 1 rfl).trans ((F56 193 1 rfl).trans ((F55 193 1 rfl).trans ((F54 193 1 rfl).trans ((F53 193 1 rfl).trans ((F52 193 1 rfl).trans ((F51 193 1 rfl).trans ((F50 193 1 rfl).trans ((F49 193 1 rfl).trans ((F48 193 1 rfl).trans (f193_1 (h := h) hT))))))))))))) ?_
  refine am_e_iastore (q := 5) n97_84 rfl (by decide) (by decide) ?_
  refine am_e_iinc (w := 2) (ls' := [(3, .int 2), (0, .ref 164), (1, .int 1), (2, .int 0)]) n97_85 rfl rfl (by decide) rfl ?_
  refine am_e_goto c97_86 t97_86 ?_
  refine am_e_iload_n n97_34 rfl ?_
  refine am_e_iconst (w := 4) n97_35 rfl ?_
  refine am_e_cmpF n97_36 (am_c_geF (by decide)) ?_
  refine am_e_aload_n n97_37 rfl ?_
  refine am_e_getf (v := .ref 191) n97_38 rfl ((F59 164 53 rfl).trans ((F58 164 53 rfl).trans ((F57 164 53 rfl).trans ((F56 164 53 rfl).trans ((F55 164 53 rfl).trans ((F54 164 53 rfl).trans ((F53 164 53 rfl).trans ((F52 164 53 rfl).trans ((F51 164 53 rfl).trans ((F50 164 53 rfl).trans ((F49 164 53 rfl).trans ((F48 164 53 rfl).trans (f164_53 (h := h) hT))))))))))))) ?_
  refine am_e_iconst (w := 4) n97_39 rfl ?_
  refine am_e_iload_n n97_40 rfl ?_
  refine am_e_imul (w := 4) n97_41 (by decide) ?_
  refine am_e_iload_n n97_42 rfl ?_
  refine am_e_iadd (w := 6) n97_43 (by decide) ?_
  refine am_e_aload_n n97_44 rfl ?_
  refine am_e_getf (v := .ref 191) n97_45 rfl ((F59 164 53 rfl).trans ((F58 164 53 rfl).trans ((F57 164 53 rfl).trans ((F56 164 53 rfl).trans ((F55 164 53 rfl).trans ((F54 164 53 rfl).trans ((F53 164 53 rfl).trans ((F52 164 53 rfl).trans ((F51 164 53 rfl).trans ((F50 164 53 rfl).trans ((F49 164 53 rfl).trans ((F48 164 53 rfl).trans (f164_53 (h := h) hT))))))))))))) ?_
  refine am_e_iconst (w := 4) n97_46 rfl ?_
  refine am_e_iload_n n97_47 rfl ?_
  refine am_e_imul (w := 0) n97_48 (by decide) ?_
  refine am_e_iload_n n97_49 rfl ?_
  refine am_e_iadd (w := 2) n97_50 (by decide) ?_
  refine am_e_iaload (v := 0) (q := 2) n97_51 rfl (by decide) (by decide) ((F59 191 2 rfl).trans ((F58 191 2 rfl).trans ((F57 191 2 rfl).trans ((F56 191 2 rfl).trans ((F55 191 2 rfl).trans ((F54 191 2 rfl).trans ((F53 191 2 rfl).trans ((F52 191 2 rfl).trans ((F51 191 2 rfl).trans ((F50 191 2 rfl).trans ((F49 191 2 rfl).trans ((F48 191 2 rfl).trans (f191_2 (h := h) hT))))))))))))) ?_
  refine am_e_iastore (q := 6) n97_52 rfl (by decide) (by decide) ?_
  refine am_e_aload_n n97_53 rfl ?_
  refine am_e_getf (v := .ref 192) n97_54 rfl ((F59 164 54 rfl).trans ((F58 164 54 rfl).trans ((F57 164 54 rfl).trans ((F56 164 54 rfl).trans ((F55 164 54 rfl).trans ((F54 164 54 rfl).trans ((F53 164 54 rfl).trans ((F52 164 54 rfl).trans ((F51 164 54 rfl).trans ((F50 164 54 rfl).trans ((F49 164 54 rfl).trans ((F48 164 54 rfl).trans (f164_54 (h := h) hT))))))))))))) ?_
  refine am_e_iconst (w := 4) n97_55 rfl ?_
  refine am_e_iload_n n97_56 rfl ?_
  refine am_e_imul (w := 4) n97_57 (by decide) ?_
  refine am_e_iload_n n97_58 rfl ?_
  refine am_e_iadd (w := 6) n97_59 (by decide) ?_
  refine am_e_aload_n n97_60 rfl ?_
  refine am_e_getf (v := .ref 192) n97_61 rfl ((F59 164 54 rfl).trans ((F58 164 54 rfl).trans ((F57 164 54 rfl).trans ((F56 164 54 rfl).trans ((F55 164 54 rfl).trans ((F54 164 54 rfl).trans ((F53 164 54 rfl).trans ((F52 164 54 rfl).trans ((F51 164 54 rfl).trans ((F50 164 54 rfl).trans ((F49 164 54 rfl).trans ((F48 164 54 rfl).trans (f164_54 (h := h) hT))))))))))))) ?_
  refine am_e_iconst (w := 4) n97_62 rfl ?_
  refine am_e_iload_n n97_63 rfl ?_
  refine am_e_imul (w := 0) n97_64 (by decide) ?_
  refine am_e_iload_n n97_65 rfl ?_
  refine am_e_iadd (w := 2) n97_66 (by decide) ?_
  refine am_e_iaload (v := 0) (q := 2) n97_67 rfl (by decide) (by decide) ((F59 192 2 rfl).trans ((F58 192 2 rfl).trans ((F57 192 2 rfl).trans ((F56 192 2 rfl).trans ((F55 192 2 rfl).trans ((F54 192 2 rfl).trans ((F53 192 2 rfl).trans ((F52 192 2 rfl).trans ((F51 192 2 rfl).trans ((F50 192 2 rfl).trans ((F49 192 2 rfl).trans ((F48 192 2 rfl).trans (f192_2 (h := h) hT))))))))))))) ?_
  refine am_e_iastore (q := 6) n97_68 rfl (by decide) (by decide) ?_
  refine am_e_aload_n n97_69 rfl ?_
  refine am_e_getf (v := .ref 193) n97_70 rfl ((F59 164 55 rfl).trans ((F58 164 55 rfl).trans ((F57 164 55 rfl).trans ((F56 164 55 rfl).trans ((F55 164 55 rfl).trans ((F54 164 55 rfl).trans ((F53 164 55 rfl).trans ((F52 164 55 rfl).trans ((F51 164 55 rfl).trans ((F50 164 55 rfl).trans ((F49 164 55 rfl).trans ((F48 164 55 rfl).trans (f164_55 (h := h) hT))))))))))))) ?_
  refine am_e_iconst (w := 4) n97_71 rfl ?_
  refine am_e_iload_n n97_72 rfl ?_
  refine am_e_imul (w := 4) n97_73 (by decide) ?_
  refine am_e_iload_n n97_74 rfl ?_
  refine am_e_iadd (w := 6) n97_75 (by decide) ?_
  refine am_e_aload_n n97_76 rfl ?_
  refine am_e_getf (v := .ref 193) n97_77 rfl ((F59 164 55 rfl).trans ((F58 164 55 rfl).trans ((F57 164 55 rfl).trans ((F56 164 55 rfl).trans ((F55 164 55 rfl).trans ((F54 164 55 rfl).trans ((F53 164 55 rfl).trans ((F52 164 55 rfl).trans ((F51 164 55 rfl).trans ((F50 164 55 rfl).trans ((F49 164 55 rfl).trans ((F48 164 55 rfl).trans (f164_55 (h := h) hT))))))))))))) ?_
  refine am_e_iconst (w := 4) n97_78 rfl ?_
  refine am_e_iload_n n97_79 rfl ?_
  refine am_e_imul (w := 0) n97_80 (by decide) ?_
  refine am_e_iload_n n97_81 rfl ?_
  refine am_e_iadd (w := 2) n97_82 (by decide) ?_
  refine am_e_iaload (v := 0) (q := 2) n97_83 rfl (by decide) (by decide) ((F59 193 2 rfl).trans ((F58 193 2 rfl).trans ((F57 193 2 rfl).trans ((F56 193 2 rfl).trans ((F55 193 2 rfl).trans ((F54 193 2 rfl).trans ((F53 193 2 rfl).trans ((F52 193 2 rfl).trans ((F51 193 2 rfl).trans ((F50 193 2 rfl).trans ((F49 193 2 rfl).trans ((F48 193 2 rfl).trans (f193_2 (h := h) hT))))))))))))) ?_
  refine am_e_iastore (q := 6) n97_84 rfl (by decide) (by decide) ?_
  refine am_e_iinc (w := 3) (ls' := [(3, .int 3), (0, .ref 164), (1, .int 1), (2, .int 0)]) n97_85 rfl rfl (by decide) rfl ?_
  refine am_e_goto c97_86 t97_86 ?_
  refine am_e_iload_n n97_34 rfl ?_
  refine am_e_iconst (w := 4) n97_35 rfl ?_
  refine am_e_cmpF n97_36 (am_c_geF (by decide)) ?_
  refine am_e_aload_n n97_37 rfl ?_
  refine am_e_getf (v := .ref 191) n97_38 rfl ((F59 164 53 rfl).trans ((F58 164 53 rfl).trans ((F57 164 53 rfl).trans ((F56 164 53 rfl).trans ((F55 164 53 rfl).trans ((F54 164 53 rfl).trans ((F53 164 53 rfl).trans ((F52 164 53 rfl).trans ((F51 164 53 rfl).trans ((F50 164 53 rfl).trans ((F49 164 53 rfl).trans ((F48 164 53 rfl).trans (f164_53 (h := h) hT))))))))))))) ?_
  refine am_e_iconst (w := 4) n97_39 rfl ?_
  refine am_e_iload_n n97_40 rfl ?_
  refine am_e_imul (w := 4) n97_41 (by decide) ?_
  refine am_e_iload_n n97_42 rfl ?_
  refine am_e_iadd (w := 7) n97_43 (by decide) ?_
  refine am_e_aload_n n97_44 rfl ?_
  refine am_e_getf (v := .ref 191) n97_45 rfl ((F59 164 53 rfl).trans ((F58 164 53 rfl).trans ((F57 164 53 rfl).trans ((F56 164 53 rfl).trans ((F55 164 53 rfl).trans ((F54 164 53 rfl).trans ((F53 164 53 rfl).trans ((F52 164 53 rfl).trans ((F51 164 53 rfl).trans ((F50 164 53 rfl).trans ((F49 164 53 rfl).trans ((F48 164 53 rfl).trans (f164_53 (h := h) hT))))))))))))) ?_
  refine am_e_iconst (w := 4) n97_46 rfl ?_
  refine am_e_iload_n n97_47 rfl ?_
  refine am_e_imul (w := 0) n97_48 (by decide) ?_
  refine am_e_iload_n n97_49 rfl ?_
  refine am_e_iadd (w := 3) n97_50 (by decide) ?_
  refine am_e_iaload (v := 0) (q := 3) n97_51 rfl (by decide) (by decide) ((F59 191 3 rfl).trans ((F58 191 3 rfl).trans ((F57 191 3 rfl).trans ((F56 191 3 rfl).trans ((F55 191 3 rfl).trans ((F54 191 3 rfl).trans ((F53 191 3 rfl).trans ((F52 191 3 rfl).trans ((F51 191 3 rfl).trans ((F50 191 3 rfl).trans ((F49 191 3 rfl).trans ((F48 191 3 rfl).trans (f191_3 (h := h) hT))))))))))))) ?_
  refine am_e_iastore (q := 7) n97_52 rfl (by decide) (by decide) ?_
  refine am_e_aload_n n97_53 rfl ?_
  refine am_e_getf (v := .ref 192) n97_54 rfl ((F59 164 54 rfl).trans ((F58 164 54 rfl).trans ((F57 164 54 rfl).trans ((F56 164 54 rfl).trans ((F55 164 54 rfl).trans ((F54 164 54 rfl).trans ((F53 164 54 rfl).trans ((F52 164 54 rfl).trans ((F51 164 54 rfl).trans ((F50 164 54 rfl).trans ((F49 164 54 rfl).trans ((F48 164 54 rfl).trans (f164_54 (h := h) hT))))))))))))) ?_
  refine am_e_iconst (w := 4) n97_55 rfl ?_
  refine am_e_iload_n n97_56 rfl ?_
  refine am_e_imul (w := 4) n97_57 (by decide) ?_
  refine am_e_iload_n n97_58 rfl ?_
  refine am_e_iadd (w := 7) n97_59 (by decide) ?_
  refine am_e_aload_n n97_60 rfl ?_
  refine am_e_getf (v := .ref 192) n97_61 rfl ((F59 164 54 rfl).trans ((F58 164 54 rfl).trans ((F57 164 54 rfl).trans ((F56 164 54 rfl).trans ((F55 164 54 rfl).trans ((F54 164 54 rfl).trans ((F53 164 54 rfl).trans ((F52 164 54 rfl).trans ((F51 164 54 rfl).trans ((F50 164 54 rfl).trans ((F49 164 54 rfl).trans ((F48 164 54 rfl).trans (f164_54 (h := h) hT))))))))))))) ?_
  refine am_e_iconst (w := 4) n97_62 rfl ?_
  refine am_e_iload_n n97_63 rfl ?_
  refine am_e_imul (w := 0) n97_64 (by decide) ?_
  refine am_e_iload_n n97_65 rfl ?_
  refine am_e_iadd (w := 3) n97_66 (by decide) ?_
  refine am_e_iaload (v := 0) (q := 3) n97_67 rfl (by decide) (by decide) ((F59 192 3 rfl).trans ((F58 192 3 rfl).trans ((F57 192 3 rfl).trans ((F56 192 3 rfl).trans ((F55 192 3 rfl).trans ((F54 192 3 rfl).trans ((F53 192 3 rfl).trans ((F52 192 3 rfl).trans ((F51 192 3 rfl).trans ((F50 192 3 rfl).trans ((F49 192 3 rfl).trans ((F48 192 3 rfl).trans (f192_3 (h := h) hT))))))))))))) ?_
  refine am_e_iastore (q := 7) n97_68 rfl (by decide) (by decide) ?_
  refine am_e_aload_n n97_69 rfl ?_
  refine am_e_getf (v := .ref 193) n97_70 rfl ((F59 164 55 rfl).trans ((F58 164 55 rfl).trans ((F57 164 55 rfl).trans ((F56 164 55 rfl).trans ((F55 164 55 rfl).trans ((F54 164 55 rfl).trans ((F53 164 55 rfl).trans ((F52 164 55 rfl).trans ((F51 164 55 rfl).trans ((F50 164 55 rfl).trans ((F49 164 55 rfl).trans ((F48 164 55 rfl).trans (f164_55 (h := h) hT))))))))))))) ?_
  refine am_e_iconst (w := 4) n97_71 rfl ?_
  refine am_e_iload_n n97_72 rfl ?_
  refine am_e_imul (w := 4) n97_73 (by decide) ?_
  refine am_e_iload_n n97_74 rfl ?_
  refine am_e_iadd (w := 7) n97_75 (by decide) ?_
  refine am_e_aload_n n97_76 rfl ?_
  refine am_e_getf (v := .ref 193) n97_77 rfl ((F59 164 55 rfl).trans ((F58 164 55 rfl).trans ((F57 164 55 rfl).trans ((F56 164 55 rfl).trans ((F55 164 55 rfl).trans ((F54 164 55 rfl).trans ((F53 164 55 rfl).trans ((F52 164 55 rfl).trans ((F51 164 55 rfl).trans ((F50 164 55 rfl).trans ((F49 164 55 rfl).trans ((F48 164 55 rfl).trans (f164_55 (h := h) hT))))))))))))) ?_
  refine am_e_iconst (w := 4) n97_78 rfl ?_
  refine am_e_iload_n n97_79 rfl ?_
  refine am_e_imul (w := 0) n97_80 (by decide) ?_
  refine am_e_iload_n n97_81 rfl ?_
  refine am_e_iadd (w := 3) n97_82 (by decide) ?_
  refine am_e_iaload (v := 0) (q := 3) n97_83 rfl (by decide) (by decide) ((F59 193 3 rfl).trans ((F58 193 3 rfl).trans ((F57 193 3 rfl).trans ((F56 193 3 rfl).trans ((F55 193 3 rfl).trans ((F54 193 3 rfl).trans ((F53 193 3 rfl).trans ((F52 193 3 rfl).trans ((F51 193 3 rfl).trans ((F50 193 3 rfl).trans ((F49 193 3 rfl).trans ((F48 193 3 rfl).trans (f193_3 (h := h) hT))))))))))))) ?_
  refine am_e_iastore (q := 7) n97_84 rfl (by decide) (by decide) ?_
  refine am_e_iinc (w := 4) (ls' := [(3, .int 4), (0, .ref 164), (1, .int 1), (2, .int 0)]) n97_85 rfl rfl (by decide) rfl ?_
  refine am_e_goto c97_86 t97_86 ?_
  refine am_e_iload_n n97_34 rfl ?_
  refine am_e_iconst (w := 4) n97_35 rfl ?_
  refine am_e_cmpT n97_36 (am_c_geT (by decide)) t97_36 ?_
  refine am_e_vret c97_87 rfl rfl ?_
  refine am_e_iconst (w := 0) n127_35 rfl ?_
  refine am_e_istore (ls' := [(8, .int 0), (7, .int 2), (6, .int 0), (0, .ref 164), (2, .int (nI n)), (3, .int (nI b)), (4, .long 0)]) n127_36 rfl rfl ?_
  refine am_Ek_ls (ls' := [(0, .ref 164), (2, .int (nI n)), (3, .int (nI b)), (4, .long 0), (6, .int 0), (7, .int 2), (8, .int (nI 0))]) ⟨rfl, rfl, rfl, rfl, rfl, rfl, rfl, trivial⟩ ?_
  refine am_cm_e (n := n) (b := b) (s := 0) (t := 0) (i7 := 2) (dr := dr59) (by omega) (by omega) ⟨((F59 164 23 rfl).trans ((F58 164 23 rfl).trans ((F57 164 23 rfl).trans ((F56 164 23 rfl).trans ((F55 164 23 rfl).trans ((F54 164 23 rfl).trans ((F53 164 23 rfl).trans ((F52 164 23 rfl).trans ((F51 164 23 rfl).trans ((F50 164 23 rfl).trans ((F49 164 23 rfl).trans ((F48 164 23 rfl).trans (f164_23 (h := h) hT))))))))))))), ((F59 168 4 rfl).trans ((F58 168 4 rfl).trans ((F57 168 4 rfl).trans ((F56 168 4 rfl).trans ((F55 168 4 rfl).trans ((F54 168 4 rfl).trans ((F53 168 4 rfl).trans ((F52 168 4 rfl).trans ((F51 168 4 rfl).trans ((F50 168 4 rfl).trans ((F49 168 4 rfl).trans ((F48 168 4 rfl).trans (f168_4 (h := h) hT))))))))))))), ((F59 164 50 rfl).trans ((F58 164 50 rfl).trans ((F57 164 50 rfl).trans ((F56 164 50 rfl).trans ((F55 164 50 rfl).trans ((F54 164 50 rfl).trans ((F53 164 50 rfl).trans ((F52 164 50 rfl).trans ((F51 164 50 rfl).trans ((F50 164 50 rfl).trans ((F49 164 50 rfl).trans ((F48 164 50 rfl).trans (f164_50 (h := h) hT))))))))))))), ((F59 164 61 rfl).trans ((F58 164 61 rfl).trans ((F57 164 61 rfl).trans ((F56 164 61 rfl).trans ((F55 164 61 rfl).trans ((F54 164 61 rfl).trans ((F53 164 61 rfl).trans ((F52 164 61 rfl).trans ((F51 164 61 rfl).trans ((F50 164 61 rfl).trans ((F49 164 61 rfl).trans ((F48 164 61 rfl).trans (f164_61 (h := h) hT))))))))))))), ((F59 164 47 rfl).trans ((F58 164 47 rfl).trans ((F57 164 47 rfl).trans ((F56 164 47 rfl).trans ((F55 164 47 rfl).trans ((F54 164 47 rfl).trans ((F53 164 47 rfl).trans ((F52 164 47 rfl).trans ((F51 164 47 rfl).trans ((F50 164 47 rfl).trans ((F49 164 47 rfl).trans ((F48 164 47 rfl).trans (f164_47 (h := h) hT))))))))))))), ((F59 168 0 rfl).trans ((F58 168 0 rfl).trans ((F57 168 0 rfl).trans ((F56 168 0 rfl).trans ((F55 168 0 rfl).trans ((F54 168 0 rfl).trans ((F53 168 0 rfl).trans ((F52 168 0 rfl).trans ((F51 168 0 rfl).trans ((F50 168 0 rfl).trans ((F49 168 0 rfl).trans ((F48 168 0 rfl).trans (f168_0 (h := h) hT))))))))))))), ((F59 164 51 rfl).trans ((F58 164 51 rfl).trans ((F57 164 51 rfl).trans ((F56 164 51 rfl).trans ((F55 164 51 rfl).trans ((F54 164 51 rfl).trans ((F53 164 51 rfl).trans ((F52 164 51 rfl).trans ((F51 164 51 rfl).trans ((F50 164 51 rfl).trans ((F49 164 51 rfl).trans ((F48 164 51 rfl).trans (f164_51 (h := h) hT))))))))))))), ((F59 164 33 rfl).trans ((F58 164 33 rfl).trans ((F57 164 33 rfl).trans ((F56 164 33 rfl).trans ((F55 164 33 rfl).trans ((F54 164 33 rfl).trans ((F53 164 33 rfl).trans ((F52 164 33 rfl).trans ((F51 164 33 rfl).trans ((F50 164 33 rfl).trans ((F49 164 33 rfl).trans ((F48 164 33 rfl).trans (f164_33 (h := h) hT))))))))))))), ((F59 178 2 rfl).trans ((F58 178 2 rfl).trans ((F57 178 2 rfl).trans ((F56 178 2 rfl).trans ((F55 178 2 rfl).trans ((F54 178 2 rfl).trans ((F53 178 2 rfl).trans ((F52 178 2 rfl).trans ((F51 178 2 rfl).trans ((F50 178 2 rfl).trans ((F49 178 2 rfl).trans ((F48 178 2 rfl).trans (f178_2 (h := h) hT))))))))))))), ((F59 178 0 rfl).trans ((F58 178 0 rfl).trans ((F57 178 0 rfl).trans ((F56 178 0 rfl).trans ((F55 178 0 rfl).trans ((F54 178 0 rfl).trans ((F53 178 0 rfl).trans ((F52 178 0 rfl).trans ((F51 178 0 rfl).trans ((F50 178 0 rfl).trans ((F49 178 0 rfl).trans ((F48 178 0 rfl).trans (f178_0 (h := h) hT))))))))))))), ((F59 164 62 rfl).trans ((F58 164 62 rfl).trans ((F57 164 62 rfl).trans ((F56 164 62 rfl).trans ((F55 164 62 rfl).trans ((F54 164 62 rfl).trans ((F53 164 62 rfl).trans ((F52 164 62 rfl).trans ((F51 164 62 rfl).trans ((F50 164 62 rfl).trans ((F49 164 62 rfl).trans ((F48 164 62 rfl).trans (f164_62 (h := h) hT))))))))))))), ((F59 164 58 rfl).trans ((F58 164 58 rfl).trans ((F57 164 58 rfl).trans ((F56 164 58 rfl).trans ((F55 164 58 rfl).trans ((F54 164 58 rfl).trans ((F53 164 58 rfl).trans ((F52 164 58 rfl).trans ((F51 164 58 rfl).trans ((F50 164 58 rfl).trans ((F49 164 58 rfl).trans ((F48 164 58 rfl).trans (f164_58 (h := h) hT))))))))))))), ((F59 164 60 rfl).trans ((F58 164 60 rfl).trans ((F57 164 60 rfl).trans ((F56 164 60 rfl).trans ((F55 164 60 rfl).trans ((F54 164 60 rfl).trans ((F53 164 60 rfl).trans ((F52 164 60 rfl).trans ((F51 164 60 rfl).trans ((F50 164 60 rfl).trans ((F49 164 60 rfl).trans ((F48 164 60 rfl).trans (f164_60 (h := h) hT))))))))))))), trivial⟩ rfl rfl qc59 ?_
  intro h60 dr60 F60 qa60 qb60 qc60
  refine am_e_iload n127_59 rfl ?_
  refine am_e_aload_n n127_60 rfl ?_
  refine am_e_getf (v := .ref 188) n127_61 rfl ((F60 164 50 rfl).trans ((F59 164 50 rfl).trans ((F58 164 50 rfl).trans ((F57 164 50 rfl).trans ((F56 164 50 rfl).trans ((F55 164 50 rfl).trans ((F54 164 50 rfl).trans ((F53 164 50 rfl).trans ((F52 164 50 rfl).trans ((F51 164 50 rfl).trans ((F50 164 50 rfl).trans ((F49 164 50 rfl).trans ((F48 164 50 rfl).trans (f164_50 (h := h) hT)))))))))))))) ?_
  refine am_e_iconst (w := 1) n127_62 rfl ?_
  refine am_e_iaload (v := 0) (q := 1) n127_63 rfl (by decide) (by decide) qa60 ?_
  refine am_e_iload_n n127_64 rfl ?_
  refine am_e_cmpT n127_65 (am_c_ltT (nI_lt (a := 0) hb0 (by omega))) t127_65 ?_
  refine am_e_iconst (w := 0) n127_68 rfl ?_
  refine am_e_iadd (w := 0) n127_69 (by decide) ?_
  refine am_e_istore (ls' := [(6, .int 0), (0, .ref 164), (2, .int (nI n)), (3, .int (nI b)), (4, .long 0), (7, .int 2), (8, .int (nI n))]) n127_70 rfl rfl ?_
  refine am_e_iinc (w := 3) (ls' := [(7, .int 3), (6, .int 0), (0, .ref 164), (2, .int (nI n)), (3, .int (nI b)), (4, .long 0), (8, .int (nI n))]) n127_71 rfl rfl (by decide) rfl ?_
  refine am_e_goto c127_72 t127_72 ?_
  refine am_e_iload n127_28 rfl ?_
  refine am_e_bipush (w := 10) n127_29 (by decide) ?_
  refine am_e_cmpF n127_30 (am_c_geF (by decide)) ?_
  refine am_e_aload_n n127_31 rfl ?_
  refine am_e_iconst (w := 1) n127_32 rfl ?_
  refine am_e_iconst (w := 0) n127_33 rfl ?_
  refine am_e_callV (L := [(0, .ref 164), (1, .int 1), (2, .int 0)]) n127_34 rfl rfl rfl rfl rfl rfl rfl rfl ?_
  refine am_e_aload_n n97_0 rfl ?_
  refine am_e_getf (v := .ref 188) n97_1 rfl ((F60 164 50 rfl).trans ((F59 164 50 rfl).trans ((F58 164 50 rfl).trans ((F57 164 50 rfl).trans ((F56 164 50 rfl).trans ((F55 164 50 rfl).trans ((F54 164 50 rfl).trans ((F53 164 50 rfl).trans ((F52 164 50 rfl).trans ((F51 164 50 rfl).trans ((F50 164 50 rfl).trans ((F49 164 50 rfl).trans ((F48 164 50 rfl).trans (f164_50 (h := h) hT)))))))))))))) ?_
  refine am_e_iload_n n97_2 rfl ?_
  refine am_e_aload_n n97_3 rfl ?_
  refine am_e_getf (v := .ref 188) n97_4 rfl ((F60 164 50 rfl).trans ((F59 164 50 rfl).trans ((F58 164 50 rfl).trans ((F57 164 50 rfl).trans ((F56 164 50 rfl).trans ((F55 164 50 rfl).trans ((F54 164 50 rfl).trans ((F53 164 50 rfl).trans ((F52 164 50 rfl).trans ((F51 164 50 rfl).trans ((F50 164 50 rfl).trans ((F49 164 50 rfl).trans ((F48 164 50 rfl).trans (f164_50 (h := h) hT)))))))))))))) ?_
  refine am_e_iload_n n97_5 rfl ?_
  refine am_e_iaload (v := 0) (q := 0) n97_6 rfl (by decide) (by decide) ((F60 188 0 rfl).trans ((F59 188 0 rfl).trans ((F58 188 0 rfl).trans ((F57 188 0 rfl).trans ((F56 188 0 rfl).trans ((F55 188 0 rfl).trans ((F54 188 0 rfl).trans ((F53 188 0 rfl).trans ((F52 188 0 rfl).trans ((F51 188 0 rfl).trans ((F50 188 0 rfl).trans ((F49 188 0 rfl).trans ((F48 188 0 rfl).trans (f188_0 (h := h) hT)))))))))))))) ?_
  refine am_e_iastore (q := 1) n97_7 rfl (by decide) (by decide) ?_
  refine am_e_aload_n n97_8 rfl ?_
  refine am_e_getf (v := .ref 189) n97_9 rfl ((F60 164 51 rfl).trans ((F59 164 51 rfl).trans ((F58 164 51 rfl).trans ((F57 164 51 rfl).trans ((F56 164 51 rfl).trans ((F55 164 51 rfl).trans ((F54 164 51 rfl).trans ((F53 164 51 rfl).trans ((F52 164 51 rfl).trans ((F51 164 51 rfl).trans ((F50 164 51 rfl).trans ((F49 164 51 rfl).trans ((F48 164 51 rfl).trans (f164_51 (h := h) hT)))))))))))))) ?_
  refine am_e_iload_n n97_10 rfl ?_
  refine am_e_aload_n n97_11 rfl ?_
  refine am_e_getf (v := .ref 189) n97_12 rfl ((F60 164 51 rfl).trans ((F59 164 51 rfl).trans ((F58 164 51 rfl).trans ((F57 164 51 rfl).trans ((F56 164 51 rfl).trans ((F55 164 51 rfl).trans ((F54 164 51 rfl).trans ((F53 164 51 rfl).trans ((F52 164 51 rfl).trans ((F51 164 51 rfl).trans ((F50 164 51 rfl).trans ((F49 164 51 rfl).trans ((F48 164 51 rfl).trans (f164_51 (h := h) hT)))))))))))))) ?_
  refine am_e_iload_n n97_13 rfl ?_
  refine am_e_iaload (v := 0) (q := 0) n97_14 rfl (by decide) (by decide) ((F60 189 0 rfl).trans ((F59 189 0 rfl).trans ((F58 189 0 rfl).trans ((F57 189 0 rfl).trans ((F56 189 0 rfl).trans ((F55 189 0 rfl).trans ((F54 189 0 rfl).trans ((F53 189 0 rfl).trans ((F52 189 0 rfl).trans ((F51 189 0 rfl).trans ((F50 189 0 rfl).trans ((F49 189 0 rfl).trans ((F48 189 0 rfl).trans (f189_0 (h := h) hT)))))))))))))) ?_
  refine am_e_iastore (q := 1) n97_15 rfl (by decide) (by decide) ?_
  refine am_e_aload_n n97_16 rfl ?_
  refine am_e_getf (v := .ref 190) n97_17 rfl ((F60 164 52 rfl).trans ((F59 164 52 rfl).trans ((F58 164 52 rfl).trans ((F57 164 52 rfl).trans ((F56 164 52 rfl).trans ((F55 164 52 rfl).trans ((F54 164 52 rfl).trans ((F53 164 52 rfl).trans ((F52 164 52 rfl).trans ((F51 164 52 rfl).trans ((F50 164 52 rfl).trans ((F49 164 52 rfl).trans ((F48 164 52 rfl).trans (f164_52 (h := h) hT)))))))))))))) ?_
  refine am_e_iload_n n97_18 rfl ?_
  refine am_e_aload_n n97_19 rfl ?_
  refine am_e_getf (v := .ref 190) n97_20 rfl ((F60 164 52 rfl).trans ((F59 164 52 rfl).trans ((F58 164 52 rfl).trans ((F57 164 52 rfl).trans ((F56 164 52 rfl).trans ((F55 164 52 rfl).trans ((F54 164 52 rfl).trans ((F53 164 52 rfl).trans ((F52 164 52 rfl).trans ((F51 164 52 rfl).trans ((F50 164 52 rfl).trans ((F49 164 52 rfl).trans ((F48 164 52 rfl).trans (f164_52 (h := h) hT)))))))))))))) ?_
  refine am_e_iload_n n97_21 rfl ?_
  refine am_e_iaload (v := (-1)) (q := 0) n97_22 rfl (by decide) (by decide) ((F60 190 0 rfl).trans ((F59 190 0 rfl).trans ((F58 190 0 rfl).trans ((F57 190 0 rfl).trans ((F56 190 0 rfl).trans ((F55 190 0 rfl).trans ((F54 190 0 rfl).trans ((F53 190 0 rfl).trans ((F52 190 0 rfl).trans ((F51 190 0 rfl).trans ((F50 190 0 rfl).trans ((F49 190 0 rfl).trans ((F48 190 0 rfl).trans (f190_0 (h := h) hT)))))))))))))) ?_
  refine am_e_iastore (q := 1) n97_23 rfl (by decide) (by decide) ?_
  refine am_e_aload_n n97_24 rfl ?_
  refine am_e_getf (v := .ref 194) n97_25 rfl ((F60 164 56 rfl).trans ((F59 164 56 rfl).trans ((F58 164 56 rfl).trans ((F57 164 56 rfl).trans ((F56 164 56 rfl).trans ((F55 164 56 rfl).trans ((F54 164 56 rfl).trans ((F53 164 56 rfl).trans ((F52 164 56 rfl).trans ((F51 164 56 rfl).trans ((F50 164 56 rfl).trans ((F49 164 56 rfl).trans ((F48 164 56 rfl).trans (f164_56 (h := h) hT)))))))))))))) ?_
  refine am_e_iload_n n97_26 rfl ?_
  refine am_e_aload_n n97_27 rfl ?_
  refine am_e_getf (v := .ref 194) n97_28 rfl ((F60 164 56 rfl).trans ((F59 164 56 rfl).trans ((F58 164 56 rfl).trans ((F57 164 56 rfl).trans ((F56 164 56 rfl).trans ((F55 164 56 rfl).trans ((F54 164 56 rfl).trans ((F53 164 56 rfl).trans ((F52 164 56 rfl).trans ((F51 164 56 rfl).trans ((F50 164 56 rfl).trans ((F49 164 56 rfl).trans ((F48 164 56 rfl).trans (f164_56 (h := h) hT)))))))))))))) ?_
  refine am_e_iload_n n97_29 rfl ?_
  refine am_e_iaload (v := 0) (q := 0) n97_30 rfl (by decide) (by decide) ((F60 194 0 rfl).trans ((F59 194 0 rfl).trans ((F58 194 0 rfl).trans ((F57 194 0 rfl).trans ((F56 194 0 rfl).trans ((F55 194 0 rfl).trans ((F54 194 0 rfl).trans ((F53 194 0 rfl).trans ((F52 194 0 rfl).trans ((F51 194 0 rfl).trans ((F50 194 0 rfl).trans ((F49 194 0 rfl).trans ((F48 194 0 rfl).trans (f194_0 (h := h) hT)))))))))))))) ?_
  refine am_e_iastore (q := 1) n97_31 rfl (by decide) (by decide) ?_
  refine am_e_iconst (w := 0) n97_32 rfl ?_
  refine am_e_istore_n (ls' := [(3, .int 0), (0, .ref 164), (1, .int 1), (2, .int 0)]) n97_33 rfl rfl ?_
  refine am_e_iload_n n97_34 rfl ?_
  refine am_e_iconst (w := 4) n97_35 rfl ?_
  refine am_e_cmpF n97_36 (am_c_geF (by decide)) ?_
  refine am_e_aload_n n97_37 rfl ?_
  refine am_e_getf (v := .ref 191) n97_38 rfl ((F60 164 53 rfl).trans ((F59 164 53 rfl).trans ((F58 164 53 rfl).trans ((F57 164 53 rfl).trans ((F56 164 53 rfl).trans ((F55 164 53 rfl).trans ((F54 164 53 rfl).trans ((F53 164 53 rfl).trans ((F52 164 53 rfl).trans ((F51 164 53 rfl).trans ((F50 164 53 rfl).trans ((F49 164 53 rfl).trans ((F48 164 53 rfl).trans (f164_53 (h := h) hT)))))))))))))) ?_
  refine am_e_iconst (w := 4) n97_39 rfl ?_
  refine am_e_iload_n n97_40 rfl ?_
  refine am_e_imul (w := 4) n97_41 (by decide) ?_
  refine am_e_iload_n n97_42 rfl ?_
  refine am_e_iadd (w := 4) n97_43 (by decide) ?_
  refine am_e_aload_n n97_44 rfl ?_
  refine am_e_getf (v := .ref 191) n97_45 rfl ((F60 164 53 rfl).trans ((F59 164 53 rfl).trans ((F58 164 53 rfl).trans ((F57 164 53 rfl).trans ((F56 164 53 rfl).trans ((F55 164 53 rfl).trans ((F54 164 53 rfl).trans ((F53 164 53 rfl).trans ((F52 164 53 rfl).trans ((F51 164 53 rfl).trans ((F50 164 53 rfl).trans ((F49 164 53 rfl).trans ((F48 164 53 rfl).trans (f164_53 (h := h) hT)))))))))))))) ?_
  refine am_e_iconst (w := 4) n97_46 rfl ?_
  refine am_e_iload_n n97_47 rfl ?_
  refine am_e_imul (w := 0) n97_48 (by decide) ?_
  refine am_e_iload_n n97_49 rfl ?_
  refine am_e_iadd (w := 0) n97_50 (by decide) ?_
  refine am_e_iaload (v := 0) (q := 0) n97_51 rfl (by decide) (by decide) ((F60 191 0 rfl).trans ((F59 191 0 rfl).trans ((F58 191 0 rfl).trans ((F57 191 0 rfl).trans ((F56 191 0 rfl).trans ((F55 191 0 rfl).trans ((F54 191 0 rfl).trans ((F53 191 0 rfl).trans ((F52 191 0 rfl).trans ((F51 191 0 rfl).trans ((F50 191 0 rfl).trans ((F49 191 0 rfl).trans ((F48 191 0 rfl).trans (f191_0 (h := h) hT)))))))))))))) ?_
  refine am_e_iastore (q := 4) n97_52 rfl (by decide) (by decide) ?_
  refine am_e_aload_n n97_53 rfl ?_
  refine am_e_getf (v := .ref 192) n97_54 rfl ((F60 164 54 rfl).trans ((F59 164 54 rfl).trans ((F58 164 54 rfl).trans ((F57 164 54 rfl).trans ((F56 164 54 rfl).trans ((F55 164 54 rfl).trans ((F54 164 54 rfl).trans ((F53 164 54 rfl).trans ((F52 164 54 rfl).trans ((F51 164 54 rfl).trans ((F50 164 54 rfl).trans ((F49 164 54 rfl).trans ((F48 164 54 rfl).trans (f164_54 (h := h) hT)))))))))))))) ?_
  refine am_e_iconst (w := 4) n97_55 rfl ?_
  refine am_e_iload_n n97_56 rfl ?_
  refine am_e_imul (w := 4) n97_57 (by decide) ?_
  refine am_e_iload_n n97_58 rfl ?_
  refine am_e_iadd (w := 4) n97_59 (by decide) ?_
  refine am_e_aload_n n97_60 rfl ?_
  refine am_e_getf (v := .ref 192) n97_61 rfl ((F60 164 54 rfl).trans ((F59 164 54 rfl).trans ((F58 164 54 rfl).trans ((F57 164 54 rfl).trans ((F56 164 54 rfl).trans ((F55 164 54 rfl).trans ((F54 164 54 rfl).trans ((F53 164 54 rfl).trans ((F52 164 54 rfl).trans ((F51 164 54 rfl).trans ((F50 164 54 rfl).trans ((F49 164 54 rfl).trans ((F48 164 54 rfl).trans (f164_54 (h := h) hT)))))))))))))) ?_
  refine am_e_iconst (w := 4) n97_62 rfl ?_
  refine am_e_iload_n n97_63 rfl ?_
  refine am_e_imul (w := 0) n97_64 (by decide) ?_
  refine am_e_iload_n n97_65 rfl ?_
  refine am_e_iadd (w := 0) n97_66 (by decide) ?_
  refine am_e_iaload (v := 0) (q := 0) n97_67 rfl (by decide) (by decide) ((F60 192 0 rfl).trans ((F59 192 0 rfl).trans ((F58 192 0 rfl).trans ((F57 192 0 rfl).trans ((F56 192 0 rfl).trans ((F55 192 0 rfl).trans ((F54 192 0 rfl).trans ((F53 192 0 rfl).trans ((F52 192 0 rfl).trans ((F51 192 0 rfl).trans ((F50 192 0 rfl).trans ((F49 192 0 rfl).trans ((F48 192 0 rfl).trans (f192_0 (h := h) hT)))))))))))))) ?_
  refine am_e_iastore (q := 4) n97_68 rfl (by decide) (by decide) ?_
  refine am_e_aload_n n97_69 rfl ?_
  refine am_e_getf (v := .ref 193) n97_70 rfl ((F60 164 55 rfl).trans ((F59 164 55 rfl).trans ((F58 164 55 rfl).trans ((F57 164 55 rfl).trans ((F56 164 55 rfl).trans ((F55 164 55 rfl).trans ((F54 164 55 rfl).trans ((F53 164 55 rfl).trans ((F52 164 55 rfl).trans ((F51 164 55 rfl).trans ((F50 164 55 rfl).trans ((F49 164 55 rfl).trans ((F48 164 55 rfl).trans (f164_55 (h := h) hT)))))))))))))) ?_
  refine am_e_iconst (w := 4) n97_71 rfl ?_
  refine am_e_iload_n n97_72 rfl ?_
  refine am_e_imul (w := 4) n97_73 (by decide) ?_
  refine am_e_iload_n n97_74 rfl ?_
  refine am_e_iadd (w := 4) n97_75 (by decide) ?_
  refine am_e_aload_n n97_76 rfl ?_
  refine am_e_getf (v := .ref 193) n97_77 rfl ((F60 164 55 rfl).trans ((F59 164 55 rfl).trans ((F58 164 55 rfl).trans ((F57 164 55 rfl).trans ((F56 164 55 rfl).trans ((F55 164 55 rfl).trans ((F54 164 55 rfl).trans ((F53 164 55 rfl).trans ((F52 164 55 rfl).trans ((F51 164 55 rfl).trans ((F50 164 55 rfl).trans ((F49 164 55 rfl).trans ((F48 164 55 rfl).trans (f164_55 (h := h) hT)))))))))))))) ?_
  refine am_e_iconst (w := 4) n97_78 rfl ?_
  refine am_e_iload_n n97_79 rfl ?_
  refine am_e_imul (w := 0) n97_80 (by decide) ?_
  refine am_e_iload_n n97_81 rfl ?_
  refine am_e_iadd (w := 0) n97_82 (by decide) ?_
  refine am_e_iaload (v := 0) (q := 0) n97_83 rfl (by decide) (by decide) ((F60 193 0 rfl).trans ((F59 193 0 rfl).trans ((F58 193 0 rfl).trans ((F57 193 0 rfl).trans ((F56 193 0 rfl).trans ((F55 193 0 rfl).trans ((F54 193 0 rfl).trans ((F53 193 0 rfl).trans ((F52 193 0 rfl).trans ((F51 193 0 rfl).trans ((F50 193 0 rfl).trans ((F49 193 0 rfl).trans ((F48 193 0 rfl).trans (f193_0 (h := h) hT)))))))))))))) ?_
  refine am_e_iastore (q := 4) n97_84 rfl (by decide) (by decide) ?_
  refine am_e_iinc (w := 1) (ls' := [(3, .int 1), (0, .ref 164), (1, .int 1), (2, .int 0)]) n97_85 rfl rfl (by decide) rfl ?_
  refine am_e_goto c97_86 t97_86 ?_
  refine am_e_iload_n n97_34 rfl ?_
  refine am_e_iconst (w := 4) n97_35 rfl ?_
  refine am_e_cmpF n97_36 (am_c_geF (by decide)) ?_
  refine am_e_aload_n n97_37 rfl ?_
  refine am_e_getf (v := .ref 191) n97_38 rfl ((F60 164 53 rfl).trans ((F59 164 53 rfl).trans ((F58 164 53 rfl).trans ((F57 164 53 rfl).trans ((F56 164 53 rfl).trans ((F55 164 53 rfl).trans ((F54 164 53 rfl).trans ((F53 164 53 rfl).trans ((F52 164 53 rfl).trans ((F51 164 53 rfl).trans ((F50 164 53 rfl).trans ((F49 164 53 rfl).trans ((F48 164 53 rfl).trans (f164_53 (h := h) hT)))))))))))))) ?_
  refine am_e_iconst (w := 4) n97_39 rfl ?_
  refine am_e_iload_n n97_40 rfl ?_
  refine am_e_imul (w := 4) n97_41 (by decide) ?_
  refine am_e_iload_n n97_42 rfl ?_
  refine am_e_iadd (w := 5) n97_43 (by decide) ?_
  refine am_e_aload_n n97_44 rfl ?_
  refine am_e_getf (v := .ref 191) n97_45 rfl ((F60 164 53 rfl).trans ((F59 164 53 rfl).trans ((F58 164 53 rfl).trans ((F57 164 53 rfl).trans ((F56 164 53 rfl).trans ((F55 164 53 rfl).trans ((F54 164 53 rfl).trans ((F53 164 53 rfl).trans ((F52 164 53 rfl).trans ((F51 164 53 rfl).trans ((F50 164 53 rfl).trans ((F49 164 53 rfl).trans ((F48 164 53 rfl).trans (f164_53 (h := h) hT)))))))))))))) ?_
  refine am_e_iconst (w := 4) n97_46 rfl ?_
  refine am_e_iload_n n97_47 rfl ?_
  refine am_e_imul (w := 0) n97_48 (by decide) ?_
  refine am_e_iload_n n97_49 rfl ?_
  refine am_e_iadd (w := 1) n97_50 (by decide) ?_
  refine am_e_iaload (v := 0) (q := 1) n97_51 rfl (by decide) (by decide) ((F60 191 1 rfl).trans ((F59 191 1 rfl).trans ((F58 191 1 rfl).trans ((F57 191 1 rfl).trans ((F56 191 1 rfl).trans ((F55 191 1 rfl).trans ((F54 191 1 rfl).trans ((F53 191 1 rfl).trans ((F52 191 1 rfl).trans ((F51 191 1 rfl).trans ((F50 191 1 rfl).trans ((F49 191 1 rfl).trans ((F48 191 1 rfl).trans (f191_1 (h := h) hT)))))))))))))) ?_
  refine am_e_iastore (q := 5) n97_52 rfl (by decide) (by decide) ?_
  refine am_e_aload_n n97_53 rfl ?_
  refine am_e_getf (v := .ref 192) n97_54 rfl ((F60 164 54 rfl).trans ((F59 164 54 rfl).trans ((F58 164 54 rfl).trans ((F57 164 54 rfl).trans ((F56 164 54 rfl).trans ((F55 164 54 rfl).trans ((F54 164 54 rfl).trans ((F53 164 54 rfl).trans ((F52 164 54 rfl).trans ((F51 164 54 rfl).trans ((F50 164 54 rfl).trans ((F49 164 54 rfl).trans ((F48 164 54 rfl).trans (f164_54 (h := h) hT)))))))))))))) ?_
  refine am_e_iconst (w := 4) n97_55 rfl ?_
  refine am_e_iload_n n97_56 rfl ?_
  refine am_e_imul (w := 4) n97_57 (by decide) ?_
  refine am_e_iload_n n97_58 rfl ?_
  refine am_e_iadd (w := 5) n97_59 (by decide) ?_
  refine am_e_aload_n n97_60 rfl ?_
  refine am_e_getf (v := .ref 192) n97_61 rfl ((F60 164 54 rfl).trans ((F59 164 54 rfl).trans ((F58 164 54 rfl).trans ((F57 164 54 rfl).trans ((F56 164 54 rfl).trans ((F55 164 54 rfl).trans ((F54 164 54 rfl).trans ((F53 164 54 rfl).trans ((F52 164 54 rfl).trans ((F51 164 54 rfl).trans ((F50 164 54 rfl).trans ((F49 164 54 rfl).trans ((F48 164 54 rfl).trans (f164_54 (h := h) hT)))))))))))))) ?_
  refine am_e_iconst (w := 4) n97_62 rfl ?_
  refine am_e_iload_n n97_63 rfl ?_
  refine am_e_imul (w := 0) n97_64 (by decide) ?_
  refine am_e_iload_n n97_65 rfl ?_
  refine am_e_iadd (w := 1) n97_66 (by decide) ?_
  refine am_e_iaload (v := 0) (q := 1) n97_67 rfl (by decide) (by decide) ((F60 192 1 rfl).trans ((F59 192 1 rfl).trans ((F58 192 1 rfl).trans ((F57 192 1 rfl).trans ((F56 192 1 rfl).trans ((F55 192 1 rfl).trans ((F54 192 1 rfl).trans ((F53 192 1 rfl).trans ((F52 192 1 rfl).trans ((F51 192 1 rfl).trans ((F50 192 1 rfl).trans ((F49 192 1 rfl).trans ((F48 192 1 rfl).trans (f192_1 (h := h) hT)))))))))))))) ?_
  refine am_e_iastore (q := 5) n97_68 rfl (by decide) (by decide) ?_
  refine am_e_aload_n n97_69 rfl ?_
  refine am_e_getf (v := .ref 193) n97_70 rfl ((F60 164 55 rfl).trans ((F59 164 55 rfl).trans ((F58 164 55 rfl).trans ((F57 164 55 rfl).trans ((F56 164 55 rfl).trans ((F55 164 55 rfl).trans ((F54 164 55 rfl).trans ((F53 164 55 rfl).trans ((F52 164 55 rfl).trans ((F51 164 55 rfl).trans ((F50 164 55 rfl).trans ((F49 164 55 rfl).trans ((F48 164 55 rfl).trans (f164_55 (h := h) hT)))))))))))))) ?_
  refine am_e_iconst (w := 4) n97_71 rfl ?_
  refine am_e_iload_n n97_72 rfl ?_
  refine am_e_imul (w := 4) n97_73 (by decide) ?_
  refine am_e_iload_n n97_74 rfl ?_
  refine am_e_iadd (w := 5) n97_75 (by decide) ?_
  refine am_e_aload_n n97_76 rfl ?_
  refine am_e_getf (v := .ref 193) n97_77 rfl ((F60 164 55 rfl).trans ((F59 164 55 rfl).trans ((F58 164 55 rfl).trans ((F57 164 55 rfl).trans ((F56 164 55 rfl).trans ((F55 164 55 rfl).trans ((F54 164 55 rfl).trans ((F53 164 55 rfl).trans ((F52 164 55 rfl).trans ((F51 164 55 rfl).trans ((F50 164 55 rfl).trans ((F49 164 55 rfl).trans ((F48 164 55 rfl).trans (f164_55 (h := h) hT)))))))))))))) ?_
  refine am_e_iconst (w := 4) n97_78 rfl ?_
  refine am_e_iload_n n97_79 rfl ?_
  refine am_e_imul (w := 0) n97_80 (by decide) ?_
  refine am_e_iload_n n97_81 rfl ?_
  refine am_e_iadd (w := 1) n97_82 (by decide) ?_
  refine am_e_iaload (v := 0) (q := 1) n97_83 rfl (by decide) (by decide) ((F60 193 1 rfl).trans ((F59 193 1 rfl).trans ((F58 193 1 rfl).trans ((F57 193 1 rfl).trans ((F56 193 1 rfl).trans ((F55 193 1 rfl).trans ((F54 193 1 rfl).trans ((F53 193 1 rfl).trans ((F52 193 1 rfl).trans ((F51 193 1 rfl).trans ((F50 193 1 rfl).trans ((F49 193 1 rfl).trans ((F48 193 1 rfl).trans (f193_1 (h := h) hT)))))))))))))) ?_
  refine am_e_iastore (q := 5) n97_84 rfl (by decide) (by decide) ?_
  refine am_e_iinc (w := 2) (ls' := [(3, .int 2), (0, .ref 164), (1, .int 1), (2, .int 0)]) n97_85 rfl rfl (by decide) rfl ?_
  refine am_e_goto c97_86 t97_86 ?_
  refine am_e_iload_n n97_34 rfl ?_
  refine am_e_iconst (w := 4) n97_35 rfl ?_
  refine am_e_cmpF n97_36 (am_c_geF (by decide)) ?_
  refine am_e_aload_n n97_37 rfl ?_
  refine am_e_getf (v := .ref 191) n97_38 rfl ((F60 164 53 rfl).trans ((F59 164 53 rfl).trans ((F58 164 53 rfl).trans ((F57 164 53 rfl).trans ((F56 164 53 rfl).trans ((F55 164 53 rfl).trans ((F54 164 53 rfl).trans ((F53 164 53 rfl).trans ((F52 164 53 rfl).trans ((F51 164 53 rfl).trans ((F50 164 53 rfl).trans ((F49 164 53 rfl).trans ((F48 164 53 rfl).trans (f164_53 (h := h) hT)))))))))))))) ?_
  refine am_e_iconst (w := 4) n97_39 rfl ?_
  refine am_e_iload_n n97_40 rfl ?_
  refine am_e_imul (w := 4) n97_41 (by decide) ?_
  refine am_e_iload_n n97_42 rfl ?_
  refine am_e_iadd (w := 6) n97_43 (by decide) ?_
  refine am_e_aload_n n97_44 rfl ?_
  refine am_e_getf (v := .ref 191) n97_45 rfl ((F60 164 53 rfl).trans ((F59 164 53 rfl).trans ((F58 164 53 rfl).trans ((F57 164 53 rfl).trans ((F56 164 53 rfl).trans ((F55 164 53 rfl).trans ((F54 164 53 rfl).trans ((F53 164 53 rfl).trans ((F52 164 53 rfl).trans ((F51 164 53 rfl).trans ((F50 164 53 rfl).trans ((F49 164 53 rfl).trans ((F48 164 53 rfl).trans (f164_53 (h := h) hT)))))))))))))) ?_
  refine am_e_iconst (w := 4) n97_46 rfl ?_
  refine am_e_iload_n n97_47 rfl ?_
  refine am_e_imul (w := 0) n97_48 (by decide) ?_
  refine am_e_iload_n n97_49 rfl ?_
  refine am_e_iadd (w := 2) n97_50 (by decide) ?_
  refine am_e_iaload (v := 0) (q := 2) n97_51 rfl (by decide) (by decide) ((F60 191 2 rfl).trans ((F59 191 2 rfl).trans ((F58 191 2 rfl).trans ((F57 191 2 rfl).trans ((F56 191 2 rfl).trans ((F55 191 2 rfl).trans ((F54 191 2 rfl).trans ((F53 191 2 rfl).trans ((F52 191 2 rfl).trans ((F51 191 2 rfl).trans ((F50 191 2 rfl).trans ((F49 191 2 rfl).trans ((F48 191 2 rfl).trans (f191_2 (h := h) hT)))))))))))))) ?_
  refine am_e_iastore (q := 6) n97_52 rfl (by decide) (by decide) ?_
  refine am_e_aload_n n97_53 rfl ?_
  refine am_e_getf (v := .ref 192) n97_54 rfl ((F60 164 54 rfl).trans ((F59 164 54 rfl).trans ((F58 164 54 rfl).trans ((F57 164 54 rfl).trans ((F56 164 54 rfl).trans ((F55 164 54 rfl).trans ((F54 164 54 rfl).trans ((F53 164 54 rfl).trans ((F52 164 54 rfl).trans ((F51 164 54 rfl).trans ((F50 164 54 rfl).trans ((F49 164 54 rfl).trans ((F48 164 54 rfl).trans (f164_54 (h := h) hT)))))))))))))) ?_
  refine am_e_iconst (w := 4) n97_55 rfl ?_
  refine am_e_iload_n n97_56 rfl ?_
  refine am_e_imul (w := 4) n97_57 (by decide) ?_
  refine am_e_iload_n n97_58 rfl ?_
  refine am_e_iadd (w := 6) n97_59 (by decide) ?_
  refine am_e_aload_n n97_60 rfl ?_
  refine am_e_getf (v := .ref 192) n97_61 rfl ((F60 164 54 rfl).trans ((F59 164 54 rfl).trans ((F58 164 54 rfl).trans ((F57 164 54 rfl).trans ((F56 164 54 rfl).trans ((F55 164 54 rfl).trans ((F54 164 54 rfl).trans ((F53 164 54 rfl).trans ((F52 164 54 rfl).trans ((F51 164 54 rfl).trans ((F50 164 54 rfl).trans ((F49 164 54 rfl).trans ((F48 164 54 rfl).trans (f164_54 (h := h) hT)))))))))))))) ?_
  refine am_e_iconst (w := 4) n97_62 rfl ?_
  refine am_e_iload_n n97_63 rfl ?_
  refine am_e_imul (w := 0) n97_64 (by decide) ?_
  refine am_e_iload_n n97_65 rfl ?_
  refine am_e_iadd (w := 2) n97_66 (by decide) ?_
  refine am_e_iaload (v := 0) (q := 2) n97_67 rfl (by decide) (by decide) ((F60 192 2 rfl).trans ((F59 192 2 rfl).trans ((F58 192 2 rfl).trans ((F57 192 2 rfl).trans ((F56 192 2 rfl).trans ((F55 192 2 rfl).trans ((F54 192 2 rfl).trans ((F53 192 2 rfl).trans ((F52 192 2 rfl).trans ((F51 192 2 rfl).trans ((F50 192 2 rfl).trans ((F49 192 2 rfl).trans ((F48 192 2 rfl).trans (f192_2 (h := h) hT)))))))))))))) ?_
  refine am_e_iastore (q := 6) n97_68 rfl (by decide) (by decide) ?_
  refine am_e_aload_n n97_69 rfl ?_
  refine am_e_getf (v := .ref 193) n97_70 rfl ((F60 164 55 rfl).trans ((F59 164 55 rfl).trans ((F58 164 55 rfl).trans ((F57 164 55 rfl).trans ((F56 164 55 rfl).trans ((F55 164 55 rfl).trans ((F54 164 55 rfl).trans ((F53 164 55 rfl).trans ((F52 164 55 rfl).trans ((F51 164 55 rfl).trans ((F50 164 55 rfl).trans ((F49 164 55 rfl).trans ((F48 164 55 rfl).trans (f164_55 (h := h) hT)))))))))))))) ?_
  refine am_e_iconst (w := 4) n97_71 rfl ?_
  refine am_e_iload_n n97_72 rfl ?_
  refine am_e_imul (w := 4) n97_73 (by decide) ?_
  refine am_e_iload_n n97_74 rfl ?_
  refine am_e_iadd (w := 6) n97_75 (by decide) ?_
  refine am_e_aload_n n97_76 rfl ?_
  refine am_e_getf (v := .ref 193) n97_77 rfl ((F60 164 55 rfl).trans ((F59 164 55 rfl).trans ((F58 164 55 rfl).trans ((F57 164 55 rfl).trans ((F56 164 55 rfl).trans ((F55 164 55 rfl).trans ((F54 164 55 rfl).trans ((F53 164 55 rfl).trans ((F52 164 55 rfl).trans ((F51 164 55 rfl).trans ((F50 164 55 rfl).trans ((F49 164 55 rfl).trans ((F48 164 55 rfl).trans (f164_55 (h := h) hT)))))))))))))) ?_
  refine am_e_iconst (w := 4) n97_78 rfl ?_
  refine am_e_iload_n n97_79 rfl ?_
  refine am_e_imul (w := 0) n97_80 (by decide) ?_
  refine am_e_iload_n n97_81 rfl ?_
  refine am_e_iadd (w := 2) n97_82 (by decide) ?_
  refine am_e_iaload (v := 0) (q := 2) n97_83 rfl (by decide) (by decide) ((F60 193 2 rfl).trans ((F59 193 2 rfl).trans ((F58 193 2 rfl).trans ((F57 193 2 rfl).trans ((F56 193 2 rfl).trans ((F55 193 2 rfl).trans ((F54 193 2 rfl).trans ((F53 193 2 rfl).trans ((F52 193 2 rfl).trans ((F51 193 2 rfl).trans ((F50 193 2 rfl).trans ((F49 193 2 rfl).trans ((F48 193 2 rfl).trans (f193_2 (h := h) hT)))))))))))))) ?_
  refine am_e_iastore (q := 6) n97_84 rfl (by decide) (by decide) ?_
  refine am_e_iinc (w := 3) (ls' := [(3, .int 3), (0, .ref 164), (1, .int 1), (2, .int 0)]) n97_85 rfl rfl (by decide) rfl ?_
  refine am_e_goto c97_86 t97_86 ?_
  refine am_e_iload_n n97_34 rfl ?_
  refine am_e_iconst (w := 4) n97_35 rfl ?_
  refine am_e_cmpF n97_36 (am_c_geF (by decide)) ?_
  refine am_e_aload_n n97_37 rfl ?_
  refine am_e_getf (v := .ref 191) n97_38 rfl ((F60 164 53 rfl).trans ((F59 164 53 rfl).trans ((F58 164 53 rfl).trans ((F57 164 53 rfl).trans ((F56 164 53 rfl).trans ((F55 164 53 rfl).trans ((F54 164 53 rfl).trans ((F53 164 53 rfl).trans ((F52 164 53 rfl).trans ((F51 164 53 rfl).trans ((F50 164 53 rfl).trans ((F49 164 53 rfl).trans ((F48 164 53 rfl).trans (f164_53 (h := h) hT)))))))))))))) ?_
  refine am_e_iconst (w := 4) n97_39 rfl ?_
  refine am_e_iload_n n97_40 rfl ?_
  refine am_e_imul (w := 4) n97_41 (by decide) ?_
  refine am_e_iload_n n97_42 rfl ?_
  refine am_e_iadd (w := 7) n97_43 (by decide) ?_
  refine am_e_aload_n n97_44 rfl ?_
  refine am_e_getf (v := .ref 191) n97_45 rfl ((F60 164 53 rfl).trans ((F59 164 53 rfl).trans ((F58 164 53 rfl).trans ((F57 164 53 rfl).trans ((F56 164 53 rfl).trans ((F55 164 53 rfl).trans ((F54 164 53 rfl).trans ((F53 164 53 rfl).trans ((F52 164 53 rfl).trans ((F51 164 53 rfl).trans ((F50 164 53 rfl).trans ((F49 164 53 rfl).trans ((F48 164 53 rfl).trans (f164_53 (h := h) hT)))))))))))))) ?_
  refine am_e_iconst (w := 4) n97_46 rfl ?_
  refine am_e_iload_n n97_47 rfl ?_
  refine am_e_imul (w := 0) n97_48 (by decide) ?_
  refine am_e_iload_n n97_49 rfl ?_
  refine am_e_iadd (w := 3) n97_50 (by decide) ?_
  refine am_e_iaload (v := 0) (q := 3) n97_51 rfl (by decide) (by decide) ((F60 191 3 rfl).trans ((F59 191 3 rfl).trans ((F58 191 3 rfl).trans ((F57 191 3 rfl).trans ((F56 191 3 rfl).trans ((F55 191 3 rfl).trans ((F54 191 3 rfl).trans ((F53 191 3 rfl).trans ((F52 191 3 rfl).trans ((F51 191 3 rfl).trans ((F50 191 3 rfl).trans ((F49 191 3 rfl).trans ((F48 191 3 rfl).trans (f191_3 (h := h) hT)))))))))))))) ?_
  refine am_e_iastore (q := 7) n97_52 rfl (by decide) (by decide) ?_
  refine am_e_aload_n n97_53 rfl ?_
  refine am_e_getf (v := .ref 192) n97_54 rfl ((F60 164 54 rfl).trans ((F59 164 54 rfl).trans ((F58 164 54 rfl).trans ((F57 164 54 rfl).trans ((F56 164 54 rfl).trans ((F55 164 54 rfl).trans ((F54 164 54 rfl).trans ((F53 164 54 rfl).trans ((F52 164 54 rfl).trans ((F51 164 54 rfl).trans ((F50 164 54 rfl).trans ((F49 164 54 rfl).trans ((F48 164 54 rfl).trans (f164_54 (h := h) hT)))))))))))))) ?_
  refine am_e_iconst (w := 4) n97_55 rfl ?_
  refine am_e_iload_n n97_56 rfl ?_
  refine am_e_imul (w := 4) n97_57 (by decide) ?_
  refine am_e_iload_n n97_58 rfl ?_
  refine am_e_iadd (w := 7) n97_59 (by decide) ?_
  refine am_e_aload_n n97_60 rfl ?_
  refine am_e_getf (v := .ref 192) n97_61 rfl ((F60 164 54 rfl).trans ((F59 164 54 rfl).trans ((F58 164 54 rfl).trans ((F57 164 54 rfl).trans ((F56 164 54 rfl).trans ((F55 164 54 rfl).trans ((F54 164 54 rfl).trans ((F53 164 54 rfl).trans ((F52 164 54 rfl).trans ((F51 164 54 rfl).trans ((F50 164 54 rfl).trans ((F49 164 54 rfl).trans ((F48 164 54 rfl).trans (f164_54 (h := h) hT)))))))))))))) ?_
  refine am_e_iconst (w := 4) n97_62 rfl ?_
  refine am_e_iload_n n97_63 rfl ?_
  refine am_e_imul (w := 0) n97_64 (by decide) ?_
  refine am_e_iload_n n97_65 rfl ?_
  refine am_e_iadd (w := 3) n97_66 (by decide) ?_
  refine am_e_iaload (v := 0) (q := 3) n97_67 rfl (by decide) (by decide) ((F60 192 3 rfl).trans ((F59 192 3 rfl).trans ((F58 192 3 rfl).trans ((F57 192 3 rfl).trans ((F56 192 3 rfl).trans ((F55 192 3 rfl).trans ((F54 192 3 rfl).trans ((F53 192 3 rfl).trans ((F52 192 3 rfl).trans ((F51 192 3 rfl).trans ((F50 192 3 rfl).trans ((F49 192 3 rfl).trans ((F48 192 3 rfl).trans (f192_3 (h := h) hT)))))))))))))) ?_
  refine am_e_iastore (q := 7) n97_68 rfl (by decide) (by decide) ?_
  refine am_e_aload_n n97_69 rfl ?_
  refine am_e_getf (v := .ref 193) n97_70 rfl ((F60 164 55 rfl).trans ((F59 164 55 rfl).trans ((F58 164 55 rfl).trans ((F57 164 55 rfl).trans ((F56 164 55 rfl).trans ((F55 164 55 rfl).trans ((F54 164 55 rfl).trans ((F53 164 55 rfl).trans ((F52 164 55 rfl).trans ((F51 164 55 rfl).trans ((F50 164 55 rfl).trans ((F49 164 55 rfl).trans ((F48 164 55 rfl).trans (f164_55 (h := h) hT)))))))))))))) ?_
  refine am_e_iconst (w := 4) n97_71 rfl ?_
  refine am_e_iload_n n97_72 rfl ?_
  refine am_e_imul (w := 4) n97_73 (by decide) ?_
  refine am_e_iload_n n97_74 rfl ?_
  refine am_e_iadd (w := 7) n97_75 (by decide) ?_
  refine am_e_aload_n n97_76 rfl ?_
  refine am_e_getf (v := .ref 193) n97_77 rfl ((F60 164 55 rfl).trans ((F59 164 55 rfl).trans ((F58 164 55 rfl).trans ((F57 164 55 rfl).trans ((F56 164 55 rfl).trans ((F55 164 55 rfl).trans ((F54 164 55 rfl).trans ((F53 164 55 rfl).trans ((F52 164 55 rfl).trans ((F51 164 55 rfl).trans ((F50 164 55 rfl).trans ((F49 164 55 rfl).trans ((F48 164 55 rfl).trans (f164_55 (h := h) hT)))))))))))))) ?_
  refine am_e_iconst (w := 4) n97_78 rfl ?_
  refine am_e_iload_n n97_79 rfl ?_
  refine am_e_imul (w := 0) n97_80 (by decide) ?_
  refine am_e_iload_n n97_81 rfl ?_
  refine am_e_iadd (w := 3) n97_82 (by decide) ?_
  refine am_e_iaload (v := 0) (q := 3) n97_83 rfl (by decide) (by decide) ((F60 193 3 rfl).trans ((F59 193 3 rfl).trans ((F58 193 3 rfl).trans ((F57 193 3 rfl).trans ((F56 193 3 rfl).trans ((F55 193 3 rfl).trans ((F54 193 3 rfl).trans ((F53 193 3 rfl).trans ((F52 193 3 rfl).trans ((F51 193 3 rfl).trans ((F50 193 3 rfl).trans ((F49 193 3 rfl).trans ((F48 193 3 rfl).trans (f193_3 (h := h) hT)))))))))))))) ?_
  refine am_e_iastore (q := 7) n97_84 rfl (by decide) (by decide) ?_
  refine am_e_iinc (w := 4) (ls' := [(3, .int 4), (0, .ref 164), (1, .int 1), (2, .int 0)]) n97_85 rfl rfl (by decide) rfl ?_
  refine am_e_goto c97_86 t97_86 ?_
  refine am_e_iload_n n97_34 rfl ?_
  refine am_e_iconst (w := 4) n97_35 rfl ?_
  refine am_e_cmpT n97_36 (am_c_geT (by decide)) t97_36 ?_
  refine am_e_vret c97_87 rfl rfl ?_
  refine am_e_iconst (w := 0) n127_35 rfl ?_
  refine am_e_istore (ls' := [(8, .int 0), (7, .int 3), (6, .int 0), (0, .ref 164), (2, .int (nI n)), (3, .int (nI b)), (4, .long 0)]) n127_36 rfl rfl ?_
  refine am_Ek_ls (ls' := [(0, .ref 164), (2, .int (nI n)), (3, .int (nI b)), (4, .long 0), (6, .int 0), (7, .int 3), (8, .int (nI 0))]) ⟨rfl, rfl, rfl, rfl, rfl, rfl, rfl, trivial⟩ ?_
  refine am_cm_e (n := n) (b := b) (s := 0) (t := 0) (i7 := 3) (dr := dr60) (by omega) (by omega) ⟨((F60 164 23 rfl).trans ((F59 164 23 rfl).trans ((F58 164 23 rfl).trans ((F57 164 23 rfl).trans ((F56 164 23 rfl).trans ((F55 164 23 rfl).trans ((F54 164 23 rfl).trans ((F53 164 23 rfl).trans ((F52 164 23 rfl).trans ((F51 164 23 rfl).trans ((F50 164 23 rfl).trans ((F49 164 23 rfl).trans ((F48 164 23 rfl).trans (f164_23 (h := h) hT)))))))))))))), ((F60 168 4 rfl).trans ((F59 168 4 rfl).trans ((F58 168 4 rfl).trans ((F57 168 4 rfl).trans ((F56 168 4 rfl).trans ((F55 168 4 rfl).trans ((F54 168 4 rfl).trans ((F53 168 4 rfl).trans ((F52 168 4 rfl).trans ((F51 168 4 rfl).trans ((F50 168 4 rfl).trans ((F49 168 4 rfl).trans ((F48 168 4 rfl).trans (f168_4 (h := h) hT)))))))))))))), ((F60 164 50 rfl).trans ((F59 164 50 rfl).trans ((F58 164 50 rfl).trans ((F57 164 50 rfl).trans ((F56 164 50 rfl).trans ((F55 164 50 rfl).trans ((F54 164 50 rfl).trans ((F53 164 50 rfl).trans ((F52 164 50 rfl).trans ((F51 164 50 rfl).trans ((F50 164 50 rfl).trans ((F49 164 50 rfl).trans ((F48 164 50 rfl).trans (f164_50 (h := h) hT)))))))))))))), ((F60 164 61 rfl).trans ((F59 164 61 rfl).trans ((F58 164 61 rfl).trans ((F57 164 61 rfl).trans ((F56 164 61 rfl).trans ((F55 164 61 rfl).trans ((F54 164 61 rfl).trans ((F53 164 61 rfl).trans ((F52 164 61 rfl).trans ((F51 164 61 rfl).trans ((F50 164 61 rfl).trans ((F49 164 61 rfl).trans ((F48 164 61 rfl).trans (f164_61 (h := h) hT)))))))))))))), ((F60 164 47 rfl).trans ((F59 164 47 rfl).trans ((F58 164 47 rfl).trans ((F57 164 47 rfl).trans ((F56 164 47 rfl).trans ((F55 164 47 rfl).trans ((F54 164 47 rfl).trans ((F53 164 47 rfl).trans ((F52 164 47 rfl).trans ((F51 164 47 rfl).trans ((F50 164 47 rfl).trans ((F49 164 47 rfl).trans ((F48 164 47 rfl).trans (f164_47 (h := h) hT)))))))))))))), ((F60 168 0 rfl).trans ((F59 168 0 rfl).trans ((F58 168 0 rfl).trans ((F57 168 0 rfl).trans ((F56 168 0 rfl).trans ((F55 168 0 rfl).trans ((F54 168 0 rfl).trans ((F53 168 0 rfl).trans ((F52 168 0 rfl).trans ((F51 168 0 rfl).trans ((F50 168 0 rfl).trans ((F49 168 0 rfl).trans ((F48 168 0 rfl).trans (f168_0 (h := h) hT)))))))))))))), ((F60 164 51 rfl).trans ((F59 164 51 rfl).trans ((F58 164 51 rfl).trans ((F57 164 51 rfl).trans ((F56 164 51 rfl).trans ((F55 164 51 rfl).trans ((F54 164 51 rfl).trans ((F53 164 51 rfl).trans ((F52 164 51 rfl).trans ((F51 164 51 rfl).trans ((F50 164 51 rfl).trans ((F49 164 51 rfl).trans ((F48 164 51 rfl).trans (f164_51 (h := h) hT)))))))))))))), ((F60 164 33 rfl).trans ((F59 164 33 rfl).trans ((F58 164 33 rfl).trans ((F57 164 33 rfl).trans ((F56 164 33 rfl).trans ((F55 164 33 rfl).trans ((F54 164 33 rfl).trans ((F53 164 33 rfl).trans ((F52 164 33 rfl).trans ((F51 164 33 rfl).trans ((F50 164 33 rfl).trans ((F49 164 33 rfl).trans ((F48 164 33 rfl).trans (f164_33 (h := h) hT)))))))))))))), ((F60 178 2 rfl).trans ((F59 178 2 rfl).trans ((F58 178 2 rfl).trans ((F57 178 2 rfl).trans ((F56 178 2 rfl).trans ((F55 178 2 rfl).trans ((F54 178 2 rfl).trans ((F53 178 2 rfl).trans ((F52 178 2 rfl).trans ((F51 178 2 rfl).trans ((F50 178 2 rfl).trans ((F49 178 2 rfl).trans ((F48 178 2 rfl).trans (f178_2 (h := h) hT)))))))))))))), ((F60 178 0 rfl).trans ((F59 178 0 rfl).trans ((F58 178 0 rfl).trans ((F57 178 0 rfl).trans ((F56 178 0 rfl).trans ((F55 178 0 rfl).trans ((F54 178 0 rfl).trans ((F53 178 0 rfl).trans ((F52 178 0 rfl).trans ((F51 178 0 rfl).trans ((F50 178 0 rfl).trans ((F49 178 0 rfl).trans ((F48 178 0 rfl).trans (f178_0 (h := h) hT)))))))))))))), ((F60 164 62 rfl).trans ((F59 164 62 rfl).trans ((F58 164 62 rfl).trans ((F57 164 62 rfl).trans ((F56 164 62 rfl).trans ((F55 164 62 rfl).trans ((F54 164 62 rfl).trans ((F53 164 62 rfl).trans ((F52 164 62 rfl).trans ((F51 164 62 rfl).trans ((F50 164 62 rfl).trans ((F49 164 62 rfl).trans ((F48 164 62 rfl).trans (f164_62 (h := h) hT)))))))))))))), ((F60 164 58 rfl).trans ((F59 164 58 rfl).trans ((F58 164 58 rfl).trans ((F57 164 58 rfl).trans ((F56 164 58 rfl).trans ((F55 164 58 rfl).trans ((F54 164 58 rfl).trans ((F53 164 58 rfl).trans ((F52 164 58 rfl).trans ((F51 164 58 rfl).trans ((F50 164 58 rfl).trans ((F49 164 58 rfl).trans ((F48 164 58 rfl).trans (f164_58 (h := h) hT)))))))))))))), ((F60 164 60 rfl).trans ((F59 164 60 rfl).trans ((F58 164 60 rfl).trans ((F57 164 60 rfl).trans ((F56 164 60 rfl).trans ((F55 164 60 rfl).trans ((F54 164 60 rfl).trans ((F53 164 60 rfl).trans ((F52 164 60 rfl).trans ((F51 164 60 rfl).trans ((F50 164 60 rfl).trans ((F49 164 60 rfl).trans ((F48 164 60 rfl).trans (f164_60 (h := h) hT)))))))))))))), trivial⟩ rfl rfl qc60 ?_
  intro h61 dr61 F61 qa61 qb61 qc61
  refine am_e_iload n127_59 rfl ?_
  refine am_e_aload_n n127_60 rfl ?_
  refine am_e_getf (v := .ref 188) n127_61 rfl ((F61 164 50 rfl).trans ((F60 164 50 rfl).trans ((F59 164 50 rfl).trans ((F58 164 50 rfl).trans ((F57 164 50 rfl).trans ((F56 164 50 rfl).trans ((F55 164 50 rfl).trans ((F54 164 50 rfl).trans ((F53 164 50 rfl).trans ((F52 164 50 rfl).trans ((F51 164 50 rfl).trans ((F50 164 50 rfl).trans ((F49 164 50 rfl).trans ((F48 164 50 rfl).trans (f164_50 (h := h) hT))))))))))))))) ?_
  refine am_e_iconst (w := 1) n127_62 rfl ?_
  refine am_e_iaload (v := 0) (q := 1) n127_63 rfl (by decide) (by decide) qa61 ?_
  refine am_e_iload_n n127_64 rfl ?_
  refine am_e_cmpT n127_65 (am_c_ltT (nI_lt (a := 0) hb0 (by omega))) t127_65 ?_
  refine am_e_iconst (w := 0) n127_68 rfl ?_
  refine am_e_iadd (w := 0) n127_69 (by decide) ?_
  refine am_e_istore (ls' := [(6, .int 0), (0, .ref 164), (2, .int (nI n)), (3, .int (nI b)), (4, .long 0), (7, .int 3), (8, .int (nI n))]) n127_70 rfl rfl ?_
  refine am_e_iinc (w := 4) (ls' := [(7, .int 4), (6, .int 0), (0, .ref 164), (2, .int (nI n)), (3, .int (nI b)), (4, .long 0), (8, .int (nI n))]) n127_71 rfl rfl (by decide) rfl ?_
  refine am_e_goto c127_72 t127_72 ?_
  refine am_e_iload n127_28 rfl ?_
  refine am_e_bipush (w := 10) n127_29 (by decide) ?_
  refine am_e_cmpF n127_30 (am_c_geF (by decide)) ?_
  refine am_e_aload_n n127_31 rfl ?_
  refine am_e_iconst (w := 1) n127_32 rfl ?_
  refine am_e_iconst (w := 0) n127_33 rfl ?_
  refine am_e_callV (L := [(0, .ref 164), (1, .int 1), (2, .int 0)]) n127_34 rfl rfl rfl rfl rfl rfl rfl rfl ?_
  refine am_e_aload_n n97_0 rfl ?_
  refine am_e_getf (v := .ref 188) n97_1 rfl ((F61 164 50 rfl).trans ((F60 164 50 rfl).trans ((F59 164 50 rfl).trans ((F58 164 50 rfl).trans ((F57 164 50 rfl).trans ((F56 164 50 rfl).trans ((F55 164 50 rfl).trans ((F54 164 50 rfl).trans ((F53 164 50 rfl).trans ((F52 164 50 rfl).trans ((F51 164 50 rfl).trans ((F50 164 50 rfl).trans ((F49 164 50 rfl).trans ((F48 164 50 rfl).trans (f164_50 (h := h) hT))))))))))))))) ?_
  refine am_e_iload_n n97_2 rfl ?_
  refine am_e_aload_n n97_3 rfl ?_
  refine am_e_getf (v := .ref 188) n97_4 rfl ((F61 164 50 rfl).trans ((F60 164 50 rfl).trans ((F59 164 50 rfl).trans ((F58 164 50 rfl).trans ((F57 164 50 rfl).trans ((F56 164 50 rfl).trans ((F55 164 50 rfl).trans ((F54 164 50 rfl).trans ((F53 164 50 rfl).trans ((F52 164 50 rfl).trans ((F51 164 50 rfl).trans ((F50 164 50 rfl).trans ((F49 164 50 rfl).trans ((F48 164 50 rfl).trans (f164_50 (h := h) hT))))))))))))))) ?_
  refine am_e_iload_n n97_5 rfl ?_
  refine am_e_iaload (v := 0) (q := 0) n97_6 rfl (by decide) (by decide) ((F61 188 0 rfl).trans ((F60 188 0 rfl).trans ((F59 188 0 rfl).trans ((F58 188 0 rfl).trans ((F57 188 0 rfl).trans ((F56 188 0 rfl).trans ((F55 188 0 rfl).trans ((F54 188 0 rfl).trans ((F53 188 0 rfl).trans ((F52 188 0 rfl).trans ((F51 188 0 rfl).trans ((F50 188 0 rfl).trans ((F49 188 0 rfl).trans ((F48 188 0 rfl).trans (f188_0 (h := h) hT))))))))))))))) ?_
  refine am_e_iastore (q := 1) n97_7 rfl (by decide) (by decide) ?_
  refine am_e_aload_n n97_8 rfl ?_
  refine am_e_getf (v := .ref 189) n97_9 rfl ((F61 164 51 rfl).trans ((F60 164 51 rfl).trans ((F59 164 51 rfl).trans ((F58 164 51 rfl).trans ((F57 164 51 rfl).trans ((F56 164 51 rfl).trans ((F55 164 51 rfl).trans ((F54 164 51 rfl).trans ((F53 164 51 rfl).trans ((F52 164 51 rfl).trans ((F51 164 51 rfl).trans ((F50 164 51 rfl).trans ((F49 164 51 rfl).trans ((F48 164 51 rfl).trans (f164_51 (h := h) hT))))))))))))))) ?_
  refine am_e_iload_n n97_10 rfl ?_
  refine am_e_aload_n n97_11 rfl ?_
  refine am_e_getf (v := .ref 189) n97_12 rfl ((F61 164 51 rfl).trans ((F60 164 51 rfl).trans ((F59 164 51 rfl).trans ((F58 164 51 rfl).trans ((F57 164 51 rfl).trans ((F56 164 51 rfl).trans ((F55 164 51 rfl).trans ((F54 164 51 rfl).trans ((F53 164 51 rfl).trans ((F52 164 51 rfl).trans ((F51 164 51 rfl).trans ((F50 164 51 rfl).trans ((F49 164 51 rfl).trans ((F48 164 51 rfl).trans (f164_51 (h := h) hT))))))))))))))) ?_
  refine am_e_iload_n n97_13 rfl ?_
  refine am_e_iaload (v := 0) (q := 0) n97_14 rfl (by decide) (by decide) ((F61 189 0 rfl).trans ((F60 189 0 rfl).trans ((F59 189 0 rfl).trans ((F58 189 0 rfl).trans ((F57 189 0 rfl).trans ((F56 189 0 rfl).trans ((F55 189 0 rfl).trans ((F54 189 0 rfl).trans ((F53 189 0 rfl).trans ((F52 189 0 rfl).trans ((F51 189 0 rfl).trans ((F50 189 0 rfl).trans ((F49 189 0 rfl).trans ((F48 189 0 rfl).trans (f189_0 (h := h) hT))))))))))))))) ?_
  refine am_e_iastore (q := 1) n97_15 rfl (by decide) (by decide) ?_
  refine am_e_aload_n n97_16 rfl ?_
  refine am_e_getf (v := .ref 190) n97_17 rfl ((F61 164 52 rfl).trans ((F60 164 52 rfl).trans ((F59 164 52 rfl).trans ((F58 164 52 rfl).trans ((F57 164 52 rfl).trans ((F56 164 52 rfl).trans ((F55 164 52 rfl).trans ((F54 164 52 rfl).trans ((F53 164 52 rfl).trans ((F52 164 52 rfl).trans ((F51 164 52 rfl).trans ((F50 164 52 rfl).trans ((F49 164 52 rfl).trans ((F48 164 52 rfl).trans (f164_52 (h := h) hT))))))))))))))) ?_
  refine am_e_iload_n n97_18 rfl ?_
  refine am_e_aload_n n97_19 rfl ?_
  refine am_e_getf (v := .ref 190) n97_20 rfl ((F61 164 52 rfl).trans ((F60 164 52 rfl).trans ((F59 164 52 rfl).trans ((F58 164 52 rfl).trans ((F57 164 52 rfl).trans ((F56 164 52 rfl).trans ((F55 164 52 rfl).trans ((F54 164 52 rfl).trans ((F53 164 52 rfl).trans ((F52 164 52 rfl).trans ((F51 164 52 rfl).trans ((F50 164 52 rfl).trans ((F49 164 52 rfl).trans ((F48 164 52 rfl).trans (f164_52 (h := h) hT))))))))))))))) ?_
  refine am_e_iload_n n97_21 rfl ?_
  refine am_e_iaload (v := (-1)) (q := 0) n97_22 rfl (by decide) (by decide) ((F61 190 0 rfl).trans ((F60 190 0 rfl).trans ((F59 190 0 rfl).trans ((F58 190 0 rfl).trans ((F57 190 0 rfl).trans ((F56 190 0 rfl).trans ((F55 190 0 rfl).trans ((F54 190 0 rfl).trans ((F53 190 0 rfl).trans ((F52 190 0 rfl).trans ((F51 190 0 rfl).trans ((F50 190 0 rfl).trans ((F49 190 0 rfl).trans ((F48 190 0 rfl).trans (f190_0 (h := h) hT))))))))))))))) ?_
  refine am_e_iastore (q := 1) n97_23 rfl (by decide) (by decide) ?_
  refine am_e_aload_n n97_24 rfl ?_
  refine am_e_getf (v := .ref 194) n97_25 rfl ((F61 164 56 rfl).trans ((F60 164 56 rfl).trans ((F59 164 56 rfl).trans ((F58 164 56 rfl).trans ((F57 164 56 rfl).trans ((F56 164 56 rfl).trans ((F55 164 56 rfl).trans ((F54 164 56 rfl).trans ((F53 164 56 rfl).trans ((F52 164 56 rfl).trans ((F51 164 56 rfl).trans ((F50 164 56 rfl).trans ((F49 164 56 rfl).trans ((F48 164 56 rfl).trans (f164_56 (h := h) hT))))))))))))))) ?_
  refine am_e_iload_n n97_26 rfl ?_
  refine am_e_aload_n n97_27 rfl ?_
  refine am_e_getf (v := .ref 194) n97_28 rfl ((F61 164 56 rfl).trans ((F60 164 56 rfl).trans ((F59 164 56 rfl).trans ((F58 164 56 rfl).trans ((F57 164 56 rfl).trans ((F56 164 56 rfl).trans ((F55 164 56 rfl).trans ((F54 164 56 rfl).trans ((F53 164 56 rfl).trans ((F52 164 56 rfl).trans ((F51 164 56 rfl).trans ((F50 164 56 rfl).trans ((F49 164 56 rfl).trans ((F48 164 56 rfl).trans (f164_56 (h := h) hT))))))))))))))) ?_
  refine am_e_iload_n n97_29 rfl ?_
  refine am_e_iaload (v := 0) (q := 0) n97_30 rfl (by decide) (by decide) ((F61 194 0 rfl).trans ((F60 194 0 rfl).trans ((F59 194 0 rfl).trans ((F58 194 0 rfl).trans ((F57 194 0 rfl).trans ((F56 194 0 rfl).trans ((F55 194 0 rfl).trans ((F54 194 0 rfl).trans ((F53 194 0 rfl).trans ((F52 194 0 rfl).trans ((F51 194 0 rfl).trans ((F50 194 0 rfl).trans ((F49 194 0 rfl).trans ((F48 194 0 rfl).trans (f194_0 (h := h) hT))))))))))))))) ?_
  refine am_e_iastore (q := 1) n97_31 rfl (by decide) (by decide) ?_
  refine am_e_iconst (w := 0) n97_32 rfl ?_
  refine am_e_istore_n (ls' := [(3, .int 0), (0, .ref 164), (1, .int 1), (2, .int 0)]) n97_33 rfl rfl ?_
  refine am_e_iload_n n97_34 rfl ?_
  refine am_e_iconst (w := 4) n97_35 rfl ?_
  refine am_e_cmpF n97_36 (am_c_geF (by decide)) ?_
  refine am_e_aload_n n97_37 rfl ?_
  refine am_e_getf (v := .ref 191) n97_38 rfl ((F61 164 53 rfl).trans ((F60 164 53 rfl).trans ((F59 164 53 rfl).trans ((F58 164 53 rfl).trans ((F57 164 53 rfl).trans ((F56 164 53 rfl).trans ((F55 164 53 rfl).trans ((F54 164 53 rfl).trans ((F53 164 53 rfl).trans ((F52 164 53 rfl).trans ((F51 164 53 rfl).trans ((F50 164 53 rfl).trans ((F49 164 53 rfl).trans ((F48 164 53 rfl).trans (f164_53 (h := h) hT))))))))))))))) ?_
  refine am_e_iconst (w := 4) n97_39 rfl ?_
  refine am_e_iload_n n97_40 rfl ?_
  refine am_e_imul (w := 4) n97_41 (by decide) ?_
  refine am_e_iload_n n97_42 rfl ?_
  refine am_e_iadd (w := 4) n97_43 (by decide) ?_
  refine am_e_aload_n n97_44 rfl ?_
  refine am_e_getf (v := .ref 191) n97_45 rfl ((F61 164 53 rfl).trans ((F60 164 53 rfl).trans ((F59 164 53 rfl).trans ((F58 164 53 rfl).trans ((F57 164 53 rfl).trans ((F56 164 53 rfl).trans ((F55 164 53 rfl).trans ((F54 164 53 rfl).trans ((F53 164 53 rfl).trans ((F52 164 53 rfl).trans ((F51 164 53 rfl).trans ((F50 164 53 rfl).trans ((F49 164 53 rfl).trans ((F48 164 53 rfl).trans (f164_53 (h := h) hT))))))))))))))) ?_
  refine am_e_iconst (w := 4) n97_46 rfl ?_
  refine am_e_iload_n n97_47 rfl ?_
  refine am_e_imul (w := 0) n97_48 (by decide) ?_
  refine am_e_iload_n n97_49 rfl ?_
  refine am_e_iadd (w := 0) n97_50 (by decide) ?_
  refine am_e_iaload (v := 0) (q := 0) n97_51 rfl (by decide) (by decide) ((F61 191 0 rfl).trans ((F60 191 0 rfl).trans ((F59 191 0 rfl).trans ((F58 191 0 rfl).trans ((F57 191 0 rfl).trans ((F56 191 0 rfl).trans ((F55 191 0 rfl).trans ((F54 191 0 rfl).trans ((F53 191 0 rfl).trans ((F52 191 0 rfl).trans ((F51 191 0 rfl).trans ((F50 191 0 rfl).trans ((F49 191 0 rfl).trans ((F48 191 0 rfl).trans (f191_0 (h := h) hT))))))))))))))) ?_
  refine am_e_iastore (q := 4) n97_52 rfl (by decide) (by decide) ?_
  refine am_e_aload_n n97_53 rfl ?_
  refine am_e_getf (v := .ref 192) n97_54 rfl ((F61 164 54 rfl).trans ((F60 164 54 rfl).trans ((F59 164 54 rfl).trans ((F58 164 54 rfl).trans ((F57 164 54 rfl).trans ((F56 164 54 rfl).trans ((F55 164 54 rfl).trans ((F54 164 54 rfl).trans ((F53 164 54 rfl).trans ((F52 164 54 rfl).trans ((F51 164 54 rfl).trans ((F50 164 54 rfl).trans ((F49 164 54 rfl).trans ((F48 164 54 rfl).trans (f164_54 (h := h) hT))))))))))))))) ?_
  refine am_e_iconst (w := 4) n97_55 rfl ?_
  refine am_e_iload_n n97_56 rfl ?_
  refine am_e_imul (w := 4) n97_57 (by decide) ?_
  refine am_e_iload_n n97_58 rfl ?_
  refine am_e_iadd (w := 4) n97_59 (by decide) ?_
  refine am_e_aload_n n97_60 rfl ?_
  refine am_e_getf (v := .ref 192) n97_61 rfl ((F61 164 54 rfl).trans ((F60 164 54 rfl).trans ((F59 164 54 rfl).trans ((F58 164 54 rfl).trans ((F57 164 54 rfl).trans ((F56 164 54 rfl).trans ((F55 164 54 rfl).trans ((F54 164 54 rfl).trans ((F53 164 54 rfl).trans ((F52 164 54 rfl).trans ((F51 164 54 rfl).trans ((F50 164 54 rfl).trans ((F49 164 54 rfl).trans ((F48 164 54 rfl).trans (f164_54 (h := h) hT))))))))))))))) ?_
  refine am_e_iconst (w := 4) n97_62 rfl ?_
  refine am_e_iload_n n97_63 rfl ?_
  refine am_e_imul (w := 0) n97_64 (by decide) ?_
  refine am_e_iload_n n97_65 rfl ?_
  refine am_e_iadd (w := 0) n97_66 (by decide) ?_
  refine am_e_iaload (v := 0) (q := 0) n97_67 rfl (by decide) (by decide) ((F61 192 0 rfl).trans ((F60 192 0 rfl).trans ((F59 192 0 rfl).trans ((F58 192 0 rfl).trans ((F57 192 0 rfl).trans ((F56 192 0 rfl).trans ((F55 192 0 rfl).trans ((F54 192 0 rfl).trans ((F53 192 0 rfl).trans ((F52 192 0 rfl).trans ((F51 192 0 rfl).trans ((F50 192 0 rfl).trans ((F49 192 0 rfl).trans ((F48 192 0 rfl).trans (f192_0 (h := h) hT))))))))))))))) ?_
  refine am_e_iastore (q := 4) n97_68 rfl (by decide) (by decide) ?_
  refine am_e_aload_n n97_69 rfl ?_
  refine am_e_getf (v := .ref 193) n97_70 rfl ((F61 164 55 rfl).trans ((F60 164 55 rfl).trans ((F59 164 55 rfl).trans ((F58 164 55 rfl).trans ((F57 164 55 rfl).trans ((F56 164 55 rfl).trans ((F55 164 55 rfl).trans ((F54 164 55 rfl).trans ((F53 164 55 rfl).trans ((F52 164 55 rfl).trans ((F51 164 55 rfl).trans ((F50 164 55 rfl).trans ((F49 164 55 rfl).trans ((F48 164 55 rfl).trans (f164_55 (h := h) hT))))))))))))))) ?_
  refine am_e_iconst (w := 4) n97_71 rfl ?_
  refine am_e_iload_n n97_72 rfl ?_
  refine am_e_imul (w := 4) n97_73 (by decide) ?_
  refine am_e_iload_n n97_74 rfl ?_
  refine am_e_iadd (w := 4) n97_75 (by decide) ?_
  refine am_e_aload_n n97_76 rfl ?_
  refine am_e_getf (v := .ref 193) n97_77 rfl ((F61 164 55 rfl).trans ((F60 164 55 rfl).trans ((F59 164 55 rfl).trans ((F58 164 55 rfl).trans ((F57 164 55 rfl).trans ((F56 164 55 rfl).trans ((F55 164 55 rfl).trans ((F54 164 55 rfl).trans ((F53 164 55 rfl).trans ((F52 164 55 rfl).trans ((F51 164 55 rfl).trans ((F50 164 55 rfl).trans ((F49 164 55 rfl).trans ((F48 164 55 rfl).trans (f164_55 (h := h) hT))))))))))))))) ?_
  refine am_e_iconst (w := 4) n97_78 rfl ?_
  refine am_e_iload_n n97_79 rfl ?_
  refine am_e_imul (w := 0) n97_80 (by decide) ?_
  refine am_e_iload_n n97_81 rfl ?_
  refine am_e_iadd (w := 0) n97_82 (by decide) ?_
  refine am_e_iaload (v := 0) (q := 0) n97_83 rfl (by decide) (by decide) ((F61 193 0 rfl).trans ((F60 193 0 rfl).trans ((F59 193 0 rfl).trans ((F58 193 0 rfl).trans ((F57 193 0 rfl).trans ((F56 193 0 rfl).trans ((F55 193 0 rfl).trans ((F54 193 0 rfl).trans ((F53 193 0 rfl).trans ((F52 193 0 rfl).trans ((F51 193 0 rfl).trans ((F50 193 0 rfl).trans ((F49 193 0 rfl).trans ((F48 193 0 rfl).trans (f193_0 (h := h) hT))))))))))))))) ?_
  refine am_e_iastore (q := 4) n97_84 rfl (by decide) (by decide) ?_
  refine am_e_iinc (w := 1) (ls' := [(3, .int 1), (0, .ref 164), (1, .int 1), (2, .int 0)]) n97_85 rfl rfl (by decide) rfl ?_
  refine am_e_goto c97_86 t97_86 ?_
  refine am_e_iload_n n97_34 rfl ?_
  refine am_e_iconst (w := 4) n97_35 rfl ?_
  refine am_e_cmpF n97_36 (am_c_geF (by decide)) ?_
  refine am_e_aload_n n97_37 rfl ?_
  refine am_e_getf (v := .ref 191) n97_38 rfl ((F61 164 53 rfl).trans ((F60 164 53 rfl).trans ((F59 164 53 rfl).trans ((F58 164 53 rfl).trans ((F57 164 53 rfl).trans ((F56 164 53 rfl).trans ((F55 164 53 rfl).trans ((F54 164 53 rfl).trans ((F53 164 53 rfl).trans ((F52 164 53 rfl).trans ((F51 164 53 rfl).trans ((F50 164 53 rfl).trans ((F49 164 53 rfl).trans ((F48 164 53 rfl).trans (f164_53 (h := h) hT))))))))))))))) ?_
  refine am_e_iconst (w := 4) n97_39 rfl ?_
  refine am_e_iload_n n97_40 rfl ?_
  refine am_e_imul (w := 4) n97_41 (by decide) ?_
  refine am_e_iload_n n97_42 rfl ?_
  refine am_e_iadd (w := 5) n97_43 (by decide) ?_
  refine am_e_aload_n n97_44 rfl ?_
  refine am_e_getf (v := .ref 191) n97_45 rfl ((F61 164 53 rfl).trans ((F60 164 53 rfl).trans ((F59 164 53 rfl).trans ((F58 164 53 rfl).trans ((F57 164 53 rfl).trans ((F56 164 53 rfl).trans ((F55 164 53 rfl).trans ((F54 164 53 rfl).trans ((F53 164 53 rfl).trans ((F52 164 53 rfl).trans ((F51 164 53 rfl).trans ((F50 164 53 rfl).trans ((F49 164 53 rfl).trans ((F48 164 53 rfl).trans (f164_53 (h := h) hT))))))))))))))) ?_
  refine am_e_iconst (w := 4) n97_46 rfl ?_
  refine am_e_iload_n n97_47 rfl ?_
  refine am_e_imul (w := 0) n97_48 (by decide) ?_
  refine am_e_iload_n n97_49 rfl ?_
  refine am_e_iadd (w := 1) n97_50 (by decide) ?_
  refine am_e_iaload (v := 0) (q := 1) n97_51 rfl (by decide) (by decide) ((F61 191 1 rfl).trans ((F60 191 1 rfl).trans ((F59 191 1 rfl).trans ((F58 191 1 rfl).trans ((F57 191 1 rfl).trans ((F56 191 1 rfl).trans ((F55 191 1 rfl).trans ((F54 191 1 rfl).trans ((F53 191 1 rfl).trans ((F52 191 1 rfl).trans ((F51 191 1 rfl).trans ((F50 191 1 rfl).trans ((F49 191 1 rfl).trans ((F48 191 1 rfl).trans (f191_1 (h := h) hT))))))))))))))) ?_
  refine am_e_iastore (q := 5) n97_52 rfl (by decide) (by decide) ?_
  refine am_e_aload_n n97_53 rfl ?_
  refine am_e_getf (v := .ref 192) n97_54 rfl ((F61 164 54 rfl).trans ((F60 164 54 rfl).trans ((F59 164 54 rfl).trans ((F58 164 54 rfl).trans ((F57 164 54 rfl).trans ((F56 164 54 rfl).trans ((F55 164 54 rfl).trans ((F54 164 54 rfl).trans ((F53 164 54 rfl).trans ((F52 164 54 rfl).trans ((F51 164 54 rfl).trans ((F50 164 54 rfl).trans ((F49 164 54 rfl).trans ((F48 164 54 rfl).trans (f164_54 (h := h) hT))))))))))))))) ?_
  refine am_e_iconst (w := 4) n97_55 rfl ?_
  refine am_e_iload_n n97_56 rfl ?_
  refine am_e_imul (w := 4) n97_57 (by decide) ?_
  refine am_e_iload_n n97_58 rfl ?_
  refine am_e_iadd (w := 5) n97_59 (by decide) ?_
  refine am_e_aload_n n97_60 rfl ?_
  refine am_e_getf (v := .ref 192) n97_61 rfl ((F61 164 54 rfl).trans ((F60 164 54 rfl).trans ((F59 164 54 rfl).trans ((F58 164 54 rfl).trans ((F57 164 54 rfl).trans ((F56 164 54 rfl).trans ((F55 164 54 rfl).trans ((F54 164 54 rfl).trans ((F53 164 54 rfl).trans ((F52 164 54 rfl).trans ((F51 164 54 rfl).trans ((F50 164 54 rfl).trans ((F49 164 54 rfl).trans ((F48 164 54 rfl).trans (f164_54 (h := h) hT))))))))))))))) ?_
  refine am_e_iconst (w := 4) n97_62 rfl ?_
  refine am_e_iload_n n97_63 rfl ?_
  refine am_e_imul (w := 0) n97_64 (by decide) ?_
  refine am_e_iload_n n97_65 rfl ?_
  refine am_e_iadd (w := 1) n97_66 (by decide) ?_
  refine am_e_iaload (v := 0) (q := 1) n97_67 rfl (by decide) (by decide) ((F61 192 1 rfl).trans ((F60 192 1 rfl).trans ((F59 192 1 rfl).trans ((F58 192 1 rfl).trans ((F57 192 1 rfl).trans ((F56 192 1 rfl).trans ((F55 192 1 rfl).trans ((F54 192 1 rfl).trans ((F53 192 1 rfl).trans ((F52 192 1 rfl).trans ((F51 192 1 rfl).trans ((F50 192 1 rfl).trans ((F49 192 1 rfl).trans ((F48 192 1 rfl).trans (f192_1 (h := h) hT))))))))))))))) ?_
  refine am_e_iastore (q := 5) n97_68 rfl (by decide) (by decide) ?_
  refine am_e_aload_n n97_69 rfl ?_
  refine am_e_getf (v := .ref 193) n97_70 rfl ((F61 164 55 rfl).trans ((F60 164 55 rfl).trans ((F59 164 55 rfl).trans ((F58 164 55 rfl).trans ((F57 164 55 rfl).trans ((F56 164 55 rfl).trans ((F55 164 55 rfl).trans ((F54 164 55 rfl).trans ((F53 164 55 rfl).trans ((F52 164 55 rfl).trans ((F51 164 55 rfl).trans ((F50 164 55 rfl).trans ((F49 164 55 rfl).trans ((F48 164 55 rfl).trans (f164_55 (h := h) hT))))))))))))))) ?_
  refine am_e_iconst (w := 4) n97_71 rfl ?_
  refine am_e_iload_n n97_72 rfl ?_
  refine am_e_imul (w := 4) n97_73 (by decide) ?_
  refine am_e_iload_n n97_74 rfl ?_
  refine am_e_iadd (w := 5) n97_75 (by decide) ?_
  refine am_e_aload_n n97_76 rfl ?_
  refine am_e_getf (v := .ref 193) n97_77 rfl ((F61 164 55 rfl).trans ((F60 164 55 rfl).trans ((F59 164 55 rfl).trans ((F58 164 55 rfl).trans ((F57 164 55 rfl).trans ((F56 164 55 rfl).trans ((F55 164 55 rfl).trans ((F54 164 55 rfl).trans ((F53 164 55 rfl).trans ((F52 164 55 rfl).trans ((F51 164 55 rfl).trans ((F50 164 55 rfl).trans ((F49 164 55 rfl).trans ((F48 164 55 rfl).trans (f164_55 (h := h) hT))))))))))))))) ?_
  refine am_e_iconst (w := 4) n97_78 rfl ?_
  refine am_e_iload_n n97_79 rfl ?_
  refine am_e_imul (w := 0) n97_80 (by decide) ?_
  refine am_e_iload_n n97_81 rfl ?_
  refine am_e_iadd (w := 1) n97_82 (by decide) ?_
  refine am_e_iaload (v := 0) (q := 1) n97_83 rfl (by decide) (by decide) ((F61 193 1 rfl).trans ((F60 193 1 rfl).trans ((F59 193 1 rfl).trans ((F58 193 1 rfl).trans ((F57 193 1 rfl).trans ((F56 193 1 rfl).trans ((F55 193 1 rfl).trans ((F54 193 1 rfl).trans ((F53 193 1 rfl).trans ((F52 193 1 rfl).trans ((F51 193 1 rfl).trans ((F50 193 1 rfl).trans ((F49 193 1 rfl).trans ((F48 193 1 rfl).trans (f193_1 (h := h) hT))))))))))))))) ?_
  refine am_e_iastore (q := 5) n97_84 rfl (by decide) (by decide) ?_
  refine am_e_iinc (w := 2) (ls' := [(3, .int 2), (0, .ref 164), (1, .int 1), (2, .int 0)]) n97_85 rfl rfl (by decide) rfl ?_
  refine am_e_goto c97_86 t97_86 ?_
  refine am_e_iload_n n97_34 rfl ?_
  refine am_e_iconst (w := 4) n97_35 rfl ?_
  refine am_e_cmpF n97_36 (am_c_geF (by decide)) ?_
  refine am_e_aload_n n97_37 rfl ?_
  refine am_e_getf (v := .ref 191) n97_38 rfl ((F61 164 53 rfl).trans ((F60 164 53 rfl).trans ((F59 164 53 rfl).trans ((F58 164 53 rfl).trans ((F57 164 53 rfl).trans ((F56 164 53 rfl).trans ((F55 164 53 rfl).trans ((F54 164 53 rfl).trans ((F53 164 53 rfl).trans ((F52 164 53 rfl).trans ((F51 164 53 rfl).trans ((F50 164 53 rfl).trans ((F49 164 53 rfl).trans ((F48 164 53 rfl).trans (f164_53 (h := h) hT))))))))))))))) ?_
  refine am_e_iconst (w := 4) n97_39 rfl ?_
  refine am_e_iload_n n97_40 rfl ?_
  refine am_e_imul (w := 4) n97_41 (by decide) ?_
  refine am_e_iload_n n97_42 rfl ?_
  refine am_e_iadd (w := 6) n97_43 (by decide) ?_
  refine am_e_aload_n n97_44 rfl ?_
  refine am_e_getf (v := .ref 191) n97_45 rfl ((F61 164 53 rfl).trans ((F60 164 53 rfl).trans ((F59 164 53 rfl).trans ((F58 164 53 rfl).trans ((F57 164 53 rfl).trans ((F56 164 53 rfl).trans ((F55 164 53 rfl).trans ((F54 164 53 rfl).trans ((F53 164 53 rfl).trans ((F52 164 53 rfl).trans ((F51 164 53 rfl).trans ((F50 164 53 rfl).trans ((F49 164 53 rfl).trans ((F48 164 53 rfl).trans (f164_53 (h := h) hT))))))))))))))) ?_
  refine am_e_iconst (w := 4) n97_46 rfl ?_
  refine am_e_iload_n n97_47 rfl ?_
  refine am_e_imul (w := 0) n97_48 (by decide) ?_
  refine am_e_iload_n n97_49 rfl ?_
  refine am_e_iadd (w := 2) n97_50 (by decide) ?_
  refine am_e_iaload (v := 0) (q := 2) n97_51 rfl (by decide) (by decide) ((F61 191 2 rfl).trans ((F60 191 2 rfl).trans ((F59 191 2 rfl).trans ((F58 191 2 rfl).trans ((F57 191 2 rfl).trans ((F56 191 2 rfl).trans ((F55 191 2 rfl).trans ((F54 191 2 rfl).trans ((F53 191 2 rfl).trans ((F52 191 2 rfl).trans ((F51 191 2 rfl).trans ((F50 191 2 rfl).trans ((F49 191 2 rfl).trans ((F48 191 2 rfl).trans (f191_2 (h := h) hT))))))))))))))) ?_
  refine am_e_iastore (q := 6) n97_52 rfl (by decide) (by decide) ?_
  refine am_e_aload_n n97_53 rfl ?_
  refine am_e_getf (v := .ref 192) n97_54 rfl ((F61 164 54 rfl).trans ((F60 164 54 rfl).trans ((F59 164 54 rfl).trans ((F58 164 54 rfl).trans ((F57 164 54 rfl).trans ((F56 164 54 rfl).trans ((F55 164 54 rfl).trans ((F54 164 54 rfl).trans ((F53 164 54 rfl).trans ((F52 164 54 rfl).trans ((F51 164 54 rfl).trans ((F50 164 54 rfl).trans ((F49 164 54 rfl).trans ((F48 164 54 rfl).trans (f164_54 (h := h) hT))))))))))))))) ?_
  refine am_e_iconst (w := 4) n97_55 rfl ?_
  refine am_e_iload_n n97_56 rfl ?_
  refine am_e_imul (w := 4) n97_57 (by decide) ?_
  refine am_e_iload_n n97_58 rfl ?_
  refine am_e_iadd (w := 6) n97_59 (by decide) ?_
  refine am_e_aload_n n97_60 rfl ?_
  refine am_e_getf (v := .ref 192) n97_61 rfl ((F61 164 54 rfl).trans ((F60 164 54 rfl).trans ((F59 164 54 rfl).trans ((F58 164 54 rfl).trans ((F57 164 54 rfl).trans ((F56 164 54 rfl).trans ((F55 164 54 rfl).trans ((F54 164 54 rfl).trans ((F53 164 54 rfl).trans ((F52 164 54 rfl).trans ((F51 164 54 rfl).trans ((F50 164 54 rfl).trans ((F49 164 54 rfl).trans ((F48 164 54 rfl).trans (f164_54 (h := h) hT))))))))))))))) ?_
  refine am_e_iconst (w := 4) n97_62 rfl ?_
  refine am_e_iload_n n97_63 rfl ?_
  refine am_e_imul (w := 0) n97_64 (by decide) ?_
  refine am_e_iload_n n97_65 rfl ?_
  refine am_e_iadd (w := 2) n97_66 (by decide) ?_
  refine am_e_iaload (v := 0) (q := 2) n97_67 rfl (by decide) (by decide) ((F61 192 2 rfl).trans ((F60 192 2 rfl).trans ((F59 192 2 rfl).trans ((F58 192 2 rfl).trans ((F57 192 2 rfl).trans ((F56 192 2 rfl).trans ((F55 192 2 rfl).trans ((F54 192 2 rfl).trans ((F53 192 2 rfl).trans ((F52 192 2 rfl).trans ((F51 192 2 rfl).trans ((F50 192 2 rfl).trans ((F49 192 2 rfl).trans ((F48 192 2 rfl).trans (f192_2 (h := h) hT))))))))))))))) ?_
  refine am_e_iastore (q := 6) n97_68 rfl (by decide) (by decide) ?_
  refine am_e_aload_n n97_69 rfl ?_
  refine am_e_getf (v := .ref 193) n97_70 rfl ((F61 164 55 rfl).trans ((F60 164 55 rfl).trans ((F59 164 55 rfl).trans ((F58 164 55 rfl).trans ((F57 164 55 rfl).trans ((F56 164 55 rfl).trans ((F55 164 55 rfl).trans ((F54 164 55 rfl).trans ((F53 164 55 rfl).trans ((F52 164 55 rfl).trans ((F51 164 55 rfl).trans ((F50 164 55 rfl).trans ((F49 164 55 rfl).trans ((F48 164 55 rfl).trans (f164_55 (h := h) hT))))))))))))))) ?_
  refine am_e_iconst (w := 4) n97_71 rfl ?_
  refine am_e_iload_n n97_72 rfl ?_
  refine am_e_imul (w := 4) n97_73 (by decide) ?_
  refine am_e_iload_n n97_74 rfl ?_
  refine am_e_iadd (w := 6) n97_75 (by decide) ?_
  refine am_e_aload_n n97_76 rfl ?_
  refine am_e_getf (v := .ref 193) n97_77 rfl ((F61 164 55 rfl).trans ((F60 164 55 rfl).trans ((F59 164 55 rfl).trans ((F58 164 55 rfl).trans ((F57 164 55 rfl).trans ((F56 164 55 rfl).trans ((F55 164 55 rfl).trans ((F54 164 55 rfl).trans ((F53 164 55 rfl).trans ((F52 164 55 rfl).trans ((F51 164 55 rfl).trans ((F50 164 55 rfl).trans ((F49 164 55 rfl).trans ((F48 164 55 rfl).trans (f164_55 (h := h) hT))))))))))))))) ?_
  refine am_e_iconst (w := 4) n97_78 rfl ?_
  refine am_e_iload_n n97_79 rfl ?_
  refine am_e_imul (w := 0) n97_80 (by decide) ?_
  refine am_e_iload_n n97_81 rfl ?_
  refine am_e_iadd (w := 2) n97_82 (by decide) ?_
  refine am_e_iaload (v := 0) (q := 2) n97_83 rfl (by decide) (by decide) ((F61 193 2 rfl).trans ((F60 193 2 rfl).trans ((F59 193 2 rfl).trans ((F58 193 2 rfl).trans ((F57 193 2 rfl).trans ((F56 193 2 rfl).trans ((F55 193 2 rfl).trans ((F54 193 2 rfl).trans ((F53 193 2 rfl).trans ((F52 193 2 rfl).trans ((F51 193 2 rfl).trans ((F50 193 2 rfl).trans ((F49 193 2 rfl).trans ((F48 193 2 rfl).trans (f193_2 (h := h) hT))))))))))))))) ?_
  refine am_e_iastore (q := 6) n97_84 rfl (by decide) (by decide) ?_
  refine am_e_iinc (w := 3) (ls' := [(3, .int 3), (0, .ref 164), (1, .int 1), (2, .int 0)]) n97_85 rfl rfl (by decide) rfl ?_
  refine am_e_goto c97_86 t97_86 ?_
  refine am_e_iload_n n97_34 rfl ?_
  refine am_e_iconst (w := 4) n97_35 rfl ?_
  refine am_e_cmpF n97_36 (am_c_geF (by decide)) ?_
  refine am_e_aload_n n97_37 rfl ?_
  refine am_e_getf (v := .ref 191) n97_38 rfl ((F61 164 53 rfl).trans ((F60 164 53 rfl).trans ((F59 164 53 rfl).trans ((F58 164 53 rfl).trans ((F57 164 53 rfl).trans ((F56 164 53 rfl).trans ((F55 164 53 rfl).trans ((F54 164 53 rfl).trans ((F53 164 53 rfl).trans ((F52 164 53 rfl).trans ((F51 164 53 rfl).trans ((F50 164 53 rfl).trans ((F49 164 53 rfl).trans ((F48 164 53 rfl).trans (f164_53 (h := h) hT))))))))))))))) ?_
  refine am_e_iconst (w := 4) n97_39 rfl ?_
  refine am_e_iload_n n97_40 rfl ?_
  refine am_e_imul (w := 4) n97_41 (by decide) ?_
  refine am_e_iload_n n97_42 rfl ?_
  refine am_e_iadd (w := 7) n97_43 (by decide) ?_
  refine am_e_aload_n n97_44 rfl ?_
  refine am_e_getf (v := .ref 191) n97_45 rfl ((F61 164 53 rfl).trans ((F60 164 53 rfl).trans ((F59 164 53 rfl).trans ((F58 164 53 rfl).trans ((F57 164 53 rfl).trans ((F56 164 53 rfl).trans ((F55 164 53 rfl).trans ((F54 164 53 rfl).trans ((F53 164 53 rfl).trans ((F52 164 53 rfl).trans ((F51 164 53 rfl).trans ((F50 164 53 rfl).trans ((F49 164 53 rfl).trans ((F48 164 53 rfl).trans (f164_53 (h := h) hT))))))))))))))) ?_
  refine am_e_iconst (w := 4) n97_46 rfl ?_
  refine am_e_iload_n n97_47 rfl ?_
  refine am_e_imul (w := 0) n97_48 (by decide) ?_
  refine am_e_iload_n n97_49 rfl ?_
  refine am_e_iadd (w := 3) n97_50 (by decide) ?_
  refine am_e_iaload (v := 0) (q := 3) n97_51 rfl (by decide) (by decide) ((F61 191 3 rfl).trans ((F60 191 3 rfl).trans ((F59 191 3 rfl).trans ((F58 191 3 rfl).trans ((F57 191 3 rfl).trans ((F56 191 3 rfl).trans ((F55 191 3 rfl).trans ((F54 191 3 rfl).trans ((F53 191 3 rfl).trans ((F52 191 3 rfl).trans ((F51 191 3 rfl).trans ((F50 191 3 rfl).trans ((F49 191 3 rfl).trans ((F48 191 3 rfl).trans (f191_3 (h := h) hT))))))))))))))) ?_
  refine am_e_iastore (q := 7) n97_52 rfl (by decide) (by decide) ?_
  refine am_e_aload_n n97_53 rfl ?_
  refine am_e_getf (v := .ref 192) n97_54 rfl ((F61 164 54 rfl).trans ((F60 164 54 rfl).trans ((F59 164 54 rfl).trans ((F58 164 54 rfl).trans ((F57 164 54 rfl).trans ((F56 164 54 rfl).trans ((F55 164 54 rfl).trans ((F54 164 54 rfl).trans ((F53 164 54 rfl).trans ((F52 164 54 rfl).trans ((F51 164 54 rfl).trans ((F50 164 54 rfl).trans ((F49 164 54 rfl).trans ((F48 164 54 rfl).trans (f164_54 (h := h) hT))))))))))))))) ?_
  refine am_e_iconst (w := 4) n97_55 rfl ?_
  refine am_e_iload_n n97_56 rfl ?_
  refine am_e_imul (w := 4) n97_57 (by decide) ?_
  refine am_e_iload_n n97_58 rfl ?_
  refine am_e_iadd (w := 7) n97_59 (by decide) ?_
  refine am_e_aload_n n97_60 rfl ?_
  refine am_e_getf (v := .ref 192) n97_61 rfl ((F61 164 54 rfl).trans ((F60 164 54 rfl).trans ((F59 164 54 rfl).trans ((F58 164 54 rfl).trans ((F57 164 54 rfl).trans ((F56 164 54 rfl).trans ((F55 164 54 rfl).trans ((F54 164 54 rfl).trans ((F53 164 54 rfl).trans ((F52 164 54 rfl).trans ((F51 164 54 rfl).trans ((F50 164 54 rfl).trans ((F49 164 54 rfl).trans ((F48 164 54 rfl).trans (f164_54 (h := h) hT))))))))))))))) ?_
  refine am_e_iconst (w := 4) n97_62 rfl ?_
  refine am_e_iload_n n97_63 rfl ?_
  refine am_e_imul (w := 0) n97_64 (by decide) ?_
  refine am_e_iload_n n97_65 rfl ?_
  refine am_e_iadd (w := 3) n97_66 (by decide) ?_
  refine am_e_iaload (v := 0) (q := 3) n97_67 rfl (by decide) (by decide) ((F61 192 3 rfl).trans ((F60 192 3 rfl).trans ((F59 192 3 rfl).trans ((F58 192 3 rfl).trans ((F57 192 3 rfl).trans ((F56 192 3 rfl).trans ((F55 192 3 rfl).trans ((F54 192 3 rfl).trans ((F53 192 3 rfl).trans ((F52 192 3 rfl).trans ((F51 192 3 rfl).trans ((F50 192 3 rfl).trans ((F49 192 3 rfl).trans ((F48 192 3 rfl).trans (f192_3 (h := h) hT))))))))))))))) ?_
  refine am_e_iastore (q := 7) n97_68 rfl (by decide) (by decide) ?_
  refine am_e_aload_n n97_69 rfl ?_
  refine am_e_getf (v := .ref 193) n97_70 rfl ((F61 164 55 rfl).trans ((F60 164 55 rfl).trans ((F59 164 55 rfl).trans ((F58 164 55 rfl).trans ((F57 164 55 rfl).trans ((F56 164 55 rfl).trans ((F55 164 55 rfl).trans ((F54 164 55 rfl).trans ((F53 164 55 rfl).trans ((F52 164 55 rfl).trans ((F51 164 55 rfl).trans ((F50 164 55 rfl).trans ((F49 164 55 rfl).trans ((F48 164 55 rfl).trans (f164_55 (h := h) hT))))))))))))))) ?_
  refine am_e_iconst (w := 4) n97_71 rfl ?_
  refine am_e_iload_n n97_72 rfl ?_
  refine am_e_imul (w := 4) n97_73 (by decide) ?_
  refine am_e_iload_n n97_74 rfl ?_
  refine am_e_iadd (w := 7) n97_75 (by decide) ?_
  refine am_e_aload_n n97_76 rfl ?_
  refine am_e_getf (v := .ref 193) n97_77 rfl ((F61 164 55 rfl).trans ((F60 164 55 rfl).trans ((F59 164 55 rfl).trans ((F58 164 55 rfl).trans ((F57 164 55 rfl).trans ((F56 164 55 rfl).trans ((F55 164 55 rfl).trans ((F54 164 55 rfl).trans ((F53 164 55 rfl).trans ((F52 164 55 rfl).trans ((F51 164 55 rfl).trans ((F50 164 55 rfl).trans ((F49 164 55 rfl).trans ((F48 164 55 rfl).trans (f164_55 (h := h) hT))))))))))))))) ?_
  refine am_e_iconst (w := 4) n97_78 rfl ?_
  refine am_e_iload_n n97_79 rfl ?_
  refine am_e_imul (w := 0) n97_80 (by decide) ?_
  refine am_e_iload_n n97_81 rfl ?_
  refine am_e_iadd (w := 3) n97_82 (by decide) ?_
  refine am_e_iaload (v := 0) (q := 3) n97_83 rfl (by decide) (by decide) ((F61 193 3 rfl).trans ((F60 193 3 rfl).trans ((F59 193 3 rfl).trans ((F58 193 3 rfl).trans ((F57 193 3 rfl).trans ((F56 193 3 rfl).trans ((F55 193 3 rfl).trans ((F54 193 3 rfl).trans ((F53 193 3 rfl).trans ((F52 193 3 rfl).trans ((F51 193 3 rfl).trans ((F50 193 3 rfl).trans ((F49 193 3 rfl).trans ((F48 193 3 rfl).trans (f193_3 (h := h) hT))))))))))))))) ?_
  refine am_e_iastore (q := 7) n97_84 rfl (by decide) (by decide) ?_
  refine am_e_iinc (w := 4) (ls' := [(3, .int 4), (0, .ref 164), (1, .int 1), (2, .int 0)]) n97_85 rfl rfl (by decide) rfl ?_
  refine am_e_goto c97_86 t97_86 ?_
  refine am_e_iload_n n97_34 rfl ?_
  refine am_e_iconst (w := 4) n97_35 rfl ?_
  refine am_e_cmpT n97_36 (am_c_geT (by decide)) t97_36 ?_
  refine am_e_vret c97_87 rfl rfl ?_
  refine am_e_iconst (w := 0) n127_35 rfl ?_
  refine am_e_istore (ls' := [(8, .int 0), (7, .int 4), (6, .int 0), (0, .ref 164), (2, .int (nI n)), (3, .int (nI b)), (4, .long 0)]) n127_36 rfl rfl ?_
  refine am_Ek_ls (ls' := [(0, .ref 164), (2, .int (nI n)), (3, .int (nI b)), (4, .long 0), (6, .int 0), (7, .int 4), (8, .int (nI 0))]) ⟨rfl, rfl, rfl, rfl, rfl, rfl, rfl, trivial⟩ ?_
  refine am_cm_e (n := n) (b := b) (s := 0) (t := 0) (i7 := 4) (dr := dr61) (by omega) (by omega) ⟨((F61 164 23 rfl).trans ((F60 164 23 rfl).trans ((F59 164 23 rfl).trans ((F58 164 23 rfl).trans ((F57 164 23 rfl).trans ((F56 164 23 rfl).trans ((F55 164 23 rfl).trans ((F54 164 23 rfl).trans ((F53 164 23 rfl).trans ((F52 164 23 rfl).trans ((F51 164 23 rfl).trans ((F50 164 23 rfl).trans ((F49 164 23 rfl).trans ((F48 164 23 rfl).trans (f164_23 (h := h) hT))))))))))))))), ((F61 168 4 rfl).trans ((F60 168 4 rfl).trans ((F59 168 4 rfl).trans ((F58 168 4 rfl).trans ((F57 168 4 rfl).trans ((F56 168 4 rfl).trans ((F55 168 4 rfl).trans ((F54 168 4 rfl).trans ((F53 168 4 rfl).trans ((F52 168 4 rfl).trans ((F51 168 4 rfl).trans ((F50 168 4 rfl).trans ((F49 168 4 rfl).trans ((F48 168 4 rfl).trans (f168_4 (h := h) hT))))))))))))))), ((F61 164 50 rfl).trans ((F60 164 50 rfl).trans ((F59 164 50 rfl).trans ((F58 164 50 rfl).trans ((F57 164 50 rfl).trans ((F56 164 50 rfl).trans ((F55 164 50 rfl).trans ((F54 164 50 rfl).trans ((F53 164 50 rfl).trans ((F52 164 50 rfl).trans ((F51 164 50 rfl).trans ((F50 164 50 rfl).trans ((F49 164 50 rfl).trans ((F48 164 50 rfl).trans (f164_50 (h := h) hT))))))))))))))), ((F61 164 61 rfl).trans ((F60 164 61 rfl).trans ((F59 164 61 rfl).trans ((F58 164 61 rfl).trans ((F57 164 61 rfl).trans ((F56 164 61 rfl).trans ((F55 164 61 rfl).trans ((F54 164 61 rfl).trans ((F53 164 61 rfl).trans ((F52 164 61 rfl).trans ((F51 164 61 rfl).trans ((F50 164 61 rfl).trans ((F49 164 61 rfl).trans ((F48 164 61 rfl).trans (f164_61 (h := h) hT))))))))))))))), ((F61 164 47 rfl).trans ((F60 164 47 rfl).trans ((F59 164 47 rfl).trans ((F58 164 47 rfl).trans ((F57 164 47 rfl).trans ((F56 164 47 rfl).trans ((F55 164 47 rfl).trans ((F54 164 47 rfl).trans ((F53 164 47 rfl).trans ((F52 164 47 rfl).trans ((F51 164 47 rfl).trans ((F50 164 47 rfl).trans ((F49 164 47 rfl).trans ((F48 164 47 rfl).trans (f164_47 (h := h) hT))))))))))))))), ((F61 168 0 rfl).trans ((F60 168 0 rfl).trans ((F59 168 0 rfl).trans ((F58 168 0 rfl).trans ((F57 168 0 rfl).trans ((F56 168 0 rfl).trans ((F55 168 0 rfl).trans ((F54 168 0 rfl).trans ((F53 168 0 rfl).trans ((F52 168 0 rfl).trans ((F51 168 0 rfl).trans ((F50 168 0 rfl).trans ((F49 168 0 rfl).trans ((F48 168 0 rfl).trans (f168_0 (h := h) hT))))))))))))))), ((F61 164 51 rfl).trans ((F60 164 51 rfl).trans ((F59 164 51 rfl).trans ((F58 164 51 rfl).trans ((F57 164 51 rfl).trans ((F56 164 51 rfl).trans ((F55 164 51 rfl).trans ((F54 164 51 rfl).trans ((F53 164 51 rfl).trans ((F52 164 51 rfl).trans ((F51 164 51 rfl).trans ((F50 164 51 rfl).trans ((F49 164 51 rfl).trans ((F48 164 51 rfl).trans (f164_51 (h := h) hT))))))))))))))), ((F61 164 33 rfl).trans ((F60 164 33 rfl).trans ((F59 164 33 rfl).trans ((F58 164 33 rfl).trans ((F57 164 33 rfl).trans ((F56 164 33 rfl).trans ((F55 164 33 rfl).trans ((F54 164 33 rfl).trans ((F53 164 33 rfl).trans ((F52 164 33 rfl).trans ((F51 164 33 rfl).trans ((F50 164 33 rfl).trans ((F49 164 33 rfl).trans ((F48 164 33 rfl).trans (f164_33 (h := h) hT))))))))))))))), ((F61 178 2 rfl).trans ((F60 178 2 rfl).trans ((F59 178 2 rfl).trans ((F58 178 2 rfl).trans ((F57 178 2 rfl).trans ((F56 178 2 rfl).trans ((F55 178 2 rfl).trans ((F54 178 2 rfl).trans ((F53 178 2 rfl).trans ((F52 178 2 rfl).trans ((F51 178 2 rfl).trans ((F50 178 2 rfl).trans ((F49 178 2 rfl).trans ((F48 178 2 rfl).trans (f178_2 (h := h) hT))))))))))))))), ((F61 178 0 rfl).trans ((F60 178 0 rfl).trans ((F59 178 0 rfl).trans ((F58 178 0 rfl).trans ((F57 178 0 rfl).trans ((F56 178 0 rfl).trans ((F55 178 0 rfl).trans ((F54 178 0 rfl).trans ((F53 178 0 rfl).trans ((F52 178 0 rfl).trans ((F51 178 0 rfl).trans ((F50 178 0 rfl).trans ((F49 178 0 rfl).trans ((F48 178 0 rfl).trans (f178_0 (h := h) hT))))))))))))))), ((F61 164 62 rfl).trans ((F60 164 62 rfl).trans ((F59 164 62 rfl).trans ((F58 164 62 rfl).trans ((F57 164 62 rfl).trans ((F56 164 62 rfl).trans ((F55 164 62 rfl).trans ((F54 164 62 rfl).trans ((F53 164 62 rfl).trans ((F52 164 62 rfl).trans ((F51 164 62 rfl).trans ((F50 164 62 rfl).trans ((F49 164 62 rfl).trans ((F48 164 62 rfl).trans (f164_62 (h := h) hT))))))))))))))), ((F61 164 58 rfl).trans ((F60 164 58 rfl).trans ((F59 164 58 rfl).trans ((F58 164 58 rfl).trans ((F57 164 58 rfl).trans ((F56 164 58 rfl).trans ((F55 164 58 rfl).trans ((F54 164 58 rfl).trans ((F53 164 58 rfl).trans ((F52 164 58 rfl).trans ((F51 164 58 rfl).trans ((F50 164 58 rfl).trans ((F49 164 58 rfl).trans ((F48 164 58 rfl).trans (f164_58 (h := h) hT))))))))))))))), ((F61 164 60 rfl).trans ((F60 164 60 rfl).trans ((F59 164 60 rfl).trans ((F58 164 60 rfl).trans ((F57 164 60 rfl).trans ((F56 164 60 rfl).trans ((F55 164 60 rfl).trans ((F54 164 60 rfl).trans ((F53 164 60 rfl).trans ((F52 164 60 rfl).trans ((F51 164 60 rfl).trans ((F50 164 60 rfl).trans ((F49 164 60 rfl).trans ((F48 164 60 rfl).trans (f164_60 (h := h) hT))))))))))))))), trivial⟩ rfl rfl qc61 ?_
  intro h62 dr62 F62 qa62 qb62 qc62
  refine am_e_iload n127_59 rfl ?_
  refine am_e_aload_n n127_60 rfl ?_
  refine am_e_getf (v := .ref 188) n127_61 rfl ((F62 164 50 rfl).trans ((F61 164 50 rfl).trans ((F60 164 50 rfl).trans ((F59 164 50 rfl).trans ((F58 164 50 rfl).trans ((F57 164 50 rfl).trans ((F56 164 50 rfl).trans ((F55 164 50 rfl).trans ((F54 164 50 rfl).trans ((F53 164 50 rfl).trans ((F52 164 50 rfl).trans ((F51 164 50 rfl).trans ((F50 164 50 rfl).trans ((F49 164 50 rfl).trans ((F48 164 50 rfl).trans (f164_50 (h := h) hT)))))))))))))))) ?_
  refine am_e_iconst (w := 1) n127_62 rfl ?_
  refine am_e_iaload (v := 0) (q := 1) n127_63 rfl (by decide) (by decide) qa62 ?_
  refine am_e_iload_n n127_64 rfl ?_
  refine am_e_cmpT n127_65 (am_c_ltT (nI_lt (a := 0) hb0 (by omega))) t127_65 ?_
  refine am_e_iconst (w := 0) n127_68 rfl ?_
  refine am_e_iadd (w := 0) n127_69 (by decide) ?_
  refine am_e_istore (ls' := [(6, .int 0), (0, .ref 164), (2, .int (nI n)), (3, .int (nI b)), (4, .long 0), (7, .int 4), (8, .int (nI n))]) n127_70 rfl rfl ?_
  refine am_e_iinc (w := 5) (ls' := [(7, .int 5), (6, .int 0), (0, .ref 164), (2, .int (nI n)), (3, .int (nI b)), (4, .long 0), (8, .int (nI n))]) n127_71 rfl rfl (by decide) rfl ?_
  refine am_e_goto c127_72 t127_72 ?_
  refine am_e_iload n127_28 rfl ?_
  refine am_e_bipush (w := 10) n127_29 (by decide) ?_
  refine am_e_cmpF n127_30 (am_c_geF (by decide)) ?_
  refine am_e_aload_n n127_31 rfl ?_
  refine am_e_iconst (w := 1) n127_32 rfl ?_
  refine am_e_iconst (w := 0) n127_33 rfl ?_
  refine am_e_callV (L := [(0, .ref 164), (1, .int 1), (2, .int 0)]) n127_34 rfl rfl rfl rfl rfl rfl rfl rfl ?_
  refine am_e_aload_n n97_0 rfl ?_
  refine am_e_getf (v := .ref 188) n97_1 rfl ((F62 164 50 rfl).trans ((F61 164 50 rfl).trans ((F60 164 50 rfl).trans ((F59 164 50 rfl).trans ((F58 164 50 rfl).trans ((F57 164 50 rfl).trans ((F56 164 50 rfl).trans ((F55 164 50 rfl).trans ((F54 164 50 rfl).trans ((F53 164 50 rfl).trans ((F52 164 50 rfl).trans ((F51 164 50 rfl).trans ((F50 164 50 rfl).trans ((F49 164 50 rfl).trans ((F48 164 50 rfl).trans (f164_50 (h := h) hT)))))))))))))))) ?_
  refine am_e_iload_n n97_2 rfl ?_
  refine am_e_aload_n n97_3 rfl ?_
  refine am_e_getf (v := .ref 188) n97_4 rfl ((F62 164 50 rfl).trans ((F61 164 50 rfl).trans ((F60 164 50 rfl).trans ((F59 164 50 rfl).trans ((F58 164 50 rfl).trans ((F57 164 50 rfl).trans ((F56 164 50 rfl).trans ((F55 164 50 rfl).trans ((F54 164 50 rfl).trans ((F53 164 50 rfl).trans ((F52 164 50 rfl).trans ((F51 164 50 rfl).trans ((F50 164 50 rfl).trans ((F49 164 50 rfl).trans ((F48 164 50 rfl).trans (f164_50 (h := h) hT)))))))))))))))) ?_
  refine am_e_iload_n n97_5 rfl ?_
  refine am_e_iaload (v := 0) (q := 0) n97_6 rfl (by decide) (by decide) ((F62 188 0 rfl).trans ((F61 188 0 rfl).trans ((F60 188 0 rfl).trans ((F59 188 0 rfl).trans ((F58 188 0 rfl).trans ((F57 188 0 rfl).trans ((F56 188 0 rfl).trans ((F55 188 0 rfl).trans ((F54 188 0 rfl).trans ((F53 188 0 rfl).trans ((F52 188 0 rfl).trans ((F51 188 0 rfl).trans ((F50 188 0 rfl).trans ((F49 188 0 rfl).trans ((F48 188 0 rfl).trans (f188_0 (h := h) hT)))))))))))))))) ?_
  refine am_e_iastore (q := 1) n97_7 rfl (by decide) (by decide) ?_
  refine am_e_aload_n n97_8 rfl ?_
  refine am_e_getf (v := .ref 189) n97_9 rfl ((F62 164 51 rfl).trans ((F61 164 51 rfl).trans ((F60 164 51 rfl).trans ((F59 164 51 rfl).trans ((F58 164 51 rfl).trans ((F57 164 51 rfl).trans ((F56 164 51 rfl).trans ((F55 164 51 rfl).trans ((F54 164 51 rfl).trans ((F53 164 51 rfl).trans ((F52 164 51 rfl).trans ((F51 164 51 rfl).trans ((F50 164 51 rfl).trans ((F49 164 51 rfl).trans ((F48 164 51 rfl).trans (f164_51 (h := h) hT)))))))))))))))) ?_
  refine am_e_iload_n n97_10 rfl ?_
  refine am_e_aload_n n97_11 rfl ?_
  refine am_e_getf (v := .ref 189) n97_12 rfl ((F62 164 51 rfl).trans ((F61 164 51 rfl).trans ((F60 164 51 rfl).trans ((F59 164 51 rfl).trans ((F58 164 51 rfl).trans ((F57 164 51 rfl).trans ((F56 164 51 rfl).trans ((F55 164 51 rfl).trans ((F54 164 51 rfl).trans ((F53 164 51 rfl).trans ((F52 164 51 rfl).trans ((F51 164 51 rfl).trans ((F50 164 51 rfl).trans ((F49 164 51 rfl).trans ((F48 164 51 rfl).trans (f164_51 (h := h) hT)))))))))))))))) ?_
  refine am_e_iload_n n97_13 rfl ?_
  refine am_e_iaload (v := 0) (q := 0) n97_14 rfl (by decide) (by decide) ((F62 189 0 rfl).trans ((F61 189 0 rfl).trans ((F60 189 0 rfl).trans ((F59 189 0 rfl).trans ((F58 189 0 rfl).trans ((F57 189 0 rfl).trans ((F56 189 0 rfl).trans ((F55 189 0 rfl).trans ((F54 189 0 rfl).trans ((F53 189 0 rfl).trans ((F52 189 0 rfl).trans ((F51 189 0 rfl).trans ((F50 189 0 rfl).trans ((F49 189 0 rfl).trans ((F48 189 0 rfl).trans (f189_0 (h := h) hT)))))))))))))))) ?_
  refine am_e_iastore (q := 1) n97_15 rfl (by decide) (by decide) ?_
  refine am_e_aload_n n97_16 rfl ?_
  refine am_e_getf (v := .ref 190) n97_17 rfl ((F62 164 52 rfl).trans ((F61 164 52 rfl).trans ((F60 164 52 rfl).trans ((F59 164 52 rfl).trans ((F58 164 52 rfl).trans ((F57 164 52 rfl).trans ((F56 164 52 rfl).trans ((F55 164 52 rfl).trans ((F54 164 52 rfl).trans ((F53 164 52 rfl).trans ((F52 164 52 rfl).trans ((F51 164 52 rfl).trans ((F50 164 52 rfl).trans ((F49 164 52 rfl).trans ((F48 164 52 rfl).trans (f164_52 (h := h) hT)))))))))))))))) ?_
  refine am_e_iload_n n97_18 rfl ?_
  refine am_e_aload_n n97_19 rfl ?_
  refine am_e_getf (v := .ref 190) n97_20 rfl ((F62 164 52 rfl).trans ((F61 164 52 rfl).trans ((F60 164 52 rfl).trans ((F59 164 52 rfl).trans ((F58 164 52 rfl).trans ((F57 164 52 rfl).trans ((F56 164 52 rfl).trans ((F55 164 52 rfl).trans ((F54 164 52 rfl).trans ((F53 164 52 rfl).trans ((F52 164 52 rfl).trans ((F51 164 52 rfl).trans ((F50 164 52 rfl).trans ((F49 164 52 rfl).trans ((F48 164 52 rfl).trans (f164_52 (h := h) hT)))))))))))))))) ?_
  refine am_e_iload_n n97_21 rfl ?_
  refine am_e_iaload (v := (-1)) (q := 0) n97_22 rfl (by decide) (by decide) ((F62 190 0 rfl).trans ((F61 190 0 rfl).trans ((F60 190 0 rfl).trans ((F59 190 0 rfl).trans ((F58 190 0 rfl).trans ((F57 190 0 rfl).trans ((F56 190 0 rfl).trans ((F55 190 0 rfl).trans ((F54 190 0 rfl).trans ((F53 190 0 rfl).trans ((F52 190 0 rfl).trans ((F51 190 0 rfl).trans ((F50 190 0 rfl).trans ((F49 190 0 rfl).trans ((F48 190 0 rfl).trans (f190_0 (h := h) hT)))))))))))))))) ?_
  refine am_e_iastore (q := 1) n97_23 rfl (by decide) (by decide) ?_
  refine am_e_aload_n n97_24 rfl ?_
  refine am_e_getf (v := .ref 194) n97_25 rfl ((F62 164 56 rfl).trans ((F61 164 56 rfl).trans ((F60 164 56 rfl).trans ((F59 164 56 rfl).trans ((F58 164 56 rfl).trans ((F57 164 56 rfl).trans ((F56 164 56 rfl).trans ((F55 164 56 rfl).trans ((F54 164 56 rfl).trans ((F53 164 56 rfl).trans ((F52 164 56 rfl).trans ((F51 164 56 rfl).trans ((F50 164 56 rfl).trans ((F49 164 56 rfl).trans ((F48 164 56 rfl).trans (f164_56 (h := h) hT)))))))))))))))) ?_
  refine am_e_iload_n n97_26 rfl ?_
  refine am_e_aload_n n97_27 rfl ?_
  refine am_e_getf (v := .ref 194) n97_28 rfl ((F62 164 56 rfl).trans ((F61 164 56 rfl).trans ((F60 164 56 rfl).trans ((F59 164 56 rfl).trans ((F58 164 56 rfl).trans ((F57 164 56 rfl).trans ((F56 164 56 rfl).trans ((F55 164 56 rfl).trans ((F54 164 56 rfl).trans ((F53 164 56 rfl).trans ((F52 164 56 rfl).trans ((F51 164 56 rfl).trans ((F50 164 56 rfl).trans ((F49 164 56 rfl).trans ((F48 164 56 rfl).trans (f164_56 (h := h) hT)))))))))))))))) ?_
  refine am_e_iload_n n97_29 rfl ?_
  refine am_e_iaload (v := 0) (q := 0) n97_30 rfl (by decide) (by decide) ((F62 194 0 rfl).trans ((F61 194 0 rfl).trans ((F60 194 0 rfl).trans ((F59 194 0 rfl).trans ((F58 194 0 rfl).trans ((F57 194 0 rfl).trans ((F56 194 0 rfl).trans ((F55 194 0 rfl).trans ((F54 194 0 rfl).trans ((F53 194 0 rfl).trans ((F52 194 0 rfl).trans ((F51 194 0 rfl).trans ((F50 194 0 rfl).trans ((F49 194 0 rfl).trans ((F48 194 0 rfl).trans (f194_0 (h := h) hT)))))))))))))))) ?_
  refine am_e_iastore (q := 1) n97_31 rfl (by decide) (by decide) ?_
  refine am_e_iconst (w := 0) n97_32 rfl ?_
  refine am_e_istore_n (ls' := [(3, .int 0), (0, .ref 164), (1, .int 1), (2, .int 0)]) n97_33 rfl rfl ?_
  refine am_e_iload_n n97_34 rfl ?_
  refine am_e_iconst (w := 4) n97_35 rfl ?_
  refine am_e_cmpF n97_36 (am_c_geF (by decide)) ?_
  refine am_e_aload_n n97_37 rfl ?_
  refine am_e_getf (v := .ref 191) n97_38 rfl ((F62 164 53 rfl).trans ((F61 164 53 rfl).trans ((F60 164 53 rfl).trans ((F59 164 53 rfl).trans ((F58 164 53 rfl).trans ((F57 164 53 rfl).trans ((F56 164 53 rfl).trans ((F55 164 53 rfl).trans ((F54 164 53 rfl).trans ((F53 164 53 rfl).trans ((F52 164 53 rfl).trans ((F51 164 53 rfl).trans ((F50 164 53 rfl).trans ((F49 164 53 rfl).trans ((F48 164 53 rfl).trans (f164_53 (h := h) hT)))))))))))))))) ?_
  refine am_e_iconst (w := 4) n97_39 rfl ?_
  refine am_e_iload_n n97_40 rfl ?_
  refine am_e_imul (w := 4) n97_41 (by decide) ?_
  refine am_e_iload_n n97_42 rfl ?_
  refine am_e_iadd (w := 4) n97_43 (by decide) ?_
  refine am_e_aload_n n97_44 rfl ?_
  refine am_e_getf (v := .ref 191) n97_45 rfl ((F62 164 53 rfl).trans ((F61 164 53 rfl).trans ((F60 164 53 rfl).trans ((F59 164 53 rfl).trans ((F58 164 53 rfl).trans ((F57 164 53 rfl).trans ((F56 164 53 rfl).trans ((F55 164 53 rfl).trans ((F54 164 53 rfl).trans ((F53 164 53 rfl).trans ((F52 164 53 rfl).trans ((F51 164 53 rfl).trans ((F50 164 53 rfl).trans ((F49 164 53 rfl).trans ((F48 164 53 rfl).trans (f164_53 (h := h) hT)))))))))))))))) ?_
  refine am_e_iconst (w := 4) n97_46 rfl ?_
  refine am_e_iload_n n97_47 rfl ?_
  refine am_e_imul (w := 0) n97_48 (by decide) ?_
  refine am_e_iload_n n97_49 rfl ?_
  refine am_e_iadd (w := 0) n97_50 (by decide) ?_
  refine am_e_iaload (v := 0) (q := 0) n97_51 rfl (by decide) (by decide) ((F62 191 0 rfl).trans ((F61 191 0 rfl).trans ((F60 191 0 rfl).trans ((F59 191 0 rfl).trans ((F58 191 0 rfl).trans ((F57 191 0 rfl).trans ((F56 191 0 rfl).trans ((F55 191 0 rfl).trans ((F54 191 0 rfl).trans ((F53 191 0 rfl).trans ((F52 191 0 rfl).trans ((F51 191 0 rfl).trans ((F50 191 0 rfl).trans ((F49 191 0 rfl).trans ((F48 191 0 rfl).trans (f191_0 (h := h) hT)))))))))))))))) ?_
  refine am_e_iastore (q := 4) n97_52 rfl (by decide) (by decide) ?_
  refine am_e_aload_n n97_53 rfl ?_
  refine am_e_getf (v := .ref 192) n97_54 rfl ((F62 164 54 rfl).trans ((F61 164 54 rfl).trans ((F60 164 54 rfl).trans ((F59 164 54 rfl).trans ((F58 164 54 rfl).trans ((F57 164 54 rfl).trans ((F56 164 54 rfl).trans ((F55 164 54 rfl).trans ((F54 164 54 rfl).trans ((F53 164 54 rfl).trans ((F52 164 54 rfl).trans ((F51 164 54 rfl).trans ((F50 164 54 rfl).trans ((F49 164 54 rfl).trans ((F48 164 54 rfl).trans (f164_54 (h := h) hT)))))))))))))))) ?_
  refine am_e_iconst (w := 4) n97_55 rfl ?_
  refine am_e_iload_n n97_56 rfl ?_
  refine am_e_imul (w := 4) n97_57 (by decide) ?_
  refine am_e_iload_n n97_58 rfl ?_
  refine am_e_iadd (w := 4) n97_59 (by decide) ?_
  refine am_e_aload_n n97_60 rfl ?_
  refine am_e_getf (v := .ref 192) n97_61 rfl ((F62 164 54 rfl).trans ((F61 164 54 rfl).trans ((F60 164 54 rfl).trans ((F59 164 54 rfl).trans ((F58 164 54 rfl).trans ((F57 164 54 rfl).trans ((F56 164 54 rfl).trans ((F55 164 54 rfl).trans ((F54 164 54 rfl).trans ((F53 164 54 rfl).trans ((F52 164 54 rfl).trans ((F51 164 54 rfl).trans ((F50 164 54 rfl).trans ((F49 164 54 rfl).trans ((F48 164 54 rfl).trans (f164_54 (h := h) hT)))))))))))))))) ?_
  refine am_e_iconst (w := 4) n97_62 rfl ?_
  refine am_e_iload_n n97_63 rfl ?_
  refine am_e_imul (w := 0) n97_64 (by decide) ?_
  refine am_e_iload_n n97_65 rfl ?_
  refine am_e_iadd (w := 0) n97_66 (by decide) ?_
  refine am_e_iaload (v := 0) (q := 0) n97_67 rfl (by decide) (by decide) ((F62 192 0 rfl).trans ((F61 192 0 rfl).trans ((F60 192 0 rfl).trans ((F59 192 0 rfl).trans ((F58 192 0 rfl).trans ((F57 192 0 rfl).trans ((F56 192 0 rfl).trans ((F55 192 0 rfl).trans ((F54 192 0 rfl).trans ((F53 192 0 rfl).trans ((F52 192 0 rfl).trans ((F51 192 0 rfl).trans ((F50 192 0 rfl).trans ((F49 192 0 rfl).trans ((F48 192 0 rfl).trans (f192_0 (h := h) hT)))))))))))))))) ?_
  refine am_e_iastore (q := 4) n97_68 rfl (by decide) (by decide) ?_
  refine am_e_aload_n n97_69 rfl ?_
  refine am_e_getf (v := .ref 193) n97_70 rfl ((F62 164 55 rfl).trans ((F61 164 55 rfl).trans ((F60 164 55 rfl).trans ((F59 164 55 rfl).trans ((F58 164 55 rfl).trans ((F57 164 55 rfl).trans ((F56 164 55 rfl).trans ((F55 164 55 rfl).trans ((F54 164 55 rfl).trans ((F53 164 55 rfl).trans ((F52 164 55 rfl).trans ((F51 164 55 rfl).trans ((F50 164 55 rfl).trans ((F49 164 55 rfl).trans ((F48 164 55 rfl).trans (f164_55 (h := h) hT)))))))))))))))) ?_
  refine am_e_iconst (w := 4) n97_71 rfl ?_
  refine am_e_iload_n n97_72 rfl ?_
  refine am_e_imul (w := 4) n97_73 (by decide) ?_
  refine am_e_iload_n n97_74 rfl ?_
  refine am_e_iadd (w := 4) n97_75 (by decide) ?_
  refine am_e_aload_n n97_76 rfl ?_
  refine am_e_getf (v := .ref 193) n97_77 rfl ((F62 164 55 rfl).trans ((F61 164 55 rfl).trans ((F60 164 55 rfl).trans ((F59 164 55 rfl).trans ((F58 164 55 rfl).trans ((F57 164 55 rfl).trans ((F56 164 55 rfl).trans ((F55 164 55 rfl).trans ((F54 164 55 rfl).trans ((F53 164 55 rfl).trans ((F52 164 55 rfl).trans ((F51 164 55 rfl).trans ((F50 164 55 rfl).trans ((F49 164 55 rfl).trans ((F48 164 55 rfl).trans (f164_55 (h := h) hT)))))))))))))))) ?_
  refine am_e_iconst (w := 4) n97_78 rfl ?_
  refine am_e_iload_n n97_79 rfl ?_
  refine am_e_imul (w := 0) n97_80 (by decide) ?_
  refine am_e_iload_n n97_81 rfl ?_
  refine am_e_iadd (w := 0) n97_82 (by decide) ?_
  refine am_e_iaload (v := 0) (q := 0) n97_83 rfl (by decide) (by decide) ((F62 193 0 rfl).trans ((F61 193 0 rfl).trans ((F60 193 0 rfl).trans ((F59 193 0 rfl).trans ((F58 193 0 rfl).trans ((F57 193 0 rfl).trans ((F56 193 0 rfl).trans ((F55 193 0 rfl).trans ((F54 193 0 rfl).trans ((F53 193 0 rfl).trans ((F52 193 0 rfl).trans ((F51 193 0 rfl).trans ((F50 193 0 rfl).trans ((F49 193 0 rfl).trans ((F48 193 0 rfl).trans (f193_0 (h := h) hT)))))))))))))))) ?_
  refine am_e_iastore (q := 4) n97_84 rfl (by decide) (by decide) ?_
  refine am_e_iinc (w := 1) (ls' := [(3, .int 1), (0, .ref 164), (1, .int 1), (2, .int 0)]) n97_85 rfl rfl (by decide) rfl ?_
  refine am_e_goto c97_86 t97_86 ?_
  refine am_e_iload_n n97_34 rfl ?_
  refine am_e_iconst (w := 4) n97_35 rfl ?_
  refine am_e_cmpF n97_36 (am_c_geF (by decide)) ?_
  refine am_e_aload_n n97_37 rfl ?_
  refine am_e_getf (v := .ref 191) n97_38 rfl ((F62 164 53 rfl).trans ((F61 164 53 rfl).trans ((F60 164 53 rfl).trans ((F59 164 53 rfl).trans ((F58 164 53 rfl).trans ((F57 164 53 rfl).trans ((F56 164 53 rfl).trans ((F55 164 53 rfl).trans ((F54 164 53 rfl).trans ((F53 164 53 rfl).trans ((F52 164 53 rfl).trans ((F51 164 53 rfl).trans ((F50 164 53 rfl).trans ((F49 164 53 rfl).trans ((F48 164 53 rfl).trans (f164_53 (h := h) hT)))))))))))))))) ?_
  refine am_e_iconst (w := 4) n97_39 rfl ?_
  refine am_e_iload_n n97_40 rfl ?_
  refine am_e_imul (w := 4) n97_41 (by decide) ?_
  refine am_e_iload_n n97_42 rfl ?_
  refine am_e_iadd (w := 5) n97_43 (by decide) ?_
  refine am_e_aload_n n97_44 rfl ?_
  refine am_e_getf (v := .ref 191) n97_45 rfl ((F62 164 53 rfl).trans ((F61 164 53 rfl).trans ((F60 164 53 rfl).trans ((F59 164 53 rfl).trans ((F58 164 53 rfl).trans ((F57 164 53 rfl).trans ((F56 164 53 rfl).trans ((F55 164 53 rfl).trans ((F54 164 53 rfl).trans ((F53 164 53 rfl).trans ((F52 164 53 rfl).trans ((F51 164 53 rfl).trans ((F50 164 53 rfl).trans ((F49 164 53 rfl).trans ((F48 164 53 rfl).trans (f164_53 (h := h) hT)))))))))))))))) ?_
  refine am_e_iconst (w := 4) n97_46 rfl ?_
  refine am_e_iload_n n97_47 rfl ?_
  refine am_e_imul (w := 0) n97_48 (by decide) ?_
  refine am_e_iload_n n97_49 rfl ?_
  refine am_e_iadd (w := 1) n97_50 (by decide) ?_
  refine am_e_iaload (v := 0) (q := 1) n97_51 rfl (by decide) (by decide) ((F62 191 1 rfl).trans ((F61 191 1 rfl).trans ((F60 191 1 rfl).trans ((F59 191 1 rfl).trans ((F58 191 1 rfl).trans ((F57 191 1 rfl).trans ((F56 191 1 rfl).trans ((F55 191 1 rfl).trans ((F54 191 1 rfl).trans ((F53 191 1 rfl).trans ((F52 191 1 rfl).trans ((F51 191 1 rfl).trans ((F50 191 1 rfl).trans ((F49 191 1 rfl).trans ((F48 191 1 rfl).trans (f191_1 (h := h) hT)))))))))))))))) ?_
  refine am_e_iastore (q := 5) n97_52 rfl (by decide) (by decide) ?_
  refine am_e_aload_n n97_53 rfl ?_
  refine am_e_getf (v := .ref 192) n97_54 rfl ((F62 164 54 rfl).trans ((F61 164 54 rfl).trans ((F60 164 54 rfl).trans ((F59 164 54 rfl).trans ((F58 164 54 rfl).trans ((F57 164 54 rfl).trans ((F56 164 54 rfl).trans ((F55 164 54 rfl).trans ((F54 164 54 rfl).trans ((F53 164 54 rfl).trans ((F52 164 54 rfl).trans ((F51 164 54 rfl).trans ((F50 164 54 rfl).trans ((F49 164 54 rfl).trans ((F48 164 54 rfl).trans (f164_54 (h := h) hT)))))))))))))))) ?_
  refine am_e_iconst (w := 4) n97_55 rfl ?_
  refine am_e_iload_n n97_56 rfl ?_
  refine am_e_imul (w := 4) n97_57 (by decide) ?_
  refine am_e_iload_n n97_58 rfl ?_
  refine am_e_iadd (w := 5) n97_59 (by decide) ?_
  refine am_e_aload_n n97_60 rfl ?_
  refine am_e_getf (v := .ref 192) n97_61 rfl ((F62 164 54 rfl).trans ((F61 164 54 rfl).trans ((F60 164 54 rfl).trans ((F59 164 54 rfl).trans ((F58 164 54 rfl).trans ((F57 164 54 rfl).trans ((F56 164 54 rfl).trans ((F55 164 54 rfl).trans ((F54 164 54 rfl).trans ((F53 164 54 rfl).trans ((F52 164 54 rfl).trans ((F51 164 54 rfl).trans ((F50 164 54 rfl).trans ((F49 164 54 rfl).trans ((F48 164 54 rfl).trans (f164_54 (h := h) hT)))))))))))))))) ?_
  refine am_e_iconst (w := 4) n97_62 rfl ?_
  refine am_e_iload_n n97_63 rfl ?_
  refine am_e_imul (w := 0) n97_64 (by decide) ?_
  refine am_e_iload_n n97_65 rfl ?_
  refine am_e_iadd (w := 1) n97_66 (by decide) ?_
  refine am_e_iaload (v := 0) (q := 1) n97_67 rfl (by decide) (by decide) ((F62 192 1 rfl).trans ((F61 192 1 rfl).trans ((F60 192 1 rfl).trans ((F59 192 1 rfl).trans ((F58 192 1 rfl).trans ((F57 192 1 rfl).trans ((F56 192 1 rfl).trans ((F55 192 1 rfl).trans ((F54 192 1 rfl).trans ((F53 192 1 rfl).trans ((F52 192 1 rfl).trans ((F51 192 1 rfl).trans ((F50 192 1 rfl).trans ((F49 192 1 rfl).trans ((F48 192 1 rfl).trans (f192_1 (h := h) hT)))))))))))))))) ?_
  refine am_e_iastore (q := 5) n97_68 rfl (by decide) (by decide) ?_
  refine am_e_aload_n n97_69 rfl ?_
  refine am_e_getf (v := .ref 193) n97_70 rfl ((F62 164 55 rfl).trans ((F61 164 55 rfl).trans ((F60 164 55 rfl).trans ((F59 164 55 rfl).trans ((F58 164 55 rfl).trans ((F57 164 55 rfl).trans ((F56 164 55 rfl).trans ((F55 164 55 rfl).trans ((F54 164 55 rfl).trans ((F53 164 55 rfl).trans ((F52 164 55 rfl).trans ((F51 164 55 rfl).trans ((F50 164 55 rfl).trans ((F49 164 55 rfl).trans ((F48 164 55 rfl).trans (f164_55 (h := h) hT)))))))))))))))) ?_
  refine am_e_iconst (w := 4) n97_71 rfl ?_
  refine am_e_iload_n n97_72 rfl ?_
  refine am_e_imul (w := 4) n97_73 (by decide) ?_
  refine am_e_iload_n n97_74 rfl ?_
  refine am_e_iadd (w := 5) n97_75 (by decide) ?_
  refine am_e_aload_n n97_76 rfl ?_
  refine am_e_getf (v := .ref 193) n97_77 rfl ((F62 164 55 rfl).trans ((F61 164 55 rfl).trans ((F60 164 55 rfl).trans ((F59 164 55 rfl).trans ((F58 164 55 rfl).trans ((F57 164 55 rfl).trans ((F56 164 55 rfl).trans ((F55 164 55 rfl).trans ((F54 164 55 rfl).trans ((F53 164 55 rfl).trans ((F52 164 55 rfl).trans ((F51 164 55 rfl).trans ((F50 164 55 rfl).trans ((F49 164 55 rfl).trans ((F48 164 55 rfl).trans (f164_55 (h := h) hT)))))))))))))))) ?_
  refine am_e_iconst (w := 4) n97_78 rfl ?_
  refine am_e_iload_n n97_79 rfl ?_
  refine am_e_imul (w := 0) n97_80 (by decide) ?_
  refine am_e_iload_n n97_81 rfl ?_
  refine am_e_iadd (w := 1) n97_82 (by decide) ?_
  refine am_e_iaload (v := 0) (q := 1) n97_83 rfl (by decide) (by decide) ((F62 193 1 rfl).trans ((F61 193 1 rfl).trans ((F60 193 1 rfl).trans ((F59 193 1 rfl).trans ((F58 193 1 rfl).trans ((F57 193 1 rfl).trans ((F56 193 1 rfl).trans ((F55 193 1 rfl).trans ((F54 193 1 rfl).trans ((F53 193 1 rfl).trans ((F52 193 1 rfl).trans ((F51 193 1 rfl).trans ((F50 193 1 rfl).trans ((F49 193 1 rfl).trans ((F48 193 1 rfl).trans (f193_1 (h := h) hT)))))))))))))))) ?_
  refine am_e_iastore (q := 5) n97_84 rfl (by decide) (by decide) ?_
  refine am_e_iinc (w := 2) (ls' := [(3, .int 2), (0, .ref 164), (1, .int 1), (2, .int 0)]) n97_85 rfl rfl (by decide) rfl ?_
  refine am_e_goto c97_86 t97_86 ?_
  refine am_e_iload_n n97_34 rfl ?_
  refine am_e_iconst (w := 4) n97_35 rfl ?_
  refine am_e_cmpF n97_36 (am_c_geF (by decide)) ?_
  refine am_e_aload_n n97_37 rfl ?_
  refine am_e_getf (v := .ref 191) n97_38 rfl ((F62 164 53 rfl).trans ((F61 164 53 rfl).trans ((F60 164 53 rfl).trans ((F59 164 53 rfl).trans ((F58 164 53 rfl).trans ((F57 164 53 rfl).trans ((F56 164 53 rfl).trans ((F55 164 53 rfl).trans ((F54 164 53 rfl).trans ((F53 164 53 rfl).trans ((F52 164 53 rfl).trans ((F51 164 53 rfl).trans ((F50 164 53 rfl).trans ((F49 164 53 rfl).trans ((F48 164 53 rfl).trans (f164_53 (h := h) hT)))))))))))))))) ?_
  refine am_e_iconst (w := 4) n97_39 rfl ?_
  refine am_e_iload_n n97_40 rfl ?_
  refine am_e_imul (w := 4) n97_41 (by decide) ?_
  refine am_e_iload_n n97_42 rfl ?_
  refine am_e_iadd (w := 6) n97_43 (by decide) ?_
  refine am_e_aload_n n97_44 rfl ?_
  refine am_e_getf (v := .ref 191) n97_45 rfl ((F62 164 53 rfl).trans ((F61 164 53 rfl).trans ((F60 164 53 rfl).trans ((F59 164 53 rfl).trans ((F58 164 53 rfl).trans ((F57 164 53 rfl).trans ((F56 164 53 rfl).trans ((F55 164 53 rfl).trans ((F54 164 53 rfl).trans ((F53 164 53 rfl).trans ((F52 164 53 rfl).trans ((F51 164 53 rfl).trans ((F50 164 53 rfl).trans ((F49 164 53 rfl).trans ((F48 164 53 rfl).trans (f164_53 (h := h) hT)))))))))))))))) ?_
  refine am_e_iconst (w := 4) n97_46 rfl ?_
  refine am_e_iload_n n97_47 rfl ?_
  refine am_e_imul (w := 0) n97_48 (by decide) ?_
  refine am_e_iload_n n97_49 rfl ?_
  refine am_e_iadd (w := 2) n97_50 (by decide) ?_
  refine am_e_iaload (v := 0) (q := 2) n97_51 rfl (by decide) (by decide) ((F62 191 2 rfl).trans ((F61 191 2 rfl).trans ((F60 191 2 rfl).trans ((F59 191 2 rfl).trans ((F58 191 2 rfl).trans ((F57 191 2 rfl).trans ((F56 191 2 rfl).trans ((F55 191 2 rfl).trans ((F54 191 2 rfl).trans ((F53 191 2 rfl).trans ((F52 191 2 rfl).trans ((F51 191 2 rfl).trans ((F50 191 2 rfl).trans ((F49 191 2 rfl).trans ((F48 191 2 rfl).trans (f191_2 (h := h) hT)))))))))))))))) ?_
  refine am_e_iastore (q := 6) n97_52 rfl (by decide) (by decide) ?_
  refine am_e_aload_n n97_53 rfl ?_
  refine am_e_getf (v := .ref 192) n97_54 rfl ((F62 164 54 rfl).trans ((F61 164 54 rfl).trans ((F60 164 54 rfl).trans ((F59 164 54 rfl).trans ((F58 164 54 rfl).trans ((F57 164 54 rfl).trans ((F56 164 54 rfl).trans ((F55 164 54 rfl).trans ((F54 164 54 rfl).trans ((F53 164 54 rfl).trans ((F52 164 54 rfl).trans ((F51 164 54 rfl).trans ((F50 164 54 rfl).trans ((F49 164 54 rfl).trans ((F48 164 54 rfl).trans (f164_54 (h := h) hT)))))))))))))))) ?_
  refine am_e_iconst (w := 4) n97_55 rfl ?_
  refine am_e_iload_n n97_56 rfl ?_
  refine am_e_imul (w := 4) n97_57 (by decide) ?_
  refine am_e_iload_n n97_58 rfl ?_
  refine am_e_iadd (w := 6) n97_59 (by decide) ?_
  refine am_e_aload_n n97_60 rfl ?_
  refine am_e_getf (v := .ref 192) n97_61 rfl ((F62 164 54 rfl).trans ((F61 164 54 rfl).trans ((F60 164 54 rfl).trans ((F59 164 54 rfl).trans ((F58 164 54 rfl).trans ((F57 164 54 rfl).trans ((F56 164 54 rfl).trans ((F55 164 54 rfl).trans ((F54 164 54 rfl).trans ((F53 164 54 rfl).trans ((F52 164 54 rfl).trans ((F51 164 54 rfl).trans ((F50 164 54 rfl).trans ((F49 164 54 rfl).trans ((F48 164 54 rfl).trans (f164_54 (h := h) hT)))))))))))))))) ?_
  refine am_e_iconst (w := 4) n97_62 rfl ?_
  refine am_e_iload_n n97_63 rfl ?_
  refine am_e_imul (w := 0) n97_64 (by decide) ?_
  refine am_e_iload_n n97_65 rfl ?_
  refine am_e_iadd (w := 2) n97_66 (by decide) ?_
  refine am_e_iaload (v := 0) (q := 2) n97_67 rfl (by decide) (by decide) ((F62 192 2 rfl).trans ((F61 192 2 rfl).trans ((F60 192 2 rfl).trans ((F59 192 2 rfl).trans ((F58 192 2 rfl).trans ((F57 192 2 rfl).trans ((F56 192 2 rfl).trans ((F55 192 2 rfl).trans ((F54 192 2 rfl).trans ((F53 192 2 rfl).trans ((F52 192 2 rfl).trans ((F51 192 2 rfl).trans ((F50 192 2 rfl).trans ((F49 192 2 rfl).trans ((F48 192 2 rfl).trans (f192_2 (h := h) hT)))))))))))))))) ?_
  refine am_e_iastore (q := 6) n97_68 rfl (by decide) (by decide) ?_
  refine am_e_aload_n n97_69 rfl ?_
  refine am_e_getf (v := .ref 193) n97_70 rfl ((F62 164 55 rfl).trans ((F61 164 55 rfl).trans ((F60 164 55 rfl).trans ((F59 164 55 rfl).trans ((F58 164 55 rfl).trans ((F57 164 55 rfl).trans ((F56 164 55 rfl).trans ((F55 164 55 rfl).trans ((F54 164 55 rfl).trans ((F53 164 55 rfl).trans ((F52 164 55 rfl).trans ((F51 164 55 rfl).trans ((F50 164 55 rfl).trans ((F49 164 55 rfl).trans ((F48 164 55 rfl).trans (f164_55 (h := h) hT)))))))))))))))) ?_
  refine am_e_iconst (w := 4) n97_71 rfl ?_
  refine am_e_iload_n n97_72 rfl ?_
  refine am_e_imul (w := 4) n97_73 (by decide) ?_
  refine am_e_iload_n n97_74 rfl ?_
  refine am_e_iadd (w := 6) n97_75 (by decide) ?_
  refine am_e_aload_n n97_76 rfl ?_
  refine am_e_getf (v := .ref 193) n97_77 rfl ((F62 164 55 rfl).trans ((F61 164 55 rfl).trans ((F60 164 55 rfl).trans ((F59 164 55 rfl).trans ((F58 164 55 rfl).trans ((F57 164 55 rfl).trans ((F56 164 55 rfl).trans ((F55 164 55 rfl).trans ((F54 164 55 rfl).trans ((F53 164 55 rfl).trans ((F52 164 55 rfl).trans ((F51 164 55 rfl).trans ((F50 164 55 rfl).trans ((F49 164 55 rfl).trans ((F48 164 55 rfl).trans (f164_55 (h := h) hT)))))))))))))))) ?_
  refine am_e_iconst (w := 4) n97_78 rfl ?_
  refine am_e_iload_n n97_79 rfl ?_
  refine am_e_imul (w := 0) n97_80 (by decide) ?_
  refine am_e_iload_n n97_81 rfl ?_
  refine am_e_iadd (w := 2) n97_82 (by decide) ?_
  refine am_e_iaload (v := 0) (q := 2) n97_83 rfl (by decide) (by decide) ((F62 193 2 rfl).trans ((F61 193 2 rfl).trans ((F60 193 2 rfl).trans ((F59 193 2 rfl).trans ((F58 193 2 rfl).trans ((F57 193 2 rfl).trans ((F56 193 2 rfl).trans ((F55 193 2 rfl).trans ((F54 193 2 rfl).trans ((F53 193 2 rfl).trans ((F52 193 2 rfl).trans ((F51 193 2 rfl).trans ((F50 193 2 rfl).trans ((F49 193 2 rfl).trans ((F48 193 2 rfl).trans (f193_2 (h := h) hT)))))))))))))))) ?_
  refine am_e_iastore (q := 6) n97_84 rfl (by decide) (by decide) ?_
  refine am_e_iinc (w := 3) (ls' := [(3, .int 3), (0, .ref 164), (1, .int 1), (2, .int 0)]) n97_85 rfl rfl (by decide) rfl ?_
  refine am_e_goto c97_86 t97_86 ?_
  refine am_e_iload_n n97_34 rfl ?_
  refine am_e_iconst (w := 4) n97_35 rfl ?_
  refine am_e_cmpF n97_36 (am_c_geF (by decide)) ?_
  refine am_e_aload_n n97_37 rfl ?_
  refine am_e_getf (v := .ref 191) n97_38 rfl ((F62 164 53 rfl).trans ((F61 164 53 rfl).trans ((F60 164 53 rfl).trans ((F59 164 53 rfl).trans ((F58 164 53 rfl).trans ((F57 164 53 rfl).trans ((F56 164 53 rfl).trans ((F55 164 53 rfl).trans ((F54 164 53 rfl).trans ((F53 164 53 rfl).trans ((F52 164 53 rfl).trans ((F51 164 53 rfl).trans ((F50 164 53 rfl).trans ((F49 164 53 rfl).trans ((F48 164 53 rfl).trans (f164_53 (h := h) hT)))))))))))))))) ?_
  refine am_e_iconst (w := 4) n97_39 rfl ?_
  refine am_e_iload_n n97_40 rfl ?_
  refine am_e_imul (w := 4) n97_41 (by decide) ?_
  refine am_e_iload_n n97_42 rfl ?_
  refine am_e_iadd (w := 7) n97_43 (by decide) ?_
  refine am_e_aload_n n97_44 rfl ?_
  refine am_e_getf (v := .ref 191) n97_45 rfl ((F62 164 53 rfl).trans ((F61 164 53 rfl).trans ((F60 164 53 rfl).trans ((F59 164 53 rfl).trans ((F58 164 53 rfl).trans ((F57 164 53 rfl).trans ((F56 164 53 rfl).trans ((F55 164 53 rfl).trans ((F54 164 53 rfl).trans ((F53 164 53 rfl).trans ((F52 164 53 rfl).trans ((F51 164 53 rfl).trans ((F50 164 53 rfl).trans ((F49 164 53 rfl).trans ((F48 164 53 rfl).trans (f164_53 (h := h) hT)))))))))))))))) ?_
  refine am_e_iconst (w := 4) n97_46 rfl ?_
  refine am_e_iload_n n97_47 rfl ?_
  refine am_e_imul (w := 0) n97_48 (by decide) ?_
  refine am_e_iload_n n97_49 rfl ?_
  refine am_e_iadd (w := 3) n97_50 (by decide) ?_
  refine am_e_iaload (v := 0) (q := 3) n97_51 rfl (by decide) (by decide) ((F62 191 3 rfl).trans ((F61 191 3 rfl).trans ((F60 191 3 rfl).trans ((F59 191 3 rfl).trans ((F58 191 3 rfl).trans ((F57 191 3 rfl).trans ((F56 191 3 rfl).trans ((F55 191 3 rfl).trans ((F54 191 3 rfl).trans ((F53 191 3 rfl).trans ((F52 191 3 rfl).trans ((F51 191 3 rfl).trans ((F50 191 3 rfl).trans ((F49 191 3 rfl).trans ((F48 191 3 rfl).trans (f191_3 (h := h) hT)))))))))))))))) ?_
  refine am_e_iastore (q := 7) n97_52 rfl (by decide) (by decide) ?_
  refine am_e_aload_n n97_53 rfl ?_
  refine am_e_getf (v := .ref 192) n97_54 rfl ((F62 164 54 rfl).trans ((F61 164 54 rfl).trans ((F60 164 54 rfl).trans ((F59 164 54 rfl).trans ((F58 164 54 rfl).trans ((F57 164 54 rfl).trans ((F56 164 54 rfl).trans ((F55 164 54 rfl).trans ((F54 164 54 rfl).trans ((F53 164 54 rfl).trans ((F52 164 54 rfl).trans ((F51 164 54 rfl).trans ((F50 164 54 rfl).trans ((F49 164 54 rfl).trans ((F48 164 54 rfl).trans (f164_54 (h := h) hT)))))))))))))))) ?_
  refine am_e_iconst (w := 4) n97_55 rfl ?_
  refine am_e_iload_n n97_56 rfl ?_
  refine am_e_imul (w := 4) n97_57 (by decide) ?_
  refine am_e_iload_n n97_58 rfl ?_
  refine am_e_iadd (w := 7) n97_59 (by decide) ?_
  refine am_e_aload_n n97_60 rfl ?_
  refine am_e_getf (v := .ref 192) n97_61 rfl ((F62 164 54 rfl).trans ((F61 164 54 rfl).trans ((F60 164 54 rfl).trans ((F59 164 54 rfl).trans ((F58 164 54 rfl).trans ((F57 164 54 rfl).trans ((F56 164 54 rfl).trans ((F55 164 54 rfl).trans ((F54 164 54 rfl).trans ((F53 164 54 rfl).trans ((F52 164 54 rfl).trans ((F51 164 54 rfl).trans ((F50 164 54 rfl).trans ((F49 164 54 rfl).trans ((F48 164 54 rfl).trans (f164_54 (h := h) hT)))))))))))))))) ?_
  refine am_e_iconst (w := 4) n97_62 rfl ?_
  refine am_e_iload_n n97_63 rfl ?_
  refine am_e_imul (w := 0) n97_64 (by decide) ?_
  refine am_e_iload_n n97_65 rfl ?_
  refine am_e_iadd (w := 3) n97_66 (by decide) ?_
  refine am_e_iaload (v := 0) (q := 3) n97_67 rfl (by decide) (by decide) ((F62 192 3 rfl).trans ((F61 192 3 rfl).trans ((F60 192 3 rfl).trans ((F59 192 3 rfl).trans ((F58 192 3 rfl).trans ((F57 192 3 rfl).trans ((F56 192 3 rfl).trans ((F55 192 3 rfl).trans ((F54 192 3 rfl).trans ((F53 192 3 rfl).trans ((F52 192 3 rfl).trans ((F51 192 3 rfl).trans ((F50 192 3 rfl).trans ((F49 192 3 rfl).trans ((F48 192 3 rfl).trans (f192_3 (h := h) hT)))))))))))))))) ?_
  refine am_e_iastore (q := 7) n97_68 rfl (by decide) (by decide) ?_
  refine am_e_aload_n n97_69 rfl ?_
  refine am_e_getf (v := .ref 193) n97_70 rfl ((F62 164 55 rfl).trans ((F61 164 55 rfl).trans ((F60 164 55 rfl).trans ((F59 164 55 rfl).trans ((F58 164 55 rfl).trans ((F57 164 55 rfl).trans ((F56 164 55 rfl).trans ((F55 164 55 rfl).trans ((F54 164 55 rfl).trans ((F53 164 55 rfl).trans ((F52 164 55 rfl).trans ((F51 164 55 rfl).trans ((F50 164 55 rfl).trans ((F49 164 55 rfl).trans ((F48 164 55 rfl).trans (f164_55 (h := h) hT)))))))))))))))) ?_
  refine am_e_iconst (w := 4) n97_71 rfl ?_
  refine am_e_iload_n n97_72 rfl ?_
  refine am_e_imul (w := 4) n97_73 (by decide) ?_
  refine am_e_iload_n n97_74 rfl ?_
  refine am_e_iadd (w := 7) n97_75 (by decide) ?_
  refine am_e_aload_n n97_76 rfl ?_
  refine am_e_getf (v := .ref 193) n97_77 rfl ((F62 164 55 rfl).trans ((F61 164 55 rfl).trans ((F60 164 55 rfl).trans ((F59 164 55 rfl).trans ((F58 164 55 rfl).trans ((F57 164 55 rfl).trans ((F56 164 55 rfl).trans ((F55 164 55 rfl).trans ((F54 164 55 rfl).trans ((F53 164 55 rfl).trans ((F52 164 55 rfl).trans ((F51 164 55 rfl).trans ((F50 164 55 rfl).trans ((F49 164 55 rfl).trans ((F48 164 55 rfl).trans (f164_55 (h := h) hT)))))))))))))))) ?_
  refine am_e_iconst (w := 4) n97_78 rfl ?_
  refine am_e_iload_n n97_79 rfl ?_
  refine am_e_imul (w := 0) n97_80 (by decide) ?_
  refine am_e_iload_n n97_81 rfl ?_
  refine am_e_iadd (w := 3) n97_82 (by decide) ?_
  refine am_e_iaload (v := 0) (q := 3) n97_83 rfl (by decide) (by decide) ((F62 193 3 rfl).trans ((F61 193 3 rfl).trans ((F60 193 3 rfl).trans ((F59 193 3 rfl).trans ((F58 193 3 rfl).trans ((F57 193 3 rfl).trans ((F56 193 3 rfl).trans ((F55 193 3 rfl).trans ((F54 193 3 rfl).trans ((F53 193 3 rfl).trans ((F52 193 3 rfl).trans ((F51 193 3 rfl).trans ((F50 193 3 rfl).trans ((F49 193 3 rfl).trans ((F48 193 3 rfl).trans (f193_3 (h := h) hT)))))))))))))))) ?_
  refine am_e_iastore (q := 7) n97_84 rfl (by decide) (by decide) ?_
  refine am_e_iinc (w := 4) (ls' := [(3, .int 4), (0, .ref 164), (1, .int 1), (2, .int 0)]) n97_85 rfl rfl (by decide) rfl ?_
  refine am_e_goto c97_86 t97_86 ?_
  refine am_e_iload_n n97_34 rfl ?_
  refine am_e_iconst (w := 4) n97_35 rfl ?_
  refine am_e_cmpT n97_36 (am_c_geT (by decide)) t97_36 ?_
  refine am_e_vret c97_87 rfl rfl ?_
  refine am_e_iconst (w := 0) n127_35 rfl ?_
  refine am_e_istore (ls' := [(8, .int 0), (7, .int 5), (6, .int 0), (0, .ref 164), (2, .int (nI n)), (3, .int (nI b)), (4, .long 0)]) n127_36 rfl rfl ?_
  refine am_Ek_ls (ls' := [(0, .ref 164), (2, .int (nI n)), (3, .int (nI b)), (4, .long 0), (6, .int 0), (7, .int 5), (8, .int (nI 0))]) ⟨rfl, rfl, rfl, rfl, rfl, rfl, rfl, trivial⟩ ?_
  refine am_cm_e (n := n) (b := b) (s := 0) (t := 0) (i7 := 5) (dr := dr62) (by omega) (by omega) ⟨((F62 164 23 rfl).trans ((F61 164 23 rfl).trans ((F60 164 23 rfl).trans ((F59 164 23 rfl).trans ((F58 164 23 rfl).trans ((F57 164 23 rfl).trans ((F56 164 23 rfl).trans ((F55 164 23 rfl).trans ((F54 164 23 rfl).trans ((F53 164 23 rfl).trans ((F52 164 23 rfl).trans ((F51 164 23 rfl).trans ((F50 164 23 rfl).trans ((F49 164 23 rfl).trans ((F48 164 23 rfl).trans (f164_23 (h := h) hT)))))))))))))))), ((F62 168 4 rfl).trans ((F61 168 4 rfl).trans ((F60 168 4 rfl).trans ((F59 168 4 rfl).trans ((F58 168 4 rfl).trans ((F57 168 4 rfl).trans ((F56 168 4 rfl).trans ((F55 168 4 rfl).trans ((F54 168 4 rfl).trans ((F53 168 4 rfl).trans ((F52 168 4 rfl).trans ((F51 168 4 rfl).trans ((F50 168 4 rfl).trans ((F49 168 4 rfl).trans ((F48 168 4 rfl).trans (f168_4 (h := h) hT)))))))))))))))), ((F62 164 50 rfl).trans ((F61 164 50 rfl).trans ((F60 164 50 rfl).trans ((F59 164 50 rfl).trans ((F58 164 50 rfl).trans ((F57 164 50 rfl).trans ((F56 164 50 rfl).trans ((F55 164 50 rfl).trans ((F54 164 50 rfl).trans ((F53 164 50 rfl).trans ((F52 164 50 rfl).trans ((F51 164 50 rfl).trans ((F50 164 50 rfl).trans ((F49 164 50 rfl).trans ((F48 164 50 rfl).trans (f164_50 (h := h) hT)))))))))))))))), ((F62 164 61 rfl).trans ((F61 164 61 rfl).trans ((F60 164 61 rfl).trans ((F59 164 61 rfl).trans ((F58 164 61 rfl).trans ((F57 164 61 rfl).trans ((F56 164 61 rfl).trans ((F55 164 61 rfl).trans ((F54 164 61 rfl).trans ((F53 164 61 rfl).trans ((F52 164 61 rfl).trans ((F51 164 61 rfl).trans ((F50 164 61 rfl).trans ((F49 164 61 rfl).trans ((F48 164 61 rfl).trans (f164_61 (h := h) hT)))))))))))))))), ((F62 164 47 rfl).trans ((F61 164 47 rfl).trans ((F60 164 47 rfl).trans ((F59 164 47 rfl).trans ((F58 164 47 rfl).trans ((F57 164 47 rfl).trans ((F56 164 47 rfl).trans ((F55 164 47 rfl).trans ((F54 164 47 rfl).trans ((F53 164 47 rfl).trans ((F52 164 47 rfl).trans ((F51 164 47 rfl).trans ((F50 164 47 rfl).trans ((F49 164 47 rfl).trans ((F48 164 47 rfl).trans (f164_47 (h := h) hT)))))))))))))))), ((F62 168 0 rfl).trans ((F61 168 0 rfl).trans ((F60 168 0 rfl).trans ((F59 168 0 rfl).trans ((F58 168 0 rfl).trans ((F57 168 0 rfl).trans ((F56 168 0 rfl).trans ((F55 168 0 rfl).trans ((F54 168 0 rfl).trans ((F53 168 0 rfl).trans ((F52 168 0 rfl).trans ((F51 168 0 rfl).trans ((F50 168 0 rfl).trans ((F49 168 0 rfl).trans ((F48 168 0 rfl).trans (f168_0 (h := h) hT)))))))))))))))), ((F62 164 51 rfl).trans ((F61 164 51 rfl).trans ((F60 164 51 rfl).trans ((F59 164 51 rfl).trans ((F58 164 51 rfl).trans ((F57 164 51 rfl).trans ((F56 164 51 rfl).trans ((F55 164 51 rfl).trans ((F54 164 51 rfl).trans ((F53 164 51 rfl).trans ((F52 164 51 rfl).trans ((F51 164 51 rfl).trans ((F50 164 51 rfl).trans ((F49 164 51 rfl).trans ((F48 164 51 rfl).trans (f164_51 (h := h) hT)))))))))))))))), ((F62 164 33 rfl).trans ((F61 164 33 rfl).trans ((F60 164 33 rfl).trans ((F59 164 33 rfl).trans ((F58 164 33 rfl).trans ((F57 164 33 rfl).trans ((F56 164 33 rfl).trans ((F55 164 33 rfl).trans ((F54 164 33 rfl).trans ((F53 164 33 rfl).trans ((F52 164 33 rfl).trans ((F51 164 33 rfl).trans ((F50 164 33 rfl).trans ((F49 164 33 rfl).trans ((F48 164 33 rfl).trans (f164_33 (h := h) hT)))))))))))))))), ((F62 178 2 rfl).trans ((F61 178 2 rfl).trans ((F60 178 2 rfl).trans ((F59 178 2 rfl).trans ((F58 178 2 rfl).trans ((F57 178 2 rfl).trans ((F56 178 2 rfl).trans ((F55 178 2 rfl).trans ((F54 178 2 rfl).trans ((F53 178 2 rfl).trans ((F52 178 2 rfl).trans ((F51 178 2 rfl).trans ((F50 178 2 rfl).trans ((F49 178 2 rfl).trans ((F48 178 2 rfl).trans (f178_2 (h := h) hT)))))))))))))))), ((F62 178 0 rfl).trans ((F61 178 0 rfl).trans ((F60 178 0 rfl).trans ((F59 178 0 rfl).trans ((F58 178 0 rfl).trans ((F57 178 0 rfl).trans ((F56 178 0 rfl).trans ((F55 178 0 rfl).trans ((F54 178 0 rfl).trans ((F53 178 0 rfl).trans ((F52 178 0 rfl).trans ((F51 178 0 rfl).trans ((F50 178 0 rfl).trans ((F49 178 0 rfl).trans ((F48 178 0 rfl).trans (f178_0 (h := h) hT)))))))))))))))), ((F62 164 62 rfl).trans ((F61 164 62 rfl).trans ((F60 164 62 rfl).trans ((F59 164 62 rfl).trans ((F58 164 62 rfl).trans ((F57 164 62 rfl).trans ((F56 164 62 rfl).trans ((F55 164 62 rfl).trans ((F54 164 62 rfl).trans ((F53 164 62 rfl).trans ((F52 164 62 rfl).trans ((F51 164 62 rfl).trans ((F50 164 62 rfl).trans ((F49 164 62 rfl).trans ((F48 164 62 rfl).trans (f164_62 (h := h) hT)))))))))))))))), ((F62 164 58 rfl).trans ((F61 164 58 rfl).trans ((F60 164 58 rfl).trans ((F59 164 58 rfl).trans ((F58 164 58 rfl).trans ((F57 164 58 rfl).trans ((F56 164 58 rfl).trans ((F55 164 58 rfl).trans ((F54 164 58 rfl).trans ((F53 164 58 rfl).trans ((F52 164 58 rfl).trans ((F51 164 58 rfl).trans ((F50 164 58 rfl).trans ((F49 164 58 rfl).trans ((F48 164 58 rfl).trans (f164_58 (h := h) hT)))))))))))))))), ((F62 164 60 rfl).trans ((F61 164 60 rfl).trans ((F60 164 60 rfl).trans ((F59 164 60 rfl).trans ((F58 164 60 rfl).trans ((F57 164 60 rfl).trans ((F56 164 60 rfl).trans ((F55 164 60 rfl).trans ((F54 164 60 rfl).trans ((F53 164 60 rfl).trans ((F52 164 60 rfl).trans ((F51 164 60 rfl).trans ((F50 164 60 rfl).trans ((F49 164 60 rfl).trans ((F48 164 60 rfl).trans (f164_60 (h := h) hT)))))))))))))))), trivial⟩ rfl rfl qc62 ?_
  intro h63 dr63 F63 qa63 qb63 qc63
  refine am_e_iload n127_59 rfl ?_
  refine am_e_aload_n n127_60 rfl ?_
  refine am_e_getf (v := .ref 188) n127_61 rfl ((F63 164 50 rfl).trans ((F62 164 50 rfl).trans ((F61 164 50 rfl).trans ((F60 164 50 rfl).trans ((F59 164 50 rfl).trans ((F58 164 50 rfl).trans ((F57 164 50 rfl).trans ((F56 164 50 rfl).trans ((F55 164 50 rfl).trans ((F54 164 50 rfl).trans ((F53 164 50 rfl).trans ((F52 164 50 rfl).trans ((F51 164 50 rfl).trans ((F50 164 50 rfl).trans ((F49 164 50 rfl).trans ((F48 164 50 rfl).trans (f164_50 (h := h) hT))))))))))))))))) ?_
  refine am_e_iconst (w := 1) n127_62 rfl ?_
  refine am_e_iaload (v := 0) (q := 1) n127_63 rfl (by decide) (by decide) qa63 ?_
  refine am_e_iload_n n127_64 rfl ?_
  refine am_e_cmpT n127_65 (am_c_ltT (nI_lt (a := 0) hb0 (by omega))) t127_65 ?_
  refine am_e_iconst (w := 0) n127_68 rfl ?_
  refine am_e_iadd (w := 0) n127_69 (by decide) ?_
  refine am_e_istore (ls' := [(6, .int 0), (0, .ref 164), (2, .int (nI n)), (3, .int (nI b)), (4, .long 0), (7, .int 5), (8, .int (nI n))]) n127_70 rfl rfl ?_
  refine am_e_iinc (w := 6) (ls' := [(7, .int 6), (6, .int 0), (0, .ref 164), (2, .int (nI n)), (3, .int (nI b)), (4, .long 0), (8, .int (nI n))]) n127_71 rfl rfl (by decide) rfl ?_
  refine am_e_goto c127_72 t127_72 ?_
  refine am_e_iload n127_28 rfl ?_
  refine am_e_bipush (w := 10) n127_29 (by decide) ?_
  refine am_e_cmpF n127_30 (am_c_geF (by decide)) ?_
  refine am_e_aload_n n127_31 rfl ?_
  refine am_e_iconst (w := 1) n127_32 rfl ?_
  refine am_e_iconst (w := 0) n127_33 rfl ?_
  refine am_e_callV (L := [(0, .ref 164), (1, .int 1), (2, .int 0)]) n127_34 rfl rfl rfl rfl rfl rfl rfl rfl ?_
  refine am_e_aload_n n97_0 rfl ?_
  refine am_e_getf (v := .ref 188) n97_1 rfl ((F63 164 50 rfl).trans ((F62 164 50 rfl).trans ((F61 164 50 rfl).trans ((F60 164 50 rfl).trans ((F59 164 50 rfl).trans ((F58 164 50 rfl).trans ((F57 164 50 rfl).trans ((F56 164 50 rfl).trans ((F55 164 50 rfl).trans ((F54 164 50 rfl).trans ((F53 164 50 rfl).trans ((F52 164 50 rfl).trans ((F51 164 50 rfl).trans ((F50 164 50 rfl).trans ((F49 164 50 rfl).trans ((F48 164 50 rfl).trans (f164_50 (h := h) hT))))))))))))))))) ?_
  refine am_e_iload_n n97_2 rfl ?_
  refine am_e_aload_n n97_3 rfl ?_
  refine am_e_getf (v := .ref 188) n97_4 rfl ((F63 164 50 rfl).trans ((F62 164 50 rfl).trans ((F61 164 50 rfl).trans ((F60 164 50 rfl).trans ((F59 164 50 rfl).trans ((F58 164 50 rfl).trans ((F57 164 50 rfl).trans ((F56 164 50 rfl).trans ((F55 164 50 rfl).trans ((F54 164 50 rfl).trans ((F53 164 50 rfl).trans ((F52 164 50 rfl).trans ((F51 164 50 rfl).trans ((F50 164 50 rfl).trans ((F49 164 50 rfl).trans ((F48 164 50 rfl).trans (f164_50 (h := h) hT))))))))))))))))) ?_
  refine am_e_iload_n n97_5 rfl ?_
  refine am_e_iaload (v := 0) (q := 0) n97_6 rfl (by decide) (by decide) ((F63 188 0 rfl).trans ((F62 188 0 rfl).trans ((F61 188 0 rfl).trans ((F60 188 0 rfl).trans ((F59 188 0 rfl).trans ((F58 188 0 rfl).trans ((F57 188 0 rfl).trans ((F56 188 0 rfl).trans ((F55 188 0 rfl).trans ((F54 188 0 rfl).trans ((F53 188 0 rfl).trans ((F52 188 0 rfl).trans ((F51 188 0 rfl).trans ((F50 188 0 rfl).trans ((F49 188 0 rfl).trans ((F48 188 0 rfl).trans (f188_0 (h := h) hT))))))))))))))))) ?_
  refine am_e_iastore (q := 1) n97_7 rfl (by decide) (by decide) ?_
  refine am_e_aload_n n97_8 rfl ?_
  refine am_e_getf (v := .ref 189) n97_9 rfl ((F63 164 51 rfl).trans ((F62 164 51 rfl).trans ((F61 164 51 rfl).trans ((F60 164 51 rfl).trans ((F59 164 51 rfl).trans ((F58 164 51 rfl).trans ((F57 164 51 rfl).trans ((F56 164 51 rfl).trans ((F55 164 51 rfl).trans ((F54 164 51 rfl).trans ((F53 164 51 rfl).trans ((F52 164 51 rfl).trans ((F51 164 51 rfl).trans ((F50 164 51 rfl).trans ((F49 164 51 rfl).trans ((F48 164 51 rfl).trans (f164_51 (h := h) hT))))))))))))))))) ?_
  refine am_e_iload_n n97_10 rfl ?_
  refine am_e_aload_n n97_11 rfl ?_
  refine am_e_getf (v := .ref 189) n97_12 rfl ((F63 164 51 rfl).trans ((F62 164 51 rfl).trans ((F61 164 51 rfl).trans ((F60 164 51 rfl).trans ((F59 164 51 rfl).trans ((F58 164 51 rfl).trans ((F57 164 51 rfl).trans ((F56 164 51 rfl).trans ((F55 164 51 rfl).trans ((F54 164 51 rfl).trans ((F53 164 51 rfl).trans ((F52 164 51 rfl).trans ((F51 164 51 rfl).trans ((F50 164 51 rfl).trans ((F49 164 51 rfl).trans ((F48 164 51 rfl).trans (f164_51 (h := h) hT))))))))))))))))) ?_
  refine am_e_iload_n n97_13 rfl ?_
  refine am_e_iaload (v := 0) (q := 0) n97_14 rfl (by decide) (by decide) ((F63 189 0 rfl).trans ((F62 189 0 rfl).trans ((F61 189 0 rfl).trans ((F60 189 0 rfl).trans ((F59 189 0 rfl).trans ((F58 189 0 rfl).trans ((F57 189 0 rfl).trans ((F56 189 0 rfl).trans ((F55 189 0 rfl).trans ((F54 189 0 rfl).trans ((F53 189 0 rfl).trans ((F52 189 0 rfl).trans ((F51 189 0 rfl).trans ((F50 189 0 rfl).trans ((F49 189 0 rfl).trans ((F48 189 0 rfl).trans (f189_0 (h := h) hT))))))))))))))))) ?_
  refine am_e_iastore (q := 1) n97_15 rfl (by decide) (by decide) ?_
  refine am_e_aload_n n97_16 rfl ?_
  refine am_e_getf (v := .ref 190) n97_17 rfl ((F63 164 52 rfl).trans ((F62 164 52 rfl).trans ((F61 164 52 rfl).trans ((F60 164 52 rfl).trans ((F59 164 52 rfl).trans ((F58 164 52 rfl).trans ((F57 164 52 rfl).trans ((F56 164 52 rfl).trans ((F55 164 52 rfl).trans ((F54 164 52 rfl).trans ((F53 164 52 rfl).trans ((F52 164 52 rfl).trans ((F51 164 52 rfl).trans ((F50 164 52 rfl).trans ((F49 164 52 rfl).trans ((F48 164 52 rfl).trans (f164_52 (h := h) hT))))))))))))))))) ?_
  refine am_e_iload_n n97_18 rfl ?_
  refine am_e_aload_n n97_19 rfl ?_
  refine am_e_getf (v := .ref 190) n97_20 rfl ((F63 164 52 rfl).trans ((F62 164 52 rfl).trans ((F61 164 52 rfl).trans ((F60 164 52 rfl).trans ((F59 164 52 rfl).trans ((F58 164 52 rfl).trans ((F57 164 52 rfl).trans ((F56 164 52 rfl).trans ((F55 164 52 rfl).trans ((F54 164 52 rfl).trans ((F53 164 52 rfl).trans ((F52 164 52 rfl).trans ((F51 164 52 rfl).trans ((F50 164 52 rfl).trans ((F49 164 52 rfl).trans ((F48 164 52 rfl).trans (f164_52 (h := h) hT))))))))))))))))) ?_
  refine am_e_iload_n n97_21 rfl ?_
  refine am_e_iaload (v := (-1)) (q := 0) n97_22 rfl (by decide) (by decide) ((F63 190 0 rfl).trans ((F62 190 0 rfl).trans ((F61 190 0 rfl).trans ((F60 190 0 rfl).trans ((F59 190 0 rfl).trans ((F58 190 0 rfl).trans ((F57 190 0 rfl).trans ((F56 190 0 rfl).trans ((F55 190 0 rfl).trans ((F54 190 0 rfl).trans ((F53 190 0 rfl).trans ((F52 190 0 rfl).trans ((F51 190 0 rfl).trans ((F50 190 0 rfl).trans ((F49 190 0 rfl).trans ((F48 190 0 rfl).trans (f190_0 (h := h) hT))))))))))))))))) ?_
  refine am_e_iastore (q := 1) n97_23 rfl (by decide) (by decide) ?_
  refine am_e_aload_n n97_24 rfl ?_
  refine am_e_getf (v := .ref 194) n97_25 rfl ((F63 164 56 rfl).trans ((F62 164 56 rfl).trans ((F61 164 56 rfl).trans ((F60 164 56 rfl).trans ((F59 164 56 rfl).trans ((F58 164 56 rfl).trans ((F57 164 56 rfl).trans ((F56 164 56 rfl).trans ((F55 164 56 rfl).trans ((F54 164 56 rfl).trans ((F53 164 56 rfl).trans ((F52 164 56 rfl).trans ((F51 164 56 rfl).trans ((F50 164 56 rfl).trans ((F49 164 56 rfl).trans ((F48 164 56 rfl).trans (f164_56 (h := h) hT))))))))))))))))) ?_
  refine am_e_iload_n n97_26 rfl ?_
  refine am_e_aload_n n97_27 rfl ?_
  refine am_e_getf (v := .ref 194) n97_28 rfl ((F63 164 56 rfl).trans ((F62 164 56 rfl).trans ((F61 164 56 rfl).trans ((F60 164 56 rfl).trans ((F59 164 56 rfl).trans ((F58 164 56 rfl).trans ((F57 164 56 rfl).trans ((F56 164 56 rfl).trans ((F55 164 56 rfl).trans ((F54 164 56 rfl).trans ((F53 164 56 rfl).trans ((F52 164 56 rfl).trans ((F51 164 56 rfl).trans ((F50 164 56 rfl).trans ((F49 164 56 rfl).trans ((F48 164 56 rfl).trans (f164_56 (h := h) hT))))))))))))))))) ?_
  refine am_e_iload_n n97_29 rfl ?_
  refine am_e_iaload (v := 0) (q := 0) n97_30 rfl (by decide) (by decide) ((F63 194 0 rfl).trans ((F62 194 0 rfl).trans ((F61 194 0 rfl).trans ((F60 194 0 rfl).trans ((F59 194 0 rfl).trans ((F58 194 0 rfl).trans ((F57 194 0 rfl).trans ((F56 194 0 rfl).trans ((F55 194 0 rfl).trans ((F54 194 0 rfl).trans ((F53 194 0 rfl).trans ((F52 194 0 rfl).trans ((F51 194 0 rfl).trans ((F50 194 0 rfl).trans ((F49 194 0 rfl).trans ((F48 194 0 rfl).trans (f194_0 (h := h) hT))))))))))))))))) ?_
  refine am_e_iastore (q := 1) n97_31 rfl (by decide) (by decide) ?_
  refine am_e_iconst (w := 0) n97_32 rfl ?_
  refine am_e_istore_n (ls' := [(3, .int 0), (0, .ref 164), (1, .int 1), (2, .int 0)]) n97_33 rfl rfl ?_
  refine am_e_iload_n n97_34 rfl ?_
  refine am_e_iconst (w := 4) n97_35 rfl ?_
  refine am_e_cmpF n97_36 (am_c_geF (by decide)) ?_
  refine am_e_aload_n n97_37 rfl ?_
  refine am_e_getf (v := .ref 191) n97_38 rfl ((F63 164 53 rfl).trans ((F62 164 53 rfl).trans ((F61 164 53 rfl).trans ((F60 164 53 rfl).trans ((F59 164 53 rfl).trans ((F58 164 53 rfl).trans ((F57 164 53 rfl).trans ((F56 164 53 rfl).trans ((F55 164 53 rfl).trans ((F54 164 53 rfl).trans ((F53 164 53 rfl).trans ((F52 164 53 rfl).trans ((F51 164 53 rfl).trans ((F50 164 53 rfl).trans ((F49 164 53 rfl).trans ((F48 164 53 rfl).trans (f164_53 (h := h) hT))))))))))))))))) ?_
  refine am_e_iconst (w := 4) n97_39 rfl ?_
  refine am_e_iload_n n97_40 rfl ?_
  refine am_e_imul (w := 4) n97_41 (by decide) ?_
  refine am_e_iload_n n97_42 rfl ?_
  refine am_e_iadd (w := 4) n97_43 (by decide) ?_
  refine am_e_aload_n n97_44 rfl ?_
  refine am_e_getf (v := .ref 191) n97_45 rfl ((F63 164 53 rfl).trans ((F62 164 53 rfl).trans ((F61 164 53 rfl).trans ((F60 164 53 rfl).trans ((F59 164 53 rfl).trans ((F58 164 53 rfl).trans ((F57 164 53 rfl).trans ((F56 164 53 rfl).trans ((F55 164 53 rfl).trans ((F54 164 53 rfl).trans ((F53 164 53 rfl).trans ((F52 164 53 rfl).trans ((F51 164 53 rfl).trans ((F50 164 53 rfl).trans ((F49 164 53 rfl).trans ((F48 164 53 rfl).trans (f164_53 (h := h) hT))))))))))))))))) ?_
  refine am_e_iconst (w := 4) n97_46 rfl ?_
  refine am_e_iload_n n97_47 rfl ?_
  refine am_e_imul (w := 0) n97_48 (by decide) ?_
  refine am_e_iload_n n97_49 rfl ?_
  refine am_e_iadd (w := 0) n97_50 (by decide) ?_
  refine am_e_iaload (v := 0) (q := 0) n97_51 rfl (by decide) (by decide) ((F63 191 0 rfl).trans ((F62 191 0 rfl).trans ((F61 191 0 rfl).trans ((F60 191 0 rfl).trans ((F59 191 0 rfl).trans ((F58 191 0 rfl).trans ((F57 191 0 rfl).trans ((F56 191 0 rfl).trans ((F55 191 0 rfl).trans ((F54 191 0 rfl).trans ((F53 191 0 rfl).trans ((F52 191 0 rfl).trans ((F51 191 0 rfl).trans ((F50 191 0 rfl).trans ((F49 191 0 rfl).trans ((F48 191 0 rfl).trans (f191_0 (h := h) hT))))))))))))))))) ?_
  refine am_e_iastore (q := 4) n97_52 rfl (by decide) (by decide) ?_
  refine am_e_aload_n n97_53 rfl ?_
  refine am_e_getf (v := .ref 192) n97_54 rfl ((F63 164 54 rfl).trans ((F62 164 54 rfl).trans ((F61 164 54 rfl).trans ((F60 164 54 rfl).trans ((F59 164 54 rfl).trans ((F58 164 54 rfl).trans ((F57 164 54 rfl).trans ((F56 164 54 rfl).trans ((F55 164 54 rfl).trans ((F54 164 54 rfl).trans ((F53 164 54 rfl).trans ((F52 164 54 rfl).trans ((F51 164 54 rfl).trans ((F50 164 54 rfl).trans ((F49 164 54 rfl).trans ((F48 164 54 rfl).trans (f164_54 (h := h) hT))))))))))))))))) ?_
  refine am_e_iconst (w := 4) n97_55 rfl ?_
  refine am_e_iload_n n97_56 rfl ?_
  refine am_e_imul (w := 4) n97_57 (by decide) ?_
  refine am_e_iload_n n97_58 rfl ?_
  refine am_e_iadd (w := 4) n97_59 (by decide) ?_
  refine am_e_aload_n n97_60 rfl ?_
  refine am_e_getf (v := .ref 192) n97_61 rfl ((F63 164 54 rfl).trans ((F62 164 54 rfl).trans ((F61 164 54 rfl).trans ((F60 164 54 rfl).trans ((F59 164 54 rfl).trans ((F58 164 54 rfl).trans ((F57 164 54 rfl).trans ((F56 164 54 rfl).trans ((F55 164 54 rfl).trans ((F54 164 54 rfl).trans ((F53 164 54 rfl).trans ((F52 164 54 rfl).trans ((F51 164 54 rfl).trans ((F50 164 54 rfl).trans ((F49 164 54 rfl).trans ((F48 164 54 rfl).trans (f164_54 (h := h) hT))))))))))))))))) ?_
  refine am_e_iconst (w := 4) n97_62 rfl ?_
  refine am_e_iload_n n97_63 rfl ?_
  refine am_e_imul (w := 0) n97_64 (by decide) ?_
  refine am_e_iload_n n97_65 rfl ?_
  refine am_e_iadd (w := 0) n97_66 (by decide) ?_
  refine am_e_iaload (v := 0) (q := 0) n97_67 rfl (by decide) (by decide) ((F63 192 0 rfl).trans ((F62 192 0 rfl).trans ((F61 192 0 rfl).trans ((F60 192 0 rfl).trans ((F59 192 0 rfl).trans ((F58 192 0 rfl).trans ((F57 192 0 rfl).trans ((F56 192 0 rfl).trans ((F55 192 0 rfl).trans ((F54 192 0 rfl).trans ((F53 192 0 rfl).trans ((F52 192 0 rfl).trans ((F51 192 0 rfl).trans ((F50 192 0 rfl).trans ((F49 192 0 rfl).trans ((F48 192 0 rfl).trans (f192_0 (h := h) hT))))))))))))))))) ?_
  refine am_e_iastore (q := 4) n97_68 rfl (by decide) (by decide) ?_
  refine am_e_aload_n n97_69 rfl ?_
  refine am_e_getf (v := .ref 193) n97_70 rfl ((F63 164 55 rfl).trans ((F62 164 55 rfl).trans ((F61 164 55 rfl).trans ((F60 164 55 rfl).trans ((F59 164 55 rfl).trans ((F58 164 55 rfl).trans ((F57 164 55 rfl).trans ((F56 164 55 rfl).trans ((F55 164 55 rfl).trans ((F54 164 55 rfl).trans ((F53 164 55 rfl).trans ((F52 164 55 rfl).trans ((F51 164 55 rfl).trans ((F50 164 55 rfl).trans ((F49 164 55 rfl).trans ((F48 164 55 rfl).trans (f164_55 (h := h) hT))))))))))))))))) ?_
  refine am_e_iconst (w := 4) n97_71 rfl ?_
  refine am_e_iload_n n97_72 rfl ?_
  refine am_e_imul (w := 4) n97_73 (by decide) ?_
  refine am_e_iload_n n97_74 rfl ?_
  refine am_e_iadd (w := 4) n97_75 (by decide) ?_
  refine am_e_aload_n n97_76 rfl ?_
  refine am_e_getf (v := .ref 193) n97_77 rfl ((F63 164 55 rfl).trans ((F62 164 55 rfl).trans ((F61 164 55 rfl).trans ((F60 164 55 rfl).trans ((F59 164 55 rfl).trans ((F58 164 55 rfl).trans ((F57 164 55 rfl).trans ((F56 164 55 rfl).trans ((F55 164 55 rfl).trans ((F54 164 55 rfl).trans ((F53 164 55 rfl).trans ((F52 164 55 rfl).trans ((F51 164 55 rfl).trans ((F50 164 55 rfl).trans ((F49 164 55 rfl).trans ((F48 164 55 rfl).trans (f164_55 (h := h) hT))))))))))))))))) ?_
  refine am_e_iconst (w := 4) n97_78 rfl ?_
  refine am_e_iload_n n97_79 rfl ?_
  refine am_e_imul (w := 0) n97_80 (by decide) ?_
  refine am_e_iload_n n97_81 rfl ?_
  refine am_e_iadd (w := 0) n97_82 (by decide) ?_
  refine am_e_iaload (v := 0) (q := 0) n97_83 rfl (by decide) (by decide) ((F63 193 0 rfl).trans ((F62 193 0 rfl).trans ((F61 193 0 rfl).trans ((F60 193 0 rfl).trans ((F59 193 0 rfl).trans ((F58 193 0 rfl).trans ((F57 193 0 rfl).trans ((F56 193 0 rfl).trans ((F55 193 0 rfl).trans ((F54 193 0 rfl).trans ((F53 193 0 rfl).trans ((F52 193 0 rfl).trans ((F51 193 0 rfl).trans ((F50 193 0 rfl).trans ((F49 193 0 rfl).trans ((F48 193 0 rfl).trans (f193_0 (h := h) hT))))))))))))))))) ?_
  refine am_e_iastore (q := 4) n97_84 rfl (by decide) (by decide) ?_
  refine am_e_iinc (w := 1) (ls' := [(3, .int 1), (0, .ref 164), (1, .int 1), (2, .int 0)]) n97_85 rfl rfl (by decide) rfl ?_
  refine am_e_goto c97_86 t97_86 ?_
  refine am_e_iload_n n97_34 rfl ?_
  refine am_e_iconst (w := 4) n97_35 rfl ?_
  refine am_e_cmpF n97_36 (am_c_geF (by decide)) ?_
  refine am_e_aload_n n97_37 rfl ?_
  refine am_e_getf (v := .ref 191) n97_38 rfl ((F63 164 53 rfl).trans ((F62 164 53 rfl).trans ((F61 164 53 rfl).trans ((F60 164 53 rfl).trans ((F59 164 53 rfl).trans ((F58 164 53 rfl).trans ((F57 164 53 rfl).trans ((F56 164 53 rfl).trans ((F55 164 53 rfl).trans ((F54 164 53 rfl).trans ((F53 164 53 rfl).trans ((F52 164 53 rfl).trans ((F51 164 53 rfl).trans ((F50 164 53 rfl).trans ((F49 164 53 rfl).trans ((F48 164 53 rfl).trans (f164_53 (h := h) hT))))))))))))))))) ?_
  refine am_e_iconst (w := 4) n97_39 rfl ?_
  refine am_e_iload_n n97_40 rfl ?_
  refine am_e_imul (w := 4) n97_41 (by decide) ?_
  refine am_e_iload_n n97_42 rfl ?_
  refine am_e_iadd (w := 5) n97_43 (by decide) ?_
  refine am_e_aload_n n97_44 rfl ?_
  refine am_e_getf (v := .ref 191) n97_45 rfl ((F63 164 53 rfl).trans ((F62 164 53 rfl).trans ((F61 164 53 rfl).trans ((F60 164 53 rfl).trans ((F59 164 53 rfl).trans ((F58 164 53 rfl).trans ((F57 164 53 rfl).trans ((F56 164 53 rfl).trans ((F55 164 53 rfl).trans ((F54 164 53 rfl).trans ((F53 164 53 rfl).trans ((F52 164 53 rfl).trans ((F51 164 53 rfl).trans ((F50 164 53 rfl).trans ((F49 164 53 rfl).trans ((F48 164 53 rfl).trans (f164_53 (h := h) hT))))))))))))))))) ?_
  refine am_e_iconst (w := 4) n97_46 rfl ?_
  refine am_e_iload_n n97_47 rfl ?_
  refine am_e_imul (w := 0) n97_48 (by decide) ?_
  refine am_e_iload_n n97_49 rfl ?_
  refine am_e_iadd (w := 1) n97_50 (by decide) ?_
  refine am_e_iaload (v := 0) (q := 1) n97_51 rfl (by decide) (by decide) ((F63 191 1 rfl).trans ((F62 191 1 rfl).trans ((F61 191 1 rfl).trans ((F60 191 1 rfl).trans ((F59 191 1 rfl).trans ((F58 191 1 rfl).trans ((F57 191 1 rfl).trans ((F56 191 1 rfl).trans ((F55 191 1 rfl).trans ((F54 191 1 rfl).trans ((F53 191 1 rfl).trans ((F52 191 1 rfl).trans ((F51 191 1 rfl).trans ((F50 191 1 rfl).trans ((F49 191 1 rfl).trans ((F48 191 1 rfl).trans (f191_1 (h := h) hT))))))))))))))))) ?_
  refine am_e_iastore (q := 5) n97_52 rfl (by decide) (by decide) ?_
  refine am_e_aload_n n97_53 rfl ?_
  refine am_e_getf (v := .ref 192) n97_54 rfl ((F63 164 54 rfl).trans ((F62 164 54 rfl).trans ((F61 164 54 rfl).trans ((F60 164 54 rfl).trans ((F59 164 54 rfl).trans ((F58 164 54 rfl).trans ((F57 164 54 rfl).trans ((F56 164 54 rfl).trans ((F55 164 54 rfl).trans ((F54 164 54 rfl).trans ((F53 164 54 rfl).trans ((F52 164 54 rfl).trans ((F51 164 54 rfl).trans ((F50 164 54 rfl).trans ((F49 164 54 rfl).trans ((F48 164 54 rfl).trans (f164_54 (h := h) hT))))))))))))))))) ?_
  refine am_e_iconst (w := 4) n97_55 rfl ?_
  refine am_e_iload_n n97_56 rfl ?_
  refine am_e_imul (w := 4) n97_57 (by decide) ?_
  refine am_e_iload_n n97_58 rfl ?_
  refine am_e_iadd (w := 5) n97_59 (by decide) ?_
  refine am_e_aload_n n97_60 rfl ?_
  refine am_e_getf (v := .ref 192) n97_61 rfl ((F63 164 54 rfl).trans ((F62 164 54 rfl).trans ((F61 164 54 rfl).trans ((F60 164 54 rfl).trans ((F59 164 54 rfl).trans ((F58 164 54 rfl).trans ((F57 164 54 rfl).trans ((F56 164 54 rfl).trans ((F55 164 54 rfl).trans ((F54 164 54 rfl).trans ((F53 164 54 rfl).trans ((F52 164 54 rfl).trans ((F51 164 54 rfl).trans ((F50 164 54 rfl).trans ((F49 164 54 rfl).trans ((F48 164 54 rfl).trans (f164_54 (h := h) hT))))))))))))))))) ?_
  refine am_e_iconst (w := 4) n97_62 rfl ?_
  refine am_e_iload_n n97_63 rfl ?_
  refine am_e_imul (w := 0) n97_64 (by decide) ?_
  refine am_e_iload_n n97_65 rfl ?_
  refine am_e_iadd (w := 1) n97_66 (by decide) ?_
  refine am_e_iaload (v := 0) (q := 1) n97_67 rfl (by decide) (by decide) ((F63 192 1 rfl).trans ((F62 192 1 rfl).trans ((F61 192 1 rfl).trans ((F60 192 1 rfl).trans ((F59 192 1 rfl).trans ((F58 192 1 rfl).trans ((F57 192 1 rfl).trans ((F56 192 1 rfl).trans ((F55 192 1 rfl).trans ((F54 192 1 rfl).trans ((F53 192 1 rfl).trans ((F52 192 1 rfl).trans ((F51 192 1 rfl).trans ((F50 192 1 rfl).trans ((F49 192 1 rfl).trans ((F48 192 1 rfl).trans (f192_1 (h := h) hT))))))))))))))))) ?_
  refine am_e_iastore (q := 5) n97_68 rfl (by decide) (by decide) ?_
  refine am_e_aload_n n97_69 rfl ?_
  refine am_e_getf (v := .ref 193) n97_70 rfl ((F63 164 55 rfl).trans ((F62 164 55 rfl).trans ((F61 164 55 rfl).trans ((F60 164 55 rfl).trans ((F59 164 55 rfl).trans ((F58 164 55 rfl).trans ((F57 164 55 rfl).trans ((F56 164 55 rfl).trans ((F55 164 55 rfl).trans ((F54 164 55 rfl).trans ((F53 164 55 rfl).trans ((F52 164 55 rfl).trans ((F51 164 55 rfl).trans ((F50 164 55 rfl).trans ((F49 164 55 rfl).trans ((F48 164 55 rfl).trans (f164_55 (h := h) hT))))))))))))))))) ?_
  refine am_e_iconst (w := 4) n97_71 rfl ?_
  refine am_e_iload_n n97_72 rfl ?_
  refine am_e_imul (w := 4) n97_73 (by decide) ?_
  refine am_e_iload_n n97_74 rfl ?_
  refine am_e_iadd (w := 5) n97_75 (by decide) ?_
  refine am_e_aload_n n97_76 rfl ?_
  refine am_e_getf (v := .ref 193) n97_77 rfl ((F63 164 55 rfl).trans ((F62 164 55 rfl).trans ((F61 164 55 rfl).trans ((F60 164 55 rfl).trans ((F59 164 55 rfl).trans ((F58 164 55 rfl).trans ((F57 164 55 rfl).trans ((F56 164 55 rfl).trans ((F55 164 55 rfl).trans ((F54 164 55 rfl).trans ((F53 164 55 rfl).trans ((F52 164 55 rfl).trans ((F51 164 55 rfl).trans ((F50 164 55 rfl).trans ((F49 164 55 rfl).trans ((F48 164 55 rfl).trans (f164_55 (h := h) hT))))))))))))))))) ?_
  refine am_e_iconst (w := 4) n97_78 rfl ?_
  refine am_e_iload_n n97_79 rfl ?_
  refine am_e_imul (w := 0) n97_80 (by decide) ?_
  refine am_e_iload_n n97_81 rfl ?_
  refine am_e_iadd (w := 1) n97_82 (by decide) ?_
  refine am_e_iaload (v := 0) (q := 1) n97_83 rfl (by decide) (by decide) ((F63 193 1 rfl).trans ((F62 193 1 rfl).trans ((F61 193 1 rfl).trans ((F60 193 1 rfl).trans ((F59 193 1 rfl).trans ((F58 193 1 rfl).trans ((F57 193 1 rfl).trans ((F56 193 1 rfl).trans ((F55 193 1 rfl).trans ((F54 193 1 rfl).trans ((F53 193 1 rfl).trans ((F52 193 1 rfl).trans ((F51 193 1 rfl).trans ((F50 193 1 rfl).trans ((F49 193 1 rfl).trans ((F48 193 1 rfl).trans (f193_1 (h := h) hT))))))))))))))))) ?_
  refine am_e_iastore (q := 5) n97_84 rfl (by decide) (by decide) ?_
  refine am_e_iinc (w := 2) (ls' := [(3, .int 2), (0, .ref 164), (1, .int 1), (2, .int 0)]) n97_85 rfl rfl (by decide) rfl ?_
  refine am_e_goto c97_86 t97_86 ?_
  refine am_e_iload_n n97_34 rfl ?_
  refine am_e_iconst (w := 4) n97_35 rfl ?_
  refine am_e_cmpF n97_36 (am_c_geF (by decide)) ?_
  refine am_e_aload_n n97_37 rfl ?_
  refine am_e_getf (v := .ref 191) n97_38 rfl ((F63 164 53 rfl).trans ((F62 164 53 rfl).trans ((F61 164 53 rfl).trans ((F60 164 53 rfl).trans ((F59 164 53 rfl).trans ((F58 164 53 rfl).trans ((F57 164 53 rfl).trans ((F56 164 53 rfl).trans ((F55 164 53 rfl).trans ((F54 164 53 rfl).trans ((F53 164 53 rfl).trans ((F52 164 53 rfl).trans ((F51 164 53 rfl).trans ((F50 164 53 rfl).trans ((F49 164 53 rfl).trans ((F48 164 53 rfl).trans (f164_53 (h := h) hT))))))))))))))))) ?_
  refine am_e_iconst (w := 4) n97_39 rfl ?_
  refine am_e_iload_n n97_40 rfl ?_
  refine am_e_imul (w := 4) n97_41 (by decide) ?_
  refine am_e_iload_n n97_42 rfl ?_
  refine am_e_iadd (w := 6) n97_43 (by decide) ?_
  refine am_e_aload_n n97_44 rfl ?_
  refine am_e_getf (v := .ref 191) n97_45 rfl ((F63 164 53 rfl).trans ((F62 164 53 rfl).trans ((F61 164 53 rfl).trans ((F60 164 53 rfl).trans ((F59 164 53 rfl).trans ((F58 164 53 rfl).trans ((F57 164 53 rfl).trans ((F56 164 53 rfl).trans ((F55 164 53 rfl).trans ((F54 164 53 rfl).trans ((F53 164 53 rfl).trans ((F52 164 53 rfl).trans ((F51 164 53 rfl).trans ((F50 164 53 rfl).trans ((F49 164 53 rfl).trans ((F48 164 53 rfl).trans (f164_53 (h := h) hT))))))))))))))))) ?_
  refine am_e_iconst (w := 4) n97_46 rfl ?_
  refine am_e_iload_n n97_47 rfl ?_
  refine am_e_imul (w := 0) n97_48 (by decide) ?_
  refine am_e_iload_n n97_49 rfl ?_
  refine am_e_iadd (w := 2) n97_50 (by decide) ?_
  refine am_e_iaload (v := 0) (q := 2) n97_51 rfl (by decide) (by decide) ((F63 191 2 rfl).trans ((F62 191 2 rfl).trans ((F61 191 2 rfl).trans ((F60 191 2 rfl).trans ((F59 191 2 rfl).trans ((F58 191 2 rfl).trans ((F57 191 2 rfl).trans ((F56 191 2 rfl).trans ((F55 191 2 rfl).trans ((F54 191 2 rfl).trans ((F53 191 2 rfl).trans ((F52 191 2 rfl).trans ((F51 191 2 rfl).trans ((F50 191 2 rfl).trans ((F49 191 2 rfl).trans ((F48 191 2 rfl).trans (f191_2 (h := h) hT))))))))))))))))) ?_
  refine am_e_iastore (q := 6) n97_52 rfl (by decide) (by decide) ?_
  refine am_e_aload_n n97_53 rfl ?_
  refine am_e_getf (v := .ref 192) n97_54 rfl ((F63 164 54 rfl).trans ((F62 164 54 rfl).trans ((F61 164 54 rfl).trans ((F60 164 54 rfl).trans ((F59 164 54 rfl).trans ((F58 164 54 rfl).trans ((F57 164 54 rfl).trans ((F56 164 54 rfl).trans ((F55 164 54 rfl).trans ((F54 164 54 rfl).trans ((F53 164 54 rfl).trans ((F52 164 54 rfl).trans ((F51 164 54 rfl).trans ((F50 164 54 rfl).trans ((F49 164 54 rfl).trans ((F48 164 54 rfl).trans (f164_54 (h := h) hT))))))))))))))))) ?_
  refine am_e_iconst (w := 4) n97_55 rfl ?_
  refine am_e_iload_n n97_56 rfl ?_
  refine am_e_imul (w := 4) n97_57 (by decide) ?_
  refine am_e_iload_n n97_58 rfl ?_
  refine am_e_iadd (w := 6) n97_59 (by decide) ?_
  refine am_e_aload_n n97_60 rfl ?_
  refine am_e_getf (v := .ref 192) n97_61 rfl ((F63 164 54 rfl).trans ((F62 164 54 rfl).trans ((F61 164 54 rfl).trans ((F60 164 54 rfl).trans ((F59 164 54 rfl).trans ((F58 164 54 rfl).trans ((F57 164 54 rfl).trans ((F56 164 54 rfl).trans ((F55 164 54 rfl).trans ((F54 164 54 rfl).trans ((F53 164 54 rfl).trans ((F52 164 54 rfl).trans ((F51 164 54 rfl).trans ((F50 164 54 rfl).trans ((F49 164 54 rfl).trans ((F48 164 54 rfl).trans (f164_54 (h := h) hT))))))))))))))))) ?_
  refine am_e_iconst (w := 4) n97_62 rfl ?_
  refine am_e_iload_n n97_63 rfl ?_
  refine am_e_imul (w := 0) n97_64 (by decide) ?_
  refine am_e_iload_n n97_65 rfl ?_
  refine am_e_iadd (w := 2) n97_66 (by decide) ?_
  refine am_e_iaload (v := 0) (q := 2) n97_67 rfl (by decide) (by decide) ((F63 192 2 rfl).trans ((F62 192 2 rfl).trans ((F61 192 2 rfl).trans ((F60 192 2 rfl).trans ((F59 192 2 rfl).trans ((F58 192 2 rfl).trans ((F57 192 2 rfl).trans ((F56 192 2 rfl).trans ((F55 192 2 rfl).trans ((F54 192 2 rfl).trans ((F53 192 2 rfl).trans ((F52 192 2 rfl).trans ((F51 192 2 rfl).trans ((F50 192 2 rfl).trans ((F49 192 2 rfl).trans ((F48 192 2 rfl).trans (f192_2 (h := h) hT))))))))))))))))) ?_
  refine am_e_iastore (q := 6) n97_68 rfl (by decide) (by decide) ?_
  refine am_e_aload_n n97_69 rfl ?_
  refine am_e_getf (v := .ref 193) n97_70 rfl ((F63 164 55 rfl).trans ((F62 164 55 rfl).trans ((F61 164 55 rfl).trans ((F60 164 55 rfl).trans ((F59 164 55 rfl).trans ((F58 164 55 rfl).trans ((F57 164 55 rfl).trans ((F56 164 55 rfl).trans ((F55 164 55 rfl).trans ((F54 164 55 rfl).trans ((F53 164 55 rfl).trans ((F52 164 55 rfl).trans ((F51 164 55 rfl).trans ((F50 164 55 rfl).trans ((F49 164 55 rfl).trans ((F48 164 55 rfl).trans (f164_55 (h := h) hT))))))))))))))))) ?_
  refine am_e_iconst (w := 4) n97_71 rfl ?_
  refine am_e_iload_n n97_72 rfl ?_
  refine am_e_imul (w := 4) n97_73 (by decide) ?_
  refine am_e_iload_n n97_74 rfl ?_
  refine am_e_iadd (w := 6) n97_75 (by decide) ?_
  refine am_e_aload_n n97_76 rfl ?_
  refine am_e_getf (v := .ref 193) n97_77 rfl ((F63 164 55 rfl).trans ((F62 164 55 rfl).trans ((F61 164 55 rfl).trans ((F60 164 55 rfl).trans ((F59 164 55 rfl).trans ((F58 164 55 rfl).trans ((F57 164 55 rfl).trans ((F56 164 55 rfl).trans ((F55 164 55 rfl).trans ((F54 164 55 rfl).trans ((F53 164 55 rfl).trans ((F52 164 55 rfl).trans ((F51 164 55 rfl).trans ((F50 164 55 rfl).trans ((F49 164 55 rfl).trans ((F48 164 55 rfl).trans (f164_55 (h := h) hT))))))))))))))))) ?_
  refine am_e_iconst (w := 4) n97_78 rfl ?_
  refine am_e_iload_n n97_79 rfl ?_
  refine am_e_imul (w := 0) n97_80 (by decide) ?_
  refine am_e_iload_n n97_81 rfl ?_
  refine am_e_iadd (w := 2) n97_82 (by decide) ?_
  refine am_e_iaload (v := 0) (q := 2) n97_83 rfl (by decide) (by decide) ((F63 193 2 rfl).trans ((F62 193 2 rfl).trans ((F61 193 2 rfl).trans ((F60 193 2 rfl).trans ((F59 193 2 rfl).trans ((F58 193 2 rfl).trans ((F57 193 2 rfl).trans ((F56 193 2 rfl).trans ((F55 193 2 rfl).trans ((F54 193 2 rfl).trans ((F53 193 2 rfl).trans ((F52 193 2 rfl).trans ((F51 193 2 rfl).trans ((F50 193 2 rfl).trans ((F49 193 2 rfl).trans ((F48 193 2 rfl).trans (f193_2 (h := h) hT))))))))))))))))) ?_
  refine am_e_iastore (q := 6) n97_84 rfl (by decide) (by decide) ?_
  refine am_e_iinc (w := 3) (ls' := [(3, .int 3), (0, .ref 164), (1, .int 1), (2, .int 0)]) n97_85 rfl rfl (by decide) rfl ?_
  refine am_e_goto c97_86 t97_86 ?_
  refine am_e_iload_n n97_34 rfl ?_
  refine am_e_iconst (w := 4) n97_35 rfl ?_
  refine am_e_cmpF n97_36 (am_c_geF (by decide)) ?_
  refine am_e_aload_n n97_37 rfl ?_
  refine am_e_getf (v := .ref 191) n97_38 rfl ((F63 164 53 rfl).trans ((F62 164 53 rfl).trans ((F61 164 53 rfl).trans ((F60 164 53 rfl).trans ((F59 164 53 rfl).trans ((F58 164 53 rfl).trans ((F57 164 53 rfl).trans ((F56 164 53 rfl).trans ((F55 164 53 rfl).trans ((F54 164 53 rfl).trans ((F53 164 53 rfl).trans ((F52 164 53 rfl).trans ((F51 164 53 rfl).trans ((F50 164 53 rfl).trans ((F49 164 53 rfl).trans ((F48 164 53 rfl).trans (f164_53 (h := h) hT))))))))))))))))) ?_
  refine am_e_iconst (w := 4) n97_39 rfl ?_
  refine am_e_iload_n n97_40 rfl ?_
  refine am_e_imul (w := 4) n97_41 (by decide) ?_
  refine am_e_iload_n n97_42 rfl ?_
  refine am_e_iadd (w := 7) n97_43 (by decide) ?_
  refine am_e_aload_n n97_44 rfl ?_
  refine am_e_getf (v := .ref 191) n97_45 rfl ((F63 164 53 rfl).trans ((F62 164 53 rfl).trans ((F61 164 53 rfl).trans ((F60 164 53 rfl).trans ((F59 164 53 rfl).trans ((F58 164 53 rfl).trans ((F57 164 53 rfl).trans ((F56 164 53 rfl).trans ((F55 164 53 rfl).trans ((F54 164 53 rfl).trans ((F53 164 53 rfl).trans ((F52 164 53 rfl).trans ((F51 164 53 rfl).trans ((F50 164 53 rfl).trans ((F49 164 53 rfl).trans ((F48 164 53 rfl).trans (f164_53 (h := h) hT))))))))))))))))) ?_
  refine am_e_iconst (w := 4) n97_46 rfl ?_
  refine am_e_iload_n n97_47 rfl ?_
  refine am_e_imul (w := 0) n97_48 (by decide) ?_
  refine am_e_iload_n n97_49 rfl ?_
  refine am_e_iadd (w := 3) n97_50 (by decide) ?_
  refine am_e_iaload (v := 0) (q := 3) n97_51 rfl (by decide) (by decide) ((F63 191 3 rfl).trans ((F62 191 3 rfl).trans ((F61 191 3 rfl).trans ((F60 191 3 rfl).trans ((F59 191 3 rfl).trans ((F58 191 3 rfl).trans ((F57 191 3 rfl).trans ((F56 191 3 rfl).trans ((F55 191 3 rfl).trans ((F54 191 3 rfl).trans ((F53 191 3 rfl).trans ((F52 191 3 rfl).trans ((F51 191 3 rfl).trans ((F50 191 3 rfl).trans ((F49 191 3 rfl).trans ((F48 191 3 rfl).trans (f191_3 (h := h) hT))))))))))))))))) ?_
  refine am_e_iastore (q := 7) n97_52 rfl (by decide) (by decide) ?_
  refine am_e_aload_n n97_53 rfl ?_
  refine am_e_getf (v := .ref 192) n97_54 rfl ((F63 164 54 rfl).trans ((F62 164 54 rfl).trans ((F61 164 54 rfl).trans ((F60 164 54 rfl).trans ((F59 164 54 rfl).trans ((F58 164 54 rfl).trans ((F57 164 54 rfl).trans ((F56 164 54 rfl).trans ((F55 164 54 rfl).trans ((F54 164 54 rfl).trans ((F53 164 54 rfl).trans ((F52 164 54 rfl).trans ((F51 164 54 rfl).trans ((F50 164 54 rfl).trans ((F49 164 54 rfl).trans ((F48 164 54 rfl).trans (f164_54 (h := h) hT))))))))))))))))) ?_
  refine am_e_iconst (w := 4) n97_55 rfl ?_
  refine am_e_iload_n n97_56 rfl ?_
  refine am_e_imul (w := 4) n97_57 (by decide) ?_
  refine am_e_iload_n n97_58 rfl ?_
  refine am_e_iadd (w := 7) n97_59 (by decide) ?_
  refine am_e_aload_n n97_60 rfl ?_
  refine am_e_getf (v := .ref 192) n97_61 rfl ((F63 164 54 rfl).trans ((F62 164 54 rfl).trans ((F61 164 54 rfl).trans ((F60 164 54 rfl).trans ((F59 164 54 rfl).trans ((F58 164 54 rfl).trans ((F57 164 54 rfl).trans ((F56 164 54 rfl).trans ((F55 164 54 rfl).trans ((F54 164 54 rfl).trans ((F53 164 54 rfl).trans ((F52 164 54 rfl).trans ((F51 164 54 rfl).trans ((F50 164 54 rfl).trans ((F49 164 54 rfl).trans ((F48 164 54 rfl).trans (f164_54 (h := h) hT))))))))))))))))) ?_
  refine am_e_iconst (w := 4) n97_62 rfl ?_
  refine am_e_iload_n n97_63 rfl ?_
  refine am_e_imul (w := 0) n97_64 (by decide) ?_
  refine am_e_iload_n n97_65 rfl ?_
  refine am_e_iadd (w := 3) n97_66 (by decide) ?_
  refine am_e_iaload (v := 0) (q := 3) n97_67 rfl (by decide) (by decide) ((F63 192 3 rfl).trans ((F62 192 3 rfl).trans ((F61 192 3 rfl).trans ((F60 192 3 rfl).trans ((F59 192 3 rfl).trans ((F58 192 3 rfl).trans ((F57 192 3 rfl).trans ((F56 192 3 rfl).trans ((F55 192 3 rfl).trans ((F54 192 3 rfl).trans ((F53 192 3 rfl).trans ((F52 192 3 rfl).trans ((F51 192 3 rfl).trans ((F50 192 3 rfl).trans ((F49 192 3 rfl).trans ((F48 192 3 rfl).trans (f192_3 (h := h) hT))))))))))))))))) ?_
  refine am_e_iastore (q := 7) n97_68 rfl (by decide) (by decide) ?_
  refine am_e_aload_n n97_69 rfl ?_
  refine am_e_getf (v := .ref 193) n97_70 rfl ((F63 164 55 rfl).trans ((F62 164 55 rfl).trans ((F61 164 55 rfl).trans ((F60 164 55 rfl).trans ((F59 164 55 rfl).trans ((F58 164 55 rfl).trans ((F57 164 55 rfl).trans ((F56 164 55 rfl).trans ((F55 164 55 rfl).trans ((F54 164 55 rfl).trans ((F53 164 55 rfl).trans ((F52 164 55 rfl).trans ((F51 164 55 rfl).trans ((F50 164 55 rfl).trans ((F49 164 55 rfl).trans ((F48 164 55 rfl).trans (f164_55 (h := h) hT))))))))))))))))) ?_
  refine am_e_iconst (w := 4) n97_71 rfl ?_
  refine am_e_iload_n n97_72 rfl ?_
  refine am_e_imul (w := 4) n97_73 (by decide) ?_
  refine am_e_iload_n n97_74 rfl ?_
  refine am_e_iadd (w := 7) n97_75 (by decide) ?_
  refine am_e_aload_n n97_76 rfl ?_
  refine am_e_getf (v := .ref 193) n97_77 rfl ((F63 164 55 rfl).trans ((F62 164 55 rfl).trans ((F61 164 55 rfl).trans ((F60 164 55 rfl).trans ((F59 164 55 rfl).trans ((F58 164 55 rfl).trans ((F57 164 55 rfl).trans ((F56 164 55 rfl).trans ((F55 164 55 rfl).trans ((F54 164 55 rfl).trans ((F53 164 55 rfl).trans ((F52 164 55 rfl).trans ((F51 164 55 rfl).trans ((F50 164 55 rfl).trans ((F49 164 55 rfl).trans ((F48 164 55 rfl).trans (f164_55 (h := h) hT))))))))))))))))) ?_
  refine am_e_iconst (w := 4) n97_78 rfl ?_
  refine am_e_iload_n n97_79 rfl ?_
  refine am_e_imul (w := 0) n97_80 (by decide) ?_
  refine am_e_iload_n n97_81 rfl ?_
  refine am_e_iadd (w := 3) n97_82 (by decide) ?_
  refine am_e_iaload (v := 0) (q := 3) n97_83 rfl (by decide) (by decide) ((F63 193 3 rfl).trans ((F62 193 3 rfl).trans ((F61 193 3 rfl).trans ((F60 193 3 rfl).trans ((F59 193 3 rfl).trans ((F58 193 3 rfl).trans ((F57 193 3 rfl).trans ((F56 193 3 rfl).trans ((F55 193 3 rfl).trans ((F54 193 3 rfl).trans ((F53 193 3 rfl).trans ((F52 193 3 rfl).trans ((F51 193 3 rfl).trans ((F50 193 3 rfl).trans ((F49 193 3 rfl).trans ((F48 193 3 rfl).trans (f193_3 (h := h) hT))))))))))))))))) ?_
  refine am_e_iastore (q := 7) n97_84 rfl (by decide) (by decide) ?_
  refine am_e_iinc (w := 4) (ls' := [(3, .int 4), (0, .ref 164), (1, .int 1), (2, .int 0)]) n97_85 rfl rfl (by decide) rfl ?_
  refine am_e_goto c97_86 t97_86 ?_
  refine am_e_iload_n n97_34 rfl ?_
  refine am_e_iconst (w := 4) n97_35 rfl ?_
  refine am_e_cmpT n97_36 (am_c_geT (by decide)) t97_36 ?_
  refine am_e_vret c97_87 rfl rfl ?_
  refine am_e_iconst (w := 0) n127_35 rfl ?_
  refine am_e_istore (ls' := [(8, .int 0), (7, .int 6), (6, .int 0), (0, .ref 164), (2, .int (nI n)), (3, .int (nI b)), (4, .long 0)]) n127_36 rfl rfl ?_
  refine am_Ek_ls (ls' := [(0, .ref 164), (2, .int (nI n)), (3, .int (nI b)), (4, .long 0), (6, .int 0), (7, .int 6), (8, .int (nI 0))]) ⟨rfl, rfl, rfl, rfl, rfl, rfl, rfl, trivial⟩ ?_
  refine am_cm_e (n := n) (b := b) (s := 0) (t := 0) (i7 := 6) (dr := dr63) (by omega) (by omega) ⟨((F63 164 23 rfl).trans ((F62 164 23 rfl).trans ((F61 164 23 rfl).trans ((F60 164 23 rfl).trans ((F59 164 23 rfl).trans ((F58 164 23 rfl).trans ((F57 164 23 rfl).trans ((F56 164 23 rfl).trans ((F55 164 23 rfl).trans ((F54 164 23 rfl).trans ((F53 164 23 rfl).trans ((F52 164 23 rfl).trans ((F51 164 23 rfl).trans ((F50 164 23 rfl).trans ((F49 164 23 rfl).trans ((F48 164 23 rfl).trans (f164_23 (h := h) hT))))))))))))))))), ((F63 168 4 rfl).trans ((F62 168 4 rfl).trans ((F61 168 4 rfl).trans ((F60 168 4 rfl).trans ((F59 168 4 rfl).trans ((F58 168 4 rfl).trans ((F57 168 4 rfl).trans ((F56 168 4 rfl).trans ((F55 168 4 rfl).trans ((F54 168 4 rfl).trans ((F53 168 4 rfl).trans ((F52 168 4 rfl).trans ((F51 168 4 rfl).trans ((F50 168 4 rfl).trans ((F49 168 4 rfl).trans ((F48 168 4 rfl).trans (f168_4 (h := h) hT))))))))))))))))), ((F63 164 50 rfl).trans ((F62 164 50 rfl).trans ((F61 164 50 rfl).trans ((F60 164 50 rfl).trans ((F59 164 50 rfl).trans ((F58 164 50 rfl).trans ((F57 164 50 rfl).trans ((F56 164 50 rfl).trans ((F55 164 50 rfl).trans ((F54 164 50 rfl).trans ((F53 164 50 rfl).trans ((F52 164 50 rfl).trans ((F51 164 50 rfl).trans ((F50 164 50 rfl).trans ((F49 164 50 rfl).trans ((F48 164 50 rfl).trans (f164_50 (h := h) hT))))))))))))))))), ((F63 164 61 rfl).trans ((F62 164 61 rfl).trans ((F61 164 61 rfl).trans ((F60 164 61 rfl).trans ((F59 164 61 rfl).trans ((F58 164 61 rfl).trans ((F57 164 61 rfl).trans ((F56 164 61 rfl).trans ((F55 164 61 rfl).trans ((F54 164 61 rfl).trans ((F53 164 61 rfl).trans ((F52 164 61 rfl).trans ((F51 164 61 rfl).trans ((F50 164 61 rfl).trans ((F49 164 61 rfl).trans ((F48 164 61 rfl).trans (f164_61 (h := h) hT))))))))))))))))), ((F63 164 47 rfl).trans ((F62 164 47 rfl).trans ((F61 164 47 rfl).trans ((F60 164 47 rfl).trans ((F59 164 47 rfl).trans ((F58 164 47 rfl).trans ((F57 164 47 rfl).trans ((F56 164 47 rfl).trans ((F55 164 47 rfl).trans ((F54 164 47 rfl).trans ((F53 164 47 rfl).trans ((F52 164 47 rfl).trans ((F51 164 47 rfl).trans ((F50 164 47 rfl).trans ((F49 164 47 rfl).trans ((F48 164 47 rfl).trans (f164_47 (h := h) hT))))))))))))))))), ((F63 168 0 rfl).trans ((F62 168 0 rfl).trans ((F61 168 0 rfl).trans ((F60 168 0 rfl).trans ((F59 168 0 rfl).trans ((F58 168 0 rfl).trans ((F57 168 0 rfl).trans ((F56 168 0 rfl).trans ((F55 168 0 rfl).trans ((F54 168 0 rfl).trans ((F53 168 0 rfl).trans ((F52 168 0 rfl).trans ((F51 168 0 rfl).trans ((F50 168 0 rfl).trans ((F49 168 0 rfl).trans ((F48 168 0 rfl).trans (f168_0 (h := h) hT))))))))))))))))), ((F63 164 51 rfl).trans ((F62 164 51 rfl).trans ((F61 164 51 rfl).trans ((F60 164 51 rfl).trans ((F59 164 51 rfl).trans ((F58 164 51 rfl).trans ((F57 164 51 rfl).trans ((F56 164 51 rfl).trans ((F55 164 51 rfl).trans ((F54 164 51 rfl).trans ((F53 164 51 rfl).trans ((F52 164 51 rfl).trans ((F51 164 51 rfl).trans ((F50 164 51 rfl).trans ((F49 164 51 rfl).trans ((F48 164 51 rfl).trans (f164_51 (h := h) hT))))))))))))))))), ((F63 164 33 rfl).trans ((F62 164 33 rfl).trans ((F61 164 33 rfl).trans ((F60 164 33 rfl).trans ((F59 164 33 rfl).trans ((F58 164 33 rfl).trans ((F57 164 33 rfl).trans ((F56 164 33 rfl).trans ((F55 164 33 rfl).trans ((F54 164 33 rfl).trans ((F53 164 33 rfl).trans ((F52 164 33 rfl).trans ((F51 164 33 rfl).trans ((F50 164 33 rfl).trans ((F49 164 33 rfl).trans ((F48 164 33 rfl).trans (f164_33 (h := h) hT))))))))))))))))), ((F63 178 2 rfl).trans ((F62 178 2 rfl).trans ((F61 178 2 rfl).trans ((F60 178 2 rfl).trans ((F59 178 2 rfl).trans ((F58 178 2 rfl).trans ((F57 178 2 rfl).trans ((F56 178 2 rfl).trans ((F55 178 2 rfl).trans ((F54 178 2 rfl).trans ((F53 178 2 rfl).trans ((F52 178 2 rfl).trans ((F51 178 2 rfl).trans ((F50 178 2 rfl).trans ((F49 178 2 rfl).trans ((F48 178 2 rfl).trans (f178_2 (h := h) hT))))))))))))))))), ((F63 178 0 rfl).trans ((F62 178 0 rfl).trans ((F61 178 0 rfl).trans ((F60 178 0 rfl).trans ((F59 178 0 rfl).trans ((F58 178 0 rfl).trans ((F57 178 0 rfl).trans ((F56 178 0 rfl).trans ((F55 178 0 rfl).trans ((F54 178 0 rfl).trans ((F53 178 0 rfl).trans ((F52 178 0 rfl).trans ((F51 178 0 rfl).trans ((F50 178 0 rfl).trans ((F49 178 0 rfl).trans ((F48 178 0 rfl).trans (f178_0 (h := h) hT))))))))))))))))), ((F63 164 62 rfl).trans ((F62 164 62 rfl).trans ((F61 164 62 rfl).trans ((F60 164 62 rfl).trans ((F59 164 62 rfl).trans ((F58 164 62 rfl).trans ((F57 164 62 rfl).trans ((F56 164 62 rfl).trans ((F55 164 62 rfl).trans ((F54 164 62 rfl).trans ((F53 164 62 rfl).trans ((F52 164 62 rfl).trans ((F51 164 62 rfl).trans ((F50 164 62 rfl).trans ((F49 164 62 rfl).trans ((F48 164 62 rfl).trans (f164_62 (h := h) hT))))))))))))))))), ((F63 164 58 rfl).trans ((F62 164 58 rfl).trans ((F61 164 58 rfl).trans ((F60 164 58 rfl).trans ((F59 164 58 rfl).trans ((F58 164 58 rfl).trans ((F57 164 58 rfl).trans ((F56 164 58 rfl).trans ((F55 164 58 rfl).trans ((F54 164 58 rfl).trans ((F53 164 58 rfl).trans ((F52 164 58 rfl).trans ((F51 164 58 rfl).trans ((F50 164 58 rfl).trans ((F49 164 58 rfl).trans ((F48 164 58 rfl).trans (f164_58 (h := h) hT))))))))))))))))), ((F63 164 60 rfl).trans ((F62 164 60 rfl).trans ((F61 164 60 rfl).trans ((F60 164 60 rfl).trans ((F59 164 60 rfl).trans ((F58 164 60 rfl).trans ((F57 164 60 rfl).trans ((F56 164 60 rfl).trans ((F55 164 60 rfl).trans ((F54 164 60 rfl).trans ((F53 164 60 rfl).trans ((F52 164 60 rfl).trans ((F51 164 60 rfl).trans ((F50 164 60 rfl).trans ((F49 164 60 rfl).trans ((F48 164 60 rfl).trans (f164_60 (h := h) hT))))))))))))))))), trivial⟩ rfl rfl qc63 ?_
  intro h64 dr64 F64 qa64 qb64 qc64
  refine am_e_iload n127_59 rfl ?_
  refine am_e_aload_n n127_60 rfl ?_
  refine am_e_getf (v := .ref 188) n127_61 rfl ((F64 164 50 rfl).trans ((F63 164 50 rfl).trans ((F62 164 50 rfl).trans ((F61 164 50 rfl).trans ((F60 164 50 rfl).trans ((F59 164 50 rfl).trans ((F58 164 50 rfl).trans ((F57 164 50 rfl).trans ((F56 164 50 rfl).trans ((F55 164 50 rfl).trans ((F54 164 50 rfl).trans ((F53 164 50 rfl).trans ((F52 164 50 rfl).trans ((F51 164 50 rfl).trans ((F50 164 50 rfl).trans ((F49 164 50 rfl).trans ((F48 164 50 rfl).trans (f164_50 (h := h) hT)))))))))))))))))) ?_
  refine am_e_iconst (w := 1) n127_62 rfl ?_
  refine am_e_iaload (v := 0) (q := 1) n127_63 rfl (by decide) (by decide) qa64 ?_
  refine am_e_iload_n n127_64 rfl ?_
  refine am_e_cmpT n127_65 (am_c_ltT (nI_lt (a := 0) hb0 (by omega))) t127_65 ?_
  refine am_e_iconst (w := 0) n127_68 rfl ?_
  refine am_e_iadd (w := 0) n127_69 (by decide) ?_
  refine am_e_istore (ls' := [(6, .int 0), (0, .ref 164), (2, .int (nI n)), (3, .int (nI b)), (4, .long 0), (7, .int 6), (8, .int (nI n))]) n127_70 rfl rfl ?_
  refine am_e_iinc (w := 7) (ls' := [(7, .int 7), (6, .int 0), (0, .ref 164), (2, .int (nI n)), (3, .int (nI b)), (4, .long 0), (8, .int (nI n))]) n127_71 rfl rfl (by decide) rfl ?_
  refine am_e_goto c127_72 t127_72 ?_
  refine am_e_iload n127_28 rfl ?_
  refine am_e_bipush (w := 10) n127_29 (by decide) ?_
  refine am_e_cmpF n127_30 (am_c_geF (by decide)) ?_
  refine am_e_aload_n n127_31 rfl ?_
  refine am_e_iconst (w := 1) n127_32 rfl ?_
  refine am_e_iconst (w := 0) n127_33 rfl ?_
  refine am_e_callV (L := [(0, .ref 164), (1, .int 1), (2, .int 0)]) n127_34 rfl rfl rfl rfl rfl rfl rfl rfl ?_
  refine am_e_aload_n n97_0 rfl ?_
  refine am_e_getf (v := .ref 188) n97_1 rfl ((F64 164 50 rfl).trans ((F63 164 50 rfl).trans ((F62 164 50 rfl).trans ((F61 164 50 rfl).trans ((F60 164 50 rfl).trans ((F59 164 50 rfl).trans ((F58 164 50 rfl).trans ((F57 164 50 rfl).trans ((F56 164 50 rfl).trans ((F55 164 50 rfl).trans ((F54 164 50 rfl).trans ((F53 164 50 rfl).trans ((F52 164 50 rfl).trans ((F51 164 50 rfl).trans ((F50 164 50 rfl).trans ((F49 164 50 rfl).trans ((F48 164 50 rfl).trans (f164_50 (h := h) hT)))))))))))))))))) ?_
  refine am_e_iload_n n97_2 rfl ?_
  refine am_e_aload_n n97_3 rfl ?_
  refine am_e_getf (v := .ref 188) n97_4 rfl ((F64 164 50 rfl).trans ((F63 164 50 rfl).trans ((F62 164 50 rfl).trans ((F61 164 50 rfl).trans ((F60 164 50 rfl).trans ((F59 164 50 rfl).trans ((F58 164 50 rfl).trans ((F57 164 50 rfl).trans ((F56 164 50 rfl).trans ((F55 164 50 rfl).trans ((F54 164 50 rfl).trans ((F53 164 50 rfl).trans ((F52 164 50 rfl).trans ((F51 164 50 rfl).trans ((F50 164 50 rfl).trans ((F49 164 50 rfl).trans ((F48 164 50 rfl).trans (f164_50 (h := h) hT)))))))))))))))))) ?_
  refine am_e_iload_n n97_5 rfl ?_
  refine am_e_iaload (v := 0) (q := 0) n97_6 rfl (by decide) (by decide) ((F64 188 0 rfl).trans ((F63 188 0 rfl).trans ((F62 188 0 rfl).trans ((F61 188 0 rfl).trans ((F60 188 0 rfl).trans ((F59 188 0 rfl).trans ((F58 188 0 rfl).trans ((F57 188 0 rfl).trans ((F56 188 0 rfl).trans ((F55 188 0 rfl).trans ((F54 188 0 rfl).trans ((F53 188 0 rfl).trans ((F52 188 0 rfl).trans ((F51 188 0 rfl).trans ((F50 188 0 rfl).trans ((F49 188 0 rfl).trans ((F48 188 0 rfl).trans (f188_0 (h := h) hT)))))))))))))))))) ?_
  refine am_e_iastore (q := 1) n97_7 rfl (by decide) (by decide) ?_
  refine am_e_aload_n n97_8 rfl ?_
  refine am_e_getf (v := .ref 189) n97_9 rfl ((F64 164 51 rfl).trans ((F63 164 51 rfl).trans ((F62 164 51 rfl).trans ((F61 164 51 rfl).trans ((F60 164 51 rfl).trans ((F59 164 51 rfl).trans ((F58 164 51 rfl).trans ((F57 164 51 rfl).trans ((F56 164 51 rfl).trans ((F55 164 51 rfl).trans ((F54 164 51 rfl).trans ((F53 164 51 rfl).trans ((F52 164 51 rfl).trans ((F51 164 51 rfl).trans ((F50 164 51 rfl).trans ((F49 164 51 rfl).trans ((F48 164 51 rfl).trans (f164_51 (h := h) hT)))))))))))))))))) ?_
  refine am_e_iload_n n97_10 rfl ?_
  refine am_e_aload_n n97_11 rfl ?_
  refine am_e_getf (v := .ref 189) n97_12 rfl ((F64 164 51 rfl).trans ((F63 164 51 rfl).trans ((F62 164 51 rfl).trans ((F61 164 51 rfl).trans ((F60 164 51 rfl).trans ((F59 164 51 rfl).trans ((F58 164 51 rfl).trans ((F57 164 51 rfl).trans ((F56 164 51 rfl).trans ((F55 164 51 rfl).trans ((F54 164 51 rfl).trans ((F53 164 51 rfl).trans ((F52 164 51 rfl).trans ((F51 164 51 rfl).trans ((F50 164 51 rfl).trans ((F49 164 51 rfl).trans ((F48 164 51 rfl).trans (f164_51 (h := h) hT)))))))))))))))))) ?_
  refine am_e_iload_n n97_13 rfl ?_
  refine am_e_iaload (v := 0) (q := 0) n97_14 rfl (by decide) (by decide) ((F64 189 0 rfl).trans ((F63 189 0 rfl).trans ((F62 189 0 rfl).trans ((F61 189 0 rfl).trans ((F60 189 0 rfl).trans ((F59 189 0 rfl).trans ((F58 189 0 rfl).trans ((F57 189 0 rfl).trans ((F56 189 0 rfl).trans ((F55 189 0 rfl).trans ((F54 189 0 rfl).trans ((F53 189 0 rfl).trans ((F52 189 0 rfl).trans ((F51 189 0 rfl).trans ((F50 189 0 rfl).trans ((F49 189 0 rfl).trans ((F48 189 0 rfl).trans (f189_0 (h := h) hT)))))))))))))))))) ?_
  refine am_e_iastore (q := 1) n97_15 rfl (by decide) (by decide) ?_
  refine am_e_aload_n n97_16 rfl ?_
  refine am_e_getf (v := .ref 190) n97_17 rfl ((F64 164 52 rfl).trans ((F63 164 52 rfl).trans ((F62 164 52 rfl).trans ((F61 164 52 rfl).trans ((F60 164 52 rfl).trans ((F59 164 52 rfl).trans ((F58 164 52 rfl).trans ((F57 164 52 rfl).trans ((F56 164 52 rfl).trans ((F55 164 52 rfl).trans ((F54 164 52 rfl).trans ((F53 164 52 rfl).trans ((F52 164 52 rfl).trans ((F51 164 52 rfl).trans ((F50 164 52 rfl).trans ((F49 164 52 rfl).trans ((F48 164 52 rfl).trans (f164_52 (h := h) hT)))))))))))))))))) ?_
  refine am_e_iload_n n97_18 rfl ?_
  refine am_e_aload_n n97_19 rfl ?_
  refine am_e_getf (v := .ref 190) n97_20 rfl ((F64 164 52 rfl).trans ((F63 164 52 rfl).trans ((F62 164 52 rfl).trans ((F61 164 52 rfl).trans ((F60 164 52 rfl).trans ((F59 164 52 rfl).trans ((F58 164 52 rfl).trans ((F57 164 52 rfl).trans ((F56 164 52 rfl).trans ((F55 164 52 rfl).trans ((F54 164 52 rfl).trans ((F53 164 52 rfl).trans ((F52 164 52 rfl).trans ((F51 164 52 rfl).trans ((F50 164 52 rfl).trans ((F49 164 52 rfl).trans ((F48 164 52 rfl).trans (f164_52 (h := h) hT)))))))))))))))))) ?_
  refine am_e_iload_n n97_21 rfl ?_
  refine am_e_iaload (v := (-1)) (q := 0) n97_22 rfl (by decide) (by decide) ((F64 190 0 rfl).trans ((F63 190 0 rfl).trans ((F62 190 0 rfl).trans ((F61 190 0 rfl).trans ((F60 190 0 rfl).trans ((F59 190 0 rfl).trans ((F58 190 0 rfl).trans ((F57 190 0 rfl).trans ((F56 190 0 rfl).trans ((F55 190 0 rfl).trans ((F54 190 0 rfl).trans ((F53 190 0 rfl).trans ((F52 190 0 rfl).trans ((F51 190 0 rfl).trans ((F50 190 0 rfl).trans ((F49 190 0 rfl).trans ((F48 190 0 rfl).trans (f190_0 (h := h) hT)))))))))))))))))) ?_
  refine am_e_iastore (q := 1) n97_23 rfl (by decide) (by decide) ?_
  refine am_e_aload_n n97_24 rfl ?_
  refine am_e_getf (v := .ref 194) n97_25 rfl ((F64 164 56 rfl).trans ((F63 164 56 rfl).trans ((F62 164 56 rfl).trans ((F61 164 56 rfl).trans ((F60 164 56 rfl).trans ((F59 164 56 rfl).trans ((F58 164 56 rfl).trans ((F57 164 56 rfl).trans ((F56 164 56 rfl).trans ((F55 164 56 rfl).trans ((F54 164 56 rfl).trans ((F53 164 56 rfl).trans ((F52 164 56 rfl).trans ((F51 164 56 rfl).trans ((F50 164 56 rfl).trans ((F49 164 56 rfl).trans ((F48 164 56 rfl).trans (f164_56 (h := h) hT)))))))))))))))))) ?_
  refine am_e_iload_n n97_26 rfl ?_
  refine am_e_aload_n n97_27 rfl ?_
  refine am_e_getf (v := .ref 194) n97_28 rfl ((F64 164 56 rfl).trans ((F63 164 56 rfl).trans ((F62 164 56 rfl).trans ((F61 164 56 rfl).trans ((F60 164 56 rfl).trans ((F59 164 56 rfl).trans ((F58 164 56 rfl).trans ((F57 164 56 rfl).trans ((F56 164 56 rfl).trans ((F55 164 56 rfl).trans ((F54 164 56 rfl).trans ((F53 164 56 rfl).trans ((F52 164 56 rfl).trans ((F51 164 56 rfl).trans ((F50 164 56 rfl).trans ((F49 164 56 rfl).trans ((F48 164 56 rfl).trans (f164_56 (h := h) hT)))))))))))))))))) ?_
  refine am_e_iload_n n97_29 rfl ?_
  refine am_e_iaload (v := 0) (q := 0) n97_30 rfl (by decide) (by decide) ((F64 194 0 rfl).trans ((F63 194 0 rfl).trans ((F62 194 0 rfl).trans ((F61 194 0 rfl).trans ((F60 194 0 rfl).trans ((F59 194 0 rfl).trans ((F58 194 0 rfl).trans ((F57 194 0 rfl).trans ((F56 194 0 rfl).trans ((F55 194 0 rfl).trans ((F54 194 0 rfl).trans ((F53 194 0 rfl).trans ((F52 194 0 rfl).trans ((F51 194 0 rfl).trans ((F50 194 0 rfl).trans ((F49 194 0 rfl).trans ((F48 194 0 rfl).trans (f194_0 (h := h) hT)))))))))))))))))) ?_
  refine am_e_iastore (q := 1) n97_31 rfl (by decide) (by decide) ?_
  refine am_e_iconst (w := 0) n97_32 rfl ?_
  refine am_e_istore_n (ls' := [(3, .int 0), (0, .ref 164), (1, .int 1), (2, .int 0)]) n97_33 rfl rfl ?_
  refine am_e_iload_n n97_34 rfl ?_
  refine am_e_iconst (w := 4) n97_35 rfl ?_
  refine am_e_cmpF n97_36 (am_c_geF (by decide)) ?_
  refine am_e_aload_n n97_37 rfl ?_
  refine am_e_getf (v := .ref 191) n97_38 rfl ((F64 164 53 rfl).trans ((F63 164 53 rfl).trans ((F62 164 53 rfl).trans ((F61 164 53 rfl).trans ((F60 164 53 rfl).trans ((F59 164 53 rfl).trans ((F58 164 53 rfl).trans ((F57 164 53 rfl).trans ((F56 164 53 rfl).trans ((F55 164 53 rfl).trans ((F54 164 53 rfl).trans ((F53 164 53 rfl).trans ((F52 164 53 rfl).trans ((F51 164 53 rfl).trans ((F50 164 53 rfl).trans ((F49 164 53 rfl).trans ((F48 164 53 rfl).trans (f164_53 (h := h) hT)))))))))))))))))) ?_
  refine am_e_iconst (w := 4) n97_39 rfl ?_
  refine am_e_iload_n n97_40 rfl ?_
  refine am_e_imul (w := 4) n97_41 (by decide) ?_
  refine am_e_iload_n n97_42 rfl ?_
  refine am_e_iadd (w := 4) n97_43 (by decide) ?_
  refine am_e_aload_n n97_44 rfl ?_
  refine am_e_getf (v := .ref 191) n97_45 rfl ((F64 164 53 rfl).trans ((F63 164 53 rfl).trans ((F62 164 53 rfl).trans ((F61 164 53 rfl).trans ((F60 164 53 rfl).trans ((F59 164 53 rfl).trans ((F58 164 53 rfl).trans ((F57 164 53 rfl).trans ((F56 164 53 rfl).trans ((F55 164 53 rfl).trans ((F54 164 53 rfl).trans ((F53 164 53 rfl).trans ((F52 164 53 rfl).trans ((F51 164 53 rfl).trans ((F50 164 53 rfl).trans ((F49 164 53 rfl).trans ((F48 164 53 rfl).trans (f164_53 (h := h) hT)))))))))))))))))) ?_
  refine am_e_iconst (w := 4) n97_46 rfl ?_
  refine am_e_iload_n n97_47 rfl ?_
  refine am_e_imul (w := 0) n97_48 (by decide) ?_
  refine am_e_iload_n n97_49 rfl ?_
  refine am_e_iadd (w := 0) n97_50 (by decide) ?_
  refine am_e_iaload (v := 0) (q := 0) n97_51 rfl (by decide) (by decide) ((F64 191 0 rfl).trans ((F63 191 0 rfl).trans ((F62 191 0 rfl).trans ((F61 191 0 rfl).trans ((F60 191 0 rfl).trans ((F59 191 0 rfl).trans ((F58 191 0 rfl).trans ((F57 191 0 rfl).trans ((F56 191 0 rfl).trans ((F55 191 0 rfl).trans ((F54 191 0 rfl).trans ((F53 191 0 rfl).trans ((F52 191 0 rfl).trans ((F51 191 0 rfl).trans ((F50 191 0 rfl).trans ((F49 191 0 rfl).trans ((F48 191 0 rfl).trans (f191_0 (h := h) hT)))))))))))))))))) ?_
  refine am_e_iastore (q := 4) n97_52 rfl (by decide) (by decide) ?_
  refine am_e_aload_n n97_53 rfl ?_
  refine am_e_getf (v := .ref 192) n97_54 rfl ((F64 164 54 rfl).trans ((F63 164 54 rfl).trans ((F62 164 54 rfl).trans ((F61 164 54 rfl).trans ((F60 164 54 rfl).trans ((F59 164 54 rfl).trans ((F58 164 54 rfl).trans ((F57 164 54 rfl).trans ((F56 164 54 rfl).trans ((F55 164 54 rfl).trans ((F54 164 54 rfl).trans ((F53 164 54 rfl).trans ((F52 164 54 rfl).trans ((F51 164 54 rfl).trans ((F50 164 54 rfl).trans ((F49 164 54 rfl).trans ((F48 164 54 rfl).trans (f164_54 (h := h) hT)))))))))))))))))) ?_
  refine am_e_iconst (w := 4) n97_55 rfl ?_
  refine am_e_iload_n n97_56 rfl ?_
  refine am_e_imul (w := 4) n97_57 (by decide) ?_
  refine am_e_iload_n n97_58 rfl ?_
  refine am_e_iadd (w := 4) n97_59 (by decide) ?_
  refine am_e_aload_n n97_60 rfl ?_
  refine am_e_getf (v := .ref 192) n97_61 rfl ((F64 164 54 rfl).trans ((F63 164 54 rfl).trans ((F62 164 54 rfl).trans ((F61 164 54 rfl).trans ((F60 164 54 rfl).trans ((F59 164 54 rfl).trans ((F58 164 54 rfl).trans ((F57 164 54 rfl).trans ((F56 164 54 rfl).trans ((F55 164 54 rfl).trans ((F54 164 54 rfl).trans ((F53 164 54 rfl).trans ((F52 164 54 rfl).trans ((F51 164 54 rfl).trans ((F50 164 54 rfl).trans ((F49 164 54 rfl).trans ((F48 164 54 rfl).trans (f164_54 (h := h) hT)))))))))))))))))) ?_
  refine am_e_iconst (w := 4) n97_62 rfl ?_
  refine am_e_iload_n n97_63 rfl ?_
  refine am_e_imul (w := 0) n97_64 (by decide) ?_
  refine am_e_iload_n n97_65 rfl ?_
  refine am_e_iadd (w := 0) n97_66 (by decide) ?_
  refine am_e_iaload (v := 0) (q := 0) n97_67 rfl (by decide) (by decide) ((F64 192 0 rfl).trans ((F63 192 0 rfl).trans ((F62 192 0 rfl).trans ((F61 192 0 rfl).trans ((F60 192 0 rfl).trans ((F59 192 0 rfl).trans ((F58 192 0 rfl).trans ((F57 192 0 rfl).trans ((F56 192 0 rfl).trans ((F55 192 0 rfl).trans ((F54 192 0 rfl).trans ((F53 192 0 rfl).trans ((F52 192 0 rfl).trans ((F51 192 0 rfl).trans ((F50 192 0 rfl).trans ((F49 192 0 rfl).trans ((F48 192 0 rfl).trans (f192_0 (h := h) hT)))))))))))))))))) ?_
  refine am_e_iastore (q := 4) n97_68 rfl (by decide) (by decide) ?_
  refine am_e_aload_n n97_69 rfl ?_
  refine am_e_getf (v := .ref 193) n97_70 rfl ((F64 164 55 rfl).trans ((F63 164 55 rfl).trans ((F62 164 55 rfl).trans ((F61 164 55 rfl).trans ((F60 164 55 rfl).trans ((F59 164 55 rfl).trans ((F58 164 55 rfl).trans ((F57 164 55 rfl).trans ((F56 164 55 rfl).trans ((F55 164 55 rfl).trans ((F54 164 55 rfl).trans ((F53 164 55 rfl).trans ((F52 164 55 rfl).trans ((F51 164 55 rfl).trans ((F50 164 55 rfl).trans ((F49 164 55 rfl).trans ((F48 164 55 rfl).trans (f164_55 (h := h) hT)))))))))))))))))) ?_
  refine am_e_iconst (w := 4) n97_71 rfl ?_
  refine am_e_iload_n n97_72 rfl ?_
  refine am_e_imul (w := 4) n97_73 (by decide) ?_
  refine am_e_iload_n n97_74 rfl ?_
  refine am_e_iadd (w := 4) n97_75 (by decide) ?_
  refine am_e_aload_n n97_76 rfl ?_
  refine am_e_getf (v := .ref 193) n97_77 rfl ((F64 164 55 rfl).trans ((F63 164 55 rfl).trans ((F62 164 55 rfl).trans ((F61 164 55 rfl).trans ((F60 164 55 rfl).trans ((F59 164 55 rfl).trans ((F58 164 55 rfl).trans ((F57 164 55 rfl).trans ((F56 164 55 rfl).trans ((F55 164 55 rfl).trans ((F54 164 55 rfl).trans ((F53 164 55 rfl).trans ((F52 164 55 rfl).trans ((F51 164 55 rfl).trans ((F50 164 55 rfl).trans ((F49 164 55 rfl).trans ((F48 164 55 rfl).trans (f164_55 (h := h) hT)))))))))))))))))) ?_
  refine am_e_iconst (w := 4) n97_78 rfl ?_
  refine am_e_iload_n n97_79 rfl ?_
  refine am_e_imul (w := 0) n97_80 (by decide) ?_
  refine am_e_iload_n n97_81 rfl ?_
  refine am_e_iadd (w := 0) n97_82 (by decide) ?_
  refine am_e_iaload (v := 0) (q := 0) n97_83 rfl (by decide) (by decide) ((F64 193 0 rfl).trans ((F63 193 0 rfl).trans ((F62 193 0 rfl).trans ((F61 193 0 rfl).trans ((F60 193 0 rfl).trans ((F59 193 0 rfl).trans ((F58 193 0 rfl).trans ((F57 193 0 rfl).trans ((F56 193 0 rfl).trans ((F55 193 0 rfl).trans ((F54 193 0 rfl).trans ((F53 193 0 rfl).trans ((F52 193 0 rfl).trans ((F51 193 0 rfl).trans ((F50 193 0 rfl).trans ((F49 193 0 rfl).trans ((F48 193 0 rfl).trans (f193_0 (h := h) hT)))))))))))))))))) ?_
  refine am_e_iastore (q := 4) n97_84 rfl (by decide) (by decide) ?_
  refine am_e_iinc (w := 1) (ls' := [(3, .int 1), (0, .ref 164), (1, .int 1), (2, .int 0)]) n97_85 rfl rfl (by decide) rfl ?_
  refine am_e_goto c97_86 t97_86 ?_
  refine am_e_iload_n n97_34 rfl ?_
  refine am_e_iconst (w := 4) n97_35 rfl ?_
  refine am_e_cmpF n97_36 (am_c_geF (by decide)) ?_
  refine am_e_aload_n n97_37 rfl ?_
  refine am_e_getf (v := .ref 191) n97_38 rfl ((F64 164 53 rfl).trans ((F63 164 53 rfl).trans ((F62 164 53 rfl).trans ((F61 164 53 rfl).trans ((F60 164 53 rfl).trans ((F59 164 53 rfl).trans ((F58 164 53 rfl).trans ((F57 164 53 rfl).trans ((F56 164 53 rfl).trans ((F55 164 53 rfl).trans ((F54 164 53 rfl).trans ((F53 164 53 rfl).trans ((F52 164 53 rfl).trans ((F51 164 53 rfl).trans ((F50 164 53 rfl).trans ((F49 164 53 rfl).trans ((F48 164 53 rfl).trans (f164_53 (h := h) hT)))))))))))))))))) ?_
  refine am_e_iconst (w := 4) n97_39 rfl ?_
  refine am_e_iload_n n97_40 rfl ?_
  refine am_e_imul (w := 4) n97_41 (by decide) ?_
  refine am_e_iload_n n97_42 rfl ?_
  refine am_e_iadd (w := 5) n97_43 (by decide) ?_
  refine am_e_aload_n n97_44 rfl ?_
  refine am_e_getf (v := .ref 191) n97_45 rfl ((F64 164 53 rfl).trans ((F63 164 53 rfl).trans ((F62 164 53 rfl).trans ((F61 164 53 rfl).trans ((F60 164 53 rfl).trans ((F59 164 53 rfl).trans ((F58 164 53 rfl).trans ((F57 164 53 rfl).trans ((F56 164 53 rfl).trans ((F55 164 53 rfl).trans ((F54 164 53 rfl).trans ((F53 164 53 rfl).trans ((F52 164 53 rfl).trans ((F51 164 53 rfl).trans ((F50 164 53 rfl).trans ((F49 164 53 rfl).trans ((F48 164 53 rfl).trans (f164_53 (h := h) hT)))))))))))))))))) ?_
  refine am_e_iconst (w := 4) n97_46 rfl ?_
  refine am_e_iload_n n97_47 rfl ?_
  refine am_e_imul (w := 0) n97_48 (by decide) ?_
  refine am_e_iload_n n97_49 rfl ?_
  refine am_e_iadd (w := 1) n97_50 (by decide) ?_
  refine am_e_iaload (v := 0) (q := 1) n97_51 rfl (by decide) (by decide) ((F64 191 1 rfl).trans ((F63 191 1 rfl).trans ((F62 191 1 rfl).trans ((F61 191 1 rfl).trans ((F60 191 1 rfl).trans ((F59 191 1 rfl).trans ((F58 191 1 rfl).trans ((F57 191 1 rfl).trans ((F56 191 1 rfl).trans ((F55 191 1 rfl).trans ((F54 191 1 rfl).trans ((F53 191 1 rfl).trans ((F52 191 1 rfl).trans ((F51 191 1 rfl).trans ((F50 191 1 rfl).trans ((F49 191 1 rfl).trans ((F48 191 1 rfl).trans (f191_1 (h := h) hT)))))))))))))))))) ?_
  refine am_e_iastore (q := 5) n97_52 rfl (by decide) (by decide) ?_
  refine am_e_aload_n n97_53 rfl ?_
  refine am_e_getf (v := .ref 192) n97_54 rfl ((F64 164 54 rfl).trans ((F63 164 54 rfl).trans ((F62 164 54 rfl).trans ((F61 164 54 rfl).trans ((F60 164 54 rfl).trans ((F59 164 54 rfl).trans ((F58 164 54 rfl).trans ((F57 164 54 rfl).trans ((F56 164 54 rfl).trans ((F55 164 54 rfl).trans ((F54 164 54 rfl).trans ((F53 164 54 rfl).trans ((F52 164 54 rfl).trans ((F51 164 54 rfl).trans ((F50 164 54 rfl).trans ((F49 164 54 rfl).trans ((F48 164 54 rfl).trans (f164_54 (h := h) hT)))))))))))))))))) ?_
  refine am_e_iconst (w := 4) n97_55 rfl ?_
  refine am_e_iload_n n97_56 rfl ?_
  refine am_e_imul (w := 4) n97_57 (by decide) ?_
  refine am_e_iload_n n97_58 rfl ?_
  refine am_e_iadd (w := 5) n97_59 (by decide) ?_
  refine am_e_aload_n n97_60 rfl ?_
  refine am_e_getf (v := .ref 192) n97_61 rfl ((F64 164 54 rfl).trans ((F63 164 54 rfl).trans ((F62 164 54 rfl).trans ((F61 164 54 rfl).trans ((F60 164 54 rfl).trans ((F59 164 54 rfl).trans ((F58 164 54 rfl).trans ((F57 164 54 rfl).trans ((F56 164 54 rfl).trans ((F55 164 54 rfl).trans ((F54 164 54 rfl).trans ((F53 164 54 rfl).trans ((F52 164 54 rfl).trans ((F51 164 54 rfl).trans ((F50 164 54 rfl).trans ((F49 164 54 rfl).trans ((F48 164 54 rfl).trans (f164_54 (h := h) hT)))))))))))))))))) ?_
  refine am_e_iconst (w := 4) n97_62 rfl ?_
  refine am_e_iload_n n97_63 rfl ?_
  refine am_e_imul (w := 0) n97_64 (by decide) ?_
  refine am_e_iload_n n97_65 rfl ?_
  refine am_e_iadd (w := 1) n97_66 (by decide) ?_
  refine am_e_iaload (v := 0) (q := 1) n97_67 rfl (by decide) (by decide) ((F64 192 1 rfl).trans ((F63 192 1 rfl).trans ((F62 192 1 rfl).trans ((F61 192 1 rfl).trans ((F60 192 1 rfl).trans ((F59 192 1 rfl).trans ((F58 192 1 rfl).trans ((F57 192 1 rfl).trans ((F56 192 1 rfl).trans ((F55 192 1 rfl).trans ((F54 192 1 rfl).trans ((F53 192 1 rfl).trans ((F52 192 1 rfl).trans ((F51 192 1 rfl).trans ((F50 192 1 rfl).trans ((F49 192 1 rfl).trans ((F48 192 1 rfl).trans (f192_1 (h := h) hT)))))))))))))))))) ?_
  refine am_e_iastore (q := 5) n97_68 rfl (by decide) (by decide) ?_
  refine am_e_aload_n n97_69 rfl ?_
  refine am_e_getf (v := .ref 193) n97_70 rfl ((F64 164 55 rfl).trans ((F63 164 55 rfl).trans ((F62 164 55 rfl).trans ((F61 164 55 rfl).trans ((F60 164 55 rfl).trans ((F59 164 55 rfl).trans ((F58 164 55 rfl).trans ((F57 164 55 rfl).trans ((F56 164 55 rfl).trans ((F55 164 55 rfl).trans ((F54 164 55 rfl).trans ((F53 164 55 rfl).trans ((F52 164 55 rfl).trans ((F51 164 55 rfl).trans ((F50 164 55 rfl).trans ((F49 164 55 rfl).trans ((F48 164 55 rfl).trans (f164_55 (h := h) hT)))))))))))))))))) ?_
  refine am_e_iconst (w := 4) n97_71 rfl ?_
  refine am_e_iload_n n97_72 rfl ?_
  refine am_e_imul (w := 4) n97_73 (by decide) ?_
  refine am_e_iload_n n97_74 rfl ?_
  refine am_e_iadd (w := 5) n97_75 (by decide) ?_
  refine am_e_aload_n n97_76 rfl ?_
  refine am_e_getf (v := .ref 193) n97_77 rfl ((F64 164 55 rfl).trans ((F63 164 55 rfl).trans ((F62 164 55 rfl).trans ((F61 164 55 rfl).trans ((F60 164 55 rfl).trans ((F59 164 55 rfl).trans ((F58 164 55 rfl).trans ((F57 164 55 rfl).trans ((F56 164 55 rfl).trans ((F55 164 55 rfl).trans ((F54 164 55 rfl).trans ((F53 164 55 rfl).trans ((F52 164 55 rfl).trans ((F51 164 55 rfl).trans ((F50 164 55 rfl).trans ((F49 164 55 rfl).trans ((F48 164 55 rfl).trans (f164_55 (h := h) hT)))))))))))))))))) ?_
  refine am_e_iconst (w := 4) n97_78 rfl ?_
  refine am_e_iload_n n97_79 rfl ?_
  refine am_e_imul (w := 0) n97_80 (by decide) ?_
  refine am_e_iload_n n97_81 rfl ?_
  refine am_e_iadd (w := 1) n97_82 (by decide) ?_
  refine am_e_iaload (v := 0) (q := 1) n97_83 rfl (by decide) (by decide) ((F64 193 1 rfl).trans ((F63 193 1 rfl).trans ((F62 193 1 rfl).trans ((F61 193 1 rfl).trans ((F60 193 1 rfl).trans ((F59 193 1 rfl).trans ((F58 193 1 rfl).trans ((F57 193 1 rfl).trans ((F56 193 1 rfl).trans ((F55 193 1 rfl).trans ((F54 193 1 rfl).trans ((F53 193 1 rfl).trans ((F52 193 1 rfl).trans ((F51 193 1 rfl).trans ((F50 193 1 rfl).trans ((F49 193 1 rfl).trans ((F48 193 1 rfl).trans (f193_1 (h := h) hT)))))))))))))))))) ?_
  refine am_e_iastore (q := 5) n97_84 rfl (by decide) (by decide) ?_
  refine am_e_iinc (w := 2) (ls' := [(3, .int 2), (0, .ref 164), (1, .int 1), (2, .int 0)]) n97_85 rfl rfl (by decide) rfl ?_
  refine am_e_goto c97_86 t97_86 ?_
  refine am_e_iload_n n97_34 rfl ?_
  refine am_e_iconst (w := 4) n97_35 rfl ?_
  refine am_e_cmpF n97_36 (am_c_geF (by decide)) ?_
  refine am_e_aload_n n97_37 rfl ?_
  refine am_e_getf (v := .ref 191) n97_38 rfl ((F64 164 53 rfl).trans ((F63 164 53 rfl).trans ((F62 164 53 rfl).trans ((F61 164 53 rfl).trans ((F60 164 53 rfl).trans ((F59 164 53 rfl).trans ((F58 164 53 rfl).trans ((F57 164 53 rfl).trans ((F56 164 53 rfl).trans ((F55 164 53 rfl).trans ((F54 164 53 rfl).trans ((F53 164 53 rfl).trans ((F52 164 53 rfl).trans ((F51 164 53 rfl).trans ((F50 164 53 rfl).trans ((F49 164 53 rfl).trans ((F48 164 53 rfl).trans (f164_53 (h := h) hT)))))))))))))))))) ?_
  refine am_e_iconst (w := 4) n97_39 rfl ?_
  refine am_e_iload_n n97_40 rfl ?_
  refine am_e_imul (w := 4) n97_41 (by decide) ?_
  refine am_e_iload_n n97_42 rfl ?_
  refine am_e_iadd (w := 6) n97_43 (by decide) ?_
  refine am_e_aload_n n97_44 rfl ?_
  refine am_e_getf (v := .ref 191) n97_45 rfl ((F64 164 53 rfl).trans ((F63 164 53 rfl).trans ((F62 164 53 rfl).trans ((F61 164 53 rfl).trans ((F60 164 53 rfl).trans ((F59 164 53 rfl).trans ((F58 164 53 rfl).trans ((F57 164 53 rfl).trans ((F56 164 53 rfl).trans ((F55 164 53 rfl).trans ((F54 164 53 rfl).trans ((F53 164 53 rfl).trans ((F52 164 53 rfl).trans ((F51 164 53 rfl).trans ((F50 164 53 rfl).trans ((F49 164 53 rfl).trans ((F48 164 53 rfl).trans (f164_53 (h := h) hT)))))))))))))))))) ?_
  refine am_e_iconst (w := 4) n97_46 rfl ?_
  refine am_e_iload_n n97_47 rfl ?_
  refine am_e_imul (w := 0) n97_48 (by decide) ?_
  refine am_e_iload_n n97_49 rfl ?_
  refine am_e_iadd (w := 2) n97_50 (by decide) ?_
  refine am_e_iaload (v := 0) (q := 2) n97_51 rfl (by decide) (by decide) ((F64 191 2 rfl).trans ((F63 191 2 rfl).trans ((F62 191 2 rfl).trans ((F61 191 2 rfl).trans ((F60 191 2 rfl).trans ((F59 191 2 rfl).trans ((F58 191 2 rfl).trans ((F57 191 2 rfl).trans ((F56 191 2 rfl).trans ((F55 191 2 rfl).trans ((F54 191 2 rfl).trans ((F53 191 2 rfl).trans ((F52 191 2 rfl).trans ((F51 191 2 rfl).trans ((F50 191 2 rfl).trans ((F49 191 2 rfl).trans ((F48 191 2 rfl).trans (f191_2 (h := h) hT)))))))))))))))))) ?_
  refine am_e_iastore (q := 6) n97_52 rfl (by decide) (by decide) ?_
  refine am_e_aload_n n97_53 rfl ?_
  refine am_e_getf (v := .ref 192) n97_54 rfl ((F64 164 54 rfl).trans ((F63 164 54 rfl).trans ((F62 164 54 rfl).trans ((F61 164 54 rfl).trans ((F60 164 54 rfl).trans ((F59 164 54 rfl).trans ((F58 164 54 rfl).trans ((F57 164 54 rfl).trans ((F56 164 54 rfl).trans ((F55 164 54 rfl).trans ((F54 164 54 rfl).trans ((F53 164 54 rfl).trans ((F52 164 54 rfl).trans ((F51 164 54 rfl).trans ((F50 164 54 rfl).trans ((F49 164 54 rfl).trans ((F48 164 54 rfl).trans (f164_54 (h := h) hT)))))))))))))))))) ?_
  refine am_e_iconst (w := 4) n97_55 rfl ?_
  refine am_e_iload_n n97_56 rfl ?_
  refine am_e_imul (w := 4) n97_57 (by decide) ?_
  refine am_e_iload_n n97_58 rfl ?_
  refine am_e_iadd (w := 6) n97_59 (by decide) ?_
  refine am_e_aload_n n97_60 rfl ?_
  refine am_e_getf (v := .ref 192) n97_61 rfl ((F64 164 54 rfl).trans ((F63 164 54 rfl).trans ((F62 164 54 rfl).trans ((F61 164 54 rfl).trans ((F60 164 54 rfl).trans ((F59 164 54 rfl).trans ((F58 164 54 rfl).trans ((F57 164 54 rfl).trans ((F56 164 54 rfl).trans ((F55 164 54 rfl).trans ((F54 164 54 rfl).trans ((F53 164 54 rfl).trans ((F52 164 54 rfl).trans ((F51 164 54 rfl).trans ((F50 164 54 rfl).trans ((F49 164 54 rfl).trans ((F48 164 54 rfl).trans (f164_54 (h := h) hT)))))))))))))))))) ?_
  refine am_e_iconst (w := 4) n97_62 rfl ?_
  refine am_e_iload_n n97_63 rfl ?_
  refine am_e_imul (w := 0) n97_64 (by decide) ?_
  refine am_e_iload_n n97_65 rfl ?_
  refine am_e_iadd (w := 2) n97_66 (by decide) ?_
  refine am_e_iaload (v := 0) (q := 2) n97_67 rfl (by decide) (by decide) ((F64 192 2 rfl).trans ((F63 192 2 rfl).trans ((F62 192 2 rfl).trans ((F61 192 2 rfl).trans ((F60 192 2 rfl).trans ((F59 192 2 rfl).trans ((F58 192 2 rfl).trans ((F57 192 2 rfl).trans ((F56 192 2 rfl).trans ((F55 192 2 rfl).trans ((F54 192 2 rfl).trans ((F53 192 2 rfl).trans ((F52 192 2 rfl).trans ((F51 192 2 rfl).trans ((F50 192 2 rfl).trans ((F49 192 2 rfl).trans ((F48 192 2 rfl).trans (f192_2 (h := h) hT)))))))))))))))))) ?_
  refine am_e_iastore (q := 6) n97_68 rfl (by decide) (by decide) ?_
  refine am_e_aload_n n97_69 rfl ?_
  refine am_e_getf (v := .ref 193) n97_70 rfl ((F64 164 55 rfl).trans ((F63 164 55 rfl).trans ((F62 164 55 rfl).trans ((F61 164 55 rfl).trans ((F60 164 55 rfl).trans ((F59 164 55 rfl).trans ((F58 164 55 rfl).trans ((F57 164 55 rfl).trans ((F56 164 55 rfl).trans ((F55 164 55 rfl).trans ((F54 164 55 rfl).trans ((F53 164 55 rfl).trans ((F52 164 55 rfl).trans ((F51 164 55 rfl).trans ((F50 164 55 rfl).trans ((F49 164 55 rfl).trans ((F48 164 55 rfl).trans (f164_55 (h := h) hT)))))))))))))))))) ?_
  refine am_e_iconst (w := 4) n97_71 rfl ?_
  refine am_e_iload_n n97_72 rfl ?_
  refine am_e_imul (w := 4) n97_73 (by decide) ?_
  refine am_e_iload_n n97_74 rfl ?_
  refine am_e_iadd (w := 6) n97_75 (by decide) ?_
  refine am_e_aload_n n97_76 rfl ?_
  refine am_e_getf (v := .ref 193) n97_77 rfl ((F64 164 55 rfl).trans ((F63 164 55 rfl).trans ((F62 164 55 rfl).trans ((F61 164 55 rfl).trans ((F60 164 55 rfl).trans ((F59 164 55 rfl).trans ((F58 164 55 rfl).trans ((F57 164 55 rfl).trans ((F56 164 55 rfl).trans ((F55 164 55 rfl).trans ((F54 164 55 rfl).trans ((F53 164 55 rfl).trans ((F52 164 55 rfl).trans ((F51 164 55 rfl).trans ((F50 164 55 rfl).trans ((F49 164 55 rfl).trans ((F48 164 55 rfl).trans (f164_55 (h := h) hT)))))))))))))))))) ?_
  refine am_e_iconst (w := 4) n97_78 rfl ?_
  refine am_e_iload_n n97_79 rfl ?_
  refine am_e_imul (w := 0) n97_80 (by decide) ?_
  refine am_e_iload_n n97_81 rfl ?_
  refine am_e_iadd (w := 2) n97_82 (by decide) ?_
  refine am_e_iaload (v := 0) (q := 2) n97_83 rfl (by decide) (by decide) ((F64 193 2 rfl).trans ((F63 193 2 rfl).trans ((F62 193 2 rfl).trans ((F61 193 2 rfl).trans ((F60 193 2 rfl).trans ((F59 193 2 rfl).trans ((F58 193 2 rfl).trans ((F57 193 2 rfl).trans ((F56 193 2 rfl).trans ((F55 193 2 rfl).trans ((F54 193 2 rfl).trans ((F53 193 2 rfl).trans ((F52 193 2 rfl).trans ((F51 193 2 rfl).trans ((F50 193 2 rfl).trans ((F49 193 2 rfl).trans ((F48 193 2 rfl).trans (f193_2 (h := h) hT)))))))))))))))))) ?_
  refine am_e_iastore (q := 6) n97_84 rfl (by decide) (by decide) ?_
  refine am_e_iinc (w := 3) (ls' := [(3, .int 3), (0, .ref 164), (1, .int 1), (2, .int 0)]) n97_85 rfl rfl (by decide) rfl ?_
  refine am_e_goto c97_86 t97_86 ?_
  refine am_e_iload_n n97_34 rfl ?_
  refine am_e_iconst (w := 4) n97_35 rfl ?_
  refine am_e_cmpF n97_36 (am_c_geF (by decide)) ?_
  refine am_e_aload_n n97_37 rfl ?_
  refine am_e_getf (v := .ref 191) n97_38 rfl ((F64 164 53 rfl).trans ((F63 164 53 rfl).trans ((F62 164 53 rfl).trans ((F61 164 53 rfl).trans ((F60 164 53 rfl).trans ((F59 164 53 rfl).trans ((F58 164 53 rfl).trans ((F57 164 53 rfl).trans ((F56 164 53 rfl).trans ((F55 164 53 rfl).trans ((F54 164 53 rfl).trans ((F53 164 53 rfl).trans ((F52 164 53 rfl).trans ((F51 164 53 rfl).trans ((F50 164 53 rfl).trans ((F49 164 53 rfl).trans ((F48 164 53 rfl).trans (f164_53 (h := h) hT)))))))))))))))))) ?_
  refine am_e_iconst (w := 4) n97_39 rfl ?_
  refine am_e_iload_n n97_40 rfl ?_
  refine am_e_imul (w := 4) n97_41 (by decide) ?_
  refine am_e_iload_n n97_42 rfl ?_
  refine am_e_iadd (w := 7) n97_43 (by decide) ?_
  refine am_e_aload_n n97_44 rfl ?_
  refine am_e_getf (v := .ref 191) n97_45 rfl ((F64 164 53 rfl).trans ((F63 164 53 rfl).trans ((F62 164 53 rfl).trans ((F61 164 53 rfl).trans ((F60 164 53 rfl).trans ((F59 164 53 rfl).trans ((F58 164 53 rfl).trans ((F57 164 53 rfl).trans ((F56 164 53 rfl).trans ((F55 164 53 rfl).trans ((F54 164 53 rfl).trans ((F53 164 53 rfl).trans ((F52 164 53 rfl).trans ((F51 164 53 rfl).trans ((F50 164 53 rfl).trans ((F49 164 53 rfl).trans ((F48 164 53 rfl).trans (f164_53 (h := h) hT)))))))))))))))))) ?_
  refine am_e_iconst (w := 4) n97_46 rfl ?_
  refine am_e_iload_n n97_47 rfl ?_
  refine am_e_imul (w := 0) n97_48 (by decide) ?_
  refine am_e_iload_n n97_49 rfl ?_
  refine am_e_iadd (w := 3) n97_50 (by decide) ?_
  refine am_e_iaload (v := 0) (q := 3) n97_51 rfl (by decide) (by decide) ((F64 191 3 rfl).trans ((F63 191 3 rfl).trans ((F62 191 3 rfl).trans ((F61 191 3 rfl).trans ((F60 191 3 rfl).trans ((F59 191 3 rfl).trans ((F58 191 3 rfl).trans ((F57 191 3 rfl).trans ((F56 191 3 rfl).trans ((F55 191 3 rfl).trans ((F54 191 3 rfl).trans ((F53 191 3 rfl).trans ((F52 191 3 rfl).trans ((F51 191 3 rfl).trans ((F50 191 3 rfl).trans ((F49 191 3 rfl).trans ((F48 191 3 rfl).trans (f191_3 (h := h) hT)))))))))))))))))) ?_
  refine am_e_iastore (q := 7) n97_52 rfl (by decide) (by decide) ?_
  refine am_e_aload_n n97_53 rfl ?_
  refine am_e_getf (v := .ref 192) n97_54 rfl ((F64 164 54 rfl).trans ((F63 164 54 rfl).trans ((F62 164 54 rfl).trans ((F61 164 54 rfl).trans ((F60 164 54 rfl).trans ((F59 164 54 rfl).trans ((F58 164 54 rfl).trans ((F57 164 54 rfl).trans ((F56 164 54 rfl).trans ((F55 164 54 rfl).trans ((F54 164 54 rfl).trans ((F53 164 54 rfl).trans ((F52 164 54 rfl).trans ((F51 164 54 rfl).trans ((F50 164 54 rfl).trans ((F49 164 54 rfl).trans ((F48 164 54 rfl).trans (f164_54 (h := h) hT)))))))))))))))))) ?_
  refine am_e_iconst (w := 4) n97_55 rfl ?_
  refine am_e_iload_n n97_56 rfl ?_
  refine am_e_imul (w := 4) n97_57 (by decide) ?_
  refine am_e_iload_n n97_58 rfl ?_
  refine am_e_iadd (w := 7) n97_59 (by decide) ?_
  refine am_e_aload_n n97_60 rfl ?_
  refine am_e_getf (v := .ref 192) n97_61 rfl ((F64 164 54 rfl).trans ((F63 164 54 rfl).trans ((F62 164 54 rfl).trans ((F61 164 54 rfl).trans ((F60 164 54 rfl).trans ((F59 164 54 rfl).trans ((F58 164 54 rfl).trans ((F57 164 54 rfl).trans ((F56 164 54 rfl).trans ((F55 164 54 rfl).trans ((F54 164 54 rfl).trans ((F53 164 54 rfl).trans ((F52 164 54 rfl).trans ((F51 164 54 rfl).trans ((F50 164 54 rfl).trans ((F49 164 54 rfl).trans ((F48 164 54 rfl).trans (f164_54 (h := h) hT)))))))))))))))))) ?_
  refine am_e_iconst (w := 4) n97_62 rfl ?_
  refine am_e_iload_n n97_63 rfl ?_
  refine am_e_imul (w := 0) n97_64 (by decide) ?_
  refine am_e_iload_n n97_65 rfl ?_
  refine am_e_iadd (w := 3) n97_66 (by decide) ?_
  refine am_e_iaload (v := 0) (q := 3) n97_67 rfl (by decide) (by decide) ((F64 192 3 rfl).trans ((F63 192 3 rfl).trans ((F62 192 3 rfl).trans ((F61 192 3 rfl).trans ((F60 192 3 rfl).trans ((F59 192 3 rfl).trans ((F58 192 3 rfl).trans ((F57 192 3 rfl).trans ((F56 192 3 rfl).trans ((F55 192 3 rfl).trans ((F54 192 3 rfl).trans ((F53 192 3 rfl).trans ((F52 192 3 rfl).trans ((F51 192 3 rfl).trans ((F50 192 3 rfl).trans ((F49 192 3 rfl).trans ((F48 192 3 rfl).trans (f192_3 (h := h) hT)))))))))))))))))) ?_
  refine am_e_iastore (q := 7) n97_68 rfl (by decide) (by decide) ?_
  refine am_e_aload_n n97_69 rfl ?_
  refine am_e_getf (v := .ref 193) n97_70 rfl ((F64 164 55 rfl).trans ((F63 164 55 rfl).trans ((F62 164 55 rfl).trans ((F61 164 55 rfl).trans ((F60 164 55 rfl).trans ((F59 164 55 rfl).trans ((F58 164 55 rfl).trans ((F57 164 55 rfl).trans ((F56 164 55 rfl).trans ((F55 164 55 rfl).trans ((F54 164 55 rfl).trans ((F53 164 55 rfl).trans ((F52 164 55 rfl).trans ((F51 164 55 rfl).trans ((F50 164 55 rfl).trans ((F49 164 55 rfl).trans ((F48 164 55 rfl).trans (f164_55 (h := h) hT)))))))))))))))))) ?_
  refine am_e_iconst (w := 4) n97_71 rfl ?_
  refine am_e_iload_n n97_72 rfl ?_
  refine am_e_imul (w := 4) n97_73 (by decide) ?_
  refine am_e_iload_n n97_74 rfl ?_
  refine am_e_iadd (w := 7) n97_75 (by decide) ?_
  refine am_e_aload_n n97_76 rfl ?_
  refine am_e_getf (v := .ref 193) n97_77 rfl ((F64 164 55 rfl).trans ((F63 164 55 rfl).trans ((F62 164 55 rfl).trans ((F61 164 55 rfl).trans ((F60 164 55 rfl).trans ((F59 164 55 rfl).trans ((F58 164 55 rfl).trans ((F57 164 55 rfl).trans ((F56 164 55 rfl).trans ((F55 164 55 rfl).trans ((F54 164 55 rfl).trans ((F53 164 55 rfl).trans ((F52 164 55 rfl).trans ((F51 164 55 rfl).trans ((F50 164 55 rfl).trans ((F49 164 55 rfl).trans ((F48 164 55 rfl).trans (f164_55 (h := h) hT)))))))))))))))))) ?_
  refine am_e_iconst (w := 4) n97_78 rfl ?_
  refine am_e_iload_n n97_79 rfl ?_
  refine am_e_imul (w := 0) n97_80 (by decide) ?_
  refine am_e_iload_n n97_81 rfl ?_
  refine am_e_iadd (w := 3) n97_82 (by decide) ?_
  refine am_e_iaload (v := 0) (q := 3) n97_83 rfl (by decide) (by decide) ((F64 193 3 rfl).trans ((F63 193 3 rfl).trans ((F62 193 3 rfl).trans ((F61 193 3 rfl).trans ((F60 193 3 rfl).trans ((F59 193 3 rfl).trans ((F58 193 3 rfl).trans ((F57 193 3 rfl).trans ((F56 193 3 rfl).trans ((F55 193 3 rfl).trans ((F54 193 3 rfl).trans ((F53 193 3 rfl).trans ((F52 193 3 rfl).trans ((F51 193 3 rfl).trans ((F50 193 3 rfl).trans ((F49 193 3 rfl).trans ((F48 193 3 rfl).trans (f193_3 (h := h) hT)))))))))))))))))) ?_
  refine am_e_iastore (q := 7) n97_84 rfl (by decide) (by decide) ?_
  refine am_e_iinc (w := 4) (ls' := [(3, .int 4), (0, .ref 164), (1, .int 1), (2, .int 0)]) n97_85 rfl rfl (by decide) rfl ?_
  refine am_e_goto c97_86 t97_86 ?_
  refine am_e_iload_n n97_34 rfl ?_
  refine am_e_iconst (w := 4) n97_35 rfl ?_
  refine am_e_cmpT n97_36 (am_c_geT (by decide)) t97_36 ?_
  refine am_e_vret c97_87 rfl rfl ?_
  refine am_e_iconst (w := 0) n127_35 rfl ?_
  refine am_e_istore (ls' := [(8, .int 0), (7, .int 7), (6, .int 0), (0, .ref 164), (2, .int (nI n)), (3, .int (nI b)), (4, .long 0)]) n127_36 rfl rfl ?_
  refine am_Ek_ls (ls' := [(0, .ref 164), (2, .int (nI n)), (3, .int (nI b)), (4, .long 0), (6, .int 0), (7, .int 7), (8, .int (nI 0))]) ⟨rfl, rfl, rfl, rfl, rfl, rfl, rfl, trivial⟩ ?_
  refine am_cm_e (n := n) (b := b) (s := 0) (t := 0) (i7 := 7) (dr := dr64) (by omega) (by omega) ⟨((F64 164 23 rfl).trans ((F63 164 23 rfl).trans ((F62 164 23 rfl).trans ((F61 164 23 rfl).trans ((F60 164 23 rfl).trans ((F59 164 23 rfl).trans ((F58 164 23 rfl).trans ((F57 164 23 rfl).trans ((F56 164 23 rfl).trans ((F55 164 23 rfl).trans ((F54 164 23 rfl).trans ((F53 164 23 rfl).trans ((F52 164 23 rfl).trans ((F51 164 23 rfl).trans ((F50 164 23 rfl).trans ((F49 164 23 rfl).trans ((F48 164 23 rfl).trans (f164_23 (h := h) hT)))))))))))))))))), ((F64 168 4 rfl).trans ((F63 168 4 rfl).trans ((F62 168 4 rfl).trans ((F61 168 4 rfl).trans ((F60 168 4 rfl).trans ((F59 168 4 rfl).trans ((F58 168 4 rfl).trans ((F57 168 4 rfl).trans ((F56 168 4 rfl).trans ((F55 168 4 rfl).trans ((F54 168 4 rfl).trans ((F53 168 4 rfl).trans ((F52 168 4 rfl).trans ((F51 168 4 rfl).trans ((F50 168 4 rfl).trans ((F49 168 4 rfl).trans ((F48 168 4 rfl).trans (f168_4 (h := h) hT)))))))))))))))))), ((F64 164 50 rfl).trans ((F63 164 50 rfl).trans ((F62 164 50 rfl).trans ((F61 164 50 rfl).trans ((F60 164 50 rfl).trans ((F59 164 50 rfl).trans ((F58 164 50 rfl).trans ((F57 164 50 rfl).trans ((F56 164 50 rfl).trans ((F55 164 50 rfl).trans ((F54 164 50 rfl).trans ((F53 164 50 rfl).trans ((F52 164 50 rfl).trans ((F51 164 50 rfl).trans ((F50 164 50 rfl).trans ((F49 164 50 rfl).trans ((F48 164 50 rfl).trans (f164_50 (h := h) hT)))))))))))))))))), ((F64 164 61 rfl).trans ((F63 164 61 rfl).trans ((F62 164 61 rfl).trans ((F61 164 61 rfl).trans ((F60 164 61 rfl).trans ((F59 164 61 rfl).trans ((F58 164 61 rfl).trans ((F57 164 61 rfl).trans ((F56 164 61 rfl).trans ((F55 164 61 rfl).trans ((F54 164 61 rfl).trans ((F53 164 61 rfl).trans ((F52 164 61 rfl).trans ((F51 164 61 rfl).trans ((F50 164 61 rfl).trans ((F49 164 61 rfl).trans ((F48 164 61 rfl).trans (f164_61 (h := h) hT)))))))))))))))))), ((F64 164 47 rfl).trans ((F63 164 47 rfl).trans ((F62 164 47 rfl).trans ((F61 164 47 rfl).trans ((F60 164 47 rfl).trans ((F59 164 47 rfl).trans ((F58 164 47 rfl).trans ((F57 164 47 rfl).trans ((F56 164 47 rfl).trans ((F55 164 47 rfl).trans ((F54 164 47 rfl).trans ((F53 164 47 rfl).trans ((F52 164 47 rfl).trans ((F51 164 47 rfl).trans ((F50 164 47 rfl).trans ((F49 164 47 rfl).trans ((F48 164 47 rfl).trans (f164_47 (h := h) hT)))))))))))))))))), ((F64 168 0 rfl).trans ((F63 168 0 rfl).trans ((F62 168 0 rfl).trans ((F61 168 0 rfl).trans ((F60 168 0 rfl).trans ((F59 168 0 rfl).trans ((F58 168 0 rfl).trans ((F57 168 0 rfl).trans ((F56 168 0 rfl).trans ((F55 168 0 rfl).trans ((F54 168 0 rfl).trans ((F53 168 0 rfl).trans ((F52 168 0 rfl).trans ((F51 168 0 rfl).trans ((F50 168 0 rfl).trans ((F49 168 0 rfl).trans ((F48 168 0 rfl).trans (f168_0 (h := h) hT)))))))))))))))))), ((F64 164 51 rfl).trans ((F63 164 51 rfl).trans ((F62 164 51 rfl).trans ((F61 164 51 rfl).trans ((F60 164 51 rfl).trans ((F59 164 51 rfl).trans ((F58 164 51 rfl).trans ((F57 164 51 rfl).trans ((F56 164 51 rfl).trans ((F55 164 51 rfl).trans ((F54 164 51 rfl).trans ((F53 164 51 rfl).trans ((F52 164 51 rfl).trans ((F51 164 51 rfl).trans ((F50 164 51 rfl).trans ((F49 164 51 rfl).trans ((F48 164 51 rfl).trans (f164_51 (h := h) hT)))))))))))))))))), ((F64 164 33 rfl).trans ((F63 164 33 rfl).trans ((F62 164 33 rfl).trans ((F61 164 33 rfl).trans ((F60 164 33 rfl).trans ((F59 164 33 rfl).trans ((F58 164 33 rfl).trans ((F57 164 33 rfl).trans ((F56 164 33 rfl).trans ((F55 164 33 rfl).trans ((F54 164 33 rfl).trans ((F53 164 33 rfl).trans ((F52 164 33 rfl).trans ((F51 164 33 rfl).trans ((F50 164 33 rfl).trans ((F49 164 33 rfl).trans ((F48 164 33 rfl).trans (f164_33 (h := h) hT)))))))))))))))))), ((F64 178 2 rfl).trans ((F63 178 2 rfl).trans ((F62 178 2 rfl).trans ((F61 178 2 rfl).trans ((F60 178 2 rfl).trans ((F59 178 2 rfl).trans ((F58 178 2 rfl).trans ((F57 178 2 rfl).trans ((F56 178 2 rfl).trans ((F55 178 2 rfl).trans ((F54 178 2 rfl).trans ((F53 178 2 rfl).trans ((F52 178 2 rfl).trans ((F51 178 2 rfl).trans ((F50 178 2 rfl).trans ((F49 178 2 rfl).trans ((F48 178 2 rfl).trans (f178_2 (h := h) hT)))))))))))))))))), ((F64 178 0 rfl).trans ((F63 178 0 rfl).trans ((F62 178 0 rfl).trans ((F61 178 0 rfl).trans ((F60 178 0 rfl).trans ((F59 178 0 rfl).trans ((F58 178 0 rfl).trans ((F57 178 0 rfl).trans ((F56 178 0 rfl).trans ((F55 178 0 rfl).trans ((F54 178 0 rfl).trans ((F53 178 0 rfl).trans ((F52 178 0 rfl).trans ((F51 178 0 rfl).trans ((F50 178 0 rfl).trans ((F49 178 0 rfl).trans ((F48 178 0 rfl).trans (f178_0 (h := h) hT)))))))))))))))))), ((F64 164 62 rfl).trans ((F63 164 62 rfl).trans ((F62 164 62 rfl).trans ((F61 164 62 rfl).trans ((F60 164 62 rfl).trans ((F59 164 62 rfl).trans ((F58 164 62 rfl).trans ((F57 164 62 rfl).trans ((F56 164 62 rfl).trans ((F55 164 62 rfl).trans ((F54 164 62 rfl).trans ((F53 164 62 rfl).trans ((F52 164 62 rfl).trans ((F51 164 62 rfl).trans ((F50 164 62 rfl).trans ((F49 164 62 rfl).trans ((F48 164 62 rfl).trans (f164_62 (h := h) hT)))))))))))))))))), ((F64 164 58 rfl).trans ((F63 164 58 rfl).trans ((F62 164 58 rfl).trans ((F61 164 58 rfl).trans ((F60 164 58 rfl).trans ((F59 164 58 rfl).trans ((F58 164 58 rfl).trans ((F57 164 58 rfl).trans ((F56 164 58 rfl).trans ((F55 164 58 rfl).trans ((F54 164 58 rfl).trans ((F53 164 58 rfl).trans ((F52 164 58 rfl).trans ((F51 164 58 rfl).trans ((F50 164 58 rfl).trans ((F49 164 58 rfl).trans ((F48 164 58 rfl).trans (f164_58 (h := h) hT)))))))))))))))))), ((F64 164 60 rfl).trans ((F63 164 60 rfl).trans ((F62 164 60 rfl).trans ((F61 164 60 rfl).trans ((F60 164 60 rfl).trans ((F59 164 60 rfl).trans ((F58 164 60 rfl).trans ((F57 164 60 rfl).trans ((F56 164 60 rfl).trans ((F55 164 60 rfl).trans ((F54 164 60 rfl).trans ((F53 164 60 rfl).trans ((F52 164 60 rfl).trans ((F51 164 60 rfl).trans ((F50 164 60 rfl).trans ((F49 164 60 rfl).trans ((F48 164 60 rfl).trans (f164_60 (h := h) hT)))))))))))))))))), trivial⟩ rfl rfl qc64 ?_
  intro h65 dr65 F65 qa65 qb65 qc65
  refine am_e_iload n127_59 rfl ?_
  refine am_e_aload_n n127_60 rfl ?_
  refine am_e_getf (v := .ref 188) n127_61 rfl ((F65 164 50 rfl).trans ((F64 164 50 rfl).trans ((F63 164 50 rfl).trans ((F62 164 50 rfl).trans ((F61 164 50 rfl).trans ((F60 164 50 rfl).trans ((F59 164 50 rfl).trans ((F58 164 50 rfl).trans ((F57 164 50 rfl).trans ((F56 164 50 rfl).trans ((F55 164 50 rfl).trans ((F54 164 50 rfl).trans ((F53 164 50 rfl).trans ((F52 164 50 rfl).trans ((F51 164 50 rfl).trans ((F50 164 50 rfl).trans ((F49 164 50 rfl).trans ((F48 164 50 rfl).trans (f164_50 (h := h) hT))))))))))))))))))) ?_
  refine am_e_iconst (w := 1) n127_62 rfl ?_
  refine am_e_iaload (v := 0) (q := 1) n127_63 rfl (by decide) (by decide) qa65 ?_
  refine am_e_iload_n n127_64 rfl ?_
  refine am_e_cmpT n127_65 (am_c_ltT (nI_lt (a := 0) hb0 (by omega))) t127_65 ?_
  refine am_e_iconst (w := 0) n127_68 rfl ?_
  refine am_e_iadd (w := 0) n127_69 (by decide) ?_
  refine am_e_istore (ls' := [(6, .int 0), (0, .ref 164), (2, .int (nI n)), (3, .int (nI b)), (4, .long 0), (7, .int 7), (8, .int (nI n))]) n127_70 rfl rfl ?_
  refine am_e_iinc (w := 8) (ls' := [(7, .int 8), (6, .int 0), (0, .ref 164), (2, .int (nI n)), (3, .int (nI b)), (4, .long 0), (8, .int (nI n))]) n127_71 rfl rfl (by decide) rfl ?_
  refine am_e_goto c127_72 t127_72 ?_
  refine am_e_iload n127_28 rfl ?_
  refine am_e_bipush (w := 10) n127_29 (by decide) ?_
  refine am_e_cmpF n127_30 (am_c_geF (by decide)) ?_
  refine am_e_aload_n n127_31 rfl ?_
  refine am_e_iconst (w := 1) n127_32 rfl ?_
  refine am_e_iconst (w := 0) n127_33 rfl ?_
  refine am_e_callV (L := [(0, .ref 164), (1, .int 1), (2, .int 0)]) n127_34 rfl rfl rfl rfl rfl rfl rfl rfl ?_
  refine am_e_aload_n n97_0 rfl ?_
  refine am_e_getf (v := .ref 188) n97_1 rfl ((F65 164 50 rfl).trans ((F64 164 50 rfl).trans ((F63 164 50 rfl).trans ((F62 164 50 rfl).trans ((F61 164 50 rfl).trans ((F60 164 50 rfl).trans ((F59 164 50 rfl).trans ((F58 164 50 rfl).trans ((F57 164 50 rfl).trans ((F56 164 50 rfl).trans ((F55 164 50 rfl).trans ((F54 164 50 rfl).trans ((F53 164 50 rfl).trans ((F52 164 50 rfl).trans ((F51 164 50 rfl).trans ((F50 164 50 rfl).trans ((F49 164 50 rfl).trans ((F48 164 50 rfl).trans (f164_50 (h := h) hT))))))))))))))))))) ?_
  refine am_e_iload_n n97_2 rfl ?_
  refine am_e_aload_n n97_3 rfl ?_
  refine am_e_getf (v := .ref 188) n97_4 rfl ((F65 164 50 rfl).trans ((F64 164 50 rfl).trans ((F63 164 50 rfl).trans ((F62 164 50 rfl).trans ((F61 164 50 rfl).trans ((F60 164 50 rfl).trans ((F59 164 50 rfl).trans ((F58 164 50 rfl).trans ((F57 164 50 rfl).trans ((F56 164 50 rfl).trans ((F55 164 50 rfl).trans ((F54 164 50 rfl).trans ((F53 164 50 rfl).trans ((F52 164 50 rfl).trans ((F51 164 50 rfl).trans ((F50 164 50 rfl).trans ((F49 164 50 rfl).trans ((F48 164 50 rfl).trans (f164_50 (h := h) hT))))))))))))))))))) ?_
  refine am_e_iload_n n97_5 rfl ?_
  refine am_e_iaload (v := 0) (q := 0) n97_6 rfl (by decide) (by decide) ((F65 188 0 rfl).trans ((F64 188 0 rfl).trans ((F63 188 0 rfl).trans ((F62 188 0 rfl).trans ((F61 188 0 rfl).trans ((F60 188 0 rfl).trans ((F59 188 0 rfl).trans ((F58 188 0 rfl).trans ((F57 188 0 rfl).trans ((F56 188 0 rfl).trans ((F55 188 0 rfl).trans ((F54 188 0 rfl).trans ((F53 188 0 rfl).trans ((F52 188 0 rfl).trans ((F51 188 0 rfl).trans ((F50 188 0 rfl).trans ((F49 188 0 rfl).trans ((F48 188 0 rfl).trans (f188_0 (h := h) hT))))))))))))))))))) ?_
  refine am_e_iastore (q := 1) n97_7 rfl (by decide) (by decide) ?_
  refine am_e_aload_n n97_8 rfl ?_
  refine am_e_getf (v := .ref 189) n97_9 rfl ((F65 164 51 rfl).trans ((F64 164 51 rfl).trans ((F63 164 51 rfl).trans ((F62 164 51 rfl).trans ((F61 164 51 rfl).trans ((F60 164 51 rfl).trans ((F59 164 51 rfl).trans ((F58 164 51 rfl).trans ((F57 164 51 rfl).trans ((F56 164 51 rfl).trans ((F55 164 51 rfl).trans ((F54 164 51 rfl).trans ((F53 164 51 rfl).trans ((F52 164 51 rfl).trans ((F51 164 51 rfl).trans ((F50 164 51 rfl).trans ((F49 164 51 rfl).trans ((F48 164 51 rfl).trans (f164_51 (h := h) hT))))))))))))))))))) ?_
  refine am_e_iload_n n97_10 rfl ?_
  refine am_e_aload_n n97_11 rfl ?_
  refine am_e_getf (v := .ref 189) n97_12 rfl ((F65 164 51 rfl).trans ((F64 164 51 rfl).trans ((F63 164 51 rfl).trans ((F62 164 51 rfl).trans ((F61 164 51 rfl).trans ((F60 164 51 rfl).trans ((F59 164 51 rfl).trans ((F58 164 51 rfl).trans ((F57 164 51 rfl).trans ((F56 164 51 rfl).trans ((F55 164 51 rfl).trans ((F54 164 51 rfl).trans ((F53 164 51 rfl).trans ((F52 164 51 rfl).trans ((F51 164 51 rfl).trans ((F50 164 51 rfl).trans ((F49 164 51 rfl).trans ((F48 164 51 rfl).trans (f164_51 (h := h) hT))))))))))))))))))) ?_
  refine am_e_iload_n n97_13 rfl ?_
  refine am_e_iaload (v := 0) (q := 0) n97_14 rfl (by decide) (by decide) ((F65 189 0 rfl).trans ((F64 189 0 rfl).trans ((F63 189 0 rfl).trans ((F62 189 0 rfl).trans ((F61 189 0 rfl).trans ((F60 189 0 rfl).trans ((F59 189 0 rfl).trans ((F58 189 0 rfl).trans ((F57 189 0 rfl).trans ((F56 189 0 rfl).trans ((F55 189 0 rfl).trans ((F54 189 0 rfl).trans ((F53 189 0 rfl).trans ((F52 189 0 rfl).trans ((F51 189 0 rfl).trans ((F50 189 0 rfl).trans ((F49 189 0 rfl).trans ((F48 189 0 rfl).trans (f189_0 (h := h) hT))))))))))))))))))) ?_
  refine am_e_iastore (q := 1) n97_15 rfl (by decide) (by decide) ?_
  refine am_e_aload_n n97_16 rfl ?_
  refine am_e_getf (v := .ref 190) n97_17 rfl ((F65 164 52 rfl).trans ((F64 164 52 rfl).trans ((F63 164 52 rfl).trans ((F62 164 52 rfl).trans ((F61 164 52 rfl).trans ((F60 164 52 rfl).trans ((F59 164 52 rfl).trans ((F58 164 52 rfl).trans ((F57 164 52 rfl).trans ((F56 164 52 rfl).trans ((F55 164 52 rfl).trans ((F54 164 52 rfl).trans ((F53 164 52 rfl).trans ((F52 164 52 rfl).trans ((F51 164 52 rfl).trans ((F50 164 52 rfl).trans ((F49 164 52 rfl).trans ((F48 164 52 rfl).trans (f164_52 (h := h) hT))))))))))))))))))) ?_
  refine am_e_iload_n n97_18 rfl ?_
  refine am_e_aload_n n97_19 rfl ?_
  refine am_e_getf (v := .ref 190) n97_20 rfl ((F65 164 52 rfl).trans ((F64 164 52 rfl).trans ((F63 164 52 rfl).trans ((F62 164 52 rfl).trans ((F61 164 52 rfl).trans ((F60 164 52 rfl).trans ((F59 164 52 rfl).trans ((F58 164 52 rfl).trans ((F57 164 52 rfl).trans ((F56 164 52 rfl).trans ((F55 164 52 rfl).trans ((F54 164 52 rfl).trans ((F53 164 52 rfl).trans ((F52 164 52 rfl).trans ((F51 164 52 rfl).trans ((F50 164 52 rfl).trans ((F49 164 52 rfl).trans ((F48 164 52 rfl).trans (f164_52 (h := h) hT))))))))))))))))))) ?_
  refine am_e_iload_n n97_21 rfl ?_
  refine am_e_iaload (v := (-1)) (q := 0) n97_22 rfl (by decide) (by decide) ((F65 190 0 rfl).trans ((F64 190 0 rfl).trans ((F63 190 0 rfl).trans ((F62 190 0 rfl).trans ((F61 190 0 rfl).trans ((F60 190 0 rfl).trans ((F59 190 0 rfl).trans ((F58 190 0 rfl).trans ((F57 190 0 rfl).trans ((F56 190 0 rfl).trans ((F55 190 0 rfl).trans ((F54 190 0 rfl).trans ((F53 190 0 rfl).trans ((F52 190 0 rfl).trans ((F51 190 0 rfl).trans ((F50 190 0 rfl).trans ((F49 190 0 rfl).trans ((F48 190 0 rfl).trans (f190_0 (h := h) hT))))))))))))))))))) ?_
  refine am_e_iastore (q := 1) n97_23 rfl (by decide) (by decide) ?_
  refine am_e_aload_n n97_24 rfl ?_
  refine am_e_getf (v := .ref 194) n97_25 rfl ((F65 164 56 rfl).trans ((F64 164 56 rfl).trans ((F63 164 56 rfl).trans ((F62 164 56 rfl).trans ((F61 164 56 rfl).trans ((F60 164 56 rfl).trans ((F59 164 56 rfl).trans ((F58 164 56 rfl).trans ((F57 164 56 rfl).trans ((F56 164 56 rfl).trans ((F55 164 56 rfl).trans ((F54 164 56 rfl).trans ((F53 164 56 rfl).trans ((F52 164 56 rfl).trans ((F51 164 56 rfl).trans ((F50 164 56 rfl).trans ((F49 164 56 rfl).trans ((F48 164 56 rfl).trans (f164_56 (h := h) hT))))))))))))))))))) ?_
  refine am_e_iload_n n97_26 rfl ?_
  refine am_e_aload_n n97_27 rfl ?_
  refine am_e_getf (v := .ref 194) n97_28 rfl ((F65 164 56 rfl).trans ((F64 164 56 rfl).trans ((F63 164 56 rfl).trans ((F62 164 56 rfl).trans ((F61 164 56 rfl).trans ((F60 164 56 rfl).trans ((F59 164 56 rfl).trans ((F58 164 56 rfl).trans ((F57 164 56 rfl).trans ((F56 164 56 rfl).trans ((F55 164 56 rfl).trans ((F54 164 56 rfl).trans ((F53 164 56 rfl).trans ((F52 164 56 rfl).trans ((F51 164 56 rfl).trans ((F50 164 56 rfl).trans ((F49 164 56 rfl).trans ((F48 164 56 rfl).trans (f164_56 (h := h) hT))))))))))))))))))) ?_
  refine am_e_iload_n n97_29 rfl ?_
  refine am_e_iaload (v := 0) (q := 0) n97_30 rfl (by decide) (by decide) ((F65 194 0 rfl).trans ((F64 194 0 rfl).trans ((F63 194 0 rfl).trans ((F62 194 0 rfl).trans ((F61 194 0 rfl).trans ((F60 194 0 rfl).trans ((F59 194 0 rfl).trans ((F58 194 0 rfl).trans ((F57 194 0 rfl).trans ((F56 194 0 rfl).trans ((F55 194 0 rfl).trans ((F54 194 0 rfl).trans ((F53 194 0 rfl).trans ((F52 194 0 rfl).trans ((F51 194 0 rfl).trans ((F50 194 0 rfl).trans ((F49 194 0 rfl).trans ((F48 194 0 rfl).trans (f194_0 (h := h) hT))))))))))))))))))) ?_
  refine am_e_iastore (q := 1) n97_31 rfl (by decide) (by decide) ?_
  refine am_e_iconst (w := 0) n97_32 rfl ?_
  refine am_e_istore_n (ls' := [(3, .int 0), (0, .ref 164), (1, .int 1), (2, .int 0)]) n97_33 rfl rfl ?_
  refine am_e_iload_n n97_34 rfl ?_
  refine am_e_iconst (w := 4) n97_35 rfl ?_
  refine am_e_cmpF n97_36 (am_c_geF (by decide)) ?_
  refine am_e_aload_n n97_37 rfl ?_
  refine am_e_getf (v := .ref 191) n97_38 rfl ((F65 164 53 rfl).trans ((F64 164 53 rfl).trans ((F63 164 53 rfl).trans ((F62 164 53 rfl).trans ((F61 164 53 rfl).trans ((F60 164 53 rfl).trans ((F59 164 53 rfl).trans ((F58 164 53 rfl).trans ((F57 164 53 rfl).trans ((F56 164 53 rfl).trans ((F55 164 53 rfl).trans ((F54 164 53 rfl).trans ((F53 164 53 rfl).trans ((F52 164 53 rfl).trans ((F51 164 53 rfl).trans ((F50 164 53 rfl).trans ((F49 164 53 rfl).trans ((F48 164 53 rfl).trans (f164_53 (h := h) hT))))))))))))))))))) ?_
  refine am_e_iconst (w := 4) n97_39 rfl ?_
  refine am_e_iload_n n97_40 rfl ?_
  refine am_e_imul (w := 4) n97_41 (by decide) ?_
  refine am_e_iload_n n97_42 rfl ?_
  refine am_e_iadd (w := 4) n97_43 (by decide) ?_
  refine am_e_aload_n n97_44 rfl ?_
  refine am_e_getf (v := .ref 191) n97_45 rfl ((F65 164 53 rfl).trans ((F64 164 53 rfl).trans ((F63 164 53 rfl).trans ((F62 164 53 rfl).trans ((F61 164 53 rfl).trans ((F60 164 53 rfl).trans ((F59 164 53 rfl).trans ((F58 164 53 rfl).trans ((F57 164 53 rfl).trans ((F56 164 53 rfl).trans ((F55 164 53 rfl).trans ((F54 164 53 rfl).trans ((F53 164 53 rfl).trans ((F52 164 53 rfl).trans ((F51 164 53 rfl).trans ((F50 164 53 rfl).trans ((F49 164 53 rfl).trans ((F48 164 53 rfl).trans (f164_53 (h := h) hT))))))))))))))))))) ?_
  refine am_e_iconst (w := 4) n97_46 rfl ?_
  refine am_e_iload_n n97_47 rfl ?_
  refine am_e_imul (w := 0) n97_48 (by decide) ?_
  refine am_e_iload_n n97_49 rfl ?_
  refine am_e_iadd (w := 0) n97_50 (by decide) ?_
  refine am_e_iaload (v := 0) (q := 0) n97_51 rfl (by decide) (by decide) ((F65 191 0 rfl).trans ((F64 191 0 rfl).trans ((F63 191 0 rfl).trans ((F62 191 0 rfl).trans ((F61 191 0 rfl).trans ((F60 191 0 rfl).trans ((F59 191 0 rfl).trans ((F58 191 0 rfl).trans ((F57 191 0 rfl).trans ((F56 191 0 rfl).trans ((F55 191 0 rfl).trans ((F54 191 0 rfl).trans ((F53 191 0 rfl).trans ((F52 191 0 rfl).trans ((F51 191 0 rfl).trans ((F50 191 0 rfl).trans ((F49 191 0 rfl).trans ((F48 191 0 rfl).trans (f191_0 (h := h) hT))))))))))))))))))) ?_
  refine am_e_iastore (q := 4) n97_52 rfl (by decide) (by decide) ?_
  refine am_e_aload_n n97_53 rfl ?_
  refine am_e_getf (v := .ref 192) n97_54 rfl ((F65 164 54 rfl).trans ((F64 164 54 rfl).trans ((F63 164 54 rfl).trans ((F62 164 54 rfl).trans ((F61 164 54 rfl).trans ((F60 164 54 rfl).trans ((F59 164 54 rfl).trans ((F58 164 54 rfl).trans ((F57 164 54 rfl).trans ((F56 164 54 rfl).trans ((F55 164 54 rfl).trans ((F54 164 54 rfl).trans ((F53 164 54 rfl).trans ((F52 164 54 rfl).trans ((F51 164 54 rfl).trans ((F50 164 54 rfl).trans ((F49 164 54 rfl).trans ((F48 164 54 rfl).trans (f164_54 (h := h) hT))))))))))))))))))) ?_
  refine am_e_iconst (w := 4) n97_55 rfl ?_
  refine am_e_iload_n n97_56 rfl ?_
  refine am_e_imul (w := 4) n97_57 (by decide) ?_
  refine am_e_iload_n n97_58 rfl ?_
  refine am_e_iadd (w := 4) n97_59 (by decide) ?_
  refine am_e_aload_n n97_60 rfl ?_
  refine am_e_getf (v := .ref 192) n97_61 rfl ((F65 164 54 rfl).trans ((F64 164 54 rfl).trans ((F63 164 54 rfl).trans ((F62 164 54 rfl).trans ((F61 164 54 rfl).trans ((F60 164 54 rfl).trans ((F59 164 54 rfl).trans ((F58 164 54 rfl).trans ((F57 164 54 rfl).trans ((F56 164 54 rfl).trans ((F55 164 54 rfl).trans ((F54 164 54 rfl).trans ((F53 164 54 rfl).trans ((F52 164 54 rfl).trans ((F51 164 54 rfl).trans ((F50 164 54 rfl).trans ((F49 164 54 rfl).trans ((F48 164 54 rfl).trans (f164_54 (h := h) hT))))))))))))))))))) ?_
  refine am_e_iconst (w := 4) n97_62 rfl ?_
  refine am_e_iload_n n97_63 rfl ?_
  refine am_e_imul (w := 0) n97_64 (by decide) ?_
  refine am_e_iload_n n97_65 rfl ?_
  refine am_e_iadd (w := 0) n97_66 (by decide) ?_
  refine am_e_iaload (v := 0) (q := 0) n97_67 rfl (by decide) (by decide) ((F65 192 0 rfl).trans ((F64 192 0 rfl).trans ((F63 192 0 rfl).trans ((F62 192 0 rfl).trans ((F61 192 0 rfl).trans ((F60 192 0 rfl).trans ((F59 192 0 rfl).trans ((F58 192 0 rfl).trans ((F57 192 0 rfl).trans ((F56 192 0 rfl).trans ((F55 192 0 rfl).trans ((F54 192 0 rfl).trans ((F53 192 0 rfl).trans ((F52 192 0 rfl).trans ((F51 192 0 rfl).trans ((F50 192 0 rfl).trans ((F49 192 0 rfl).trans ((F48 192 0 rfl).trans (f192_0 (h := h) hT))))))))))))))))))) ?_
  refine am_e_iastore (q := 4) n97_68 rfl (by decide) (by decide) ?_
  refine am_e_aload_n n97_69 rfl ?_
  refine am_e_getf (v := .ref 193) n97_70 rfl ((F65 164 55 rfl).trans ((F64 164 55 rfl).trans ((F63 164 55 rfl).trans ((F62 164 55 rfl).trans ((F61 164 55 rfl).trans ((F60 164 55 rfl).trans ((F59 164 55 rfl).trans ((F58 164 55 rfl).trans ((F57 164 55 rfl).trans ((F56 164 55 rfl).trans ((F55 164 55 rfl).trans ((F54 164 55 rfl).trans ((F53 164 55 rfl).trans ((F52 164 55 rfl).trans ((F51 164 55 rfl).trans ((F50 164 55 rfl).trans ((F49 164 55 rfl).trans ((F48 164 55 rfl).trans (f164_55 (h := h) hT))))))))))))))))))) ?_
  refine am_e_iconst (w := 4) n97_71 rfl ?_
  refine am_e_iload_n n97_72 rfl ?_
  refine am_e_imul (w := 4) n97_73 (by decide) ?_
  refine am_e_iload_n n97_74 rfl ?_
  refine am_e_iadd (w := 4) n97_75 (by decide) ?_
  refine am_e_aload_n n97_76 rfl ?_
  refine am_e_getf (v := .ref 193) n97_77 rfl ((F65 164 55 rfl).trans ((F64 164 55 rfl).trans ((F63 164 55 rfl).trans ((F62 164 55 rfl).trans ((F61 164 55 rfl).trans ((F60 164 55 rfl).trans ((F59 164 55 rfl).trans ((F58 164 55 rfl).trans ((F57 164 55 rfl).trans ((F56 164 55 rfl).trans ((F55 164 55 rfl).trans ((F54 164 55 rfl).trans ((F53 164 55 rfl).trans ((F52 164 55 rfl).trans ((F51 164 55 rfl).trans ((F50 164 55 rfl).trans ((F49 164 55 rfl).trans ((F48 164 55 rfl).trans (f164_55 (h := h) hT))))))))))))))))))) ?_
  refine am_e_iconst (w := 4) n97_78 rfl ?_
  refine am_e_iload_n n97_79 rfl ?_
  refine am_e_imul (w := 0) n97_80 (by decide) ?_
  refine am_e_iload_n n97_81 rfl ?_
  refine am_e_iadd (w := 0) n97_82 (by decide) ?_
  refine am_e_iaload (v := 0) (q := 0) n97_83 rfl (by decide) (by decide) ((F65 193 0 rfl).trans ((F64 193 0 rfl).trans ((F63 193 0 rfl).trans ((F62 193 0 rfl).trans ((F61 193 0 rfl).trans ((F60 193 0 rfl).trans ((F59 193 0 rfl).trans ((F58 193 0 rfl).trans ((F57 193 0 rfl).trans ((F56 193 0 rfl).trans ((F55 193 0 rfl).trans ((F54 193 0 rfl).trans ((F53 193 0 rfl).trans ((F52 193 0 rfl).trans ((F51 193 0 rfl).trans ((F50 193 0 rfl).trans ((F49 193 0 rfl).trans ((F48 193 0 rfl).trans (f193_0 (h := h) hT))))))))))))))))))) ?_
  refine am_e_iastore (q := 4) n97_84 rfl (by decide) (by decide) ?_
  refine am_e_iinc (w := 1) (ls' := [(3, .int 1), (0, .ref 164), (1, .int 1), (2, .int 0)]) n97_85 rfl rfl (by decide) rfl ?_
  refine am_e_goto c97_86 t97_86 ?_
  refine am_e_iload_n n97_34 rfl ?_
  refine am_e_iconst (w := 4) n97_35 rfl ?_
  refine am_e_cmpF n97_36 (am_c_geF (by decide)) ?_
  refine am_e_aload_n n97_37 rfl ?_
  refine am_e_getf (v := .ref 191) n97_38 rfl ((F65 164 53 rfl).trans ((F64 164 53 rfl).trans ((F63 164 53 rfl).trans ((F62 164 53 rfl).trans ((F61 164 53 rfl).trans ((F60 164 53 rfl).trans ((F59 164 53 rfl).trans ((F58 164 53 rfl).trans ((F57 164 53 rfl).trans ((F56 164 53 rfl).trans ((F55 164 53 rfl).trans ((F54 164 53 rfl).trans ((F53 164 53 rfl).trans ((F52 164 53 rfl).trans ((F51 164 53 rfl).trans ((F50 164 53 rfl).trans ((F49 164 53 rfl).trans ((F48 164 53 rfl).trans (f164_53 (h := h) hT))))))))))))))))))) ?_
  refine am_e_iconst (w := 4) n97_39 rfl ?_
  refine am_e_iload_n n97_40 rfl ?_
  refine am_e_imul (w := 4) n97_41 (by decide) ?_
  refine am_e_iload_n n97_42 rfl ?_
  refine am_e_iadd (w := 5) n97_43 (by decide) ?_
  refine am_e_aload_n n97_44 rfl ?_
  refine am_e_getf (v := .ref 191) n97_45 rfl ((F65 164 53 rfl).trans ((F64 164 53 rfl).trans ((F63 164 53 rfl).trans ((F62 164 53 rfl).trans ((F61 164 53 rfl).trans ((F60 164 53 rfl).trans ((F59 164 53 rfl).trans ((F58 164 53 rfl).trans ((F57 164 53 rfl).trans ((F56 164 53 rfl).trans ((F55 164 53 rfl).trans ((F54 164 53 rfl).trans ((F53 164 53 rfl).trans ((F52 164 53 rfl).trans ((F51 164 53 rfl).trans ((F50 164 53 rfl).trans ((F49 164 53 rfl).trans ((F48 164 53 rfl).trans (f164_53 (h := h) hT))))))))))))))))))) ?_
  refine am_e_iconst (w := 4) n97_46 rfl ?_
  refine am_e_iload_n n97_47 rfl ?_
  refine am_e_imul (w := 0) n97_48 (by decide) ?_
  refine am_e_iload_n n97_49 rfl ?_
  refine am_e_iadd (w := 1) n97_50 (by decide) ?_
  refine am_e_iaload (v := 0) (q := 1) n97_51 rfl (by decide) (by decide) ((F65 191 1 rfl).trans ((F64 191 1 rfl).trans ((F63 191 1 rfl).trans ((F62 191 1 rfl).trans ((F61 191 1 rfl).trans ((F60 191 1 rfl).trans ((F59 191 1 rfl).trans ((F58 191 1 rfl).trans ((F57 191 1 rfl).trans ((F56 191 1 rfl).trans ((F55 191 1 rfl).trans ((F54 191 1 rfl).trans ((F53 191 1 rfl).trans ((F52 191 1 rfl).trans ((F51 191 1 rfl).trans ((F50 191 1 rfl).trans ((F49 191 1 rfl).trans ((F48 191 1 rfl).trans (f191_1 (h := h) hT))))))))))))))))))) ?_
  refine am_e_iastore (q := 5) n97_52 rfl (by decide) (by decide) ?_
  refine am_e_aload_n n97_53 rfl ?_
  refine am_e_getf (v := .ref 192) n97_54 rfl ((F65 164 54 rfl).trans ((F64 164 54 rfl).trans ((F63 164 54 rfl).trans ((F62 164 54 rfl).trans ((F61 164 54 rfl).trans ((F60 164 54 rfl).trans ((F59 164 54 rfl).trans ((F58 164 54 rfl).trans ((F57 164 54 rfl).trans ((F56 164 54 rfl).trans ((F55 164 54 rfl).trans ((F54 164 54 rfl).trans ((F53 164 54 rfl).trans ((F52 164 54 rfl).trans ((F51 164 54 rfl).trans ((F50 164 54 rfl).trans ((F49 164 54 rfl).trans ((F48 164 54 rfl).trans (f164_54 (h := h) hT))))))))))))))))))) ?_
  refine am_e_iconst (w := 4) n97_55 rfl ?_
  refine am_e_iload_n n97_56 rfl ?_
  refine am_e_imul (w := 4) n97_57 (by decide) ?_
  refine am_e_iload_n n97_58 rfl ?_
  refine am_e_iadd (w := 5) n97_59 (by decide) ?_
  refine am_e_aload_n n97_60 rfl ?_
  refine am_e_getf (v := .ref 192) n97_61 rfl ((F65 164 54 rfl).trans ((F64 164 54 rfl).trans ((F63 164 54 rfl).trans ((F62 164 54 rfl).trans ((F61 164 54 rfl).trans ((F60 164 54 rfl).trans ((F59 164 54 rfl).trans ((F58 164 54 rfl).trans ((F57 164 54 rfl).trans ((F56 164 54 rfl).trans ((F55 164 54 rfl).trans ((F54 164 54 rfl).trans ((F53 164 54 rfl).trans ((F52 164 54 rfl).trans ((F51 164 54 rfl).trans ((F50 164 54 rfl).trans ((F49 164 54 rfl).trans ((F48 164 54 rfl).trans (f164_54 (h := h) hT))))))))))))))))))) ?_
  refine am_e_iconst (w := 4) n97_62 rfl ?_
  refine am_e_iload_n n97_63 rfl ?_
  refine am_e_imul (w := 0) n97_64 (by decide) ?_
  refine am_e_iload_n n97_65 rfl ?_
  refine am_e_iadd (w := 1) n97_66 (by decide) ?_
  refine am_e_iaload (v := 0) (q := 1) n97_67 rfl (by decide) (by decide) ((F65 192 1 rfl).trans ((F64 192 1 rfl).trans ((F63 192 1 rfl).trans ((F62 192 1 rfl).trans ((F61 192 1 rfl).trans ((F60 192 1 rfl).trans ((F59 192 1 rfl).trans ((F58 192 1 rfl).trans ((F57 192 1 rfl).trans ((F56 192 1 rfl).trans ((F55 192 1 rfl).trans ((F54 192 1 rfl).trans ((F53 192 1 rfl).trans ((F52 192 1 rfl).trans ((F51 192 1 rfl).trans ((F50 192 1 rfl).trans ((F49 192 1 rfl).trans ((F48 192 1 rfl).trans (f192_1 (h := h) hT))))))))))))))))))) ?_
  refine am_e_iastore (q := 5) n97_68 rfl (by decide) (by decide) ?_
  refine am_e_aload_n n97_69 rfl ?_
  refine am_e_getf (v := .ref 193) n97_70 rfl ((F65 164 55 rfl).trans ((F64 164 55 rfl).trans ((F63 164 55 rfl).trans ((F62 164 55 rfl).trans ((F61 164 55 rfl).trans ((F60 164 55 rfl).trans ((F59 164 55 rfl).trans ((F58 164 55 rfl).trans ((F57 164 55 rfl).trans ((F56 164 55 rfl).trans ((F55 164 55 rfl).trans ((F54 164 55 rfl).trans ((F53 164 55 rfl).trans ((F52 164 55 rfl).trans ((F51 164 55 rfl).trans ((F50 164 55 rfl).trans ((F49 164 55 rfl).trans ((F48 164 55 rfl).trans (f164_55 (h := h) hT))))))))))))))))))) ?_
  refine am_e_iconst (w := 4) n97_71 rfl ?_
  refine am_e_iload_n n97_72 rfl ?_
  refine am_e_imul (w := 4) n97_73 (by decide) ?_
  refine am_e_iload_n n97_74 rfl ?_
  refine am_e_iadd (w := 5) n97_75 (by decide) ?_
  refine am_e_aload_n n97_76 rfl ?_
  refine am_e_getf (v := .ref 193) n97_77 rfl ((F65 164 55 rfl).trans ((F64 164 55 rfl).trans ((F63 164 55 rfl).trans ((F62 164 55 rfl).trans ((F61 164 55 rfl).trans ((F60 164 55 rfl).trans ((F59 164 55 rfl).trans ((F58 164 55 rfl).trans ((F57 164 55 rfl).trans ((F56 164 55 rfl).trans ((F55 164 55 rfl).trans ((F54 164 55 rfl).trans ((F53 164 55 rfl).trans ((F52 164 55 rfl).trans ((F51 164 55 rfl).trans ((F50 164 55 rfl).trans ((F49 164 55 rfl).trans ((F48 164 55 rfl).trans (f164_55 (h := h) hT))))))))))))))))))) ?_
  refine am_e_iconst (w := 4) n97_78 rfl ?_
  refine am_e_iload_n n97_79 rfl ?_
  refine am_e_imul (w := 0) n97_80 (by decide) ?_
  refine am_e_iload_n n97_81 rfl ?_
  refine am_e_iadd (w := 1) n97_82 (by decide) ?_
  refine am_e_iaload (v := 0) (q := 1) n97_83 rfl (by decide) (by decide) ((F65 193 1 rfl).trans ((F64 193 1 rfl).trans ((F63 193 1 rfl).trans ((F62 193 1 rfl).trans ((F61 193 1 rfl).trans ((F60 193 1 rfl).trans ((F59 193 1 rfl).trans ((F58 193 1 rfl).trans ((F57 193 1 rfl).trans ((F56 193 1 rfl).trans ((F55 193 1 rfl).trans ((F54 193 1 rfl).trans ((F53 193 1 rfl).trans ((F52 193 1 rfl).trans ((F51 193 1 rfl).trans ((F50 193 1 rfl).trans ((F49 193 1 rfl).trans ((F48 193 1 rfl).trans (f193_1 (h := h) hT))))))))))))))))))) ?_
  refine am_e_iastore (q := 5) n97_84 rfl (by decide) (by decide) ?_
  refine am_e_iinc (w := 2) (ls' := [(3, .int 2), (0, .ref 164), (1, .int 1), (2, .int 0)]) n97_85 rfl rfl (by decide) rfl ?_
  refine am_e_goto c97_86 t97_86 ?_
  refine am_e_iload_n n97_34 rfl ?_
  refine am_e_iconst (w := 4) n97_35 rfl ?_
  refine am_e_cmpF n97_36 (am_c_geF (by decide)) ?_
  refine am_e_aload_n n97_37 rfl ?_
  refine am_e_getf (v := .ref 191) n97_38 rfl ((F65 164 53 rfl).trans ((F64 164 53 rfl).trans ((F63 164 53 rfl).trans ((F62 164 53 rfl).trans ((F61 164 53 rfl).trans ((F60 164 53 rfl).trans ((F59 164 53 rfl).trans ((F58 164 53 rfl).trans ((F57 164 53 rfl).trans ((F56 164 53 rfl).trans ((F55 164 53 rfl).trans ((F54 164 53 rfl).trans ((F53 164 53 rfl).trans ((F52 164 53 rfl).trans ((F51 164 53 rfl).trans ((F50 164 53 rfl).trans ((F49 164 53 rfl).trans ((F48 164 53 rfl).trans (f164_53 (h := h) hT))))))))))))))))))) ?_
  refine am_e_iconst (w := 4) n97_39 rfl ?_
  refine am_e_iload_n n97_40 rfl ?_
  refine am_e_imul (w := 4) n97_41 (by decide) ?_
  refine am_e_iload_n n97_42 rfl ?_
  refine am_e_iadd (w := 6) n97_43 (by decide) ?_
  refine am_e_aload_n n97_44 rfl ?_
  refine am_e_getf (v := .ref 191) n97_45 rfl ((F65 164 53 rfl).trans ((F64 164 53 rfl).trans ((F63 164 53 rfl).trans ((F62 164 53 rfl).trans ((F61 164 53 rfl).trans ((F60 164 53 rfl).trans ((F59 164 53 rfl).trans ((F58 164 53 rfl).trans ((F57 164 53 rfl).trans ((F56 164 53 rfl).trans ((F55 164 53 rfl).trans ((F54 164 53 rfl).trans ((F53 164 53 rfl).trans ((F52 164 53 rfl).trans ((F51 164 53 rfl).trans ((F50 164 53 rfl).trans ((F49 164 53 rfl).trans ((F48 164 53 rfl).trans (f164_53 (h := h) hT))))))))))))))))))) ?_
  refine am_e_iconst (w := 4) n97_46 rfl ?_
  refine am_e_iload_n n97_47 rfl ?_
  refine am_e_imul (w := 0) n97_48 (by decide) ?_
  refine am_e_iload_n n97_49 rfl ?_
  refine am_e_iadd (w := 2) n97_50 (by decide) ?_
  refine am_e_iaload (v := 0) (q := 2) n97_51 rfl (by decide) (by decide) ((F65 191 2 rfl).trans ((F64 191 2 rfl).trans ((F63 191 2 rfl).trans ((F62 191 2 rfl).trans ((F61 191 2 rfl).trans ((F60 191 2 rfl).trans ((F59 191 2 rfl).trans ((F58 191 2 rfl).trans ((F57 191 2 rfl).trans ((F56 191 2 rfl).trans ((F55 191 2 rfl).trans ((F54 191 2 rfl).trans ((F53 191 2 rfl).trans ((F52 191 2 rfl).trans ((F51 191 2 rfl).trans ((F50 191 2 rfl).trans ((F49 191 2 rfl).trans ((F48 191 2 rfl).trans (f191_2 (h := h) hT))))))))))))))))))) ?_
  refine am_e_iastore (q := 6) n97_52 rfl (by decide) (by decide) ?_
  refine am_e_aload_n n97_53 rfl ?_
  refine am_e_getf (v := .ref 192) n97_54 rfl ((F65 164 54 rfl).trans ((F64 164 54 rfl).trans ((F63 164 54 rfl).trans ((F62 164 54 rfl).trans ((F61 164 54 rfl).trans ((F60 164 54 rfl).trans ((F59 164 54 rfl).trans ((F58 164 54 rfl).trans ((F57 164 54 rfl).trans ((F56 164 54 rfl).trans ((F55 164 54 rfl).trans ((F54 164 54 rfl).trans ((F53 164 54 rfl).trans ((F52 164 54 rfl).trans ((F51 164 54 rfl).trans ((F50 164 54 rfl).trans ((F49 164 54 rfl).trans ((F48 164 54 rfl).trans (f164_54 (h := h) hT))))))))))))))))))) ?_
  refine am_e_iconst (w := 4) n97_55 rfl ?_
  refine am_e_iload_n n97_56 rfl ?_
  refine am_e_imul (w := 4) n97_57 (by decide) ?_
  refine am_e_iload_n n97_58 rfl ?_
  refine am_e_iadd (w := 6) n97_59 (by decide) ?_
  refine am_e_aload_n n97_60 rfl ?_
  refine am_e_getf (v := .ref 192) n97_61 rfl ((F65 164 54 rfl).trans ((F64 164 54 rfl).trans ((F63 164 54 rfl).trans ((F62 164 54 rfl).trans ((F61 164 54 rfl).trans ((F60 164 54 rfl).trans ((F59 164 54 rfl).trans ((F58 164 54 rfl).trans ((F57 164 54 rfl).trans ((F56 164 54 rfl).trans ((F55 164 54 rfl).trans ((F54 164 54 rfl).trans ((F53 164 54 rfl).trans ((F52 164 54 rfl).trans ((F51 164 54 rfl).trans ((F50 164 54 rfl).trans ((F49 164 54 rfl).trans ((F48 164 54 rfl).trans (f164_54 (h := h) hT))))))))))))))))))) ?_
  refine am_e_iconst (w := 4) n97_62 rfl ?_
  refine am_e_iload_n n97_63 rfl ?_
  refine am_e_imul (w := 0) n97_64 (by decide) ?_
  refine am_e_iload_n n97_65 rfl ?_
  refine am_e_iadd (w := 2) n97_66 (by decide) ?_
  refine am_e_iaload (v := 0) (q := 2) n97_67 rfl (by decide) (by decide) ((F65 192 2 rfl).trans ((F64 192 2 rfl).trans ((F63 192 2 rfl).trans ((F62 192 2 rfl).trans ((F61 192 2 rfl).trans ((F60 192 2 rfl).trans ((F59 192 2 rfl).trans ((F58 192 2 rfl).trans ((F57 192 2 rfl).trans ((F56 192 2 rfl).trans ((F55 192 2 rfl).trans ((F54 192 2 rfl).trans ((F53 192 2 rfl).trans ((F52 192 2 rfl).trans ((F51 192 2 rfl).trans ((F50 192 2 rfl).trans ((F49 192 2 rfl).trans ((F48 192 2 rfl).trans (f192_2 (h := h) hT))))))))))))))))))) ?_
  refine am_e_iastore (q := 6) n97_68 rfl (by decide) (by decide) ?_
  refine am_e_aload_n n97_69 rfl ?_
  refine am_e_getf (v := .ref 193) n97_70 rfl ((F65 164 55 rfl).trans ((F64 164 55 rfl).trans ((F63 164 55 rfl).trans ((F62 164 55 rfl).trans ((F61 164 55 rfl).trans ((F60 164 55 rfl).trans ((F59 164 55 rfl).trans ((F58 164 55 rfl).trans ((F57 164 55 rfl).trans ((F56 164 55 rfl).trans ((F55 164 55 rfl).trans ((F54 164 55 rfl).trans ((F53 164 55 rfl).trans ((F52 164 55 rfl).trans ((F51 164 55 rfl).trans ((F50 164 55 rfl).trans ((F49 164 55 rfl).trans ((F48 164 55 rfl).trans (f164_55 (h := h) hT))))))))))))))))))) ?_
  refine am_e_iconst (w := 4) n97_71 rfl ?_
  refine am_e_iload_n n97_72 rfl ?_
  refine am_e_imul (w := 4) n97_73 (by decide) ?_
  refine am_e_iload_n n97_74 rfl ?_
  refine am_e_iadd (w := 6) n97_75 (by decide) ?_
  refine am_e_aload_n n97_76 rfl ?_
  refine am_e_getf (v := .ref 193) n97_77 rfl ((F65 164 55 rfl).trans ((F64 164 55 rfl).trans ((F63 164 55 rfl).trans ((F62 164 55 rfl).trans ((F61 164 55 rfl).trans ((F60 164 55 rfl).trans ((F59 164 55 rfl).trans ((F58 164 55 rfl).trans ((F57 164 55 rfl).trans ((F56 164 55 rfl).trans ((F55 164 55 rfl).trans ((F54 164 55 rfl).trans ((F53 164 55 rfl).trans ((F52 164 55 rfl).trans ((F51 164 55 rfl).trans ((F50 164 55 rfl).trans ((F49 164 55 rfl).trans ((F48 164 55 rfl).trans (f164_55 (h := h) hT))))))))))))))))))) ?_
  refine am_e_iconst (w := 4) n97_78 rfl ?_
  refine am_e_iload_n n97_79 rfl ?_
  refine am_e_imul (w := 0) n97_80 (by decide) ?_
  refine am_e_iload_n n97_81 rfl ?_
  refine am_e_iadd (w := 2) n97_82 (by decide) ?_
  refine am_e_iaload (v := 0) (q := 2) n97_83 rfl (by decide) (by decide) ((F65 193 2 rfl).trans ((F64 193 2 rfl).trans ((F63 193 2 rfl).trans ((F62 193 2 rfl).trans ((F61 193 2 rfl).trans ((F60 193 2 rfl).trans ((F59 193 2 rfl).trans ((F58 193 2 rfl).trans ((F57 193 2 rfl).trans ((F56 193 2 rfl).trans ((F55 193 2 rfl).trans ((F54 193 2 rfl).trans ((F53 193 2 rfl).trans ((F52 193 2 rfl).trans ((F51 193 2 rfl).trans ((F50 193 2 rfl).trans ((F49 193 2 rfl).trans ((F48 193 2 rfl).trans (f193_2 (h := h) hT))))))))))))))))))) ?_
  refine am_e_iastore (q := 6) n97_84 rfl (by decide) (by decide) ?_
  refine am_e_iinc (w := 3) (ls' := [(3, .int 3), (0, .ref 164), (1, .int 1), (2, .int 0)]) n97_85 rfl rfl (by decide) rfl ?_
  refine am_e_goto c97_86 t97_86 ?_
  refine am_e_iload_n n97_34 rfl ?_
  refine am_e_iconst (w := 4) n97_35 rfl ?_
  refine am_e_cmpF n97_36 (am_c_geF (by decide)) ?_
  refine am_e_aload_n n97_37 rfl ?_
  refine am_e_getf (v := .ref 191) n97_38 rfl ((F65 164 53 rfl).trans ((F64 164 53 rfl).trans ((F63 164 53 rfl).trans ((F62 164 53 rfl).trans ((F61 164 53 rfl).trans ((F60 164 53 rfl).trans ((F59 164 53 rfl).trans ((F58 164 53 rfl).trans ((F57 164 53 rfl).trans ((F56 164 53 rfl).trans ((F55 164 53 rfl).trans ((F54 164 53 rfl).trans ((F53 164 53 rfl).trans ((F52 164 53 rfl).trans ((F51 164 53 rfl).trans ((F50 164 53 rfl).trans ((F49 164 53 rfl).trans ((F48 164 53 rfl).trans (f164_53 (h := h) hT))))))))))))))))))) ?_
  refine am_e_iconst (w := 4) n97_39 rfl ?_
  refine am_e_iload_n n97_40 rfl ?_
  refine am_e_imul (w := 4) n97_41 (by decide) ?_
  refine am_e_iload_n n97_42 rfl ?_
  refine am_e_iadd (w := 7) n97_43 (by decide) ?_
  refine am_e_aload_n n97_44 rfl ?_
  refine am_e_getf (v := .ref 191) n97_45 rfl ((F65 164 53 rfl).trans ((F64 164 53 rfl).trans ((F63 164 53 rfl).trans ((F62 164 53 rfl).trans ((F61 164 53 rfl).trans ((F60 164 53 rfl).trans ((F59 164 53 rfl).trans ((F58 164 53 rfl).trans ((F57 164 53 rfl).trans ((F56 164 53 rfl).trans ((F55 164 53 rfl).trans ((F54 164 53 rfl).trans ((F53 164 53 rfl).trans ((F52 164 53 rfl).trans ((F51 164 53 rfl).trans ((F50 164 53 rfl).trans ((F49 164 53 rfl).trans ((F48 164 53 rfl).trans (f164_53 (h := h) hT))))))))))))))))))) ?_
  refine am_e_iconst (w := 4) n97_46 rfl ?_
  refine am_e_iload_n n97_47 rfl ?_
  refine am_e_imul (w := 0) n97_48 (by decide) ?_
  refine am_e_iload_n n97_49 rfl ?_
  refine am_e_iadd (w := 3) n97_50 (by decide) ?_
  refine am_e_iaload (v := 0) (q := 3) n97_51 rfl (by decide) (by decide) ((F65 191 3 rfl).trans ((F64 191 3 rfl).trans ((F63 191 3 rfl).trans ((F62 191 3 rfl).trans ((F61 191 3 rfl).trans ((F60 191 3 rfl).trans ((F59 191 3 rfl).trans ((F58 191 3 rfl).trans ((F57 191 3 rfl).trans ((F56 191 3 rfl).trans ((F55 191 3 rfl).trans ((F54 191 3 rfl).trans ((F53 191 3 rfl).trans ((F52 191 3 rfl).trans ((F51 191 3 rfl).trans ((F50 191 3 rfl).trans ((F49 191 3 rfl).trans ((F48 191 3 rfl).trans (f191_3 (h := h) hT))))))))))))))))))) ?_
  refine am_e_iastore (q := 7) n97_52 rfl (by decide) (by decide) ?_
  refine am_e_aload_n n97_53 rfl ?_
  refine am_e_getf (v := .ref 192) n97_54 rfl ((F65 164 54 rfl).trans ((F64 164 54 rfl).trans ((F63 164 54 rfl).trans ((F62 164 54 rfl).trans ((F61 164 54 rfl).trans ((F60 164 54 rfl).trans ((F59 164 54 rfl).trans ((F58 164 54 rfl).trans ((F57 164 54 rfl).trans ((F56 164 54 rfl).trans ((F55 164 54 rfl).trans ((F54 164 54 rfl).trans ((F53 164 54 rfl).trans ((F52 164 54 rfl).trans ((F51 164 54 rfl).trans ((F50 164 54 rfl).trans ((F49 164 54 rfl).trans ((F48 164 54 rfl).trans (f164_54 (h := h) hT))))))))))))))))))) ?_
  refine am_e_iconst (w := 4) n97_55 rfl ?_
  refine am_e_iload_n n97_56 rfl ?_
  refine am_e_imul (w := 4) n97_57 (by decide) ?_
  refine am_e_iload_n n97_58 rfl ?_
  refine am_e_iadd (w := 7) n97_59 (by decide) ?_
  refine am_e_aload_n n97_60 rfl ?_
  refine am_e_getf (v := .ref 192) n97_61 rfl ((F65 164 54 rfl).trans ((F64 164 54 rfl).trans ((F63 164 54 rfl).trans ((F62 164 54 rfl).trans ((F61 164 54 rfl).trans ((F60 164 54 rfl).trans ((F59 164 54 rfl).trans ((F58 164 54 rfl).trans ((F57 164 54 rfl).trans ((F56 164 54 rfl).trans ((F55 164 54 rfl).trans ((F54 164 54 rfl).trans ((F53 164 54 rfl).trans ((F52 164 54 rfl).trans ((F51 164 54 rfl).trans ((F50 164 54 rfl).trans ((F49 164 54 rfl).trans ((F48 164 54 rfl).trans (f164_54 (h := h) hT))))))))))))))))))) ?_
  refine am_e_iconst (w := 4) n97_62 rfl ?_
  refine am_e_iload_n n97_63 rfl ?_
  refine am_e_imul (w := 0) n97_64 (by decide) ?_
  refine am_e_iload_n n97_65 rfl ?_
  refine am_e_iadd (w := 3) n97_66 (by decide) ?_
  refine am_e_iaload (v := 0) (q := 3) n97_67 rfl (by decide) (by decide) ((F65 192 3 rfl).trans ((F64 192 3 rfl).trans ((F63 192 3 rfl).trans ((F62 192 3 rfl).trans ((F61 192 3 rfl).trans ((F60 192 3 rfl).trans ((F59 192 3 rfl).trans ((F58 192 3 rfl).trans ((F57 192 3 rfl).trans ((F56 192 3 rfl).trans ((F55 192 3 rfl).trans ((F54 192 3 rfl).trans ((F53 192 3 rfl).trans ((F52 192 3 rfl).trans ((F51 192 3 rfl).trans ((F50 192 3 rfl).trans ((F49 192 3 rfl).trans ((F48 192 3 rfl).trans (f192_3 (h := h) hT))))))))))))))))))) ?_
  refine am_e_iastore (q := 7) n97_68 rfl (by decide) (by decide) ?_
  refine am_e_aload_n n97_69 rfl ?_
  refine am_e_getf (v := .ref 193) n97_70 rfl ((F65 164 55 rfl).trans ((F64 164 55 rfl).trans ((F63 164 55 rfl).trans ((F62 164 55 rfl).trans ((F61 164 55 rfl).trans ((F60 164 55 rfl).trans ((F59 164 55 rfl).trans ((F58 164 55 rfl).trans ((F57 164 55 rfl).trans ((F56 164 55 rfl).trans ((F55 164 55 rfl).trans ((F54 164 55 rfl).trans ((F53 164 55 rfl).trans ((F52 164 55 rfl).trans ((F51 164 55 rfl).trans ((F50 164 55 rfl).trans ((F49 164 55 rfl).trans ((F48 164 55 rfl).trans (f164_55 (h := h) hT))))))))))))))))))) ?_
  refine am_e_iconst (w := 4) n97_71 rfl ?_
  refine am_e_iload_n n97_72 rfl ?_
  refine am_e_imul (w := 4) n97_73 (by decide) ?_
  refine am_e_iload_n n97_74 rfl ?_
  refine am_e_iadd (w := 7) n97_75 (by decide) ?_
  refine am_e_aload_n n97_76 rfl ?_
  refine am_e_getf (v := .ref 193) n97_77 rfl ((F65 164 55 rfl).trans ((F64 164 55 rfl).trans ((F63 164 55 rfl).trans ((F62 164 55 rfl).trans ((F61 164 55 rfl).trans ((F60 164 55 rfl).trans ((F59 164 55 rfl).trans ((F58 164 55 rfl).trans ((F57 164 55 rfl).trans ((F56 164 55 rfl).trans ((F55 164 55 rfl).trans ((F54 164 55 rfl).trans ((F53 164 55 rfl).trans ((F52 164 55 rfl).trans ((F51 164 55 rfl).trans ((F50 164 55 rfl).trans ((F49 164 55 rfl).trans ((F48 164 55 rfl).trans (f164_55 (h := h) hT))))))))))))))))))) ?_
  refine am_e_iconst (w := 4) n97_78 rfl ?_
  refine am_e_iload_n n97_79 rfl ?_
  refine am_e_imul (w := 0) n97_80 (by decide) ?_
  refine am_e_iload_n n97_81 rfl ?_
  refine am_e_iadd (w := 3) n97_82 (by decide) ?_
  refine am_e_iaload (v := 0) (q := 3) n97_83 rfl (by decide) (by decide) ((F65 193 3 rfl).trans ((F64 193 3 rfl).trans ((F63 193 3 rfl).trans ((F62 193 3 rfl).trans ((F61 193 3 rfl).trans ((F60 193 3 rfl).trans ((F59 193 3 rfl).trans ((F58 193 3 rfl).trans ((F57 193 3 rfl).trans ((F56 193 3 rfl).trans ((F55 193 3 rfl).trans ((F54 193 3 rfl).trans ((F53 193 3 rfl).trans ((F52 193 3 rfl).trans ((F51 193 3 rfl).trans ((F50 193 3 rfl).trans ((F49 193 3 rfl).trans ((F48 193 3 rfl).trans (f193_3 (h := h) hT))))))))))))))))))) ?_
  refine am_e_iastore (q := 7) n97_84 rfl (by decide) (by decide) ?_
  refine am_e_iinc (w := 4) (ls' := [(3, .int 4), (0, .ref 164), (1, .int 1), (2, .int 0)]) n97_85 rfl rfl (by decide) rfl ?_
  refine am_e_goto c97_86 t97_86 ?_
  refine am_e_iload_n n97_34 rfl ?_
  refine am_e_iconst (w := 4) n97_35 rfl ?_
  refine am_e_cmpT n97_36 (am_c_geT (by decide)) t97_36 ?_
  refine am_e_vret c97_87 rfl rfl ?_
  refine am_e_iconst (w := 0) n127_35 rfl ?_
  refine am_e_istore (ls' := [(8, .int 0), (7, .int 8), (6, .int 0), (0, .ref 164), (2, .int (nI n)), (3, .int (nI b)), (4, .long 0)]) n127_36 rfl rfl ?_
  refine am_Ek_ls (ls' := [(0, .ref 164), (2, .int (nI n)), (3, .int (nI b)), (4, .long 0), (6, .int 0), (7, .int 8), (8, .int (nI 0))]) ⟨rfl, rfl, rfl, rfl, rfl, rfl, rfl, trivial⟩ ?_
  refine am_cm_e (n := n) (b := b) (s := 0) (t := 0) (i7 := 8) (dr := dr65) (by omega) (by omega) ⟨((F65 164 23 rfl).trans ((F64 164 23 rfl).trans ((F63 164 23 rfl).trans ((F62 164 23 rfl).trans ((F61 164 23 rfl).trans ((F60 164 23 rfl).trans ((F59 164 23 rfl).trans ((F58 164 23 rfl).trans ((F57 164 23 rfl).trans ((F56 164 23 rfl).trans ((F55 164 23 rfl).trans ((F54 164 23 rfl).trans ((F53 164 23 rfl).trans ((F52 164 23 rfl).trans ((F51 164 23 rfl).trans ((F50 164 23 rfl).trans ((F49 164 23 rfl).trans ((F48 164 23 rfl).trans (f164_23 (h := h) hT))))))))))))))))))), ((F65 168 4 rfl).trans ((F64 168 4 rfl).trans ((F63 168 4 rfl).trans ((F62 168 4 rfl).trans ((F61 168 4 rfl).trans ((F60 168 4 rfl).trans ((F59 168 4 rfl).trans ((F58 168 4 rfl).trans ((F57 168 4 rfl).trans ((F56 168 4 rfl).trans ((F55 168 4 rfl).trans ((F54 168 4 rfl).trans ((F53 168 4 rfl).trans ((F52 168 4 rfl).trans ((F51 168 4 rfl).trans ((F50 168 4 rfl).trans ((F49 168 4 rfl).trans ((F48 168 4 rfl).trans (f168_4 (h := h) hT))))))))))))))))))), ((F65 164 50 rfl).trans ((F64 164 50 rfl).trans ((F63 164 50 rfl).trans ((F62 164 50 rfl).trans ((F61 164 50 rfl).trans ((F60 164 50 rfl).trans ((F59 164 50 rfl).trans ((F58 164 50 rfl).trans ((F57 164 50 rfl).trans ((F56 164 50 rfl).trans ((F55 164 50 rfl).trans ((F54 164 50 rfl).trans ((F53 164 50 rfl).trans ((F52 164 50 rfl).trans ((F51 164 50 rfl).trans ((F50 164 50 rfl).trans ((F49 164 50 rfl).trans ((F48 164 50 rfl).trans (f164_50 (h := h) hT))))))))))))))))))), ((F65 164 61 rfl).trans ((F64 164 61 rfl).trans ((F63 164 61 rfl).trans ((F62 164 61 rfl).trans ((F61 164 61 rfl).trans ((F60 164 61 rfl).trans ((F59 164 61 rfl).trans ((F58 164 61 rfl).trans ((F57 164 61 rfl).trans ((F56 164 61 rfl).trans ((F55 164 61 rfl).trans ((F54 164 61 rfl).trans ((F53 164 61 rfl).trans ((F52 164 61 rfl).trans ((F51 164 61 rfl).trans ((F50 164 61 rfl).trans ((F49 164 61 rfl).trans ((F48 164 61 rfl).trans (f164_61 (h := h) hT))))))))))))))))))), ((F65 164 47 rfl).trans ((F64 164 47 rfl).trans ((F63 164 47 rfl).trans ((F62 164 47 rfl).trans ((F61 164 47 rfl).trans ((F60 164 47 rfl).trans ((F59 164 47 rfl).trans ((F58 164 47 rfl).trans ((F57 164 47 rfl).trans ((F56 164 47 rfl).trans ((F55 164 47 rfl).trans ((F54 164 47 rfl).trans ((F53 164 47 rfl).trans ((F52 164 47 rfl).trans ((F51 164 47 rfl).trans ((F50 164 47 rfl).trans ((F49 164 47 rfl).trans ((F48 164 47 rfl).trans (f164_47 (h := h) hT))))))))))))))))))), ((F65 168 0 rfl).trans ((F64 168 0 rfl).trans ((F63 168 0 rfl).trans ((F62 168 0 rfl).trans ((F61 168 0 rfl).trans ((F60 168 0 rfl).trans ((F59 168 0 rfl).trans ((F58 168 0 rfl).trans ((F57 168 0 rfl).trans ((F56 168 0 rfl).trans ((F55 168 0 rfl).trans ((F54 168 0 rfl).trans ((F53 168 0 rfl).trans ((F52 168 0 rfl).trans ((F51 168 0 rfl).trans ((F50 168 0 rfl).trans ((F49 168 0 rfl).trans ((F48 168 0 rfl).trans (f168_0 (h := h) hT))))))))))))))))))), ((F65 164 51 rfl).trans ((F64 164 51 rfl).trans ((F63 164 51 rfl).trans ((F62 164 51 rfl).trans ((F61 164 51 rfl).trans ((F60 164 51 rfl).trans ((F59 164 51 rfl).trans ((F58 164 51 rfl).trans ((F57 164 51 rfl).trans ((F56 164 51 rfl).trans ((F55 164 51 rfl).trans ((F54 164 51 rfl).trans ((F53 164 51 rfl).trans ((F52 164 51 rfl).trans ((F51 164 51 rfl).trans ((F50 164 51 rfl).trans ((F49 164 51 rfl).trans ((F48 164 51 rfl).trans (f164_51 (h := h) hT))))))))))))))))))), ((F65 164 33 rfl).trans ((F64 164 33 rfl).trans ((F63 164 33 rfl).trans ((F62 164 33 rfl).trans ((F61 164 33 rfl).trans ((F60 164 33 rfl).trans ((F59 164 33 rfl).trans ((F58 164 33 rfl).trans ((F57 164 33 rfl).trans ((F56 164 33 rfl).trans ((F55 164 33 rfl).trans ((F54 164 33 rfl).trans ((F53 164 33 rfl).trans ((F52 164 33 rfl).trans ((F51 164 33 rfl).trans ((F50 164 33 rfl).trans ((F49 164 33 rfl).trans ((F48 164 33 rfl).trans (f164_33 (h := h) hT))))))))))))))))))), ((F65 178 2 rfl).trans ((F64 178 2 rfl).trans ((F63 178 2 rfl).trans ((F62 178 2 rfl).trans ((F61 178 2 rfl).trans ((F60 178 2 rfl).trans ((F59 178 2 rfl).trans ((F58 178 2 rfl).trans ((F57 178 2 rfl).trans ((F56 178 2 rfl).trans ((F55 178 2 rfl).trans ((F54 178 2 rfl).trans ((F53 178 2 rfl).trans ((F52 178 2 rfl).trans ((F51 178 2 rfl).trans ((F50 178 2 rfl).trans ((F49 178 2 rfl).trans ((F48 178 2 rfl).trans (f178_2 (h := h) hT))))))))))))))))))), ((F65 178 0 rfl).trans ((F64 178 0 rfl).trans ((F63 178 0 rfl).trans ((F62 178 0 rfl).trans ((F61 178 0 rfl).trans ((F60 178 0 rfl).trans ((F59 178 0 rfl).trans ((F58 178 0 rfl).trans ((F57 178 0 rfl).trans ((F56 178 0 rfl).trans ((F55 178 0 rfl).trans ((F54 178 0 rfl).trans ((F53 178 0 rfl).trans ((F52 178 0 rfl).trans ((F51 178 0 rfl).trans ((F50 178 0 rfl).trans ((F49 178 0 rfl).trans ((F48 178 0 rfl).trans (f178_0 (h := h) hT))))))))))))))))))), ((F65 164 62 rfl).trans ((F64 164 62 rfl).trans ((F63 164 62 rfl).trans ((F62 164 62 rfl).trans ((F61 164 62 rfl).trans ((F60 164 62 rfl).trans ((F59 164 62 rfl).trans ((F58 164 62 rfl).trans ((F57 164 62 rfl).trans ((F56 164 62 rfl).trans ((F55 164 62 rfl).trans ((F54 164 62 rfl).trans ((F53 164 62 rfl).trans ((F52 164 62 rfl).trans ((F51 164 62 rfl).trans ((F50 164 62 rfl).trans ((F49 164 62 rfl).trans ((F48 164 62 rfl).trans (f164_62 (h := h) hT))))))))))))))))))), ((F65 164 58 rfl).trans ((F64 164 58 rfl).trans ((F63 164 58 rfl).trans ((F62 164 58 rfl).trans ((F61 164 58 rfl).trans ((F60 164 58 rfl).trans ((F59 164 58 rfl).trans ((F58 164 58 rfl).trans ((F57 164 58 rfl).trans ((F56 164 58 rfl).trans ((F55 164 58 rfl).trans ((F54 164 58 rfl).trans ((F53 164 58 rfl).trans ((F52 164 58 rfl).trans ((F51 164 58 rfl).trans ((F50 164 58 rfl).trans ((F49 164 58 rfl).trans ((F48 164 58 rfl).trans (f164_58 (h := h) hT))))))))))))))))))), ((F65 164 60 rfl).trans ((F64 164 60 rfl).trans ((F63 164 60 rfl).trans ((F62 164 60 rfl).trans ((F61 164 60 rfl).trans ((F60 164 60 rfl).trans ((F59 164 60 rfl).trans ((F58 164 60 rfl).trans ((F57 164 60 rfl).trans ((F56 164 60 rfl).trans ((F55 164 60 rfl).trans ((F54 164 60 rfl).trans ((F53 164 60 rfl).trans ((F52 164 60 rfl).trans ((F51 164 60 rfl).trans ((F50 164 60 rfl).trans ((F49 164 60 rfl).trans ((F48 164 60 rfl).trans (f164_60 (h := h) hT))))))))))))))))))), trivial⟩ rfl rfl qc65 ?_
  intro h66 dr66 F66 qa66 qb66 qc66
  refine am_e_iload n127_59 rfl ?_
  refine am_e_aload_n n127_60 rfl ?_
  refine am_e_getf (v := .ref 188) n127_61 rfl ((F66 164 50 rfl).trans ((F65 164 50 rfl).trans ((F64 164 50 rfl).trans ((F63 164 50 rfl).trans ((F62 164 50 rfl).trans ((F61 164 50 rfl).trans ((F60 164 50 rfl).trans ((F59 164 50 rfl).trans ((F58 164 50 rfl).trans ((F57 164 50 rfl).trans ((F56 164 50 rfl).trans ((F55 164 50 rfl).trans ((F54 164 50 rfl).trans ((F53 164 50 rfl).trans ((F52 164 50 rfl).trans ((F51 164 50 rfl).trans ((F50 164 50 rfl).trans ((F49 164 50 rfl).trans ((F48 164 50 rfl).trans (f164_50 (h := h) hT)))))))))))))))))))) ?_
  refine am_e_iconst (w := 1) n127_62 rfl ?_
  refine am_e_iaload (v := 0) (q := 1) n127_63 rfl (by decide) (by decide) qa66 ?_
  refine am_e_iload_n n127_64 rfl ?_
  refine am_e_cmpT n127_65 (am_c_ltT (nI_lt (a := 0) hb0 (by omega))) t127_65 ?_
  refine am_e_iconst (w := 0) n127_68 rfl ?_
  refine am_e_iadd (w := 0) n127_69 (by decide) ?_
  refine am_e_istore (ls' := [(6, .int 0), (0, .ref 164), (2, .int (nI n)), (3, .int (nI b)), (4, .long 0), (7, .int 8), (8, .int (nI n))]) n127_70 rfl rfl ?_
  refine am_e_iinc (w := 9) (ls' := [(7, .int 9), (6, .int 0), (0, .ref 164), (2, .int (nI n)), (3, .int (nI b)), (4, .long 0), (8, .int (nI n))]) n127_71 rfl rfl (by decide) rfl ?_
  refine am_e_goto c127_72 t127_72 ?_
  refine am_e_iload n127_28 rfl ?_
  refine am_e_bipush (w := 10) n127_29 (by decide) ?_
  refine am_e_cmpF n127_30 (am_c_geF (by decide)) ?_
  refine am_e_aload_n n127_31 rfl ?_
  refine am_e_iconst (w := 1) n127_32 rfl ?_
  refine am_e_iconst (w := 0) n127_33 rfl ?_
  refine am_e_callV (L := [(0, .ref 164), (1, .int 1), (2, .int 0)]) n127_34 rfl rfl rfl rfl rfl rfl rfl rfl ?_
  refine am_e_aload_n n97_0 rfl ?_
  refine am_e_getf (v := .ref 188) n97_1 rfl ((F66 164 50 rfl).trans ((F65 164 50 rfl).trans ((F64 164 50 rfl).trans ((F63 164 50 rfl).trans ((F62 164 50 rfl).trans ((F61 164 50 rfl).trans ((F60 164 50 rfl).trans ((F59 164 50 rfl).trans ((F58 164 50 rfl).trans ((F57 164 50 rfl).trans ((F56 164 50 rfl).trans ((F55 164 50 rfl).trans ((F54 164 50 rfl).trans ((F53 164 50 rfl).trans ((F52 164 50 rfl).trans ((F51 164 50 rfl).trans ((F50 164 50 rfl).trans ((F49 164 50 rfl).trans ((F48 164 50 rfl).trans (f164_50 (h := h) hT)))))))))))))))))))) ?_
  refine am_e_iload_n n97_2 rfl ?_
  refine am_e_aload_n n97_3 rfl ?_
  refine am_e_getf (v := .ref 188) n97_4 rfl ((F66 164 50 rfl).trans ((F65 164 50 rfl).trans ((F64 164 50 rfl).trans ((F63 164 50 rfl).trans ((F62 164 50 rfl).trans ((F61 164 50 rfl).trans ((F60 164 50 rfl).trans ((F59 164 50 rfl).trans ((F58 164 50 rfl).trans ((F57 164 50 rfl).trans ((F56 164 50 rfl).trans ((F55 164 50 rfl).trans ((F54 164 50 rfl).trans ((F53 164 50 rfl).trans ((F52 164 50 rfl).trans ((F51 164 50 rfl).trans ((F50 164 50 rfl).trans ((F49 164 50 rfl).trans ((F48 164 50 rfl).trans (f164_50 (h := h) hT)))))))))))))))))))) ?_
  refine am_e_iload_n n97_5 rfl ?_
  refine am_e_iaload (v := 0) (q := 0) n97_6 rfl (by decide) (by decide) ((F66 188 0 rfl).trans ((F65 188 0 rfl).trans ((F64 188 0 rfl).trans ((F63 188 0 rfl).trans ((F62 188 0 rfl).trans ((F61 188 0 rfl).trans ((F60 188 0 rfl).trans ((F59 188 0 rfl).trans ((F58 188 0 rfl).trans ((F57 188 0 rfl).trans ((F56 188 0 rfl).trans ((F55 188 0 rfl).trans ((F54 188 0 rfl).trans ((F53 188 0 rfl).trans ((F52 188 0 rfl).trans ((F51 188 0 rfl).trans ((F50 188 0 rfl).trans ((F49 188 0 rfl).trans ((F48 188 0 rfl).trans (f188_0 (h := h) hT)))))))))))))))))))) ?_
  refine am_e_iastore (q := 1) n97_7 rfl (by decide) (by decide) ?_
  refine am_e_aload_n n97_8 rfl ?_
  refine am_e_getf (v := .ref 189) n97_9 rfl ((F66 164 51 rfl).trans ((F65 164 51 rfl).trans ((F64 164 51 rfl).trans ((F63 164 51 rfl).trans ((F62 164 51 rfl).trans ((F61 164 51 rfl).trans ((F60 164 51 rfl).trans ((F59 164 51 rfl).trans ((F58 164 51 rfl).trans ((F57 164 51 rfl).trans ((F56 164 51 rfl).trans ((F55 164 51 rfl).trans ((F54 164 51 rfl).trans ((F53 164 51 rfl).trans ((F52 164 51 rfl).trans ((F51 164 51 rfl).trans ((F50 164 51 rfl).trans ((F49 164 51 rfl).trans ((F48 164 51 rfl).trans (f164_51 (h := h) hT)))))))))))))))))))) ?_
  refine am_e_iload_n n97_10 rfl ?_
  refine am_e_aload_n n97_11 rfl ?_
  refine am_e_getf (v := .ref 189) n97_12 rfl ((F66 164 51 rfl).trans ((F65 164 51 rfl).trans ((F64 164 51 rfl).trans ((F63 164 51 rfl).trans ((F62 164 51 rfl).trans ((F61 164 51 rfl).trans ((F60 164 51 rfl).trans ((F59 164 51 rfl).trans ((F58 164 51 rfl).trans ((F57 164 51 rfl).trans ((F56 164 51 rfl).trans ((F55 164 51 rfl).trans ((F54 164 51 rfl).trans ((F53 164 51 rfl).trans ((F52 164 51 rfl).trans ((F51 164 51 rfl).trans ((F50 164 51 rfl).trans ((F49 164 51 rfl).trans ((F48 164 51 rfl).trans (f164_51 (h := h) hT)))))))))))))))))))) ?_
  refine am_e_iload_n n97_13 rfl ?_
  refine am_e_iaload (v := 0) (q := 0) n97_14 rfl (by decide) (by decide) ((F66 189 0 rfl).trans ((F65 189 0 rfl).trans ((F64 189 0 rfl).trans ((F63 189 0 rfl).trans ((F62 189 0 rfl).trans ((F61 189 0 rfl).trans ((F60 189 0 rfl).trans ((F59 189 0 rfl).trans ((F58 189 0 rfl).trans ((F57 189 0 rfl).trans ((F56 189 0 rfl).trans ((F55 189 0 rfl).trans ((F54 189 0 rfl).trans ((F53 189 0 rfl).trans ((F52 189 0 rfl).trans ((F51 189 0 rfl).trans ((F50 189 0 rfl).trans ((F49 189 0 rfl).trans ((F48 189 0 rfl).trans (f189_0 (h := h) hT)))))))))))))))))))) ?_
  refine am_e_iastore (q := 1) n97_15 rfl (by decide) (by decide) ?_
  refine am_e_aload_n n97_16 rfl ?_
  refine am_e_getf (v := .ref 190) n97_17 rfl ((F66 164 52 rfl).trans ((F65 164 52 rfl).trans ((F64 164 52 rfl).trans ((F63 164 52 rfl).trans ((F62 164 52 rfl).trans ((F61 164 52 rfl).trans ((F60 164 52 rfl).trans ((F59 164 52 rfl).trans ((F58 164 52 rfl).trans ((F57 164 52 rfl).trans ((F56 164 52 rfl).trans ((F55 164 52 rfl).trans ((F54 164 52 rfl).trans ((F53 164 52 rfl).trans ((F52 164 52 rfl).trans ((F51 164 52 rfl).trans ((F50 164 52 rfl).trans ((F49 164 52 rfl).trans ((F48 164 52 rfl).trans (f164_52 (h := h) hT)))))))))))))))))))) ?_
  refine am_e_iload_n n97_18 rfl ?_
  refine am_e_aload_n n97_19 rfl ?_
  refine am_e_getf (v := .ref 190) n97_20 rfl ((F66 164 52 rfl).trans ((F65 164 52 rfl).trans ((F64 164 52 rfl).trans ((F63 164 52 rfl).trans ((F62 164 52 rfl).trans ((F61 164 52 rfl).trans ((F60 164 52 rfl).trans ((F59 164 52 rfl).trans ((F58 164 52 rfl).trans ((F57 164 52 rfl).trans ((F56 164 52 rfl).trans ((F55 164 52 rfl).trans ((F54 164 52 rfl).trans ((F53 164 52 rfl).trans ((F52 164 52 rfl).trans ((F51 164 52 rfl).trans ((F50 164 52 rfl).trans ((F49 164 52 rfl).trans ((F48 164 52 rfl).trans (f164_52 (h := h) hT)))))))))))))))))))) ?_
  refine am_e_iload_n n97_21 rfl ?_
  refine am_e_iaload (v := (-1)) (q := 0) n97_22 rfl (by decide) (by decide) ((F66 190 0 rfl).trans ((F65 190 0 rfl).trans ((F64 190 0 rfl).trans ((F63 190 0 rfl).trans ((F62 190 0 rfl).trans ((F61 190 0 rfl).trans ((F60 190 0 rfl).trans ((F59 190 0 rfl).trans ((F58 190 0 rfl).trans ((F57 190 0 rfl).trans ((F56 190 0 rfl).trans ((F55 190 0 rfl).trans ((F54 190 0 rfl).trans ((F53 190 0 rfl).trans ((F52 190 0 rfl).trans ((F51 190 0 rfl).trans ((F50 190 0 rfl).trans ((F49 190 0 rfl).trans ((F48 190 0 rfl).trans (f190_0 (h := h) hT)))))))))))))))))))) ?_
  refine am_e_iastore (q := 1) n97_23 rfl (by decide) (by decide) ?_
  refine am_e_aload_n n97_24 rfl ?_
  refine am_e_getf (v := .ref 194) n97_25 rfl ((F66 164 56 rfl).trans ((F65 164 56 rfl).trans ((F64 164 56 rfl).trans ((F63 164 56 rfl).trans ((F62 164 56 rfl).trans ((F61 164 56 rfl).trans ((F60 164 56 rfl).trans ((F59 164 56 rfl).trans ((F58 164 56 rfl).trans ((F57 164 56 rfl).trans ((F56 164 56 rfl).trans ((F55 164 56 rfl).trans ((F54 164 56 rfl).trans ((F53 164 56 rfl).trans ((F52 164 56 rfl).trans ((F51 164 56 rfl).trans ((F50 164 56 rfl).trans ((F49 164 56 rfl).trans ((F48 164 56 rfl).trans (f164_56 (h := h) hT)))))))))))))))))))) ?_
  refine am_e_iload_n n97_26 rfl ?_
  refine am_e_aload_n n97_27 rfl ?_
  refine am_e_getf (v := .ref 194) n97_28 rfl ((F66 164 56 rfl).trans ((F65 164 56 rfl).trans ((F64 164 56 rfl).trans ((F63 164 56 rfl).trans ((F62 164 56 rfl).trans ((F61 164 56 rfl).trans ((F60 164 56 rfl).trans ((F59 164 56 rfl).trans ((F58 164 56 rfl).trans ((F57 164 56 rfl).trans ((F56 164 56 rfl).trans ((F55 164 56 rfl).trans ((F54 164 56 rfl).trans ((F53 164 56 rfl).trans ((F52 164 56 rfl).trans ((F51 164 56 rfl).trans ((F50 164 56 rfl).trans ((F49 164 56 rfl).trans ((F48 164 56 rfl).trans (f164_56 (h := h) hT)))))))))))))))))))) ?_
  refine am_e_iload_n n97_29 rfl ?_
  refine am_e_iaload (v := 0) (q := 0) n97_30 rfl (by decide) (by decide) ((F66 194 0 rfl).trans ((F65 194 0 rfl).trans ((F64 194 0 rfl).trans ((F63 194 0 rfl).trans ((F62 194 0 rfl).trans ((F61 194 0 rfl).trans ((F60 194 0 rfl).trans ((F59 194 0 rfl).trans ((F58 194 0 rfl).trans ((F57 194 0 rfl).trans ((F56 194 0 rfl).trans ((F55 194 0 rfl).trans ((F54 194 0 rfl).trans ((F53 194 0 rfl).trans ((F52 194 0 rfl).trans ((F51 194 0 rfl).trans ((F50 194 0 rfl).trans ((F49 194 0 rfl).trans ((F48 194 0 rfl).trans (f194_0 (h := h) hT)))))))))))))))))))) ?_
  refine am_e_iastore (q := 1) n97_31 rfl (by decide) (by decide) ?_
  refine am_e_iconst (w := 0) n97_32 rfl ?_
  refine am_e_istore_n (ls' := [(3, .int 0), (0, .ref 164), (1, .int 1), (2, .int 0)]) n97_33 rfl rfl ?_
  refine am_e_iload_n n97_34 rfl ?_
  refine am_e_iconst (w := 4) n97_35 rfl ?_
  refine am_e_cmpF n97_36 (am_c_geF (by decide)) ?_
  refine am_e_aload_n n97_37 rfl ?_
  refine am_e_getf (v := .ref 191) n97_38 rfl ((F66 164 53 rfl).trans ((F65 164 53 rfl).trans ((F64 164 53 rfl).trans ((F63 164 53 rfl).trans ((F62 164 53 rfl).trans ((F61 164 53 rfl).trans ((F60 164 53 rfl).trans ((F59 164 53 rfl).trans ((F58 164 53 rfl).trans ((F57 164 53 rfl).trans ((F56 164 53 rfl).trans ((F55 164 53 rfl).trans ((F54 164 53 rfl).trans ((F53 164 53 rfl).trans ((F52 164 53 rfl).trans ((F51 164 53 rfl).trans ((F50 164 53 rfl).trans ((F49 164 53 rfl).trans ((F48 164 53 rfl).trans (f164_53 (h := h) hT)))))))))))))))))))) ?_
  refine am_e_iconst (w := 4) n97_39 rfl ?_
  refine am_e_iload_n n97_40 rfl ?_
  refine am_e_imul (w := 4) n97_41 (by decide) ?_
  refine am_e_iload_n n97_42 rfl ?_
  refine am_e_iadd (w := 4) n97_43 (by decide) ?_
  refine am_e_aload_n n97_44 rfl ?_
  refine am_e_getf (v := .ref 191) n97_45 rfl ((F66 164 53 rfl).trans ((F65 164 53 rfl).trans ((F64 164 53 rfl).trans ((F63 164 53 rfl).trans ((F62 164 53 rfl).trans ((F61 164 53 rfl).trans ((F60 164 53 rfl).trans ((F59 164 53 rfl).trans ((F58 164 53 rfl).trans ((F57 164 53 rfl).trans ((F56 164 53 rfl).trans ((F55 164 53 rfl).trans ((F54 164 53 rfl).trans ((F53 164 53 rfl).trans ((F52 164 53 rfl).trans ((F51 164 53 rfl).trans ((F50 164 53 rfl).trans ((F49 164 53 rfl).trans ((F48 164 53 rfl).trans (f164_53 (h := h) hT)))))))))))))))))))) ?_
  refine am_e_iconst (w := 4) n97_46 rfl ?_
  refine am_e_iload_n n97_47 rfl ?_
  refine am_e_imul (w := 0) n97_48 (by decide) ?_
  refine am_e_iload_n n97_49 rfl ?_
  refine am_e_iadd (w := 0) n97_50 (by decide) ?_
  refine am_e_iaload (v := 0) (q := 0) n97_51 rfl (by decide) (by decide) ((F66 191 0 rfl).trans ((F65 191 0 rfl).trans ((F64 191 0 rfl).trans ((F63 191 0 rfl).trans ((F62 191 0 rfl).trans ((F61 191 0 rfl).trans ((F60 191 0 rfl).trans ((F59 191 0 rfl).trans ((F58 191 0 rfl).trans ((F57 191 0 rfl).trans ((F56 191 0 rfl).trans ((F55 191 0 rfl).trans ((F54 191 0 rfl).trans ((F53 191 0 rfl).trans ((F52 191 0 rfl).trans ((F51 191 0 rfl).trans ((F50 191 0 rfl).trans ((F49 191 0 rfl).trans ((F48 191 0 rfl).trans (f191_0 (h := h) hT)))))))))))))))))))) ?_
  refine am_e_iastore (q := 4) n97_52 rfl (by decide) (by decide) ?_
  refine am_e_aload_n n97_53 rfl ?_
  refine am_e_getf (v := .ref 192) n97_54 rfl ((F66 164 54 rfl).trans ((F65 164 54 rfl).trans ((F64 164 54 rfl).trans ((F63 164 54 rfl).trans ((F62 164 54 rfl).trans ((F61 164 54 rfl).trans ((F60 164 54 rfl).trans ((F59 164 54 rfl).trans ((F58 164 54 rfl).trans ((F57 164 54 rfl).trans ((F56 164 54 rfl).trans ((F55 164 54 rfl).trans ((F54 164 54 rfl).trans ((F53 164 54 rfl).trans ((F52 164 54 rfl).trans ((F51 164 54 rfl).trans ((F50 164 54 rfl).trans ((F49 164 54 rfl).trans ((F48 164 54 rfl).trans (f164_54 (h := h) hT)))))))))))))))))))) ?_
  refine am_e_iconst (w := 4) n97_55 rfl ?_
  refine am_e_iload_n n97_56 rfl ?_
  refine am_e_imul (w := 4) n97_57 (by decide) ?_
  refine am_e_iload_n n97_58 rfl ?_
  refine am_e_iadd (w := 4) n97_59 (by decide) ?_
  refine am_e_aload_n n97_60 rfl ?_
  refine am_e_getf (v := .ref 192) n97_61 rfl ((F66 164 54 rfl).trans ((F65 164 54 rfl).trans ((F64 164 54 rfl).trans ((F63 164 54 rfl).trans ((F62 164 54 rfl).trans ((F61 164 54 rfl).trans ((F60 164 54 rfl).trans ((F59 164 54 rfl).trans ((F58 164 54 rfl).trans ((F57 164 54 rfl).trans ((F56 164 54 rfl).trans ((F55 164 54 rfl).trans ((F54 164 54 rfl).trans ((F53 164 54 rfl).trans ((F52 164 54 rfl).trans ((F51 164 54 rfl).trans ((F50 164 54 rfl).trans ((F49 164 54 rfl).trans ((F48 164 54 rfl).trans (f164_54 (h := h) hT)))))))))))))))))))) ?_
  refine am_e_iconst (w := 4) n97_62 rfl ?_
  refine am_e_iload_n n97_63 rfl ?_
  refine am_e_imul (w := 0) n97_64 (by decide) ?_
  refine am_e_iload_n n97_65 rfl ?_
  refine am_e_iadd (w := 0) n97_66 (by decide) ?_
  refine am_e_iaload (v := 0) (q := 0) n97_67 rfl (by decide) (by decide) ((F66 192 0 rfl).trans ((F65 192 0 rfl).trans ((F64 192 0 rfl).trans ((F63 192 0 rfl).trans ((F62 192 0 rfl).trans ((F61 192 0 rfl).trans ((F60 192 0 rfl).trans ((F59 192 0 rfl).trans ((F58 192 0 rfl).trans ((F57 192 0 rfl).trans ((F56 192 0 rfl).trans ((F55 192 0 rfl).trans ((F54 192 0 rfl).trans ((F53 192 0 rfl).trans ((F52 192 0 rfl).trans ((F51 192 0 rfl).trans ((F50 192 0 rfl).trans ((F49 192 0 rfl).trans ((F48 192 0 rfl).trans (f192_0 (h := h) hT)))))))))))))))))))) ?_
  refine am_e_iastore (q := 4) n97_68 rfl (by decide) (by decide) ?_
  refine am_e_aload_n n97_69 rfl ?_
  refine am_e_getf (v := .ref 193) n97_70 rfl ((F66 164 55 rfl).trans ((F65 164 55 rfl).trans ((F64 164 55 rfl).trans ((F63 164 55 rfl).trans ((F62 164 55 rfl).trans ((F61 164 55 rfl).trans ((F60 164 55 rfl).trans ((F59 164 55 rfl).trans ((F58 164 55 rfl).trans ((F57 164 55 rfl).trans ((F56 164 55 rfl).trans ((F55 164 55 rfl).trans ((F54 164 55 rfl).trans ((F53 164 55 rfl).trans ((F52 164 55 rfl).trans ((F51 164 55 rfl).trans ((F50 164 55 rfl).trans ((F49 164 55 rfl).trans ((F48 164 55 rfl).trans (f164_55 (h := h) hT)))))))))))))))))))) ?_
  refine am_e_iconst (w := 4) n97_71 rfl ?_
  refine am_e_iload_n n97_72 rfl ?_
  refine am_e_imul (w := 4) n97_73 (by decide) ?_
  refine am_e_iload_n n97_74 rfl ?_
  refine am_e_iadd (w := 4) n97_75 (by decide) ?_
  refine am_e_aload_n n97_76 rfl ?_
  refine am_e_getf (v := .ref 193) n97_77 rfl ((F66 164 55 rfl).trans ((F65 164 55 rfl).trans ((F64 164 55 rfl).trans ((F63 164 55 rfl).trans ((F62 164 55 rfl).trans ((F61 164 55 rfl).trans ((F60 164 55 rfl).trans ((F59 164 55 rfl).trans ((F58 164 55 rfl).trans ((F57 164 55 rfl).trans ((F56 164 55 rfl).trans ((F55 164 55 rfl).trans ((F54 164 55 rfl).trans ((F53 164 55 rfl).trans ((F52 164 55 rfl).trans ((F51 164 55 rfl).trans ((F50 164 55 rfl).trans ((F49 164 55 rfl).trans ((F48 164 55 rfl).trans (f164_55 (h := h) hT)))))))))))))))))))) ?_
  refine am_e_iconst (w := 4) n97_78 rfl ?_
  refine am_e_iload_n n97_79 rfl ?_
  refine am_e_imul (w := 0) n97_80 (by decide) ?_
  refine am_e_iload_n n97_81 rfl ?_
  refine am_e_iadd (w := 0) n97_82 (by decide) ?_
  refine am_e_iaload (v := 0) (q := 0) n97_83 rfl (by decide) (by decide) ((F66 193 0 rfl).trans ((F65 193 0 rfl).trans ((F64 193 0 rfl).trans ((F63 193 0 rfl).trans ((F62 193 0 rfl).trans ((F61 193 0 rfl).trans ((F60 193 0 rfl).trans ((F59 193 0 rfl).trans ((F58 193 0 rfl).trans ((F57 193 0 rfl).trans ((F56 193 0 rfl).trans ((F55 193 0 rfl).trans ((F54 193 0 rfl).trans ((F53 193 0 rfl).trans ((F52 193 0 rfl).trans ((F51 193 0 rfl).trans ((F50 193 0 rfl).trans ((F49 193 0 rfl).trans ((F48 193 0 rfl).trans (f193_0 (h := h) hT)))))))))))))))))))) ?_
  refine am_e_iastore (q := 4) n97_84 rfl (by decide) (by decide) ?_
  refine am_e_iinc (w := 1) (ls' := [(3, .int 1), (0, .ref 164), (1, .int 1), (2, .int 0)]) n97_85 rfl rfl (by decide) rfl ?_
  refine am_e_goto c97_86 t97_86 ?_
  refine am_e_iload_n n97_34 rfl ?_
  refine am_e_iconst (w := 4) n97_35 rfl ?_
  refine am_e_cmpF n97_36 (am_c_geF (by decide)) ?_
  refine am_e_aload_n n97_37 rfl ?_
  refine am_e_getf (v := .ref 191) n97_38 rfl ((F66 164 53 rfl).trans ((F65 164 53 rfl).trans ((F64 164 53 rfl).trans ((F63 164 53 rfl).trans ((F62 164 53 rfl).trans ((F61 164 53 rfl).trans ((F60 164 53 rfl).trans ((F59 164 53 rfl).trans ((F58 164 53 rfl).trans ((F57 164 53 rfl).trans ((F56 164 53 rfl).trans ((F55 164 53 rfl).trans ((F54 164 53 rfl).trans ((F53 164 53 rfl).trans ((F52 164 53 rfl).trans ((F51 164 53 rfl).trans ((F50 164 53 rfl).trans ((F49 164 53 rfl).trans ((F48 164 53 rfl).trans (f164_53 (h := h) hT)))))))))))))))))))) ?_
  refine am_e_iconst (w := 4) n97_39 rfl ?_
  refine am_e_iload_n n97_40 rfl ?_
  refine am_e_imul (w := 4) n97_41 (by decide) ?_
  refine am_e_iload_n n97_42 rfl ?_
  refine am_e_iadd (w := 5) n97_43 (by decide) ?_
  refine am_e_aload_n n97_44 rfl ?_
  refine am_e_getf (v := .ref 191) n97_45 rfl ((F66 164 53 rfl).trans ((F65 164 53 rfl).trans ((F64 164 53 rfl).trans ((F63 164 53 rfl).trans ((F62 164 53 rfl).trans ((F61 164 53 rfl).trans ((F60 164 53 rfl).trans ((F59 164 53 rfl).trans ((F58 164 53 rfl).trans ((F57 164 53 rfl).trans ((F56 164 53 rfl).trans ((F55 164 53 rfl).trans ((F54 164 53 rfl).trans ((F53 164 53 rfl).trans ((F52 164 53 rfl).trans ((F51 164 53 rfl).trans ((F50 164 53 rfl).trans ((F49 164 53 rfl).trans ((F48 164 53 rfl).trans (f164_53 (h := h) hT)))))))))))))))))))) ?_
  refine am_e_iconst (w := 4) n97_46 rfl ?_
  refine am_e_iload_n n97_47 rfl ?_
  refine am_e_imul (w := 0) n97_48 (by decide) ?_
  refine am_e_iload_n n97_49 rfl ?_
  refine am_e_iadd (w := 1) n97_50 (by decide) ?_
  refine am_e_iaload (v := 0) (q := 1) n97_51 rfl (by decide) (by decide) ((F66 191 1 rfl).trans ((F65 191 1 rfl).trans ((F64 191 1 rfl).trans ((F63 191 1 rfl).trans ((F62 191 1 rfl).trans ((F61 191 1 rfl).trans ((F60 191 1 rfl).trans ((F59 191 1 rfl).trans ((F58 191 1 rfl).trans ((F57 191 1 rfl).trans ((F56 191 1 rfl).trans ((F55 191 1 rfl).trans ((F54 191 1 rfl).trans ((F53 191 1 rfl).trans ((F52 191 1 rfl).trans ((F51 191 1 rfl).trans ((F50 191 1 rfl).trans ((F49 191 1 rfl).trans ((F48 191 1 rfl).trans (f191_1 (h := h) hT)))))))))))))))))))) ?_
  refine am_e_iastore (q := 5) n97_52 rfl (by decide) (by decide) ?_
  refine am_e_aload_n n97_53 rfl ?_
  refine am_e_getf (v := .ref 192) n97_54 rfl ((F66 164 54 rfl).trans ((F65 164 54 rfl).trans ((F64 164 54 rfl).trans ((F63 164 54 rfl).trans ((F62 164 54 rfl).trans ((F61 164 54 rfl).trans ((F60 164 54 rfl).trans ((F59 164 54 rfl).trans ((F58 164 54 rfl).trans ((F57 164 54 rfl).trans ((F56 164 54 rfl).trans ((F55 164 54 rfl).trans ((F54 164 54 rfl).trans ((F53 164 54 rfl).trans ((F52 164 54 rfl).trans ((F51 164 54 rfl).trans ((F50 164 54 rfl).trans ((F49 164 54 rfl).trans ((F48 164 54 rfl).trans (f164_54 (h := h) hT)))))))))))))))))))) ?_
  refine am_e_iconst (w := 4) n97_55 rfl ?_
  refine am_e_iload_n n97_56 rfl ?_
  refine am_e_imul (w := 4) n97_57 (by decide) ?_
  refine am_e_iload_n n97_58 rfl ?_
  refine am_e_iadd (w := 5) n97_59 (by decide) ?_
  refine am_e_aload_n n97_60 rfl ?_
  refine am_e_getf (v := .ref 192) n97_61 rfl ((F66 164 54 rfl).trans ((F65 164 54 rfl).trans ((F64 164 54 rfl).trans ((F63 164 54 rfl).trans ((F62 164 54 rfl).trans ((F61 164 54 rfl).trans ((F60 164 54 rfl).trans ((F59 164 54 rfl).trans ((F58 164 54 rfl).trans ((F57 164 54 rfl).trans ((F56 164 54 rfl).trans ((F55 164 54 rfl).trans ((F54 164 54 rfl).trans ((F53 164 54 rfl).trans ((F52 164 54 rfl).trans ((F51 164 54 rfl).trans ((F50 164 54 rfl).trans ((F49 164 54 rfl).trans ((F48 164 54 rfl).trans (f164_54 (h := h) hT)))))))))))))))))))) ?_
  refine am_e_iconst (w := 4) n97_62 rfl ?_
  refine am_e_iload_n n97_63 rfl ?_
  refine am_e_imul (w := 0) n97_64 (by decide) ?_
  refine am_e_iload_n n97_65 rfl ?_
  refine am_e_iadd (w := 1) n97_66 (by decide) ?_
  refine am_e_iaload (v := 0) (q := 1) n97_67 rfl (by decide) (by decide) ((F66 192 1 rfl).trans ((F65 192 1 rfl).trans ((F64 192 1 rfl).trans ((F63 192 1 rfl).trans ((F62 192 1 rfl).trans ((F61 192 1 rfl).trans ((F60 192 1 rfl).trans ((F59 192 1 rfl).trans ((F58 192 1 rfl).trans ((F57 192 1 rfl).trans ((F56 192 1 rfl).trans ((F55 192 1 rfl).trans ((F54 192 1 rfl).trans ((F53 192 1 rfl).trans ((F52 192 1 rfl).trans ((F51 192 1 rfl).trans ((F50 192 1 rfl).trans ((F49 192 1 rfl).trans ((F48 192 1 rfl).trans (f192_1 (h := h) hT)))))))))))))))))))) ?_
  refine am_e_iastore (q := 5) n97_68 rfl (by decide) (by decide) ?_
  refine am_e_aload_n n97_69 rfl ?_
  refine am_e_getf (v := .ref 193) n97_70 rfl ((F66 164 55 rfl).trans ((F65 164 55 rfl).trans ((F64 164 55 rfl).trans ((F63 164 55 rfl).trans ((F62 164 55 rfl).trans ((F61 164 55 rfl).trans ((F60 164 55 rfl).trans ((F59 164 55 rfl).trans ((F58 164 55 rfl).trans ((F57 164 55 rfl).trans ((F56 164 55 rfl).trans ((F55 164 55 rfl).trans ((F54 164 55 rfl).trans ((F53 164 55 rfl).trans ((F52 164 55 rfl).trans ((F51 164 55 rfl).trans ((F50 164 55 rfl).trans ((F49 164 55 rfl).trans ((F48 164 55 rfl).trans (f164_55 (h := h) hT)))))))))))))))))))) ?_
  refine am_e_iconst (w := 4) n97_71 rfl ?_
  refine am_e_iload_n n97_72 rfl ?_
  refine am_e_imul (w := 4) n97_73 (by decide) ?_
  refine am_e_iload_n n97_74 rfl ?_
  refine am_e_iadd (w := 5) n97_75 (by decide) ?_
  refine am_e_aload_n n97_76 rfl ?_
  refine am_e_getf (v := .ref 193) n97_77 rfl ((F66 164 55 rfl).trans ((F65 164 55 rfl).trans ((F64 164 55 rfl).trans ((F63 164 55 rfl).trans ((F62 164 55 rfl).trans ((F61 164 55 rfl).trans ((F60 164 55 rfl).trans ((F59 164 55 rfl).trans ((F58 164 55 rfl).trans ((F57 164 55 rfl).trans ((F56 164 55 rfl).trans ((F55 164 55 rfl).trans ((F54 164 55 rfl).trans ((F53 164 55 rfl).trans ((F52 164 55 rfl).trans ((F51 164 55 rfl).trans ((F50 164 55 rfl).trans ((F49 164 55 rfl).trans ((F48 164 55 rfl).trans (f164_55 (h := h) hT)))))))))))))))))))) ?_
  refine am_e_iconst (w := 4) n97_78 rfl ?_
  refine am_e_iload_n n97_79 rfl ?_
  refine am_e_imul (w := 0) n97_80 (by decide) ?_
  refine am_e_iload_n n97_81 rfl ?_
  refine am_e_iadd (w := 1) n97_82 (by decide) ?_
  refine am_e_iaload (v := 0) (q := 1) n97_83 rfl (by decide) (by decide) ((F66 193 1 rfl).trans ((F65 193 1 rfl).trans ((F64 193 1 rfl).trans ((F63 193 1 rfl).trans ((F62 193 1 rfl).trans ((F61 193 1 rfl).trans ((F60 193 1 rfl).trans ((F59 193 1 rfl).trans ((F58 193 1 rfl).trans ((F57 193 1 rfl).trans ((F56 193 1 rfl).trans ((F55 193 1 rfl).trans ((F54 193 1 rfl).trans ((F53 193 1 rfl).trans ((F52 193 1 rfl).trans ((F51 193 1 rfl).trans ((F50 193 1 rfl).trans ((F49 193 1 rfl).trans ((F48 193 1 rfl).trans (f193_1 (h := h) hT)))))))))))))))))))) ?_
  refine am_e_iastore (q := 5) n97_84 rfl (by decide) (by decide) ?_
  refine am_e_iinc (w := 2) (ls' := [(3, .int 2), (0, .ref 164), (1, .int 1), (2, .int 0)]) n97_85 rfl rfl (by decide) rfl ?_
  refine am_e_goto c97_86 t97_86 ?_
  refine am_e_iload_n n97_34 rfl ?_
  refine am_e_iconst (w := 4) n97_35 rfl ?_
  refine am_e_cmpF n97_36 (am_c_geF (by decide)) ?_
  refine am_e_aload_n n97_37 rfl ?_
  refine am_e_getf (v := .ref 191) n97_38 rfl ((F66 164 53 rfl).trans ((F65 164 53 rfl).trans ((F64 164 53 rfl).trans ((F63 164 53 rfl).trans ((F62 164 53 rfl).trans ((F61 164 53 rfl).trans ((F60 164 53 rfl).trans ((F59 164 53 rfl).trans ((F58 164 53 rfl).trans ((F57 164 53 rfl).trans ((F56 164 53 rfl).trans ((F55 164 53 rfl).trans ((F54 164 53 rfl).trans ((F53 164 53 rfl).trans ((F52 164 53 rfl).trans ((F51 164 53 rfl).trans ((F50 164 53 rfl).trans ((F49 164 53 rfl).trans ((F48 164 53 rfl).trans (f164_53 (h := h) hT)))))))))))))))))))) ?_
  refine am_e_iconst (w := 4) n97_39 rfl ?_
  refine am_e_iload_n n97_40 rfl ?_
  refine am_e_imul (w := 4) n97_41 (by decide) ?_
  refine am_e_iload_n n97_42 rfl ?_
  refine am_e_iadd (w := 6) n97_43 (by decide) ?_
  refine am_e_aload_n n97_44 rfl ?_
  refine am_e_getf (v := .ref 191) n97_45 rfl ((F66 164 53 rfl).trans ((F65 164 53 rfl).trans ((F64 164 53 rfl).trans ((F63 164 53 rfl).trans ((F62 164 53 rfl).trans ((F61 164 53 rfl).trans ((F60 164 53 rfl).trans ((F59 164 53 rfl).trans ((F58 164 53 rfl).trans ((F57 164 53 rfl).trans ((F56 164 53 rfl).trans ((F55 164 53 rfl).trans ((F54 164 53 rfl).trans ((F53 164 53 rfl).trans ((F52 164 53 rfl).trans ((F51 164 53 rfl).trans ((F50 164 53 rfl).trans ((F49 164 53 rfl).trans ((F48 164 53 rfl).trans (f164_53 (h := h) hT)))))))))))))))))))) ?_
  refine am_e_iconst (w := 4) n97_46 rfl ?_
  refine am_e_iload_n n97_47 rfl ?_
  refine am_e_imul (w := 0) n97_48 (by decide) ?_
  refine am_e_iload_n n97_49 rfl ?_
  refine am_e_iadd (w := 2) n97_50 (by decide) ?_
  refine am_e_iaload (v := 0) (q := 2) n97_51 rfl (by decide) (by decide) ((F66 191 2 rfl).trans ((F65 191 2 rfl).trans ((F64 191 2 rfl).trans ((F63 191 2 rfl).trans ((F62 191 2 rfl).trans ((F61 191 2 rfl).trans ((F60 191 2 rfl).trans ((F59 191 2 rfl).trans ((F58 191 2 rfl).trans ((F57 191 2 rfl).trans ((F56 191 2 rfl).trans ((F55 191 2 rfl).trans ((F54 191 2 rfl).trans ((F53 191 2 rfl).trans ((F52 191 2 rfl).trans ((F51 191 2 rfl).trans ((F50 191 2 rfl).trans ((F49 191 2 rfl).trans ((F48 191 2 rfl).trans (f191_2 (h := h) hT)))))))))))))))))))) ?_
  refine am_e_iastore (q := 6) n97_52 rfl (by decide) (by decide) ?_
  refine am_e_aload_n n97_53 rfl ?_
  refine am_e_getf (v := .ref 192) n97_54 rfl ((F66 164 54 rfl).trans ((F65 164 54 rfl).trans ((F64 164 54 rfl).trans ((F63 164 54 rfl).trans ((F62 164 54 rfl).trans ((F61 164 54 rfl).trans ((F60 164 54 rfl).trans ((F59 164 54 rfl).trans ((F58 164 54 rfl).trans ((F57 164 54 rfl).trans ((F56 164 54 rfl).trans ((F55 164 54 rfl).trans ((F54 164 54 rfl).trans ((F53 164 54 rfl).trans ((F52 164 54 rfl).trans ((F51 164 54 rfl).trans ((F50 164 54 rfl).trans ((F49 164 54 rfl).trans ((F48 164 54 rfl).trans (f164_54 (h := h) hT)))))))))))))))))))) ?_
  refine am_e_iconst (w := 4) n97_55 rfl ?_
  refine am_e_iload_n n97_56 rfl ?_
  refine am_e_imul (w := 4) n97_57 (by decide) ?_
  refine am_e_iload_n n97_58 rfl ?_
  refine am_e_iadd (w := 6) n97_59 (by decide) ?_
  refine am_e_aload_n n97_60 rfl ?_
  refine am_e_getf (v := .ref 192) n97_61 rfl ((F66 164 54 rfl).trans ((F65 164 54 rfl).trans ((F64 164 54 rfl).trans ((F63 164 54 rfl).trans ((F62 164 54 rfl).trans ((F61 164 54 rfl).trans ((F60 164 54 rfl).trans ((F59 164 54 rfl).trans ((F58 164 54 rfl).trans ((F57 164 54 rfl).trans ((F56 164 54 rfl).trans ((F55 164 54 rfl).trans ((F54 164 54 rfl).trans ((F53 164 54 rfl).trans ((F52 164 54 rfl).trans ((F51 164 54 rfl).trans ((F50 164 54 rfl).trans ((F49 164 54 rfl).trans ((F48 164 54 rfl).trans (f164_54 (h := h) hT)))))))))))))))))))) ?_
  refine am_e_iconst (w := 4) n97_62 rfl ?_
  refine am_e_iload_n n97_63 rfl ?_
  refine am_e_imul (w := 0) n97_64 (by decide) ?_
  refine am_e_iload_n n97_65 rfl ?_
  refine am_e_iadd (w := 2) n97_66 (by decide) ?_
  refine am_e_iaload (v := 0) (q := 2) n97_67 rfl (by decide) (by decide) ((F66 192 2 rfl).trans ((F65 192 2 rfl).trans ((F64 192 2 rfl).trans ((F63 192 2 rfl).trans ((F62 192 2 rfl).trans ((F61 192 2 rfl).trans ((F60 192 2 rfl).trans ((F59 192 2 rfl).trans ((F58 192 2 rfl).trans ((F57 192 2 rfl).trans ((F56 192 2 rfl).trans ((F55 192 2 rfl).trans ((F54 192 2 rfl).trans ((F53 192 2 rfl).trans ((F52 192 2 rfl).trans ((F51 192 2 rfl).trans ((F50 192 2 rfl).trans ((F49 192 2 rfl).trans ((F48 192 2 rfl).trans (f192_2 (h := h) hT)))))))))))))))))))) ?_
  refine am_e_iastore (q := 6) n97_68 rfl (by decide) (by decide) ?_
  refine am_e_aload_n n97_69 rfl ?_
  refine am_e_getf (v := .ref 193) n97_70 rfl ((F66 164 55 rfl).trans ((F65 164 55 rfl).trans ((F64 164 55 rfl).trans ((F63 164 55 rfl).trans ((F62 164 55 rfl).trans ((F61 164 55 rfl).trans ((F60 164 55 rfl).trans ((F59 164 55 rfl).trans ((F58 164 55 rfl).trans ((F57 164 55 rfl).trans ((F56 164 55 rfl).trans ((F55 164 55 rfl).trans ((F54 164 55 rfl).trans ((F53 164 55 rfl).trans ((F52 164 55 rfl).trans ((F51 164 55 rfl).trans ((F50 164 55 rfl).trans ((F49 164 55 rfl).trans ((F48 164 55 rfl).trans (f164_55 (h := h) hT)))))))))))))))))))) ?_
  refine am_e_iconst (w := 4) n97_71 rfl ?_
  refine am_e_iload_n n97_72 rfl ?_
  refine am_e_imul (w := 4) n97_73 (by decide) ?_
  refine am_e_iload_n n97_74 rfl ?_
  refine am_e_iadd (w := 6) n97_75 (by decide) ?_
  refine am_e_aload_n n97_76 rfl ?_
  refine am_e_getf (v := .ref 193) n97_77 rfl ((F66 164 55 rfl).trans ((F65 164 55 rfl).trans ((F64 164 55 rfl).trans ((F63 164 55 rfl).trans ((F62 164 55 rfl).trans ((F61 164 55 rfl).trans ((F60 164 55 rfl).trans ((F59 164 55 rfl).trans ((F58 164 55 rfl).trans ((F57 164 55 rfl).trans ((F56 164 55 rfl).trans ((F55 164 55 rfl).trans ((F54 164 55 rfl).trans ((F53 164 55 rfl).trans ((F52 164 55 rfl).trans ((F51 164 55 rfl).trans ((F50 164 55 rfl).trans ((F49 164 55 rfl).trans ((F48 164 55 rfl).trans (f164_55 (h := h) hT)))))))))))))))))))) ?_
  refine am_e_iconst (w := 4) n97_78 rfl ?_
  refine am_e_iload_n n97_79 rfl ?_
  refine am_e_imul (w := 0) n97_80 (by decide) ?_
  refine am_e_iload_n n97_81 rfl ?_
  refine am_e_iadd (w := 2) n97_82 (by decide) ?_
  refine am_e_iaload (v := 0) (q := 2) n97_83 rfl (by decide) (by decide) ((F66 193 2 rfl).trans ((F65 193 2 rfl).trans ((F64 193 2 rfl).trans ((F63 193 2 rfl).trans ((F62 193 2 rfl).trans ((F61 193 2 rfl).trans ((F60 193 2 rfl).trans ((F59 193 2 rfl).trans ((F58 193 2 rfl).trans ((F57 193 2 rfl).trans ((F56 193 2 rfl).trans ((F55 193 2 rfl).trans ((F54 193 2 rfl).trans ((F53 193 2 rfl).trans ((F52 193 2 rfl).trans ((F51 193 2 rfl).trans ((F50 193 2 rfl).trans ((F49 193 2 rfl).trans ((F48 193 2 rfl).trans (f193_2 (h := h) hT)))))))))))))))))))) ?_
  refine am_e_iastore (q := 6) n97_84 rfl (by decide) (by decide) ?_
  refine am_e_iinc (w := 3) (ls' := [(3, .int 3), (0, .ref 164), (1, .int 1), (2, .int 0)]) n97_85 rfl rfl (by decide) rfl ?_
  refine am_e_goto c97_86 t97_86 ?_
  refine am_e_iload_n n97_34 rfl ?_
  refine am_e_iconst (w := 4) n97_35 rfl ?_
  refine am_e_cmpF n97_36 (am_c_geF (by decide)) ?_
  refine am_e_aload_n n97_37 rfl ?_
  refine am_e_getf (v := .ref 191) n97_38 rfl ((F66 164 53 rfl).trans ((F65 164 53 rfl).trans ((F64 164 53 rfl).trans ((F63 164 53 rfl).trans ((F62 164 53 rfl).trans ((F61 164 53 rfl).trans ((F60 164 53 rfl).trans ((F59 164 53 rfl).trans ((F58 164 53 rfl).trans ((F57 164 53 rfl).trans ((F56 164 53 rfl).trans ((F55 164 53 rfl).trans ((F54 164 53 rfl).trans ((F53 164 53 rfl).trans ((F52 164 53 rfl).trans ((F51 164 53 rfl).trans ((F50 164 53 rfl).trans ((F49 164 53 rfl).trans ((F48 164 53 rfl).trans (f164_53 (h := h) hT)))))))))))))))))))) ?_
  refine am_e_iconst (w := 4) n97_39 rfl ?_
  refine am_e_iload_n n97_40 rfl ?_
  refine am_e_imul (w := 4) n97_41 (by decide) ?_
  refine am_e_iload_n n97_42 rfl ?_
  refine am_e_iadd (w := 7) n97_43 (by decide) ?_
  refine am_e_aload_n n97_44 rfl ?_
  refine am_e_getf (v := .ref 191) n97_45 rfl ((F66 164 53 rfl).trans ((F65 164 53 rfl).trans ((F64 164 53 rfl).trans ((F63 164 53 rfl).trans ((F62 164 53 rfl).trans ((F61 164 53 rfl).trans ((F60 164 53 rfl).trans ((F59 164 53 rfl).trans ((F58 164 53 rfl).trans ((F57 164 53 rfl).trans ((F56 164 53 rfl).trans ((F55 164 53 rfl).trans ((F54 164 53 rfl).trans ((F53 164 53 rfl).trans ((F52 164 53 rfl).trans ((F51 164 53 rfl).trans ((F50 164 53 rfl).trans ((F49 164 53 rfl).trans ((F48 164 53 rfl).trans (f164_53 (h := h) hT)))))))))))))))))))) ?_
  refine am_e_iconst (w := 4) n97_46 rfl ?_
  refine am_e_iload_n n97_47 rfl ?_
  refine am_e_imul (w := 0) n97_48 (by decide) ?_
  refine am_e_iload_n n97_49 rfl ?_
  refine am_e_iadd (w := 3) n97_50 (by decide) ?_
  refine am_e_iaload (v := 0) (q := 3) n97_51 rfl (by decide) (by decide) ((F66 191 3 rfl).trans ((F65 191 3 rfl).trans ((F64 191 3 rfl).trans ((F63 191 3 rfl).trans ((F62 191 3 rfl).trans ((F61 191 3 rfl).trans ((F60 191 3 rfl).trans ((F59 191 3 rfl).trans ((F58 191 3 rfl).trans ((F57 191 3 rfl).trans ((F56 191 3 rfl).trans ((F55 191 3 rfl).trans ((F54 191 3 rfl).trans ((F53 191 3 rfl).trans ((F52 191 3 rfl).trans ((F51 191 3 rfl).trans ((F50 191 3 rfl).trans ((F49 191 3 rfl).trans ((F48 191 3 rfl).trans (f191_3 (h := h) hT)))))))))))))))))))) ?_
  refine am_e_iastore (q := 7) n97_52 rfl (by decide) (by decide) ?_
  refine am_e_aload_n n97_53 rfl ?_
  refine am_e_getf (v := .ref 192) n97_54 rfl ((F66 164 54 rfl).trans ((F65 164 54 rfl).trans ((F64 164 54 rfl).trans ((F63 164 54 rfl).trans ((F62 164 54 rfl).trans ((F61 164 54 rfl).trans ((F60 164 54 rfl).trans ((F59 164 54 rfl).trans ((F58 164 54 rfl).trans ((F57 164 54 rfl).trans ((F56 164 54 rfl).trans ((F55 164 54 rfl).trans ((F54 164 54 rfl).trans ((F53 164 54 rfl).trans ((F52 164 54 rfl).trans ((F51 164 54 rfl).trans ((F50 164 54 rfl).trans ((F49 164 54 rfl).trans ((F48 164 54 rfl).trans (f164_54 (h := h) hT)))))))))))))))))))) ?_
  refine am_e_iconst (w := 4) n97_55 rfl ?_
  refine am_e_iload_n n97_56 rfl ?_
  refine am_e_imul (w := 4) n97_57 (by decide) ?_
  refine am_e_iload_n n97_58 rfl ?_
  refine am_e_iadd (w := 7) n97_59 (by decide) ?_
  refine am_e_aload_n n97_60 rfl ?_
  refine am_e_getf (v := .ref 192) n97_61 rfl ((F66 164 54 rfl).trans ((F65 164 54 rfl).trans ((F64 164 54 rfl).trans ((F63 164 54 rfl).trans ((F62 164 54 rfl).trans ((F61 164 54 rfl).trans ((F60 164 54 rfl).trans ((F59 164 54 rfl).trans ((F58 164 54 rfl).trans ((F57 164 54 rfl).trans ((F56 164 54 rfl).trans ((F55 164 54 rfl).trans ((F54 164 54 rfl).trans ((F53 164 54 rfl).trans ((F52 164 54 rfl).trans ((F51 164 54 rfl).trans ((F50 164 54 rfl).trans ((F49 164 54 rfl).trans ((F48 164 54 rfl).trans (f164_54 (h := h) hT)))))))))))))))))))) ?_
  refine am_e_iconst (w := 4) n97_62 rfl ?_
  refine am_e_iload_n n97_63 rfl ?_
  refine am_e_imul (w := 0) n97_64 (by decide) ?_
  refine am_e_iload_n n97_65 rfl ?_
  refine am_e_iadd (w := 3) n97_66 (by decide) ?_
  refine am_e_iaload (v := 0) (q := 3) n97_67 rfl (by decide) (by decide) ((F66 192 3 rfl).trans ((F65 192 3 rfl).trans ((F64 192 3 rfl).trans ((F63 192 3 rfl).trans ((F62 192 3 rfl).trans ((F61 192 3 rfl).trans ((F60 192 3 rfl).trans ((F59 192 3 rfl).trans ((F58 192 3 rfl).trans ((F57 192 3 rfl).trans ((F56 192 3 rfl).trans ((F55 192 3 rfl).trans ((F54 192 3 rfl).trans ((F53 192 3 rfl).trans ((F52 192 3 rfl).trans ((F51 192 3 rfl).trans ((F50 192 3 rfl).trans ((F49 192 3 rfl).trans ((F48 192 3 rfl).trans (f192_3 (h := h) hT)))))))))))))))))))) ?_
  refine am_e_iastore (q := 7) n97_68 rfl (by decide) (by decide) ?_
  refine am_e_aload_n n97_69 rfl ?_
  refine am_e_getf (v := .ref 193) n97_70 rfl ((F66 164 55 rfl).trans ((F65 164 55 rfl).trans ((F64 164 55 rfl).trans ((F63 164 55 rfl).trans ((F62 164 55 rfl).trans ((F61 164 55 rfl).trans ((F60 164 55 rfl).trans ((F59 164 55 rfl).trans ((F58 164 55 rfl).trans ((F57 164 55 rfl).trans ((F56 164 55 rfl).trans ((F55 164 55 rfl).trans ((F54 164 55 rfl).trans ((F53 164 55 rfl).trans ((F52 164 55 rfl).trans ((F51 164 55 rfl).trans ((F50 164 55 rfl).trans ((F49 164 55 rfl).trans ((F48 164 55 rfl).trans (f164_55 (h := h) hT)))))))))))))))))))) ?_
  refine am_e_iconst (w := 4) n97_71 rfl ?_
  refine am_e_iload_n n97_72 rfl ?_
  refine am_e_imul (w := 4) n97_73 (by decide) ?_
  refine am_e_iload_n n97_74 rfl ?_
  refine am_e_iadd (w := 7) n97_75 (by decide) ?_
  refine am_e_aload_n n97_76 rfl ?_
  refine am_e_getf (v := .ref 193) n97_77 rfl ((F66 164 55 rfl).trans ((F65 164 55 rfl).trans ((F64 164 55 rfl).trans ((F63 164 55 rfl).trans ((F62 164 55 rfl).trans ((F61 164 55 rfl).trans ((F60 164 55 rfl).trans ((F59 164 55 rfl).trans ((F58 164 55 rfl).trans ((F57 164 55 rfl).trans ((F56 164 55 rfl).trans ((F55 164 55 rfl).trans ((F54 164 55 rfl).trans ((F53 164 55 rfl).trans ((F52 164 55 rfl).trans ((F51 164 55 rfl).trans ((F50 164 55 rfl).trans ((F49 164 55 rfl).trans ((F48 164 55 rfl).trans (f164_55 (h := h) hT)))))))))))))))))))) ?_
  refine am_e_iconst (w := 4) n97_78 rfl ?_
  refine am_e_iload_n n97_79 rfl ?_
  refine am_e_imul (w := 0) n97_80 (by decide) ?_
  refine am_e_iload_n n97_81 rfl ?_
  refine am_e_iadd (w := 3) n97_82 (by decide) ?_
  refine am_e_iaload (v := 0) (q := 3) n97_83 rfl (by decide) (by decide) ((F66 193 3 rfl).trans ((F65 193 3 rfl).trans ((F64 193 3 rfl).trans ((F63 193 3 rfl).trans ((F62 193 3 rfl).trans ((F61 193 3 rfl).trans ((F60 193 3 rfl).trans ((F59 193 3 rfl).trans ((F58 193 3 rfl).trans ((F57 193 3 rfl).trans ((F56 193 3 rfl).trans ((F55 193 3 rfl).trans ((F54 193 3 rfl).trans ((F53 193 3 rfl).trans ((F52 193 3 rfl).trans ((F51 193 3 rfl).trans ((F50 193 3 rfl).trans ((F49 193 3 rfl).trans ((F48 193 3 rfl).trans (f193_3 (h := h) hT)))))))))))))))))))) ?_
  refine am_e_iastore (q := 7) n97_84 rfl (by decide) (by decide) ?_
  refine am_e_iinc (w := 4) (ls' := [(3, .int 4), (0, .ref 164), (1, .int 1), (2, .int 0)]) n97_85 rfl rfl (by decide) rfl ?_
  refine am_e_goto c97_86 t97_86 ?_
  refine am_e_iload_n n97_34 rfl ?_
  refine am_e_iconst (w := 4) n97_35 rfl ?_
  refine am_e_cmpT n97_36 (am_c_geT (by decide)) t97_36 ?_
  refine am_e_vret c97_87 rfl rfl ?_
  refine am_e_iconst (w := 0) n127_35 rfl ?_
  refine am_e_istore (ls' := [(8, .int 0), (7, .int 9), (6, .int 0), (0, .ref 164), (2, .int (nI n)), (3, .int (nI b)), (4, .long 0)]) n127_36 rfl rfl ?_
  refine am_Ek_ls (ls' := [(0, .ref 164), (2, .int (nI n)), (3, .int (nI b)), (4, .long 0), (6, .int 0), (7, .int 9), (8, .int (nI 0))]) ⟨rfl, rfl, rfl, rfl, rfl, rfl, rfl, trivial⟩ ?_
  refine am_cm_e (n := n) (b := b) (s := 0) (t := 0) (i7 := 9) (dr := dr66) (by omega) (by omega) ⟨((F66 164 23 rfl).trans ((F65 164 23 rfl).trans ((F64 164 23 rfl).trans ((F63 164 23 rfl).trans ((F62 164 23 rfl).trans ((F61 164 23 rfl).trans ((F60 164 23 rfl).trans ((F59 164 23 rfl).trans ((F58 164 23 rfl).trans ((F57 164 23 rfl).trans ((F56 164 23 rfl).trans ((F55 164 23 rfl).trans ((F54 164 23 rfl).trans ((F53 164 23 rfl).trans ((F52 164 23 rfl).trans ((F51 164 23 rfl).trans ((F50 164 23 rfl).trans ((F49 164 23 rfl).trans ((F48 164 23 rfl).trans (f164_23 (h := h) hT)))))))))))))))))))), ((F66 168 4 rfl).trans ((F65 168 4 rfl).trans ((F64 168 4 rfl).trans ((F63 168 4 rfl).trans ((F62 168 4 rfl).trans ((F61 168 4 rfl).trans ((F60 168 4 rfl).trans ((F59 168 4 rfl).trans ((F58 168 4 rfl).trans ((F57 168 4 rfl).trans ((F56 168 4 rfl).trans ((F55 168 4 rfl).trans ((F54 168 4 rfl).trans ((F53 168 4 rfl).trans ((F52 168 4 rfl).trans ((F51 168 4 rfl).trans ((F50 168 4 rfl).trans ((F49 168 4 rfl).trans ((F48 168 4 rfl).trans (f168_4 (h := h) hT)))))))))))))))))))), ((F66 164 50 rfl).trans ((F65 164 50 rfl).trans ((F64 164 50 rfl).trans ((F63 164 50 rfl).trans ((F62 164 50 rfl).trans ((F61 164 50 rfl).trans ((F60 164 50 rfl).trans ((F59 164 50 rfl).trans ((F58 164 50 rfl).trans ((F57 164 50 rfl).trans ((F56 164 50 rfl).trans ((F55 164 50 rfl).trans ((F54 164 50 rfl).trans ((F53 164 50 rfl).trans ((F52 164 50 rfl).trans ((F51 164 50 rfl).trans ((F50 164 50 rfl).trans ((F49 164 50 rfl).trans ((F48 164 50 rfl).trans (f164_50 (h := h) hT)))))))))))))))))))), ((F66 164 61 rfl).trans ((F65 164 61 rfl).trans ((F64 164 61 rfl).trans ((F63 164 61 rfl).trans ((F62 164 61 rfl).trans ((F61 164 61 rfl).trans ((F60 164 61 rfl).trans ((F59 164 61 rfl).trans ((F58 164 61 rfl).trans ((F57 164 61 rfl).trans ((F56 164 61 rfl).trans ((F55 164 61 rfl).trans ((F54 164 61 rfl).trans ((F53 164 61 rfl).trans ((F52 164 61 rfl).trans ((F51 164 61 rfl).trans ((F50 164 61 rfl).trans ((F49 164 61 rfl).trans ((F48 164 61 rfl).trans (f164_61 (h := h) hT)))))))))))))))))))), ((F66 164 47 rfl).trans ((F65 164 47 rfl).trans ((F64 164 47 rfl).trans ((F63 164 47 rfl).trans ((F62 164 47 rfl).trans ((F61 164 47 rfl).trans ((F60 164 47 rfl).trans ((F59 164 47 rfl).trans ((F58 164 47 rfl).trans ((F57 164 47 rfl).trans ((F56 164 47 rfl).trans ((F55 164 47 rfl).trans ((F54 164 47 rfl).trans ((F53 164 47 rfl).trans ((F52 164 47 rfl).trans ((F51 164 47 rfl).trans ((F50 164 47 rfl).trans ((F49 164 47 rfl).trans ((F48 164 47 rfl).trans (f164_47 (h := h) hT)))))))))))))))))))), ((F66 168 0 rfl).trans ((F65 168 0 rfl).trans ((F64 168 0 rfl).trans ((F63 168 0 rfl).trans ((F62 168 0 rfl).trans ((F61 168 0 rfl).trans ((F60 168 0 rfl).trans ((F59 168 0 rfl).trans ((F58 168 0 rfl).trans ((F57 168 0 rfl).trans ((F56 168 0 rfl).trans ((F55 168 0 rfl).trans ((F54 168 0 rfl).trans ((F53 168 0 rfl).trans ((F52 168 0 rfl).trans ((F51 168 0 rfl).trans ((F50 168 0 rfl).trans ((F49 168 0 rfl).trans ((F48 168 0 rfl).trans (f168_0 (h := h) hT)))))))))))))))))))), ((F66 164 51 rfl).trans ((F65 164 51 rfl).trans ((F64 164 51 rfl).trans ((F63 164 51 rfl).trans ((F62 164 51 rfl).trans ((F61 164 51 rfl).trans ((F60 164 51 rfl).trans ((F59 164 51 rfl).trans ((F58 164 51 rfl).trans ((F57 164 51 rfl).trans ((F56 164 51 rfl).trans ((F55 164 51 rfl).trans ((F54 164 51 rfl).trans ((F53 164 51 rfl).trans ((F52 164 51 rfl).trans ((F51 164 51 rfl).trans ((F50 164 51 rfl).trans ((F49 164 51 rfl).trans ((F48 164 51 rfl).trans (f164_51 (h := h) hT)))))))))))))))))))), ((F66 164 33 rfl).trans ((F65 164 33 rfl).trans ((F64 164 33 rfl).trans ((F63 164 33 rfl).trans ((F62 164 33 rfl).trans ((F61 164 33 rfl).trans ((F60 164 33 rfl).trans ((F59 164 33 rfl).trans ((F58 164 33 rfl).trans ((F57 164 33 rfl).trans ((F56 164 33 rfl).trans ((F55 164 33 rfl).trans ((F54 164 33 rfl).trans ((F53 164 33 rfl).trans ((F52 164 33 rfl).trans ((F51 164 33 rfl).trans ((F50 164 33 rfl).trans ((F49 164 33 rfl).trans ((F48 164 33 rfl).trans (f164_33 (h := h) hT)))))))))))))))))))), ((F66 178 2 rfl).trans ((F65 178 2 rfl).trans ((F64 178 2 rfl).trans ((F63 178 2 rfl).trans ((F62 178 2 rfl).trans ((F61 178 2 rfl).trans ((F60 178 2 rfl).trans ((F59 178 2 rfl).trans ((F58 178 2 rfl).trans ((F57 178 2 rfl).trans ((F56 178 2 rfl).trans ((F55 178 2 rfl).trans ((F54 178 2 rfl).trans ((F53 178 2 rfl).trans ((F52 178 2 rfl).trans ((F51 178 2 rfl).trans ((F50 178 2 rfl).trans ((F49 178 2 rfl).trans ((F48 178 2 rfl).trans (f178_2 (h := h) hT)))))))))))))))))))), ((F66 178 0 rfl).trans ((F65 178 0 rfl).trans ((F64 178 0 rfl).trans ((F63 178 0 rfl).trans ((F62 178 0 rfl).trans ((F61 178 0 rfl).trans ((F60 178 0 rfl).trans ((F59 178 0 rfl).trans ((F58 178 0 rfl).trans ((F57 178 0 rfl).trans ((F56 178 0 rfl).trans ((F55 178 0 rfl).trans ((F54 178 0 rfl).trans ((F53 178 0 rfl).trans ((F52 178 0 rfl).trans ((F51 178 0 rfl).trans ((F50 178 0 rfl).trans ((F49 178 0 rfl).trans ((F48 178 0 rfl).trans (f178_0 (h := h) hT)))))))))))))))))))), ((F66 164 62 rfl).trans ((F65 164 62 rfl).trans ((F64 164 62 rfl).trans ((F63 164 62 rfl).trans ((F62 164 62 rfl).trans ((F61 164 62 rfl).trans ((F60 164 62 rfl).trans ((F59 164 62 rfl).trans ((F58 164 62 rfl).trans ((F57 164 62 rfl).trans ((F56 164 62 rfl).trans ((F55 164 62 rfl).trans ((F54 164 62 rfl).trans ((F53 164 62 rfl).trans ((F52 164 62 rfl).trans ((F51 164 62 rfl).trans ((F50 164 62 rfl).trans ((F49 164 62 rfl).trans ((F48 164 62 rfl).trans (f164_62 (h := h) hT)))))))))))))))))))), ((F66 164 58 rfl).trans ((F65 164 58 rfl).trans ((F64 164 58 rfl).trans ((F63 164 58 rfl).trans ((F62 164 58 rfl).trans ((F61 164 58 rfl).trans ((F60 164 58 rfl).trans ((F59 164 58 rfl).trans ((F58 164 58 rfl).trans ((F57 164 58 rfl).trans ((F56 164 58 rfl).trans ((F55 164 58 rfl).trans ((F54 164 58 rfl).trans ((F53 164 58 rfl).trans ((F52 164 58 rfl).trans ((F51 164 58 rfl).trans ((F50 164 58 rfl).trans ((F49 164 58 rfl).trans ((F48 164 58 rfl).trans (f164_58 (h := h) hT)))))))))))))))))))), ((F66 164 60 rfl).trans ((F65 164 60 rfl).trans ((F64 164 60 rfl).trans ((F63 164 60 rfl).trans ((F62 164 60 rfl).trans ((F61 164 60 rfl).trans ((F60 164 60 rfl).trans ((F59 164 60 rfl).trans ((F58 164 60 rfl).trans ((F57 164 60 rfl).trans ((F56 164 60 rfl).trans ((F55 164 60 rfl).trans ((F54 164 60 rfl).trans ((F53 164 60 rfl).trans ((F52 164 60 rfl).trans ((F51 164 60 rfl).trans ((F50 164 60 rfl).trans ((F49 164 60 rfl).trans ((F48 164 60 rfl).trans (f164_60 (h := h) hT)))))))))))))))))))), trivial⟩ rfl rfl qc66 ?_
  intro h67 dr67 F67 qa67 qb67 qc67
  refine am_e_iload n127_59 rfl ?_
  refine am_e_aload_n n127_60 rfl ?_
  refine am_e_getf (v := .ref 188) n127_61 rfl ((F67 164 50 rfl).trans ((F66 164 50 rfl).trans ((F65 164 50 rfl).trans ((F64 164 50 rfl).trans ((F63 164 50 rfl).trans ((F62 164 50 rfl).trans ((F61 164 50 rfl).trans ((F60 164 50 rfl).trans ((F59 164 50 rfl).trans ((F58 164 50 rfl).trans ((F57 164 50 rfl).trans ((F56 164 50 rfl).trans ((F55 164 50 rfl).trans ((F54 164 50 rfl).trans ((F53 164 50 rfl).trans ((F52 164 50 rfl).trans ((F51 164 50 rfl).trans ((F50 164 50 rfl).trans ((F49 164 50 rfl).trans ((F48 164 50 rfl).trans (f164_50 (h := h) hT))))))))))))))))))))) ?_
  refine am_e_iconst (w := 1) n127_62 rfl ?_
  refine am_e_iaload (v := 0) (q := 1) n127_63 rfl (by decide) (by decide) qa67 ?_
  refine am_e_iload_n n127_64 rfl ?_
  refine am_e_cmpT n127_65 (am_c_ltT (nI_lt (a := 0) hb0 (by omega))) t127_65 ?_
  refine am_e_iconst (w := 0) n127_68 rfl ?_
  refine am_e_iadd (w := 0) n127_69 (by decide) ?_
  refine am_e_istore (ls' := [(6, .int 0), (0, .ref 164), (2, .int (nI n)), (3, .int (nI b)), (4, .long 0), (7, .int 9), (8, .int (nI n))]) n127_70 rfl rfl ?_
  refine am_e_iinc (w := 10) (ls' := [(7, .int 10), (6, .int 0), (0, .ref 164), (2, .int (nI n)), (3, .int (nI b)), (4, .long 0), (8, .int (nI n))]) n127_71 rfl rfl (by decide) rfl ?_
  refine am_e_goto c127_72 t127_72 ?_
  refine am_e_iload n127_28 rfl ?_
  refine am_e_bipush (w := 10) n127_29 (by decide) ?_
  refine am_e_cmpT n127_30 (am_c_geT (by decide)) t127_30 ?_
  refine am_e_aload_n n127_73 rfl ?_
  refine am_e_lload n127_74 rfl ?_
  refine am_e_putf n127_75 rfl rfl ?_
  refine am_e_iload n127_76 rfl ?_
  refine am_e_iret c127_77 rfl rfl rfl ?_
  refine am_e_cmpT n136_763 (am_c_eqT (by decide)) t136_763 ?_
  exact K _
