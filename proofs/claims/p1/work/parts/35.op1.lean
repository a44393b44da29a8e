set_option maxRecDepth 1000000 in
set_option maxHeartbeats 4000000 in
theorem am_op1_0 {lk : List Value → List am_k → am_H → Option am_O} {xs : Nat → Int32} {h : am_H} {Q : Option Value → List am_k → am_H → Prop} {a2 : Int32} {a3 : Int32} {a4 : Int32} {a5 : Int32} (hT : am_T h) (hx1 : xs 1 = 0) (hx2 : xs 2 = a2) (hx3 : xs 3 = a3) (hx4 : xs 4 = a4) (hx5 : xs 5 = a5) (K : ∀ h', am_Ek false (am_P1 (some (6, xs)) lk) am_m136 841 [(4, .int 0), (3, .ref 202), (2, .ref 164), (1, .ref 0), (0, .retAddr 0)] [] am_ks0 h' 203 4392 Q) : am_Ek false (am_P1 (some (6, xs)) lk) am_m136 82 [(4, .int 0), (3, .ref 202), (2, .ref 164), (1, .ref 0), (0, .retAddr 0)] [] am_ks0 h 203 4392 Q := by
  refine am_e_aload_n n136_82 rfl ?_
  refine am_e_sload_n n136_83 rfl ?_
  refine am_e_iload n136_84 rfl ?_
  refine am_e_iconst (w := 1) n136_85 rfl ?_
  refine am_e_iadd (w := 1) n136_86 (by decide) ?_
  refine am_e_sald1 n136_87 rfl (by decide) (by decide) hx1 ?_
  refine am_e_callV (L := [(0, .ref 0), (1, .int 0)]) n136_88 rfl rfl rfl rfl rfl rfl rfl rfl ?_
  refine am_e_iload_n n17_0 rfl ?_
  refine am_e_ifF n17_1 (am_c_ltF (by decide)) ?_
  refine am_e_iload_n n17_2 rfl ?_
  refine am_e_aload_n n17_3 rfl ?_
  refine am_e_getf (v := .int 0) n17_4 rfl (f0_1 (h := h) hT) ?_
  refine am_e_cmpT n17_5 (am_c_leT (by decide)) t17_5 ?_
  refine am_e_aload_n n17_8 rfl ?_
  refine am_e_iconst (w := 0) n17_9 rfl ?_
  refine am_e_putf n17_10 rfl rfl ?_
  refine am_e_aload_n n17_11 rfl ?_
  refine am_e_getf (v := .ref 44) n17_12 rfl (f0_4 (h := h) hT) ?_
  refine am_e_aload_n n17_13 rfl ?_
  refine am_e_getf (v := .ref 1) n17_14 rfl (f0_0 (h := h) hT) ?_
  refine am_e_iload_n n17_15 rfl ?_
  refine am_e_aload_n n17_16 rfl ?_
  refine am_e_getf (v := .ref 23) n17_17 rfl (f0_3 (h := h) hT) ?_
  refine am_e_callV (L := [(0, .ref 44), (1, .ref 1), (2, .int 0), (3, .ref 23)]) n17_18 rfl rfl rfl rfl rfl rfl rfl rfl ?_
  refine am_e_aload_n n18_0 rfl ?_
  refine am_e_aload_n n18_1 rfl ?_
  refine am_e_putf n18_2 rfl rfl ?_
  refine am_e_aload_n n18_3 rfl ?_
  refine am_e_iload_n n18_4 rfl ?_
  refine am_e_putf n18_5 rfl rfl ?_
  refine am_e_aload_n n18_6 rfl ?_
  refine am_e_aload_n n18_7 rfl ?_
  refine am_e_putf n18_8 rfl rfl ?_
  refine am_e_aload_n n18_9 rfl ?_
  refine am_e_getf (v := .ref 23) n18_10 rfl rfl ?_
  refine am_e_callV (L := [(0, .ref 23)]) n18_11 rfl rfl rfl rfl rfl rfl rfl rfl ?_
  refine am_e_aload_n n4_0 rfl ?_
  refine am_e_sipush (w := 500) n4_1 (by decide) ?_
  refine am_e_putf n4_2 rfl rfl ?_
  refine am_e_aload_n n4_3 rfl ?_
  refine am_e_iconst (w := 0) n4_4 rfl ?_
  refine am_e_putf n4_5 rfl rfl ?_
  refine am_e_aload_n n4_6 rfl ?_
  refine am_e_iconst (w := 0) n4_7 rfl ?_
  refine am_e_putf n4_8 rfl rfl ?_
  refine am_e_aload_n n4_9 rfl ?_
  refine am_e_iconst (w := 0) n4_10 rfl ?_
  refine am_e_putf n4_11 rfl rfl ?_
  refine am_e_aload_n n4_12 rfl ?_
  refine am_e_iconst (w := 0) n4_13 rfl ?_
  refine am_e_putf n4_14 rfl rfl ?_
  refine am_e_aload_n n4_15 rfl ?_
  refine am_e_iconst (w := 0) n4_16 rfl ?_
  refine am_e_putf n4_17 rfl rfl ?_
  refine am_e_aload_n n4_18 rfl ?_
  refine am_e_iconst (w := 0) n4_19 rfl ?_
  refine am_e_putf n4_20 rfl rfl ?_
  refine am_e_aload_n n4_21 rfl ?_
  refine am_e_iconst (w := 0) n4_22 rfl ?_
  refine am_e_putf n4_23 rfl rfl ?_
  refine am_e_aload_n n4_24 rfl ?_
  refine am_e_iconst (w := 0) n4_25 rfl ?_
  refine am_e_putf n4_26 rfl rfl ?_
  refine am_e_aload_n n4_27 rfl ?_
  refine am_e_iconst (w := 0) n4_28 rfl ?_
  refine am_e_putf n4_29 rfl rfl ?_
  refine am_e_aload_n n4_30 rfl ?_
  refine am_e_iconst (w := (-1)) n4_31 rfl ?_
  refine am_e_putf n4_32 rfl rfl ?_
  refine am_e_aload_n n4_33 rfl ?_
  refine am_e_getf (v := .ref 32) n4_34 rfl (f23_19 (h := h) hT) ?_
  refine am_e_callV (L := [(0, .ref 32)]) n4_35 rfl rfl rfl rfl rfl rfl rfl rfl ?_
  refine am_e_aload_n n5_0 rfl ?_
  refine am_e_iconst (w := 0) n5_1 rfl ?_
  refine am_e_putf n5_2 rfl rfl ?_
  refine am_e_aload_n n5_3 rfl ?_
  refine am_e_iconst (w := 0) n5_4 rfl ?_
  refine am_e_putf n5_5 rfl rfl ?_
  refine am_e_iconst (w := 0) n5_6 rfl ?_
  refine am_e_istore_n (ls' := [(1, .int 0), (0, .ref 32)]) n5_7 rfl rfl ?_
  refine am_e_iload_n n5_8 rfl ?_
  refine am_e_iconst (w := 2) n5_9 rfl ?_
  refine am_e_cmpF n5_10 (am_c_gtF (by decide)) ?_
  refine am_e_aload_n n5_11 rfl ?_
  refine am_e_getf (v := .ref 35) n5_12 rfl (f32_4 (h := h) hT) ?_
  refine am_e_iload_n n5_13 rfl ?_
  refine am_e_iconst (w := 0) n5_14 rfl ?_
  refine am_e_iastore (q := 0) n5_15 rfl (by decide) (by decide) ?_
  refine am_e_aload_n n5_16 rfl ?_
  refine am_e_getf (v := .ref 36) n5_17 rfl (f32_5 (h := h) hT) ?_
  refine am_e_iload_n n5_18 rfl ?_
  refine am_e_iconst (w := 0) n5_19 rfl ?_
  refine am_e_iastore (q := 0) n5_20 rfl (by decide) (by decide) ?_
  refine am_e_aload_n n5_21 rfl ?_
  refine am_e_getf (v := .ref 37) n5_22 rfl (f32_6 (h := h) hT) ?_
  refine am_e_iload_n n5_23 rfl ?_
  refine am_e_iconst (w := 0) n5_24 rfl ?_
  refine am_e_bastore (q := 0) n5_25 rfl rfl (by decide) (by decide) ?_
  refine am_e_iinc (w := 1) (ls' := [(1, .int 1), (0, .ref 32)]) n5_26 rfl rfl (by decide) rfl ?_
  refine am_e_goto c5_27 t5_27 ?_
  refine am_e_iload_n n5_8 rfl ?_
  refine am_e_iconst (w := 2) n5_9 rfl ?_
  refine am_e_cmpF n5_10 (am_c_gtF (by decide)) ?_
  refine am_e_aload_n n5_11 rfl ?_
  refine am_e_getf (v := .ref 35) n5_12 rfl (f32_4 (h := h) hT) ?_
  refine am_e_iload_n n5_13 rfl ?_
  refine am_e_iconst (w := 0) n5_14 rfl ?_
  refine am_e_iastore (q := 1) n5_15 rfl (by decide) (by decide) ?_
  refine am_e_aload_n n5_16 rfl ?_
  refine am_e_getf (v := .ref 36) n5_17 rfl (f32_5 (h := h) hT) ?_
  refine am_e_iload_n n5_18 rfl ?_
  refine am_e_iconst (w := 0) n5_19 rfl ?_
  refine am_e_iastore (q := 1) n5_20 rfl (by decide) (by decide) ?_
  refine am_e_aload_n n5_21 rfl ?_
  refine am_e_getf (v := .ref 37) n5_22 rfl (f32_6 (h := h) hT) ?_
  refine am_e_iload_n n5_23 rfl ?_
  refine am_e_iconst (w := 0) n5_24 rfl ?_
  refine am_e_bastore (q := 1) n5_25 rfl rfl (by decide) (by decide) ?_
  refine am_e_iinc (w := 2) (ls' := [(1, .int 2), (0, .ref 32)]) n5_26 rfl rfl (by decide) rfl ?_
  refine am_e_goto c5_27 t5_27 ?_
  refine am_e_iload_n n5_8 rfl ?_
  refine am_e_iconst (w := 2) n5_9 rfl ?_
  refine am_e_cmpF n5_10 (am_c_gtF (by decide)) ?_
  refine am_e_aload_n n5_11 rfl ?_
  refine am_e_getf (v := .ref 35) n5_12 rfl (f32_4 (h := h) hT) ?_
  refine am_e_iload_n n5_13 rfl ?_
  refine am_e_iconst (w := 0) n5_14 rfl ?_
  refine am_e_iastore (q := 2) n5_15 rfl (by decide) (by decide) ?_
  refine am_e_aload_n n5_16 rfl ?_
  refine am_e_getf (v := .ref 36) n5_17 rfl (f32_5 (h := h) hT) ?_
  refine am_e_iload_n n5_18 rfl ?_
  refine am_e_iconst (w := 0) n5_19 rfl ?_
  refine am_e_iastore (q := 2) n5_20 rfl (by decide) (by decide) ?_
  refine am_e_aload_n n5_21 rfl ?_
  refine am_e_getf (v := .ref 37) n5_22 rfl (f32_6 (h := h) hT) ?_
  refine am_e_iload_n n5_23 rfl ?_
  refine am_e_iconst (w := 0) n5_24 rfl ?_
  refine am_e_bastore (q := 2) n5_25 rfl rfl (by decide) (by decide) ?_
  refine am_e_iinc (w := 3) (ls' := [(1, .int 3), (0, .ref 32)]) n5_26 rfl rfl (by decide) rfl ?_
  refine am_e_goto c5_27 t5_27 ?_
  refine am_e_iload_n n5_8 rfl ?_
  refine am_e_iconst (w := 2) n5_9 rfl ?_
  refine am_e_cmpT n5_10 (am_c_gtT (by decide)) t5_10 ?_
  refine am_e_vret c5_28 rfl rfl ?_
  refine am_e_vret c4_36 rfl rfl ?_
  refine am_e_aload_n n18_12 rfl ?_
  refine am_e_iconst (w := 0) n18_13 rfl ?_
  refine am_e_putf n18_14 rfl rfl ?_
  refine am_e_aload_n n18_15 rfl ?_
  refine am_e_iconst (w := 0) n18_16 rfl ?_
  refine am_e_putf n18_17 rfl rfl ?_
  refine am_e_aload_n n18_18 rfl ?_
  refine am_e_iconst (w := 0) n18_19 rfl ?_
  refine am_e_putf n18_20 rfl rfl ?_
  refine am_e_aload_n n18_21 rfl ?_
  refine am_e_iconst (w := (-1)) n18_22 rfl ?_
  refine am_e_putf n18_23 rfl rfl ?_
  refine am_e_aload_n n18_24 rfl ?_
  refine am_e_iconst (w := 0) n18_25 rfl ?_
  refine am_e_putf n18_26 rfl rfl ?_
  refine am_e_aload_n n18_27 rfl ?_
  refine am_e_callV (L := [(0, .ref 44)]) n18_28 rfl rfl rfl rfl rfl rfl rfl rfl ?_
  refine am_e_aload_n n19_0 rfl ?_
  refine am_e_getf (v := .int 0) n19_1 rfl rfl ?_
  refine am_e_aload_n n19_2 rfl ?_
  refine am_e_getf (v := .int 0) n19_3 rfl rfl ?_
  refine am_e_cmpT n19_4 (am_c_geT (by decide)) t19_4 ?_
  refine am_e_aload_n n19_26 rfl ?_
  refine am_e_aload_n n19_27 rfl ?_
  refine am_e_getf (v := .int 0) n19_28 rfl rfl ?_
  refine am_e_putf n19_29 rfl rfl ?_
  refine am_e_aload_n n19_30 rfl ?_
  refine am_e_getf (v := .int 0) n19_31 rfl rfl ?_
  refine am_e_aload_n n19_32 rfl ?_
  refine am_e_getf (v := .int 0) n19_33 rfl rfl ?_
  refine am_e_cmpF n19_34 (am_c_ltF (by decide)) ?_
  refine am_e_aload_n n19_35 rfl ?_
  refine am_e_iconst (w := 0) n19_36 rfl ?_
  refine am_e_putf n19_37 rfl rfl ?_
  refine am_e_goto c19_38 t19_38 ?_
  refine am_e_vret c19_61 rfl rfl ?_
  refine am_e_iconst (w := 0) n18_29 rfl ?_
  refine am_e_istore (ls' := [(4, .int 0), (0, .ref 44), (1, .ref 1), (2, .int 0), (3, .ref 23)]) n18_30 rfl rfl ?_
  refine am_e_iload n18_31 rfl ?_
  refine am_e_aload_n n18_32 rfl ?_
  refine am_e_getf (v := .int 0) n18_33 rfl rfl ?_
  refine am_e_cmpT n18_34 (am_c_geT (by decide)) t18_34 ?_
  refine am_e_aload_n n18_47 rfl ?_
  refine am_e_getf (v := .int 0) n18_48 rfl rfl ?_
  refine am_e_ifF n18_49 (am_c_neF (by decide)) ?_
  refine am_e_aload_n n18_50 rfl ?_
  refine am_e_getf (v := .ref 23) n18_51 rfl rfl ?_
  refine am_e_callV (L := [(0, .ref 23)]) n18_52 rfl rfl rfl rfl rfl rfl rfl rfl ?_
  refine am_e_iconst (w := 0) n22_0 rfl ?_
  refine am_e_istore_n (ls' := [(1, .int 0), (0, .ref 23)]) n22_1 rfl rfl ?_
  refine am_e_iconst (w := 0) n22_2 rfl ?_
  refine am_e_istore_n (ls' := [(2, .int 0), (1, .int 0), (0, .ref 23)]) n22_3 rfl rfl ?_
  refine am_e_iload_n n22_4 rfl ?_
  refine am_e_aload_n n22_5 rfl ?_
  refine am_e_getf (v := .int 0) n22_6 rfl rfl ?_
  refine am_e_cmpT n22_7 (am_c_geT (by decide)) t22_7 ?_
  refine am_e_aload_n n22_17 rfl ?_
  refine am_e_iconst (w := (-1)) n22_18 rfl ?_
  refine am_e_putf n22_19 rfl rfl ?_
  refine am_e_iload_n n22_20 rfl ?_
  refine am_e_ifF n22_21 (am_c_neF (by decide)) ?_
  refine am_e_vret c22_22 rfl rfl ?_
  refine am_e_aload_n n18_53 rfl ?_
  refine am_e_getf (v := .int 0) n18_54 rfl rfl ?_
  refine am_e_ifF n18_55 (am_c_neF (by decide)) ?_
  refine am_e_iconst (w := 1) n18_56 rfl ?_
  refine am_e_goto c18_57 t18_57 ?_
  refine am_e_iret c18_59 rfl rfl rfl ?_
  refine am_e_ifT n17_19 (am_c_neT (by decide)) t17_19 ?_
  refine am_e_aload_n n17_22 rfl ?_
  refine am_e_getf (v := .ref 23) n17_23 rfl (f0_3 (h := h) hT) ?_
  refine am_e_astore_n (ls' := [(2, .ref 23), (0, .ref 0), (1, .int 0)]) n17_24 rfl rfl ?_
  refine am_e_aload_n n17_25 rfl ?_
  refine am_e_aload_n n17_26 rfl ?_
  refine am_e_getf (v := .ref 2) n17_27 rfl (f0_2 (h := h) hT) ?_
  refine am_e_putf n17_28 rfl rfl ?_
  refine am_e_aload_n n17_29 rfl ?_
  refine am_e_aload_n n17_30 rfl ?_
  refine am_e_putf n17_31 rfl rfl ?_
  refine am_e_aload_n n17_32 rfl ?_
  refine am_e_getf (v := .ref 48) n17_33 rfl (f0_5 (h := h) hT) ?_
  refine am_e_aload_n n17_34 rfl ?_
  refine am_e_getf (v := .ref 23) n17_35 rfl rfl ?_
  refine am_e_callV (L := [(0, .ref 48), (1, .ref 23)]) n17_36 rfl rfl rfl rfl rfl rfl rfl rfl ?_
  refine am_e_aload_n n14_0 rfl ?_
  refine am_e_aload_n n14_1 rfl ?_
  refine am_e_getf (v := .int 0) n14_2 rfl rfl ?_
  refine am_e_putf n14_3 rfl rfl ?_
  refine am_e_aload_n n14_4 rfl ?_
  refine am_e_iconst (w := 0) n14_5 rfl ?_
  refine am_e_putf n14_6 rfl rfl ?_
  refine am_e_aload_n n14_7 rfl ?_
  refine am_e_iconst (w := (-1)) n14_8 rfl ?_
  refine am_e_putf n14_9 rfl rfl ?_
  refine am_e_aload_n n14_10 rfl ?_
  refine am_e_aload_n n14_11 rfl ?_
  refine am_e_getf (v := .int 0) n14_12 rfl rfl ?_
  refine am_e_putf n14_13 rfl rfl ?_
  refine am_e_aload_n n14_14 rfl ?_
  refine am_e_iconst (w := 0) n14_15 rfl ?_
  refine am_e_putf n14_16 rfl rfl ?_
  refine am_e_iconst (w := 0) n14_17 rfl ?_
  refine am_e_istore_n (ls' := [(2, .int 0), (0, .ref 48), (1, .ref 23)]) n14_18 rfl rfl ?_
  refine am_e_iload_n n14_19 rfl ?_
  refine am_e_iconst (w := 4) n14_20 rfl ?_
  refine am_e_cmpF n14_21 (am_c_geF (by decide)) ?_
  refine am_e_aload_n n14_22 rfl ?_
  refine am_e_getf (v := .ref 49) n14_23 rfl (f48_5 (h := h) hT) ?_
  refine am_e_iload_n n14_24 rfl ?_
  refine am_e_iconst (w := 0) n14_25 rfl ?_
  refine am_e_iastore (q := 0) n14_26 rfl (by decide) (by decide) ?_
  refine am_e_aload_n n14_27 rfl ?_
  refine am_e_getf (v := .ref 50) n14_28 rfl (f48_6 (h := h) hT) ?_
  refine am_e_iload_n n14_29 rfl ?_
  refine am_e_iconst (w := 0) n14_30 rfl ?_
  refine am_e_iastore (q := 0) n14_31 rfl (by decide) (by decide) ?_
  refine am_e_aload_n n14_32 rfl ?_
  refine am_e_getf (v := .ref 51) n14_33 rfl (f48_7 (h := h) hT) ?_
  refine am_e_iload_n n14_34 rfl ?_
  refine am_e_iconst (w := 0) n14_35 rfl ?_
  refine am_e_iastore (q := 0) n14_36 rfl (by decide) (by decide) ?_
  refine am_e_iinc (w := 1) (ls' := [(2, .int 1), (0, .ref 48), (1, .ref 23)]) n14_37 rfl rfl (by decide) rfl ?_
  refine am_e_goto c14_38 t14_38 ?_
  refine am_e_iload_n n14_19 rfl ?_
  refine am_e_iconst (w := 4) n14_20 rfl ?_
  refine am_e_cmpF n14_21 (am_c_geF (by decide)) ?_
  refine am_e_aload_n n14_22 rfl ?_
  refine am_e_getf (v := .ref 49) n14_23 rfl (f48_5 (h := h) hT) ?_
  refine am_e_iload_n n14_24 rfl ?_
  refine am_e_iconst (w := 0) n14_25 rfl ?_
  refine am_e_iastore (q := 1) n14_26 rfl (by decide) (by decide) ?_
  refine am_e_aload_n n14_27 rfl ?_
  refine am_e_getf (v := .ref 50) n14_28 rfl (f48_6 (h := h) hT) ?_
  refine am_e_iload_n n14_29 rfl ?_
  refine am_e_iconst (w := 0) n14_30 rfl ?_
  refine am_e_iastore (q := 1) n14_31 rfl (by decide) (by decide) ?_
  refine am_e_aload_n n14_32 rfl ?_
  refine am_e_getf (v := .ref 51) n14_33 rfl (f48_7 (h := h) hT) ?_
  refine am_e_iload_n n14_34 rfl ?_
  refine am_e_iconst (w := 0) n14_35 rfl ?_
  refine am_e_iastore (q := 1) n14_36 rfl (by decide) (by decide) ?_
  refine am_e_iinc (w := 2) (ls' := [(2, .int 2), (0, .ref 48), (1, .ref 23)]) n14_37 rfl rfl (by decide) rfl ?_
  refine am_e_goto c14_38 t14_38 ?_
  refine am_e_iload_n n14_19 rfl ?_
  refine am_e_iconst (w := 4) n14_20 rfl ?_
  refine am_e_cmpF n14_21 (am_c_geF (by decide)) ?_
  refine am_e_aload_n n14_22 rfl ?_
  refine am_e_getf (v := .ref 49) n14_23 rfl (f48_5 (h := h) hT) ?_
  refine am_e_iload_n n14_24 rfl ?_
  refine am_e_iconst (w := 0) n14_25 rfl ?_
  refine am_e_iastore (q := 2) n14_26 rfl (by decide) (by decide) ?_
  refine am_e_aload_n n14_27 rfl ?_
  refine am_e_getf (v := .ref 50) n14_28 rfl (f48_6 (h := h) hT) ?_
  refine am_e_iload_n n14_29 rfl ?_
  refine am_e_iconst (w := 0) n14_30 rfl ?_
  refine am_e_iastore (q := 2) n14_31 rfl (by decide) (by decide) ?_
  refine am_e_aload_n n14_32 rfl ?_
  refine am_e_getf (v := .ref 51) n14_33 rfl (f48_7 (h := h) hT) ?_
  refine am_e_iload_n n14_34 rfl ?_
  refine am_e_iconst (w := 0) n14_35 rfl ?_
  refine am_e_iastore (q := 2) n14_36 rfl (by decide) (by decide) ?_
  refine am_e_iinc (w := 3) (ls' := [(2, .int 3), (0, .ref 48), (1, .ref 23)]) n14_37 rfl rfl (by decide) rfl ?_
  refine am_e_goto c14_38 t14_38 ?_
  refine am_e_iload_n n14_19 rfl ?_
  refine am_e_iconst (w := 4) n14_20 rfl ?_
  refine am_e_cmpF n14_21 (am_c_geF (by decide)) ?_
  refine am_e_aload_n n14_22 rfl ?_
  refine am_e_getf (v := .ref 49) n14_23 rfl (f48_5 (h := h) hT) ?_
  refine am_e_iload_n n14_24 rfl ?_
  refine am_e_iconst (w := 0) n14_25 rfl ?_
  refine am_e_iastore (q := 3) n14_26 rfl (by decide) (by decide) ?_
  refine am_e_aload_n n14_27 rfl ?_
  refine am_e_getf (v := .ref 50) n14_28 rfl (f48_6 (h := h) hT) ?_
  refine am_e_iload_n n14_29 rfl ?_
  refine am_e_iconst (w := 0) n14_30 rfl ?_
  refine am_e_iastore (q := 3) n14_31 rfl (by decide) (by decide) ?_
  refine am_e_aload_n n14_32 rfl ?_
  refine am_e_getf (v := .ref 51) n14_33 rfl (f48_7 (h := h) hT) ?_
  refine am_e_iload_n n14_34 rfl ?_
  refine am_e_iconst (w := 0) n14_35 rfl ?_
  refine am_e_iastore (q := 3) n14_36 rfl (by decide) (by decide) ?_
  refine am_e_iinc (w := 4) (ls' := [(2, .int 4), (0, .ref 48), (1, .ref 23)]) n14_37 rfl rfl (by decide) rfl ?_
  refine am_e_goto c14_38 t14_38 ?_
  refine am_e_iload_n n14_19 rfl ?_
  refine am_e_iconst (w := 4) n14_20 rfl ?_
  refine am_e_cmpT n14_21 (am_c_geT (by decide)) t14_21 ?_
  refine am_e_vret c14_39 rfl rfl ?_
  refine am_e_aload_n n17_37 rfl ?_
  refine am_e_getf (v := .ref 60) n17_38 rfl (f0_9 (h := h) hT) ?_
  refine am_e_callV (L := [(0, .ref 60)]) n17_39 rfl rfl rfl rfl rfl rfl rfl rfl ?_
  refine am_e_aload_n n25_0 rfl ?_
  refine am_e_iconst (w := 0) n25_1 rfl ?_
  refine am_e_putf n25_2 rfl rfl ?_
  refine am_e_vret c25_3 rfl rfl ?_
  refine am_e_aload_n n17_40 rfl ?_
  refine am_e_getf (v := .ref 142) n17_41 rfl (f0_10 (h := h) hT) ?_
  refine am_e_callV (L := [(0, .ref 142)]) n17_42 rfl rfl rfl rfl rfl rfl rfl rfl ?_
  refine am_e_aload_n n26_0 rfl ?_
  refine am_e_iconst (w := 0) n26_1 rfl ?_
  refine am_e_putf n26_2 rfl rfl ?_
  refine am_e_aload_n n26_3 rfl ?_
  refine am_e_iconst (w := (-1)) n26_4 rfl ?_
  refine am_e_putf n26_5 rfl rfl ?_
  refine am_e_vret c26_6 rfl rfl ?_
  refine am_e_aload_n n17_43 rfl ?_
  refine am_e_iconst (w := 0) n17_44 rfl ?_
  refine am_e_putf n17_45 rfl rfl ?_
  refine am_e_aload_n n17_46 rfl ?_
  refine am_e_getf (v := .ref 44) n17_47 rfl (f0_4 (h := h) hT) ?_
  refine am_e_getf (v := .int 0) n17_48 rfl rfl ?_
  refine am_e_iret c17_49 rfl rfl rfl ?_
  refine am_e_aload_n n136_89 rfl ?_
  refine am_e_sload_n n136_90 rfl ?_
  refine am_e_iload n136_91 rfl ?_
  refine am_e_iconst (w := 1) n136_92 rfl ?_
  refine am_e_iadd (w := 1) n136_93 (by decide) ?_
  refine am_e_sald1 n136_94 rfl (by decide) (by decide) hx1 ?_
  refine am_e_callV (L := [(0, .ref 164), (1, .int 0)]) n136_95 rfl rfl rfl rfl rfl rfl rfl rfl ?_
  refine am_e_aload_n n85_0 rfl ?_
  refine am_e_iconst (w := 0) n85_1 rfl ?_
  refine am_e_putf n85_2 rfl rfl ?_
  refine am_e_iload_n n85_3 rfl ?_
  refine am_e_ifF n85_4 (am_c_ltF (by decide)) ?_
  refine am_e_iload_n n85_5 rfl ?_
  refine am_e_aload_n n85_6 rfl ?_
  refine am_e_getf (v := .int 0) n85_7 rfl (f164_1 (h := h) hT) ?_
  refine am_e_cmpT n85_8 (am_c_leT (by decide)) t85_8 ?_
  refine am_e_aload_n n85_11 rfl ?_
  refine am_e_iload_n n85_12 rfl ?_
  refine am_e_putf n85_13 rfl rfl ?_
  refine am_e_aload_n n85_14 rfl ?_
  refine am_e_iconst (w := 0) n85_15 rfl ?_
  refine am_e_putf n85_16 rfl rfl ?_
  refine am_e_aload_n n85_17 rfl ?_
  refine am_e_iconst (w := 0) n85_18 rfl ?_
  refine am_e_putf n85_19 rfl rfl ?_
  refine am_e_aload_n n85_20 rfl ?_
  refine am_e_iconst (w := (-1)) n85_21 rfl ?_
  refine am_e_putf n85_22 rfl rfl ?_
  refine am_e_aload_n n85_23 rfl ?_
  refine am_e_iconst (w := 0) n85_24 rfl ?_
  refine am_e_putf n85_25 rfl rfl ?_
  refine am_e_aload_n n85_26 rfl ?_
  refine am_e_callV (L := [(0, .ref 164)]) n85_27 rfl rfl rfl rfl rfl rfl rfl rfl ?_
  refine am_e_aload_n n78_0 rfl ?_
  refine am_e_iconst (w := 0) n78_1 rfl ?_
  refine am_e_putf n78_2 rfl rfl ?_
  refine am_e_aload_n n78_3 rfl ?_
  refine am_e_iconst (w := 0) n78_4 rfl ?_
  refine am_e_putf n78_5 rfl rfl ?_
  refine am_e_aload_n n78_6 rfl ?_
  refine am_e_iconst (w := 0) n78_7 rfl ?_
  refine am_e_putf n78_8 rfl rfl ?_
  refine am_e_aload_n n78_9 rfl ?_
  refine am_e_iconst (w := 0) n78_10 rfl ?_
  refine am_e_putf n78_11 rfl rfl ?_
  refine am_e_aload_n n78_12 rfl ?_
  refine am_e_iconst (w := 0) n78_13 rfl ?_
  refine am_e_putf n78_14 rfl rfl ?_
  refine am_e_aload_n n78_15 rfl ?_
  refine am_e_iconst (w := 0) n78_16 rfl ?_
  refine am_e_putf n78_17 rfl rfl ?_
  refine am_e_iconst (w := 0) n78_18 rfl ?_
  refine am_e_istore_n (ls' := [(1, .int 0), (0, .ref 164)]) n78_19 rfl rfl ?_
  refine am_e_iload_n n78_20 rfl ?_
  refine am_e_iconst (w := 4) n78_21 rfl ?_
  refine am_e_cmpF n78_22 (am_c_geF (by decide)) ?_
  refine am_e_aload_n n78_23 rfl ?_
  refine am_e_getf (v := .ref 167) n78_24 rfl (f164_22 (h := h) hT) ?_
  refine am_e_iload_n n78_25 rfl ?_
  refine am_e_iconst (w := 0) n78_26 rfl ?_
  refine am_e_bastore (q := 0) n78_27 rfl rfl (by decide) (by decide) ?_
  refine am_e_iinc (w := 1) (ls' := [(1, .int 1), (0, .ref 164)]) n78_28 rfl rfl (by decide) rfl ?_
  refine am_e_goto c78_29 t78_29 ?_
  refine am_e_iload_n n78_20 rfl ?_
  refine am_e_iconst (w := 4) n78_21 rfl ?_
  refine am_e_cmpF n78_22 (am_c_geF (by decide)) ?_
  refine am_e_aload_n n78_23 rfl ?_
  refine am_e_getf (v := .ref 167) n78_24 rfl (f164_22 (h := h) hT) ?_
  refine am_e_iload_n n78_25 rfl ?_
  refine am_e_iconst (w := 0) n78_26 rfl ?_
  refine am_e_bastore (q := 1) n78_27 rfl rfl (by decide) (by decide) ?_
  refine am_e_iinc (w := 2) (ls' := [(1, .int 2), (0, .ref 164)]) n78_28 rfl rfl (by decide) rfl ?_
  refine am_e_goto c78_29 t78_29 ?_
  refine am_e_iload_n n78_20 rfl ?_
  refine am_e_iconst (w := 4) n78_21 rfl ?_
  refine am_e_cmpF n78_22 (am_c_geF (by decide)) ?_
  refine am_e_aload_n n78_23 rfl ?_
  refine am_e_getf (v := .ref 167) n78_24 rfl (f164_22 (h := h) hT) ?_
  refine am_e_iload_n n78_25 rfl ?_
  refine am_e_iconst (w := 0) n78_26 rfl ?_
  refine am_e_bastore (q := 2) n78_27 rfl rfl (by decide) (by decide) ?_
  refine am_e_iinc (w := 3) (ls' := [(1, .int 3), (0, .ref 164)]) n78_28 rfl rfl (by decide) rfl ?_
  refine am_e_goto c78_29 t78_29 ?_
  refine am_e_iload_n n78_20 rfl ?_
  refine am_e_iconst (w := 4) n78_21 rfl ?_
  refine am_e_cmpF n78_22 (am_c_geF (by decide)) ?_
  refine am_e_aload_n n78_23 rfl ?_
  refine am_e_getf (v := .ref 167) n78_24 rfl (f164_22 (h := h) hT) ?_
  refine am_e_iload_n n78_25 rfl ?_
  refine am_e_iconst (w := 0) n78_26 rfl ?_
  refine am_e_bastore (q := 3) n78_27 rfl rfl (by decide) (by decide) ?_
  refine am_e_iinc (w := 4) (ls' := [(1, .int 4), (0, .ref 164)]) n78_28 rfl rfl (by decide) rfl ?_
  refine am_e_goto c78_29 t78_29 ?_
  refine am_e_iload_n n78_20 rfl ?_
  refine am_e_iconst (w := 4) n78_21 rfl ?_
  refine am_e_cmpT n78_22 (am_c_geT (by decide)) t78_22 ?_
  refine am_e_aload_n n78_30 rfl ?_
  refine am_e_getf (v := .ref 168) n78_31 rfl (f164_23 (h := h) hT) ?_
  refine am_e_bipush (w := 6) n78_32 (by decide) ?_
  refine am_e_sipush (w := 500) n78_33 (by decide) ?_
  refine am_e_iastore (q := 6) n78_34 rfl (by decide) (by decide) ?_
  refine am_e_bipush (w := 7) n78_35 (by decide) ?_
  refine am_e_istore_n (ls' := [(1, .int 7), (0, .ref 164)]) n78_36 rfl rfl ?_
  refine am_e_iload_n n78_37 rfl ?_
  refine am_e_bipush (w := 12) n78_38 (by decide) ?_
  refine am_e_cmpF n78_39 (am_c_geF (by decide)) ?_
  refine am_e_aload_n n78_40 rfl ?_
  refine am_e_getf (v := .ref 168) n78_41 rfl (f164_23 (h := h) hT) ?_
  refine am_e_iload_n n78_42 rfl ?_
  refine am_e_iconst (w := 0) n78_43 rfl ?_
  refine am_e_iastore (q := 7) n78_44 rfl (by decide) (by decide) ?_
  refine am_e_iinc (w := 8) (ls' := [(1, .int 8), (0, .ref 164)]) n78_45 rfl rfl (by decide) rfl ?_
  refine am_e_goto c78_46 t78_46 ?_
  refine am_e_iload_n n78_37 rfl ?_
  refine am_e_bipush (w := 12) n78_38 (by decide) ?_
  refine am_e_cmpF n78_39 (am_c_geF (by decide)) ?_
  refine am_e_aload_n n78_40 rfl ?_
  refine am_e_getf (v := .ref 168) n78_41 rfl (f164_23 (h := h) hT) ?_
  refine am_e_iload_n n78_42 rfl ?_
  refine am_e_iconst (w := 0) n78_43 rfl ?_
  refine am_e_iastore (q := 8) n78_44 rfl (by decide) (by decide) ?_
  refine am_e_iinc (w := 9) (ls' := [(1, .int 9), (0, .ref 164)]) n78_45 rfl rfl (by decide) rfl ?_
  refine am_e_goto c78_46 t78_46 ?_
  refine am_e_iload_n n78_37 rfl ?_
  refine am_e_bipush (w := 12) n78_38 (by decide) ?_
  refine am_e_cmpF n78_39 (am_c_geF (by decide)) ?_
  refine am_e_aload_n n78_40 rfl ?_
  refine am_e_getf (v := .ref 168) n78_41 rfl (f164_23 (h := h) hT) ?_
  refine am_e_iload_n n78_42 rfl ?_
  refine am_e_iconst (w := 0) n78_43 rfl ?_
  refine am_e_iastore (q := 9) n78_44 rfl (by decide) (by decide) ?_
  refine am_e_iinc (w := 10) (ls' := [(1, .int 10), (0, .ref 164)]) n78_45 rfl rfl (by decide) rfl ?_
  refine am_e_goto c78_46 t78_46 ?_
  refine am_e_iload_n n78_37 rfl ?_
  refine am_e_bipush (w := 12) n78_38 (by decide) ?_
  refine am_e_cmpF n78_39 (am_c_geF (by decide)) ?_
  refine am_e_aload_n n78_40 rfl ?_
  refine am_e_getf (v := .ref 168) n78_41 rfl (f164_23 (h := h) hT) ?_
  refine am_e_iload_n n78_42 rfl ?_
  refine am_e_iconst (w := 0) n78_43 rfl ?_
  refine am_e_iastore (q := 10) n78_44 rfl (by decide) (by decide) ?_
  refine am_e_iinc (w := 11) (ls' := [(1, .int 11), (0, .ref 164)]) n78_45 rfl rfl (by decide) rfl ?_
  refine am_e_goto c78_46 t78_46 ?_
  refine am_e_iload_n n78_37 rfl ?_
  refine am_e_bipush (w := 12) n78_38 (by decide) ?_
  refine am_e_cmpF n78_39 (am_c_geF (by decide)) ?_
  refine am_e_aload_n n78_40 rfl ?_
  refine am_e_getf (v := .ref 168) n78_41 rfl (f164_23 (h := h) hT) ?_
  refine am_e_iload_n n78_42 rfl ?_
  refine am_e_iconst (w := 0) n78_43 rfl ?_
  refine am_e_iastore (q := 11) n78_44 rfl (by decide) (by decide) ?_
  refine am_e_iinc (w := 12) (ls' := [(1, .int 12), (0, .ref 164)]) n78_45 rfl rfl (by decide) rfl ?_
  refine am_e_goto c78_46 t78_46 ?_
  refine am_e_iload_n n78_37 rfl ?_
  refine am_e_bipush (w := 12) n78_38 (by decide) ?_
  refine am_e_cmpT n78_39 (am_c_geT (by decide)) t78_39 ?_
  refine am_e_iconst (w := 3) n78_47 rfl ?_
  refine am_e_istore_n (ls' := [(1, .int 3), (0, .ref 164)]) n78_48 rfl rfl ?_
  refine am_e_iload_n n78_49 rfl ?_
  refine am_e_bipush (w := 6) n78_50 (by decide) ?_
  refine am_e_cmpF n78_51 (am_c_geF (by decide)) ?_
  refine am_e_aload_n n78_52 rfl ?_
  refine am_e_getf (v := .ref 178) n78_53 rfl (f164_33 (h := h) hT) ?_
  refine am_e_iload_n n78_54 rfl ?_
  refine am_e_iconst (w := 0) n78_55 rfl ?_
  refine am_e_bastore (q := 3) n78_56 rfl rfl (by decide) (by decide) ?_
  refine am_e_iinc (w := 4) (ls' := [(1, .int 4), (0, .ref 164)]) n78_57 rfl rfl (by decide) rfl ?_
  refine am_e_goto c78_58 t78_58 ?_
  refine am_e_iload_n n78_49 rfl ?_
  refine am_e_bipush (w := 6) n78_50 (by decide) ?_
  refine am_e_cmpF n78_51 (am_c_geF (by decide)) ?_
  refine am_e_aload_n n78_52 rfl ?_
  refine am_e_getf (v := .ref 178) n78_53 rfl (f164_33 (h := h) hT) ?_
  refine am_e_iload_n n78_54 rfl ?_
  refine am_e_iconst (w := 0) n78_55 rfl ?_
  refine am_e_bastore (q := 4) n78_56 rfl rfl (by decide) (by decide) ?_
  refine am_e_iinc (w := 5) (ls' := [(1, .int 5), (0, .ref 164)]) n78_57 rfl rfl (by decide) rfl ?_
  refine am_e_goto c78_58 t78_58 ?_
  refine am_e_iload_n n78_49 rfl ?_
  refine am_e_bipush (w := 6) n78_50 (by decide) ?_
  refine am_e_cmpF n78_51 (am_c_geF (by decide)) ?_
  refine am_e_aload_n n78_52 rfl ?_
  refine am_e_getf (v := .ref 178) n78_53 rfl (f164_33 (h := h) hT) ?_
  refine am_e_iload_n n78_54 rfl ?_
  refine am_e_iconst (w := 0) n78_55 rfl ?_
  refine am_e_bastore (q := 5) n78_56 rfl rfl (by decide) (by decide) ?_
  refine am_e_iinc (w := 6) (ls' := [(1, .int 6), (0, .ref 164)]) n78_57 rfl rfl (by decide) rfl ?_
  refine am_e_goto c78_58 t78_58 ?_
  refine am_e_iload_n n78_49 rfl ?_
  refine am_e_bipush (w := 6) n78_50 (by decide) ?_
  refine am_e_cmpT n78_51 (am_c_geT (by decide)) t78_51 ?_
  refine am_e_vret c78_59 rfl rfl ?_
  refine am_e_aload_n n85_28 rfl ?_
  refine am_e_callV (L := [(0, .ref 164)]) n85_29 rfl rfl rfl rfl rfl rfl rfl rfl ?_
  refine am_e_aload_n n86_0 rfl ?_
  refine am_e_getf (v := .int 0) n86_1 rfl rfl ?_
  refine am_e_aload_n n86_2 rfl ?_
  refine am_e_getf (v := .int 0) n86_3 rfl rfl ?_
  refine am_e_cmpT n86_4 (am_c_geT (by decide)) t86_4 ?_
  refine am_e_aload_n n86_26 rfl ?_
  refine am_e_aload_n n86_27 rfl ?_
  refine am_e_getf (v := .int 0) n86_28 rfl rfl ?_
  refine am_e_putf n86_29 rfl rfl ?_
  refine am_e_aload_n n86_30 rfl ?_
  refine am_e_getf (v := .int 0) n86_31 rfl rfl ?_
  refine am_e_aload_n n86_32 rfl ?_
  refine am_e_getf (v := .int 0) n86_33 rfl rfl ?_
  refine am_e_cmpF n86_34 (am_c_neF (by decide)) ?_
  refine am_e_aload_n n86_35 rfl ?_
  refine am_e_iconst (w := 0) n86_36 rfl ?_
  refine am_e_putf n86_37 rfl rfl ?_
  refine am_e_goto c86_38 t86_38 ?_
  refine am_e_vret c86_140 rfl rfl ?_
  refine am_e_iconst (w := 0) n85_30 rfl ?_
  refine am_e_istore_n (ls' := [(2, .int 0), (0, .ref 164), (1, .int 0)]) n85_31 rfl rfl ?_
  refine am_e_aload_n n85_32 rfl ?_
  refine am_e_getf (v := .int 0) n85_33 rfl rfl ?_
  refine am_e_ifT n85_34 (am_c_eqT (by decide)) t85_34 ?_
  refine am_e_aload_n n85_42 rfl ?_
  refine am_e_callV (L := [(0, .ref 164)]) n85_43 rfl rfl rfl rfl rfl rfl rfl rfl ?_
  refine am_e_aload_n n79_0 rfl ?_
  refine am_e_aload_n n79_1 rfl ?_
  refine am_e_getf (v := .int 0) n79_2 rfl rfl ?_
  refine am_e_putf n79_3 rfl rfl ?_
  refine am_e_aload_n n79_4 rfl ?_
  refine am_e_aload_n n79_5 rfl ?_
  refine am_e_getf (v := .int 0) n79_6 rfl rfl ?_
  refine am_e_putf n79_7 rfl rfl ?_
  refine am_e_aload_n n79_8 rfl ?_
  refine am_e_aload_n n79_9 rfl ?_
  refine am_e_getf (v := .int 0) n79_10 rfl rfl ?_
  refine am_e_putf n79_11 rfl rfl ?_
  refine am_e_aload_n n79_12 rfl ?_
  refine am_e_aload_n n79_13 rfl ?_
  refine am_e_getf (v := .int 0) n79_14 rfl rfl ?_
  refine am_e_putf n79_15 rfl rfl ?_
  refine am_e_aload_n n79_16 rfl ?_
  refine am_e_aload_n n79_17 rfl ?_
  refine am_e_getf (v := .int 0) n79_18 rfl rfl ?_
  refine am_e_putf n79_19 rfl rfl ?_
  refine am_e_aload_n n79_20 rfl ?_
  refine am_e_getf (v := .ref 168) n79_21 rfl (f164_23 (h := h) hT) ?_
  refine am_e_bipush (w := 6) n79_22 (by decide) ?_
  refine am_e_callS (L := [(0, .ref 168), (1, .int 6)]) n79_23 rfl rfl rfl rfl rfl rfl rfl ?_
  refine am_e_iconst (w := 0) n80_0 rfl ?_
  refine am_e_istore_n (ls' := [(2, .int 0), (0, .ref 168), (1, .int 6)]) n80_1 rfl rfl ?_
  refine am_e_iload_n n80_2 rfl ?_
  refine am_e_iload_n n80_3 rfl ?_
  refine am_e_cmpF n80_4 (am_c_geF (by decide)) ?_
  refine am_e_aload_n n80_5 rfl ?_
  refine am_e_iload_n n80_6 rfl ?_
  refine am_e_aload_n n80_7 rfl ?_
  refine am_e_iload_n n80_8 rfl ?_
  refine am_e_iload_n n80_9 rfl ?_
  refine am_e_iadd (w := 6) n80_10 (by decide) ?_
  refine am_e_iaload (v := 500) (q := 6) n80_11 rfl (by decide) (by decide) rfl ?_
  refine am_e_iastore (q := 0) n80_12 rfl (by decide) (by decide) ?_
  refine am_e_iinc (w := 1) (ls' := [(2, .int 1), (0, .ref 168), (1, .int 6)]) n80_13 rfl rfl (by decide) rfl ?_
  refine am_e_goto c80_14 t80_14 ?_
  refine am_e_iload_n n80_2 rfl ?_
  refine am_e_iload_n n80_3 rfl ?_
  refine am_e_cmpF n80_4 (am_c_geF (by decide)) ?_
  refine am_e_aload_n n80_5 rfl ?_
  refine am_e_iload_n n80_6 rfl ?_
  refine am_e_aload_n n80_7 rfl ?_
  refine am_e_iload_n n80_8 rfl ?_
  refine am_e_iload_n n80_9 rfl ?_
  refine am_e_iadd (w := 7) n80_10 (by decide) ?_
  refine am_e_iaload (v := 0) (q := 7) n80_11 rfl (by decide) (by decide) rfl ?_
  refine am_e_iastore (q := 1) n80_12 rfl (by decide) (by decide) ?_
  refine am_e_iinc (w := 2) (ls' := [(2, .int 2), (0, .ref 168), (1, .int 6)]) n80_13 rfl rfl (by decide) rfl ?_
  refine am_e_goto c80_14 t80_14 ?_
  refine am_e_iload_n n80_2 rfl ?_
  refine am_e_iload_n n80_3 rfl ?_
  refine am_e_cmpF n80_4 (am_c_geF (by decide)) ?_
  refine am_e_aload_n n80_5 rfl ?_
  refine am_e_iload_n n80_6 rfl ?_
  refine am_e_aload_n n80_7 rfl ?_
  refine am_e_iload_n n80_8 rfl ?_
  refine am_e_iload_n n80_9 rfl ?_
  refine am_e_iadd (w := 8) n80_10 (by decide) ?_
  refine am_e_iaload (v := 0) (q := 8) n80_11 rfl (by decide) (by decide) rfl ?_
  refine am_e_iastore (q := 2) n80_12 rfl (by decide) (by decide) ?_
  refine am_e_iinc (w := 3) (ls' := [(2, .int 3), (0, .ref 168), (1, .int 6)]) n80_13 rfl rfl (by decide) rfl ?_
  refine am_e_goto c80_14 t80_14 ?_
  refine am_e_iload_n n80_2 rfl ?_
  refine am_e_iload_n n80_3 rfl ?_
  refine am_e_cmpF n80_4 (am_c_geF (by decide)) ?_
  refine am_e_aload_n n80_5 rfl ?_
  refine am_e_iload_n n80_6 rfl ?_
  refine am_e_aload_n n80_7 rfl ?_
  refine am_e_iload_n n80_8 rfl ?_
  refine am_e_iload_n n80_9 rfl ?_
  refine am_e_iadd (w := 9) n80_10 (by decide) ?_
  refine am_e_iaload (v := 0) (q := 9) n80_11 rfl (by decide) (by decide) rfl ?_
  refine am_e_iastore (q := 3) n80_12 rfl (by decide) (by decide) ?_
  refine am_e_iinc (w := 4) (ls' := [(2, .int 4), (0, .ref 168), (1, .int 6)]) n80_13 rfl rfl (by decide) rfl ?_
  refine am_e_goto c80_14 t80_14 ?_
  refine am_e_iload_n n80_2 rfl ?_
  refine am_e_iload_n n80_3 rfl ?_
  refine am_e_cmpF n80_4 (am_c_geF (by decide)) ?_
  refine am_e_aload_n n80_5 rfl ?_
  refine am_e_iload_n n80_6 rfl ?_
  refine am_e_aload_n n80_7 rfl ?_
  refine am_e_iload_n n80_8 rfl ?_
  refine am_e_iload_n n80_9 rfl ?_
  refine am_e_iadd (w := 10) n80_10 (by decide) ?_
  refine am_e_iaload (v := 0) (q := 10) n80_11 rfl (by decide) (by decide) rfl ?_
  refine am_e_iastore (q := 4) n80_12 rfl (by decide) (by decide) ?_
  refine am_e_iinc (w := 5) (ls' := [(2, .int 5), (0, .ref 168), (1, .int 6)]) n80_13 rfl rfl (by decide) rfl ?_
  refine am_e_goto c80_14 t80_14 ?_
  refine am_e_iload_n n80_2 rfl ?_
  refine am_e_iload_n n80_3 rfl ?_
  refine am_e_cmpF n80_4 (am_c_geF (by decide)) ?_
  refine am_e_aload_n n80_5 rfl ?_
  refine am_e_iload_n n80_6 rfl ?_
  refine am_e_aload_n n80_7 rfl ?_
  refine am_e_iload_n n80_8 rfl ?_
  refine am_e_iload_n n80_9 rfl ?_
  refine am_e_iadd (w := 11) n80_10 (by decide) ?_
  refine am_e_iaload (v := 0) (q := 11) n80_11 rfl (by decide) (by decide) rfl ?_
  refine am_e_iastore (q := 5) n80_12 rfl (by decide) (by decide) ?_
  refine am_e_iinc (w := 6) (ls' := [(2, .int 6), (0, .ref 168), (1, .int 6)]) n80_13 rfl rfl (by decide) rfl ?_
  refine am_e_goto c80_14 t80_14 ?_
  refine am_e_iload_n n80_2 rfl ?_
  refine am_e_iload_n n80_3 rfl ?_
  refine am_e_cmpT n80_4 (am_c_geT (by decide)) t80_4 ?_
  refine am_e_vret c80_15 rfl rfl ?_
  refine am_e_aload_n n79_24 rfl ?_
  refine am_e_getf (v := .ref 169) n79_25 rfl (f164_24 (h := h) hT) ?_
  refine am_e_iconst (w := 4) n79_26 rfl ?_
  refine am_e_callS (L := [(0, .ref 169), (1, .int 4)]) n79_27 rfl rfl rfl rfl rfl rfl rfl ?_
  refine am_e_iconst (w := 0) n80_0 rfl ?_
  refine am_e_istore_n (ls' := [(2, .int 0), (0, .ref 169), (1, .int 4)]) n80_1 rfl rfl ?_
  refine am_e_iload_n n80_2 rfl ?_
  refine am_e_iload_n n80_3 rfl ?_
  refine am_e_cmpF n80_4 (am_c_geF (by decide)) ?_
  refine am_e_aload_n n80_5 rfl ?_
  refine am_e_iload_n n80_6 rfl ?_
  refine am_e_aload_n n80_7 rfl ?_
  refine am_e_iload_n n80_8 rfl ?_
  refine am_e_iload_n n80_9 rfl ?_
  refine am_e_iadd (w := 4) n80_10 (by decide) ?_
  refine am_e_iaload (v := 0) (q := 4) n80_11 rfl (by decide) (by decide) (f169_4 (h := h) hT) ?_
  refine am_e_iastore (q := 0) n80_12 rfl (by decide) (by decide) ?_
  refine am_e_iinc (w := 1) (ls' := [(2, .int 1), (0, .ref 169), (1, .int 4)]) n80_13 rfl rfl (by decide) rfl ?_
  refine am_e_goto c80_14 t80_14 ?_
  refine am_e_iload_n n80_2 rfl ?_
  refine am_e_iload_n n80_3 rfl ?_
  refine am_e_cmpF n80_4 (am_c_geF (by decide)) ?_
  refine am_e_aload_n n80_5 rfl ?_
  refine am_e_iload_n n80_6 rfl ?_
  refine am_e_aload_n n80_7 rfl ?_
  refine am_e_iload_n n80_8 rfl ?_
  refine am_e_iload_n n80_9 rfl ?_
  refine am_e_iadd (w := 5) n80_10 (by decide) ?_
  refine am_e_iaload (v := 0) (q := 5) n80_11 rfl (by decide) (by decide) (f169_5 (h := h) hT) ?_
  refine am_e_iastore (q := 1) n80_12 rfl (by decide) (by decide) ?_
  refine am_e_iinc (w := 2) (ls' := [(2, .int 2), (0, .ref 169), (1, .int 4)]) n80_13 rfl rfl (by decide) rfl ?_
  refine am_e_goto c80_14 t80_14 ?_
  refine am_e_iload_n n80_2 rfl ?_
  refine am_e_iload_n n80_3 rfl ?_
  refine am_e_cmpF n80_4 (am_c_geF (by decide)) ?_
  refine am_e_aload_n n80_5 rfl ?_
  refine am_e_iload_n n80_6 rfl ?_
  refine am_e_aload_n n80_7 rfl ?_
  refine am_e_iload_n n80_8 rfl ?_
  refine am_e_iload_n n80_9 rfl ?_
  refine am_e_iadd (w := 6) n80_10 (by decide) ?_
  refine am_e_iaload (v := 0) (q := 6) n80_11 rfl (by decide) (by decide) (f169_6 (h := h) hT) ?_
  refine am_e_iastore (q := 2) n80_12 rfl (by decide) (by decide) ?_
  refine am_e_iinc (w := 3) (ls' := [(2, .int 3), (0, .ref 169), (1, .int 4)]) n80_13 rfl rfl (by decide) rfl ?_
  refine am_e_goto c80_14 t80_14 ?_
  refine am_e_iload_n n80_2 rfl ?_
  refine am_e_iload_n n80_3 rfl ?_
  refine am_e_cmpF n80_4 (am_c_geF (by decide)) ?_
  refine am_e_aload_n n80_5 rfl ?_
  refine am_e_iload_n n80_6 rfl ?_
  refine am_e_aload_n n80_7 rfl ?_
  refine am_e_iload_n n80_8 rfl ?_
  refine am_e_iload_n n80_9 rfl ?_
  refine am_e_iadd (w := 7) n80_10 (by decide) ?_
  refine am_e_iaload (v := 0) (q := 7) n80_11 rfl (by decide) (by decide) (f169_7 (h := h) hT) ?_
  refine am_e_iastore (q := 3) n80_12 rfl (by decide) (by decide) ?_
  refine am_e_iinc (w := 4) (ls' := [(2, .int 4), (0, .ref 169), (1, .int 4)]) n80_13 rfl rfl (by decide) rfl ?_
  refine am_e_goto c80_14 t80_14 ?_
  refine am_e_iload_n n80_2 rfl ?_
  refine am_e_iload_n n80_3 rfl ?_
  refine am_e_cmpT n80_4 (am_c_geT (by decide)) t80_4 ?_
  refine am_e_vret c80_15 rfl rfl ?_
  refine am_e_aload_n n79_28 rfl ?_
  refine am_e_getf (v := .ref 170) n79_29 rfl (f164_25 (h := h) hT) ?_
  refine am_e_bipush (w := 28) n79_30 (by decide) ?_
  refine am_e_callS (L := [(0, .ref 170), (1, .int 28)]) n79_31 rfl rfl rfl rfl rfl rfl rfl ?_
  refine am_e_iconst (w := 0) n80_0 rfl ?_
  refine am_e_istore_n (ls' := [(2, .int 0), (0, .ref 170), (1, .int 28)]) n80_1 rfl rfl ?_
  refine am_e_iload_n n80_2 rfl ?_
  refine am_e_iload_n n80_3 rfl ?_
  refine am_e_cmpF n80_4 (am_c_geF (by decide)) ?_
  refine am_e_aload_n n80_5 rfl ?_
  refine am_e_iload_n n80_6 rfl ?_
  refine am_e_aload_n n80_7 rfl ?_
  refine am_e_iload_n n80_8 rfl ?_
  refine am_e_iload_n n80_9 rfl ?_
  refine am_e_iadd (w := 28) n80_10 (by decide) ?_
  refine am_e_iaload (v := 0) (q := 28) n80_11 rfl (by decide) (by decide) (f170_28 (h := h) hT) ?_
  refine am_e_iastore (q := 0) n80_12 rfl (by decide) (by decide) ?_
  refine am_e_iinc (w := 1) (ls' := [(2, .int 1), (0, .ref 170), (1, .int 28)]) n80_13 rfl rfl (by decide) rfl ?_
  refine am_e_goto c80_14 t80_14 ?_
  refine am_e_iload_n n80_2 rfl ?_
  refine am_e_iload_n n80_3 rfl ?_
  refine am_e_cmpF n80_4 (am_c_geF (by decide)) ?_
  refine am_e_aload_n n80_5 rfl ?_
  refine am_e_iload_n n80_6 rfl ?_
  refine am_e_aload_n n80_7 rfl ?_
  refine am_e_iload_n n80_8 rfl ?_
  refine am_e_iload_n n80_9 rfl ?_
  refine am_e_iadd (w := 29) n80_10 (by decide) ?_
  refine am_e_iaload (v := 0) (q := 29) n80_11 rfl (by decide) (by decide) (f170_29 (h := h) hT) ?_
  refine am_e_iastore (q := 1) n80_12 rfl (by decide) (by decide) ?_
  refine am_e_iinc (w := 2) (ls' := [(2, .int 2), (0, .ref 170), (1, .int 28)]) n80_13 rfl rfl (by decide) rfl ?_
  refine am_e_goto c80_14 t80_14 ?_
  refine am_e_iload_n n80_2 rfl ?_
  refine am_e_iload_n n80_3 rfl ?_
  refine am_e_cmpF n80_4 (am_c_geF (by decide)) ?_
  refine am_e_aload_n n80_5 rfl ?_
  refine am_e_iload_n n80_6 rfl ?_
  refine am_e_aload_n n80_7 rfl ?_
  refine am_e_iload_n n80_8 rfl ?_
  refine am_e_iload_n n80_9 rfl ?_
  refine am_e_iadd (w := 30) n80_10 (by decide) ?_
  refine am_e_iaload (v := 0) (q := 30) n80_11 rfl (by decide) (by decide) (f170_30 (h := h) hT) ?_
  refine am_e_iastore (q := 2) n80_12 rfl (by decide) (by decide) ?_
  refine am_e_iinc (w := 3) (ls' := [(2, .int 3), (0, .ref 170), (1, .int 28)]) n80_13 rfl rfl (by decide) rfl ?_
  refine am_e_goto c80_14 t80_14 ?_
  refine am_e_iload_n n80_2 rfl ?_
  refine am_e_iload_n n80_3 rfl ?_
  refine am_e_cmpF n80_4 (am_c_geF (by decide)) ?_
  refine am_e_aload_n n80_5 rfl ?_
  refine am_e_iload_n n80_6 rfl ?_
  refine am_e_aload_n n80_7 rfl ?_
  refine am_e_iload_n n80_8 rfl ?_
  refine am_e_iload_n n80_9 rfl ?_
  refine am_e_iadd (w := 31) n80_10 (by decide) ?_
  refine am_e_iaload (v := 0) (q := 31) n80_11 rfl (by decide) (by decide) (f170_31 (h := h) hT) ?_
  refine am_e_iastore (q := 3) n80_12 rfl (by decide) (by decide) ?_
  refine am_e_iinc (w := 4) (ls' := [(2, .int 4), (0, .ref 170), (1, .int 28)]) n80_13 rfl rfl (by decide) rfl ?_
  refine am_e_goto c80_14 t80_14 ?_
  refine am_e_iload_n n80_2 rfl ?_
  refine am_e_iload_n n80_3 rfl ?_
  refine am_e_cmpF n80_4 (am_c_geF (by decide)) ?_
  refine am_e_aload_n n80_5 rfl ?_
  refine am_e_iload_n n80_6 rfl ?_
  refine am_e_aload_n n80_7 rfl ?_
  refine am_e_iload_n n80_8 rfl ?_
  refine am_e_iload_n n80_9 rfl ?_
  refine am_e_iadd (w := 32) n80_10 (by decide) ?_
  refine am_e_iaload (v := 0) (q := 32) n80_11 rfl (by decide) (by decide) (f170_32 (h := h) hT) ?_
  refine am_e_iastore (q := 4) n80_12 rfl (by decide) (by decide) ?_
  refine am_e_iinc (w := 5) (ls' := [(2, .int 5), (0, .ref 170), (1, .int 28)]) n80_13 rfl rfl (by decide) rfl ?_
  refine am_e_goto c80_14 t80_14 ?_
  refine am_e_iload_n n80_2 rfl ?_
  refine am_e_iload_n n80_3 rfl ?_
  refine am_e_cmpF n80_4 (am_c_geF (by decide)) ?_
  refine am_e_aload_n n80_5 rfl ?_
  refine am_e_iload_n n80_6 rfl ?_
  refine am_e_aload_n n80_7 rfl ?_
  refine am_e_iload_n n80_8 rfl ?_
  refine am_e_iload_n n80_9 rfl ?_
  refine am_e_iadd (w := 33) n80_10 (by decide) ?_
  refine am_e_iaload (v := 0) (q := 33) n80_11 rfl (by decide) (by decide) (f170_33 (h := h) hT) ?_
  refine am_e_iastore (q := 5) n80_12 rfl (by decide) (by decide) ?_
  refine am_e_iinc (w := 6) (ls' := [(2, .int 6), (0, .ref 170), (1, .int 28)]) n80_13 rfl rfl (by decide) rfl ?_
  refine am_e_goto c80_14 t80_14 ?_
  refine am_e_iload_n n80_2 rfl ?_
  refine am_e_iload_n n80_3 rfl ?_
  refine am_e_cmpF n80_4 (am_c_geF (by decide)) ?_
  refine am_e_aload_n n80_5 rfl ?_
  refine am_e_iload_n n80_6 rfl ?_
  refine am_e_aload_n n80_7 rfl ?_
  refine am_e_iload_n n80_8 rfl ?_
  refine am_e_iload_n n80_9 rfl ?_
  refine am_e_iadd (w := 34) n80_10 (by decide) ?_
  refine am_e_iaload (v := 0) (q := 34) n80_11 rfl (by decide) (by decide) (f170_34 (h := h) hT) ?_
  refine am_e_iastore (q := 6) n80_12 rfl (by decide) (by decide) ?_
  refine am_e_iinc (w := 7) (ls' := [(2, .int 7), (0, .ref 170), (1, .int 28)]) n80_13 rfl rfl (by decide) rfl ?_
  refine am_e_goto c80_14 t80_14 ?_
  refine am_e_iload_n n80_2 rfl ?_
  refine am_e_iload_n n80_3 rfl ?_
  refine am_e_cmpF n80_4 (am_c_geF (by decide)) ?_
  refine am_e_aload_n n80_5 rfl ?_
  refine am_e_iload_n n80_6 rfl ?_
  refine am_e_aload_n n80_7 rfl ?_
  refine am_e_iload_n n80_8 rfl ?_
  refine am_e_iload_n n80_9 rfl ?_
  refine am_e_iadd (w := 35) n80_10 (by decide) ?_
  refine am_e_iaload (v := 0) (q := 35) n80_11 rfl (by decide) (by decide) (f170_35 (h := h) hT) ?_
  refine am_e_iastore (q := 7) n80_12 rfl (by decide) (by decide) ?_
  refine am_e_iinc (w := 8) (ls' := [(2, .int 8), (0, .ref 170), (1, .int 28)]) n80_13 rfl rfl (by decide) rfl ?_
  refine am_e_goto c80_14 t80_14 ?_
  refine am_e_iload_n n80_2 rfl ?_
  refine am_e_iload_n n80_3 rfl ?_
  refine am_e_cmpF n80_4 (am_c_geF (by decide)) ?_
  refine am_e_aload_n n80_5 rfl ?_
  refine am_e_iload_n n80_6 rfl ?_
  refine am_e_aload_n n80_7 rfl ?_
  refine am_e_iload_n n80_8 rfl ?_
  refine am_e_iload_n n80_9 rfl ?_
  refine am_e_iadd (w := 36) n80_10 (by decide) ?_
  refine am_e_iaload (v := 0) (q := 36) n80_11 rfl (by decide) (by decide) (f170_36 (h := h) hT) ?_
  refine am_e_iastore (q := 8) n80_12 rfl (by decide) (by decide) ?_
  refine am_e_iinc (w := 9) (ls' := [(2, .int 9), (0, .ref 170), (1, .int 28)]) n80_13 rfl rfl (by decide) rfl ?_
  refine am_e_goto c80_14 t80_14 ?_
  refine am_e_iload_n n80_2 rfl ?_
  refine am_e_iload_n n80_3 rfl ?_
  refine am_e_cmpF n80_4 (am_c_geF (by decide)) ?_
  refine am_e_aload_n n80_5 rfl ?_
  refine am_e_iload_n n80_6 rfl ?_
  refine am_e_aload_n n80_7 rfl ?_
  refine am_e_iload_n n80_8 rfl ?_
  refine am_e_iload_n n80_9 rfl ?_
  refine am_e_iadd (w := 37) n80_10 (by decide) ?_
  refine am_e_iaload (v := 0) (q := 37) n80_11 rfl (by decide) (by decide) (f170_37 (h := h) hT) ?_
  refine am_e_iastore (q := 9) n80_12 rfl (by decide) (by decide) ?_
  refine am_e_iinc (w := 10) (ls' := [(2, .int 10), (0, .ref 170), (1, .int 28)]) n80_13 rfl rfl (by decide) rfl ?_
  refine am_e_goto c80_14 t80_14 ?_
  refine am_e_iload_n n80_2 rfl ?_
  refine am_e_iload_n n80_3 rfl ?_
  refine am_e_cmpF n80_4 (am_c_geF (by decide)) ?_
  refine am_e_aload_n n80_5 rfl ?_
  refine am_e_iload_n n80_6 rfl ?_
  refine am_e_aload_n n80_7 rfl ?_
  refine am_e_iload_n n80_8 rfl ?_
  refine am_e_iload_n n80_9 rfl ?_
  refine am_e_iadd (w := 38) n80_10 (by decide) ?_
  refine am_e_iaload (v := 0) (q := 38) n80_11 rfl (by decide) (by decide) (f170_38 (h := h) hT) ?_
  refine am_e_iastore (q := 10) n80_12 rfl (by decide) (by decide) ?_
  refine am_e_iinc (w := 11) (ls' := [(2, .int 11), (0, .ref 170), (1, .int 28)]) n80_13 rfl rfl (by decide) rfl ?_
  refine am_e_goto c80_14 t80_14 ?_
  refine am_e_iload_n n80_2 rfl ?_
  refine am_e_iload_n n80_3 rfl ?_
  refine am_e_cmpF n80_4 (am_c_geF (by decide)) ?_
  refine am_e_aload_n n80_5 rfl ?_
  refine am_e_iload_n n80_6 rfl ?_
  refine am_e_aload_n n80_7 rfl ?_
  refine am_e_iload_n n80_8 rfl ?_
  refine am_e_iload_n n80_9 rfl ?_
  refine am_e_iadd (w := 39) n80_10 (by decide) ?_
  refine am_e_iaload (v := 0) (q := 39) n80_11 rfl (by decide) (by decide) (f170_39 (h := h) hT) ?_
  refine am_e_iastore (q := 11) n80_12 rfl (by decide) (by decide) ?_
  refine am_e_iinc (w := 12) (ls' := [(2, .int 12), (0, .ref 170), (1, .int 28)]) n80_13 rfl rfl (by decide) rfl ?_
  refine am_e_goto c80_14 t80_14 ?_
  refine am_e_iload_n n80_2 rfl ?_
  refine am_e_iload_n n80_3 rfl ?_
  refine am_e_cmpF n80_4 (am_c_geF (by decide)) ?_
  refine am_e_aload_n n80_5 rfl ?_
  refine am_e_iload_n n80_6 rfl ?_
  refine am_e_aload_n n80_7 rfl ?_
  refine am_e_iload_n n80_8 rfl ?_
  refine am_e_iload_n n80_9 rfl ?_
  refine am_e_iadd (w := 40) n80_10 (by decide) ?_
  refine am_e_iaload (v := 0) (q := 40) n80_11 rfl (by decide) (by decide) (f170_40 (h := h) hT) ?_
  refine am_e_iastore (q := 12) n80_12 rfl (by decide) (by decide) ?_
  refine am_e_iinc (w := 13) (ls' := [(2, .int 13), (0, .ref 170), (1, .int 28)]) n80_13 rfl rfl (by decide) rfl ?_
  refine am_e_goto c80_14 t80_14 ?_
  refine am_e_iload_n n80_2 rfl ?_
  refine am_e_iload_n n80_3 rfl ?_
  refine am_e_cmpF n80_4 (am_c_geF (by decide)) ?_
  refine am_e_aload_n n80_5 rfl ?_
  refine am_e_iload_n n80_6 rfl ?_
  refine am_e_aload_n n80_7 rfl ?_
  refine am_e_iload_n n80_8 rfl ?_
  refine am_e_iload_n n80_9 rfl ?_
  refine am_e_iadd (w := 41) n80_10 (by decide) ?_
  refine am_e_iaload (v := 0) (q := 41) n80_11 rfl (by decide) (by decide) (f170_41 (h := h) hT) ?_
  refine am_e_iastore (q := 13) n80_12 rfl (by decide) (by decide) ?_
  refine am_e_iinc (w := 14) (ls' := [(2, .int 14), (0, .ref 170), (1, .int 28)]) n80_13 rfl rfl (by decide) rfl ?_
  refine am_e_goto c80_14 t80_14 ?_
  refine am_e_iload_n n80_2 rfl ?_
  refine am_e_iload_n n80_3 rfl ?_
  refine am_e_cmpF n80_4 (am_c_geF (by decide)) ?_
  refine am_e_aload_n n80_5 rfl ?_
  refine am_e_iload_n n80_6 rfl ?_
  refine am_e_aload_n n80_7 rfl ?_
  refine am_e_iload_n n80_8 rfl ?_
  refine am_e_iload_n n80_9 rfl ?_
  refine am_e_iadd (w := 42) n80_10 (by decide) ?_
  refine am_e_iaload (v := 0) (q := 42) n80_11 rfl (by decide) (by decide) (f170_42 (h := h) hT) ?_
  refine am_e_iastore (q := 14) n80_12 rfl (by decide) (by decide) ?_
  refine am_e_iinc (w := 15) (ls' := [(2, .int 15), (0, .ref 170), (1, .int 28)]) n80_13 rfl rfl (by decide) rfl ?_
  refine am_e_goto c80_14 t80_14 ?_
  refine am_e_iload_n n80_2 rfl ?_
  refine am_e_iload_n n80_3 rfl ?_
  refine am_e_cmpF n80_4 (am_c_geF (by decide)) ?_
  refine am_e_aload_n n80_5 rfl ?_
  refine am_e_iload_n n80_6 rfl ?_
  refine am_e_aload_n n80_7 rfl ?_
  refine am_e_iload_n n80_8 rfl ?_
  refine am_e_iload_n n80_9 rfl ?_
  refine am_e_iadd (w := 43) n80_10 (by decide) ?_
  refine am_e_iaload (v := 0) (q := 43) n80_11 rfl (by decide) (by decide) (f170_43 (h := h) hT) ?_
  refine am_e_iastore (q := 15) n80_12 rfl (by decide) (by decide) ?_
  refine am_e_iinc (w := 16) (ls' := [(2, .int 16), (0, .ref 170), (1, .int 28)]) n80_13 rfl rfl (by decide) rfl ?_
  refine am_e_goto c80_14 t80_14 ?_
  refine am_e_iload_n n80_2 rfl ?_
  refine am_e_iload_n n80_3 rfl ?_
  refine am_e_cmpF n80_4 (am_c_geF (by decide)) ?_
  refine am_e_aload_n n80_5 rfl ?_
  refine am_e_iload_n n80_6 rfl ?_
  refine am_e_aload_n n80_7 rfl ?_
  refine am_e_iload_n n80_8 rfl ?_
  refine am_e_iload_n n80_9 rfl ?_
  refine am_e_iadd (w := 44) n80_10 (by decide) ?_
  refine am_e_iaload (v := 0) (q := 44) n80_11 rfl (by decide) (by decide) (f170_44 (h := h) hT) ?_
  refine am_e_iastore (q := 16) n80_12 rfl (by decide) (by decide) ?_
  refine am_e_iinc (w := 17) (ls' := [(2, .int 17), (0, .ref 170), (1, .int 28)]) n80_13 rfl rfl (by decide) rfl ?_
  refine am_e_goto c80_14 t80_14 ?_
  refine am_e_iload_n n80_2 rfl ?_
  refine am_e_iload_n n80_3 rfl ?_
  refine am_e_cmpF n80_4 (am_c_geF (by decide)) ?_
  refine am_e_aload_n n80_5 rfl ?_
  refine am_e_iload_n n80_6 rfl ?_
  refine am_e_aload_n n80_7 rfl ?_
  refine am_e_iload_n n80_8 rfl ?_
  refine am_e_iload_n n80_9 rfl ?_
  refine am_e_iadd (w := 45) n80_10 (by decide) ?_
  refine am_e_iaload (v := 0) (q := 45) n80_11 rfl (by decide) (by decide) (f170_45 (h := h) hT) ?_
  refine am_e_iastore (q := 17) n80_12 rfl (by decide) (by decide) ?_
  refine am_e_iinc (w := 18) (ls' := [(2, .int 18), (0, .ref 170), (1, .int 28)]) n80_13 rfl rfl (by decide) rfl ?_
  refine am_e_goto c80_14 t80_14 ?_
  refine am_e_iload_n n80_2 rfl ?_
  refine am_e_iload_n n80_3 rfl ?_
  refine am_e_cmpF n80_4 (am_c_geF (by decide)) ?_
  refine am_e_aload_n n80_5 rfl ?_
  refine am_e_iload_n n80_6 rfl ?_
  refine am_e_aload_n n80_7 rfl ?_
  refine am_e_iload_n n80_8 rfl ?_
  refine am_e_iload_n n80_9 rfl ?_
  refine am_e_iadd (w := 46) n80_10 (by decide) ?_
  refine am_e_iaload (v := 0) (q := 46) n80_11 rfl (by decide) (by decide) (f170_46 (h := h) hT) ?_
  refine am_e_iastore (q := 18) n80_12 rfl (by decide) (by decide) ?_
  refine am_e_iinc (w := 19) (ls' := [(2, .int 19), (0, .ref 170), (1, .int 28)]) n80_13 rfl rfl (by decide) rfl ?_
  refine am_e_goto c80_14 t80_14 ?_
  refine am_e_iload_n n80_2 rfl ?_
  refine am_e_iload_n n80_3 rfl ?_
  refine am_e_cmpF n80_4 (am_c_geF (by decide)) ?_
  refine am_e_aload_n n80_5 rfl ?_
  refine am_e_iload_n n80_6 rfl ?_
  refine am_e_aload_n n80_7 rfl ?_
  refine am_e_iload_n n80_8 rfl ?_
  refine am_e_iload_n n80_9 rfl ?_
  refine am_e_iadd (w := 47) n80_10 (by decide) ?_
  refine am_e_iaload (v := 0) (q := 47) n80_11 rfl (by decide) (by decide) (f170_47 (h := h) hT) ?_
  refine am_e_iastore (q := 19) n80_12 rfl (by decide) (by decide) ?_
  refine am_e_iinc (w := 20) (ls' := [(2, .int 20), (0, .ref 170), (1, .int 28)]) n80_13 rfl rfl (by decide) rfl ?_
  refine am_e_goto c80_14 t80_14 ?_
  refine am_e_iload_n n80_2 rfl ?_
  refine am_e_iload_n n80_3 rfl ?_
  refine am_e_cmpF n80_4 (am_c_geF (by decide)) ?_
  refine am_e_aload_n n80_5 rfl ?_
  refine am_e_iload_n n80_6 rfl ?_
  refine am_e_aload_n n80_7 rfl ?_
  refine am_e_iload_n n80_8 rfl ?_
  refine am_e_iload_n n80_9 rfl ?_
  refine am_e_iadd (w := 48) n80_10 (by decide) ?_
  refine am_e_iaload (v := 0) (q := 48) n80_11 rfl (by decide) (by decide) (f170_48 (h := h) hT) ?_
  refine am_e_iastore (q := 20) n80_12 rfl (by decide) (by decide) ?_
  refine am_e_iinc (w := 21) (ls' := [(2, .int 21), (0, .ref 170), (1, .int 28)]) n80_13 rfl rfl (by decide) rfl ?_
  refine am_e_goto c80_14 t80_14 ?_
  refine am_e_iload_n n80_2 rfl ?_
  refine am_e_iload_n n80_3 rfl ?_
  refine am_e_cmpF n80_4 (am_c_geF (by decide)) ?_
  refine am_e_aload_n n80_5 rfl ?_
  refine am_e_iload_n n80_6 rfl ?_
  refine am_e_aload_n n80_7 rfl ?_
  refine am_e_iload_n n80_8 rfl ?_
  refine am_e_iload_n n80_9 rfl ?_
  refine am_e_iadd (w := 49) n80_10 (by decide) ?_
  refine am_e_iaload (v := 0) (q := 49) n80_11 rfl (by decide) (by decide) (f170_49 (h := h) hT) ?_
  refine am_e_iastore (q := 21) n80_12 rfl (by decide) (by decide) ?_
  refine am_e_iinc (w := 22) (ls' := [(2, .int 22), (0, .ref 170), (1, .int 28)]) n80_13 rfl rfl (by decide) rfl ?_
  refine am_e_goto c80_14 t80_14 ?_
  refine am_e_iload_n n80_2 rfl ?_
  refine am_e_iload_n n80_3 rfl ?_
  refine am_e_cmpF n80_4 (am_c_geF (by decide)) ?_
  refine am_e_aload_n n80_5 rfl ?_
  refine am_e_iload_n n80_6 rfl ?_
  refine am_e_aload_n n80_7 rfl ?_
  refine am_e_iload_n n80_8 rfl ?_
  refine am_e_iload_n n80_9 rfl ?_
  refine am_e_iadd (w := 50) n80_10 (by decide) ?_
  refine am_e_iaload (v := 0) (q := 50) n80_11 rfl (by decide) (by decide) (f170_50 (h := h) hT) ?_
  refine am_e_iastore (q := 22) n80_12 rfl (by decide) (by decide) ?_
  refine am_e_iinc (w := 23) (ls' := [(2, .int 23), (0, .ref 170), (1, .int 28)]) n80_13 rfl rfl (by decide) rfl ?_
  refine am_e_goto c80_14 t80_14 ?_
  refine am_e_iload_n n80_2 rfl ?_
  refine am_e_iload_n n80_3 rfl ?_
  refine am_e_cmpF n80_4 (am_c_geF (by decide)) ?_
  refine am_e_aload_n n80_5 rfl ?_
  refine am_e_iload_n n80_6 rfl ?_
  refine am_e_aload_n n80_7 rfl ?_
  refine am_e_iload_n n80_8 rfl ?_
  refine am_e_iload_n n80_9 rfl ?_
  refine am_e_iadd (w := 51) n80_10 (by decide) ?_
  refine am_e_iaload (v := 0) (q := 51) n80_11 rfl (by decide) (by decide) (f170_51 (h := h) hT) ?_
  refine am_e_iastore (q := 23) n80_12 rfl (by decide) (by decide) ?_
  refine am_e_iinc (w := 24) (ls' := [(2, .int 24), (0, .ref 170), (1, .int 28)]) n80_13 rfl rfl (by decide) rfl ?_
  refine am_e_goto c80_14 t80_14 ?_
  refine am_e_iload_n n80_2 rfl ?_
  refine am_e_iload_n n80_3 rfl ?_
  refine am_e_cmpF n80_4 (am_c_geF (by decide)) ?_
  refine am_e_aload_n n80_5 rfl ?_
  refine am_e_iload_n n80_6 rfl ?_
  refine am_e_aload_n n80_7 rfl ?_
  refine am_e_iload_n n80_8 rfl ?_
  refine am_e_iload_n n80_9 rfl ?_
  refine am_e_iadd (w := 52) n80_10 (by decide) ?_
  refine am_e_iaload (v := 0) (q := 52) n80_11 rfl (by decide) (by decide) (f170_52 (h := h) hT) ?_
  refine am_e_iastore (q := 24) n80_12 rfl (by decide) (by decide) ?_
  refine am_e_iinc (w := 25) (ls' := [(2, .int 25), (0, .ref 170), (1, .int 28)]) n80_13 rfl rfl (by decide) rfl ?_
  refine am_e_goto c80_14 t80_14 ?_
  refine am_e_iload_n n80_2 rfl ?_
  refine am_e_iload_n n80_3 rfl ?_
  refine am_e_cmpF n80_4 (am_c_geF (by decide)) ?_
  refine am_e_aload_n n80_5 rfl ?_
  refine am_e_iload_n n80_6 rfl ?_
  refine am_e_aload_n n80_7 rfl ?_
  refine am_e_iload_n n80_8 rfl ?_
  refine am_e_iload_n n80_9 rfl ?_
  refine am_e_iadd (w := 53) n80_10 (by decide) ?_
  refine am_e_iaload (v := 0) (q := 53) n80_11 rfl (by decide) (by decide) (f170_53 (h := h) hT) ?_
  refine am_e_iastore (q := 25) n80_12 rfl (by decide) (by decide) ?_
  refine am_e_iinc (w := 26) (ls' := [(2, .int 26), (0, .ref 170), (1, .int 28)]) n80_13 rfl rfl (by decide) rfl ?_
  refine am_e_goto c80_14 t80_14 ?_
  refine am_e_iload_n n80_2 rfl ?_
  refine am_e_iload_n n80_3 rfl ?_
  refine am_e_cmpF n80_4 (am_c_geF (by decide)) ?_
  refine am_e_aload_n n80_5 rfl ?_
  refine am_e_iload_n n80_6 rfl ?_
  refine am_e_aload_n n80_7 rfl ?_
  refine am_e_iload_n n80_8 rfl ?_
  refine am_e_iload_n n80_9 rfl ?_
  refine am_e_iadd (w := 54) n80_10 (by decide) ?_
  refine am_e_iaload (v := 0) (q := 54) n80_11 rfl (by decide) (by decide) (f170_54 (h := h) hT) ?_
  refine am_e_iastore (q := 26) n80_12 rfl (by decide) (by decide) ?_
  refine am_e_iinc (w := 27) (ls' := [(2, .int 27), (0, .ref 170), (1, .int 28)]) n80_13 rfl rfl (by decide) rfl ?_
  refine am_e_goto c80_14 t80_14 ?_
  refine am_e_iload_n n80_2 rfl ?_
  refine am_e_iload_n n80_3 rfl ?_
  refine am_e_cmpF n80_4 (am_c_geF (by decide)) ?_
  refine am_e_aload_n n80_5 rfl ?_
  refine am_e_iload_n n80_6 rfl ?_
  refine am_e_aload_n n80_7 rfl ?_
  refine am_e_iload_n n80_8 rfl ?_
  refine am_e_iload_n n80_9 rfl ?_
  refine am_e_iadd (w := 55) n80_10 (by decide) ?_
  refine am_e_iaload (v := 0) (q := 55) n80_11 rfl (by decide) (by decide) (f170_55 (h := h) hT) ?_
  refine am_e_iastore (q := 27) n80_12 rfl (by decide) (by decide) ?_
  refine am_e_iinc (w := 28) (ls' := [(2, .int 28), (0, .ref 170), (1, .int 28)]) n80_13 rfl rfl (by decide) rfl ?_
  refine am_e_goto c80_14 t80_14 ?_
  refine am_e_iload_n n80_2 rfl ?_
  refine am_e_iload_n n80_3 rfl ?_
  refine am_e_cmpT n80_4 (am_c_geT (by decide)) t80_4 ?_
  refine am_e_vret c80_15 rfl rfl ?_
  refine am_e_aload_n n79_32 rfl ?_
  refine am_e_getf (v := .ref 171) n79_33 rfl (f164_26 (h := h) hT) ?_
  refine am_e_bipush (w := 8) n79_34 (by decide) ?_
  refine am_e_callS (L := [(0, .ref 171), (1, .int 8)]) n79_35 rfl rfl rfl rfl rfl rfl rfl ?_
  refine am_e_iconst (w := 0) n80_0 rfl ?_
  refine am_e_istore_n (ls' := [(2, .int 0), (0, .ref 171), (1, .int 8)]) n80_1 rfl rfl ?_
  refine am_e_iload_n n80_2 rfl ?_
  refine am_e_iload_n n80_3 rfl ?_
  refine am_e_cmpF n80_4 (am_c_geF (by decide)) ?_
  refine am_e_aload_n n80_5 rfl ?_
  refine am_e_iload_n n80_6 rfl ?_
  refine am_e_aload_n n80_7 rfl ?_
  refine am_e_iload_n n80_8 rfl ?_
  refine am_e_iload_n n80_9 rfl ?_
  refine am_e_iadd (w := 8) n80_10 (by decide) ?_
  refine am_e_iaload (v := 0) (q := 8) n80_11 rfl (by decide) (by decide) (f171_8 (h := h) hT) ?_
  refine am_e_iastore (q := 0) n80_12 rfl (by decide) (by decide) ?_
  refine am_e_iinc (w := 1) (ls' := [(2, .int 1), (0, .ref 171), (1, .int 8)]) n80_13 rfl rfl (by decide) rfl ?_
  refine am_e_goto c80_14 t80_14 ?_
  refine am_e_iload_n n80_2 rfl ?_
  refine am_e_iload_n n80_3 rfl ?_
  refine am_e_cmpF n80_4 (am_c_geF (by decide)) ?_
  refine am_e_aload_n n80_5 rfl ?_
  refine am_e_iload_n n80_6 rfl ?_
  refine am_e_aload_n n80_7 rfl ?_
  refine am_e_iload_n n80_8 rfl ?_
  refine am_e_iload_n n80_9 rfl ?_
  refine am_e_iadd (w := 9) n80_10 (by decide) ?_
  refine am_e_iaload (v := 0) (q := 9) n80_11 rfl (by decide) (by decide) (f171_9 (h := h) hT) ?_
  refine am_e_iastore (q := 1) n80_12 rfl (by decide) (by decide) ?_
  refine am_e_iinc (w := 2) (ls' := [(2, .int 2), (0, .ref 171), (1, .int 8)]) n80_13 rfl rfl (by decide) rfl ?_
  refine am_e_goto c80_14 t80_14 ?_
  refine am_e_iload_n n80_2 rfl ?_
  refine am_e_iload_n n80_3 rfl ?_
  refine am_e_cmpF n80_4 (am_c_geF (by decide)) ?_
  refine am_e_aload_n n80_5 rfl ?_
  refine am_e_iload_n n80_6 rfl ?_
  refine am_e_aload_n n80_7 rfl ?_
  refine am_e_iload_n n80_8 rfl ?_
  refine am_e_iload_n n80_9 rfl ?_
  refine am_e_iadd (w := 10) n80_10 (by decide) ?_
  refine am_e_iaload (v := 0) (q := 10) n80_11 rfl (by decide) (by decide) (f171_10 (h := h) hT) ?_
  refine am_e_iastore (q := 2) n80_12 rfl (by decide) (by decide) ?_
  refine am_e_iinc (w := 3) (ls' := [(2, .int 3), (0, .ref 171), (1, .int 8)]) n80_13 rfl rfl (by decide) rfl ?_
  refine am_e_goto c80_14 t80_14 ?_
  refine am_e_iload_n n80_2 rfl ?_
  refine am_e_iload_n n80_3 rfl ?_
  refine am_e_cmpF n80_4 (am_c_geF (by decide)) ?_
  refine am_e_aload_n n80_5 rfl ?_
  refine am_e_iload_n n80_6 rfl ?_
  refine am_e_aload_n n80_7 rfl ?_
  refine am_e_iload_n n80_8 rfl ?_
  refine am_e_iload_n n80_9 rfl ?_
  refine am_e_iadd (w := 11) n80_10 (by decide) ?_
  refine am_e_iaload (v := 0) (q := 11) n80_11 rfl (by decide) (by decide) (f171_11 (h := h) hT) ?_
  refine am_e_iastore (q := 3) n80_12 rfl (by decide) (by decide) ?_
  refine am_e_iinc (w := 4) (ls' := [(2, .int 4), (0, .ref 171), (1, .int 8)]) n80_13 rfl rfl (by decide) rfl ?_
  refine am_e_goto c80_14 t80_14 ?_
  refine am_e_iload_n n80_2 rfl ?_
  refine am_e_iload_n n80_3 rfl ?_
  refine am_e_cmpF n80_4 (am_c_geF (by decide)) ?_
  refine am_e_aload_n n80_5 rfl ?_
  refine am_e_iload_n n80_6 rfl ?_
  refine am_e_aload_n n80_7 rfl ?_
  refine am_e_iload_n n80_8 rfl ?_
  refine am_e_iload_n n80_9 rfl ?_
  refine am_e_iadd (w := 12) n80_10 (by decide) ?_
  refine am_e_iaload (v := 0) (q := 12) n80_11 rfl (by decide) (by decide) (f171_12 (h := h) hT) ?_
  refine am_e_iastore (q := 4) n80_12 rfl (by decide) (by decide) ?_
  refine am_e_iinc (w := 5) (ls' := [(2, .int 5), (0, .ref 171), (1, .int 8)]) n80_13 rfl rfl (by decide) rfl ?_
  refine am_e_goto c80_14 t80_14 ?_
  refine am_e_iload_n n80_2 rfl ?_
  refine am_e_iload_n n80_3 rfl ?_
  refine am_e_cmpF n80_4 (am_c_geF (by decide)) ?_
  refine am_e_aload_n n80_5 rfl ?_
  refine am_e_iload_n n80_6 rfl ?_
  refine am_e_aload_n n80_7 rfl ?_
  refine am_e_iload_n n80_8 rfl ?_
  refine am_e_iload_n n80_9 rfl ?_
  refine am_e_iadd (w := 13) n80_10 (by decide) ?_
  refine am_e_iaload (v := 0) (q := 13) n80_11 rfl (by decide) (by decide) (f171_13 (h := h) hT) ?_
  refine am_e_iastore (q := 5) n80_12 rfl (by decide) (by decide) ?_
  refine am_e_iinc (w := 6) (ls' := [(2, .int 6), (0, .ref 171), (1, .int 8)]) n80_13 rfl rfl (by decide) rfl ?_
  refine am_e_goto c80_14 t80_14 ?_
  refine am_e_iload_n n80_2 rfl ?_
  refine am_e_iload_n n80_3 rfl ?_
  refine am_e_cmpF n80_4 (am_c_geF (by decide)) ?_
  refine am_e_aload_n n80_5 rfl ?_
  refine am_e_iload_n n80_6 rfl ?_
  refine am_e_aload_n n80_7 rfl ?_
  refine am_e_iload_n n80_8 rfl ?_
  refine am_e_iload_n n80_9 rfl ?_
  refine am_e_iadd (w := 14) n80_10 (by decide) ?_
  refine am_e_iaload (v := 0) (q := 14) n80_11 rfl (by decide) (by decide) (f171_14 (h := h) hT) ?_
  refine am_e_iastore (q := 6) n80_12 rfl (by decide) (by decide) ?_
  refine am_e_iinc (w := 7) (ls' := [(2, .int 7), (0, .ref 171), (1, .int 8)]) n80_13 rfl rfl (by decide) rfl ?_
  refine am_e_goto c80_14 t80_14 ?_
  refine am_e_iload_n n80_2 rfl ?_
  refine am_e_iload_n n80_3 rfl ?_
  refine am_e_cmpF n80_4 (am_c_geF (by decide)) ?_
  refine am_e_aload_n n80_5 rfl ?_
  refine am_e_iload_n n80_6 rfl ?_
  refine am_e_aload_n n80_7 rfl ?_
  refine am_e_iload_n n80_8 rfl ?_
  refine am_e_iload_n n80_9 rfl ?_
  refine am_e_iadd (w := 15) n80_10 (by decide) ?_
  refine am_e_iaload (v := 0) (q := 15) n80_11 rfl (by decide) (by decide) (f171_15 (h := h) hT) ?_
  refine am_e_iastore (q := 7) n80_12 rfl (by decide) (by decide) ?_
  refine am_e_iinc (w := 8) (ls' := [(2, .int 8), (0, .ref 171), (1, .int 8)]) n80_13 rfl rfl (by decide) rfl ?_
  refine am_e_goto c80_14 t80_14 ?_
  refine am_e_iload_n n80_2 rfl ?_
  refine am_e_iload_n n80_3 rfl ?_
  refine am_e_cmpT n80_4 (am_c_geT (by decide)) t80_4 ?_
  refine am_e_vret c80_15 rfl rfl ?_
  refine am_e_aload_n n79_36 rfl ?_
  refine am_e_getf (v := .ref 172) n79_37 rfl (f164_27 (h := h) hT) ?_
  refine am_e_bipush (w := 8) n79_38 (by decide) ?_
  refine am_e_callS (L := [(0, .ref 172), (1, .int 8)]) n79_39 rfl rfl rfl rfl rfl rfl rfl ?_
  refine am_e_iconst (w := 0) n80_0 rfl ?_
  refine am_e_istore_n (ls' := [(2, .int 0), (0, .ref 172), (1, .int 8)]) n80_1 rfl rfl ?_
  refine am_e_iload_n n80_2 rfl ?_
  refine am_e_iload_n n80_3 rfl ?_
  refine am_e_cmpF n80_4 (am_c_geF (by decide)) ?_
  refine am_e_aload_n n80_5 rfl ?_
  refine am_e_iload_n n80_6 rfl ?_
  refine am_e_aload_n n80_7 rfl ?_
  refine am_e_iload_n n80_8 rfl ?_
  refine am_e_iload_n n80_9 rfl ?_
  refine am_e_iadd (w := 8) n80_10 (by decide) ?_
  refine am_e_iaload (v := 0) (q := 8) n80_11 rfl (by decide) (by decide) (f172_8 (h := h) hT) ?_
  refine am_e_iastore (q := 0) n80_12 rfl (by decide) (by decide) ?_
  refine am_e_iinc (w := 1) (ls' := [(2, .int 1), (0, .ref 172), (1, .int 8)]) n80_13 rfl rfl (by decide) rfl ?_
  refine am_e_goto c80_14 t80_14 ?_
  refine am_e_iload_n n80_2 rfl ?_
  refine am_e_iload_n n80_3 rfl ?_
  refine am_e_cmpF n80_4 (am_c_geF (by decide)) ?_
  refine am_e_aload_n n80_5 rfl ?_
  refine am_e_iload_n n80_6 rfl ?_
  refine am_e_aload_n n80_7 rfl ?_
  refine am_e_iload_n n80_8 rfl ?_
  refine am_e_iload_n n80_9 rfl ?_
  refine am_e_iadd (w := 9) n80_10 (by decide) ?_
  refine am_e_iaload (v := 0) (q := 9) n80_11 rfl (by decide) (by decide) (f172_9 (h := h) hT) ?_
  refine am_e_iastore (q := 1) n80_12 rfl (by decide) (by decide) ?_
  refine am_e_iinc (w := 2) (ls' := [(2, .int 2), (0, .ref 172), (1, .int 8)]) n80_13 rfl rfl (by decide) rfl ?_
  refine am_e_goto c80_14 t80_14 ?_
  refine am_e_iload_n n80_2 rfl ?_
  refine am_e_iload_n n80_3 rfl ?_
  refine am_e_cmpF n80_4 (am_c_geF (by decide)) ?_
  refine am_e_aload_n n80_5 rfl ?_
  refine am_e_iload_n n80_6 rfl ?_
  refine am_e_aload_n n80_7 rfl ?_
  refine am_e_iload_n n80_8 rfl ?_
  refine am_e_iload_n n80_9 rfl ?_
  refine am_e_iadd (w := 10) n80_10 (by decide) ?_
  refine am_e_iaload (v := 0) (q := 10) n80_11 rfl (by decide) (by decide) (f172_10 (h := h) hT) ?_
  refine am_e_iastore (q := 2) n80_12 rfl (by decide) (by decide) ?_
  refine am_e_iinc (w := 3) (ls' := [(2, .int 3), (0, .ref 172), (1, .int 8)]) n80_13 rfl rfl (by decide) rfl ?_
  refine am_e_goto c80_14 t80_14 ?_
  refine am_e_iload_n n80_2 rfl ?_
  refine am_e_iload_n n80_3 rfl ?_
  refine am_e_cmpF n80_4 (am_c_geF (by decide)) ?_
  refine am_e_aload_n n80_5 rfl ?_
  refine am_e_iload_n n80_6 rfl ?_
  refine am_e_aload_n n80_7 rfl ?_
  refine am_e_iload_n n80_8 rfl ?_
  refine am_e_iload_n n80_9 rfl ?_
  refine am_e_iadd (w := 11) n80_10 (by decide) ?_
  refine am_e_iaload (v := 0) (q := 11) n80_11 rfl (by decide) (by decide) (f172_11 (h := h) hT) ?_
  refine am_e_iastore (q := 3) n80_12 rfl (by decide) (by decide) ?_
  refine am_e_iinc (w := 4) (ls' := [(2, .int 4), (0, .ref 172), (1, .int 8)]) n80_13 rfl rfl (by decide) rfl ?_
  refine am_e_goto c80_14 t80_14 ?_
  refine am_e_iload_n n80_2 rfl ?_
  refine am_e_iload_n n80_3 rfl ?_
  refine am_e_cmpF n80_4 (am_c_geF (by decide)) ?_
  refine am_e_aload_n n80_5 rfl ?_
  refine am_e_iload_n n80_6 rfl ?_
  refine am_e_aload_n n80_7 rfl ?_
  refine am_e_iload_n n80_8 rfl ?_
  refine am_e_iload_n n80_9 rfl ?_
  refine am_e_iadd (w := 12) n80_10 (by decide) ?_
  refine am_e_iaload (v := 0) (q := 12) n80_11 rfl (by decide) (by decide) (f172_12 (h := h) hT) ?_
  refine am_e_iastore (q := 4) n80_12 rfl (by decide) (by decide) ?_
  refine am_e_iinc (w := 5) (ls' := [(2, .int 5), (0, .ref 172), (1, .int 8)]) n80_13 rfl rfl (by decide) rfl ?_
  refine am_e_goto c80_14 t80_14 ?_
  refine am_e_iload_n n80_2 rfl ?_
  refine am_e_iload_n n80_3 rfl ?_
  refine am_e_cmpF n80_4 (am_c_geF (by decide)) ?_
  refine am_e_aload_n n80_5 rfl ?_
  refine am_e_iload_n n80_6 rfl ?_
  refine am_e_aload_n n80_7 rfl ?_
  refine am_e_iload_n n80_8 rfl ?_
  refine am_e_iload_n n80_9 rfl ?_
  refine am_e_iadd (w := 13) n80_10 (by decide) ?_
  refine am_e_iaload (v := 0) (q := 13) n80_11 rfl (by decide) (by decide) (f172_13 (h := h) hT) ?_
  refine am_e_iastore (q := 5) n80_12 rfl (by decide) (by decide) ?_
  refine am_e_iinc (w := 6) (ls' := [(2, .int 6), (0, .ref 172), (1, .int 8)]) n80_13 rfl rfl (by decide) rfl ?_
  refine am_e_goto c80_14 t80_14 ?_
  refine am_e_iload_n n80_2 rfl ?_
  refine am_e_iload_n n80_3 rfl ?_
  refine am_e_cmpF n80_4 (am_c_geF (by decide)) ?_
  refine am_e_aload_n n80_5 rfl ?_
  refine am_e_iload_n n80_6 rfl ?_
  refine am_e_aload_n n80_7 rfl ?_
  refine am_e_iload_n n80_8 rfl ?_
  refine am_e_iload_n n80_9 rfl ?_
  refine am_e_iadd (w := 14) n80_10 (by decide) ?_
  refine am_e_iaload (v := 0) (q := 14) n80_11 rfl (by decide) (by decide) (f172_14 (h := h) hT) ?_
  refine am_e_iastore (q := 6) n80_12 rfl (by decide) (by decide) ?_
  refine am_e_iinc (w := 7) (ls' := [(2, .int 7), (0, .ref 172), (1, .int 8)]) n80_13 rfl rfl (by decide) rfl ?_
  refine am_e_goto c80_14 t80_14 ?_
  refine am_e_iload_n n80_2 rfl ?_
  refine am_e_iload_n n80_3 rfl ?_
  refine am_e_cmpF n80_4 (am_c_geF (by decide)) ?_
  refine am_e_aload_n n80_5 rfl ?_
  refine am_e_iload_n n80_6 rfl ?_
  refine am_e_aload_n n80_7 rfl ?_
  refine am_e_iload_n n80_8 rfl ?_
  refine am_e_iload_n n80_9 rfl ?_
  refine am_e_iadd (w := 15) n80_10 (by decide) ?_
  refine am_e_iaload (v := 0) (q := 15) n80_11 rfl (by decide) (by decide) (f172_15 (h := h) hT) ?_
  refine am_e_iastore (q := 7) n80_12 rfl (by decide) (by decide) ?_
  refine am_e_iinc (w := 8) (ls' := [(2, .int 8), (0, .ref 172), (1, .int 8)]) n80_13 rfl rfl (by decide) rfl ?_
  refine am_e_goto c80_14 t80_14 ?_
  refine am_e_iload_n n80_2 rfl ?_
  refine am_e_iload_n n80_3 rfl ?_
  refine am_e_cmpT n80_4 (am_c_geT (by decide)) t80_4 ?_
  refine am_e_vret c80_15 rfl rfl ?_
  refine am_e_aload_n n79_40 rfl ?_
  refine am_e_getf (v := .ref 173) n79_41 rfl (f164_28 (h := h) hT) ?_
  refine am_e_bipush (w := 6) n79_42 (by decide) ?_
  refine am_e_callS (L := [(0, .ref 173), (1, .int 6)]) n79_43 rfl rfl rfl rfl rfl rfl rfl ?_
  refine am_e_iconst (w := 0) n80_0 rfl ?_
  refine am_e_istore_n (ls' := [(2, .int 0), (0, .ref 173), (1, .int 6)]) n80_1 rfl rfl ?_
  refine am_e_iload_n n80_2 rfl ?_
  refine am_e_iload_n n80_3 rfl ?_
  refine am_e_cmpF n80_4 (am_c_geF (by decide)) ?_
  refine am_e_aload_n n80_5 rfl ?_
  refine am_e_iload_n n80_6 rfl ?_
  refine am_e_aload_n n80_7 rfl ?_
  refine am_e_iload_n n80_8 rfl ?_
  refine am_e_iload_n n80_9 rfl ?_
  refine am_e_iadd (w := 6) n80_10 (by decide) ?_
  refine am_e_iaload (v := 0) (q := 6) n80_11 rfl (by decide) (by decide) (f173_6 (h := h) hT) ?_
  refine am_e_iastore (q := 0) n80_12 rfl (by decide) (by decide) ?_
  refine am_e_iinc (w := 1) (ls' := [(2, .int 1), (0, .ref 173), (1, .int 6)]) n80_13 rfl rfl (by decide) rfl ?_
  refine am_e_goto c80_14 t80_14 ?_
  refine am_e_iload_n n80_2 rfl ?_
  refine am_e_iload_n n80_3 rfl ?_
  refine am_e_cmpF n80_4 (am_c_geF (by decide)) ?_
  refine am_e_aload_n n80_5 rfl ?_
  refine am_e_iload_n n80_6 rfl ?_
  refine am_e_aload_n n80_7 rfl ?_
  refine am_e_iload_n n80_8 rfl ?_
  refine am_e_iload_n n80_9 rfl ?_
  refine am_e_iadd (w := 7) n80_10 (by decide) ?_
  refine am_e_iaload (v := 0) (q := 7) n80_11 rfl (by decide) (by decide) (f173_7 (h := h) hT) ?_
  refine am_e_iastore (q := 1) n80_12 rfl (by decide) (by decide) ?_
  refine am_e_iinc (w := 2) (ls' := [(2, .int 2), (0, .ref 173), (1, .int 6)]) n80_13 rfl rfl (by decide) rfl ?_
  refine am_e_goto c80_14 t80_14 ?_
  refine am_e_iload_n n80_2 rfl ?_
  refine am_e_iload_n n80_3 rfl ?_
  refine am_e_cmpF n80_4 (am_c_geF (by decide)) ?_
  refine am_e_aload_n n80_5 rfl ?_
  refine am_e_iload_n n80_6 rfl ?_
  refine am_e_aload_n n80_7 rfl ?_
  refine am_e_iload_n n80_8 rfl ?_
  refine am_e_iload_n n80_9 rfl ?_
  refine am_e_iadd (w := 8) n80_10 (by decide) ?_
  refine am_e_iaload (v := 0) (q := 8) n80_11 rfl (by decide) (by decide) (f173_8 (h := h) hT) ?_
  refine am_e_iastore (q := 2) n80_12 rfl (by decide) (by decide) ?_
  refine am_e_iinc (w := 3) (ls' := [(2, .int 3), (0, .ref 173), (1, .int 6)]) n80_13 rfl rfl (by decide) rfl ?_
  refine am_e_goto c80_14 t80_14 ?_
  refine am_e_iload_n n80_2 rfl ?_
  refine am_e_iload_n n80_3 rfl ?_
  refine am_e_cmpF n80_4 (am_c_geF (by decide)) ?_
  refine am_e_aload_n n80_5 rfl ?_
  refine am_e_iload_n n80_6 rfl ?_
  refine am_e_aload_n n80_7 rfl ?_
  refine am_e_iload_n n80_8 rfl ?_
  refine am_e_iload_n n80_9 rfl ?_
  refine am_e_iadd (w := 9) n80_10 (by decide) ?_
  refine am_e_iaload (v := 0) (q := 9) n80_11 rfl (by decide) (by decide) (f173_9 (h := h) hT) ?_
  refine am_e_iastore (q := 3) n80_12 rfl (by decide) (by decide) ?_
  refine am_e_iinc (w := 4) (ls' := [(2, .int 4), (0, .ref 173), (1, .int 6)]) n80_13 rfl rfl (by decide) rfl ?_
  refine am_e_goto c80_14 t80_14 ?_
  refine am_e_iload_n n80_2 rfl ?_
  refine am_e_iload_n n80_3 rfl ?_
  refine am_e_cmpF n80_4 (am_c_geF (by decide)) ?_
  refine am_e_aload_n n80_5 rfl ?_
  refine am_e_iload_n n80_6 rfl ?_
  refine am_e_aload_n n80_7 rfl ?_
  refine am_e_iload_n n80_8 rfl ?_
  refine am_e_iload_n n80_9 rfl ?_
  refine am_e_iadd (w := 10) n80_10 (by decide) ?_
  refine am_e_iaload (v := 0) (q := 10) n80_11 rfl (by decide) (by decide) (f173_10 (h := h) hT) ?_
  refine am_e_iastore (q := 4) n80_12 rfl (by decide) (by decide) ?_
  refine am_e_iinc (w := 5) (ls' := [(2, .int 5), (0, .ref 173), (1, .int 6)]) n80_13 rfl rfl (by decide) rfl ?_
  refine am_e_goto c80_14 t80_14 ?_
  refine am_e_iload_n n80_2 rfl ?_
  refine am_e_iload_n n80_3 rfl ?_
  refine am_e_cmpF n80_4 (am_c_geF (by decide)) ?_
  refine am_e_aload_n n80_5 rfl ?_
  refine am_e_iload_n n80_6 rfl ?_
  refine am_e_aload_n n80_7 rfl ?_
  refine am_e_iload_n n80_8 rfl ?_
  refine am_e_iload_n n80_9 rfl ?_
  refine am_e_iadd (w := 11) n80_10 (by decide) ?_
  refine am_e_iaload (v := 0) (q := 11) n80_11 rfl (by decide) (by decide) (f173_11 (h := h) hT) ?_
  refine am_e_iastore (q := 5) n80_12 rfl (by decide) (by decide) ?_
  refine am_e_iinc (w := 6) (ls' := [(2, .int 6), (0, .ref 173), (1, .int 6)]) n80_13 rfl rfl (by decide) rfl ?_
  refine am_e_goto c80_14 t80_14 ?_
  refine am_e_iload_n n80_2 rfl ?_
  refine am_e_iload_n n80_3 rfl ?_
  refine am_e_cmpT n80_4 (am_c_geT (by decide)) t80_4 ?_
  refine am_e_vret c80_15 rfl rfl ?_
  refine am_e_aload_n n79_44 rfl ?_
  refine am_e_getf (v := .ref 174) n79_45 rfl (f164_29 (h := h) hT) ?_
  refine am_e_bipush (w := 6) n79_46 (by decide) ?_
  refine am_e_callS (L := [(0, .ref 174), (1, .int 6)]) n79_47 rfl rfl rfl rfl rfl rfl rfl ?_
  refine am_e_iconst (w := 0) n80_0 rfl ?_
  refine am_e_istore_n (ls' := [(2, .int 0), (0, .ref 174), (1, .int 6)]) n80_1 rfl rfl ?_
  refine am_e_iload_n n80_2 rfl ?_
  refine am_e_iload_n n80_3 rfl ?_
  refine am_e_cmpF n80_4 (am_c_geF (by decide)) ?_
  refine am_e_aload_n n80_5 rfl ?_
  refine am_e_iload_n n80_6 rfl ?_
  refine am_e_aload_n n80_7 rfl ?_
  refine am_e_iload_n n80_8 rfl ?_
  refine am_e_iload_n n80_9 rfl ?_
  refine am_e_iadd (w := 6) n80_10 (by decide) ?_
  refine am_e_iaload (v := 0) (q := 6) n80_11 rfl (by decide) (by decide) (f174_6 (h := h) hT) ?_
  refine am_e_iastore (q := 0) n80_12 rfl (by decide) (by decide) ?_
  refine am_e_iinc (w := 1) (ls' := [(2, .int 1), (0, .ref 174), (1, .int 6)]) n80_13 rfl rfl (by decide) rfl ?_
  refine am_e_goto c80_14 t80_14 ?_
  refine am_e_iload_n n80_2 rfl ?_
  refine am_e_iload_n n80_3 rfl ?_
  refine am_e_cmpF n80_4 (am_c_geF (by decide)) ?_
  refine am_e_aload_n n80_5 rfl ?_
  refine am_e_iload_n n80_6 rfl ?_
  refine am_e_aload_n n80_7 rfl ?_
  refine am_e_iload_n n80_8 rfl ?_
  refine am_e_iload_n n80_9 rfl ?_
  refine am_e_iadd (w := 7) n80_10 (by decide) ?_
  refine am_e_iaload (v := 0) (q := 7) n80_11 rfl (by decide) (by decide) (f174_7 (h := h) hT) ?_
  refine am_e_iastore (q := 1) n80_12 rfl (by decide) (by decide) ?_
  refine am_e_iinc (w := 2) (ls' := [(2, .int 2), (0, .ref 174), (1, .int 6)]) n80_13 rfl rfl (by decide) rfl ?_
  refine am_e_goto c80_14 t80_14 ?_
  refine am_e_iload_n n80_2 rfl ?_
  refine am_e_iload_n n80_3 rfl ?_
  refine am_e_cmpF n80_4 (am_c_geF (by decide)) ?_
  refine am_e_aload_n n80_5 rfl ?_
  refine am_e_iload_n n80_6 rfl ?_
  refine am_e_aload_n n80_7 rfl ?_
  refine am_e_iload_n n80_8 rfl ?_
  refine am_e_iload_n n80_9 rfl ?_
  refine am_e_iadd (w := 8) n80_10 (by decide) ?_
  refine am_e_iaload (v := 0) (q := 8) n80_11 rfl (by decide) (by decide) (f174_8 (h := h) hT) ?_
  refine am_e_iastore (q := 2) n80_12 rfl (by decide) (by decide) ?_
  refine am_e_iinc (w := 3) (ls' := [(2, .int 3), (0, .ref 174), (1, .int 6)]) n80_13 rfl rfl (by decide) rfl ?_
  refine am_e_goto c80_14 t80_14 ?_
  refine am_e_iload_n n80_2 rfl ?_
  refine am_e_iload_n n80_3 rfl ?_
  refine am_e_cmpF n80_4 (am_c_geF (by decide)) ?_
  refine am_e_aload_n n80_5 rfl ?_
  refine am_e_iload_n n80_6 rfl ?_
  refine am_e_aload_n n80_7 rfl ?_
  refine am_e_iload_n n80_8 rfl ?_
  refine am_e_iload_n n80_9 rfl ?_
  refine am_e_iadd (w := 9) n80_10 (by decide) ?_
  refine am_e_iaload (v := 0) (q := 9) n80_11 rfl (by decide) (by decide) (f174_9 (h := h) hT) ?_
  refine am_e_iastore (q := 3) n80_12 rfl (by decide) (by decide) ?_
  refine am_e_iinc (w := 4) (ls' := [(2, .int 4), (0, .ref 174), (1, .int 6)]) n80_13 rfl rfl (by decide) rfl ?_
  refine am_e_goto c80_14 t80_14 ?_
  refine am_e_iload_n n80_2 rfl ?_
  refine am_e_iload_n n80_3 rfl ?_
  refine am_e_cmpF n80_4 (am_c_geF (by decide)) ?_
  refine am_e_aload_n n80_5 rfl ?_
  refine am_e_iload_n n80_6 rfl ?_
  refine am_e_aload_n n80_7 rfl ?_
  refine am_e_iload_n n80_8 rfl ?_
  refine am_e_iload_n n80_9 rfl ?_
  refine am_e_iadd (w := 10) n80_10 (by decide) ?_
  refine am_e_iaload (v := 0) (q := 10) n80_11 rfl (by decide) (by decide) (f174_10 (h := h) hT) ?_
  refine am_e_iastore (q := 4) n80_12 rfl (by decide) (by decide) ?_
  refine am_e_iinc (w := 5) (ls' := [(2, .int 5), (0, .ref 174), (1, .int 6)]) n80_13 rfl rfl (by decide) rfl ?_
  refine am_e_goto c80_14 t80_14 ?_
  refine am_e_iload_n n80_2 rfl ?_
  refine am_e_iload_n n80_3 rfl ?_
  refine am_e_cmpF n80_4 (am_c_geF (by decide)) ?_
  refine am_e_aload_n n80_5 rfl ?_
  refine am_e_iload_n n80_6 rfl ?_
  refine am_e_aload_n n80_7 rfl ?_
  refine am_e_iload_n n80_8 rfl ?_
  refine am_e_iload_n n80_9 rfl ?_
  refine am_e_iadd (w := 11) n80_10 (by decide) ?_
  refine am_e_iaload (v := 0) (q := 11) n80_11 rfl (by decide) (by decide) (f174_11 (h := h) hT) ?_
  refine am_e_iastore (q := 5) n80_12 rfl (by decide) (by decide) ?_
  refine am_e_iinc (w := 6) (ls' := [(2, .int 6), (0, .ref 174), (1, .int 6)]) n80_13 rfl rfl (by decide) rfl ?_
  refine am_e_goto c80_14 t80_14 ?_
  refine am_e_iload_n n80_2 rfl ?_
  refine am_e_iload_n n80_3 rfl ?_
  refine am_e_cmpT n80_4 (am_c_geT (by decide)) t80_4 ?_
  refine am_e_vret c80_15 rfl rfl ?_
  refine am_e_aload_n n79_48 rfl ?_
  refine am_e_getf (v := .ref 175) n79_49 rfl (f164_30 (h := h) hT) ?_
  refine am_e_iconst (w := 3) n79_50 rfl ?_
  refine am_e_callS (L := [(0, .ref 175), (1, .int 3)]) n79_51 rfl rfl rfl rfl rfl rfl rfl ?_
  refine am_e_iconst (w := 0) n80_0 rfl ?_
  refine am_e_istore_n (ls' := [(2, .int 0), (0, .ref 175), (1, .int 3)]) n80_1 rfl rfl ?_
  refine am_e_iload_n n80_2 rfl ?_
  refine am_e_iload_n n80_3 rfl ?_
  refine am_e_cmpF n80_4 (am_c_geF (by decide)) ?_
  refine am_e_aload_n n80_5 rfl ?_
  refine am_e_iload_n n80_6 rfl ?_
  refine am_e_aload_n n80_7 rfl ?_
  refine am_e_iload_n n80_8 rfl ?_
  refine am_e_iload_n n80_9 rfl ?_
  refine am_e_iadd (w := 3) n80_10 (by decide) ?_
  refine am_e_iaload (v := 0) (q := 3) n80_11 rfl (by decide) (by decide) (f175_3 (h := h) hT) ?_
  refine am_e_iastore (q := 0) n80_12 rfl (by decide) (by decide) ?_
  refine am_e_iinc (w := 1) (ls' := [(2, .int 1), (0, .ref 175), (1, .int 3)]) n80_13 rfl rfl (by decide) rfl ?_
  refine am_e_goto c80_14 t80_14 ?_
  refine am_e_iload_n n80_2 rfl ?_
  refine am_e_iload_n n80_3 rfl ?_
  refine am_e_cmpF n80_4 (am_c_geF (by decide)) ?_
  refine am_e_aload_n n80_5 rfl ?_
  refine am_e_iload_n n80_6 rfl ?_
  refine am_e_aload_n n80_7 rfl ?_
  refine am_e_iload_n n80_8 rfl ?_
  refine am_e_iload_n n80_9 rfl ?_
  refine am_e_iadd (w := 4) n80_10 (by decide) ?_
  refine am_e_iaload (v := 0) (q := 4) n80_11 rfl (by decide) (by decide) (f175_4 (h := h) hT) ?_
  refine am_e_iastore (q := 1) n80_12 rfl (by decide) (by decide) ?_
  refine am_e_iinc (w := 2) (ls' := [(2, .int 2), (0, .ref 175), (1, .int 3)]) n80_13 rfl rfl (by decide) rfl ?_
  refine am_e_goto c80_14 t80_14 ?_
  refine am_e_iload_n n80_2 rfl ?_
  refine am_e_iload_n n80_3 rfl ?_
  refine am_e_cmpF n80_4 (am_c_geF (by decide)) ?_
  refine am_e_aload_n n80_5 rfl ?_
  refine am_e_iload_n n80_6 rfl ?_
  refine am_e_aload_n n80_7 rfl ?_
  refine am_e_iload_n n80_8 rfl ?_
  refine am_e_iload_n n80_9 rfl ?_
  refine am_e_iadd (w := 5) n80_10 (by decide) ?_
  refine am_e_iaload (v := 0) (q := 5) n80_11 rfl (by decide) (by decide) (f175_5 (h := h) hT) ?_
  refine am_e_iastore (q := 2) n80_12 rfl (by decide) (by decide) ?_
  refine am_e_iinc (w := 3) (ls' := [(2, .int 3), (0, .ref 175), (1, .int 3)]) n80_13 rfl rfl (by decide) rfl ?_
  refine am_e_goto c80_14 t80_14 ?_
  refine am_e_iload_n n80_2 rfl ?_
  refine am_e_iload_n n80_3 rfl ?_
  refine am_e_cmpT n80_4 (am_c_geT (by decide)) t80_4 ?_
  refine am_e_vret c80_15 rfl rfl ?_
  refine am_e_aload_n n79_52 rfl ?_
  refine am_e_getf (v := .ref 176) n79_53 rfl (f164_31 (h := h) hT) ?_
  refine am_e_iconst (w := 3) n79_54 rfl ?_
  refine am_e_callS (L := [(0, .ref 176), (1, .int 3)]) n79_55 rfl rfl rfl rfl rfl rfl rfl ?_
  refine am_e_iconst (w := 0) n80_0 rfl ?_
  refine am_e_istore_n (ls' := [(2, .int 0), (0, .ref 176), (1, .int 3)]) n80_1 rfl rfl ?_
  refine am_e_iload_n n80_2 rfl ?_
  refine am_e_iload_n n80_3 rfl ?_
  refine am_e_cmpF n80_4 (am_c_geF (by decide)) ?_
  refine am_e_aload_n n80_5 rfl ?_
  refine am_e_iload_n n80_6 rfl ?_
  refine am_e_aload_n n80_7 rfl ?_
  refine am_e_iload_n n80_8 rfl ?_
  refine am_e_iload_n n80_9 rfl ?_
  refine am_e_iadd (w := 3) n80_10 (by decide) ?_
  refine am_e_iaload (v := 0) (q := 3) n80_11 rfl (by decide) (by decide) (f176_3 (h := h) hT) ?_
  refine am_e_iastore (q := 0) n80_12 rfl (by decide) (by decide) ?_
  refine am_e_iinc (w := 1) (ls' := [(2, .int 1), (0, .ref 176), (1, .int 3)]) n80_13 rfl rfl (by decide) rfl ?_
  refine am_e_goto c80_14 t80_14 ?_
  refine am_e_iload_n n80_2 rfl ?_
  refine am_e_iload_n n80_3 rfl ?_
  refine am_e_cmpF n80_4 (am_c_geF (by decide)) ?_
  refine am_e_aload_n n80_5 rfl ?_
  refine am_e_iload_n n80_6 rfl ?_
  refine am_e_aload_n n80_7 rfl ?_
  refine am_e_iload_n n80_8 rfl ?_
  refine am_e_iload_n n80_9 rfl ?_
  refine am_e_iadd (w := 4) n80_10 (by decide) ?_
  refine am_e_iaload (v := 0) (q := 4) n80_11 rfl (by decide) (by decide) (f176_4 (h := h) hT) ?_
  refine am_e_iastore (q := 1) n80_12 rfl (by decide) (by decide) ?_
  refine am_e_iinc (w := 2) (ls' := [(2, .int 2), (0, .ref 176), (1, .int 3)]) n80_13 rfl rfl (by decide) rfl ?_
  refine am_e_goto c80_14 t80_14 ?_
  refine am_e_iload_n n80_2 rfl ?_
  refine am_e_iload_n n80_3 rfl ?_
  refine am_e_cmpF n80_4 (am_c_geF (by decide)) ?_
  refine am_e_aload_n n80_5 rfl ?_
  refine am_e_iload_n n80_6 rfl ?_
  refine am_e_aload_n n80_7 rfl ?_
  refine am_e_iload_n n80_8 rfl ?_
  refine am_e_iload_n n80_9 rfl ?_
  refine am_e_iadd (w := 5) n80_10 (by decide) ?_
  refine am_e_iaload (v := 0) (q := 5) n80_11 rfl (by decide) (by decide) (f176_5 (h := h) hT) ?_
  refine am_e_iastore (q := 2) n80_12 rfl (by decide) (by decide) ?_
  refine am_e_iinc (w := 3) (ls' := [(2, .int 3), (0, .ref 176), (1, .int 3)]) n80_13 rfl rfl (by decide) rfl ?_
  refine am_e_goto c80_14 t80_14 ?_
  refine am_e_iload_n n80_2 rfl ?_
  refine am_e_iload_n n80_3 rfl ?_
  refine am_e_cmpT n80_4 (am_c_geT (by decide)) t80_4 ?_
  refine am_e_vret c80_15 rfl rfl ?_
  refine am_e_aload_n n79_56 rfl ?_
  refine am_e_getf (v := .ref 177) n79_57 rfl (f164_32 (h := h) hT) ?_
  refine am_e_iconst (w := 3) n79_58 rfl ?_
  refine am_e_callS (L := [(0, .ref 177), (1, .int 3)]) n79_59 rfl rfl rfl rfl rfl rfl rfl ?_
  refine am_e_iconst (w := 0) n80_0 rfl ?_
  refine am_e_istore_n (ls' := [(2, .int 0), (0, .ref 177), (1, .int 3)]) n80_1 rfl rfl ?_
  refine am_e_iload_n n80_2 rfl ?_
  refine am_e_iload_n n80_3 rfl ?_
  refine am_e_cmpF n80_4 (am_c_geF (by decide)) ?_
  refine am_e_aload_n n80_5 rfl ?_
  refine am_e_iload_n n80_6 rfl ?_
  refine am_e_aload_n n80_7 rfl ?_
  refine am_e_iload_n n80_8 rfl ?_
  refine am_e_iload_n n80_9 rfl ?_
  refine am_e_iadd (w := 3) n80_10 (by decide) ?_
  refine am_e_iaload (v := 0) (q := 3) n80_11 rfl (by decide) (by decide) (f177_3 (h := h) hT) ?_
  refine am_e_iastore (q := 0) n80_12 rfl (by decide) (by decide) ?_
  refine am_e_iinc (w := 1) (ls' := [(2, .int 1), (0, .ref 177), (1, .int 3)]) n80_13 rfl rfl (by decide) rfl ?_
  refine am_e_goto c80_14 t80_14 ?_
  refine am_e_iload_n n80_2 rfl ?_
  refine am_e_iload_n n80_3 rfl ?_
  refine am_e_cmpF n80_4 (am_c_geF (by decide)) ?_
  refine am_e_aload_n n80_5 rfl ?_
  refine am_e_iload_n n80_6 rfl ?_
  refine am_e_aload_n n80_7 rfl ?_
  refine am_e_iload_n n80_8 rfl ?_
  refine am_e_iload_n n80_9 rfl ?_
  refine am_e_iadd (w := 4) n80_10 (by decide) ?_
  refine am_e_iaload (v := 0) (q := 4) n80_11 rfl (by decide) (by decide) (f177_4 (h := h) hT) ?_
  refine am_e_iastore (q := 1) n80_12 rfl (by decide) (by decide) ?_
  refine am_e_iinc (w := 2) (ls' := [(2, .int 2), (0, .ref 177), (1, .int 3)]) n80_13 rfl rfl (by decide) rfl ?_
  refine am_e_goto c80_14 t80_14 ?_
  refine am_e_iload_n n80_2 rfl ?_
  refine am_e_iload_n n80_3 rfl ?_
  refine am_e_cmpF n80_4 (am_c_geF (by decide)) ?_
  refine am_e_aload_n n80_5 rfl ?_
  refine am_e_iload_n n80_6 rfl ?_
  refine am_e_aload_n n80_7 rfl ?_
  refine am_e_iload_n n80_8 rfl ?_
  refine am_e_iload_n n80_9 rfl ?_
  refine am_e_iadd (w := 5) n80_10 (by decide) ?_
  refine am_e_iaload (v := 0) (q := 5) n80_11 rfl (by decide) (by decide) (f177_5 (h := h) hT) ?_
  refine am_e_iastore (q := 2) n80_12 rfl (by decide) (by decide) ?_
  refine am_e_iinc (w := 3) (ls' := [(2, .int 3), (0, .ref 177), (1, .int 3)]) n80_13 rfl rfl (by decide) rfl ?_
  refine am_e_goto c80_14 t80_14 ?_
  refine am_e_iload_n n80_2 rfl ?_
  refine am_e_iload_n n80_3 rfl ?_
  refine am_e_cmpT n80_4 (am_c_geT (by decide)) t80_4 ?_
  refine am_e_vret c80_15 rfl rfl ?_
  refine am_e_iconst (w := 0) n79_60 rfl ?_
  refine am_e_istore_n (ls' := [(1, .int 0), (0, .ref 164)]) n79_61 rfl rfl ?_
  refine am_e_iload_n n79_62 rfl ?_
  refine am_e_iconst (w := 3) n79_63 rfl ?_
  refine am_e_cmpF n79_64 (am_c_geF (by decide)) ?_
  refine am_e_aload_n n79_65 rfl ?_
  refine am_e_getf (v := .ref 178) n79_66 rfl (f164_33 (h := h) hT) ?_
  refine am_e_iload_n n79_67 rfl ?_
  refine am_e_aload_n n79_68 rfl ?_
  refine am_e_getf (v := .ref 178) n79_69 rfl (f164_33 (h := h) hT) ?_
  refine am_e_iconst (w := 3) n79_70 rfl ?_
  refine am_e_iload_n n79_71 rfl ?_
  refine am_e_iadd (w := 3) n79_72 (by decide) ?_
  refine am_e_baload (v := 0) (q := 3) n79_73 rfl (by decide) (by decide) rfl ?_
  refine am_e_bastore (q := 0) n79_74 rfl rfl (by decide) (by decide) ?_
  refine am_e_iinc (w := 1) (ls' := [(1, .int 1), (0, .ref 164)]) n79_75 rfl rfl (by decide) rfl ?_
  refine am_e_goto c79_76 t79_76 ?_
  refine am_e_iload_n n79_62 rfl ?_
  refine am_e_iconst (w := 3) n79_63 rfl ?_
  refine am_e_cmpF n79_64 (am_c_geF (by decide)) ?_
  refine am_e_aload_n n79_65 rfl ?_
  refine am_e_getf (v := .ref 178) n79_66 rfl (f164_33 (h := h) hT) ?_
  refine am_e_iload_n n79_67 rfl ?_
  refine am_e_aload_n n79_68 rfl ?_
  refine am_e_getf (v := .ref 178) n79_69 rfl (f164_33 (h := h) hT) ?_
  refine am_e_iconst (w := 3) n79_70 rfl ?_
  refine am_e_iload_n n79_71 rfl ?_
  refine am_e_iadd (w := 4) n79_72 (by decide) ?_
  refine am_e_baload (v := 0) (q := 4) n79_73 rfl (by decide) (by decide) rfl ?_
  refine am_e_bastore (q := 1) n79_74 rfl rfl (by decide) (by decide) ?_
  refine am_e_iinc (w := 2) (ls' := [(1, .int 2), (0, .ref 164)]) n79_75 rfl rfl (by decide) rfl ?_
  refine am_e_goto c79_76 t79_76 ?_
  refine am_e_iload_n n79_62 rfl ?_
  refine am_e_iconst (w := 3) n79_63 rfl ?_
  refine am_e_cmpF n79_64 (am_c_geF (by decide)) ?_
  refine am_e_aload_n n79_65 rfl ?_
  refine am_e_getf (v := .ref 178) n79_66 rfl (f164_33 (h := h) hT) ?_
  refine am_e_iload_n n79_67 rfl ?_
  refine am_e_aload_n n79_68 rfl ?_
  refine am_e_getf (v := .ref 178) n79_69 rfl (f164_33 (h := h) hT) ?_
  refine am_e_iconst (w := 3) n79_70 rfl ?_
  refine am_e_iload_n n79_71 rfl ?_
  refine am_e_iadd (w := 5) n79_72 (by decide) ?_
  refine am_e_baload (v := 0) (q := 5) n79_73 rfl (by decide) (by decide) rfl ?_
  refine am_e_bastore (q := 2) n79_74 rfl rfl (by decide) (by decide) ?_
  refine am_e_iinc (w := 3) (ls' := [(1, .int 3), (0, .ref 164)]) n79_75 rfl rfl (by decide) rfl ?_
  refine am_e_goto c79_76 t79_76 ?_
  refine am_e_iload_n n79_62 rfl ?_
  refine am_e_iconst (w := 3) n79_63 rfl ?_
  refine am_e_cmpT n79_64 (am_c_geT (by decide)) t79_64 ?_
  refine am_e_aload_n n79_77 rfl ?_
  refine am_e_getf (v := .ref 179) n79_78 rfl (f164_34 (h := h) hT) ?_
  refine am_e_iconst (w := 3) n79_79 rfl ?_
  refine am_e_callS (L := [(0, .ref 179), (1, .int 3)]) n79_80 rfl rfl rfl rfl rfl rfl rfl ?_
  refine am_e_iconst (w := 0) n80_0 rfl ?_
  refine am_e_istore_n (ls' := [(2, .int 0), (0, .ref 179), (1, .int 3)]) n80_1 rfl rfl ?_
  refine am_e_iload_n n80_2 rfl ?_
  refine am_e_iload_n n80_3 rfl ?_
  refine am_e_cmpF n80_4 (am_c_geF (by decide)) ?_
  refine am_e_aload_n n80_5 rfl ?_
  refine am_e_iload_n n80_6 rfl ?_
  refine am_e_aload_n n80_7 rfl ?_
  refine am_e_iload_n n80_8 rfl ?_
  refine am_e_iload_n n80_9 rfl ?_
  refine am_e_iadd (w := 3) n80_10 (by decide) ?_
  refine am_e_iaload (v := 0) (q := 3) n80_11 rfl (by decide) (by decide) (f179_3 (h := h) hT) ?_
  refine am_e_iastore (q := 0) n80_12 rfl (by decide) (by decide) ?_
  refine am_e_iinc (w := 1) (ls' := [(2, .int 1), (0, .ref 179), (1, .int 3)]) n80_13 rfl rfl (by decide) rfl ?_
  refine am_e_goto c80_14 t80_14 ?_
  refine am_e_iload_n n80_2 rfl ?_
  refine am_e_iload_n n80_3 rfl ?_
  refine am_e_cmpF n80_4 (am_c_geF (by decide)) ?_
  refine am_e_aload_n n80_5 rfl ?_
  refine am_e_iload_n n80_6 rfl ?_
  refine am_e_aload_n n80_7 rfl ?_
  refine am_e_iload_n n80_8 rfl ?_
  refine am_e_iload_n n80_9 rfl ?_
  refine am_e_iadd (w := 4) n80_10 (by decide) ?_
  refine am_e_iaload (v := 0) (q := 4) n80_11 rfl (by decide) (by decide) (f179_4 (h := h) hT) ?_
  refine am_e_iastore (q := 1) n80_12 rfl (by decide) (by decide) ?_
  refine am_e_iinc (w := 2) (ls' := [(2, .int 2), (0, .ref 179), (1, .int 3)]) n80_13 rfl rfl (by decide) rfl ?_
  refine am_e_goto c80_14 t80_14 ?_
  refine am_e_iload_n n80_2 rfl ?_
  refine am_e_iload_n n80_3 rfl ?_
  refine am_e_cmpF n80_4 (am_c_geF (by decide)) ?_
  refine am_e_aload_n n80_5 rfl ?_
  refine am_e_iload_n n80_6 rfl ?_
  refine am_e_aload_n n80_7 rfl ?_
  refine am_e_iload_n n80_8 rfl ?_
  refine am_e_iload_n n80_9 rfl ?_
  refine am_e_iadd (w := 5) n80_10 (by decide) ?_
  refine am_e_iaload (v := 0) (q := 5) n80_11 rfl (by decide) (by decide) (f179_5 (h := h) hT) ?_
  refine am_e_iastore (q := 2) n80_12 rfl (by decide) (by decide) ?_
  refine am_e_iinc (w := 3) (ls' := [(2, .int 3), (0, .ref 179), (1, .int 3)]) n80_13 rfl rfl (by decide) rfl ?_
  refine am_e_goto c80_14 t80_14 ?_
  refine am_e_iload_n n80_2 rfl ?_
  refine am_e_iload_n n80_3 rfl ?_
  refine am_e_cmpT n80_4 (am_c_geT (by decide)) t80_4 ?_
  refine am_e_vret c80_15 rfl rfl ?_
  refine am_e_aload_n n79_81 rfl ?_
  refine am_e_getf (v := .ref 180) n79_82 rfl (f164_35 (h := h) hT) ?_
  refine am_e_iconst (w := 3) n79_83 rfl ?_
  refine am_e_callS (L := [(0, .ref 180), (1, .int 3)]) n79_84 rfl rfl rfl rfl rfl rfl rfl ?_
  refine am_e_iconst (w := 0) n80_0 rfl ?_
  refine am_e_istore_n (ls' := [(2, .int 0), (0, .ref 180), (1, .int 3)]) n80_1 rfl rfl ?_
  refine am_e_iload_n n80_2 rfl ?_
  refine am_e_iload_n n80_3 rfl ?_
  refine am_e_cmpF n80_4 (am_c_geF (by decide)) ?_
  refine am_e_aload_n n80_5 rfl ?_
  refine am_e_iload_n n80_6 rfl ?_
  refine am_e_aload_n n80_7 rfl ?_
  refine am_e_iload_n n80_8 rfl ?_
  refine am_e_iload_n n80_9 rfl ?_
  refine am_e_iadd (w := 3) n80_10 (by decide) ?_
  refine am_e_iaload (v := 0) (q := 3) n80_11 rfl (by decide) (by decide) (f180_3 (h := h) hT) ?_
  refine am_e_iastore (q := 0) n80_12 rfl (by decide) (by decide) ?_
  refine am_e_iinc (w := 1) (ls' := [(2, .int 1), (0, .ref 180), (1, .int 3)]) n80_13 rfl rfl (by decide) rfl ?_
  refine am_e_goto c80_14 t80_14 ?_
  refine am_e_iload_n n80_2 rfl ?_
  refine am_e_iload_n n80_3 rfl ?_
  refine am_e_cmpF n80_4 (am_c_geF (by decide)) ?_
  refine am_e_aload_n n80_5 rfl ?_
  refine am_e_iload_n n80_6 rfl ?_
  refine am_e_aload_n n80_7 rfl ?_
  refine am_e_iload_n n80_8 rfl ?_
  refine am_e_iload_n n80_9 rfl ?_
  refine am_e_iadd (w := 4) n80_10 (by decide) ?_
  refine am_e_iaload (v := 0) (q := 4) n80_11 rfl (by decide) (by decide) (f180_4 (h := h) hT) ?_
  refine am_e_iastore (q := 1) n80_12 rfl (by decide) (by decide) ?_
  refine am_e_iinc (w := 2) (ls' := [(2, .int 2), (0, .ref 180), (1, .int 3)]) n80_13 rfl rfl (by decide) rfl ?_
  refine am_e_goto c80_14 t80_14 ?_
  refine am_e_iload_n n80_2 rfl ?_
  refine am_e_iload_n n80_3 rfl ?_
  refine am_e_cmpF n80_4 (am_c_geF (by decide)) ?_
  refine am_e_aload_n n80_5 rfl ?_
  refine am_e_iload_n n80_6 rfl ?_
  refine am_e_aload_n n80_7 rfl ?_
  refine am_e_iload_n n80_8 rfl ?_
  refine am_e_iload_n n80_9 rfl ?_
  refine am_e_iadd (w := 5) n80_10 (by decide) ?_
  refine am_e_iaload (v := 0) (q := 5) n80_11 rfl (by decide) (by decide) (f180_5 (h := h) hT) ?_
  refine am_e_iastore (q := 2) n80_12 rfl (by decide) (by decide) ?_
  refine am_e_iinc (w := 3) (ls' := [(2, .int 3), (0, .ref 180), (1, .int 3)]) n80_13 rfl rfl (by decide) rfl ?_
  refine am_e_goto c80_14 t80_14 ?_
  refine am_e_iload_n n80_2 rfl ?_
  refine am_e_iload_n n80_3 rfl ?_
  refine am_e_cmpT n80_4 (am_c_geT (by decide)) t80_4 ?_
  refine am_e_vret c80_15 rfl rfl ?_
  refine am_e_aload_n n79_85 rfl ?_
  refine am_e_getf (v := .ref 181) n79_86 rfl (f164_36 (h := h) hT) ?_
  refine am_e_bipush (w := 64) n79_87 (by decide) ?_
  refine am_e_callS (L := [(0, .ref 181), (1, .int 64)]) n79_88 rfl rfl rfl rfl rfl rfl rfl ?_
  refine am_e_iconst (w := 0) n80_0 rfl ?_
  refine am_e_istore_n (ls' := [(2, .int 0), (0, .ref 181), (1, .int 64)]) n80_1 rfl rfl ?_
  refine am_e_iload_n n80_2 rfl ?_
  refine am_e_iload_n n80_3 rfl ?_
  refine am_e_cmpF n80_4 (am_c_geF (by decide)) ?_
  refine am_e_aload_n n80_5 rfl ?_
  refine am_e_iload_n n80_6 rfl ?_
  refine am_e_aload_n n80_7 rfl ?_
  refine am_e_iload_n n80_8 rfl ?_
  refine am_e_iload_n n80_9 rfl ?_
  refine am_e_iadd (w := 64) n80_10 (by decide) ?_
  refine am_e_iaload (v := 0) (q := 64) n80_11 rfl (by decide) (by decide) (f181_64 (h := h) hT) ?_
  refine am_e_iastore (q := 0) n80_12 rfl (by decide) (by decide) ?_
  refine am_e_iinc (w := 1) (ls' := [(2, .int 1), (0, .ref 181), (1, .int 64)]) n80_13 rfl rfl (by decide) rfl ?_
  refine am_e_goto c80_14 t80_14 ?_
  refine am_e_iload_n n80_2 rfl ?_
  refine am_e_iload_n n80_3 rfl ?_
  refine am_e_cmpF n80_4 (am_c_geF (by decide)) ?_
  refine am_e_aload_n n80_5 rfl ?_
  refine am_e_iload_n n80_6 rfl ?_
  refine am_e_aload_n n80_7 rfl ?_
  refine am_e_iload_n n80_8 rfl ?_
  refine am_e_iload_n n80_9 rfl ?_
  refine am_e_iadd (w := 65) n80_10 (by decide) ?_
  refine am_e_iaload (v := 0) (q := 65) n80_11 rfl (by decide) (by decide) (f181_65 (h := h) hT) ?_
  refine am_e_iastore (q := 1) n80_12 rfl (by decide) (by decide) ?_
  refine am_e_iinc (w := 2) (ls' := [(2, .int 2), (0, .ref 181), (1, .int 64)]) n80_13 rfl rfl (by decide) rfl ?_
  refine am_e_goto c80_14 t80_14 ?_
  refine am_e_iload_n n80_2 rfl ?_
  refine am_e_iload_n n80_3 rfl ?_
  refine am_e_cmpF n80_4 (am_c_geF (by decide)) ?_
  refine am_e_aload_n n80_5 rfl ?_
  refine am_e_iload_n n80_6 rfl ?_
  refine am_e_aload_n n80_7 rfl ?_
  refine am_e_iload_n n80_8 rfl ?_
  refine am_e_iload_n n80_9 rfl ?_
  refine am_e_iadd (w := 66) n80_10 (by decide) ?_
  refine am_e_iaload (v := 0) (q := 66) n80_11 rfl (by decide) (by decide) (f181_66 (h := h) hT) ?_
  refine am_e_iastore (q := 2) n80_12 rfl (by decide) (by decide) ?_
  refine am_e_iinc (w := 3) (ls' := [(2, .int 3), (0, .ref 181), (1, .int 64)]) n80_13 rfl rfl (by decide) rfl ?_
  refine am_e_goto c80_14 t80_14 ?_
  refine am_e_iload_n n80_2 rfl ?_
  refine am_e_iload_n n80_3 rfl ?_
  refine am_e_cmpF n80_4 (am_c_geF (by decide)) ?_
  refine am_e_aload_n n80_5 rfl ?_
  refine am_e_iload_n n80_6 rfl ?_
  refine am_e_aload_n n80_7 rfl ?_
  refine am_e_iload_n n80_8 rfl ?_
  refine am_e_iload_n n80_9 rfl ?_
  refine am_e_iadd (w := 67) n80_10 (by decide) ?_
  refine am_e_iaload (v := 0) (q := 67) n80_11 rfl (by decide) (by decide) (f181_67 (h := h) hT) ?_
  refine am_e_iastore (q := 3) n80_12 rfl (by decide) (by decide) ?_
  refine am_e_iinc (w := 4) (ls' := [(2, .int 4), (0, .ref 181), (1, .int 64)]) n80_13 rfl rfl (by decide) rfl ?_
  refine am_e_goto c80_14 t80_14 ?_
  refine am_e_iload_n n80_2 rfl ?_
  refine am_e_iload_n n80_3 rfl ?_
  refine am_e_cmpF n80_4 (am_c_geF (by decide)) ?_
  refine am_e_aload_n n80_5 rfl ?_
  refine am_e_iload_n n80_6 rfl ?_
  refine am_e_aload_n n80_7 rfl ?_
  refine am_e_iload_n n80_8 rfl ?_
  refine am_e_iload_n n80_9 rfl ?_
  refine am_e_iadd (w := 68) n80_10 (by decide) ?_
  refine am_e_iaload (v := 0) (q := 68) n80_11 rfl (by decide) (by decide) (f181_68 (h := h) hT) ?_
  refine am_e_iastore (q := 4) n80_12 rfl (by decide) (by decide) ?_
  refine am_e_iinc (w := 5) (ls' := [(2, .int 5), (0, .ref 181), (1, .int 64)]) n80_13 rfl rfl (by decide) rfl ?_
  refine am_e_goto c80_14 t80_14 ?_
  refine am_e_iload_n n80_2 rfl ?_
  refine am_e_iload_n n80_3 rfl ?_
  refine am_e_cmpF n80_4 (am_c_geF (by decide)) ?_
  refine am_e_aload_n n80_5 rfl ?_
  refine am_e_iload_n n80_6 rfl ?_
  refine am_e_aload_n n80_7 rfl ?_
  refine am_e_iload_n n80_8 rfl ?_
  refine am_e_iload_n n80_9 rfl ?_
  refine am_e_iadd (w := 69) n80_10 (by decide) ?_
  refine am_e_iaload (v := 0) (q := 69) n80_11 rfl (by decide) (by decide) (f181_69 (h := h) hT) ?_
  refine am_e_iastore (q := 5) n80_12 rfl (by decide) (by decide) ?_
  refine am_e_iinc (w := 6) (ls' := [(2, .int 6), (0, .ref 181), (1, .int 64)]) n80_13 rfl rfl (by decide) rfl ?_
  refine am_e_goto c80_14 t80_14 ?_
  refine am_e_iload_n n80_2 rfl ?_
  refine am_e_iload_n n80_3 rfl ?_
  refine am_e_cmpF n80_4 (am_c_geF (by decide)) ?_
  refine am_e_aload_n n80_5 rfl ?_
  refine am_e_iload_n n80_6 rfl ?_
  refine am_e_aload_n n80_7 rfl ?_
  refine am_e_iload_n n80_8 rfl ?_
  refine am_e_iload_n n80_9 rfl ?_
  refine am_e_iadd (w := 70) n80_10 (by decide) ?_
  refine am_e_iaload (v := 0) (q := 70) n80_11 rfl (by decide) (by decide) (f181_70 (h := h) hT) ?_
  refine am_e_iastore (q := 6) n80_12 rfl (by decide) (by decide) ?_
  refine am_e_iinc (w := 7) (ls' := [(2, .int 7), (0, .ref 181), (1, .int 64)]) n80_13 rfl rfl (by decide) rfl ?_
  refine am_e_goto c80_14 t80_14 ?_
  refine am_e_iload_n n80_2 rfl ?_
  refine am_e_iload_n n80_3 rfl ?_
  refine am_e_cmpF n80_4 (am_c_geF (by decide)) ?_
  refine am_e_aload_n n80_5 rfl ?_
  refine am_e_iload_n n80_6 rfl ?_
  refine am_e_aload_n n80_7 rfl ?_
  refine am_e_iload_n n80_8 rfl ?_
  refine am_e_iload_n n80_9 rfl ?_
  refine am_e_iadd (w := 71) n80_10 (by decide) ?_
  refine am_e_iaload (v := 0) (q := 71) n80_11 rfl (by decide) (by decide) (f181_71 (h := h) hT) ?_
  refine am_e_iastore (q := 7) n80_12 rfl (by decide) (by decide) ?_
  refine am_e_iinc (w := 8) (ls' := [(2, .int 8), (0, .ref 181), (1, .int 64)]) n80_13 rfl rfl (by decide) rfl ?_
  refine am_e_goto c80_14 t80_14 ?_
  refine am_e_iload_n n80_2 rfl ?_
  refine am_e_iload_n n80_3 rfl ?_
  refine am_e_cmpF n80_4 (am_c_geF (by decide)) ?_
  refine am_e_aload_n n80_5 rfl ?_
  refine am_e_iload_n n80_6 rfl ?_
  refine am_e_aload_n n80_7 rfl ?_
  refine am_e_iload_n n80_8 rfl ?_
  refine am_e_iload_n n80_9 rfl ?_
  refine am_e_iadd (w := 72) n80_10 (by decide) ?_
  refine am_e_iaload (v := 0) (q := 72) n80_11 rfl (by decide) (by decide) (f181_72 (h := h) hT) ?_
  refine am_e_iastore (q := 8) n80_12 rfl (by decide) (by decide) ?_
  refine am_e_iinc (w := 9) (ls' := [(2, .int 9), (0, .ref 181), (1, .int 64)]) n80_13 rfl rfl (by decide) rfl ?_
  refine am_e_goto c80_14 t80_14 ?_
  refine am_e_iload_n n80_2 rfl ?_
  refine am_e_iload_n n80_3 rfl ?_
  refine am_e_cmpF n80_4 (am_c_geF (by decide)) ?_
  refine am_e_aload_n n80_5 rfl ?_
  refine am_e_iload_n n80_6 rfl ?_
  refine am_e_aload_n n80_7 rfl ?_
  refine am_e_iload_n n80_8 rfl ?_
  refine am_e_iload_n n80_9 rfl ?_
  refine am_e_iadd (w := 73) n80_10 (by decide) ?_
  refine am_e_iaload (v := 0) (q := 73) n80_11 rfl (by decide) (by decide) (f181_73 (h := h) hT) ?_
  refine am_e_iastore (q := 9) n80_12 rfl (by decide) (by decide) ?_
  refine am_e_iinc (w := 10) (ls' := [(2, .int 10), (0, .ref 181), (1, .int 64)]) n80_13 rfl rfl (by decide) rfl ?_
  refine am_e_goto c80_14 t80_14 ?_
  refine am_e_iload_n n80_2 rfl ?_
  refine am_e_iload_n n80_3 rfl ?_
  refine am_e_cmpF n80_4 (am_c_geF (by decide)) ?_
  refine am_e_aload_n n80_5 rfl ?_
  refine am_e_iload_n n80_6 rfl ?_
  refine am_e_aload_n n80_7 rfl ?_
  refine am_e_iload_n n80_8 rfl ?_
  refine am_e_iload_n n80_9 rfl ?_
  refine am_e_iadd (w := 74) n80_10 (by decide) ?_
  refine am_e_iaload (v := 0) (q := 74) n80_11 rfl (by decide) (by decide) (f181_74 (h := h) hT) ?_
  refine am_e_iastore (q := 10) n80_12 rfl (by decide) (by decide) ?_
  refine am_e_iinc (w := 11) (ls' := [(2, .int 11), (0, .ref 181), (1, .int 64)]) n80_13 rfl rfl (by decide) rfl ?_
  refine am_e_goto c80_14 t80_14 ?_
  refine am_e_iload_n n80_2 rfl ?_
  refine am_e_iload_n n80_3 rfl ?_
  refine am_e_cmpF n80_4 (am_c_geF (by decide)) ?_
  refine am_e_aload_n n80_5 rfl ?_
  refine am_e_iload_n n80_6 rfl ?_
  refine am_e_aload_n n80_7 rfl ?_
  refine am_e_iload_n n80_8 rfl ?_
  refine am_e_iload_n n80_9 rfl ?_
  refine am_e_iadd (w := 75) n80_10 (by decide) ?_
  refine am_e_iaload (v := 0) (q := 75) n80_11 rfl (by decide) (by decide) (f181_75 (h := h) hT) ?_
  refine am_e_iastore (q := 11) n80_12 rfl (by decide) (by decide) ?_
  refine am_e_iinc (w := 12) (ls' := [(2, .int 12), (0, .ref 181), (1, .int 64)]) n80_13 rfl rfl (by decide) rfl ?_
  refine am_e_goto c80_14 t80_14 ?_
  refine am_e_iload_n n80_2 rfl ?_
  refine am_e_iload_n n80_3 rfl ?_
  refine am_e_cmpF n80_4 (am_c_geF (by decide)) ?_
  refine am_e_aload_n n80_5 rfl ?_
  refine am_e_iload_n n80_6 rfl ?_
  refine am_e_aload_n n80_7 rfl ?_
  refine am_e_iload_n n80_8 rfl ?_
  refine am_e_iload_n n80_9 rfl ?_
  refine am_e_iadd (w := 76) n80_10 (by decide) ?_
  refine am_e_iaload (v := 0) (q := 76) n80_11 rfl (by decide) (by decide) (f181_76 (h := h) hT) ?_
  refine am_e_iastore (q := 12) n80_12 rfl (by decide) (by decide) ?_
  refine am_e_iinc (w := 13) (ls' := [(2, .int 13), (0, .ref 181), (1, .int 64)]) n80_13 rfl rfl (by decide) rfl ?_
  refine am_e_goto c80_14 t80_14 ?_
  refine am_e_iload_n n80_2 rfl ?_
  refine am_e_iload_n n80_3 rfl ?_
  refine am_e_cmpF n80_4 (am_c_geF (by decide)) ?_
  refine am_e_aload_n n80_5 rfl ?_
  refine am_e_iload_n n80_6 rfl ?_
  refine am_e_aload_n n80_7 rfl ?_
  refine am_e_iload_n n80_8 rfl ?_
  refine am_e_iload_n n80_9 rfl ?_
  refine am_e_iadd (w := 77) n80_10 (by decide) ?_
  refine am_e_iaload (v := 0) (q := 77) n80_11 rfl (by decide) (by decide) (f181_77 (h := h) hT) ?_
  refine am_e_iastore (q := 13) n80_12 rfl (by decide) (by decide) ?_
  refine am_e_iinc (w := 14) (ls' := [(2, .int 14), (0, .ref 181), (1, .int 64)]) n80_13 rfl rfl (by decide) rfl ?_
  refine am_e_goto c80_14 t80_14 ?_
  refine am_e_iload_n n80_2 rfl ?_
  refine am_e_iload_n n80_3 rfl ?_
  refine am_e_cmpF n80_4 (am_c_geF (by decide)) ?_
  refine am_e_aload_n n80_5 rfl ?_
  refine am_e_iload_n n80_6 rfl ?_
  refine am_e_aload_n n80_7 rfl ?_
  refine am_e_iload_n n80_8 rfl ?_
  refine am_e_iload_n n80_9 rfl ?_
  refine am_e_iadd (w := 78) n80_10 (by decide) ?_
  refine am_e_iaload (v := 0) (q := 78) n80_11 rfl (by decide) (by decide) (f181_78 (h := h) hT) ?_
  refine am_e_iastore (q := 14) n80_12 rfl (by decide) (by decide) ?_
  refine am_e_iinc (w := 15) (ls' := [(2, .int 15), (0, .ref 181), (1, .int 64)]) n80_13 rfl rfl (by decide) rfl ?_
  refine am_e_goto c80_14 t80_14 ?_
  refine am_e_iload_n n80_2 rfl ?_
  refine am_e_iload_n n80_3 rfl ?_
  refine am_e_cmpF n80_4 (am_c_geF (by decide)) ?_
  refine am_e_aload_n n80_5 rfl ?_
  refine am_e_iload_n n80_6 rfl ?_
  refine am_e_aload_n n80_7 rfl ?_
  refine am_e_iload_n n80_8 rfl ?_
  refine am_e_iload_n n80_9 rfl ?_
  refine am_e_iadd (w := 79) n80_10 (by decide) ?_
  refine am_e_iaload (v := 0) (q := 79) n80_11 rfl (by decide) (by decide) (f181_79 (h := h) hT) ?_
  refine am_e_iastore (q := 15) n80_12 rfl (by decide) (by decide) ?_
  refine am_e_iinc (w := 16) (ls' := [(2, .int 16), (0, .ref 181), (1, .int 64)]) n80_13 rfl rfl (by decide) rfl ?_
  refine am_e_goto c80_14 t80_14 ?_
  refine am_e_iload_n n80_2 rfl ?_
  refine am_e_iload_n n80_3 rfl ?_
  refine am_e_cmpF n80_4 (am_c_geF (by decide)) ?_
  refine am_e_aload_n n80_5 rfl ?_
  refine am_e_iload_n n80_6 rfl ?_
  refine am_e_aload_n n80_7 rfl ?_
  refine am_e_iload_n n80_8 rfl ?_
  refine am_e_iload_n n80_9 rfl ?_
  refine am_e_iadd (w := 80) n80_10 (by decide) ?_
  refine am_e_iaload (v := 0) (q := 80) n80_11 rfl (by decide) (by decide) (f181_80 (h := h) hT) ?_
  refine am_e_iastore (q := 16) n80_12 rfl (by decide) (by decide) ?_
  refine am_e_iinc (w := 17) (ls' := [(2, .int 17), (0, .ref 181), (1, .int 64)]) n80_13 rfl rfl (by decide) rfl ?_
  refine am_e_goto c80_14 t80_14 ?_
  refine am_e_iload_n n80_2 rfl ?_
  refine am_e_iload_n n80_3 rfl ?_
  refine am_e_cmpF n80_4 (am_c_geF (by decide)) ?_
  refine am_e_aload_n n80_5 rfl ?_
  refine am_e_iload_n n80_6 rfl ?_
  refine am_e_aload_n n80_7 rfl ?_
  refine am_e_iload_n n80_8 rfl ?_
  refine am_e_iload_n n80_9 rfl ?_
  refine am_e_iadd (w := 81) n80_10 (by decide) ?_
  refine am_e_iaload (v := 0) (q := 81) n80_11 rfl (by decide) (by decide) (f181_81 (h := h) hT) ?_
  refine am_e_iastore (q := 17) n80_12 rfl (by decide) (by decide) ?_
  refine am_e_iinc (w := 18) (ls' := [(2, .int 18), (0, .ref 181), (1, .int 64)]) n80_13 rfl rfl (by decide) rfl ?_
  refine am_e_goto c80_14 t80_14 ?_
  refine am_e_iload_n n80_2 rfl ?_
  refine am_e_iload_n n80_3 rfl ?_
  refine am_e_cmpF n80_4 (am_c_geF (by decide)) ?_
  refine am_e_aload_n n80_5 rfl ?_
  refine am_e_iload_n n80_6 rfl ?_
  refine am_e_aload_n n80_7 rfl ?_
  refine am_e_iload_n n80_8 rfl ?_
  refine am_e_iload_n n80_9 rfl ?_
  refine am_e_iadd (w := 82) n80_10 (by decide) ?_
  refine am_e_iaload (v := 0) (q := 82) n80_11 rfl (by decide) (by decide) (f181_82 (h := h) hT) ?_
  refine am_e_iastore (q := 18) n80_12 rfl (by decide) (by decide) ?_
  refine am_e_iinc (w := 19) (ls' := [(2, .int 19), (0, .ref 181), (1, .int 64)]) n80_13 rfl rfl (by decide) rfl ?_
  refine am_e_goto c80_14 t80_14 ?_
  refine am_e_iload_n n80_2 rfl ?_
  refine am_e_iload_n n80_3 rfl ?_
  refine am_e_cmpF n80_4 (am_c_geF (by decide)) ?_
  refine am_e_aload_n n80_5 rfl ?_
  refine am_e_iload_n n80_6 rfl ?_
  refine am_e_aload_n n80_7 rfl ?_
  refine am_e_iload_n n80_8 rfl ?_
  refine am_e_iload_n n80_9 rfl ?_
  refine am_e_iadd (w := 83) n80_10 (by decide) ?_
  refine am_e_iaload (v := 0) (q := 83) n80_11 rfl (by decide) (by decide) (f181_83 (h := h) hT) ?_
  refine am_e_iastore (q := 19) n80_12 rfl (by decide) (by decide) ?_
  refine am_e_iinc (w := 20) (ls' := [(2, .int 20), (0, .ref 181), (1, .int 64)]) n80_13 rfl rfl (by decide) rfl ?_
  refine am_e_goto c80_14 t80_14 ?_
  refine am_e_iload_n n80_2 rfl ?_
  refine am_e_iload_n n80_3 rfl ?_
  refine am_e_cmpF n80_4 (am_c_geF (by decide)) ?_
  refine am_e_aload_n n80_5 rfl ?_
  refine am_e_iload_n n80_6 rfl ?_
  refine am_e_aload_n n80_7 rfl ?_
  refine am_e_iload_n n80_8 rfl ?_
  refine am_e_iload_n n80_9 rfl ?_
  refine am_e_iadd (w := 84) n80_10 (by decide) ?_
  refine am_e_iaload (v := 0) (q := 84) n80_11 rfl (by decide) (by decide) (f181_84 (h := h) hT) ?_
  refine am_e_iastore (q := 20) n80_12 rfl (by decide) (by decide) ?_
  refine am_e_iinc (w := 21) (ls' := [(2, .int 21), (0, .ref 181), (1, .int 64)]) n80_13 rfl rfl (by decide) rfl ?_
  refine am_e_goto c80_14 t80_14 ?_
  refine am_e_iload_n n80_2 rfl ?_
  refine am_e_iload_n n80_3 rfl ?_
  refine am_e_cmpF n80_4 (am_c_geF (by decide)) ?_
  refine am_e_aload_n n80_5 rfl ?_
  refine am_e_iload_n n80_6 rfl ?_
  refine am_e_aload_n n80_7 rfl ?_
  refine am_e_iload_n n80_8 rfl ?_
  refine am_e_iload_n n80_9 rfl ?_
  refine am_e_iadd (w := 85) n80_10 (by decide) ?_
  refine am_e_iaload (v := 0) (q := 85) n80_11 rfl (by decide) (by decide) (f181_85 (h := h) hT) ?_
  refine am_e_iastore (q := 21) n80_12 rfl (by decide) (by decide) ?_
  refine am_e_iinc (w := 22) (ls' := [(2, .int 22), (0, .ref 181), (1, .int 64)]) n80_13 rfl rfl (by decide) rfl ?_
  refine am_e_goto c80_14 t80_14 ?_
  refine am_e_iload_n n80_2 rfl ?_
  refine am_e_iload_n n80_3 rfl ?_
  refine am_e_cmpF n80_4 (am_c_geF (by decide)) ?_
  refine am_e_aload_n n80_5 rfl ?_
  refine am_e_iload_n n80_6 rfl ?_
  refine am_e_aload_n n80_7 rfl ?_
  refine am_e_iload_n n80_8 rfl ?_
  refine am_e_iload_n n80_9 rfl ?_
  refine am_e_iadd (w := 86) n80_10 (by decide) ?_
  refine am_e_iaload (v := 0) (q := 86) n80_11 rfl (by decide) (by decide) (f181_86 (h := h) hT) ?_
  refine am_e_iastore (q := 22) n80_12 rfl (by decide) (by decide) ?_
  refine am_e_iinc (w := 23) (ls' := [(2, .int 23), (0, .ref 181), (1, .int 64)]) n80_13 rfl rfl (by decide) rfl ?_
  refine am_e_goto c80_14 t80_14 ?_
  refine am_e_iload_n n80_2 rfl ?_
  refine am_e_iload_n n80_3 rfl ?_
  refine am_e_cmpF n80_4 (am_c_geF (by decide)) ?_
  refine am_e_aload_n n80_5 rfl ?_
  refine am_e_iload_n n80_6 rfl ?_
  refine am_e_aload_n n80_7 rfl ?_
  refine am_e_iload_n n80_8 rfl ?_
  refine am_e_iload_n n80_9 rfl ?_
  refine am_e_iadd (w := 87) n80_10 (by decide) ?_
  refine am_e_iaload (v := 0) (q := 87) n80_11 rfl (by decide) (by decide) (f181_87 (h := h) hT) ?_
  refine am_e_iastore (q := 23) n80_12 rfl (by decide) (by decide) ?_
  refine am_e_iinc (w := 24) (ls' := [(2, .int 24), (0, .ref 181), (1, .int 64)]) n80_13 rfl rfl (by decide) rfl ?_
  refine am_e_goto c80_14 t80_14 ?_
  refine am_e_iload_n n80_2 rfl ?_
  refine am_e_iload_n n80_3 rfl ?_
  refine am_e_cmpF n80_4 (am_c_geF (by decide)) ?_
  refine am_e_aload_n n80_5 rfl ?_
  refine am_e_iload_n n80_6 rfl ?_
  refine am_e_aload_n n80_7 rfl ?_
  refine am_e_iload_n n80_8 rfl ?_
  refine am_e_iload_n n80_9 rfl ?_
  refine am_e_iadd (w := 88) n80_10 (by decide) ?_
  refine am_e_iaload (v := 0) (q := 88) n80_11 rfl (by decide) (by decide) (f181_88 (h := h) hT) ?_
  refine am_e_iastore (q := 24) n80_12 rfl (by decide) (by decide) ?_
  refine am_e_iinc (w := 25) (ls' := [(2, .int 25), (0, .ref 181), (1, .int 64)]) n80_13 rfl rfl (by decide) rfl ?_
  refine am_e_goto c80_14 t80_14 ?_
  refine am_e_iload_n n80_2 rfl ?_
  refine am_e_iload_n n80_3 rfl ?_
  refine am_e_cmpF n80_4 (am_c_geF (by decide)) ?_
  refine am_e_aload_n n80_5 rfl ?_
  refine am_e_iload_n n80_6 rfl ?_
  refine am_e_aload_n n80_7 rfl ?_
  refine am_e_iload_n n80_8 rfl ?_
  refine am_e_iload_n n80_9 rfl ?_
  refine am_e_iadd (w := 89) n80_10 (by decide) ?_
  refine am_e_iaload (v := 0) (q := 89) n80_11 rfl (by decide) (by decide) (f181_89 (h := h) hT) ?_
  refine am_e_iastore (q := 25) n80_12 rfl (by decide) (by decide) ?_
  refine am_e_iinc (w := 26) (ls' := [(2, .int 26), (0, .ref 181), (1, .int 64)]) n80_13 rfl rfl (by decide) rfl ?_
  refine am_e_goto c80_14 t80_14 ?_
  refine am_e_iload_n n80_2 rfl ?_
  refine am_e_iload_n n80_3 rfl ?_
  refine am_e_cmpF n80_4 (am_c_geF (by decide)) ?_
  refine am_e_aload_n n80_5 rfl ?_
  refine am_e_iload_n n80_6 rfl ?_
  refine am_e_aload_n n80_7 rfl ?_
  refine am_e_iload_n n80_8 rfl ?_
  refine am_e_iload_n n80_9 rfl ?_
  refine am_e_iadd (w := 90) n80_10 (by decide) ?_
  refine am_e_iaload (v := 0) (q := 90) n80_11 rfl (by decide) (by decide) (f181_90 (h := h) hT) ?_
  refine am_e_iastore (q := 26) n80_12 rfl (by decide) (by decide) ?_
  refine am_e_iinc (w := 27) (ls' := [(2, .int 27), (0, .ref 181), (1, .int 64)]) n80_13 rfl rfl (by decide) rfl ?_
  refine am_e_goto c80_14 t80_14 ?_
  refine am_e_iload_n n80_2 rfl ?_
  refine am_e_iload_n n80_3 rfl ?_
  refine am_e_cmpF n80_4 (am_c_geF (by decide)) ?_
  refine am_e_aload_n n80_5 rfl ?_
  refine am_e_iload_n n80_6 rfl ?_
  refine am_e_aload_n n80_7 rfl ?_
  refine am_e_iload_n n80_8 rfl ?_
  refine am_e_iload_n n80_9 rfl ?_
  refine am_e_iadd (w := 91) n80_10 (by decide) ?_
  refine am_e_iaload (v := 0) (q := 91) n80_11 rfl (by decide) (by decide) (f181_91 (h := h) hT) ?_
  refine am_e_iastore (q := 27) n80_12 rfl (by decide) (by decide) ?_
  refine am_e_iinc (w := 28) (ls' := [(2, .int 28), (0, .ref 181), (1, .int 64)]) n80_13 rfl rfl (by decide) rfl ?_
  refine am_e_goto c80_14 t80_14 ?_
  refine am_e_iload_n n80_2 rfl ?_
  refine am_e_iload_n n80_3 rfl ?_
  refine am_e_cmpF n80_4 (am_c_geF (by decide)) ?_
  refine am_e_aload_n n80_5 rfl ?_
  refine am_e_iload_n n80_6 rfl ?_
  refine am_e_aload_n n80_7 rfl ?_
  refine am_e_iload_n n80_8 rfl ?_
  refine am_e_iload_n n80_9 rfl ?_
  refine am_e_iadd (w := 92) n80_10 (by decide) ?_
  refine am_e_iaload (v := 0) (q := 92) n80_11 rfl (by decide) (by decide) (f181_92 (h := h) hT) ?_
  refine am_e_iastore (q := 28) n80_12 rfl (by decide) (by decide) ?_
  refine am_e_iinc (w := 29) (ls' := [(2, .int 29), (0, .ref 181), (1, .int 64)]) n80_13 rfl rfl (by decide) rfl ?_
  refine am_e_goto c80_14 t80_14 ?_
  refine am_e_iload_n n80_2 rfl ?_
  refine am_e_iload_n n80_3 rfl ?_
  refine am_e_cmpF n80_4 (am_c_geF (by decide)) ?_
  refine am_e_aload_n n80_5 rfl ?_
  refine am_e_iload_n n80_6 rfl ?_
  refine am_e_aload_n n80_7 rfl ?_
  refine am_e_iload_n n80_8 rfl ?_
  refine am_e_iload_n n80_9 rfl ?_
  refine am_e_iadd (w := 93) n80_10 (by decide) ?_
  refine am_e_iaload (v := 0) (q := 93) n80_11 rfl (by decide) (by decide) (f181_93 (h := h) hT) ?_
  refine am_e_iastore (q := 29) n80_12 rfl (by decide) (by decide) ?_
  refine am_e_iinc (w := 30) (ls' := [(2, .int 30), (0, .ref 181), (1, .int 64)]) n80_13 rfl rfl (by decide) rfl ?_
  refine am_e_goto c80_14 t80_14 ?_
  refine am_e_iload_n n80_2 rfl ?_
  refine am_e_iload_n n80_3 rfl ?_
  refine am_e_cmpF n80_4 (am_c_geF (by decide)) ?_
  refine am_e_aload_n n80_5 rfl ?_
  refine am_e_iload_n n80_6 rfl ?_
  refine am_e_aload_n n80_7 rfl ?_
  refine am_e_iload_n n80_8 rfl ?_
  refine am_e_iload_n n80_9 rfl ?_
  refine am_e_iadd (w := 94) n80_10 (by decide) ?_
  refine am_e_iaload (v := 0) (q := 94) n80_11 rfl (by decide) (by decide) (f181_94 (h := h) hT) ?_
  refine am_e_iastore (q := 30) n80_12 rfl (by decide) (by decide) ?_
  refine am_e_iinc (w := 31) (ls' := [(2, .int 31), (0, .ref 181), (1, .int 64)]) n80_13 rfl rfl (by decide) rfl ?_
  refine am_e_goto c80_14 t80_14 ?_
  refine am_e_iload_n n80_2 rfl ?_
  refine am_e_iload_n n80_3 rfl ?_
  refine am_e_cmpF n80_4 (am_c_geF (by decide)) ?_
  refine am_e_aload_n n80_5 rfl ?_
  refine am_e_iload_n n80_6 rfl ?_
  refine am_e_aload_n n80_7 rfl ?_
  refine am_e_iload_n n80_8 rfl ?_
  refine am_e_iload_n n80_9 rfl ?_
  refine am_e_iadd (w := 95) n80_10 (by decide) ?_
  refine am_e_iaload (v := 0) (q := 95) n80_11 rfl (by decide) (by decide) (f181_95 (h := h) hT) ?_
  refine am_e_iastore (q := 31) n80_12 rfl (by decide) (by decide) ?_
  refine am_e_iinc (w := 32) (ls' := [(2, .int 32), (0, .ref 181), (1, .int 64)]) n80_13 rfl rfl (by decide) rfl ?_
  refine am_e_goto c80_14 t80_14 ?_
  refine am_e_iload_n n80_2 rfl ?_
  refine am_e_iload_n n80_3 rfl ?_
  refine am_e_cmpF n80_4 (am_c_geF (by decide)) ?_
  refine am_e_aload_n n80_5 rfl ?_
  refine am_e_iload_n n80_6 rfl ?_
  refine am_e_aload_n n80_7 rfl ?_
  refine am_e_iload_n n80_8 rfl ?_
  refine am_e_iload_n n80_9 rfl ?_
  refine am_e_iadd (w := 96) n80_10 (by decide) ?_
  refine am_e_iaload (v := 0) (q := 96) n80_11 rfl (by decide) (by decide) (f181_96 (h := h) hT) ?_
  refine am_e_iastore (q := 32) n80_12 rfl (by decide) (by decide) ?_
  refine am_e_iinc (w := 33) (ls' := [(2, .int 33), (0, .ref 181), (1, .int 64)]) n80_13 rfl rfl (by decide) rfl ?_
  refine am_e_goto c80_14 t80_14 ?_
  refine am_e_iload_n n80_2 rfl ?_
  refine am_e_iload_n n80_3 rfl ?_
  refine am_e_cmpF n80_4 (am_c_geF (by decide)) ?_
  refine am_e_aload_n n80_5 rfl ?_
  refine am_e_iload_n n80_6 rfl ?_
  refine am_e_aload_n n80_7 rfl ?_
  refine am_e_iload_n n80_8 rfl ?_
  refine am_e_iload_n n80_9 rfl ?_
  refine am_e_iadd (w := 97) n80_10 (by decide) ?_
  refine am_e_iaload (v := 0) (q := 97) n80_11 rfl (by decide) (by decide) (f181_97 (h := h) hT) ?_
  refine am_e_iastore (q := 33) n80_12 rfl (by decide) (by decide) ?_
  refine am_e_iinc (w := 34) (ls' := [(2, .int 34), (0, .ref 181), (1, .int 64)]) n80_13 rfl rfl (by decide) rfl ?_
  refine am_e_goto c80_14 t80_14 ?_
  refine am_e_iload_n n80_2 rfl ?_
  refine am_e_iload_n n80_3 rfl ?_
  refine am_e_cmpF n80_4 (am_c_geF (by decide)) ?_
  refine am_e_aload_n n80_5 rfl ?_
  refine am_e_iload_n n80_6 rfl ?_
  refine am_e_aload_n n80_7 rfl ?_
  refine am_e_iload_n n80_8 rfl ?_
  refine am_e_iload_n n80_9 rfl ?_
  refine am_e_iadd (w := 98) n80_10 (by decide) ?_
  refine am_e_iaload (v := 0) (q := 98) n80_11 rfl (by decide) (by decide) (f181_98 (h := h) hT) ?_
  refine am_e_iastore (q := 34) n80_12 rfl (by decide) (by decide) ?_
  refine am_e_iinc (w := 35) (ls' := [(2, .int 35), (0, .ref 181), (1, .int 64)]) n80_13 rfl rfl (by decide) rfl ?_
  refine am_e_goto c80_14 t80_14 ?_
  refine am_e_iload_n n80_2 rfl ?_
  refine am_e_iload_n n80_3 rfl ?_
  refine am_e_cmpF n80_4 (am_c_geF (by decide)) ?_
  refine am_e_aload_n n80_5 rfl ?_
  refine am_e_iload_n n80_6 rfl ?_
  refine am_e_aload_n n80_7 rfl ?_
  refine am_e_iload_n n80_8 rfl ?_
  refine am_e_iload_n n80_9 rfl ?_
  refine am_e_iadd (w := 99) n80_10 (by decide) ?_
  refine am_e_iaload (v := 0) (q := 99) n80_11 rfl (by decide) (by decide) (f181_99 (h := h) hT) ?_
  refine am_e_iastore (q := 35) n80_12 rfl (by decide) (by decide) ?_
  refine am_e_iinc (w := 36) (ls' := [(2, .int 36), (0, .ref 181), (1, .int 64)]) n80_13 rfl rfl (by decide) rfl ?_
  refine am_e_goto c80_14 t80_14 ?_
  refine am_e_iload_n n80_2 rfl ?_
  refine am_e_iload_n n80_3 rfl ?_
  refine am_e_cmpF n80_4 (am_c_geF (by decide)) ?_
  refine am_e_aload_n n80_5 rfl ?_
  refine am_e_iload_n n80_6 rfl ?_
  refine am_e_aload_n n80_7 rfl ?_
  refine am_e_iload_n n80_8 rfl ?_
  refine am_e_iload_n n80_9 rfl ?_
  refine am_e_iadd (w := 100) n80_10 (by decide) ?_
  refine am_e_iaload (v := 0) (q := 100) n80_11 rfl (by decide) (by decide) (f181_100 (h := h) hT) ?_
  refine am_e_iastore (q := 36) n80_12 rfl (by decide) (by decide) ?_
  refine am_e_iinc (w := 37) (ls' := [(2, .int 37), (0, .ref 181), (1, .int 64)]) n80_13 rfl rfl (by decide) rfl ?_
  refine am_e_goto c80_14 t80_14 ?_
  refine am_e_iload_n n80_2 rfl ?_
  refine am_e_iload_n n80_3 rfl ?_
  refine am_e_cmpF n80_4 (am_c_geF (by decide)) ?_
  refine am_e_aload_n n80_5 rfl ?_
  refine am_e_iload_n n80_6 rfl ?_
  refine am_e_aload_n n80_7 rfl ?_
  refine am_e_iload_n n80_8 rfl ?_
  refine am_e_iload_n n80_9 rfl ?_
  refine am_e_iadd (w := 101) n80_10 (by decide) ?_
  refine am_e_iaload (v := 0) (q := 101) n80_11 rfl (by decide) (by decide) (f181_101 (h := h) hT) ?_
  refine am_e_iastore (q := 37) n80_12 rfl (by decide) (by decide) ?_
  refine am_e_iinc (w := 38) (ls' := [(2, .int 38), (0, .ref 181), (1, .int 64)]) n80_13 rfl rfl (by decide) rfl ?_
  refine am_e_goto c80_14 t80_14 ?_
  refine am_e_iload_n n80_2 rfl ?_
  refine am_e_iload_n n80_3 rfl ?_
  refine am_e_cmpF n80_4 (am_c_geF (by decide)) ?_
  refine am_e_aload_n n80_5 rfl ?_
  refine am_e_iload_n n80_6 rfl ?_
  refine am_e_aload_n n80_7 rfl ?_
  refine am_e_iload_n n80_8 rfl ?_
  refine am_e_iload_n n80_9 rfl ?_
  refine am_e_iadd (w := 102) n80_10 (by decide) ?_
  refine am_e_iaload (v := 0) (q := 102) n80_11 rfl (by decide) (by decide) (f181_102 (h := h) hT) ?_
  refine am_e_iastore (q := 38) n80_12 rfl (by decide) (by decide) ?_
  refine am_e_iinc (w := 39) (ls' := [(2, .int 39), (0, .ref 181), (1, .int 64)]) n80_13 rfl rfl (by decide) rfl ?_
  refine am_e_goto c80_14 t80_14 ?_
  refine am_e_iload_n n80_2 rfl ?_
  refine am_e_iload_n n80_3 rfl ?_
  refine am_e_cmpF n80_4 (am_c_geF (by decide)) ?_
  refine am_e_aload_n n80_5 rfl ?_
  refine am_e_iload_n n80_6 rfl ?_
  refine am_e_aload_n n80_7 rfl ?_
  refine am_e_iload_n n80_8 rfl ?_
  refine am_e_iload_n n80_9 rfl ?_
  refine am_e_iadd (w := 103) n80_10 (by decide) ?_
  refine am_e_iaload (v := 0) (q := 103) n80_11 rfl (by decide) (by decide) (f181_103 (h := h) hT) ?_
  refine am_e_iastore (q := 39) n80_12 rfl (by decide) (by decide) ?_
  refine am_e_iinc (w := 40) (ls' := [(2, .int 40), (0, .ref 181), (1, .int 64)]) n80_13 rfl rfl (by decide) rfl ?_
  refine am_e_goto c80_14 t80_14 ?_
  refine am_e_iload_n n80_2 rfl ?_
  refine am_e_iload_n n80_3 rfl ?_
  refine am_e_cmpF n80_4 (am_c_geF (by decide)) ?_
  refine am_e_aload_n n80_5 rfl ?_
  refine am_e_iload_n n80_6 rfl ?_
  refine am_e_aload_n n80_7 rfl ?_
  refine am_e_iload_n n80_8 rfl ?_
  refine am_e_iload_n n80_9 rfl ?_
  refine am_e_iadd (w := 104) n80_10 (by decide) ?_
  refine am_e_iaload (v := 0) (q := 104) n80_11 rfl (by decide) (by decide) (f181_104 (h := h) hT) ?_
  refine am_e_iastore (q := 40) n80_12 rfl (by decide) (by decide) ?_
  refine am_e_iinc (w := 41) (ls' := [(2, .int 41), (0, .ref 181), (1, .int 64)]) n80_13 rfl rfl (by decide) rfl ?_
  refine am_e_goto c80_14 t80_14 ?_
  refine am_e_iload_n n80_2 rfl ?_
  refine am_e_iload_n n80_3 rfl ?_
  refine am_e_cmpF n80_4 (am_c_geF (by decide)) ?_
  refine am_e_aload_n n80_5 rfl ?_
  refine am_e_iload_n n80_6 rfl ?_
  refine am_e_aload_n n80_7 rfl ?_
  refine am_e_iload_n n80_8 rfl ?_
  refine am_e_iload_n n80_9 rfl ?_
  refine am_e_iadd (w := 105) n80_10 (by decide) ?_
  refine am_e_iaload (v := 0) (q := 105) n80_11 rfl (by decide) (by decide) (f181_105 (h := h) hT) ?_
  refine am_e_iastore (q := 41) n80_12 rfl (by decide) (by decide) ?_
  refine am_e_iinc (w := 42) (ls' := [(2, .int 42), (0, .ref 181), (1, .int 64)]) n80_13 rfl rfl (by decide) rfl ?_
  refine am_e_goto c80_14 t80_14 ?_
  refine am_e_iload_n n80_2 rfl ?_
  refine am_e_iload_n n80_3 rfl ?_
  refine am_e_cmpF n80_4 (am_c_geF (by decide)) ?_
  refine am_e_aload_n n80_5 rfl ?_
  refine am_e_iload_n n80_6 rfl ?_
  refine am_e_aload_n n80_7 rfl ?_
  refine am_e_iload_n n80_8 rfl ?_
  refine am_e_iload_n n80_9 rfl ?_
  refine am_e_iadd (w := 106) n80_10 (by decide) ?_
  refine am_e_iaload (v := 0) (q := 106) n80_11 rfl (by decide) (by decide) (f181_106 (h := h) hT) ?_
  refine am_e_iastore (q := 42) n80_12 rfl (by decide) (by decide) ?_
  refine am_e_iinc (w := 43) (ls' := [(2, .int 43), (0, .ref 181), (1, .int 64)]) n80_13 rfl rfl (by decide) rfl ?_
  refine am_e_goto c80_14 t80_14 ?_
  refine am_e_iload_n n80_2 rfl ?_
  refine am_e_iload_n n80_3 rfl ?_
  refine am_e_cmpF n80_4 (am_c_geF (by decide)) ?_
  refine am_e_aload_n n80_5 rfl ?_
  refine am_e_iload_n n80_6 rfl ?_
  refine am_e_aload_n n80_7 rfl ?_
  refine am_e_iload_n n80_8 rfl ?_
  refine am_e_iload_n n80_9 rfl ?_
  refine am_e_iadd (w := 107) n80_10 (by decide) ?_
  refine am_e_iaload (v := 0) (q := 107) n80_11 rfl (by decide) (by decide) (f181_107 (h := h) hT) ?_
  refine am_e_iastore (q := 43) n80_12 rfl (by decide) (by decide) ?_
  refine am_e_iinc (w := 44) (ls' := [(2, .int 44), (0, .ref 181), (1, .int 64)]) n80_13 rfl rfl (by decide) rfl ?_
  refine am_e_goto c80_14 t80_14 ?_
  refine am_e_iload_n n80_2 rfl ?_
  refine am_e_iload_n n80_3 rfl ?_
  refine am_e_cmpF n80_4 (am_c_geF (by decide)) ?_
  refine am_e_aload_n n80_5 rfl ?_
  refine am_e_iload_n n80_6 rfl ?_
  refine am_e_aload_n n80_7 rfl ?_
  refine am_e_iload_n n80_8 rfl ?_
  refine am_e_iload_n n80_9 rfl ?_
  refine am_e_iadd (w := 108) n80_10 (by decide) ?_
  refine am_e_iaload (v := 0) (q := 108) n80_11 rfl (by decide) (by decide) (f181_108 (h := h) hT) ?_
  refine am_e_iastore (q := 44) n80_12 rfl (by decide) (by decide) ?_
  refine am_e_iinc (w := 45) (ls' := [(2, .int 45), (0, .ref 181), (1, .int 64)]) n80_13 rfl rfl (by decide) rfl ?_
  refine am_e_goto c80_14 t80_14 ?_
  refine am_e_iload_n n80_2 rfl ?_
  refine am_e_iload_n n80_3 rfl ?_
  refine am_e_cmpF n80_4 (am_c_geF (by decide)) ?_
  refine am_e_aload_n n80_5 rfl ?_
  refine am_e_iload_n n80_6 rfl ?_
  refine am_e_aload_n n80_7 rfl ?_
  refine am_e_iload_n n80_8 rfl ?_
  refine am_e_iload_n n80_9 rfl ?_
  refine am_e_iadd (w := 109) n80_10 (by decide) ?_
  refine am_e_iaload (v := 0) (q := 109) n80_11 rfl (by decide) (by decide) (f181_109 (h := h) hT) ?_
  refine am_e_iastore (q := 45) n80_12 rfl (by decide) (by decide) ?_
  refine am_e_iinc (w := 46) (ls' := [(2, .int 46), (0, .ref 181), (1, .int 64)]) n80_13 rfl rfl (by decide) rfl ?_
  refine am_e_goto c80_14 t80_14 ?_
  refine am_e_iload_n n80_2 rfl ?_
  refine am_e_iload_n n80_3 rfl ?_
  refine am_e_cmpF n80_4 (am_c_geF (by decide)) ?_
  refine am_e_aload_n n80_5 rfl ?_
  refine am_e_iload_n n80_6 rfl ?_
  refine am_e_aload_n n80_7 rfl ?_
  refine am_e_iload_n n80_8 rfl ?_
  refine am_e_iload_n n80_9 rfl ?_
  refine am_e_iadd (w := 110) n80_10 (by decide) ?_
  refine am_e_iaload (v := 0) (q := 110) n80_11 rfl (by decide) (by decide) (f181_110 (h := h) hT) ?_
  refine am_e_iastore (q := 46) n80_12 rfl (by decide) (by decide) ?_
  refine am_e_iinc (w := 47) (ls' := [(2, .int 47), (0, .ref 181), (1, .int 64)]) n80_13 rfl rfl (by decide) rfl ?_
  refine am_e_goto c80_14 t80_14 ?_
  refine am_e_iload_n n80_2 rfl ?_
  refine am_e_iload_n n80_3 rfl ?_
  refine am_e_cmpF n80_4 (am_c_geF (by decide)) ?_
  refine am_e_aload_n n80_5 rfl ?_
  refine am_e_iload_n n80_6 rfl ?_
  refine am_e_aload_n n80_7 rfl ?_
  refine am_e_iload_n n80_8 rfl ?_
  refine am_e_iload_n n80_9 rfl ?_
  refine am_e_iadd (w := 111) n80_10 (by decide) ?_
  refine am_e_iaload (v := 0) (q := 111) n80_11 rfl (by decide) (by decide) (f181_111 (h := h) hT) ?_
  refine am_e_iastore (q := 47) n80_12 rfl (by decide) (by decide) ?_
  refine am_e_iinc (w := 48) (ls' := [(2, .int 48), (0, .ref 181), (1, .int 64)]) n80_13 rfl rfl (by decide) rfl ?_
  refine am_e_goto c80_14 t80_14 ?_
  refine am_e_iload_n n80_2 rfl ?_
  refine am_e_iload_n n80_3 rfl ?_
  refine am_e_cmpF n80_4 (am_c_geF (by decide)) ?_
  refine am_e_aload_n n80_5 rfl ?_
  refine am_e_iload_n n80_6 rfl ?_
  refine am_e_aload_n n80_7 rfl ?_
  refine am_e_iload_n n80_8 rfl ?_
  refine am_e_iload_n n80_9 rfl ?_
  refine am_e_iadd (w := 112) n80_10 (by decide) ?_
  refine am_e_iaload (v := 0) (q := 112) n80_11 rfl (by decide) (by decide) (f181_112 (h := h) hT) ?_
  refine am_e_iastore (q := 48) n80_12 rfl (by decide) (by decide) ?_
  refine am_e_iinc (w := 49) (ls' := [(2, .int 49), (0, .ref 181), (1, .int 64)]) n80_13 rfl rfl (by decide) rfl ?_
  refine am_e_goto c80_14 t80_14 ?_
  refine am_e_iload_n n80_2 rfl ?_
  refine am_e_iload_n n80_3 rfl ?_
  refine am_e_cmpF n80_4 (am_c_geF (by decide)) ?_
  refine am_e_aload_n n80_5 rfl ?_
  refine am_e_iload_n n80_6 rfl ?_
  refine am_e_aload_n n80_7 rfl ?_
  refine am_e_iload_n n80_8 rfl ?_
  refine am_e_iload_n n80_9 rfl ?_
  refine am_e_iadd (w := 113) n80_10 (by decide) ?_
  refine am_e_iaload (v := 0) (q := 113) n80_11 rfl (by decide) (by decide) (f181_113 (h := h) hT) ?_
  refine am_e_iastore (q := 49) n80_12 rfl (by decide) (by decide) ?_
  refine am_e_iinc (w := 50) (ls' := [(2, .int 50), (0, .ref 181), (1, .int 64)]) n80_13 rfl rfl (by decide) rfl ?_
  refine am_e_goto c80_14 t80_14 ?_
  refine am_e_iload_n n80_2 rfl ?_
  refine am_e_iload_n n80_3 rfl ?_
  refine am_e_cmpF n80_4 (am_c_geF (by decide)) ?_
  refine am_e_aload_n n80_5 rfl ?_
  refine am_e_iload_n n80_6 rfl ?_
  refine am_e_aload_n n80_7 rfl ?_
  refine am_e_iload_n n80_8 rfl ?_
  refine am_e_iload_n n80_9 rfl ?_
  refine am_e_iadd (w := 114) n80_10 (by decide) ?_
  refine am_e_iaload (v := 0) (q := 114) n80_11 rfl (by decide) (by decide) (f181_114 (h := h) hT) ?_
  refine am_e_iastore (q := 50) n80_12 rfl (by decide) (by decide) ?_
  refine am_e_iinc (w := 51) (ls' := [(2, .int 51), (0, .ref 181), (1, .int 64)]) n80_13 rfl rfl (by decide) rfl ?_
  refine am_e_goto c80_14 t80_14 ?_
  refine am_e_iload_n n80_2 rfl ?_
  refine am_e_iload_n n80_3 rfl ?_
  refine am_e_cmpF n80_4 (am_c_geF (by decide)) ?_
  refine am_e_aload_n n80_5 rfl ?_
  refine am_e_iload_n n80_6 rfl ?_
  refine am_e_aload_n n80_7 rfl ?_
  refine am_e_iload_n n80_8 rfl ?_
  refine am_e_iload_n n80_9 rfl ?_
  refine am_e_iadd (w := 115) n80_10 (by decide) ?_
  refine am_e_iaload (v := 0) (q := 115) n80_11 rfl (by decide) (by decide) (f181_115 (h := h) hT) ?_
  refine am_e_iastore (q := 51) n80_12 rfl (by decide) (by decide) ?_
  refine am_e_iinc (w := 52) (ls' := [(2, .int 52), (0, .ref 181), (1, .int 64)]) n80_13 rfl rfl (by decide) rfl ?_
  refine am_e_goto c80_14 t80_14 ?_
  refine am_e_iload_n n80_2 rfl ?_
  refine am_e_iload_n n80_3 rfl ?_
  refine am_e_cmpF n80_4 (am_c_geF (by decide)) ?_
  refine am_e_aload_n n80_5 rfl ?_
  refine am_e_iload_n n80_6 rfl ?_
  refine am_e_aload_n n80_7 rfl ?_
  refine am_e_iload_n n80_8 rfl ?_
  refine am_e_iload_n n80_9 rfl ?_
  refine am_e_iadd (w := 116) n80_10 (by decide) ?_
  refine am_e_iaload (v := 0) (q := 116) n80_11 rfl (by decide) (by decide) (f181_116 (h := h) hT) ?_
  refine am_e_iastore (q := 52) n80_12 rfl (by decide) (by decide) ?_
  refine am_e_iinc (w := 53) (ls' := [(2, .int 53), (0, .ref 181), (1, .int 64)]) n80_13 rfl rfl (by decide) rfl ?_
  refine am_e_goto c80_14 t80_14 ?_
  refine am_e_iload_n n80_2 rfl ?_
  refine am_e_iload_n n80_3 rfl ?_
  refine am_e_cmpF n80_4 (am_c_geF (by decide)) ?_
  refine am_e_aload_n n80_5 rfl ?_
  refine am_e_iload_n n80_6 rfl ?_
  refine am_e_aload_n n80_7 rfl ?_
  refine am_e_iload_n n80_8 rfl ?_
  refine am_e_iload_n n80_9 rfl ?_
  refine am_e_iadd (w := 117) n80_10 (by decide) ?_
  refine am_e_iaload (v := 0) (q := 117) n80_11 rfl (by decide) (by decide) (f181_117 (h := h) hT) ?_
  refine am_e_iastore (q := 53) n80_12 rfl (by decide) (by decide) ?_
  refine am_e_iinc (w := 54) (ls' := [(2, .int 54), (0, .ref 181), (1, .int 64)]) n80_13 rfl rfl (by decide) rfl ?_
  refine am_e_goto c80_14 t80_14 ?_
  refine am_e_iload_n n80_2 rfl ?_
  refine am_e_iload_n n80_3 rfl ?_
  refine am_e_cmpF n80_4 (am_c_geF (by decide)) ?_
  refine am_e_aload_n n80_5 rfl ?_
  refine am_e_iload_n n80_6 rfl ?_
  refine am_e_aload_n n80_7 rfl ?_
  refine am_e_iload_n n80_8 rfl ?_
  refine am_e_iload_n n80_9 rfl ?_
  refine am_e_iadd (w := 118) n80_10 (by decide) ?_
  refine am_e_iaload (v := 0) (q := 118) n80_11 rfl (by decide) (by decide) (f181_118 (h := h) hT) ?_
  refine am_e_iastore (q := 54) n80_12 rfl (by decide) (by decide) ?_
  refine am_e_iinc (w := 55) (ls' := [(2, .int 55), (0, .ref 181), (1, .int 64)]) n80_13 rfl rfl (by decide) rfl ?_
  refine am_e_goto c80_14 t80_14 ?_
  refine am_e_iload_n n80_2 rfl ?_
  refine am_e_iload_n n80_3 rfl ?_
  refine am_e_cmpF n80_4 (am_c_geF (by decide)) ?_
  refine am_e_aload_n n80_5 rfl ?_
  refine am_e_iload_n n80_6 rfl ?_
  refine am_e_aload_n n80_7 rfl ?_
  refine am_e_iload_n n80_8 rfl ?_
  refine am_e_iload_n n80_9 rfl ?_
  refine am_e_iadd (w := 119) n80_10 (by decide) ?_
  refine am_e_iaload (v := 0) (q := 119) n80_11 rfl (by decide) (by decide) (f181_119 (h := h) hT) ?_
  refine am_e_iastore (q := 55) n80_12 rfl (by decide) (by decide) ?_
  refine am_e_iinc (w := 56) (ls' := [(2, .int 56), (0, .ref 181), (1, .int 64)]) n80_13 rfl rfl (by decide) rfl ?_
  refine am_e_goto c80_14 t80_14 ?_
  refine am_e_iload_n n80_2 rfl ?_
  refine am_e_iload_n n80_3 rfl ?_
  refine am_e_cmpF n80_4 (am_c_geF (by decide)) ?_
  refine am_e_aload_n n80_5 rfl ?_
  refine am_e_iload_n n80_6 rfl ?_
  refine am_e_aload_n n80_7 rfl ?_
  refine am_e_iload_n n80_8 rfl ?_
  refine am_e_iload_n n80_9 rfl ?_
  refine am_e_iadd (w := 120) n80_10 (by decide) ?_
  refine am_e_iaload (v := 0) (q := 120) n80_11 rfl (by decide) (by decide) (f181_120 (h := h) hT) ?_
  refine am_e_iastore (q := 56) n80_12 rfl (by decide) (by decide) ?_
  refine am_e_iinc (w := 57) (ls' := [(2, .int 57), (0, .ref 181), (1, .int 64)]) n80_13 rfl rfl (by decide) rfl ?_
  refine am_e_goto c80_14 t80_14 ?_
  refine am_e_iload_n n80_2 rfl ?_
  refine am_e_iload_n n80_3 rfl ?_
  refine am_e_cmpF n80_4 (am_c_geF (by decide)) ?_
  refine am_e_aload_n n80_5 rfl ?_
  refine am_e_iload_n n80_6 rfl ?_
  refine am_e_aload_n n80_7 rfl ?_
  refine am_e_iload_n n80_8 rfl ?_
  refine am_e_iload_n n80_9 rfl ?_
  refine am_e_iadd (w := 121) n80_10 (by decide) ?_
  refine am_e_iaload (v := 0) (q := 121) n80_11 rfl (by decide) (by decide) (f181_121 (h := h) hT) ?_
  refine am_e_iastore (q := 57) n80_12 rfl (by decide) (by decide) ?_
  refine am_e_iinc (w := 58) (ls' := [(2, .int 58), (0, .ref 181), (1, .int 64)]) n80_13 rfl rfl (by decide) rfl ?_
  refine am_e_goto c80_14 t80_14 ?_
  refine am_e_iload_n n80_2 rfl ?_
  refine am_e_iload_n n80_3 rfl ?_
  refine am_e_cmpF n80_4 (am_c_geF (by decide)) ?_
  refine am_e_aload_n n80_5 rfl ?_
  refine am_e_iload_n n80_6 rfl ?_
  refine am_e_aload_n n80_7 rfl ?_
  refine am_e_iload_n n80_8 rfl ?_
  refine am_e_iload_n n80_9 rfl ?_
  refine am_e_iadd (w := 122) n80_10 (by decide) ?_
  refine am_e_iaload (v := 0) (q := 122) n80_11 rfl (by decide) (by decide) (f181_122 (h := h) hT) ?_
  refine am_e_iastore (q := 58) n80_12 rfl (by decide) (by decide) ?_
  refine am_e_iinc (w := 59) (ls' := [(2, .int 59), (0, .ref 181), (1, .int 64)]) n80_13 rfl rfl (by decide) rfl ?_
  refine am_e_goto c80_14 t80_14 ?_
  refine am_e_iload_n n80_2 rfl ?_
  refine am_e_iload_n n80_3 rfl ?_
  refine am_e_cmpF n80_4 (am_c_geF (by decide)) ?_
  refine am_e_aload_n n80_5 rfl ?_
  refine am_e_iload_n n80_6 rfl ?_
  refine am_e_aload_n n80_7 rfl ?_
  refine am_e_iload_n n80_8 rfl ?_
  refine am_e_iload_n n80_9 rfl ?_
  refine am_e_iadd (w := 123) n80_10 (by decide) ?_
  refine am_e_iaload (v := 0) (q := 123) n80_11 rfl (by decide) (by decide) (f181_123 (h := h) hT) ?_
  refine am_e_iastore (q := 59) n80_12 rfl (by decide) (by decide) ?_
  refine am_e_iinc (w := 60) (ls' := [(2, .int 60), (0, .ref 181), (1, .int 64)]) n80_13 rfl rfl (by decide) rfl ?_
  refine am_e_goto c80_14 t80_14 ?_
  refine am_e_iload_n n80_2 rfl ?_
  refine am_e_iload_n n80_3 rfl ?_
  refine am_e_cmpF n80_4 (am_c_geF (by decide)) ?_
  refine am_e_aload_n n80_5 rfl ?_
  refine am_e_iload_n n80_6 rfl ?_
  refine am_e_aload_n n80_7 rfl ?_
  refine am_e_iload_n n80_8 rfl ?_
  refine am_e_iload_n n80_9 rfl ?_
  refine am_e_iadd (w := 124) n80_10 (by decide) ?_
  refine am_e_iaload (v := 0) (q := 124) n80_11 rfl (by decide) (by decide) (f181_124 (h := h) hT) ?_
  refine am_e_iastore (q := 60) n80_12 rfl (by decide) (by decide) ?_
  refine am_e_iinc (w := 61) (ls' := [(2, .int 61), (0, .ref 181), (1, .int 64)]) n80_13 rfl rfl (by decide) rfl ?_
  refine am_e_goto c80_14 t80_14 ?_
  refine am_e_iload_n n80_2 rfl ?_
  refine am_e_iload_n n80_3 rfl ?_
  refine am_e_cmpF n80_4 (am_c_geF (by decide)) ?_
  refine am_e_aload_n n80_5 rfl ?_
  refine am_e_iload_n n80_6 rfl ?_
  refine am_e_aload_n n80_7 rfl ?_
  refine am_e_iload_n n80_8 rfl ?_
  refine am_e_iload_n n80_9 rfl ?_
  refine am_e_iadd (w := 125) n80_10 (by decide) ?_
  refine am_e_iaload (v := 0) (q := 125) n80_11 rfl (by decide) (by decide) (f181_125 (h := h) hT) ?_
  refine am_e_iastore (q := 61) n80_12 rfl (by decide) (by decide) ?_
  refine am_e_iinc (w := 62) (ls' := [(2, .int 62), (0, .ref 181), (1, .int 64)]) n80_13 rfl rfl (by decide) rfl ?_
  refine am_e_goto c80_14 t80_14 ?_
  refine am_e_iload_n n80_2 rfl ?_
  refine am_e_iload_n n80_3 rfl ?_
  refine am_e_cmpF n80_4 (am_c_geF (by decide)) ?_
  refine am_e_aload_n n80_5 rfl ?_
  refine am_e_iload_n n80_6 rfl ?_
  refine am_e_aload_n n80_7 rfl ?_
  refine am_e_iload_n n80_8 rfl ?_
  refine am_e_iload_n n80_9 rfl ?_
  refine am_e_iadd (w := 126) n80_10 (by decide) ?_
  refine am_e_iaload (v := 0) (q := 126) n80_11 rfl (by decide) (by decide) (f181_126 (h := h) hT) ?_
  refine am_e_iastore (q := 62) n80_12 rfl (by decide) (by decide) ?_
  refine am_e_iinc (w := 63) (ls' := [(2, .int 63), (0, .ref 181), (1, .int 64)]) n80_13 rfl rfl (by decide) rfl ?_
  refine am_e_goto c80_14 t80_14 ?_
  refine am_e_iload_n n80_2 rfl ?_
  refine am_e_iload_n n80_3 rfl ?_
  refine am_e_cmpF n80_4 (am_c_geF (by decide)) ?_
  refine am_e_aload_n n80_5 rfl ?_
  refine am_e_iload_n n80_6 rfl ?_
  refine am_e_aload_n n80_7 rfl ?_
  refine am_e_iload_n n80_8 rfl ?_
  refine am_e_iload_n n80_9 rfl ?_
  refine am_e_iadd (w := 127) n80_10 (by decide) ?_
  refine am_e_iaload (v := 0) (q := 127) n80_11 rfl (by decide) (by decide) (f181_127 (h := h) hT) ?_
  refine am_e_iastore (q := 63) n80_12 rfl (by decide) (by decide) ?_
  refine am_e_iinc (w := 64) (ls' := [(2, .int 64), (0, .ref 181), (1, .int 64)]) n80_13 rfl rfl (by decide) rfl ?_
  refine am_e_goto c80_14 t80_14 ?_
  refine am_e_iload_n n80_2 rfl ?_
  refine am_e_iload_n n80_3 rfl ?_
  refine am_e_cmpT n80_4 (am_c_geT (by decide)) t80_4 ?_
  refine am_e_vret c80_15 rfl rfl ?_
  refine am_e_aload_n n79_89 rfl ?_
  refine am_e_getf (v := .ref 182) n79_90 rfl (f164_37 (h := h) hT) ?_
  refine am_e_bipush (w := 64) n79_91 (by decide) ?_
  refine am_e_callS (L := [(0, .ref 182), (1, .int 64)]) n79_92 rfl rfl rfl rfl rfl rfl rfl ?_
  refine am_e_iconst (w := 0) n80_0 rfl ?_
  refine am_e_istore_n (ls' := [(2, .int 0), (0, .ref 182), (1, .int 64)]) n80_1 rfl rfl ?_
  refine am_e_iload_n n80_2 rfl ?_
  refine am_e_iload_n n80_3 rfl ?_
  refine am_e_cmpF n80_4 (am_c_geF (by decide)) ?_
  refine am_e_aload_n n80_5 rfl ?_
  refine am_e_iload_n n80_6 rfl ?_
  refine am_e_aload_n n80_7 rfl ?_
  refine am_e_iload_n n80_8 rfl ?_
  refine am_e_iload_n n80_9 rfl ?_
  refine am_e_iadd (w := 64) n80_10 (by decide) ?_
  refine am_e_iaload (v := 0) (q := 64) n80_11 rfl (by decide) (by decide) (f182_64 (h := h) hT) ?_
  refine am_e_iastore (q := 0) n80_12 rfl (by decide) (by decide) ?_
  refine am_e_iinc (w := 1) (ls' := [(2, .int 1), (0, .ref 182), (1, .int 64)]) n80_13 rfl rfl (by decide) rfl ?_
  refine am_e_goto c80_14 t80_14 ?_
  refine am_e_iload_n n80_2 rfl ?_
  refine am_e_iload_n n80_3 rfl ?_
  refine am_e_cmpF n80_4 (am_c_geF (by decide)) ?_
  refine am_e_aload_n n80_5 rfl ?_
  refine am_e_iload_n n80_6 rfl ?_
  refine am_e_aload_n n80_7 rfl ?_
  refine am_e_iload_n n80_8 rfl ?_
  refine am_e_iload_n n80_9 rfl ?_
  refine am_e_iadd (w := 65) n80_10 (by decide) ?_
  refine am_e_iaload (v := 0) (q := 65) n80_11 rfl (by decide) (by decide) (f182_65 (h := h) hT) ?_
  refine am_e_iastore (q := 1) n80_12 rfl (by decide) (by decide) ?_
  refine am_e_iinc (w := 2) (ls' := [(2, .int 2), (0, .ref 182), (1, .int 64)]) n80_13 rfl rfl (by decide) rfl ?_
  refine am_e_goto c80_14 t80_14 ?_
  refine am_e_iload_n n80_2 rfl ?_
  refine am_e_iload_n n80_3 rfl ?_
  refine am_e_cmpF n80_4 (am_c_geF (by decide)) ?_
  refine am_e_aload_n n80_5 rfl ?_
  refine am_e_iload_n n80_6 rfl ?_
  refine am_e_aload_n n80_7 rfl ?_
  refine am_e_iload_n n80_8 rfl ?_
  refine am_e_iload_n n80_9 rfl ?_
  refine am_e_iadd (w := 66) n80_10 (by decide) ?_
  refine am_e_iaload (v := 0) (q := 66) n80_11 rfl (by decide) (by decide) (f182_66 (h := h) hT) ?_
  refine am_e_iastore (q := 2) n80_12 rfl (by decide) (by decide) ?_
  refine am_e_iinc (w := 3) (ls' := [(2, .int 3), (0, .ref 182), (1, .int 64)]) n80_13 rfl rfl (by decide) rfl ?_
  refine am_e_goto c80_14 t80_14 ?_
  refine am_e_iload_n n80_2 rfl ?_
  refine am_e_iload_n n80_3 rfl ?_
  refine am_e_cmpF n80_4 (am_c_geF (by decide)) ?_
  refine am_e_aload_n n80_5 rfl ?_
  refine am_e_iload_n n80_6 rfl ?_
  refine am_e_aload_n n80_7 rfl ?_
  refine am_e_iload_n n80_8 rfl ?_
  refine am_e_iload_n n80_9 rfl ?_
  refine am_e_iadd (w := 67) n80_10 (by decide) ?_
  refine am_e_iaload (v := 0) (q := 67) n80_11 rfl (by decide) (by decide) (f182_67 (h := h) hT) ?_
  refine am_e_iastore (q := 3) n80_12 rfl (by decide) (by decide) ?_
  refine am_e_iinc (w := 4) (ls' := [(2, .int 4), (0, .ref 182), (1, .int 64)]) n80_13 rfl rfl (by decide) rfl ?_
  refine am_e_goto c80_14 t80_14 ?_
  refine am_e_iload_n n80_2 rfl ?_
  refine am_e_iload_n n80_3 rfl ?_
  refine am_e_cmpF n80_4 (am_c_geF (by decide)) ?_
  refine am_e_aload_n n80_5 rfl ?_
  refine am_e_iload_n n80_6 rfl ?_
  refine am_e_aload_n n80_7 rfl ?_
  refine am_e_iload_n n80_8 rfl ?_
  refine am_e_iload_n n80_9 rfl ?_
  refine am_e_iadd (w := 68) n80_10 (by decide) ?_
  refine am_e_iaload (v := 0) (q := 68) n80_11 rfl (by decide) (by decide) (f182_68 (h := h) hT) ?_
  refine am_e_iastore (q := 4) n80_12 rfl (by decide) (by decide) ?_
  refine am_e_iinc (w := 5) (ls' := [(2, .int 5), (0, .ref 182), (1, .int 64)]) n80_13 rfl rfl (by decide) rfl ?_
  refine am_e_goto c80_14 t80_14 ?_
  refine am_e_iload_n n80_2 rfl ?_
  refine am_e_iload_n n80_3 rfl ?_
  refine am_e_cmpF n80_4 (am_c_geF (by decide)) ?_
  refine am_e_aload_n n80_5 rfl ?_
  refine am_e_iload_n n80_6 rfl ?_
  refine am_e_aload_n n80_7 rfl ?_
  refine am_e_iload_n n80_8 rfl ?_
  refine am_e_iload_n n80_9 rfl ?_
  refine am_e_iadd (w := 69) n80_10 (by decide) ?_
  refine am_e_iaload (v := 0) (q := 69) n80_11 rfl (by decide) (by decide) (f182_69 (h := h) hT) ?_
  refine am_e_iastore (q := 5) n80_12 rfl (by decide) (by decide) ?_
  refine am_e_iinc (w := 6) (ls' := [(2, .int 6), (0, .ref 182), (1, .int 64)]) n80_13 rfl rfl (by decide) rfl ?_
  refine am_e_goto c80_14 t80_14 ?_
  refine am_e_iload_n n80_2 rfl ?_
  refine am_e_iload_n n80_3 rfl ?_
  refine am_e_cmpF n80_4 (am_c_geF (by decide)) ?_
  refine am_e_aload_n n80_5 rfl ?_
  refine am_e_iload_n n80_6 rfl ?_
  refine am_e_aload_n n80_7 rfl ?_
  refine am_e_iload_n n80_8 rfl ?_
  refine am_e_iload_n n80_9 rfl ?_
  refine am_e_iadd (w := 70) n80_10 (by decide) ?_
  refine am_e_iaload (v := 0) (q := 70) n80_11 rfl (by decide) (by decide) (f182_70 (h := h) hT) ?_
  refine am_e_iastore (q := 6) n80_12 rfl (by decide) (by decide) ?_
  refine am_e_iinc (w := 7) (ls' := [(2, .int 7), (0, .ref 182), (1, .int 64)]) n80_13 rfl rfl (by decide) rfl ?_
  refine am_e_goto c80_14 t80_14 ?_
  refine am_e_iload_n n80_2 rfl ?_
  refine am_e_iload_n n80_3 rfl ?_
  refine am_e_cmpF n80_4 (am_c_geF (by decide)) ?_
  refine am_e_aload_n n80_5 rfl ?_
  refine am_e_iload_n n80_6 rfl ?_
  refine am_e_aload_n n80_7 rfl ?_
  refine am_e_iload_n n80_8 rfl ?_
  refine am_e_iload_n n80_9 rfl ?_
  refine am_e_iadd (w := 71) n80_10 (by decide) ?_
  refine am_e_iaload (v := 0) (q := 71) n80_11 rfl (by decide) (by decide) (f182_71 (h := h) hT) ?_
  refine am_e_iastore (q := 7) n80_12 rfl (by decide) (by decide) ?_
  refine am_e_iinc (w := 8) (ls' := [(2, .int 8), (0, .ref 182), (1, .int 64)]) n80_13 rfl rfl (by decide) rfl ?_
  refine am_e_goto c80_14 t80_14 ?_
  refine am_e_iload_n n80_2 rfl ?_
  refine am_e_iload_n n80_3 rfl ?_
  refine am_e_cmpF n80_4 (am_c_geF (by decide)) ?_
  refine am_e_aload_n n80_5 rfl ?_
  refine am_e_iload_n n80_6 rfl ?_
  refine am_e_aload_n n80_7 rfl ?_
  refine am_e_iload_n n80_8 rfl ?_
  refine am_e_iload_n n80_9 rfl ?_
  refine am_e_iadd (w := 72) n80_10 (by decide) ?_
  refine am_e_iaload (v := 0) (q := 72) n80_11 rfl (by decide) (by decide) (f182_72 (h := h) hT) ?_
  refine am_e_iastore (q := 8) n80_12 rfl (by decide) (by decide) ?_
  refine am_e_iinc (w := 9) (ls' := [(2, .int 9), (0, .ref 182), (1, .int 64)]) n80_13 rfl rfl (by decide) rfl ?_
  refine am_e_goto c80_14 t80_14 ?_
  refine am_e_iload_n n80_2 rfl ?_
  refine am_e_iload_n n80_3 rfl ?_
  refine am_e_cmpF n80_4 (am_c_geF (by decide)) ?_
  refine am_e_aload_n n80_5 rfl ?_
  refine am_e_iload_n n80_6 rfl ?_
  refine am_e_aload_n n80_7 rfl ?_
  refine am_e_iload_n n80_8 rfl ?_
  refine am_e_iload_n n80_9 rfl ?_
  refine am_e_iadd (w := 73) n80_10 (by decide) ?_
  refine am_e_iaload (v := 0) (q := 73) n80_11 rfl (by decide) (by decide) (f182_73 (h := h) hT) ?_
  refine am_e_iastore (q := 9) n80_12 rfl (by decide) (by decide) ?_
  refine am_e_iinc (w := 10) (ls' := [(2, .int 10), (0, .ref 182), (1, .int 64)]) n80_13 rfl rfl (by decide) rfl ?_
  refine am_e_goto c80_14 t80_14 ?_
  refine am_e_iload_n n80_2 rfl ?_
  refine am_e_iload_n n80_3 rfl ?_
  refine am_e_cmpF n80_4 (am_c_geF (by decide)) ?_
  refine am_e_aload_n n80_5 rfl ?_
  refine am_e_iload_n n80_6 rfl ?_
  refine am_e_aload_n n80_7 rfl ?_
  refine am_e_iload_n n80_8 rfl ?_
  refine am_e_iload_n n80_9 rfl ?_
  refine am_e_iadd (w := 74) n80_10 (by decide) ?_
  refine am_e_iaload (v := 0) (q := 74) n80_11 rfl (by decide) (by decide) (f182_74 (h := h) hT) ?_
  refine am_e_iastore (q := 10) n80_12 rfl (by decide) (by decide) ?_
  refine am_e_iinc (w := 11) (ls' := [(2, .int 11), (0, .ref 182), (1, .int 64)]) n80_13 rfl rfl (by decide) rfl ?_
  refine am_e_goto c80_14 t80_14 ?_
  refine am_e_iload_n n80_2 rfl ?_
  refine am_e_iload_n n80_3 rfl ?_
  refine am_e_cmpF n80_4 (am_c_geF (by decide)) ?_
  refine am_e_aload_n n80_5 rfl ?_
  refine am_e_iload_n n80_6 rfl ?_
  refine am_e_aload_n n80_7 rfl ?_
  refine am_e_iload_n n80_8 rfl ?_
  refine am_e_iload_n n80_9 rfl ?_
  refine am_e_iadd (w := 75) n80_10 (by decide) ?_
  refine am_e_iaload (v := 0) (q := 75) n80_11 rfl (by decide) (by decide) (f182_75 (h := h) hT) ?_
  refine am_e_iastore (q := 11) n80_12 rfl (by decide) (by decide) ?_
  refine am_e_iinc (w := 12) (ls' := [(2, .int 12), (0, .ref 182), (1, .int 64)]) n80_13 rfl rfl (by decide) rfl ?_
  refine am_e_goto c80_14 t80_14 ?_
  refine am_e_iload_n n80_2 rfl ?_
  refine am_e_iload_n n80_3 rfl ?_
  refine am_e_cmpF n80_4 (am_c_geF (by decide)) ?_
  refine am_e_aload_n n80_5 rfl ?_
  refine am_e_iload_n n80_6 rfl ?_
  refine am_e_aload_n n80_7 rfl ?_
  refine am_e_iload_n n80_8 rfl ?_
  refine am_e_iload_n n80_9 rfl ?_
  refine am_e_iadd (w := 76) n80_10 (by decide) ?_
  refine am_e_iaload (v := 0) (q := 76) n80_11 rfl (by decide) (by decide) (f182_76 (h := h) hT) ?_
  refine am_e_iastore (q := 12) n80_12 rfl (by decide) (by decide) ?_
  refine am_e_iinc (w := 13) (ls' := [(2, .int 13), (0, .ref 182), (1, .int 64)]) n80_13 rfl rfl (by decide) rfl ?_
  refine am_e_goto c80_14 t80_14 ?_
  refine am_e_iload_n n80_2 rfl ?_
  refine am_e_iload_n n80_3 rfl ?_
  refine am_e_cmpF n80_4 (am_c_geF (by decide)) ?_
  refine am_e_aload_n n80_5 rfl ?_
  refine am_e_iload_n n80_6 rfl ?_
  refine am_e_aload_n n80_7 rfl ?_
  refine am_e_iload_n n80_8 rfl ?_
  refine am_e_iload_n n80_9 rfl ?_
  refine am_e_iadd (w := 77) n80_10 (by decide) ?_
  refine am_e_iaload (v := 0) (q := 77) n80_11 rfl (by decide) (by decide) (f182_77 (h := h) hT) ?_
  refine am_e_iastore (q := 13) n80_12 rfl (by decide) (by decide) ?_
  refine am_e_iinc (w := 14) (ls' := [(2, .int 14), (0, .ref 182), (1, .int 64)]) n80_13 rfl rfl (by decide) rfl ?_
  refine am_e_goto c80_14 t80_14 ?_
  refine am_e_iload_n n80_2 rfl ?_
  refine am_e_iload_n n80_3 rfl ?_
  refine am_e_cmpF n80_4 (am_c_geF (by decide)) ?_
  refine am_e_aload_n n80_5 rfl ?_
  refine am_e_iload_n n80_6 rfl ?_
  refine am_e_aload_n n80_7 rfl ?_
  refine am_e_iload_n n80_8 rfl ?_
  refine am_e_iload_n n80_9 rfl ?_
  refine am_e_iadd (w := 78) n80_10 (by decide) ?_
  refine am_e_iaload (v := 0) (q := 78) n80_11 rfl (by decide) (by decide) (f182_78 (h := h) hT) ?_
  refine am_e_iastore (q := 14) n80_12 rfl (by decide) (by decide) ?_
  refine am_e_iinc (w := 15) (ls' := [(2, .int 15), (0, .ref 182), (1, .int 64)]) n80_13 rfl rfl (by decide) rfl ?_
  refine am_e_goto c80_14 t80_14 ?_
  refine am_e_iload_n n80_2 rfl ?_
  refine am_e_iload_n n80_3 rfl ?_
  refine am_e_cmpF n80_4 (am_c_geF (by decide)) ?_
  refine am_e_aload_n n80_5 rfl ?_
  refine am_e_iload_n n80_6 rfl ?_
  refine am_e_aload_n n80_7 rfl ?_
  refine am_e_iload_n n80_8 rfl ?_
  refine am_e_iload_n n80_9 rfl ?_
  refine am_e_iadd (w := 79) n80_10 (by decide) ?_
  refine am_e_iaload (v := 0) (q := 79) n80_11 rfl (by decide) (by decide) (f182_79 (h := h) hT) ?_
  refine am_e_iastore (q := 15) n80_12 rfl (by decide) (by decide) ?_
  refine am_e_iinc (w := 16) (ls' := [(2, .int 16), (0, .ref 182), (1, .int 64)]) n80_13 rfl rfl (by decide) rfl ?_
  refine am_e_goto c80_14 t80_14 ?_
  refine am_e_iload_n n80_2 rfl ?_
  refine am_e_iload_n n80_3 rfl ?_
  refine am_e_cmpF n80_4 (am_c_geF (by decide)) ?_
  refine am_e_aload_n n80_5 rfl ?_
  refine am_e_iload_n n80_6 rfl ?_
  refine am_e_aload_n n80_7 rfl ?_
  refine am_e_iload_n n80_8 rfl ?_
  refine am_e_iload_n n80_9 rfl ?_
  refine am_e_iadd (w := 80) n80_10 (by decide) ?_
  refine am_e_iaload (v := 0) (q := 80) n80_11 rfl (by decide) (by decide) (f182_80 (h := h) hT) ?_
  refine am_e_iastore (q := 16) n80_12 rfl (by decide) (by decide) ?_
  refine am_e_iinc (w := 17) (ls' := [(2, .int 17), (0, .ref 182), (1, .int 64)]) n80_13 rfl rfl (by decide) rfl ?_
  refine am_e_goto c80_14 t80_14 ?_
  refine am_e_iload_n n80_2 rfl ?_
  refine am_e_iload_n n80_3 rfl ?_
  refine am_e_cmpF n80_4 (am_c_geF (by decide)) ?_
  refine am_e_aload_n n80_5 rfl ?_
  refine am_e_iload_n n80_6 rfl ?_
  refine am_e_aload_n n80_7 rfl ?_
  refine am_e_iload_n n80_8 rfl ?_
  refine am_e_iload_n n80_9 rfl ?_
  refine am_e_iadd (w := 81) n80_10 (by decide) ?_
  refine am_e_iaload (v := 0) (q := 81) n80_11 rfl (by decide) (by decide) (f182_81 (h := h) hT) ?_
  refine am_e_iastore (q := 17) n80_12 rfl (by decide) (by decide) ?_
  refine am_e_iinc (w := 18) (ls' := [(2, .int 18), (0, .ref 182), (1, .int 64)]) n80_13 rfl rfl (by decide) rfl ?_
  refine am_e_goto c80_14 t80_14 ?_
  refine am_e_iload_n n80_2 rfl ?_
  refine am_e_iload_n n80_3 rfl ?_
  refine am_e_cmpF n80_4 (am_c_geF (by decide)) ?_
  refine am_e_aload_n n80_5 rfl ?_
  refine am_e_iload_n n80_6 rfl ?_
  refine am_e_aload_n n80_7 rfl ?_
  refine am_e_iload_n n80_8 rfl ?_
  refine am_e_iload_n n80_9 rfl ?_
  refine am_e_iadd (w := 82) n80_10 (by decide) ?_
  refine am_e_iaload (v := 0) (q := 82) n80_11 rfl (by decide) (by decide) (f182_82 (h := h) hT) ?_
  refine am_e_iastore (q := 18) n80_12 rfl (by decide) (by decide) ?_
  refine am_e_iinc (w := 19) (ls' := [(2, .int 19), (0, .ref 182), (1, .int 64)]) n80_13 rfl rfl (by decide) rfl ?_
  refine am_e_goto c80_14 t80_14 ?_
  refine am_e_iload_n n80_2 rfl ?_
  refine am_e_iload_n n80_3 rfl ?_
  refine am_e_cmpF n80_4 (am_c_geF (by decide)) ?_
  refine am_e_aload_n n80_5 rfl ?_
  refine am_e_iload_n n80_6 rfl ?_
  refine am_e_aload_n n80_7 rfl ?_
  refine am_e_iload_n n80_8 rfl ?_
  refine am_e_iload_n n80_9 rfl ?_
  refine am_e_iadd (w := 83) n80_10 (by decide) ?_
  refine am_e_iaload (v := 0) (q := 83) n80_11 rfl (by decide) (by decide) (f182_83 (h := h) hT) ?_
  refine am_e_iastore (q := 19) n80_12 rfl (by decide) (by decide) ?_
  refine am_e_iinc (w := 20) (ls' := [(2, .int 20), (0, .ref 182), (1, .int 64)]) n80_13 rfl rfl (by decide) rfl ?_
  refine am_e_goto c80_14 t80_14 ?_
  refine am_e_iload_n n80_2 rfl ?_
  refine am_e_iload_n n80_3 rfl ?_
  refine am_e_cmpF n80_4 (am_c_geF (by decide)) ?_
  refine am_e_aload_n n80_5 rfl ?_
  refine am_e_iload_n n80_6 rfl ?_
  refine am_e_aload_n n80_7 rfl ?_
  refine am_e_iload_n n80_8 rfl ?_
  refine am_e_iload_n n80_9 rfl ?_
  refine am_e_iadd (w := 84) n80_10 (by decide) ?_
  refine am_e_iaload (v := 0) (q := 84) n80_11 rfl (by decide) (by decide) (f182_84 (h := h) hT) ?_
  refine am_e_iastore (q := 20) n80_12 rfl (by decide) (by decide) ?_
  refine am_e_iinc (w := 21) (ls' := [(2, .int 21), (0, .ref 182), (1, .int 64)]) n80_13 rfl rfl (by decide) rfl ?_
  refine am_e_goto c80_14 t80_14 ?_
  refine am_e_iload_n n80_2 rfl ?_
  refine am_e_iload_n n80_3 rfl ?_
  refine am_e_cmpF n80_4 (am_c_geF (by decide)) ?_
  refine am_e_aload_n n80_5 rfl ?_
  refine am_e_iload_n n80_6 rfl ?_
  refine am_e_aload_n n80_7 rfl ?_
  refine am_e_iload_n n80_8 rfl ?_
  refine am_e_iload_n n80_9 rfl ?_
  refine am_e_iadd (w := 85) n80_10 (by decide) ?_
  refine am_e_iaload (v := 0) (q := 85) n80_11 rfl (by decide) (by decide) (f182_85 (h := h) hT) ?_
  refine am_e_iastore (q := 21) n80_12 rfl (by decide) (by decide) ?_
  refine am_e_iinc (w := 22) (ls' := [(2, .int 22), (0, .ref 182), (1, .int 64)]) n80_13 rfl rfl (by decide) rfl ?_
  refine am_e_goto c80_14 t80_14 ?_
  refine am_e_iload_n n80_2 rfl ?_
  refine am_e_iload_n n80_3 rfl ?_
  refine am_e_cmpF n80_4 (am_c_geF (by decide)) ?_
  refine am_e_aload_n n80_5 rfl ?_
  refine am_e_iload_n n80_6 rfl ?_
  refine am_e_aload_n n80_7 rfl ?_
  refine am_e_iload_n n80_8 rfl ?_
  refine am_e_iload_n n80_9 rfl ?_
  refine am_e_iadd (w := 86) n80_10 (by decide) ?_
  refine am_e_iaload (v := 0) (q := 86) n80_11 rfl (by decide) (by decide) (f182_86 (h := h) hT) ?_
  refine am_e_iastore (q := 22) n80_12 rfl (by decide) (by decide) ?_
  refine am_e_iinc (w := 23) (ls' := [(2, .int 23), (0, .ref 182), (1, .int 64)]) n80_13 rfl rfl (by decide) rfl ?_
  refine am_e_goto c80_14 t80_14 ?_
  refine am_e_iload_n n80_2 rfl ?_
  refine am_e_iload_n n80_3 rfl ?_
  refine am_e_cmpF n80_4 (am_c_geF (by decide)) ?_
  refine am_e_aload_n n80_5 rfl ?_
  refine am_e_iload_n n80_6 rfl ?_
  refine am_e_aload_n n80_7 rfl ?_
  refine am_e_iload_n n80_8 rfl ?_
  refine am_e_iload_n n80_9 rfl ?_
  refine am_e_iadd (w := 87) n80_10 (by decide) ?_
  refine am_e_iaload (v := 0) (q := 87) n80_11 rfl (by decide) (by decide) (f182_87 (h := h) hT) ?_
  refine am_e_iastore (q := 23) n80_12 rfl (by decide) (by decide) ?_
  refine am_e_iinc (w := 24) (ls' := [(2, .int 24), (0, .ref 182), (1, .int 64)]) n80_13 rfl rfl (by decide) rfl ?_
  refine am_e_goto c80_14 t80_14 ?_
  refine am_e_iload_n n80_2 rfl ?_
  refine am_e_iload_n n80_3 rfl ?_
  refine am_e_cmpF n80_4 (am_c_geF (by decide)) ?_
  refine am_e_aload_n n80_5 rfl ?_
  refine am_e_iload_n n80_6 rfl ?_
  refine am_e_aload_n n80_7 rfl ?_
  refine am_e_iload_n n80_8 rfl ?_
  refine am_e_iload_n n80_9 rfl ?_
  refine am_e_iadd (w := 88) n80_10 (by decide) ?_
  refine am_e_iaload (v := 0) (q := 88) n80_11 rfl (by decide) (by decide) (f182_88 (h := h) hT) ?_
  refine am_e_iastore (q := 24) n80_12 rfl (by decide) (by decide) ?_
  refine am_e_iinc (w := 25) (ls' := [(2, .int 25), (0, .ref 182), (1, .int 64)]) n80_13 rfl rfl (by decide) rfl ?_
  refine am_e_goto c80_14 t80_14 ?_
  refine am_e_iload_n n80_2 rfl ?_
  refine am_e_iload_n n80_3 rfl ?_
  refine am_e_cmpF n80_4 (am_c_geF (by decide)) ?_
  refine am_e_aload_n n80_5 rfl ?_
  refine am_e_iload_n n80_6 rfl ?_
  refine am_e_aload_n n80_7 rfl ?_
  refine am_e_iload_n n80_8 rfl ?_
  refine am_e_iload_n n80_9 rfl ?_
  refine am_e_iadd (w := 89) n80_10 (by decide) ?_
  refine am_e_iaload (v := 0) (q := 89) n80_11 rfl (by decide) (by decide) (f182_89 (h := h) hT) ?_
  refine am_e_iastore (q := 25) n80_12 rfl (by decide) (by decide) ?_
  refine am_e_iinc (w := 26) (ls' := [(2, .int 26), (0, .ref 182), (1, .int 64)]) n80_13 rfl rfl (by decide) rfl ?_
  refine am_e_goto c80_14 t80_14 ?_
  refine am_e_iload_n n80_2 rfl ?_
  refine am_e_iload_n n80_3 rfl ?_
  refine am_e_cmpF n80_4 (am_c_geF (by decide)) ?_
  refine am_e_aload_n n80_5 rfl ?_
  refine am_e_iload_n n80_6 rfl ?_
  refine am_e_aload_n n80_7 rfl ?_
  refine am_e_iload_n n80_8 rfl ?_
  refine am_e_iload_n n80_9 rfl ?_
  refine am_e_iadd (w := 90) n80_10 (by decide) ?_
  refine am_e_iaload (v := 0) (q := 90) n80_11 rfl (by decide) (by decide) (f182_90 (h := h) hT) ?_
  refine am_e_iastore (q := 26) n80_12 rfl (by decide) (by decide) ?_
  refine am_e_iinc (w := 27) (ls' := [(2, .int 27), (0, .ref 182), (1, .int 64)]) n80_13 rfl rfl (by decide) rfl ?_
  refine am_e_goto c80_14 t80_14 ?_
  refine am_e_iload_n n80_2 rfl ?_
  refine am_e_iload_n n80_3 rfl ?_
  refine am_e_cmpF n80_4 (am_c_geF (by decide)) ?_
  refine am_e_aload_n n80_5 rfl ?_
  refine am_e_iload_n n80_6 rfl ?_
  refine am_e_aload_n n80_7 rfl ?_
  refine am_e_iload_n n80_8 rfl ?_
  refine am_e_iload_n n80_9 rfl ?_
  refine am_e_iadd (w := 91) n80_10 (by decide) ?_
  refine am_e_iaload (v := 0) (q := 91) n80_11 rfl (by decide) (by decide) (f182_91 (h := h) hT) ?_
  refine am_e_iastore (q := 27) n80_12 rfl (by decide) (by decide) ?_
  refine am_e_iinc (w := 28) (ls' := [(2, .int 28), (0, .ref 182), (1, .int 64)]) n80_13 rfl rfl (by decide) rfl ?_
  refine am_e_goto c80_14 t80_14 ?_
  refine am_e_iload_n n80_2 rfl ?_
  refine am_e_iload_n n80_3 rfl ?_
  refine am_e_cmpF n80_4 (am_c_geF (by decide)) ?_
  refine am_e_aload_n n80_5 rfl ?_
  refine am_e_iload_n n80_6 rfl ?_
  refine am_e_aload_n n80_7 rfl ?_
  refine am_e_iload_n n80_8 rfl ?_
  refine am_e_iload_n n80_9 rfl ?_
  refine am_e_iadd (w := 92) n80_10 (by decide) ?_
  refine am_e_iaload (v := 0) (q := 92) n80_11 rfl (by decide) (by decide) (f182_92 (h := h) hT) ?_
  refine am_e_iastore (q := 28) n80_12 rfl (by decide) (by decide) ?_
  refine am_e_iinc (w := 29) (ls' := [(2, .int 29), (0, .ref 182), (1, .int 64)]) n80_13 rfl rfl (by decide) rfl ?_
  refine am_e_goto c80_14 t80_14 ?_
  refine am_e_iload_n n80_2 rfl ?_
  refine am_e_iload_n n80_3 rfl ?_
  refine am_e_cmpF n80_4 (am_c_geF (by decide)) ?_
  refine am_e_aload_n n80_5 rfl ?_
  refine am_e_iload_n n80_6 rfl ?_
  refine am_e_aload_n n80_7 rfl ?_
  refine am_e_iload_n n80_8 rfl ?_
  refine am_e_iload_n n80_9 rfl ?_
  refine am_e_iadd (w := 93) n80_10 (by decide) ?_
  refine am_e_iaload (v := 0) (q := 93) n80_11 rfl (by decide) (by decide) (f182_93 (h := h) hT) ?_
  refine am_e_iastore (q := 29) n80_12 rfl (by decide) (by decide) ?_
  refine am_e_iinc (w := 30) (ls' := [(2, .int 30), (0, .ref 182), (1, .int 64)]) n80_13 rfl rfl (by decide) rfl ?_
  refine am_e_goto c80_14 t80_14 ?_
  refine am_e_iload_n n80_2 rfl ?_
  refine am_e_iload_n n80_3 rfl ?_
  refine am_e_cmpF n80_4 (am_c_geF (by decide)) ?_
  refine am_e_aload_n n80_5 rfl ?_
  refine am_e_iload_n n80_6 rfl ?_
  refine am_e_aload_n n80_7 rfl ?_
  refine am_e_iload_n n80_8 rfl ?_
  refine am_e_iload_n n80_9 rfl ?_
  refine am_e_iadd (w := 94) n80_10 (by decide) ?_
  refine am_e_iaload (v := 0) (q := 94) n80_11 rfl (by decide) (by decide) (f182_94 (h := h) hT) ?_
  refine am_e_iastore (q := 30) n80_12 rfl (by decide) (by decide) ?_
  refine am_e_iinc (w := 31) (ls' := [(2, .int 31), (0, .ref 182), (1, .int 64)]) n80_13 rfl rfl (by decide) rfl ?_
  refine am_e_goto c80_14 t80_14 ?_
  refine am_e_iload_n n80_2 rfl ?_
  refine am_e_iload_n n80_3 rfl ?_
  refine am_e_cmpF n80_4 (am_c_geF (by decide)) ?_
  refine am_e_aload_n n80_5 rfl ?_
  refine am_e_iload_n n80_6 rfl ?_
  refine am_e_aload_n n80_7 rfl ?_
  refine am_e_iload_n n80_8 rfl ?_
  refine am_e_iload_n n80_9 rfl ?_
  refine am_e_iadd (w := 95) n80_10 (by decide) ?_
  refine am_e_iaload (v := 0) (q := 95) n80_11 rfl (by decide) (by decide) (f182_95 (h := h) hT) ?_
  refine am_e_iastore (q := 31) n80_12 rfl (by decide) (by decide) ?_
  refine am_e_iinc (w := 32) (ls' := [(2, .int 32), (0, .ref 182), (1, .int 64)]) n80_13 rfl rfl (by decide) rfl ?_
  refine am_e_goto c80_14 t80_14 ?_
  refine am_e_iload_n n80_2 rfl ?_
  refine am_e_iload_n n80_3 rfl ?_
  refine am_e_cmpF n80_4 (am_c_geF (by decide)) ?_
  refine am_e_aload_n n80_5 rfl ?_
  refine am_e_iload_n n80_6 rfl ?_
  refine am_e_aload_n n80_7 rfl ?_
  refine am_e_iload_n n80_8 rfl ?_
  refine am_e_iload_n n80_9 rfl ?_
  refine am_e_iadd (w := 96) n80_10 (by decide) ?_
  refine am_e_iaload (v := 0) (q := 96) n80_11 rfl (by decide) (by decide) (f182_96 (h := h) hT) ?_
  refine am_e_iastore (q := 32) n80_12 rfl (by decide) (by decide) ?_
  refine am_e_iinc (w := 33) (ls' := [(2, .int 33), (0, .ref 182), (1, .int 64)]) n80_13 rfl rfl (by decide) rfl ?_
  refine am_e_goto c80_14 t80_14 ?_
  refine am_e_iload_n n80_2 rfl ?_
  refine am_e_iload_n n80_3 rfl ?_
  refine am_e_cmpF n80_4 (am_c_geF (by decide)) ?_
  refine am_e_aload_n n80_5 rfl ?_
  refine am_e_iload_n n80_6 rfl ?_
  refine am_e_aload_n n80_7 rfl ?_
  refine am_e_iload_n n80_8 rfl ?_
  refine am_e_iload_n n80_9 rfl ?_
  refine am_e_iadd (w := 97) n80_10 (by decide) ?_
  refine am_e_iaload (v := 0) (q := 97) n80_11 rfl (by decide) (by decide) (f182_97 (h := h) hT) ?_
  refine am_e_iastore (q := 33) n80_12 rfl (by decide) (by decide) ?_
  refine am_e_iinc (w := 34) (ls' := [(2, .int 34), (0, .ref 182), (1, .int 64)]) n80_13 rfl rfl (by decide) rfl ?_
  refine am_e_goto c80_14 t80_14 ?_
  refine am_e_iload_n n80_2 rfl ?_
  refine am_e_iload_n n80_3 rfl ?_
  refine am_e_cmpF n80_4 (am_c_geF (by decide)) ?_
  refine am_e_aload_n n80_5 rfl ?_
  refine am_e_iload_n n80_6 rfl ?_
  refine am_e_aload_n n80_7 rfl ?_
  refine am_e_iload_n n80_8 rfl ?_
  refine am_e_iload_n n80_9 rfl ?_
  refine am_e_iadd (w := 98) n80_10 (by decide) ?_
  refine am_e_iaload (v := 0) (q := 98) n80_11 rfl (by decide) (by decide) (f182_98 (h := h) hT) ?_
  refine am_e_iastore (q := 34) n80_12 rfl (by decide) (by decide) ?_
  refine am_e_iinc (w := 35) (ls' := [(2, .int 35), (0, .ref 182), (1, .int 64)]) n80_13 rfl rfl (by decide) rfl ?_
  refine am_e_goto c80_14 t80_14 ?_
  refine am_e_iload_n n80_2 rfl ?_
  refine am_e_iload_n n80_3 rfl ?_
  refine am_e_cmpF n80_4 (am_c_geF (by decide)) ?_
  refine am_e_aload_n n80_5 rfl ?_
  refine am_e_iload_n n80_6 rfl ?_
  refine am_e_aload_n n80_7 rfl ?_
  refine am_e_iload_n n80_8 rfl ?_
  refine am_e_iload_n n80_9 rfl ?_
  refine am_e_iadd (w := 99) n80_10 (by decide) ?_
  refine am_e_iaload (v := 0) (q := 99) n80_11 rfl (by decide) (by decide) (f182_99 (h := h) hT) ?_
  refine am_e_iastore (q := 35) n80_12 rfl (by decide) (by decide) ?_
  refine am_e_iinc (w := 36) (ls' := [(2, .int 36), (0, .ref 182), (1, .int 64)]) n80_13 rfl rfl (by decide) rfl ?_
  refine am_e_goto c80_14 t80_14 ?_
  refine am_e_iload_n n80_2 rfl ?_
  refine am_e_iload_n n80_3 rfl ?_
  refine am_e_cmpF n80_4 (am_c_geF (by decide)) ?_
  refine am_e_aload_n n80_5 rfl ?_
  refine am_e_iload_n n80_6 rfl ?_
  refine am_e_aload_n n80_7 rfl ?_
  refine am_e_iload_n n80_8 rfl ?_
  refine am_e_iload_n n80_9 rfl ?_
  refine am_e_iadd (w := 100) n80_10 (by decide) ?_
  refine am_e_iaload (v := 0) (q := 100) n80_11 rfl (by decide) (by decide) (f182_100 (h := h) hT) ?_
  refine am_e_iastore (q := 36) n80_12 rfl (by decide) (by decide) ?_
  refine am_e_iinc (w := 37) (ls' := [(2, .int 37), (0, .ref 182), (1, .int 64)]) n80_13 rfl rfl (by decide) rfl ?_
  refine am_e_goto c80_14 t80_14 ?_
  refine am_e_iload_n n80_2 rfl ?_
  refine am_e_iload_n n80_3 rfl ?_
  refine am_e_cmpF n80_4 (am_c_geF (by decide)) ?_
  refine am_e_aload_n n80_5 rfl ?_
  refine am_e_iload_n n80_6 rfl ?_
  refine am_e_aload_n n80_7 rfl ?_
  refine am_e_iload_n n80_8 rfl ?_
  refine am_e_iload_n n80_9 rfl ?_
  refine am_e_iadd (w := 101) n80_10 (by decide) ?_
  refine am_e_iaload (v := 0) (q := 101) n80_11 rfl (by decide) (by decide) (f182_101 (h := h) hT) ?_
  refine am_e_iastore (q := 37) n80_12 rfl (by decide) (by decide) ?_
  refine am_e_iinc (w := 38) (ls' := [(2, .int 38), (0, .ref 182), (1, .int 64)]) n80_13 rfl rfl (by decide) rfl ?_
  refine am_e_goto c80_14 t80_14 ?_
  refine am_e_iload_n n80_2 rfl ?_
  refine am_e_iload_n n80_3 rfl ?_
  refine am_e_cmpF n80_4 (am_c_geF (by decide)) ?_
  refine am_e_aload_n n80_5 rfl ?_
  refine am_e_iload_n n80_6 rfl ?_
  refine am_e_aload_n n80_7 rfl ?_
  refine am_e_iload_n n80_8 rfl ?_
  refine am_e_iload_n n80_9 rfl ?_
  refine am_e_iadd (w := 102) n80_10 (by decide) ?_
  refine am_e_iaload (v := 0) (q := 102) n80_11 rfl (by decide) (by decide) (f182_102 (h := h) hT) ?_
  refine am_e_iastore (q := 38) n80_12 rfl (by decide) (by decide) ?_
  refine am_e_iinc (w := 39) (ls' := [(2, .int 39), (0, .ref 182), (1, .int 64)]) n80_13 rfl rfl (by decide) rfl ?_
  refine am_e_goto c80_14 t80_14 ?_
  refine am_e_iload_n n80_2 rfl ?_
  refine am_e_iload_n n80_3 rfl ?_
  refine am_e_cmpF n80_4 (am_c_geF (by decide)) ?_
  refine am_e_aload_n n80_5 rfl ?_
  refine am_e_iload_n n80_6 rfl ?_
  refine am_e_aload_n n80_7 rfl ?_
  refine am_e_iload_n n80_8 rfl ?_
  refine am_e_iload_n n80_9 rfl ?_
  refine am_e_iadd (w := 103) n80_10 (by decide) ?_
  refine am_e_iaload (v := 0) (q := 103) n80_11 rfl (by decide) (by decide) (f182_103 (h := h) hT) ?_
  refine am_e_iastore (q := 39) n80_12 rfl (by decide) (by decide) ?_
  refine am_e_iinc (w := 40) (ls' := [(2, .int 40), (0, .ref 182), (1, .int 64)]) n80_13 rfl rfl (by decide) rfl ?_
  refine am_e_goto c80_14 t80_14 ?_
  refine am_e_iload_n n80_2 rfl ?_
  refine am_e_iload_n n80_3 rfl ?_
  refine am_e_cmpF n80_4 (am_c_geF (by decide)) ?_
  refine am_e_aload_n n80_5 rfl ?_
  refine am_e_iload_n n80_6 rfl ?_
  refine am_e_aload_n n80_7 rfl ?_
  refine am_e_iload_n n80_8 rfl ?_
  refine am_e_iload_n n80_9 rfl ?_
  refine am_e_iadd (w := 104) n80_10 (by decide) ?_
  refine am_e_iaload (v := 0) (q := 104) n80_11 rfl (by decide) (by decide) (f182_104 (h := h) hT) ?_
  refine am_e_iastore (q := 40) n80_12 rfl (by decide) (by decide) ?_
  refine am_e_iinc (w := 41) (ls' := [(2, .int 41), (0, .ref 182), (1, .int 64)]) n80_13 rfl rfl (by decide) rfl ?_
  refine am_e_goto c80_14 t80_14 ?_
  refine am_e_iload_n n80_2 rfl ?_
  refine am_e_iload_n n80_3 rfl ?_
  refine am_e_cmpF n80_4 (am_c_geF (by decide)) ?_
  refine am_e_aload_n n80_5 rfl ?_
  refine am_e_iload_n n80_6 rfl ?_
  refine am_e_aload_n n80_7 rfl ?_
  refine am_e_iload_n n80_8 rfl ?_
  refine am_e_iload_n n80_9 rfl ?_
  refine am_e_iadd (w := 105) n80_10 (by decide) ?_
  refine am_e_iaload (v := 0) (q := 105) n80_11 rfl (by decide) (by decide) (f182_105 (h := h) hT) ?_
  refine am_e_iastore (q := 41) n80_12 rfl (by decide) (by decide) ?_
  refine am_e_iinc (w := 42) (ls' := [(2, .int 42), (0, .ref 182), (1, .int 64)]) n80_13 rfl rfl (by decide) rfl ?_
  refine am_e_goto c80_14 t80_14 ?_
  refine am_e_iload_n n80_2 rfl ?_
  refine am_e_iload_n n80_3 rfl ?_
  refine am_e_cmpF n80_4 (am_c_geF (by decide)) ?_
  refine am_e_aload_n n80_5 rfl ?_
  refine am_e_iload_n n80_6 rfl ?_
  refine am_e_aload_n n80_7 rfl ?_
  refine am_e_iload_n n80_8 rfl ?_
  refine am_e_iload_n n80_9 rfl ?_
  refine am_e_iadd (w := 106) n80_10 (by decide) ?_
  refine am_e_iaload (v := 0) (q := 106) n80_11 rfl (by decide) (by decide) (f182_106 (h := h) hT) ?_
  refine am_e_iastore (q := 42) n80_12 rfl (by decide) (by decide) ?_
  refine am_e_iinc (w := 43) (ls' := [(2, .int 43), (0, .ref 182), (1, .int 64)]) n80_13 rfl rfl (by decide) rfl ?_
  refine am_e_goto c80_14 t80_14 ?_
  refine am_e_iload_n n80_2 rfl ?_
  refine am_e_iload_n n80_3 rfl ?_
  refine am_e_cmpF n80_4 (am_c_geF (by decide)) ?_
  refine am_e_aload_n n80_5 rfl ?_
  refine am_e_iload_n n80_6 rfl ?_
  refine am_e_aload_n n80_7 rfl ?_
  refine am_e_iload_n n80_8 rfl ?_
  refine am_e_iload_n n80_9 rfl ?_
  refine am_e_iadd (w := 107) n80_10 (by decide) ?_
  refine am_e_iaload (v := 0) (q := 107) n80_11 rfl (by decide) (by decide) (f182_107 (h := h) hT) ?_
  refine am_e_iastore (q := 43) n80_12 rfl (by decide) (by decide) ?_
  refine am_e_iinc (w := 44) (ls' := [(2, .int 44), (0, .ref 182), (1, .int 64)]) n80_13 rfl rfl (by decide) rfl ?_
  refine am_e_goto c80_14 t80_14 ?_
  refine am_e_iload_n n80_2 rfl ?_
  refine am_e_iload_n n80_3 rfl ?_
  refine am_e_cmpF n80_4 (am_c_geF (by decide)) ?_
  refine am_e_aload_n n80_5 rfl ?_
  refine am_e_iload_n n80_6 rfl ?_
  refine am_e_aload_n n80_7 rfl ?_
  refine am_e_iload_n n80_8 rfl ?_
  refine am_e_iload_n n80_9 rfl ?_
  refine am_e_iadd (w := 108) n80_10 (by decide) ?_
  refine am_e_iaload (v := 0) (q := 108) n80_11 rfl (by decide) (by decide) (f182_108 (h := h) hT) ?_
  refine am_e_iastore (q := 44) n80_12 rfl (by decide) (by decide) ?_
  refine am_e_iinc (w := 45) (ls' := [(2, .int 45), (0, .ref 182), (1, .int 64)]) n80_13 rfl rfl (by decide) rfl ?_
  refine am_e_goto c80_14 t80_14 ?_
  refine am_e_iload_n n80_2 rfl ?_
  refine am_e_iload_n n80_3 rfl ?_
  refine am_e_cmpF n80_4 (am_c_geF (by decide)) ?_
  refine am_e_aload_n n80_5 rfl ?_
  refine am_e_iload_n n80_6 rfl ?_
  refine am_e_aload_n n80_7 rfl ?_
  refine am_e_iload_n n80_8 rfl ?_
  refine am_e_iload_n n80_9 rfl ?_
  refine am_e_iadd (w := 109) n80_10 (by decide) ?_
  refine am_e_iaload (v := 0) (q := 109) n80_11 rfl (by decide) (by decide) (f182_109 (h := h) hT) ?_
  refine am_e_iastore (q := 45) n80_12 rfl (by decide) (by decide) ?_
  refine am_e_iinc (w := 46) (ls' := [(2, .int 46), (0, .ref 182), (1, .int 64)]) n80_13 rfl rfl (by decide) rfl ?_
  refine am_e_goto c80_14 t80_14 ?_
  refine am_e_iload_n n80_2 rfl ?_
  refine am_e_iload_n n80_3 rfl ?_
  refine am_e_cmpF n80_4 (am_c_geF (by decide)) ?_
  refine am_e_aload_n n80_5 rfl ?_
  refine am_e_iload_n n80_6 rfl ?_
  refine am_e_aload_n n80_7 rfl ?_
  refine am_e_iload_n n80_8 rfl ?_
  refine am_e_iload_n n80_9 rfl ?_
  refine am_e_iadd (w := 110) n80_10 (by decide) ?_
  refine am_e_iaload (v := 0) (q := 110) n80_11 rfl (by decide) (by decide) (f182_110 (h := h) hT) ?_
  refine am_e_iastore (q := 46) n80_12 rfl (by decide) (by decide) ?_
  refine am_e_iinc (w := 47) (ls' := [(2, .int 47), (0, .ref 182), (1, .int 64)]) n80_13 rfl rfl (by decide) rfl ?_
  refine am_e_goto c80_14 t80_14 ?_
  refine am_e_iload_n n80_2 rfl ?_
  refine am_e_iload_n n80_3 rfl ?_
  refine am_e_cmpF n80_4 (am_c_geF (by decide)) ?_
  refine am_e_aload_n n80_5 rfl ?_
  refine am_e_iload_n n80_6 rfl ?_
  refine am_e_aload_n n80_7 rfl ?_
  refine am_e_iload_n n80_8 rfl ?_
  refine am_e_iload_n n80_9 rfl ?_
  refine am_e_iadd (w := 111) n80_10 (by decide) ?_
  refine am_e_iaload (v := 0) (q := 111) n80_11 rfl (by decide) (by decide) (f182_111 (h := h) hT) ?_
  refine am_e_iastore (q := 47) n80_12 rfl (by decide) (by decide) ?_
  refine am_e_iinc (w := 48) (ls' := [(2, .int 48), (0, .ref 182), (1, .int 64)]) n80_13 rfl rfl (by decide) rfl ?_
  refine am_e_goto c80_14 t80_14 ?_
  refine am_e_iload_n n80_2 rfl ?_
  refine am_e_iload_n n80_3 rfl ?_
  refine am_e_cmpF n80_4 (am_c_geF (by decide)) ?_
  refine am_e_aload_n n80_5 rfl ?_
  refine am_e_iload_n n80_6 rfl ?_
  refine am_e_aload_n n80_7 rfl ?_
  refine am_e_iload_n n80_8 rfl ?_
  refine am_e_iload_n n80_9 rfl ?_
  refine am_e_iadd (w := 112) n80_10 (by decide) ?_
  refine am_e_iaload (v := 0) (q := 112) n80_11 rfl (by decide) (by decide) (f182_112 (h := h) hT) ?_
  refine am_e_iastore (q := 48) n80_12 rfl (by decide) (by decide) ?_
  refine am_e_iinc (w := 49) (ls' := [(2, .int 49), (0, .ref 182), (1, .int 64)]) n80_13 rfl rfl (by decide) rfl ?_
  refine am_e_goto c80_14 t80_14 ?_
  refine am_e_iload_n n80_2 rfl ?_
  refine am_e_iload_n n80_3 rfl ?_
  refine am_e_cmpF n80_4 (am_c_geF (by decide)) ?_
  refine am_e_aload_n n80_5 rfl ?_
  refine am_e_iload_n n80_6 rfl ?_
  refine am_e_aload_n n80_7 rfl ?_
  refine am_e_iload_n n80_8 rfl ?_
  refine am_e_iload_n n80_9 rfl ?_
  refine am_e_iadd (w := 113) n80_10 (by decide) ?_
  refine am_e_iaload (v := 0) (q := 113) n80_11 rfl (by decide) (by decide) (f182_113 (h := h) hT) ?_
  refine am_e_iastore (q := 49) n80_12 rfl (by decide) (by decide) ?_
  refine am_e_iinc (w := 50) (ls' := [(2, .int 50), (0, .ref 182), (1, .int 64)]) n80_13 rfl rfl (by decide) rfl ?_
  refine am_e_goto c80_14 t80_14 ?_
  refine am_e_iload_n n80_2 rfl ?_
  refine am_e_iload_n n80_3 rfl ?_
  refine am_e_cmpF n80_4 (am_c_geF (by decide)) ?_
  refine am_e_aload_n n80_5 rfl ?_
  refine am_e_iload_n n80_6 rfl ?_
  refine am_e_aload_n n80_7 rfl ?_
  refine am_e_iload_n n80_8 rfl ?_
  refine am_e_iload_n n80_9 rfl ?_
  refine am_e_iadd (w := 114) n80_10 (by decide) ?_
  refine am_e_iaload (v := 0) (q := 114) n80_11 rfl (by decide) (by decide) (f182_114 (h := h) hT) ?_
  refine am_e_iastore (q := 50) n80_12 rfl (by decide) (by decide) ?_
  refine am_e_iinc (w := 51) (ls' := [(2, .int 51), (0, .ref 182), (1, .int 64)]) n80_13 rfl rfl (by decide) rfl ?_
  refine am_e_goto c80_14 t80_14 ?_
  refine am_e_iload_n n80_2 rfl ?_
  refine am_e_iload_n n80_3 rfl ?_
  refine am_e_cmpF n80_4 (am_c_geF (by decide)) ?_
  refine am_e_aload_n n80_5 rfl ?_
  refine am_e_iload_n n80_6 rfl ?_
  refine am_e_aload_n n80_7 rfl ?_
  refine am_e_iload_n n80_8 rfl ?_
  refine am_e_iload_n n80_9 rfl ?_
  refine am_e_iadd (w := 115) n80_10 (by decide) ?_
  refine am_e_iaload (v := 0) (q := 115) n80_11 rfl (by decide) (by decide) (f182_115 (h := h) hT) ?_
  refine am_e_iastore (q := 51) n80_12 rfl (by decide) (by decide) ?_
  refine am_e_iinc (w := 52) (ls' := [(2, .int 52), (0, .ref 182), (1, .int 64)]) n80_13 rfl rfl (by decide) rfl ?_
  refine am_e_goto c80_14 t80_14 ?_
  refine am_e_iload_n n80_2 rfl ?_
  refine am_e_iload_n n80_3 rfl ?_
  refine am_e_cmpF n80_4 (am_c_geF (by decide)) ?_
  refine am_e_aload_n n80_5 rfl ?_
  refine am_e_iload_n n80_6 rfl ?_
  refine am_e_aload_n n80_7 rfl ?_
  refine am_e_iload_n n80_8 rfl ?_
  refine am_e_iload_n n80_9 rfl ?_
  refine am_e_iadd (w := 116) n80_10 (by decide) ?_
  refine am_e_iaload (v := 0) (q := 116) n80_11 rfl (by decide) (by decide) (f182_116 (h := h) hT) ?_
  refine am_e_iastore (q := 52) n80_12 rfl (by decide) (by decide) ?_
  refine am_e_iinc (w := 53) (ls' := [(2, .int 53), (0, .ref 182), (1, .int 64)]) n80_13 rfl rfl (by decide) rfl ?_
  refine am_e_goto c80_14 t80_14 ?_
  refine am_e_iload_n n80_2 rfl ?_
  refine am_e_iload_n n80_3 rfl ?_
  refine am_e_cmpF n80_4 (am_c_geF (by decide)) ?_
  refine am_e_aload_n n80_5 rfl ?_
  refine am_e_iload_n n80_6 rfl ?_
  refine am_e_aload_n n80_7 rfl ?_
  refine am_e_iload_n n80_8 rfl ?_
  refine am_e_iload_n n80_9 rfl ?_
  refine am_e_iadd (w := 117) n80_10 (by decide) ?_
  refine am_e_iaload (v := 0) (q := 117) n80_11 rfl (by decide) (by decide) (f182_117 (h := h) hT) ?_
  refine am_e_iastore (q := 53) n80_12 rfl (by decide) (by decide) ?_
  refine am_e_iinc (w := 54) (ls' := [(2, .int 54), (0, .ref 182), (1, .int 64)]) n80_13 rfl rfl (by decide) rfl ?_
  refine am_e_goto c80_14 t80_14 ?_
  refine am_e_iload_n n80_2 rfl ?_
  refine am_e_iload_n n80_3 rfl ?_
  refine am_e_cmpF n80_4 (am_c_geF (by decide)) ?_
  refine am_e_aload_n n80_5 rfl ?_
  refine am_e_iload_n n80_6 rfl ?_
  refine am_e_aload_n n80_7 rfl ?_
  refine am_e_iload_n n80_8 rfl ?_
  refine am_e_iload_n n80_9 rfl ?_
  refine am_e_iadd (w := 118) n80_10 (by decide) ?_
  refine am_e_iaload (v := 0) (q := 118) n80_11 rfl (by decide) (by decide) (f182_118 (h := h) hT) ?_
  refine am_e_iastore (q := 54) n80_12 rfl (by decide) (by decide) ?_
  refine am_e_iinc (w := 55) (ls' := [(2, .int 55), (0, .ref 182), (1, .int 64)]) n80_13 rfl rfl (by decide) rfl ?_
  refine am_e_goto c80_14 t80_14 ?_
  refine am_e_iload_n n80_2 rfl ?_
  refine am_e_iload_n n80_3 rfl ?_
  refine am_e_cmpF n80_4 (am_c_geF (by decide)) ?_
  refine am_e_aload_n n80_5 rfl ?_
  refine am_e_iload_n n80_6 rfl ?_
  refine am_e_aload_n n80_7 rfl ?_
  refine am_e_iload_n n80_8 rfl ?_
  refine am_e_iload_n n80_9 rfl ?_
  refine am_e_iadd (w := 119) n80_10 (by decide) ?_
  refine am_e_iaload (v := 0) (q := 119) n80_11 rfl (by decide) (by decide) (f182_119 (h := h) hT) ?_
  refine am_e_iastore (q := 55) n80_12 rfl (by decide) (by decide) ?_
  refine am_e_iinc (w := 56) (ls' := [(2, .int 56), (0, .ref 182), (1, .int 64)]) n80_13 rfl rfl (by decide) rfl ?_
  refine am_e_goto c80_14 t80_14 ?_
  refine am_e_iload_n n80_2 rfl ?_
  refine am_e_iload_n n80_3 rfl ?_
  refine am_e_cmpF n80_4 (am_c_geF (by decide)) ?_
  refine am_e_aload_n n80_5 rfl ?_
  refine am_e_iload_n n80_6 rfl ?_
  refine am_e_aload_n n80_7 rfl ?_
  refine am_e_iload_n n80_8 rfl ?_
  refine am_e_iload_n n80_9 rfl ?_
  refine am_e_iadd (w := 120) n80_10 (by decide) ?_
  refine am_e_iaload (v := 0) (q := 120) n80_11 rfl (by decide) (by decide) (f182_120 (h := h) hT) ?_
  refine am_e_iastore (q := 56) n80_12 rfl (by decide) (by decide) ?_
  refine am_e_iinc (w := 57) (ls' := [(2, .int 57), (0, .ref 182), (1, .int 64)]) n80_13 rfl rfl (by decide) rfl ?_
  refine am_e_goto c80_14 t80_14 ?_
  refine am_e_iload_n n80_2 rfl ?_
  refine am_e_iload_n n80_3 rfl ?_
  refine am_e_cmpF n80_4 (am_c_geF (by decide)) ?_
  refine am_e_aload_n n80_5 rfl ?_
  refine am_e_iload_n n80_6 rfl ?_
  refine am_e_aload_n n80_7 rfl ?_
  refine am_e_iload_n n80_8 rfl ?_
  refine am_e_iload_n n80_9 rfl ?_
  refine am_e_iadd (w := 121) n80_10 (by decide) ?_
  refine am_e_iaload (v := 0) (q := 121) n80_11 rfl (by decide) (by decide) (f182_121 (h := h) hT) ?_
  refine am_e_iastore (q := 57) n80_12 rfl (by decide) (by decide) ?_
  refine am_e_iinc (w := 58) (ls' := [(2, .int 58), (0, .ref 182), (1, .int 64)]) n80_13 rfl rfl (by decide) rfl ?_
  refine am_e_goto c80_14 t80_14 ?_
  refine am_e_iload_n n80_2 rfl ?_
  refine am_e_iload_n n80_3 rfl ?_
  refine am_e_cmpF n80_4 (am_c_geF (by decide)) ?_
  refine am_e_aload_n n80_5 rfl ?_
  refine am_e_iload_n n80_6 rfl ?_
  refine am_e_aload_n n80_7 rfl ?_
  refine am_e_iload_n n80_8 rfl ?_
  refine am_e_iload_n n80_9 rfl ?_
  refine am_e_iadd (w := 122) n80_10 (by decide) ?_
  refine am_e_iaload (v := 0) (q := 122) n80_11 rfl (by decide) (by decide) (f182_122 (h := h) hT) ?_
  refine am_e_iastore (q := 58) n80_12 rfl (by decide) (by decide) ?_
  refine am_e_iinc (w := 59) (ls' := [(2, .int 59), (0, .ref 182), (1, .int 64)]) n80_13 rfl rfl (by decide) rfl ?_
  refine am_e_goto c80_14 t80_14 ?_
  refine am_e_iload_n n80_2 rfl ?_
  refine am_e_iload_n n80_3 rfl ?_
  refine am_e_cmpF n80_4 (am_c_geF (by decide)) ?_
  refine am_e_aload_n n80_5 rfl ?_
  refine am_e_iload_n n80_6 rfl ?_
  refine am_e_aload_n n80_7 rfl ?_
  refine am_e_iload_n n80_8 rfl ?_
  refine am_e_iload_n n80_9 rfl ?_
  refine am_e_iadd (w := 123) n80_10 (by decide) ?_
  refine am_e_iaload (v := 0) (q := 123) n80_11 rfl (by decide) (by decide) (f182_123 (h := h) hT) ?_
  refine am_e_iastore (q := 59) n80_12 rfl (by decide) (by decide) ?_
  refine am_e_iinc (w := 60) (ls' := [(2, .int 60), (0, .ref 182), (1, .int 64)]) n80_13 rfl rfl (by decide) rfl ?_
  refine am_e_goto c80_14 t80_14 ?_
  refine am_e_iload_n n80_2 rfl ?_
  refine am_e_iload_n n80_3 rfl ?_
  refine am_e_cmpF n80_4 (am_c_geF (by decide)) ?_
  refine am_e_aload_n n80_5 rfl ?_
  refine am_e_iload_n n80_6 rfl ?_
  refine am_e_aload_n n80_7 rfl ?_
  refine am_e_iload_n n80_8 rfl ?_
  refine am_e_iload_n n80_9 rfl ?_
  refine am_e_iadd (w := 124) n80_10 (by decide) ?_
  refine am_e_iaload (v := 0) (q := 124) n80_11 rfl (by decide) (by decide) (f182_124 (h := h) hT) ?_
  refine am_e_iastore (q := 60) n80_12 rfl (by decide) (by decide) ?_
  refine am_e_iinc (w := 61) (ls' := [(2, .int 61), (0, .ref 182), (1, .int 64)]) n80_13 rfl rfl (by decide) rfl ?_
  refine am_e_goto c80_14 t80_14 ?_
  refine am_e_iload_n n80_2 rfl ?_
  refine am_e_iload_n n80_3 rfl ?_
  refine am_e_cmpF n80_4 (am_c_geF (by decide)) ?_
  refine am_e_aload_n n80_5 rfl ?_
  refine am_e_iload_n n80_6 rfl ?_
  refine am_e_aload_n n80_7 rfl ?_
  refine am_e_iload_n n80_8 rfl ?_
  refine am_e_iload_n n80_9 rfl ?_
  refine am_e_iadd (w := 125) n80_10 (by decide) ?_
  refine am_e_iaload (v := 0) (q := 125) n80_11 rfl (by decide) (by decide) (f182_125 (h := h) hT) ?_
  refine am_e_iastore (q := 61) n80_12 rfl (by decide) (by decide) ?_
  refine am_e_iinc (w := 62) (ls' := [(2, .int 62), (0, .ref 182), (1, .int 64)]) n80_13 rfl rfl (by decide) rfl ?_
  refine am_e_goto c80_14 t80_14 ?_
  refine am_e_iload_n n80_2 rfl ?_
  refine am_e_iload_n n80_3 rfl ?_
  refine am_e_cmpF n80_4 (am_c_geF (by decide)) ?_
  refine am_e_aload_n n80_5 rfl ?_
  refine am_e_iload_n n80_6 rfl ?_
  refine am_e_aload_n n80_7 rfl ?_
  refine am_e_iload_n n80_8 rfl ?_
  refine am_e_iload_n n80_9 rfl ?_
  refine am_e_iadd (w := 126) n80_10 (by decide) ?_
  refine am_e_iaload (v := 0) (q := 126) n80_11 rfl (by decide) (by decide) (f182_126 (h := h) hT) ?_
  refine am_e_iastore (q := 62) n80_12 rfl (by decide) (by decide) ?_
  refine am_e_iinc (w := 63) (ls' := [(2, .int 63), (0, .ref 182), (1, .int 64)]) n80_13 rfl rfl (by decide) rfl ?_
  refine am_e_goto c80_14 t80_14 ?_
  refine am_e_iload_n n80_2 rfl ?_
  refine am_e_iload_n n80_3 rfl ?_
  refine am_e_cmpF n80_4 (am_c_geF (by decide)) ?_
  refine am_e_aload_n n80_5 rfl ?_
  refine am_e_iload_n n80_6 rfl ?_
  refine am_e_aload_n n80_7 rfl ?_
  refine am_e_iload_n n80_8 rfl ?_
  refine am_e_iload_n n80_9 rfl ?_
  refine am_e_iadd (w := 127) n80_10 (by decide) ?_
  refine am_e_iaload (v := 0) (q := 127) n80_11 rfl (by decide) (by decide) (f182_127 (h := h) hT) ?_
  refine am_e_iastore (q := 63) n80_12 rfl (by decide) (by decide) ?_
  refine am_e_iinc (w := 64) (ls' := [(2, .int 64), (0, .ref 182), (1, .int 64)]) n80_13 rfl rfl (by decide) rfl ?_
  refine am_e_goto c80_14 t80_14 ?_
  refine am_e_iload_n n80_2 rfl ?_
  refine am_e_iload_n n80_3 rfl ?_
  refine am_e_cmpT n80_4 (am_c_geT (by decide)) t80_4 ?_
  refine am_e_vret c80_15 rfl rfl ?_
  refine am_e_aload_n n79_93 rfl ?_
  refine am_e_getf (v := .ref 183) n79_94 rfl (f164_38 (h := h) hT) ?_
  refine am_e_bipush (w := 64) n79_95 (by decide) ?_
  refine am_e_callS (L := [(0, .ref 183), (1, .int 64)]) n79_96 rfl rfl rfl rfl rfl rfl rfl ?_
  refine am_e_iconst (w := 0) n80_0 rfl ?_
  refine am_e_istore_n (ls' := [(2, .int 0), (0, .ref 183), (1, .int 64)]) n80_1 rfl rfl ?_
  refine am_e_iload_n n80_2 rfl ?_
  refine am_e_iload_n n80_3 rfl ?_
  refine am_e_cmpF n80_4 (am_c_geF (by decide)) ?_
  refine am_e_aload_n n80_5 rfl ?_
  refine am_e_iload_n n80_6 rfl ?_
  refine am_e_aload_n n80_7 rfl ?_
  refine am_e_iload_n n80_8 rfl ?_
  refine am_e_iload_n n80_9 rfl ?_
  refine am_e_iadd (w := 64) n80_10 (by decide) ?_
  refine am_e_iaload (v := 0) (q := 64) n80_11 rfl (by decide) (by decide) (f183_64 (h := h) hT) ?_
  refine am_e_iastore (q := 0) n80_12 rfl (by decide) (by decide) ?_
  refine am_e_iinc (w := 1) (ls' := [(2, .int 1), (0, .ref 183), (1, .int 64)]) n80_13 rfl rfl (by decide) rfl ?_
  refine am_e_goto c80_14 t80_14 ?_
  refine am_e_iload_n n80_2 rfl ?_
  refine am_e_iload_n n80_3 rfl ?_
  refine am_e_cmpF n80_4 (am_c_geF (by decide)) ?_
  refine am_e_aload_n n80_5 rfl ?_
  refine am_e_iload_n n80_6 rfl ?_
  refine am_e_aload_n n80_7 rfl ?_
  refine am_e_iload_n n80_8 rfl ?_
  refine am_e_iload_n n80_9 rfl ?_
  refine am_e_iadd (w := 65) n80_10 (by decide) ?_
  refine am_e_iaload (v := 0) (q := 65) n80_11 rfl (by decide) (by decide) (f183_65 (h := h) hT) ?_
  refine am_e_iastore (q := 1) n80_12 rfl (by decide) (by decide) ?_
  refine am_e_iinc (w := 2) (ls' := [(2, .int 2), (0, .ref 183), (1, .int 64)]) n80_13 rfl rfl (by decide) rfl ?_
  refine am_e_goto c80_14 t80_14 ?_
  refine am_e_iload_n n80_2 rfl ?_
  refine am_e_iload_n n80_3 rfl ?_
  refine am_e_cmpF n80_4 (am_c_geF (by decide)) ?_
  refine am_e_aload_n n80_5 rfl ?_
  refine am_e_iload_n n80_6 rfl ?_
  refine am_e_aload_n n80_7 rfl ?_
  refine am_e_iload_n n80_8 rfl ?_
  refine am_e_iload_n n80_9 rfl ?_
  refine am_e_iadd (w := 66) n80_10 (by decide) ?_
  refine am_e_iaload (v := 0) (q := 66) n80_11 rfl (by decide) (by decide) (f183_66 (h := h) hT) ?_
  refine am_e_iastore (q := 2) n80_12 rfl (by decide) (by decide) ?_
  refine am_e_iinc (w := 3) (ls' := [(2, .int 3), (0, .ref 183), (1, .int 64)]) n80_13 rfl rfl (by decide) rfl ?_
  refine am_e_goto c80_14 t80_14 ?_
  refine am_e_iload_n n80_2 rfl ?_
  refine am_e_iload_n n80_3 rfl ?_
  refine am_e_cmpF n80_4 (am_c_geF (by decide)) ?_
  refine am_e_aload_n n80_5 rfl ?_
  refine am_e_iload_n n80_6 rfl ?_
  refine am_e_aload_n n80_7 rfl ?_
  refine am_e_iload_n n80_8 rfl ?_
  refine am_e_iload_n n80_9 rfl ?_
  refine am_e_iadd (w := 67) n80_10 (by decide) ?_
  refine am_e_iaload (v := 0) (q := 67) n80_11 rfl (by decide) (by decide) (f183_67 (h := h) hT) ?_
  refine am_e_iastore (q := 3) n80_12 rfl (by decide) (by decide) ?_
  refine am_e_iinc (w := 4) (ls' := [(2, .int 4), (0, .ref 183), (1, .int 64)]) n80_13 rfl rfl (by decide) rfl ?_
  refine am_e_goto c80_14 t80_14 ?_
  refine am_e_iload_n n80_2 rfl ?_
  refine am_e_iload_n n80_3 rfl ?_
  refine am_e_cmpF n80_4 (am_c_geF (by decide)) ?_
  refine am_e_aload_n n80_5 rfl ?_
  refine am_e_iload_n n80_6 rfl ?_
  refine am_e_aload_n n80_7 rfl ?_
  refine am_e_iload_n n80_8 rfl ?_
  refine am_e_iload_n n80_9 rfl ?_
  refine am_e_iadd (w := 68) n80_10 (by decide) ?_
  refine am_e_iaload (v := 0) (q := 68) n80_11 rfl (by decide) (by decide) (f183_68 (h := h) hT) ?_
  refine am_e_iastore (q := 4) n80_12 rfl (by decide) (by decide) ?_
  refine am_e_iinc (w := 5) (ls' := [(2, .int 5), (0, .ref 183), (1, .int 64)]) n80_13 rfl rfl (by decide) rfl ?_
  refine am_e_goto c80_14 t80_14 ?_
  refine am_e_iload_n n80_2 rfl ?_
  refine am_e_iload_n n80_3 rfl ?_
  refine am_e_cmpF n80_4 (am_c_geF (by decide)) ?_
  refine am_e_aload_n n80_5 rfl ?_
  refine am_e_iload_n n80_6 rfl ?_
  refine am_e_aload_n n80_7 rfl ?_
  refine am_e_iload_n n80_8 rfl ?_
  refine am_e_iload_n n80_9 rfl ?_
  refine am_e_iadd (w := 69) n80_10 (by decide) ?_
  refine am_e_iaload (v := 0) (q := 69) n80_11 rfl (by decide) (by decide) (f183_69 (h := h) hT) ?_
  refine am_e_iastore (q := 5) n80_12 rfl (by decide) (by decide) ?_
  refine am_e_iinc (w := 6) (ls' := [(2, .int 6), (0, .ref 183), (1, .int 64)]) n80_13 rfl rfl (by decide) rfl ?_
  refine am_e_goto c80_14 t80_14 ?_
  refine am_e_iload_n n80_2 rfl ?_
  refine am_e_iload_n n80_3 rfl ?_
  refine am_e_cmpF n80_4 (am_c_geF (by decide)) ?_
  refine am_e_aload_n n80_5 rfl ?_
  refine am_e_iload_n n80_6 rfl ?_
  refine am_e_aload_n n80_7 rfl ?_
  refine am_e_iload_n n80_8 rfl ?_
  refine am_e_iload_n n80_9 rfl ?_
  refine am_e_iadd (w := 70) n80_10 (by decide) ?_
  refine am_e_iaload (v := 0) (q := 70) n80_11 rfl (by decide) (by decide) (f183_70 (h := h) hT) ?_
  refine am_e_iastore (q := 6) n80_12 rfl (by decide) (by decide) ?_
  refine am_e_iinc (w := 7) (ls' := [(2, .int 7), (0, .ref 183), (1, .int 64)]) n80_13 rfl rfl (by decide) rfl ?_
  refine am_e_goto c80_14 t80_14 ?_
  refine am_e_iload_n n80_2 rfl ?_
  refine am_e_iload_n n80_3 rfl ?_
  refine am_e_cmpF n80_4 (am_c_geF (by decide)) ?_
  refine am_e_aload_n n80_5 rfl ?_
  refine am_e_iload_n n80_6 rfl ?_
  refine am_e_aload_n n80_7 rfl ?_
  refine am_e_iload_n n80_8 rfl ?_
  refine am_e_iload_n n80_9 rfl ?_
  refine am_e_iadd (w := 71) n80_10 (by decide) ?_
  refine am_e_iaload (v := 0) (q := 71) n80_11 rfl (by decide) (by decide) (f183_71 (h := h) hT) ?_
  refine am_e_iastore (q := 7) n80_12 rfl (by decide) (by decide) ?_
  refine am_e_iinc (w := 8) (ls' := [(2, .int 8), (0, .ref 183), (1, .int 64)]) n80_13 rfl rfl (by decide) rfl ?_
  refine am_e_goto c80_14 t80_14 ?_
  refine am_e_iload_n n80_2 rfl ?_
  refine am_e_iload_n n80_3 rfl ?_
  refine am_e_cmpF n80_4 (am_c_geF (by decide)) ?_
  refine am_e_aload_n n80_5 rfl ?_
  refine am_e_iload_n n80_6 rfl ?_
  refine am_e_aload_n n80_7 rfl ?_
  refine am_e_iload_n n80_8 rfl ?_
  refine am_e_iload_n n80_9 rfl ?_
  refine am_e_iadd (w := 72) n80_10 (by decide) ?_
  refine am_e_iaload (v := 0) (q := 72) n80_11 rfl (by decide) (by decide) (f183_72 (h := h) hT) ?_
  refine am_e_iastore (q := 8) n80_12 rfl (by decide) (by decide) ?_
  refine am_e_iinc (w := 9) (ls' := [(2, .int 9), (0, .ref 183), (1, .int 64)]) n80_13 rfl rfl (by decide) rfl ?_
  refine am_e_goto c80_14 t80_14 ?_
  refine am_e_iload_n n80_2 rfl ?_
  refine am_e_iload_n n80_3 rfl ?_
  refine am_e_cmpF n80_4 (am_c_geF (by decide)) ?_
  refine am_e_aload_n n80_5 rfl ?_
  refine am_e_iload_n n80_6 rfl ?_
  refine am_e_aload_n n80_7 rfl ?_
  refine am_e_iload_n n80_8 rfl ?_
  refine am_e_iload_n n80_9 rfl ?_
  refine am_e_iadd (w := 73) n80_10 (by decide) ?_
  refine am_e_iaload (v := 0) (q := 73) n80_11 rfl (by decide) (by decide) (f183_73 (h := h) hT) ?_
  refine am_e_iastore (q := 9) n80_12 rfl (by decide) (by decide) ?_
  refine am_e_iinc (w := 10) (ls' := [(2, .int 10), (0, .ref 183), (1, .int 64)]) n80_13 rfl rfl (by decide) rfl ?_
  refine am_e_goto c80_14 t80_14 ?_
  refine am_e_iload_n n80_2 rfl ?_
  refine am_e_iload_n n80_3 rfl ?_
  refine am_e_cmpF n80_4 (am_c_geF (by decide)) ?_
  refine am_e_aload_n n80_5 rfl ?_
  refine am_e_iload_n n80_6 rfl ?_
  refine am_e_aload_n n80_7 rfl ?_
  refine am_e_iload_n n80_8 rfl ?_
  refine am_e_iload_n n80_9 rfl ?_
  refine am_e_iadd (w := 74) n80_10 (by decide) ?_
  refine am_e_iaload (v := 0) (q := 74) n80_11 rfl (by decide) (by decide) (f183_74 (h := h) hT) ?_
  refine am_e_iastore (q := 10) n80_12 rfl (by decide) (by decide) ?_
  refine am_e_iinc (w := 11) (ls' := [(2, .int 11), (0, .ref 183), (1, .int 64)]) n80_13 rfl rfl (by decide) rfl ?_
  refine am_e_goto c80_14 t80_14 ?_
  refine am_e_iload_n n80_2 rfl ?_
  refine am_e_iload_n n80_3 rfl ?_
  refine am_e_cmpF n80_4 (am_c_geF (by decide)) ?_
  refine am_e_aload_n n80_5 rfl ?_
  refine am_e_iload_n n80_6 rfl ?_
  refine am_e_aload_n n80_7 rfl ?_
  refine am_e_iload_n n80_8 rfl ?_
  refine am_e_iload_n n80_9 rfl ?_
  refine am_e_iadd (w := 75) n80_10 (by decide) ?_
  refine am_e_iaload (v := 0) (q := 75) n80_11 rfl (by decide) (by decide) (f183_75 (h := h) hT) ?_
  refine am_e_iastore (q := 11) n80_12 rfl (by decide) (by decide) ?_
  refine am_e_iinc (w := 12) (ls' := [(2, .int 12), (0, .ref 183), (1, .int 64)]) n80_13 rfl rfl (by decide) rfl ?_
  refine am_e_goto c80_14 t80_14 ?_
  refine am_e_iload_n n80_2 rfl ?_
  refine am_e_iload_n n80_3 rfl ?_
  refine am_e_cmpF n80_4 (am_c_geF (by decide)) ?_
  refine am_e_aload_n n80_5 rfl ?_
  refine am_e_iload_n n80_6 rfl ?_
  refine am_e_aload_n n80_7 rfl ?_
  refine am_e_iload_n n80_8 rfl ?_
  refine am_e_iload_n n80_9 rfl ?_
  refine am_e_iadd (w := 76) n80_10 (by decide) ?_
  refine am_e_iaload (v := 0) (q := 76) n80_11 rfl (by decide) (by decide) (f183_76 (h := h) hT) ?_
  refine am_e_iastore (q := 12) n80_12 rfl (by decide) (by decide) ?_
  refine am_e_iinc (w := 13) (ls' := [(2, .int 13), (0, .ref 183), (1, .int 64)]) n80_13 rfl rfl (by decide) rfl ?_
  refine am_e_goto c80_14 t80_14 ?_
  refine am_e_iload_n n80_2 rfl ?_
  refine am_e_iload_n n80_3 rfl ?_
  refine am_e_cmpF n80_4 (am_c_geF (by decide)) ?_
  refine am_e_aload_n n80_5 rfl ?_
  refine am_e_iload_n n80_6 rfl ?_
  refine am_e_aload_n n80_7 rfl ?_
  refine am_e_iload_n n80_8 rfl ?_
  refine am_e_iload_n n80_9 rfl ?_
  refine am_e_iadd (w := 77) n80_10 (by decide) ?_
  refine am_e_iaload (v := 0) (q := 77) n80_11 rfl (by decide) (by decide) (f183_77 (h := h) hT) ?_
  refine am_e_iastore (q := 13) n80_12 rfl (by decide) (by decide) ?_
  refine am_e_iinc (w := 14) (ls' := [(2, .int 14), (0, .ref 183), (1, .int 64)]) n80_13 rfl rfl (by decide) rfl ?_
  refine am_e_goto c80_14 t80_14 ?_
  refine am_e_iload_n n80_2 rfl ?_
  refine am_e_iload_n n80_3 rfl ?_
  refine am_e_cmpF n80_4 (am_c_geF (by decide)) ?_
  refine am_e_aload_n n80_5 rfl ?_
  refine am_e_iload_n n80_6 rfl ?_
  refine am_e_aload_n n80_7 rfl ?_
  refine am_e_iload_n n80_8 rfl ?_
  refine am_e_iload_n n80_9 rfl ?_
  refine am_e_iadd (w := 78) n80_10 (by decide) ?_
  refine am_e_iaload (v := 0) (q := 78) n80_11 rfl (by decide) (by decide) (f183_78 (h := h) hT) ?_
  refine am_e_iastore (q := 14) n80_12 rfl (by decide) (by decide) ?_
  refine am_e_iinc (w := 15) (ls' := [(2, .int 15), (0, .ref 183), (1, .int 64)]) n80_13 rfl rfl (by decide) rfl ?_
  refine am_e_goto c80_14 t80_14 ?_
  refine am_e_iload_n n80_2 rfl ?_
  refine am_e_iload_n n80_3 rfl ?_
  refine am_e_cmpF n80_4 (am_c_geF (by decide)) ?_
  refine am_e_aload_n n80_5 rfl ?_
  refine am_e_iload_n n80_6 rfl ?_
  refine am_e_aload_n n80_7 rfl ?_
  refine am_e_iload_n n80_8 rfl ?_
  refine am_e_iload_n n80_9 rfl ?_
  refine am_e_iadd (w := 79) n80_10 (by decide) ?_
  refine am_e_iaload (v := 0) (q := 79) n80_11 rfl (by decide) (by decide) (f183_79 (h := h) hT) ?_
  refine am_e_iastore (q := 15) n80_12 rfl (by decide) (by decide) ?_
  refine am_e_iinc (w := 16) (ls' := [(2, .int 16), (0, .ref 183), (1, .int 64)]) n80_13 rfl rfl (by decide) rfl ?_
  refine am_e_goto c80_14 t80_14 ?_
  refine am_e_iload_n n80_2 rfl ?_
  refine am_e_iload_n n80_3 rfl ?_
  refine am_e_cmpF n80_4 (am_c_geF (by decide)) ?_
  refine am_e_aload_n n80_5 rfl ?_
  refine am_e_iload_n n80_6 rfl ?_
  refine am_e_aload_n n80_7 rfl ?_
  refine am_e_iload_n n80_8 rfl ?_
  refine am_e_iload_n n80_9 rfl ?_
  refine am_e_iadd (w := 80) n80_10 (by decide) ?_
  refine am_e_iaload (v := 0) (q := 80) n80_11 rfl (by decide) (by decide) (f183_80 (h := h) hT) ?_
  refine am_e_iastore (q := 16) n80_12 rfl (by decide) (by decide) ?_
  refine am_e_iinc (w := 17) (ls' := [(2, .int 17), (0, .ref 183), (1, .int 64)]) n80_13 rfl rfl (by decide) rfl ?_
  refine am_e_goto c80_14 t80_14 ?_
  refine am_e_iload_n n80_2 rfl ?_
  refine am_e_iload_n n80_3 rfl ?_
  refine am_e_cmpF n80_4 (am_c_geF (by decide)) ?_
  refine am_e_aload_n n80_5 rfl ?_
  refine am_e_iload_n n80_6 rfl ?_
  refine am_e_aload_n n80_7 rfl ?_
  refine am_e_iload_n n80_8 rfl ?_
  refine am_e_iload_n n80_9 rfl ?_
  refine am_e_iadd (w := 81) n80_10 (by decide) ?_
  refine am_e_iaload (v := 0) (q := 81) n80_11 rfl (by decide) (by decide) (f183_81 (h := h) hT) ?_
  refine am_e_iastore (q := 17) n80_12 rfl (by decide) (by decide) ?_
  refine am_e_iinc (w := 18) (ls' := [(2, .int 18), (0, .ref 183), (1, .int 64)]) n80_13 rfl rfl (by decide) rfl ?_
  refine am_e_goto c80_14 t80_14 ?_
  refine am_e_iload_n n80_2 rfl ?_
  refine am_e_iload_n n80_3 rfl ?_
  refine am_e_cmpF n80_4 (am_c_geF (by decide)) ?_
  refine am_e_aload_n n80_5 rfl ?_
  refine am_e_iload_n n80_6 rfl ?_
  refine am_e_aload_n n80_7 rfl ?_
  refine am_e_iload_n n80_8 rfl ?_
  refine am_e_iload_n n80_9 rfl ?_
  refine am_e_iadd (w := 82) n80_10 (by decide) ?_
  refine am_e_iaload (v := 0) (q := 82) n80_11 rfl (by decide) (by decide) (f183_82 (h := h) hT) ?_
  refine am_e_iastore (q := 18) n80_12 rfl (by decide) (by decide) ?_
  refine am_e_iinc (w := 19) (ls' := [(2, .int 19), (0, .ref 183), (1, .int 64)]) n80_13 rfl rfl (by decide) rfl ?_
  refine am_e_goto c80_14 t80_14 ?_
  refine am_e_iload_n n80_2 rfl ?_
  refine am_e_iload_n n80_3 rfl ?_
  refine am_e_cmpF n80_4 (am_c_geF (by decide)) ?_
  refine am_e_aload_n n80_5 rfl ?_
  refine am_e_iload_n n80_6 rfl ?_
  refine am_e_aload_n n80_7 rfl ?_
  refine am_e_iload_n n80_8 rfl ?_
  refine am_e_iload_n n80_9 rfl ?_
  refine am_e_iadd (w := 83) n80_10 (by decide) ?_
  refine am_e_iaload (v := 0) (q := 83) n80_11 rfl (by decide) (by decide) (f183_83 (h := h) hT) ?_
  refine am_e_iastore (q := 19) n80_12 rfl (by decide) (by decide) ?_
  refine am_e_iinc (w := 20) (ls' := [(2, .int 20), (0, .ref 183), (1, .int 64)]) n80_13 rfl rfl (by decide) rfl ?_
  refine am_e_goto c80_14 t80_14 ?_
  refine am_e_iload_n n80_2 rfl ?_
  refine am_e_iload_n n80_3 rfl ?_
  refine am_e_cmpF n80_4 (am_c_geF (by decide)) ?_
  refine am_e_aload_n n80_5 rfl ?_
  refine am_e_iload_n n80_6 rfl ?_
  refine am_e_aload_n n80_7 rfl ?_
  refine am_e_iload_n n80_8 rfl ?_
  refine am_e_iload_n n80_9 rfl ?_
  refine am_e_iadd (w := 84) n80_10 (by decide) ?_
  refine am_e_iaload (v := 0) (q := 84) n80_11 rfl (by decide) (by decide) (f183_84 (h := h) hT) ?_
  refine am_e_iastore (q := 20) n80_12 rfl (by decide) (by decide) ?_
  refine am_e_iinc (w := 21) (ls' := [(2, .int 21), (0, .ref 183), (1, .int 64)]) n80_13 rfl rfl (by decide) rfl ?_
  refine am_e_goto c80_14 t80_14 ?_
  refine am_e_iload_n n80_2 rfl ?_
  refine am_e_iload_n n80_3 rfl ?_
  refine am_e_cmpF n80_4 (am_c_geF (by decide)) ?_
  refine am_e_aload_n n80_5 rfl ?_
  refine am_e_iload_n n80_6 rfl ?_
  refine am_e_aload_n n80_7 rfl ?_
  refine am_e_iload_n n80_8 rfl ?_
  refine am_e_iload_n n80_9 rfl ?_
  refine am_e_iadd (w := 85) n80_10 (by decide) ?_
  refine am_e_iaload (v := 0) (q := 85) n80_11 rfl (by decide) (by decide) (f183_85 (h := h) hT) ?_
  refine am_e_iastore (q := 21) n80_12 rfl (by decide) (by decide) ?_
  refine am_e_iinc (w := 22) (ls' := [(2, .int 22), (0, .ref 183), (1, .int 64)]) n80_13 rfl rfl (by decide) rfl ?_
  refine am_e_goto c80_14 t80_14 ?_
  refine am_e_iload_n n80_2 rfl ?_
  refine am_e_iload_n n80_3 rfl ?_
  refine am_e_cmpF n80_4 (am_c_geF (by decide)) ?_
  refine am_e_aload_n n80_5 rfl ?_
  refine am_e_iload_n n80_6 rfl ?_
  refine am_e_aload_n n80_7 rfl ?_
  refine am_e_iload_n n80_8 rfl ?_
  refine am_e_iload_n n80_9 rfl ?_
  refine am_e_iadd (w := 86) n80_10 (by decide) ?_
  refine am_e_iaload (v := 0) (q := 86) n80_11 rfl (by decide) (by decide) (f183_86 (h := h) hT) ?_
  refine am_e_iastore (q := 22) n80_12 rfl (by decide) (by decide) ?_
  refine am_e_iinc (w := 23) (ls' := [(2, .int 23), (0, .ref 183), (1, .int 64)]) n80_13 rfl rfl (by decide) rfl ?_
  refine am_e_goto c80_14 t80_14 ?_
  refine am_e_iload_n n80_2 rfl ?_
  refine am_e_iload_n n80_3 rfl ?_
  refine am_e_cmpF n80_4 (am_c_geF (by decide)) ?_
  refine am_e_aload_n n80_5 rfl ?_
  refine am_e_iload_n n80_6 rfl ?_
  refine am_e_aload_n n80_7 rfl ?_
  refine am_e_iload_n n80_8 rfl ?_
  refine am_e_iload_n n80_9 rfl ?_
  refine am_e_iadd (w := 87) n80_10 (by decide) ?_
  refine am_e_iaload (v := 0) (q := 87) n80_11 rfl (by decide) (by decide) (f183_87 (h := h) hT) ?_
  refine am_e_iastore (q := 23) n80_12 rfl (by decide) (by decide) ?_
  refine am_e_iinc (w := 24) (ls' := [(2, .int 24), (0, .ref 183), (1, .int 64)]) n80_13 rfl rfl (by decide) rfl ?_
  refine am_e_goto c80_14 t80_14 ?_
  refine am_e_iload_n n80_2 rfl ?_
  refine am_e_iload_n n80_3 rfl ?_
  refine am_e_cmpF n80_4 (am_c_geF (by decide)) ?_
  refine am_e_aload_n n80_5 rfl ?_
  refine am_e_iload_n n80_6 rfl ?_
  refine am_e_aload_n n80_7 rfl ?_
  refine am_e_iload_n n80_8 rfl ?_
  refine am_e_iload_n n80_9 rfl ?_
  refine am_e_iadd (w := 88) n80_10 (by decide) ?_
  refine am_e_iaload (v := 0) (q := 88) n80_11 rfl (by decide) (by decide) (f183_88 (h := h) hT) ?_
  refine am_e_iastore (q := 24) n80_12 rfl (by decide) (by decide) ?_
  refine am_e_iinc (w := 25) (ls' := [(2, .int 25), (0, .ref 183), (1, .int 64)]) n80_13 rfl rfl (by decide) rfl ?_
  refine am_e_goto c80_14 t80_14 ?_
  refine am_e_iload_n n80_2 rfl ?_
  refine am_e_iload_n n80_3 rfl ?_
  refine am_e_cmpF n80_4 (am_c_geF (by decide)) ?_
  refine am_e_aload_n n80_5 rfl ?_
  refine am_e_iload_n n80_6 rfl ?_
  refine am_e_aload_n n80_7 rfl ?_
  refine am_e_iload_n n80_8 rfl ?_
  refine am_e_iload_n n80_9 rfl ?_
  refine am_e_iadd (w := 89) n80_10 (by decide) ?_
  refine am_e_iaload (v := 0) (q := 89) n80_11 rfl (by decide) (by decide) (f183_89 (h := h) hT) ?_
  refine am_e_iastore (q := 25) n80_12 rfl (by decide) (by decide) ?_
  refine am_e_iinc (w := 26) (ls' := [(2, .int 26), (0, .ref 183), (1, .int 64)]) n80_13 rfl rfl (by decide) rfl ?_
  refine am_e_goto c80_14 t80_14 ?_
  refine am_e_iload_n n80_2 rfl ?_
  refine am_e_iload_n n80_3 rfl ?_
  refine am_e_cmpF n80_4 (am_c_geF (by decide)) ?_
  refine am_e_aload_n n80_5 rfl ?_
  refine am_e_iload_n n80_6 rfl ?_
  refine am_e_aload_n n80_7 rfl ?_
  refine am_e_iload_n n80_8 rfl ?_
  refine am_e_iload_n n80_9 rfl ?_
  refine am_e_iadd (w := 90) n80_10 (by decide) ?_
  refine am_e_iaload (v := 0) (q := 90) n80_11 rfl (by decide) (by decide) (f183_90 (h := h) hT) ?_
  refine am_e_iastore (q := 26) n80_12 rfl (by decide) (by decide) ?_
  refine am_e_iinc (w := 27) (ls' := [(2, .int 27), (0, .ref 183), (1, .int 64)]) n80_13 rfl rfl (by decide) rfl ?_
  refine am_e_goto c80_14 t80_14 ?_
  refine am_e_iload_n n80_2 rfl ?_
  refine am_e_iload_n n80_3 rfl ?_
  refine am_e_cmpF n80_4 (am_c_geF (by decide)) ?_
  refine am_e_aload_n n80_5 rfl ?_
  refine am_e_iload_n n80_6 rfl ?_
  refine am_e_aload_n n80_7 rfl ?_
  refine am_e_iload_n n80_8 rfl ?_
  refine am_e_iload_n n80_9 rfl ?_
  refine am_e_iadd (w := 91) n80_10 (by decide) ?_
  refine am_e_iaload (v := 0) (q := 91) n80_11 rfl (by decide) (by decide) (f183_91 (h := h) hT) ?_
  refine am_e_iastore (q := 27) n80_12 rfl (by decide) (by decide) ?_
  refine am_e_iinc (w := 28) (ls' := [(2, .int 28), (0, .ref 183), (1, .int 64)]) n80_13 rfl rfl (by decide) rfl ?_
  refine am_e_goto c80_14 t80_14 ?_
  refine am_e_iload_n n80_2 rfl ?_
  refine am_e_iload_n n80_3 rfl ?_
  refine am_e_cmpF n80_4 (am_c_geF (by decide)) ?_
  refine am_e_aload_n n80_5 rfl ?_
  refine am_e_iload_n n80_6 rfl ?_
  refine am_e_aload_n n80_7 rfl ?_
  refine am_e_iload_n n80_8 rfl ?_
  refine am_e_iload_n n80_9 rfl ?_
  refine am_e_iadd (w := 92) n80_10 (by decide) ?_
  refine am_e_iaload (v := 0) (q := 92) n80_11 rfl (by decide) (by decide) (f183_92 (h := h) hT) ?_
  refine am_e_iastore (q := 28) n80_12 rfl (by decide) (by decide) ?_
  refine am_e_iinc (w := 29) (ls' := [(2, .int 29), (0, .ref 183), (1, .int 64)]) n80_13 rfl rfl (by decide) rfl ?_
  refine am_e_goto c80_14 t80_14 ?_
  refine am_e_iload_n n80_2 rfl ?_
  refine am_e_iload_n n80_3 rfl ?_
  refine am_e_cmpF n80_4 (am_c_geF (by decide)) ?_
  refine am_e_aload_n n80_5 rfl ?_
  refine am_e_iload_n n80_6 rfl ?_
  refine am_e_aload_n n80_7 rfl ?_
  refine am_e_iload_n n80_8 rfl ?_
  refine am_e_iload_n n80_9 rfl ?_
  refine am_e_iadd (w := 93) n80_10 (by decide) ?_
  refine am_e_iaload (v := 0) (q := 93) n80_11 rfl (by decide) (by decide) (f183_93 (h := h) hT) ?_
  refine am_e_iastore (q := 29) n80_12 rfl (by decide) (by decide) ?_
  refine am_e_iinc (w := 30) (ls' := [(2, .int 30), (0, .ref 183), (1, .int 64)]) n80_13 rfl rfl (by decide) rfl ?_
  refine am_e_goto c80_14 t80_14 ?_
  refine am_e_iload_n n80_2 rfl ?_
  refine am_e_iload_n n80_3 rfl ?_
  refine am_e_cmpF n80_4 (am_c_geF (by decide)) ?_
  refine am_e_aload_n n80_5 rfl ?_
  refine am_e_iload_n n80_6 rfl ?_
  refine am_e_aload_n n80_7 rfl ?_
  refine am_e_iload_n n80_8 rfl ?_
  refine am_e_iload_n n80_9 rfl ?_
  refine am_e_iadd (w := 94) n80_10 (by decide) ?_
  refine am_e_iaload (v := 0) (q := 94) n80_11 rfl (by decide) (by decide) (f183_94 (h := h) hT) ?_
  refine am_e_iastore (q := 30) n80_12 rfl (by decide) (by decide) ?_
  refine am_e_iinc (w := 31) (ls' := [(2, .int 31), (0, .ref 183), (1, .int 64)]) n80_13 rfl rfl (by decide) rfl ?_
  refine am_e_goto c80_14 t80_14 ?_
  refine am_e_iload_n n80_2 rfl ?_
  refine am_e_iload_n n80_3 rfl ?_
  refine am_e_cmpF n80_4 (am_c_geF (by decide)) ?_
  refine am_e_aload_n n80_5 rfl ?_
  refine am_e_iload_n n80_6 rfl ?_
  refine am_e_aload_n n80_7 rfl ?_
  refine am_e_iload_n n80_8 rfl ?_
  refine am_e_iload_n n80_9 rfl ?_
  refine am_e_iadd (w := 95) n80_10 (by decide) ?_
  refine am_e_iaload (v := 0) (q := 95) n80_11 rfl (by decide) (by decide) (f183_95 (h := h) hT) ?_
  refine am_e_iastore (q := 31) n80_12 rfl (by decide) (by decide) ?_
  refine am_e_iinc (w := 32) (ls' := [(2, .int 32), (0, .ref 183), (1, .int 64)]) n80_13 rfl rfl (by decide) rfl ?_
  refine am_e_goto c80_14 t80_14 ?_
  refine am_e_iload_n n80_2 rfl ?_
  refine am_e_iload_n n80_3 rfl ?_
  refine am_e_cmpF n80_4 (am_c_geF (by decide)) ?_
  refine am_e_aload_n n80_5 rfl ?_
  refine am_e_iload_n n80_6 rfl ?_
  refine am_e_aload_n n80_7 rfl ?_
  refine am_e_iload_n n80_8 rfl ?_
  refine am_e_iload_n n80_9 rfl ?_
  refine am_e_iadd (w := 96) n80_10 (by decide) ?_
  refine am_e_iaload (v := 0) (q := 96) n80_11 rfl (by decide) (by decide) (f183_96 (h := h) hT) ?_
  refine am_e_iastore (q := 32) n80_12 rfl (by decide) (by decide) ?_
  refine am_e_iinc (w := 33) (ls' := [(2, .int 33), (0, .ref 183), (1, .int 64)]) n80_13 rfl rfl (by decide) rfl ?_
  refine am_e_goto c80_14 t80_14 ?_
  refine am_e_iload_n n80_2 rfl ?_
  refine am_e_iload_n n80_3 rfl ?_
  refine am_e_cmpF n80_4 (am_c_geF (by decide)) ?_
  refine am_e_aload_n n80_5 rfl ?_
  refine am_e_iload_n n80_6 rfl ?_
  refine am_e_aload_n n80_7 rfl ?_
  refine am_e_iload_n n80_8 rfl ?_
  refine am_e_iload_n n80_9 rfl ?_
  refine am_e_iadd (w := 97) n80_10 (by decide) ?_
  refine am_e_iaload (v := 0) (q := 97) n80_11 rfl (by decide) (by decide) (f183_97 (h := h) hT) ?_
  refine am_e_iastore (q := 33) n80_12 rfl (by decide) (by decide) ?_
  refine am_e_iinc (w := 34) (ls' := [(2, .int 34), (0, .ref 183), (1, .int 64)]) n80_13 rfl rfl (by decide) rfl ?_
  refine am_e_goto c80_14 t80_14 ?_
  refine am_e_iload_n n80_2 rfl ?_
  refine am_e_iload_n n80_3 rfl ?_
  refine am_e_cmpF n80_4 (am_c_geF (by decide)) ?_
  refine am_e_aload_n n80_5 rfl ?_
  refine am_e_iload_n n80_6 rfl ?_
  refine am_e_aload_n n80_7 rfl ?_
  refine am_e_iload_n n80_8 rfl ?_
  refine am_e_iload_n n80_9 rfl ?_
  refine am_e_iadd (w := 98) n80_10 (by decide) ?_
  refine am_e_iaload (v := 0) (q := 98) n80_11 rfl (by decide) (by decide) (f183_98 (h := h) hT) ?_
  refine am_e_iastore (q := 34) n80_12 rfl (by decide) (by decide) ?_
  refine am_e_iinc (w := 35) (ls' := [(2, .int 35), (0, .ref 183), (1, .int 64)]) n80_13 rfl rfl (by decide) rfl ?_
  refine am_e_goto c80_14 t80_14 ?_
  refine am_e_iload_n n80_2 rfl ?_
  refine am_e_iload_n n80_3 rfl ?_
  refine am_e_cmpF n80_4 (am_c_geF (by decide)) ?_
  refine am_e_aload_n n80_5 rfl ?_
  refine am_e_iload_n n80_6 rfl ?_
  refine am_e_aload_n n80_7 rfl ?_
  refine am_e_iload_n n80_8 rfl ?_
  refine am_e_iload_n n80_9 rfl ?_
  refine am_e_iadd (w := 99) n80_10 (by decide) ?_
  refine am_e_iaload (v := 0) (q := 99) n80_11 rfl (by decide) (by decide) (f183_99 (h := h) hT) ?_
  refine am_e_iastore (q := 35) n80_12 rfl (by decide) (by decide) ?_
  refine am_e_iinc (w := 36) (ls' := [(2, .int 36), (0, .ref 183), (1, .int 64)]) n80_13 rfl rfl (by decide) rfl ?_
  refine am_e_goto c80_14 t80_14 ?_
  refine am_e_iload_n n80_2 rfl ?_
  refine am_e_iload_n n80_3 rfl ?_
  refine am_e_cmpF n80_4 (am_c_geF (by decide)) ?_
  refine am_e_aload_n n80_5 rfl ?_
  refine am_e_iload_n n80_6 rfl ?_
  refine am_e_aload_n n80_7 rfl ?_
  refine am_e_iload_n n80_8 rfl ?_
  refine am_e_iload_n n80_9 rfl ?_
  refine am_e_iadd (w := 100) n80_10 (by decide) ?_
  refine am_e_iaload (v := 0) (q := 100) n80_11 rfl (by decide) (by decide) (f183_100 (h := h) hT) ?_
  refine am_e_iastore (q := 36) n80_12 rfl (by decide) (by decide) ?_
  refine am_e_iinc (w := 37) (ls' := [(2, .int 37), (0, .ref 183), (1, .int 64)]) n80_13 rfl rfl (by decide) rfl ?_
  refine am_e_goto c80_14 t80_14 ?_
  refine am_e_iload_n n80_2 rfl ?_
  refine am_e_iload_n n80_3 rfl ?_
  refine am_e_cmpF n80_4 (am_c_geF (by decide)) ?_
  refine am_e_aload_n n80_5 rfl ?_
  refine am_e_iload_n n80_6 rfl ?_
  refine am_e_aload_n n80_7 rfl ?_
  refine am_e_iload_n n80_8 rfl ?_
  refine am_e_iload_n n80_9 rfl ?_
  refine am_e_iadd (w := 101) n80_10 (by decide) ?_
  refine am_e_iaload (v := 0) (q := 101) n80_11 rfl (by decide) (by decide) (f183_101 (h := h) hT) ?_
  refine am_e_iastore (q := 37) n80_12 rfl (by decide) (by decide) ?_
  refine am_e_iinc (w := 38) (ls' := [(2, .int 38), (0, .ref 183), (1, .int 64)]) n80_13 rfl rfl (by decide) rfl ?_
  refine am_e_goto c80_14 t80_14 ?_
  refine am_e_iload_n n80_2 rfl ?_
  refine am_e_iload_n n80_3 rfl ?_
  refine am_e_cmpF n80_4 (am_c_geF (by decide)) ?_
  refine am_e_aload_n n80_5 rfl ?_
  refine am_e_iload_n n80_6 rfl ?_
  refine am_e_aload_n n80_7 rfl ?_
  refine am_e_iload_n n80_8 rfl ?_
  refine am_e_iload_n n80_9 rfl ?_
  refine am_e_iadd (w := 102) n80_10 (by decide) ?_
  refine am_e_iaload (v := 0) (q := 102) n80_11 rfl (by decide) (by decide) (f183_102 (h := h) hT) ?_
  refine am_e_iastore (q := 38) n80_12 rfl (by decide) (by decide) ?_
  refine am_e_iinc (w := 39) (ls' := [(2, .int 39), (0, .ref 183), (1, .int 64)]) n80_13 rfl rfl (by decide) rfl ?_
  refine am_e_goto c80_14 t80_14 ?_
  refine am_e_iload_n n80_2 rfl ?_
  refine am_e_iload_n n80_3 rfl ?_
  refine am_e_cmpF n80_4 (am_c_geF (by decide)) ?_
  refine am_e_aload_n n80_5 rfl ?_
  refine am_e_iload_n n80_6 rfl ?_
  refine am_e_aload_n n80_7 rfl ?_
  refine am_e_iload_n n80_8 rfl ?_
  refine am_e_iload_n n80_9 rfl ?_
  refine am_e_iadd (w := 103) n80_10 (by decide) ?_
  refine am_e_iaload (v := 0) (q := 103) n80_11 rfl (by decide) (by decide) (f183_103 (h := h) hT) ?_
  refine am_e_iastore (q := 39) n80_12 rfl (by decide) (by decide) ?_
  refine am_e_iinc (w := 40) (ls' := [(2, .int 40), (0, .ref 183), (1, .int 64)]) n80_13 rfl rfl (by decide) rfl ?_
  refine am_e_goto c80_14 t80_14 ?_
  refine am_e_iload_n n80_2 rfl ?_
  refine am_e_iload_n n80_3 rfl ?_
  refine am_e_cmpF n80_4 (am_c_geF (by decide)) ?_
  refine am_e_aload_n n80_5 rfl ?_
  refine am_e_iload_n n80_6 rfl ?_
  refine am_e_aload_n n80_7 rfl ?_
  refine am_e_iload_n n80_8 rfl ?_
  refine am_e_iload_n n80_9 rfl ?_
  refine am_e_iadd (w := 104) n80_10 (by decide) ?_
  refine am_e_iaload (v := 0) (q := 104) n80_11 rfl (by decide) (by decide) (f183_104 (h := h) hT) ?_
  refine am_e_iastore (q := 40) n80_12 rfl (by decide) (by decide) ?_
  refine am_e_iinc (w := 41) (ls' := [(2, .int 41), (0, .ref 183), (1, .int 64)]) n80_13 rfl rfl (by decide) rfl ?_
  refine am_e_goto c80_14 t80_14 ?_
  refine am_e_iload_n n80_2 rfl ?_
  refine am_e_iload_n n80_3 rfl ?_
  refine am_e_cmpF n80_4 (am_c_geF (by decide)) ?_
  refine am_e_aload_n n80_5 rfl ?_
  refine am_e_iload_n n80_6 rfl ?_
  refine am_e_aload_n n80_7 rfl ?_
  refine am_e_iload_n n80_8 rfl ?_
  refine am_e_iload_n n80_9 rfl ?_
  refine am_e_iadd (w := 105) n80_10 (by decide) ?_
  refine am_e_iaload (v := 0) (q := 105) n80_11 rfl (by decide) (by decide) (f183_105 (h := h) hT) ?_
  refine am_e_iastore (q := 41) n80_12 rfl (by decide) (by decide) ?_
  refine am_e_iinc (w := 42) (ls' := [(2, .int 42), (0, .ref 183), (1, .int 64)]) n80_13 rfl rfl (by decide) rfl ?_
  refine am_e_goto c80_14 t80_14 ?_
  refine am_e_iload_n n80_2 rfl ?_
  refine am_e_iload_n n80_3 rfl ?_
  refine am_e_cmpF n80_4 (am_c_geF (by decide)) ?_
  refine am_e_aload_n n80_5 rfl ?_
  refine am_e_iload_n n80_6 rfl ?_
  refine am_e_aload_n n80_7 rfl ?_
  refine am_e_iload_n n80_8 rfl ?_
  refine am_e_iload_n n80_9 rfl ?_
  refine am_e_iadd (w := 106) n80_10 (by decide) ?_
  refine am_e_iaload (v := 0) (q := 106) n80_11 rfl (by decide) (by decide) (f183_106 (h := h) hT) ?_
  refine am_e_iastore (q := 42) n80_12 rfl (by decide) (by decide) ?_
  refine am_e_iinc (w := 43) (ls' := [(2, .int 43), (0, .ref 183), (1, .int 64)]) n80_13 rfl rfl (by decide) rfl ?_
  refine am_e_goto c80_14 t80_14 ?_
  refine am_e_iload_n n80_2 rfl ?_
  refine am_e_iload_n n80_3 rfl ?_
  refine am_e_cmpF n80_4 (am_c_geF (by decide)) ?_
  refine am_e_aload_n n80_5 rfl ?_
  refine am_e_iload_n n80_6 rfl ?_
  refine am_e_aload_n n80_7 rfl ?_
  refine am_e_iload_n n80_8 rfl ?_
  refine am_e_iload_n n80_9 rfl ?_
  refine am_e_iadd (w := 107) n80_10 (by decide) ?_
  refine am_e_iaload (v := 0) (q := 107) n80_11 rfl (by decide) (by decide) (f183_107 (h := h) hT) ?_
  refine am_e_iastore (q := 43) n80_12 rfl (by decide) (by decide) ?_
  refine am_e_iinc (w := 44) (ls' := [(2, .int 44), (0, .ref 183), (1, .int 64)]) n80_13 rfl rfl (by decide) rfl ?_
  refine am_e_goto c80_14 t80_14 ?_
  refine am_e_iload_n n80_2 rfl ?_
  refine am_e_iload_n n80_3 rfl ?_
  refine am_e_cmpF n80_4 (am_c_geF (by decide)) ?_
  refine am_e_aload_n n80_5 rfl ?_
  refine am_e_iload_n n80_6 rfl ?_
  refine am_e_aload_n n80_7 rfl ?_
  refine am_e_iload_n n80_8 rfl ?_
  refine am_e_iload_n n80_9 rfl ?_
  refine am_e_iadd (w := 108) n80_10 (by decide) ?_
  refine am_e_iaload (v := 0) (q := 108) n80_11 rfl (by decide) (by decide) (f183_108 (h := h) hT) ?_
  refine am_e_iastore (q := 44) n80_12 rfl (by decide) (by decide) ?_
  refine am_e_iinc (w := 45) (ls' := [(2, .int 45), (0, .ref 183), (1, .int 64)]) n80_13 rfl rfl (by decide) rfl ?_
  refine am_e_goto c80_14 t80_14 ?_
  refine am_e_iload_n n80_2 rfl ?_
  refine am_e_iload_n n80_3 rfl ?_
  refine am_e_cmpF n80_4 (am_c_geF (by decide)) ?_
  refine am_e_aload_n n80_5 rfl ?_
  refine am_e_iload_n n80_6 rfl ?_
  refine am_e_aload_n n80_7 rfl ?_
  refine am_e_iload_n n80_8 rfl ?_
  refine am_e_iload_n n80_9 rfl ?_
  refine am_e_iadd (w := 109) n80_10 (by decide) ?_
  refine am_e_iaload (v := 0) (q := 109) n80_11 rfl (by decide) (by decide) (f183_109 (h := h) hT) ?_
  refine am_e_iastore (q := 45) n80_12 rfl (by decide) (by decide) ?_
  refine am_e_iinc (w := 46) (ls' := [(2, .int 46), (0, .ref 183), (1, .int 64)]) n80_13 rfl rfl (by decide) rfl ?_
  refine am_e_goto c80_14 t80_14 ?_
  refine am_e_iload_n n80_2 rfl ?_
  refine am_e_iload_n n80_3 rfl ?_
  refine am_e_cmpF n80_4 (am_c_geF (by decide)) ?_
  refine am_e_aload_n n80_5 rfl ?_
  refine am_e_iload_n n80_6 rfl ?_
  refine am_e_aload_n n80_7 rfl ?_
  refine am_e_iload_n n80_8 rfl ?_
  refine am_e_iload_n n80_9 rfl ?_
  refine am_e_iadd (w := 110) n80_10 (by decide) ?_
  refine am_e_iaload (v := 0) (q := 110) n80_11 rfl (by decide) (by decide) (f183_110 (h := h) hT) ?_
  refine am_e_iastore (q := 46) n80_12 rfl (by decide) (by decide) ?_
  refine am_e_iinc (w := 47) (ls' := [(2, .int 47), (0, .ref 183), (1, .int 64)]) n80_13 rfl rfl (by decide) rfl ?_
  refine am_e_goto c80_14 t80_14 ?_
  refine am_e_iload_n n80_2 rfl ?_
  refine am_e_iload_n n80_3 rfl ?_
  refine am_e_cmpF n80_4 (am_c_geF (by decide)) ?_
  refine am_e_aload_n n80_5 rfl ?_
  refine am_e_iload_n n80_6 rfl ?_
  refine am_e_aload_n n80_7 rfl ?_
  refine am_e_iload_n n80_8 rfl ?_
  refine am_e_iload_n n80_9 rfl ?_
  refine am_e_iadd (w := 111) n80_10 (by decide) ?_
  refine am_e_iaload (v := 0) (q := 111) n80_11 rfl (by decide) (by decide) (f183_111 (h := h) hT) ?_
  refine am_e_iastore (q := 47) n80_12 rfl (by decide) (by decide) ?_
  refine am_e_iinc (w := 48) (ls' := [(2, .int 48), (0, .ref 183), (1, .int 64)]) n80_13 rfl rfl (by decide) rfl ?_
  refine am_e_goto c80_14 t80_14 ?_
  refine am_e_iload_n n80_2 rfl ?_
  refine am_e_iload_n n80_3 rfl ?_
  refine am_e_cmpF n80_4 (am_c_geF (by decide)) ?_
  refine am_e_aload_n n80_5 rfl ?_
  refine am_e_iload_n n80_6 rfl ?_
  refine am_e_aload_n n80_7 rfl ?_
  refine am_e_iload_n n80_8 rfl ?_
  refine am_e_iload_n n80_9 rfl ?_
  refine am_e_iadd (w := 112) n80_10 (by decide) ?_
  refine am_e_iaload (v := 0) (q := 112) n80_11 rfl (by decide) (by decide) (f183_112 (h := h) hT) ?_
  refine am_e_iastore (q := 48) n80_12 rfl (by decide) (by decide) ?_
  refine am_e_iinc (w := 49) (ls' := [(2, .int 49), (0, .ref 183), (1, .int 64)]) n80_13 rfl rfl (by decide) rfl ?_
  refine am_e_goto c80_14 t80_14 ?_
  refine am_e_iload_n n80_2 rfl ?_
  refine am_e_iload_n n80_3 rfl ?_
  refine am_e_cmpF n80_4 (am_c_geF (by decide)) ?_
  refine am_e_aload_n n80_5 rfl ?_
  refine am_e_iload_n n80_6 rfl ?_
  refine am_e_aload_n n80_7 rfl ?_
  refine am_e_iload_n n80_8 rfl ?_
  refine am_e_iload_n n80_9 rfl ?_
  refine am_e_iadd (w := 113) n80_10 (by decide) ?_
  refine am_e_iaload (v := 0) (q := 113) n80_11 rfl (by decide) (by decide) (f183_113 (h := h) hT) ?_
  refine am_e_iastore (q := 49) n80_12 rfl (by decide) (by decide) ?_
  refine am_e_iinc (w := 50) (ls' := [(2, .int 50), (0, .ref 183), (1, .int 64)]) n80_13 rfl rfl (by decide) rfl ?_
  refine am_e_goto c80_14 t80_14 ?_
  refine am_e_iload_n n80_2 rfl ?_
  refine am_e_iload_n n80_3 rfl ?_
  refine am_e_cmpF n80_4 (am_c_geF (by decide)) ?_
  refine am_e_aload_n n80_5 rfl ?_
  refine am_e_iload_n n80_6 rfl ?_
  refine am_e_aload_n n80_7 rfl ?_
  refine am_e_iload_n n80_8 rfl ?_
  refine am_e_iload_n n80_9 rfl ?_
  refine am_e_iadd (w := 114) n80_10 (by decide) ?_
  refine am_e_iaload (v := 0) (q := 114) n80_11 rfl (by decide) (by decide) (f183_114 (h := h) hT) ?_
  refine am_e_iastore (q := 50) n80_12 rfl (by decide) (by decide) ?_
  refine am_e_iinc (w := 51) (ls' := [(2, .int 51), (0, .ref 183), (1, .int 64)]) n80_13 rfl rfl (by decide) rfl ?_
  refine am_e_goto c80_14 t80_14 ?_
  refine am_e_iload_n n80_2 rfl ?_
  refine am_e_iload_n n80_3 rfl ?_
  refine am_e_cmpF n80_4 (am_c_geF (by decide)) ?_
  refine am_e_aload_n n80_5 rfl ?_
  refine am_e_iload_n n80_6 rfl ?_
  refine am_e_aload_n n80_7 rfl ?_
  refine am_e_iload_n n80_8 rfl ?_
  refine am_e_iload_n n80_9 rfl ?_
  refine am_e_iadd (w := 115) n80_10 (by decide) ?_
  refine am_e_iaload (v := 0) (q := 115) n80_11 rfl (by decide) (by decide) (f183_115 (h := h) hT) ?_
  refine am_e_iastore (q := 51) n80_12 rfl (by decide) (by decide) ?_
  refine am_e_iinc (w := 52) (ls' := [(2, .int 52), (0, .ref 183), (1, .int 64)]) n80_13 rfl rfl (by decide) rfl ?_
  refine am_e_goto c80_14 t80_14 ?_
  refine am_e_iload_n n80_2 rfl ?_
  refine am_e_iload_n n80_3 rfl ?_
  refine am_e_cmpF n80_4 (am_c_geF (by decide)) ?_
  refine am_e_aload_n n80_5 rfl ?_
  refine am_e_iload_n n80_6 rfl ?_
  refine am_e_aload_n n80_7 rfl ?_
  refine am_e_iload_n n80_8 rfl ?_
  refine am_e_iload_n n80_9 rfl ?_
  refine am_e_iadd (w := 116) n80_10 (by decide) ?_
  refine am_e_iaload (v := 0) (q := 116) n80_11 rfl (by decide) (by decide) (f183_116 (h := h) hT) ?_
  refine am_e_iastore (q := 52) n80_12 rfl (by decide) (by decide) ?_
  refine am_e_iinc (w := 53) (ls' := [(2, .int 53), (0, .ref 183), (1, .int 64)]) n80_13 rfl rfl (by decide) rfl ?_
  refine am_e_goto c80_14 t80_14 ?_
  refine am_e_iload_n n80_2 rfl ?_
  refine am_e_iload_n n80_3 rfl ?_
  refine am_e_cmpF n80_4 (am_c_geF (by decide)) ?_
  refine am_e_aload_n n80_5 rfl ?_
  refine am_e_iload_n n80_6 rfl ?_
  refine am_e_aload_n n80_7 rfl ?_
  refine am_e_iload_n n80_8 rfl ?_
  refine am_e_iload_n n80_9 rfl ?_
  refine am_e_iadd (w := 117) n80_10 (by decide) ?_
  refine am_e_iaload (v := 0) (q := 117) n80_11 rfl (by decide) (by decide) (f183_117 (h := h) hT) ?_
  refine am_e_iastore (q := 53) n80_12 rfl (by decide) (by decide) ?_
  refine am_e_iinc (w := 54) (ls' := [(2, .int 54), (0, .ref 183), (1, .int 64)]) n80_13 rfl rfl (by decide) rfl ?_
  refine am_e_goto c80_14 t80_14 ?_
  refine am_e_iload_n n80_2 rfl ?_
  refine am_e_iload_n n80_3 rfl ?_
  refine am_e_cmpF n80_4 (am_c_geF (by decide)) ?_
  refine am_e_aload_n n80_5 rfl ?_
  refine am_e_iload_n n80_6 rfl ?_
  refine am_e_aload_n n80_7 rfl ?_
  refine am_e_iload_n n80_8 rfl ?_
  refine am_e_iload_n n80_9 rfl ?_
  refine am_e_iadd (w := 118) n80_10 (by decide) ?_
  refine am_e_iaload (v := 0) (q := 118) n80_11 rfl (by decide) (by decide) (f183_118 (h := h) hT) ?_
  refine am_e_iastore (q := 54) n80_12 rfl (by decide) (by decide) ?_
  refine am_e_iinc (w := 55) (ls' := [(2, .int 55), (0, .ref 183), (1, .int 64)]) n80_13 rfl rfl (by decide) rfl ?_
  refine am_e_goto c80_14 t80_14 ?_
  refine am_e_iload_n n80_2 rfl ?_
  refine am_e_iload_n n80_3 rfl ?_
  refine am_e_cmpF n80_4 (am_c_geF (by decide)) ?_
  refine am_e_aload_n n80_5 rfl ?_
  refine am_e_iload_n n80_6 rfl ?_
  refine am_e_aload_n n80_7 rfl ?_
  refine am_e_iload_n n80_8 rfl ?_
  refine am_e_iload_n n80_9 rfl ?_
  refine am_e_iadd (w := 119) n80_10 (by decide) ?_
  refine am_e_iaload (v := 0) (q := 119) n80_11 rfl (by decide) (by decide) (f183_119 (h := h) hT) ?_
  refine am_e_iastore (q := 55) n80_12 rfl (by decide) (by decide) ?_
  refine am_e_iinc (w := 56) (ls' := [(2, .int 56), (0, .ref 183), (1, .int 64)]) n80_13 rfl rfl (by decide) rfl ?_
  refine am_e_goto c80_14 t80_14 ?_
  refine am_e_iload_n n80_2 rfl ?_
  refine am_e_iload_n n80_3 rfl ?_
  refine am_e_cmpF n80_4 (am_c_geF (by decide)) ?_
  refine am_e_aload_n n80_5 rfl ?_
  refine am_e_iload_n n80_6 rfl ?_
  refine am_e_aload_n n80_7 rfl ?_
  refine am_e_iload_n n80_8 rfl ?_
  refine am_e_iload_n n80_9 rfl ?_
  refine am_e_iadd (w := 120) n80_10 (by decide) ?_
  refine am_e_iaload (v := 0) (q := 120) n80_11 rfl (by decide) (by decide) (f183_120 (h := h) hT) ?_
  refine am_e_iastore (q := 56) n80_12 rfl (by decide) (by decide) ?_
  refine am_e_iinc (w := 57) (ls' := [(2, .int 57), (0, .ref 183), (1, .int 64)]) n80_13 rfl rfl (by decide) rfl ?_
  refine am_e_goto c80_14 t80_14 ?_
  refine am_e_iload_n n80_2 rfl ?_
  refine am_e_iload_n n80_3 rfl ?_
  refine am_e_cmpF n80_4 (am_c_geF (by decide)) ?_
  refine am_e_aload_n n80_5 rfl ?_
  refine am_e_iload_n n80_6 rfl ?_
  refine am_e_aload_n n80_7 rfl ?_
  refine am_e_iload_n n80_8 rfl ?_
  refine am_e_iload_n n80_9 rfl ?_
  refine am_e_iadd (w := 121) n80_10 (by decide) ?_
  refine am_e_iaload (v := 0) (q := 121) n80_11 rfl (by decide) (by decide) (f183_121 (h := h) hT) ?_
  refine am_e_iastore (q := 57) n80_12 rfl (by decide) (by decide) ?_
  refine am_e_iinc (w := 58) (ls' := [(2, .int 58), (0, .ref 183), (1, .int 64)]) n80_13 rfl rfl (by decide) rfl ?_
  refine am_e_goto c80_14 t80_14 ?_
  refine am_e_iload_n n80_2 rfl ?_
  refine am_e_iload_n n80_3 rfl ?_
  refine am_e_cmpF n80_4 (am_c_geF (by decide)) ?_
  refine am_e_aload_n n80_5 rfl ?_
  refine am_e_iload_n n80_6 rfl ?_
  refine am_e_aload_n n80_7 rfl ?_
  refine am_e_iload_n n80_8 rfl ?_
  refine am_e_iload_n n80_9 rfl ?_
  refine am_e_iadd (w := 122) n80_10 (by decide) ?_
  refine am_e_iaload (v := 0) (q := 122) n80_11 rfl (by decide) (by decide) (f183_122 (h := h) hT) ?_
  refine am_e_iastore (q := 58) n80_12 rfl (by decide) (by decide) ?_
  refine am_e_iinc (w := 59) (ls' := [(2, .int 59), (0, .ref 183), (1, .int 64)]) n80_13 rfl rfl (by decide) rfl ?_
  refine am_e_goto c80_14 t80_14 ?_
  refine am_e_iload_n n80_2 rfl ?_
  refine am_e_iload_n n80_3 rfl ?_
  refine am_e_cmpF n80_4 (am_c_geF (by decide)) ?_
  refine am_e_aload_n n80_5 rfl ?_
  refine am_e_iload_n n80_6 rfl ?_
  refine am_e_aload_n n80_7 rfl ?_
  refine am_e_iload_n n80_8 rfl ?_
  refine am_e_iload_n n80_9 rfl ?_
  refine am_e_iadd (w := 123) n80_10 (by decide) ?_
  refine am_e_iaload (v := 0) (q := 123) n80_11 rfl (by decide) (by decide) (f183_123 (h := h) hT) ?_
  refine am_e_iastore (q := 59) n80_12 rfl (by decide) (by decide) ?_
  refine am_e_iinc (w := 60) (ls' := [(2, .int 60), (0, .ref 183), (1, .int 64)]) n80_13 rfl rfl (by decide) rfl ?_
  refine am_e_goto c80_14 t80_14 ?_
  refine am_e_iload_n n80_2 rfl ?_
  refine am_e_iload_n n80_3 rfl ?_
  refine am_e_cmpF n80_4 (am_c_geF (by decide)) ?_
  refine am_e_aload_n n80_5 rfl ?_
  refine am_e_iload_n n80_6 rfl ?_
  refine am_e_aload_n n80_7 rfl ?_
  refine am_e_iload_n n80_8 rfl ?_
  refine am_e_iload_n n80_9 rfl ?_
  refine am_e_iadd (w := 124) n80_10 (by decide) ?_
  refine am_e_iaload (v := 0) (q := 124) n80_11 rfl (by decide) (by decide) (f183_124 (h := h) hT) ?_
  refine am_e_iastore (q := 60) n80_12 rfl (by decide) (by decide) ?_
  refine am_e_iinc (w := 61) (ls' := [(2, .int 61), (0, .ref 183), (1, .int 64)]) n80_13 rfl rfl (by decide) rfl ?_
  refine am_e_goto c80_14 t80_14 ?_
  refine am_e_iload_n n80_2 rfl ?_
  refine am_e_iload_n n80_3 rfl ?_
  refine am_e_cmpF n80_4 (am_c_geF (by decide)) ?_
  refine am_e_aload_n n80_5 rfl ?_
  refine am_e_iload_n n80_6 rfl ?_
  refine am_e_aload_n n80_7 rfl ?_
  refine am_e_iload_n n80_8 rfl ?_
  refine am_e_iload_n n80_9 rfl ?_
  refine am_e_iadd (w := 125) n80_10 (by decide) ?_
  refine am_e_iaload (v := 0) (q := 125) n80_11 rfl (by decide) (by decide) (f183_125 (h := h) hT) ?_
  refine am_e_iastore (q := 61) n80_12 rfl (by decide) (by decide) ?_
  refine am_e_iinc (w := 62) (ls' := [(2, .int 62), (0, .ref 183), (1, .int 64)]) n80_13 rfl rfl (by decide) rfl ?_
  refine am_e_goto c80_14 t80_14 ?_
  refine am_e_iload_n n80_2 rfl ?_
  refine am_e_iload_n n80_3 rfl ?_
  refine am_e_cmpF n80_4 (am_c_geF (by decide)) ?_
  refine am_e_aload_n n80_5 rfl ?_
  refine am_e_iload_n n80_6 rfl ?_
  refine am_e_aload_n n80_7 rfl ?_
  refine am_e_iload_n n80_8 rfl ?_
  refine am_e_iload_n n80_9 rfl ?_
  refine am_e_iadd (w := 126) n80_10 (by decide) ?_
  refine am_e_iaload (v := 0) (q := 126) n80_11 rfl (by decide) (by decide) (f183_126 (h := h) hT) ?_
  refine am_e_iastore (q := 62) n80_12 rfl (by decide) (by decide) ?_
  refine am_e_iinc (w := 63) (ls' := [(2, .int 63), (0, .ref 183), (1, .int 64)]) n80_13 rfl rfl (by decide) rfl ?_
  refine am_e_goto c80_14 t80_14 ?_
  refine am_e_iload_n n80_2 rfl ?_
  refine am_e_iload_n n80_3 rfl ?_
  refine am_e_cmpF n80_4 (am_c_geF (by decide)) ?_
  refine am_e_aload_n n80_5 rfl ?_
  refine am_e_iload_n n80_6 rfl ?_
  refine am_e_aload_n n80_7 rfl ?_
  refine am_e_iload_n n80_8 rfl ?_
  refine am_e_iload_n n80_9 rfl ?_
  refine am_e_iadd (w := 127) n80_10 (by decide) ?_
  refine am_e_iaload (v := 0) (q := 127) n80_11 rfl (by decide) (by decide) (f183_127 (h := h) hT) ?_
  refine am_e_iastore (q := 63) n80_12 rfl (by decide) (by decide) ?_
  refine am_e_iinc (w := 64) (ls' := [(2, .int 64), (0, .ref 183), (1, .int 64)]) n80_13 rfl rfl (by decide) rfl ?_
  refine am_e_goto c80_14 t80_14 ?_
  refine am_e_iload_n n80_2 rfl ?_
  refine am_e_iload_n n80_3 rfl ?_
  refine am_e_cmpT n80_4 (am_c_geT (by decide)) t80_4 ?_
  refine am_e_vret c80_15 rfl rfl ?_
  refine am_e_aload_n n79_97 rfl ?_
  refine am_e_callV (L := [(0, .ref 164)]) n79_98 rfl rfl rfl rfl rfl rfl rfl rfl ?_
  refine am_e_aload_n n81_0 rfl ?_
  refine am_e_iconst (w := 0) n81_1 rfl ?_
  refine am_e_callV (L := [(0, .ref 164), (1, .int 0)]) n81_2 rfl rfl rfl rfl rfl rfl rfl rfl ?_
  refine am_e_aload_n n82_0 rfl ?_
  refine am_e_getf (v := .ref 188) n82_1 rfl (f164_50 (h := h) hT) ?_
  refine am_e_iload_n n82_2 rfl ?_
  refine am_e_aload_n n82_3 rfl ?_
  refine am_e_getf (v := .ref 168) n82_4 rfl (f164_23 (h := h) hT) ?_
  refine am_e_iconst (w := 1) n82_5 rfl ?_
  refine am_e_iaload (v := 0) (q := 1) n82_6 rfl (by decide) (by decide) rfl ?_
  refine am_e_iastore (q := 0) n82_7 rfl (by decide) (by decide) ?_
  refine am_e_aload_n n82_8 rfl ?_
  refine am_e_getf (v := .ref 189) n82_9 rfl (f164_51 (h := h) hT) ?_
  refine am_e_iload_n n82_10 rfl ?_
  refine am_e_iconst (w := 0) n82_11 rfl ?_
  refine am_e_iastore (q := 0) n82_12 rfl (by decide) (by decide) ?_
  refine am_e_aload_n n82_13 rfl ?_
  refine am_e_getf (v := .ref 190) n82_14 rfl (f164_52 (h := h) hT) ?_
  refine am_e_iload_n n82_15 rfl ?_
  refine am_e_iconst (w := (-1)) n82_16 rfl ?_
  refine am_e_iastore (q := 0) n82_17 rfl (by decide) (by decide) ?_
  refine am_e_aload_n n82_18 rfl ?_
  refine am_e_getf (v := .ref 194) n82_19 rfl (f164_56 (h := h) hT) ?_
  refine am_e_iload_n n82_20 rfl ?_
  refine am_e_aload_n n82_21 rfl ?_
  refine am_e_getf (v := .ref 168) n82_22 rfl (f164_23 (h := h) hT) ?_
  refine am_e_iconst (w := 3) n82_23 rfl ?_
  refine am_e_iaload (v := 0) (q := 3) n82_24 rfl (by decide) (by decide) rfl ?_
  refine am_e_iastore (q := 0) n82_25 rfl (by decide) (by decide) ?_
  refine am_e_iconst (w := 0) n82_26 rfl ?_
  refine am_e_istore_n (ls' := [(2, .int 0), (0, .ref 164), (1, .int 0)]) n82_27 rfl rfl ?_
  refine am_e_iload_n n82_28 rfl ?_
  refine am_e_iconst (w := 4) n82_29 rfl ?_
  refine am_e_cmpF n82_30 (am_c_geF (by decide)) ?_
  refine am_e_aload_n n82_31 rfl ?_
  refine am_e_getf (v := .ref 191) n82_32 rfl (f164_53 (h := h) hT) ?_
  refine am_e_iconst (w := 4) n82_33 rfl ?_
  refine am_e_iload_n n82_34 rfl ?_
  refine am_e_imul (w := 0) n82_35 (by decide) ?_
  refine am_e_iload_n n82_36 rfl ?_
  refine am_e_iadd (w := 0) n82_37 (by decide) ?_
  refine am_e_iconst (w := 0) n82_38 rfl ?_
  refine am_e_iastore (q := 0) n82_39 rfl (by decide) (by decide) ?_
  refine am_e_aload_n n82_40 rfl ?_
  refine am_e_getf (v := .ref 192) n82_41 rfl (f164_54 (h := h) hT) ?_
  refine am_e_iconst (w := 4) n82_42 rfl ?_
  refine am_e_iload_n n82_43 rfl ?_
  refine am_e_imul (w := 0) n82_44 (by decide) ?_
  refine am_e_iload_n n82_45 rfl ?_
  refine am_e_iadd (w := 0) n82_46 (by decide) ?_
  refine am_e_iconst (w := 0) n82_47 rfl ?_
  refine am_e_iastore (q := 0) n82_48 rfl (by decide) (by decide) ?_
  refine am_e_aload_n n82_49 rfl ?_
  refine am_e_getf (v := .ref 193) n82_50 rfl (f164_55 (h := h) hT) ?_
  refine am_e_iconst (w := 4) n82_51 rfl ?_
  refine am_e_iload_n n82_52 rfl ?_
  refine am_e_imul (w := 0) n82_53 (by decide) ?_
  refine am_e_iload_n n82_54 rfl ?_
  refine am_e_iadd (w := 0) n82_55 (by decide) ?_
  refine am_e_iconst (w := 0) n82_56 rfl ?_
  refine am_e_iastore (q := 0) n82_57 rfl (by decide) (by decide) ?_
  refine am_e_iinc (w := 1) (ls' := [(2, .int 1), (0, .ref 164), (1, .int 0)]) n82_58 rfl rfl (by decide) rfl ?_
  refine am_e_goto c82_59 t82_59 ?_
  refine am_e_iload_n n82_28 rfl ?_
  refine am_e_iconst (w := 4) n82_29 rfl ?_
  refine am_e_cmpF n82_30 (am_c_geF (by decide)) ?_
  refine am_e_aload_n n82_31 rfl ?_
  refine am_e_getf (v := .ref 191) n82_32 rfl (f164_53 (h := h) hT) ?_
  refine am_e_iconst (w := 4) n82_33 rfl ?_
  refine am_e_iload_n n82_34 rfl ?_
  refine am_e_imul (w := 0) n82_35 (by decide) ?_
  refine am_e_iload_n n82_36 rfl ?_
  refine am_e_iadd (w := 1) n82_37 (by decide) ?_
  refine am_e_iconst (w := 0) n82_38 rfl ?_
  refine am_e_iastore (q := 1) n82_39 rfl (by decide) (by decide) ?_
  refine am_e_aload_n n82_40 rfl ?_
  refine am_e_getf (v := .ref 192) n82_41 rfl (f164_54 (h := h) hT) ?_
  refine am_e_iconst (w := 4) n82_42 rfl ?_
  refine am_e_iload_n n82_43 rfl ?_
  refine am_e_imul (w := 0) n82_44 (by decide) ?_
  refine am_e_iload_n n82_45 rfl ?_
  refine am_e_iadd (w := 1) n82_46 (by decide) ?_
  refine am_e_iconst (w := 0) n82_47 rfl ?_
  refine am_e_iastore (q := 1) n82_48 rfl (by decide) (by decide) ?_
  refine am_e_aload_n n82_49 rfl ?_
  refine am_e_getf (v := .ref 193) n82_50 rfl (f164_55 (h := h) hT) ?_
  refine am_e_iconst (w := 4) n82_51 rfl ?_
  refine am_e_iload_n n82_52 rfl ?_
  refine am_e_imul (w := 0) n82_53 (by decide) ?_
  refine am_e_iload_n n82_54 rfl ?_
  refine am_e_iadd (w := 1) n82_55 (by decide) ?_
  refine am_e_iconst (w := 0) n82_56 rfl ?_
  refine am_e_iastore (q := 1) n82_57 rfl (by decide) (by decide) ?_
  refine am_e_iinc (w := 2) (ls' := [(2, .int 2), (0, .ref 164), (1, .int 0)]) n82_58 rfl rfl (by decide) rfl ?_
  refine am_e_goto c82_59 t82_59 ?_
  refine am_e_iload_n n82_28 rfl ?_
  refine am_e_iconst (w := 4) n82_29 rfl ?_
  refine am_e_cmpF n82_30 (am_c_geF (by decide)) ?_
  refine am_e_aload_n n82_31 rfl ?_
  refine am_e_getf (v := .ref 191) n82_32 rfl (f164_53 (h := h) hT) ?_
  refine am_e_iconst (w := 4) n82_33 rfl ?_
  refine am_e_iload_n n82_34 rfl ?_
  refine am_e_imul (w := 0) n82_35 (by decide) ?_
  refine am_e_iload_n n82_36 rfl ?_
  refine am_e_iadd (w := 2) n82_37 (by decide) ?_
  refine am_e_iconst (w := 0) n82_38 rfl ?_
  refine am_e_iastore (q := 2) n82_39 rfl (by decide) (by decide) ?_
  refine am_e_aload_n n82_40 rfl ?_
  refine am_e_getf (v := .ref 192) n82_41 rfl (f164_54 (h := h) hT) ?_
  refine am_e_iconst (w := 4) n82_42 rfl ?_
  refine am_e_iload_n n82_43 rfl ?_
  refine am_e_imul (w := 0) n82_44 (by decide) ?_
  refine am_e_iload_n n82_45 rfl ?_
  refine am_e_iadd (w := 2) n82_46 (by decide) ?_
  refine am_e_iconst (w := 0) n82_47 rfl ?_
  refine am_e_iastore (q := 2) n82_48 rfl (by decide) (by decide) ?_
  refine am_e_aload_n n82_49 rfl ?_
  refine am_e_getf (v := .ref 193) n82_50 rfl (f164_55 (h := h) hT) ?_
  refine am_e_iconst (w := 4) n82_51 rfl ?_
  refine am_e_iload_n n82_52 rfl ?_
  refine am_e_imul (w := 0) n82_53 (by decide) ?_
  refine am_e_iload_n n82_54 rfl ?_
  refine am_e_iadd (w := 2) n82_55 (by decide) ?_
  refine am_e_iconst (w := 0) n82_56 rfl ?_
  refine am_e_iastore (q := 2) n82_57 rfl (by decide) (by decide) ?_
  refine am_e_iinc (w := 3) (ls' := [(2, .int 3), (0, .ref 164), (1, .int 0)]) n82_58 rfl rfl (by decide) rfl ?_
  refine am_e_goto c82_59 t82_59 ?_
  refine am_e_iload_n n82_28 rfl ?_
  refine am_e_iconst (w := 4) n82_29 rfl ?_
  refine am_e_cmpF n82_30 (am_c_geF (by decide)) ?_
  refine am_e_aload_n n82_31 rfl ?_
  refine am_e_getf (v := .ref 191) n82_32 rfl (f164_53 (h := h) hT) ?_
  refine am_e_iconst (w := 4) n82_33 rfl ?_
  refine am_e_iload_n n82_34 rfl ?_
  refine am_e_imul (w := 0) n82_35 (by decide) ?_
  refine am_e_iload_n n82_36 rfl ?_
  refine am_e_iadd (w := 3) n82_37 (by decide) ?_
  refine am_e_iconst (w := 0) n82_38 rfl ?_
  refine am_e_iastore (q := 3) n82_39 rfl (by decide) (by decide) ?_
  refine am_e_aload_n n82_40 rfl ?_
  refine am_e_getf (v := .ref 192) n82_41 rfl (f164_54 (h := h) hT) ?_
  refine am_e_iconst (w := 4) n82_42 rfl ?_
  refine am_e_iload_n n82_43 rfl ?_
  refine am_e_imul (w := 0) n82_44 (by decide) ?_
  refine am_e_iload_n n82_45 rfl ?_
  refine am_e_iadd (w := 3) n82_46 (by decide) ?_
  refine am_e_iconst (w := 0) n82_47 rfl ?_
  refine am_e_iastore (q := 3) n82_48 rfl (by decide) (by decide) ?_
  refine am_e_aload_n n82_49 rfl ?_
  refine am_e_getf (v := .ref 193) n82_50 rfl (f164_55 (h := h) hT) ?_
  refine am_e_iconst (w := 4) n82_51 rfl ?_
  refine am_e_iload_n n82_52 rfl ?_
  refine am_e_imul (w := 0) n82_53 (by decide) ?_
  refine am_e_iload_n n82_54 rfl ?_
  refine am_e_iadd (w := 3) n82_55 (by decide) ?_
  refine am_e_iconst (w := 0) n82_56 rfl ?_
  refine am_e_iastore (q := 3) n82_57 rfl (by decide) (by decide) ?_
  refine am_e_iinc (w := 4) (ls' := [(2, .int 4), (0, .ref 164), (1, .int 0)]) n82_58 rfl rfl (by decide) rfl ?_
  refine am_e_goto c82_59 t82_59 ?_
  refine am_e_iload_n n82_28 rfl ?_
  refine am_e_iconst (w := 4) n82_29 rfl ?_
  refine am_e_cmpT n82_30 (am_c_geT (by decide)) t82_30 ?_
  refine am_e_vret c82_60 rfl rfl ?_
  refine am_e_aload_n n81_3 rfl ?_
  refine am_e_iconst (w := 0) n81_4 rfl ?_
  refine am_e_putf n81_5 rfl rfl ?_
  refine am_e_aload_n n81_6 rfl ?_
  refine am_e_iconst (w := 0) n81_7 rfl ?_
  refine am_e_putf n81_8 rfl rfl ?_
  refine am_e_aload_n n81_9 rfl ?_
  refine am_e_iconst (w := 0) n81_10 rfl ?_
  refine am_e_putf n81_11 rfl rfl ?_
  refine am_e_aload_n n81_12 rfl ?_
  refine am_e_iconst (w := (-1)) n81_13 rfl ?_
  refine am_e_putf n81_14 rfl rfl ?_
  refine am_e_aload_n n81_15 rfl ?_
  refine am_e_aload_n n81_16 rfl ?_
  refine am_e_getf (v := .ref 168) n81_17 rfl (f164_23 (h := h) hT) ?_
  refine am_e_iconst (w := 5) n81_18 rfl ?_
  refine am_e_iaload (v := 0) (q := 5) n81_19 rfl (by decide) (by decide) rfl ?_
  refine am_e_i2l (w := 0) n81_20 (by decide) ?_
  refine am_e_putf n81_21 rfl rfl ?_
  refine am_e_aload_n n81_22 rfl ?_
  refine am_e_iconst (w := (-1)) n81_23 rfl ?_
  refine am_e_putf n81_24 rfl rfl ?_
  refine am_e_aload_n n81_25 rfl ?_
  refine am_e_getf (v := .int 0) n81_26 rfl rfl ?_
  refine am_e_ifT n81_27 (am_c_leT (by decide)) t81_27 ?_
  refine am_e_aload_n n81_74 rfl ?_
  refine am_e_iconst (w := 0) n81_75 rfl ?_
  refine am_e_putf n81_76 rfl rfl ?_
  refine am_e_aload_n n81_77 rfl ?_
  refine am_e_iconst (w := (-1)) n81_78 rfl ?_
  refine am_e_putf n81_79 rfl rfl ?_
  refine am_e_aload_n n81_80 rfl ?_
  refine am_e_iconst (w := 0) n81_81 rfl ?_
  refine am_e_putf n81_82 rfl rfl ?_
  refine am_e_aload_n n81_83 rfl ?_
  refine am_e_iconst (w := 0) n81_84 rfl ?_
  refine am_e_putf n81_85 rfl rfl ?_
  refine am_e_vret c81_86 rfl rfl ?_
  refine am_e_vret c79_99 rfl rfl ?_
  refine am_e_iload_n n85_44 rfl ?_
  refine am_e_iret c85_45 rfl rfl rfl ?_
  refine am_e_cmpT n136_96 (am_c_eqT (by decide)) t136_96 ?_
  exact K _
theorem am_op1_m {lk : List Value → List am_k → am_H → Option am_O} {xs : Nat → Int32} {h : am_H} {Q : Option Value → List am_k → am_H → Prop} {a1 : Int32} {a2 : Int32} {a3 : Int32} {a4 : Int32} {a5 : Int32} (ha : a1 < (0 : Int32)) (hT : am_T h) (hx1 : xs 1 = a1) (hx2 : xs 2 = a2) (hx3 : xs 3 = a3) (hx4 : xs 4 = a4) (hx5 : xs 5 = a5) (K : ∀ h', am_Ek false (am_P1 (some (6, xs)) lk) am_m136 841 [(4, .int 0), (3, .ref 202), (2, .ref 164), (1, .ref 0), (0, .retAddr 0)] [] am_ks0 h' 203 4392 Q) : am_Ek false (am_P1 (some (6, xs)) lk) am_m136 82 [(4, .int 0), (3, .ref 202), (2, .ref 164), (1, .ref 0), (0, .retAddr 0)] [] am_ks0 h 203 4392 Q := by
  refine am_e_aload_n n136_82 rfl ?_
  refine am_e_sload_n n136_83 rfl ?_
  refine am_e_iload n136_84 rfl ?_
  refine am_e_iconst (w := 1) n136_85 rfl ?_
  refine am_e_iadd (w := 1) n136_86 (by decide) ?_
  refine am_e_sald1 n136_87 rfl (by decide) (by decide) hx1 ?_
  refine am_e_callV (L := [(0, .ref 0), (1, .int a1)]) n136_88 rfl rfl rfl rfl rfl rfl rfl rfl ?_
  refine am_e_iload_n n17_0 rfl ?_
  refine am_e_ifT n17_1 (am_c_ltT ha) t17_1 ?_
  refine am_e_bipush (w := (-2)) n17_6 (by decide) ?_
  refine am_e_iret c17_7 rfl rfl rfl ?_
  refine am_e_aload_n n136_89 rfl ?_
  refine am_e_sload_n n136_90 rfl ?_
  refine am_e_iload n136_91 rfl ?_
  refine am_e_iconst (w := 1) n136_92 rfl ?_
  refine am_e_iadd (w := 1) n136_93 (by decide) ?_
  refine am_e_sald1 n136_94 rfl (by decide) (by decide) hx1 ?_
  refine am_e_callV (L := [(0, .ref 164), (1, .int a1)]) n136_95 rfl rfl rfl rfl rfl rfl rfl rfl ?_
  refine am_e_aload_n n85_0 rfl ?_
  refine am_e_iconst (w := 0) n85_1 rfl ?_
  refine am_e_putf n85_2 rfl rfl ?_
  refine am_e_iload_n n85_3 rfl ?_
  refine am_e_ifT n85_4 (am_c_ltT ha) t85_4 ?_
  refine am_e_bipush (w := (-2)) n85_9 (by decide) ?_
  refine am_e_iret c85_10 rfl rfl rfl ?_
  refine am_e_cmpT n136_96 (am_c_eqT (by decide)) t136_96 ?_
  exact K _
theorem am_op1_p {lk : List Value → List am_k → am_H → Option am_O} {xs : Nat → Int32} {h : am_H} {Q : Option Value → List am_k → am_H → Prop} {a1 : Int32} {a2 : Int32} {a3 : Int32} {a4 : Int32} {a5 : Int32} (hb : ¬ a1 < (0 : Int32)) (ha : (0 : Int32) < a1) (hT : am_T h) (hx1 : xs 1 = a1) (hx2 : xs 2 = a2) (hx3 : xs 3 = a3) (hx4 : xs 4 = a4) (hx5 : xs 5 = a5) (K : ∀ h', am_Ek false (am_P1 (some (6, xs)) lk) am_m136 841 [(4, .int 0), (3, .ref 202), (2, .ref 164), (1, .ref 0), (0, .retAddr 0)] [] am_ks0 h' 203 4392 Q) : am_Ek false (am_P1 (some (6, xs)) lk) am_m136 82 [(4, .int 0), (3, .ref 202), (2, .ref 164), (1, .ref 0), (0, .retAddr 0)] [] am_ks0 h 203 4392 Q := by
  refine am_e_aload_n n136_82 rfl ?_
  refine am_e_sload_n n136_83 rfl ?_
  refine am_e_iload n136_84 rfl ?_
  refine am_e_iconst (w := 1) n136_85 rfl ?_
  refine am_e_iadd (w := 1) n136_86 (by decide) ?_
  refine am_e_sald1 n136_87 rfl (by decide) (by decide) hx1 ?_
  refine am_e_callV (L := [(0, .ref 0), (1, .int a1)]) n136_88 rfl rfl rfl rfl rfl rfl rfl rfl ?_
  refine am_e_iload_n n17_0 rfl ?_
  refine am_e_ifF n17_1 (am_c_ltF hb) ?_
  refine am_e_iload_n n17_2 rfl ?_
  refine am_e_aload_n n17_3 rfl ?_
  refine am_e_getf (v := .int 0) n17_4 rfl (f0_1 (h := h) hT) ?_
  refine am_e_cmpF n17_5 (am_c_leF ha) ?_
  refine am_e_bipush (w := (-2)) n17_6 (by decide) ?_
  refine am_e_iret c17_7 rfl rfl rfl ?_
  refine am_e_aload_n n136_89 rfl ?_
  refine am_e_sload_n n136_90 rfl ?_
  refine am_e_iload n136_91 rfl ?_
  refine am_e_iconst (w := 1) n136_92 rfl ?_
  refine am_e_iadd (w := 1) n136_93 (by decide) ?_
  refine am_e_sald1 n136_94 rfl (by decide) (by decide) hx1 ?_
  refine am_e_callV (L := [(0, .ref 164), (1, .int a1)]) n136_95 rfl rfl rfl rfl rfl rfl rfl rfl ?_
  refine am_e_aload_n n85_0 rfl ?_
  refine am_e_iconst (w := 0) n85_1 rfl ?_
  refine am_e_putf n85_2 rfl rfl ?_
  refine am_e_iload_n n85_3 rfl ?_
  refine am_e_ifF n85_4 (am_c_ltF hb) ?_
  refine am_e_iload_n n85_5 rfl ?_
  refine am_e_aload_n n85_6 rfl ?_
  refine am_e_getf (v := .int 0) n85_7 rfl (f164_1 (h := h) hT) ?_
  refine am_e_cmpF n85_8 (am_c_leF ha) ?_
  refine am_e_bipush (w := (-2)) n85_9 (by decide) ?_
  refine am_e_iret c85_10 rfl rfl rfl ?_
  refine am_e_cmpT n136_96 (am_c_eqT (by decide)) t136_96 ?_
  exact K _
