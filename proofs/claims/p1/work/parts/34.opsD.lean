theorem am_op0 {lk : List Value → List am_k → am_H → Option am_O} {xs : Nat → Int32} {h : am_H} {Q : Option Value → List am_k → am_H → Prop} {a1 : Int32} {a2 : Int32} {a3 : Int32} {a4 : Int32} {a5 : Int32} (hT : am_T h) (hx1 : xs 1 = a1) (hx2 : xs 2 = a2) (hx3 : xs 3 = a3) (hx4 : xs 4 = a4) (hx5 : xs 5 = a5) (K : ∀ h', am_Ek false (am_P1 (some (6, xs)) lk) am_m136 841 [(4, .int 0), (3, .ref 202), (2, .ref 164), (1, .ref 0), (0, .retAddr 0)] [] am_ks0 h' 203 4392 Q) : am_Ek false (am_P1 (some (6, xs)) lk) am_m136 25 [(4, .int 0), (3, .ref 202), (2, .ref 164), (1, .ref 0), (0, .retAddr 0)] [] am_ks0 h 203 4392 Q := by
  refine am_e_aload_n n136_25 rfl ?_
  refine am_e_sload_n n136_26 rfl ?_
  refine am_e_iload n136_27 rfl ?_
  refine am_e_iconst (w := 1) n136_28 rfl ?_
  refine am_e_iadd (w := 1) n136_29 (by decide) ?_
  refine am_e_sald1 n136_30 rfl (by decide) (by decide) hx1 ?_
  refine am_e_sload_n n136_31 rfl ?_
  refine am_e_iload n136_32 rfl ?_
  refine am_e_iconst (w := 2) n136_33 rfl ?_
  refine am_e_iadd (w := 2) n136_34 (by decide) ?_
  refine am_e_sald1 n136_35 rfl (by decide) (by decide) hx2 ?_
  refine am_e_sload_n n136_36 rfl ?_
  refine am_e_iload n136_37 rfl ?_
  refine am_e_iconst (w := 3) n136_38 rfl ?_
  refine am_e_iadd (w := 3) n136_39 (by decide) ?_
  refine am_e_sald1 n136_40 rfl (by decide) (by decide) hx3 ?_
  refine am_e_sload_n n136_41 rfl ?_
  refine am_e_iload n136_42 rfl ?_
  refine am_e_iconst (w := 4) n136_43 rfl ?_
  refine am_e_iadd (w := 4) n136_44 (by decide) ?_
  refine am_e_sald1 n136_45 rfl (by decide) (by decide) hx4 ?_
  refine am_e_sload_n n136_46 rfl ?_
  refine am_e_iload n136_47 rfl ?_
  refine am_e_iconst (w := 5) n136_48 rfl ?_
  refine am_e_iadd (w := 5) n136_49 (by decide) ?_
  refine am_e_sald1 n136_50 rfl (by decide) (by decide) hx5 ?_
  refine am_e_callV (L := [(0, .ref 0), (1, .int a1), (2, .int a2), (3, .int a3), (4, .int a4), (5, .int a5)]) n136_51 rfl rfl rfl rfl rfl rfl rfl rfl ?_
  refine am_e_aload_n n15_0 rfl ?_
  refine am_e_getf (v := .int 0) n15_1 rfl (f0_1 (h := h) hT) ?_
  refine am_e_sipush (w := 680) n15_2 (by decide) ?_
  refine am_e_cmpT n15_3 (am_c_leT (by decide)) t15_3 ?_
  refine am_e_aload_n n15_6 rfl ?_
  refine am_e_iload_n n15_7 rfl ?_
  refine am_e_callV (L := [(0, .ref 0), (1, .int a1)]) n15_8 rfl rfl rfl rfl rfl rfl rfl rfl ?_
  refine am_e_bipush (w := 24) n16_0 (by decide) ?_
  refine am_e_istore_n (ls' := [(2, .int 24), (0, .ref 0), (1, .int a1)]) n16_1 rfl rfl ?_
  refine am_e_iload_n n16_2 rfl ?_
  refine am_e_ifF n16_3 (am_c_ltF (by decide)) ?_
  refine am_e_aload_n n16_4 rfl ?_
  refine am_e_getf (v := .int 0) n16_5 rfl (f0_1 (h := h) hT) ?_
  refine am_e_sipush (w := 700) n16_6 (by decide) ?_
  refine am_e_cmpF n16_7 (am_c_geF (by decide)) ?_
  refine am_e_aload_n n16_8 rfl ?_
  refine am_e_getf (v := .ref 1) n16_9 rfl (f0_0 (h := h) hT) ?_
  refine am_e_aload_n n16_10 rfl ?_
  refine am_e_getf (v := .int 0) n16_11 rfl (f0_1 (h := h) hT) ?_
  refine am_e_iload_n n16_12 rfl ?_
  refine am_e_iload_n n16_13 rfl ?_
  refine am_e_iushr (w := ((a1.toUInt32 >>> ((24 : Int32).toUInt32 &&& Int32.toUInt32 31)).toInt32)) n16_14 rfl ?_
  refine am_e_sipush (w := 255) n16_15 (by decide) ?_
  refine am_e_iand (w := (((a1.toUInt32 >>> ((24 : Int32).toUInt32 &&& Int32.toUInt32 31)).toInt32) &&& 255)) n16_16 rfl ?_
  refine am_e_iastore (q := 0) n16_17 rfl (by decide) (by decide) ?_
  refine am_e_aload_n n16_18 rfl ?_
  refine am_e_dup n16_19 rfl ?_
  refine am_e_getf (v := .int 0) n16_20 rfl (f0_1 (h := h) hT) ?_
  refine am_e_iconst (w := 1) n16_21 rfl ?_
  refine am_e_iadd (w := 1) n16_22 (by decide) ?_
  refine am_e_putf n16_23 rfl rfl ?_
  refine am_e_iinc (w := 16) (ls' := [(2, .int 16), (0, .ref 0), (1, .int a1)]) n16_24 rfl rfl (by decide) rfl ?_
  refine am_e_goto c16_25 t16_25 ?_
  refine am_e_iload_n n16_2 rfl ?_
  refine am_e_ifF n16_3 (am_c_ltF (by decide)) ?_
  refine am_e_aload_n n16_4 rfl ?_
  refine am_e_getf (v := .int 1) n16_5 rfl rfl ?_
  refine am_e_sipush (w := 700) n16_6 (by decide) ?_
  refine am_e_cmpF n16_7 (am_c_geF (by decide)) ?_
  refine am_e_aload_n n16_8 rfl ?_
  refine am_e_getf (v := .ref 1) n16_9 rfl (f0_0 (h := h) hT) ?_
  refine am_e_aload_n n16_10 rfl ?_
  refine am_e_getf (v := .int 1) n16_11 rfl rfl ?_
  refine am_e_iload_n n16_12 rfl ?_
  refine am_e_iload_n n16_13 rfl ?_
  refine am_e_iushr (w := ((a1.toUInt32 >>> ((16 : Int32).toUInt32 &&& Int32.toUInt32 31)).toInt32)) n16_14 rfl ?_
  refine am_e_sipush (w := 255) n16_15 (by decide) ?_
  refine am_e_iand (w := (((a1.toUInt32 >>> ((16 : Int32).toUInt32 &&& Int32.toUInt32 31)).toInt32) &&& 255)) n16_16 rfl ?_
  refine am_e_iastore (q := 1) n16_17 rfl (by decide) (by decide) ?_
  refine am_e_aload_n n16_18 rfl ?_
  refine am_e_dup n16_19 rfl ?_
  refine am_e_getf (v := .int 1) n16_20 rfl rfl ?_
  refine am_e_iconst (w := 1) n16_21 rfl ?_
  refine am_e_iadd (w := 2) n16_22 (by decide) ?_
  refine am_e_putf n16_23 rfl rfl ?_
  refine am_e_iinc (w := 8) (ls' := [(2, .int 8), (0, .ref 0), (1, .int a1)]) n16_24 rfl rfl (by decide) rfl ?_
  refine am_e_goto c16_25 t16_25 ?_
  refine am_e_iload_n n16_2 rfl ?_
  refine am_e_ifF n16_3 (am_c_ltF (by decide)) ?_
  refine am_e_aload_n n16_4 rfl ?_
  refine am_e_getf (v := .int 2) n16_5 rfl rfl ?_
  refine am_e_sipush (w := 700) n16_6 (by decide) ?_
  refine am_e_cmpF n16_7 (am_c_geF (by decide)) ?_
  refine am_e_aload_n n16_8 rfl ?_
  refine am_e_getf (v := .ref 1) n16_9 rfl (f0_0 (h := h) hT) ?_
  refine am_e_aload_n n16_10 rfl ?_
  refine am_e_getf (v := .int 2) n16_11 rfl rfl ?_
  refine am_e_iload_n n16_12 rfl ?_
  refine am_e_iload_n n16_13 rfl ?_
  refine am_e_iushr (w := ((a1.toUInt32 >>> ((8 : Int32).toUInt32 &&& Int32.toUInt32 31)).toInt32)) n16_14 rfl ?_
  refine am_e_sipush (w := 255) n16_15 (by decide) ?_
  refine am_e_iand (w := (((a1.toUInt32 >>> ((8 : Int32).toUInt32 &&& Int32.toUInt32 31)).toInt32) &&& 255)) n16_16 rfl ?_
  refine am_e_iastore (q := 2) n16_17 rfl (by decide) (by decide) ?_
  refine am_e_aload_n n16_18 rfl ?_
  refine am_e_dup n16_19 rfl ?_
  refine am_e_getf (v := .int 2) n16_20 rfl rfl ?_
  refine am_e_iconst (w := 1) n16_21 rfl ?_
  refine am_e_iadd (w := 3) n16_22 (by decide) ?_
  refine am_e_putf n16_23 rfl rfl ?_
  refine am_e_iinc (w := 0) (ls' := [(2, .int 0), (0, .ref 0), (1, .int a1)]) n16_24 rfl rfl (by decide) rfl ?_
  refine am_e_goto c16_25 t16_25 ?_
  refine am_e_iload_n n16_2 rfl ?_
  refine am_e_ifF n16_3 (am_c_ltF (by decide)) ?_
  refine am_e_aload_n n16_4 rfl ?_
  refine am_e_getf (v := .int 3) n16_5 rfl rfl ?_
  refine am_e_sipush (w := 700) n16_6 (by decide) ?_
  refine am_e_cmpF n16_7 (am_c_geF (by decide)) ?_
  refine am_e_aload_n n16_8 rfl ?_
  refine am_e_getf (v := .ref 1) n16_9 rfl (f0_0 (h := h) hT) ?_
  refine am_e_aload_n n16_10 rfl ?_
  refine am_e_getf (v := .int 3) n16_11 rfl rfl ?_
  refine am_e_iload_n n16_12 rfl ?_
  refine am_e_iload_n n16_13 rfl ?_
  refine am_e_iushr (w := ((a1.toUInt32 >>> ((0 : Int32).toUInt32 &&& Int32.toUInt32 31)).toInt32)) n16_14 rfl ?_
  refine am_e_sipush (w := 255) n16_15 (by decide) ?_
  refine am_e_iand (w := (((a1.toUInt32 >>> ((0 : Int32).toUInt32 &&& Int32.toUInt32 31)).toInt32) &&& 255)) n16_16 rfl ?_
  refine am_e_iastore (q := 3) n16_17 rfl (by decide) (by decide) ?_
  refine am_e_aload_n n16_18 rfl ?_
  refine am_e_dup n16_19 rfl ?_
  refine am_e_getf (v := .int 3) n16_20 rfl rfl ?_
  refine am_e_iconst (w := 1) n16_21 rfl ?_
  refine am_e_iadd (w := 4) n16_22 (by decide) ?_
  refine am_e_putf n16_23 rfl rfl ?_
  refine am_e_iinc (w := (-8)) (ls' := [(2, .int (-8)), (0, .ref 0), (1, .int a1)]) n16_24 rfl rfl (by decide) rfl ?_
  refine am_e_goto c16_25 t16_25 ?_
  refine am_e_iload_n n16_2 rfl ?_
  refine am_e_ifT n16_3 (am_c_ltT (by decide)) t16_3 ?_
  refine am_e_vret c16_26 rfl rfl ?_
  refine am_e_aload_n n15_9 rfl ?_
  refine am_e_iload_n n15_10 rfl ?_
  refine am_e_callV (L := [(0, .ref 0), (1, .int a2)]) n15_11 rfl rfl rfl rfl rfl rfl rfl rfl ?_
  refine am_e_bipush (w := 24) n16_0 (by decide) ?_
  refine am_e_istore_n (ls' := [(2, .int 24), (0, .ref 0), (1, .int a2)]) n16_1 rfl rfl ?_
  refine am_e_iload_n n16_2 rfl ?_
  refine am_e_ifF n16_3 (am_c_ltF (by decide)) ?_
  refine am_e_aload_n n16_4 rfl ?_
  refine am_e_getf (v := .int 4) n16_5 rfl rfl ?_
  refine am_e_sipush (w := 700) n16_6 (by decide) ?_
  refine am_e_cmpF n16_7 (am_c_geF (by decide)) ?_
  refine am_e_aload_n n16_8 rfl ?_
  refine am_e_getf (v := .ref 1) n16_9 rfl (f0_0 (h := h) hT) ?_
  refine am_e_aload_n n16_10 rfl ?_
  refine am_e_getf (v := .int 4) n16_11 rfl rfl ?_
  refine am_e_iload_n n16_12 rfl ?_
  refine am_e_iload_n n16_13 rfl ?_
  refine am_e_iushr (w := ((a2.toUInt32 >>> ((24 : Int32).toUInt32 &&& Int32.toUInt32 31)).toInt32)) n16_14 rfl ?_
  refine am_e_sipush (w := 255) n16_15 (by decide) ?_
  refine am_e_iand (w := (((a2.toUInt32 >>> ((24 : Int32).toUInt32 &&& Int32.toUInt32 31)).toInt32) &&& 255)) n16_16 rfl ?_
  refine am_e_iastore (q := 4) n16_17 rfl (by decide) (by decide) ?_
  refine am_e_aload_n n16_18 rfl ?_
  refine am_e_dup n16_19 rfl ?_
  refine am_e_getf (v := .int 4) n16_20 rfl rfl ?_
  refine am_e_iconst (w := 1) n16_21 rfl ?_
  refine am_e_iadd (w := 5) n16_22 (by decide) ?_
  refine am_e_putf n16_23 rfl rfl ?_
  refine am_e_iinc (w := 16) (ls' := [(2, .int 16), (0, .ref 0), (1, .int a2)]) n16_24 rfl rfl (by decide) rfl ?_
  refine am_e_goto c16_25 t16_25 ?_
  refine am_e_iload_n n16_2 rfl ?_
  refine am_e_ifF n16_3 (am_c_ltF (by decide)) ?_
  refine am_e_aload_n n16_4 rfl ?_
  refine am_e_getf (v := .int 5) n16_5 rfl rfl ?_
  refine am_e_sipush (w := 700) n16_6 (by decide) ?_
  refine am_e_cmpF n16_7 (am_c_geF (by decide)) ?_
  refine am_e_aload_n n16_8 rfl ?_
  refine am_e_getf (v := .ref 1) n16_9 rfl (f0_0 (h := h) hT) ?_
  refine am_e_aload_n n16_10 rfl ?_
  refine am_e_getf (v := .int 5) n16_11 rfl rfl ?_
  refine am_e_iload_n n16_12 rfl ?_
  refine am_e_iload_n n16_13 rfl ?_
  refine am_e_iushr (w := ((a2.toUInt32 >>> ((16 : Int32).toUInt32 &&& Int32.toUInt32 31)).toInt32)) n16_14 rfl ?_
  refine am_e_sipush (w := 255) n16_15 (by decide) ?_
  refine am_e_iand (w := (((a2.toUInt32 >>> ((16 : Int32).toUInt32 &&& Int32.toUInt32 31)).toInt32) &&& 255)) n16_16 rfl ?_
  refine am_e_iastore (q := 5) n16_17 rfl (by decide) (by decide) ?_
  refine am_e_aload_n n16_18 rfl ?_
  refine am_e_dup n16_19 rfl ?_
  refine am_e_getf (v := .int 5) n16_20 rfl rfl ?_
  refine am_e_iconst (w := 1) n16_21 rfl ?_
  refine am_e_iadd (w := 6) n16_22 (by decide) ?_
  refine am_e_putf n16_23 rfl rfl ?_
  refine am_e_iinc (w := 8) (ls' := [(2, .int 8), (0, .ref 0), (1, .int a2)]) n16_24 rfl rfl (by decide) rfl ?_
  refine am_e_goto c16_25 t16_25 ?_
  refine am_e_iload_n n16_2 rfl ?_
  refine am_e_ifF n16_3 (am_c_ltF (by decide)) ?_
  refine am_e_aload_n n16_4 rfl ?_
  refine am_e_getf (v := .int 6) n16_5 rfl rfl ?_
  refine am_e_sipush (w := 700) n16_6 (by decide) ?_
  refine am_e_cmpF n16_7 (am_c_geF (by decide)) ?_
  refine am_e_aload_n n16_8 rfl ?_
  refine am_e_getf (v := .ref 1) n16_9 rfl (f0_0 (h := h) hT) ?_
  refine am_e_aload_n n16_10 rfl ?_
  refine am_e_getf (v := .int 6) n16_11 rfl rfl ?_
  refine am_e_iload_n n16_12 rfl ?_
  refine am_e_iload_n n16_13 rfl ?_
  refine am_e_iushr (w := ((a2.toUInt32 >>> ((8 : Int32).toUInt32 &&& Int32.toUInt32 31)).toInt32)) n16_14 rfl ?_
  refine am_e_sipush (w := 255) n16_15 (by decide) ?_
  refine am_e_iand (w := (((a2.toUInt32 >>> ((8 : Int32).toUInt32 &&& Int32.toUInt32 31)).toInt32) &&& 255)) n16_16 rfl ?_
  refine am_e_iastore (q := 6) n16_17 rfl (by decide) (by decide) ?_
  refine am_e_aload_n n16_18 rfl ?_
  refine am_e_dup n16_19 rfl ?_
  refine am_e_getf (v := .int 6) n16_20 rfl rfl ?_
  refine am_e_iconst (w := 1) n16_21 rfl ?_
  refine am_e_iadd (w := 7) n16_22 (by decide) ?_
  refine am_e_putf n16_23 rfl rfl ?_
  refine am_e_iinc (w := 0) (ls' := [(2, .int 0), (0, .ref 0), (1, .int a2)]) n16_24 rfl rfl (by decide) rfl ?_
  refine am_e_goto c16_25 t16_25 ?_
  refine am_e_iload_n n16_2 rfl ?_
  refine am_e_ifF n16_3 (am_c_ltF (by decide)) ?_
  refine am_e_aload_n n16_4 rfl ?_
  refine am_e_getf (v := .int 7) n16_5 rfl rfl ?_
  refine am_e_sipush (w := 700) n16_6 (by decide) ?_
  refine am_e_cmpF n16_7 (am_c_geF (by decide)) ?_
  refine am_e_aload_n n16_8 rfl ?_
  refine am_e_getf (v := .ref 1) n16_9 rfl (f0_0 (h := h) hT) ?_
  refine am_e_aload_n n16_10 rfl ?_
  refine am_e_getf (v := .int 7) n16_11 rfl rfl ?_
  refine am_e_iload_n n16_12 rfl ?_
  refine am_e_iload_n n16_13 rfl ?_
  refine am_e_iushr (w := ((a2.toUInt32 >>> ((0 : Int32).toUInt32 &&& Int32.toUInt32 31)).toInt32)) n16_14 rfl ?_
  refine am_e_sipush (w := 255) n16_15 (by decide) ?_
  refine am_e_iand (w := (((a2.toUInt32 >>> ((0 : Int32).toUInt32 &&& Int32.toUInt32 31)).toInt32) &&& 255)) n16_16 rfl ?_
  refine am_e_iastore (q := 7) n16_17 rfl (by decide) (by decide) ?_
  refine am_e_aload_n n16_18 rfl ?_
  refine am_e_dup n16_19 rfl ?_
  refine am_e_getf (v := .int 7) n16_20 rfl rfl ?_
  refine am_e_iconst (w := 1) n16_21 rfl ?_
  refine am_e_iadd (w := 8) n16_22 (by decide) ?_
  refine am_e_putf n16_23 rfl rfl ?_
  refine am_e_iinc (w := (-8)) (ls' := [(2, .int (-8)), (0, .ref 0), (1, .int a2)]) n16_24 rfl rfl (by decide) rfl ?_
  refine am_e_goto c16_25 t16_25 ?_
  refine am_e_iload_n n16_2 rfl ?_
  refine am_e_ifT n16_3 (am_c_ltT (by decide)) t16_3 ?_
  refine am_e_vret c16_26 rfl rfl ?_
  refine am_e_aload_n n15_12 rfl ?_
  refine am_e_iload_n n15_13 rfl ?_
  refine am_e_callV (L := [(0, .ref 0), (1, .int a3)]) n15_14 rfl rfl rfl rfl rfl rfl rfl rfl ?_
  refine am_e_bipush (w := 24) n16_0 (by decide) ?_
  refine am_e_istore_n (ls' := [(2, .int 24), (0, .ref 0), (1, .int a3)]) n16_1 rfl rfl ?_
  refine am_e_iload_n n16_2 rfl ?_
  refine am_e_ifF n16_3 (am_c_ltF (by decide)) ?_
  refine am_e_aload_n n16_4 rfl ?_
  refine am_e_getf (v := .int 8) n16_5 rfl rfl ?_
  refine am_e_sipush (w := 700) n16_6 (by decide) ?_
  refine am_e_cmpF n16_7 (am_c_geF (by decide)) ?_
  refine am_e_aload_n n16_8 rfl ?_
  refine am_e_getf (v := .ref 1) n16_9 rfl (f0_0 (h := h) hT) ?_
  refine am_e_aload_n n16_10 rfl ?_
  refine am_e_getf (v := .int 8) n16_11 rfl rfl ?_
  refine am_e_iload_n n16_12 rfl ?_
  refine am_e_iload_n n16_13 rfl ?_
  refine am_e_iushr (w := ((a3.toUInt32 >>> ((24 : Int32).toUInt32 &&& Int32.toUInt32 31)).toInt32)) n16_14 rfl ?_
  refine am_e_sipush (w := 255) n16_15 (by decide) ?_
  refine am_e_iand (w := (((a3.toUInt32 >>> ((24 : Int32).toUInt32 &&& Int32.toUInt32 31)).toInt32) &&& 255)) n16_16 rfl ?_
  refine am_e_iastore (q := 8) n16_17 rfl (by decide) (by decide) ?_
  refine am_e_aload_n n16_18 rfl ?_
  refine am_e_dup n16_19 rfl ?_
  refine am_e_getf (v := .int 8) n16_20 rfl rfl ?_
  refine am_e_iconst (w := 1) n16_21 rfl ?_
  refine am_e_iadd (w := 9) n16_22 (by decide) ?_
  refine am_e_putf n16_23 rfl rfl ?_
  refine am_e_iinc (w := 16) (ls' := [(2, .int 16), (0, .ref 0), (1, .int a3)]) n16_24 rfl rfl (by decide) rfl ?_
  refine am_e_goto c16_25 t16_25 ?_
  refine am_e_iload_n n16_2 rfl ?_
  refine am_e_ifF n16_3 (am_c_ltF (by decide)) ?_
  refine am_e_aload_n n16_4 rfl ?_
  refine am_e_getf (v := .int 9) n16_5 rfl rfl ?_
  refine am_e_sipush (w := 700) n16_6 (by decide) ?_
  refine am_e_cmpF n16_7 (am_c_geF (by decide)) ?_
  refine am_e_aload_n n16_8 rfl ?_
  refine am_e_getf (v := .ref 1) n16_9 rfl (f0_0 (h := h) hT) ?_
  refine am_e_aload_n n16_10 rfl ?_
  refine am_e_getf (v := .int 9) n16_11 rfl rfl ?_
  refine am_e_iload_n n16_12 rfl ?_
  refine am_e_iload_n n16_13 rfl ?_
  refine am_e_iushr (w := ((a3.toUInt32 >>> ((16 : Int32).toUInt32 &&& Int32.toUInt32 31)).toInt32)) n16_14 rfl ?_
  refine am_e_sipush (w := 255) n16_15 (by decide) ?_
  refine am_e_iand (w := (((a3.toUInt32 >>> ((16 : Int32).toUInt32 &&& Int32.toUInt32 31)).toInt32) &&& 255)) n16_16 rfl ?_
  refine am_e_iastore (q := 9) n16_17 rfl (by decide) (by decide) ?_
  refine am_e_aload_n n16_18 rfl ?_
  refine am_e_dup n16_19 rfl ?_
  refine am_e_getf (v := .int 9) n16_20 rfl rfl ?_
  refine am_e_iconst (w := 1) n16_21 rfl ?_
  refine am_e_iadd (w := 10) n16_22 (by decide) ?_
  refine am_e_putf n16_23 rfl rfl ?_
  refine am_e_iinc (w := 8) (ls' := [(2, .int 8), (0, .ref 0), (1, .int a3)]) n16_24 rfl rfl (by decide) rfl ?_
  refine am_e_goto c16_25 t16_25 ?_
  refine am_e_iload_n n16_2 rfl ?_
  refine am_e_ifF n16_3 (am_c_ltF (by decide)) ?_
  refine am_e_aload_n n16_4 rfl ?_
  refine am_e_getf (v := .int 10) n16_5 rfl rfl ?_
  refine am_e_sipush (w := 700) n16_6 (by decide) ?_
  refine am_e_cmpF n16_7 (am_c_geF (by decide)) ?_
  refine am_e_aload_n n16_8 rfl ?_
  refine am_e_getf (v := .ref 1) n16_9 rfl (f0_0 (h := h) hT) ?_
  refine am_e_aload_n n16_10 rfl ?_
  refine am_e_getf (v := .int 10) n16_11 rfl rfl ?_
  refine am_e_iload_n n16_12 rfl ?_
  refine am_e_iload_n n16_13 rfl ?_
  refine am_e_iushr (w := ((a3.toUInt32 >>> ((8 : Int32).toUInt32 &&& Int32.toUInt32 31)).toInt32)) n16_14 rfl ?_
  refine am_e_sipush (w := 255) n16_15 (by decide) ?_
  refine am_e_iand (w := (((a3.toUInt32 >>> ((8 : Int32).toUInt32 &&& Int32.toUInt32 31)).toInt32) &&& 255)) n16_16 rfl ?_
  refine am_e_iastore (q := 10) n16_17 rfl (by decide) (by decide) ?_
  refine am_e_aload_n n16_18 rfl ?_
  refine am_e_dup n16_19 rfl ?_
  refine am_e_getf (v := .int 10) n16_20 rfl rfl ?_
  refine am_e_iconst (w := 1) n16_21 rfl ?_
  refine am_e_iadd (w := 11) n16_22 (by decide) ?_
  refine am_e_putf n16_23 rfl rfl ?_
  refine am_e_iinc (w := 0) (ls' := [(2, .int 0), (0, .ref 0), (1, .int a3)]) n16_24 rfl rfl (by decide) rfl ?_
  refine am_e_goto c16_25 t16_25 ?_
  refine am_e_iload_n n16_2 rfl ?_
  refine am_e_ifF n16_3 (am_c_ltF (by decide)) ?_
  refine am_e_aload_n n16_4 rfl ?_
  refine am_e_getf (v := .int 11) n16_5 rfl rfl ?_
  refine am_e_sipush (w := 700) n16_6 (by decide) ?_
  refine am_e_cmpF n16_7 (am_c_geF (by decide)) ?_
  refine am_e_aload_n n16_8 rfl ?_
  refine am_e_getf (v := .ref 1) n16_9 rfl (f0_0 (h := h) hT) ?_
  refine am_e_aload_n n16_10 rfl ?_
  refine am_e_getf (v := .int 11) n16_11 rfl rfl ?_
  refine am_e_iload_n n16_12 rfl ?_
  refine am_e_iload_n n16_13 rfl ?_
  refine am_e_iushr (w := ((a3.toUInt32 >>> ((0 : Int32).toUInt32 &&& Int32.toUInt32 31)).toInt32)) n16_14 rfl ?_
  refine am_e_sipush (w := 255) n16_15 (by decide) ?_
  refine am_e_iand (w := (((a3.toUInt32 >>> ((0 : Int32).toUInt32 &&& Int32.toUInt32 31)).toInt32) &&& 255)) n16_16 rfl ?_
  refine am_e_iastore (q := 11) n16_17 rfl (by decide) (by decide) ?_
  refine am_e_aload_n n16_18 rfl ?_
  refine am_e_dup n16_19 rfl ?_
  refine am_e_getf (v := .int 11) n16_20 rfl rfl ?_
  refine am_e_iconst (w := 1) n16_21 rfl ?_
  refine am_e_iadd (w := 12) n16_22 (by decide) ?_
  refine am_e_putf n16_23 rfl rfl ?_
  refine am_e_iinc (w := (-8)) (ls' := [(2, .int (-8)), (0, .ref 0), (1, .int a3)]) n16_24 rfl rfl (by decide) rfl ?_
  refine am_e_goto c16_25 t16_25 ?_
  refine am_e_iload_n n16_2 rfl ?_
  refine am_e_ifT n16_3 (am_c_ltT (by decide)) t16_3 ?_
  refine am_e_vret c16_26 rfl rfl ?_
  refine am_e_aload_n n15_15 rfl ?_
  refine am_e_iload n15_16 rfl ?_
  refine am_e_callV (L := [(0, .ref 0), (1, .int a4)]) n15_17 rfl rfl rfl rfl rfl rfl rfl rfl ?_
  refine am_e_bipush (w := 24) n16_0 (by decide) ?_
  refine am_e_istore_n (ls' := [(2, .int 24), (0, .ref 0), (1, .int a4)]) n16_1 rfl rfl ?_
  refine am_e_iload_n n16_2 rfl ?_
  refine am_e_ifF n16_3 (am_c_ltF (by decide)) ?_
  refine am_e_aload_n n16_4 rfl ?_
  refine am_e_getf (v := .int 12) n16_5 rfl rfl ?_
  refine am_e_sipush (w := 700) n16_6 (by decide) ?_
  refine am_e_cmpF n16_7 (am_c_geF (by decide)) ?_
  refine am_e_aload_n n16_8 rfl ?_
  refine am_e_getf (v := .ref 1) n16_9 rfl (f0_0 (h := h) hT) ?_
  refine am_e_aload_n n16_10 rfl ?_
  refine am_e_getf (v := .int 12) n16_11 rfl rfl ?_
  refine am_e_iload_n n16_12 rfl ?_
  refine am_e_iload_n n16_13 rfl ?_
  refine am_e_iushr (w := ((a4.toUInt32 >>> ((24 : Int32).toUInt32 &&& Int32.toUInt32 31)).toInt32)) n16_14 rfl ?_
  refine am_e_sipush (w := 255) n16_15 (by decide) ?_
  refine am_e_iand (w := (((a4.toUInt32 >>> ((24 : Int32).toUInt32 &&& Int32.toUInt32 31)).toInt32) &&& 255)) n16_16 rfl ?_
  refine am_e_iastore (q := 12) n16_17 rfl (by decide) (by decide) ?_
  refine am_e_aload_n n16_18 rfl ?_
  refine am_e_dup n16_19 rfl ?_
  refine am_e_getf (v := .int 12) n16_20 rfl rfl ?_
  refine am_e_iconst (w := 1) n16_21 rfl ?_
  refine am_e_iadd (w := 13) n16_22 (by decide) ?_
  refine am_e_putf n16_23 rfl rfl ?_
  refine am_e_iinc (w := 16) (ls' := [(2, .int 16), (0, .ref 0), (1, .int a4)]) n16_24 rfl rfl (by decide) rfl ?_
  refine am_e_goto c16_25 t16_25 ?_
  refine am_e_iload_n n16_2 rfl ?_
  refine am_e_ifF n16_3 (am_c_ltF (by decide)) ?_
  refine am_e_aload_n n16_4 rfl ?_
  refine am_e_getf (v := .int 13) n16_5 rfl rfl ?_
  refine am_e_sipush (w := 700) n16_6 (by decide) ?_
  refine am_e_cmpF n16_7 (am_c_geF (by decide)) ?_
  refine am_e_aload_n n16_8 rfl ?_
  refine am_e_getf (v := .ref 1) n16_9 rfl (f0_0 (h := h) hT) ?_
  refine am_e_aload_n n16_10 rfl ?_
  refine am_e_getf (v := .int 13) n16_11 rfl rfl ?_
  refine am_e_iload_n n16_12 rfl ?_
  refine am_e_iload_n n16_13 rfl ?_
  refine am_e_iushr (w := ((a4.toUInt32 >>> ((16 : Int32).toUInt32 &&& Int32.toUInt32 31)).toInt32)) n16_14 rfl ?_
  refine am_e_sipush (w := 255) n16_15 (by decide) ?_
  refine am_e_iand (w := (((a4.toUInt32 >>> ((16 : Int32).toUInt32 &&& Int32.toUInt32 31)).toInt32) &&& 255)) n16_16 rfl ?_
  refine am_e_iastore (q := 13) n16_17 rfl (by decide) (by decide) ?_
  refine am_e_aload_n n16_18 rfl ?_
  refine am_e_dup n16_19 rfl ?_
  refine am_e_getf (v := .int 13) n16_20 rfl rfl ?_
  refine am_e_iconst (w := 1) n16_21 rfl ?_
  refine am_e_iadd (w := 14) n16_22 (by decide) ?_
  refine am_e_putf n16_23 rfl rfl ?_
  refine am_e_iinc (w := 8) (ls' := [(2, .int 8), (0, .ref 0), (1, .int a4)]) n16_24 rfl rfl (by decide) rfl ?_
  refine am_e_goto c16_25 t16_25 ?_
  refine am_e_iload_n n16_2 rfl ?_
  refine am_e_ifF n16_3 (am_c_ltF (by decide)) ?_
  refine am_e_aload_n n16_4 rfl ?_
  refine am_e_getf (v := .int 14) n16_5 rfl rfl ?_
  refine am_e_sipush (w := 700) n16_6 (by decide) ?_
  refine am_e_cmpF n16_7 (am_c_geF (by decide)) ?_
  refine am_e_aload_n n16_8 rfl ?_
  refine am_e_getf (v := .ref 1) n16_9 rfl (f0_0 (h := h) hT) ?_
  refine am_e_aload_n n16_10 rfl ?_
  refine am_e_getf (v := .int 14) n16_11 rfl rfl ?_
  refine am_e_iload_n n16_12 rfl ?_
  refine am_e_iload_n n16_13 rfl ?_
  refine am_e_iushr (w := ((a4.toUInt32 >>> ((8 : Int32).toUInt32 &&& Int32.toUInt32 31)).toInt32)) n16_14 rfl ?_
  refine am_e_sipush (w := 255) n16_15 (by decide) ?_
  refine am_e_iand (w := (((a4.toUInt32 >>> ((8 : Int32).toUInt32 &&& Int32.toUInt32 31)).toInt32) &&& 255)) n16_16 rfl ?_
  refine am_e_iastore (q := 14) n16_17 rfl (by decide) (by decide) ?_
  refine am_e_aload_n n16_18 rfl ?_
  refine am_e_dup n16_19 rfl ?_
  refine am_e_getf (v := .int 14) n16_20 rfl rfl ?_
  refine am_e_iconst (w := 1) n16_21 rfl ?_
  refine am_e_iadd (w := 15) n16_22 (by decide) ?_
  refine am_e_putf n16_23 rfl rfl ?_
  refine am_e_iinc (w := 0) (ls' := [(2, .int 0), (0, .ref 0), (1, .int a4)]) n16_24 rfl rfl (by decide) rfl ?_
  refine am_e_goto c16_25 t16_25 ?_
  refine am_e_iload_n n16_2 rfl ?_
  refine am_e_ifF n16_3 (am_c_ltF (by decide)) ?_
  refine am_e_aload_n n16_4 rfl ?_
  refine am_e_getf (v := .int 15) n16_5 rfl rfl ?_
  refine am_e_sipush (w := 700) n16_6 (by decide) ?_
  refine am_e_cmpF n16_7 (am_c_geF (by decide)) ?_
  refine am_e_aload_n n16_8 rfl ?_
  refine am_e_getf (v := .ref 1) n16_9 rfl (f0_0 (h := h) hT) ?_
  refine am_e_aload_n n16_10 rfl ?_
  refine am_e_getf (v := .int 15) n16_11 rfl rfl ?_
  refine am_e_iload_n n16_12 rfl ?_
  refine am_e_iload_n n16_13 rfl ?_
  refine am_e_iushr (w := ((a4.toUInt32 >>> ((0 : Int32).toUInt32 &&& Int32.toUInt32 31)).toInt32)) n16_14 rfl ?_
  refine am_e_sipush (w := 255) n16_15 (by decide) ?_
  refine am_e_iand (w := (((a4.toUInt32 >>> ((0 : Int32).toUInt32 &&& Int32.toUInt32 31)).toInt32) &&& 255)) n16_16 rfl ?_
  refine am_e_iastore (q := 15) n16_17 rfl (by decide) (by decide) ?_
  refine am_e_aload_n n16_18 rfl ?_
  refine am_e_dup n16_19 rfl ?_
  refine am_e_getf (v := .int 15) n16_20 rfl rfl ?_
  refine am_e_iconst (w := 1) n16_21 rfl ?_
  refine am_e_iadd (w := 16) n16_22 (by decide) ?_
  refine am_e_putf n16_23 rfl rfl ?_
  refine am_e_iinc (w := (-8)) (ls' := [(2, .int (-8)), (0, .ref 0), (1, .int a4)]) n16_24 rfl rfl (by decide) rfl ?_
  refine am_e_goto c16_25 t16_25 ?_
  refine am_e_iload_n n16_2 rfl ?_
  refine am_e_ifT n16_3 (am_c_ltT (by decide)) t16_3 ?_
  refine am_e_vret c16_26 rfl rfl ?_
  refine am_e_aload_n n15_18 rfl ?_
  refine am_e_iload n15_19 rfl ?_
  refine am_e_callV (L := [(0, .ref 0), (1, .int a5)]) n15_20 rfl rfl rfl rfl rfl rfl rfl rfl ?_
  refine am_e_bipush (w := 24) n16_0 (by decide) ?_
  refine am_e_istore_n (ls' := [(2, .int 24), (0, .ref 0), (1, .int a5)]) n16_1 rfl rfl ?_
  refine am_e_iload_n n16_2 rfl ?_
  refine am_e_ifF n16_3 (am_c_ltF (by decide)) ?_
  refine am_e_aload_n n16_4 rfl ?_
  refine am_e_getf (v := .int 16) n16_5 rfl rfl ?_
  refine am_e_sipush (w := 700) n16_6 (by decide) ?_
  refine am_e_cmpF n16_7 (am_c_geF (by decide)) ?_
  refine am_e_aload_n n16_8 rfl ?_
  refine am_e_getf (v := .ref 1) n16_9 rfl (f0_0 (h := h) hT) ?_
  refine am_e_aload_n n16_10 rfl ?_
  refine am_e_getf (v := .int 16) n16_11 rfl rfl ?_
  refine am_e_iload_n n16_12 rfl ?_
  refine am_e_iload_n n16_13 rfl ?_
  refine am_e_iushr (w := ((a5.toUInt32 >>> ((24 : Int32).toUInt32 &&& Int32.toUInt32 31)).toInt32)) n16_14 rfl ?_
  refine am_e_sipush (w := 255) n16_15 (by decide) ?_
  refine am_e_iand (w := (((a5.toUInt32 >>> ((24 : Int32).toUInt32 &&& Int32.toUInt32 31)).toInt32) &&& 255)) n16_16 rfl ?_
  refine am_e_iastore (q := 16) n16_17 rfl (by decide) (by decide) ?_
  refine am_e_aload_n n16_18 rfl ?_
  refine am_e_dup n16_19 rfl ?_
  refine am_e_getf (v := .int 16) n16_20 rfl rfl ?_
  refine am_e_iconst (w := 1) n16_21 rfl ?_
  refine am_e_iadd (w := 17) n16_22 (by decide) ?_
  refine am_e_putf n16_23 rfl rfl ?_
  refine am_e_iinc (w := 16) (ls' := [(2, .int 16), (0, .ref 0), (1, .int a5)]) n16_24 rfl rfl (by decide) rfl ?_
  refine am_e_goto c16_25 t16_25 ?_
  refine am_e_iload_n n16_2 rfl ?_
  refine am_e_ifF n16_3 (am_c_ltF (by decide)) ?_
  refine am_e_aload_n n16_4 rfl ?_
  refine am_e_getf (v := .int 17) n16_5 rfl rfl ?_
  refine am_e_sipush (w := 700) n16_6 (by decide) ?_
  refine am_e_cmpF n16_7 (am_c_geF (by decide)) ?_
  refine am_e_aload_n n16_8 rfl ?_
  refine am_e_getf (v := .ref 1) n16_9 rfl (f0_0 (h := h) hT) ?_
  refine am_e_aload_n n16_10 rfl ?_
  refine am_e_getf (v := .int 17) n16_11 rfl rfl ?_
  refine am_e_iload_n n16_12 rfl ?_
  refine am_e_iload_n n16_13 rfl ?_
  refine am_e_iushr (w := ((a5.toUInt32 >>> ((16 : Int32).toUInt32 &&& Int32.toUInt32 31)).toInt32)) n16_14 rfl ?_
  refine am_e_sipush (w := 255) n16_15 (by decide) ?_
  refine am_e_iand (w := (((a5.toUInt32 >>> ((16 : Int32).toUInt32 &&& Int32.toUInt32 31)).toInt32) &&& 255)) n16_16 rfl ?_
  refine am_e_iastore (q := 17) n16_17 rfl (by decide) (by decide) ?_
  refine am_e_aload_n n16_18 rfl ?_
  refine am_e_dup n16_19 rfl ?_
  refine am_e_getf (v := .int 17) n16_20 rfl rfl ?_
  refine am_e_iconst (w := 1) n16_21 rfl ?_
  refine am_e_iadd (w := 18) n16_22 (by decide) ?_
  refine am_e_putf n16_23 rfl rfl ?_
  refine am_e_iinc (w := 8) (ls' := [(2, .int 8), (0, .ref 0), (1, .int a5)]) n16_24 rfl rfl (by decide) rfl ?_
  refine am_e_goto c16_25 t16_25 ?_
  refine am_e_iload_n n16_2 rfl ?_
  refine am_e_ifF n16_3 (am_c_ltF (by decide)) ?_
  refine am_e_aload_n n16_4 rfl ?_
  refine am_e_getf (v := .int 18) n16_5 rfl rfl ?_
  refine am_e_sipush (w := 700) n16_6 (by decide) ?_
  refine am_e_cmpF n16_7 (am_c_geF (by decide)) ?_
  refine am_e_aload_n n16_8 rfl ?_
  refine am_e_getf (v := .ref 1) n16_9 rfl (f0_0 (h := h) hT) ?_
  refine am_e_aload_n n16_10 rfl ?_
  refine am_e_getf (v := .int 18) n16_11 rfl rfl ?_
  refine am_e_iload_n n16_12 rfl ?_
  refine am_e_iload_n n16_13 rfl ?_
  refine am_e_iushr (w := ((a5.toUInt32 >>> ((8 : Int32).toUInt32 &&& Int32.toUInt32 31)).toInt32)) n16_14 rfl ?_
  refine am_e_sipush (w := 255) n16_15 (by decide) ?_
  refine am_e_iand (w := (((a5.toUInt32 >>> ((8 : Int32).toUInt32 &&& Int32.toUInt32 31)).toInt32) &&& 255)) n16_16 rfl ?_
  refine am_e_iastore (q := 18) n16_17 rfl (by decide) (by decide) ?_
  refine am_e_aload_n n16_18 rfl ?_
  refine am_e_dup n16_19 rfl ?_
  refine am_e_getf (v := .int 18) n16_20 rfl rfl ?_
  refine am_e_iconst (w := 1) n16_21 rfl ?_
  refine am_e_iadd (w := 19) n16_22 (by decide) ?_
  refine am_e_putf n16_23 rfl rfl ?_
  refine am_e_iinc (w := 0) (ls' := [(2, .int 0), (0, .ref 0), (1, .int a5)]) n16_24 rfl rfl (by decide) rfl ?_
  refine am_e_goto c16_25 t16_25 ?_
  refine am_e_iload_n n16_2 rfl ?_
  refine am_e_ifF n16_3 (am_c_ltF (by decide)) ?_
  refine am_e_aload_n n16_4 rfl ?_
  refine am_e_getf (v := .int 19) n16_5 rfl rfl ?_
  refine am_e_sipush (w := 700) n16_6 (by decide) ?_
  refine am_e_cmpF n16_7 (am_c_geF (by decide)) ?_
  refine am_e_aload_n n16_8 rfl ?_
  refine am_e_getf (v := .ref 1) n16_9 rfl (f0_0 (h := h) hT) ?_
  refine am_e_aload_n n16_10 rfl ?_
  refine am_e_getf (v := .int 19) n16_11 rfl rfl ?_
  refine am_e_iload_n n16_12 rfl ?_
  refine am_e_iload_n n16_13 rfl ?_
  refine am_e_iushr (w := ((a5.toUInt32 >>> ((0 : Int32).toUInt32 &&& Int32.toUInt32 31)).toInt32)) n16_14 rfl ?_
  refine am_e_sipush (w := 255) n16_15 (by decide) ?_
  refine am_e_iand (w := (((a5.toUInt32 >>> ((0 : Int32).toUInt32 &&& Int32.toUInt32 31)).toInt32) &&& 255)) n16_16 rfl ?_
  refine am_e_iastore (q := 19) n16_17 rfl (by decide) (by decide) ?_
  refine am_e_aload_n n16_18 rfl ?_
  refine am_e_dup n16_19 rfl ?_
  refine am_e_getf (v := .int 19) n16_20 rfl rfl ?_
  refine am_e_iconst (w := 1) n16_21 rfl ?_
  refine am_e_iadd (w := 20) n16_22 (by decide) ?_
  refine am_e_putf n16_23 rfl rfl ?_
  refine am_e_iinc (w := (-8)) (ls' := [(2, .int (-8)), (0, .ref 0), (1, .int a5)]) n16_24 rfl rfl (by decide) rfl ?_
  refine am_e_goto c16_25 t16_25 ?_
  refine am_e_iload_n n16_2 rfl ?_
  refine am_e_ifT n16_3 (am_c_ltT (by decide)) t16_3 ?_
  refine am_e_vret c16_26 rfl rfl ?_
  refine am_e_aload_n n15_21 rfl ?_
  refine am_e_getf (v := .int 20) n15_22 rfl rfl ?_
  refine am_e_iret c15_23 rfl rfl rfl ?_
  refine am_e_aload_n n136_52 rfl ?_
  refine am_e_sload_n n136_53 rfl ?_
  refine am_e_iload n136_54 rfl ?_
  refine am_e_iconst (w := 1) n136_55 rfl ?_
  refine am_e_iadd (w := 1) n136_56 (by decide) ?_
  refine am_e_sald1 n136_57 rfl (by decide) (by decide) hx1 ?_
  refine am_e_sload_n n136_58 rfl ?_
  refine am_e_iload n136_59 rfl ?_
  refine am_e_iconst (w := 2) n136_60 rfl ?_
  refine am_e_iadd (w := 2) n136_61 (by decide) ?_
  refine am_e_sald1 n136_62 rfl (by decide) (by decide) hx2 ?_
  refine am_e_sload_n n136_63 rfl ?_
  refine am_e_iload n136_64 rfl ?_
  refine am_e_iconst (w := 3) n136_65 rfl ?_
  refine am_e_iadd (w := 3) n136_66 (by decide) ?_
  refine am_e_sald1 n136_67 rfl (by decide) (by decide) hx3 ?_
  refine am_e_sload_n n136_68 rfl ?_
  refine am_e_iload n136_69 rfl ?_
  refine am_e_iconst (w := 4) n136_70 rfl ?_
  refine am_e_iadd (w := 4) n136_71 (by decide) ?_
  refine am_e_sald1 n136_72 rfl (by decide) (by decide) hx4 ?_
  refine am_e_sload_n n136_73 rfl ?_
  refine am_e_iload n136_74 rfl ?_
  refine am_e_iconst (w := 5) n136_75 rfl ?_
  refine am_e_iadd (w := 5) n136_76 (by decide) ?_
  refine am_e_sald1 n136_77 rfl (by decide) (by decide) hx5 ?_
  refine am_e_callV (L := [(0, .ref 164), (1, .int a1), (2, .int a2), (3, .int a3), (4, .int a4), (5, .int a5)]) n136_78 rfl rfl rfl rfl rfl rfl rfl rfl ?_
  refine am_e_aload_n n84_0 rfl ?_
  refine am_e_iconst (w := 0) n84_1 rfl ?_
  refine am_e_putf n84_2 rfl rfl ?_
  refine am_e_aload_n n84_3 rfl ?_
  refine am_e_getf (v := .int 0) n84_4 rfl (f164_1 (h := h) hT) ?_
  refine am_e_bipush (w := 20) n84_5 (by decide) ?_
  refine am_e_iadd (w := 20) n84_6 (by decide) ?_
  refine am_e_sipush (w := 700) n84_7 (by decide) ?_
  refine am_e_cmpT n84_8 (am_c_leT (by decide)) t84_8 ?_
  refine am_e_iconst (w := 0) n84_11 rfl ?_
  refine am_e_istore (ls' := [(6, .int 0), (0, .ref 164), (1, .int a1), (2, .int a2), (3, .int a3), (4, .int a4), (5, .int a5)]) n84_12 rfl rfl ?_
  refine am_e_iload n84_13 rfl ?_
  refine am_e_bipush (w := 20) n84_14 (by decide) ?_
  refine am_e_cmpF n84_15 (am_c_geF (by decide)) ?_
  refine am_e_iload n84_16 rfl ?_
  refine am_e_iconst (w := 4) n84_17 rfl ?_
  refine am_e_cmpF n84_18 (am_c_geF (by decide)) ?_
  refine am_e_iload_n n84_19 rfl ?_
  refine am_e_goto c84_20 t84_20 ?_
  refine am_e_istore (ls' := [(7, .int a1), (6, .int 0), (0, .ref 164), (1, .int a1), (2, .int a2), (3, .int a3), (4, .int a4), (5, .int a5)]) n84_37 rfl rfl ?_
  refine am_e_aload_n n84_38 rfl ?_
  refine am_e_getf (v := .ref 165) n84_39 rfl (f164_0 (h := h) hT) ?_
  refine am_e_aload_n n84_40 rfl ?_
  refine am_e_getf (v := .int 0) n84_41 rfl (f164_1 (h := h) hT) ?_
  refine am_e_iload n84_42 rfl ?_
  refine am_e_iadd (w := 0) n84_43 (by decide) ?_
  refine am_e_iload n84_44 rfl ?_
  refine am_e_bipush (w := 24) n84_45 (by decide) ?_
  refine am_e_bipush (w := 8) n84_46 (by decide) ?_
  refine am_e_iload n84_47 rfl ?_
  refine am_e_iconst (w := 4) n84_48 rfl ?_
  refine am_e_irem (w := 0) n84_49 (by decide) (by decide) ?_
  refine am_e_imul (w := 0) n84_50 (by decide) ?_
  refine am_e_isub (w := 24) n84_51 (by decide) ?_
  refine am_e_ishr (w := (a1 >>> (24 &&& 31))) n84_52 rfl ?_
  refine am_e_sipush (w := 255) n84_53 (by decide) ?_
  refine am_e_iand (w := ((a1 >>> (24 &&& 31)) &&& 255)) n84_54 rfl ?_
  refine am_e_iastore (q := 0) n84_55 rfl (by decide) (by decide) ?_
  refine am_e_iinc (w := 1) (ls' := [(6, .int 1), (7, .int a1), (0, .ref 164), (1, .int a1), (2, .int a2), (3, .int a3), (4, .int a4), (5, .int a5)]) n84_56 rfl rfl (by decide) rfl ?_
  refine am_e_goto c84_57 t84_57 ?_
  refine am_e_iload n84_13 rfl ?_
  refine am_e_bipush (w := 20) n84_14 (by decide) ?_
  refine am_e_cmpF n84_15 (am_c_geF (by decide)) ?_
  refine am_e_iload n84_16 rfl ?_
  refine am_e_iconst (w := 4) n84_17 rfl ?_
  refine am_e_cmpF n84_18 (am_c_geF (by decide)) ?_
  refine am_e_iload_n n84_19 rfl ?_
  refine am_e_goto c84_20 t84_20 ?_
  refine am_e_istore (ls' := [(7, .int a1), (6, .int 1), (0, .ref 164), (1, .int a1), (2, .int a2), (3, .int a3), (4, .int a4), (5, .int a5)]) n84_37 rfl rfl ?_
  refine am_e_aload_n n84_38 rfl ?_
  refine am_e_getf (v := .ref 165) n84_39 rfl (f164_0 (h := h) hT) ?_
  refine am_e_aload_n n84_40 rfl ?_
  refine am_e_getf (v := .int 0) n84_41 rfl (f164_1 (h := h) hT) ?_
  refine am_e_iload n84_42 rfl ?_
  refine am_e_iadd (w := 1) n84_43 (by decide) ?_
  refine am_e_iload n84_44 rfl ?_
  refine am_e_bipush (w := 24) n84_45 (by decide) ?_
  refine am_e_bipush (w := 8) n84_46 (by decide) ?_
  refine am_e_iload n84_47 rfl ?_
  refine am_e_iconst (w := 4) n84_48 rfl ?_
  refine am_e_irem (w := 1) n84_49 (by decide) (by decide) ?_
  refine am_e_imul (w := 8) n84_50 (by decide) ?_
  refine am_e_isub (w := 16) n84_51 (by decide) ?_
  refine am_e_ishr (w := (a1 >>> (16 &&& 31))) n84_52 rfl ?_
  refine am_e_sipush (w := 255) n84_53 (by decide) ?_
  refine am_e_iand (w := ((a1 >>> (16 &&& 31)) &&& 255)) n84_54 rfl ?_
  refine am_e_iastore (q := 1) n84_55 rfl (by decide) (by decide) ?_
  refine am_e_iinc (w := 2) (ls' := [(6, .int 2), (7, .int a1), (0, .ref 164), (1, .int a1), (2, .int a2), (3, .int a3), (4, .int a4), (5, .int a5)]) n84_56 rfl rfl (by decide) rfl ?_
  refine am_e_goto c84_57 t84_57 ?_
  refine am_e_iload n84_13 rfl ?_
  refine am_e_bipush (w := 20) n84_14 (by decide) ?_
  refine am_e_cmpF n84_15 (am_c_geF (by decide)) ?_
  refine am_e_iload n84_16 rfl ?_
  refine am_e_iconst (w := 4) n84_17 rfl ?_
  refine am_e_cmpF n84_18 (am_c_geF (by decide)) ?_
  refine am_e_iload_n n84_19 rfl ?_
  refine am_e_goto c84_20 t84_20 ?_
  refine am_e_istore (ls' := [(7, .int a1), (6, .int 2), (0, .ref 164), (1, .int a1), (2, .int a2), (3, .int a3), (4, .int a4), (5, .int a5)]) n84_37 rfl rfl ?_
  refine am_e_aload_n n84_38 rfl ?_
  refine am_e_getf (v := .ref 165) n84_39 rfl (f164_0 (h := h) hT) ?_
  refine am_e_aload_n n84_40 rfl ?_
  refine am_e_getf (v := .int 0) n84_41 rfl (f164_1 (h := h) hT) ?_
  refine am_e_iload n84_42 rfl ?_
  refine am_e_iadd (w := 2) n84_43 (by decide) ?_
  refine am_e_iload n84_44 rfl ?_
  refine am_e_bipush (w := 24) n84_45 (by decide) ?_
  refine am_e_bipush (w := 8) n84_46 (by decide) ?_
  refine am_e_iload n84_47 rfl ?_
  refine am_e_iconst (w := 4) n84_48 rfl ?_
  refine am_e_irem (w := 2) n84_49 (by decide) (by decide) ?_
  refine am_e_imul (w := 16) n84_50 (by decide) ?_
  refine am_e_isub (w := 8) n84_51 (by decide) ?_
  refine am_e_ishr (w := (a1 >>> (8 &&& 31))) n84_52 rfl ?_
  refine am_e_sipush (w := 255) n84_53 (by decide) ?_
  refine am_e_iand (w := ((a1 >>> (8 &&& 31)) &&& 255)) n84_54 rfl ?_
  refine am_e_iastore (q := 2) n84_55 rfl (by decide) (by decide) ?_
  refine am_e_iinc (w := 3) (ls' := [(6, .int 3), (7, .int a1), (0, .ref 164), (1, .int a1), (2, .int a2), (3, .int a3), (4, .int a4), (5, .int a5)]) n84_56 rfl rfl (by decide) rfl ?_
  refine am_e_goto c84_57 t84_57 ?_
  refine am_e_iload n84_13 rfl ?_
  refine am_e_bipush (w := 20) n84_14 (by decide) ?_
  refine am_e_cmpF n84_15 (am_c_geF (by decide)) ?_
  refine am_e_iload n84_16 rfl ?_
  refine am_e_iconst (w := 4) n84_17 rfl ?_
  refine am_e_cmpF n84_18 (am_c_geF (by decide)) ?_
  refine am_e_iload_n n84_19 rfl ?_
  refine am_e_goto c84_20 t84_20 ?_
  refine am_e_istore (ls' := [(7, .int a1), (6, .int 3), (0, .ref 164), (1, .int a1), (2, .int a2), (3, .int a3), (4, .int a4), (5, .int a5)]) n84_37 rfl rfl ?_
  refine am_e_aload_n n84_38 rfl ?_
  refine am_e_getf (v := .ref 165) n84_39 rfl (f164_0 (h := h) hT) ?_
  refine am_e_aload_n n84_40 rfl ?_
  refine am_e_getf (v := .int 0) n84_41 rfl (f164_1 (h := h) hT) ?_
  refine am_e_iload n84_42 rfl ?_
  refine am_e_iadd (w := 3) n84_43 (by decide) ?_
  refine am_e_iload n84_44 rfl ?_
  refine am_e_bipush (w := 24) n84_45 (by decide) ?_
  refine am_e_bipush (w := 8) n84_46 (by decide) ?_
  refine am_e_iload n84_47 rfl ?_
  refine am_e_iconst (w := 4) n84_48 rfl ?_
  refine am_e_irem (w := 3) n84_49 (by decide) (by decide) ?_
  refine am_e_imul (w := 24) n84_50 (by decide) ?_
  refine am_e_isub (w := 0) n84_51 (by decide) ?_
  refine am_e_ishr (w := (a1 >>> (0 &&& 31))) n84_52 rfl ?_
  refine am_e_sipush (w := 255) n84_53 (by decide) ?_
  refine am_e_iand (w := ((a1 >>> (0 &&& 31)) &&& 255)) n84_54 rfl ?_
  refine am_e_iastore (q := 3) n84_55 rfl (by decide) (by decide) ?_
  refine am_e_iinc (w := 4) (ls' := [(6, .int 4), (7, .int a1), (0, .ref 164), (1, .int a1), (2, .int a2), (3, .int a3), (4, .int a4), (5, .int a5)]) n84_56 rfl rfl (by decide) rfl ?_
  refine am_e_goto c84_57 t84_57 ?_
  refine am_e_iload n84_13 rfl ?_
  refine am_e_bipush (w := 20) n84_14 (by decide) ?_
  refine am_e_cmpF n84_15 (am_c_geF (by decide)) ?_
  refine am_e_iload n84_16 rfl ?_
  refine am_e_iconst (w := 4) n84_17 rfl ?_
  refine am_e_cmpT n84_18 (am_c_geT (by decide)) t84_18 ?_
  refine am_e_iload n84_21 rfl ?_
  refine am_e_bipush (w := 8) n84_22 (by decide) ?_
  refine am_e_cmpF n84_23 (am_c_geF (by decide)) ?_
  refine am_e_iload_n n84_24 rfl ?_
  refine am_e_goto c84_25 t84_25 ?_
  refine am_e_istore (ls' := [(7, .int a2), (6, .int 4), (0, .ref 164), (1, .int a1), (2, .int a2), (3, .int a3), (4, .int a4), (5, .int a5)]) n84_37 rfl rfl ?_
  refine am_e_aload_n n84_38 rfl ?_
  refine am_e_getf (v := .ref 165) n84_39 rfl (f164_0 (h := h) hT) ?_
  refine am_e_aload_n n84_40 rfl ?_
  refine am_e_getf (v := .int 0) n84_41 rfl (f164_1 (h := h) hT) ?_
  refine am_e_iload n84_42 rfl ?_
  refine am_e_iadd (w := 4) n84_43 (by decide) ?_
  refine am_e_iload n84_44 rfl ?_
  refine am_e_bipush (w := 24) n84_45 (by decide) ?_
  refine am_e_bipush (w := 8) n84_46 (by decide) ?_
  refine am_e_iload n84_47 rfl ?_
  refine am_e_iconst (w := 4) n84_48 rfl ?_
  refine am_e_irem (w := 0) n84_49 (by decide) (by decide) ?_
  refine am_e_imul (w := 0) n84_50 (by decide) ?_
  refine am_e_isub (w := 24) n84_51 (by decide) ?_
  refine am_e_ishr (w := (a2 >>> (24 &&& 31))) n84_52 rfl ?_
  refine am_e_sipush (w := 255) n84_53 (by decide) ?_
  refine am_e_iand (w := ((a2 >>> (24 &&& 31)) &&& 255)) n84_54 rfl ?_
  refine am_e_iastore (q := 4) n84_55 rfl (by decide) (by decide) ?_
  refine am_e_iinc (w := 5) (ls' := [(6, .int 5), (7, .int a2), (0, .ref 164), (1, .int a1), (2, .int a2), (3, .int a3), (4, .int a4), (5, .int a5)]) n84_56 rfl rfl (by decide) rfl ?_
  refine am_e_goto c84_57 t84_57 ?_
  refine am_e_iload n84_13 rfl ?_
  refine am_e_bipush (w := 20) n84_14 (by decide) ?_
  refine am_e_cmpF n84_15 (am_c_geF (by decide)) ?_
  refine am_e_iload n84_16 rfl ?_
  refine am_e_iconst (w := 4) n84_17 rfl ?_
  refine am_e_cmpT n84_18 (am_c_geT (by decide)) t84_18 ?_
  refine am_e_iload n84_21 rfl ?_
  refine am_e_bipush (w := 8) n84_22 (by decide) ?_
  refine am_e_cmpF n84_23 (am_c_geF (by decide)) ?_
  refine am_e_iload_n n84_24 rfl ?_
  refine am_e_goto c84_25 t84_25 ?_
  refine am_e_istore (ls' := [(7, .int a2), (6, .int 5), (0, .ref 164), (1, .int a1), (2, .int a2), (3, .int a3), (4, .int a4), (5, .int a5)]) n84_37 rfl rfl ?_
  refine am_e_aload_n n84_38 rfl ?_
  refine am_e_getf (v := .ref 165) n84_39 rfl (f164_0 (h := h) hT) ?_
  refine am_e_aload_n n84_40 rfl ?_
  refine am_e_getf (v := .int 0) n84_41 rfl (f164_1 (h := h) hT) ?_
  refine am_e_iload n84_42 rfl ?_
  refine am_e_iadd (w := 5) n84_43 (by decide) ?_
  refine am_e_iload n84_44 rfl ?_
  refine am_e_bipush (w := 24) n84_45 (by decide) ?_
  refine am_e_bipush (w := 8) n84_46 (by decide) ?_
  refine am_e_iload n84_47 rfl ?_
  refine am_e_iconst (w := 4) n84_48 rfl ?_
  refine am_e_irem (w := 1) n84_49 (by decide) (by decide) ?_
  refine am_e_imul (w := 8) n84_50 (by decide) ?_
  refine am_e_isub (w := 16) n84_51 (by decide) ?_
  refine am_e_ishr (w := (a2 >>> (16 &&& 31))) n84_52 rfl ?_
  refine am_e_sipush (w := 255) n84_53 (by decide) ?_
  refine am_e_iand (w := ((a2 >>> (16 &&& 31)) &&& 255)) n84_54 rfl ?_
  refine am_e_iastore (q := 5) n84_55 rfl (by decide) (by decide) ?_
  refine am_e_iinc (w := 6) (ls' := [(6, .int 6), (7, .int a2), (0, .ref 164), (1, .int a1), (2, .int a2), (3, .int a3), (4, .int a4), (5, .int a5)]) n84_56 rfl rfl (by decide) rfl ?_
  refine am_e_goto c84_57 t84_57 ?_
  refine am_e_iload n84_13 rfl ?_
  refine am_e_bipush (w := 20) n84_14 (by decide) ?_
  refine am_e_cmpF n84_15 (am_c_geF (by decide)) ?_
  refine am_e_iload n84_16 rfl ?_
  refine am_e_iconst (w := 4) n84_17 rfl ?_
  refine am_e_cmpT n84_18 (am_c_geT (by decide)) t84_18 ?_
  refine am_e_iload n84_21 rfl ?_
  refine am_e_bipush (w := 8) n84_22 (by decide) ?_
  refine am_e_cmpF n84_23 (am_c_geF (by decide)) ?_
  refine am_e_iload_n n84_24 rfl ?_
  refine am_e_goto c84_25 t84_25 ?_
  refine am_e_istore (ls' := [(7, .int a2), (6, .int 6), (0, .ref 164), (1, .int a1), (2, .int a2), (3, .int a3), (4, .int a4), (5, .int a5)]) n84_37 rfl rfl ?_
  refine am_e_aload_n n84_38 rfl ?_
  refine am_e_getf (v := .ref 165) n84_39 rfl (f164_0 (h := h) hT) ?_
  refine am_e_aload_n n84_40 rfl ?_
  refine am_e_getf (v := .int 0) n84_41 rfl (f164_1 (h := h) hT) ?_
  refine am_e_iload n84_42 rfl ?_
  refine am_e_iadd (w := 6) n84_43 (by decide) ?_
  refine am_e_iload n84_44 rfl ?_
  refine am_e_bipush (w := 24) n84_45 (by decide) ?_
  refine am_e_bipush (w := 8) n84_46 (by decide) ?_
  refine am_e_iload n84_47 rfl ?_
  refine am_e_iconst (w := 4) n84_48 rfl ?_
  refine am_e_irem (w := 2) n84_49 (by decide) (by decide) ?_
  refine am_e_imul (w := 16) n84_50 (by decide) ?_
  refine am_e_isub (w := 8) n84_51 (by decide) ?_
  refine am_e_ishr (w := (a2 >>> (8 &&& 31))) n84_52 rfl ?_
  refine am_e_sipush (w := 255) n84_53 (by decide) ?_
  refine am_e_iand (w := ((a2 >>> (8 &&& 31)) &&& 255)) n84_54 rfl ?_
  refine am_e_iastore (q := 6) n84_55 rfl (by decide) (by decide) ?_
  refine am_e_iinc (w := 7) (ls' := [(6, .int 7), (7, .int a2), (0, .ref 164), (1, .int a1), (2, .int a2), (3, .int a3), (4, .int a4), (5, .int a5)]) n84_56 rfl rfl (by decide) rfl ?_
  refine am_e_goto c84_57 t84_57 ?_
  refine am_e_iload n84_13 rfl ?_
  refine am_e_bipush (w := 20) n84_14 (by decide) ?_
  refine am_e_cmpF n84_15 (am_c_geF (by decide)) ?_
  refine am_e_iload n84_16 rfl ?_
  refine am_e_iconst (w := 4) n84_17 rfl ?_
  refine am_e_cmpT n84_18 (am_c_geT (by decide)) t84_18 ?_
  refine am_e_iload n84_21 rfl ?_
  refine am_e_bipush (w := 8) n84_22 (by decide) ?_
  refine am_e_cmpF n84_23 (am_c_geF (by decide)) ?_
  refine am_e_iload_n n84_24 rfl ?_
  refine am_e_goto c84_25 t84_25 ?_
  refine am_e_istore (ls' := [(7, .int a2), (6, .int 7), (0, .ref 164), (1, .int a1), (2, .int a2), (3, .int a3), (4, .int a4), (5, .int a5)]) n84_37 rfl rfl ?_
  refine am_e_aload_n n84_38 rfl ?_
  refine am_e_getf (v := .ref 165) n84_39 rfl (f164_0 (h := h) hT) ?_
  refine am_e_aload_n n84_40 rfl ?_
  refine am_e_getf (v := .int 0) n84_41 rfl (f164_1 (h := h) hT) ?_
  refine am_e_iload n84_42 rfl ?_
  refine am_e_iadd (w := 7) n84_43 (by decide) ?_
  refine am_e_iload n84_44 rfl ?_
  refine am_e_bipush (w := 24) n84_45 (by decide) ?_
  refine am_e_bipush (w := 8) n84_46 (by decide) ?_
  refine am_e_iload n84_47 rfl ?_
  refine am_e_iconst (w := 4) n84_48 rfl ?_
  refine am_e_irem (w := 3) n84_49 (by decide) (by decide) ?_
  refine am_e_imul (w := 24) n84_50 (by decide) ?_
  refine am_e_isub (w := 0) n84_51 (by decide) ?_
  refine am_e_ishr (w := (a2 >>> (0 &&& 31))) n84_52 rfl ?_
  refine am_e_sipush (w := 255) n84_53 (by decide) ?_
  refine am_e_iand (w := ((a2 >>> (0 &&& 31)) &&& 255)) n84_54 rfl ?_
  refine am_e_iastore (q := 7) n84_55 rfl (by decide) (by decide) ?_
  refine am_e_iinc (w := 8) (ls' := [(6, .int 8), (7, .int a2), (0, .ref 164), (1, .int a1), (2, .int a2), (3, .int a3), (4, .int a4), (5, .int a5)]) n84_56 rfl rfl (by decide) rfl ?_
  refine am_e_goto c84_57 t84_57 ?_
  refine am_e_iload n84_13 rfl ?_
  refine am_e_bipush (w := 20) n84_14 (by decide) ?_
  refine am_e_cmpF n84_15 (am_c_geF (by decide)) ?_
  refine am_e_iload n84_16 rfl ?_
  refine am_e_iconst (w := 4) n84_17 rfl ?_
  refine am_e_cmpT n84_18 (am_c_geT (by decide)) t84_18 ?_
  refine am_e_iload n84_21 rfl ?_
  refine am_e_bipush (w := 8) n84_22 (by decide) ?_
  refine am_e_cmpT n84_23 (am_c_geT (by decide)) t84_23 ?_
  refine am_e_iload n84_26 rfl ?_
  refine am_e_bipush (w := 12) n84_27 (by decide) ?_
  refine am_e_cmpF n84_28 (am_c_geF (by decide)) ?_
  refine am_e_iload_n n84_29 rfl ?_
  refine am_e_goto c84_30 t84_30 ?_
  refine am_e_istore (ls' := [(7, .int a3), (6, .int 8), (0, .ref 164), (1, .int a1), (2, .int a2), (3, .int a3), (4, .int a4), (5, .int a5)]) n84_37 rfl rfl ?_
  refine am_e_aload_n n84_38 rfl ?_
  refine am_e_getf (v := .ref 165) n84_39 rfl (f164_0 (h := h) hT) ?_
  refine am_e_aload_n n84_40 rfl ?_
  refine am_e_getf (v := .int 0) n84_41 rfl (f164_1 (h := h) hT) ?_
  refine am_e_iload n84_42 rfl ?_
  refine am_e_iadd (w := 8) n84_43 (by decide) ?_
  refine am_e_iload n84_44 rfl ?_
  refine am_e_bipush (w := 24) n84_45 (by decide) ?_
  refine am_e_bipush (w := 8) n84_46 (by decide) ?_
  refine am_e_iload n84_47 rfl ?_
  refine am_e_iconst (w := 4) n84_48 rfl ?_
  refine am_e_irem (w := 0) n84_49 (by decide) (by decide) ?_
  refine am_e_imul (w := 0) n84_50 (by decide) ?_
  refine am_e_isub (w := 24) n84_51 (by decide) ?_
  refine am_e_ishr (w := (a3 >>> (24 &&& 31))) n84_52 rfl ?_
  refine am_e_sipush (w := 255) n84_53 (by decide) ?_
  refine am_e_iand (w := ((a3 >>> (24 &&& 31)) &&& 255)) n84_54 rfl ?_
  refine am_e_iastore (q := 8) n84_55 rfl (by decide) (by decide) ?_
  refine am_e_iinc (w := 9) (ls' := [(6, .int 9), (7, .int a3), (0, .ref 164), (1, .int a1), (2, .int a2), (3, .int a3), (4, .int a4), (5, .int a5)]) n84_56 rfl rfl (by decide) rfl ?_
  refine am_e_goto c84_57 t84_57 ?_
  refine am_e_iload n84_13 rfl ?_
  refine am_e_bipush (w := 20) n84_14 (by decide) ?_
  refine am_e_cmpF n84_15 (am_c_geF (by decide)) ?_
  refine am_e_iload n84_16 rfl ?_
  refine am_e_iconst (w := 4) n84_17 rfl ?_
  refine am_e_cmpT n84_18 (am_c_geT (by decide)) t84_18 ?_
  refine am_e_iload n84_21 rfl ?_
  refine am_e_bipush (w := 8) n84_22 (by decide) ?_
  refine am_e_cmpT n84_23 (am_c_geT (by decide)) t84_23 ?_
  refine am_e_iload n84_26 rfl ?_
  refine am_e_bipush (w := 12) n84_27 (by decide) ?_
  refine am_e_cmpF n84_28 (am_c_geF (by decide)) ?_
  refine am_e_iload_n n84_29 rfl ?_
  refine am_e_goto c84_30 t84_30 ?_
  refine am_e_istore (ls' := [(7, .int a3), (6, .int 9), (0, .ref 164), (1, .int a1), (2, .int a2), (3, .int a3), (4, .int a4), (5, .int a5)]) n84_37 rfl rfl ?_
  refine am_e_aload_n n84_38 rfl ?_
  refine am_e_getf (v := .ref 165) n84_39 rfl (f164_0 (h := h) hT) ?_
  refine am_e_aload_n n84_40 rfl ?_
  refine am_e_getf (v := .int 0) n84_41 rfl (f164_1 (h := h) hT) ?_
  refine am_e_iload n84_42 rfl ?_
  refine am_e_iadd (w := 9) n84_43 (by decide) ?_
  refine am_e_iload n84_44 rfl ?_
  refine am_e_bipush (w := 24) n84_45 (by decide) ?_
  refine am_e_bipush (w := 8) n84_46 (by decide) ?_
  refine am_e_iload n84_47 rfl ?_
  refine am_e_iconst (w := 4) n84_48 rfl ?_
  refine am_e_irem (w := 1) n84_49 (by decide) (by decide) ?_
  refine am_e_imul (w := 8) n84_50 (by decide) ?_
  refine am_e_isub (w := 16) n84_51 (by decide) ?_
  refine am_e_ishr (w := (a3 >>> (16 &&& 31))) n84_52 rfl ?_
  refine am_e_sipush (w := 255) n84_53 (by decide) ?_
  refine am_e_iand (w := ((a3 >>> (16 &&& 31)) &&& 255)) n84_54 rfl ?_
  refine am_e_iastore (q := 9) n84_55 rfl (by decide) (by decide) ?_
  refine am_e_iinc (w := 10) (ls' := [(6, .int 10), (7, .int a3), (0, .ref 164), (1, .int a1), (2, .int a2), (3, .int a3), (4, .int a4), (5, .int a5)]) n84_56 rfl rfl (by decide) rfl ?_
  refine am_e_goto c84_57 t84_57 ?_
  refine am_e_iload n84_13 rfl ?_
  refine am_e_bipush (w := 20) n84_14 (by decide) ?_
  refine am_e_cmpF n84_15 (am_c_geF (by decide)) ?_
  refine am_e_iload n84_16 rfl ?_
  refine am_e_iconst (w := 4) n84_17 rfl ?_
  refine am_e_cmpT n84_18 (am_c_geT (by decide)) t84_18 ?_
  refine am_e_iload n84_21 rfl ?_
  refine am_e_bipush (w := 8) n84_22 (by decide) ?_
  refine am_e_cmpT n84_23 (am_c_geT (by decide)) t84_23 ?_
  refine am_e_iload n84_26 rfl ?_
  refine am_e_bipush (w := 12) n84_27 (by decide) ?_
  refine am_e_cmpF n84_28 (am_c_geF (by decide)) ?_
  refine am_e_iload_n n84_29 rfl ?_
  refine am_e_goto c84_30 t84_30 ?_
  refine am_e_istore (ls' := [(7, .int a3), (6, .int 10), (0, .ref 164), (1, .int a1), (2, .int a2), (3, .int a3), (4, .int a4), (5, .int a5)]) n84_37 rfl rfl ?_
  refine am_e_aload_n n84_38 rfl ?_
  refine am_e_getf (v := .ref 165) n84_39 rfl (f164_0 (h := h) hT) ?_
  refine am_e_aload_n n84_40 rfl ?_
  refine am_e_getf (v := .int 0) n84_41 rfl (f164_1 (h := h) hT) ?_
  refine am_e_iload n84_42 rfl ?_
  refine am_e_iadd (w := 10) n84_43 (by decide) ?_
  refine am_e_iload n84_44 rfl ?_
  refine am_e_bipush (w := 24) n84_45 (by decide) ?_
  refine am_e_bipush (w := 8) n84_46 (by decide) ?_
  refine am_e_iload n84_47 rfl ?_
  refine am_e_iconst (w := 4) n84_48 rfl ?_
  refine am_e_irem (w := 2) n84_49 (by decide) (by decide) ?_
  refine am_e_imul (w := 16) n84_50 (by decide) ?_
  refine am_e_isub (w := 8) n84_51 (by decide) ?_
  refine am_e_ishr (w := (a3 >>> (8 &&& 31))) n84_52 rfl ?_
  refine am_e_sipush (w := 255) n84_53 (by decide) ?_
  refine am_e_iand (w := ((a3 >>> (8 &&& 31)) &&& 255)) n84_54 rfl ?_
  refine am_e_iastore (q := 10) n84_55 rfl (by decide) (by decide) ?_
  refine am_e_iinc (w := 11) (ls' := [(6, .int 11), (7, .int a3), (0, .ref 164), (1, .int a1), (2, .int a2), (3, .int a3), (4, .int a4), (5, .int a5)]) n84_56 rfl rfl (by decide) rfl ?_
  refine am_e_goto c84_57 t84_57 ?_
  refine am_e_iload n84_13 rfl ?_
  refine am_e_bipush (w := 20) n84_14 (by decide) ?_
  refine am_e_cmpF n84_15 (am_c_geF (by decide)) ?_
  refine am_e_iload n84_16 rfl ?_
  refine am_e_iconst (w := 4) n84_17 rfl ?_
  refine am_e_cmpT n84_18 (am_c_geT (by decide)) t84_18 ?_
  refine am_e_iload n84_21 rfl ?_
  refine am_e_bipush (w := 8) n84_22 (by decide) ?_
  refine am_e_cmpT n84_23 (am_c_geT (by decide)) t84_23 ?_
  refine am_e_iload n84_26 rfl ?_
  refine am_e_bipush (w := 12) n84_27 (by decide) ?_
  refine am_e_cmpF n84_28 (am_c_geF (by decide)) ?_
  refine am_e_iload_n n84_29 rfl ?_
  refine am_e_goto c84_30 t84_30 ?_
  refine am_e_istore (ls' := [(7, .int a3), (6, .int 11), (0, .ref 164), (1, .int a1), (2, .int a2), (3, .int a3), (4, .int a4), (5, .int a5)]) n84_37 rfl rfl ?_
  refine am_e_aload_n n84_38 rfl ?_
  refine am_e_getf (v := .ref 165) n84_39 rfl (f164_0 (h := h) hT) ?_
  refine am_e_aload_n n84_40 rfl ?_
  refine am_e_getf (v := .int 0) n84_41 rfl (f164_1 (h := h) hT) ?_
  refine am_e_iload n84_42 rfl ?_
  refine am_e_iadd (w := 11) n84_43 (by decide) ?_
  refine am_e_iload n84_44 rfl ?_
  refine am_e_bipush (w := 24) n84_45 (by decide) ?_
  refine am_e_bipush (w := 8) n84_46 (by decide) ?_
  refine am_e_iload n84_47 rfl ?_
  refine am_e_iconst (w := 4) n84_48 rfl ?_
  refine am_e_irem (w := 3) n84_49 (by decide) (by decide) ?_
  refine am_e_imul (w := 24) n84_50 (by decide) ?_
  refine am_e_isub (w := 0) n84_51 (by decide) ?_
  refine am_e_ishr (w := (a3 >>> (0 &&& 31))) n84_52 rfl ?_
  refine am_e_sipush (w := 255) n84_53 (by decide) ?_
  refine am_e_iand (w := ((a3 >>> (0 &&& 31)) &&& 255)) n84_54 rfl ?_
  refine am_e_iastore (q := 11) n84_55 rfl (by decide) (by decide) ?_
  refine am_e_iinc (w := 12) (ls' := [(6, .int 12), (7, .int a3), (0, .ref 164), (1, .int a1), (2, .int a2), (3, .int a3), (4, .int a4), (5, .int a5)]) n84_56 rfl rfl (by decide) rfl ?_
  refine am_e_goto c84_57 t84_57 ?_
  refine am_e_iload n84_13 rfl ?_
  refine am_e_bipush (w := 20) n84_14 (by decide) ?_
  refine am_e_cmpF n84_15 (am_c_geF (by decide)) ?_
  refine am_e_iload n84_16 rfl ?_
  refine am_e_iconst (w := 4) n84_17 rfl ?_
  refine am_e_cmpT n84_18 (am_c_geT (by decide)) t84_18 ?_
  refine am_e_iload n84_21 rfl ?_
  refine am_e_bipush (w := 8) n84_22 (by decide) ?_
  refine am_e_cmpT n84_23 (am_c_geT (by decide)) t84_23 ?_
  refine am_e_iload n84_26 rfl ?_
  refine am_e_bipush (w := 12) n84_27 (by decide) ?_
  refine am_e_cmpT n84_28 (am_c_geT (by decide)) t84_28 ?_
  refine am_e_iload n84_31 rfl ?_
  refine am_e_bipush (w := 16) n84_32 (by decide) ?_
  refine am_e_cmpF n84_33 (am_c_geF (by decide)) ?_
  refine am_e_iload n84_34 rfl ?_
  refine am_e_goto c84_35 t84_35 ?_
  refine am_e_istore (ls' := [(7, .int a4), (6, .int 12), (0, .ref 164), (1, .int a1), (2, .int a2), (3, .int a3), (4, .int a4), (5, .int a5)]) n84_37 rfl rfl ?_
  refine am_e_aload_n n84_38 rfl ?_
  refine am_e_getf (v := .ref 165) n84_39 rfl (f164_0 (h := h) hT) ?_
  refine am_e_aload_n n84_40 rfl ?_
  refine am_e_getf (v := .int 0) n84_41 rfl (f164_1 (h := h) hT) ?_
  refine am_e_iload n84_42 rfl ?_
  refine am_e_iadd (w := 12) n84_43 (by decide) ?_
  refine am_e_iload n84_44 rfl ?_
  refine am_e_bipush (w := 24) n84_45 (by decide) ?_
  refine am_e_bipush (w := 8) n84_46 (by decide) ?_
  refine am_e_iload n84_47 rfl ?_
  refine am_e_iconst (w := 4) n84_48 rfl ?_
  refine am_e_irem (w := 0) n84_49 (by decide) (by decide) ?_
  refine am_e_imul (w := 0) n84_50 (by decide) ?_
  refine am_e_isub (w := 24) n84_51 (by decide) ?_
  refine am_e_ishr (w := (a4 >>> (24 &&& 31))) n84_52 rfl ?_
  refine am_e_sipush (w := 255) n84_53 (by decide) ?_
  refine am_e_iand (w := ((a4 >>> (24 &&& 31)) &&& 255)) n84_54 rfl ?_
  refine am_e_iastore (q := 12) n84_55 rfl (by decide) (by decide) ?_
  refine am_e_iinc (w := 13) (ls' := [(6, .int 13), (7, .int a4), (0, .ref 164), (1, .int a1), (2, .int a2), (3, .int a3), (4, .int a4), (5, .int a5)]) n84_56 rfl rfl (by decide) rfl ?_
  refine am_e_goto c84_57 t84_57 ?_
  refine am_e_iload n84_13 rfl ?_
  refine am_e_bipush (w := 20) n84_14 (by decide) ?_
  refine am_e_cmpF n84_15 (am_c_geF (by decide)) ?_
  refine am_e_iload n84_16 rfl ?_
  refine am_e_iconst (w := 4) n84_17 rfl ?_
  refine am_e_cmpT n84_18 (am_c_geT (by decide)) t84_18 ?_
  refine am_e_iload n84_21 rfl ?_
  refine am_e_bipush (w := 8) n84_22 (by decide) ?_
  refine am_e_cmpT n84_23 (am_c_geT (by decide)) t84_23 ?_
  refine am_e_iload n84_26 rfl ?_
  refine am_e_bipush (w := 12) n84_27 (by decide) ?_
  refine am_e_cmpT n84_28 (am_c_geT (by decide)) t84_28 ?_
  refine am_e_iload n84_31 rfl ?_
  refine am_e_bipush (w := 16) n84_32 (by decide) ?_
  refine am_e_cmpF n84_33 (am_c_geF (by decide)) ?_
  refine am_e_iload n84_34 rfl ?_
  refine am_e_goto c84_35 t84_35 ?_
  refine am_e_istore (ls' := [(7, .int a4), (6, .int 13), (0, .ref 164), (1, .int a1), (2, .int a2), (3, .int a3), (4, .int a4), (5, .int a5)]) n84_37 rfl rfl ?_
  refine am_e_aload_n n84_38 rfl ?_
  refine am_e_getf (v := .ref 165) n84_39 rfl (f164_0 (h := h) hT) ?_
  refine am_e_aload_n n84_40 rfl ?_
  refine am_e_getf (v := .int 0) n84_41 rfl (f164_1 (h := h) hT) ?_
  refine am_e_iload n84_42 rfl ?_
  refine am_e_iadd (w := 13) n84_43 (by decide) ?_
  refine am_e_iload n84_44 rfl ?_
  refine am_e_bipush (w := 24) n84_45 (by decide) ?_
  refine am_e_bipush (w := 8) n84_46 (by decide) ?_
  refine am_e_iload n84_47 rfl ?_
  refine am_e_iconst (w := 4) n84_48 rfl ?_
  refine am_e_irem (w := 1) n84_49 (by decide) (by decide) ?_
  refine am_e_imul (w := 8) n84_50 (by decide) ?_
  refine am_e_isub (w := 16) n84_51 (by decide) ?_
  refine am_e_ishr (w := (a4 >>> (16 &&& 31))) n84_52 rfl ?_
  refine am_e_sipush (w := 255) n84_53 (by decide) ?_
  refine am_e_iand (w := ((a4 >>> (16 &&& 31)) &&& 255)) n84_54 rfl ?_
  refine am_e_iastore (q := 13) n84_55 rfl (by decide) (by decide) ?_
  refine am_e_iinc (w := 14) (ls' := [(6, .int 14), (7, .int a4), (0, .ref 164), (1, .int a1), (2, .int a2), (3, .int a3), (4, .int a4), (5, .int a5)]) n84_56 rfl rfl (by decide) rfl ?_
  refine am_e_goto c84_57 t84_57 ?_
  refine am_e_iload n84_13 rfl ?_
  refine am_e_bipush (w := 20) n84_14 (by decide) ?_
  refine am_e_cmpF n84_15 (am_c_geF (by decide)) ?_
  refine am_e_iload n84_16 rfl ?_
  refine am_e_iconst (w := 4) n84_17 rfl ?_
  refine am_e_cmpT n84_18 (am_c_geT (by decide)) t84_18 ?_
  refine am_e_iload n84_21 rfl ?_
  refine am_e_bipush (w := 8) n84_22 (by decide) ?_
  refine am_e_cmpT n84_23 (am_c_geT (by decide)) t84_23 ?_
  refine am_e_iload n84_26 rfl ?_
  refine am_e_bipush (w := 12) n84_27 (by decide) ?_
  refine am_e_cmpT n84_28 (am_c_geT (by decide)) t84_28 ?_
  refine am_e_iload n84_31 rfl ?_
  refine am_e_bipush (w := 16) n84_32 (by decide) ?_
  refine am_e_cmpF n84_33 (am_c_geF (by decide)) ?_
  refine am_e_iload n84_34 rfl ?_
  refine am_e_goto c84_35 t84_35 ?_
  refine am_e_istore (ls' := [(7, .int a4), (6, .int 14), (0, .ref 164), (1, .int a1), (2, .int a2), (3, .int a3), (4, .int a4), (5, .int a5)]) n84_37 rfl rfl ?_
  refine am_e_aload_n n84_38 rfl ?_
  refine am_e_getf (v := .ref 165) n84_39 rfl (f164_0 (h := h) hT) ?_
  refine am_e_aload_n n84_40 rfl ?_
  refine am_e_getf (v := .int 0) n84_41 rfl (f164_1 (h := h) hT) ?_
  refine am_e_iload n84_42 rfl ?_
  refine am_e_iadd (w := 14) n84_43 (by decide) ?_
  refine am_e_iload n84_44 rfl ?_
  refine am_e_bipush (w := 24) n84_45 (by decide) ?_
  refine am_e_bipush (w := 8) n84_46 (by decide) ?_
  refine am_e_iload n84_47 rfl ?_
  refine am_e_iconst (w := 4) n84_48 rfl ?_
  refine am_e_irem (w := 2) n84_49 (by decide) (by decide) ?_
  refine am_e_imul (w := 16) n84_50 (by decide) ?_
  refine am_e_isub (w := 8) n84_51 (by decide) ?_
  refine am_e_ishr (w := (a4 >>> (8 &&& 31))) n84_52 rfl ?_
  refine am_e_sipush (w := 255) n84_53 (by decide) ?_
  refine am_e_iand (w := ((a4 >>> (8 &&& 31)) &&& 255)) n84_54 rfl ?_
  refine am_e_iastore (q := 14) n84_55 rfl (by decide) (by decide) ?_
  refine am_e_iinc (w := 15) (ls' := [(6, .int 15), (7, .int a4), (0, .ref 164), (1, .int a1), (2, .int a2), (3, .int a3), (4, .int a4), (5, .int a5)]) n84_56 rfl rfl (by decide) rfl ?_
  refine am_e_goto c84_57 t84_57 ?_
  refine am_e_iload n84_13 rfl ?_
  refine am_e_bipush (w := 20) n84_14 (by decide) ?_
  refine am_e_cmpF n84_15 (am_c_geF (by decide)) ?_
  refine am_e_iload n84_16 rfl ?_
  refine am_e_iconst (w := 4) n84_17 rfl ?_
  refine am_e_cmpT n84_18 (am_c_geT (by decide)) t84_18 ?_
  refine am_e_iload n84_21 rfl ?_
  refine am_e_bipush (w := 8) n84_22 (by decide) ?_
  refine am_e_cmpT n84_23 (am_c_geT (by decide)) t84_23 ?_
  refine am_e_iload n84_26 rfl ?_
  refine am_e_bipush (w := 12) n84_27 (by decide) ?_
  refine am_e_cmpT n84_28 (am_c_geT (by decide)) t84_28 ?_
  refine am_e_iload n84_31 rfl ?_
  refine am_e_bipush (w := 16) n84_32 (by decide) ?_
  refine am_e_cmpF n84_33 (am_c_geF (by decide)) ?_
  refine am_e_iload n84_34 rfl ?_
  refine am_e_goto c84_35 t84_35 ?_
  refine am_e_istore (ls' := [(7, .int a4), (6, .int 15), (0, .ref 164), (1, .int a1), (2, .int a2), (3, .int a3), (4, .int a4), (5, .int a5)]) n84_37 rfl rfl ?_
  refine am_e_aload_n n84_38 rfl ?_
  refine am_e_getf (v := .ref 165) n84_39 rfl (f164_0 (h := h) hT) ?_
  refine am_e_aload_n n84_40 rfl ?_
  refine am_e_getf (v := .int 0) n84_41 rfl (f164_1 (h := h) hT) ?_
  refine am_e_iload n84_42 rfl ?_
  refine am_e_iadd (w := 15) n84_43 (by decide) ?_
  refine am_e_iload n84_44 rfl ?_
  refine am_e_bipush (w := 24) n84_45 (by decide) ?_
  refine am_e_bipush (w := 8) n84_46 (by decide) ?_
  refine am_e_iload n84_47 rfl ?_
  refine am_e_iconst (w := 4) n84_48 rfl ?_
  refine am_e_irem (w := 3) n84_49 (by decide) (by decide) ?_
  refine am_e_imul (w := 24) n84_50 (by decide) ?_
  refine am_e_isub (w := 0) n84_51 (by decide) ?_
  refine am_e_ishr (w := (a4 >>> (0 &&& 31))) n84_52 rfl ?_
  refine am_e_sipush (w := 255) n84_53 (by decide) ?_
  refine am_e_iand (w := ((a4 >>> (0 &&& 31)) &&& 255)) n84_54 rfl ?_
  refine am_e_iastore (q := 15) n84_55 rfl (by decide) (by decide) ?_
  refine am_e_iinc (w := 16) (ls' := [(6, .int 16), (7, .int a4), (0, .ref 164), (1, .int a1), (2, .int a2), (3, .int a3), (4, .int a4), (5, .int a5)]) n84_56 rfl rfl (by decide) rfl ?_
  refine am_e_goto c84_57 t84_57 ?_
  refine am_e_iload n84_13 rfl ?_
  refine am_e_bipush (w := 20) n84_14 (by decide) ?_
  refine am_e_cmpF n84_15 (am_c_geF (by decide)) ?_
  refine am_e_iload n84_16 rfl ?_
  refine am_e_iconst (w := 4) n84_17 rfl ?_
  refine am_e_cmpT n84_18 (am_c_geT (by decide)) t84_18 ?_
  refine am_e_iload n84_21 rfl ?_
  refine am_e_bipush (w := 8) n84_22 (by decide) ?_
  refine am_e_cmpT n84_23 (am_c_geT (by decide)) t84_23 ?_
  refine am_e_iload n84_26 rfl ?_
  refine am_e_bipush (w := 12) n84_27 (by decide) ?_
  refine am_e_cmpT n84_28 (am_c_geT (by decide)) t84_28 ?_
  refine am_e_iload n84_31 rfl ?_
  refine am_e_bipush (w := 16) n84_32 (by decide) ?_
  refine am_e_cmpT n84_33 (am_c_geT (by decide)) t84_33 ?_
  refine am_e_iload n84_36 rfl ?_
  refine am_e_istore (ls' := [(7, .int a5), (6, .int 16), (0, .ref 164), (1, .int a1), (2, .int a2), (3, .int a3), (4, .int a4), (5, .int a5)]) n84_37 rfl rfl ?_
  refine am_e_aload_n n84_38 rfl ?_
  refine am_e_getf (v := .ref 165) n84_39 rfl (f164_0 (h := h) hT) ?_
  refine am_e_aload_n n84_40 rfl ?_
  refine am_e_getf (v := .int 0) n84_41 rfl (f164_1 (h := h) hT) ?_
  refine am_e_iload n84_42 rfl ?_
  refine am_e_iadd (w := 16) n84_43 (by decide) ?_
  refine am_e_iload n84_44 rfl ?_
  refine am_e_bipush (w := 24) n84_45 (by decide) ?_
  refine am_e_bipush (w := 8) n84_46 (by decide) ?_
  refine am_e_iload n84_47 rfl ?_
  refine am_e_iconst (w := 4) n84_48 rfl ?_
  refine am_e_irem (w := 0) n84_49 (by decide) (by decide) ?_
  refine am_e_imul (w := 0) n84_50 (by decide) ?_
  refine am_e_isub (w := 24) n84_51 (by decide) ?_
  refine am_e_ishr (w := (a5 >>> (24 &&& 31))) n84_52 rfl ?_
  refine am_e_sipush (w := 255) n84_53 (by decide) ?_
  refine am_e_iand (w := ((a5 >>> (24 &&& 31)) &&& 255)) n84_54 rfl ?_
  refine am_e_iastore (q := 16) n84_55 rfl (by decide) (by decide) ?_
  refine am_e_iinc (w := 17) (ls' := [(6, .int 17), (7, .int a5), (0, .ref 164), (1, .int a1), (2, .int a2), (3, .int a3), (4, .int a4), (5, .int a5)]) n84_56 rfl rfl (by decide) rfl ?_
  refine am_e_goto c84_57 t84_57 ?_
  refine am_e_iload n84_13 rfl ?_
  refine am_e_bipush (w := 20) n84_14 (by decide) ?_
  refine am_e_cmpF n84_15 (am_c_geF (by decide)) ?_
  refine am_e_iload n84_16 rfl ?_
  refine am_e_iconst (w := 4) n84_17 rfl ?_
  refine am_e_cmpT n84_18 (am_c_geT (by decide)) t84_18 ?_
  refine am_e_iload n84_21 rfl ?_
  refine am_e_bipush (w := 8) n84_22 (by decide) ?_
  refine am_e_cmpT n84_23 (am_c_geT (by decide)) t84_23 ?_
  refine am_e_iload n84_26 rfl ?_
  refine am_e_bipush (w := 12) n84_27 (by decide) ?_
  refine am_e_cmpT n84_28 (am_c_geT (by decide)) t84_28 ?_
  refine am_e_iload n84_31 rfl ?_
  refine am_e_bipush (w := 16) n84_32 (by decide) ?_
  refine am_e_cmpT n84_33 (am_c_geT (by decide)) t84_33 ?_
  refine am_e_iload n84_36 rfl ?_
  refine am_e_istore (ls' := [(7, .int a5), (6, .int 17), (0, .ref 164), (1, .int a1), (2, .int a2), (3, .int a3), (4, .int a4), (5, .int a5)]) n84_37 rfl rfl ?_
  refine am_e_aload_n n84_38 rfl ?_
  refine am_e_getf (v := .ref 165) n84_39 rfl (f164_0 (h := h) hT) ?_
  refine am_e_aload_n n84_40 rfl ?_
  refine am_e_getf (v := .int 0) n84_41 rfl (f164_1 (h := h) hT) ?_
  refine am_e_iload n84_42 rfl ?_
  refine am_e_iadd (w := 17) n84_43 (by decide) ?_
  refine am_e_iload n84_44 rfl ?_
  refine am_e_bipush (w := 24) n84_45 (by decide) ?_
  refine am_e_bipush (w := 8) n84_46 (by decide) ?_
  refine am_e_iload n84_47 rfl ?_
  refine am_e_iconst (w := 4) n84_48 rfl ?_
  refine am_e_irem (w := 1) n84_49 (by decide) (by decide) ?_
  refine am_e_imul (w := 8) n84_50 (by decide) ?_
  refine am_e_isub (w := 16) n84_51 (by decide) ?_
  refine am_e_ishr (w := (a5 >>> (16 &&& 31))) n84_52 rfl ?_
  refine am_e_sipush (w := 255) n84_53 (by decide) ?_
  refine am_e_iand (w := ((a5 >>> (16 &&& 31)) &&& 255)) n84_54 rfl ?_
  refine am_e_iastore (q := 17) n84_55 rfl (by decide) (by decide) ?_
  refine am_e_iinc (w := 18) (ls' := [(6, .int 18), (7, .int a5), (0, .ref 164), (1, .int a1), (2, .int a2), (3, .int a3), (4, .int a4), (5, .int a5)]) n84_56 rfl rfl (by decide) rfl ?_
  refine am_e_goto c84_57 t84_57 ?_
  refine am_e_iload n84_13 rfl ?_
  refine am_e_bipush (w := 20) n84_14 (by decide) ?_
  refine am_e_cmpF n84_15 (am_c_geF (by decide)) ?_
  refine am_e_iload n84_16 rfl ?_
  refine am_e_iconst (w := 4) n84_17 rfl ?_
  refine am_e_cmpT n84_18 (am_c_geT (by decide)) t84_18 ?_
  refine am_e_iload n84_21 rfl ?_
  refine am_e_bipush (w := 8) n84_22 (by decide) ?_
  refine am_e_cmpT n84_23 (am_c_geT (by decide)) t84_23 ?_
  refine am_e_iload n84_26 rfl ?_
  refine am_e_bipush (w := 12) n84_27 (by decide) ?_
  refine am_e_cmpT n84_28 (am_c_geT (by decide)) t84_28 ?_
  refine am_e_iload n84_31 rfl ?_
  refine am_e_bipush (w := 16) n84_32 (by decide) ?_
  refine am_e_cmpT n84_33 (am_c_geT (by decide)) t84_33 ?_
  refine am_e_iload n84_36 rfl ?_
  refine am_e_istore (ls' := [(7, .int a5), (6, .int 18), (0, .ref 164), (1, .int a1), (2, .int a2), (3, .int a3), (4, .int a4), (5, .int a5)]) n84_37 rfl rfl ?_
  refine am_e_aload_n n84_38 rfl ?_
  refine am_e_getf (v := .ref 165) n84_39 rfl (f164_0 (h := h) hT) ?_
  refine am_e_aload_n n84_40 rfl ?_
  refine am_e_getf (v := .int 0) n84_41 rfl (f164_1 (h := h) hT) ?_
  refine am_e_iload n84_42 rfl ?_
  refine am_e_iadd (w := 18) n84_43 (by decide) ?_
  refine am_e_iload n84_44 rfl ?_
  refine am_e_bipush (w := 24) n84_45 (by decide) ?_
  refine am_e_bipush (w := 8) n84_46 (by decide) ?_
  refine am_e_iload n84_47 rfl ?_
  refine am_e_iconst (w := 4) n84_48 rfl ?_
  refine am_e_irem (w := 2) n84_49 (by decide) (by decide) ?_
  refine am_e_imul (w := 16) n84_50 (by decide) ?_
  refine am_e_isub (w := 8) n84_51 (by decide) ?_
  refine am_e_ishr (w := (a5 >>> (8 &&& 31))) n84_52 rfl ?_
  refine am_e_sipush (w := 255) n84_53 (by decide) ?_
  refine am_e_iand (w := ((a5 >>> (8 &&& 31)) &&& 255)) n84_54 rfl ?_
  refine am_e_iastore (q := 18) n84_55 rfl (by decide) (by decide) ?_
  refine am_e_iinc (w := 19) (ls' := [(6, .int 19), (7, .int a5), (0, .ref 164), (1, .int a1), (2, .int a2), (3, .int a3), (4, .int a4), (5, .int a5)]) n84_56 rfl rfl (by decide) rfl ?_
  refine am_e_goto c84_57 t84_57 ?_
  refine am_e_iload n84_13 rfl ?_
  refine am_e_bipush (w := 20) n84_14 (by decide) ?_
  refine am_e_cmpF n84_15 (am_c_geF (by decide)) ?_
  refine am_e_iload n84_16 rfl ?_
  refine am_e_iconst (w := 4) n84_17 rfl ?_
  refine am_e_cmpT n84_18 (am_c_geT (by decide)) t84_18 ?_
  refine am_e_iload n84_21 rfl ?_
  refine am_e_bipush (w := 8) n84_22 (by decide) ?_
  refine am_e_cmpT n84_23 (am_c_geT (by decide)) t84_23 ?_
  refine am_e_iload n84_26 rfl ?_
  refine am_e_bipush (w := 12) n84_27 (by decide) ?_
  refine am_e_cmpT n84_28 (am_c_geT (by decide)) t84_28 ?_
  refine am_e_iload n84_31 rfl ?_
  refine am_e_bipush (w := 16) n84_32 (by decide) ?_
  refine am_e_cmpT n84_33 (am_c_geT (by decide)) t84_33 ?_
  refine am_e_iload n84_36 rfl ?_
  refine am_e_istore (ls' := [(7, .int a5), (6, .int 19), (0, .ref 164), (1, .int a1), (2, .int a2), (3, .int a3), (4, .int a4), (5, .int a5)]) n84_37 rfl rfl ?_
  refine am_e_aload_n n84_38 rfl ?_
  refine am_e_getf (v := .ref 165) n84_39 rfl (f164_0 (h := h) hT) ?_
  refine am_e_aload_n n84_40 rfl ?_
  refine am_e_getf (v := .int 0) n84_41 rfl (f164_1 (h := h) hT) ?_
  refine am_e_iload n84_42 rfl ?_
  refine am_e_iadd (w := 19) n84_43 (by decide) ?_
  refine am_e_iload n84_44 rfl ?_
  refine am_e_bipush (w := 24) n84_45 (by decide) ?_
  refine am_e_bipush (w := 8) n84_46 (by decide) ?_
  refine am_e_iload n84_47 rfl ?_
  refine am_e_iconst (w := 4) n84_48 rfl ?_
  refine am_e_irem (w := 3) n84_49 (by decide) (by decide) ?_
  refine am_e_imul (w := 24) n84_50 (by decide) ?_
  refine am_e_isub (w := 0) n84_51 (by decide) ?_
  refine am_e_ishr (w := (a5 >>> (0 &&& 31))) n84_52 rfl ?_
  refine am_e_sipush (w := 255) n84_53 (by decide) ?_
  refine am_e_iand (w := ((a5 >>> (0 &&& 31)) &&& 255)) n84_54 rfl ?_
  refine am_e_iastore (q := 19) n84_55 rfl (by decide) (by decide) ?_
  refine am_e_iinc (w := 20) (ls' := [(6, .int 20), (7, .int a5), (0, .ref 164), (1, .int a1), (2, .int a2), (3, .int a3), (4, .int a4), (5, .int a5)]) n84_56 rfl rfl (by decide) rfl ?_
  refine am_e_goto c84_57 t84_57 ?_
  refine am_e_iload n84_13 rfl ?_
  refine am_e_bipush (w := 20) n84_14 (by decide) ?_
  refine am_e_cmpT n84_15 (am_c_geT (by decide)) t84_15 ?_
  refine am_e_aload_n n84_58 rfl ?_
  refine am_e_dup n84_59 rfl ?_
  refine am_e_getf (v := .int 0) n84_60 rfl (f164_1 (h := h) hT) ?_
  refine am_e_bipush (w := 20) n84_61 (by decide) ?_
  refine am_e_iadd (w := 20) n84_62 (by decide) ?_
  refine am_e_putf n84_63 rfl rfl ?_
  refine am_e_aload_n n84_64 rfl ?_
  refine am_e_getf (v := .int 20) n84_65 rfl rfl ?_
  refine am_e_iret c84_66 rfl rfl rfl ?_
  refine am_e_cmpT n136_79 (am_c_eqT (by decide)) t136_79 ?_
  exact K _
