theorem am_op2 {lk : List Value → List am_k → am_H → Option am_O} {xs : Nat → Int32} {h : am_H} {Q : Option Value → List am_k → am_H → Prop} {a1 : Int32} {a2 : Int32} {a3 : Int32} {a4 : Int32} {a5 : Int32} (hT : am_T h) (hx1 : xs 1 = a1) (hx2 : xs 2 = a2) (hx3 : xs 3 = a3) (hx4 : xs 4 = a4) (hx5 : xs 5 = a5) (K : ∀ h', am_Ek false (am_P1 (some (6, xs)) lk) am_m136 841 [(4, .int 0), (3, .ref 202), (2, .ref 164), (1, .ref 0), (0, .retAddr 0)] [] am_ks0 h' 203 4392 Q) : am_Ek false (am_P1 (some (6, xs)) lk) am_m136 99 [(4, .int 0), (3, .ref 202), (2, .ref 164), (1, .ref 0), (0, .retAddr 0)] [] am_ks0 h 203 4392 Q := by
  refine am_e_aload_n n136_99 rfl ?_
  refine am_e_sload_n n136_100 rfl ?_
  refine am_e_iload n136_101 rfl ?_
  refine am_e_iconst (w := 1) n136_102 rfl ?_
  refine am_e_iadd (w := 1) n136_103 (by decide) ?_
  refine am_e_sald1 n136_104 rfl (by decide) (by decide) hx1 ?_
  refine am_e_callV (L := [(0, .ref 0), (1, .int a1)]) n136_105 rfl rfl rfl rfl rfl rfl rfl rfl ?_
  refine am_e_iload_n n27_0 rfl ?_
  by_cases hb1 : (a1 : Int32) = 0
  · subst hb1
    refine am_e_ifF n27_1 (am_c_neF rfl) ?_
    refine am_e_aload_n n27_2 rfl ?_
    refine am_e_getf (v := .ref 44) n27_3 rfl (f0_4 (h := h) hT) ?_
    refine am_e_getf (v := .int 0) n27_4 rfl (f44_1 (h := h) hT) ?_
    refine am_e_iret c27_5 rfl rfl rfl ?_
    refine am_e_aload_n n136_106 rfl ?_
    refine am_e_sload_n n136_107 rfl ?_
    refine am_e_iload n136_108 rfl ?_
    refine am_e_iconst (w := 1) n136_109 rfl ?_
    refine am_e_iadd (w := 1) n136_110 (by decide) ?_
    refine am_e_sald1 n136_111 rfl (by decide) (by decide) hx1 ?_
    refine am_e_callV (L := [(0, .ref 164), (1, .int 0)]) n136_112 rfl rfl rfl rfl rfl rfl rfl rfl ?_
    refine am_e_aload_n n89_0 rfl ?_
    refine am_e_iconst (w := 0) n89_1 rfl ?_
    refine am_e_putf n89_2 rfl rfl ?_
    refine am_e_iload_n n89_3 rfl ?_
    refine am_e_ifF n89_4 (am_c_neF (by decide)) ?_
    refine am_e_aload_n n89_5 rfl ?_
    refine am_e_getf (v := .int 0) n89_6 rfl (f164_4 (h := h) hT) ?_
    refine am_e_goto c89_7 t89_7 ?_
    refine am_e_iret c89_15 rfl rfl rfl ?_
    refine am_e_cmpT n136_113 (am_c_eqT (by decide)) t136_113 ?_
    exact K _
  · refine am_e_ifT n27_1 (am_c_neT hb1) t27_1 ?_
    refine am_e_iload_n n27_6 rfl ?_
    refine am_e_iconst (w := 1) n27_7 rfl ?_
    by_cases hb2 : (a1 : Int32) = 1
    · subst hb2
      refine am_e_cmpF n27_8 (am_c_neF rfl) ?_
      refine am_e_aload_n n27_9 rfl ?_
      refine am_e_getf (v := .ref 44) n27_10 rfl (f0_4 (h := h) hT) ?_
      refine am_e_getf (v := .int (-1)) n27_11 rfl (f44_2 (h := h) hT) ?_
      refine am_e_goto c27_12 t27_12 ?_
      refine am_e_iret c27_14 rfl rfl rfl ?_
      refine am_e_aload_n n136_106 rfl ?_
      refine am_e_sload_n n136_107 rfl ?_
      refine am_e_iload n136_108 rfl ?_
      refine am_e_iconst (w := 1) n136_109 rfl ?_
      refine am_e_iadd (w := 1) n136_110 (by decide) ?_
      refine am_e_sald1 n136_111 rfl (by decide) (by decide) hx1 ?_
      refine am_e_callV (L := [(0, .ref 164), (1, .int 1)]) n136_112 rfl rfl rfl rfl rfl rfl rfl rfl ?_
      refine am_e_aload_n n89_0 rfl ?_
      refine am_e_iconst (w := 0) n89_1 rfl ?_
      refine am_e_putf n89_2 rfl rfl ?_
      refine am_e_iload_n n89_3 rfl ?_
      refine am_e_ifT n89_4 (am_c_neT (by decide)) t89_4 ?_
      refine am_e_iload_n n89_8 rfl ?_
      refine am_e_iconst (w := 1) n89_9 rfl ?_
      refine am_e_cmpF n89_10 (am_c_neF (by decide)) ?_
      refine am_e_aload_n n89_11 rfl ?_
      refine am_e_getf (v := .int (-1)) n89_12 rfl (f164_5 (h := h) hT) ?_
      refine am_e_goto c89_13 t89_13 ?_
      refine am_e_iret c89_15 rfl rfl rfl ?_
      refine am_e_cmpT n136_113 (am_c_eqT (by decide)) t136_113 ?_
      exact K _
    · refine am_e_cmpT n27_8 (am_c_neT hb2) t27_8 ?_
      refine am_e_iconst (w := (-1)) n27_13 rfl ?_
      refine am_e_iret c27_14 rfl rfl rfl ?_
      refine am_e_aload_n n136_106 rfl ?_
      refine am_e_sload_n n136_107 rfl ?_
      refine am_e_iload n136_108 rfl ?_
      refine am_e_iconst (w := 1) n136_109 rfl ?_
      refine am_e_iadd (w := 1) n136_110 (by decide) ?_
      refine am_e_sald1 n136_111 rfl (by decide) (by decide) hx1 ?_
      refine am_e_callV (L := [(0, .ref 164), (1, .int a1)]) n136_112 rfl rfl rfl rfl rfl rfl rfl rfl ?_
      refine am_e_aload_n n89_0 rfl ?_
      refine am_e_iconst (w := 0) n89_1 rfl ?_
      refine am_e_putf n89_2 rfl rfl ?_
      refine am_e_iload_n n89_3 rfl ?_
      refine am_e_ifT n89_4 (am_c_neT hb1) t89_4 ?_
      refine am_e_iload_n n89_8 rfl ?_
      refine am_e_iconst (w := 1) n89_9 rfl ?_
      refine am_e_cmpT n89_10 (am_c_neT hb2) t89_10 ?_
      refine am_e_iconst (w := (-1)) n89_14 rfl ?_
      refine am_e_iret c89_15 rfl rfl rfl ?_
      refine am_e_cmpT n136_113 (am_c_eqT (by decide)) t136_113 ?_
      exact K _
theorem am_op3 {lk : List Value → List am_k → am_H → Option am_O} {xs : Nat → Int32} {h : am_H} {Q : Option Value → List am_k → am_H → Prop} {a1 : Int32} {a2 : Int32} {a3 : Int32} {a4 : Int32} {a5 : Int32} (hT : am_T h) (hx1 : xs 1 = a1) (hx2 : xs 2 = a2) (hx3 : xs 3 = a3) (hx4 : xs 4 = a4) (hx5 : xs 5 = a5) (K : ∀ h', am_Ek false (am_P1 (some (6, xs)) lk) am_m136 841 [(4, .int 0), (3, .ref 202), (2, .ref 164), (1, .ref 0), (0, .retAddr 0)] [] am_ks0 h' 203 4392 Q) : am_Ek false (am_P1 (some (6, xs)) lk) am_m136 116 [(4, .int 0), (3, .ref 202), (2, .ref 164), (1, .ref 0), (0, .retAddr 0)] [] am_ks0 h 203 4392 Q := by
  refine am_e_aload_n n136_116 rfl ?_
  refine am_e_sload_n n136_117 rfl ?_
  refine am_e_iload n136_118 rfl ?_
  refine am_e_iconst (w := 1) n136_119 rfl ?_
  refine am_e_iadd (w := 1) n136_120 (by decide) ?_
  refine am_e_sald1 n136_121 rfl (by decide) (by decide) hx1 ?_
  refine am_e_sload_n n136_122 rfl ?_
  refine am_e_iload n136_123 rfl ?_
  refine am_e_iconst (w := 2) n136_124 rfl ?_
  refine am_e_iadd (w := 2) n136_125 (by decide) ?_
  refine am_e_sald1 n136_126 rfl (by decide) (by decide) hx2 ?_
  refine am_e_callV (L := [(0, .ref 0), (1, .int a1), (2, .int a2)]) n136_127 rfl rfl rfl rfl rfl rfl rfl rfl ?_
  refine am_e_iload_n n28_0 rfl ?_
  by_cases hb1 : (a1 : Int32) = 0
  · subst hb1
    refine am_e_ifF n28_1 (am_c_neF rfl) ?_
    refine am_e_aload_n n28_2 rfl ?_
    refine am_e_getf (v := .ref 2) n28_3 rfl (f0_2 (h := h) hT) ?_
    refine am_e_iload_n n28_4 rfl ?_
    refine am_e_callV (L := [(0, .ref 2), (1, .int a2)]) n28_5 rfl rfl rfl rfl rfl rfl rfl rfl ?_
    refine am_e_iconst (w := 0) n20_0 rfl ?_
    refine am_e_istore_n (ls' := [(2, .int 0), (0, .ref 2), (1, .int a2)]) n20_1 rfl rfl ?_
    refine am_e_iload_n n20_2 rfl ?_
    refine am_e_aload_n n20_3 rfl ?_
    refine am_e_getf (v := .int 0) n20_4 rfl (f2_2 (h := h) hT) ?_
    refine am_e_cmpT n20_5 (am_c_geT (by decide)) t20_5 ?_
    refine am_e_iconst (w := (-1)) n20_17 rfl ?_
    refine am_e_iret c20_18 rfl rfl rfl ?_
    refine am_e_iret c28_6 rfl rfl rfl ?_
    refine am_e_aload_n n136_128 rfl ?_
    refine am_e_sload_n n136_129 rfl ?_
    refine am_e_iload n136_130 rfl ?_
    refine am_e_iconst (w := 1) n136_131 rfl ?_
    refine am_e_iadd (w := 1) n136_132 (by decide) ?_
    refine am_e_sald1 n136_133 rfl (by decide) (by decide) hx1 ?_
    refine am_e_sload_n n136_134 rfl ?_
    refine am_e_iload n136_135 rfl ?_
    refine am_e_iconst (w := 2) n136_136 rfl ?_
    refine am_e_iadd (w := 2) n136_137 (by decide) ?_
    refine am_e_sald1 n136_138 rfl (by decide) (by decide) hx2 ?_
    refine am_e_callV (L := [(0, .ref 164), (1, .int 0), (2, .int a2)]) n136_139 rfl rfl rfl rfl rfl rfl rfl rfl ?_
    refine am_e_aload_n n90_0 rfl ?_
    refine am_e_iconst (w := 0) n90_1 rfl ?_
    refine am_e_putf n90_2 rfl rfl ?_
    refine am_e_iload_n n90_3 rfl ?_
    refine am_e_ifF n90_4 (am_c_neF (by decide)) ?_
    refine am_e_aload_n n90_5 rfl ?_
    refine am_e_getf (v := .ref 169) n90_6 rfl (f164_24 (h := h) hT) ?_
    refine am_e_iconst (w := 0) n90_7 rfl ?_
    refine am_e_aload_n n90_8 rfl ?_
    refine am_e_getf (v := .int 0) n90_9 rfl (f164_12 (h := h) hT) ?_
    refine am_e_iload_n n90_10 rfl ?_
    refine am_e_callS (L := [(0, .ref 169), (1, .int 0), (2, .int 0), (3, .int a2)]) n90_11 rfl rfl rfl rfl rfl rfl rfl ?_
    refine am_e_iconst (w := 0) n88_0 rfl ?_
    refine am_e_istore (ls' := [(4, .int 0), (0, .ref 169), (1, .int 0), (2, .int 0), (3, .int a2)]) n88_1 rfl rfl ?_
    refine am_e_iload n88_2 rfl ?_
    refine am_e_iload_n n88_3 rfl ?_
    refine am_e_cmpT n88_4 (am_c_geT (by decide)) t88_4 ?_
    refine am_e_iconst (w := (-1)) n88_16 rfl ?_
    refine am_e_iret c88_17 rfl rfl rfl ?_
    refine am_e_goto c90_12 t90_12 ?_
    refine am_e_iret c90_25 rfl rfl rfl ?_
    refine am_e_cmpT n136_140 (am_c_eqT (by decide)) t136_140 ?_
    exact K _
  · refine am_e_ifT n28_1 (am_c_neT hb1) t28_1 ?_
    refine am_e_iload_n n28_7 rfl ?_
    refine am_e_iconst (w := 1) n28_8 rfl ?_
    by_cases hb2 : (a1 : Int32) = 1
    · subst hb2
      refine am_e_cmpF n28_9 (am_c_neF rfl) ?_
      refine am_e_aload_n n28_10 rfl ?_
      refine am_e_getf (v := .ref 2) n28_11 rfl (f0_2 (h := h) hT) ?_
      refine am_e_iload_n n28_12 rfl ?_
      refine am_e_callV (L := [(0, .ref 2), (1, .int a2)]) n28_13 rfl rfl rfl rfl rfl rfl rfl rfl ?_
      refine am_e_iconst (w := 0) n21_0 rfl ?_
      refine am_e_istore_n (ls' := [(2, .int 0), (0, .ref 2), (1, .int a2)]) n21_1 rfl rfl ?_
      refine am_e_iload_n n21_2 rfl ?_
      refine am_e_aload_n n21_3 rfl ?_
      refine am_e_getf (v := .int 0) n21_4 rfl (f2_12 (h := h) hT) ?_
      refine am_e_cmpT n21_5 (am_c_geT (by decide)) t21_5 ?_
      refine am_e_iconst (w := (-1)) n21_16 rfl ?_
      refine am_e_iret c21_17 rfl rfl rfl ?_
      refine am_e_goto c28_14 t28_14 ?_
      refine am_e_iret c28_16 rfl rfl rfl ?_
      refine am_e_aload_n n136_128 rfl ?_
      refine am_e_sload_n n136_129 rfl ?_
      refine am_e_iload n136_130 rfl ?_
      refine am_e_iconst (w := 1) n136_131 rfl ?_
      refine am_e_iadd (w := 1) n136_132 (by decide) ?_
      refine am_e_sald1 n136_133 rfl (by decide) (by decide) hx1 ?_
      refine am_e_sload_n n136_134 rfl ?_
      refine am_e_iload n136_135 rfl ?_
      refine am_e_iconst (w := 2) n136_136 rfl ?_
      refine am_e_iadd (w := 2) n136_137 (by decide) ?_
      refine am_e_sald1 n136_138 rfl (by decide) (by decide) hx2 ?_
      refine am_e_callV (L := [(0, .ref 164), (1, .int 1), (2, .int a2)]) n136_139 rfl rfl rfl rfl rfl rfl rfl rfl ?_
      refine am_e_aload_n n90_0 rfl ?_
      refine am_e_iconst (w := 0) n90_1 rfl ?_
      refine am_e_putf n90_2 rfl rfl ?_
      refine am_e_iload_n n90_3 rfl ?_
      refine am_e_ifT n90_4 (am_c_neT (by decide)) t90_4 ?_
      refine am_e_iload_n n90_13 rfl ?_
      refine am_e_iconst (w := 1) n90_14 rfl ?_
      refine am_e_cmpF n90_15 (am_c_neF (by decide)) ?_
      refine am_e_aload_n n90_16 rfl ?_
      refine am_e_getf (v := .ref 175) n90_17 rfl (f164_30 (h := h) hT) ?_
      refine am_e_iconst (w := 0) n90_18 rfl ?_
      refine am_e_aload_n n90_19 rfl ?_
      refine am_e_getf (v := .int 0) n90_20 rfl (f164_15 (h := h) hT) ?_
      refine am_e_iload_n n90_21 rfl ?_
      refine am_e_callS (L := [(0, .ref 175), (1, .int 0), (2, .int 0), (3, .int a2)]) n90_22 rfl rfl rfl rfl rfl rfl rfl ?_
      refine am_e_iconst (w := 0) n88_0 rfl ?_
      refine am_e_istore (ls' := [(4, .int 0), (0, .ref 175), (1, .int 0), (2, .int 0), (3, .int a2)]) n88_1 rfl rfl ?_
      refine am_e_iload n88_2 rfl ?_
      refine am_e_iload_n n88_3 rfl ?_
      refine am_e_cmpT n88_4 (am_c_geT (by decide)) t88_4 ?_
      refine am_e_iconst (w := (-1)) n88_16 rfl ?_
      refine am_e_iret c88_17 rfl rfl rfl ?_
      refine am_e_goto c90_23 t90_23 ?_
      refine am_e_iret c90_25 rfl rfl rfl ?_
      refine am_e_cmpT n136_140 (am_c_eqT (by decide)) t136_140 ?_
      exact K _
    · refine am_e_cmpT n28_9 (am_c_neT hb2) t28_9 ?_
      refine am_e_iconst (w := (-1)) n28_15 rfl ?_
      refine am_e_iret c28_16 rfl rfl rfl ?_
      refine am_e_aload_n n136_128 rfl ?_
      refine am_e_sload_n n136_129 rfl ?_
      refine am_e_iload n136_130 rfl ?_
      refine am_e_iconst (w := 1) n136_131 rfl ?_
      refine am_e_iadd (w := 1) n136_132 (by decide) ?_
      refine am_e_sald1 n136_133 rfl (by decide) (by decide) hx1 ?_
      refine am_e_sload_n n136_134 rfl ?_
      refine am_e_iload n136_135 rfl ?_
      refine am_e_iconst (w := 2) n136_136 rfl ?_
      refine am_e_iadd (w := 2) n136_137 (by decide) ?_
      refine am_e_sald1 n136_138 rfl (by decide) (by decide) hx2 ?_
      refine am_e_callV (L := [(0, .ref 164), (1, .int a1), (2, .int a2)]) n136_139 rfl rfl rfl rfl rfl rfl rfl rfl ?_
      refine am_e_aload_n n90_0 rfl ?_
      refine am_e_iconst (w := 0) n90_1 rfl ?_
      refine am_e_putf n90_2 rfl rfl ?_
      refine am_e_iload_n n90_3 rfl ?_
      refine am_e_ifT n90_4 (am_c_neT hb1) t90_4 ?_
      refine am_e_iload_n n90_13 rfl ?_
      refine am_e_iconst (w := 1) n90_14 rfl ?_
      refine am_e_cmpT n90_15 (am_c_neT hb2) t90_15 ?_
      refine am_e_iconst (w := (-1)) n90_24 rfl ?_
      refine am_e_iret c90_25 rfl rfl rfl ?_
      refine am_e_cmpT n136_140 (am_c_eqT (by decide)) t136_140 ?_
      exact K _
theorem am_op6 {lk : List Value → List am_k → am_H → Option am_O} {xs : Nat → Int32} {h : am_H} {Q : Option Value → List am_k → am_H → Prop} {a1 : Int32} {a2 : Int32} {a3 : Int32} {a4 : Int32} {a5 : Int32} (hT : am_T h) (hx1 : xs 1 = a1) (hx2 : xs 2 = a2) (hx3 : xs 3 = a3) (hx4 : xs 4 = a4) (hx5 : xs 5 = a5) (K : ∀ h', am_Ek false (am_P1 (some (6, xs)) lk) am_m136 841 [(4, .int 0), (3, .ref 202), (2, .ref 164), (1, .ref 0), (0, .retAddr 0)] [] am_ks0 h' 203 4392 Q) : am_Ek false (am_P1 (some (6, xs)) lk) am_m136 216 [(4, .int 0), (3, .ref 202), (2, .ref 164), (1, .ref 0), (0, .retAddr 0)] [] am_ks0 h 203 4392 Q := by
  refine am_e_aload_n n136_216 rfl ?_
  refine am_e_sload_n n136_217 rfl ?_
  refine am_e_iload n136_218 rfl ?_
  refine am_e_iconst (w := 1) n136_219 rfl ?_
  refine am_e_iadd (w := 1) n136_220 (by decide) ?_
  refine am_e_sald1 n136_221 rfl (by decide) (by decide) hx1 ?_
  refine am_e_sload_n n136_222 rfl ?_
  refine am_e_iload n136_223 rfl ?_
  refine am_e_iconst (w := 2) n136_224 rfl ?_
  refine am_e_iadd (w := 2) n136_225 (by decide) ?_
  refine am_e_sald1 n136_226 rfl (by decide) (by decide) hx2 ?_
  refine am_e_callV (L := [(0, .ref 0), (1, .int a1), (2, .int a2)]) n136_227 rfl rfl rfl rfl rfl rfl rfl rfl ?_
  refine am_e_aload_n n36_0 rfl ?_
  refine am_e_iload_n n36_1 rfl ?_
  refine am_e_callV (L := [(0, .ref 0), (1, .int a1)]) n36_2 rfl rfl rfl rfl rfl rfl rfl rfl ?_
  refine am_e_iload_n n37_0 rfl ?_
  by_cases hb1 : (a1 : Int32) < 0
  · refine am_e_ifT n37_1 (am_c_ltT hb1) t37_1 ?_
    refine am_e_iconst (w := 0) n37_9 rfl ?_
    refine am_e_iret c37_10 rfl rfl rfl ?_
    refine am_e_ifT n36_3 (am_c_eqT (by decide)) t36_3 ?_
    refine am_e_iconst (w := (-1)) n36_9 rfl ?_
    refine am_e_iret c36_10 rfl rfl rfl ?_
    refine am_e_aload_n n136_228 rfl ?_
    refine am_e_sload_n n136_229 rfl ?_
    refine am_e_iload n136_230 rfl ?_
    refine am_e_iconst (w := 1) n136_231 rfl ?_
    refine am_e_iadd (w := 1) n136_232 (by decide) ?_
    refine am_e_sald1 n136_233 rfl (by decide) (by decide) hx1 ?_
    refine am_e_sload_n n136_234 rfl ?_
    refine am_e_iload n136_235 rfl ?_
    refine am_e_iconst (w := 2) n136_236 rfl ?_
    refine am_e_iadd (w := 2) n136_237 (by decide) ?_
    refine am_e_sald1 n136_238 rfl (by decide) (by decide) hx2 ?_
    refine am_e_callV (L := [(0, .ref 164), (1, .int a1), (2, .int a2)]) n136_239 rfl rfl rfl rfl rfl rfl rfl rfl ?_
    refine am_e_aload_n n96_0 rfl ?_
    refine am_e_iconst (w := 0) n96_1 rfl ?_
    refine am_e_putf n96_2 rfl rfl ?_
    refine am_e_aload_n n96_3 rfl ?_
    refine am_e_iload_n n96_4 rfl ?_
    refine am_e_callV (L := [(0, .ref 164), (1, .int a1)]) n96_5 rfl rfl rfl rfl rfl rfl rfl rfl ?_
    refine am_e_iload_n n91_0 rfl ?_
    refine am_e_ifT n91_1 (am_c_ltT hb1) t91_1 ?_
    refine am_e_iconst (w := 0) n91_8 rfl ?_
    refine am_e_iret c91_9 rfl rfl rfl ?_
    refine am_e_ifT n96_6 (am_c_eqT (by decide)) t96_6 ?_
    refine am_e_iconst (w := (-1)) n96_12 rfl ?_
    refine am_e_iret c96_13 rfl rfl rfl ?_
    refine am_e_cmpT n136_240 (am_c_eqT (by decide)) t136_240 ?_
    exact K _
  · refine am_e_ifF n37_1 (am_c_ltF hb1) ?_
    refine am_e_iload_n n37_2 rfl ?_
    refine am_e_aload_n n37_3 rfl ?_
    refine am_e_getf (v := .ref 2) n37_4 rfl (f0_2 (h := h) hT) ?_
    refine am_e_getf (v := .int 0) n37_5 rfl (f2_2 (h := h) hT) ?_
    refine am_e_cmpT n37_6 (am_c_geT hb1) t37_6 ?_
    refine am_e_iconst (w := 0) n37_9 rfl ?_
    refine am_e_iret c37_10 rfl rfl rfl ?_
    refine am_e_ifT n36_3 (am_c_eqT (by decide)) t36_3 ?_
    refine am_e_iconst (w := (-1)) n36_9 rfl ?_
    refine am_e_iret c36_10 rfl rfl rfl ?_
    refine am_e_aload_n n136_228 rfl ?_
    refine am_e_sload_n n136_229 rfl ?_
    refine am_e_iload n136_230 rfl ?_
    refine am_e_iconst (w := 1) n136_231 rfl ?_
    refine am_e_iadd (w := 1) n136_232 (by decide) ?_
    refine am_e_sald1 n136_233 rfl (by decide) (by decide) hx1 ?_
    refine am_e_sload_n n136_234 rfl ?_
    refine am_e_iload n136_235 rfl ?_
    refine am_e_iconst (w := 2) n136_236 rfl ?_
    refine am_e_iadd (w := 2) n136_237 (by decide) ?_
    refine am_e_sald1 n136_238 rfl (by decide) (by decide) hx2 ?_
    refine am_e_callV (L := [(0, .ref 164), (1, .int a1), (2, .int a2)]) n136_239 rfl rfl rfl rfl rfl rfl rfl rfl ?_
    refine am_e_aload_n n96_0 rfl ?_
    refine am_e_iconst (w := 0) n96_1 rfl ?_
    refine am_e_putf n96_2 rfl rfl ?_
    refine am_e_aload_n n96_3 rfl ?_
    refine am_e_iload_n n96_4 rfl ?_
    refine am_e_callV (L := [(0, .ref 164), (1, .int a1)]) n96_5 rfl rfl rfl rfl rfl rfl rfl rfl ?_
    refine am_e_iload_n n91_0 rfl ?_
    refine am_e_ifF n91_1 (am_c_ltF hb1) ?_
    refine am_e_iload_n n91_2 rfl ?_
    refine am_e_aload_n n91_3 rfl ?_
    refine am_e_getf (v := .int 0) n91_4 rfl (f164_12 (h := h) hT) ?_
    refine am_e_cmpT n91_5 (am_c_geT hb1) t91_5 ?_
    refine am_e_iconst (w := 0) n91_8 rfl ?_
    refine am_e_iret c91_9 rfl rfl rfl ?_
    refine am_e_ifT n96_6 (am_c_eqT (by decide)) t96_6 ?_
    refine am_e_iconst (w := (-1)) n96_12 rfl ?_
    refine am_e_iret c96_13 rfl rfl rfl ?_
    refine am_e_cmpT n136_240 (am_c_eqT (by decide)) t136_240 ?_
    exact K _
theorem am_op8 {lk : List Value → List am_k → am_H → Option am_O} {xs : Nat → Int32} {h : am_H} {Q : Option Value → List am_k → am_H → Prop} {a1 : Int32} {a2 : Int32} {a3 : Int32} {a4 : Int32} {a5 : Int32} (hT : am_T h) (hx1 : xs 1 = a1) (hx2 : xs 2 = a2) (hx3 : xs 3 = a3) (hx4 : xs 4 = a4) (hx5 : xs 5 = a5) (K : ∀ h', am_Ek false (am_P1 (some (6, xs)) lk) am_m136 841 [(4, .int 0), (3, .ref 202), (2, .ref 164), (1, .ref 0), (0, .retAddr 0)] [] am_ks0 h' 203 4392 Q) : am_Ek false (am_P1 (some (6, xs)) lk) am_m136 278 [(4, .int 0), (3, .ref 202), (2, .ref 164), (1, .ref 0), (0, .retAddr 0)] [] am_ks0 h 203 4392 Q := by
  refine am_e_aload_n n136_278 rfl ?_
  refine am_e_sload_n n136_279 rfl ?_
  refine am_e_iload n136_280 rfl ?_
  refine am_e_iconst (w := 1) n136_281 rfl ?_
  refine am_e_iadd (w := 1) n136_282 (by decide) ?_
  refine am_e_sald1 n136_283 rfl (by decide) (by decide) hx1 ?_
  refine am_e_callV (L := [(0, .ref 0), (1, .int a1)]) n136_284 rfl rfl rfl rfl rfl rfl rfl rfl ?_
  refine am_e_aload_n n42_0 rfl ?_
  refine am_e_getf (v := .ref 2) n42_1 rfl (f0_2 (h := h) hT) ?_
  refine am_e_getf (v := .int 0) n42_2 rfl (f2_8 (h := h) hT) ?_
  refine am_e_ifT n42_3 (am_c_eqT (by decide)) t42_3 ?_
  refine am_e_iconst (w := (-1)) n42_7 rfl ?_
  refine am_e_iret c42_8 rfl rfl rfl ?_
  refine am_e_aload_n n136_285 rfl ?_
  refine am_e_sload_n n136_286 rfl ?_
  refine am_e_iload n136_287 rfl ?_
  refine am_e_iconst (w := 1) n136_288 rfl ?_
  refine am_e_iadd (w := 1) n136_289 (by decide) ?_
  refine am_e_sald1 n136_290 rfl (by decide) (by decide) hx1 ?_
  refine am_e_callV (L := [(0, .ref 164), (1, .int a1)]) n136_291 rfl rfl rfl rfl rfl rfl rfl rfl ?_
  refine am_e_aload_n n104_0 rfl ?_
  refine am_e_iconst (w := 0) n104_1 rfl ?_
  refine am_e_putf n104_2 rfl rfl ?_
  refine am_e_aload_n n104_3 rfl ?_
  refine am_e_getf (v := .ref 168) n104_4 rfl (f164_23 (h := h) hT) ?_
  refine am_e_iconst (w := 2) n104_5 rfl ?_
  refine am_e_iaload (v := 0) (q := 2) n104_6 rfl (by decide) (by decide) (f168_2 (h := h) hT) ?_
  refine am_e_ifT n104_7 (am_c_eqT (by decide)) t104_7 ?_
  refine am_e_iconst (w := (-1)) n104_11 rfl ?_
  refine am_e_iret c104_12 rfl rfl rfl ?_
  refine am_e_cmpT n136_292 (am_c_eqT (by decide)) t136_292 ?_
  exact K _
theorem am_op9 {lk : List Value → List am_k → am_H → Option am_O} {xs : Nat → Int32} {h : am_H} {Q : Option Value → List am_k → am_H → Prop} {a1 : Int32} {a2 : Int32} {a3 : Int32} {a4 : Int32} {a5 : Int32} (hT : am_T h) (hx1 : xs 1 = a1) (hx2 : xs 2 = a2) (hx3 : xs 3 = a3) (hx4 : xs 4 = a4) (hx5 : xs 5 = a5) (K : ∀ h', am_Ek false (am_P1 (some (6, xs)) lk) am_m136 841 [(4, .int 0), (3, .ref 202), (2, .ref 164), (1, .ref 0), (0, .retAddr 0)] [] am_ks0 h' 203 4392 Q) : am_Ek false (am_P1 (some (6, xs)) lk) am_m136 295 [(4, .int 0), (3, .ref 202), (2, .ref 164), (1, .ref 0), (0, .retAddr 0)] [] am_ks0 h 203 4392 Q := by
  refine am_e_aload_n n136_295 rfl ?_
  refine am_e_sload_n n136_296 rfl ?_
  refine am_e_iload n136_297 rfl ?_
  refine am_e_iconst (w := 1) n136_298 rfl ?_
  refine am_e_iadd (w := 1) n136_299 (by decide) ?_
  refine am_e_sald1 n136_300 rfl (by decide) (by decide) hx1 ?_
  refine am_e_callV (L := [(0, .ref 0), (1, .int a1)]) n136_301 rfl rfl rfl rfl rfl rfl rfl rfl ?_
  refine am_e_iload_n n43_0 rfl ?_
  by_cases hb1 : (a1 : Int32) < 0
  · refine am_e_ifT n43_1 (am_c_ltT hb1) t43_1 ?_
    refine am_e_iconst (w := (-1)) n43_12 rfl ?_
    refine am_e_iret c43_13 rfl rfl rfl ?_
    refine am_e_aload_n n136_302 rfl ?_
    refine am_e_sload_n n136_303 rfl ?_
    refine am_e_iload n136_304 rfl ?_
    refine am_e_iconst (w := 1) n136_305 rfl ?_
    refine am_e_iadd (w := 1) n136_306 (by decide) ?_
    refine am_e_sald1 n136_307 rfl (by decide) (by decide) hx1 ?_
    refine am_e_callV (L := [(0, .ref 164), (1, .int a1)]) n136_308 rfl rfl rfl rfl rfl rfl rfl rfl ?_
    refine am_e_aload_n n105_0 rfl ?_
    refine am_e_iconst (w := 0) n105_1 rfl ?_
    refine am_e_putf n105_2 rfl rfl ?_
    refine am_e_iload_n n105_3 rfl ?_
    refine am_e_ifT n105_4 (am_c_ltT hb1) t105_4 ?_
    refine am_e_iconst (w := (-1)) n105_14 rfl ?_
    refine am_e_iret c105_15 rfl rfl rfl ?_
    refine am_e_cmpT n136_309 (am_c_eqT (by decide)) t136_309 ?_
    exact K _
  · refine am_e_ifF n43_1 (am_c_ltF hb1) ?_
    refine am_e_iload_n n43_2 rfl ?_
    refine am_e_aload_n n43_3 rfl ?_
    refine am_e_getf (v := .ref 2) n43_4 rfl (f0_2 (h := h) hT) ?_
    refine am_e_getf (v := .int 0) n43_5 rfl (f2_9 (h := h) hT) ?_
    refine am_e_cmpT n43_6 (am_c_geT hb1) t43_6 ?_
    refine am_e_iconst (w := (-1)) n43_12 rfl ?_
    refine am_e_iret c43_13 rfl rfl rfl ?_
    refine am_e_aload_n n136_302 rfl ?_
    refine am_e_sload_n n136_303 rfl ?_
    refine am_e_iload n136_304 rfl ?_
    refine am_e_iconst (w := 1) n136_305 rfl ?_
    refine am_e_iadd (w := 1) n136_306 (by decide) ?_
    refine am_e_sald1 n136_307 rfl (by decide) (by decide) hx1 ?_
    refine am_e_callV (L := [(0, .ref 164), (1, .int a1)]) n136_308 rfl rfl rfl rfl rfl rfl rfl rfl ?_
    refine am_e_aload_n n105_0 rfl ?_
    refine am_e_iconst (w := 0) n105_1 rfl ?_
    refine am_e_putf n105_2 rfl rfl ?_
    refine am_e_iload_n n105_3 rfl ?_
    refine am_e_ifF n105_4 (am_c_ltF hb1) ?_
    refine am_e_iload_n n105_5 rfl ?_
    refine am_e_aload_n n105_6 rfl ?_
    refine am_e_getf (v := .int 0) n105_7 rfl (f164_14 (h := h) hT) ?_
    refine am_e_cmpT n105_8 (am_c_geT hb1) t105_8 ?_
    refine am_e_iconst (w := (-1)) n105_14 rfl ?_
    refine am_e_iret c105_15 rfl rfl rfl ?_
    refine am_e_cmpT n136_309 (am_c_eqT (by decide)) t136_309 ?_
    exact K _
theorem am_op10 {lk : List Value → List am_k → am_H → Option am_O} {xs : Nat → Int32} {h : am_H} {Q : Option Value → List am_k → am_H → Prop} {a1 : Int32} {a2 : Int32} {a3 : Int32} {a4 : Int32} {a5 : Int32} (hT : am_T h) (hx1 : xs 1 = a1) (hx2 : xs 2 = a2) (hx3 : xs 3 = a3) (hx4 : xs 4 = a4) (hx5 : xs 5 = a5) (K : ∀ h', am_Ek false (am_P1 (some (6, xs)) lk) am_m136 841 [(4, .int 0), (3, .ref 202), (2, .ref 164), (1, .ref 0), (0, .retAddr 0)] [] am_ks0 h' 203 4392 Q) : am_Ek false (am_P1 (some (6, xs)) lk) am_m136 312 [(4, .int 0), (3, .ref 202), (2, .ref 164), (1, .ref 0), (0, .retAddr 0)] [] am_ks0 h 203 4392 Q := by
  refine am_e_aload_n n136_312 rfl ?_
  refine am_e_callV (L := [(0, .ref 0)]) n136_313 rfl rfl rfl rfl rfl rfl rfl rfl ?_
  refine am_e_aload_n n44_0 rfl ?_
  refine am_e_getf (v := .ref 2) n44_1 rfl (f0_2 (h := h) hT) ?_
  refine am_e_getf (v := .int (-1)) n44_2 rfl (f2_18 (h := h) hT) ?_
  refine am_e_iret c44_3 rfl rfl rfl ?_
  refine am_e_aload_n n136_314 rfl ?_
  refine am_e_callV (L := [(0, .ref 164)]) n136_315 rfl rfl rfl rfl rfl rfl rfl rfl ?_
  refine am_e_aload_n n106_0 rfl ?_
  refine am_e_iconst (w := 0) n106_1 rfl ?_
  refine am_e_putf n106_2 rfl rfl ?_
  refine am_e_aload_n n106_3 rfl ?_
  refine am_e_getf (v := .int (-1)) n106_4 rfl (f164_58 (h := h) hT) ?_
  refine am_e_iret c106_5 rfl rfl rfl ?_
  refine am_e_cmpT n136_316 (am_c_eqT (by decide)) t136_316 ?_
  exact K _
theorem am_op11 {lk : List Value → List am_k → am_H → Option am_O} {xs : Nat → Int32} {h : am_H} {Q : Option Value → List am_k → am_H → Prop} {a1 : Int32} {a2 : Int32} {a3 : Int32} {a4 : Int32} {a5 : Int32} (hT : am_T h) (hx1 : xs 1 = a1) (hx2 : xs 2 = a2) (hx3 : xs 3 = a3) (hx4 : xs 4 = a4) (hx5 : xs 5 = a5) (K : ∀ h', am_Ek false (am_P1 (some (6, xs)) lk) am_m136 841 [(4, .int 0), (3, .ref 202), (2, .ref 164), (1, .ref 0), (0, .retAddr 0)] [] am_ks0 h' 203 4392 Q) : am_Ek false (am_P1 (some (6, xs)) lk) am_m136 319 [(4, .int 0), (3, .ref 202), (2, .ref 164), (1, .ref 0), (0, .retAddr 0)] [] am_ks0 h 203 4392 Q := by
  refine am_e_aload_n n136_319 rfl ?_
  refine am_e_sload_n n136_320 rfl ?_
  refine am_e_iload n136_321 rfl ?_
  refine am_e_iconst (w := 1) n136_322 rfl ?_
  refine am_e_iadd (w := 1) n136_323 (by decide) ?_
  refine am_e_sald1 n136_324 rfl (by decide) (by decide) hx1 ?_
  refine am_e_callV (L := [(0, .ref 0), (1, .int a1)]) n136_325 rfl rfl rfl rfl rfl rfl rfl rfl ?_
  refine am_e_aload_n n45_0 rfl ?_
  refine am_e_getf (v := .ref 2) n45_1 rfl (f0_2 (h := h) hT) ?_
  refine am_e_getf (v := .int 0) n45_2 rfl (f2_4 (h := h) hT) ?_
  refine am_e_ifT n45_3 (am_c_eqT (by decide)) t45_3 ?_
  refine am_e_iconst (w := (-1)) n45_9 rfl ?_
  refine am_e_iret c45_10 rfl rfl rfl ?_
  refine am_e_aload_n n136_326 rfl ?_
  refine am_e_sload_n n136_327 rfl ?_
  refine am_e_iload n136_328 rfl ?_
  refine am_e_iconst (w := 1) n136_329 rfl ?_
  refine am_e_iadd (w := 1) n136_330 (by decide) ?_
  refine am_e_sald1 n136_331 rfl (by decide) (by decide) hx1 ?_
  refine am_e_callV (L := [(0, .ref 164), (1, .int a1)]) n136_332 rfl rfl rfl rfl rfl rfl rfl rfl ?_
  refine am_e_aload_n n107_0 rfl ?_
  refine am_e_iconst (w := 0) n107_1 rfl ?_
  refine am_e_putf n107_2 rfl rfl ?_
  refine am_e_aload_n n107_3 rfl ?_
  refine am_e_getf (v := .int 0) n107_4 rfl (f164_13 (h := h) hT) ?_
  refine am_e_ifT n107_5 (am_c_eqT (by decide)) t107_5 ?_
  refine am_e_iconst (w := (-1)) n107_11 rfl ?_
  refine am_e_iret c107_12 rfl rfl rfl ?_
  refine am_e_cmpT n136_333 (am_c_eqT (by decide)) t136_333 ?_
  exact K _
theorem am_op12 {lk : List Value → List am_k → am_H → Option am_O} {xs : Nat → Int32} {h : am_H} {Q : Option Value → List am_k → am_H → Prop} {a1 : Int32} {a2 : Int32} {a3 : Int32} {a4 : Int32} {a5 : Int32} (hT : am_T h) (hx1 : xs 1 = a1) (hx2 : xs 2 = a2) (hx3 : xs 3 = a3) (hx4 : xs 4 = a4) (hx5 : xs 5 = a5) (K : ∀ h', am_Ek false (am_P1 (some (6, xs)) lk) am_m136 841 [(4, .int 0), (3, .ref 202), (2, .ref 164), (1, .ref 0), (0, .retAddr 0)] [] am_ks0 h' 203 4392 Q) : am_Ek false (am_P1 (some (6, xs)) lk) am_m136 336 [(4, .int 0), (3, .ref 202), (2, .ref 164), (1, .ref 0), (0, .retAddr 0)] [] am_ks0 h 203 4392 Q := by
  refine am_e_aload_n n136_336 rfl ?_
  refine am_e_sload_n n136_337 rfl ?_
  refine am_e_iload n136_338 rfl ?_
  refine am_e_iconst (w := 1) n136_339 rfl ?_
  refine am_e_iadd (w := 1) n136_340 (by decide) ?_
  refine am_e_sald1 n136_341 rfl (by decide) (by decide) hx1 ?_
  refine am_e_sload_n n136_342 rfl ?_
  refine am_e_iload n136_343 rfl ?_
  refine am_e_iconst (w := 2) n136_344 rfl ?_
  refine am_e_iadd (w := 2) n136_345 (by decide) ?_
  refine am_e_sald1 n136_346 rfl (by decide) (by decide) hx2 ?_
  refine am_e_callV (L := [(0, .ref 0), (1, .int a1), (2, .int a2)]) n136_347 rfl rfl rfl rfl rfl rfl rfl rfl ?_
  refine am_e_iload_n n46_0 rfl ?_
  refine am_e_iconst (w := 1) n46_1 rfl ?_
  refine am_e_iconst (w := 2) n46_2 rfl ?_
  refine am_e_callS (L := [(0, .int a1), (1, .int 1), (2, .int 2)]) n46_3 rfl rfl rfl rfl rfl rfl rfl ?_
  refine am_e_iload_n n30_0 rfl ?_
  refine am_e_iload_n n30_1 rfl ?_
  by_cases hb1 : (a1 : Int32) < 1
  · refine am_e_cmpT n30_2 (am_c_ltT hb1) t30_2 ?_
    refine am_e_iconst (w := 0) n30_8 rfl ?_
    refine am_e_iret c30_9 rfl rfl rfl ?_
    refine am_e_ifT n46_4 (am_c_eqT (by decide)) t46_4 ?_
    refine am_e_iconst (w := (-1)) n46_11 rfl ?_
    refine am_e_iret c46_12 rfl rfl rfl ?_
    refine am_e_aload_n n136_348 rfl ?_
    refine am_e_sload_n n136_349 rfl ?_
    refine am_e_iload n136_350 rfl ?_
    refine am_e_iconst (w := 1) n136_351 rfl ?_
    refine am_e_iadd (w := 1) n136_352 (by decide) ?_
    refine am_e_sald1 n136_353 rfl (by decide) (by decide) hx1 ?_
    refine am_e_sload_n n136_354 rfl ?_
    refine am_e_iload n136_355 rfl ?_
    refine am_e_iconst (w := 2) n136_356 rfl ?_
    refine am_e_iadd (w := 2) n136_357 (by decide) ?_
    refine am_e_sald1 n136_358 rfl (by decide) (by decide) hx2 ?_
    refine am_e_callV (L := [(0, .ref 164), (1, .int a1), (2, .int a2)]) n136_359 rfl rfl rfl rfl rfl rfl rfl rfl ?_
    refine am_e_aload_n n108_0 rfl ?_
    refine am_e_iconst (w := 0) n108_1 rfl ?_
    refine am_e_putf n108_2 rfl rfl ?_
    refine am_e_iload_n n108_3 rfl ?_
    refine am_e_iconst (w := 1) n108_4 rfl ?_
    refine am_e_iconst (w := 2) n108_5 rfl ?_
    refine am_e_callS (L := [(0, .int a1), (1, .int 1), (2, .int 2)]) n108_6 rfl rfl rfl rfl rfl rfl rfl ?_
    refine am_e_iload_n n87_0 rfl ?_
    refine am_e_iload_n n87_1 rfl ?_
    refine am_e_cmpT n87_2 (am_c_ltT hb1) t87_2 ?_
    refine am_e_iconst (w := 0) n87_8 rfl ?_
    refine am_e_iret c87_9 rfl rfl rfl ?_
    refine am_e_ifT n108_7 (am_c_eqT (by decide)) t108_7 ?_
    refine am_e_iconst (w := (-1)) n108_13 rfl ?_
    refine am_e_iret c108_14 rfl rfl rfl ?_
    refine am_e_cmpT n136_360 (am_c_eqT (by decide)) t136_360 ?_
    exact K _
  · refine am_e_cmpF n30_2 (am_c_ltF hb1) ?_
    refine am_e_iload_n n30_3 rfl ?_
    refine am_e_iload_n n30_4 rfl ?_
    by_cases hb2 : (2 : Int32) < a1
    · refine am_e_cmpT n30_5 (am_c_gtT hb2) t30_5 ?_
      refine am_e_iconst (w := 0) n30_8 rfl ?_
      refine am_e_iret c30_9 rfl rfl rfl ?_
      refine am_e_ifT n46_4 (am_c_eqT (by decide)) t46_4 ?_
      refine am_e_iconst (w := (-1)) n46_11 rfl ?_
      refine am_e_iret c46_12 rfl rfl rfl ?_
      refine am_e_aload_n n136_348 rfl ?_
      refine am_e_sload_n n136_349 rfl ?_
      refine am_e_iload n136_350 rfl ?_
      refine am_e_iconst (w := 1) n136_351 rfl ?_
      refine am_e_iadd (w := 1) n136_352 (by decide) ?_
      refine am_e_sald1 n136_353 rfl (by decide) (by decide) hx1 ?_
      refine am_e_sload_n n136_354 rfl ?_
      refine am_e_iload n136_355 rfl ?_
      refine am_e_iconst (w := 2) n136_356 rfl ?_
      refine am_e_iadd (w := 2) n136_357 (by decide) ?_
      refine am_e_sald1 n136_358 rfl (by decide) (by decide) hx2 ?_
      refine am_e_callV (L := [(0, .ref 164), (1, .int a1), (2, .int a2)]) n136_359 rfl rfl rfl rfl rfl rfl rfl rfl ?_
      refine am_e_aload_n n108_0 rfl ?_
      refine am_e_iconst (w := 0) n108_1 rfl ?_
      refine am_e_putf n108_2 rfl rfl ?_
      refine am_e_iload_n n108_3 rfl ?_
      refine am_e_iconst (w := 1) n108_4 rfl ?_
      refine am_e_iconst (w := 2) n108_5 rfl ?_
      refine am_e_callS (L := [(0, .int a1), (1, .int 1), (2, .int 2)]) n108_6 rfl rfl rfl rfl rfl rfl rfl ?_
      refine am_e_iload_n n87_0 rfl ?_
      refine am_e_iload_n n87_1 rfl ?_
      refine am_e_cmpF n87_2 (am_c_ltF hb1) ?_
      refine am_e_iload_n n87_3 rfl ?_
      refine am_e_iload_n n87_4 rfl ?_
      refine am_e_cmpT n87_5 (am_c_gtT hb2) t87_5 ?_
      refine am_e_iconst (w := 0) n87_8 rfl ?_
      refine am_e_iret c87_9 rfl rfl rfl ?_
      refine am_e_ifT n108_7 (am_c_eqT (by decide)) t108_7 ?_
      refine am_e_iconst (w := (-1)) n108_13 rfl ?_
      refine am_e_iret c108_14 rfl rfl rfl ?_
      refine am_e_cmpT n136_360 (am_c_eqT (by decide)) t136_360 ?_
      exact K _
    · refine am_e_cmpF n30_5 (am_c_gtF hb2) ?_
      refine am_e_iconst (w := 1) n30_6 rfl ?_
      refine am_e_goto c30_7 t30_7 ?_
      refine am_e_iret c30_9 rfl rfl rfl ?_
      refine am_e_ifF n46_4 (am_c_eqF (by decide)) ?_
      refine am_e_iload_n n46_5 rfl ?_
      by_cases hb3 : (a2 : Int32) < 0
      · refine am_e_ifT n46_6 (am_c_ltT hb3) t46_6 ?_
        refine am_e_iconst (w := (-1)) n46_11 rfl ?_
        refine am_e_iret c46_12 rfl rfl rfl ?_
        refine am_e_aload_n n136_348 rfl ?_
        refine am_e_sload_n n136_349 rfl ?_
        refine am_e_iload n136_350 rfl ?_
        refine am_e_iconst (w := 1) n136_351 rfl ?_
        refine am_e_iadd (w := 1) n136_352 (by decide) ?_
        refine am_e_sald1 n136_353 rfl (by decide) (by decide) hx1 ?_
        refine am_e_sload_n n136_354 rfl ?_
        refine am_e_iload n136_355 rfl ?_
        refine am_e_iconst (w := 2) n136_356 rfl ?_
        refine am_e_iadd (w := 2) n136_357 (by decide) ?_
        refine am_e_sald1 n136_358 rfl (by decide) (by decide) hx2 ?_
        refine am_e_callV (L := [(0, .ref 164), (1, .int a1), (2, .int a2)]) n136_359 rfl rfl rfl rfl rfl rfl rfl rfl ?_
        refine am_e_aload_n n108_0 rfl ?_
        refine am_e_iconst (w := 0) n108_1 rfl ?_
        refine am_e_putf n108_2 rfl rfl ?_
        refine am_e_iload_n n108_3 rfl ?_
        refine am_e_iconst (w := 1) n108_4 rfl ?_
        refine am_e_iconst (w := 2) n108_5 rfl ?_
        refine am_e_callS (L := [(0, .int a1), (1, .int 1), (2, .int 2)]) n108_6 rfl rfl rfl rfl rfl rfl rfl ?_
        refine am_e_iload_n n87_0 rfl ?_
        refine am_e_iload_n n87_1 rfl ?_
        refine am_e_cmpF n87_2 (am_c_ltF hb1) ?_
        refine am_e_iload_n n87_3 rfl ?_
        refine am_e_iload_n n87_4 rfl ?_
        refine am_e_cmpF n87_5 (am_c_gtF hb2) ?_
        refine am_e_iconst (w := 1) n87_6 rfl ?_
        refine am_e_goto c87_7 t87_7 ?_
        refine am_e_iret c87_9 rfl rfl rfl ?_
        refine am_e_ifF n108_7 (am_c_eqF (by decide)) ?_
        refine am_e_iload_n n108_8 rfl ?_
        refine am_e_ifT n108_9 (am_c_ltT hb3) t108_9 ?_
        refine am_e_iconst (w := (-1)) n108_13 rfl ?_
        refine am_e_iret c108_14 rfl rfl rfl ?_
        refine am_e_cmpT n136_360 (am_c_eqT (by decide)) t136_360 ?_
        exact K _
      · refine am_e_ifF n46_6 (am_c_ltF hb3) ?_
        refine am_e_aload_n n46_7 rfl ?_
        refine am_e_getf (v := .ref 2) n46_8 rfl (f0_2 (h := h) hT) ?_
        refine am_e_getf (v := .int 0) n46_9 rfl (f2_2 (h := h) hT) ?_
        refine am_e_ifF n46_10 (am_c_neF (by decide)) ?_
        refine am_e_iconst (w := (-1)) n46_11 rfl ?_
        refine am_e_iret c46_12 rfl rfl rfl ?_
        refine am_e_aload_n n136_348 rfl ?_
        refine am_e_sload_n n136_349 rfl ?_
        refine am_e_iload n136_350 rfl ?_
        refine am_e_iconst (w := 1) n136_351 rfl ?_
        refine am_e_iadd (w := 1) n136_352 (by decide) ?_
        refine am_e_sald1 n136_353 rfl (by decide) (by decide) hx1 ?_
        refine am_e_sload_n n136_354 rfl ?_
        refine am_e_iload n136_355 rfl ?_
        refine am_e_iconst (w := 2) n136_356 rfl ?_
        refine am_e_iadd (w := 2) n136_357 (by decide) ?_
        refine am_e_sald1 n136_358 rfl (by decide) (by decide) hx2 ?_
        refine am_e_callV (L := [(0, .ref 164), (1, .int a1), (2, .int a2)]) n136_359 rfl rfl rfl rfl rfl rfl rfl rfl ?_
        refine am_e_aload_n n108_0 rfl ?_
        refine am_e_iconst (w := 0) n108_1 rfl ?_
        refine am_e_putf n108_2 rfl rfl ?_
        refine am_e_iload_n n108_3 rfl ?_
        refine am_e_iconst (w := 1) n108_4 rfl ?_
        refine am_e_iconst (w := 2) n108_5 rfl ?_
        refine am_e_callS (L := [(0, .int a1), (1, .int 1), (2, .int 2)]) n108_6 rfl rfl rfl rfl rfl rfl rfl ?_
        refine am_e_iload_n n87_0 rfl ?_
        refine am_e_iload_n n87_1 rfl ?_
        refine am_e_cmpF n87_2 (am_c_ltF hb1) ?_
        refine am_e_iload_n n87_3 rfl ?_
        refine am_e_iload_n n87_4 rfl ?_
        refine am_e_cmpF n87_5 (am_c_gtF hb2) ?_
        refine am_e_iconst (w := 1) n87_6 rfl ?_
        refine am_e_goto c87_7 t87_7 ?_
        refine am_e_iret c87_9 rfl rfl rfl ?_
        refine am_e_ifF n108_7 (am_c_eqF (by decide)) ?_
        refine am_e_iload_n n108_8 rfl ?_
        refine am_e_ifF n108_9 (am_c_ltF hb3) ?_
        refine am_e_aload_n n108_10 rfl ?_
        refine am_e_getf (v := .int 0) n108_11 rfl (f164_12 (h := h) hT) ?_
        refine am_e_ifF n108_12 (am_c_neF (by decide)) ?_
        refine am_e_iconst (w := (-1)) n108_13 rfl ?_
        refine am_e_iret c108_14 rfl rfl rfl ?_
        refine am_e_cmpT n136_360 (am_c_eqT (by decide)) t136_360 ?_
        exact K _
theorem am_op15 {lk : List Value → List am_k → am_H → Option am_O} {xs : Nat → Int32} {h : am_H} {Q : Option Value → List am_k → am_H → Prop} {a1 : Int32} {a2 : Int32} {a3 : Int32} {a4 : Int32} {a5 : Int32} (hT : am_T h) (hx1 : xs 1 = a1) (hx2 : xs 2 = a2) (hx3 : xs 3 = a3) (hx4 : xs 4 = a4) (hx5 : xs 5 = a5) (K : ∀ h', am_Ek false (am_P1 (some (6, xs)) lk) am_m136 841 [(4, .int 0), (3, .ref 202), (2, .ref 164), (1, .ref 0), (0, .retAddr 0)] [] am_ks0 h' 203 4392 Q) : am_Ek false (am_P1 (some (6, xs)) lk) am_m136 417 [(4, .int 0), (3, .ref 202), (2, .ref 164), (1, .ref 0), (0, .retAddr 0)] [] am_ks0 h 203 4392 Q := by
  refine am_e_aload_n n136_417 rfl ?_
  refine am_e_sload_n n136_418 rfl ?_
  refine am_e_iload n136_419 rfl ?_
  refine am_e_iconst (w := 1) n136_420 rfl ?_
  refine am_e_iadd (w := 1) n136_421 (by decide) ?_
  refine am_e_sald1 n136_422 rfl (by decide) (by decide) hx1 ?_
  refine am_e_sload_n n136_423 rfl ?_
  refine am_e_iload n136_424 rfl ?_
  refine am_e_iconst (w := 2) n136_425 rfl ?_
  refine am_e_iadd (w := 2) n136_426 (by decide) ?_
  refine am_e_sald1 n136_427 rfl (by decide) (by decide) hx2 ?_
  refine am_e_sload_n n136_428 rfl ?_
  refine am_e_iload n136_429 rfl ?_
  refine am_e_iconst (w := 3) n136_430 rfl ?_
  refine am_e_iadd (w := 3) n136_431 (by decide) ?_
  refine am_e_sald1 n136_432 rfl (by decide) (by decide) hx3 ?_
  refine am_e_callV (L := [(0, .ref 0), (1, .int a1), (2, .int a2), (3, .int a3)]) n136_433 rfl rfl rfl rfl rfl rfl rfl rfl ?_
  refine am_e_aload_n n50_0 rfl ?_
  refine am_e_iload_n n50_1 rfl ?_
  refine am_e_callV (L := [(0, .ref 0), (1, .int a1)]) n50_2 rfl rfl rfl rfl rfl rfl rfl rfl ?_
  refine am_e_iload_n n37_0 rfl ?_
  by_cases hb1 : (a1 : Int32) < 0
  · refine am_e_ifT n37_1 (am_c_ltT hb1) t37_1 ?_
    refine am_e_iconst (w := 0) n37_9 rfl ?_
    refine am_e_iret c37_10 rfl rfl rfl ?_
    refine am_e_ifT n50_3 (am_c_eqT (by decide)) t50_3 ?_
    refine am_e_iconst (w := (-1)) n50_8 rfl ?_
    refine am_e_iret c50_9 rfl rfl rfl ?_
    refine am_e_aload_n n136_434 rfl ?_
    refine am_e_sload_n n136_435 rfl ?_
    refine am_e_iload n136_436 rfl ?_
    refine am_e_iconst (w := 1) n136_437 rfl ?_
    refine am_e_iadd (w := 1) n136_438 (by decide) ?_
    refine am_e_sald1 n136_439 rfl (by decide) (by decide) hx1 ?_
    refine am_e_sload_n n136_440 rfl ?_
    refine am_e_iload n136_441 rfl ?_
    refine am_e_iconst (w := 2) n136_442 rfl ?_
    refine am_e_iadd (w := 2) n136_443 (by decide) ?_
    refine am_e_sald1 n136_444 rfl (by decide) (by decide) hx2 ?_
    refine am_e_sload_n n136_445 rfl ?_
    refine am_e_iload n136_446 rfl ?_
    refine am_e_iconst (w := 3) n136_447 rfl ?_
    refine am_e_iadd (w := 3) n136_448 (by decide) ?_
    refine am_e_sald1 n136_449 rfl (by decide) (by decide) hx3 ?_
    refine am_e_callV (L := [(0, .ref 164), (1, .int a1), (2, .int a2), (3, .int a3)]) n136_450 rfl rfl rfl rfl rfl rfl rfl rfl ?_
    refine am_e_aload_n n112_0 rfl ?_
    refine am_e_iconst (w := 0) n112_1 rfl ?_
    refine am_e_putf n112_2 rfl rfl ?_
    refine am_e_aload_n n112_3 rfl ?_
    refine am_e_iload_n n112_4 rfl ?_
    refine am_e_callV (L := [(0, .ref 164), (1, .int a1)]) n112_5 rfl rfl rfl rfl rfl rfl rfl rfl ?_
    refine am_e_iload_n n91_0 rfl ?_
    refine am_e_ifT n91_1 (am_c_ltT hb1) t91_1 ?_
    refine am_e_iconst (w := 0) n91_8 rfl ?_
    refine am_e_iret c91_9 rfl rfl rfl ?_
    refine am_e_ifT n112_6 (am_c_eqT (by decide)) t112_6 ?_
    refine am_e_iconst (w := (-1)) n112_11 rfl ?_
    refine am_e_iret c112_12 rfl rfl rfl ?_
    refine am_e_cmpT n136_451 (am_c_eqT (by decide)) t136_451 ?_
    exact K _
  · refine am_e_ifF n37_1 (am_c_ltF hb1) ?_
    refine am_e_iload_n n37_2 rfl ?_
    refine am_e_aload_n n37_3 rfl ?_
    refine am_e_getf (v := .ref 2) n37_4 rfl (f0_2 (h := h) hT) ?_
    refine am_e_getf (v := .int 0) n37_5 rfl (f2_2 (h := h) hT) ?_
    refine am_e_cmpT n37_6 (am_c_geT hb1) t37_6 ?_
    refine am_e_iconst (w := 0) n37_9 rfl ?_
    refine am_e_iret c37_10 rfl rfl rfl ?_
    refine am_e_ifT n50_3 (am_c_eqT (by decide)) t50_3 ?_
    refine am_e_iconst (w := (-1)) n50_8 rfl ?_
    refine am_e_iret c50_9 rfl rfl rfl ?_
    refine am_e_aload_n n136_434 rfl ?_
    refine am_e_sload_n n136_435 rfl ?_
    refine am_e_iload n136_436 rfl ?_
    refine am_e_iconst (w := 1) n136_437 rfl ?_
    refine am_e_iadd (w := 1) n136_438 (by decide) ?_
    refine am_e_sald1 n136_439 rfl (by decide) (by decide) hx1 ?_
    refine am_e_sload_n n136_440 rfl ?_
    refine am_e_iload n136_441 rfl ?_
    refine am_e_iconst (w := 2) n136_442 rfl ?_
    refine am_e_iadd (w := 2) n136_443 (by decide) ?_
    refine am_e_sald1 n136_444 rfl (by decide) (by decide) hx2 ?_
    refine am_e_sload_n n136_445 rfl ?_
    refine am_e_iload n136_446 rfl ?_
    refine am_e_iconst (w := 3) n136_447 rfl ?_
    refine am_e_iadd (w := 3) n136_448 (by decide) ?_
    refine am_e_sald1 n136_449 rfl (by decide) (by decide) hx3 ?_
    refine am_e_callV (L := [(0, .ref 164), (1, .int a1), (2, .int a2), (3, .int a3)]) n136_450 rfl rfl rfl rfl rfl rfl rfl rfl ?_
    refine am_e_aload_n n112_0 rfl ?_
    refine am_e_iconst (w := 0) n112_1 rfl ?_
    refine am_e_putf n112_2 rfl rfl ?_
    refine am_e_aload_n n112_3 rfl ?_
    refine am_e_iload_n n112_4 rfl ?_
    refine am_e_callV (L := [(0, .ref 164), (1, .int a1)]) n112_5 rfl rfl rfl rfl rfl rfl rfl rfl ?_
    refine am_e_iload_n n91_0 rfl ?_
    refine am_e_ifF n91_1 (am_c_ltF hb1) ?_
    refine am_e_iload_n n91_2 rfl ?_
    refine am_e_aload_n n91_3 rfl ?_
    refine am_e_getf (v := .int 0) n91_4 rfl (f164_12 (h := h) hT) ?_
    refine am_e_cmpT n91_5 (am_c_geT hb1) t91_5 ?_
    refine am_e_iconst (w := 0) n91_8 rfl ?_
    refine am_e_iret c91_9 rfl rfl rfl ?_
    refine am_e_ifT n112_6 (am_c_eqT (by decide)) t112_6 ?_
    refine am_e_iconst (w := (-1)) n112_11 rfl ?_
    refine am_e_iret c112_12 rfl rfl rfl ?_
    refine am_e_cmpT n136_451 (am_c_eqT (by decide)) t136_451 ?_
    exact K _
theorem am_op16 {lk : List Value → List am_k → am_H → Option am_O} {xs : Nat → Int32} {h : am_H} {Q : Option Value → List am_k → am_H → Prop} {a1 : Int32} {a2 : Int32} {a3 : Int32} {a4 : Int32} {a5 : Int32} (hT : am_T h) (hx1 : xs 1 = a1) (hx2 : xs 2 = a2) (hx3 : xs 3 = a3) (hx4 : xs 4 = a4) (hx5 : xs 5 = a5) (K : ∀ h', am_Ek false (am_P1 (some (6, xs)) lk) am_m136 841 [(4, .int 0), (3, .ref 202), (2, .ref 164), (1, .ref 0), (0, .retAddr 0)] [] am_ks0 h' 203 4392 Q) : am_Ek false (am_P1 (some (6, xs)) lk) am_m136 454 [(4, .int 0), (3, .ref 202), (2, .ref 164), (1, .ref 0), (0, .retAddr 0)] [] am_ks0 h 203 4392 Q := by
  refine am_e_aload_n n136_454 rfl ?_
  refine am_e_sload_n n136_455 rfl ?_
  refine am_e_iload n136_456 rfl ?_
  refine am_e_iconst (w := 1) n136_457 rfl ?_
  refine am_e_iadd (w := 1) n136_458 (by decide) ?_
  refine am_e_sald1 n136_459 rfl (by decide) (by decide) hx1 ?_
  refine am_e_sload_n n136_460 rfl ?_
  refine am_e_iload n136_461 rfl ?_
  refine am_e_iconst (w := 2) n136_462 rfl ?_
  refine am_e_iadd (w := 2) n136_463 (by decide) ?_
  refine am_e_sald1 n136_464 rfl (by decide) (by decide) hx2 ?_
  refine am_e_sload_n n136_465 rfl ?_
  refine am_e_iload n136_466 rfl ?_
  refine am_e_iconst (w := 3) n136_467 rfl ?_
  refine am_e_iadd (w := 3) n136_468 (by decide) ?_
  refine am_e_sald1 n136_469 rfl (by decide) (by decide) hx3 ?_
  refine am_e_sload_n n136_470 rfl ?_
  refine am_e_iload n136_471 rfl ?_
  refine am_e_iconst (w := 4) n136_472 rfl ?_
  refine am_e_iadd (w := 4) n136_473 (by decide) ?_
  refine am_e_sald1 n136_474 rfl (by decide) (by decide) hx4 ?_
  refine am_e_callV (L := [(0, .ref 0), (1, .int a1), (2, .int a2), (3, .int a3), (4, .int a4)]) n136_475 rfl rfl rfl rfl rfl rfl rfl rfl ?_
  refine am_e_aload_n n52_0 rfl ?_
  refine am_e_iload_n n52_1 rfl ?_
  refine am_e_callV (L := [(0, .ref 0), (1, .int a1)]) n52_2 rfl rfl rfl rfl rfl rfl rfl rfl ?_
  refine am_e_iload_n n37_0 rfl ?_
  by_cases hb1 : (a1 : Int32) < 0
  · refine am_e_ifT n37_1 (am_c_ltT hb1) t37_1 ?_
    refine am_e_iconst (w := 0) n37_9 rfl ?_
    refine am_e_iret c37_10 rfl rfl rfl ?_
    refine am_e_ifT n52_3 (am_c_eqT (by decide)) t52_3 ?_
    refine am_e_iconst (w := (-1)) n52_10 rfl ?_
    refine am_e_iret c52_11 rfl rfl rfl ?_
    refine am_e_aload_n n136_476 rfl ?_
    refine am_e_sload_n n136_477 rfl ?_
    refine am_e_iload n136_478 rfl ?_
    refine am_e_iconst (w := 1) n136_479 rfl ?_
    refine am_e_iadd (w := 1) n136_480 (by decide) ?_
    refine am_e_sald1 n136_481 rfl (by decide) (by decide) hx1 ?_
    refine am_e_sload_n n136_482 rfl ?_
    refine am_e_iload n136_483 rfl ?_
    refine am_e_iconst (w := 2) n136_484 rfl ?_
    refine am_e_iadd (w := 2) n136_485 (by decide) ?_
    refine am_e_sald1 n136_486 rfl (by decide) (by decide) hx2 ?_
    refine am_e_sload_n n136_487 rfl ?_
    refine am_e_iload n136_488 rfl ?_
    refine am_e_iconst (w := 3) n136_489 rfl ?_
    refine am_e_iadd (w := 3) n136_490 (by decide) ?_
    refine am_e_sald1 n136_491 rfl (by decide) (by decide) hx3 ?_
    refine am_e_sload_n n136_492 rfl ?_
    refine am_e_iload n136_493 rfl ?_
    refine am_e_iconst (w := 4) n136_494 rfl ?_
    refine am_e_iadd (w := 4) n136_495 (by decide) ?_
    refine am_e_sald1 n136_496 rfl (by decide) (by decide) hx4 ?_
    refine am_e_callV (L := [(0, .ref 164), (1, .int a1), (2, .int a2), (3, .int a3), (4, .int a4)]) n136_497 rfl rfl rfl rfl rfl rfl rfl rfl ?_
    refine am_e_aload_n n114_0 rfl ?_
    refine am_e_iconst (w := 0) n114_1 rfl ?_
    refine am_e_putf n114_2 rfl rfl ?_
    refine am_e_aload_n n114_3 rfl ?_
    refine am_e_iload_n n114_4 rfl ?_
    refine am_e_callV (L := [(0, .ref 164), (1, .int a1)]) n114_5 rfl rfl rfl rfl rfl rfl rfl rfl ?_
    refine am_e_iload_n n91_0 rfl ?_
    refine am_e_ifT n91_1 (am_c_ltT hb1) t91_1 ?_
    refine am_e_iconst (w := 0) n91_8 rfl ?_
    refine am_e_iret c91_9 rfl rfl rfl ?_
    refine am_e_ifT n114_6 (am_c_eqT (by decide)) t114_6 ?_
    refine am_e_iconst (w := (-1)) n114_13 rfl ?_
    refine am_e_iret c114_14 rfl rfl rfl ?_
    refine am_e_cmpT n136_498 (am_c_eqT (by decide)) t136_498 ?_
    exact K _
  · refine am_e_ifF n37_1 (am_c_ltF hb1) ?_
    refine am_e_iload_n n37_2 rfl ?_
    refine am_e_aload_n n37_3 rfl ?_
    refine am_e_getf (v := .ref 2) n37_4 rfl (f0_2 (h := h) hT) ?_
    refine am_e_getf (v := .int 0) n37_5 rfl (f2_2 (h := h) hT) ?_
    refine am_e_cmpT n37_6 (am_c_geT hb1) t37_6 ?_
    refine am_e_iconst (w := 0) n37_9 rfl ?_
    refine am_e_iret c37_10 rfl rfl rfl ?_
    refine am_e_ifT n52_3 (am_c_eqT (by decide)) t52_3 ?_
    refine am_e_iconst (w := (-1)) n52_10 rfl ?_
    refine am_e_iret c52_11 rfl rfl rfl ?_
    refine am_e_aload_n n136_476 rfl ?_
    refine am_e_sload_n n136_477 rfl ?_
    refine am_e_iload n136_478 rfl ?_
    refine am_e_iconst (w := 1) n136_479 rfl ?_
    refine am_e_iadd (w := 1) n136_480 (by decide) ?_
    refine am_e_sald1 n136_481 rfl (by decide) (by decide) hx1 ?_
    refine am_e_sload_n n136_482 rfl ?_
    refine am_e_iload n136_483 rfl ?_
    refine am_e_iconst (w := 2) n136_484 rfl ?_
    refine am_e_iadd (w := 2) n136_485 (by decide) ?_
    refine am_e_sald1 n136_486 rfl (by decide) (by decide) hx2 ?_
    refine am_e_sload_n n136_487 rfl ?_
    refine am_e_iload n136_488 rfl ?_
    refine am_e_iconst (w := 3) n136_489 rfl ?_
    refine am_e_iadd (w := 3) n136_490 (by decide) ?_
    refine am_e_sald1 n136_491 rfl (by decide) (by decide) hx3 ?_
    refine am_e_sload_n n136_492 rfl ?_
    refine am_e_iload n136_493 rfl ?_
    refine am_e_iconst (w := 4) n136_494 rfl ?_
    refine am_e_iadd (w := 4) n136_495 (by decide) ?_
    refine am_e_sald1 n136_496 rfl (by decide) (by decide) hx4 ?_
    refine am_e_callV (L := [(0, .ref 164), (1, .int a1), (2, .int a2), (3, .int a3), (4, .int a4)]) n136_497 rfl rfl rfl rfl rfl rfl rfl rfl ?_
    refine am_e_aload_n n114_0 rfl ?_
    refine am_e_iconst (w := 0) n114_1 rfl ?_
    refine am_e_putf n114_2 rfl rfl ?_
    refine am_e_aload_n n114_3 rfl ?_
    refine am_e_iload_n n114_4 rfl ?_
    refine am_e_callV (L := [(0, .ref 164), (1, .int a1)]) n114_5 rfl rfl rfl rfl rfl rfl rfl rfl ?_
    refine am_e_iload_n n91_0 rfl ?_
    refine am_e_ifF n91_1 (am_c_ltF hb1) ?_
    refine am_e_iload_n n91_2 rfl ?_
    refine am_e_aload_n n91_3 rfl ?_
    refine am_e_getf (v := .int 0) n91_4 rfl (f164_12 (h := h) hT) ?_
    refine am_e_cmpT n91_5 (am_c_geT hb1) t91_5 ?_
    refine am_e_iconst (w := 0) n91_8 rfl ?_
    refine am_e_iret c91_9 rfl rfl rfl ?_
    refine am_e_ifT n114_6 (am_c_eqT (by decide)) t114_6 ?_
    refine am_e_iconst (w := (-1)) n114_13 rfl ?_
    refine am_e_iret c114_14 rfl rfl rfl ?_
    refine am_e_cmpT n136_498 (am_c_eqT (by decide)) t136_498 ?_
    exact K _
theorem am_op18 {lk : List Value → List am_k → am_H → Option am_O} {xs : Nat → Int32} {h : am_H} {Q : Option Value → List am_k → am_H → Prop} {a1 : Int32} {a2 : Int32} {a3 : Int32} {a4 : Int32} {a5 : Int32} (hT : am_T h) (hx1 : xs 1 = a1) (hx2 : xs 2 = a2) (hx3 : xs 3 = a3) (hx4 : xs 4 = a4) (hx5 : xs 5 = a5) (K : ∀ h', am_Ek false (am_P1 (some (6, xs)) lk) am_m136 841 [(4, .int 0), (3, .ref 202), (2, .ref 164), (1, .ref 0), (0, .retAddr 0)] [] am_ks0 h' 203 4392 Q) : am_Ek false (am_P1 (some (6, xs)) lk) am_m136 538 [(4, .int 0), (3, .ref 202), (2, .ref 164), (1, .ref 0), (0, .retAddr 0)] [] am_ks0 h 203 4392 Q := by
  refine am_e_aload_n n136_538 rfl ?_
  refine am_e_sload_n n136_539 rfl ?_
  refine am_e_iload n136_540 rfl ?_
  refine am_e_iconst (w := 1) n136_541 rfl ?_
  refine am_e_iadd (w := 1) n136_542 (by decide) ?_
  refine am_e_sald1 n136_543 rfl (by decide) (by decide) hx1 ?_
  refine am_e_sload_n n136_544 rfl ?_
  refine am_e_iload n136_545 rfl ?_
  refine am_e_iconst (w := 2) n136_546 rfl ?_
  refine am_e_iadd (w := 2) n136_547 (by decide) ?_
  refine am_e_sald1 n136_548 rfl (by decide) (by decide) hx2 ?_
  refine am_e_callV (L := [(0, .ref 0), (1, .int a1), (2, .int a2)]) n136_549 rfl rfl rfl rfl rfl rfl rfl rfl ?_
  refine am_e_iload_n n54_0 rfl ?_
  refine am_e_iconst (w := 1) n54_1 rfl ?_
  refine am_e_sipush (w := 600) n54_2 (by decide) ?_
  refine am_e_callS (L := [(0, .int a1), (1, .int 1), (2, .int 600)]) n54_3 rfl rfl rfl rfl rfl rfl rfl ?_
  refine am_e_iload_n n30_0 rfl ?_
  refine am_e_iload_n n30_1 rfl ?_
  by_cases hb1 : (a1 : Int32) < 1
  · refine am_e_cmpT n30_2 (am_c_ltT hb1) t30_2 ?_
    refine am_e_iconst (w := 0) n30_8 rfl ?_
    refine am_e_iret c30_9 rfl rfl rfl ?_
    refine am_e_ifT n54_4 (am_c_eqT (by decide)) t54_4 ?_
    refine am_e_iconst (w := (-1)) n54_19 rfl ?_
    refine am_e_iret c54_20 rfl rfl rfl ?_
    refine am_e_aload_n n136_550 rfl ?_
    refine am_e_sload_n n136_551 rfl ?_
    refine am_e_iload n136_552 rfl ?_
    refine am_e_iconst (w := 1) n136_553 rfl ?_
    refine am_e_iadd (w := 1) n136_554 (by decide) ?_
    refine am_e_sald1 n136_555 rfl (by decide) (by decide) hx1 ?_
    refine am_e_sload_n n136_556 rfl ?_
    refine am_e_iload n136_557 rfl ?_
    refine am_e_iconst (w := 2) n136_558 rfl ?_
    refine am_e_iadd (w := 2) n136_559 (by decide) ?_
    refine am_e_sald1 n136_560 rfl (by decide) (by decide) hx2 ?_
    refine am_e_callV (L := [(0, .ref 164), (1, .int a1), (2, .int a2)]) n136_561 rfl rfl rfl rfl rfl rfl rfl rfl ?_
    refine am_e_aload_n n116_0 rfl ?_
    refine am_e_iconst (w := 0) n116_1 rfl ?_
    refine am_e_putf n116_2 rfl rfl ?_
    refine am_e_aload_n n116_3 rfl ?_
    refine am_e_getf (v := .ref 168) n116_4 rfl (f164_23 (h := h) hT) ?_
    refine am_e_iconst (w := 2) n116_5 rfl ?_
    refine am_e_iaload (v := 0) (q := 2) n116_6 rfl (by decide) (by decide) (f168_2 (h := h) hT) ?_
    refine am_e_ifT n116_7 (am_c_eqT (by decide)) t116_7 ?_
    refine am_e_iconst (w := (-1)) n116_24 rfl ?_
    refine am_e_iret c116_25 rfl rfl rfl ?_
    refine am_e_cmpT n136_562 (am_c_eqT (by decide)) t136_562 ?_
    exact K _
  · refine am_e_cmpF n30_2 (am_c_ltF hb1) ?_
    refine am_e_iload_n n30_3 rfl ?_
    refine am_e_iload_n n30_4 rfl ?_
    by_cases hb2 : (600 : Int32) < a1
    · refine am_e_cmpT n30_5 (am_c_gtT hb2) t30_5 ?_
      refine am_e_iconst (w := 0) n30_8 rfl ?_
      refine am_e_iret c30_9 rfl rfl rfl ?_
      refine am_e_ifT n54_4 (am_c_eqT (by decide)) t54_4 ?_
      refine am_e_iconst (w := (-1)) n54_19 rfl ?_
      refine am_e_iret c54_20 rfl rfl rfl ?_
      refine am_e_aload_n n136_550 rfl ?_
      refine am_e_sload_n n136_551 rfl ?_
      refine am_e_iload n136_552 rfl ?_
      refine am_e_iconst (w := 1) n136_553 rfl ?_
      refine am_e_iadd (w := 1) n136_554 (by decide) ?_
      refine am_e_sald1 n136_555 rfl (by decide) (by decide) hx1 ?_
      refine am_e_sload_n n136_556 rfl ?_
      refine am_e_iload n136_557 rfl ?_
      refine am_e_iconst (w := 2) n136_558 rfl ?_
      refine am_e_iadd (w := 2) n136_559 (by decide) ?_
      refine am_e_sald1 n136_560 rfl (by decide) (by decide) hx2 ?_
      refine am_e_callV (L := [(0, .ref 164), (1, .int a1), (2, .int a2)]) n136_561 rfl rfl rfl rfl rfl rfl rfl rfl ?_
      refine am_e_aload_n n116_0 rfl ?_
      refine am_e_iconst (w := 0) n116_1 rfl ?_
      refine am_e_putf n116_2 rfl rfl ?_
      refine am_e_aload_n n116_3 rfl ?_
      refine am_e_getf (v := .ref 168) n116_4 rfl (f164_23 (h := h) hT) ?_
      refine am_e_iconst (w := 2) n116_5 rfl ?_
      refine am_e_iaload (v := 0) (q := 2) n116_6 rfl (by decide) (by decide) (f168_2 (h := h) hT) ?_
      refine am_e_ifT n116_7 (am_c_eqT (by decide)) t116_7 ?_
      refine am_e_iconst (w := (-1)) n116_24 rfl ?_
      refine am_e_iret c116_25 rfl rfl rfl ?_
      refine am_e_cmpT n136_562 (am_c_eqT (by decide)) t136_562 ?_
      exact K _
    · refine am_e_cmpF n30_5 (am_c_gtF hb2) ?_
      refine am_e_iconst (w := 1) n30_6 rfl ?_
      refine am_e_goto c30_7 t30_7 ?_
      refine am_e_iret c30_9 rfl rfl rfl ?_
      refine am_e_ifF n54_4 (am_c_eqF (by decide)) ?_
      refine am_e_iload_n n54_5 rfl ?_
      refine am_e_iconst (w := 0) n54_6 rfl ?_
      refine am_e_iconst (w := 1) n54_7 rfl ?_
      refine am_e_callS (L := [(0, .int a2), (1, .int 0), (2, .int 1)]) n54_8 rfl rfl rfl rfl rfl rfl rfl ?_
      refine am_e_iload_n n30_0 rfl ?_
      refine am_e_iload_n n30_1 rfl ?_
      by_cases hb3 : (a2 : Int32) < 0
      · refine am_e_cmpT n30_2 (am_c_ltT hb3) t30_2 ?_
        refine am_e_iconst (w := 0) n30_8 rfl ?_
        refine am_e_iret c30_9 rfl rfl rfl ?_
        refine am_e_ifT n54_9 (am_c_eqT (by decide)) t54_9 ?_
        refine am_e_iconst (w := (-1)) n54_19 rfl ?_
        refine am_e_iret c54_20 rfl rfl rfl ?_
        refine am_e_aload_n n136_550 rfl ?_
        refine am_e_sload_n n136_551 rfl ?_
        refine am_e_iload n136_552 rfl ?_
        refine am_e_iconst (w := 1) n136_553 rfl ?_
        refine am_e_iadd (w := 1) n136_554 (by decide) ?_
        refine am_e_sald1 n136_555 rfl (by decide) (by decide) hx1 ?_
        refine am_e_sload_n n136_556 rfl ?_
        refine am_e_iload n136_557 rfl ?_
        refine am_e_iconst (w := 2) n136_558 rfl ?_
        refine am_e_iadd (w := 2) n136_559 (by decide) ?_
        refine am_e_sald1 n136_560 rfl (by decide) (by decide) hx2 ?_
        refine am_e_callV (L := [(0, .ref 164), (1, .int a1), (2, .int a2)]) n136_561 rfl rfl rfl rfl rfl rfl rfl rfl ?_
        refine am_e_aload_n n116_0 rfl ?_
        refine am_e_iconst (w := 0) n116_1 rfl ?_
        refine am_e_putf n116_2 rfl rfl ?_
        refine am_e_aload_n n116_3 rfl ?_
        refine am_e_getf (v := .ref 168) n116_4 rfl (f164_23 (h := h) hT) ?_
        refine am_e_iconst (w := 2) n116_5 rfl ?_
        refine am_e_iaload (v := 0) (q := 2) n116_6 rfl (by decide) (by decide) (f168_2 (h := h) hT) ?_
        refine am_e_ifT n116_7 (am_c_eqT (by decide)) t116_7 ?_
        refine am_e_iconst (w := (-1)) n116_24 rfl ?_
        refine am_e_iret c116_25 rfl rfl rfl ?_
        refine am_e_cmpT n136_562 (am_c_eqT (by decide)) t136_562 ?_
        exact K _
      · refine am_e_cmpF n30_2 (am_c_ltF hb3) ?_
        refine am_e_iload_n n30_3 rfl ?_
        refine am_e_iload_n n30_4 rfl ?_
        by_cases hb4 : (1 : Int32) < a2
        · refine am_e_cmpT n30_5 (am_c_gtT hb4) t30_5 ?_
          refine am_e_iconst (w := 0) n30_8 rfl ?_
          refine am_e_iret c30_9 rfl rfl rfl ?_
          refine am_e_ifT n54_9 (am_c_eqT (by decide)) t54_9 ?_
          refine am_e_iconst (w := (-1)) n54_19 rfl ?_
          refine am_e_iret c54_20 rfl rfl rfl ?_
          refine am_e_aload_n n136_550 rfl ?_
          refine am_e_sload_n n136_551 rfl ?_
          refine am_e_iload n136_552 rfl ?_
          refine am_e_iconst (w := 1) n136_553 rfl ?_
          refine am_e_iadd (w := 1) n136_554 (by decide) ?_
          refine am_e_sald1 n136_555 rfl (by decide) (by decide) hx1 ?_
          refine am_e_sload_n n136_556 rfl ?_
          refine am_e_iload n136_557 rfl ?_
          refine am_e_iconst (w := 2) n136_558 rfl ?_
          refine am_e_iadd (w := 2) n136_559 (by decide) ?_
          refine am_e_sald1 n136_560 rfl (by decide) (by decide) hx2 ?_
          refine am_e_callV (L := [(0, .ref 164), (1, .int a1), (2, .int a2)]) n136_561 rfl rfl rfl rfl rfl rfl rfl rfl ?_
          refine am_e_aload_n n116_0 rfl ?_
          refine am_e_iconst (w := 0) n116_1 rfl ?_
          refine am_e_putf n116_2 rfl rfl ?_
          refine am_e_aload_n n116_3 rfl ?_
          refine am_e_getf (v := .ref 168) n116_4 rfl (f164_23 (h := h) hT) ?_
          refine am_e_iconst (w := 2) n116_5 rfl ?_
          refine am_e_iaload (v := 0) (q := 2) n116_6 rfl (by decide) (by decide) (f168_2 (h := h) hT) ?_
          refine am_e_ifT n116_7 (am_c_eqT (by decide)) t116_7 ?_
          refine am_e_iconst (w := (-1)) n116_24 rfl ?_
          refine am_e_iret c116_25 rfl rfl rfl ?_
          refine am_e_cmpT n136_562 (am_c_eqT (by decide)) t136_562 ?_
          exact K _
        · refine am_e_cmpF n30_5 (am_c_gtF hb4) ?_
          refine am_e_iconst (w := 1) n30_6 rfl ?_
          refine am_e_goto c30_7 t30_7 ?_
          refine am_e_iret c30_9 rfl rfl rfl ?_
          refine am_e_ifF n54_9 (am_c_eqF (by decide)) ?_
          refine am_e_aload_n n54_10 rfl ?_
          refine am_e_getf (v := .ref 2) n54_11 rfl (f0_2 (h := h) hT) ?_
          refine am_e_getf (v := .int 0) n54_12 rfl (f2_8 (h := h) hT) ?_
          refine am_e_ifT n54_13 (am_c_eqT (by decide)) t54_13 ?_
          refine am_e_iconst (w := (-1)) n54_19 rfl ?_
          refine am_e_iret c54_20 rfl rfl rfl ?_
          refine am_e_aload_n n136_550 rfl ?_
          refine am_e_sload_n n136_551 rfl ?_
          refine am_e_iload n136_552 rfl ?_
          refine am_e_iconst (w := 1) n136_553 rfl ?_
          refine am_e_iadd (w := 1) n136_554 (by decide) ?_
          refine am_e_sald1 n136_555 rfl (by decide) (by decide) hx1 ?_
          refine am_e_sload_n n136_556 rfl ?_
          refine am_e_iload n136_557 rfl ?_
          refine am_e_iconst (w := 2) n136_558 rfl ?_
          refine am_e_iadd (w := 2) n136_559 (by decide) ?_
          refine am_e_sald1 n136_560 rfl (by decide) (by decide) hx2 ?_
          refine am_e_callV (L := [(0, .ref 164), (1, .int a1), (2, .int a2)]) n136_561 rfl rfl rfl rfl rfl rfl rfl rfl ?_
          refine am_e_aload_n n116_0 rfl ?_
          refine am_e_iconst (w := 0) n116_1 rfl ?_
          refine am_e_putf n116_2 rfl rfl ?_
          refine am_e_aload_n n116_3 rfl ?_
          refine am_e_getf (v := .ref 168) n116_4 rfl (f164_23 (h := h) hT) ?_
          refine am_e_iconst (w := 2) n116_5 rfl ?_
          refine am_e_iaload (v := 0) (q := 2) n116_6 rfl (by decide) (by decide) (f168_2 (h := h) hT) ?_
          refine am_e_ifT n116_7 (am_c_eqT (by decide)) t116_7 ?_
          refine am_e_iconst (w := (-1)) n116_24 rfl ?_
          refine am_e_iret c116_25 rfl rfl rfl ?_
          refine am_e_cmpT n136_562 (am_c_eqT (by decide)) t136_562 ?_
          exact K _
theorem am_op19 {lk : List Value → List am_k → am_H → Option am_O} {xs : Nat → Int32} {h : am_H} {Q : Option Value → List am_k → am_H → Prop} {a1 : Int32} {a2 : Int32} {a3 : Int32} {a4 : Int32} {a5 : Int32} (hT : am_T h) (hx1 : xs 1 = a1) (hx2 : xs 2 = a2) (hx3 : xs 3 = a3) (hx4 : xs 4 = a4) (hx5 : xs 5 = a5) (K : ∀ h', am_Ek false (am_P1 (some (6, xs)) lk) am_m136 841 [(4, .int 0), (3, .ref 202), (2, .ref 164), (1, .ref 0), (0, .retAddr 0)] [] am_ks0 h' 203 4392 Q) : am_Ek false (am_P1 (some (6, xs)) lk) am_m136 565 [(4, .int 0), (3, .ref 202), (2, .ref 164), (1, .ref 0), (0, .retAddr 0)] [] am_ks0 h 203 4392 Q := by
  refine am_e_aload_n n136_565 rfl ?_
  refine am_e_sload_n n136_566 rfl ?_
  refine am_e_iload n136_567 rfl ?_
  refine am_e_iconst (w := 1) n136_568 rfl ?_
  refine am_e_iadd (w := 1) n136_569 (by decide) ?_
  refine am_e_sald1 n136_570 rfl (by decide) (by decide) hx1 ?_
  refine am_e_sload_n n136_571 rfl ?_
  refine am_e_iload n136_572 rfl ?_
  refine am_e_iconst (w := 2) n136_573 rfl ?_
  refine am_e_iadd (w := 2) n136_574 (by decide) ?_
  refine am_e_sald1 n136_575 rfl (by decide) (by decide) hx2 ?_
  refine am_e_callV (L := [(0, .ref 0), (1, .int a1), (2, .int a2)]) n136_576 rfl rfl rfl rfl rfl rfl rfl rfl ?_
  refine am_e_iload_n n55_0 rfl ?_
  by_cases hb1 : (a1 : Int32) < 0
  · refine am_e_ifT n55_1 (am_c_ltT hb1) t55_1 ?_
    refine am_e_iconst (w := (-1)) n55_7 rfl ?_
    refine am_e_iret c55_8 rfl rfl rfl ?_
    refine am_e_aload_n n136_577 rfl ?_
    refine am_e_sload_n n136_578 rfl ?_
    refine am_e_iload n136_579 rfl ?_
    refine am_e_iconst (w := 1) n136_580 rfl ?_
    refine am_e_iadd (w := 1) n136_581 (by decide) ?_
    refine am_e_sald1 n136_582 rfl (by decide) (by decide) hx1 ?_
    refine am_e_sload_n n136_583 rfl ?_
    refine am_e_iload n136_584 rfl ?_
    refine am_e_iconst (w := 2) n136_585 rfl ?_
    refine am_e_iadd (w := 2) n136_586 (by decide) ?_
    refine am_e_sald1 n136_587 rfl (by decide) (by decide) hx2 ?_
    refine am_e_callV (L := [(0, .ref 164), (1, .int a1), (2, .int a2)]) n136_588 rfl rfl rfl rfl rfl rfl rfl rfl ?_
    refine am_e_aload_n n117_0 rfl ?_
    refine am_e_iconst (w := 0) n117_1 rfl ?_
    refine am_e_putf n117_2 rfl rfl ?_
    refine am_e_iload_n n117_3 rfl ?_
    refine am_e_ifT n117_4 (am_c_ltT hb1) t117_4 ?_
    refine am_e_iconst (w := (-1)) n117_10 rfl ?_
    refine am_e_iret c117_11 rfl rfl rfl ?_
    refine am_e_cmpT n136_589 (am_c_eqT (by decide)) t136_589 ?_
    exact K _
  · refine am_e_ifF n55_1 (am_c_ltF hb1) ?_
    refine am_e_iload_n n55_2 rfl ?_
    refine am_e_iconst (w := 0) n55_3 rfl ?_
    refine am_e_iconst (w := 1) n55_4 rfl ?_
    refine am_e_callS (L := [(0, .int a2), (1, .int 0), (2, .int 1)]) n55_5 rfl rfl rfl rfl rfl rfl rfl ?_
    refine am_e_iload_n n30_0 rfl ?_
    refine am_e_iload_n n30_1 rfl ?_
    by_cases hb2 : (a2 : Int32) < 0
    · refine am_e_cmpT n30_2 (am_c_ltT hb2) t30_2 ?_
      refine am_e_iconst (w := 0) n30_8 rfl ?_
      refine am_e_iret c30_9 rfl rfl rfl ?_
      refine am_e_ifF n55_6 (am_c_neF (by decide)) ?_
      refine am_e_iconst (w := (-1)) n55_7 rfl ?_
      refine am_e_iret c55_8 rfl rfl rfl ?_
      refine am_e_aload_n n136_577 rfl ?_
      refine am_e_sload_n n136_578 rfl ?_
      refine am_e_iload n136_579 rfl ?_
      refine am_e_iconst (w := 1) n136_580 rfl ?_
      refine am_e_iadd (w := 1) n136_581 (by decide) ?_
      refine am_e_sald1 n136_582 rfl (by decide) (by decide) hx1 ?_
      refine am_e_sload_n n136_583 rfl ?_
      refine am_e_iload n136_584 rfl ?_
      refine am_e_iconst (w := 2) n136_585 rfl ?_
      refine am_e_iadd (w := 2) n136_586 (by decide) ?_
      refine am_e_sald1 n136_587 rfl (by decide) (by decide) hx2 ?_
      refine am_e_callV (L := [(0, .ref 164), (1, .int a1), (2, .int a2)]) n136_588 rfl rfl rfl rfl rfl rfl rfl rfl ?_
      refine am_e_aload_n n117_0 rfl ?_
      refine am_e_iconst (w := 0) n117_1 rfl ?_
      refine am_e_putf n117_2 rfl rfl ?_
      refine am_e_iload_n n117_3 rfl ?_
      refine am_e_ifF n117_4 (am_c_ltF hb1) ?_
      refine am_e_iload_n n117_5 rfl ?_
      refine am_e_iconst (w := 0) n117_6 rfl ?_
      refine am_e_iconst (w := 1) n117_7 rfl ?_
      refine am_e_callS (L := [(0, .int a2), (1, .int 0), (2, .int 1)]) n117_8 rfl rfl rfl rfl rfl rfl rfl ?_
      refine am_e_iload_n n87_0 rfl ?_
      refine am_e_iload_n n87_1 rfl ?_
      refine am_e_cmpT n87_2 (am_c_ltT hb2) t87_2 ?_
      refine am_e_iconst (w := 0) n87_8 rfl ?_
      refine am_e_iret c87_9 rfl rfl rfl ?_
      refine am_e_ifF n117_9 (am_c_neF (by decide)) ?_
      refine am_e_iconst (w := (-1)) n117_10 rfl ?_
      refine am_e_iret c117_11 rfl rfl rfl ?_
      refine am_e_cmpT n136_589 (am_c_eqT (by decide)) t136_589 ?_
      exact K _
    · refine am_e_cmpF n30_2 (am_c_ltF hb2) ?_
      refine am_e_iload_n n30_3 rfl ?_
      refine am_e_iload_n n30_4 rfl ?_
      by_cases hb3 : (1 : Int32) < a2
      · refine am_e_cmpT n30_5 (am_c_gtT hb3) t30_5 ?_
        refine am_e_iconst (w := 0) n30_8 rfl ?_
        refine am_e_iret c30_9 rfl rfl rfl ?_
        refine am_e_ifF n55_6 (am_c_neF (by decide)) ?_
        refine am_e_iconst (w := (-1)) n55_7 rfl ?_
        refine am_e_iret c55_8 rfl rfl rfl ?_
        refine am_e_aload_n n136_577 rfl ?_
        refine am_e_sload_n n136_578 rfl ?_
        refine am_e_iload n136_579 rfl ?_
        refine am_e_iconst (w := 1) n136_580 rfl ?_
        refine am_e_iadd (w := 1) n136_581 (by decide) ?_
        refine am_e_sald1 n136_582 rfl (by decide) (by decide) hx1 ?_
        refine am_e_sload_n n136_583 rfl ?_
        refine am_e_iload n136_584 rfl ?_
        refine am_e_iconst (w := 2) n136_585 rfl ?_
        refine am_e_iadd (w := 2) n136_586 (by decide) ?_
        refine am_e_sald1 n136_587 rfl (by decide) (by decide) hx2 ?_
        refine am_e_callV (L := [(0, .ref 164), (1, .int a1), (2, .int a2)]) n136_588 rfl rfl rfl rfl rfl rfl rfl rfl ?_
        refine am_e_aload_n n117_0 rfl ?_
        refine am_e_iconst (w := 0) n117_1 rfl ?_
        refine am_e_putf n117_2 rfl rfl ?_
        refine am_e_iload_n n117_3 rfl ?_
        refine am_e_ifF n117_4 (am_c_ltF hb1) ?_
        refine am_e_iload_n n117_5 rfl ?_
        refine am_e_iconst (w := 0) n117_6 rfl ?_
        refine am_e_iconst (w := 1) n117_7 rfl ?_
        refine am_e_callS (L := [(0, .int a2), (1, .int 0), (2, .int 1)]) n117_8 rfl rfl rfl rfl rfl rfl rfl ?_
        refine am_e_iload_n n87_0 rfl ?_
        refine am_e_iload_n n87_1 rfl ?_
        refine am_e_cmpF n87_2 (am_c_ltF hb2) ?_
        refine am_e_iload_n n87_3 rfl ?_
        refine am_e_iload_n n87_4 rfl ?_
        refine am_e_cmpT n87_5 (am_c_gtT hb3) t87_5 ?_
        refine am_e_iconst (w := 0) n87_8 rfl ?_
        refine am_e_iret c87_9 rfl rfl rfl ?_
        refine am_e_ifF n117_9 (am_c_neF (by decide)) ?_
        refine am_e_iconst (w := (-1)) n117_10 rfl ?_
        refine am_e_iret c117_11 rfl rfl rfl ?_
        refine am_e_cmpT n136_589 (am_c_eqT (by decide)) t136_589 ?_
        exact K _
      · refine am_e_cmpF n30_5 (am_c_gtF hb3) ?_
        refine am_e_iconst (w := 1) n30_6 rfl ?_
        refine am_e_goto c30_7 t30_7 ?_
        refine am_e_iret c30_9 rfl rfl rfl ?_
        refine am_e_ifT n55_6 (am_c_neT (by decide)) t55_6 ?_
        refine am_e_aload_n n55_9 rfl ?_
        refine am_e_getf (v := .ref 161) n55_10 rfl (f0_15 (h := h) hT) ?_
        refine am_e_iload_n n55_11 rfl ?_
        refine am_e_aload_n n55_12 rfl ?_
        refine am_e_getf (v := .ref 2) n55_13 rfl (f0_2 (h := h) hT) ?_
        refine am_e_aload_n n55_14 rfl ?_
        refine am_e_getf (v := .ref 48) n55_15 rfl (f0_5 (h := h) hT) ?_
        refine am_e_callV (L := [(0, .ref 161), (1, .int a1), (2, .ref 2), (3, .ref 48)]) n55_16 rfl rfl rfl rfl rfl rfl rfl rfl ?_
        refine am_e_iconst (w := 0) n56_0 rfl ?_
        refine am_e_istore (ls' := [(4, .int 0), (0, .ref 161), (1, .int a1), (2, .ref 2), (3, .ref 48)]) n56_1 rfl rfl ?_
        refine am_e_iload n56_2 rfl ?_
        refine am_e_aload_n n56_3 rfl ?_
        refine am_e_getf (v := .int 0) n56_4 rfl (f2_9 (h := h) hT) ?_
        refine am_e_cmpT n56_5 (am_c_geT (by decide)) t56_5 ?_
        refine am_e_iload_n n56_30 rfl ?_
        refine am_e_bipush (w := 18) n56_31 (by decide) ?_
        by_cases hb4 : (a1 : Int32) < 18
        · refine am_e_cmpT n56_32 (am_c_ltT hb4) t56_32 ?_
          refine am_e_iconst (w := 0) n56_35 rfl ?_
          refine am_e_istore (ls' := [(4, .int 0), (0, .ref 161), (1, .int a1), (2, .ref 2), (3, .ref 48)]) n56_36 rfl rfl ?_
          refine am_e_iload n56_37 rfl ?_
          refine am_e_iload_n n56_38 rfl ?_
          refine am_e_cmpF n56_39 (am_c_gtF hb1) ?_
          refine am_e_aload_n n56_40 rfl ?_
          refine am_e_aload_n n56_41 rfl ?_
          refine am_e_callV (L := [(0, .ref 161), (1, .ref 2)]) n56_42 rfl rfl rfl rfl rfl rfl rfl rfl ?_
          refine am_e_lconst (w := 0) n57_0 rfl ?_
          refine am_e_lstore_n (ls' := [(2, .long 0), (0, .ref 161), (1, .ref 2)]) n57_1 rfl rfl ?_
          refine am_e_lconst (w := 1) n57_2 rfl ?_
          refine am_e_lstore (ls' := [(4, .long 1), (2, .long 0), (0, .ref 161), (1, .ref 2)]) n57_3 rfl rfl ?_
          refine am_e_iconst (w := 0) n57_4 rfl ?_
          refine am_e_istore (ls' := [(6, .int 0), (4, .long 1), (2, .long 0), (0, .ref 161), (1, .ref 2)]) n57_5 rfl rfl ?_
          refine am_e_iload n57_6 rfl ?_
          refine am_e_aload_n n57_7 rfl ?_
          refine am_e_getf (v := .int 0) n57_8 rfl (f2_9 (h := h) hT) ?_
          refine am_e_cmpT n57_9 (am_c_geT (by decide)) t57_9 ?_
          refine am_e_lload_n n57_63 rfl ?_
          refine am_e_lconst (w := 0) n57_64 rfl ?_
          refine am_e_lcmp (w := 0) n57_65 (by decide) ?_
          refine am_e_ifT n57_66 (am_c_leT (by decide)) t57_66 ?_
          refine am_e_iconst (w := 0) n57_69 rfl ?_
          refine am_e_iret c57_70 rfl rfl rfl ?_
          refine am_e_ifF n56_43 (am_c_neF (by decide)) ?_
          refine am_e_iconst (w := 0) n56_44 rfl ?_
          refine am_e_iret c56_45 rfl rfl rfl ?_
          refine am_e_ifF n55_17 (am_c_neF (by decide)) ?_
          refine am_e_bipush (w := (-2)) n55_18 (by decide) ?_
          refine am_e_iret c55_19 rfl rfl rfl ?_
          refine am_e_aload_n n136_577 rfl ?_
          refine am_e_sload_n n136_578 rfl ?_
          refine am_e_iload n136_579 rfl ?_
          refine am_e_iconst (w := 1) n136_580 rfl ?_
          refine am_e_iadd (w := 1) n136_581 (by decide) ?_
          refine am_e_sald1 n136_582 rfl (by decide) (by decide) hx1 ?_
          refine am_e_sload_n n136_583 rfl ?_
          refine am_e_iload n136_584 rfl ?_
          refine am_e_iconst (w := 2) n136_585 rfl ?_
          refine am_e_iadd (w := 2) n136_586 (by decide) ?_
          refine am_e_sald1 n136_587 rfl (by decide) (by decide) hx2 ?_
          refine am_e_callV (L := [(0, .ref 164), (1, .int a1), (2, .int a2)]) n136_588 rfl rfl rfl rfl rfl rfl rfl rfl ?_
          refine am_e_aload_n n117_0 rfl ?_
          refine am_e_iconst (w := 0) n117_1 rfl ?_
          refine am_e_putf n117_2 rfl rfl ?_
          refine am_e_iload_n n117_3 rfl ?_
          refine am_e_ifF n117_4 (am_c_ltF hb1) ?_
          refine am_e_iload_n n117_5 rfl ?_
          refine am_e_iconst (w := 0) n117_6 rfl ?_
          refine am_e_iconst (w := 1) n117_7 rfl ?_
          refine am_e_callS (L := [(0, .int a2), (1, .int 0), (2, .int 1)]) n117_8 rfl rfl rfl rfl rfl rfl rfl ?_
          refine am_e_iload_n n87_0 rfl ?_
          refine am_e_iload_n n87_1 rfl ?_
          refine am_e_cmpF n87_2 (am_c_ltF hb2) ?_
          refine am_e_iload_n n87_3 rfl ?_
          refine am_e_iload_n n87_4 rfl ?_
          refine am_e_cmpF n87_5 (am_c_gtF hb3) ?_
          refine am_e_iconst (w := 1) n87_6 rfl ?_
          refine am_e_goto c87_7 t87_7 ?_
          refine am_e_iret c87_9 rfl rfl rfl ?_
          refine am_e_ifT n117_9 (am_c_neT (by decide)) t117_9 ?_
          refine am_e_iconst (w := 0) n117_12 rfl ?_
          refine am_e_istore_n (ls' := [(3, .int 0), (0, .ref 164), (1, .int a1), (2, .int a2)]) n117_13 rfl rfl ?_
          refine am_e_iload_n n117_14 rfl ?_
          refine am_e_aload_n n117_15 rfl ?_
          refine am_e_getf (v := .int 0) n117_16 rfl (f164_14 (h := h) hT) ?_
          refine am_e_cmpT n117_17 (am_c_geT (by decide)) t117_17 ?_
          refine am_e_bipush (w := (-2)) n117_43 (by decide) ?_
          refine am_e_istore_n (ls' := [(3, .int (-2)), (0, .ref 164), (1, .int a1), (2, .int a2)]) n117_44 rfl rfl ?_
          refine am_e_bipush (w := (-2)) n117_45 (by decide) ?_
          refine am_e_istore (ls' := [(4, .int (-2)), (3, .int (-2)), (0, .ref 164), (1, .int a1), (2, .int a2)]) n117_46 rfl rfl ?_
          refine am_e_iconst (w := 0) n117_47 rfl ?_
          refine am_e_istore (ls' := [(5, .int 0), (4, .int (-2)), (3, .int (-2)), (0, .ref 164), (1, .int a1), (2, .int a2)]) n117_48 rfl rfl ?_
          refine am_e_iload n117_49 rfl ?_
          refine am_e_iload_n n117_50 rfl ?_
          refine am_e_cmpF n117_51 (am_c_gtF hb1) ?_
          refine am_e_bipush (w := (-2)) n117_52 (by decide) ?_
          refine am_e_istore_n (ls' := [(3, .int (-2)), (5, .int 0), (4, .int (-2)), (0, .ref 164), (1, .int a1), (2, .int a2)]) n117_53 rfl rfl ?_
          refine am_e_bipush (w := (-2)) n117_54 (by decide) ?_
          refine am_e_istore (ls' := [(4, .int (-2)), (3, .int (-2)), (5, .int 0), (0, .ref 164), (1, .int a1), (2, .int a2)]) n117_55 rfl rfl ?_
          refine am_e_lconst (w := 0) n117_56 rfl ?_
          refine am_e_lstore (ls' := [(6, .long 0), (4, .int (-2)), (3, .int (-2)), (5, .int 0), (0, .ref 164), (1, .int a1), (2, .int a2)]) n117_57 rfl rfl ?_
          refine am_e_lconst (w := 1) n117_58 rfl ?_
          refine am_e_lstore (ls' := [(8, .long 1), (6, .long 0), (4, .int (-2)), (3, .int (-2)), (5, .int 0), (0, .ref 164), (1, .int a1), (2, .int a2)]) n117_59 rfl rfl ?_
          refine am_e_iconst (w := 0) n117_60 rfl ?_
          refine am_e_istore (ls' := [(10, .int 0), (8, .long 1), (6, .long 0), (4, .int (-2)), (3, .int (-2)), (5, .int 0), (0, .ref 164), (1, .int a1), (2, .int a2)]) n117_61 rfl rfl ?_
          refine am_e_iload n117_62 rfl ?_
          refine am_e_aload_n n117_63 rfl ?_
          refine am_e_getf (v := .int 0) n117_64 rfl (f164_14 (h := h) hT) ?_
          refine am_e_cmpT n117_65 (am_c_geT (by decide)) t117_65 ?_
          refine am_e_iload_n n117_118 rfl ?_
          refine am_e_ifF n117_119 (am_c_geF (by decide)) ?_
          refine am_e_bipush (w := (-2)) n117_120 (by decide) ?_
          refine am_e_iret c117_121 rfl rfl rfl ?_
          refine am_e_cmpT n136_589 (am_c_eqT (by decide)) t136_589 ?_
          exact K _
        · refine am_e_cmpF n56_32 (am_c_ltF hb4) ?_
          refine am_e_iconst (w := 0) n56_33 rfl ?_
          refine am_e_iret c56_34 rfl rfl rfl ?_
          refine am_e_ifF n55_17 (am_c_neF (by decide)) ?_
          refine am_e_bipush (w := (-2)) n55_18 (by decide) ?_
          refine am_e_iret c55_19 rfl rfl rfl ?_
          refine am_e_aload_n n136_577 rfl ?_
          refine am_e_sload_n n136_578 rfl ?_
          refine am_e_iload n136_579 rfl ?_
          refine am_e_iconst (w := 1) n136_580 rfl ?_
          refine am_e_iadd (w := 1) n136_581 (by decide) ?_
          refine am_e_sald1 n136_582 rfl (by decide) (by decide) hx1 ?_
          refine am_e_sload_n n136_583 rfl ?_
          refine am_e_iload n136_584 rfl ?_
          refine am_e_iconst (w := 2) n136_585 rfl ?_
          refine am_e_iadd (w := 2) n136_586 (by decide) ?_
          refine am_e_sald1 n136_587 rfl (by decide) (by decide) hx2 ?_
          refine am_e_callV (L := [(0, .ref 164), (1, .int a1), (2, .int a2)]) n136_588 rfl rfl rfl rfl rfl rfl rfl rfl ?_
          refine am_e_aload_n n117_0 rfl ?_
          refine am_e_iconst (w := 0) n117_1 rfl ?_
          refine am_e_putf n117_2 rfl rfl ?_
          refine am_e_iload_n n117_3 rfl ?_
          refine am_e_ifF n117_4 (am_c_ltF hb1) ?_
          refine am_e_iload_n n117_5 rfl ?_
          refine am_e_iconst (w := 0) n117_6 rfl ?_
          refine am_e_iconst (w := 1) n117_7 rfl ?_
          refine am_e_callS (L := [(0, .int a2), (1, .int 0), (2, .int 1)]) n117_8 rfl rfl rfl rfl rfl rfl rfl ?_
          refine am_e_iload_n n87_0 rfl ?_
          refine am_e_iload_n n87_1 rfl ?_
          refine am_e_cmpF n87_2 (am_c_ltF hb2) ?_
          refine am_e_iload_n n87_3 rfl ?_
          refine am_e_iload_n n87_4 rfl ?_
          refine am_e_cmpF n87_5 (am_c_gtF hb3) ?_
          refine am_e_iconst (w := 1) n87_6 rfl ?_
          refine am_e_goto c87_7 t87_7 ?_
          refine am_e_iret c87_9 rfl rfl rfl ?_
          refine am_e_ifT n117_9 (am_c_neT (by decide)) t117_9 ?_
          refine am_e_iconst (w := 0) n117_12 rfl ?_
          refine am_e_istore_n (ls' := [(3, .int 0), (0, .ref 164), (1, .int a1), (2, .int a2)]) n117_13 rfl rfl ?_
          refine am_e_iload_n n117_14 rfl ?_
          refine am_e_aload_n n117_15 rfl ?_
          refine am_e_getf (v := .int 0) n117_16 rfl (f164_14 (h := h) hT) ?_
          refine am_e_cmpT n117_17 (am_c_geT (by decide)) t117_17 ?_
          refine am_e_bipush (w := (-2)) n117_43 (by decide) ?_
          refine am_e_istore_n (ls' := [(3, .int (-2)), (0, .ref 164), (1, .int a1), (2, .int a2)]) n117_44 rfl rfl ?_
          refine am_e_bipush (w := (-2)) n117_45 (by decide) ?_
          refine am_e_istore (ls' := [(4, .int (-2)), (3, .int (-2)), (0, .ref 164), (1, .int a1), (2, .int a2)]) n117_46 rfl rfl ?_
          refine am_e_iconst (w := 0) n117_47 rfl ?_
          refine am_e_istore (ls' := [(5, .int 0), (4, .int (-2)), (3, .int (-2)), (0, .ref 164), (1, .int a1), (2, .int a2)]) n117_48 rfl rfl ?_
          refine am_e_iload n117_49 rfl ?_
          refine am_e_iload_n n117_50 rfl ?_
          refine am_e_cmpF n117_51 (am_c_gtF hb1) ?_
          refine am_e_bipush (w := (-2)) n117_52 (by decide) ?_
          refine am_e_istore_n (ls' := [(3, .int (-2)), (5, .int 0), (4, .int (-2)), (0, .ref 164), (1, .int a1), (2, .int a2)]) n117_53 rfl rfl ?_
          refine am_e_bipush (w := (-2)) n117_54 (by decide) ?_
          refine am_e_istore (ls' := [(4, .int (-2)), (3, .int (-2)), (5, .int 0), (0, .ref 164), (1, .int a1), (2, .int a2)]) n117_55 rfl rfl ?_
          refine am_e_lconst (w := 0) n117_56 rfl ?_
          refine am_e_lstore (ls' := [(6, .long 0), (4, .int (-2)), (3, .int (-2)), (5, .int 0), (0, .ref 164), (1, .int a1), (2, .int a2)]) n117_57 rfl rfl ?_
          refine am_e_lconst (w := 1) n117_58 rfl ?_
          refine am_e_lstore (ls' := [(8, .long 1), (6, .long 0), (4, .int (-2)), (3, .int (-2)), (5, .int 0), (0, .ref 164), (1, .int a1), (2, .int a2)]) n117_59 rfl rfl ?_
          refine am_e_iconst (w := 0) n117_60 rfl ?_
          refine am_e_istore (ls' := [(10, .int 0), (8, .long 1), (6, .long 0), (4, .int (-2)), (3, .int (-2)), (5, .int 0), (0, .ref 164), (1, .int a1), (2, .int a2)]) n117_61 rfl rfl ?_
          refine am_e_iload n117_62 rfl ?_
          refine am_e_aload_n n117_63 rfl ?_
          refine am_e_getf (v := .int 0) n117_64 rfl (f164_14 (h := h) hT) ?_
          refine am_e_cmpT n117_65 (am_c_geT (by decide)) t117_65 ?_
          refine am_e_iload_n n117_118 rfl ?_
          refine am_e_ifF n117_119 (am_c_geF (by decide)) ?_
          refine am_e_bipush (w := (-2)) n117_120 (by decide) ?_
          refine am_e_iret c117_121 rfl rfl rfl ?_
          refine am_e_cmpT n136_589 (am_c_eqT (by decide)) t136_589 ?_
          exact K _
