theorem am_op4 {xs : Nat → Int32} {h : am_H} {Q : Option Value → List am_k → am_H → Prop} {a1 : Int32} {a2 : Int32} {a3 : Int32} {a4 : Int32} {a5 : Int32} (hT : am_T h) (hx1 : xs 1 = a1) (hx2 : xs 2 = a2) (hx3 : xs 3 = a3) (hx4 : xs 4 = a4) (hx5 : xs 5 = a5) (K : ∀ h', am_Ek false (am_P1 (some (6, xs)) am_lk) am_m136 841 [(4, .int 0), (3, .ref 202), (2, .ref 164), (1, .ref 0), (0, .retAddr 0)] [] am_ks0 h' 207 4432 Q) : am_Ek false (am_P1 (some (6, xs)) am_lk) am_m136 143 [(4, .int 0), (3, .ref 202), (2, .ref 164), (1, .ref 0), (0, .retAddr 0)] [] am_ks0 h 203 4392 Q := by
  refine am_e_aload_n n136_143 rfl ?_
  refine am_e_sload_n n136_144 rfl ?_
  refine am_e_iload n136_145 rfl ?_
  refine am_e_iconst (w := 1) n136_146 rfl ?_
  refine am_e_iadd (w := 1) n136_147 (by decide) ?_
  refine am_e_sald1 n136_148 rfl (by decide) (by decide) hx1 ?_
  refine am_e_sload_n n136_149 rfl ?_
  refine am_e_iload n136_150 rfl ?_
  refine am_e_iconst (w := 2) n136_151 rfl ?_
  refine am_e_iadd (w := 2) n136_152 (by decide) ?_
  refine am_e_sald1 n136_153 rfl (by decide) (by decide) hx2 ?_
  refine am_e_aload_n n136_154 rfl ?_
  refine am_e_look (v := .int 1) n136_155 rfl rfl rfl rfl (am_lk_at (f0_2 (h := h) hT) (f2_2 (h := h) hT) _ _ _) ?_
  refine am_e_istore (ls' := [(5, .int 1), (4, .int 0), (3, .ref 202), (2, .ref 164), (1, .ref 0), (0, .retAddr 0)]) n136_156 rfl rfl ?_
  refine am_e_aload_n n136_157 rfl ?_
  refine am_e_sload_n n136_158 rfl ?_
  refine am_e_iload n136_159 rfl ?_
  refine am_e_iconst (w := 1) n136_160 rfl ?_
  refine am_e_iadd (w := 1) n136_161 (by decide) ?_
  refine am_e_sald1 n136_162 rfl (by decide) (by decide) hx1 ?_
  refine am_e_sload_n n136_163 rfl ?_
  refine am_e_iload n136_164 rfl ?_
  refine am_e_iconst (w := 2) n136_165 rfl ?_
  refine am_e_iadd (w := 2) n136_166 (by decide) ?_
  refine am_e_sald1 n136_167 rfl (by decide) (by decide) hx2 ?_
  refine am_e_callV (L := [(0, .ref 164), (1, .int a1), (2, .int a2)]) n136_168 rfl rfl rfl rfl rfl rfl rfl rfl ?_
  refine am_e_aload_n n133_0 rfl ?_
  refine am_e_iconst (w := 0) n133_1 rfl ?_
  refine am_e_putf n133_2 rfl rfl ?_
  refine am_e_aload_n n133_3 rfl ?_
  refine am_e_iload_n n133_4 rfl ?_
  refine am_e_callV (L := [(0, .ref 164), (1, .int a1)]) n133_5 rfl rfl rfl rfl rfl rfl rfl rfl ?_
  refine am_e_iload_n n91_0 rfl ?_
  by_cases hb1 : (a1 : Int32) < 0
  · refine am_e_ifT n91_1 (am_c_ltT hb1) t91_1 ?_
    refine am_e_iconst (w := 0) n91_8 rfl ?_
    refine am_e_iret c91_9 rfl rfl rfl ?_
    refine am_e_ifF n133_6 (am_c_neF (by decide)) ?_
    refine am_e_aload_n n133_7 rfl ?_
    refine am_e_iconst (w := 1) n133_8 rfl ?_
    refine am_e_callV (L := [(0, .ref 164), (1, .int 1)]) n133_9 rfl rfl rfl rfl rfl rfl rfl rfl ?_
    refine am_e_aload_n n135_0 rfl ?_
    refine am_e_iload_n n135_1 rfl ?_
    refine am_e_putf n135_2 rfl rfl ?_
    refine am_e_iconst (w := 0) n135_3 rfl ?_
    refine am_e_iret c135_4 rfl rfl rfl ?_
    refine am_e_iret c133_10 rfl rfl rfl ?_
    refine am_e_istore (ls' := [(6, .int 0), (5, .int 1), (4, .int 0), (3, .ref 202), (2, .ref 164), (1, .ref 0), (0, .retAddr 0)]) n136_169 rfl rfl ?_
    refine am_e_aload_n n136_170 rfl ?_
    refine am_e_callV (L := [(0, .ref 164)]) n136_171 rfl rfl rfl rfl rfl rfl rfl rfl ?_
    refine am_e_aload_n n134_0 rfl ?_
    refine am_e_getf (v := .int 1) n134_1 rfl rfl ?_
    refine am_e_iret c134_2 rfl rfl rfl ?_
    refine am_e_iload n136_172 rfl ?_
    refine am_e_cmpT n136_173 (am_c_eqT (by decide)) t136_173 ?_
    refine am_e_iload n136_176 rfl ?_
    refine am_e_ifT n136_177 (am_c_neT (by decide)) t136_177 ?_
    refine am_e_goto c136_187 t136_187 ?_
    refine am_Ek_ls (ls' := [(4, .int 0), (3, .ref 202), (2, .ref 164), (1, .ref 0), (0, .retAddr 0)]) ⟨rfl, rfl, rfl, rfl, rfl, trivial⟩ ?_
    exact K _
  · refine am_e_ifF n91_1 (am_c_ltF hb1) ?_
    refine am_e_iload_n n91_2 rfl ?_
    refine am_e_aload_n n91_3 rfl ?_
    refine am_e_getf (v := .int 0) n91_4 rfl (f164_12 (h := h) hT) ?_
    refine am_e_cmpT n91_5 (am_c_geT hb1) t91_5 ?_
    refine am_e_iconst (w := 0) n91_8 rfl ?_
    refine am_e_iret c91_9 rfl rfl rfl ?_
    refine am_e_ifF n133_6 (am_c_neF (by decide)) ?_
    refine am_e_aload_n n133_7 rfl ?_
    refine am_e_iconst (w := 1) n133_8 rfl ?_
    refine am_e_callV (L := [(0, .ref 164), (1, .int 1)]) n133_9 rfl rfl rfl rfl rfl rfl rfl rfl ?_
    refine am_e_aload_n n135_0 rfl ?_
    refine am_e_iload_n n135_1 rfl ?_
    refine am_e_putf n135_2 rfl rfl ?_
    refine am_e_iconst (w := 0) n135_3 rfl ?_
    refine am_e_iret c135_4 rfl rfl rfl ?_
    refine am_e_iret c133_10 rfl rfl rfl ?_
    refine am_e_istore (ls' := [(6, .int 0), (5, .int 1), (4, .int 0), (3, .ref 202), (2, .ref 164), (1, .ref 0), (0, .retAddr 0)]) n136_169 rfl rfl ?_
    refine am_e_aload_n n136_170 rfl ?_
    refine am_e_callV (L := [(0, .ref 164)]) n136_171 rfl rfl rfl rfl rfl rfl rfl rfl ?_
    refine am_e_aload_n n134_0 rfl ?_
    refine am_e_getf (v := .int 1) n134_1 rfl rfl ?_
    refine am_e_iret c134_2 rfl rfl rfl ?_
    refine am_e_iload n136_172 rfl ?_
    refine am_e_cmpT n136_173 (am_c_eqT (by decide)) t136_173 ?_
    refine am_e_iload n136_176 rfl ?_
    refine am_e_ifT n136_177 (am_c_neT (by decide)) t136_177 ?_
    refine am_e_goto c136_187 t136_187 ?_
    refine am_Ek_ls (ls' := [(4, .int 0), (3, .ref 202), (2, .ref 164), (1, .ref 0), (0, .retAddr 0)]) ⟨rfl, rfl, rfl, rfl, rfl, trivial⟩ ?_
    exact K _
