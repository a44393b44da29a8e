theorem am_op7_m {lk : List Value → List am_k → am_H → Option am_O} {xs : Nat → Int32} {h : am_H} {Q : Option Value → List am_k → am_H → Prop} {a1 : Int32} {a2 : Int32} {a3 : Int32} {a4 : Int32} {a5 : Int32} (ha : a1 < (1 : Int32)) (hT : am_T h) (hx1 : xs 1 = a1) (hx2 : xs 2 = a2) (hx3 : xs 3 = a3) (hx4 : xs 4 = a4) (hx5 : xs 5 = a5) (K : ∀ h', am_Ek false (am_P1 (some (6, xs)) lk) am_m136 841 [(4, .int 0), (3, .ref 202), (2, .ref 164), (1, .ref 0), (0, .retAddr 0)] [] am_ks0 h' 203 4392 Q) : am_Ek false (am_P1 (some (6, xs)) lk) am_m136 243 [(4, .int 0), (3, .ref 202), (2, .ref 164), (1, .ref 0), (0, .retAddr 0)] [] am_ks0 h 203 4392 Q := by
  refine am_e_aload_n n136_243 rfl ?_
  refine am_e_sload_n n136_244 rfl ?_
  refine am_e_iload n136_245 rfl ?_
  refine am_e_iconst (w := 1) n136_246 rfl ?_
  refine am_e_iadd (w := 1) n136_247 (by decide) ?_
  refine am_e_sald1 n136_248 rfl (by decide) (by decide) hx1 ?_
  refine am_e_sload_n n136_249 rfl ?_
  refine am_e_iload n136_250 rfl ?_
  refine am_e_iconst (w := 2) n136_251 rfl ?_
  refine am_e_iadd (w := 2) n136_252 (by decide) ?_
  refine am_e_sald1 n136_253 rfl (by decide) (by decide) hx2 ?_
  by_cases hb1 : (a2 : Int32) = 0
  · subst hb1
    refine am_e_ifT n136_254 (am_c_eqT rfl) t136_254 ?_
    refine am_e_iconst (w := 0) n136_257 rfl ?_
    refine am_e_callV (L := [(0, .ref 0), (1, .int a1), (2, .int 0)]) n136_258 rfl rfl rfl rfl rfl rfl rfl rfl ?_
    refine am_e_iload_n n41_0 rfl ?_
    refine am_e_iconst (w := 1) n41_1 rfl ?_
    refine am_e_sipush (w := 999) n41_2 (by decide) ?_
    refine am_e_callS (L := [(0, .int a1), (1, .int 1), (2, .int 999)]) n41_3 rfl rfl rfl rfl rfl rfl rfl ?_
    refine am_e_iload_n n30_0 rfl ?_
    refine am_e_iload_n n30_1 rfl ?_
    refine am_e_cmpT n30_2 (am_c_ltT ha) t30_2 ?_
    refine am_e_iconst (w := 0) n30_8 rfl ?_
    refine am_e_iret c30_9 rfl rfl rfl ?_
    refine am_e_ifT n41_4 (am_c_eqT (by decide)) t41_4 ?_
    refine am_e_iconst (w := (-1)) n41_12 rfl ?_
    refine am_e_iret c41_13 rfl rfl rfl ?_
    refine am_e_aload_n n136_259 rfl ?_
    refine am_e_sload_n n136_260 rfl ?_
    refine am_e_iload n136_261 rfl ?_
    refine am_e_iconst (w := 1) n136_262 rfl ?_
    refine am_e_iadd (w := 1) n136_263 (by decide) ?_
    refine am_e_sald1 n136_264 rfl (by decide) (by decide) hx1 ?_
    refine am_e_sload_n n136_265 rfl ?_
    refine am_e_iload n136_266 rfl ?_
    refine am_e_iconst (w := 2) n136_267 rfl ?_
    refine am_e_iadd (w := 2) n136_268 (by decide) ?_
    refine am_e_sald1 n136_269 rfl (by decide) (by decide) hx2 ?_
    refine am_e_ifT n136_270 (am_c_eqT (by decide)) t136_270 ?_
    refine am_e_iconst (w := 0) n136_273 rfl ?_
    refine am_e_callV (L := [(0, .ref 164), (1, .int a1), (2, .int 0)]) n136_274 rfl rfl rfl rfl rfl rfl rfl rfl ?_
    refine am_e_aload_n n103_0 rfl ?_
    refine am_e_iconst (w := 0) n103_1 rfl ?_
    refine am_e_putf n103_2 rfl rfl ?_
    refine am_e_iload_n n103_3 rfl ?_
    refine am_e_iconst (w := 1) n103_4 rfl ?_
    refine am_e_sipush (w := 999) n103_5 (by decide) ?_
    refine am_e_callS (L := [(0, .int a1), (1, .int 1), (2, .int 999)]) n103_6 rfl rfl rfl rfl rfl rfl rfl ?_
    refine am_e_iload_n n87_0 rfl ?_
    refine am_e_iload_n n87_1 rfl ?_
    refine am_e_cmpT n87_2 (am_c_ltT ha) t87_2 ?_
    refine am_e_iconst (w := 0) n87_8 rfl ?_
    refine am_e_iret c87_9 rfl rfl rfl ?_
    refine am_e_ifT n103_7 (am_c_eqT (by decide)) t103_7 ?_
    refine am_e_iconst (w := (-1)) n103_16 rfl ?_
    refine am_e_iret c103_17 rfl rfl rfl ?_
    refine am_e_cmpT n136_275 (am_c_eqT (by decide)) t136_275 ?_
    exact K _
  · refine am_e_ifF n136_254 (am_c_eqF hb1) ?_
    refine am_e_iconst (w := 1) n136_255 rfl ?_
    refine am_e_goto c136_256 t136_256 ?_
    refine am_e_callV (L := [(0, .ref 0), (1, .int a1), (2, .int 1)]) n136_258 rfl rfl rfl rfl rfl rfl rfl rfl ?_
    refine am_e_iload_n n41_0 rfl ?_
    refine am_e_iconst (w := 1) n41_1 rfl ?_
    refine am_e_sipush (w := 999) n41_2 (by decide) ?_
    refine am_e_callS (L := [(0, .int a1), (1, .int 1), (2, .int 999)]) n41_3 rfl rfl rfl rfl rfl rfl rfl ?_
    refine am_e_iload_n n30_0 rfl ?_
    refine am_e_iload_n n30_1 rfl ?_
    refine am_e_cmpT n30_2 (am_c_ltT ha) t30_2 ?_
    refine am_e_iconst (w := 0) n30_8 rfl ?_
    refine am_e_iret c30_9 rfl rfl rfl ?_
    refine am_e_ifT n41_4 (am_c_eqT (by decide)) t41_4 ?_
    refine am_e_iconst (w := (-1)) n41_12 rfl ?_
    refine am_e_iret c41_13 rfl rfl rfl ?_
    refine am_e_aload_n n136_259 rfl ?_
    refine am_e_sload_n n136_260 rfl ?_
    refine am_e_iload n136_261 rfl ?_
    refine am_e_iconst (w := 1) n136_262 rfl ?_
    refine am_e_iadd (w := 1) n136_263 (by decide) ?_
    refine am_e_sald1 n136_264 rfl (by decide) (by decide) hx1 ?_
    refine am_e_sload_n n136_265 rfl ?_
    refine am_e_iload n136_266 rfl ?_
    refine am_e_iconst (w := 2) n136_267 rfl ?_
    refine am_e_iadd (w := 2) n136_268 (by decide) ?_
    refine am_e_sald1 n136_269 rfl (by decide) (by decide) hx2 ?_
    refine am_e_ifF n136_270 (am_c_eqF hb1) ?_
    refine am_e_iconst (w := 1) n136_271 rfl ?_
    refine am_e_goto c136_272 t136_272 ?_
    refine am_e_callV (L := [(0, .ref 164), (1, .int a1), (2, .int 1)]) n136_274 rfl rfl rfl rfl rfl rfl rfl rfl ?_
    refine am_e_aload_n n103_0 rfl ?_
    refine am_e_iconst (w := 0) n103_1 rfl ?_
    refine am_e_putf n103_2 rfl rfl ?_
    refine am_e_iload_n n103_3 rfl ?_
    refine am_e_iconst (w := 1) n103_4 rfl ?_
    refine am_e_sipush (w := 999) n103_5 (by decide) ?_
    refine am_e_callS (L := [(0, .int a1), (1, .int 1), (2, .int 999)]) n103_6 rfl rfl rfl rfl rfl rfl rfl ?_
    refine am_e_iload_n n87_0 rfl ?_
    refine am_e_iload_n n87_1 rfl ?_
    refine am_e_cmpT n87_2 (am_c_ltT ha) t87_2 ?_
    refine am_e_iconst (w := 0) n87_8 rfl ?_
    refine am_e_iret c87_9 rfl rfl rfl ?_
    refine am_e_ifT n103_7 (am_c_eqT (by decide)) t103_7 ?_
    refine am_e_iconst (w := (-1)) n103_16 rfl ?_
    refine am_e_iret c103_17 rfl rfl rfl ?_
    refine am_e_cmpT n136_275 (am_c_eqT (by decide)) t136_275 ?_
    exact K _
theorem am_op7_p {lk : List Value → List am_k → am_H → Option am_O} {xs : Nat → Int32} {h : am_H} {Q : Option Value → List am_k → am_H → Prop} {a1 : Int32} {a2 : Int32} {a3 : Int32} {a4 : Int32} {a5 : Int32} (hb : ¬ a1 < (1 : Int32)) (ha : (999 : Int32) < a1) (hT : am_T h) (hx1 : xs 1 = a1) (hx2 : xs 2 = a2) (hx3 : xs 3 = a3) (hx4 : xs 4 = a4) (hx5 : xs 5 = a5) (K : ∀ h', am_Ek false (am_P1 (some (6, xs)) lk) am_m136 841 [(4, .int 0), (3, .ref 202), (2, .ref 164), (1, .ref 0), (0, .retAddr 0)] [] am_ks0 h' 203 4392 Q) : am_Ek false (am_P1 (some (6, xs)) lk) am_m136 243 [(4, .int 0), (3, .ref 202), (2, .ref 164), (1, .ref 0), (0, .retAddr 0)] [] am_ks0 h 203 4392 Q := by
  refine am_e_aload_n n136_243 rfl ?_
  refine am_e_sload_n n136_244 rfl ?_
  refine am_e_iload n136_245 rfl ?_
  refine am_e_iconst (w := 1) n136_246 rfl ?_
  refine am_e_iadd (w := 1) n136_247 (by decide) ?_
  refine am_e_sald1 n136_248 rfl (by decide) (by decide) hx1 ?_
  refine am_e_sload_n n136_249 rfl ?_
  refine am_e_iload n136_250 rfl ?_
  refine am_e_iconst (w := 2) n136_251 rfl ?_
  refine am_e_iadd (w := 2) n136_252 (by decide) ?_
  refine am_e_sald1 n136_253 rfl (by decide) (by decide) hx2 ?_
  by_cases hb1 : (a2 : Int32) = 0
  · subst hb1
    refine am_e_ifT n136_254 (am_c_eqT rfl) t136_254 ?_
    refine am_e_iconst (w := 0) n136_257 rfl ?_
    refine am_e_callV (L := [(0, .ref 0), (1, .int a1), (2, .int 0)]) n136_258 rfl rfl rfl rfl rfl rfl rfl rfl ?_
    refine am_e_iload_n n41_0 rfl ?_
    refine am_e_iconst (w := 1) n41_1 rfl ?_
    refine am_e_sipush (w := 999) n41_2 (by decide) ?_
    refine am_e_callS (L := [(0, .int a1), (1, .int 1), (2, .int 999)]) n41_3 rfl rfl rfl rfl rfl rfl rfl ?_
    refine am_e_iload_n n30_0 rfl ?_
    refine am_e_iload_n n30_1 rfl ?_
    refine am_e_cmpF n30_2 (am_c_ltF hb) ?_
    refine am_e_iload_n n30_3 rfl ?_
    refine am_e_iload_n n30_4 rfl ?_
    refine am_e_cmpT n30_5 (am_c_gtT ha) t30_5 ?_
    refine am_e_iconst (w := 0) n30_8 rfl ?_
    refine am_e_iret c30_9 rfl rfl rfl ?_
    refine am_e_ifT n41_4 (am_c_eqT (by decide)) t41_4 ?_
    refine am_e_iconst (w := (-1)) n41_12 rfl ?_
    refine am_e_iret c41_13 rfl rfl rfl ?_
    refine am_e_aload_n n136_259 rfl ?_
    refine am_e_sload_n n136_260 rfl ?_
    refine am_e_iload n136_261 rfl ?_
    refine am_e_iconst (w := 1) n136_262 rfl ?_
    refine am_e_iadd (w := 1) n136_263 (by decide) ?_
    refine am_e_sald1 n136_264 rfl (by decide) (by decide) hx1 ?_
    refine am_e_sload_n n136_265 rfl ?_
    refine am_e_iload n136_266 rfl ?_
    refine am_e_iconst (w := 2) n136_267 rfl ?_
    refine am_e_iadd (w := 2) n136_268 (by decide) ?_
    refine am_e_sald1 n136_269 rfl (by decide) (by decide) hx2 ?_
    refine am_e_ifT n136_270 (am_c_eqT (by decide)) t136_270 ?_
    refine am_e_iconst (w := 0) n136_273 rfl ?_
    refine am_e_callV (L := [(0, .ref 164), (1, .int a1), (2, .int 0)]) n136_274 rfl rfl rfl rfl rfl rfl rfl rfl ?_
    refine am_e_aload_n n103_0 rfl ?_
    refine am_e_iconst (w := 0) n103_1 rfl ?_
    refine am_e_putf n103_2 rfl rfl ?_
    refine am_e_iload_n n103_3 rfl ?_
    refine am_e_iconst (w := 1) n103_4 rfl ?_
    refine am_e_sipush (w := 999) n103_5 (by decide) ?_
    refine am_e_callS (L := [(0, .int a1), (1, .int 1), (2, .int 999)]) n103_6 rfl rfl rfl rfl rfl rfl rfl ?_
    refine am_e_iload_n n87_0 rfl ?_
    refine am_e_iload_n n87_1 rfl ?_
    refine am_e_cmpF n87_2 (am_c_ltF hb) ?_
    refine am_e_iload_n n87_3 rfl ?_
    refine am_e_iload_n n87_4 rfl ?_
    refine am_e_cmpT n87_5 (am_c_gtT ha) t87_5 ?_
    refine am_e_iconst (w := 0) n87_8 rfl ?_
    refine am_e_iret c87_9 rfl rfl rfl ?_
    refine am_e_ifT n103_7 (am_c_eqT (by decide)) t103_7 ?_
    refine am_e_iconst (w := (-1)) n103_16 rfl ?_
    refine am_e_iret c103_17 rfl rfl rfl ?_
    refine am_e_cmpT n136_275 (am_c_eqT (by decide)) t136_275 ?_
    exact K _
  · refine am_e_ifF n136_254 (am_c_eqF hb1) ?_
    refine am_e_iconst (w := 1) n136_255 rfl ?_
    refine am_e_goto c136_256 t136_256 ?_
    refine am_e_callV (L := [(0, .ref 0), (1, .int a1), (2, .int 1)]) n136_258 rfl rfl rfl rfl rfl rfl rfl rfl ?_
    refine am_e_iload_n n41_0 rfl ?_
    refine am_e_iconst (w := 1) n41_1 rfl ?_
    refine am_e_sipush (w := 999) n41_2 (by decide) ?_
    refine am_e_callS (L := [(0, .int a1), (1, .int 1), (2, .int 999)]) n41_3 rfl rfl rfl rfl rfl rfl rfl ?_
    refine am_e_iload_n n30_0 rfl ?_
    refine am_e_iload_n n30_1 rfl ?_
    refine am_e_cmpF n30_2 (am_c_ltF hb) ?_
    refine am_e_iload_n n30_3 rfl ?_
    refine am_e_iload_n n30_4 rfl ?_
    refine am_e_cmpT n30_5 (am_c_gtT ha) t30_5 ?_
    refine am_e_iconst (w := 0) n30_8 rfl ?_
    refine am_e_iret c30_9 rfl rfl rfl ?_
    refine am_e_ifT n41_4 (am_c_eqT (by decide)) t41_4 ?_
    refine am_e_iconst (w := (-1)) n41_12 rfl ?_
    refine am_e_iret c41_13 rfl rfl rfl ?_
    refine am_e_aload_n n136_259 rfl ?_
    refine am_e_sload_n n136_260 rfl ?_
    refine am_e_iload n136_261 rfl ?_
    refine am_e_iconst (w := 1) n136_262 rfl ?_
    refine am_e_iadd (w := 1) n136_263 (by decide) ?_
    refine am_e_sald1 n136_264 rfl (by decide) (by decide) hx1 ?_
    refine am_e_sload_n n136_265 rfl ?_
    refine am_e_iload n136_266 rfl ?_
    refine am_e_iconst (w := 2) n136_267 rfl ?_
    refine am_e_iadd (w := 2) n136_268 (by decide) ?_
    refine am_e_sald1 n136_269 rfl (by decide) (by decide) hx2 ?_
    refine am_e_ifF n136_270 (am_c_eqF hb1) ?_
    refine am_e_iconst (w := 1) n136_271 rfl ?_
    refine am_e_goto c136_272 t136_272 ?_
    refine am_e_callV (L := [(0, .ref 164), (1, .int a1), (2, .int 1)]) n136_274 rfl rfl rfl rfl rfl rfl rfl rfl ?_
    refine am_e_aload_n n103_0 rfl ?_
    refine am_e_iconst (w := 0) n103_1 rfl ?_
    refine am_e_putf n103_2 rfl rfl ?_
    refine am_e_iload_n n103_3 rfl ?_
    refine am_e_iconst (w := 1) n103_4 rfl ?_
    refine am_e_sipush (w := 999) n103_5 (by decide) ?_
    refine am_e_callS (L := [(0, .int a1), (1, .int 1), (2, .int 999)]) n103_6 rfl rfl rfl rfl rfl rfl rfl ?_
    refine am_e_iload_n n87_0 rfl ?_
    refine am_e_iload_n n87_1 rfl ?_
    refine am_e_cmpF n87_2 (am_c_ltF hb) ?_
    refine am_e_iload_n n87_3 rfl ?_
    refine am_e_iload_n n87_4 rfl ?_
    refine am_e_cmpT n87_5 (am_c_gtT ha) t87_5 ?_
    refine am_e_iconst (w := 0) n87_8 rfl ?_
    refine am_e_iret c87_9 rfl rfl rfl ?_
    refine am_e_ifT n103_7 (am_c_eqT (by decide)) t103_7 ?_
    refine am_e_iconst (w := (-1)) n103_16 rfl ?_
    refine am_e_iret c103_17 rfl rfl rfl ?_
    refine am_e_cmpT n136_275 (am_c_eqT (by decide)) t136_275 ?_
    exact K _
theorem am_op7_n {lk : List Value → List am_k → am_H → Option am_O} {xs : Nat → Int32} {h : am_H} {Q : Option Value → List am_k → am_H → Prop} {a2 : Int32} {a3 : Int32} {a4 : Int32} {a5 : Int32} {n : Nat} (hn1 : 1 ≤ n) (hn9 : n ≤ 999) (hT : am_T h) (hx1 : xs 1 = (nI n)) (hx2 : xs 2 = a2) (hx3 : xs 3 = a3) (hx4 : xs 4 = a4) (hx5 : xs 5 = a5) (K : ∀ h', am_Ek false (am_P1 (some (6, xs)) lk) am_m136 841 [(4, .int 0), (3, .ref 202), (2, .ref 164), (1, .ref 0), (0, .retAddr 0)] [] am_ks0 h' 203 4392 Q) : am_Ek false (am_P1 (some (6, xs)) lk) am_m136 243 [(4, .int 0), (3, .ref 202), (2, .ref 164), (1, .ref 0), (0, .retAddr 0)] [] am_ks0 h 203 4392 Q := by
  refine am_e_aload_n n136_243 rfl ?_
  refine am_e_sload_n n136_244 rfl ?_
  refine am_e_iload n136_245 rfl ?_
  refine am_e_iconst (w := 1) n136_246 rfl ?_
  refine am_e_iadd (w := 1) n136_247 (by decide) ?_
  refine am_e_sald1 n136_248 rfl (by decide) (by decide) hx1 ?_
  refine am_e_sload_n n136_249 rfl ?_
  refine am_e_iload n136_250 rfl ?_
  refine am_e_iconst (w := 2) n136_251 rfl ?_
  refine am_e_iadd (w := 2) n136_252 (by decide) ?_
  refine am_e_sald1 n136_253 rfl (by decide) (by decide) hx2 ?_
  by_cases hb1 : (a2 : Int32) = 0
  · subst hb1
    refine am_e_ifT n136_254 (am_c_eqT rfl) t136_254 ?_
    refine am_e_iconst (w := 0) n136_257 rfl ?_
    refine am_e_callV (L := [(0, .ref 0), (1, .int (nI n)), (2, .int 0)]) n136_258 rfl rfl rfl rfl rfl rfl rfl rfl ?_
    refine am_e_iload_n n41_0 rfl ?_
    refine am_e_iconst (w := 1) n41_1 rfl ?_
    refine am_e_sipush (w := 999) n41_2 (by decide) ?_
    refine am_e_callS (L := [(0, .int (nI n)), (1, .int 1), (2, .int 999)]) n41_3 rfl rfl rfl rfl rfl rfl rfl ?_
    refine am_e_iload_n n30_0 rfl ?_
    refine am_e_iload_n n30_1 rfl ?_
    refine am_e_cmpF n30_2 (am_c_ltF (nI_nlt (b := 1) hn1 (by omega))) ?_
    refine am_e_iload_n n30_3 rfl ?_
    refine am_e_iload_n n30_4 rfl ?_
    refine am_e_cmpF n30_5 (am_c_gtF (nI_nlt (b := n) (a := 999) hn9 (by decide))) ?_
    refine am_e_iconst (w := 1) n30_6 rfl ?_
    refine am_e_goto c30_7 t30_7 ?_
    refine am_e_iret c30_9 rfl rfl rfl ?_
    refine am_e_ifF n41_4 (am_c_eqF (by decide)) ?_
    refine am_e_iload_n n41_5 rfl ?_
    refine am_e_ldc (w := 99999) n41_6 (by decide) ?_
    refine am_e_aload_n n41_7 rfl ?_
    refine am_e_getf (v := .ref 48) n41_8 rfl (f0_5 (h := h) hT) ?_
    refine am_e_getf (v := .int 0) n41_9 rfl (f48_1 (h := h) hT) ?_
    refine am_e_isub (w := 99999) n41_10 (by decide) ?_
    refine am_e_cmpT n41_11 (am_c_leT (nI_nlt (b := n) (a := 99999) (by omega) (by decide))) t41_11 ?_
    refine am_e_aload_n n41_14 rfl ?_
    refine am_e_getf (v := .ref 148) n41_15 rfl (f0_11 (h := h) hT) ?_
    refine am_e_aload_n n41_16 rfl ?_
    refine am_e_getf (v := .ref 2) n41_17 rfl (f0_2 (h := h) hT) ?_
    refine am_e_aload_n n41_18 rfl ?_
    refine am_e_getf (v := .ref 48) n41_19 rfl (f0_5 (h := h) hT) ?_
    refine am_e_callV (L := [(0, .ref 148), (1, .ref 2), (2, .ref 48)]) n41_20 rfl rfl rfl rfl rfl rfl rfl rfl ?_
    refine am_e_aload_n n31_0 rfl ?_
    refine am_e_aload_n n31_1 rfl ?_
    refine am_e_putf n31_2 rfl rfl ?_
    refine am_e_aload_n n31_3 rfl ?_
    refine am_e_getf (v := .ref 149) n31_4 rfl (f148_1 (h := h) hT) ?_
    refine am_e_aload_n n31_5 rfl ?_
    refine am_e_callV (L := [(0, .ref 149), (1, .ref 48)]) n31_6 rfl rfl rfl rfl rfl rfl rfl rfl ?_
    refine am_e_aload_n n32_0 rfl ?_
    refine am_e_aload_n n32_1 rfl ?_
    refine am_e_getf (v := .int 0) n32_2 rfl (f48_0 (h := h) hT) ?_
    refine am_e_putf n32_3 rfl rfl ?_
    refine am_e_aload_n n32_4 rfl ?_
    refine am_e_aload_n n32_5 rfl ?_
    refine am_e_getf (v := .int 0) n32_6 rfl (f48_1 (h := h) hT) ?_
    refine am_e_putf n32_7 rfl rfl ?_
    refine am_e_aload_n n32_8 rfl ?_
    refine am_e_aload_n n32_9 rfl ?_
    refine am_e_getf (v := .int (-1)) n32_10 rfl (f48_2 (h := h) hT) ?_
    refine am_e_putf n32_11 rfl rfl ?_
    refine am_e_aload_n n32_12 rfl ?_
    refine am_e_aload_n n32_13 rfl ?_
    refine am_e_getf (v := .int 0) n32_14 rfl (f48_3 (h := h) hT) ?_
    refine am_e_putf n32_15 rfl rfl ?_
    refine am_e_aload_n n32_16 rfl ?_
    refine am_e_aload_n n32_17 rfl ?_
    refine am_e_getf (v := .int 0) n32_18 rfl (f48_4 (h := h) hT) ?_
    refine am_e_putf n32_19 rfl rfl ?_
    refine am_e_iconst (w := 0) n32_20 rfl ?_
    refine am_e_istore_n (ls' := [(2, .int 0), (0, .ref 149), (1, .ref 48)]) n32_21 rfl rfl ?_
    refine am_e_iload_n n32_22 rfl ?_
    refine am_e_iconst (w := 4) n32_23 rfl ?_
    refine am_e_cmpF n32_24 (am_c_geF (by decide)) ?_
    refine am_e_aload_n n32_25 rfl ?_
    refine am_e_getf (v := .ref 150) n32_26 rfl (f149_5 (h := h) hT) ?_
    refine am_e_iload_n n32_27 rfl ?_
    refine am_e_aload_n n32_28 rfl ?_
    refine am_e_getf (v := .ref 49) n32_29 rfl (f48_5 (h := h) hT) ?_
    refine am_e_iload_n n32_30 rfl ?_
    refine am_e_iaload (v := 0) (q := 0) n32_31 rfl (by decide) (by decide) (f49_0 (h := h) hT) ?_
    refine am_e_iastore (q := 0) n32_32 rfl (by decide) (by decide) ?_
    refine am_e_aload_n n32_33 rfl ?_
    refine am_e_getf (v := .ref 151) n32_34 rfl (f149_6 (h := h) hT) ?_
    refine am_e_iload_n n32_35 rfl ?_
    refine am_e_aload_n n32_36 rfl ?_
    refine am_e_getf (v := .ref 50) n32_37 rfl (f48_6 (h := h) hT) ?_
    refine am_e_iload_n n32_38 rfl ?_
    refine am_e_iaload (v := 0) (q := 0) n32_39 rfl (by decide) (by decide) (f50_0 (h := h) hT) ?_
    refine am_e_iastore (q := 0) n32_40 rfl (by decide) (by decide) ?_
    refine am_e_aload_n n32_41 rfl ?_
    refine am_e_getf (v := .ref 152) n32_42 rfl (f149_7 (h := h) hT) ?_
    refine am_e_iload_n n32_43 rfl ?_
    refine am_e_aload_n n32_44 rfl ?_
    refine am_e_getf (v := .ref 51) n32_45 rfl (f48_7 (h := h) hT) ?_
    refine am_e_iload_n n32_46 rfl ?_
    refine am_e_iaload (v := 0) (q := 0) n32_47 rfl (by decide) (by decide) (f51_0 (h := h) hT) ?_
    refine am_e_iastore (q := 0) n32_48 rfl (by decide) (by decide) ?_
    refine am_e_iinc (w := 1) (ls' := [(2, .int 1), (0, .ref 149), (1, .ref 48)]) n32_49 rfl rfl (by decide) rfl ?_
    refine am_e_goto c32_50 t32_50 ?_
    refine am_e_iload_n n32_22 rfl ?_
    refine am_e_iconst (w := 4) n32_23 rfl ?_
    refine am_e_cmpF n32_24 (am_c_geF (by decide)) ?_
    refine am_e_aload_n n32_25 rfl ?_
    refine am_e_getf (v := .ref 150) n32_26 rfl (f149_5 (h := h) hT) ?_
    refine am_e_iload_n n32_27 rfl ?_
    refine am_e_aload_n n32_28 rfl ?_
    refine am_e_getf (v := .ref 49) n32_29 rfl (f48_5 (h := h) hT) ?_
    refine am_e_iload_n n32_30 rfl ?_
    refine am_e_iaload (v := 0) (q := 1) n32_31 rfl (by decide) (by decide) (f49_1 (h := h) hT) ?_
    refine am_e_iastore (q := 1) n32_32 rfl (by decide) (by decide) ?_
    refine am_e_aload_n n32_33 rfl ?_
    refine am_e_getf (v := .ref 151) n32_34 rfl (f149_6 (h := h) hT) ?_
    refine am_e_iload_n n32_35 rfl ?_
    refine am_e_aload_n n32_36 rfl ?_
    refine am_e_getf (v := .ref 50) n32_37 rfl (f48_6 (h := h) hT) ?_
    refine am_e_iload_n n32_38 rfl ?_
    refine am_e_iaload (v := 0) (q := 1) n32_39 rfl (by decide) (by decide) (f50_1 (h := h) hT) ?_
    refine am_e_iastore (q := 1) n32_40 rfl (by decide) (by decide) ?_
    refine am_e_aload_n n32_41 rfl ?_
    refine am_e_getf (v := .ref 152) n32_42 rfl (f149_7 (h := h) hT) ?_
    refine am_e_iload_n n32_43 rfl ?_
    refine am_e_aload_n n32_44 rfl ?_
    refine am_e_getf (v := .ref 51) n32_45 rfl (f48_7 (h := h) hT) ?_
    refine am_e_iload_n n32_46 rfl ?_
    refine am_e_iaload (v := 0) (q := 1) n32_47 rfl (by decide) (by decide) (f51_1 (h := h) hT) ?_
    refine am_e_iastore (q := 1) n32_48 rfl (by decide) (by decide) ?_
    refine am_e_iinc (w := 2) (ls' := [(2, .int 2), (0, .ref 149), (1, .ref 48)]) n32_49 rfl rfl (by decide) rfl ?_
    refine am_e_goto c32_50 t32_50 ?_
    refine am_e_iload_n n32_22 rfl ?_
    refine am_e_iconst (w := 4) n32_23 rfl ?_
    refine am_e_cmpF n32_24 (am_c_geF (by decide)) ?_
    refine am_e_aload_n n32_25 rfl ?_
    refine am_e_getf (v := .ref 150) n32_26 rfl (f149_5 (h := h) hT) ?_
    refine am_e_iload_n n32_27 rfl ?_
    refine am_e_aload_n n32_28 rfl ?_
    refine am_e_getf (v := .ref 49) n32_29 rfl (f48_5 (h := h) hT) ?_
    refine am_e_iload_n n32_30 rfl ?_
    refine am_e_iaload (v := 0) (q := 2) n32_31 rfl (by decide) (by decide) (f49_2 (h := h) hT) ?_
    refine am_e_iastore (q := 2) n32_32 rfl (by decide) (by decide) ?_
    refine am_e_aload_n n32_33 rfl ?_
    refine am_e_getf (v := .ref 151) n32_34 rfl (f149_6 (h := h) hT) ?_
    refine am_e_iload_n n32_35 rfl ?_
    refine am_e_aload_n n32_36 rfl ?_
    refine am_e_getf (v := .ref 50) n32_37 rfl (f48_6 (h := h) hT) ?_
    refine am_e_iload_n n32_38 rfl ?_
    refine am_e_iaload (v := 0) (q := 2) n32_39 rfl (by decide) (by decide) (f50_2 (h := h) hT) ?_
    refine am_e_iastore (q := 2) n32_40 rfl (by decide) (by decide) ?_
    refine am_e_aload_n n32_41 rfl ?_
    refine am_e_getf (v := .ref 152) n32_42 rfl (f149_7 (h := h) hT) ?_
    refine am_e_iload_n n32_43 rfl ?_
    refine am_e_aload_n n32_44 rfl ?_
    refine am_e_getf (v := .ref 51) n32_45 rfl (f48_7 (h := h) hT) ?_
    refine am_e_iload_n n32_46 rfl ?_
    refine am_e_iaload (v := 0) (q := 2) n32_47 rfl (by decide) (by decide) (f51_2 (h := h) hT) ?_
    refine am_e_iastore (q := 2) n32_48 rfl (by decide) (by decide) ?_
    refine am_e_iinc (w := 3) (ls' := [(2, .int 3), (0, .ref 149), (1, .ref 48)]) n32_49 rfl rfl (by decide) rfl ?_
    refine am_e_goto c32_50 t32_50 ?_
    refine am_e_iload_n n32_22 rfl ?_
    refine am_e_iconst (w := 4) n32_23 rfl ?_
    refine am_e_cmpF n32_24 (am_c_geF (by decide)) ?_
    refine am_e_aload_n n32_25 rfl ?_
    refine am_e_getf (v := .ref 150) n32_26 rfl (f149_5 (h := h) hT) ?_
    refine am_e_iload_n n32_27 rfl ?_
    refine am_e_aload_n n32_28 rfl ?_
    refine am_e_getf (v := .ref 49) n32_29 rfl (f48_5 (h := h) hT) ?_
    refine am_e_iload_n n32_30 rfl ?_
    refine am_e_iaload (v := 0) (q := 3) n32_31 rfl (by decide) (by decide) (f49_3 (h := h) hT) ?_
    refine am_e_iastore (q := 3) n32_32 rfl (by decide) (by decide) ?_
    refine am_e_aload_n n32_33 rfl ?_
    refine am_e_getf (v := .ref 151) n32_34 rfl (f149_6 (h := h) hT) ?_
    refine am_e_iload_n n32_35 rfl ?_
    refine am_e_aload_n n32_36 rfl ?_
    refine am_e_getf (v := .ref 50) n32_37 rfl (f48_6 (h := h) hT) ?_
    refine am_e_iload_n n32_38 rfl ?_
    refine am_e_iaload (v := 0) (q := 3) n32_39 rfl (by decide) (by decide) (f50_3 (h := h) hT) ?_
    refine am_e_iastore (q := 3) n32_40 rfl (by decide) (by decide) ?_
    refine am_e_aload_n n32_41 rfl ?_
    refine am_e_getf (v := .ref 152) n32_42 rfl (f149_7 (h := h) hT) ?_
    refine am_e_iload_n n32_43 rfl ?_
    refine am_e_aload_n n32_44 rfl ?_
    refine am_e_getf (v := .ref 51) n32_45 rfl (f48_7 (h := h) hT) ?_
    refine am_e_iload_n n32_46 rfl ?_
    refine am_e_iaload (v := 0) (q := 3) n32_47 rfl (by decide) (by decide) (f51_3 (h := h) hT) ?_
    refine am_e_iastore (q := 3) n32_48 rfl (by decide) (by decide) ?_
    refine am_e_iinc (w := 4) (ls' := [(2, .int 4), (0, .ref 149), (1, .ref 48)]) n32_49 rfl rfl (by decide) rfl ?_
    refine am_e_goto c32_50 t32_50 ?_
    refine am_e_iload_n n32_22 rfl ?_
    refine am_e_iconst (w := 4) n32_23 rfl ?_
    refine am_e_cmpT n32_24 (am_c_geT (by decide)) t32_24 ?_
    refine am_e_vret c32_51 rfl rfl ?_
    refine am_e_aload_n n31_7 rfl ?_
    refine am_e_aload_n n31_8 rfl ?_
    refine am_e_getf (v := .int (-1)) n31_9 rfl (f2_18 (h := h) hT) ?_
    refine am_e_putf n31_10 rfl rfl ?_
    refine am_e_aload_n n31_11 rfl ?_
    refine am_e_iconst (w := 0) n31_12 rfl ?_
    refine am_e_putf n31_13 rfl rfl ?_
    refine am_e_aload_n n31_14 rfl ?_
    refine am_e_iconst (w := 0) n31_15 rfl ?_
    refine am_e_putf n31_16 rfl rfl ?_
    refine am_e_aload_n n31_17 rfl ?_
    refine am_e_ldc (w := 2147483647) n31_18 (by decide) ?_
    refine am_e_putf n31_19 rfl rfl ?_
    refine am_e_aload_n n31_20 rfl ?_
    refine am_e_ldc (w := 2147483647) n31_21 (by decide) ?_
    refine am_e_putf n31_22 rfl rfl ?_
    refine am_e_vret c31_23 rfl rfl ?_
    refine am_e_aload_n n41_21 rfl ?_
    refine am_e_getf (v := .ref 148) n41_22 rfl (f0_11 (h := h) hT) ?_
    refine am_e_iload_n n41_23 rfl ?_
    refine am_e_iload_n n41_24 rfl ?_
    refine am_e_callV (L := [(0, .ref 148), (1, .int (nI n)), (2, .int 0)]) n41_25 rfl rfl rfl rfl rfl rfl rfl rfl ?_
    refine am_goBy0 (n := n) (f := 0) (s := 0) (by omega) ⟨(f148_1 (h := h) hT), rfl, rfl, (f2_19 (h := h) hT), (f11_7 (h := h) hT), (f2_0 (h := h) hT), (f11_6 (h := h) hT), (f16_0 (h := h) hT), (f11_4 (h := h) hT), (f14_0 (h := h) hT), (f11_5 (h := h) hT), (f15_0 (h := h) hT), rfl, rfl, trivial⟩ (by decide) (by omega) rfl rfl rfl ?_
    intro h6 F6 qa6 qb6 qc6
    rw [am_nfs_0] at qa6
    obtain ⟨l6, qc6⟩ := qc6
    refine am_e_pop n41_26 rfl ?_
    refine am_e_aload_n n41_27 rfl ?_
    refine am_e_callV (L := [(0, .ref 0)]) n41_28 rfl rfl rfl rfl rfl rfl rfl rfl ?_
    refine am_e_aload_n n39_0 rfl ?_
    refine am_e_getf (v := .ref 60) n39_1 rfl ((F6 0 9 rfl).trans (f0_9 (h := h) hT)) ?_
    refine am_e_aload_n n39_2 rfl ?_
    refine am_e_getf (v := .ref 48) n39_3 rfl ((F6 0 5 rfl).trans (f0_5 (h := h) hT)) ?_
    refine am_e_callV (L := [(0, .ref 60), (1, .ref 48)]) n39_4 rfl rfl rfl rfl rfl rfl rfl rfl ?_
    refine am_e_aload_n n40_0 rfl ?_
    refine am_e_getf (v := .ref 61) n40_1 rfl ((F6 60 0 rfl).trans (f60_0 (h := h) hT)) ?_
    refine am_e_aload_n n40_2 rfl ?_
    refine am_e_getf (v := .int 0) n40_3 rfl ((F6 60 1 rfl).trans (f60_1 (h := h) hT)) ?_
    refine am_e_aaload (v := 62) (q := 0) n40_4 rfl (by decide) (by decide) ((F6 61 0 rfl).trans (f61_0 (h := h) hT)) ?_
    refine am_e_aload_n n40_5 rfl ?_
    refine am_e_callV (L := [(0, .ref 62), (1, .ref 48)]) n40_6 rfl rfl rfl rfl rfl rfl rfl rfl ?_
    refine am_e_aload_n n32_0 rfl ?_
    refine am_e_aload_n n32_1 rfl ?_
    refine am_e_getf (v := .int 0) n32_2 rfl ((F6 48 0 rfl).trans (f48_0 (h := h) hT)) ?_
    refine am_e_putf n32_3 rfl rfl ?_
    refine am_e_aload_n n32_4 rfl ?_
    refine am_e_aload_n n32_5 rfl ?_
    refine am_e_getf (v := .int 0) n32_6 rfl ((F6 48 1 rfl).trans (f48_1 (h := h) hT)) ?_
    refine am_e_putf n32_7 rfl rfl ?_
    refine am_e_aload_n n32_8 rfl ?_
    refine am_e_aload_n n32_9 rfl ?_
    refine am_e_getf (v := .int (-1)) n32_10 rfl ((F6 48 2 rfl).trans (f48_2 (h := h) hT)) ?_
    refine am_e_putf n32_11 rfl rfl ?_
    refine am_e_aload_n n32_12 rfl ?_
    refine am_e_aload_n n32_13 rfl ?_
    refine am_e_getf (v := .int 0) n32_14 rfl ((F6 48 3 rfl).trans (f48_3 (h := h) hT)) ?_
    refine am_e_putf n32_15 rfl rfl ?_
    refine am_e_aload_n n32_16 rfl ?_
    refine am_e_aload_n n32_17 rfl ?_
    refine am_e_getf (v := .int 0) n32_18 rfl ((F6 48 4 rfl).trans (f48_4 (h := h) hT)) ?_
    refine am_e_putf n32_19 rfl rfl ?_
    refine am_e_iconst (w := 0) n32_20 rfl ?_
    refine am_e_istore_n (ls' := [(2, .int 0), (0, .ref 62), (1, .ref 48)]) n32_21 rfl rfl ?_
    refine am_e_iload_n n32_22 rfl ?_
    refine am_e_iconst (w := 4) n32_23 rfl ?_
    refine am_e_cmpF n32_24 (am_c_geF (by decide)) ?_
    refine am_e_aload_n n32_25 rfl ?_
    refine am_e_getf (v := .ref 63) n32_26 rfl ((F6 62 5 rfl).trans (f62_5 (h := h) hT)) ?_
    refine am_e_iload_n n32_27 rfl ?_
    refine am_e_aload_n n32_28 rfl ?_
    refine am_e_getf (v := .ref 49) n32_29 rfl ((F6 48 5 rfl).trans (f48_5 (h := h) hT)) ?_
    refine am_e_iload_n n32_30 rfl ?_
    refine am_e_iaload (v := 0) (q := 0) n32_31 rfl (by decide) (by decide) ((F6 49 0 rfl).trans (f49_0 (h := h) hT)) ?_
    refine am_e_iastore (q := 0) n32_32 rfl (by decide) (by decide) ?_
    refine am_e_aload_n n32_33 rfl ?_
    refine am_e_getf (v := .ref 64) n32_34 rfl ((F6 62 6 rfl).trans (f62_6 (h := h) hT)) ?_
    refine am_e_iload_n n32_35 rfl ?_
    refine am_e_aload_n n32_36 rfl ?_
    refine am_e_getf (v := .ref 50) n32_37 rfl ((F6 48 6 rfl).trans (f48_6 (h := h) hT)) ?_
    refine am_e_iload_n n32_38 rfl ?_
    refine am_e_iaload (v := 0) (q := 0) n32_39 rfl (by decide) (by decide) ((F6 50 0 rfl).trans (f50_0 (h := h) hT)) ?_
    refine am_e_iastore (q := 0) n32_40 rfl (by decide) (by decide) ?_
    refine am_e_aload_n n32_41 rfl ?_
    refine am_e_getf (v := .ref 65) n32_42 rfl ((F6 62 7 rfl).trans (f62_7 (h := h) hT)) ?_
    refine am_e_iload_n n32_43 rfl ?_
    refine am_e_aload_n n32_44 rfl ?_
    refine am_e_getf (v := .ref 51) n32_45 rfl ((F6 48 7 rfl).trans (f48_7 (h := h) hT)) ?_
    refine am_e_iload_n n32_46 rfl ?_
    refine am_e_iaload (v := 0) (q := 0) n32_47 rfl (by decide) (by decide) ((F6 51 0 rfl).trans (f51_0 (h := h) hT)) ?_
    refine am_e_iastore (q := 0) n32_48 rfl (by decide) (by decide) ?_
    refine am_e_iinc (w := 1) (ls' := [(2, .int 1), (0, .ref 62), (1, .ref 48)]) n32_49 rfl rfl (by decide) rfl ?_
    refine am_e_goto c32_50 t32_50 ?_
    refine am_e_iload_n n32_22 rfl ?_
    refine am_e_iconst (w := 4) n32_23 rfl ?_
    refine am_e_cmpF n32_24 (am_c_geF (by decide)) ?_
    refine am_e_aload_n n32_25 rfl ?_
    refine am_e_getf (v := .ref 63) n32_26 rfl ((F6 62 5 rfl).trans (f62_5 (h := h) hT)) ?_
    refine am_e_iload_n n32_27 rfl ?_
    refine am_e_aload_n n32_28 rfl ?_
    refine am_e_getf (v := .ref 49) n32_29 rfl ((F6 48 5 rfl).trans (f48_5 (h := h) hT)) ?_
    refine am_e_iload_n n32_30 rfl ?_
    refine am_e_iaload (v := 0) (q := 1) n32_31 rfl (by decide) (by decide) ((F6 49 1 rfl).trans (f49_1 (h := h) hT)) ?_
    refine am_e_iastore (q := 1) n32_32 rfl (by decide) (by decide) ?_
    refine am_e_aload_n n32_33 rfl ?_
    refine am_e_getf (v := .ref 64) n32_34 rfl ((F6 62 6 rfl).trans (f62_6 (h := h) hT)) ?_
    refine am_e_iload_n n32_35 rfl ?_
    refine am_e_aload_n n32_36 rfl ?_
    refine am_e_getf (v := .ref 50) n32_37 rfl ((F6 48 6 rfl).trans (f48_6 (h := h) hT)) ?_
    refine am_e_iload_n n32_38 rfl ?_
    refine am_e_iaload (v := 0) (q := 1) n32_39 rfl (by decide) (by decide) ((F6 50 1 rfl).trans (f50_1 (h := h) hT)) ?_
    refine am_e_iastore (q := 1) n32_40 rfl (by decide) (by decide) ?_
    refine am_e_aload_n n32_41 rfl ?_
    refine am_e_getf (v := .ref 65) n32_42 rfl ((F6 62 7 rfl).trans (f62_7 (h := h) hT)) ?_
    refine am_e_iload_n n32_43 rfl ?_
    refine am_e_aload_n n32_44 rfl ?_
    refine am_e_getf (v := .ref 51) n32_45 rfl ((F6 48 7 rfl).trans (f48_7 (h := h) hT)) ?_
    refine am_e_iload_n n32_46 rfl ?_
    refine am_e_iaload (v := 0) (q := 1) n32_47 rfl (by decide) (by decide) ((F6 51 1 rfl).trans (f51_1 (h := h) hT)) ?_
    refine am_e_iastore (q := 1) n32_48 rfl (by decide) (by decide) ?_
    refine am_e_iinc (w := 2) (ls' := [(2, .int 2), (0, .ref 62), (1, .ref 48)]) n32_49 rfl rfl (by decide) rfl ?_
    refine am_e_goto c32_50 t32_50 ?_
    refine am_e_iload_n n32_22 rfl ?_
    refine am_e_iconst (w := 4) n32_23 rfl ?_
    refine am_e_cmpF n32_24 (am_c_geF (by decide)) ?_
    refine am_e_aload_n n32_25 rfl ?_
    refine am_e_getf (v := .ref 63) n32_26 rfl ((F6 62 5 rfl).trans (f62_5 (h := h) hT)) ?_
    refine am_e_iload_n n32_27 rfl ?_
    refine am_e_aload_n n32_28 rfl ?_
    refine am_e_getf (v := .ref 49) n32_29 rfl ((F6 48 5 rfl).trans (f48_5 (h := h) hT)) ?_
    refine am_e_iload_n n32_30 rfl ?_
    refine am_e_iaload (v := 0) (q := 2) n32_31 rfl (by decide) (by decide) ((F6 49 2 rfl).trans (f49_2 (h := h) hT)) ?_
    refine am_e_iastore (q := 2) n32_32 rfl (by decide) (by decide) ?_
    refine am_e_aload_n n32_33 rfl ?_
    refine am_e_getf (v := .ref 64) n32_34 rfl ((F6 62 6 rfl).trans (f62_6 (h := h) hT)) ?_
    refine am_e_iload_n n32_35 rfl ?_
    refine am_e_aload_n n32_36 rfl ?_
    refine am_e_getf (v := .ref 50) n32_37 rfl ((F6 48 6 rfl).trans (f48_6 (h := h) hT)) ?_
    refine am_e_iload_n n32_38 rfl ?_
    refine am_e_iaload (v := 0) (q := 2) n32_39 rfl (by decide) (by decide) ((F6 50 2 rfl).trans (f50_2 (h := h) hT)) ?_
    refine am_e_iastore (q := 2) n32_40 rfl (by decide) (by decide) ?_
    refine am_e_aload_n n32_41 rfl ?_
    refine am_e_getf (v := .ref 65) n32_42 rfl ((F6 62 7 rfl).trans (f62_7 (h := h) hT)) ?_
    refine am_e_iload_n n32_43 rfl ?_
    refine am_e_aload_n n32_44 rfl ?_
    refine am_e_getf (v := .ref 51) n32_45 rfl ((F6 48 7 rfl).trans (f48_7 (h := h) hT)) ?_
    refine am_e_iload_n n32_46 rfl ?_
    refine am_e_iaload (v := 0) (q := 2) n32_47 rfl (by decide) (by decide) ((F6 51 2 rfl).trans (f51_2 (h := h) hT)) ?_
    refine am_e_iastore (q := 2) n32_48 rfl (by decide) (by decide) ?_
    refine am_e_iinc (w := 3) (ls' := [(2, .int 3), (0, .ref 62), (1, .ref 48)]) n32_49 rfl rfl (by decide) rfl ?_
    refine am_e_goto c32_50 t32_50 ?_
    refine am_e_iload_n n32_22 rfl ?_
    refine am_e_iconst (w := 4) n32_23 rfl ?_
    refine am_e_cmpF n32_24 (am_c_geF (by decide)) ?_
    refine am_e_aload_n n32_25 rfl ?_
    refine am_e_getf (v := .ref 63) n32_26 rfl ((F6 62 5 rfl).trans (f62_5 (h := h) hT)) ?_
    refine am_e_iload_n n32_27 rfl ?_
    refine am_e_aload_n n32_28 rfl ?_
    refine am_e_getf (v := .ref 49) n32_29 rfl ((F6 48 5 rfl).trans (f48_5 (h := h) hT)) ?_
    refine am_e_iload_n n32_30 rfl ?_
    refine am_e_iaload (v := 0) (q := 3) n32_31 rfl (by decide) (by decide) ((F6 49 3 rfl).trans (f49_3 (h := h) hT)) ?_
    refine am_e_iastore (q := 3) n32_32 rfl (by decide) (by decide) ?_
    refine am_e_aload_n n32_33 rfl ?_
    refine am_e_getf (v := .ref 64) n32_34 rfl ((F6 62 6 rfl).trans (f62_6 (h := h) hT)) ?_
    refine am_e_iload_n n32_35 rfl ?_
    refine am_e_aload_n n32_36 rfl ?_
    refine am_e_getf (v := .ref 50) n32_37 rfl ((F6 48 6 rfl).trans (f48_6 (h := h) hT)) ?_
    refine am_e_iload_n n32_38 rfl ?_
    refine am_e_iaload (v := 0) (q := 3) n32_39 rfl (by decide) (by decide) ((F6 50 3 rfl).trans (f50_3 (h := h) hT)) ?_
    refine am_e_iastore (q := 3) n32_40 rfl (by decide) (by decide) ?_
    refine am_e_aload_n n32_41 rfl ?_
    refine am_e_getf (v := .ref 65) n32_42 rfl ((F6 62 7 rfl).trans (f62_7 (h := h) hT)) ?_
    refine am_e_iload_n n32_43 rfl ?_
    refine am_e_aload_n n32_44 rfl ?_
    refine am_e_getf (v := .ref 51) n32_45 rfl ((F6 48 7 rfl).trans (f48_7 (h := h) hT)) ?_
    refine am_e_iload_n n32_46 rfl ?_
    refine am_e_iaload (v := 0) (q := 3) n32_47 rfl (by decide) (by decide) ((F6 51 3 rfl).trans (f51_3 (h := h) hT)) ?_
    refine am_e_iastore (q := 3) n32_48 rfl (by decide) (by decide) ?_
    refine am_e_iinc (w := 4) (ls' := [(2, .int 4), (0, .ref 62), (1, .ref 48)]) n32_49 rfl rfl (by decide) rfl ?_
    refine am_e_goto c32_50 t32_50 ?_
    refine am_e_iload_n n32_22 rfl ?_
    refine am_e_iconst (w := 4) n32_23 rfl ?_
    refine am_e_cmpT n32_24 (am_c_geT (by decide)) t32_24 ?_
    refine am_e_vret c32_51 rfl rfl ?_
    refine am_e_aload_n n40_7 rfl ?_
    refine am_e_aload_n n40_8 rfl ?_
    refine am_e_getf (v := .int 0) n40_9 rfl ((F6 60 1 rfl).trans (f60_1 (h := h) hT)) ?_
    refine am_e_iconst (w := 1) n40_10 rfl ?_
    refine am_e_iadd (w := 1) n40_11 (by decide) ?_
    refine am_e_bipush (w := 20) n40_12 (by decide) ?_
    refine am_e_irem (w := 1) n40_13 (by decide) (by decide) ?_
    refine am_e_putf n40_14 rfl rfl ?_
    refine am_e_aload_n n40_15 rfl ?_
    refine am_e_aload_n n40_16 rfl ?_
    refine am_e_getf (v := .int 0) n40_17 rfl ((F6 60 2 rfl).trans (f60_2 (h := h) hT)) ?_
    refine am_e_iconst (w := 1) n40_18 rfl ?_
    refine am_e_iadd (w := 1) n40_19 (by decide) ?_
    refine am_e_bipush (w := 20) n40_20 (by decide) ?_
    refine am_e_min (w := 1) n40_21 rfl (by decide) ?_
    refine am_e_putf n40_22 rfl rfl ?_
    refine am_e_vret c40_23 rfl rfl ?_
    refine am_e_aload_n n39_5 rfl ?_
    refine am_e_getf (v := .ref 48) n39_6 rfl ((F6 0 5 rfl).trans (f0_5 (h := h) hT)) ?_
    refine am_e_aload_n n39_7 rfl ?_
    refine am_e_getf (v := .ref 148) n39_8 rfl ((F6 0 11 rfl).trans (f0_11 (h := h) hT)) ?_
    refine am_e_getf (v := .ref 149) n39_9 rfl ((F6 148 1 rfl).trans (f148_1 (h := h) hT)) ?_
    refine am_e_callV (L := [(0, .ref 48), (1, .ref 149)]) n39_10 rfl rfl rfl rfl rfl rfl rfl rfl ?_
    refine am_e_aload_n n32_0 rfl ?_
    refine am_e_aload_n n32_1 rfl ?_
    refine am_e_getf (v := .int 0) n32_2 rfl qa6 ?_
    refine am_e_putf n32_3 rfl rfl ?_
    refine am_e_aload_n n32_4 rfl ?_
    refine am_e_aload_n n32_5 rfl ?_
    refine am_e_getf (v := .int (nI (0 + n))) n32_6 rfl qb6 ?_
    refine am_e_putf n32_7 rfl rfl ?_
    refine am_e_aload_n n32_8 rfl ?_
    refine am_e_aload_n n32_9 rfl ?_
    refine am_e_getf (v := .int (-1)) n32_10 rfl ((F6 149 2 rfl).trans rfl) ?_
    refine am_e_putf n32_11 rfl rfl ?_
    refine am_e_aload_n n32_12 rfl ?_
    refine am_e_aload_n n32_13 rfl ?_
    refine am_e_getf (v := .int 0) n32_14 rfl ((F6 149 3 rfl).trans rfl) ?_
    refine am_e_putf n32_15 rfl rfl ?_
    refine am_e_aload_n n32_16 rfl ?_
    refine am_e_aload_n n32_17 rfl ?_
    refine am_e_getf (v := .int 0) n32_18 rfl ((F6 149 4 rfl).trans rfl) ?_
    refine am_e_putf n32_19 rfl rfl ?_
    refine am_e_iconst (w := 0) n32_20 rfl ?_
    refine am_e_istore_n (ls' := [(2, .int 0), (0, .ref 48), (1, .ref 149)]) n32_21 rfl rfl ?_
    refine am_e_iload_n n32_22 rfl ?_
    refine am_e_iconst (w := 4) n32_23 rfl ?_
    refine am_e_cmpF n32_24 (am_c_geF (by decide)) ?_
    refine am_e_aload_n n32_25 rfl ?_
    refine am_e_getf (v := .ref 49) n32_26 rfl ((F6 48 5 rfl).trans (f48_5 (h := h) hT)) ?_
    refine am_e_iload_n n32_27 rfl ?_
    refine am_e_aload_n n32_28 rfl ?_
    refine am_e_getf (v := .ref 150) n32_29 rfl ((F6 149 5 rfl).trans (f149_5 (h := h) hT)) ?_
    refine am_e_iload_n n32_30 rfl ?_
    refine am_e_iaload (v := 0) (q := 0) n32_31 rfl (by decide) (by decide) ((F6 150 0 rfl).trans rfl) ?_
    refine am_e_iastore (q := 0) n32_32 rfl (by decide) (by decide) ?_
    refine am_e_aload_n n32_33 rfl ?_
    refine am_e_getf (v := .ref 50) n32_34 rfl ((F6 48 6 rfl).trans (f48_6 (h := h) hT)) ?_
    refine am_e_iload_n n32_35 rfl ?_
    refine am_e_aload_n n32_36 rfl ?_
    refine am_e_getf (v := .ref 151) n32_37 rfl ((F6 149 6 rfl).trans (f149_6 (h := h) hT)) ?_
    refine am_e_iload_n n32_38 rfl ?_
    refine am_e_iaload (v := 0) (q := 0) n32_39 rfl (by decide) (by decide) ((F6 151 0 rfl).trans rfl) ?_
    refine am_e_iastore (q := 0) n32_40 rfl (by decide) (by decide) ?_
    refine am_e_aload_n n32_41 rfl ?_
    refine am_e_getf (v := .ref 51) n32_42 rfl ((F6 48 7 rfl).trans (f48_7 (h := h) hT)) ?_
    refine am_e_iload_n n32_43 rfl ?_
    refine am_e_aload_n n32_44 rfl ?_
    refine am_e_getf (v := .ref 152) n32_45 rfl ((F6 149 7 rfl).trans (f149_7 (h := h) hT)) ?_
    refine am_e_iload_n n32_46 rfl ?_
    refine am_e_iaload (v := 0) (q := 0) n32_47 rfl (by decide) (by decide) ((F6 152 0 rfl).trans rfl) ?_
    refine am_e_iastore (q := 0) n32_48 rfl (by decide) (by decide) ?_
    refine am_e_iinc (w := 1) (ls' := [(2, .int 1), (0, .ref 48), (1, .ref 149)]) n32_49 rfl rfl (by decide) rfl ?_
    refine am_e_goto c32_50 t32_50 ?_
    refine am_e_iload_n n32_22 rfl ?_
    refine am_e_iconst (w := 4) n32_23 rfl ?_
    refine am_e_cmpF n32_24 (am_c_geF (by decide)) ?_
    refine am_e_aload_n n32_25 rfl ?_
    refine am_e_getf (v := .ref 49) n32_26 rfl ((F6 48 5 rfl).trans (f48_5 (h := h) hT)) ?_
    refine am_e_iload_n n32_27 rfl ?_
    refine am_e_aload_n n32_28 rfl ?_
    refine am_e_getf (v := .ref 150) n32_29 rfl ((F6 149 5 rfl).trans (f149_5 (h := h) hT)) ?_
    refine am_e_iload_n n32_30 rfl ?_
    refine am_e_iaload (v := 0) (q := 1) n32_31 rfl (by decide) (by decide) ((F6 150 1 rfl).trans rfl) ?_
    refine am_e_iastore (q := 1) n32_32 rfl (by decide) (by decide) ?_
    refine am_e_aload_n n32_33 rfl ?_
    refine am_e_getf (v := .ref 50) n32_34 rfl ((F6 48 6 rfl).trans (f48_6 (h := h) hT)) ?_
    refine am_e_iload_n n32_35 rfl ?_
    refine am_e_aload_n n32_36 rfl ?_
    refine am_e_getf (v := .ref 151) n32_37 rfl ((F6 149 6 rfl).trans (f149_6 (h := h) hT)) ?_
    refine am_e_iload_n n32_38 rfl ?_
    refine am_e_iaload (v := 0) (q := 1) n32_39 rfl (by decide) (by decide) ((F6 151 1 rfl).trans rfl) ?_
    refine am_e_iastore (q := 1) n32_40 rfl (by decide) (by decide) ?_
    refine am_e_aload_n n32_41 rfl ?_
    refine am_e_getf (v := .ref 51) n32_42 rfl ((F6 48 7 rfl).trans (f48_7 (h := h) hT)) ?_
    refine am_e_iload_n n32_43 rfl ?_
    refine am_e_aload_n n32_44 rfl ?_
    refine am_e_getf (v := .ref 152) n32_45 rfl ((F6 149 7 rfl).trans (f149_7 (h := h) hT)) ?_
    refine am_e_iload_n n32_46 rfl ?_
    refine am_e_iaload (v := 0) (q := 1) n32_47 rfl (by decide) (by decide) ((F6 152 1 rfl).trans rfl) ?_
    refine am_e_iastore (q := 1) n32_48 rfl (by decide) (by decide) ?_
    refine am_e_iinc (w := 2) (ls' := [(2, .int 2), (0, .ref 48), (1, .ref 149)]) n32_49 rfl rfl (by decide) rfl ?_
    refine am_e_goto c32_50 t32_50 ?_
    refine am_e_iload_n n32_22 rfl ?_
    refine am_e_iconst (w := 4) n32_23 rfl ?_
    refine am_e_cmpF n32_24 (am_c_geF (by decide)) ?_
    refine am_e_aload_n n32_25 rfl ?_
    refine am_e_getf (v := .ref 49) n32_26 rfl ((F6 48 5 rfl).trans (f48_5 (h := h) hT)) ?_
    refine am_e_iload_n n32_27 rfl ?_
    refine am_e_aload_n n32_28 rfl ?_
    refine am_e_getf (v := .ref 150) n32_29 rfl ((F6 149 5 rfl).trans (f149_5 (h := h) hT)) ?_
    refine am_e_iload_n n32_30 rfl ?_
    refine am_e_iaload (v := 0) (q := 2) n32_31 rfl (by decide) (by decide) ((F6 150 2 rfl).trans rfl) ?_
    refine am_e_iastore (q := 2) n32_32 rfl (by decide) (by decide) ?_
    refine am_e_aload_n n32_33 rfl ?_
    refine am_e_getf (v := .ref 50) n32_34 rfl ((F6 48 6 rfl).trans (f48_6 (h := h) hT)) ?_
    refine am_e_iload_n n32_35 rfl ?_
    refine am_e_aload_n n32_36 rfl ?_
    refine am_e_getf (v := .ref 151) n32_37 rfl ((F6 149 6 rfl).trans (f149_6 (h := h) hT)) ?_
    refine am_e_iload_n n32_38 rfl ?_
    refine am_e_iaload (v := 0) (q := 2) n32_39 rfl (by decide) (by decide) ((F6 151 2 rfl).trans rfl) ?_
    refine am_e_iastore (q := 2) n32_40 rfl (by decide) (by decide) ?_
    refine am_e_aload_n n32_41 rfl ?_
    refine am_e_getf (v := .ref 51) n32_42 rfl ((F6 48 7 rfl).trans (f48_7 (h := h) hT)) ?_
    refine am_e_iload_n n32_43 rfl ?_
    refine am_e_aload_n n32_44 rfl ?_
    refine am_e_getf (v := .ref 152) n32_45 rfl ((F6 149 7 rfl).trans (f149_7 (h := h) hT)) ?_
    refine am_e_iload_n n32_46 rfl ?_
    refine am_e_iaload (v := 0) (q := 2) n32_47 rfl (by decide) (by decide) ((F6 152 2 rfl).trans rfl) ?_
    refine am_e_iastore (q := 2) n32_48 rfl (by decide) (by decide) ?_
    refine am_e_iinc (w := 3) (ls' := [(2, .int 3), (0, .ref 48), (1, .ref 149)]) n32_49 rfl rfl (by decide) rfl ?_
    refine am_e_goto c32_50 t32_50 ?_
    refine am_e_iload_n n32_22 rfl ?_
    refine am_e_iconst (w := 4) n32_23 rfl ?_
    refine am_e_cmpF n32_24 (am_c_geF (by decide)) ?_
    refine am_e_aload_n n32_25 rfl ?_
    refine am_e_getf (v := .ref 49) n32_26 rfl ((F6 48 5 rfl).trans (f48_5 (h := h) hT)) ?_
    refine am_e_iload_n n32_27 rfl ?_
    refine am_e_aload_n n32_28 rfl ?_
    refine am_e_getf (v := .ref 150) n32_29 rfl ((F6 149 5 rfl).trans (f149_5 (h := h) hT)) ?_
    refine am_e_iload_n n32_30 rfl ?_
    refine am_e_iaload (v := 0) (q := 3) n32_31 rfl (by decide) (by decide) ((F6 150 3 rfl).trans rfl) ?_
    refine am_e_iastore (q := 3) n32_32 rfl (by decide) (by decide) ?_
    refine am_e_aload_n n32_33 rfl ?_
    refine am_e_getf (v := .ref 50) n32_34 rfl ((F6 48 6 rfl).trans (f48_6 (h := h) hT)) ?_
    refine am_e_iload_n n32_35 rfl ?_
    refine am_e_aload_n n32_36 rfl ?_
    refine am_e_getf (v := .ref 151) n32_37 rfl ((F6 149 6 rfl).trans (f149_6 (h := h) hT)) ?_
    refine am_e_iload_n n32_38 rfl ?_
    refine am_e_iaload (v := 0) (q := 3) n32_39 rfl (by decide) (by decide) ((F6 151 3 rfl).trans rfl) ?_
    refine am_e_iastore (q := 3) n32_40 rfl (by decide) (by decide) ?_
    refine am_e_aload_n n32_41 rfl ?_
    refine am_e_getf (v := .ref 51) n32_42 rfl ((F6 48 7 rfl).trans (f48_7 (h := h) hT)) ?_
    refine am_e_iload_n n32_43 rfl ?_
    refine am_e_aload_n n32_44 rfl ?_
    refine am_e_getf (v := .ref 152) n32_45 rfl ((F6 149 7 rfl).trans (f149_7 (h := h) hT)) ?_
    refine am_e_iload_n n32_46 rfl ?_
    refine am_e_iaload (v := 0) (q := 3) n32_47 rfl (by decide) (by decide) ((F6 152 3 rfl).trans rfl) ?_
    refine am_e_iastore (q := 3) n32_48 rfl (by decide) (by decide) ?_
    refine am_e_iinc (w := 4) (ls' := [(2, .int 4), (0, .ref 48), (1, .ref 149)]) n32_49 rfl rfl (by decide) rfl ?_
    refine am_e_goto c32_50 t32_50 ?_
    refine am_e_iload_n n32_22 rfl ?_
    refine am_e_iconst (w := 4) n32_23 rfl ?_
    refine am_e_cmpT n32_24 (am_c_geT (by decide)) t32_24 ?_
    refine am_e_vret c32_51 rfl rfl ?_
    refine am_e_aload_n n39_11 rfl ?_
    refine am_e_getf (v := .ref 48) n39_12 rfl ((F6 0 5 rfl).trans (f0_5 (h := h) hT)) ?_
    refine am_e_getf (v := .int 0) n39_13 rfl rfl ?_
    refine am_e_iret c39_14 rfl rfl rfl ?_
    refine am_e_iret c41_29 rfl rfl rfl ?_
    refine am_e_aload_n n136_259 rfl ?_
    refine am_e_sload_n n136_260 rfl ?_
    refine am_e_iload n136_261 rfl ?_
    refine am_e_iconst (w := 1) n136_262 rfl ?_
    refine am_e_iadd (w := 1) n136_263 (by decide) ?_
    refine am_e_sald1 n136_264 rfl (by decide) (by decide) hx1 ?_
    refine am_e_sload_n n136_265 rfl ?_
    refine am_e_iload n136_266 rfl ?_
    refine am_e_iconst (w := 2) n136_267 rfl ?_
    refine am_e_iadd (w := 2) n136_268 (by decide) ?_
    refine am_e_sald1 n136_269 rfl (by decide) (by decide) hx2 ?_
    refine am_e_ifT n136_270 (am_c_eqT (by decide)) t136_270 ?_
    refine am_e_iconst (w := 0) n136_273 rfl ?_
    refine am_e_callV (L := [(0, .ref 164), (1, .int (nI n)), (2, .int 0)]) n136_274 rfl rfl rfl rfl rfl rfl rfl rfl ?_
    refine am_e_aload_n n103_0 rfl ?_
    refine am_e_iconst (w := 0) n103_1 rfl ?_
    refine am_e_putf n103_2 rfl rfl ?_
    refine am_e_iload_n n103_3 rfl ?_
    refine am_e_iconst (w := 1) n103_4 rfl ?_
    refine am_e_sipush (w := 999) n103_5 (by decide) ?_
    refine am_e_callS (L := [(0, .int (nI n)), (1, .int 1), (2, .int 999)]) n103_6 rfl rfl rfl rfl rfl rfl rfl ?_
    refine am_e_iload_n n87_0 rfl ?_
    refine am_e_iload_n n87_1 rfl ?_
    refine am_e_cmpF n87_2 (am_c_ltF (nI_nlt (b := 1) hn1 (by omega))) ?_
    refine am_e_iload_n n87_3 rfl ?_
    refine am_e_iload_n n87_4 rfl ?_
    refine am_e_cmpF n87_5 (am_c_gtF (nI_nlt (b := n) (a := 999) hn9 (by decide))) ?_
    refine am_e_iconst (w := 1) n87_6 rfl ?_
    refine am_e_goto c87_7 t87_7 ?_
    refine am_e_iret c87_9 rfl rfl rfl ?_
    refine am_e_ifF n103_7 (am_c_eqF (by decide)) ?_
    refine am_e_aload_n n103_8 rfl ?_
    refine am_e_getf (v := .ref 189) n103_9 rfl ((F6 164 51 rfl).trans (f164_51 (h := h) hT)) ?_
    refine am_e_iconst (w := 0) n103_10 rfl ?_
    refine am_e_iaload (v := 0) (q := 0) n103_11 rfl (by decide) (by decide) ((F6 189 0 rfl).trans (f189_0 (h := h) hT)) ?_
    refine am_e_iload_n n103_12 rfl ?_
    refine am_e_iadd (w := (nI n)) n103_13 (Int32.zero_add _) ?_
    refine am_e_ldc (w := 99999) n103_14 (by decide) ?_
    refine am_e_cmpT n103_15 (am_c_leT (nI_nlt (b := n) (a := 99999) (by omega) (by decide))) t103_15 ?_
    refine am_e_aload_n n103_18 rfl ?_
    refine am_e_callV (L := [(0, .ref 164)]) n103_19 rfl rfl rfl rfl rfl rfl rfl rfl ?_
    refine am_e_aload_n n101_0 rfl ?_
    refine am_e_getf (v := .int 0) n101_1 rfl ((F6 164 77 rfl).trans (f164_77 (h := h) hT)) ?_
    refine am_e_bipush (w := 20) n101_2 (by decide) ?_
    refine am_e_cmpT n101_3 (am_c_neT (by decide)) t101_3 ?_
    refine am_e_aload_n n101_27 rfl ?_
    refine am_e_aload_n n101_28 rfl ?_
    refine am_e_getf (v := .ref 200) n101_29 rfl ((F6 164 78 rfl).trans (f164_78 (h := h) hT)) ?_
    refine am_e_bipush (w := 17) n101_30 (by decide) ?_
    refine am_e_aload_n n101_31 rfl ?_
    refine am_e_getf (v := .int 0) n101_32 rfl ((F6 164 77 rfl).trans (f164_77 (h := h) hT)) ?_
    refine am_e_imul (w := 0) n101_33 (by decide) ?_
    refine am_e_callV (L := [(0, .ref 164), (1, .ref 200), (2, .int 0)]) n101_34 rfl rfl rfl rfl rfl rfl rfl rfl ?_
    refine am_e_aload_n n102_0 rfl ?_
    refine am_e_iload_n n102_1 rfl ?_
    refine am_e_aload_n n102_2 rfl ?_
    refine am_e_getf (v := .ref 188) n102_3 rfl ((F6 164 50 rfl).trans (f164_50 (h := h) hT)) ?_
    refine am_e_iconst (w := 0) n102_4 rfl ?_
    refine am_e_iaload (v := 0) (q := 0) n102_5 rfl (by decide) (by decide) ((F6 188 0 rfl).trans (f188_0 (h := h) hT)) ?_
    refine am_e_iastore (q := 0) n102_6 rfl (by decide) (by decide) ?_
    refine am_e_aload_n n102_7 rfl ?_
    refine am_e_iload_n n102_8 rfl ?_
    refine am_e_iconst (w := 1) n102_9 rfl ?_
    refine am_e_iadd (w := 1) n102_10 (by decide) ?_
    refine am_e_aload_n n102_11 rfl ?_
    refine am_e_getf (v := .ref 189) n102_12 rfl ((F6 164 51 rfl).trans (f164_51 (h := h) hT)) ?_
    refine am_e_iconst (w := 0) n102_13 rfl ?_
    refine am_e_iaload (v := 0) (q := 0) n102_14 rfl (by decide) (by decide) ((F6 189 0 rfl).trans (f189_0 (h := h) hT)) ?_
    refine am_e_iastore (q := 1) n102_15 rfl (by decide) (by decide) ?_
    refine am_e_aload_n n102_16 rfl ?_
    refine am_e_iload_n n102_17 rfl ?_
    refine am_e_iconst (w := 2) n102_18 rfl ?_
    refine am_e_iadd (w := 2) n102_19 (by decide) ?_
    refine am_e_aload_n n102_20 rfl ?_
    refine am_e_getf (v := .ref 190) n102_21 rfl ((F6 164 52 rfl).trans (f164_52 (h := h) hT)) ?_
    refine am_e_iconst (w := 0) n102_22 rfl ?_
    refine am_e_iaload (v := (-1)) (q := 0) n102_23 rfl (by decide) (by decide) ((F6 190 0 rfl).trans (f190_0 (h := h) hT)) ?_
    refine am_e_iastore (q := 2) n102_24 rfl (by decide) (by decide) ?_
    refine am_e_aload_n n102_25 rfl ?_
    refine am_e_iload_n n102_26 rfl ?_
    refine am_e_iconst (w := 3) n102_27 rfl ?_
    refine am_e_iadd (w := 3) n102_28 (by decide) ?_
    refine am_e_aload_n n102_29 rfl ?_
    refine am_e_getf (v := .ref 194) n102_30 rfl ((F6 164 56 rfl).trans (f164_56 (h := h) hT)) ?_
    refine am_e_iconst (w := 0) n102_31 rfl ?_
    refine am_e_iaload (v := 0) (q := 0) n102_32 rfl (by decide) (by decide) ((F6 194 0 rfl).trans (f194_0 (h := h) hT)) ?_
    refine am_e_iastore (q := 3) n102_33 rfl (by decide) (by decide) ?_
    refine am_e_aload_n n102_34 rfl ?_
    refine am_e_iload_n n102_35 rfl ?_
    refine am_e_iconst (w := 4) n102_36 rfl ?_
    refine am_e_iadd (w := 4) n102_37 (by decide) ?_
    refine am_e_aload_n n102_38 rfl ?_
    refine am_e_getf (v := .int 0) n102_39 rfl ((F6 164 57 rfl).trans (f164_57 (h := h) hT)) ?_
    refine am_e_iastore (q := 4) n102_40 rfl (by decide) (by decide) ?_
    refine am_e_iconst (w := 0) n102_41 rfl ?_
    refine am_e_istore_n (ls' := [(3, .int 0), (0, .ref 164), (1, .ref 200), (2, .int 0)]) n102_42 rfl rfl ?_
    refine am_e_iload_n n102_43 rfl ?_
    refine am_e_iconst (w := 4) n102_44 rfl ?_
    refine am_e_cmpF n102_45 (am_c_geF (by decide)) ?_
    refine am_e_aload_n n102_46 rfl ?_
    refine am_e_iload_n n102_47 rfl ?_
    refine am_e_iconst (w := 5) n102_48 rfl ?_
    refine am_e_iadd (w := 5) n102_49 (by decide) ?_
    refine am_e_iload_n n102_50 rfl ?_
    refine am_e_iadd (w := 5) n102_51 (by decide) ?_
    refine am_e_aload_n n102_52 rfl ?_
    refine am_e_getf (v := .ref 191) n102_53 rfl ((F6 164 53 rfl).trans (f164_53 (h := h) hT)) ?_
    refine am_e_iload_n n102_54 rfl ?_
    refine am_e_iaload (v := 0) (q := 0) n102_55 rfl (by decide) (by decide) ((F6 191 0 rfl).trans (f191_0 (h := h) hT)) ?_
    refine am_e_iastore (q := 5) n102_56 rfl (by decide) (by decide) ?_
    refine am_e_aload_n n102_57 rfl ?_
    refine am_e_iload_n n102_58 rfl ?_
    refine am_e_bipush (w := 9) n102_59 (by decide) ?_
    refine am_e_iadd (w := 9) n102_60 (by decide) ?_
    refine am_e_iload_n n102_61 rfl ?_
    refine am_e_iadd (w := 9) n102_62 (by decide) ?_
    refine am_e_aload_n n102_63 rfl ?_
    refine am_e_getf (v := .ref 192) n102_64 rfl ((F6 164 54 rfl).trans (f164_54 (h := h) hT)) ?_
    refine am_e_iload_n n102_65 rfl ?_
    refine am_e_iaload (v := 0) (q := 0) n102_66 rfl (by decide) (by decide) ((F6 192 0 rfl).trans (f192_0 (h := h) hT)) ?_
    refine am_e_iastore (q := 9) n102_67 rfl (by decide) (by decide) ?_
    refine am_e_aload_n n102_68 rfl ?_
    refine am_e_iload_n n102_69 rfl ?_
    refine am_e_bipush (w := 13) n102_70 (by decide) ?_
    refine am_e_iadd (w := 13) n102_71 (by decide) ?_
    refine am_e_iload_n n102_72 rfl ?_
    refine am_e_iadd (w := 13) n102_73 (by decide) ?_
    refine am_e_aload_n n102_74 rfl ?_
    refine am_e_getf (v := .ref 193) n102_75 rfl ((F6 164 55 rfl).trans (f164_55 (h := h) hT)) ?_
    refine am_e_iload_n n102_76 rfl ?_
    refine am_e_iaload (v := 0) (q := 0) n102_77 rfl (by decide) (by decide) ((F6 193 0 rfl).trans (f193_0 (h := h) hT)) ?_
    refine am_e_iastore (q := 13) n102_78 rfl (by decide) (by decide) ?_
    refine am_e_iinc (w := 1) (ls' := [(3, .int 1), (0, .ref 164), (1, .ref 200), (2, .int 0)]) n102_79 rfl rfl (by decide) rfl ?_
    refine am_e_goto c102_80 t102_80 ?_
    refine am_e_iload_n n102_43 rfl ?_
    refine am_e_iconst (w := 4) n102_44 rfl ?_
    refine am_e_cmpF n102_45 (am_c_geF (by decide)) ?_
    refine am_e_aload_n n102_46 rfl ?_
    refine am_e_iload_n n102_47 rfl ?_
    refine am_e_iconst (w := 5) n102_48 rfl ?_
    refine am_e_iadd (w := 5) n102_49 (by decide) ?_
    refine am_e_iload_n n102_50 rfl ?_
    refine am_e_iadd (w := 6) n102_51 (by decide) ?_
    refine am_e_aload_n n102_52 rfl ?_
    refine am_e_getf (v := .ref 191) n102_53 rfl ((F6 164 53 rfl).trans (f164_53 (h := h) hT)) ?_
    refine am_e_iload_n n102_54 rfl ?_
    refine am_e_iaload (v := 0) (q := 1) n102_55 rfl (by decide) (by decide) ((F6 191 1 rfl).trans (f191_1 (h := h) hT)) ?_
    refine am_e_iastore (q := 6) n102_56 rfl (by decide) (by decide) ?_
    refine am_e_aload_n n102_57 rfl ?_
    refine am_e_iload_n n102_58 rfl ?_
    refine am_e_bipush (w := 9) n102_59 (by decide) ?_
    refine am_e_iadd (w := 9) n102_60 (by decide) ?_
    refine am_e_iload_n n102_61 rfl ?_
    refine am_e_iadd (w := 10) n102_62 (by decide) ?_
    refine am_e_aload_n n102_63 rfl ?_
    refine am_e_getf (v := .ref 192) n102_64 rfl ((F6 164 54 rfl).trans (f164_54 (h := h) hT)) ?_
    refine am_e_iload_n n102_65 rfl ?_
    refine am_e_iaload (v := 0) (q := 1) n102_66 rfl (by decide) (by decide) ((F6 192 1 rfl).trans (f192_1 (h := h) hT)) ?_
    refine am_e_iastore (q := 10) n102_67 rfl (by decide) (by decide) ?_
    refine am_e_aload_n n102_68 rfl ?_
    refine am_e_iload_n n102_69 rfl ?_
    refine am_e_bipush (w := 13) n102_70 (by decide) ?_
    refine am_e_iadd (w := 13) n102_71 (by decide) ?_
    refine am_e_iload_n n102_72 rfl ?_
    refine am_e_iadd (w := 14) n102_73 (by decide) ?_
    refine am_e_aload_n n102_74 rfl ?_
    refine am_e_getf (v := .ref 193) n102_75 rfl ((F6 164 55 rfl).trans (f164_55 (h := h) hT)) ?_
    refine am_e_iload_n n102_76 rfl ?_
    refine am_e_iaload (v := 0) (q := 1) n102_77 rfl (by decide) (by decide) ((F6 193 1 rfl).trans (f193_1 (h := h) hT)) ?_
    refine am_e_iastore (q := 14) n102_78 rfl (by decide) (by decide) ?_
    refine am_e_iinc (w := 2) (ls' := [(3, .int 2), (0, .ref 164), (1, .ref 200), (2, .int 0)]) n102_79 rfl rfl (by decide) rfl ?_
    refine am_e_goto c102_80 t102_80 ?_
    refine am_e_iload_n n102_43 rfl ?_
    refine am_e_iconst (w := 4) n102_44 rfl ?_
    refine am_e_cmpF n102_45 (am_c_geF (by decide)) ?_
    refine am_e_aload_n n102_46 rfl ?_
    refine am_e_iload_n n102_47 rfl ?_
    refine am_e_iconst (w := 5) n102_48 rfl ?_
    refine am_e_iadd (w := 5) n102_49 (by decide) ?_
    refine am_e_iload_n n102_50 rfl ?_
    refine am_e_iadd (w := 7) n102_51 (by decide) ?_
    refine am_e_aload_n n102_52 rfl ?_
    refine am_e_getf (v := .ref 191) n102_53 rfl ((F6 164 53 rfl).trans (f164_53 (h := h) hT)) ?_
    refine am_e_iload_n n102_54 rfl ?_
    refine am_e_iaload (v := 0) (q := 2) n102_55 rfl (by decide) (by decide) ((F6 191 2 rfl).trans (f191_2 (h := h) hT)) ?_
    refine am_e_iastore (q := 7) n102_56 rfl (by decide) (by decide) ?_
    refine am_e_aload_n n102_57 rfl ?_
    refine am_e_iload_n n102_58 rfl ?_
    refine am_e_bipush (w := 9) n102_59 (by decide) ?_
    refine am_e_iadd (w := 9) n102_60 (by decide) ?_
    refine am_e_iload_n n102_61 rfl ?_
    refine am_e_iadd (w := 11) n102_62 (by decide) ?_
    refine am_e_aload_n n102_63 rfl ?_
    refine am_e_getf (v := .ref 192) n102_64 rfl ((F6 164 54 rfl).trans (f164_54 (h := h) hT)) ?_
    refine am_e_iload_n n102_65 rfl ?_
    refine am_e_iaload (v := 0) (q := 2) n102_66 rfl (by decide) (by decide) ((F6 192 2 rfl).trans (f192_2 (h := h) hT)) ?_
    refine am_e_iastore (q := 11) n102_67 rfl (by decide) (by decide) ?_
    refine am_e_aload_n n102_68 rfl ?_
    refine am_e_iload_n n102_69 rfl ?_
    refine am_e_bipush (w := 13) n102_70 (by decide) ?_
    refine am_e_iadd (w := 13) n102_71 (by decide) ?_
    refine am_e_iload_n n102_72 rfl ?_
    refine am_e_iadd (w := 15) n102_73 (by decide) ?_
    refine am_e_aload_n n102_74 rfl ?_
    refine am_e_getf (v := .ref 193) n102_75 rfl ((F6 164 55 rfl).trans (f164_55 (h := h) hT)) ?_
    refine am_e_iload_n n102_76 rfl ?_
    refine am_e_iaload (v := 0) (q := 2) n102_77 rfl (by decide) (by decide) ((F6 193 2 rfl).trans (f193_2 (h := h) hT)) ?_
    refine am_e_iastore (q := 15) n102_78 rfl (by decide) (by decide) ?_
    refine am_e_iinc (w := 3) (ls' := [(3, .int 3), (0, .ref 164), (1, .ref 200), (2, .int 0)]) n102_79 rfl rfl (by decide) rfl ?_
    refine am_e_goto c102_80 t102_80 ?_
    refine am_e_iload_n n102_43 rfl ?_
    refine am_e_iconst (w := 4) n102_44 rfl ?_
    refine am_e_cmpF n102_45 (am_c_geF (by decide)) ?_
    refine am_e_aload_n n102_46 rfl ?_
    refine am_e_iload_n n102_47 rfl ?_
    refine am_e_iconst (w := 5) n102_48 rfl ?_
    refine am_e_iadd (w := 5) n102_49 (by decide) ?_
    refine am_e_iload_n n102_50 rfl ?_
    refine am_e_iadd (w := 8) n102_51 (by decide) ?_
    refine am_e_aload_n n102_52 rfl ?_
    refine am_e_getf (v := .ref 191) n102_53 rfl ((F6 164 53 rfl).trans (f164_53 (h := h) hT)) ?_
    refine am_e_iload_n n102_54 rfl ?_
    refine am_e_iaload (v := 0) (q := 3) n102_55 rfl (by decide) (by decide) ((F6 191 3 rfl).trans (f191_3 (h := h) hT)) ?_
    refine am_e_iastore (q := 8) n102_56 rfl (by decide) (by decide) ?_
    refine am_e_aload_n n102_57 rfl ?_
    refine am_e_iload_n n102_58 rfl ?_
    refine am_e_bipush (w := 9) n102_59 (by decide) ?_
    refine am_e_iadd (w := 9) n102_60 (by decide) ?_
    refine am_e_iload_n n102_61 rfl ?_
    refine am_e_iadd (w := 12) n102_62 (by decide) ?_
    refine am_e_aload_n n102_63 rfl ?_
    refine am_e_getf (v := .ref 192) n102_64 rfl ((F6 164 54 rfl).trans (f164_54 (h := h) hT)) ?_
    refine am_e_iload_n n102_65 rfl ?_
    refine am_e_iaload (v := 0) (q := 3) n102_66 rfl (by decide) (by decide) ((F6 192 3 rfl).trans (f192_3 (h := h) hT)) ?_
    refine am_e_iastore (q := 12) n102_67 rfl (by decide) (by decide) ?_
    refine am_e_aload_n n102_68 rfl ?_
    refine am_e_iload_n n102_69 rfl ?_
    refine am_e_bipush (w := 13) n102_70 (by decide) ?_
    refine am_e_iadd (w := 13) n102_71 (by decide) ?_
    refine am_e_iload_n n102_72 rfl ?_
    refine am_e_iadd (w := 16) n102_73 (by decide) ?_
    refine am_e_aload_n n102_74 rfl ?_
    refine am_e_getf (v := .ref 193) n102_75 rfl ((F6 164 55 rfl).trans (f164_55 (h := h) hT)) ?_
    refine am_e_iload_n n102_76 rfl ?_
    refine am_e_iaload (v := 0) (q := 3) n102_77 rfl (by decide) (by decide) ((F6 193 3 rfl).trans (f193_3 (h := h) hT)) ?_
    refine am_e_iastore (q := 16) n102_78 rfl (by decide) (by decide) ?_
    refine am_e_iinc (w := 4) (ls' := [(3, .int 4), (0, .ref 164), (1, .ref 200), (2, .int 0)]) n102_79 rfl rfl (by decide) rfl ?_
    refine am_e_goto c102_80 t102_80 ?_
    refine am_e_iload_n n102_43 rfl ?_
    refine am_e_iconst (w := 4) n102_44 rfl ?_
    refine am_e_cmpT n102_45 (am_c_geT (by decide)) t102_45 ?_
    refine am_e_vret c102_81 rfl rfl ?_
    refine am_e_aload_n n101_35 rfl ?_
    refine am_e_dup n101_36 rfl ?_
    refine am_e_getf (v := .int 0) n101_37 rfl ((F6 164 77 rfl).trans (f164_77 (h := h) hT)) ?_
    refine am_e_iconst (w := 1) n101_38 rfl ?_
    refine am_e_iadd (w := 1) n101_39 (by decide) ?_
    refine am_e_putf n101_40 rfl rfl ?_
    refine am_e_vret c101_41 rfl rfl ?_
    refine am_e_iconst (w := 0) n103_20 rfl ?_
    refine am_e_istore_n (ls' := [(3, .int 0), (0, .ref 164), (1, .int (nI n)), (2, .int 0)]) n103_21 rfl rfl ?_
    refine am_Ek_ls (ls' := [(0, .ref 164), (1, .int (nI n)), (2, .int 0), (3, .int (nI 0))]) ⟨rfl, rfl, rfl, rfl, trivial⟩ ?_
    refine am_mW0_e (n := n) (f := 0) (s := 0) (by omega) ⟨((F6 164 50 rfl).trans (f164_50 (h := h) hT)), ((F6 164 61 rfl).trans (f164_61 (h := h) hT)), ((F6 164 47 rfl).trans (f164_47 (h := h) hT)), ((F6 164 23 rfl).trans (f164_23 (h := h) hT)), ((F6 168 0 rfl).trans (f168_0 (h := h) hT)), ((F6 164 51 rfl).trans (f164_51 (h := h) hT)), ((F6 164 33 rfl).trans (f164_33 (h := h) hT)), ((F6 178 2 rfl).trans (f178_2 (h := h) hT)), ((F6 178 0 rfl).trans (f178_0 (h := h) hT)), ((F6 164 62 rfl).trans (f164_62 (h := h) hT)), ((F6 164 58 rfl).trans (f164_58 (h := h) hT)), ((F6 164 60 rfl).trans (f164_60 (h := h) hT)), trivial⟩ (by decide) (by omega) ((F6 188 0 rfl).trans (f188_0 (h := h) hT)) ((F6 189 0 rfl).trans (f189_0 (h := h) hT)) ?_
    intro h7 F7 qa7 qb7
    rw [am_nfs_0] at qa7
    refine am_e_aload_n n103_32 rfl ?_
    refine am_e_getf (v := .ref 188) n103_33 rfl ((F7 164 50 rfl).trans ((F6 164 50 rfl).trans (f164_50 (h := h) hT))) ?_
    refine am_e_iconst (w := 0) n103_34 rfl ?_
    refine am_e_iaload (v := 0) (q := 0) n103_35 rfl (by decide) (by decide) qa7 ?_
    refine am_e_iret c103_36 rfl rfl rfl ?_
    refine am_e_cmpT n136_275 (am_c_eqT (by decide)) t136_275 ?_
    exact K _
  · refine am_e_ifF n136_254 (am_c_eqF hb1) ?_
    refine am_e_iconst (w := 1) n136_255 rfl ?_
    refine am_e_goto c136_256 t136_256 ?_
    refine am_e_callV (L := [(0, .ref 0), (1, .int (nI n)), (2, .int 1)]) n136_258 rfl rfl rfl rfl rfl rfl rfl rfl ?_
    refine am_e_iload_n n41_0 rfl ?_
    refine am_e_iconst (w := 1) n41_1 rfl ?_
    refine am_e_sipush (w := 999) n41_2 (by decide) ?_
    refine am_e_callS (L := [(0, .int (nI n)), (1, .int 1), (2, .int 999)]) n41_3 rfl rfl rfl rfl rfl rfl rfl ?_
    refine am_e_iload_n n30_0 rfl ?_
    refine am_e_iload_n n30_1 rfl ?_
    refine am_e_cmpF n30_2 (am_c_ltF (nI_nlt (b := 1) hn1 (by omega))) ?_
    refine am_e_iload_n n30_3 rfl ?_
    refine am_e_iload_n n30_4 rfl ?_
    refine am_e_cmpF n30_5 (am_c_gtF (nI_nlt (b := n) (a := 999) hn9 (by decide))) ?_
    refine am_e_iconst (w := 1) n30_6 rfl ?_
    refine am_e_goto c30_7 t30_7 ?_
    refine am_e_iret c30_9 rfl rfl rfl ?_
    refine am_e_ifF n41_4 (am_c_eqF (by decide)) ?_
    refine am_e_iload_n n41_5 rfl ?_
    refine am_e_ldc (w := 99999) n41_6 (by decide) ?_
    refine am_e_aload_n n41_7 rfl ?_
    refine am_e_getf (v := .ref 48) n41_8 rfl (f0_5 (h := h) hT) ?_
    refine am_e_getf (v := .int 0) n41_9 rfl (f48_1 (h := h) hT) ?_
    refine am_e_isub (w := 99999) n41_10 (by decide) ?_
    refine am_e_cmpT n41_11 (am_c_leT (nI_nlt (b := n) (a := 99999) (by omega) (by decide))) t41_11 ?_
    refine am_e_aload_n n41_14 rfl ?_
    refine am_e_getf (v := .ref 148) n41_15 rfl (f0_11 (h := h) hT) ?_
    refine am_e_aload_n n41_16 rfl ?_
    refine am_e_getf (v := .ref 2) n41_17 rfl (f0_2 (h := h) hT) ?_
    refine am_e_aload_n n41_18 rfl ?_
    refine am_e_getf (v := .ref 48) n41_19 rfl (f0_5 (h := h) hT) ?_
    refine am_e_callV (L := [(0, .ref 148), (1, .ref 2), (2, .ref 48)]) n41_20 rfl rfl rfl rfl rfl rfl rfl rfl ?_
    refine am_e_aload_n n31_0 rfl ?_
    refine am_e_aload_n n31_1 rfl ?_
    refine am_e_putf n31_2 rfl rfl ?_
    refine am_e_aload_n n31_3 rfl ?_
    refine am_e_getf (v := .ref 149) n31_4 rfl (f148_1 (h := h) hT) ?_
    refine am_e_aload_n n31_5 rfl ?_
    refine am_e_callV (L := [(0, .ref 149), (1, .ref 48)]) n31_6 rfl rfl rfl rfl rfl rfl rfl rfl ?_
    refine am_e_aload_n n32_0 rfl ?_
    refine am_e_aload_n n32_1 rfl ?_
    refine am_e_getf (v := .int 0) n32_2 rfl (f48_0 (h := h) hT) ?_
    refine am_e_putf n32_3 rfl rfl ?_
    refine am_e_aload_n n32_4 rfl ?_
    refine am_e_aload_n n32_5 rfl ?_
    refine am_e_getf (v := .int 0) n32_6 rfl (f48_1 (h := h) hT) ?_
    refine am_e_putf n32_7 rfl rfl ?_
    refine am_e_aload_n n32_8 rfl ?_
    refine am_e_aload_n n32_9 rfl ?_
    refine am_e_getf (v := .int (-1)) n32_10 rfl (f48_2 (h := h) hT) ?_
    refine am_e_putf n32_11 rfl rfl ?_
    refine am_e_aload_n n32_12 rfl ?_
    refine am_e_aload_n n32_13 rfl ?_
    refine am_e_getf (v := .int 0) n32_14 rfl (f48_3 (h := h) hT) ?_
    refine am_e_putf n32_15 rfl rfl ?_
    refine am_e_aload_n n32_16 rfl ?_
    refine am_e_aload_n n32_17 rfl ?_
    refine am_e_getf (v := .int 0) n32_18 rfl (f48_4 (h := h) hT) ?_
    refine am_e_putf n32_19 rfl rfl ?_
    refine am_e_iconst (w := 0) n32_20 rfl ?_
    refine am_e_istore_n (ls' := [(2, .int 0), (0, .ref 149), (1, .ref 48)]) n32_21 rfl rfl ?_
    refine am_e_iload_n n32_22 rfl ?_
    refine am_e_iconst (w := 4) n32_23 rfl ?_
    refine am_e_cmpF n32_24 (am_c_geF (by decide)) ?_
    refine am_e_aload_n n32_25 rfl ?_
    refine am_e_getf (v := .ref 150) n32_26 rfl (f149_5 (h := h) hT) ?_
    refine am_e_iload_n n32_27 rfl ?_
    refine am_e_aload_n n32_28 rfl ?_
    refine am_e_getf (v := .ref 49) n32_29 rfl (f48_5 (h := h) hT) ?_
    refine am_e_iload_n n32_30 rfl ?_
    refine am_e_iaload (v := 0) (q := 0) n32_31 rfl (by decide) (by decide) (f49_0 (h := h) hT) ?_
    refine am_e_iastore (q := 0) n32_32 rfl (by decide) (by decide) ?_
    refine am_e_aload_n n32_33 rfl ?_
    refine am_e_getf (v := .ref 151) n32_34 rfl (f149_6 (h := h) hT) ?_
    refine am_e_iload_n n32_35 rfl ?_
    refine am_e_aload_n n32_36 rfl ?_
    refine am_e_getf (v := .ref 50) n32_37 rfl (f48_6 (h := h) hT) ?_
    refine am_e_iload_n n32_38 rfl ?_
    refine am_e_iaload (v := 0) (q := 0) n32_39 rfl (by decide) (by decide) (f50_0 (h := h) hT) ?_
    refine am_e_iastore (q := 0) n32_40 rfl (by decide) (by decide) ?_
    refine am_e_aload_n n32_41 rfl ?_
    refine am_e_getf (v := .ref 152) n32_42 rfl (f149_7 (h := h) hT) ?_
    refine am_e_iload_n n32_43 rfl ?_
    refine am_e_aload_n n32_44 rfl ?_
    refine am_e_getf (v := .ref 51) n32_45 rfl (f48_7 (h := h) hT) ?_
    refine am_e_iload_n n32_46 rfl ?_
    refine am_e_iaload (v := 0) (q := 0) n32_47 rfl (by decide) (by decide) (f51_0 (h := h) hT) ?_
    refine am_e_iastore (q := 0) n32_48 rfl (by decide) (by decide) ?_
    refine am_e_iinc (w := 1) (ls' := [(2, .int 1), (0, .ref 149), (1, .ref 48)]) n32_49 rfl rfl (by decide) rfl ?_
    refine am_e_goto c32_50 t32_50 ?_
    refine am_e_iload_n n32_22 rfl ?_
    refine am_e_iconst (w := 4) n32_23 rfl ?_
    refine am_e_cmpF n32_24 (am_c_geF (by decide)) ?_
    refine am_e_aload_n n32_25 rfl ?_
    refine am_e_getf (v := .ref 150) n32_26 rfl (f149_5 (h := h) hT) ?_
    refine am_e_iload_n n32_27 rfl ?_
    refine am_e_aload_n n32_28 rfl ?_
    refine am_e_getf (v := .ref 49) n32_29 rfl (f48_5 (h := h) hT) ?_
    refine am_e_iload_n n32_30 rfl ?_
    refine am_e_iaload (v := 0) (q := 1) n32_31 rfl (by decide) (by decide) (f49_1 (h := h) hT) ?_
    refine am_e_iastore (q := 1) n32_32 rfl (by decide) (by decide) ?_
    refine am_e_aload_n n32_33 rfl ?_
    refine am_e_getf (v := .ref 151) n32_34 rfl (f149_6 (h := h) hT) ?_
    refine am_e_iload_n n32_35 rfl ?_
    refine am_e_aload_n n32_36 rfl ?_
    refine am_e_getf (v := .ref 50) n32_37 rfl (f48_6 (h := h) hT) ?_
    refine am_e_iload_n n32_38 rfl ?_
    refine am_e_iaload (v := 0) (q := 1) n32_39 rfl (by decide) (by decide) (f50_1 (h := h) hT) ?_
    refine am_e_iastore (q := 1) n32_40 rfl (by decide) (by decide) ?_
    refine am_e_aload_n n32_41 rfl ?_
    refine am_e_getf (v := .ref 152) n32_42 rfl (f149_7 (h := h) hT) ?_
    refine am_e_iload_n n32_43 rfl ?_
    refine am_e_aload_n n32_44 rfl ?_
    refine am_e_getf (v := .ref 51) n32_45 rfl (f48_7 (h := h) hT) ?_
    refine am_e_iload_n n32_46 rfl ?_
    refine am_e_iaload (v := 0) (q := 1) n32_47 rfl (by decide) (by decide) (f51_1 (h := h) hT) ?_
    refine am_e_iastore (q := 1) n32_48 rfl (by decide) (by decide) ?_
    refine am_e_iinc (w := 2) (ls' := [(2, .int 2), (0, .ref 149), (1, .ref 48)]) n32_49 rfl rfl (by decide) rfl ?_
    refine am_e_goto c32_50 t32_50 ?_
    refine am_e_iload_n n32_22 rfl ?_
    refine am_e_iconst (w := 4) n32_23 rfl ?_
    refine am_e_cmpF n32_24 (am_c_geF (by decide)) ?_
    refine am_e_aload_n n32_25 rfl ?_
    refine am_e_getf (v := .ref 150) n32_26 rfl (f149_5 (h := h) hT) ?_
    refine am_e_iload_n n32_27 rfl ?_
    refine am_e_aload_n n32_28 rfl ?_
    refine am_e_getf (v := .ref 49) n32_29 rfl (f48_5 (h := h) hT) ?_
    refine am_e_iload_n n32_30 rfl ?_
    refine am_e_iaload (v := 0) (q := 2) n32_31 rfl (by decide) (by decide) (f49_2 (h := h) hT) ?_
    refine am_e_iastore (q := 2) n32_32 rfl (by decide) (by decide) ?_
    refine am_e_aload_n n32_33 rfl ?_
    refine am_e_getf (v := .ref 151) n32_34 rfl (f149_6 (h := h) hT) ?_
    refine am_e_iload_n n32_35 rfl ?_
    refine am_e_aload_n n32_36 rfl ?_
    refine am_e_getf (v := .ref 50) n32_37 rfl (f48_6 (h := h) hT) ?_
    refine am_e_iload_n n32_38 rfl ?_
    refine am_e_iaload (v := 0) (q := 2) n32_39 rfl (by decide) (by decide) (f50_2 (h := h) hT) ?_
    refine am_e_iastore (q := 2) n32_40 rfl (by decide) (by decide) ?_
    refine am_e_aload_n n32_41 rfl ?_
    refine am_e_getf (v := .ref 152) n32_42 rfl (f149_7 (h := h) hT) ?_
    refine am_e_iload_n n32_43 rfl ?_
    refine am_e_aload_n n32_44 rfl ?_
    refine am_e_getf (v := .ref 51) n32_45 rfl (f48_7 (h := h) hT) ?_
    refine am_e_iload_n n32_46 rfl ?_
    refine am_e_iaload (v := 0) (q := 2) n32_47 rfl (by decide) (by decide) (f51_2 (h := h) hT) ?_
    refine am_e_iastore (q := 2) n32_48 rfl (by decide) (by decide) ?_
    refine am_e_iinc (w := 3) (ls' := [(2, .int 3), (0, .ref 149), (1, .ref 48)]) n32_49 rfl rfl (by decide) rfl ?_
    refine am_e_goto c32_50 t32_50 ?_
    refine am_e_iload_n n32_22 rfl ?_
    refine am_e_iconst (w := 4) n32_23 rfl ?_
    refine am_e_cmpF n32_24 (am_c_geF (by decide)) ?_
    refine am_e_aload_n n32_25 rfl ?_
    refine am_e_getf (v := .ref 150) n32_26 rfl (f149_5 (h := h) hT) ?_
    refine am_e_iload_n n32_27 rfl ?_
    refine am_e_aload_n n32_28 rfl ?_
    refine am_e_getf (v := .ref 49) n32_29 rfl (f48_5 (h := h) hT) ?_
    refine am_e_iload_n n32_30 rfl ?_
    refine am_e_iaload (v := 0) (q := 3) n32_31 rfl (by decide) (by decide) (f49_3 (h := h) hT) ?_
    refine am_e_iastore (q := 3) n32_32 rfl (by decide) (by decide) ?_
    refine am_e_aload_n n32_33 rfl ?_
    refine am_e_getf (v := .ref 151) n32_34 rfl (f149_6 (h := h) hT) ?_
    refine am_e_iload_n n32_35 rfl ?_
    refine am_e_aload_n n32_36 rfl ?_
    refine am_e_getf (v := .ref 50) n32_37 rfl (f48_6 (h := h) hT) ?_
    refine am_e_iload_n n32_38 rfl ?_
    refine am_e_iaload (v := 0) (q := 3) n32_39 rfl (by decide) (by decide) (f50_3 (h := h) hT) ?_
    refine am_e_iastore (q := 3) n32_40 rfl (by decide) (by decide) ?_
    refine am_e_aload_n n32_41 rfl ?_
    refine am_e_getf (v := .ref 152) n32_42 rfl (f149_7 (h := h) hT) ?_
    refine am_e_iload_n n32_43 rfl ?_
    refine am_e_aload_n n32_44 rfl ?_
    refine am_e_getf (v := .ref 51) n32_45 rfl (f48_7 (h := h) hT) ?_
    refine am_e_iload_n n32_46 rfl ?_
    refine am_e_iaload (v := 0) (q := 3) n32_47 rfl (by decide) (by decide) (f51_3 (h := h) hT) ?_
    refine am_e_iastore (q := 3) n32_48 rfl (by decide) (by decide) ?_
    refine am_e_iinc (w := 4) (ls' := [(2, .int 4), (0, .ref 149), (1, .ref 48)]) n32_49 rfl rfl (by decide) rfl ?_
    refine am_e_goto c32_50 t32_50 ?_
    refine am_e_iload_n n32_22 rfl ?_
    refine am_e_iconst (w := 4) n32_23 rfl ?_
    refine am_e_cmpT n32_24 (am_c_geT (by decide)) t32_24 ?_
    refine am_e_vret c32_51 rfl rfl ?_
    refine am_e_aload_n n31_7 rfl ?_
    refine am_e_aload_n n31_8 rfl ?_
    refine am_e_getf (v := .int (-1)) n31_9 rfl (f2_18 (h := h) hT) ?_
    refine am_e_putf n31_10 rfl rfl ?_
    refine am_e_aload_n n31_11 rfl ?_
    refine am_e_iconst (w := 0) n31_12 rfl ?_
    refine am_e_putf n31_13 rfl rfl ?_
    refine am_e_aload_n n31_14 rfl ?_
    refine am_e_iconst (w := 0) n31_15 rfl ?_
    refine am_e_putf n31_16 rfl rfl ?_
    refine am_e_aload_n n31_17 rfl ?_
    refine am_e_ldc (w := 2147483647) n31_18 (by decide) ?_
    refine am_e_putf n31_19 rfl rfl ?_
    refine am_e_aload_n n31_20 rfl ?_
    refine am_e_ldc (w := 2147483647) n31_21 (by decide) ?_
    refine am_e_putf n31_22 rfl rfl ?_
    refine am_e_vret c31_23 rfl rfl ?_
    refine am_e_aload_n n41_21 rfl ?_
    refine am_e_getf (v := .ref 148) n41_22 rfl (f0_11 (h := h) hT) ?_
    refine am_e_iload_n n41_23 rfl ?_
    refine am_e_iload_n n41_24 rfl ?_
    refine am_e_callV (L := [(0, .ref 148), (1, .int (nI n)), (2, .int 1)]) n41_25 rfl rfl rfl rfl rfl rfl rfl rfl ?_
    refine am_goBy1 (n := n) (s := 0) (by omega) ⟨(f148_1 (h := h) hT), rfl, rfl, (f2_19 (h := h) hT), (f11_7 (h := h) hT), (f2_0 (h := h) hT), (f11_6 (h := h) hT), (f16_0 (h := h) hT), (f11_4 (h := h) hT), (f14_0 (h := h) hT), (f11_5 (h := h) hT), (f15_0 (h := h) hT), rfl, rfl, trivial⟩ (by omega) rfl rfl rfl ?_
    intro h8 F8 qa8 qb8 qc8
    obtain ⟨l8, qc8⟩ := qc8
    refine am_e_pop n41_26 rfl ?_
    refine am_e_aload_n n41_27 rfl ?_
    refine am_e_callV (L := [(0, .ref 0)]) n41_28 rfl rfl rfl rfl rfl rfl rfl rfl ?_
    refine am_e_aload_n n39_0 rfl ?_
    refine am_e_getf (v := .ref 60) n39_1 rfl ((F8 0 9 rfl).trans (f0_9 (h := h) hT)) ?_
    refine am_e_aload_n n39_2 rfl ?_
    refine am_e_getf (v := .ref 48) n39_3 rfl ((F8 0 5 rfl).trans (f0_5 (h := h) hT)) ?_
    refine am_e_callV (L := [(0, .ref 60), (1, .ref 48)]) n39_4 rfl rfl rfl rfl rfl rfl rfl rfl ?_
    refine am_e_aload_n n40_0 rfl ?_
    refine am_e_getf (v := .ref 61) n40_1 rfl ((F8 60 0 rfl).trans (f60_0 (h := h) hT)) ?_
    refine am_e_aload_n n40_2 rfl ?_
    refine am_e_getf (v := .int 0) n40_3 rfl ((F8 60 1 rfl).trans (f60_1 (h := h) hT)) ?_
    refine am_e_aaload (v := 62) (q := 0) n40_4 rfl (by decide) (by decide) ((F8 61 0 rfl).trans (f61_0 (h := h) hT)) ?_
    refine am_e_aload_n n40_5 rfl ?_
    refine am_e_callV (L := [(0, .ref 62), (1, .ref 48)]) n40_6 rfl rfl rfl rfl rfl rfl rfl rfl ?_
    refine am_e_aload_n n32_0 rfl ?_
    refine am_e_aload_n n32_1 rfl ?_
    refine am_e_getf (v := .int 0) n32_2 rfl ((F8 48 0 rfl).trans (f48_0 (h := h) hT)) ?_
    refine am_e_putf n32_3 rfl rfl ?_
    refine am_e_aload_n n32_4 rfl ?_
    refine am_e_aload_n n32_5 rfl ?_
    refine am_e_getf (v := .int 0) n32_6 rfl ((F8 48 1 rfl).trans (f48_1 (h := h) hT)) ?_
    refine am_e_putf n32_7 rfl rfl ?_
    refine am_e_aload_n n32_8 rfl ?_
    refine am_e_aload_n n32_9 rfl ?_
    refine am_e_getf (v := .int (-1)) n32_10 rfl ((F8 48 2 rfl).trans (f48_2 (h := h) hT)) ?_
    refine am_e_putf n32_11 rfl rfl ?_
    refine am_e_aload_n n32_12 rfl ?_
    refine am_e_aload_n n32_13 rfl ?_
    refine am_e_getf (v := .int 0) n32_14 rfl ((F8 48 3 rfl).trans (f48_3 (h := h) hT)) ?_
    refine am_e_putf n32_15 rfl rfl ?_
    refine am_e_aload_n n32_16 rfl ?_
    refine am_e_aload_n n32_17 rfl ?_
    refine am_e_getf (v := .int 0) n32_18 rfl ((F8 48 4 rfl).trans (f48_4 (h := h) hT)) ?_
    refine am_e_putf n32_19 rfl rfl ?_
    refine am_e_iconst (w := 0) n32_20 rfl ?_
    refine am_e_istore_n (ls' := [(2, .int 0), (0, .ref 62), (1, .ref 48)]) n32_21 rfl rfl ?_
    refine am_e_iload_n n32_22 rfl ?_
    refine am_e_iconst (w := 4) n32_23 rfl ?_
    refine am_e_cmpF n32_24 (am_c_geF (by decide)) ?_
    refine am_e_aload_n n32_25 rfl ?_
    refine am_e_getf (v := .ref 63) n32_26 rfl ((F8 62 5 rfl).trans (f62_5 (h := h) hT)) ?_
    refine am_e_iload_n n32_27 rfl ?_
    refine am_e_aload_n n32_28 rfl ?_
    refine am_e_getf (v := .ref 49) n32_29 rfl ((F8 48 5 rfl).trans (f48_5 (h := h) hT)) ?_
    refine am_e_iload_n n32_30 rfl ?_
    refine am_e_iaload (v := 0) (q := 0) n32_31 rfl (by decide) (by decide) ((F8 49 0 rfl).trans (f49_0 (h := h) hT)) ?_
    refine am_e_iastore (q := 0) n32_32 rfl (by decide) (by decide) ?_
    refine am_e_aload_n n32_33 rfl ?_
    refine am_e_getf (v := .ref 64) n32_34 rfl ((F8 62 6 rfl).trans (f62_6 (h := h) hT)) ?_
    refine am_e_iload_n n32_35 rfl ?_
    refine am_e_aload_n n32_36 rfl ?_
    refine am_e_getf (v := .ref 50) n32_37 rfl ((F8 48 6 rfl).trans (f48_6 (h := h) hT)) ?_
    refine am_e_iload_n n32_38 rfl ?_
    refine am_e_iaload (v := 0) (q := 0) n32_39 rfl (by decide) (by decide) ((F8 50 0 rfl).trans (f50_0 (h := h) hT)) ?_
    refine am_e_iastore (q := 0) n32_40 rfl (by decide) (by decide) ?_
    refine am_e_aload_n n32_41 rfl ?_
    refine am_e_getf (v := .ref 65) n32_42 rfl ((F8 62 7 rfl).trans (f62_7 (h := h) hT)) ?_
    refine am_e_iload_n n32_43 rfl ?_
    refine am_e_aload_n n32_44 rfl ?_
    refine am_e_getf (v := .ref 51) n32_45 rfl ((F8 48 7 rfl).trans (f48_7 (h := h) hT)) ?_
    refine am_e_iload_n n32_46 rfl ?_
    refine am_e_iaload (v := 0) (q := 0) n32_47 rfl (by decide) (by decide) ((F8 51 0 rfl).trans (f51_0 (h := h) hT)) ?_
    refine am_e_iastore (q := 0) n32_48 rfl (by decide) (by decide) ?_
    refine am_e_iinc (w := 1) (ls' := [(2, .int 1), (0, .ref 62), (1, .ref 48)]) n32_49 rfl rfl (by decide) rfl ?_
    refine am_e_goto c32_50 t32_50 ?_
    refine am_e_iload_n n32_22 rfl ?_
    refine am_e_iconst (w := 4) n32_23 rfl ?_
    refine am_e_cmpF n32_24 (am_c_geF (by decide)) ?_
    refine am_e_aload_n n32_25 rfl ?_
    refine am_e_getf (v := .ref 63) n32_26 rfl ((F8 62 5 rfl).trans (f62_5 (h := h) hT)) ?_
    refine am_e_iload_n n32_27 rfl ?_
    refine am_e_aload_n n32_28 rfl ?_
    refine am_e_getf (v := .ref 49) n32_29 rfl ((F8 48 5 rfl).trans (f48_5 (h := h) hT)) ?_
    refine am_e_iload_n n32_30 rfl ?_
    refine am_e_iaload (v := 0) (q := 1) n32_31 rfl (by decide) (by decide) ((F8 49 1 rfl).trans (f49_1 (h := h) hT)) ?_
    refine am_e_iastore (q := 1) n32_32 rfl (by decide) (by decide) ?_
    refine am_e_aload_n n32_33 rfl ?_
    refine am_e_getf (v := .ref 64) n32_34 rfl ((F8 62 6 rfl).trans (f62_6 (h := h) hT)) ?_
    refine am_e_iload_n n32_35 rfl ?_
    refine am_e_aload_n n32_36 rfl ?_
    refine am_e_getf (v := .ref 50) n32_37 rfl ((F8 48 6 rfl).trans (f48_6 (h := h) hT)) ?_
    refine am_e_iload_n n32_38 rfl ?_
    refine am_e_iaload (v := 0) (q := 1) n32_39 rfl (by decide) (by decide) ((F8 50 1 rfl).trans (f50_1 (h := h) hT)) ?_
    refine am_e_iastore (q := 1) n32_40 rfl (by decide) (by decide) ?_
    refine am_e_aload_n n32_41 rfl ?_
    refine am_e_getf (v := .ref 65) n32_42 rfl ((F8 62 7 rfl).trans (f62_7 (h := h) hT)) ?_
    refine am_e_iload_n n32_43 rfl ?_
    refine am_e_aload_n n32_44 rfl ?_
    refine am_e_getf (v := .ref 51) n32_45 rfl ((F8 48 7 rfl).trans (f48_7 (h := h) hT)) ?_
    refine am_e_iload_n n32_46 rfl ?_
    refine am_e_iaload (v := 0) (q := 1) n32_47 rfl (by decide) (by decide) ((F8 51 1 rfl).trans (f51_1 (h := h) hT)) ?_
    refine am_e_iastore (q := 1) n32_48 rfl (by decide) (by decide) ?_
    refine am_e_iinc (w := 2) (ls' := [(2, .int 2), (0, .ref 62), (1, .ref 48)]) n32_49 rfl rfl (by decide) rfl ?_
    refine am_e_goto c32_50 t32_50 ?_
    refine am_e_iload_n n32_22 rfl ?_
    refine am_e_iconst (w := 4) n32_23 rfl ?_
    refine am_e_cmpF n32_24 (am_c_geF (by decide)) ?_
    refine am_e_aload_n n32_25 rfl ?_
    refine am_e_getf (v := .ref 63) n32_26 rfl ((F8 62 5 rfl).trans (f62_5 (h := h) hT)) ?_
    refine am_e_iload_n n32_27 rfl ?_
    refine am_e_aload_n n32_28 rfl ?_
    refine am_e_getf (v := .ref 49) n32_29 rfl ((F8 48 5 rfl).trans (f48_5 (h := h) hT)) ?_
    refine am_e_iload_n n32_30 rfl ?_
    refine am_e_iaload (v := 0) (q := 2) n32_31 rfl (by decide) (by decide) ((F8 49 2 rfl).trans (f49_2 (h := h) hT)) ?_
    refine am_e_iastore (q := 2) n32_32 rfl (by decide) (by decide) ?_
    refine am_e_aload_n n32_33 rfl ?_
    refine am_e_getf (v := .ref 64) n32_34 rfl ((F8 62 6 rfl).trans (f62_6 (h := h) hT)) ?_
    refine am_e_iload_n n32_35 rfl ?_
    refine am_e_aload_n n32_36 rfl ?_
    refine am_e_getf (v := .ref 50) n32_37 rfl ((F8 48 6 rfl).trans (f48_6 (h := h) hT)) ?_
    refine am_e_iload_n n32_38 rfl ?_
    refine am_e_iaload (v := 0) (q := 2) n32_39 rfl (by decide) (by decide) ((F8 50 2 rfl).trans (f50_2 (h := h) hT)) ?_
    refine am_e_iastore (q := 2) n32_40 rfl (by decide) (by decide) ?_
    refine am_e_aload_n n32_41 rfl ?_
    refine am_e_getf (v := .ref 65) n32_42 rfl ((F8 62 7 rfl).trans (f62_7 (h := h) hT)) ?_
    refine am_e_iload_n n32_43 rfl ?_
    refine am_e_aload_n n32_44 rfl ?_
    refine am_e_getf (v := .ref 51) n32_45 rfl ((F8 48 7 rfl).trans (f48_7 (h := h) hT)) ?_
    refine am_e_iload_n n32_46 rfl ?_
    refine am_e_iaload (v := 0) (q := 2) n32_47 rfl (by decide) (by decide) ((F8 51 2 rfl).trans (f51_2 (h := h) hT)) ?_
    refine am_e_iastore (q := 2) n32_48 rfl (by decide) (by decide) ?_
    refine am_e_iinc (w := 3) (ls' := [(2, .int 3), (0, .ref 62), (1, .ref 48)]) n32_49 rfl rfl (by decide) rfl ?_
    refine am_e_goto c32_50 t32_50 ?_
    refine am_e_iload_n n32_22 rfl ?_
    refine am_e_iconst (w := 4) n32_23 rfl ?_
    refine am_e_cmpF n32_24 (am_c_geF (by decide)) ?_
    refine am_e_aload_n n32_25 rfl ?_
    refine am_e_getf (v := .ref 63) n32_26 rfl ((F8 62 5 rfl).trans (f62_5 (h := h) hT)) ?_
    refine am_e_iload_n n32_27 rfl ?_
    refine am_e_aload_n n32_28 rfl ?_
    refine am_e_getf (v := .ref 49) n32_29 rfl ((F8 48 5 rfl).trans (f48_5 (h := h) hT)) ?_
    refine am_e_iload_n n32_30 rfl ?_
    refine am_e_iaload (v := 0) (q := 3) n32_31 rfl (by decide) (by decide) ((F8 49 3 rfl).trans (f49_3 (h := h) hT)) ?_
    refine am_e_iastore (q := 3) n32_32 rfl (by decide) (by decide) ?_
    refine am_e_aload_n n32_33 rfl ?_
    refine am_e_getf (v := .ref 64) n32_34 rfl ((F8 62 6 rfl).trans (f62_6 (h := h) hT)) ?_
    refine am_e_iload_n n32_35 rfl ?_
    refine am_e_aload_n n32_36 rfl ?_
    refine am_e_getf (v := .ref 50) n32_37 rfl ((F8 48 6 rfl).trans (f48_6 (h := h) hT)) ?_
    refine am_e_iload_n n32_38 rfl ?_
    refine am_e_iaload (v := 0) (q := 3) n32_39 rfl (by decide) (by decide) ((F8 50 3 rfl).trans (f50_3 (h := h) hT)) ?_
    refine am_e_iastore (q := 3) n32_40 rfl (by decide) (by decide) ?_
    refine am_e_aload_n n32_41 rfl ?_
    refine am_e_getf (v := .ref 65) n32_42 rfl ((F8 62 7 rfl).trans (f62_7 (h := h) hT)) ?_
    refine am_e_iload_n n32_43 rfl ?_
    refine am_e_aload_n n32_44 rfl ?_
    refine am_e_getf (v := .ref 51) n32_45 rfl ((F8 48 7 rfl).trans (f48_7 (h := h) hT)) ?_
    refine am_e_iload_n n32_46 rfl ?_
    refine am_e_iaload (v := 0) (q := 3) n32_47 rfl (by decide) (by decide) ((F8 51 3 rfl).trans (f51_3 (h := h) hT)) ?_
    refine am_e_iastore (q := 3) n32_48 rfl (by decide) (by decide) ?_
    refine am_e_iinc (w := 4) (ls' := [(2, .int 4), (0, .ref 62), (1, .ref 48)]) n32_49 rfl rfl (by decide) rfl ?_
    refine am_e_goto c32_50 t32_50 ?_
    refine am_e_iload_n n32_22 rfl ?_
    refine am_e_iconst (w := 4) n32_23 rfl ?_
    refine am_e_cmpT n32_24 (am_c_geT (by decide)) t32_24 ?_
    refine am_e_vret c32_51 rfl rfl ?_
    refine am_e_aload_n n40_7 rfl ?_
    refine am_e_aload_n n40_8 rfl ?_
    refine am_e_getf (v := .int 0) n40_9 rfl ((F8 60 1 rfl).trans (f60_1 (h := h) hT)) ?_
    refine am_e_iconst (w := 1) n40_10 rfl ?_
    refine am_e_iadd (w := 1) n40_11 (by decide) ?_
    refine am_e_bipush (w := 20) n40_12 (by decide) ?_
    refine am_e_irem (w := 1) n40_13 (by decide) (by decide) ?_
    refine am_e_putf n40_14 rfl rfl ?_
    refine am_e_aload_n n40_15 rfl ?_
    refine am_e_aload_n n40_16 rfl ?_
    refine am_e_getf (v := .int 0) n40_17 rfl ((F8 60 2 rfl).trans (f60_2 (h := h) hT)) ?_
    refine am_e_iconst (w := 1) n40_18 rfl ?_
    refine am_e_iadd (w := 1) n40_19 (by decide) ?_
    refine am_e_bipush (w := 20) n40_20 (by decide) ?_
    refine am_e_min (w := 1) n40_21 rfl (by decide) ?_
    refine am_e_putf n40_22 rfl rfl ?_
    refine am_e_vret c40_23 rfl rfl ?_
    refine am_e_aload_n n39_5 rfl ?_
    refine am_e_getf (v := .ref 48) n39_6 rfl ((F8 0 5 rfl).trans (f0_5 (h := h) hT)) ?_
    refine am_e_aload_n n39_7 rfl ?_
    refine am_e_getf (v := .ref 148) n39_8 rfl ((F8 0 11 rfl).trans (f0_11 (h := h) hT)) ?_
    refine am_e_getf (v := .ref 149) n39_9 rfl ((F8 148 1 rfl).trans (f148_1 (h := h) hT)) ?_
    refine am_e_callV (L := [(0, .ref 48), (1, .ref 149)]) n39_10 rfl rfl rfl rfl rfl rfl rfl rfl ?_
    refine am_e_aload_n n32_0 rfl ?_
    refine am_e_aload_n n32_1 rfl ?_
    refine am_e_getf (v := .int 0) n32_2 rfl qa8 ?_
    refine am_e_putf n32_3 rfl rfl ?_
    refine am_e_aload_n n32_4 rfl ?_
    refine am_e_aload_n n32_5 rfl ?_
    refine am_e_getf (v := .int (nI (0 + n))) n32_6 rfl qb8 ?_
    refine am_e_putf n32_7 rfl rfl ?_
    refine am_e_aload_n n32_8 rfl ?_
    refine am_e_aload_n n32_9 rfl ?_
    refine am_e_getf (v := .int (-1)) n32_10 rfl ((F8 149 2 rfl).trans rfl) ?_
    refine am_e_putf n32_11 rfl rfl ?_
    refine am_e_aload_n n32_12 rfl ?_
    refine am_e_aload_n n32_13 rfl ?_
    refine am_e_getf (v := .int 0) n32_14 rfl ((F8 149 3 rfl).trans rfl) ?_
    refine am_e_putf n32_15 rfl rfl ?_
    refine am_e_aload_n n32_16 rfl ?_
    refine am_e_aload_n n32_17 rfl ?_
    refine am_e_getf (v := .int 0) n32_18 rfl ((F8 149 4 rfl).trans rfl) ?_
    refine am_e_putf n32_19 rfl rfl ?_
    refine am_e_iconst (w := 0) n32_20 rfl ?_
    refine am_e_istore_n (ls' := [(2, .int 0), (0, .ref 48), (1, .ref 149)]) n32_21 rfl rfl ?_
    refine am_e_iload_n n32_22 rfl ?_
    refine am_e_iconst (w := 4) n32_23 rfl ?_
    refine am_e_cmpF n32_24 (am_c_geF (by decide)) ?_
    refine am_e_aload_n n32_25 rfl ?_
    refine am_e_getf (v := .ref 49) n32_26 rfl ((F8 48 5 rfl).trans (f48_5 (h := h) hT)) ?_
    refine am_e_iload_n n32_27 rfl ?_
    refine am_e_aload_n n32_28 rfl ?_
    refine am_e_getf (v := .ref 150) n32_29 rfl ((F8 149 5 rfl).trans (f149_5 (h := h) hT)) ?_
    refine am_e_iload_n n32_30 rfl ?_
    refine am_e_iaload (v := 0) (q := 0) n32_31 rfl (by decide) (by decide) ((F8 150 0 rfl).trans rfl) ?_
    refine am_e_iastore (q := 0) n32_32 rfl (by decide) (by decide) ?_
    refine am_e_aload_n n32_33 rfl ?_
    refine am_e_getf (v := .ref 50) n32_34 rfl ((F8 48 6 rfl).trans (f48_6 (h := h) hT)) ?_
    refine am_e_iload_n n32_35 rfl ?_
    refine am_e_aload_n n32_36 rfl ?_
    refine am_e_getf (v := .ref 151) n32_37 rfl ((F8 149 6 rfl).trans (f149_6 (h := h) hT)) ?_
    refine am_e_iload_n n32_38 rfl ?_
    refine am_e_iaload (v := 0) (q := 0) n32_39 rfl (by decide) (by decide) ((F8 151 0 rfl).trans rfl) ?_
    refine am_e_iastore (q := 0) n32_40 rfl (by decide) (by decide) ?_
    refine am_e_aload_n n32_41 rfl ?_
    refine am_e_getf (v := .ref 51) n32_42 rfl ((F8 48 7 rfl).trans (f48_7 (h := h) hT)) ?_
    refine am_e_iload_n n32_43 rfl ?_
    refine am_e_aload_n n32_44 rfl ?_
    refine am_e_getf (v := .ref 152) n32_45 rfl ((F8 149 7 rfl).trans (f149_7 (h := h) hT)) ?_
    refine am_e_iload_n n32_46 rfl ?_
    refine am_e_iaload (v := 0) (q := 0) n32_47 rfl (by decide) (by decide) ((F8 152 0 rfl).trans rfl) ?_
    refine am_e_iastore (q := 0) n32_48 rfl (by decide) (by decide) ?_
    refine am_e_iinc (w := 1) (ls' := [(2, .int 1), (0, .ref 48), (1, .ref 149)]) n32_49 rfl rfl (by decide) rfl ?_
    refine am_e_goto c32_50 t32_50 ?_
    refine am_e_iload_n n32_22 rfl ?_
    refine am_e_iconst (w := 4) n32_23 rfl ?_
    refine am_e_cmpF n32_24 (am_c_geF (by decide)) ?_
    refine am_e_aload_n n32_25 rfl ?_
    refine am_e_getf (v := .ref 49) n32_26 rfl ((F8 48 5 rfl).trans (f48_5 (h := h) hT)) ?_
    refine am_e_iload_n n32_27 rfl ?_
    refine am_e_aload_n n32_28 rfl ?_
    refine am_e_getf (v := .ref 150) n32_29 rfl ((F8 149 5 rfl).trans (f149_5 (h := h) hT)) ?_
    refine am_e_iload_n n32_30 rfl ?_
    refine am_e_iaload (v := 0) (q := 1) n32_31 rfl (by decide) (by decide) ((F8 150 1 rfl).trans rfl) ?_
    refine am_e_iastore (q := 1) n32_32 rfl (by decide) (by decide) ?_
    refine am_e_aload_n n32_33 rfl ?_
    refine am_e_getf (v := .ref 50) n32_34 rfl ((F8 48 6 rfl).trans (f48_6 (h := h) hT)) ?_
    refine am_e_iload_n n32_35 rfl ?_
    refine am_e_aload_n n32_36 rfl ?_
    refine am_e_getf (v := .ref 151) n32_37 rfl ((F8 149 6 rfl).trans (f149_6 (h := h) hT)) ?_
    refine am_e_iload_n n32_38 rfl ?_
    refine am_e_iaload (v := 0) (q := 1) n32_39 rfl (by decide) (by decide) ((F8 151 1 rfl).trans rfl) ?_
    refine am_e_iastore (q := 1) n32_40 rfl (by decide) (by decide) ?_
    refine am_e_aload_n n32_41 rfl ?_
    refine am_e_getf (v := .ref 51) n32_42 rfl ((F8 48 7 rfl).trans (f48_7 (h := h) hT)) ?_
    refine am_e_iload_n n32_43 rfl ?_
    refine am_e_aload_n n32_44 rfl ?_
    refine am_e_getf (v := .ref 152) n32_45 rfl ((F8 149 7 rfl).trans (f149_7 (h := h) hT)) ?_
    refine am_e_iload_n n32_46 rfl ?_
    refine am_e_iaload (v := 0) (q := 1) n32_47 rfl (by decide) (by decide) ((F8 152 1 rfl).trans rfl) ?_
    refine am_e_iastore (q := 1) n32_48 rfl (by decide) (by decide) ?_
    refine am_e_iinc (w := 2) (ls' := [(2, .int 2), (0, .ref 48), (1, .ref 149)]) n32_49 rfl rfl (by decide) rfl ?_
    refine am_e_goto c32_50 t32_50 ?_
    refine am_e_iload_n n32_22 rfl ?_
    refine am_e_iconst (w := 4) n32_23 rfl ?_
    refine am_e_cmpF n32_24 (am_c_geF (by decide)) ?_
    refine am_e_aload_n n32_25 rfl ?_
    refine am_e_getf (v := .ref 49) n32_26 rfl ((F8 48 5 rfl).trans (f48_5 (h := h) hT)) ?_
    refine am_e_iload_n n32_27 rfl ?_
    refine am_e_aload_n n32_28 rfl ?_
    refine am_e_getf (v := .ref 150) n32_29 rfl ((F8 149 5 rfl).trans (f149_5 (h := h) hT)) ?_
    refine am_e_iload_n n32_30 rfl ?_
    refine am_e_iaload (v := 0) (q := 2) n32_31 rfl (by decide) (by decide) ((F8 150 2 rfl).trans rfl) ?_
    refine am_e_iastore (q := 2) n32_32 rfl (by decide) (by decide) ?_
    refine am_e_aload_n n32_33 rfl ?_
    refine am_e_getf (v := .ref 50) n32_34 rfl ((F8 48 6 rfl).trans (f48_6 (h := h) hT)) ?_
    refine am_e_iload_n n32_35 rfl ?_
    refine am_e_aload_n n32_36 rfl ?_
    refine am_e_getf (v := .ref 151) n32_37 rfl ((F8 149 6 rfl).trans (f149_6 (h := h) hT)) ?_
    refine am_e_iload_n n32_38 rfl ?_
    refine am_e_iaload (v := 0) (q := 2) n32_39 rfl (by decide) (by decide) ((F8 151 2 rfl).trans rfl) ?_
    refine am_e_iastore (q := 2) n32_40 rfl (by decide) (by decide) ?_
    refine am_e_aload_n n32_41 rfl ?_
    refine am_e_getf (v := .ref 51) n32_42 rfl ((F8 48 7 rfl).trans (f48_7 (h := h) hT)) ?_
    refine am_e_iload_n n32_43 rfl ?_
    refine am_e_aload_n n32_44 rfl ?_
    refine am_e_getf (v := .ref 152) n32_45 rfl ((F8 149 7 rfl).trans (f149_7 (h := h) hT)) ?_
    refine am_e_iload_n n32_46 rfl ?_
    refine am_e_iaload (v := 0) (q := 2) n32_47 rfl (by decide) (by decide) ((F8 152 2 rfl).trans rfl) ?_
    refine am_e_iastore (q := 2) n32_48 rfl (by decide) (by decide) ?_
    refine am_e_iinc (w := 3) (ls' := [(2, .int 3), (0, .ref 48), (1, .ref 149)]) n32_49 rfl rfl (by decide) rfl ?_
    refine am_e_goto c32_50 t32_50 ?_
    refine am_e_iload_n n32_22 rfl ?_
    refine am_e_iconst (w := 4) n32_23 rfl ?_
    refine am_e_cmpF n32_24 (am_c_geF (by decide)) ?_
    refine am_e_aload_n n32_25 rfl ?_
    refine am_e_getf (v := .ref 49) n32_26 rfl ((F8 48 5 rfl).trans (f48_5 (h := h) hT)) ?_
    refine am_e_iload_n n32_27 rfl ?_
    refine am_e_aload_n n32_28 rfl ?_
    refine am_e_getf (v := .ref 150) n32_29 rfl ((F8 149 5 rfl).trans (f149_5 (h := h) hT)) ?_
    refine am_e_iload_n n32_30 rfl ?_
    refine am_e_iaload (v := 0) (q := 3) n32_31 rfl (by decide) (by decide) ((F8 150 3 rfl).trans rfl) ?_
    refine am_e_iastore (q := 3) n32_32 rfl (by decide) (by decide) ?_
    refine am_e_aload_n n32_33 rfl ?_
    refine am_e_getf (v := .ref 50) n32_34 rfl ((F8 48 6 rfl).trans (f48_6 (h := h) hT)) ?_
    refine am_e_iload_n n32_35 rfl ?_
    refine am_e_aload_n n32_36 rfl ?_
    refine am_e_getf (v := .ref 151) n32_37 rfl ((F8 149 6 rfl).trans (f149_6 (h := h) hT)) ?_
    refine am_e_iload_n n32_38 rfl ?_
    refine am_e_iaload (v := 0) (q := 3) n32_39 rfl (by decide) (by decide) ((F8 151 3 rfl).trans rfl) ?_
    refine am_e_iastore (q := 3) n32_40 rfl (by decide) (by decide) ?_
    refine am_e_aload_n n32_41 rfl ?_
    refine am_e_getf (v := .ref 51) n32_42 rfl ((F8 48 7 rfl).trans (f48_7 (h := h) hT)) ?_
    refine am_e_iload_n n32_43 rfl ?_
    refine am_e_aload_n n32_44 rfl ?_
    refine am_e_getf (v := .ref 152) n32_45 rfl ((F8 149 7 rfl).trans (f149_7 (h := h) hT)) ?_
    refine am_e_iload_n n32_46 rfl ?_
    refine am_e_iaload (v := 0) (q := 3) n32_47 rfl (by decide) (by decide) ((F8 152 3 rfl).trans rfl) ?_
    refine am_e_iastore (q := 3) n32_48 rfl (by decide) (by decide) ?_
    refine am_e_iinc (w := 4) (ls' := [(2, .int 4), (0, .ref 48), (1, .ref 149)]) n32_49 rfl rfl (by decide) rfl ?_
    refine am_e_goto c32_50 t32_50 ?_
    refine am_e_iload_n n32_22 rfl ?_
    refine am_e_iconst (w := 4) n32_23 rfl ?_
    refine am_e_cmpT n32_24 (am_c_geT (by decide)) t32_24 ?_
    refine am_e_vret c32_51 rfl rfl ?_
    refine am_e_aload_n n39_11 rfl ?_
    refine am_e_getf (v := .ref 48) n39_12 rfl ((F8 0 5 rfl).trans (f0_5 (h := h) hT)) ?_
    refine am_e_getf (v := .int 0) n39_13 rfl rfl ?_
    refine am_e_iret c39_14 rfl rfl rfl ?_
    refine am_e_iret c41_29 rfl rfl rfl ?_
    refine am_e_aload_n n136_259 rfl ?_
    refine am_e_sload_n n136_260 rfl ?_
    refine am_e_iload n136_261 rfl ?_
    refine am_e_iconst (w := 1) n136_262 rfl ?_
    refine am_e_iadd (w := 1) n136_263 (by decide) ?_
    refine am_e_sald1 n136_264 rfl (by decide) (by decide) hx1 ?_
    refine am_e_sload_n n136_265 rfl ?_
    refine am_e_iload n136_266 rfl ?_
    refine am_e_iconst (w := 2) n136_267 rfl ?_
    refine am_e_iadd (w := 2) n136_268 (by decide) ?_
    refine am_e_sald1 n136_269 rfl (by decide) (by decide) hx2 ?_
    refine am_e_ifF n136_270 (am_c_eqF hb1) ?_
    refine am_e_iconst (w := 1) n136_271 rfl ?_
    refine am_e_goto c136_272 t136_272 ?_
    refine am_e_callV (L := [(0, .ref 164), (1, .int (nI n)), (2, .int 1)]) n136_274 rfl rfl rfl rfl rfl rfl rfl rfl ?_
    refine am_e_aload_n n103_0 rfl ?_
    refine am_e_iconst (w := 0) n103_1 rfl ?_
    refine am_e_putf n103_2 rfl rfl ?_
    refine am_e_iload_n n103_3 rfl ?_
    refine am_e_iconst (w := 1) n103_4 rfl ?_
    refine am_e_sipush (w := 999) n103_5 (by decide) ?_
    refine am_e_callS (L := [(0, .int (nI n)), (1, .int 1), (2, .int 999)]) n103_6 rfl rfl rfl rfl rfl rfl rfl ?_
    refine am_e_iload_n n87_0 rfl ?_
    refine am_e_iload_n n87_1 rfl ?_
    refine am_e_cmpF n87_2 (am_c_ltF (nI_nlt (b := 1) hn1 (by omega))) ?_
    refine am_e_iload_n n87_3 rfl ?_
    refine am_e_iload_n n87_4 rfl ?_
    refine am_e_cmpF n87_5 (am_c_gtF (nI_nlt (b := n) (a := 999) hn9 (by decide))) ?_
    refine am_e_iconst (w := 1) n87_6 rfl ?_
    refine am_e_goto c87_7 t87_7 ?_
    refine am_e_iret c87_9 rfl rfl rfl ?_
    refine am_e_ifF n103_7 (am_c_eqF (by decide)) ?_
    refine am_e_aload_n n103_8 rfl ?_
    refine am_e_getf (v := .ref 189) n103_9 rfl ((F8 164 51 rfl).trans (f164_51 (h := h) hT)) ?_
    refine am_e_iconst (w := 0) n103_10 rfl ?_
    refine am_e_iaload (v := 0) (q := 0) n103_11 rfl (by decide) (by decide) ((F8 189 0 rfl).trans (f189_0 (h := h) hT)) ?_
    refine am_e_iload_n n103_12 rfl ?_
    refine am_e_iadd (w := (nI n)) n103_13 (Int32.zero_add _) ?_
    refine am_e_ldc (w := 99999) n103_14 (by decide) ?_
    refine am_e_cmpT n103_15 (am_c_leT (nI_nlt (b := n) (a := 99999) (by omega) (by decide))) t103_15 ?_
    refine am_e_aload_n n103_18 rfl ?_
    refine am_e_callV (L := [(0, .ref 164)]) n103_19 rfl rfl rfl rfl rfl rfl rfl rfl ?_
    refine am_e_aload_n n101_0 rfl ?_
    refine am_e_getf (v := .int 0) n101_1 rfl ((F8 164 77 rfl).trans (f164_77 (h := h) hT)) ?_
    refine am_e_bipush (w := 20) n101_2 (by decide) ?_
    refine am_e_cmpT n101_3 (am_c_neT (by decide)) t101_3 ?_
    refine am_e_aload_n n101_27 rfl ?_
    refine am_e_aload_n n101_28 rfl ?_
    refine am_e_getf (v := .ref 200) n101_29 rfl ((F8 164 78 rfl).trans (f164_78 (h := h) hT)) ?_
    refine am_e_bipush (w := 17) n101_30 (by decide) ?_
    refine am_e_aload_n n101_31 rfl ?_
    refine am_e_getf (v := .int 0) n101_32 rfl ((F8 164 77 rfl).trans (f164_77 (h := h) hT)) ?_
    refine am_e_imul (w := 0) n101_33 (by decide) ?_
    refine am_e_callV (L := [(0, .ref 164), (1, .ref 200), (2, .int 0)]) n101_34 rfl rfl rfl rfl rfl rfl rfl rfl ?_
    refine am_e_aload_n n102_0 rfl ?_
    refine am_e_iload_n n102_1 rfl ?_
    refine am_e_aload_n n102_2 rfl ?_
    refine am_e_getf (v := .ref 188) n102_3 rfl ((F8 164 50 rfl).trans (f164_50 (h := h) hT)) ?_
    refine am_e_iconst (w := 0) n102_4 rfl ?_
    refine am_e_iaload (v := 0) (q := 0) n102_5 rfl (by decide) (by decide) ((F8 188 0 rfl).trans (f188_0 (h := h) hT)) ?_
    refine am_e_iastore (q := 0) n102_6 rfl (by decide) (by decide) ?_
    refine am_e_aload_n n102_7 rfl ?_
    refine am_e_iload_n n102_8 rfl ?_
    refine am_e_iconst (w := 1) n102_9 rfl ?_
    refine am_e_iadd (w := 1) n102_10 (by decide) ?_
    refine am_e_aload_n n102_11 rfl ?_
    refine am_e_getf (v := .ref 189) n102_12 rfl ((F8 164 51 rfl).trans (f164_51 (h := h) hT)) ?_
    refine am_e_iconst (w := 0) n102_13 rfl ?_
    refine am_e_iaload (v := 0) (q := 0) n102_14 rfl (by decide) (by decide) ((F8 189 0 rfl).trans (f189_0 (h := h) hT)) ?_
    refine am_e_iastore (q := 1) n102_15 rfl (by decide) (by decide) ?_
    refine am_e_aload_n n102_16 rfl ?_
    refine am_e_iload_n n102_17 rfl ?_
    refine am_e_iconst (w := 2) n102_18 rfl ?_
    refine am_e_iadd (w := 2) n102_19 (by decide) ?_
    refine am_e_aload_n n102_20 rfl ?_
    refine am_e_getf (v := .ref 190) n102_21 rfl ((F8 164 52 rfl).trans (f164_52 (h := h) hT)) ?_
    refine am_e_iconst (w := 0) n102_22 rfl ?_
    refine am_e_iaload (v := (-1)) (q := 0) n102_23 rfl (by decide) (by decide) ((F8 190 0 rfl).trans (f190_0 (h := h) hT)) ?_
    refine am_e_iastore (q := 2) n102_24 rfl (by decide) (by decide) ?_
    refine am_e_aload_n n102_25 rfl ?_
    refine am_e_iload_n n102_26 rfl ?_
    refine am_e_iconst (w := 3) n102_27 rfl ?_
    refine am_e_iadd (w := 3) n102_28 (by decide) ?_
    refine am_e_aload_n n102_29 rfl ?_
    refine am_e_getf (v := .ref 194) n102_30 rfl ((F8 164 56 rfl).trans (f164_56 (h := h) hT)) ?_
    refine am_e_iconst (w := 0) n102_31 rfl ?_
    refine am_e_iaload (v := 0) (q := 0) n102_32 rfl (by decide) (by decide) ((F8 194 0 rfl).trans (f194_0 (h := h) hT)) ?_
    refine am_e_iastore (q := 3) n102_33 rfl (by decide) (by decide) ?_
    refine am_e_aload_n n102_34 rfl ?_
    refine am_e_iload_n n102_35 rfl ?_
    refine am_e_iconst (w := 4) n102_36 rfl ?_
    refine am_e_iadd (w := 4) n102_37 (by decide) ?_
    refine am_e_aload_n n102_38 rfl ?_
    refine am_e_getf (v := .int 0) n102_39 rfl ((F8 164 57 rfl).trans (f164_57 (h := h) hT)) ?_
    refine am_e_iastore (q := 4) n102_40 rfl (by decide) (by decide) ?_
    refine am_e_iconst (w := 0) n102_41 rfl ?_
    refine am_e_istore_n (ls' := [(3, .int 0), (0, .ref 164), (1, .ref 200), (2, .int 0)]) n102_42 rfl rfl ?_
    refine am_e_iload_n n102_43 rfl ?_
    refine am_e_iconst (w := 4) n102_44 rfl ?_
    refine am_e_cmpF n102_45 (am_c_geF (by decide)) ?_
    refine am_e_aload_n n102_46 rfl ?_
    refine am_e_iload_n n102_47 rfl ?_
    refine am_e_iconst (w := 5) n102_48 rfl ?_
    refine am_e_iadd (w := 5) n102_49 (by decide) ?_
    refine am_e_iload_n n102_50 rfl ?_
    refine am_e_iadd (w := 5) n102_51 (by decide) ?_
    refine am_e_aload_n n102_52 rfl ?_
    refine am_e_getf (v := .ref 191) n102_53 rfl ((F8 164 53 rfl).trans (f164_53 (h := h) hT)) ?_
    refine am_e_iload_n n102_54 rfl ?_
    refine am_e_iaload (v := 0) (q := 0) n102_55 rfl (by decide) (by decide) ((F8 191 0 rfl).trans (f191_0 (h := h) hT)) ?_
    refine am_e_iastore (q := 5) n102_56 rfl (by decide) (by decide) ?_
    refine am_e_aload_n n102_57 rfl ?_
    refine am_e_iload_n n102_58 rfl ?_
    refine am_e_bipush (w := 9) n102_59 (by decide) ?_
    refine am_e_iadd (w := 9) n102_60 (by decide) ?_
    refine am_e_iload_n n102_61 rfl ?_
    refine am_e_iadd (w := 9) n102_62 (by decide) ?_
    refine am_e_aload_n n102_63 rfl ?_
    refine am_e_getf (v := .ref 192) n102_64 rfl ((F8 164 54 rfl).trans (f164_54 (h := h) hT)) ?_
    refine am_e_iload_n n102_65 rfl ?_
    refine am_e_iaload (v := 0) (q := 0) n102_66 rfl (by decide) (by decide) ((F8 192 0 rfl).trans (f192_0 (h := h) hT)) ?_
    refine am_e_iastore (q := 9) n102_67 rfl (by decide) (by decide) ?_
    refine am_e_aload_n n102_68 rfl ?_
    refine am_e_iload_n n102_69 rfl ?_
    refine am_e_bipush (w := 13) n102_70 (by decide) ?_
    refine am_e_iadd (w := 13) n102_71 (by decide) ?_
    refine am_e_iload_n n102_72 rfl ?_
    refine am_e_iadd (w := 13) n102_73 (by decide) ?_
    refine am_e_aload_n n102_74 rfl ?_
    refine am_e_getf (v := .ref 193) n102_75 rfl ((F8 164 55 rfl).trans (f164_55 (h := h) hT)) ?_
    refine am_e_iload_n n102_76 rfl ?_
    refine am_e_iaload (v := 0) (q := 0) n102_77 rfl (by decide) (by decide) ((F8 193 0 rfl).trans (f193_0 (h := h) hT)) ?_
    refine am_e_iastore (q := 13) n102_78 rfl (by decide) (by decide) ?_
    refine am_e_iinc (w := 1) (ls' := [(3, .int 1), (0, .ref 164), (1, .ref 200), (2, .int 0)]) n102_79 rfl rfl (by decide) rfl ?_
    refine am_e_goto c102_80 t102_80 ?_
    refine am_e_iload_n n102_43 rfl ?_
    refine am_e_iconst (w := 4) n102_44 rfl ?_
    refine am_e_cmpF n102_45 (am_c_geF (by decide)) ?_
    refine am_e_aload_n n102_46 rfl ?_
    refine am_e_iload_n n102_47 rfl ?_
    refine am_e_iconst (w := 5) n102_48 rfl ?_
    refine am_e_iadd (w := 5) n102_49 (by decide) ?_
    refine am_e_iload_n n102_50 rfl ?_
    refine am_e_iadd (w := 6) n102_51 (by decide) ?_
    refine am_e_aload_n n102_52 rfl ?_
    refine am_e_getf (v := .ref 191) n102_53 rfl ((F8 164 53 rfl).trans (f164_53 (h := h) hT)) ?_
    refine am_e_iload_n n102_54 rfl ?_
    refine am_e_iaload (v := 0) (q := 1) n102_55 rfl (by decide) (by decide) ((F8 191 1 rfl).trans (f191_1 (h := h) hT)) ?_
    refine am_e_iastore (q := 6) n102_56 rfl (by decide) (by decide) ?_
    refine am_e_aload_n n102_57 rfl ?_
    refine am_e_iload_n n102_58 rfl ?_
    refine am_e_bipush (w := 9) n102_59 (by decide) ?_
    refine am_e_iadd (w := 9) n102_60 (by decide) ?_
    refine am_e_iload_n n102_61 rfl ?_
    refine am_e_iadd (w := 10) n102_62 (by decide) ?_
    refine am_e_aload_n n102_63 rfl ?_
    refine am_e_getf (v := .ref 192) n102_64 rfl ((F8 164 54 rfl).trans (f164_54 (h := h) hT)) ?_
    refine am_e_iload_n n102_65 rfl ?_
    refine am_e_iaload (v := 0) (q := 1) n102_66 rfl (by decide) (by decide) ((F8 192 1 rfl).trans (f192_1 (h := h) hT)) ?_
    refine am_e_iastore (q := 10) n102_67 rfl (by decide) (by decide) ?_
    refine am_e_aload_n n102_68 rfl ?_
    refine am_e_iload_n n102_69 rfl ?_
    refine am_e_bipush (w := 13) n102_70 (by decide) ?_
    refine am_e_iadd (w := 13) n102_71 (by decide) ?_
    refine am_e_iload_n n102_72 rfl ?_
    refine am_e_iadd (w := 14) n102_73 (by decide) ?_
    refine am_e_aload_n n102_74 rfl ?_
    refine am_e_getf (v := .ref 193) n102_75 rfl ((F8 164 55 rfl).trans (f164_55 (h := h) hT)) ?_
    refine am_e_iload_n n102_76 rfl ?_
    refine am_e_iaload (v := 0) (q := 1) n102_77 rfl (by decide) (by decide) ((F8 193 1 rfl).trans (f193_1 (h := h) hT)) ?_
    refine am_e_iastore (q := 14) n102_78 rfl (by decide) (by decide) ?_
    refine am_e_iinc (w := 2) (ls' := [(3, .int 2), (0, .ref 164), (1, .ref 200), (2, .int 0)]) n102_79 rfl rfl (by decide) rfl ?_
    refine am_e_goto c102_80 t102_80 ?_
    refine am_e_iload_n n102_43 rfl ?_
    refine am_e_iconst (w := 4) n102_44 rfl ?_
    refine am_e_cmpF n102_45 (am_c_geF (by decide)) ?_
    refine am_e_aload_n n102_46 rfl ?_
    refine am_e_iload_n n102_47 rfl ?_
    refine am_e_iconst (w := 5) n102_48 rfl ?_
    refine am_e_iadd (w := 5) n102_49 (by decide) ?_
    refine am_e_iload_n n102_50 rfl ?_
    refine am_e_iadd (w := 7) n102_51 (by decide) ?_
    refine am_e_aload_n n102_52 rfl ?_
    refine am_e_getf (v := .ref 191) n102_53 rfl ((F8 164 53 rfl).trans (f164_53 (h := h) hT)) ?_
    refine am_e_iload_n n102_54 rfl ?_
    refine am_e_iaload (v := 0) (q := 2) n102_55 rfl (by decide) (by decide) ((F8 191 2 rfl).trans (f191_2 (h := h) hT)) ?_
    refine am_e_iastore (q := 7) n102_56 rfl (by decide) (by decide) ?_
    refine am_e_aload_n n102_57 rfl ?_
    refine am_e_iload_n n102_58 rfl ?_
    refine am_e_bipush (w := 9) n102_59 (by decide) ?_
    refine am_e_iadd (w := 9) n102_60 (by decide) ?_
    refine am_e_iload_n n102_61 rfl ?_
    refine am_e_iadd (w := 11) n102_62 (by decide) ?_
    refine am_e_aload_n n102_63 rfl ?_
    refine am_e_getf (v := .ref 192) n102_64 rfl ((F8 164 54 rfl).trans (f164_54 (h := h) hT)) ?_
    refine am_e_iload_n n102_65 rfl ?_
    refine am_e_iaload (v := 0) (q := 2) n102_66 rfl (by decide) (by decide) ((F8 192 2 rfl).trans (f192_2 (h := h) hT)) ?_
    refine am_e_iastore (q := 11) n102_67 rfl (by decide) (by decide) ?_
    refine am_e_aload_n n102_68 rfl ?_
    refine am_e_iload_n n102_69 rfl ?_
    refine am_e_bipush (w := 13) n102_70 (by decide) ?_
    refine am_e_iadd (w := 13) n102_71 (by decide) ?_
    refine am_e_iload_n n102_72 rfl ?_
    refine am_e_iadd (w := 15) n102_73 (by decide) ?_
    refine am_e_aload_n n102_74 rfl ?_
    refine am_e_getf (v := .ref 193) n102_75 rfl ((F8 164 55 rfl).trans (f164_55 (h := h) hT)) ?_
    refine am_e_iload_n n102_76 rfl ?_
    refine am_e_iaload (v := 0) (q := 2) n102_77 rfl (by decide) (by decide) ((F8 193 2 rfl).trans (f193_2 (h := h) hT)) ?_
    refine am_e_iastore (q := 15) n102_78 rfl (by decide) (by decide) ?_
    refine am_e_iinc (w := 3) (ls' := [(3, .int 3), (0, .ref 164), (1, .ref 200), (2, .int 0)]) n102_79 rfl rfl (by decide) rfl ?_
    refine am_e_goto c102_80 t102_80 ?_
    refine am_e_iload_n n102_43 rfl ?_
    refine am_e_iconst (w := 4) n102_44 rfl ?_
    refine am_e_cmpF n102_45 (am_c_geF (by decide)) ?_
    refine am_e_aload_n n102_46 rfl ?_
    refine am_e_iload_n n102_47 rfl ?_
    refine am_e_iconst (w := 5) n102_48 rfl ?_
    refine am_e_iadd (w := 5) n102_49 (by decide) ?_
    refine am_e_iload_n n102_50 rfl ?_
    refine am_e_iadd (w := 8) n102_51 (by decide) ?_
    refine am_e_aload_n n102_52 rfl ?_
    refine am_e_getf (v := .ref 191) n102_53 rfl ((F8 164 53 rfl).trans (f164_53 (h := h) hT)) ?_
    refine am_e_iload_n n102_54 rfl ?_
    refine am_e_iaload (v := 0) (q := 3) n102_55 rfl (by decide) (by decide) ((F8 191 3 rfl).trans (f191_3 (h := h) hT)) ?_
    refine am_e_iastore (q := 8) n102_56 rfl (by decide) (by decide) ?_
    refine am_e_aload_n n102_57 rfl ?_
    refine am_e_iload_n n102_58 rfl ?_
    refine am_e_bipush (w := 9) n102_59 (by decide) ?_
    refine am_e_iadd (w := 9) n102_60 (by decide) ?_
    refine am_e_iload_n n102_61 rfl ?_
    refine am_e_iadd (w := 12) n102_62 (by decide) ?_
    refine am_e_aload_n n102_63 rfl ?_
    refine am_e_getf (v := .ref 192) n102_64 rfl ((F8 164 54 rfl).trans (f164_54 (h := h) hT)) ?_
    refine am_e_iload_n n102_65 rfl ?_
    refine am_e_iaload (v := 0) (q := 3) n102_66 rfl (by decide) (by decide) ((F8 192 3 rfl).trans (f192_3 (h := h) hT)) ?_
    refine am_e_iastore (q := 12) n102_67 rfl (by decide) (by decide) ?_
    refine am_e_aload_n n102_68 rfl ?_
    refine am_e_iload_n n102_69 rfl ?_
    refine am_e_bipush (w := 13) n102_70 (by decide) ?_
    refine am_e_iadd (w := 13) n102_71 (by decide) ?_
    refine am_e_iload_n n102_72 rfl ?_
    refine am_e_iadd (w := 16) n102_73 (by decide) ?_
    refine am_e_aload_n n102_74 rfl ?_
    refine am_e_getf (v := .ref 193) n102_75 rfl ((F8 164 55 rfl).trans (f164_55 (h := h) hT)) ?_
    refine am_e_iload_n n102_76 rfl ?_
    refine am_e_iaload (v := 0) (q := 3) n102_77 rfl (by decide) (by decide) ((F8 193 3 rfl).trans (f193_3 (h := h) hT)) ?_
    refine am_e_iastore (q := 16) n102_78 rfl (by decide) (by decide) ?_
    refine am_e_iinc (w := 4) (ls' := [(3, .int 4), (0, .ref 164), (1, .ref 200), (2, .int 0)]) n102_79 rfl rfl (by decide) rfl ?_
    refine am_e_goto c102_80 t102_80 ?_
    refine am_e_iload_n n102_43 rfl ?_
    refine am_e_iconst (w := 4) n102_44 rfl ?_
    refine am_e_cmpT n102_45 (am_c_geT (by decide)) t102_45 ?_
    refine am_e_vret c102_81 rfl rfl ?_
    refine am_e_aload_n n101_35 rfl ?_
    refine am_e_dup n101_36 rfl ?_
    refine am_e_getf (v := .int 0) n101_37 rfl ((F8 164 77 rfl).trans (f164_77 (h := h) hT)) ?_
    refine am_e_iconst (w := 1) n101_38 rfl ?_
    refine am_e_iadd (w := 1) n101_39 (by decide) ?_
    refine am_e_putf n101_40 rfl rfl ?_
    refine am_e_vret c101_41 rfl rfl ?_
    refine am_e_iconst (w := 0) n103_20 rfl ?_
    refine am_e_istore_n (ls' := [(3, .int 0), (0, .ref 164), (1, .int (nI n)), (2, .int 1)]) n103_21 rfl rfl ?_
    refine am_Ek_ls (ls' := [(0, .ref 164), (1, .int (nI n)), (2, .int 1), (3, .int (nI 0))]) ⟨rfl, rfl, rfl, rfl, trivial⟩ ?_
    refine am_mW1_e (n := n) (s := 0) (by omega) ⟨((F8 164 50 rfl).trans (f164_50 (h := h) hT)), ((F8 164 61 rfl).trans (f164_61 (h := h) hT)), ((F8 164 47 rfl).trans (f164_47 (h := h) hT)), ((F8 164 23 rfl).trans (f164_23 (h := h) hT)), ((F8 168 0 rfl).trans (f168_0 (h := h) hT)), ((F8 164 51 rfl).trans (f164_51 (h := h) hT)), ((F8 164 33 rfl).trans (f164_33 (h := h) hT)), ((F8 178 2 rfl).trans (f178_2 (h := h) hT)), ((F8 178 0 rfl).trans (f178_0 (h := h) hT)), ((F8 164 62 rfl).trans (f164_62 (h := h) hT)), ((F8 164 58 rfl).trans (f164_58 (h := h) hT)), ((F8 164 60 rfl).trans (f164_60 (h := h) hT)), trivial⟩ (by omega) ((F8 188 0 rfl).trans (f188_0 (h := h) hT)) ((F8 189 0 rfl).trans (f189_0 (h := h) hT)) ?_
    intro h9 F9 qa9 qb9
    refine am_e_aload_n n103_32 rfl ?_
    refine am_e_getf (v := .ref 188) n103_33 rfl ((F9 164 50 rfl).trans ((F8 164 50 rfl).trans (f164_50 (h := h) hT))) ?_
    refine am_e_iconst (w := 0) n103_34 rfl ?_
    refine am_e_iaload (v := 0) (q := 0) n103_35 rfl (by decide) (by decide) qa9 ?_
    refine am_e_iret c103_36 rfl rfl rfl ?_
    refine am_e_cmpT n136_275 (am_c_eqT (by decide)) t136_275 ?_
    exact K _
