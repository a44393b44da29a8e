theorem am_op13_m {lk : List Value → List am_k → am_H → Option am_O} {xs : Nat → Int32} {h : am_H} {Q : Option Value → List am_k → am_H → Prop} {a1 : Int32} {a2 : Int32} {a3 : Int32} {a4 : Int32} {a5 : Int32} (ha : a1 < (0 : Int32)) (hT : am_T h) (hx1 : xs 1 = a1) (hx2 : xs 2 = a2) (hx3 : xs 3 = a3) (hx4 : xs 4 = a4) (hx5 : xs 5 = a5) (K : ∀ h', am_Ek false (am_P1 (some (6, xs)) lk) am_m136 841 [(4, .int 0), (3, .ref 202), (2, .ref 164), (1, .ref 0), (0, .retAddr 0)] [] am_ks0 h' 203 4392 Q) : am_Ek false (am_P1 (some (6, xs)) lk) am_m136 363 [(4, .int 0), (3, .ref 202), (2, .ref 164), (1, .ref 0), (0, .retAddr 0)] [] am_ks0 h 203 4392 Q := by
  refine am_e_aload_n n136_363 rfl ?_
  refine am_e_sload_n n136_364 rfl ?_
  refine am_e_iload n136_365 rfl ?_
  refine am_e_iconst (w := 1) n136_366 rfl ?_
  refine am_e_iadd (w := 1) n136_367 (by decide) ?_
  refine am_e_sald1 n136_368 rfl (by decide) (by decide) hx1 ?_
  refine am_e_sload_n n136_369 rfl ?_
  refine am_e_iload n136_370 rfl ?_
  refine am_e_iconst (w := 2) n136_371 rfl ?_
  refine am_e_iadd (w := 2) n136_372 (by decide) ?_
  refine am_e_sald1 n136_373 rfl (by decide) (by decide) hx2 ?_
  refine am_e_callV (L := [(0, .ref 0), (1, .int a1), (2, .int a2)]) n136_374 rfl rfl rfl rfl rfl rfl rfl rfl ?_
  refine am_e_iload_n n47_0 rfl ?_
  refine am_e_iconst (w := 0) n47_1 rfl ?_
  refine am_e_aload_n n47_2 rfl ?_
  refine am_e_getf (v := .ref 2) n47_3 rfl (f0_2 (h := h) hT) ?_
  refine am_e_getf (v := .int 500) n47_4 rfl (f2_0 (h := h) hT) ?_
  refine am_e_callS (L := [(0, .int a1), (1, .int 0), (2, .int 500)]) n47_5 rfl rfl rfl rfl rfl rfl rfl ?_
  refine am_e_iload_n n30_0 rfl ?_
  refine am_e_iload_n n30_1 rfl ?_
  refine am_e_cmpT n30_2 (am_c_ltT ha) t30_2 ?_
  refine am_e_iconst (w := 0) n30_8 rfl ?_
  refine am_e_iret c30_9 rfl rfl rfl ?_
  refine am_e_ifT n47_6 (am_c_eqT (by decide)) t47_6 ?_
  refine am_e_iconst (w := (-1)) n47_12 rfl ?_
  refine am_e_iret c47_13 rfl rfl rfl ?_
  refine am_e_aload_n n136_375 rfl ?_
  refine am_e_sload_n n136_376 rfl ?_
  refine am_e_iload n136_377 rfl ?_
  refine am_e_iconst (w := 1) n136_378 rfl ?_
  refine am_e_iadd (w := 1) n136_379 (by decide) ?_
  refine am_e_sald1 n136_380 rfl (by decide) (by decide) hx1 ?_
  refine am_e_sload_n n136_381 rfl ?_
  refine am_e_iload n136_382 rfl ?_
  refine am_e_iconst (w := 2) n136_383 rfl ?_
  refine am_e_iadd (w := 2) n136_384 (by decide) ?_
  refine am_e_sald1 n136_385 rfl (by decide) (by decide) hx2 ?_
  refine am_e_callV (L := [(0, .ref 164), (1, .int a1), (2, .int a2)]) n136_386 rfl rfl rfl rfl rfl rfl rfl rfl ?_
  refine am_e_aload_n n109_0 rfl ?_
  refine am_e_iconst (w := 0) n109_1 rfl ?_
  refine am_e_putf n109_2 rfl rfl ?_
  refine am_e_iload_n n109_3 rfl ?_
  refine am_e_iconst (w := 0) n109_4 rfl ?_
  refine am_e_aload_n n109_5 rfl ?_
  refine am_e_getf (v := .ref 168) n109_6 rfl (f164_23 (h := h) hT) ?_
  refine am_e_iconst (w := 0) n109_7 rfl ?_
  refine am_e_iaload (v := 500) (q := 0) n109_8 rfl (by decide) (by decide) (f168_0 (h := h) hT) ?_
  refine am_e_callS (L := [(0, .int a1), (1, .int 0), (2, .int 500)]) n109_9 rfl rfl rfl rfl rfl rfl rfl ?_
  refine am_e_iload_n n87_0 rfl ?_
  refine am_e_iload_n n87_1 rfl ?_
  refine am_e_cmpT n87_2 (am_c_ltT ha) t87_2 ?_
  refine am_e_iconst (w := 0) n87_8 rfl ?_
  refine am_e_iret c87_9 rfl rfl rfl ?_
  refine am_e_ifT n109_10 (am_c_eqT (by decide)) t109_10 ?_
  refine am_e_iconst (w := (-1)) n109_22 rfl ?_
  refine am_e_iret c109_23 rfl rfl rfl ?_
  refine am_e_cmpT n136_387 (am_c_eqT (by decide)) t136_387 ?_
  exact K _
theorem am_op13_p {lk : List Value → List am_k → am_H → Option am_O} {xs : Nat → Int32} {h : am_H} {Q : Option Value → List am_k → am_H → Prop} {a1 : Int32} {a2 : Int32} {a3 : Int32} {a4 : Int32} {a5 : Int32} (hb : ¬ a1 < (0 : Int32)) (ha : (500 : Int32) < a1) (hT : am_T h) (hx1 : xs 1 = a1) (hx2 : xs 2 = a2) (hx3 : xs 3 = a3) (hx4 : xs 4 = a4) (hx5 : xs 5 = a5) (K : ∀ h', am_Ek false (am_P1 (some (6, xs)) lk) am_m136 841 [(4, .int 0), (3, .ref 202), (2, .ref 164), (1, .ref 0), (0, .retAddr 0)] [] am_ks0 h' 203 4392 Q) : am_Ek false (am_P1 (some (6, xs)) lk) am_m136 363 [(4, .int 0), (3, .ref 202), (2, .ref 164), (1, .ref 0), (0, .retAddr 0)] [] am_ks0 h 203 4392 Q := by
  refine am_e_aload_n n136_363 rfl ?_
  refine am_e_sload_n n136_364 rfl ?_
  refine am_e_iload n136_365 rfl ?_
  refine am_e_iconst (w := 1) n136_366 rfl ?_
  refine am_e_iadd (w := 1) n136_367 (by decide) ?_
  refine am_e_sald1 n136_368 rfl (by decide) (by decide) hx1 ?_
  refine am_e_sload_n n136_369 rfl ?_
  refine am_e_iload n136_370 rfl ?_
  refine am_e_iconst (w := 2) n136_371 rfl ?_
  refine am_e_iadd (w := 2) n136_372 (by decide) ?_
  refine am_e_sald1 n136_373 rfl (by decide) (by decide) hx2 ?_
  refine am_e_callV (L := [(0, .ref 0), (1, .int a1), (2, .int a2)]) n136_374 rfl rfl rfl rfl rfl rfl rfl rfl ?_
  refine am_e_iload_n n47_0 rfl ?_
  refine am_e_iconst (w := 0) n47_1 rfl ?_
  refine am_e_aload_n n47_2 rfl ?_
  refine am_e_getf (v := .ref 2) n47_3 rfl (f0_2 (h := h) hT) ?_
  refine am_e_getf (v := .int 500) n47_4 rfl (f2_0 (h := h) hT) ?_
  refine am_e_callS (L := [(0, .int a1), (1, .int 0), (2, .int 500)]) n47_5 rfl rfl rfl rfl rfl rfl rfl ?_
  refine am_e_iload_n n30_0 rfl ?_
  refine am_e_iload_n n30_1 rfl ?_
  refine am_e_cmpF n30_2 (am_c_ltF hb) ?_
  refine am_e_iload_n n30_3 rfl ?_
  refine am_e_iload_n n30_4 rfl ?_
  refine am_e_cmpT n30_5 (am_c_gtT ha) t30_5 ?_
  refine am_e_iconst (w := 0) n30_8 rfl ?_
  refine am_e_iret c30_9 rfl rfl rfl ?_
  refine am_e_ifT n47_6 (am_c_eqT (by decide)) t47_6 ?_
  refine am_e_iconst (w := (-1)) n47_12 rfl ?_
  refine am_e_iret c47_13 rfl rfl rfl ?_
  refine am_e_aload_n n136_375 rfl ?_
  refine am_e_sload_n n136_376 rfl ?_
  refine am_e_iload n136_377 rfl ?_
  refine am_e_iconst (w := 1) n136_378 rfl ?_
  refine am_e_iadd (w := 1) n136_379 (by decide) ?_
  refine am_e_sald1 n136_380 rfl (by decide) (by decide) hx1 ?_
  refine am_e_sload_n n136_381 rfl ?_
  refine am_e_iload n136_382 rfl ?_
  refine am_e_iconst (w := 2) n136_383 rfl ?_
  refine am_e_iadd (w := 2) n136_384 (by decide) ?_
  refine am_e_sald1 n136_385 rfl (by decide) (by decide) hx2 ?_
  refine am_e_callV (L := [(0, .ref 164), (1, .int a1), (2, .int a2)]) n136_386 rfl rfl rfl rfl rfl rfl rfl rfl ?_
  refine am_e_aload_n n109_0 rfl ?_
  refine am_e_iconst (w := 0) n109_1 rfl ?_
  refine am_e_putf n109_2 rfl rfl ?_
  refine am_e_iload_n n109_3 rfl ?_
  refine am_e_iconst (w := 0) n109_4 rfl ?_
  refine am_e_aload_n n109_5 rfl ?_
  refine am_e_getf (v := .ref 168) n109_6 rfl (f164_23 (h := h) hT) ?_
  refine am_e_iconst (w := 0) n109_7 rfl ?_
  refine am_e_iaload (v := 500) (q := 0) n109_8 rfl (by decide) (by decide) (f168_0 (h := h) hT) ?_
  refine am_e_callS (L := [(0, .int a1), (1, .int 0), (2, .int 500)]) n109_9 rfl rfl rfl rfl rfl rfl rfl ?_
  refine am_e_iload_n n87_0 rfl ?_
  refine am_e_iload_n n87_1 rfl ?_
  refine am_e_cmpF n87_2 (am_c_ltF hb) ?_
  refine am_e_iload_n n87_3 rfl ?_
  refine am_e_iload_n n87_4 rfl ?_
  refine am_e_cmpT n87_5 (am_c_gtT ha) t87_5 ?_
  refine am_e_iconst (w := 0) n87_8 rfl ?_
  refine am_e_iret c87_9 rfl rfl rfl ?_
  refine am_e_ifT n109_10 (am_c_eqT (by decide)) t109_10 ?_
  refine am_e_iconst (w := (-1)) n109_22 rfl ?_
  refine am_e_iret c109_23 rfl rfl rfl ?_
  refine am_e_cmpT n136_387 (am_c_eqT (by decide)) t136_387 ?_
  exact K _
theorem am_op13_bm {lk : List Value → List am_k → am_H → Option am_O} {xs : Nat → Int32} {h : am_H} {Q : Option Value → List am_k → am_H → Prop} {a2 : Int32} {a3 : Int32} {a4 : Int32} {a5 : Int32} {f : Nat} (hf : f ≤ 500) (ha : a2 < (0 : Int32)) (hT : am_T h) (hx1 : xs 1 = (nI f)) (hx2 : xs 2 = a2) (hx3 : xs 3 = a3) (hx4 : xs 4 = a4) (hx5 : xs 5 = a5) (K : ∀ h', am_Ek false (am_P1 (some (6, xs)) lk) am_m136 841 [(4, .int 0), (3, .ref 202), (2, .ref 164), (1, .ref 0), (0, .retAddr 0)] [] am_ks0 h' 203 4392 Q) : am_Ek false (am_P1 (some (6, xs)) lk) am_m136 363 [(4, .int 0), (3, .ref 202), (2, .ref 164), (1, .ref 0), (0, .retAddr 0)] [] am_ks0 h 203 4392 Q := by
  refine am_e_aload_n n136_363 rfl ?_
  refine am_e_sload_n n136_364 rfl ?_
  refine am_e_iload n136_365 rfl ?_
  refine am_e_iconst (w := 1) n136_366 rfl ?_
  refine am_e_iadd (w := 1) n136_367 (by decide) ?_
  refine am_e_sald1 n136_368 rfl (by decide) (by decide) hx1 ?_
  refine am_e_sload_n n136_369 rfl ?_
  refine am_e_iload n136_370 rfl ?_
  refine am_e_iconst (w := 2) n136_371 rfl ?_
  refine am_e_iadd (w := 2) n136_372 (by decide) ?_
  refine am_e_sald1 n136_373 rfl (by decide) (by decide) hx2 ?_
  refine am_e_callV (L := [(0, .ref 0), (1, .int (nI f)), (2, .int a2)]) n136_374 rfl rfl rfl rfl rfl rfl rfl rfl ?_
  refine am_e_iload_n n47_0 rfl ?_
  refine am_e_iconst (w := 0) n47_1 rfl ?_
  refine am_e_aload_n n47_2 rfl ?_
  refine am_e_getf (v := .ref 2) n47_3 rfl (f0_2 (h := h) hT) ?_
  refine am_e_getf (v := .int 500) n47_4 rfl (f2_0 (h := h) hT) ?_
  refine am_e_callS (L := [(0, .int (nI f)), (1, .int 0), (2, .int 500)]) n47_5 rfl rfl rfl rfl rfl rfl rfl ?_
  refine am_e_iload_n n30_0 rfl ?_
  refine am_e_iload_n n30_1 rfl ?_
  refine am_e_cmpF n30_2 (am_c_ltF (nI_pos (by omega))) ?_
  refine am_e_iload_n n30_3 rfl ?_
  refine am_e_iload_n n30_4 rfl ?_
  refine am_e_cmpF n30_5 (am_c_gtF (nI_nlt (a := 500) (b := f) hf (by decide))) ?_
  refine am_e_iconst (w := 1) n30_6 rfl ?_
  refine am_e_goto c30_7 t30_7 ?_
  refine am_e_iret c30_9 rfl rfl rfl ?_
  refine am_e_ifF n47_6 (am_c_eqF (by decide)) ?_
  refine am_e_iload_n n47_7 rfl ?_
  refine am_e_iconst (w := 0) n47_8 rfl ?_
  refine am_e_sipush (w := 9999) n47_9 (by decide) ?_
  refine am_e_callS (L := [(0, .int a2), (1, .int 0), (2, .int 9999)]) n47_10 rfl rfl rfl rfl rfl rfl rfl ?_
  refine am_e_iload_n n30_0 rfl ?_
  refine am_e_iload_n n30_1 rfl ?_
  refine am_e_cmpT n30_2 (am_c_ltT ha) t30_2 ?_
  refine am_e_iconst (w := 0) n30_8 rfl ?_
  refine am_e_iret c30_9 rfl rfl rfl ?_
  refine am_e_ifF n47_11 (am_c_neF (by decide)) ?_
  refine am_e_iconst (w := (-1)) n47_12 rfl ?_
  refine am_e_iret c47_13 rfl rfl rfl ?_
  refine am_e_aload_n n136_375 rfl ?_
  refine am_e_sload_n n136_376 rfl ?_
  refine am_e_iload n136_377 rfl ?_
  refine am_e_iconst (w := 1) n136_378 rfl ?_
  refine am_e_iadd (w := 1) n136_379 (by decide) ?_
  refine am_e_sald1 n136_380 rfl (by decide) (by decide) hx1 ?_
  refine am_e_sload_n n136_381 rfl ?_
  refine am_e_iload n136_382 rfl ?_
  refine am_e_iconst (w := 2) n136_383 rfl ?_
  refine am_e_iadd (w := 2) n136_384 (by decide) ?_
  refine am_e_sald1 n136_385 rfl (by decide) (by decide) hx2 ?_
  refine am_e_callV (L := [(0, .ref 164), (1, .int (nI f)), (2, .int a2)]) n136_386 rfl rfl rfl rfl rfl rfl rfl rfl ?_
  refine am_e_aload_n n109_0 rfl ?_
  refine am_e_iconst (w := 0) n109_1 rfl ?_
  refine am_e_putf n109_2 rfl rfl ?_
  refine am_e_iload_n n109_3 rfl ?_
  refine am_e_iconst (w := 0) n109_4 rfl ?_
  refine am_e_aload_n n109_5 rfl ?_
  refine am_e_getf (v := .ref 168) n109_6 rfl (f164_23 (h := h) hT) ?_
  refine am_e_iconst (w := 0) n109_7 rfl ?_
  refine am_e_iaload (v := 500) (q := 0) n109_8 rfl (by decide) (by decide) (f168_0 (h := h) hT) ?_
  refine am_e_callS (L := [(0, .int (nI f)), (1, .int 0), (2, .int 500)]) n109_9 rfl rfl rfl rfl rfl rfl rfl ?_
  refine am_e_iload_n n87_0 rfl ?_
  refine am_e_iload_n n87_1 rfl ?_
  refine am_e_cmpF n87_2 (am_c_ltF (nI_pos (by omega))) ?_
  refine am_e_iload_n n87_3 rfl ?_
  refine am_e_iload_n n87_4 rfl ?_
  refine am_e_cmpF n87_5 (am_c_gtF (nI_nlt (a := 500) (b := f) hf (by decide))) ?_
  refine am_e_iconst (w := 1) n87_6 rfl ?_
  refine am_e_goto c87_7 t87_7 ?_
  refine am_e_iret c87_9 rfl rfl rfl ?_
  refine am_e_ifF n109_10 (am_c_eqF (by decide)) ?_
  refine am_e_iload_n n109_11 rfl ?_
  refine am_e_iconst (w := 0) n109_12 rfl ?_
  refine am_e_sipush (w := 9999) n109_13 (by decide) ?_
  refine am_e_callS (L := [(0, .int a2), (1, .int 0), (2, .int 9999)]) n109_14 rfl rfl rfl rfl rfl rfl rfl ?_
  refine am_e_iload_n n87_0 rfl ?_
  refine am_e_iload_n n87_1 rfl ?_
  refine am_e_cmpT n87_2 (am_c_ltT ha) t87_2 ?_
  refine am_e_iconst (w := 0) n87_8 rfl ?_
  refine am_e_iret c87_9 rfl rfl rfl ?_
  refine am_e_ifT n109_15 (am_c_eqT (by decide)) t109_15 ?_
  refine am_e_iconst (w := (-1)) n109_22 rfl ?_
  refine am_e_iret c109_23 rfl rfl rfl ?_
  refine am_e_cmpT n136_387 (am_c_eqT (by decide)) t136_387 ?_
  exact K _
theorem am_op13_bp {lk : List Value → List am_k → am_H → Option am_O} {xs : Nat → Int32} {h : am_H} {Q : Option Value → List am_k → am_H → Prop} {a2 : Int32} {a3 : Int32} {a4 : Int32} {a5 : Int32} {f : Nat} (hf : f ≤ 500) (hb : ¬ a2 < (0 : Int32)) (ha : (9999 : Int32) < a2) (hT : am_T h) (hx1 : xs 1 = (nI f)) (hx2 : xs 2 = a2) (hx3 : xs 3 = a3) (hx4 : xs 4 = a4) (hx5 : xs 5 = a5) (K : ∀ h', am_Ek false (am_P1 (some (6, xs)) lk) am_m136 841 [(4, .int 0), (3, .ref 202), (2, .ref 164), (1, .ref 0), (0, .retAddr 0)] [] am_ks0 h' 203 4392 Q) : am_Ek false (am_P1 (some (6, xs)) lk) am_m136 363 [(4, .int 0), (3, .ref 202), (2, .ref 164), (1, .ref 0), (0, .retAddr 0)] [] am_ks0 h 203 4392 Q := by
  refine am_e_aload_n n136_363 rfl ?_
  refine am_e_sload_n n136_364 rfl ?_
  refine am_e_iload n136_365 rfl ?_
  refine am_e_iconst (w := 1) n136_366 rfl ?_
  refine am_e_iadd (w := 1) n136_367 (by decide) ?_
  refine am_e_sald1 n136_368 rfl (by decide) (by decide) hx1 ?_
  refine am_e_sload_n n136_369 rfl ?_
  refine am_e_iload n136_370 rfl ?_
  refine am_e_iconst (w := 2) n136_371 rfl ?_
  refine am_e_iadd (w := 2) n136_372 (by decide) ?_
  refine am_e_sald1 n136_373 rfl (by decide) (by decide) hx2 ?_
  refine am_e_callV (L := [(0, .ref 0), (1, .int (nI f)), (2, .int a2)]) n136_374 rfl rfl rfl rfl rfl rfl rfl rfl ?_
  refine am_e_iload_n n47_0 rfl ?_
  refine am_e_iconst (w := 0) n47_1 rfl ?_
  refine am_e_aload_n n47_2 rfl ?_
  refine am_e_getf (v := .ref 2) n47_3 rfl (f0_2 (h := h) hT) ?_
  refine am_e_getf (v := .int 500) n47_4 rfl (f2_0 (h := h) hT) ?_
  refine am_e_callS (L := [(0, .int (nI f)), (1, .int 0), (2, .int 500)]) n47_5 rfl rfl rfl rfl rfl rfl rfl ?_
  refine am_e_iload_n n30_0 rfl ?_
  refine am_e_iload_n n30_1 rfl ?_
  refine am_e_cmpF n30_2 (am_c_ltF (nI_pos (by omega))) ?_
  refine am_e_iload_n n30_3 rfl ?_
  refine am_e_iload_n n30_4 rfl ?_
  refine am_e_cmpF n30_5 (am_c_gtF (nI_nlt (a := 500) (b := f) hf (by decide))) ?_
  refine am_e_iconst (w := 1) n30_6 rfl ?_
  refine am_e_goto c30_7 t30_7 ?_
  refine am_e_iret c30_9 rfl rfl rfl ?_
  refine am_e_ifF n47_6 (am_c_eqF (by decide)) ?_
  refine am_e_iload_n n47_7 rfl ?_
  refine am_e_iconst (w := 0) n47_8 rfl ?_
  refine am_e_sipush (w := 9999) n47_9 (by decide) ?_
  refine am_e_callS (L := [(0, .int a2), (1, .int 0), (2, .int 9999)]) n47_10 rfl rfl rfl rfl rfl rfl rfl ?_
  refine am_e_iload_n n30_0 rfl ?_
  refine am_e_iload_n n30_1 rfl ?_
  refine am_e_cmpF n30_2 (am_c_ltF hb) ?_
  refine am_e_iload_n n30_3 rfl ?_
  refine am_e_iload_n n30_4 rfl ?_
  refine am_e_cmpT n30_5 (am_c_gtT ha) t30_5 ?_
  refine am_e_iconst (w := 0) n30_8 rfl ?_
  refine am_e_iret c30_9 rfl rfl rfl ?_
  refine am_e_ifF n47_11 (am_c_neF (by decide)) ?_
  refine am_e_iconst (w := (-1)) n47_12 rfl ?_
  refine am_e_iret c47_13 rfl rfl rfl ?_
  refine am_e_aload_n n136_375 rfl ?_
  refine am_e_sload_n n136_376 rfl ?_
  refine am_e_iload n136_377 rfl ?_
  refine am_e_iconst (w := 1) n136_378 rfl ?_
  refine am_e_iadd (w := 1) n136_379 (by decide) ?_
  refine am_e_sald1 n136_380 rfl (by decide) (by decide) hx1 ?_
  refine am_e_sload_n n136_381 rfl ?_
  refine am_e_iload n136_382 rfl ?_
  refine am_e_iconst (w := 2) n136_383 rfl ?_
  refine am_e_iadd (w := 2) n136_384 (by decide) ?_
  refine am_e_sald1 n136_385 rfl (by decide) (by decide) hx2 ?_
  refine am_e_callV (L := [(0, .ref 164), (1, .int (nI f)), (2, .int a2)]) n136_386 rfl rfl rfl rfl rfl rfl rfl rfl ?_
  refine am_e_aload_n n109_0 rfl ?_
  refine am_e_iconst (w := 0) n109_1 rfl ?_
  refine am_e_putf n109_2 rfl rfl ?_
  refine am_e_iload_n n109_3 rfl ?_
  refine am_e_iconst (w := 0) n109_4 rfl ?_
  refine am_e_aload_n n109_5 rfl ?_
  refine am_e_getf (v := .ref 168) n109_6 rfl (f164_23 (h := h) hT) ?_
  refine am_e_iconst (w := 0) n109_7 rfl ?_
  refine am_e_iaload (v := 500) (q := 0) n109_8 rfl (by decide) (by decide) (f168_0 (h := h) hT) ?_
  refine am_e_callS (L := [(0, .int (nI f)), (1, .int 0), (2, .int 500)]) n109_9 rfl rfl rfl rfl rfl rfl rfl ?_
  refine am_e_iload_n n87_0 rfl ?_
  refine am_e_iload_n n87_1 rfl ?_
  refine am_e_cmpF n87_2 (am_c_ltF (nI_pos (by omega))) ?_
  refine am_e_iload_n n87_3 rfl ?_
  refine am_e_iload_n n87_4 rfl ?_
  refine am_e_cmpF n87_5 (am_c_gtF (nI_nlt (a := 500) (b := f) hf (by decide))) ?_
  refine am_e_iconst (w := 1) n87_6 rfl ?_
  refine am_e_goto c87_7 t87_7 ?_
  refine am_e_iret c87_9 rfl rfl rfl ?_
  refine am_e_ifF n109_10 (am_c_eqF (by decide)) ?_
  refine am_e_iload_n n109_11 rfl ?_
  refine am_e_iconst (w := 0) n109_12 rfl ?_
  refine am_e_sipush (w := 9999) n109_13 (by decide) ?_
  refine am_e_callS (L := [(0, .int a2), (1, .int 0), (2, .int 9999)]) n109_14 rfl rfl rfl rfl rfl rfl rfl ?_
  refine am_e_iload_n n87_0 rfl ?_
  refine am_e_iload_n n87_1 rfl ?_
  refine am_e_cmpF n87_2 (am_c_ltF hb) ?_
  refine am_e_iload_n n87_3 rfl ?_
  refine am_e_iload_n n87_4 rfl ?_
  refine am_e_cmpT n87_5 (am_c_gtT ha) t87_5 ?_
  refine am_e_iconst (w := 0) n87_8 rfl ?_
  refine am_e_iret c87_9 rfl rfl rfl ?_
  refine am_e_ifT n109_15 (am_c_eqT (by decide)) t109_15 ?_
  refine am_e_iconst (w := (-1)) n109_22 rfl ?_
  refine am_e_iret c109_23 rfl rfl rfl ?_
  refine am_e_cmpT n136_387 (am_c_eqT (by decide)) t136_387 ?_
  exact K _
theorem am_op13_n {lk : List Value → List am_k → am_H → Option am_O} {xs : Nat → Int32} {h : am_H} {Q : Option Value → List am_k → am_H → Prop} {a3 : Int32} {a4 : Int32} {a5 : Int32} {f b : Nat} (hf : f ≤ 500) (hb : b ≤ 9999) (hT : am_T h) (hx1 : xs 1 = (nI f)) (hx2 : xs 2 = (nI b)) (hx3 : xs 3 = a3) (hx4 : xs 4 = a4) (hx5 : xs 5 = a5) (K : ∀ h', am_Ek false (am_P1 (some (6, xs)) lk) am_m136 841 [(4, .int 0), (3, .ref 202), (2, .ref 164), (1, .ref 0), (0, .retAddr 0)] [] am_ks0 h' 203 4392 Q) : am_Ek false (am_P1 (some (6, xs)) lk) am_m136 363 [(4, .int 0), (3, .ref 202), (2, .ref 164), (1, .ref 0), (0, .retAddr 0)] [] am_ks0 h 203 4392 Q := by
  refine am_e_aload_n n136_363 rfl ?_
  refine am_e_sload_n n136_364 rfl ?_
  refine am_e_iload n136_365 rfl ?_
  refine am_e_iconst (w := 1) n136_366 rfl ?_
  refine am_e_iadd (w := 1) n136_367 (by decide) ?_
  refine am_e_sald1 n136_368 rfl (by decide) (by decide) hx1 ?_
  refine am_e_sload_n n136_369 rfl ?_
  refine am_e_iload n136_370 rfl ?_
  refine am_e_iconst (w := 2) n136_371 rfl ?_
  refine am_e_iadd (w := 2) n136_372 (by decide) ?_
  refine am_e_sald1 n136_373 rfl (by decide) (by decide) hx2 ?_
  refine am_e_callV (L := [(0, .ref 0), (1, .int (nI f)), (2, .int (nI b))]) n136_374 rfl rfl rfl rfl rfl rfl rfl rfl ?_
  refine am_e_iload_n n47_0 rfl ?_
  refine am_e_iconst (w := 0) n47_1 rfl ?_
  refine am_e_aload_n n47_2 rfl ?_
  refine am_e_getf (v := .ref 2) n47_3 rfl (f0_2 (h := h) hT) ?_
  refine am_e_getf (v := .int 500) n47_4 rfl (f2_0 (h := h) hT) ?_
  refine am_e_callS (L := [(0, .int (nI f)), (1, .int 0), (2, .int 500)]) n47_5 rfl rfl rfl rfl rfl rfl rfl ?_
  refine am_e_iload_n n30_0 rfl ?_
  refine am_e_iload_n n30_1 rfl ?_
  refine am_e_cmpF n30_2 (am_c_ltF (nI_pos (by omega))) ?_
  refine am_e_iload_n n30_3 rfl ?_
  refine am_e_iload_n n30_4 rfl ?_
  refine am_e_cmpF n30_5 (am_c_gtF (nI_nlt (a := 500) (b := f) hf (by decide))) ?_
  refine am_e_iconst (w := 1) n30_6 rfl ?_
  refine am_e_goto c30_7 t30_7 ?_
  refine am_e_iret c30_9 rfl rfl rfl ?_
  refine am_e_ifF n47_6 (am_c_eqF (by decide)) ?_
  refine am_e_iload_n n47_7 rfl ?_
  refine am_e_iconst (w := 0) n47_8 rfl ?_
  refine am_e_sipush (w := 9999) n47_9 (by decide) ?_
  refine am_e_callS (L := [(0, .int (nI b)), (1, .int 0), (2, .int 9999)]) n47_10 rfl rfl rfl rfl rfl rfl rfl ?_
  refine am_e_iload_n n30_0 rfl ?_
  refine am_e_iload_n n30_1 rfl ?_
  refine am_e_cmpF n30_2 (am_c_ltF (nI_pos (by omega))) ?_
  refine am_e_iload_n n30_3 rfl ?_
  refine am_e_iload_n n30_4 rfl ?_
  refine am_e_cmpF n30_5 (am_c_gtF (nI_nlt (a := 9999) (b := b) hb (by decide))) ?_
  refine am_e_iconst (w := 1) n30_6 rfl ?_
  refine am_e_goto c30_7 t30_7 ?_
  refine am_e_iret c30_9 rfl rfl rfl ?_
  refine am_e_ifT n47_11 (am_c_neT (by decide)) t47_11 ?_
  refine am_e_aload_n n47_14 rfl ?_
  refine am_e_iload_n n47_15 rfl ?_
  refine am_e_iload_n n47_16 rfl ?_
  refine am_e_sipush (w := 3600) n47_17 (by decide) ?_
  refine am_e_callV (L := [(0, .ref 0), (1, .int (nI f)), (2, .int (nI b)), (3, .int 3600)]) n47_18 rfl rfl rfl rfl rfl rfl rfl rfl ?_
  refine am_sa (m := 3600) (b := b) (f := f) (by omega) (by omega) (by omega) ⟨(f0_11 (h := h) hT), (f0_2 (h := h) hT), (f0_5 (h := h) hT), (f148_1 (h := h) hT), (f48_0 (h := h) hT), (f48_1 (h := h) hT), (f48_2 (h := h) hT), (f48_3 (h := h) hT), (f48_4 (h := h) hT), (f149_5 (h := h) hT), (f48_5 (h := h) hT), (f49_0 (h := h) hT), (f149_6 (h := h) hT), (f48_6 (h := h) hT), (f50_0 (h := h) hT), (f149_7 (h := h) hT), (f48_7 (h := h) hT), (f51_0 (h := h) hT), (f49_1 (h := h) hT), (f50_1 (h := h) hT), (f51_1 (h := h) hT), (f49_2 (h := h) hT), (f50_2 (h := h) hT), (f51_2 (h := h) hT), (f49_3 (h := h) hT), (f50_3 (h := h) hT), (f51_3 (h := h) hT), (f2_18 (h := h) hT), (f2_19 (h := h) hT), (f11_7 (h := h) hT), (f2_0 (h := h) hT), (f11_6 (h := h) hT), (f16_0 (h := h) hT), (f11_4 (h := h) hT), (f14_0 (h := h) hT), (f11_5 (h := h) hT), (f15_0 (h := h) hT), trivial⟩ ?_
  intro h22 F22
  refine am_e_iret c47_19 rfl rfl rfl ?_
  refine am_e_aload_n n136_375 rfl ?_
  refine am_e_sload_n n136_376 rfl ?_
  refine am_e_iload n136_377 rfl ?_
  refine am_e_iconst (w := 1) n136_378 rfl ?_
  refine am_e_iadd (w := 1) n136_379 (by decide) ?_
  refine am_e_sald1 n136_380 rfl (by decide) (by decide) hx1 ?_
  refine am_e_sload_n n136_381 rfl ?_
  refine am_e_iload n136_382 rfl ?_
  refine am_e_iconst (w := 2) n136_383 rfl ?_
  refine am_e_iadd (w := 2) n136_384 (by decide) ?_
  refine am_e_sald1 n136_385 rfl (by decide) (by decide) hx2 ?_
  refine am_e_callV (L := [(0, .ref 164), (1, .int (nI f)), (2, .int (nI b))]) n136_386 rfl rfl rfl rfl rfl rfl rfl rfl ?_
  refine am_e_aload_n n109_0 rfl ?_
  refine am_e_iconst (w := 0) n109_1 rfl ?_
  refine am_e_putf n109_2 rfl rfl ?_
  refine am_e_iload_n n109_3 rfl ?_
  refine am_e_iconst (w := 0) n109_4 rfl ?_
  refine am_e_aload_n n109_5 rfl ?_
  refine am_e_getf (v := .ref 168) n109_6 rfl ((F22 164 23 rfl).trans (f164_23 (h := h) hT)) ?_
  refine am_e_iconst (w := 0) n109_7 rfl ?_
  refine am_e_iaload (v := 500) (q := 0) n109_8 rfl (by decide) (by decide) ((F22 168 0 rfl).trans (f168_0 (h := h) hT)) ?_
  refine am_e_callS (L := [(0, .int (nI f)), (1, .int 0), (2, .int 500)]) n109_9 rfl rfl rfl rfl rfl rfl rfl ?_
  refine am_e_iload_n n87_0 rfl ?_
  refine am_e_iload_n n87_1 rfl ?_
  refine am_e_cmpF n87_2 (am_c_ltF (nI_pos (by omega))) ?_
  refine am_e_iload_n n87_3 rfl ?_
  refine am_e_iload_n n87_4 rfl ?_
  refine am_e_cmpF n87_5 (am_c_gtF (nI_nlt (a := 500) (b := f) hf (by decide))) ?_
  refine am_e_iconst (w := 1) n87_6 rfl ?_
  refine am_e_goto c87_7 t87_7 ?_
  refine am_e_iret c87_9 rfl rfl rfl ?_
  refine am_e_ifF n109_10 (am_c_eqF (by decide)) ?_
  refine am_e_iload_n n109_11 rfl ?_
  refine am_e_iconst (w := 0) n109_12 rfl ?_
  refine am_e_sipush (w := 9999) n109_13 (by decide) ?_
  refine am_e_callS (L := [(0, .int (nI b)), (1, .int 0), (2, .int 9999)]) n109_14 rfl rfl rfl rfl rfl rfl rfl ?_
  refine am_e_iload_n n87_0 rfl ?_
  refine am_e_iload_n n87_1 rfl ?_
  refine am_e_cmpF n87_2 (am_c_ltF (nI_pos (by omega))) ?_
  refine am_e_iload_n n87_3 rfl ?_
  refine am_e_iload_n n87_4 rfl ?_
  refine am_e_cmpF n87_5 (am_c_gtF (nI_nlt (a := 9999) (b := b) hb (by decide))) ?_
  refine am_e_iconst (w := 1) n87_6 rfl ?_
  refine am_e_goto c87_7 t87_7 ?_
  refine am_e_iret c87_9 rfl rfl rfl ?_
  refine am_e_ifF n109_15 (am_c_eqF (by decide)) ?_
  refine am_e_aload_n n109_16 rfl ?_
  refine am_e_iload_n n109_17 rfl ?_
  refine am_e_iload_n n109_18 rfl ?_
  refine am_e_sipush (w := 3600) n109_19 (by decide) ?_
  refine am_e_callV (L := [(0, .ref 164), (1, .int (nI f)), (2, .int (nI b)), (3, .int 3600)]) n109_20 rfl rfl rfl rfl rfl rfl rfl rfl ?_
  refine am_lb (m := 3600) (b := b) (f := f) (by omega) (by omega) (by omega) ⟨((F22 164 50 rfl).trans (f164_50 (h := h) hT)), ((F22 188 0 rfl).trans (f188_0 (h := h) hT)), ((F22 164 51 rfl).trans (f164_51 (h := h) hT)), ((F22 189 0 rfl).trans (f189_0 (h := h) hT)), ((F22 164 52 rfl).trans (f164_52 (h := h) hT)), ((F22 190 0 rfl).trans (f190_0 (h := h) hT)), ((F22 164 56 rfl).trans (f164_56 (h := h) hT)), ((F22 194 0 rfl).trans (f194_0 (h := h) hT)), ((F22 164 53 rfl).trans (f164_53 (h := h) hT)), ((F22 191 0 rfl).trans (f191_0 (h := h) hT)), ((F22 164 54 rfl).trans (f164_54 (h := h) hT)), ((F22 192 0 rfl).trans (f192_0 (h := h) hT)), ((F22 164 55 rfl).trans (f164_55 (h := h) hT)), ((F22 193 0 rfl).trans (f193_0 (h := h) hT)), ((F22 191 1 rfl).trans (f191_1 (h := h) hT)), ((F22 192 1 rfl).trans (f192_1 (h := h) hT)), ((F22 193 1 rfl).trans (f193_1 (h := h) hT)), ((F22 191 2 rfl).trans (f191_2 (h := h) hT)), ((F22 192 2 rfl).trans (f192_2 (h := h) hT)), ((F22 193 2 rfl).trans (f193_2 (h := h) hT)), ((F22 191 3 rfl).trans (f191_3 (h := h) hT)), ((F22 192 3 rfl).trans (f192_3 (h := h) hT)), ((F22 193 3 rfl).trans (f193_3 (h := h) hT)), ((F22 164 61 rfl).trans (f164_61 (h := h) hT)), ((F22 164 47 rfl).trans (f164_47 (h := h) hT)), ((F22 164 23 rfl).trans (f164_23 (h := h) hT)), ((F22 168 0 rfl).trans (f168_0 (h := h) hT)), ((F22 164 33 rfl).trans (f164_33 (h := h) hT)), ((F22 178 2 rfl).trans (f178_2 (h := h) hT)), ((F22 178 0 rfl).trans (f178_0 (h := h) hT)), ((F22 164 62 rfl).trans (f164_62 (h := h) hT)), ((F22 164 58 rfl).trans (f164_58 (h := h) hT)), ((F22 164 60 rfl).trans (f164_60 (h := h) hT)), trivial⟩ ?_
  intro h23 F23
  refine am_e_goto c109_21 t109_21 ?_
  refine am_e_iret c109_23 rfl rfl rfl ?_
  refine am_e_cmpT n136_387 (am_c_eqT rfl) t136_387 ?_
  exact K _
theorem am_op14_m {lk : List Value → List am_k → am_H → Option am_O} {xs : Nat → Int32} {h : am_H} {Q : Option Value → List am_k → am_H → Prop} {a1 : Int32} {a2 : Int32} {a3 : Int32} {a4 : Int32} {a5 : Int32} (ha : a1 < (0 : Int32)) (hT : am_T h) (hx1 : xs 1 = a1) (hx2 : xs 2 = a2) (hx3 : xs 3 = a3) (hx4 : xs 4 = a4) (hx5 : xs 5 = a5) (K : ∀ h', am_Ek false (am_P1 (some (6, xs)) lk) am_m136 841 [(4, .int 0), (3, .ref 202), (2, .ref 164), (1, .ref 0), (0, .retAddr 0)] [] am_ks0 h' 203 4392 Q) : am_Ek false (am_P1 (some (6, xs)) lk) am_m136 390 [(4, .int 0), (3, .ref 202), (2, .ref 164), (1, .ref 0), (0, .retAddr 0)] [] am_ks0 h 203 4392 Q := by
  refine am_e_aload_n n136_390 rfl ?_
  refine am_e_sload_n n136_391 rfl ?_
  refine am_e_iload n136_392 rfl ?_
  refine am_e_iconst (w := 1) n136_393 rfl ?_
  refine am_e_iadd (w := 1) n136_394 (by decide) ?_
  refine am_e_sald1 n136_395 rfl (by decide) (by decide) hx1 ?_
  refine am_e_sload_n n136_396 rfl ?_
  refine am_e_iload n136_397 rfl ?_
  refine am_e_iconst (w := 2) n136_398 rfl ?_
  refine am_e_iadd (w := 2) n136_399 (by decide) ?_
  refine am_e_sald1 n136_400 rfl (by decide) (by decide) hx2 ?_
  refine am_e_callV (L := [(0, .ref 0), (1, .int a1), (2, .int a2)]) n136_401 rfl rfl rfl rfl rfl rfl rfl rfl ?_
  refine am_e_iload_n n49_0 rfl ?_
  refine am_e_iconst (w := 0) n49_1 rfl ?_
  refine am_e_bipush (w := 60) n49_2 (by decide) ?_
  refine am_e_callS (L := [(0, .int a1), (1, .int 0), (2, .int 60)]) n49_3 rfl rfl rfl rfl rfl rfl rfl ?_
  refine am_e_iload_n n30_0 rfl ?_
  refine am_e_iload_n n30_1 rfl ?_
  refine am_e_cmpT n30_2 (am_c_ltT ha) t30_2 ?_
  refine am_e_iconst (w := 0) n30_8 rfl ?_
  refine am_e_iret c30_9 rfl rfl rfl ?_
  refine am_e_ifT n49_4 (am_c_eqT (by decide)) t49_4 ?_
  refine am_e_iconst (w := (-1)) n49_10 rfl ?_
  refine am_e_iret c49_11 rfl rfl rfl ?_
  refine am_e_aload_n n136_402 rfl ?_
  refine am_e_sload_n n136_403 rfl ?_
  refine am_e_iload n136_404 rfl ?_
  refine am_e_iconst (w := 1) n136_405 rfl ?_
  refine am_e_iadd (w := 1) n136_406 (by decide) ?_
  refine am_e_sald1 n136_407 rfl (by decide) (by decide) hx1 ?_
  refine am_e_sload_n n136_408 rfl ?_
  refine am_e_iload n136_409 rfl ?_
  refine am_e_iconst (w := 2) n136_410 rfl ?_
  refine am_e_iadd (w := 2) n136_411 (by decide) ?_
  refine am_e_sald1 n136_412 rfl (by decide) (by decide) hx2 ?_
  refine am_e_callV (L := [(0, .ref 164), (1, .int a1), (2, .int a2)]) n136_413 rfl rfl rfl rfl rfl rfl rfl rfl ?_
  refine am_e_aload_n n111_0 rfl ?_
  refine am_e_iconst (w := 0) n111_1 rfl ?_
  refine am_e_putf n111_2 rfl rfl ?_
  refine am_e_iload_n n111_3 rfl ?_
  refine am_e_iconst (w := 0) n111_4 rfl ?_
  refine am_e_bipush (w := 60) n111_5 (by decide) ?_
  refine am_e_callS (L := [(0, .int a1), (1, .int 0), (2, .int 60)]) n111_6 rfl rfl rfl rfl rfl rfl rfl ?_
  refine am_e_iload_n n87_0 rfl ?_
  refine am_e_iload_n n87_1 rfl ?_
  refine am_e_cmpT n87_2 (am_c_ltT ha) t87_2 ?_
  refine am_e_iconst (w := 0) n87_8 rfl ?_
  refine am_e_iret c87_9 rfl rfl rfl ?_
  refine am_e_ifT n111_7 (am_c_eqT (by decide)) t111_7 ?_
  refine am_e_iconst (w := (-1)) n111_13 rfl ?_
  refine am_e_iret c111_14 rfl rfl rfl ?_
  refine am_e_cmpT n136_414 (am_c_eqT (by decide)) t136_414 ?_
  exact K _
theorem am_op14_p {lk : List Value → List am_k → am_H → Option am_O} {xs : Nat → Int32} {h : am_H} {Q : Option Value → List am_k → am_H → Prop} {a1 : Int32} {a2 : Int32} {a3 : Int32} {a4 : Int32} {a5 : Int32} (hb : ¬ a1 < (0 : Int32)) (ha : (60 : Int32) < a1) (hT : am_T h) (hx1 : xs 1 = a1) (hx2 : xs 2 = a2) (hx3 : xs 3 = a3) (hx4 : xs 4 = a4) (hx5 : xs 5 = a5) (K : ∀ h', am_Ek false (am_P1 (some (6, xs)) lk) am_m136 841 [(4, .int 0), (3, .ref 202), (2, .ref 164), (1, .ref 0), (0, .retAddr 0)] [] am_ks0 h' 203 4392 Q) : am_Ek false (am_P1 (some (6, xs)) lk) am_m136 390 [(4, .int 0), (3, .ref 202), (2, .ref 164), (1, .ref 0), (0, .retAddr 0)] [] am_ks0 h 203 4392 Q := by
  refine am_e_aload_n n136_390 rfl ?_
  refine am_e_sload_n n136_391 rfl ?_
  refine am_e_iload n136_392 rfl ?_
  refine am_e_iconst (w := 1) n136_393 rfl ?_
  refine am_e_iadd (w := 1) n136_394 (by decide) ?_
  refine am_e_sald1 n136_395 rfl (by decide) (by decide) hx1 ?_
  refine am_e_sload_n n136_396 rfl ?_
  refine am_e_iload n136_397 rfl ?_
  refine am_e_iconst (w := 2) n136_398 rfl ?_
  refine am_e_iadd (w := 2) n136_399 (by decide) ?_
  refine am_e_sald1 n136_400 rfl (by decide) (by decide) hx2 ?_
  refine am_e_callV (L := [(0, .ref 0), (1, .int a1), (2, .int a2)]) n136_401 rfl rfl rfl rfl rfl rfl rfl rfl ?_
  refine am_e_iload_n n49_0 rfl ?_
  refine am_e_iconst (w := 0) n49_1 rfl ?_
  refine am_e_bipush (w := 60) n49_2 (by decide) ?_
  refine am_e_callS (L := [(0, .int a1), (1, .int 0), (2, .int 60)]) n49_3 rfl rfl rfl rfl rfl rfl rfl ?_
  refine am_e_iload_n n30_0 rfl ?_
  refine am_e_iload_n n30_1 rfl ?_
  refine am_e_cmpF n30_2 (am_c_ltF hb) ?_
  refine am_e_iload_n n30_3 rfl ?_
  refine am_e_iload_n n30_4 rfl ?_
  refine am_e_cmpT n30_5 (am_c_gtT ha) t30_5 ?_
  refine am_e_iconst (w := 0) n30_8 rfl ?_
  refine am_e_iret c30_9 rfl rfl rfl ?_
  refine am_e_ifT n49_4 (am_c_eqT (by decide)) t49_4 ?_
  refine am_e_iconst (w := (-1)) n49_10 rfl ?_
  refine am_e_iret c49_11 rfl rfl rfl ?_
  refine am_e_aload_n n136_402 rfl ?_
  refine am_e_sload_n n136_403 rfl ?_
  refine am_e_iload n136_404 rfl ?_
  refine am_e_iconst (w := 1) n136_405 rfl ?_
  refine am_e_iadd (w := 1) n136_406 (by decide) ?_
  refine am_e_sald1 n136_407 rfl (by decide) (by decide) hx1 ?_
  refine am_e_sload_n n136_408 rfl ?_
  refine am_e_iload n136_409 rfl ?_
  refine am_e_iconst (w := 2) n136_410 rfl ?_
  refine am_e_iadd (w := 2) n136_411 (by decide) ?_
  refine am_e_sald1 n136_412 rfl (by decide) (by decide) hx2 ?_
  refine am_e_callV (L := [(0, .ref 164), (1, .int a1), (2, .int a2)]) n136_413 rfl rfl rfl rfl rfl rfl rfl rfl ?_
  refine am_e_aload_n n111_0 rfl ?_
  refine am_e_iconst (w := 0) n111_1 rfl ?_
  refine am_e_putf n111_2 rfl rfl ?_
  refine am_e_iload_n n111_3 rfl ?_
  refine am_e_iconst (w := 0) n111_4 rfl ?_
  refine am_e_bipush (w := 60) n111_5 (by decide) ?_
  refine am_e_callS (L := [(0, .int a1), (1, .int 0), (2, .int 60)]) n111_6 rfl rfl rfl rfl rfl rfl rfl ?_
  refine am_e_iload_n n87_0 rfl ?_
  refine am_e_iload_n n87_1 rfl ?_
  refine am_e_cmpF n87_2 (am_c_ltF hb) ?_
  refine am_e_iload_n n87_3 rfl ?_
  refine am_e_iload_n n87_4 rfl ?_
  refine am_e_cmpT n87_5 (am_c_gtT ha) t87_5 ?_
  refine am_e_iconst (w := 0) n87_8 rfl ?_
  refine am_e_iret c87_9 rfl rfl rfl ?_
  refine am_e_ifT n111_7 (am_c_eqT (by decide)) t111_7 ?_
  refine am_e_iconst (w := (-1)) n111_13 rfl ?_
  refine am_e_iret c111_14 rfl rfl rfl ?_
  refine am_e_cmpT n136_414 (am_c_eqT (by decide)) t136_414 ?_
  exact K _
theorem am_op14_bm {lk : List Value → List am_k → am_H → Option am_O} {xs : Nat → Int32} {h : am_H} {Q : Option Value → List am_k → am_H → Prop} {a2 : Int32} {a3 : Int32} {a4 : Int32} {a5 : Int32} {m : Nat} (hm : m ≤ 60) (ha : a2 < (0 : Int32)) (hT : am_T h) (hx1 : xs 1 = (nI m)) (hx2 : xs 2 = a2) (hx3 : xs 3 = a3) (hx4 : xs 4 = a4) (hx5 : xs 5 = a5) (K : ∀ h', am_Ek false (am_P1 (some (6, xs)) lk) am_m136 841 [(4, .int 0), (3, .ref 202), (2, .ref 164), (1, .ref 0), (0, .retAddr 0)] [] am_ks0 h' 203 4392 Q) : am_Ek false (am_P1 (some (6, xs)) lk) am_m136 390 [(4, .int 0), (3, .ref 202), (2, .ref 164), (1, .ref 0), (0, .retAddr 0)] [] am_ks0 h 203 4392 Q := by
  refine am_e_aload_n n136_390 rfl ?_
  refine am_e_sload_n n136_391 rfl ?_
  refine am_e_iload n136_392 rfl ?_
  refine am_e_iconst (w := 1) n136_393 rfl ?_
  refine am_e_iadd (w := 1) n136_394 (by decide) ?_
  refine am_e_sald1 n136_395 rfl (by decide) (by decide) hx1 ?_
  refine am_e_sload_n n136_396 rfl ?_
  refine am_e_iload n136_397 rfl ?_
  refine am_e_iconst (w := 2) n136_398 rfl ?_
  refine am_e_iadd (w := 2) n136_399 (by decide) ?_
  refine am_e_sald1 n136_400 rfl (by decide) (by decide) hx2 ?_
  refine am_e_callV (L := [(0, .ref 0), (1, .int (nI m)), (2, .int a2)]) n136_401 rfl rfl rfl rfl rfl rfl rfl rfl ?_
  refine am_e_iload_n n49_0 rfl ?_
  refine am_e_iconst (w := 0) n49_1 rfl ?_
  refine am_e_bipush (w := 60) n49_2 (by decide) ?_
  refine am_e_callS (L := [(0, .int (nI m)), (1, .int 0), (2, .int 60)]) n49_3 rfl rfl rfl rfl rfl rfl rfl ?_
  refine am_e_iload_n n30_0 rfl ?_
  refine am_e_iload_n n30_1 rfl ?_
  refine am_e_cmpF n30_2 (am_c_ltF (nI_pos (by omega))) ?_
  refine am_e_iload_n n30_3 rfl ?_
  refine am_e_iload_n n30_4 rfl ?_
  refine am_e_cmpF n30_5 (am_c_gtF (nI_nlt (a := 60) (b := m) hm (by decide))) ?_
  refine am_e_iconst (w := 1) n30_6 rfl ?_
  refine am_e_goto c30_7 t30_7 ?_
  refine am_e_iret c30_9 rfl rfl rfl ?_
  refine am_e_ifF n49_4 (am_c_eqF (by decide)) ?_
  refine am_e_iload_n n49_5 rfl ?_
  refine am_e_iconst (w := 0) n49_6 rfl ?_
  refine am_e_sipush (w := 9999) n49_7 (by decide) ?_
  refine am_e_callS (L := [(0, .int a2), (1, .int 0), (2, .int 9999)]) n49_8 rfl rfl rfl rfl rfl rfl rfl ?_
  refine am_e_iload_n n30_0 rfl ?_
  refine am_e_iload_n n30_1 rfl ?_
  refine am_e_cmpT n30_2 (am_c_ltT ha) t30_2 ?_
  refine am_e_iconst (w := 0) n30_8 rfl ?_
  refine am_e_iret c30_9 rfl rfl rfl ?_
  refine am_e_ifF n49_9 (am_c_neF (by decide)) ?_
  refine am_e_iconst (w := (-1)) n49_10 rfl ?_
  refine am_e_iret c49_11 rfl rfl rfl ?_
  refine am_e_aload_n n136_402 rfl ?_
  refine am_e_sload_n n136_403 rfl ?_
  refine am_e_iload n136_404 rfl ?_
  refine am_e_iconst (w := 1) n136_405 rfl ?_
  refine am_e_iadd (w := 1) n136_406 (by decide) ?_
  refine am_e_sald1 n136_407 rfl (by decide) (by decide) hx1 ?_
  refine am_e_sload_n n136_408 rfl ?_
  refine am_e_iload n136_409 rfl ?_
  refine am_e_iconst (w := 2) n136_410 rfl ?_
  refine am_e_iadd (w := 2) n136_411 (by decide) ?_
  refine am_e_sald1 n136_412 rfl (by decide) (by decide) hx2 ?_
  refine am_e_callV (L := [(0, .ref 164), (1, .int (nI m)), (2, .int a2)]) n136_413 rfl rfl rfl rfl rfl rfl rfl rfl ?_
  refine am_e_aload_n n111_0 rfl ?_
  refine am_e_iconst (w := 0) n111_1 rfl ?_
  refine am_e_putf n111_2 rfl rfl ?_
  refine am_e_iload_n n111_3 rfl ?_
  refine am_e_iconst (w := 0) n111_4 rfl ?_
  refine am_e_bipush (w := 60) n111_5 (by decide) ?_
  refine am_e_callS (L := [(0, .int (nI m)), (1, .int 0), (2, .int 60)]) n111_6 rfl rfl rfl rfl rfl rfl rfl ?_
  refine am_e_iload_n n87_0 rfl ?_
  refine am_e_iload_n n87_1 rfl ?_
  refine am_e_cmpF n87_2 (am_c_ltF (nI_pos (by omega))) ?_
  refine am_e_iload_n n87_3 rfl ?_
  refine am_e_iload_n n87_4 rfl ?_
  refine am_e_cmpF n87_5 (am_c_gtF (nI_nlt (a := 60) (b := m) hm (by decide))) ?_
  refine am_e_iconst (w := 1) n87_6 rfl ?_
  refine am_e_goto c87_7 t87_7 ?_
  refine am_e_iret c87_9 rfl rfl rfl ?_
  refine am_e_ifF n111_7 (am_c_eqF (by decide)) ?_
  refine am_e_iload_n n111_8 rfl ?_
  refine am_e_iconst (w := 0) n111_9 rfl ?_
  refine am_e_sipush (w := 9999) n111_10 (by decide) ?_
  refine am_e_callS (L := [(0, .int a2), (1, .int 0), (2, .int 9999)]) n111_11 rfl rfl rfl rfl rfl rfl rfl ?_
  refine am_e_iload_n n87_0 rfl ?_
  refine am_e_iload_n n87_1 rfl ?_
  refine am_e_cmpT n87_2 (am_c_ltT ha) t87_2 ?_
  refine am_e_iconst (w := 0) n87_8 rfl ?_
  refine am_e_iret c87_9 rfl rfl rfl ?_
  refine am_e_ifF n111_12 (am_c_neF (by decide)) ?_
  refine am_e_iconst (w := (-1)) n111_13 rfl ?_
  refine am_e_iret c111_14 rfl rfl rfl ?_
  refine am_e_cmpT n136_414 (am_c_eqT (by decide)) t136_414 ?_
  exact K _
theorem am_op14_bp {lk : List Value → List am_k → am_H → Option am_O} {xs : Nat → Int32} {h : am_H} {Q : Option Value → List am_k → am_H → Prop} {a2 : Int32} {a3 : Int32} {a4 : Int32} {a5 : Int32} {m : Nat} (hm : m ≤ 60) (hb : ¬ a2 < (0 : Int32)) (ha : (9999 : Int32) < a2) (hT : am_T h) (hx1 : xs 1 = (nI m)) (hx2 : xs 2 = a2) (hx3 : xs 3 = a3) (hx4 : xs 4 = a4) (hx5 : xs 5 = a5) (K : ∀ h', am_Ek false (am_P1 (some (6, xs)) lk) am_m136 841 [(4, .int 0), (3, .ref 202), (2, .ref 164), (1, .ref 0), (0, .retAddr 0)] [] am_ks0 h' 203 4392 Q) : am_Ek false (am_P1 (some (6, xs)) lk) am_m136 390 [(4, .int 0), (3, .ref 202), (2, .ref 164), (1, .ref 0), (0, .retAddr 0)] [] am_ks0 h 203 4392 Q := by
  refine am_e_aload_n n136_390 rfl ?_
  refine am_e_sload_n n136_391 rfl ?_
  refine am_e_iload n136_392 rfl ?_
  refine am_e_iconst (w := 1) n136_393 rfl ?_
  refine am_e_iadd (w := 1) n136_394 (by decide) ?_
  refine am_e_sald1 n136_395 rfl (by decide) (by decide) hx1 ?_
  refine am_e_sload_n n136_396 rfl ?_
  refine am_e_iload n136_397 rfl ?_
  refine am_e_iconst (w := 2) n136_398 rfl ?_
  refine am_e_iadd (w := 2) n136_399 (by decide) ?_
  refine am_e_sald1 n136_400 rfl (by decide) (by decide) hx2 ?_
  refine am_e_callV (L := [(0, .ref 0), (1, .int (nI m)), (2, .int a2)]) n136_401 rfl rfl rfl rfl rfl rfl rfl rfl ?_
  refine am_e_iload_n n49_0 rfl ?_
  refine am_e_iconst (w := 0) n49_1 rfl ?_
  refine am_e_bipush (w := 60) n49_2 (by decide) ?_
  refine am_e_callS (L := [(0, .int (nI m)), (1, .int 0), (2, .int 60)]) n49_3 rfl rfl rfl rfl rfl rfl rfl ?_
  refine am_e_iload_n n30_0 rfl ?_
  refine am_e_iload_n n30_1 rfl ?_
  refine am_e_cmpF n30_2 (am_c_ltF (nI_pos (by omega))) ?_
  refine am_e_iload_n n30_3 rfl ?_
  refine am_e_iload_n n30_4 rfl ?_
  refine am_e_cmpF n30_5 (am_c_gtF (nI_nlt (a := 60) (b := m) hm (by decide))) ?_
  refine am_e_iconst (w := 1) n30_6 rfl ?_
  refine am_e_goto c30_7 t30_7 ?_
  refine am_e_iret c30_9 rfl rfl rfl ?_
  refine am_e_ifF n49_4 (am_c_eqF (by decide)) ?_
  refine am_e_iload_n n49_5 rfl ?_
  refine am_e_iconst (w := 0) n49_6 rfl ?_
  refine am_e_sipush (w := 9999) n49_7 (by decide) ?_
  refine am_e_callS (L := [(0, .int a2), (1, .int 0), (2, .int 9999)]) n49_8 rfl rfl rfl rfl rfl rfl rfl ?_
  refine am_e_iload_n n30_0 rfl ?_
  refine am_e_iload_n n30_1 rfl ?_
  refine am_e_cmpF n30_2 (am_c_ltF hb) ?_
  refine am_e_iload_n n30_3 rfl ?_
  refine am_e_iload_n n30_4 rfl ?_
  refine am_e_cmpT n30_5 (am_c_gtT ha) t30_5 ?_
  refine am_e_iconst (w := 0) n30_8 rfl ?_
  refine am_e_iret c30_9 rfl rfl rfl ?_
  refine am_e_ifF n49_9 (am_c_neF (by decide)) ?_
  refine am_e_iconst (w := (-1)) n49_10 rfl ?_
  refine am_e_iret c49_11 rfl rfl rfl ?_
  refine am_e_aload_n n136_402 rfl ?_
  refine am_e_sload_n n136_403 rfl ?_
  refine am_e_iload n136_404 rfl ?_
  refine am_e_iconst (w := 1) n136_405 rfl ?_
  refine am_e_iadd (w := 1) n136_406 (by decide) ?_
  refine am_e_sald1 n136_407 rfl (by decide) (by decide) hx1 ?_
  refine am_e_sload_n n136_408 rfl ?_
  refine am_e_iload n136_409 rfl ?_
  refine am_e_iconst (w := 2) n136_410 rfl ?_
  refine am_e_iadd (w := 2) n136_411 (by decide) ?_
  refine am_e_sald1 n136_412 rfl (by decide) (by decide) hx2 ?_
  refine am_e_callV (L := [(0, .ref 164), (1, .int (nI m)), (2, .int a2)]) n136_413 rfl rfl rfl rfl rfl rfl rfl rfl ?_
  refine am_e_aload_n n111_0 rfl ?_
  refine am_e_iconst (w := 0) n111_1 rfl ?_
  refine am_e_putf n111_2 rfl rfl ?_
  refine am_e_iload_n n111_3 rfl ?_
  refine am_e_iconst (w := 0) n111_4 rfl ?_
  refine am_e_bipush (w := 60) n111_5 (by decide) ?_
  refine am_e_callS (L := [(0, .int (nI m)), (1, .int 0), (2, .int 60)]) n111_6 rfl rfl rfl rfl rfl rfl rfl ?_
  refine am_e_iload_n n87_0 rfl ?_
  refine am_e_iload_n n87_1 rfl ?_
  refine am_e_cmpF n87_2 (am_c_ltF (nI_pos (by omega))) ?_
  refine am_e_iload_n n87_3 rfl ?_
  refine am_e_iload_n n87_4 rfl ?_
  refine am_e_cmpF n87_5 (am_c_gtF (nI_nlt (a := 60) (b := m) hm (by decide))) ?_
  refine am_e_iconst (w := 1) n87_6 rfl ?_
  refine am_e_goto c87_7 t87_7 ?_
  refine am_e_iret c87_9 rfl rfl rfl ?_
  refine am_e_ifF n111_7 (am_c_eqF (by decide)) ?_
  refine am_e_iload_n n111_8 rfl ?_
  refine am_e_iconst (w := 0) n111_9 rfl ?_
  refine am_e_sipush (w := 9999) n111_10 (by decide) ?_
  refine am_e_callS (L := [(0, .int a2), (1, .int 0), (2, .int 9999)]) n111_11 rfl rfl rfl rfl rfl rfl rfl ?_
  refine am_e_iload_n n87_0 rfl ?_
  refine am_e_iload_n n87_1 rfl ?_
  refine am_e_cmpF n87_2 (am_c_ltF hb) ?_
  refine am_e_iload_n n87_3 rfl ?_
  refine am_e_iload_n n87_4 rfl ?_
  refine am_e_cmpT n87_5 (am_c_gtT ha) t87_5 ?_
  refine am_e_iconst (w := 0) n87_8 rfl ?_
  refine am_e_iret c87_9 rfl rfl rfl ?_
  refine am_e_ifF n111_12 (am_c_neF (by decide)) ?_
  refine am_e_iconst (w := (-1)) n111_13 rfl ?_
  refine am_e_iret c111_14 rfl rfl rfl ?_
  refine am_e_cmpT n136_414 (am_c_eqT (by decide)) t136_414 ?_
  exact K _
theorem am_op14_n {lk : List Value → List am_k → am_H → Option am_O} {xs : Nat → Int32} {h : am_H} {Q : Option Value → List am_k → am_H → Prop} {a3 : Int32} {a4 : Int32} {a5 : Int32} {m b : Nat} (hm : m ≤ 60) (hb : b ≤ 9999) (hT : am_T h) (hx1 : xs 1 = (nI m)) (hx2 : xs 2 = (nI b)) (hx3 : xs 3 = a3) (hx4 : xs 4 = a4) (hx5 : xs 5 = a5) (K : ∀ h', am_Ek false (am_P1 (some (6, xs)) lk) am_m136 841 [(4, .int 0), (3, .ref 202), (2, .ref 164), (1, .ref 0), (0, .retAddr 0)] [] am_ks0 h' 203 4392 Q) : am_Ek false (am_P1 (some (6, xs)) lk) am_m136 390 [(4, .int 0), (3, .ref 202), (2, .ref 164), (1, .ref 0), (0, .retAddr 0)] [] am_ks0 h 203 4392 Q := by
  refine am_e_aload_n n136_390 rfl ?_
  refine am_e_sload_n n136_391 rfl ?_
  refine am_e_iload n136_392 rfl ?_
  refine am_e_iconst (w := 1) n136_393 rfl ?_
  refine am_e_iadd (w := 1) n136_394 (by decide) ?_
  refine am_e_sald1 n136_395 rfl (by decide) (by decide) hx1 ?_
  refine am_e_sload_n n136_396 rfl ?_
  refine am_e_iload n136_397 rfl ?_
  refine am_e_iconst (w := 2) n136_398 rfl ?_
  refine am_e_iadd (w := 2) n136_399 (by decide) ?_
  refine am_e_sald1 n136_400 rfl (by decide) (by decide) hx2 ?_
  refine am_e_callV (L := [(0, .ref 0), (1, .int (nI m)), (2, .int (nI b))]) n136_401 rfl rfl rfl rfl rfl rfl rfl rfl ?_
  refine am_e_iload_n n49_0 rfl ?_
  refine am_e_iconst (w := 0) n49_1 rfl ?_
  refine am_e_bipush (w := 60) n49_2 (by decide) ?_
  refine am_e_callS (L := [(0, .int (nI m)), (1, .int 0), (2, .int 60)]) n49_3 rfl rfl rfl rfl rfl rfl rfl ?_
  refine am_e_iload_n n30_0 rfl ?_
  refine am_e_iload_n n30_1 rfl ?_
  refine am_e_cmpF n30_2 (am_c_ltF (nI_pos (by omega))) ?_
  refine am_e_iload_n n30_3 rfl ?_
  refine am_e_iload_n n30_4 rfl ?_
  refine am_e_cmpF n30_5 (am_c_gtF (nI_nlt (a := 60) (b := m) hm (by decide))) ?_
  refine am_e_iconst (w := 1) n30_6 rfl ?_
  refine am_e_goto c30_7 t30_7 ?_
  refine am_e_iret c30_9 rfl rfl rfl ?_
  refine am_e_ifF n49_4 (am_c_eqF (by decide)) ?_
  refine am_e_iload_n n49_5 rfl ?_
  refine am_e_iconst (w := 0) n49_6 rfl ?_
  refine am_e_sipush (w := 9999) n49_7 (by decide) ?_
  refine am_e_callS (L := [(0, .int (nI b)), (1, .int 0), (2, .int 9999)]) n49_8 rfl rfl rfl rfl rfl rfl rfl ?_
  refine am_e_iload_n n30_0 rfl ?_
  refine am_e_iload_n n30_1 rfl ?_
  refine am_e_cmpF n30_2 (am_c_ltF (nI_pos (by omega))) ?_
  refine am_e_iload_n n30_3 rfl ?_
  refine am_e_iload_n n30_4 rfl ?_
  refine am_e_cmpF n30_5 (am_c_gtF (nI_nlt (a := 9999) (b := b) hb (by decide))) ?_
  refine am_e_iconst (w := 1) n30_6 rfl ?_
  refine am_e_goto c30_7 t30_7 ?_
  refine am_e_iret c30_9 rfl rfl rfl ?_
  refine am_e_ifT n49_9 (am_c_neT (by decide)) t49_9 ?_
  refine am_e_iconst (w := 0) n49_12 rfl ?_
  refine am_e_istore_n (ls' := [(3, .int 0), (0, .ref 0), (1, .int (nI m)), (2, .int (nI b))]) n49_13 rfl rfl ?_
  refine am_Ek_ls (ls' := [(0, .ref 0), (1, .int (nI m)), (2, .int (nI b)), (3, .int (nI 0))]) ⟨rfl, rfl, rfl, rfl, trivial⟩ ?_
  refine am_fc_e hm hb ⟨(f0_2 (h := h) hT), (f2_0 (h := h) hT), (f0_11 (h := h) hT), (f0_5 (h := h) hT), (f148_1 (h := h) hT), (f48_0 (h := h) hT), (f48_1 (h := h) hT), (f48_2 (h := h) hT), (f48_3 (h := h) hT), (f48_4 (h := h) hT), (f149_5 (h := h) hT), (f48_5 (h := h) hT), (f49_0 (h := h) hT), (f149_6 (h := h) hT), (f48_6 (h := h) hT), (f50_0 (h := h) hT), (f149_7 (h := h) hT), (f48_7 (h := h) hT), (f51_0 (h := h) hT), (f49_1 (h := h) hT), (f50_1 (h := h) hT), (f51_1 (h := h) hT), (f49_2 (h := h) hT), (f50_2 (h := h) hT), (f51_2 (h := h) hT), (f49_3 (h := h) hT), (f50_3 (h := h) hT), (f51_3 (h := h) hT), (f2_18 (h := h) hT), (f2_19 (h := h) hT), (f11_7 (h := h) hT), (f11_6 (h := h) hT), (f16_0 (h := h) hT), (f11_4 (h := h) hT), (f14_0 (h := h) hT), (f11_5 (h := h) hT), (f15_0 (h := h) hT), trivial⟩ ?_
  intro h24 F24
  refine am_e_aload_n n136_402 rfl ?_
  refine am_e_sload_n n136_403 rfl ?_
  refine am_e_iload n136_404 rfl ?_
  refine am_e_iconst (w := 1) n136_405 rfl ?_
  refine am_e_iadd (w := 1) n136_406 (by decide) ?_
  refine am_e_sald1 n136_407 rfl (by decide) (by decide) hx1 ?_
  refine am_e_sload_n n136_408 rfl ?_
  refine am_e_iload n136_409 rfl ?_
  refine am_e_iconst (w := 2) n136_410 rfl ?_
  refine am_e_iadd (w := 2) n136_411 (by decide) ?_
  refine am_e_sald1 n136_412 rfl (by decide) (by decide) hx2 ?_
  refine am_e_callV (L := [(0, .ref 164), (1, .int (nI m)), (2, .int (nI b))]) n136_413 rfl rfl rfl rfl rfl rfl rfl rfl ?_
  refine am_e_aload_n n111_0 rfl ?_
  refine am_e_iconst (w := 0) n111_1 rfl ?_
  refine am_e_putf n111_2 rfl rfl ?_
  refine am_e_iload_n n111_3 rfl ?_
  refine am_e_iconst (w := 0) n111_4 rfl ?_
  refine am_e_bipush (w := 60) n111_5 (by decide) ?_
  refine am_e_callS (L := [(0, .int (nI m)), (1, .int 0), (2, .int 60)]) n111_6 rfl rfl rfl rfl rfl rfl rfl ?_
  refine am_e_iload_n n87_0 rfl ?_
  refine am_e_iload_n n87_1 rfl ?_
  refine am_e_cmpF n87_2 (am_c_ltF (nI_pos (by omega))) ?_
  refine am_e_iload_n n87_3 rfl ?_
  refine am_e_iload_n n87_4 rfl ?_
  refine am_e_cmpF n87_5 (am_c_gtF (nI_nlt (a := 60) (b := m) hm (by decide))) ?_
  refine am_e_iconst (w := 1) n87_6 rfl ?_
  refine am_e_goto c87_7 t87_7 ?_
  refine am_e_iret c87_9 rfl rfl rfl ?_
  refine am_e_ifF n111_7 (am_c_eqF (by decide)) ?_
  refine am_e_iload_n n111_8 rfl ?_
  refine am_e_iconst (w := 0) n111_9 rfl ?_
  refine am_e_sipush (w := 9999) n111_10 (by decide) ?_
  refine am_e_callS (L := [(0, .int (nI b)), (1, .int 0), (2, .int 9999)]) n111_11 rfl rfl rfl rfl rfl rfl rfl ?_
  refine am_e_iload_n n87_0 rfl ?_
  refine am_e_iload_n n87_1 rfl ?_
  refine am_e_cmpF n87_2 (am_c_ltF (nI_pos (by omega))) ?_
  refine am_e_iload_n n87_3 rfl ?_
  refine am_e_iload_n n87_4 rfl ?_
  refine am_e_cmpF n87_5 (am_c_gtF (nI_nlt (a := 9999) (b := b) hb (by decide))) ?_
  refine am_e_iconst (w := 1) n87_6 rfl ?_
  refine am_e_goto c87_7 t87_7 ?_
  refine am_e_iret c87_9 rfl rfl rfl ?_
  refine am_e_ifT n111_12 (am_c_neT (by decide)) t111_12 ?_
  refine am_e_iconst (w := 0) n111_15 rfl ?_
  refine am_e_istore_n (ls' := [(3, .int 0), (0, .ref 164), (1, .int (nI m)), (2, .int (nI b))]) n111_16 rfl rfl ?_
  refine am_Ek_ls (ls' := [(0, .ref 164), (1, .int (nI m)), (2, .int (nI b)), (3, .int (nI 0))]) ⟨rfl, rfl, rfl, rfl, trivial⟩ ?_
  refine am_fm_e hm hb ⟨((F24 164 23 rfl).trans (f164_23 (h := h) hT)), ((F24 168 0 rfl).trans (f168_0 (h := h) hT)), ((F24 164 50 rfl).trans (f164_50 (h := h) hT)), ((F24 188 0 rfl).trans (f188_0 (h := h) hT)), ((F24 164 51 rfl).trans (f164_51 (h := h) hT)), ((F24 189 0 rfl).trans (f189_0 (h := h) hT)), ((F24 164 52 rfl).trans (f164_52 (h := h) hT)), ((F24 190 0 rfl).trans (f190_0 (h := h) hT)), ((F24 164 56 rfl).trans (f164_56 (h := h) hT)), ((F24 194 0 rfl).trans (f194_0 (h := h) hT)), ((F24 164 53 rfl).trans (f164_53 (h := h) hT)), ((F24 191 0 rfl).trans (f191_0 (h := h) hT)), ((F24 164 54 rfl).trans (f164_54 (h := h) hT)), ((F24 192 0 rfl).trans (f192_0 (h := h) hT)), ((F24 164 55 rfl).trans (f164_55 (h := h) hT)), ((F24 193 0 rfl).trans (f193_0 (h := h) hT)), ((F24 191 1 rfl).trans (f191_1 (h := h) hT)), ((F24 192 1 rfl).trans (f192_1 (h := h) hT)), ((F24 193 1 rfl).trans (f193_1 (h := h) hT)), ((F24 191 2 rfl).trans (f191_2 (h := h) hT)), ((F24 192 2 rfl).trans (f192_2 (h := h) hT)), ((F24 193 2 rfl).trans (f193_2 (h := h) hT)), ((F24 191 3 rfl).trans (f191_3 (h := h) hT)), ((F24 192 3 rfl).trans (f192_3 (h := h) hT)), ((F24 193 3 rfl).trans (f193_3 (h := h) hT)), ((F24 164 61 rfl).trans (f164_61 (h := h) hT)), ((F24 164 47 rfl).trans (f164_47 (h := h) hT)), ((F24 164 33 rfl).trans (f164_33 (h := h) hT)), ((F24 178 2 rfl).trans (f178_2 (h := h) hT)), ((F24 178 0 rfl).trans (f178_0 (h := h) hT)), ((F24 164 62 rfl).trans (f164_62 (h := h) hT)), ((F24 164 58 rfl).trans (f164_58 (h := h) hT)), ((F24 164 60 rfl).trans (f164_60 (h := h) hT)), trivial⟩ ?_
  intro h25 F25
  refine am_e_cmpT n136_414 (am_c_eqT rfl) t136_414 ?_
  exact K _
