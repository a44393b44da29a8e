/-! ===== THE LAW BEHIND THE CONSTRUCTORS (written by wip/p1/mklaw.py) ===== -/
theorem am_tail0 {lk : List Value → List am_k → am_H → Option am_O} {xs : Nat → Int32} {Q : Option Value → List am_k → am_H → Prop} (hQ : ∀ h, Q (some (.int 1)) am_ks0 h) (h : am_H) : am_Ek false (am_P1 (some (6, xs)) lk) am_m136 841 [(4, .int 0), (3, .ref 202), (2, .ref 164), (1, .ref 0), (0, .retAddr 0)] [] am_ks0 h 203 4392 Q := by
  refine am_e_iinc (w := 6) (ls' := [(4, .int 6), (3, .ref 202), (2, .ref 164), (1, .ref 0), (0, .retAddr 0)]) n136_841 rfl rfl (by decide) rfl ?_
  refine am_e_goto c136_842 t136_842 ?_
  refine am_e_iload n136_13 rfl ?_
  refine am_e_sload_n n136_14 rfl ?_
  refine am_e_slen (w := 6) n136_15 rfl rfl ?_
  refine am_e_bipush (w := 6) n136_16 (by decide) ?_
  refine am_e_isub (w := 0) n136_17 (by decide) ?_
  refine am_e_cmpT n136_18 (am_c_gtT (by decide)) t136_18 ?_
  refine am_e_iconst (w := 1) n136_843 rfl ?_
  refine am_e_iret c136_844 rfl rfl rfl ?_
  exact hQ _
theorem am_tail4 {lk : List Value → List am_k → am_H → Option am_O} {xs : Nat → Int32} {Q : Option Value → List am_k → am_H → Prop} (hQ : ∀ h, Q (some (.int 1)) am_ks0 h) (h : am_H) : am_Ek false (am_P1 (some (6, xs)) lk) am_m136 841 [(4, .int 0), (3, .ref 202), (2, .ref 164), (1, .ref 0), (0, .retAddr 0)] [] am_ks0 h 207 4432 Q := by
  refine am_e_iinc (w := 6) (ls' := [(4, .int 6), (3, .ref 202), (2, .ref 164), (1, .ref 0), (0, .retAddr 0)]) n136_841 rfl rfl (by decide) rfl ?_
  refine am_e_goto c136_842 t136_842 ?_
  refine am_e_iload n136_13 rfl ?_
  refine am_e_sload_n n136_14 rfl ?_
  refine am_e_slen (w := 6) n136_15 rfl rfl ?_
  refine am_e_bipush (w := 6) n136_16 (by decide) ?_
  refine am_e_isub (w := 0) n136_17 (by decide) ?_
  refine am_e_cmpT n136_18 (am_c_gtT (by decide)) t136_18 ?_
  refine am_e_iconst (w := 1) n136_843 rfl ?_
  refine am_e_iret c136_844 rfl rfl rfl ?_
  exact hQ _
theorem am_short : ∀ L, L < 6 → Int32.ofNat L - 6 < 0 := by decide
theorem am_law_s {lk : List Value → List am_k → am_H → Option am_O} {L : Nat} {xs : Nat → Int32} {Q : Option Value → List am_k → am_H → Prop} (hL : L < 6) (hQ : ∀ h, Q (some (.int 1)) am_ks0 h) (h : am_H) : am_Ek false (am_P1 (some (L, xs)) lk) am_m136 13 [(4, .int 0), (3, .ref 202), (2, .ref 164), (1, .ref 0), (0, .retAddr 0)] [] am_ks0 h 203 4392 Q := by
  refine am_e_iload n136_13 rfl ?_
  refine am_e_sload_n n136_14 rfl ?_
  refine am_e_slen (w := Int32.ofNat L) n136_15 rfl rfl ?_
  refine am_e_bipush (w := 6) n136_16 (by decide) ?_
  refine am_e_isub (w := Int32.ofNat L - 6) n136_17 rfl ?_
  refine am_e_cmpT n136_18 (am_c_gtT (am_short L hL)) t136_18 ?_
  refine am_e_iconst (w := 1) n136_843 rfl ?_
  exact am_e_iret c136_844 rfl rfl rfl (hQ _)
theorem am_head {lk : List Value → List am_k → am_H → Option am_O} {xs : Nat → Int32} {a0 : Int32} {Q : Option Value → List am_k → am_H → Prop} {h : am_H} (hx0 : xs 0 = a0) (K : am_Ek false (am_P1 (some (6, xs)) lk) am_m136 24 [(4, .int 0), (3, .ref 202), (2, .ref 164), (1, .ref 0), (0, .retAddr 0)] [.int (a0 &&& 63)] am_ks0 h 203 4392 Q) : am_Ek false (am_P1 (some (6, xs)) lk) am_m136 13 [(4, .int 0), (3, .ref 202), (2, .ref 164), (1, .ref 0), (0, .retAddr 0)] [] am_ks0 h 203 4392 Q := by
  refine am_e_iload n136_13 rfl ?_
  refine am_e_sload_n n136_14 rfl ?_
  refine am_e_slen (w := 6) n136_15 rfl rfl ?_
  refine am_e_bipush (w := 6) n136_16 (by decide) ?_
  refine am_e_isub (w := 0) n136_17 (by decide) ?_
  refine am_e_cmpF n136_18 (am_c_gtF (by decide)) ?_
  refine am_e_sload_n n136_19 rfl ?_
  refine am_e_iload n136_20 rfl ?_
  refine am_e_sald1 n136_21 rfl (by decide) (by decide) hx0 ?_
  refine am_e_bipush (w := 63) n136_22 (by decide) ?_
  refine am_e_iand (w := (a0 &&& 63)) n136_23 rfl ?_
  exact K
theorem am_natU {x : Int32} {m : Nat} (hm : m < 2 ^ 31) (h0 : ¬ x < 0) (h9 : ¬ nI m < x) : ∃ n : Nat, n ≤ m ∧ x = nI n := by
  obtain ⟨j, hj, rfl⟩ := nI_of h0
  exact ⟨j, Nat.not_lt.mp (fun q => h9 (nI_lt q hj)), rfl⟩
theorem am_n0 {x : Int32} (h : ¬ x < 1) : ¬ x < 0 := fun q => h (Int32.lt_trans q (by decide))
theorem am_ge1 {n : Nat} (h : ¬ nI n < 1) : 1 ≤ n := by
  rcases Nat.eq_zero_or_pos n with rfl | h1
  · exact absurd (by decide : nI 0 < 1) h
  · exact h1
theorem am_eq0 {x : Int32} (h0 : ¬ x < 0) (h1 : ¬ (0 : Int32) < x) : x = 0 := by
  obtain ⟨n, hn, rfl⟩ := am_natU (m := 0) (by decide) h0 h1
  have : n = 0 := Nat.le_zero.mp hn
  subst this
  rfl
theorem am_go0 {xs : Nat → Int32} {a1 a2 a3 a4 a5 : Int32} {Q : Option Value → List am_k → am_H → Prop} {h : am_H} (hT : am_T h) (hx1 : xs 1 = a1) (hx2 : xs 2 = a2) (hx3 : xs 3 = a3) (hx4 : xs 4 = a4) (hx5 : xs 5 = a5) (hQ : ∀ h, Q (some (.int 1)) am_ks0 h) : am_Ek false (am_P1 (some (6, xs)) am_lk) am_m136 25 [(4, .int 0), (3, .ref 202), (2, .ref 164), (1, .ref 0), (0, .retAddr 0)] [] am_ks0 h 203 4392 Q := by
  exact am_op0 hT hx1 hx2 hx3 hx4 hx5 (fun h => am_tail0 hQ h)
theorem am_go1 {xs : Nat → Int32} {a1 a2 a3 a4 a5 : Int32} {Q : Option Value → List am_k → am_H → Prop} {h : am_H} (hT : am_T h) (hx1 : xs 1 = a1) (hx2 : xs 2 = a2) (hx3 : xs 3 = a3) (hx4 : xs 4 = a4) (hx5 : xs 5 = a5) (hQ : ∀ h, Q (some (.int 1)) am_ks0 h) : am_Ek false (am_P1 (some (6, xs)) am_lk) am_m136 82 [(4, .int 0), (3, .ref 202), (2, .ref 164), (1, .ref 0), (0, .retAddr 0)] [] am_ks0 h 203 4392 Q := by
  by_cases h0 : a1 < (0 : Int32)
  · exact am_op1_m h0 hT hx1 hx2 hx3 hx4 hx5 (fun h => am_tail0 hQ h)
  · by_cases h1 : (0 : Int32) < a1
    · exact am_op1_p h0 h1 hT hx1 hx2 hx3 hx4 hx5 (fun h => am_tail0 hQ h)
    · have e := am_eq0 h0 h1
      subst e
      exact am_op1_0 hT hx1 hx2 hx3 hx4 hx5 (fun h => am_tail0 hQ h)
theorem am_go2 {xs : Nat → Int32} {a1 a2 a3 a4 a5 : Int32} {Q : Option Value → List am_k → am_H → Prop} {h : am_H} (hT : am_T h) (hx1 : xs 1 = a1) (hx2 : xs 2 = a2) (hx3 : xs 3 = a3) (hx4 : xs 4 = a4) (hx5 : xs 5 = a5) (hQ : ∀ h, Q (some (.int 1)) am_ks0 h) : am_Ek false (am_P1 (some (6, xs)) am_lk) am_m136 99 [(4, .int 0), (3, .ref 202), (2, .ref 164), (1, .ref 0), (0, .retAddr 0)] [] am_ks0 h 203 4392 Q := by
  exact am_op2 hT hx1 hx2 hx3 hx4 hx5 (fun h => am_tail0 hQ h)
theorem am_go3 {xs : Nat → Int32} {a1 a2 a3 a4 a5 : Int32} {Q : Option Value → List am_k → am_H → Prop} {h : am_H} (hT : am_T h) (hx1 : xs 1 = a1) (hx2 : xs 2 = a2) (hx3 : xs 3 = a3) (hx4 : xs 4 = a4) (hx5 : xs 5 = a5) (hQ : ∀ h, Q (some (.int 1)) am_ks0 h) : am_Ek false (am_P1 (some (6, xs)) am_lk) am_m136 116 [(4, .int 0), (3, .ref 202), (2, .ref 164), (1, .ref 0), (0, .retAddr 0)] [] am_ks0 h 203 4392 Q := by
  exact am_op3 hT hx1 hx2 hx3 hx4 hx5 (fun h => am_tail0 hQ h)
theorem am_go4 {xs : Nat → Int32} {a1 a2 a3 a4 a5 : Int32} {Q : Option Value → List am_k → am_H → Prop} {h : am_H} (hT : am_T h) (hx1 : xs 1 = a1) (hx2 : xs 2 = a2) (hx3 : xs 3 = a3) (hx4 : xs 4 = a4) (hx5 : xs 5 = a5) (hQ : ∀ h, Q (some (.int 1)) am_ks0 h) : am_Ek false (am_P1 (some (6, xs)) am_lk) am_m136 143 [(4, .int 0), (3, .ref 202), (2, .ref 164), (1, .ref 0), (0, .retAddr 0)] [] am_ks0 h 203 4392 Q := by
  exact am_op4 hT hx1 hx2 hx3 hx4 hx5 (fun h => am_tail4 hQ h)
theorem am_go5 {xs : Nat → Int32} {a1 a2 a3 a4 a5 : Int32} {Q : Option Value → List am_k → am_H → Prop} {h : am_H} (hT : am_T h) (hx1 : xs 1 = a1) (hx2 : xs 2 = a2) (hx3 : xs 3 = a3) (hx4 : xs 4 = a4) (hx5 : xs 5 = a5) (hQ : ∀ h, Q (some (.int 1)) am_ks0 h) : am_Ek false (am_P1 (some (6, xs)) am_lk) am_m136 188 [(4, .int 0), (3, .ref 202), (2, .ref 164), (1, .ref 0), (0, .retAddr 0)] [] am_ks0 h 203 4392 Q := by
  by_cases h0 : a1 < (0 : Int32)
  · exact am_op5_m h0 hT hx1 hx2 hx3 hx4 hx5 (fun h => am_tail0 hQ h)
  · by_cases h1 : (2 : Int32) < a1
    · exact am_op5_p h1 hT hx1 hx2 hx3 hx4 hx5 (fun h => am_tail0 hQ h)
    · obtain ⟨n, hn, e⟩ := am_natU (m := 2) (by decide) h0 h1
      subst e
      match n, hn, hx1 with
      | 0, _, hx1 => exact am_op5_0 hT hx1 hx2 hx3 hx4 hx5 (fun h => am_tail0 hQ h)
      | 1, _, hx1 => exact am_op5_1 hT hx1 hx2 hx3 hx4 hx5 (fun h => am_tail0 hQ h)
      | 2, _, hx1 => exact am_op5_2 hT hx1 hx2 hx3 hx4 hx5 (fun h => am_tail0 hQ h)
      | n + 3, hn, _ => exact absurd hn (by omega)
theorem am_go6 {xs : Nat → Int32} {a1 a2 a3 a4 a5 : Int32} {Q : Option Value → List am_k → am_H → Prop} {h : am_H} (hT : am_T h) (hx1 : xs 1 = a1) (hx2 : xs 2 = a2) (hx3 : xs 3 = a3) (hx4 : xs 4 = a4) (hx5 : xs 5 = a5) (hQ : ∀ h, Q (some (.int 1)) am_ks0 h) : am_Ek false (am_P1 (some (6, xs)) am_lk) am_m136 216 [(4, .int 0), (3, .ref 202), (2, .ref 164), (1, .ref 0), (0, .retAddr 0)] [] am_ks0 h 203 4392 Q := by
  exact am_op6 hT hx1 hx2 hx3 hx4 hx5 (fun h => am_tail0 hQ h)
theorem am_go7 {xs : Nat → Int32} {a1 a2 a3 a4 a5 : Int32} {Q : Option Value → List am_k → am_H → Prop} {h : am_H} (hT : am_T h) (hx1 : xs 1 = a1) (hx2 : xs 2 = a2) (hx3 : xs 3 = a3) (hx4 : xs 4 = a4) (hx5 : xs 5 = a5) (hQ : ∀ h, Q (some (.int 1)) am_ks0 h) : am_Ek false (am_P1 (some (6, xs)) am_lk) am_m136 243 [(4, .int 0), (3, .ref 202), (2, .ref 164), (1, .ref 0), (0, .retAddr 0)] [] am_ks0 h 203 4392 Q := by
  by_cases h0 : a1 < (1 : Int32)
  · exact am_op7_m h0 hT hx1 hx2 hx3 hx4 hx5 (fun h => am_tail0 hQ h)
  · by_cases h1 : (999 : Int32) < a1
    · exact am_op7_p h0 h1 hT hx1 hx2 hx3 hx4 hx5 (fun h => am_tail0 hQ h)
    · obtain ⟨n, hn, e⟩ := am_natU (m := 999) (by decide) (am_n0 h0) h1
      subst e
      exact am_op7_n (am_ge1 h0) hn hT hx1 hx2 hx3 hx4 hx5 (fun h => am_tail0 hQ h)
theorem am_go8 {xs : Nat → Int32} {a1 a2 a3 a4 a5 : Int32} {Q : Option Value → List am_k → am_H → Prop} {h : am_H} (hT : am_T h) (hx1 : xs 1 = a1) (hx2 : xs 2 = a2) (hx3 : xs 3 = a3) (hx4 : xs 4 = a4) (hx5 : xs 5 = a5) (hQ : ∀ h, Q (some (.int 1)) am_ks0 h) : am_Ek false (am_P1 (some (6, xs)) am_lk) am_m136 278 [(4, .int 0), (3, .ref 202), (2, .ref 164), (1, .ref 0), (0, .retAddr 0)] [] am_ks0 h 203 4392 Q := by
  exact am_op8 hT hx1 hx2 hx3 hx4 hx5 (fun h => am_tail0 hQ h)
theorem am_go9 {xs : Nat → Int32} {a1 a2 a3 a4 a5 : Int32} {Q : Option Value → List am_k → am_H → Prop} {h : am_H} (hT : am_T h) (hx1 : xs 1 = a1) (hx2 : xs 2 = a2) (hx3 : xs 3 = a3) (hx4 : xs 4 = a4) (hx5 : xs 5 = a5) (hQ : ∀ h, Q (some (.int 1)) am_ks0 h) : am_Ek false (am_P1 (some (6, xs)) am_lk) am_m136 295 [(4, .int 0), (3, .ref 202), (2, .ref 164), (1, .ref 0), (0, .retAddr 0)] [] am_ks0 h 203 4392 Q := by
  exact am_op9 hT hx1 hx2 hx3 hx4 hx5 (fun h => am_tail0 hQ h)
theorem am_go10 {xs : Nat → Int32} {a1 a2 a3 a4 a5 : Int32} {Q : Option Value → List am_k → am_H → Prop} {h : am_H} (hT : am_T h) (hx1 : xs 1 = a1) (hx2 : xs 2 = a2) (hx3 : xs 3 = a3) (hx4 : xs 4 = a4) (hx5 : xs 5 = a5) (hQ : ∀ h, Q (some (.int 1)) am_ks0 h) : am_Ek false (am_P1 (some (6, xs)) am_lk) am_m136 312 [(4, .int 0), (3, .ref 202), (2, .ref 164), (1, .ref 0), (0, .retAddr 0)] [] am_ks0 h 203 4392 Q := by
  exact am_op10 hT hx1 hx2 hx3 hx4 hx5 (fun h => am_tail0 hQ h)
theorem am_go11 {xs : Nat → Int32} {a1 a2 a3 a4 a5 : Int32} {Q : Option Value → List am_k → am_H → Prop} {h : am_H} (hT : am_T h) (hx1 : xs 1 = a1) (hx2 : xs 2 = a2) (hx3 : xs 3 = a3) (hx4 : xs 4 = a4) (hx5 : xs 5 = a5) (hQ : ∀ h, Q (some (.int 1)) am_ks0 h) : am_Ek false (am_P1 (some (6, xs)) am_lk) am_m136 319 [(4, .int 0), (3, .ref 202), (2, .ref 164), (1, .ref 0), (0, .retAddr 0)] [] am_ks0 h 203 4392 Q := by
  exact am_op11 hT hx1 hx2 hx3 hx4 hx5 (fun h => am_tail0 hQ h)
theorem am_go12 {xs : Nat → Int32} {a1 a2 a3 a4 a5 : Int32} {Q : Option Value → List am_k → am_H → Prop} {h : am_H} (hT : am_T h) (hx1 : xs 1 = a1) (hx2 : xs 2 = a2) (hx3 : xs 3 = a3) (hx4 : xs 4 = a4) (hx5 : xs 5 = a5) (hQ : ∀ h, Q (some (.int 1)) am_ks0 h) : am_Ek false (am_P1 (some (6, xs)) am_lk) am_m136 336 [(4, .int 0), (3, .ref 202), (2, .ref 164), (1, .ref 0), (0, .retAddr 0)] [] am_ks0 h 203 4392 Q := by
  exact am_op12 hT hx1 hx2 hx3 hx4 hx5 (fun h => am_tail0 hQ h)
theorem am_go13 {xs : Nat → Int32} {a1 a2 a3 a4 a5 : Int32} {Q : Option Value → List am_k → am_H → Prop} {h : am_H} (hT : am_T h) (hx1 : xs 1 = a1) (hx2 : xs 2 = a2) (hx3 : xs 3 = a3) (hx4 : xs 4 = a4) (hx5 : xs 5 = a5) (hQ : ∀ h, Q (some (.int 1)) am_ks0 h) : am_Ek false (am_P1 (some (6, xs)) am_lk) am_m136 363 [(4, .int 0), (3, .ref 202), (2, .ref 164), (1, .ref 0), (0, .retAddr 0)] [] am_ks0 h 203 4392 Q := by
  by_cases h0 : a1 < (0 : Int32)
  · exact am_op13_m h0 hT hx1 hx2 hx3 hx4 hx5 (fun h => am_tail0 hQ h)
  · by_cases h1 : (500 : Int32) < a1
    · exact am_op13_p h0 h1 hT hx1 hx2 hx3 hx4 hx5 (fun h => am_tail0 hQ h)
    · obtain ⟨n, hn, e⟩ := am_natU (m := 500) (by decide) h0 h1
      subst e
      by_cases g0 : a2 < (0 : Int32)
      · exact am_op13_bm hn g0 hT hx1 hx2 hx3 hx4 hx5 (fun h => am_tail0 hQ h)
      · by_cases g1 : (9999 : Int32) < a2
        · exact am_op13_bp hn g0 g1 hT hx1 hx2 hx3 hx4 hx5 (fun h => am_tail0 hQ h)
        · obtain ⟨b, hb, e⟩ := am_natU (m := 9999) (by decide) g0 g1
          subst e
          exact am_op13_n hn hb hT hx1 hx2 hx3 hx4 hx5 (fun h => am_tail0 hQ h)
theorem am_go14 {xs : Nat → Int32} {a1 a2 a3 a4 a5 : Int32} {Q : Option Value → List am_k → am_H → Prop} {h : am_H} (hT : am_T h) (hx1 : xs 1 = a1) (hx2 : xs 2 = a2) (hx3 : xs 3 = a3) (hx4 : xs 4 = a4) (hx5 : xs 5 = a5) (hQ : ∀ h, Q (some (.int 1)) am_ks0 h) : am_Ek false (am_P1 (some (6, xs)) am_lk) am_m136 390 [(4, .int 0), (3, .ref 202), (2, .ref 164), (1, .ref 0), (0, .retAddr 0)] [] am_ks0 h 203 4392 Q := by
  by_cases h0 : a1 < (0 : Int32)
  · exact am_op14_m h0 hT hx1 hx2 hx3 hx4 hx5 (fun h => am_tail0 hQ h)
  · by_cases h1 : (60 : Int32) < a1
    · exact am_op14_p h0 h1 hT hx1 hx2 hx3 hx4 hx5 (fun h => am_tail0 hQ h)
    · obtain ⟨n, hn, e⟩ := am_natU (m := 60) (by decide) h0 h1
      subst e
      by_cases g0 : a2 < (0 : Int32)
      · exact am_op14_bm hn g0 hT hx1 hx2 hx3 hx4 hx5 (fun h => am_tail0 hQ h)
      · by_cases g1 : (9999 : Int32) < a2
        · exact am_op14_bp hn g0 g1 hT hx1 hx2 hx3 hx4 hx5 (fun h => am_tail0 hQ h)
        · obtain ⟨b, hb, e⟩ := am_natU (m := 9999) (by decide) g0 g1
          subst e
          exact am_op14_n hn hb hT hx1 hx2 hx3 hx4 hx5 (fun h => am_tail0 hQ h)
theorem am_go15 {xs : Nat → Int32} {a1 a2 a3 a4 a5 : Int32} {Q : Option Value → List am_k → am_H → Prop} {h : am_H} (hT : am_T h) (hx1 : xs 1 = a1) (hx2 : xs 2 = a2) (hx3 : xs 3 = a3) (hx4 : xs 4 = a4) (hx5 : xs 5 = a5) (hQ : ∀ h, Q (some (.int 1)) am_ks0 h) : am_Ek false (am_P1 (some (6, xs)) am_lk) am_m136 417 [(4, .int 0), (3, .ref 202), (2, .ref 164), (1, .ref 0), (0, .retAddr 0)] [] am_ks0 h 203 4392 Q := by
  exact am_op15 hT hx1 hx2 hx3 hx4 hx5 (fun h => am_tail0 hQ h)
theorem am_go16 {xs : Nat → Int32} {a1 a2 a3 a4 a5 : Int32} {Q : Option Value → List am_k → am_H → Prop} {h : am_H} (hT : am_T h) (hx1 : xs 1 = a1) (hx2 : xs 2 = a2) (hx3 : xs 3 = a3) (hx4 : xs 4 = a4) (hx5 : xs 5 = a5) (hQ : ∀ h, Q (some (.int 1)) am_ks0 h) : am_Ek false (am_P1 (some (6, xs)) am_lk) am_m136 454 [(4, .int 0), (3, .ref 202), (2, .ref 164), (1, .ref 0), (0, .retAddr 0)] [] am_ks0 h 203 4392 Q := by
  exact am_op16 hT hx1 hx2 hx3 hx4 hx5 (fun h => am_tail0 hQ h)
theorem am_go17 {xs : Nat → Int32} {a1 a2 a3 a4 a5 : Int32} {Q : Option Value → List am_k → am_H → Prop} {h : am_H} (hT : am_T h) (hx1 : xs 1 = a1) (hx2 : xs 2 = a2) (hx3 : xs 3 = a3) (hx4 : xs 4 = a4) (hx5 : xs 5 = a5) (hQ : ∀ h, Q (some (.int 1)) am_ks0 h) : am_Ek false (am_P1 (some (6, xs)) am_lk) am_m136 501 [(4, .int 0), (3, .ref 202), (2, .ref 164), (1, .ref 0), (0, .retAddr 0)] [] am_ks0 h 203 4392 Q := by
  exact am_op17 hT hx1 hx2 hx3 hx4 hx5 (fun h => am_tail0 hQ h)
theorem am_go18 {xs : Nat → Int32} {a1 a2 a3 a4 a5 : Int32} {Q : Option Value → List am_k → am_H → Prop} {h : am_H} (hT : am_T h) (hx1 : xs 1 = a1) (hx2 : xs 2 = a2) (hx3 : xs 3 = a3) (hx4 : xs 4 = a4) (hx5 : xs 5 = a5) (hQ : ∀ h, Q (some (.int 1)) am_ks0 h) : am_Ek false (am_P1 (some (6, xs)) am_lk) am_m136 538 [(4, .int 0), (3, .ref 202), (2, .ref 164), (1, .ref 0), (0, .retAddr 0)] [] am_ks0 h 203 4392 Q := by
  exact am_op18 hT hx1 hx2 hx3 hx4 hx5 (fun h => am_tail0 hQ h)
theorem am_go19 {xs : Nat → Int32} {a1 a2 a3 a4 a5 : Int32} {Q : Option Value → List am_k → am_H → Prop} {h : am_H} (hT : am_T h) (hx1 : xs 1 = a1) (hx2 : xs 2 = a2) (hx3 : xs 3 = a3) (hx4 : xs 4 = a4) (hx5 : xs 5 = a5) (hQ : ∀ h, Q (some (.int 1)) am_ks0 h) : am_Ek false (am_P1 (some (6, xs)) am_lk) am_m136 565 [(4, .int 0), (3, .ref 202), (2, .ref 164), (1, .ref 0), (0, .retAddr 0)] [] am_ks0 h 203 4392 Q := by
  exact am_op19 hT hx1 hx2 hx3 hx4 hx5 (fun h => am_tail0 hQ h)
theorem am_go20 {xs : Nat → Int32} {a1 a2 a3 a4 a5 : Int32} {Q : Option Value → List am_k → am_H → Prop} {h : am_H} (hT : am_T h) (hx1 : xs 1 = a1) (hx2 : xs 2 = a2) (hx3 : xs 3 = a3) (hx4 : xs 4 = a4) (hx5 : xs 5 = a5) (hQ : ∀ h, Q (some (.int 1)) am_ks0 h) : am_Ek false (am_P1 (some (6, xs)) am_lk) am_m136 592 [(4, .int 0), (3, .ref 202), (2, .ref 164), (1, .ref 0), (0, .retAddr 0)] [] am_ks0 h 203 4392 Q := by
  exact am_op20 hT hx1 hx2 hx3 hx4 hx5 (fun h => am_tail0 hQ h)
theorem am_go21 {xs : Nat → Int32} {a1 a2 a3 a4 a5 : Int32} {Q : Option Value → List am_k → am_H → Prop} {h : am_H} (hT : am_T h) (hx1 : xs 1 = a1) (hx2 : xs 2 = a2) (hx3 : xs 3 = a3) (hx4 : xs 4 = a4) (hx5 : xs 5 = a5) (hQ : ∀ h, Q (some (.int 1)) am_ks0 h) : am_Ek false (am_P1 (some (6, xs)) am_lk) am_m136 609 [(4, .int 0), (3, .ref 202), (2, .ref 164), (1, .ref 0), (0, .retAddr 0)] [] am_ks0 h 203 4392 Q := by
  exact am_op21 hT hx1 hx2 hx3 hx4 hx5 (fun h => am_tail0 hQ h)
theorem am_go22 {xs : Nat → Int32} {a1 a2 a3 a4 a5 : Int32} {Q : Option Value → List am_k → am_H → Prop} {h : am_H} (hT : am_T h) (hx1 : xs 1 = a1) (hx2 : xs 2 = a2) (hx3 : xs 3 = a3) (hx4 : xs 4 = a4) (hx5 : xs 5 = a5) (hQ : ∀ h, Q (some (.int 1)) am_ks0 h) : am_Ek false (am_P1 (some (6, xs)) am_lk) am_m136 626 [(4, .int 0), (3, .ref 202), (2, .ref 164), (1, .ref 0), (0, .retAddr 0)] [] am_ks0 h 203 4392 Q := by
  exact am_op22 hT hx1 hx2 hx3 hx4 hx5 (fun h => am_tail0 hQ h)
theorem am_go23 {xs : Nat → Int32} {a1 a2 a3 a4 a5 : Int32} {Q : Option Value → List am_k → am_H → Prop} {h : am_H} (hT : am_T h) (hx1 : xs 1 = a1) (hx2 : xs 2 = a2) (hx3 : xs 3 = a3) (hx4 : xs 4 = a4) (hx5 : xs 5 = a5) (hQ : ∀ h, Q (some (.int 1)) am_ks0 h) : am_Ek false (am_P1 (some (6, xs)) am_lk) am_m136 633 [(4, .int 0), (3, .ref 202), (2, .ref 164), (1, .ref 0), (0, .retAddr 0)] [] am_ks0 h 203 4392 Q := by
  exact am_op23 hT hx1 hx2 hx3 hx4 hx5 (fun h => am_tail0 hQ h)
theorem am_go24 {xs : Nat → Int32} {a1 a2 a3 a4 a5 : Int32} {Q : Option Value → List am_k → am_H → Prop} {h : am_H} (hT : am_T h) (hx1 : xs 1 = a1) (hx2 : xs 2 = a2) (hx3 : xs 3 = a3) (hx4 : xs 4 = a4) (hx5 : xs 5 = a5) (hQ : ∀ h, Q (some (.int 1)) am_ks0 h) : am_Ek false (am_P1 (some (6, xs)) am_lk) am_m136 688 [(4, .int 0), (3, .ref 202), (2, .ref 164), (1, .ref 0), (0, .retAddr 0)] [] am_ks0 h 203 4392 Q := by
  exact am_op24 hT hx1 hx2 hx3 hx4 hx5 (fun h => am_tail0 hQ h)
theorem am_go25 {xs : Nat → Int32} {a1 a2 a3 a4 a5 : Int32} {Q : Option Value → List am_k → am_H → Prop} {h : am_H} (hT : am_T h) (hx1 : xs 1 = a1) (hx2 : xs 2 = a2) (hx3 : xs 3 = a3) (hx4 : xs 4 = a4) (hx5 : xs 5 = a5) (hQ : ∀ h, Q (some (.int 1)) am_ks0 h) : am_Ek false (am_P1 (some (6, xs)) am_lk) am_m136 705 [(4, .int 0), (3, .ref 202), (2, .ref 164), (1, .ref 0), (0, .retAddr 0)] [] am_ks0 h 203 4392 Q := by
  exact am_op25 hT hx1 hx2 hx3 hx4 hx5 (fun h => am_tail0 hQ h)
theorem am_go26 {xs : Nat → Int32} {a1 a2 a3 a4 a5 : Int32} {Q : Option Value → List am_k → am_H → Prop} {h : am_H} (hT : am_T h) (hx1 : xs 1 = a1) (hx2 : xs 2 = a2) (hx3 : xs 3 = a3) (hx4 : xs 4 = a4) (hx5 : xs 5 = a5) (hQ : ∀ h, Q (some (.int 1)) am_ks0 h) : am_Ek false (am_P1 (some (6, xs)) am_lk) am_m136 722 [(4, .int 0), (3, .ref 202), (2, .ref 164), (1, .ref 0), (0, .retAddr 0)] [] am_ks0 h 203 4392 Q := by
  exact am_op26 hT hx1 hx2 hx3 hx4 hx5 (fun h => am_tail0 hQ h)
theorem am_go27 {xs : Nat → Int32} {a1 a2 a3 a4 a5 : Int32} {Q : Option Value → List am_k → am_H → Prop} {h : am_H} (hT : am_T h) (hx1 : xs 1 = a1) (hx2 : xs 2 = a2) (hx3 : xs 3 = a3) (hx4 : xs 4 = a4) (hx5 : xs 5 = a5) (hQ : ∀ h, Q (some (.int 1)) am_ks0 h) : am_Ek false (am_P1 (some (6, xs)) am_lk) am_m136 729 [(4, .int 0), (3, .ref 202), (2, .ref 164), (1, .ref 0), (0, .retAddr 0)] [] am_ks0 h 203 4392 Q := by
  by_cases h0 : a1 < (0 : Int32)
  · exact am_op27_m h0 hT hx1 hx2 hx3 hx4 hx5 (fun h => am_tail0 hQ h)
  · by_cases g0 : a2 < (1 : Int32)
    · exact am_op27_nm h0 g0 hT hx1 hx2 hx3 hx4 hx5 (fun h => am_tail0 hQ h)
    · by_cases g1 : (600 : Int32) < a2
      · exact am_op27_np h0 g0 g1 hT hx1 hx2 hx3 hx4 hx5 (fun h => am_tail0 hQ h)
      · obtain ⟨n, hn, e⟩ := am_natU (m := 600) (by decide) (am_n0 g0) g1
        subst e
        by_cases k0 : a3 < (0 : Int32)
        · exact am_op27_bm h0 (am_ge1 g0) hn k0 hT hx1 hx2 hx3 hx4 hx5 (fun h => am_tail0 hQ h)
        · by_cases k1 : (9999 : Int32) < a3
          · exact am_op27_bp h0 (am_ge1 g0) hn k0 k1 hT hx1 hx2 hx3 hx4 hx5 (fun h => am_tail0 hQ h)
          · obtain ⟨b, hb, e⟩ := am_natU (m := 9999) (by decide) k0 k1
            subst e
            rcases Nat.eq_zero_or_pos b with e | hb0
            · subst e
              exact am_op27_n0 h0 (am_ge1 g0) hn hT hx1 hx2 hx3 hx4 hx5 (fun h => am_tail0 hQ h)
            · exact am_op27_nb h0 (am_ge1 g0) hn hb0 hb hT hx1 hx2 hx3 hx4 hx5 (fun h => am_tail0 hQ h)
theorem am_go28 {xs : Nat → Int32} {a1 a2 a3 a4 a5 : Int32} {Q : Option Value → List am_k → am_H → Prop} {h : am_H} (hT : am_T h) (hx1 : xs 1 = a1) (hx2 : xs 2 = a2) (hx3 : xs 3 = a3) (hx4 : xs 4 = a4) (hx5 : xs 5 = a5) (hQ : ∀ h, Q (some (.int 1)) am_ks0 h) : am_Ek false (am_P1 (some (6, xs)) am_lk) am_m136 766 [(4, .int 0), (3, .ref 202), (2, .ref 164), (1, .ref 0), (0, .retAddr 0)] [] am_ks0 h 203 4392 Q := by
  by_cases h0 : a1 < (0 : Int32)
  · exact am_op28_om h0 hT hx1 hx2 hx3 hx4 hx5 (fun h => am_tail0 hQ h)
  · by_cases h1 : (4 : Int32) < a1
    · exact am_op28_op h0 h1 hT hx1 hx2 hx3 hx4 hx5 (fun h => am_tail0 hQ h)
    · obtain ⟨n, hn, e⟩ := am_natU (m := 4) (by decide) h0 h1
      subst e
      by_cases k0 : a3 < (0 : Int32)
      · skip
        match n, hn, hx1 with
        | 0, _, hx1 => exact am_op28_0_m k0 hT hx1 hx2 hx3 hx4 hx5 (fun h => am_tail0 hQ h)
        | 1, _, hx1 => exact am_op28_1_m k0 hT hx1 hx2 hx3 hx4 hx5 (fun h => am_tail0 hQ h)
        | 2, _, hx1 => exact am_op28_2_m k0 hT hx1 hx2 hx3 hx4 hx5 (fun h => am_tail0 hQ h)
        | 3, _, hx1 => exact am_op28_3_m k0 hT hx1 hx2 hx3 hx4 hx5 (fun h => am_tail0 hQ h)
        | 4, _, hx1 => exact am_op28_4_m k0 hT hx1 hx2 hx3 hx4 hx5 (fun h => am_tail0 hQ h)
        | n + 5, hn, _ => exact absurd hn (by omega)
      · by_cases k1 : (3600 : Int32) < a3
        · skip
          match n, hn, hx1 with
          | 0, _, hx1 => exact am_op28_0_p k0 k1 hT hx1 hx2 hx3 hx4 hx5 (fun h => am_tail0 hQ h)
          | 1, _, hx1 => exact am_op28_1_p k0 k1 hT hx1 hx2 hx3 hx4 hx5 (fun h => am_tail0 hQ h)
          | 2, _, hx1 => exact am_op28_2_p k0 k1 hT hx1 hx2 hx3 hx4 hx5 (fun h => am_tail0 hQ h)
          | 3, _, hx1 => exact am_op28_3_p k0 k1 hT hx1 hx2 hx3 hx4 hx5 (fun h => am_tail0 hQ h)
          | 4, _, hx1 => exact am_op28_4_p k0 k1 hT hx1 hx2 hx3 hx4 hx5 (fun h => am_tail0 hQ h)
          | n + 5, hn, _ => exact absurd hn (by omega)
        · obtain ⟨q, hq, e⟩ := am_natU (m := 3600) (by decide) k0 k1
          subst e
          match n, hn, hx1 with
          | 0, _, hx1 => exact am_op28_0_n hq hT hx1 hx2 hx3 hx4 hx5 (fun h => am_tail0 hQ h)
          | 1, _, hx1 => exact am_op28_1_n hq hT hx1 hx2 hx3 hx4 hx5 (fun h => am_tail0 hQ h)
          | 2, _, hx1 => exact am_op28_2_n hq hT hx1 hx2 hx3 hx4 hx5 (fun h => am_tail0 hQ h)
          | 3, _, hx1 => exact am_op28_3_n hq hT hx1 hx2 hx3 hx4 hx5 (fun h => am_tail0 hQ h)
          | 4, _, hx1 => exact am_op28_4_n hq hT hx1 hx2 hx3 hx4 hx5 (fun h => am_tail0 hQ h)
          | n + 5, hn, _ => exact absurd hn (by omega)
theorem am_go29 {xs : Nat → Int32} {a1 a2 a3 a4 a5 : Int32} {Q : Option Value → List am_k → am_H → Prop} {h : am_H} (hT : am_T h) (hx1 : xs 1 = a1) (hx2 : xs 2 = a2) (hx3 : xs 3 = a3) (hx4 : xs 4 = a4) (hx5 : xs 5 = a5) (hQ : ∀ h, Q (some (.int 1)) am_ks0 h) : am_Ek false (am_P1 (some (6, xs)) am_lk) am_m136 803 [(4, .int 0), (3, .ref 202), (2, .ref 164), (1, .ref 0), (0, .retAddr 0)] [] am_ks0 h 203 4392 Q := by
  exact am_op29 hT hx1 hx2 hx3 hx4 hx5 (fun h => am_tail0 hQ h)
theorem am_go30 {xs : Nat → Int32} {a1 a2 a3 a4 a5 : Int32} {Q : Option Value → List am_k → am_H → Prop} {h : am_H} (hT : am_T h) (hx1 : xs 1 = a1) (hx2 : xs 2 = a2) (hx3 : xs 3 = a3) (hx4 : xs 4 = a4) (hx5 : xs 5 = a5) (hQ : ∀ h, Q (some (.int 1)) am_ks0 h) : am_Ek false (am_P1 (some (6, xs)) am_lk) am_m136 810 [(4, .int 0), (3, .ref 202), (2, .ref 164), (1, .ref 0), (0, .retAddr 0)] [] am_ks0 h 203 4392 Q := by
  exact am_op30 hT hx1 hx2 hx3 hx4 hx5 (fun h => am_tail0 hQ h)
theorem am_go31 {xs : Nat → Int32} {a1 a2 a3 a4 a5 : Int32} {Q : Option Value → List am_k → am_H → Prop} {h : am_H} (hT : am_T h) (hx1 : xs 1 = a1) (hx2 : xs 2 = a2) (hx3 : xs 3 = a3) (hx4 : xs 4 = a4) (hx5 : xs 5 = a5) (hQ : ∀ h, Q (some (.int 1)) am_ks0 h) : am_Ek false (am_P1 (some (6, xs)) am_lk) am_m136 817 [(4, .int 0), (3, .ref 202), (2, .ref 164), (1, .ref 0), (0, .retAddr 0)] [] am_ks0 h 203 4392 Q := by
  exact am_op31 hT hx1 hx2 hx3 hx4 hx5 (fun h => am_tail0 hQ h)
theorem am_go32 {xs : Nat → Int32} {a1 a2 a3 a4 a5 : Int32} {Q : Option Value → List am_k → am_H → Prop} {h : am_H} (hT : am_T h) (hx1 : xs 1 = a1) (hx2 : xs 2 = a2) (hx3 : xs 3 = a3) (hx4 : xs 4 = a4) (hx5 : xs 5 = a5) (hQ : ∀ h, Q (some (.int 1)) am_ks0 h) : am_Ek false (am_P1 (some (6, xs)) am_lk) am_m136 824 [(4, .int 0), (3, .ref 202), (2, .ref 164), (1, .ref 0), (0, .retAddr 0)] [] am_ks0 h 203 4392 Q := by
  by_cases h0 : a1.toInt < 0 ∨ 13 < a1.toInt
  · exact am_op32_o h0 hT hx1 hx2 hx3 hx4 hx5 (fun h => am_tail0 hQ h)
  · have e0 : ¬ a1 < 0 := fun q => h0 (Or.inl (Int32.lt_iff_toInt_lt.mp q))
    obtain ⟨n, hn, e⟩ := nI_of e0
    subst e
    have hn2 : n ≤ 13 := by
      have h3 := nI_toInt hn
      rw [h3] at h0
      omega
    match n, hn2, hx1 with
    | 0, _, hx1 => exact am_op32_0 hT hx1 hx2 hx3 hx4 hx5 (fun h => am_tail0 hQ h)
    | 1, _, hx1 => exact am_op32_1 hT hx1 hx2 hx3 hx4 hx5 (fun h => am_tail0 hQ h)
    | 2, _, hx1 => exact am_op32_2 hT hx1 hx2 hx3 hx4 hx5 (fun h => am_tail0 hQ h)
    | 3, _, hx1 => exact am_op32_3 hT hx1 hx2 hx3 hx4 hx5 (fun h => am_tail0 hQ h)
    | 4, _, hx1 => exact am_op32_4 hT hx1 hx2 hx3 hx4 hx5 (fun h => am_tail0 hQ h)
    | 5, _, hx1 => exact am_op32_5 hT hx1 hx2 hx3 hx4 hx5 (fun h => am_tail0 hQ h)
    | 6, _, hx1 => exact am_op32_6 hT hx1 hx2 hx3 hx4 hx5 (fun h => am_tail0 hQ h)
    | 7, _, hx1 => exact am_op32_7 hT hx1 hx2 hx3 hx4 hx5 (fun h => am_tail0 hQ h)
    | 8, _, hx1 => exact am_op32_8 hT hx1 hx2 hx3 hx4 hx5 (fun h => am_tail0 hQ h)
    | 9, _, hx1 => exact am_op32_9 hT hx1 hx2 hx3 hx4 hx5 (fun h => am_tail0 hQ h)
    | 10, _, hx1 => exact am_op32_10 hT hx1 hx2 hx3 hx4 hx5 (fun h => am_tail0 hQ h)
    | 11, _, hx1 => exact am_op32_11 hT hx1 hx2 hx3 hx4 hx5 (fun h => am_tail0 hQ h)
    | 12, _, hx1 => exact am_op32_12 hT hx1 hx2 hx3 hx4 hx5 (fun h => am_tail0 hQ h)
    | 13, _, hx1 => exact am_op32_13 hT hx1 hx2 hx3 hx4 hx5 (fun h => am_tail0 hQ h)
    | n + 14, hn, _ => exact absurd hn (by omega)
theorem am_law_6 {xs : Nat → Int32} {Q : Option Value → List am_k → am_H → Prop} {h : am_H} (hT : am_T h) (hQ : ∀ h, Q (some (.int 1)) am_ks0 h) : am_Ek false (am_P1 (some (6, xs)) am_lk) am_m136 13 [(4, .int 0), (3, .ref 202), (2, .ref 164), (1, .ref 0), (0, .retAddr 0)] [] am_ks0 h 203 4392 Q := by
  refine am_head rfl ?_
  obtain ⟨j, hj, ej⟩ := pk_andE (xs 0) (m := 63) 6 (by decide)
  rw [ej]
  have hj : j < 64 := hj
  match j, hj with
  | 0, _ => exact am_e_swI (off := 148) c136_24 (by decide) (by decide) s136_24_148 (am_go0 hT rfl rfl rfl rfl rfl hQ)
  | 1, _ => exact am_e_swI (off := 221) c136_24 (by decide) (by decide) s136_24_221 (am_go1 hT rfl rfl rfl rfl rfl hQ)
  | 2, _ => exact am_e_swI (off := 246) c136_24 (by decide) (by decide) s136_24_246 (am_go2 hT rfl rfl rfl rfl rfl hQ)
  | 3, _ => exact am_e_swI (off := 271) c136_24 (by decide) (by decide) s136_24_271 (am_go3 hT rfl rfl rfl rfl rfl hQ)
  | 4, _ => exact am_e_swI (off := 308) c136_24 (by decide) (by decide) s136_24_308 (am_go4 hT rfl rfl rfl rfl rfl hQ)
  | 5, _ => exact am_e_swI (off := 376) c136_24 (by decide) (by decide) s136_24_376 (am_go5 hT rfl rfl rfl rfl rfl hQ)
  | 6, _ => exact am_e_swI (off := 414) c136_24 (by decide) (by decide) s136_24_414 (am_go6 hT rfl rfl rfl rfl rfl hQ)
  | 7, _ => exact am_e_swI (off := 451) c136_24 (by decide) (by decide) s136_24_451 (am_go7 hT rfl rfl rfl rfl rfl hQ)
  | 8, _ => exact am_e_swI (off := 504) c136_24 (by decide) (by decide) s136_24_504 (am_go8 hT rfl rfl rfl rfl rfl hQ)
  | 9, _ => exact am_e_swI (off := 529) c136_24 (by decide) (by decide) s136_24_529 (am_go9 hT rfl rfl rfl rfl rfl hQ)
  | 10, _ => exact am_e_swI (off := 554) c136_24 (by decide) (by decide) s136_24_554 (am_go10 hT rfl rfl rfl rfl rfl hQ)
  | 11, _ => exact am_e_swI (off := 567) c136_24 (by decide) (by decide) s136_24_567 (am_go11 hT rfl rfl rfl rfl rfl hQ)
  | 12, _ => exact am_e_swI (off := 592) c136_24 (by decide) (by decide) s136_24_592 (am_go12 hT rfl rfl rfl rfl rfl hQ)
  | 13, _ => exact am_e_swI (off := 629) c136_24 (by decide) (by decide) s136_24_629 (am_go13 hT rfl rfl rfl rfl rfl hQ)
  | 14, _ => exact am_e_swI (off := 666) c136_24 (by decide) (by decide) s136_24_666 (am_go14 hT rfl rfl rfl rfl rfl hQ)
  | 15, _ => exact am_e_swI (off := 703) c136_24 (by decide) (by decide) s136_24_703 (am_go15 hT rfl rfl rfl rfl rfl hQ)
  | 16, _ => exact am_e_swI (off := 752) c136_24 (by decide) (by decide) s136_24_752 (am_go16 hT rfl rfl rfl rfl rfl hQ)
  | 17, _ => exact am_e_swI (off := 813) c136_24 (by decide) (by decide) s136_24_813 (am_go17 hT rfl rfl rfl rfl rfl hQ)
  | 18, _ => exact am_e_swI (off := 862) c136_24 (by decide) (by decide) s136_24_862 (am_go18 hT rfl rfl rfl rfl rfl hQ)
  | 19, _ => exact am_e_swI (off := 899) c136_24 (by decide) (by decide) s136_24_899 (am_go19 hT rfl rfl rfl rfl rfl hQ)
  | 20, _ => exact am_e_swI (off := 936) c136_24 (by decide) (by decide) s136_24_936 (am_go20 hT rfl rfl rfl rfl rfl hQ)
  | 21, _ => exact am_e_swI (off := 961) c136_24 (by decide) (by decide) s136_24_961 (am_go21 hT rfl rfl rfl rfl rfl hQ)
  | 22, _ => exact am_e_swI (off := 986) c136_24 (by decide) (by decide) s136_24_986 (am_go22 hT rfl rfl rfl rfl rfl hQ)
  | 23, _ => exact am_e_swI (off := 999) c136_24 (by decide) (by decide) s136_24_999 (am_go23 hT rfl rfl rfl rfl rfl hQ)
  | 24, _ => exact am_e_swI (off := 1076) c136_24 (by decide) (by decide) s136_24_1076 (am_go24 hT rfl rfl rfl rfl rfl hQ)
  | 25, _ => exact am_e_swI (off := 1101) c136_24 (by decide) (by decide) s136_24_1101 (am_go25 hT rfl rfl rfl rfl rfl hQ)
  | 26, _ => exact am_e_swI (off := 1126) c136_24 (by decide) (by decide) s136_24_1126 (am_go26 hT rfl rfl rfl rfl rfl hQ)
  | 27, _ => exact am_e_swI (off := 1139) c136_24 (by decide) (by decide) s136_24_1139 (am_go27 hT rfl rfl rfl rfl rfl hQ)
  | 28, _ => exact am_e_swI (off := 1188) c136_24 (by decide) (by decide) s136_24_1188 (am_go28 hT rfl rfl rfl rfl rfl hQ)
  | 29, _ => exact am_e_swI (off := 1237) c136_24 (by decide) (by decide) s136_24_1237 (am_go29 hT rfl rfl rfl rfl rfl hQ)
  | 30, _ => exact am_e_swI (off := 1250) c136_24 (by decide) (by decide) s136_24_1250 (am_go30 hT rfl rfl rfl rfl rfl hQ)
  | 31, _ => exact am_e_swI (off := 1263) c136_24 (by decide) (by decide) s136_24_1263 (am_go31 hT rfl rfl rfl rfl rfl hQ)
  | 32, _ => exact am_e_swI (off := 1276) c136_24 (by decide) (by decide) s136_24_1276 (am_go32 hT rfl rfl rfl rfl rfl hQ)
  | j + 33, hj =>
    refine am_e_swO c136_24 (Or.inr ?_) s136_24_1301 (am_tail0 hQ h)
    rw [nI_toInt (by omega)]
    omega
