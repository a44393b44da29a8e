/-! ===== CHANCE ===== -/
theorem am_land31 (y : Int64) : ∃ k : Nat, k < 2 ^ 31 ∧ y &&& 2147483647 = lN k := by
  refine ⟨y.toBitVec.toNat % 2 ^ 31, Nat.mod_lt _ (by decide), ?_⟩
  apply Int64.toBitVec_inj.mp
  apply BitVec.eq_of_toNat_eq
  rw [Int64.toBitVec_and, BitVec.toNat_and, show (2147483647 : Int64).toBitVec.toNat = 2 ^ 31 - 1 from by decide, Nat.and_two_pow_sub_one_eq_mod]
  show _ = (BitVec.ofNat 64 _).toNat
  rw [BitVec.toNat_ofNat]
  exact (Nat.mod_eq_of_lt (Nat.lt_of_lt_of_le (Nat.mod_lt _ (by decide)) (by decide))).symm
theorem am_ch_c (y : Int64) : ¬ ((y &&& 2147483647) / 65536).toInt32 - ((y &&& 2147483647) / 65536).toInt32 / 1000 * 1000 < 0 := by
  obtain ⟨k, hk, e⟩ := am_land31 y
  rw [e, show (65536 : Int64) = lN 65536 from rfl, pk_lDiv (by omega) (by decide) (by decide), lN_i, show (1000 : Int32) = nI 1000 from rfl, pk_rem (by omega) (by decide) (by decide)]
  exact nI_pos (by omega)
theorem am_ch_m (y : Int64) : ¬ ((y &&& 2147483647) / 65536 - (y &&& 2147483647) / 65536 / 1000 * 1000).toInt32 < 0 := by
  obtain ⟨k, hk, e⟩ := am_land31 y
  rw [e, show (65536 : Int64) = lN 65536 from rfl, pk_lDiv (by omega) (by decide) (by decide), show (1000 : Int64) = lN 1000 from rfl, pk_lRem (by omega) (by decide) (by decide), lN_i]
  exact nI_pos (by omega)
def am_ccM : List (Nat × Nat) := [(17, 0), (17, 1), (17, 2), (17, 3), (17, 4), (17, 5), (148, 6), (149, 0), (149, 1)]
def am_ccL : List (Nat × Nat × Value) := [(0, 11, .ref 148), (0, 2, .ref 2), (2, 16, .int 0), (148, 1, .ref 149), (148, 5, .int 2147483647), (148, 0, .ref 2), (2, 19, .ref 11), (11, 7, .ref 17), (2, 0, .int 500), (11, 6, .ref 16), (16, 0, .int 0), (11, 4, .ref 14), (14, 0, .int 0), (11, 5, .ref 15), (15, 0, .int 0), (148, 4, .int 0), (148, 2, .int (-1))]
theorem am_cc_l {h00 : am_H} {Q : Option Value → List am_k → am_H → Prop} {n b sfin : Nat} {t i7 : Int32} (hn : n ≤ 600) (hs9 : sfin ≤ 200000) (hG : am_Ts h00 am_ccL)
    (K : ∀ (h' : am_H) (dr' : Int64), am_Fr am_ccM h00 h' → h' 149 0 = .int 0 → h' 149 1 = .int (nI sfin) → (∃ l, h' 148 6 = .int l) → am_Ek false am_G0 am_m70 57 [(0, .ref 0), (2, .int (nI n)), (3, .int (nI b)), (4, .long (dr')), (6, .int t), (7, .int i7), (8, .int (nI n))] [] am_ks0 h' 0 0 Q) :
    ∀ (d j s : Nat) (dr : Int64) (lst : Int32) (h : am_H), j + d = n → s + d = sfin → am_Fr am_ccM h00 h → h 149 0 = .int 0 → h 149 1 = .int (nI s) → h 148 6 = .int lst → am_Ek false am_G0 am_m70 33 [(0, .ref 0), (2, .int (nI n)), (3, .int (nI b)), (4, .long dr), (6, .int t), (7, .int i7), (8, .int (nI j))] [] am_ks0 h 0 0 Q := by
  intro d
  induction d with
  | zero =>
    intro j s dr lst h hin hs F e0 e1 e2
    have hin : j = n := hin
    subst hin
    have hs1 : s = sfin := hs
    subst hs1
    refine am_e_iload n70_33 rfl ?_
    refine am_e_iload_n n70_34 rfl ?_
    refine am_e_cmpT n70_35 (am_c_geT (am_lt_irr _)) t70_35 ?_
    exact K _ _ F e0 e1 ⟨_, e2⟩
  | succ d ih =>
    intro j s dr lst h hin hs F e0 e1 e2
    refine am_e_iload n70_33 rfl ?_
    refine am_e_iload_n n70_34 rfl ?_
    refine am_e_cmpF n70_35 (am_c_geF (nI_lt (by omega) (by omega))) ?_
    refine am_e_lload n70_36 rfl ?_
    refine am_e_callS (L := [(0, .long dr)]) n70_37 rfl rfl rfl rfl rfl rfl rfl ?_
    refine am_e_lload_n n23_0 rfl ?_
    refine am_e_ldc2 (w := 1103515245) n23_1 (by decide) ?_
    refine am_e_lmul (w := (dr * 1103515245)) n23_2 rfl ?_
    refine am_e_ldc2 (w := 12345) n23_3 (by decide) ?_
    refine am_e_ladd (w := ((dr * 1103515245) + 12345)) n23_4 rfl ?_
    refine am_e_ldc2 (w := 2147483647) n23_5 (by decide) ?_
    refine am_e_land (w := (((dr * 1103515245) + 12345) &&& 2147483647)) n23_6 rfl ?_
    refine am_e_lret c23_7 rfl rfl ?_
    refine am_e_lstore (ls' := [(4, .long (((dr * 1103515245) + 12345) &&& 2147483647)), (0, .ref 0), (2, .int (nI n)), (3, .int (nI b)), (6, .int t), (7, .int i7), (8, .int (nI j))]) n70_38 rfl rfl ?_
    refine am_e_aload_n n70_39 rfl ?_
    refine am_e_getf (v := .ref 148) n70_40 rfl ((F 0 11 rfl).trans (hG.1)) ?_
    refine am_e_iconst (w := 1) n70_41 rfl ?_
    refine am_e_lload n70_42 rfl ?_
    refine am_e_callS (L := [(0, .long (((dr * 1103515245) + 12345) &&& 2147483647))]) n70_43 rfl rfl rfl rfl rfl rfl rfl ?_
    refine am_e_lload_n n24_0 rfl ?_
    refine am_e_ldc2 (w := 65536) n24_1 (by decide) ?_
    refine am_e_ldiv (w := ((((dr * 1103515245) + 12345) &&& 2147483647) / 65536)) n24_2 (by decide) rfl ?_
    refine am_e_l2i (w := (((((dr * 1103515245) + 12345) &&& 2147483647) / 65536).toInt32)) n24_3 rfl ?_
    refine am_e_iret c24_4 rfl rfl rfl ?_
    refine am_e_sipush (w := 1000) n70_44 (by decide) ?_
    refine am_e_irem (w := ((((((dr * 1103515245) + 12345) &&& 2147483647) / 65536).toInt32) - (((((dr * 1103515245) + 12345) &&& 2147483647) / 65536).toInt32) / 1000 * 1000)) n70_45 (by decide) rfl ?_
    refine am_e_aload_n n70_46 rfl ?_
    refine am_e_getf (v := .ref 2) n70_47 rfl ((F 0 2 rfl).trans (hG.2.1)) ?_
    refine am_e_getf (v := .int 0) n70_48 rfl ((F 2 16 rfl).trans (hG.2.2.1)) ?_
    refine am_e_cmpT n70_49 (am_c_geT (am_ch_c _)) t70_49 ?_
    refine am_e_iconst (w := 0) n70_52 rfl ?_
    refine am_e_callV (L := [(0, .ref 148), (1, .int 1), (2, .int 0)]) n70_53 rfl rfl rfl rfl rfl rfl rfl rfl ?_
    refine am_goBy0 (n := 1) (f := 0) (s := s) (by omega) ⟨((F 148 1 rfl).trans (hG.2.2.2.1)), ((F 148 5 rfl).trans (hG.2.2.2.2.1)), ((F 148 0 rfl).trans (hG.2.2.2.2.2.1)), ((F 2 19 rfl).trans (hG.2.2.2.2.2.2.1)), ((F 11 7 rfl).trans (hG.2.2.2.2.2.2.2.1)), ((F 2 0 rfl).trans (hG.2.2.2.2.2.2.2.2.1)), ((F 11 6 rfl).trans (hG.2.2.2.2.2.2.2.2.2.1)), ((F 16 0 rfl).trans (hG.2.2.2.2.2.2.2.2.2.2.1)), ((F 11 4 rfl).trans (hG.2.2.2.2.2.2.2.2.2.2.2.1)), ((F 14 0 rfl).trans (hG.2.2.2.2.2.2.2.2.2.2.2.2.1)), ((F 11 5 rfl).trans (hG.2.2.2.2.2.2.2.2.2.2.2.2.2.1)), ((F 15 0 rfl).trans (hG.2.2.2.2.2.2.2.2.2.2.2.2.2.2.1)), ((F 148 4 rfl).trans (hG.2.2.2.2.2.2.2.2.2.2.2.2.2.2.2.1)), ((F 148 2 rfl).trans (hG.2.2.2.2.2.2.2.2.2.2.2.2.2.2.2.2.1)), trivial⟩ (by decide) (by omega) e0 e1 e2 ?_
    intro h26 F26 qa26 qb26 qc26
    rw [am_nfs_0] at qa26
    obtain ⟨l26, qc26⟩ := qc26
    refine am_e_pop n70_54 rfl ?_
    refine am_e_iinc (w := (nI (j + 1))) (ls' := [(8, .int (nI (j + 1))), (4, .long (((dr * 1103515245) + 12345) &&& 2147483647)), (0, .ref 0), (2, .int (nI n)), (3, .int (nI b)), (6, .int t), (7, .int i7)]) n70_55 rfl rfl (am_inc _) rfl ?_
    refine am_e_goto c70_56 t70_56 ?_
    refine am_Ek_ls (ls' := [(0, .ref 0), (2, .int (nI n)), (3, .int (nI b)), (4, .long (((dr * 1103515245) + 12345) &&& 2147483647)), (6, .int t), (7, .int i7), (8, .int (nI (j + 1)))]) ⟨rfl, rfl, rfl, rfl, rfl, rfl, rfl, trivial⟩ ?_
    exact ih (j + 1) (s + 1) _ _ _ (by omega) (by omega) (am_Fr_trans F (am_Fr_sub rfl F26)) qa26 qb26 qc26
theorem am_cc_e {h : am_H} {Q : Option Value → List am_k → am_H → Prop} {n b s : Nat} {t i7 : Int32} {dr : Int64} {lst : Int32} (hn : n ≤ 600) (hs9 : s + n ≤ 200000) (hG : am_Ts h am_ccL) (e0 : h 149 0 = .int 0) (e1 : h 149 1 = .int (nI s)) (e2 : h 148 6 = .int lst)
    (K : ∀ (h' : am_H) (dr' : Int64), am_Fr am_ccM h h' → h' 149 0 = .int 0 → h' 149 1 = .int (nI (s + n)) → (∃ l, h' 148 6 = .int l) → am_Ek false am_G0 am_m70 57 [(0, .ref 0), (2, .int (nI n)), (3, .int (nI b)), (4, .long (dr')), (6, .int t), (7, .int i7), (8, .int (nI n))] [] am_ks0 h' 0 0 Q) : am_Ek false am_G0 am_m70 33 [(0, .ref 0), (2, .int (nI n)), (3, .int (nI b)), (4, .long dr), (6, .int t), (7, .int i7), (8, .int (nI 0))] [] am_ks0 h 0 0 Q :=
  am_cc_l hn hs9 hG K n 0 s dr lst h (Nat.zero_add n) rfl am_Fr_refl e0 e1 e2
def am_cmM : List (Nat × Nat) := [(164, 59), (186, 0), (186, 1), (186, 2), (186, 3), (186, 4), (186, 5), (188, 1), (189, 1)]
def am_cmL : List (Nat × Nat × Value) := [(164, 23, .ref 168), (168, 4, .int 0), (164, 50, .ref 188), (164, 61, .int 0), (164, 47, .ref 186), (168, 0, .int 500), (164, 51, .ref 189), (164, 33, .ref 178), (178, 2, .int 0), (178, 0, .int 0), (164, 62, .int (-1)), (164, 58, .int (-1)), (164, 60, .int 0)]
theorem am_cm_l {h00 : am_H} {Q : Option Value → List am_k → am_H → Prop} {n b sfin : Nat} {t i7 : Int32} {had : Int64} (hn : n ≤ 600) (hs9 : sfin ≤ 200000) (hG : am_Ts h00 am_cmL)
    (K : ∀ (h' : am_H) (dr' : Int64), am_Fr am_cmM h00 h' → h' 188 1 = .int (nI 0) → h' 189 1 = .int (nI sfin) → h' 164 59 = .long dr' → am_Ek false am_G0 am_m127 59 [(0, .ref 164), (2, .int (nI n)), (3, .int (nI b)), (4, .long had), (6, .int t), (7, .int i7), (8, .int (nI n))] [] am_ks0 h' 0 0 Q) :
    ∀ (d j s : Nat) (dr : Int64) (h : am_H), j + d = n → s + d = sfin → am_Fr am_cmM h00 h → h 188 1 = .int (nI 0) → h 189 1 = .int (nI s) → h 164 59 = .long dr → am_Ek false am_G0 am_m127 37 [(0, .ref 164), (2, .int (nI n)), (3, .int (nI b)), (4, .long had), (6, .int t), (7, .int i7), (8, .int (nI j))] [] am_ks0 h 0 0 Q := by
  intro d
  induction d with
  | zero =>
    intro j s dr h hin hs F e0 e1 e2
    have hin : j = n := hin
    subst hin
    have hs1 : s = sfin := hs
    subst hs1
    refine am_e_iload n127_37 rfl ?_
    refine am_e_iload_n n127_38 rfl ?_
    refine am_e_cmpT n127_39 (am_c_geT (am_lt_irr _)) t127_39 ?_
    exact K _ _ F e0 e1 e2
  | succ d ih =>
    intro j s dr h hin hs F e0 e1 e2
    refine am_e_iload n127_37 rfl ?_
    refine am_e_iload_n n127_38 rfl ?_
    refine am_e_cmpF n127_39 (am_c_geF (nI_lt (by omega) (by omega))) ?_
    refine am_e_aload_n n127_40 rfl ?_
    refine am_e_sipush (w := 1000) n127_41 (by decide) ?_
    refine am_e_callV (L := [(0, .ref 164), (1, .int 1000)]) n127_42 rfl rfl rfl rfl rfl rfl rfl rfl ?_
    refine am_e_aload_n n83_0 rfl ?_
    refine am_e_aload_n n83_1 rfl ?_
    refine am_e_getf (v := .long dr) n83_2 rfl e2 ?_
    refine am_e_ldc2 (w := 1103515245) n83_3 (by decide) ?_
    refine am_e_lmul (w := (dr * 1103515245)) n83_4 rfl ?_
    refine am_e_ldc2 (w := 12345) n83_5 (by decide) ?_
    refine am_e_ladd (w := ((dr * 1103515245) + 12345)) n83_6 rfl ?_
    refine am_e_ldc2 (w := 2147483647) n83_7 (by decide) ?_
    refine am_e_land (w := (((dr * 1103515245) + 12345) &&& 2147483647)) n83_8 rfl ?_
    refine am_e_putf n83_9 rfl rfl ?_
    refine am_e_aload_n n83_10 rfl ?_
    refine am_e_getf (v := .long (((dr * 1103515245) + 12345) &&& 2147483647)) n83_11 rfl rfl ?_
    refine am_e_ldc2 (w := 65536) n83_12 (by decide) ?_
    refine am_e_ldiv (w := ((((dr * 1103515245) + 12345) &&& 2147483647) / 65536)) n83_13 (by decide) rfl ?_
    refine am_e_iload_n n83_14 rfl ?_
    refine am_e_i2l (w := 1000) n83_15 (by decide) ?_
    refine am_e_lrem (w := (((((dr * 1103515245) + 12345) &&& 2147483647) / 65536) - ((((dr * 1103515245) + 12345) &&& 2147483647) / 65536) / 1000 * 1000)) n83_16 (by decide) rfl ?_
    refine am_e_l2i (w := ((((((dr * 1103515245) + 12345) &&& 2147483647) / 65536) - ((((dr * 1103515245) + 12345) &&& 2147483647) / 65536) / 1000 * 1000).toInt32)) n83_17 rfl ?_
    refine am_e_iret c83_18 rfl rfl rfl ?_
    refine am_e_aload_n n127_43 rfl ?_
    refine am_e_getf (v := .ref 168) n127_44 rfl ((F 164 23 rfl).trans (hG.1)) ?_
    refine am_e_iconst (w := 4) n127_45 rfl ?_
    refine am_e_iaload (v := 0) (q := 4) n127_46 rfl (by decide) (by decide) ((F 168 4 rfl).trans (hG.2.1)) ?_
    refine am_e_cmpT n127_47 (am_c_geT (am_ch_m _)) t127_47 ?_
    refine am_e_iconst (w := 0) n127_50 rfl ?_
    refine am_e_istore (ls' := [(9, .int 0), (0, .ref 164), (2, .int (nI n)), (3, .int (nI b)), (4, .long had), (6, .int t), (7, .int i7), (8, .int (nI j))]) n127_51 rfl rfl ?_
    refine am_e_aload_n n127_52 rfl ?_
    refine am_e_iconst (w := 1) n127_53 rfl ?_
    refine am_e_iload n127_54 rfl ?_
    refine am_e_iconst (w := 0) n127_55 rfl ?_
    refine am_e_callV (L := [(0, .ref 164), (1, .int 1), (2, .int 0), (3, .int 0)]) n127_56 rfl rfl rfl rfl rfl rfl rfl rfl ?_
    refine am_aS10 (f := 0) (s := s) ⟨((F 164 50 rfl).trans (hG.2.2.1)), ((F 164 61 rfl).trans (hG.2.2.2.1)), ((F 164 47 rfl).trans (hG.2.2.2.2.1)), ((F 164 23 rfl).trans (hG.1)), ((F 168 0 rfl).trans (hG.2.2.2.2.2.1)), ((F 164 51 rfl).trans (hG.2.2.2.2.2.2.1)), ((F 164 33 rfl).trans (hG.2.2.2.2.2.2.2.1)), ((F 178 2 rfl).trans (hG.2.2.2.2.2.2.2.2.1)), ((F 178 0 rfl).trans (hG.2.2.2.2.2.2.2.2.2.1)), ((F 164 62 rfl).trans (hG.2.2.2.2.2.2.2.2.2.2.1)), ((F 164 58 rfl).trans (hG.2.2.2.2.2.2.2.2.2.2.2.1)), ((F 164 60 rfl).trans (hG.2.2.2.2.2.2.2.2.2.2.2.2.1)), trivial⟩ (by decide) e0 e1 ?_
    intro h27 F27 qa27 qb27
    refine am_e_iinc (w := (nI (j + 1))) (ls' := [(8, .int (nI (j + 1))), (9, .int 0), (0, .ref 164), (2, .int (nI n)), (3, .int (nI b)), (4, .long had), (6, .int t), (7, .int i7)]) n127_57 rfl rfl (am_inc _) rfl ?_
    refine am_e_goto c127_58 t127_58 ?_
    refine am_Ek_ls (ls' := [(0, .ref 164), (2, .int (nI n)), (3, .int (nI b)), (4, .long had), (6, .int t), (7, .int i7), (8, .int (nI (j + 1)))]) ⟨rfl, rfl, rfl, rfl, rfl, rfl, rfl, trivial⟩ ?_
    exact ih (j + 1) (s + 1) _ _ (by omega) (by omega) (am_Fr_trans (am_Fr_up rfl F) (am_Fr_sub rfl F27)) qa27 qb27 ((F27 164 59 rfl).trans rfl)
theorem am_cm_e {h : am_H} {Q : Option Value → List am_k → am_H → Prop} {n b s : Nat} {t i7 : Int32} {had : Int64} {dr : Int64} (hn : n ≤ 600) (hs9 : s + n ≤ 200000) (hG : am_Ts h am_cmL) (e0 : h 188 1 = .int (nI 0)) (e1 : h 189 1 = .int (nI s)) (e2 : h 164 59 = .long dr)
    (K : ∀ (h' : am_H) (dr' : Int64), am_Fr am_cmM h h' → h' 188 1 = .int (nI 0) → h' 189 1 = .int (nI (s + n)) → h' 164 59 = .long dr' → am_Ek false am_G0 am_m127 59 [(0, .ref 164), (2, .int (nI n)), (3, .int (nI b)), (4, .long had), (6, .int t), (7, .int i7), (8, .int (nI n))] [] am_ks0 h' 0 0 Q) : am_Ek false am_G0 am_m127 37 [(0, .ref 164), (2, .int (nI n)), (3, .int (nI b)), (4, .long had), (6, .int t), (7, .int i7), (8, .int (nI 0))] [] am_ks0 h 0 0 Q :=
  am_cm_l hn hs9 hG K n 0 s dr h (Nat.zero_add n) rfl am_Fr_refl e0 e1 e2
theorem am_op27_m {lk : List Value → List am_k → am_H → Option am_O} {xs : Nat → Int32} {h : am_H} {Q : Option Value → List am_k → am_H → Prop} {a1 : Int32} {a2 : Int32} {a3 : Int32} {a4 : Int32} {a5 : Int32} (ha : a1 < (0 : Int32)) (hT : am_T h) (hx1 : xs 1 = a1) (hx2 : xs 2 = a2) (hx3 : xs 3 = a3) (hx4 : xs 4 = a4) (hx5 : xs 5 = a5) (K : ∀ h', am_Ek false (am_P1 (some (6, xs)) lk) am_m136 841 [(4, .int 0), (3, .ref 202), (2, .ref 164), (1, .ref 0), (0, .retAddr 0)] [] am_ks0 h' 203 4392 Q) : am_Ek false (am_P1 (some (6, xs)) lk) am_m136 729 [(4, .int 0), (3, .ref 202), (2, .ref 164), (1, .ref 0), (0, .retAddr 0)] [] am_ks0 h 203 4392 Q := by
  refine am_e_aload_n n136_729 rfl ?_
  refine am_e_sload_n n136_730 rfl ?_
  refine am_e_iload n136_731 rfl ?_
  refine am_e_iconst (w := 1) n136_732 rfl ?_
  refine am_e_iadd (w := 1) n136_733 (by decide) ?_
  refine am_e_sald1 n136_734 rfl (by decide) (by decide) hx1 ?_
  refine am_e_sload_n n136_735 rfl ?_
  refine am_e_iload n136_736 rfl ?_
  refine am_e_iconst (w := 2) n136_737 rfl ?_
  refine am_e_iadd (w := 2) n136_738 (by decide) ?_
  refine am_e_sald1 n136_739 rfl (by decide) (by decide) hx2 ?_
  refine am_e_sload_n n136_740 rfl ?_
  refine am_e_iload n136_741 rfl ?_
  refine am_e_iconst (w := 3) n136_742 rfl ?_
  refine am_e_iadd (w := 3) n136_743 (by decide) ?_
  refine am_e_sald1 n136_744 rfl (by decide) (by decide) hx3 ?_
  refine am_e_callV (L := [(0, .ref 0), (1, .int a1), (2, .int a2), (3, .int a3)]) n136_745 rfl rfl rfl rfl rfl rfl rfl rfl ?_
  refine am_e_iload_n n70_0 rfl ?_
  refine am_e_ifT n70_1 (am_c_ltT ha) t70_1 ?_
  refine am_e_iconst (w := (-1)) n70_12 rfl ?_
  refine am_e_iret c70_13 rfl rfl rfl ?_
  refine am_e_aload_n n136_746 rfl ?_
  refine am_e_sload_n n136_747 rfl ?_
  refine am_e_iload n136_748 rfl ?_
  refine am_e_iconst (w := 1) n136_749 rfl ?_
  refine am_e_iadd (w := 1) n136_750 (by decide) ?_
  refine am_e_sald1 n136_751 rfl (by decide) (by decide) hx1 ?_
  refine am_e_sload_n n136_752 rfl ?_
  refine am_e_iload n136_753 rfl ?_
  refine am_e_iconst (w := 2) n136_754 rfl ?_
  refine am_e_iadd (w := 2) n136_755 (by decide) ?_
  refine am_e_sald1 n136_756 rfl (by decide) (by decide) hx2 ?_
  refine am_e_sload_n n136_757 rfl ?_
  refine am_e_iload n136_758 rfl ?_
  refine am_e_iconst (w := 3) n136_759 rfl ?_
  refine am_e_iadd (w := 3) n136_760 (by decide) ?_
  refine am_e_sald1 n136_761 rfl (by decide) (by decide) hx3 ?_
  refine am_e_callV (L := [(0, .ref 164), (1, .int a1), (2, .int a2), (3, .int a3)]) n136_762 rfl rfl rfl rfl rfl rfl rfl rfl ?_
  refine am_e_aload_n n127_0 rfl ?_
  refine am_e_iconst (w := 0) n127_1 rfl ?_
  refine am_e_putf n127_2 rfl rfl ?_
  refine am_e_iload_n n127_3 rfl ?_
  refine am_e_ifT n127_4 (am_c_ltT ha) t127_4 ?_
  refine am_e_iconst (w := (-1)) n127_15 rfl ?_
  refine am_e_iret c127_16 rfl rfl rfl ?_
  refine am_e_cmpT n136_763 (am_c_eqT (by decide)) t136_763 ?_
  exact K _
theorem am_op27_nm {lk : List Value → List am_k → am_H → Option am_O} {xs : Nat → Int32} {h : am_H} {Q : Option Value → List am_k → am_H → Prop} {a1 : Int32} {a2 : Int32} {a3 : Int32} {a4 : Int32} {a5 : Int32} (h1 : ¬ a1 < (0 : Int32)) (ha : a2 < (1 : Int32)) (hT : am_T h) (hx1 : xs 1 = a1) (hx2 : xs 2 = a2) (hx3 : xs 3 = a3) (hx4 : xs 4 = a4) (hx5 : xs 5 = a5) (K : ∀ h', am_Ek false (am_P1 (some (6, xs)) lk) am_m136 841 [(4, .int 0), (3, .ref 202), (2, .ref 164), (1, .ref 0), (0, .retAddr 0)] [] am_ks0 h' 203 4392 Q) : am_Ek false (am_P1 (some (6, xs)) lk) am_m136 729 [(4, .int 0), (3, .ref 202), (2, .ref 164), (1, .ref 0), (0, .retAddr 0)] [] am_ks0 h 203 4392 Q := by
  refine am_e_aload_n n136_729 rfl ?_
  refine am_e_sload_n n136_730 rfl ?_
  refine am_e_iload n136_731 rfl ?_
  refine am_e_iconst (w := 1) n136_732 rfl ?_
  refine am_e_iadd (w := 1) n136_733 (by decide) ?_
  refine am_e_sald1 n136_734 rfl (by decide) (by decide) hx1 ?_
  refine am_e_sload_n n136_735 rfl ?_
  refine am_e_iload n136_736 rfl ?_
  refine am_e_iconst (w := 2) n136_737 rfl ?_
  refine am_e_iadd (w := 2) n136_738 (by decide) ?_
  refine am_e_sald1 n136_739 rfl (by decide) (by decide) hx2 ?_
  refine am_e_sload_n n136_740 rfl ?_
  refine am_e_iload n136_741 rfl ?_
  refine am_e_iconst (w := 3) n136_742 rfl ?_
  refine am_e_iadd (w := 3) n136_743 (by decide) ?_
  refine am_e_sald1 n136_744 rfl (by decide) (by decide) hx3 ?_
  refine am_e_callV (L := [(0, .ref 0), (1, .int a1), (2, .int a2), (3, .int a3)]) n136_745 rfl rfl rfl rfl rfl rfl rfl rfl ?_
  refine am_e_iload_n n70_0 rfl ?_
  refine am_e_ifF n70_1 (am_c_ltF h1) ?_
  refine am_e_iload_n n70_2 rfl ?_
  refine am_e_iconst (w := 1) n70_3 rfl ?_
  refine am_e_sipush (w := 600) n70_4 (by decide) ?_
  refine am_e_callS (L := [(0, .int a2), (1, .int 1), (2, .int 600)]) n70_5 rfl rfl rfl rfl rfl rfl rfl ?_
  refine am_e_iload_n n30_0 rfl ?_
  refine am_e_iload_n n30_1 rfl ?_
  refine am_e_cmpT n30_2 (am_c_ltT ha) t30_2 ?_
  refine am_e_iconst (w := 0) n30_8 rfl ?_
  refine am_e_iret c30_9 rfl rfl rfl ?_
  refine am_e_ifT n70_6 (am_c_eqT (by decide)) t70_6 ?_
  refine am_e_iconst (w := (-1)) n70_12 rfl ?_
  refine am_e_iret c70_13 rfl rfl rfl ?_
  refine am_e_aload_n n136_746 rfl ?_
  refine am_e_sload_n n136_747 rfl ?_
  refine am_e_iload n136_748 rfl ?_
  refine am_e_iconst (w := 1) n136_749 rfl ?_
  refine am_e_iadd (w := 1) n136_750 (by decide) ?_
  refine am_e_sald1 n136_751 rfl (by decide) (by decide) hx1 ?_
  refine am_e_sload_n n136_752 rfl ?_
  refine am_e_iload n136_753 rfl ?_
  refine am_e_iconst (w := 2) n136_754 rfl ?_
  refine am_e_iadd (w := 2) n136_755 (by decide) ?_
  refine am_e_sald1 n136_756 rfl (by decide) (by decide) hx2 ?_
  refine am_e_sload_n n136_757 rfl ?_
  refine am_e_iload n136_758 rfl ?_
  refine am_e_iconst (w := 3) n136_759 rfl ?_
  refine am_e_iadd (w := 3) n136_760 (by decide) ?_
  refine am_e_sald1 n136_761 rfl (by decide) (by decide) hx3 ?_
  refine am_e_callV (L := [(0, .ref 164), (1, .int a1), (2, .int a2), (3, .int a3)]) n136_762 rfl rfl rfl rfl rfl rfl rfl rfl ?_
  refine am_e_aload_n n127_0 rfl ?_
  refine am_e_iconst (w := 0) n127_1 rfl ?_
  refine am_e_putf n127_2 rfl rfl ?_
  refine am_e_iload_n n127_3 rfl ?_
  refine am_e_ifF n127_4 (am_c_ltF h1) ?_
  refine am_e_iload_n n127_5 rfl ?_
  refine am_e_iconst (w := 1) n127_6 rfl ?_
  refine am_e_sipush (w := 600) n127_7 (by decide) ?_
  refine am_e_callS (L := [(0, .int a2), (1, .int 1), (2, .int 600)]) n127_8 rfl rfl rfl rfl rfl rfl rfl ?_
  refine am_e_iload_n n87_0 rfl ?_
  refine am_e_iload_n n87_1 rfl ?_
  refine am_e_cmpT n87_2 (am_c_ltT ha) t87_2 ?_
  refine am_e_iconst (w := 0) n87_8 rfl ?_
  refine am_e_iret c87_9 rfl rfl rfl ?_
  refine am_e_ifT n127_9 (am_c_eqT (by decide)) t127_9 ?_
  refine am_e_iconst (w := (-1)) n127_15 rfl ?_
  refine am_e_iret c127_16 rfl rfl rfl ?_
  refine am_e_cmpT n136_763 (am_c_eqT (by decide)) t136_763 ?_
  exact K _
theorem am_op27_np {lk : List Value → List am_k → am_H → Option am_O} {xs : Nat → Int32} {h : am_H} {Q : Option Value → List am_k → am_H → Prop} {a1 : Int32} {a2 : Int32} {a3 : Int32} {a4 : Int32} {a5 : Int32} (h1 : ¬ a1 < (0 : Int32)) (hb : ¬ a2 < (1 : Int32)) (ha : (600 : Int32) < a2) (hT : am_T h) (hx1 : xs 1 = a1) (hx2 : xs 2 = a2) (hx3 : xs 3 = a3) (hx4 : xs 4 = a4) (hx5 : xs 5 = a5) (K : ∀ h', am_Ek false (am_P1 (some (6, xs)) lk) am_m136 841 [(4, .int 0), (3, .ref 202), (2, .ref 164), (1, .ref 0), (0, .retAddr 0)] [] am_ks0 h' 203 4392 Q) : am_Ek false (am_P1 (some (6, xs)) lk) am_m136 729 [(4, .int 0), (3, .ref 202), (2, .ref 164), (1, .ref 0), (0, .retAddr 0)] [] am_ks0 h 203 4392 Q := by
  refine am_e_aload_n n136_729 rfl ?_
  refine am_e_sload_n n136_730 rfl ?_
  refine am_e_iload n136_731 rfl ?_
  refine am_e_iconst (w := 1) n136_732 rfl ?_
  refine am_e_iadd (w := 1) n136_733 (by decide) ?_
  refine am_e_sald1 n136_734 rfl (by decide) (by decide) hx1 ?_
  refine am_e_sload_n n136_735 rfl ?_
  refine am_e_iload n136_736 rfl ?_
  refine am_e_iconst (w := 2) n136_737 rfl ?_
  refine am_e_iadd (w := 2) n136_738 (by decide) ?_
  refine am_e_sald1 n136_739 rfl (by decide) (by decide) hx2 ?_
  refine am_e_sload_n n136_740 rfl ?_
  refine am_e_iload n136_741 rfl ?_
  refine am_e_iconst (w := 3) n136_742 rfl ?_
  refine am_e_iadd (w := 3) n136_743 (by decide) ?_
  refine am_e_sald1 n136_744 rfl (by decide) (by decide) hx3 ?_
  refine am_e_callV (L := [(0, .ref 0), (1, .int a1), (2, .int a2), (3, .int a3)]) n136_745 rfl rfl rfl rfl rfl rfl rfl rfl ?_
  refine am_e_iload_n n70_0 rfl ?_
  refine am_e_ifF n70_1 (am_c_ltF h1) ?_
  refine am_e_iload_n n70_2 rfl ?_
  refine am_e_iconst (w := 1) n70_3 rfl ?_
  refine am_e_sipush (w := 600) n70_4 (by decide) ?_
  refine am_e_callS (L := [(0, .int a2), (1, .int 1), (2, .int 600)]) n70_5 rfl rfl rfl rfl rfl rfl rfl ?_
  refine am_e_iload_n n30_0 rfl ?_
  refine am_e_iload_n n30_1 rfl ?_
  refine am_e_cmpF n30_2 (am_c_ltF hb) ?_
  refine am_e_iload_n n30_3 rfl ?_
  refine am_e_iload_n n30_4 rfl ?_
  refine am_e_cmpT n30_5 (am_c_gtT ha) t30_5 ?_
  refine am_e_iconst (w := 0) n30_8 rfl ?_
  refine am_e_iret c30_9 rfl rfl rfl ?_
  refine am_e_ifT n70_6 (am_c_eqT (by decide)) t70_6 ?_
  refine am_e_iconst (w := (-1)) n70_12 rfl ?_
  refine am_e_iret c70_13 rfl rfl rfl ?_
  refine am_e_aload_n n136_746 rfl ?_
  refine am_e_sload_n n136_747 rfl ?_
  refine am_e_iload n136_748 rfl ?_
  refine am_e_iconst (w := 1) n136_749 rfl ?_
  refine am_e_iadd (w := 1) n136_750 (by decide) ?_
  refine am_e_sald1 n136_751 rfl (by decide) (by decide) hx1 ?_
  refine am_e_sload_n n136_752 rfl ?_
  refine am_e_iload n136_753 rfl ?_
  refine am_e_iconst (w := 2) n136_754 rfl ?_
  refine am_e_iadd (w := 2) n136_755 (by decide) ?_
  refine am_e_sald1 n136_756 rfl (by decide) (by decide) hx2 ?_
  refine am_e_sload_n n136_757 rfl ?_
  refine am_e_iload n136_758 rfl ?_
  refine am_e_iconst (w := 3) n136_759 rfl ?_
  refine am_e_iadd (w := 3) n136_760 (by decide) ?_
  refine am_e_sald1 n136_761 rfl (by decide) (by decide) hx3 ?_
  refine am_e_callV (L := [(0, .ref 164), (1, .int a1), (2, .int a2), (3, .int a3)]) n136_762 rfl rfl rfl rfl rfl rfl rfl rfl ?_
  refine am_e_aload_n n127_0 rfl ?_
  refine am_e_iconst (w := 0) n127_1 rfl ?_
  refine am_e_putf n127_2 rfl rfl ?_
  refine am_e_iload_n n127_3 rfl ?_
  refine am_e_ifF n127_4 (am_c_ltF h1) ?_
  refine am_e_iload_n n127_5 rfl ?_
  refine am_e_iconst (w := 1) n127_6 rfl ?_
  refine am_e_sipush (w := 600) n127_7 (by decide) ?_
  refine am_e_callS (L := [(0, .int a2), (1, .int 1), (2, .int 600)]) n127_8 rfl rfl rfl rfl rfl rfl rfl ?_
  refine am_e_iload_n n87_0 rfl ?_
  refine am_e_iload_n n87_1 rfl ?_
  refine am_e_cmpF n87_2 (am_c_ltF hb) ?_
  refine am_e_iload_n n87_3 rfl ?_
  refine am_e_iload_n n87_4 rfl ?_
  refine am_e_cmpT n87_5 (am_c_gtT ha) t87_5 ?_
  refine am_e_iconst (w := 0) n87_8 rfl ?_
  refine am_e_iret c87_9 rfl rfl rfl ?_
  refine am_e_ifT n127_9 (am_c_eqT (by decide)) t127_9 ?_
  refine am_e_iconst (w := (-1)) n127_15 rfl ?_
  refine am_e_iret c127_16 rfl rfl rfl ?_
  refine am_e_cmpT n136_763 (am_c_eqT (by decide)) t136_763 ?_
  exact K _
theorem am_op27_bm {lk : List Value → List am_k → am_H → Option am_O} {xs : Nat → Int32} {h : am_H} {Q : Option Value → List am_k → am_H → Prop} {a1 : Int32} {a3 : Int32} {a4 : Int32} {a5 : Int32} {n : Nat} (h1 : ¬ a1 < (0 : Int32)) (hn1 : 1 ≤ n) (hn9 : n ≤ 600) (ha : a3 < (0 : Int32)) (hT : am_T h) (hx1 : xs 1 = a1) (hx2 : xs 2 = (nI n)) (hx3 : xs 3 = a3) (hx4 : xs 4 = a4) (hx5 : xs 5 = a5) (K : ∀ h', am_Ek false (am_P1 (some (6, xs)) lk) am_m136 841 [(4, .int 0), (3, .ref 202), (2, .ref 164), (1, .ref 0), (0, .retAddr 0)] [] am_ks0 h' 203 4392 Q) : am_Ek false (am_P1 (some (6, xs)) lk) am_m136 729 [(4, .int 0), (3, .ref 202), (2, .ref 164), (1, .ref 0), (0, .retAddr 0)] [] am_ks0 h 203 4392 Q := by
  refine am_e_aload_n n136_729 rfl ?_
  refine am_e_sload_n n136_730 rfl ?_
  refine am_e_iload n136_731 rfl ?_
  refine am_e_iconst (w := 1) n136_732 rfl ?_
  refine am_e_iadd (w := 1) n136_733 (by decide) ?_
  refine am_e_sald1 n136_734 rfl (by decide) (by decide) hx1 ?_
  refine am_e_sload_n n136_735 rfl ?_
  refine am_e_iload n136_736 rfl ?_
  refine am_e_iconst (w := 2) n136_737 rfl ?_
  refine am_e_iadd (w := 2) n136_738 (by decide) ?_
  refine am_e_sald1 n136_739 rfl (by decide) (by decide) hx2 ?_
  refine am_e_sload_n n136_740 rfl ?_
  refine am_e_iload n136_741 rfl ?_
  refine am_e_iconst (w := 3) n136_742 rfl ?_
  refine am_e_iadd (w := 3) n136_743 (by decide) ?_
  refine am_e_sald1 n136_744 rfl (by decide) (by decide) hx3 ?_
  refine am_e_callV (L := [(0, .ref 0), (1, .int a1), (2, .int (nI n)), (3, .int a3)]) n136_745 rfl rfl rfl rfl rfl rfl rfl rfl ?_
  refine am_e_iload_n n70_0 rfl ?_
  refine am_e_ifF n70_1 (am_c_ltF h1) ?_
  refine am_e_iload_n n70_2 rfl ?_
  refine am_e_iconst (w := 1) n70_3 rfl ?_
  refine am_e_sipush (w := 600) n70_4 (by decide) ?_
  refine am_e_callS (L := [(0, .int (nI n)), (1, .int 1), (2, .int 600)]) n70_5 rfl rfl rfl rfl rfl rfl rfl ?_
  refine am_e_iload_n n30_0 rfl ?_
  refine am_e_iload_n n30_1 rfl ?_
  refine am_e_cmpF n30_2 (am_c_ltF (nI_nlt (b := 1) hn1 (by omega))) ?_
  refine am_e_iload_n n30_3 rfl ?_
  refine am_e_iload_n n30_4 rfl ?_
  refine am_e_cmpF n30_5 (am_c_gtF (nI_nlt (a := 600) (b := n) hn9 (by decide))) ?_
  refine am_e_iconst (w := 1) n30_6 rfl ?_
  refine am_e_goto c30_7 t30_7 ?_
  refine am_e_iret c30_9 rfl rfl rfl ?_
  refine am_e_ifF n70_6 (am_c_eqF (by decide)) ?_
  refine am_e_iload_n n70_7 rfl ?_
  refine am_e_iconst (w := 0) n70_8 rfl ?_
  refine am_e_sipush (w := 9999) n70_9 (by decide) ?_
  refine am_e_callS (L := [(0, .int a3), (1, .int 0), (2, .int 9999)]) n70_10 rfl rfl rfl rfl rfl rfl rfl ?_
  refine am_e_iload_n n30_0 rfl ?_
  refine am_e_iload_n n30_1 rfl ?_
  refine am_e_cmpT n30_2 (am_c_ltT ha) t30_2 ?_
  refine am_e_iconst (w := 0) n30_8 rfl ?_
  refine am_e_iret c30_9 rfl rfl rfl ?_
  refine am_e_ifF n70_11 (am_c_neF (by decide)) ?_
  refine am_e_iconst (w := (-1)) n70_12 rfl ?_
  refine am_e_iret c70_13 rfl rfl rfl ?_
  refine am_e_aload_n n136_746 rfl ?_
  refine am_e_sload_n n136_747 rfl ?_
  refine am_e_iload n136_748 rfl ?_
  refine am_e_iconst (w := 1) n136_749 rfl ?_
  refine am_e_iadd (w := 1) n136_750 (by decide) ?_
  refine am_e_sald1 n136_751 rfl (by decide) (by decide) hx1 ?_
  refine am_e_sload_n n136_752 rfl ?_
  refine am_e_iload n136_753 rfl ?_
  refine am_e_iconst (w := 2) n136_754 rfl ?_
  refine am_e_iadd (w := 2) n136_755 (by decide) ?_
  refine am_e_sald1 n136_756 rfl (by decide) (by decide) hx2 ?_
  refine am_e_sload_n n136_757 rfl ?_
  refine am_e_iload n136_758 rfl ?_
  refine am_e_iconst (w := 3) n136_759 rfl ?_
  refine am_e_iadd (w := 3) n136_760 (by decide) ?_
  refine am_e_sald1 n136_761 rfl (by decide) (by decide) hx3 ?_
  refine am_e_callV (L := [(0, .ref 164), (1, .int a1), (2, .int (nI n)), (3, .int a3)]) n136_762 rfl rfl rfl rfl rfl rfl rfl rfl ?_
  refine am_e_aload_n n127_0 rfl ?_
  refine am_e_iconst (w := 0) n127_1 rfl ?_
  refine am_e_putf n127_2 rfl rfl ?_
  refine am_e_iload_n n127_3 rfl ?_
  refine am_e_ifF n127_4 (am_c_ltF h1) ?_
  refine am_e_iload_n n127_5 rfl ?_
  refine am_e_iconst (w := 1) n127_6 rfl ?_
  refine am_e_sipush (w := 600) n127_7 (by decide) ?_
  refine am_e_callS (L := [(0, .int (nI n)), (1, .int 1), (2, .int 600)]) n127_8 rfl rfl rfl rfl rfl rfl rfl ?_
  refine am_e_iload_n n87_0 rfl ?_
  refine am_e_iload_n n87_1 rfl ?_
  refine am_e_cmpF n87_2 (am_c_ltF (nI_nlt (b := 1) hn1 (by omega))) ?_
  refine am_e_iload_n n87_3 rfl ?_
  refine am_e_iload_n n87_4 rfl ?_
  refine am_e_cmpF n87_5 (am_c_gtF (nI_nlt (a := 600) (b := n) hn9 (by decide))) ?_
  refine am_e_iconst (w := 1) n87_6 rfl ?_
  refine am_e_goto c87_7 t87_7 ?_
  refine am_e_iret c87_9 rfl rfl rfl ?_
  refine am_e_ifF n127_9 (am_c_eqF (by decide)) ?_
  refine am_e_iload_n n127_10 rfl ?_
  refine am_e_iconst (w := 0) n127_11 rfl ?_
  refine am_e_sipush (w := 9999) n127_12 (by decide) ?_
  refine am_e_callS (L := [(0, .int a3), (1, .int 0), (2, .int 9999)]) n127_13 rfl rfl rfl rfl rfl rfl rfl ?_
  refine am_e_iload_n n87_0 rfl ?_
  refine am_e_iload_n n87_1 rfl ?_
  refine am_e_cmpT n87_2 (am_c_ltT ha) t87_2 ?_
  refine am_e_iconst (w := 0) n87_8 rfl ?_
  refine am_e_iret c87_9 rfl rfl rfl ?_
  refine am_e_ifF n127_14 (am_c_neF (by decide)) ?_
  refine am_e_iconst (w := (-1)) n127_15 rfl ?_
  refine am_e_iret c127_16 rfl rfl rfl ?_
  refine am_e_cmpT n136_763 (am_c_eqT (by decide)) t136_763 ?_
  exact K _
theorem am_op27_bp {lk : List Value → List am_k → am_H → Option am_O} {xs : Nat → Int32} {h : am_H} {Q : Option Value → List am_k → am_H → Prop} {a1 : Int32} {a3 : Int32} {a4 : Int32} {a5 : Int32} {n : Nat} (h1 : ¬ a1 < (0 : Int32)) (hn1 : 1 ≤ n) (hn9 : n ≤ 600) (hb : ¬ a3 < (0 : Int32)) (ha : (9999 : Int32) < a3) (hT : am_T h) (hx1 : xs 1 = a1) (hx2 : xs 2 = (nI n)) (hx3 : xs 3 = a3) (hx4 : xs 4 = a4) (hx5 : xs 5 = a5) (K : ∀ h', am_Ek false (am_P1 (some (6, xs)) lk) am_m136 841 [(4, .int 0), (3, .ref 202), (2, .ref 164), (1, .ref 0), (0, .retAddr 0)] [] am_ks0 h' 203 4392 Q) : am_Ek false (am_P1 (some (6, xs)) lk) am_m136 729 [(4, .int 0), (3, .ref 202), (2, .ref 164), (1, .ref 0), (0, .retAddr 0)] [] am_ks0 h 203 4392 Q := by
  refine am_e_aload_n n136_729 rfl ?_
  refine am_e_sload_n n136_730 rfl ?_
  refine am_e_iload n136_731 rfl ?_
  refine am_e_iconst (w := 1) n136_732 rfl ?_
  refine am_e_iadd (w := 1) n136_733 (by decide) ?_
  refine am_e_sald1 n136_734 rfl (by decide) (by decide) hx1 ?_
  refine am_e_sload_n n136_735 rfl ?_
  refine am_e_iload n136_736 rfl ?_
  refine am_e_iconst (w := 2) n136_737 rfl ?_
  refine am_e_iadd (w := 2) n136_738 (by decide) ?_
  refine am_e_sald1 n136_739 rfl (by decide) (by decide) hx2 ?_
  refine am_e_sload_n n136_740 rfl ?_
  refine am_e_iload n136_741 rfl ?_
  refine am_e_iconst (w := 3) n136_742 rfl ?_
  refine am_e_iadd (w := 3) n136_743 (by decide) ?_
  refine am_e_sald1 n136_744 rfl (by decide) (by decide) hx3 ?_
  refine am_e_callV (L := [(0, .ref 0), (1, .int a1), (2, .int (nI n)), (3, .int a3)]) n136_745 rfl rfl rfl rfl rfl rfl rfl rfl ?_
  refine am_e_iload_n n70_0 rfl ?_
  refine am_e_ifF n70_1 (am_c_ltF h1) ?_
  refine am_e_iload_n n70_2 rfl ?_
  refine am_e_iconst (w := 1) n70_3 rfl ?_
  refine am_e_sipush (w := 600) n70_4 (by decide) ?_
  refine am_e_callS (L := [(0, .int (nI n)), (1, .int 1), (2, .int 600)]) n70_5 rfl rfl rfl rfl rfl rfl rfl ?_
  refine am_e_iload_n n30_0 rfl ?_
  refine am_e_iload_n n30_1 rfl ?_
  refine am_e_cmpF n30_2 (am_c_ltF (nI_nlt (b := 1) hn1 (by omega))) ?_
  refine am_e_iload_n n30_3 rfl ?_
  refine am_e_iload_n n30_4 rfl ?_
  refine am_e_cmpF n30_5 (am_c_gtF (nI_nlt (a := 600) (b := n) hn9 (by decide))) ?_
  refine am_e_iconst (w := 1) n30_6 rfl ?_
  refine am_e_goto c30_7 t30_7 ?_
  refine am_e_iret c30_9 rfl rfl rfl ?_
  refine am_e_ifF n70_6 (am_c_eqF (by decide)) ?_
  refine am_e_iload_n n70_7 rfl ?_
  refine am_e_iconst (w := 0) n70_8 rfl ?_
  refine am_e_sipush (w := 9999) n70_9 (by decide) ?_
  refine am_e_callS (L := [(0, .int a3), (1, .int 0), (2, .int 9999)]) n70_10 rfl rfl rfl rfl rfl rfl rfl ?_
  refine am_e_iload_n n30_0 rfl ?_
  refine am_e_iload_n n30_1 rfl ?_
  refine am_e_cmpF n30_2 (am_c_ltF hb) ?_
  refine am_e_iload_n n30_3 rfl ?_
  refine am_e_iload_n n30_4 rfl ?_
  refine am_e_cmpT n30_5 (am_c_gtT ha) t30_5 ?_
  refine am_e_iconst (w := 0) n30_8 rfl ?_
  refine am_e_iret c30_9 rfl rfl rfl ?_
  refine am_e_ifF n70_11 (am_c_neF (by decide)) ?_
  refine am_e_iconst (w := (-1)) n70_12 rfl ?_
  refine am_e_iret c70_13 rfl rfl rfl ?_
  refine am_e_aload_n n136_746 rfl ?_
  refine am_e_sload_n n136_747 rfl ?_
  refine am_e_iload n136_748 rfl ?_
  refine am_e_iconst (w := 1) n136_749 rfl ?_
  refine am_e_iadd (w := 1) n136_750 (by decide) ?_
  refine am_e_sald1 n136_751 rfl (by decide) (by decide) hx1 ?_
  refine am_e_sload_n n136_752 rfl ?_
  refine am_e_iload n136_753 rfl ?_
  refine am_e_iconst (w := 2) n136_754 rfl ?_
  refine am_e_iadd (w := 2) n136_755 (by decide) ?_
  refine am_e_sald1 n136_756 rfl (by decide) (by decide) hx2 ?_
  refine am_e_sload_n n136_757 rfl ?_
  refine am_e_iload n136_758 rfl ?_
  refine am_e_iconst (w := 3) n136_759 rfl ?_
  refine am_e_iadd (w := 3) n136_760 (by decide) ?_
  refine am_e_sald1 n136_761 rfl (by decide) (by decide) hx3 ?_
  refine am_e_callV (L := [(0, .ref 164), (1, .int a1), (2, .int (nI n)), (3, .int a3)]) n136_762 rfl rfl rfl rfl rfl rfl rfl rfl ?_
  refine am_e_aload_n n127_0 rfl ?_
  refine am_e_iconst (w := 0) n127_1 rfl ?_
  refine am_e_putf n127_2 rfl rfl ?_
  refine am_e_iload_n n127_3 rfl ?_
  refine am_e_ifF n127_4 (am_c_ltF h1) ?_
  refine am_e_iload_n n127_5 rfl ?_
  refine am_e_iconst (w := 1) n127_6 rfl ?_
  refine am_e_sipush (w := 600) n127_7 (by decide) ?_
  refine am_e_callS (L := [(0, .int (nI n)), (1, .int 1), (2, .int 600)]) n127_8 rfl rfl rfl rfl rfl rfl rfl ?_
  refine am_e_iload_n n87_0 rfl ?_
  refine am_e_iload_n n87_1 rfl ?_
  refine am_e_cmpF n87_2 (am_c_ltF (nI_nlt (b := 1) hn1 (by omega))) ?_
  refine am_e_iload_n n87_3 rfl ?_
  refine am_e_iload_n n87_4 rfl ?_
  refine am_e_cmpF n87_5 (am_c_gtF (nI_nlt (a := 600) (b := n) hn9 (by decide))) ?_
  refine am_e_iconst (w := 1) n87_6 rfl ?_
  refine am_e_goto c87_7 t87_7 ?_
  refine am_e_iret c87_9 rfl rfl rfl ?_
  refine am_e_ifF n127_9 (am_c_eqF (by decide)) ?_
  refine am_e_iload_n n127_10 rfl ?_
  refine am_e_iconst (w := 0) n127_11 rfl ?_
  refine am_e_sipush (w := 9999) n127_12 (by decide) ?_
  refine am_e_callS (L := [(0, .int a3), (1, .int 0), (2, .int 9999)]) n127_13 rfl rfl rfl rfl rfl rfl rfl ?_
  refine am_e_iload_n n87_0 rfl ?_
  refine am_e_iload_n n87_1 rfl ?_
  refine am_e_cmpF n87_2 (am_c_ltF hb) ?_
  refine am_e_iload_n n87_3 rfl ?_
  refine am_e_iload_n n87_4 rfl ?_
  refine am_e_cmpT n87_5 (am_c_gtT ha) t87_5 ?_
  refine am_e_iconst (w := 0) n87_8 rfl ?_
  refine am_e_iret c87_9 rfl rfl rfl ?_
  refine am_e_ifF n127_14 (am_c_neF (by decide)) ?_
  refine am_e_iconst (w := (-1)) n127_15 rfl ?_
  refine am_e_iret c127_16 rfl rfl rfl ?_
  refine am_e_cmpT n136_763 (am_c_eqT (by decide)) t136_763 ?_
  exact K _
