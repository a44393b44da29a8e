/-! ===== THE MODEL'S copyBed(3, 1), aSecond, getsUp, layUps, counted (wip/s/gen99j.py) ===== -/
section ACK
variable {X : am_H → Prop}
theorem ac_4p (b : Int32) (n : Nat) (hb : b.toInt = n) (hn : n ≤ 3) {k : Int32} (k0 : 0 ≤ k.toInt) (k1 : k.toInt ≤ 3) : ((4 : Int32) * b + k).toInt = 4 * n + k.toInt := by
  have e : ((4 : Int32) * b).toInt = 4 * n := by
    rw [Int32.toInt_mul, show (4 : Int32).toInt = 4 by decide, hb]
    exact ab_bm (by omega) (by omega)
  rw [ab_iadd (by omega) (by omega), e]
abbrev ac_c31 : List (Nat × Nat) := [(188, 4), (189, 4), (190, 4), (194, 4), (191, 0), (192, 0), (193, 0)]
theorem ac_cb_l (hX : ac_XF X) {h0 : am_H} : ∀ (d : Nat) (k : Int32) (h : am_H), k.toInt + d = 4 → 0 ≤ k.toInt → ab_Inv (ab_hi ab_tab) h → ac_JX X h → ab_Fr ac_c31 h0 h → am_Ek false am_G0 am_m197 34 [(0, .ref 164), (1, .int 3), (2, .int 1), (3, .int k)] [] am_ks0 h 0 0 (fun r ks h' => ks = am_ks0 ∧ r = none ∧ ab_Inv (ab_hi ab_tab) h' ∧ ac_JX X h' ∧ ab_Fr ac_c31 h0 h') := by
  have e4 : (4 : Int32).toInt = 4 := by decide
  intro d
  induction d with
  | zero =>
    intro k h hd k0 hI hj hF
    refine am_e_iload_n (am_nxt_of (i := (50, 1, .iload_n 3, (0, 0, 0), 0)) (by decide +kernel)) (v := k) rfl ?_
    refine am_e_iconst (w := 4) (am_nxt_of (i := (51, 1, .iconst 4, (0, 0, 0), 0)) (by decide +kernel)) rfl ?_
    refine am_e_cmpT (am_nxt_of (i := (52, 3, .if_icmp .ge 69, (87, 0, 0), 0)) (by decide +kernel)) (am_c_geT (ac_nlt (by omega))) (am_tgt_of (by decide +kernel)) ?_
    exact am_e_vret (am_cur_of (i := (121, 1, .return_, (0, 0, 0), 0)) (by decide +kernel)) rfl rfl ⟨rfl, rfl, hI, hj, hF⟩
  | succ d ih =>
    intro k h hd k0 hI hj hF
    refine am_e_iload_n (am_nxt_of (i := (50, 1, .iload_n 3, (0, 0, 0), 0)) (by decide +kernel)) (v := k) rfl ?_
    refine am_e_iconst (w := 4) (am_nxt_of (i := (51, 1, .iconst 4, (0, 0, 0), 0)) (by decide +kernel)) rfl ?_
    refine am_e_cmpF (am_nxt_of (i := (52, 3, .if_icmp .ge 69, (87, 0, 0), 0)) (by decide +kernel)) (am_c_geF (ac_lt (by omega))) ?_
    have a3 := ac_4p 3 3 (by decide) (by decide) k0 (by omega)
    have a1 := ac_4p 1 1 (by decide) (by decide) k0 (by omega)
    have i3 := ab_ix (x := (4 : Int32) * 3 + k) (n := 16) (by omega) (by omega)
    have i1 := ab_ix (x := (4 : Int32) * 1 + k) (n := 16) (by omega) (by omega)
    have l1 : ((4 : Int32) * 1 + k).toNatClampNeg < 16 := Nat.lt_of_not_le (fun q => i1 (Or.inr q))
    obtain ⟨v191, ev191, a191, b191⟩ := ac_r191 hI (q := ((4 : Int32) * 1 + k).toNatClampNeg) l1
    refine am_e_aload_n (am_nxt_of (i := (55, 1, .aload_n 0, (0, 0, 0), 0)) (by decide +kernel)) (v := 164) rfl ?_
    refine am_e_getf (am_nxt_of (i := (56, 3, .getfield 94, (12, 53, 1437), 0)) (by decide +kernel)) ac_o (ac_f53 hI) ?_
    refine am_e_iconst (w := 4) (am_nxt_of (i := (59, 1, .iconst 4, (0, 0, 0), 0)) (by decide +kernel)) rfl ?_
    refine am_e_iload_n (am_nxt_of (i := (60, 1, .iload_n 1, (0, 0, 0), 0)) (by decide +kernel)) (v := 3) rfl ?_
    refine am_e_imul (w := (4 : Int32) * 3) (am_nxt_of (i := (61, 1, .imul, (0, 0, 0), 0)) (by decide +kernel)) rfl ?_
    refine am_e_iload_n (am_nxt_of (i := (62, 1, .iload_n 3, (0, 0, 0), 0)) (by decide +kernel)) (v := k) rfl ?_
    refine am_e_iadd (w := (4 : Int32) * 3 + k) (am_nxt_of (i := (63, 1, .iadd, (0, 0, 0), 0)) (by decide +kernel)) rfl ?_
    refine am_e_aload_n (am_nxt_of (i := (64, 1, .aload_n 0, (0, 0, 0), 0)) (by decide +kernel)) (v := 164) rfl ?_
    refine am_e_getf (am_nxt_of (i := (65, 3, .getfield 94, (12, 53, 1437), 0)) (by decide +kernel)) ac_o (ac_f53 hI) ?_
    refine am_e_iconst (w := 4) (am_nxt_of (i := (68, 1, .iconst 4, (0, 0, 0), 0)) (by decide +kernel)) rfl ?_
    refine am_e_iload_n (am_nxt_of (i := (69, 1, .iload_n 2, (0, 0, 0), 0)) (by decide +kernel)) (v := 1) rfl ?_
    refine am_e_imul (w := (4 : Int32) * 1) (am_nxt_of (i := (70, 1, .imul, (0, 0, 0), 0)) (by decide +kernel)) rfl ?_
    refine am_e_iload_n (am_nxt_of (i := (71, 1, .iload_n 3, (0, 0, 0), 0)) (by decide +kernel)) (v := k) rfl ?_
    refine am_e_iadd (w := (4 : Int32) * 1 + k) (am_nxt_of (i := (72, 1, .iadd, (0, 0, 0), 0)) (by decide +kernel)) rfl ?_
    refine am_e_iaload (v := v191) (am_nxt_of (i := (73, 1, .iaload, (0, 0, 0), 0)) (by decide +kernel)) ac_k191 i1 rfl ev191 ?_
    refine am_e_iastore (am_nxt_of (i := (74, 1, .iastore, (0, 0, 0), 0)) (by decide +kernel)) ac_k191 i3 rfl ?_
    have I191 := ac_w191 (q := ((4 : Int32) * 3 + k).toNatClampNeg) (v := v191) hI a191 b191
    obtain ⟨v192, ev192, a192, b192⟩ := ac_r192 I191 (q := ((4 : Int32) * 1 + k).toNatClampNeg) l1
    refine am_e_aload_n (am_nxt_of (i := (75, 1, .aload_n 0, (0, 0, 0), 0)) (by decide +kernel)) (v := 164) rfl ?_
    refine am_e_getf (am_nxt_of (i := (76, 3, .getfield 97, (12, 54, 1438), 0)) (by decide +kernel)) ac_o (ac_f54 I191) ?_
    refine am_e_iconst (w := 4) (am_nxt_of (i := (79, 1, .iconst 4, (0, 0, 0), 0)) (by decide +kernel)) rfl ?_
    refine am_e_iload_n (am_nxt_of (i := (80, 1, .iload_n 1, (0, 0, 0), 0)) (by decide +kernel)) (v := 3) rfl ?_
    refine am_e_imul (w := (4 : Int32) * 3) (am_nxt_of (i := (81, 1, .imul, (0, 0, 0), 0)) (by decide +kernel)) rfl ?_
    refine am_e_iload_n (am_nxt_of (i := (82, 1, .iload_n 3, (0, 0, 0), 0)) (by decide +kernel)) (v := k) rfl ?_
    refine am_e_iadd (w := (4 : Int32) * 3 + k) (am_nxt_of (i := (83, 1, .iadd, (0, 0, 0), 0)) (by decide +kernel)) rfl ?_
    refine am_e_aload_n (am_nxt_of (i := (84, 1, .aload_n 0, (0, 0, 0), 0)) (by decide +kernel)) (v := 164) rfl ?_
    refine am_e_getf (am_nxt_of (i := (85, 3, .getfield 97, (12, 54, 1438), 0)) (by decide +kernel)) ac_o (ac_f54 I191) ?_
    refine am_e_iconst (w := 4) (am_nxt_of (i := (88, 1, .iconst 4, (0, 0, 0), 0)) (by decide +kernel)) rfl ?_
    refine am_e_iload_n (am_nxt_of (i := (89, 1, .iload_n 2, (0, 0, 0), 0)) (by decide +kernel)) (v := 1) rfl ?_
    refine am_e_imul (w := (4 : Int32) * 1) (am_nxt_of (i := (90, 1, .imul, (0, 0, 0), 0)) (by decide +kernel)) rfl ?_
    refine am_e_iload_n (am_nxt_of (i := (91, 1, .iload_n 3, (0, 0, 0), 0)) (by decide +kernel)) (v := k) rfl ?_
    refine am_e_iadd (w := (4 : Int32) * 1 + k) (am_nxt_of (i := (92, 1, .iadd, (0, 0, 0), 0)) (by decide +kernel)) rfl ?_
    refine am_e_iaload (v := v192) (am_nxt_of (i := (93, 1, .iaload, (0, 0, 0), 0)) (by decide +kernel)) ac_k192 i1 rfl ev192 ?_
    refine am_e_iastore (am_nxt_of (i := (94, 1, .iastore, (0, 0, 0), 0)) (by decide +kernel)) ac_k192 i3 rfl ?_
    have I192 := ac_w192 (q := ((4 : Int32) * 3 + k).toNatClampNeg) (v := v192) I191 a192 b192
    obtain ⟨v193, ev193, a193, b193⟩ := ac_r193 I192 (q := ((4 : Int32) * 1 + k).toNatClampNeg) l1
    refine am_e_aload_n (am_nxt_of (i := (95, 1, .aload_n 0, (0, 0, 0), 0)) (by decide +kernel)) (v := 164) rfl ?_
    refine am_e_getf (am_nxt_of (i := (96, 3, .getfield 100, (12, 55, 1439), 0)) (by decide +kernel)) ac_o (ac_f55 I192) ?_
    refine am_e_iconst (w := 4) (am_nxt_of (i := (99, 1, .iconst 4, (0, 0, 0), 0)) (by decide +kernel)) rfl ?_
    refine am_e_iload_n (am_nxt_of (i := (100, 1, .iload_n 1, (0, 0, 0), 0)) (by decide +kernel)) (v := 3) rfl ?_
    refine am_e_imul (w := (4 : Int32) * 3) (am_nxt_of (i := (101, 1, .imul, (0, 0, 0), 0)) (by decide +kernel)) rfl ?_
    refine am_e_iload_n (am_nxt_of (i := (102, 1, .iload_n 3, (0, 0, 0), 0)) (by decide +kernel)) (v := k) rfl ?_
    refine am_e_iadd (w := (4 : Int32) * 3 + k) (am_nxt_of (i := (103, 1, .iadd, (0, 0, 0), 0)) (by decide +kernel)) rfl ?_
    refine am_e_aload_n (am_nxt_of (i := (104, 1, .aload_n 0, (0, 0, 0), 0)) (by decide +kernel)) (v := 164) rfl ?_
    refine am_e_getf (am_nxt_of (i := (105, 3, .getfield 100, (12, 55, 1439), 0)) (by decide +kernel)) ac_o (ac_f55 I192) ?_
    refine am_e_iconst (w := 4) (am_nxt_of (i := (108, 1, .iconst 4, (0, 0, 0), 0)) (by decide +kernel)) rfl ?_
    refine am_e_iload_n (am_nxt_of (i := (109, 1, .iload_n 2, (0, 0, 0), 0)) (by decide +kernel)) (v := 1) rfl ?_
    refine am_e_imul (w := (4 : Int32) * 1) (am_nxt_of (i := (110, 1, .imul, (0, 0, 0), 0)) (by decide +kernel)) rfl ?_
    refine am_e_iload_n (am_nxt_of (i := (111, 1, .iload_n 3, (0, 0, 0), 0)) (by decide +kernel)) (v := k) rfl ?_
    refine am_e_iadd (w := (4 : Int32) * 1 + k) (am_nxt_of (i := (112, 1, .iadd, (0, 0, 0), 0)) (by decide +kernel)) rfl ?_
    refine am_e_iaload (v := v193) (am_nxt_of (i := (113, 1, .iaload, (0, 0, 0), 0)) (by decide +kernel)) ac_k193 i1 rfl ev193 ?_
    refine am_e_iastore (am_nxt_of (i := (114, 1, .iastore, (0, 0, 0), 0)) (by decide +kernel)) ac_k193 i3 rfl ?_
    have I193 := ac_w193 (q := ((4 : Int32) * 3 + k).toNatClampNeg) (v := v193) I192 a193 b193
    have e1 := ab_inc1 k0 (by omega)
    have hfr : ab_Fr ac_c31 h (am_up (am_up (am_up h 191 ((4 : Int32) * 3 + k).toNatClampNeg (.int v191)) 192 ((4 : Int32) * 3 + k).toNatClampNeg (.int v192)) 193 ((4 : Int32) * 3 + k).toNatClampNeg (.int v193)) := ab_Fr_up rfl (ab_Fr_up rfl (ab_Fr_up rfl ab_Fr_refl))
    refine am_e_iinc (w := k + Int32.ofInt 1) (ls' := [(3, .int (k + Int32.ofInt 1)), (0, .ref 164), (1, .int 3), (2, .int 1)]) (am_nxt_of (i := (115, 3, .iinc 3 1, (0, 0, 0), 0)) (by decide +kernel)) (v := k) rfl (by decide +kernel) rfl rfl ?_
    refine am_e_goto (am_cur_of (i := (118, 3, .goto (-68), (34, 0, 0), 0)) (by decide +kernel)) (am_tgt_of (by decide +kernel)) ?_
    refine am_Ek_ls (ls' := [(0, .ref 164), (1, .int 3), (2, .int 1), (3, .int (k + Int32.ofInt 1))]) ⟨rfl, rfl, rfl, rfl, trivial⟩ ?_
    exact ih _ _ (by omega) (by omega) I193 (ac_JX_fr hX rfl _ _ hfr hj) (ab_Fr_trans hF hfr)
theorem ac_copy31 (hX : ac_XF X) {h0 : am_H} (hI : ab_Inv (ab_hi ab_tab) h0) (hj : ac_JX X h0) : am_Ek false am_G0 am_m197 0 (lv_args 0 [.ref 164, .int 3, .int 1]) [] am_ks0 h0 0 0 (fun r ks h' => ks = am_ks0 ∧ r = none ∧ ab_Inv (ab_hi ab_tab) h' ∧ ac_JX X h' ∧ ab_Fr ac_c31 h0 h') := by
  obtain ⟨v188, ev188, a188, b188⟩ := ac_r188 hI (q := 1) (by decide)
  refine am_e_aload_n (am_nxt_of (i := (0, 1, .aload_n 0, (0, 0, 0), 0)) (by decide +kernel)) (v := 164) rfl ?_
  refine am_e_getf (am_nxt_of (i := (1, 3, .getfield 85, (12, 50, 1434), 0)) (by decide +kernel)) ac_o (ac_f50 hI) ?_
  refine am_e_iload_n (am_nxt_of (i := (4, 1, .iload_n 1, (0, 0, 0), 0)) (by decide +kernel)) (v := 3) rfl ?_
  refine am_e_aload_n (am_nxt_of (i := (5, 1, .aload_n 0, (0, 0, 0), 0)) (by decide +kernel)) (v := 164) rfl ?_
  refine am_e_getf (am_nxt_of (i := (6, 3, .getfield 85, (12, 50, 1434), 0)) (by decide +kernel)) ac_o (ac_f50 hI) ?_
  refine am_e_iload_n (am_nxt_of (i := (9, 1, .iload_n 2, (0, 0, 0), 0)) (by decide +kernel)) (v := 1) rfl ?_
  refine am_e_iaload (v := v188) (q := 1) (am_nxt_of (i := (10, 1, .iaload, (0, 0, 0), 0)) (by decide +kernel)) ac_k188 (by decide) (by decide) ev188 ?_
  refine am_e_iastore (q := 3) (am_nxt_of (i := (11, 1, .iastore, (0, 0, 0), 0)) (by decide +kernel)) ac_k188 (by decide) (by decide) ?_
  have I188 := ac_w188 (q := 3) (v := v188) hI a188 b188
  obtain ⟨v189, ev189, a189, b189⟩ := ac_r189 I188 (q := 1) (by decide)
  refine am_e_aload_n (am_nxt_of (i := (12, 1, .aload_n 0, (0, 0, 0), 0)) (by decide +kernel)) (v := 164) rfl ?_
  refine am_e_getf (am_nxt_of (i := (13, 3, .getfield 88, (12, 51, 1435), 0)) (by decide +kernel)) ac_o (ac_f51 I188) ?_
  refine am_e_iload_n (am_nxt_of (i := (16, 1, .iload_n 1, (0, 0, 0), 0)) (by decide +kernel)) (v := 3) rfl ?_
  refine am_e_aload_n (am_nxt_of (i := (17, 1, .aload_n 0, (0, 0, 0), 0)) (by decide +kernel)) (v := 164) rfl ?_
  refine am_e_getf (am_nxt_of (i := (18, 3, .getfield 88, (12, 51, 1435), 0)) (by decide +kernel)) ac_o (ac_f51 I188) ?_
  refine am_e_iload_n (am_nxt_of (i := (21, 1, .iload_n 2, (0, 0, 0), 0)) (by decide +kernel)) (v := 1) rfl ?_
  refine am_e_iaload (v := v189) (q := 1) (am_nxt_of (i := (22, 1, .iaload, (0, 0, 0), 0)) (by decide +kernel)) ac_k189 (by decide) (by decide) ev189 ?_
  refine am_e_iastore (q := 3) (am_nxt_of (i := (23, 1, .iastore, (0, 0, 0), 0)) (by decide +kernel)) ac_k189 (by decide) (by decide) ?_
  have I189 := ac_w189 (q := 3) (v := v189) I188 a189 b189
  obtain ⟨v190, ev190, a190, b190⟩ := ac_r190 I189 (q := 1) (by decide)
  refine am_e_aload_n (am_nxt_of (i := (24, 1, .aload_n 0, (0, 0, 0), 0)) (by decide +kernel)) (v := 164) rfl ?_
  refine am_e_getf (am_nxt_of (i := (25, 3, .getfield 91, (12, 52, 1436), 0)) (by decide +kernel)) ac_o (ac_f52 I189) ?_
  refine am_e_iload_n (am_nxt_of (i := (28, 1, .iload_n 1, (0, 0, 0), 0)) (by decide +kernel)) (v := 3) rfl ?_
  refine am_e_aload_n (am_nxt_of (i := (29, 1, .aload_n 0, (0, 0, 0), 0)) (by decide +kernel)) (v := 164) rfl ?_
  refine am_e_getf (am_nxt_of (i := (30, 3, .getfield 91, (12, 52, 1436), 0)) (by decide +kernel)) ac_o (ac_f52 I189) ?_
  refine am_e_iload_n (am_nxt_of (i := (33, 1, .iload_n 2, (0, 0, 0), 0)) (by decide +kernel)) (v := 1) rfl ?_
  refine am_e_iaload (v := v190) (q := 1) (am_nxt_of (i := (34, 1, .iaload, (0, 0, 0), 0)) (by decide +kernel)) ac_k190 (by decide) (by decide) ev190 ?_
  refine am_e_iastore (q := 3) (am_nxt_of (i := (35, 1, .iastore, (0, 0, 0), 0)) (by decide +kernel)) ac_k190 (by decide) (by decide) ?_
  have I190 := ac_w190 (q := 3) (v := v190) I189 a190 b190
  obtain ⟨v194, ev194, a194, b194⟩ := ac_r194 I190 (q := 1) (by decide)
  refine am_e_aload_n (am_nxt_of (i := (36, 1, .aload_n 0, (0, 0, 0), 0)) (by decide +kernel)) (v := 164) rfl ?_
  refine am_e_getf (am_nxt_of (i := (37, 3, .getfield 103, (12, 56, 1440), 0)) (by decide +kernel)) ac_o (ac_f56 I190) ?_
  refine am_e_iload_n (am_nxt_of (i := (40, 1, .iload_n 1, (0, 0, 0), 0)) (by decide +kernel)) (v := 3) rfl ?_
  refine am_e_aload_n (am_nxt_of (i := (41, 1, .aload_n 0, (0, 0, 0), 0)) (by decide +kernel)) (v := 164) rfl ?_
  refine am_e_getf (am_nxt_of (i := (42, 3, .getfield 103, (12, 56, 1440), 0)) (by decide +kernel)) ac_o (ac_f56 I190) ?_
  refine am_e_iload_n (am_nxt_of (i := (45, 1, .iload_n 2, (0, 0, 0), 0)) (by decide +kernel)) (v := 1) rfl ?_
  refine am_e_iaload (v := v194) (q := 1) (am_nxt_of (i := (46, 1, .iaload, (0, 0, 0), 0)) (by decide +kernel)) ac_k194 (by decide) (by decide) ev194 ?_
  refine am_e_iastore (q := 3) (am_nxt_of (i := (47, 1, .iastore, (0, 0, 0), 0)) (by decide +kernel)) ac_k194 (by decide) (by decide) ?_
  have I194 := ac_w194 (q := 3) (v := v194) I190 a194 b194
  have hfr : ab_Fr ac_c31 h0 (am_up (am_up (am_up (am_up h0 188 3 (.int v188)) 189 3 (.int v189)) 190 3 (.int v190)) 194 3 (.int v194)) := ab_Fr_up rfl (ab_Fr_up rfl (ab_Fr_up rfl (ab_Fr_up rfl ab_Fr_refl)))
  refine am_e_iconst (w := 0) (am_nxt_of (i := (48, 1, .iconst 0, (0, 0, 0), 0)) (by decide +kernel)) rfl ?_
  refine am_e_istore_n (ls' := [(3, .int 0), (0, .ref 164), (1, .int 3), (2, .int 1)]) (am_nxt_of (i := (49, 1, .istore_n 3, (0, 0, 0), 0)) (by decide +kernel)) (by decide +kernel) rfl ?_
  refine am_Ek_ls (ls' := [(0, .ref 164), (1, .int 3), (2, .int 1), (3, .int 0)]) ⟨rfl, rfl, rfl, rfl, trivial⟩ ?_
  exact ac_cb_l hX 4 0 _ (by decide) (by decide) I194 (ac_JX_fr hX rfl _ _ hfr hj) hfr
abbrev ac_as1 : List (Nat × Nat) := [(164, 50), (186, 1), (186, 2), (186, 3), (186, 4), (186, 5), (186, 6), (187, 0), (188, 2), (189, 2)]
theorem ac_aSec1 (hX : ac_XF X) (hS : ac_SC (ac_JX X)) {h : am_H} {o p s : Int32} (hI : ab_Inv (ab_hi ab_tab) h) (hj : ac_JX X h) (o0 : 0 ≤ o.toInt) (o1 : o.toInt ≤ 1) (p0 : 0 ≤ p.toInt) (p1 : p.toInt ≤ 1) (hs : h 189 1 = .int s) : am_Ek false am_G0 am_m199 0 (lv_args 0 [.ref 164, .int 1, .int o, .int p]) [] am_ks0 h 0 0 (fun r ks h' => ks = am_ks0 ∧ r = none ∧ ab_Inv (ab_hi ab_tab) h' ∧ ac_JX X h' ∧ ab_Fr ac_as1 h h' ∧ h' 189 1 = .int (s + 1)) := by
  obtain ⟨cfn, -⟩ := hS
  refine am_e_aload_n (am_nxt_of (i := (0, 1, .aload_n 0, (0, 0, 0), 0)) (by decide +kernel)) (v := 164) rfl ?_
  refine am_e_getf (am_nxt_of (i := (1, 3, .getfield 85, (12, 50, 1434), 0)) (by decide +kernel)) ac_o (ac_f50 hI) ?_
  refine am_e_iload_n (am_nxt_of (i := (4, 1, .iload_n 1, (0, 0, 0), 0)) (by decide +kernel)) (v := 1) rfl ?_
  refine am_e_aload_n (am_nxt_of (i := (5, 1, .aload_n 0, (0, 0, 0), 0)) (by decide +kernel)) (v := 164) rfl ?_
  refine am_e_iload_n (am_nxt_of (i := (6, 1, .iload_n 1, (0, 0, 0), 0)) (by decide +kernel)) (v := 1) rfl ?_
  refine am_e_iload_n (am_nxt_of (i := (7, 1, .iload_n 2, (0, 0, 0), 0)) (by decide +kernel)) (v := o) rfl ?_
  refine am_e_iload_n (am_nxt_of (i := (8, 1, .iload_n 3, (0, 0, 0), 0)) (by decide +kernel)) (v := p) rfl ?_
  refine am_e_callV (M' := am_m200) (o := 164) (ar := [.int p, .int o, .int 1]) (rest := [.int 1, .ref 188]) (L := lv_args 0 [.ref 164, .int 1, .int o, .int p]) (am_nxt_of (i := (9, 3, .invokevirtual 409, (200, 1832, 3), 0)) (by decide +kernel)) rfl rfl rfl rfl ac_o rfl rfl rfl ?_
  refine am_Ev_mono (ac_use cfn rfl ⟨⟨164, rfl, List.mem_singleton.mpr rfl⟩, ab_i_ok (by decide) (by decide), ab_i_ok o0 o1, ab_i_ok p0 p1, trivial⟩ hI hj ac_p0) (fun r ks h1 hq => ?_)
  obtain ⟨rfl, I1, J1, f1, c, hc, hg⟩ := hq
  obtain ⟨x, rfl⟩ := ab_intC_ok (s := ab_S_fullNext_x_x_x) rfl ⟨c, hc, hg.1⟩
  show am_Ek false am_G0 am_m199 8 _ [.int x, .int 1, .ref 188] _ _ _ _ _
  refine am_e_iastore (q := 1) (am_nxt_of (i := (12, 1, .iastore, (0, 0, 0), 0)) (by decide +kernel)) ac_k188 (by decide) (by decide) ?_
  have I2 := ac_w188 (q := 1) (v := x) I1 (ab_32 x).1 (ab_32 x).2
  have es : am_up h1 188 1 (.int x) 189 1 = .int s := (f1 189 1 rfl).trans hs
  have I3 := ac_w189 (q := 1) (v := s + 1) I2 (ab_32 _).1 (ab_32 _).2
  refine am_e_aload_n (am_nxt_of (i := (13, 1, .aload_n 0, (0, 0, 0), 0)) (by decide +kernel)) (v := 164) rfl ?_
  refine am_e_getf (am_nxt_of (i := (14, 3, .getfield 88, (12, 51, 1435), 0)) (by decide +kernel)) ac_o (ac_f51 I2) ?_
  refine am_e_iload_n (am_nxt_of (i := (17, 1, .iload_n 1, (0, 0, 0), 0)) (by decide +kernel)) (v := 1) rfl ?_
  refine am_e_dup2 (am_nxt_of (i := (18, 1, .dup2, (0, 0, 0), 0)) (by decide +kernel)) rfl ?_
  refine am_e_iaload (v := s) (q := 1) (am_nxt_of (i := (19, 1, .iaload, (0, 0, 0), 0)) (by decide +kernel)) ac_k189 (by decide) (by decide) es ?_
  refine am_e_iconst (w := 1) (am_nxt_of (i := (20, 1, .iconst 1, (0, 0, 0), 0)) (by decide +kernel)) rfl ?_
  refine am_e_iadd (w := s + 1) (am_nxt_of (i := (21, 1, .iadd, (0, 0, 0), 0)) (by decide +kernel)) rfl ?_
  refine am_e_iastore (q := 1) (am_nxt_of (i := (22, 1, .iastore, (0, 0, 0), 0)) (by decide +kernel)) ac_k189 (by decide) (by decide) ?_
  exact am_e_vret (am_cur_of (i := (23, 1, .return_, (0, 0, 0), 0)) (by decide +kernel)) rfl rfl ⟨rfl, rfl, I3, ac_JX_fr hX (md := [(188, 0), (189, 0)]) rfl _ _ (ab_Fr_up rfl (ab_Fr_up rfl ab_Fr_refl)) J1, ab_Fr_up rfl (ab_Fr_up rfl (ab_mdle_Fr (by decide) f1)), am_up_self _ _ _ _⟩
abbrev ac_as3 : List (Nat × Nat) := [(164, 50), (186, 1), (186, 2), (186, 3), (186, 4), (186, 5), (186, 6), (187, 0), (188, 4), (189, 4)]
theorem ac_aSec3 (hX : ac_XF X) (hS : ac_SC (ac_JX X)) {h : am_H} {o p s : Int32} (hI : ab_Inv (ab_hi ab_tab) h) (hj : ac_JX X h) (o0 : 0 ≤ o.toInt) (o1 : o.toInt ≤ 1) (p0 : 0 ≤ p.toInt) (p1 : p.toInt ≤ 1) (hs : h 189 3 = .int s) : am_Ek false am_G0 am_m199 0 (lv_args 0 [.ref 164, .int 3, .int o, .int p]) [] am_ks0 h 0 0 (fun r ks h' => ks = am_ks0 ∧ r = none ∧ ab_Inv (ab_hi ab_tab) h' ∧ ac_JX X h' ∧ ab_Fr ac_as3 h h' ∧ h' 189 3 = .int (s + 1)) := by
  obtain ⟨cfn, -⟩ := hS
  refine am_e_aload_n (am_nxt_of (i := (0, 1, .aload_n 0, (0, 0, 0), 0)) (by decide +kernel)) (v := 164) rfl ?_
  refine am_e_getf (am_nxt_of (i := (1, 3, .getfield 85, (12, 50, 1434), 0)) (by decide +kernel)) ac_o (ac_f50 hI) ?_
  refine am_e_iload_n (am_nxt_of (i := (4, 1, .iload_n 1, (0, 0, 0), 0)) (by decide +kernel)) (v := 3) rfl ?_
  refine am_e_aload_n (am_nxt_of (i := (5, 1, .aload_n 0, (0, 0, 0), 0)) (by decide +kernel)) (v := 164) rfl ?_
  refine am_e_iload_n (am_nxt_of (i := (6, 1, .iload_n 1, (0, 0, 0), 0)) (by decide +kernel)) (v := 3) rfl ?_
  refine am_e_iload_n (am_nxt_of (i := (7, 1, .iload_n 2, (0, 0, 0), 0)) (by decide +kernel)) (v := o) rfl ?_
  refine am_e_iload_n (am_nxt_of (i := (8, 1, .iload_n 3, (0, 0, 0), 0)) (by decide +kernel)) (v := p) rfl ?_
  refine am_e_callV (M' := am_m200) (o := 164) (ar := [.int p, .int o, .int 3]) (rest := [.int 3, .ref 188]) (L := lv_args 0 [.ref 164, .int 3, .int o, .int p]) (am_nxt_of (i := (9, 3, .invokevirtual 409, (200, 1832, 3), 0)) (by decide +kernel)) rfl rfl rfl rfl ac_o rfl rfl rfl ?_
  refine am_Ev_mono (ac_use cfn rfl ⟨⟨164, rfl, List.mem_singleton.mpr rfl⟩, ab_i_ok (by decide) (by decide), ab_i_ok o0 o1, ab_i_ok p0 p1, trivial⟩ hI hj ac_p0) (fun r ks h1 hq => ?_)
  obtain ⟨rfl, I1, J1, f1, c, hc, hg⟩ := hq
  obtain ⟨x, rfl⟩ := ab_intC_ok (s := ab_S_fullNext_x_x_x) rfl ⟨c, hc, hg.1⟩
  show am_Ek false am_G0 am_m199 8 _ [.int x, .int 3, .ref 188] _ _ _ _ _
  refine am_e_iastore (q := 3) (am_nxt_of (i := (12, 1, .iastore, (0, 0, 0), 0)) (by decide +kernel)) ac_k188 (by decide) (by decide) ?_
  have I2 := ac_w188 (q := 3) (v := x) I1 (ab_32 x).1 (ab_32 x).2
  have es : am_up h1 188 3 (.int x) 189 3 = .int s := (f1 189 3 rfl).trans hs
  have I3 := ac_w189 (q := 3) (v := s + 1) I2 (ab_32 _).1 (ab_32 _).2
  refine am_e_aload_n (am_nxt_of (i := (13, 1, .aload_n 0, (0, 0, 0), 0)) (by decide +kernel)) (v := 164) rfl ?_
  refine am_e_getf (am_nxt_of (i := (14, 3, .getfield 88, (12, 51, 1435), 0)) (by decide +kernel)) ac_o (ac_f51 I2) ?_
  refine am_e_iload_n (am_nxt_of (i := (17, 1, .iload_n 1, (0, 0, 0), 0)) (by decide +kernel)) (v := 3) rfl ?_
  refine am_e_dup2 (am_nxt_of (i := (18, 1, .dup2, (0, 0, 0), 0)) (by decide +kernel)) rfl ?_
  refine am_e_iaload (v := s) (q := 3) (am_nxt_of (i := (19, 1, .iaload, (0, 0, 0), 0)) (by decide +kernel)) ac_k189 (by decide) (by decide) es ?_
  refine am_e_iconst (w := 1) (am_nxt_of (i := (20, 1, .iconst 1, (0, 0, 0), 0)) (by decide +kernel)) rfl ?_
  refine am_e_iadd (w := s + 1) (am_nxt_of (i := (21, 1, .iadd, (0, 0, 0), 0)) (by decide +kernel)) rfl ?_
  refine am_e_iastore (q := 3) (am_nxt_of (i := (22, 1, .iastore, (0, 0, 0), 0)) (by decide +kernel)) ac_k189 (by decide) (by decide) ?_
  exact am_e_vret (am_cur_of (i := (23, 1, .return_, (0, 0, 0), 0)) (by decide +kernel)) rfl rfl ⟨rfl, rfl, I3, ac_JX_fr hX (md := [(188, 0), (189, 0)]) rfl _ _ (ab_Fr_up rfl (ab_Fr_up rfl ab_Fr_refl)) J1, ab_Fr_up rfl (ab_Fr_up rfl (ab_mdle_Fr (by decide) f1)), am_up_self _ _ _ _⟩
/-- so many seconds of the bed have gone by -/
def ac_Gu (X : am_H → Prop) (md : List (Nat × Nat)) (B : Nat) (h0 : am_H) (s : Int32) (lo hi : Int) (h : am_H) : Prop := ab_Inv (ab_hi ab_tab) h ∧ ac_JX X h ∧ ab_Fr md h0 h ∧ ∃ e : Int32, h 189 B = .int (s + e) ∧ lo ≤ e.toInt ∧ e.toInt ≤ hi
theorem ac_Gu_1 {md : List (Nat × Nat)} {B : Nat} {h0 h h' : am_H} {s e : Int32} {lo hi : Int} (hI : ab_Inv (ab_hi ab_tab) h') (hj : ac_JX X h') (hF : ab_Fr md h0 h') (e0 : lo ≤ e.toInt) (e1 : e.toInt ≤ hi) (l0 : 0 ≤ lo) (hb : hi ≤ 100000) (hs : h' 189 B = .int (s + e + 1)) : ac_Gu X md B h0 s (lo + 1) (hi + 1) h' := by
  have ea := ac_c1 (x := e) (by omega) (by omega)
  exact ⟨hI, hj, hF, e + 1, by rw [hs, Int32.add_assoc], by omega, by omega⟩
theorem ac_Gu_le {md : List (Nat × Nat)} {B : Nat} {h0 h : am_H} {s : Int32} {lo hi lo' hi' : Int} (hg : ac_Gu X md B h0 s lo hi h) (h1 : lo' ≤ lo) (h2 : hi ≤ hi') : ac_Gu X md B h0 s lo' hi' h := by
  obtain ⟨g1, g2, g3, e, g4, g5, g6⟩ := hg
  exact ⟨g1, g2, g3, e, g4, by omega, by omega⟩
theorem ac_Gu_call {md md' : List (Nat × Nat)} {B : Nat} {h0 h h' : am_H} {s : Int32} {lo hi : Int} (hg : ac_Gu X md B h0 s lo hi h) (hI : ab_Inv (ab_hi ab_tab) h') (hj : ac_JX X h') (hm : ab_mdle md' md = true) (hn : ab_no 189 md' = true) (hf : ab_Fr md' h h') : ac_Gu X md B h0 s lo hi h' := by
  obtain ⟨g1, g2, g3, e, g4, g5, g6⟩ := hg
  exact ⟨hI, hj, ab_Fr_trans g3 (ab_mdle_Fr hm hf), e, (ab_no_ok hn hf B).trans g4, g5, g6⟩
theorem ac_b01 {x : Int32} (h : x = 0 ∨ x = 1) : am_fit .boolean (.int x) = true := by
  rcases h with rfl | rfl
  · rfl
  · rfl
abbrev ac_gu1 : List (Nat × Nat) := [(164, 50), (186, 1), (186, 2), (186, 3), (186, 4), (186, 5), (186, 6), (187, 0), (188, 0), (189, 2), (190, 0), (191, 0), (192, 0), (193, 0)]
theorem ac_gA1 (hX : ac_XF X) (hS : ac_SC (ac_JX X)) {h0 : am_H} {k bd s v2 v3 v5 : Int32} (k0 : 0 ≤ k.toInt) (k3 : k.toInt ≤ 3) (e5 : h0 170 ((7 : Int32) * k + 5).toNatClampNeg = .int v5) (v5_1 : v5.toInt ≤ 99) (e2 : h0 170 ((7 : Int32) * k + 2).toNatClampNeg = .int v2) (v2_0 : 1 ≤ v2.toInt) (v2_1 : v2.toInt ≤ 99) (e3 : h0 170 ((7 : Int32) * k + 3).toNatClampNeg = .int v3) (v3_0 : 1 ≤ v3.toInt) (v3_1 : v3.toInt ≤ 99) {i : Int32} (i0 : 0 ≤ i.toInt) (i9 : i.toInt < v2.toInt) (hk : ∀ (y : Int32) (h : am_H) (t : Int32), (y = 0 ∨ y = 1) → ac_Gu X ac_gu1 1 h0 s 1 (99 + 99 * (i.toInt + 1)) h → am_Ek false am_G0 am_m229 91 [(0, .ref 164), (1, .int 1), (2, .int k), (3, .int bd), (4, .int y), (5, .int i), (6, .int t)] [] am_ks0 h 0 0 (fun r ks h' => ks = am_ks0 ∧ (r = some (.int 0) ∨ r = some (.int 1)) ∧ ac_Gu X ac_gu1 1 h0 s 1 9900 h')) : ∀ (d : Nat) (t y : Int32) (lo : Int) (h : am_H), v3.toInt - t.toInt ≤ d → 0 ≤ t.toInt → t.toInt ≤ v3.toInt → 0 ≤ lo → (y = 0 ∨ y = 1) → (y = 1 ∧ t.toInt = 0 ∨ 1 ≤ lo) → ac_Gu X ac_gu1 1 h0 s lo (99 + 99 * i.toInt + t.toInt) h → am_Ek false am_G0 am_m229 62 [(0, .ref 164), (1, .int 1), (2, .int k), (3, .int bd), (4, .int y), (5, .int i), (6, .int t)] [] am_ks0 h 0 0 (fun r ks h' => ks = am_ks0 ∧ (r = some (.int 0) ∨ r = some (.int 1)) ∧ ac_Gu X ac_gu1 1 h0 s 1 9900 h') := by
  have z0 : (0 : Int32).toInt = 0 := by decide
  have z1 : (1 : Int32).toInt = 1 := by decide
  have m5 := ab_m7 (k := k) (c := 5) k0 k3 (by decide) (by decide)
  have m2 := ab_m7 (k := k) (c := 2) k0 k3 (by decide) (by decide)
  have m3 := ab_m7 (k := k) (c := 3) k0 k3 (by decide) (by decide)
  have z5 : (5 : Int32).toInt = 5 := by decide
  have z2 : (2 : Int32).toInt = 2 := by decide
  have z3 : (3 : Int32).toInt = 3 := by decide
  have x5 := ab_ix (x := (7 : Int32) * k + 5) (n := 56) (by omega) (by omega)
  have x2 := ab_ix (x := (7 : Int32) * k + 2) (n := 56) (by omega) (by omega)
  have x3 := ab_ix (x := (7 : Int32) * k + 3) (n := 56) (by omega) (by omega)
  intro d
  induction d with
  | zero =>
    intro t y lo h hd t0 t1 l0 hy hl hG
    have e3' : h 170 ((7 : Int32) * k + 3).toNatClampNeg = .int v3 := (hG.2.2.1 170 _ rfl).trans e3
    refine am_e_iload (am_nxt_of (i := (101, 2, .iload 6, (0, 0, 0), 0)) (by decide +kernel)) (v := t) rfl ?_
    refine am_e_aload_n (am_nxt_of (i := (103, 1, .aload_n 0, (0, 0, 0), 0)) (by decide +kernel)) (v := 164) rfl ?_
    refine am_e_getf (am_nxt_of (i := (104, 3, .getfield 30, (12, 25, 1409), 0)) (by decide +kernel)) ac_o (ac_f25 hG.1) ?_
    refine am_e_bipush (w := 7) (am_nxt_of (i := (107, 2, .bipush 7, (0, 0, 0), 0)) (by decide +kernel)) (by decide) ?_
    refine am_e_iload_n (am_nxt_of (i := (109, 1, .iload_n 2, (0, 0, 0), 0)) (by decide +kernel)) (v := k) rfl ?_
    refine am_e_imul (w := 7 * k) (am_nxt_of (i := (110, 1, .imul, (0, 0, 0), 0)) (by decide +kernel)) rfl ?_
    refine am_e_iconst (w := 3) (am_nxt_of (i := (111, 1, .iconst 3, (0, 0, 0), 0)) (by decide +kernel)) rfl ?_
    refine am_e_iadd (w := (7 * k) + 3) (am_nxt_of (i := (112, 1, .iadd, (0, 0, 0), 0)) (by decide +kernel)) rfl ?_
    refine am_e_iaload (v := v3) (am_nxt_of (i := (113, 1, .iaload, (0, 0, 0), 0)) (by decide +kernel)) ac_k170 x3 rfl e3' ?_
    refine am_e_cmpT (am_nxt_of (i := (114, 3, .if_icmp .ge 38, (91, 0, 0), 0)) (by decide +kernel)) (am_c_geT (ac_nlt (by omega))) (am_tgt_of (by decide +kernel)) ?_
    exact hk y h t hy (ac_Gu_le hG (by omega) (by omega))
  | succ d ih =>
    intro t y lo h hd t0 t1 l0 hy hl hG
    have e3' : h 170 ((7 : Int32) * k + 3).toNatClampNeg = .int v3 := (hG.2.2.1 170 _ rfl).trans e3
    refine am_e_iload (am_nxt_of (i := (101, 2, .iload 6, (0, 0, 0), 0)) (by decide +kernel)) (v := t) rfl ?_
    refine am_e_aload_n (am_nxt_of (i := (103, 1, .aload_n 0, (0, 0, 0), 0)) (by decide +kernel)) (v := 164) rfl ?_
    refine am_e_getf (am_nxt_of (i := (104, 3, .getfield 30, (12, 25, 1409), 0)) (by decide +kernel)) ac_o (ac_f25 hG.1) ?_
    refine am_e_bipush (w := 7) (am_nxt_of (i := (107, 2, .bipush 7, (0, 0, 0), 0)) (by decide +kernel)) (by decide) ?_
    refine am_e_iload_n (am_nxt_of (i := (109, 1, .iload_n 2, (0, 0, 0), 0)) (by decide +kernel)) (v := k) rfl ?_
    refine am_e_imul (w := 7 * k) (am_nxt_of (i := (110, 1, .imul, (0, 0, 0), 0)) (by decide +kernel)) rfl ?_
    refine am_e_iconst (w := 3) (am_nxt_of (i := (111, 1, .iconst 3, (0, 0, 0), 0)) (by decide +kernel)) rfl ?_
    refine am_e_iadd (w := (7 * k) + 3) (am_nxt_of (i := (112, 1, .iadd, (0, 0, 0), 0)) (by decide +kernel)) rfl ?_
    refine am_e_iaload (v := v3) (am_nxt_of (i := (113, 1, .iaload, (0, 0, 0), 0)) (by decide +kernel)) ac_k170 x3 rfl e3' ?_
    by_cases ht : (t : Int32) < v3
    · refine am_e_cmpF (am_nxt_of (i := (114, 3, .if_icmp .ge 38, (91, 0, 0), 0)) (by decide +kernel)) (am_c_geF ht) ?_
      have htt := ac_lt' ht
      refine am_e_iload (am_nxt_of (i := (117, 2, .iload 4, (0, 0, 0), 0)) (by decide +kernel)) (v := y) rfl ?_
      by_cases hy0 : (y : Int32) = 0
      · refine am_e_ifT (am_nxt_of (i := (119, 3, .ifCond .eq 33, (91, 0, 0), 0)) (by decide +kernel)) (am_c_eqT hy0) (am_tgt_of (by decide +kernel)) ?_
        have : 1 ≤ lo := by
          rcases hl with ⟨hl, -⟩ | hl
          · rw [hy0] at hl; cases hl
          · exact hl
        exact hk y h t hy (ac_Gu_le hG (by omega) (by omega))
      · refine am_e_ifF (am_nxt_of (i := (119, 3, .ifCond .eq 33, (91, 0, 0), 0)) (by decide +kernel)) (am_c_eqF hy0) ?_
        obtain ⟨ev_, eg, eg0, eg1⟩ := hG.2.2.2
        refine am_e_aload_n (am_nxt_of (i := (122, 1, .aload_n 0, (0, 0, 0), 0)) (by decide +kernel)) (v := 164) rfl ?_
        refine am_e_iload_n (am_nxt_of (i := (123, 1, .iload_n 1, (0, 0, 0), 0)) (by decide +kernel)) (v := 1) rfl ?_
        refine am_e_iconst (w := 0) (am_nxt_of (i := (124, 1, .iconst 0, (0, 0, 0), 0)) (by decide +kernel)) rfl ?_
        refine am_e_iconst (w := 0) (am_nxt_of (i := (125, 1, .iconst 0, (0, 0, 0), 0)) (by decide +kernel)) rfl ?_
        refine am_e_callV (M' := am_m199) (o := 164) (ar := [.int 0, .int 0, .int 1]) (rest := []) (L := lv_args 0 [.ref 164, .int 1, .int 0, .int 0]) (am_nxt_of (i := (126, 3, .invokevirtual 434, (199, 1828, 3), 0)) (by decide +kernel)) rfl rfl rfl rfl ac_o rfl rfl rfl ?_
        refine am_Ev_mono (ac_aSec1 hX hS (o := 0) (p := 0) hG.1 hG.2.1 (by decide) (by decide) (by decide) (by decide) eg) (fun r ks h1 hq => ?_)
        obtain ⟨rfl, rfl, I1, J1, f1, s1⟩ := hq
        have G1 : ac_Gu X ac_gu1 1 h0 s (lo + 1) ((99 + 99 * i.toInt + t.toInt) + 1) h1 := ac_Gu_1 (h := h) I1 J1 (ab_Fr_trans hG.2.2.1 (ab_mdle_Fr (by decide) f1)) eg0 eg1 (by omega) (by omega) s1
        obtain ⟨fu, efu, -⟩ := ac_r188 I1 (q := 1) (by decide)
        show am_Ek false am_G0 am_m229 79 _ [] _ _ _ _ _
        refine am_e_aload_n (am_nxt_of (i := (129, 1, .aload_n 0, (0, 0, 0), 0)) (by decide +kernel)) (v := 164) rfl ?_
        refine am_e_getf (am_nxt_of (i := (130, 3, .getfield 85, (12, 50, 1434), 0)) (by decide +kernel)) ac_o (ac_f50 I1) ?_
        refine am_e_iload_n (am_nxt_of (i := (133, 1, .iload_n 1, (0, 0, 0), 0)) (by decide +kernel)) (v := 1) rfl ?_
        refine am_e_iaload (v := fu) (q := 1) (am_nxt_of (i := (134, 1, .iaload, (0, 0, 0), 0)) (by decide +kernel)) ac_k188 (by decide) (by decide) efu ?_
        refine am_e_iload_n (am_nxt_of (i := (135, 1, .iload_n 3, (0, 0, 0), 0)) (by decide +kernel)) (v := bd) rfl ?_
        have e1 := ab_inc1 t0 (by omega)
        by_cases hfu : (fu : Int32) < bd
        · refine am_e_cmpT (am_nxt_of (i := (136, 3, .if_icmp .lt 7, (87, 0, 0), 0)) (by decide +kernel)) (am_c_ltT hfu) (am_tgt_of (by decide +kernel)) ?_
          refine am_e_iconst (w := 0) (am_nxt_of (i := (143, 1, .iconst 0, (0, 0, 0), 0)) (by decide +kernel)) rfl ?_
          refine am_e_istore (ls' := [(4, .int 0), (0, .ref 164), (1, .int 1), (2, .int k), (3, .int bd), (5, .int i), (6, .int t)]) (am_nxt_of (i := (144, 2, .istore 4, (0, 0, 0), 0)) (by decide +kernel)) (by decide +kernel) rfl ?_
          refine am_e_iinc (w := t + Int32.ofInt 1) (ls' := [(6, .int (t + Int32.ofInt 1)), (4, .int 0), (0, .ref 164), (1, .int 1), (2, .int k), (3, .int bd), (5, .int i)]) (am_nxt_of (i := (146, 3, .iinc 6 1, (0, 0, 0), 0)) (by decide +kernel)) (v := t) rfl (by decide +kernel) rfl rfl ?_
          refine am_e_goto (am_cur_of (i := (149, 3, .goto (-48), (62, 0, 0), 0)) (by decide +kernel)) (am_tgt_of (by decide +kernel)) ?_
          refine am_Ek_ls (ls' := [(0, .ref 164), (1, .int 1), (2, .int k), (3, .int bd), (4, .int 0), (5, .int i), (6, .int (t + Int32.ofInt 1))]) ⟨rfl, rfl, rfl, rfl, rfl, rfl, rfl, trivial⟩ ?_
          exact ih _ _ (lo + 1) h1 (by omega) (by omega) (by omega) (by omega) (Or.inl rfl) (Or.inr (by omega)) (ac_Gu_le G1 (by omega) (by omega))
        · refine am_e_cmpF (am_nxt_of (i := (136, 3, .if_icmp .lt 7, (87, 0, 0), 0)) (by decide +kernel)) (am_c_ltF hfu) ?_
          refine am_e_iconst (w := 1) (am_nxt_of (i := (139, 1, .iconst 1, (0, 0, 0), 0)) (by decide +kernel)) rfl ?_
          refine am_e_goto (am_cur_of (i := (140, 3, .goto 4, (88, 0, 0), 0)) (by decide +kernel)) (am_tgt_of (by decide +kernel)) ?_
          refine am_e_istore (ls' := [(4, .int 1), (0, .ref 164), (1, .int 1), (2, .int k), (3, .int bd), (5, .int i), (6, .int t)]) (am_nxt_of (i := (144, 2, .istore 4, (0, 0, 0), 0)) (by decide +kernel)) (by decide +kernel) rfl ?_
          refine am_e_iinc (w := t + Int32.ofInt 1) (ls' := [(6, .int (t + Int32.ofInt 1)), (4, .int 1), (0, .ref 164), (1, .int 1), (2, .int k), (3, .int bd), (5, .int i)]) (am_nxt_of (i := (146, 3, .iinc 6 1, (0, 0, 0), 0)) (by decide +kernel)) (v := t) rfl (by decide +kernel) rfl rfl ?_
          refine am_e_goto (am_cur_of (i := (149, 3, .goto (-48), (62, 0, 0), 0)) (by decide +kernel)) (am_tgt_of (by decide +kernel)) ?_
          refine am_Ek_ls (ls' := [(0, .ref 164), (1, .int 1), (2, .int k), (3, .int bd), (4, .int 1), (5, .int i), (6, .int (t + Int32.ofInt 1))]) ⟨rfl, rfl, rfl, rfl, rfl, rfl, rfl, trivial⟩ ?_
          exact ih _ _ (lo + 1) h1 (by omega) (by omega) (by omega) (by omega) (Or.inr rfl) (Or.inr (by omega)) (ac_Gu_le G1 (by omega) (by omega))
    · refine am_e_cmpT (am_nxt_of (i := (114, 3, .if_icmp .ge 38, (91, 0, 0), 0)) (by decide +kernel)) (am_c_geT ht) (am_tgt_of (by decide +kernel)) ?_
      have htt := ac_nlt' ht
      exact hk y h t hy (ac_Gu_le hG (by omega) (by omega))
theorem ac_gB1 (hX : ac_XF X) (hS : ac_SC (ac_JX X)) {h0 : am_H} {k bd s v2 v3 v5 : Int32} (k0 : 0 ≤ k.toInt) (k3 : k.toInt ≤ 3) (e5 : h0 170 ((7 : Int32) * k + 5).toNatClampNeg = .int v5) (v5_1 : v5.toInt ≤ 99) (e2 : h0 170 ((7 : Int32) * k + 2).toNatClampNeg = .int v2) (v2_0 : 1 ≤ v2.toInt) (v2_1 : v2.toInt ≤ 99) (e3 : h0 170 ((7 : Int32) * k + 3).toNatClampNeg = .int v3) (v3_0 : 1 ≤ v3.toInt) (v3_1 : v3.toInt ≤ 99) : ∀ (d : Nat) (i y : Int32) (lo : Int) (h : am_H), v2.toInt - i.toInt ≤ d → 0 ≤ i.toInt → i.toInt ≤ v2.toInt → 0 ≤ lo → (y = 0 ∨ y = 1) → (y = 1 ∧ i.toInt = 0 ∨ 1 ≤ lo) → ac_Gu X ac_gu1 1 h0 s lo (99 + 99 * i.toInt) h → am_Ek false am_G0 am_m229 44 [(0, .ref 164), (1, .int 1), (2, .int k), (3, .int bd), (4, .int y), (5, .int i)] [] am_ks0 h 0 0 (fun r ks h' => ks = am_ks0 ∧ (r = some (.int 0) ∨ r = some (.int 1)) ∧ ac_Gu X ac_gu1 1 h0 s 1 9900 h') := by
  have z0 : (0 : Int32).toInt = 0 := by decide
  have z1 : (1 : Int32).toInt = 1 := by decide
  have m5 := ab_m7 (k := k) (c := 5) k0 k3 (by decide) (by decide)
  have m2 := ab_m7 (k := k) (c := 2) k0 k3 (by decide) (by decide)
  have m3 := ab_m7 (k := k) (c := 3) k0 k3 (by decide) (by decide)
  have z5 : (5 : Int32).toInt = 5 := by decide
  have z2 : (2 : Int32).toInt = 2 := by decide
  have z3 : (3 : Int32).toInt = 3 := by decide
  have x5 := ab_ix (x := (7 : Int32) * k + 5) (n := 56) (by omega) (by omega)
  have x2 := ab_ix (x := (7 : Int32) * k + 2) (n := 56) (by omega) (by omega)
  have x3 := ab_ix (x := (7 : Int32) * k + 3) (n := 56) (by omega) (by omega)
  have hend : ∀ (y i : Int32) (lo : Int) (h : am_H), (y = 0 ∨ y = 1) → 1 ≤ lo → i.toInt ≤ 99 → ac_Gu X ac_gu1 1 h0 s lo (99 + 99 * i.toInt) h → am_Ek false am_G0 am_m229 99 [(0, .ref 164), (1, .int 1), (2, .int k), (3, .int bd), (4, .int y), (5, .int i)] [] am_ks0 h 0 0 (fun r ks h' => ks = am_ks0 ∧ (r = some (.int 0) ∨ r = some (.int 1)) ∧ ac_Gu X ac_gu1 1 h0 s 1 9900 h') := by
    intro y i lo h hy hl hi hG
    refine am_e_iload (am_nxt_of (i := (169, 2, .iload 4, (0, 0, 0), 0)) (by decide +kernel)) (v := y) rfl ?_
    exact am_e_iret (ty := .boolean) (am_cur_of (i := (171, 1, .ireturn, (0, 0, 0), 0)) (by decide +kernel)) rfl (ac_b01 hy) rfl ⟨rfl, by rcases hy with rfl | rfl <;> simp, ac_Gu_le hG (by omega) (by omega)⟩
  intro d
  induction d with
  | zero =>
    intro i y lo h hd i0 i1 l0 hy hl hG
    have e2' : h 170 ((7 : Int32) * k + 2).toNatClampNeg = .int v2 := (hG.2.2.1 170 _ rfl).trans e2
    refine am_e_iload (am_nxt_of (i := (71, 2, .iload 5, (0, 0, 0), 0)) (by decide +kernel)) (v := i) rfl ?_
    refine am_e_aload_n (am_nxt_of (i := (73, 1, .aload_n 0, (0, 0, 0), 0)) (by decide +kernel)) (v := 164) rfl ?_
    refine am_e_getf (am_nxt_of (i := (74, 3, .getfield 30, (12, 25, 1409), 0)) (by decide +kernel)) ac_o (ac_f25 hG.1) ?_
    refine am_e_bipush (w := 7) (am_nxt_of (i := (77, 2, .bipush 7, (0, 0, 0), 0)) (by decide +kernel)) (by decide) ?_
    refine am_e_iload_n (am_nxt_of (i := (79, 1, .iload_n 2, (0, 0, 0), 0)) (by decide +kernel)) (v := k) rfl ?_
    refine am_e_imul (w := 7 * k) (am_nxt_of (i := (80, 1, .imul, (0, 0, 0), 0)) (by decide +kernel)) rfl ?_
    refine am_e_iconst (w := 2) (am_nxt_of (i := (81, 1, .iconst 2, (0, 0, 0), 0)) (by decide +kernel)) rfl ?_
    refine am_e_iadd (w := (7 * k) + 2) (am_nxt_of (i := (82, 1, .iadd, (0, 0, 0), 0)) (by decide +kernel)) rfl ?_
    refine am_e_iaload (v := v2) (am_nxt_of (i := (83, 1, .iaload, (0, 0, 0), 0)) (by decide +kernel)) ac_k170 x2 rfl e2' ?_
    refine am_e_cmpT (am_nxt_of (i := (84, 3, .if_icmp .ge 85, (99, 0, 0), 0)) (by decide +kernel)) (am_c_geT (ac_nlt (by omega))) (am_tgt_of (by decide +kernel)) ?_
    exact hend y i lo h hy (by omega) (by omega) hG
  | succ d ih =>
    intro i y lo h hd i0 i1 l0 hy hl hG
    have e2' : h 170 ((7 : Int32) * k + 2).toNatClampNeg = .int v2 := (hG.2.2.1 170 _ rfl).trans e2
    refine am_e_iload (am_nxt_of (i := (71, 2, .iload 5, (0, 0, 0), 0)) (by decide +kernel)) (v := i) rfl ?_
    refine am_e_aload_n (am_nxt_of (i := (73, 1, .aload_n 0, (0, 0, 0), 0)) (by decide +kernel)) (v := 164) rfl ?_
    refine am_e_getf (am_nxt_of (i := (74, 3, .getfield 30, (12, 25, 1409), 0)) (by decide +kernel)) ac_o (ac_f25 hG.1) ?_
    refine am_e_bipush (w := 7) (am_nxt_of (i := (77, 2, .bipush 7, (0, 0, 0), 0)) (by decide +kernel)) (by decide) ?_
    refine am_e_iload_n (am_nxt_of (i := (79, 1, .iload_n 2, (0, 0, 0), 0)) (by decide +kernel)) (v := k) rfl ?_
    refine am_e_imul (w := 7 * k) (am_nxt_of (i := (80, 1, .imul, (0, 0, 0), 0)) (by decide +kernel)) rfl ?_
    refine am_e_iconst (w := 2) (am_nxt_of (i := (81, 1, .iconst 2, (0, 0, 0), 0)) (by decide +kernel)) rfl ?_
    refine am_e_iadd (w := (7 * k) + 2) (am_nxt_of (i := (82, 1, .iadd, (0, 0, 0), 0)) (by decide +kernel)) rfl ?_
    refine am_e_iaload (v := v2) (am_nxt_of (i := (83, 1, .iaload, (0, 0, 0), 0)) (by decide +kernel)) ac_k170 x2 rfl e2' ?_
    by_cases hi : (i : Int32) < v2
    · refine am_e_cmpF (am_nxt_of (i := (84, 3, .if_icmp .ge 85, (99, 0, 0), 0)) (by decide +kernel)) (am_c_geF hi) ?_
      have hii := ac_lt' hi
      refine am_e_iload (am_nxt_of (i := (87, 2, .iload 4, (0, 0, 0), 0)) (by decide +kernel)) (v := y) rfl ?_
      by_cases hy0 : (y : Int32) = 0
      · refine am_e_ifT (am_nxt_of (i := (89, 3, .ifCond .eq 80, (99, 0, 0), 0)) (by decide +kernel)) (am_c_eqT hy0) (am_tgt_of (by decide +kernel)) ?_
        have : 1 ≤ lo := by
          rcases hl with ⟨hl, -⟩ | hl
          · rw [hy0] at hl; cases hl
          · exact hl
        exact hend y i lo h hy this (by omega) hG
      · refine am_e_ifF (am_nxt_of (i := (89, 3, .ifCond .eq 80, (99, 0, 0), 0)) (by decide +kernel)) (am_c_eqF hy0) ?_
        have hy1 : y = 1 := by
          rcases hy with q | q
          · exact absurd q hy0
          · exact q
        refine am_e_aload_n (am_nxt_of (i := (92, 1, .aload_n 0, (0, 0, 0), 0)) (by decide +kernel)) (v := 164) rfl ?_
        refine am_e_iload_n (am_nxt_of (i := (93, 1, .iload_n 1, (0, 0, 0), 0)) (by decide +kernel)) (v := 1) rfl ?_
        refine am_e_iload_n (am_nxt_of (i := (94, 1, .iload_n 2, (0, 0, 0), 0)) (by decide +kernel)) (v := k) rfl ?_
        refine am_e_callV (M' := am_m204) (o := 164) (ar := [.int k, .int 1]) (rest := []) (L := lv_args 0 [.ref 164, .int 1, .int k]) (am_nxt_of (i := (95, 3, .invokevirtual 413, (204, 1847, 3), 0)) (by decide +kernel)) rfl rfl rfl rfl ac_o rfl rfl rfl ?_
        refine am_Ev_mono (ac_use hS.2.2.2.1 rfl ⟨⟨164, rfl, List.mem_singleton.mpr rfl⟩, ab_i_ok (by decide) (by decide), ab_i_ok k0 k3, trivial⟩ hG.1 hG.2.1 ac_p0) (fun r ks h1 hq => ?_)
        obtain ⟨rfl, I1, J1, f1, c, hc, hg⟩ := hq
        have hr := ab_voidC_ok (s := ab_S_rests_x_x) rfl ⟨c, hc, hg.1⟩
        subst hr
        have G1 := ac_Gu_call hG I1 J1 (md' := ab_S_rests_x_x.2.2.2.1) (by decide) (by decide) f1
        show am_Ek false am_G0 am_m229 60 _ [] _ _ _ _ _
        refine am_e_iconst (w := 0) (am_nxt_of (i := (98, 1, .iconst 0, (0, 0, 0), 0)) (by decide +kernel)) rfl ?_
        refine am_e_istore (ls' := [(6, .int 0), (0, .ref 164), (1, .int 1), (2, .int k), (3, .int bd), (4, .int y), (5, .int i)]) (am_nxt_of (i := (99, 2, .istore 6, (0, 0, 0), 0)) (by decide +kernel)) (by decide +kernel) rfl ?_
        refine am_Ek_ls (ls' := [(0, .ref 164), (1, .int 1), (2, .int k), (3, .int bd), (4, .int y), (5, .int i), (6, .int 0)]) ⟨rfl, rfl, rfl, rfl, rfl, rfl, rfl, trivial⟩ ?_
        refine ac_gA1 hX hS k0 k3 e5 v5_1 e2 v2_0 v2_1 e3 v3_0 v3_1 i0 hii ?_ v3.toInt.toNat 0 y lo h1 (by omega) (by decide) (by omega) l0 hy (Or.inl ⟨hy1, by decide⟩) (ac_Gu_le G1 (by omega) (by omega))
        intro y2 h2 t hy2 G2
        have e1 := ab_inc1 i0 (by omega)
        refine am_e_iload (am_nxt_of (i := (152, 2, .iload 4, (0, 0, 0), 0)) (by decide +kernel)) (v := y2) rfl ?_
        by_cases hyz : (y2 : Int32) = 0
        · refine am_e_ifT (am_nxt_of (i := (154, 3, .ifCond .eq 9, (97, 0, 0), 0)) (by decide +kernel)) (am_c_eqT hyz) (am_tgt_of (by decide +kernel)) ?_
          refine am_e_iinc (w := i + Int32.ofInt 1) (ls' := [(5, .int (i + Int32.ofInt 1)), (0, .ref 164), (1, .int 1), (2, .int k), (3, .int bd), (4, .int y2), (6, .int t)]) (am_nxt_of (i := (163, 3, .iinc 5 1, (0, 0, 0), 0)) (by decide +kernel)) (v := i) rfl (by decide +kernel) rfl rfl ?_
          refine am_e_goto (am_cur_of (i := (166, 3, .goto (-95), (44, 0, 0), 0)) (by decide +kernel)) (am_tgt_of (by decide +kernel)) ?_
          refine am_Ek_ls (ls' := [(0, .ref 164), (1, .int 1), (2, .int k), (3, .int bd), (4, .int y2), (5, .int (i + Int32.ofInt 1))]) ⟨rfl, rfl, rfl, rfl, rfl, rfl, trivial⟩ ?_
          exact ih _ _ 1 h2 (by omega) (by omega) (by omega) (by omega) hy2 (Or.inr (by omega)) (ac_Gu_le G2 (by omega) (by omega))
        · refine am_e_ifF (am_nxt_of (i := (154, 3, .ifCond .eq 9, (97, 0, 0), 0)) (by decide +kernel)) (am_c_eqF hyz) ?_
          refine am_e_aload_n (am_nxt_of (i := (157, 1, .aload_n 0, (0, 0, 0), 0)) (by decide +kernel)) (v := 164) rfl ?_
          refine am_e_iload_n (am_nxt_of (i := (158, 1, .iload_n 1, (0, 0, 0), 0)) (by decide +kernel)) (v := 1) rfl ?_
          refine am_e_iload_n (am_nxt_of (i := (159, 1, .iload_n 2, (0, 0, 0), 0)) (by decide +kernel)) (v := k) rfl ?_
          refine am_e_callV (M' := am_m205) (o := 164) (ar := [.int k, .int 1]) (rest := []) (L := lv_args 0 [.ref 164, .int 1, .int k]) (am_nxt_of (i := (160, 3, .invokevirtual 441, (205, 1851, 3), 0)) (by decide +kernel)) rfl rfl rfl rfl ac_o rfl rfl rfl ?_
          refine am_Ev_mono (ac_use hS.2.2.2.2.1 rfl ⟨⟨164, rfl, List.mem_singleton.mpr rfl⟩, ab_i_ok (by decide) (by decide), ab_i_ok k0 k3, trivial⟩ G2.1 G2.2.1 ac_p0) (fun r ks h3 hq => ?_)
          obtain ⟨rfl, I3, J3, f3, c3, hc3, hg3⟩ := hq
          have hr3 := ab_voidC_ok (s := ab_S_fills_x_x) rfl ⟨c3, hc3, hg3.1⟩
          subst hr3
          have G3 := ac_Gu_call G2 I3 J3 (md' := ab_S_fills_x_x.2.2.2.1) (by decide) (by decide) f3
          show am_Ek false am_G0 am_m229 97 _ [] _ _ _ _ _
          refine am_e_iinc (w := i + Int32.ofInt 1) (ls' := [(5, .int (i + Int32.ofInt 1)), (0, .ref 164), (1, .int 1), (2, .int k), (3, .int bd), (4, .int y2), (6, .int t)]) (am_nxt_of (i := (163, 3, .iinc 5 1, (0, 0, 0), 0)) (by decide +kernel)) (v := i) rfl (by decide +kernel) rfl rfl ?_
          refine am_e_goto (am_cur_of (i := (166, 3, .goto (-95), (44, 0, 0), 0)) (by decide +kernel)) (am_tgt_of (by decide +kernel)) ?_
          refine am_Ek_ls (ls' := [(0, .ref 164), (1, .int 1), (2, .int k), (3, .int bd), (4, .int y2), (5, .int (i + Int32.ofInt 1))]) ⟨rfl, rfl, rfl, rfl, rfl, rfl, trivial⟩ ?_
          exact ih _ _ 1 h3 (by omega) (by omega) (by omega) (by omega) hy2 (Or.inr (by omega)) (ac_Gu_le G3 (by omega) (by omega))
    · refine am_e_cmpT (am_nxt_of (i := (84, 3, .if_icmp .ge 85, (99, 0, 0), 0)) (by decide +kernel)) (am_c_geT hi) (am_tgt_of (by decide +kernel)) ?_
      have hii := ac_nlt' hi
      exact hend y i lo h hy (by omega) (by omega) hG
theorem ac_gC1 (hX : ac_XF X) (hS : ac_SC (ac_JX X)) {h0 : am_H} {k bd s v2 v3 v5 : Int32} (k0 : 0 ≤ k.toInt) (k3 : k.toInt ≤ 3) (e5 : h0 170 ((7 : Int32) * k + 5).toNatClampNeg = .int v5) (v5_1 : v5.toInt ≤ 99) (e2 : h0 170 ((7 : Int32) * k + 2).toNatClampNeg = .int v2) (v2_0 : 1 ≤ v2.toInt) (v2_1 : v2.toInt ≤ 99) (e3 : h0 170 ((7 : Int32) * k + 3).toNatClampNeg = .int v3) (v3_0 : 1 ≤ v3.toInt) (v3_1 : v3.toInt ≤ 99) : ∀ (d : Nat) (i y : Int32) (lo : Int) (h : am_H), 99 - i.toInt ≤ d → 0 ≤ i.toInt → i.toInt ≤ 99 → 0 ≤ lo → (y = 0 ∨ y = 1) → (y = 1 ∨ 1 ≤ lo) → ac_Gu X ac_gu1 1 h0 s lo i.toInt h → am_Ek false am_G0 am_m229 13 [(0, .ref 164), (1, .int 1), (2, .int k), (3, .int bd), (4, .int y), (5, .int i)] [] am_ks0 h 0 0 (fun r ks h' => ks = am_ks0 ∧ (r = some (.int 0) ∨ r = some (.int 1)) ∧ ac_Gu X ac_gu1 1 h0 s 1 9900 h') := by
  have z0 : (0 : Int32).toInt = 0 := by decide
  have z1 : (1 : Int32).toInt = 1 := by decide
  have m5 := ab_m7 (k := k) (c := 5) k0 k3 (by decide) (by decide)
  have m2 := ab_m7 (k := k) (c := 2) k0 k3 (by decide) (by decide)
  have m3 := ab_m7 (k := k) (c := 3) k0 k3 (by decide) (by decide)
  have z5 : (5 : Int32).toInt = 5 := by decide
  have z2 : (2 : Int32).toInt = 2 := by decide
  have z3 : (3 : Int32).toInt = 3 := by decide
  have x5 := ab_ix (x := (7 : Int32) * k + 5) (n := 56) (by omega) (by omega)
  have x2 := ab_ix (x := (7 : Int32) * k + 2) (n := 56) (by omega) (by omega)
  have x3 := ab_ix (x := (7 : Int32) * k + 3) (n := 56) (by omega) (by omega)
  have hgo : ∀ (y i : Int32) (lo : Int) (h : am_H), (y = 0 ∨ y = 1) → 0 ≤ lo → (y = 1 ∨ 1 ≤ lo) → i.toInt ≤ 99 → ac_Gu X ac_gu1 1 h0 s lo i.toInt h → am_Ek false am_G0 am_m229 42 [(0, .ref 164), (1, .int 1), (2, .int k), (3, .int bd), (4, .int y), (5, .int i)] [] am_ks0 h 0 0 (fun r ks h' => ks = am_ks0 ∧ (r = some (.int 0) ∨ r = some (.int 1)) ∧ ac_Gu X ac_gu1 1 h0 s 1 9900 h') := by
    intro y i lo h hy l0 hl hi hG
    refine am_e_iconst (w := 0) (am_nxt_of (i := (68, 1, .iconst 0, (0, 0, 0), 0)) (by decide +kernel)) rfl ?_
    refine am_e_istore (ls' := [(5, .int 0), (0, .ref 164), (1, .int 1), (2, .int k), (3, .int bd), (4, .int y)]) (am_nxt_of (i := (69, 2, .istore 5, (0, 0, 0), 0)) (by decide +kernel)) (by decide +kernel) rfl ?_
    refine am_Ek_ls (ls' := [(0, .ref 164), (1, .int 1), (2, .int k), (3, .int bd), (4, .int y), (5, .int 0)]) ⟨rfl, rfl, rfl, rfl, rfl, rfl, trivial⟩ ?_
    refine ac_gB1 hX hS k0 k3 e5 v5_1 e2 v2_0 v2_1 e3 v3_0 v3_1 v2.toInt.toNat 0 y lo h (by omega) (by decide) (by omega) l0 hy ?_ (ac_Gu_le hG (by omega) (by omega))
    rcases hl with hl | hl
    · exact Or.inl ⟨hl, by decide⟩
    · exact Or.inr hl
  intro d
  induction d with
  | zero =>
    intro i y lo h hd i0 i1 l0 hy hl hG
    have e5' : h 170 ((7 : Int32) * k + 5).toNatClampNeg = .int v5 := (hG.2.2.1 170 _ rfl).trans e5
    refine am_e_iload (am_nxt_of (i := (17, 2, .iload 5, (0, 0, 0), 0)) (by decide +kernel)) (v := i) rfl ?_
    refine am_e_aload_n (am_nxt_of (i := (19, 1, .aload_n 0, (0, 0, 0), 0)) (by decide +kernel)) (v := 164) rfl ?_
    refine am_e_getf (am_nxt_of (i := (20, 3, .getfield 30, (12, 25, 1409), 0)) (by decide +kernel)) ac_o (ac_f25 hG.1) ?_
    refine am_e_bipush (w := 7) (am_nxt_of (i := (23, 2, .bipush 7, (0, 0, 0), 0)) (by decide +kernel)) (by decide) ?_
    refine am_e_iload_n (am_nxt_of (i := (25, 1, .iload_n 2, (0, 0, 0), 0)) (by decide +kernel)) (v := k) rfl ?_
    refine am_e_imul (w := 7 * k) (am_nxt_of (i := (26, 1, .imul, (0, 0, 0), 0)) (by decide +kernel)) rfl ?_
    refine am_e_iconst (w := 5) (am_nxt_of (i := (27, 1, .iconst 5, (0, 0, 0), 0)) (by decide +kernel)) rfl ?_
    refine am_e_iadd (w := (7 * k) + 5) (am_nxt_of (i := (28, 1, .iadd, (0, 0, 0), 0)) (by decide +kernel)) rfl ?_
    refine am_e_iaload (v := v5) (am_nxt_of (i := (29, 1, .iaload, (0, 0, 0), 0)) (by decide +kernel)) ac_k170 x5 rfl e5' ?_
    refine am_e_cmpT (am_nxt_of (i := (30, 3, .if_icmp .ge 38, (42, 0, 0), 0)) (by decide +kernel)) (am_c_geT (ac_nlt (by omega))) (am_tgt_of (by decide +kernel)) ?_
    exact hgo y i lo h hy l0 hl i1 hG
  | succ d ih =>
    intro i y lo h hd i0 i1 l0 hy hl hG
    have e5' : h 170 ((7 : Int32) * k + 5).toNatClampNeg = .int v5 := (hG.2.2.1 170 _ rfl).trans e5
    refine am_e_iload (am_nxt_of (i := (17, 2, .iload 5, (0, 0, 0), 0)) (by decide +kernel)) (v := i) rfl ?_
    refine am_e_aload_n (am_nxt_of (i := (19, 1, .aload_n 0, (0, 0, 0), 0)) (by decide +kernel)) (v := 164) rfl ?_
    refine am_e_getf (am_nxt_of (i := (20, 3, .getfield 30, (12, 25, 1409), 0)) (by decide +kernel)) ac_o (ac_f25 hG.1) ?_
    refine am_e_bipush (w := 7) (am_nxt_of (i := (23, 2, .bipush 7, (0, 0, 0), 0)) (by decide +kernel)) (by decide) ?_
    refine am_e_iload_n (am_nxt_of (i := (25, 1, .iload_n 2, (0, 0, 0), 0)) (by decide +kernel)) (v := k) rfl ?_
    refine am_e_imul (w := 7 * k) (am_nxt_of (i := (26, 1, .imul, (0, 0, 0), 0)) (by decide +kernel)) rfl ?_
    refine am_e_iconst (w := 5) (am_nxt_of (i := (27, 1, .iconst 5, (0, 0, 0), 0)) (by decide +kernel)) rfl ?_
    refine am_e_iadd (w := (7 * k) + 5) (am_nxt_of (i := (28, 1, .iadd, (0, 0, 0), 0)) (by decide +kernel)) rfl ?_
    refine am_e_iaload (v := v5) (am_nxt_of (i := (29, 1, .iaload, (0, 0, 0), 0)) (by decide +kernel)) ac_k170 x5 rfl e5' ?_
    by_cases hi : (i : Int32) < v5
    · refine am_e_cmpF (am_nxt_of (i := (30, 3, .if_icmp .ge 38, (42, 0, 0), 0)) (by decide +kernel)) (am_c_geF hi) ?_
      have hii := ac_lt' hi
      refine am_e_iload (am_nxt_of (i := (33, 2, .iload 4, (0, 0, 0), 0)) (by decide +kernel)) (v := y) rfl ?_
      by_cases hy0 : (y : Int32) = 0
      · refine am_e_ifT (am_nxt_of (i := (35, 3, .ifCond .eq 33, (42, 0, 0), 0)) (by decide +kernel)) (am_c_eqT hy0) (am_tgt_of (by decide +kernel)) ?_
        exact hgo y i lo h hy l0 hl i1 hG
      · refine am_e_ifF (am_nxt_of (i := (35, 3, .ifCond .eq 33, (42, 0, 0), 0)) (by decide +kernel)) (am_c_eqF hy0) ?_
        obtain ⟨ev_, eg, eg0, eg1⟩ := hG.2.2.2
        refine am_e_aload_n (am_nxt_of (i := (38, 1, .aload_n 0, (0, 0, 0), 0)) (by decide +kernel)) (v := 164) rfl ?_
        refine am_e_iload_n (am_nxt_of (i := (39, 1, .iload_n 1, (0, 0, 0), 0)) (by decide +kernel)) (v := 1) rfl ?_
        refine am_e_iconst (w := 1) (am_nxt_of (i := (40, 1, .iconst 1, (0, 0, 0), 0)) (by decide +kernel)) rfl ?_
        refine am_e_iconst (w := 0) (am_nxt_of (i := (41, 1, .iconst 0, (0, 0, 0), 0)) (by decide +kernel)) rfl ?_
        refine am_e_callV (M' := am_m199) (o := 164) (ar := [.int 0, .int 1, .int 1]) (rest := []) (L := lv_args 0 [.ref 164, .int 1, .int 1, .int 0]) (am_nxt_of (i := (42, 3, .invokevirtual 434, (199, 1828, 3), 0)) (by decide +kernel)) rfl rfl rfl rfl ac_o rfl rfl rfl ?_
        refine am_Ev_mono (ac_aSec1 hX hS (o := 1) (p := 0) hG.1 hG.2.1 (by decide) (by decide) (by decide) (by decide) eg) (fun r ks h1 hq => ?_)
        obtain ⟨rfl, rfl, I1, J1, f1, s1⟩ := hq
        have G1 : ac_Gu X ac_gu1 1 h0 s (lo + 1) (i.toInt + 1) h1 := ac_Gu_1 (h := h) I1 J1 (ab_Fr_trans hG.2.2.1 (ab_mdle_Fr (by decide) f1)) eg0 eg1 (by omega) (by omega) s1
        obtain ⟨fu, efu, -⟩ := ac_r188 I1 (q := 1) (by decide)
        show am_Ek false am_G0 am_m229 30 _ [] _ _ _ _ _
        refine am_e_aload_n (am_nxt_of (i := (45, 1, .aload_n 0, (0, 0, 0), 0)) (by decide +kernel)) (v := 164) rfl ?_
        refine am_e_getf (am_nxt_of (i := (46, 3, .getfield 85, (12, 50, 1434), 0)) (by decide +kernel)) ac_o (ac_f50 I1) ?_
        refine am_e_iload_n (am_nxt_of (i := (49, 1, .iload_n 1, (0, 0, 0), 0)) (by decide +kernel)) (v := 1) rfl ?_
        refine am_e_iaload (v := fu) (q := 1) (am_nxt_of (i := (50, 1, .iaload, (0, 0, 0), 0)) (by decide +kernel)) ac_k188 (by decide) (by decide) efu ?_
        refine am_e_iload_n (am_nxt_of (i := (51, 1, .iload_n 3, (0, 0, 0), 0)) (by decide +kernel)) (v := bd) rfl ?_
        have e1 := ab_inc1 i0 (by omega)
        by_cases hfu : (fu : Int32) < bd
        · refine am_e_cmpT (am_nxt_of (i := (52, 3, .if_icmp .lt 7, (38, 0, 0), 0)) (by decide +kernel)) (am_c_ltT hfu) (am_tgt_of (by decide +kernel)) ?_
          refine am_e_iconst (w := 0) (am_nxt_of (i := (59, 1, .iconst 0, (0, 0, 0), 0)) (by decide +kernel)) rfl ?_
          refine am_e_istore (ls' := [(4, .int 0), (0, .ref 164), (1, .int 1), (2, .int k), (3, .int bd), (5, .int i)]) (am_nxt_of (i := (60, 2, .istore 4, (0, 0, 0), 0)) (by decide +kernel)) (by decide +kernel) rfl ?_
          refine am_e_iinc (w := i + Int32.ofInt 1) (ls' := [(5, .int (i + Int32.ofInt 1)), (4, .int 0), (0, .ref 164), (1, .int 1), (2, .int k), (3, .int bd)]) (am_nxt_of (i := (62, 3, .iinc 5 1, (0, 0, 0), 0)) (by decide +kernel)) (v := i) rfl (by decide +kernel) rfl rfl ?_
          refine am_e_goto (am_cur_of (i := (65, 3, .goto (-48), (13, 0, 0), 0)) (by decide +kernel)) (am_tgt_of (by decide +kernel)) ?_
          refine am_Ek_ls (ls' := [(0, .ref 164), (1, .int 1), (2, .int k), (3, .int bd), (4, .int 0), (5, .int (i + Int32.ofInt 1))]) ⟨rfl, rfl, rfl, rfl, rfl, rfl, trivial⟩ ?_
          exact ih _ _ (lo + 1) h1 (by omega) (by omega) (by omega) (by omega) (Or.inl rfl) (Or.inr (by omega)) (ac_Gu_le G1 (by omega) (by omega))
        · refine am_e_cmpF (am_nxt_of (i := (52, 3, .if_icmp .lt 7, (38, 0, 0), 0)) (by decide +kernel)) (am_c_ltF hfu) ?_
          refine am_e_iconst (w := 1) (am_nxt_of (i := (55, 1, .iconst 1, (0, 0, 0), 0)) (by decide +kernel)) rfl ?_
          refine am_e_goto (am_cur_of (i := (56, 3, .goto 4, (39, 0, 0), 0)) (by decide +kernel)) (am_tgt_of (by decide +kernel)) ?_
          refine am_e_istore (ls' := [(4, .int 1), (0, .ref 164), (1, .int 1), (2, .int k), (3, .int bd), (5, .int i)]) (am_nxt_of (i := (60, 2, .istore 4, (0, 0, 0), 0)) (by decide +kernel)) (by decide +kernel) rfl ?_
          refine am_e_iinc (w := i + Int32.ofInt 1) (ls' := [(5, .int (i + Int32.ofInt 1)), (4, .int 1), (0, .ref 164), (1, .int 1), (2, .int k), (3, .int bd)]) (am_nxt_of (i := (62, 3, .iinc 5 1, (0, 0, 0), 0)) (by decide +kernel)) (v := i) rfl (by decide +kernel) rfl rfl ?_
          refine am_e_goto (am_cur_of (i := (65, 3, .goto (-48), (13, 0, 0), 0)) (by decide +kernel)) (am_tgt_of (by decide +kernel)) ?_
          refine am_Ek_ls (ls' := [(0, .ref 164), (1, .int 1), (2, .int k), (3, .int bd), (4, .int 1), (5, .int (i + Int32.ofInt 1))]) ⟨rfl, rfl, rfl, rfl, rfl, rfl, trivial⟩ ?_
          exact ih _ _ (lo + 1) h1 (by omega) (by omega) (by omega) (by omega) (Or.inr rfl) (Or.inr (by omega)) (ac_Gu_le G1 (by omega) (by omega))
    · refine am_e_cmpT (am_nxt_of (i := (30, 3, .if_icmp .ge 38, (42, 0, 0), 0)) (by decide +kernel)) (am_c_geT hi) (am_tgt_of (by decide +kernel)) ?_
      exact hgo y i lo h hy l0 hl i1 hG
theorem ac_getsUp1 (hX : ac_XF X) (hS : ac_SC (ac_JX X)) {h0 : am_H} {k bd s n : Int32} (k0 : 0 ≤ k.toInt) (k3 : k.toInt ≤ 3) (en : h0 164 12 = .int n) (hkn : k.toInt < n.toInt) (hI : ab_Inv (ab_hi ab_tab) h0) (hj : ac_JX X h0) (hs : h0 189 1 = .int s) : am_Ek false am_G0 am_m229 0 (lv_args 0 [.ref 164, .int 1, .int k, .int bd]) [] am_ks0 h0 0 0 (fun r ks h' => ks = am_ks0 ∧ (r = some (.int 0) ∨ r = some (.int 1)) ∧ ac_Gu X ac_gu1 1 h0 s 1 9900 h') := by
  have z0 : (0 : Int32).toInt = 0 := by decide
  have z1 : (1 : Int32).toInt = 1 := by decide
  have m5 := ab_m7 (k := k) (c := 5) k0 k3 (by decide) (by decide)
  have m2 := ab_m7 (k := k) (c := 2) k0 k3 (by decide) (by decide)
  have m3 := ab_m7 (k := k) (c := 3) k0 k3 (by decide) (by decide)
  have z5 : (5 : Int32).toInt = 5 := by decide
  have z2 : (2 : Int32).toInt = 2 := by decide
  have z3 : (3 : Int32).toInt = 3 := by decide
  have x5 := ab_ix (x := (7 : Int32) * k + 5) (n := 56) (by omega) (by omega)
  have x2 := ab_ix (x := (7 : Int32) * k + 2) (n := 56) (by omega) (by omega)
  have x3 := ab_ix (x := (7 : Int32) * k + 3) (n := 56) (by omega) (by omega)
  obtain ⟨v5, e5, -, v5_1⟩ := ac_r170 hI (q := ((7 : Int32) * k + 5).toNatClampNeg) (Nat.lt_of_not_le (fun q => x5 (Or.inr q)))
  obtain ⟨v2, e2, -, v2_1⟩ := ac_r170 hI (q := ((7 : Int32) * k + 2).toNatClampNeg) (Nat.lt_of_not_le (fun q => x2 (Or.inr q)))
  obtain ⟨v3, e3, -, v3_1⟩ := ac_r170 hI (q := ((7 : Int32) * k + 3).toNatClampNeg) (Nat.lt_of_not_le (fun q => x3 (Or.inr q)))
  obtain ⟨⟨w2, ew2, w2_0⟩, w3, ew3, w3_0⟩ := hj.1.2.2.2.2.2.2.1 k.toInt.toNat n en (by omega)
  have c2 : ((7 : Int32) * k + 2).toNatClampNeg = 0 + 7 * k.toInt.toNat + 2 := ab_clamp (by omega)
  have c3 : ((7 : Int32) * k + 3).toNatClampNeg = 0 + 7 * k.toInt.toNat + 3 := ab_clamp (by omega)
  have v2_0 : 1 ≤ v2.toInt := by
    rw [c2, ew2] at e2
    cases e2
    exact w2_0
  have v3_0 : 1 ≤ v3.toInt := by
    rw [c3, ew3] at e3
    cases e3
    exact w3_0
  have a4 := ac_4p 1 1 (by decide) (by decide) k0 k3
  have x4 := ab_ix (x := (4 : Int32) * 1 + k) (n := 16) (by omega) (by omega)
  refine am_e_iconst (w := 1) (am_nxt_of (i := (0, 1, .iconst 1, (0, 0, 0), 0)) (by decide +kernel)) rfl ?_
  refine am_e_istore (ls' := [(4, .int 1), (0, .ref 164), (1, .int 1), (2, .int k), (3, .int bd)]) (am_nxt_of (i := (1, 2, .istore 4, (0, 0, 0), 0)) (by decide +kernel)) (by decide +kernel) rfl ?_
  refine am_e_aload_n (am_nxt_of (i := (3, 1, .aload_n 0, (0, 0, 0), 0)) (by decide +kernel)) (v := 164) rfl ?_
  refine am_e_getf (am_nxt_of (i := (4, 3, .getfield 94, (12, 53, 1437), 0)) (by decide +kernel)) ac_o (ac_f53 hI) ?_
  refine am_e_iconst (w := 4) (am_nxt_of (i := (7, 1, .iconst 4, (0, 0, 0), 0)) (by decide +kernel)) rfl ?_
  refine am_e_iload_n (am_nxt_of (i := (8, 1, .iload_n 1, (0, 0, 0), 0)) (by decide +kernel)) (v := 1) rfl ?_
  refine am_e_imul (w := (4 : Int32) * 1) (am_nxt_of (i := (9, 1, .imul, (0, 0, 0), 0)) (by decide +kernel)) rfl ?_
  refine am_e_iload_n (am_nxt_of (i := (10, 1, .iload_n 2, (0, 0, 0), 0)) (by decide +kernel)) (v := k) rfl ?_
  refine am_e_iadd (w := (4 : Int32) * 1 + k) (am_nxt_of (i := (11, 1, .iadd, (0, 0, 0), 0)) (by decide +kernel)) rfl ?_
  refine am_e_iconst (w := 0) (am_nxt_of (i := (12, 1, .iconst 0, (0, 0, 0), 0)) (by decide +kernel)) rfl ?_
  refine am_e_iastore (am_nxt_of (i := (13, 1, .iastore, (0, 0, 0), 0)) (by decide +kernel)) ac_k191 x4 rfl ?_
  have I1 := ac_w191 (q := ((4 : Int32) * 1 + k).toNatClampNeg) (v := 0) hI (by decide) (by decide)
  have f1 : ab_Fr [(191, 0)] h0 (am_up h0 191 ((4 : Int32) * 1 + k).toNatClampNeg (.int 0)) := ab_Fr_up rfl ab_Fr_refl
  have J1 := ac_JX_fr hX rfl _ _ f1 hj
  refine am_e_iconst (w := 0) (am_nxt_of (i := (14, 1, .iconst 0, (0, 0, 0), 0)) (by decide +kernel)) rfl ?_
  refine am_e_istore (ls' := [(5, .int 0), (4, .int 1), (0, .ref 164), (1, .int 1), (2, .int k), (3, .int bd)]) (am_nxt_of (i := (15, 2, .istore 5, (0, 0, 0), 0)) (by decide +kernel)) (by decide +kernel) rfl ?_
  refine am_Ek_ls (ls' := [(0, .ref 164), (1, .int 1), (2, .int k), (3, .int bd), (4, .int 1), (5, .int 0)]) ⟨rfl, rfl, rfl, rfl, rfl, rfl, trivial⟩ ?_
  exact ac_gC1 hX hS k0 k3 e5 v5_1 e2 v2_0 v2_1 e3 v3_0 v3_1 99 0 1 0 _ (by decide) (by decide) (by decide) (by decide) (Or.inr rfl) (Or.inl rfl) ⟨I1, J1, ab_mdle_Fr (by decide) f1, 0, by rw [Int32.add_zero]; exact hs, by decide, by decide⟩
abbrev ac_gu3 : List (Nat × Nat) := [(164, 50), (186, 1), (186, 2), (186, 3), (186, 4), (186, 5), (186, 6), (187, 0), (188, 0), (189, 4), (190, 0), (191, 0), (192, 0), (193, 0)]
theorem ac_gA3 (hX : ac_XF X) (hS : ac_SC (ac_JX X)) {h0 : am_H} {k bd s v2 v3 v5 : Int32} (k0 : 0 ≤ k.toInt) (k3 : k.toInt ≤ 3) (e5 : h0 170 ((7 : Int32) * k + 5).toNatClampNeg = .int v5) (v5_1 : v5.toInt ≤ 99) (e2 : h0 170 ((7 : Int32) * k + 2).toNatClampNeg = .int v2) (v2_0 : 1 ≤ v2.toInt) (v2_1 : v2.toInt ≤ 99) (e3 : h0 170 ((7 : Int32) * k + 3).toNatClampNeg = .int v3) (v3_0 : 1 ≤ v3.toInt) (v3_1 : v3.toInt ≤ 99) {i : Int32} (i0 : 0 ≤ i.toInt) (i9 : i.toInt < v2.toInt) (hk : ∀ (y : Int32) (h : am_H) (t : Int32), (y = 0 ∨ y = 1) → ac_Gu X ac_gu3 3 h0 s 1 (99 + 99 * (i.toInt + 1)) h → am_Ek false am_G0 am_m229 91 [(0, .ref 164), (1, .int 3), (2, .int k), (3, .int bd), (4, .int y), (5, .int i), (6, .int t)] [] am_ks0 h 0 0 (fun r ks h' => ks = am_ks0 ∧ (r = some (.int 0) ∨ r = some (.int 1)) ∧ ac_Gu X ac_gu3 3 h0 s 1 9900 h')) : ∀ (d : Nat) (t y : Int32) (lo : Int) (h : am_H), v3.toInt - t.toInt ≤ d → 0 ≤ t.toInt → t.toInt ≤ v3.toInt → 0 ≤ lo → (y = 0 ∨ y = 1) → (y = 1 ∧ t.toInt = 0 ∨ 1 ≤ lo) → ac_Gu X ac_gu3 3 h0 s lo (99 + 99 * i.toInt + t.toInt) h → am_Ek false am_G0 am_m229 62 [(0, .ref 164), (1, .int 3), (2, .int k), (3, .int bd), (4, .int y), (5, .int i), (6, .int t)] [] am_ks0 h 0 0 (fun r ks h' => ks = am_ks0 ∧ (r = some (.int 0) ∨ r = some (.int 1)) ∧ ac_Gu X ac_gu3 3 h0 s 1 9900 h') := by
  have z0 : (0 : Int32).toInt = 0 := by decide
  have z1 : (1 : Int32).toInt = 1 := by decide
  have m5 := ab_m7 (k := k) (c := 5) k0 k3 (by decide) (by decide)
  have m2 := ab_m7 (k := k) (c := 2) k0 k3 (by decide) (by decide)
  have m3 := ab_m7 (k := k) (c := 3) k0 k3 (by decide) (by decide)
  have z5 : (5 : Int32).toInt = 5 := by decide
  have z2 : (2 : Int32).toInt = 2 := by decide
  have z3 : (3 : Int32).toInt = 3 := by decide
  have x5 := ab_ix (x := (7 : Int32) * k + 5) (n := 56) (by omega) (by omega)
  have x2 := ab_ix (x := (7 : Int32) * k + 2) (n := 56) (by omega) (by omega)
  have x3 := ab_ix (x := (7 : Int32) * k + 3) (n := 56) (by omega) (by omega)
  intro d
  induction d with
  | zero =>
    intro t y lo h hd t0 t1 l0 hy hl hG
    have e3' : h 170 ((7 : Int32) * k + 3).toNatClampNeg = .int v3 := (hG.2.2.1 170 _ rfl).trans e3
    refine am_e_iload (am_nxt_of (i := (101, 2, .iload 6, (0, 0, 0), 0)) (by decide +kernel)) (v := t) rfl ?_
    refine am_e_aload_n (am_nxt_of (i := (103, 1, .aload_n 0, (0, 0, 0), 0)) (by decide +kernel)) (v := 164) rfl ?_
    refine am_e_getf (am_nxt_of (i := (104, 3, .getfield 30, (12, 25, 1409), 0)) (by decide +kernel)) ac_o (ac_f25 hG.1) ?_
    refine am_e_bipush (w := 7) (am_nxt_of (i := (107, 2, .bipush 7, (0, 0, 0), 0)) (by decide +kernel)) (by decide) ?_
    refine am_e_iload_n (am_nxt_of (i := (109, 1, .iload_n 2, (0, 0, 0), 0)) (by decide +kernel)) (v := k) rfl ?_
    refine am_e_imul (w := 7 * k) (am_nxt_of (i := (110, 1, .imul, (0, 0, 0), 0)) (by decide +kernel)) rfl ?_
    refine am_e_iconst (w := 3) (am_nxt_of (i := (111, 1, .iconst 3, (0, 0, 0), 0)) (by decide +kernel)) rfl ?_
    refine am_e_iadd (w := (7 * k) + 3) (am_nxt_of (i := (112, 1, .iadd, (0, 0, 0), 0)) (by decide +kernel)) rfl ?_
    refine am_e_iaload (v := v3) (am_nxt_of (i := (113, 1, .iaload, (0, 0, 0), 0)) (by decide +kernel)) ac_k170 x3 rfl e3' ?_
    refine am_e_cmpT (am_nxt_of (i := (114, 3, .if_icmp .ge 38, (91, 0, 0), 0)) (by decide +kernel)) (am_c_geT (ac_nlt (by omega))) (am_tgt_of (by decide +kernel)) ?_
    exact hk y h t hy (ac_Gu_le hG (by omega) (by omega))
  | succ d ih =>
    intro t y lo h hd t0 t1 l0 hy hl hG
    have e3' : h 170 ((7 : Int32) * k + 3).toNatClampNeg = .int v3 := (hG.2.2.1 170 _ rfl).trans e3
    refine am_e_iload (am_nxt_of (i := (101, 2, .iload 6, (0, 0, 0), 0)) (by decide +kernel)) (v := t) rfl ?_
    refine am_e_aload_n (am_nxt_of (i := (103, 1, .aload_n 0, (0, 0, 0), 0)) (by decide +kernel)) (v := 164) rfl ?_
    refine am_e_getf (am_nxt_of (i := (104, 3, .getfield 30, (12, 25, 1409), 0)) (by decide +kernel)) ac_o (ac_f25 hG.1) ?_
    refine am_e_bipush (w := 7) (am_nxt_of (i := (107, 2, .bipush 7, (0, 0, 0), 0)) (by decide +kernel)) (by decide) ?_
    refine am_e_iload_n (am_nxt_of (i := (109, 1, .iload_n 2, (0, 0, 0), 0)) (by decide +kernel)) (v := k) rfl ?_
    refine am_e_imul (w := 7 * k) (am_nxt_of (i := (110, 1, .imul, (0, 0, 0), 0)) (by decide +kernel)) rfl ?_
    refine am_e_iconst (w := 3) (am_nxt_of (i := (111, 1, .iconst 3, (0, 0, 0), 0)) (by decide +kernel)) rfl ?_
    refine am_e_iadd (w := (7 * k) + 3) (am_nxt_of (i := (112, 1, .iadd, (0, 0, 0), 0)) (by decide +kernel)) rfl ?_
    refine am_e_iaload (v := v3) (am_nxt_of (i := (113, 1, .iaload, (0, 0, 0), 0)) (by decide +kernel)) ac_k170 x3 rfl e3' ?_
    by_cases ht : (t : Int32) < v3
    · refine am_e_cmpF (am_nxt_of (i := (114, 3, .if_icmp .ge 38, (91, 0, 0), 0)) (by decide +kernel)) (am_c_geF ht) ?_
      have htt := ac_lt' ht
      refine am_e_iload (am_nxt_of (i := (117, 2, .iload 4, (0, 0, 0), 0)) (by decide +kernel)) (v := y) rfl ?_
      by_cases hy0 : (y : Int32) = 0
      · refine am_e_ifT (am_nxt_of (i := (119, 3, .ifCond .eq 33, (91, 0, 0), 0)) (by decide +kernel)) (am_c_eqT hy0) (am_tgt_of (by decide +kernel)) ?_
        have : 1 ≤ lo := by
          rcases hl with ⟨hl, -⟩ | hl
          · rw [hy0] at hl; cases hl
          · exact hl
        exact hk y h t hy (ac_Gu_le hG (by omega) (by omega))
      · refine am_e_ifF (am_nxt_of (i := (119, 3, .ifCond .eq 33, (91, 0, 0), 0)) (by decide +kernel)) (am_c_eqF hy0) ?_
        obtain ⟨ev_, eg, eg0, eg1⟩ := hG.2.2.2
        refine am_e_aload_n (am_nxt_of (i := (122, 1, .aload_n 0, (0, 0, 0), 0)) (by decide +kernel)) (v := 164) rfl ?_
        refine am_e_iload_n (am_nxt_of (i := (123, 1, .iload_n 1, (0, 0, 0), 0)) (by decide +kernel)) (v := 3) rfl ?_
        refine am_e_iconst (w := 0) (am_nxt_of (i := (124, 1, .iconst 0, (0, 0, 0), 0)) (by decide +kernel)) rfl ?_
        refine am_e_iconst (w := 0) (am_nxt_of (i := (125, 1, .iconst 0, (0, 0, 0), 0)) (by decide +kernel)) rfl ?_
        refine am_e_callV (M' := am_m199) (o := 164) (ar := [.int 0, .int 0, .int 3]) (rest := []) (L := lv_args 0 [.ref 164, .int 3, .int 0, .int 0]) (am_nxt_of (i := (126, 3, .invokevirtual 434, (199, 1828, 3), 0)) (by decide +kernel)) rfl rfl rfl rfl ac_o rfl rfl rfl ?_
        refine am_Ev_mono (ac_aSec3 hX hS (o := 0) (p := 0) hG.1 hG.2.1 (by decide) (by decide) (by decide) (by decide) eg) (fun r ks h1 hq => ?_)
        obtain ⟨rfl, rfl, I1, J1, f1, s1⟩ := hq
        have G1 : ac_Gu X ac_gu3 3 h0 s (lo + 1) ((99 + 99 * i.toInt + t.toInt) + 1) h1 := ac_Gu_1 (h := h) I1 J1 (ab_Fr_trans hG.2.2.1 (ab_mdle_Fr (by decide) f1)) eg0 eg1 (by omega) (by omega) s1
        obtain ⟨fu, efu, -⟩ := ac_r188 I1 (q := 3) (by decide)
        show am_Ek false am_G0 am_m229 79 _ [] _ _ _ _ _
        refine am_e_aload_n (am_nxt_of (i := (129, 1, .aload_n 0, (0, 0, 0), 0)) (by decide +kernel)) (v := 164) rfl ?_
        refine am_e_getf (am_nxt_of (i := (130, 3, .getfield 85, (12, 50, 1434), 0)) (by decide +kernel)) ac_o (ac_f50 I1) ?_
        refine am_e_iload_n (am_nxt_of (i := (133, 1, .iload_n 1, (0, 0, 0), 0)) (by decide +kernel)) (v := 3) rfl ?_
        refine am_e_iaload (v := fu) (q := 3) (am_nxt_of (i := (134, 1, .iaload, (0, 0, 0), 0)) (by decide +kernel)) ac_k188 (by decide) (by decide) efu ?_
        refine am_e_iload_n (am_nxt_of (i := (135, 1, .iload_n 3, (0, 0, 0), 0)) (by decide +kernel)) (v := bd) rfl ?_
        have e1 := ab_inc1 t0 (by omega)
        by_cases hfu : (fu : Int32) < bd
        · refine am_e_cmpT (am_nxt_of (i := (136, 3, .if_icmp .lt 7, (87, 0, 0), 0)) (by decide +kernel)) (am_c_ltT hfu) (am_tgt_of (by decide +kernel)) ?_
          refine am_e_iconst (w := 0) (am_nxt_of (i := (143, 1, .iconst 0, (0, 0, 0), 0)) (by decide +kernel)) rfl ?_
          refine am_e_istore (ls' := [(4, .int 0), (0, .ref 164), (1, .int 3), (2, .int k), (3, .int bd), (5, .int i), (6, .int t)]) (am_nxt_of (i := (144, 2, .istore 4, (0, 0, 0), 0)) (by decide +kernel)) (by decide +kernel) rfl ?_
          refine am_e_iinc (w := t + Int32.ofInt 1) (ls' := [(6, .int (t + Int32.ofInt 1)), (4, .int 0), (0, .ref 164), (1, .int 3), (2, .int k), (3, .int bd), (5, .int i)]) (am_nxt_of (i := (146, 3, .iinc 6 1, (0, 0, 0), 0)) (by decide +kernel)) (v := t) rfl (by decide +kernel) rfl rfl ?_
          refine am_e_goto (am_cur_of (i := (149, 3, .goto (-48), (62, 0, 0), 0)) (by decide +kernel)) (am_tgt_of (by decide +kernel)) ?_
          refine am_Ek_ls (ls' := [(0, .ref 164), (1, .int 3), (2, .int k), (3, .int bd), (4, .int 0), (5, .int i), (6, .int (t + Int32.ofInt 1))]) ⟨rfl, rfl, rfl, rfl, rfl, rfl, rfl, trivial⟩ ?_
          exact ih _ _ (lo + 1) h1 (by omega) (by omega) (by omega) (by omega) (Or.inl rfl) (Or.inr (by omega)) (ac_Gu_le G1 (by omega) (by omega))
        · refine am_e_cmpF (am_nxt_of (i := (136, 3, .if_icmp .lt 7, (87, 0, 0), 0)) (by decide +kernel)) (am_c_ltF hfu) ?_
          refine am_e_iconst (w := 1) (am_nxt_of (i := (139, 1, .iconst 1, (0, 0, 0), 0)) (by decide +kernel)) rfl ?_
          refine am_e_goto (am_cur_of (i := (140, 3, .goto 4, (88, 0, 0), 0)) (by decide +kernel)) (am_tgt_of (by decide +kernel)) ?_
          refine am_e_istore (ls' := [(4, .int 1), (0, .ref 164), (1, .int 3), (2, .int k), (3, .int bd), (5, .int i), (6, .int t)]) (am_nxt_of (i := (144, 2, .istore 4, (0, 0, 0), 0)) (by decide +kernel)) (by decide +kernel) rfl ?_
          refine am_e_iinc (w := t + Int32.ofInt 1) (ls' := [(6, .int (t + Int32.ofInt 1)), (4, .int 1), (0, .ref 164), (1, .int 3), (2, .int k), (3, .int bd), (5, .int i)]) (am_nxt_of (i := (146, 3, .iinc 6 1, (0, 0, 0), 0)) (by decide +kernel)) (v := t) rfl (by decide +kernel) rfl rfl ?_
          refine am_e_goto (am_cur_of (i := (149, 3, .goto (-48), (62, 0, 0), 0)) (by decide +kernel)) (am_tgt_of (by decide +kernel)) ?_
          refine am_Ek_ls (ls' := [(0, .ref 164), (1, .int 3), (2, .int k), (3, .int bd), (4, .int 1), (5, .int i), (6, .int (t + Int32.ofInt 1))]) ⟨rfl, rfl, rfl, rfl, rfl, rfl, rfl, trivial⟩ ?_
          exact ih _ _ (lo + 1) h1 (by omega) (by omega) (by omega) (by omega) (Or.inr rfl) (Or.inr (by omega)) (ac_Gu_le G1 (by omega) (by omega))
    · refine am_e_cmpT (am_nxt_of (i := (114, 3, .if_icmp .ge 38, (91, 0, 0), 0)) (by decide +kernel)) (am_c_geT ht) (am_tgt_of (by decide +kernel)) ?_
      have htt := ac_nlt' ht
      exact hk y h t hy (ac_Gu_le hG (by omega) (by omega))
theorem ac_gB3 (hX : ac_XF X) (hS : ac_SC (ac_JX X)) {h0 : am_H} {k bd s v2 v3 v5 : Int32} (k0 : 0 ≤ k.toInt) (k3 : k.toInt ≤ 3) (e5 : h0 170 ((7 : Int32) * k + 5).toNatClampNeg = .int v5) (v5_1 : v5.toInt ≤ 99) (e2 : h0 170 ((7 : Int32) * k + 2).toNatClampNeg = .int v2) (v2_0 : 1 ≤ v2.toInt) (v2_1 : v2.toInt ≤ 99) (e3 : h0 170 ((7 : Int32) * k + 3).toNatClampNeg = .int v3) (v3_0 : 1 ≤ v3.toInt) (v3_1 : v3.toInt ≤ 99) : ∀ (d : Nat) (i y : Int32) (lo : Int) (h : am_H), v2.toInt - i.toInt ≤ d → 0 ≤ i.toInt → i.toInt ≤ v2.toInt → 0 ≤ lo → (y = 0 ∨ y = 1) → (y = 1 ∧ i.toInt = 0 ∨ 1 ≤ lo) → ac_Gu X ac_gu3 3 h0 s lo (99 + 99 * i.toInt) h → am_Ek false am_G0 am_m229 44 [(0, .ref 164), (1, .int 3), (2, .int k), (3, .int bd), (4, .int y), (5, .int i)] [] am_ks0 h 0 0 (fun r ks h' => ks = am_ks0 ∧ (r = some (.int 0) ∨ r = some (.int 1)) ∧ ac_Gu X ac_gu3 3 h0 s 1 9900 h') := by
  have z0 : (0 : Int32).toInt = 0 := by decide
  have z1 : (1 : Int32).toInt = 1 := by decide
  have m5 := ab_m7 (k := k) (c := 5) k0 k3 (by decide) (by decide)
  have m2 := ab_m7 (k := k) (c := 2) k0 k3 (by decide) (by decide)
  have m3 := ab_m7 (k := k) (c := 3) k0 k3 (by decide) (by decide)
  have z5 : (5 : Int32).toInt = 5 := by decide
  have z2 : (2 : Int32).toInt = 2 := by decide
  have z3 : (3 : Int32).toInt = 3 := by decide
  have x5 := ab_ix (x := (7 : Int32) * k + 5) (n := 56) (by omega) (by omega)
  have x2 := ab_ix (x := (7 : Int32) * k + 2) (n := 56) (by omega) (by omega)
  have x3 := ab_ix (x := (7 : Int32) * k + 3) (n := 56) (by omega) (by omega)
  have hend : ∀ (y i : Int32) (lo : Int) (h : am_H), (y = 0 ∨ y = 1) → 1 ≤ lo → i.toInt ≤ 99 → ac_Gu X ac_gu3 3 h0 s lo (99 + 99 * i.toInt) h → am_Ek false am_G0 am_m229 99 [(0, .ref 164), (1, .int 3), (2, .int k), (3, .int bd), (4, .int y), (5, .int i)] [] am_ks0 h 0 0 (fun r ks h' => ks = am_ks0 ∧ (r = some (.int 0) ∨ r = some (.int 1)) ∧ ac_Gu X ac_gu3 3 h0 s 1 9900 h') := by
    intro y i lo h hy hl hi hG
    refine am_e_iload (am_nxt_of (i := (169, 2, .iload 4, (0, 0, 0), 0)) (by decide +kernel)) (v := y) rfl ?_
    exact am_e_iret (ty := .boolean) (am_cur_of (i := (171, 1, .ireturn, (0, 0, 0), 0)) (by decide +kernel)) rfl (ac_b01 hy) rfl ⟨rfl, by rcases hy with rfl | rfl <;> simp, ac_Gu_le hG (by omega) (by omega)⟩
  intro d
  induction d with
  | zero =>
    intro i y lo h hd i0 i1 l0 hy hl hG
    have e2' : h 170 ((7 : Int32) * k + 2).toNatClampNeg = .int v2 := (hG.2.2.1 170 _ rfl).trans e2
    refine am_e_iload (am_nxt_of (i := (71, 2, .iload 5, (0, 0, 0), 0)) (by decide +kernel)) (v := i) rfl ?_
    refine am_e_aload_n (am_nxt_of (i := (73, 1, .aload_n 0, (0, 0, 0), 0)) (by decide +kernel)) (v := 164) rfl ?_
    refine am_e_getf (am_nxt_of (i := (74, 3, .getfield 30, (12, 25, 1409), 0)) (by decide +kernel)) ac_o (ac_f25 hG.1) ?_
    refine am_e_bipush (w := 7) (am_nxt_of (i := (77, 2, .bipush 7, (0, 0, 0), 0)) (by decide +kernel)) (by decide) ?_
    refine am_e_iload_n (am_nxt_of (i := (79, 1, .iload_n 2, (0, 0, 0), 0)) (by decide +kernel)) (v := k) rfl ?_
    refine am_e_imul (w := 7 * k) (am_nxt_of (i := (80, 1, .imul, (0, 0, 0), 0)) (by decide +kernel)) rfl ?_
    refine am_e_iconst (w := 2) (am_nxt_of (i := (81, 1, .iconst 2, (0, 0, 0), 0)) (by decide +kernel)) rfl ?_
    refine am_e_iadd (w := (7 * k) + 2) (am_nxt_of (i := (82, 1, .iadd, (0, 0, 0), 0)) (by decide +kernel)) rfl ?_
    refine am_e_iaload (v := v2) (am_nxt_of (i := (83, 1, .iaload, (0, 0, 0), 0)) (by decide +kernel)) ac_k170 x2 rfl e2' ?_
    refine am_e_cmpT (am_nxt_of (i := (84, 3, .if_icmp .ge 85, (99, 0, 0), 0)) (by decide +kernel)) (am_c_geT (ac_nlt (by omega))) (am_tgt_of (by decide +kernel)) ?_
    exact hend y i lo h hy (by omega) (by omega) hG
  | succ d ih =>
    intro i y lo h hd i0 i1 l0 hy hl hG
    have e2' : h 170 ((7 : Int32) * k + 2).toNatClampNeg = .int v2 := (hG.2.2.1 170 _ rfl).trans e2
    refine am_e_iload (am_nxt_of (i := (71, 2, .iload 5, (0, 0, 0), 0)) (by decide +kernel)) (v := i) rfl ?_
    refine am_e_aload_n (am_nxt_of (i := (73, 1, .aload_n 0, (0, 0, 0), 0)) (by decide +kernel)) (v := 164) rfl ?_
    refine am_e_getf (am_nxt_of (i := (74, 3, .getfield 30, (12, 25, 1409), 0)) (by decide +kernel)) ac_o (ac_f25 hG.1) ?_
    refine am_e_bipush (w := 7) (am_nxt_of (i := (77, 2, .bipush 7, (0, 0, 0), 0)) (by decide +kernel)) (by decide) ?_
    refine am_e_iload_n (am_nxt_of (i := (79, 1, .iload_n 2, (0, 0, 0), 0)) (by decide +kernel)) (v := k) rfl ?_
    refine am_e_imul (w := 7 * k) (am_nxt_of (i := (80, 1, .imul, (0, 0, 0), 0)) (by decide +kernel)) rfl ?_
    refine am_e_iconst (w := 2) (am_nxt_of (i := (81, 1, .iconst 2, (0, 0, 0), 0)) (by decide +kernel)) rfl ?_
    refine am_e_iadd (w := (7 * k) + 2) (am_nxt_of (i := (82, 1, .iadd, (0, 0, 0), 0)) (by decide +kernel)) rfl ?_
    refine am_e_iaload (v := v2) (am_nxt_of (i := (83, 1, .iaload, (0, 0, 0), 0)) (by decide +kernel)) ac_k170 x2 rfl e2' ?_
    by_cases hi : (i : Int32) < v2
    · refine am_e_cmpF (am_nxt_of (i := (84, 3, .if_icmp .ge 85, (99, 0, 0), 0)) (by decide +kernel)) (am_c_geF hi) ?_
      have hii := ac_lt' hi
      refine am_e_iload (am_nxt_of (i := (87, 2, .iload 4, (0, 0, 0), 0)) (by decide +kernel)) (v := y) rfl ?_
      by_cases hy0 : (y : Int32) = 0
      · refine am_e_ifT (am_nxt_of (i := (89, 3, .ifCond .eq 80, (99, 0, 0), 0)) (by decide +kernel)) (am_c_eqT hy0) (am_tgt_of (by decide +kernel)) ?_
        have : 1 ≤ lo := by
          rcases hl with ⟨hl, -⟩ | hl
          · rw [hy0] at hl; cases hl
          · exact hl
        exact hend y i lo h hy this (by omega) hG
      · refine am_e_ifF (am_nxt_of (i := (89, 3, .ifCond .eq 80, (99, 0, 0), 0)) (by decide +kernel)) (am_c_eqF hy0) ?_
        have hy1 : y = 1 := by
          rcases hy with q | q
          · exact absurd q hy0
          · exact q
        refine am_e_aload_n (am_nxt_of (i := (92, 1, .aload_n 0, (0, 0, 0), 0)) (by decide +kernel)) (v := 164) rfl ?_
        refine am_e_iload_n (am_nxt_of (i := (93, 1, .iload_n 1, (0, 0, 0), 0)) (by decide +kernel)) (v := 3) rfl ?_
        refine am_e_iload_n (am_nxt_of (i := (94, 1, .iload_n 2, (0, 0, 0), 0)) (by decide +kernel)) (v := k) rfl ?_
        refine am_e_callV (M' := am_m204) (o := 164) (ar := [.int k, .int 3]) (rest := []) (L := lv_args 0 [.ref 164, .int 3, .int k]) (am_nxt_of (i := (95, 3, .invokevirtual 413, (204, 1847, 3), 0)) (by decide +kernel)) rfl rfl rfl rfl ac_o rfl rfl rfl ?_
        refine am_Ev_mono (ac_use hS.2.2.2.1 rfl ⟨⟨164, rfl, List.mem_singleton.mpr rfl⟩, ab_i_ok (by decide) (by decide), ab_i_ok k0 k3, trivial⟩ hG.1 hG.2.1 ac_p0) (fun r ks h1 hq => ?_)
        obtain ⟨rfl, I1, J1, f1, c, hc, hg⟩ := hq
        have hr := ab_voidC_ok (s := ab_S_rests_x_x) rfl ⟨c, hc, hg.1⟩
        subst hr
        have G1 := ac_Gu_call hG I1 J1 (md' := ab_S_rests_x_x.2.2.2.1) (by decide) (by decide) f1
        show am_Ek false am_G0 am_m229 60 _ [] _ _ _ _ _
        refine am_e_iconst (w := 0) (am_nxt_of (i := (98, 1, .iconst 0, (0, 0, 0), 0)) (by decide +kernel)) rfl ?_
        refine am_e_istore (ls' := [(6, .int 0), (0, .ref 164), (1, .int 3), (2, .int k), (3, .int bd), (4, .int y), (5, .int i)]) (am_nxt_of (i := (99, 2, .istore 6, (0, 0, 0), 0)) (by decide +kernel)) (by decide +kernel) rfl ?_
        refine am_Ek_ls (ls' := [(0, .ref 164), (1, .int 3), (2, .int k), (3, .int bd), (4, .int y), (5, .int i), (6, .int 0)]) ⟨rfl, rfl, rfl, rfl, rfl, rfl, rfl, trivial⟩ ?_
        refine ac_gA3 hX hS k0 k3 e5 v5_1 e2 v2_0 v2_1 e3 v3_0 v3_1 i0 hii ?_ v3.toInt.toNat 0 y lo h1 (by omega) (by decide) (by omega) l0 hy (Or.inl ⟨hy1, by decide⟩) (ac_Gu_le G1 (by omega) (by omega))
        intro y2 h2 t hy2 G2
        have e1 := ab_inc1 i0 (by omega)
        refine am_e_iload (am_nxt_of (i := (152, 2, .iload 4, (0, 0, 0), 0)) (by decide +kernel)) (v := y2) rfl ?_
        by_cases hyz : (y2 : Int32) = 0
        · refine am_e_ifT (am_nxt_of (i := (154, 3, .ifCond .eq 9, (97, 0, 0), 0)) (by decide +kernel)) (am_c_eqT hyz) (am_tgt_of (by decide +kernel)) ?_
          refine am_e_iinc (w := i + Int32.ofInt 1) (ls' := [(5, .int (i + Int32.ofInt 1)), (0, .ref 164), (1, .int 3), (2, .int k), (3, .int bd), (4, .int y2), (6, .int t)]) (am_nxt_of (i := (163, 3, .iinc 5 1, (0, 0, 0), 0)) (by decide +kernel)) (v := i) rfl (by decide +kernel) rfl rfl ?_
          refine am_e_goto (am_cur_of (i := (166, 3, .goto (-95), (44, 0, 0), 0)) (by decide +kernel)) (am_tgt_of (by decide +kernel)) ?_
          refine am_Ek_ls (ls' := [(0, .ref 164), (1, .int 3), (2, .int k), (3, .int bd), (4, .int y2), (5, .int (i + Int32.ofInt 1))]) ⟨rfl, rfl, rfl, rfl, rfl, rfl, trivial⟩ ?_
          exact ih _ _ 1 h2 (by omega) (by omega) (by omega) (by omega) hy2 (Or.inr (by omega)) (ac_Gu_le G2 (by omega) (by omega))
        · refine am_e_ifF (am_nxt_of (i := (154, 3, .ifCond .eq 9, (97, 0, 0), 0)) (by decide +kernel)) (am_c_eqF hyz) ?_
          refine am_e_aload_n (am_nxt_of (i := (157, 1, .aload_n 0, (0, 0, 0), 0)) (by decide +kernel)) (v := 164) rfl ?_
          refine am_e_iload_n (am_nxt_of (i := (158, 1, .iload_n 1, (0, 0, 0), 0)) (by decide +kernel)) (v := 3) rfl ?_
          refine am_e_iload_n (am_nxt_of (i := (159, 1, .iload_n 2, (0, 0, 0), 0)) (by decide +kernel)) (v := k) rfl ?_
          refine am_e_callV (M' := am_m205) (o := 164) (ar := [.int k, .int 3]) (rest := []) (L := lv_args 0 [.ref 164, .int 3, .int k]) (am_nxt_of (i := (160, 3, .invokevirtual 441, (205, 1851, 3), 0)) (by decide +kernel)) rfl rfl rfl rfl ac_o rfl rfl rfl ?_
          refine am_Ev_mono (ac_use hS.2.2.2.2.1 rfl ⟨⟨164, rfl, List.mem_singleton.mpr rfl⟩, ab_i_ok (by decide) (by decide), ab_i_ok k0 k3, trivial⟩ G2.1 G2.2.1 ac_p0) (fun r ks h3 hq => ?_)
          obtain ⟨rfl, I3, J3, f3, c3, hc3, hg3⟩ := hq
          have hr3 := ab_voidC_ok (s := ab_S_fills_x_x) rfl ⟨c3, hc3, hg3.1⟩
          subst hr3
          have G3 := ac_Gu_call G2 I3 J3 (md' := ab_S_fills_x_x.2.2.2.1) (by decide) (by decide) f3
          show am_Ek false am_G0 am_m229 97 _ [] _ _ _ _ _
          refine am_e_iinc (w := i + Int32.ofInt 1) (ls' := [(5, .int (i + Int32.ofInt 1)), (0, .ref 164), (1, .int 3), (2, .int k), (3, .int bd), (4, .int y2), (6, .int t)]) (am_nxt_of (i := (163, 3, .iinc 5 1, (0, 0, 0), 0)) (by decide +kernel)) (v := i) rfl (by decide +kernel) rfl rfl ?_
          refine am_e_goto (am_cur_of (i := (166, 3, .goto (-95), (44, 0, 0), 0)) (by decide +kernel)) (am_tgt_of (by decide +kernel)) ?_
          refine am_Ek_ls (ls' := [(0, .ref 164), (1, .int 3), (2, .int k), (3, .int bd), (4, .int y2), (5, .int (i + Int32.ofInt 1))]) ⟨rfl, rfl, rfl, rfl, rfl, rfl, trivial⟩ ?_
          exact ih _ _ 1 h3 (by omega) (by omega) (by omega) (by omega) hy2 (Or.inr (by omega)) (ac_Gu_le G3 (by omega) (by omega))
    · refine am_e_cmpT (am_nxt_of (i := (84, 3, .if_icmp .ge 85, (99, 0, 0), 0)) (by decide +kernel)) (am_c_geT hi) (am_tgt_of (by decide +kernel)) ?_
      have hii := ac_nlt' hi
      exact hend y i lo h hy (by omega) (by omega) hG
theorem ac_gC3 (hX : ac_XF X) (hS : ac_SC (ac_JX X)) {h0 : am_H} {k bd s v2 v3 v5 : Int32} (k0 : 0 ≤ k.toInt) (k3 : k.toInt ≤ 3) (e5 : h0 170 ((7 : Int32) * k + 5).toNatClampNeg = .int v5) (v5_1 : v5.toInt ≤ 99) (e2 : h0 170 ((7 : Int32) * k + 2).toNatClampNeg = .int v2) (v2_0 : 1 ≤ v2.toInt) (v2_1 : v2.toInt ≤ 99) (e3 : h0 170 ((7 : Int32) * k + 3).toNatClampNeg = .int v3) (v3_0 : 1 ≤ v3.toInt) (v3_1 : v3.toInt ≤ 99) : ∀ (d : Nat) (i y : Int32) (lo : Int) (h : am_H), 99 - i.toInt ≤ d → 0 ≤ i.toInt → i.toInt ≤ 99 → 0 ≤ lo → (y = 0 ∨ y = 1) → (y = 1 ∨ 1 ≤ lo) → ac_Gu X ac_gu3 3 h0 s lo i.toInt h → am_Ek false am_G0 am_m229 13 [(0, .ref 164), (1, .int 3), (2, .int k), (3, .int bd), (4, .int y), (5, .int i)] [] am_ks0 h 0 0 (fun r ks h' => ks = am_ks0 ∧ (r = some (.int 0) ∨ r = some (.int 1)) ∧ ac_Gu X ac_gu3 3 h0 s 1 9900 h') := by
  have z0 : (0 : Int32).toInt = 0 := by decide
  have z1 : (1 : Int32).toInt = 1 := by decide
  have m5 := ab_m7 (k := k) (c := 5) k0 k3 (by decide) (by decide)
  have m2 := ab_m7 (k := k) (c := 2) k0 k3 (by decide) (by decide)
  have m3 := ab_m7 (k := k) (c := 3) k0 k3 (by decide) (by decide)
  have z5 : (5 : Int32).toInt = 5 := by decide
  have z2 : (2 : Int32).toInt = 2 := by decide
  have z3 : (3 : Int32).toInt = 3 := by decide
  have x5 := ab_ix (x := (7 : Int32) * k + 5) (n := 56) (by omega) (by omega)
  have x2 := ab_ix (x := (7 : Int32) * k + 2) (n := 56) (by omega) (by omega)
  have x3 := ab_ix (x := (7 : Int32) * k + 3) (n := 56) (by omega) (by omega)
  have hgo : ∀ (y i : Int32) (lo : Int) (h : am_H), (y = 0 ∨ y = 1) → 0 ≤ lo → (y = 1 ∨ 1 ≤ lo) → i.toInt ≤ 99 → ac_Gu X ac_gu3 3 h0 s lo i.toInt h → am_Ek false am_G0 am_m229 42 [(0, .ref 164), (1, .int 3), (2, .int k), (3, .int bd), (4, .int y), (5, .int i)] [] am_ks0 h 0 0 (fun r ks h' => ks = am_ks0 ∧ (r = some (.int 0) ∨ r = some (.int 1)) ∧ ac_Gu X ac_gu3 3 h0 s 1 9900 h') := by
    intro y i lo h hy l0 hl hi hG
    refine am_e_iconst (w := 0) (am_nxt_of (i := (68, 1, .iconst 0, (0, 0, 0), 0)) (by decide +kernel)) rfl ?_
    refine am_e_istore (ls' := [(5, .int 0), (0, .ref 164), (1, .int 3), (2, .int k), (3, .int bd), (4, .int y)]) (am_nxt_of (i := (69, 2, .istore 5, (0, 0, 0), 0)) (by decide +kernel)) (by decide +kernel) rfl ?_
    refine am_Ek_ls (ls' := [(0, .ref 164), (1, .int 3), (2, .int k), (3, .int bd), (4, .int y), (5, .int 0)]) ⟨rfl, rfl, rfl, rfl, rfl, rfl, trivial⟩ ?_
    refine ac_gB3 hX hS k0 k3 e5 v5_1 e2 v2_0 v2_1 e3 v3_0 v3_1 v2.toInt.toNat 0 y lo h (by omega) (by decide) (by omega) l0 hy ?_ (ac_Gu_le hG (by omega) (by omega))
    rcases hl with hl | hl
    · exact Or.inl ⟨hl, by decide⟩
    · exact Or.inr hl
  intro d
  induction d with
  | zero =>
    intro i y lo h hd i0 i1 l0 hy hl hG
    have e5' : h 170 ((7 : Int32) * k + 5).toNatClampNeg = .int v5 := (hG.2.2.1 170 _ rfl).trans e5
    refine am_e_iload (am_nxt_of (i := (17, 2, .iload 5, (0, 0, 0), 0)) (by decide +kernel)) (v := i) rfl ?_
    refine am_e_aload_n (am_nxt_of (i := (19, 1, .aload_n 0, (0, 0, 0), 0)) (by decide +kernel)) (v := 164) rfl ?_
    refine am_e_getf (am_nxt_of (i := (20, 3, .getfield 30, (12, 25, 1409), 0)) (by decide +kernel)) ac_o (ac_f25 hG.1) ?_
    refine am_e_bipush (w := 7) (am_nxt_of (i := (23, 2, .bipush 7, (0, 0, 0), 0)) (by decide +kernel)) (by decide) ?_
    refine am_e_iload_n (am_nxt_of (i := (25, 1, .iload_n 2, (0, 0, 0), 0)) (by decide +kernel)) (v := k) rfl ?_
    refine am_e_imul (w := 7 * k) (am_nxt_of (i := (26, 1, .imul, (0, 0, 0), 0)) (by decide +kernel)) rfl ?_
    refine am_e_iconst (w := 5) (am_nxt_of (i := (27, 1, .iconst 5, (0, 0, 0), 0)) (by decide +kernel)) rfl ?_
    refine am_e_iadd (w := (7 * k) + 5) (am_nxt_of (i := (28, 1, .iadd, (0, 0, 0), 0)) (by decide +kernel)) rfl ?_
    refine am_e_iaload (v := v5) (am_nxt_of (i := (29, 1, .iaload, (0, 0, 0), 0)) (by decide +kernel)) ac_k170 x5 rfl e5' ?_
    refine am_e_cmpT (am_nxt_of (i := (30, 3, .if_icmp .ge 38, (42, 0, 0), 0)) (by decide +kernel)) (am_c_geT (ac_nlt (by omega))) (am_tgt_of (by decide +kernel)) ?_
    exact hgo y i lo h hy l0 hl i1 hG
  | succ d ih =>
    intro i y lo h hd i0 i1 l0 hy hl hG
    have e5' : h 170 ((7 : Int32) * k + 5).toNatClampNeg = .int v5 := (hG.2.2.1 170 _ rfl).trans e5
    refine am_e_iload (am_nxt_of (i := (17, 2, .iload 5, (0, 0, 0), 0)) (by decide +kernel)) (v := i) rfl ?_
    refine am_e_aload_n (am_nxt_of (i := (19, 1, .aload_n 0, (0, 0, 0), 0)) (by decide +kernel)) (v := 164) rfl ?_
    refine am_e_getf (am_nxt_of (i := (20, 3, .getfield 30, (12, 25, 1409), 0)) (by decide +kernel)) ac_o (ac_f25 hG.1) ?_
    refine am_e_bipush (w := 7) (am_nxt_of (i := (23, 2, .bipush 7, (0, 0, 0), 0)) (by decide +kernel)) (by decide) ?_
    refine am_e_iload_n (am_nxt_of (i := (25, 1, .iload_n 2, (0, 0, 0), 0)) (by decide +kernel)) (v := k) rfl ?_
    refine am_e_imul (w := 7 * k) (am_nxt_of (i := (26, 1, .imul, (0, 0, 0), 0)) (by decide +kernel)) rfl ?_
    refine am_e_iconst (w := 5) (am_nxt_of (i := (27, 1, .iconst 5, (0, 0, 0), 0)) (by decide +kernel)) rfl ?_
    refine am_e_iadd (w := (7 * k) + 5) (am_nxt_of (i := (28, 1, .iadd, (0, 0, 0), 0)) (by decide +kernel)) rfl ?_
    refine am_e_iaload (v := v5) (am_nxt_of (i := (29, 1, .iaload, (0, 0, 0), 0)) (by decide +kernel)) ac_k170 x5 rfl e5' ?_
    by_cases hi : (i : Int32) < v5
    · refine am_e_cmpF (am_nxt_of (i := (30, 3, .if_icmp .ge 38, (42, 0, 0), 0)) (by decide +kernel)) (am_c_geF hi) ?_
      have hii := ac_lt' hi
      refine am_e_iload (am_nxt_of (i := (33, 2, .iload 4, (0, 0, 0), 0)) (by decide +kernel)) (v := y) rfl ?_
      by_cases hy0 : (y : Int32) = 0
      · refine am_e_ifT (am_nxt_of (i := (35, 3, .ifCond .eq 33, (42, 0, 0), 0)) (by decide +kernel)) (am_c_eqT hy0) (am_tgt_of (by decide +kernel)) ?_
        exact hgo y i lo h hy l0 hl i1 hG
      · refine am_e_ifF (am_nxt_of (i := (35, 3, .ifCond .eq 33, (42, 0, 0), 0)) (by decide +kernel)) (am_c_eqF hy0) ?_
        obtain ⟨ev_, eg, eg0, eg1⟩ := hG.2.2.2
        refine am_e_aload_n (am_nxt_of (i := (38, 1, .aload_n 0, (0, 0, 0), 0)) (by decide +kernel)) (v := 164) rfl ?_
        refine am_e_iload_n (am_nxt_of (i := (39, 1, .iload_n 1, (0, 0, 0), 0)) (by decide +kernel)) (v := 3) rfl ?_
        refine am_e_iconst (w := 1) (am_nxt_of (i := (40, 1, .iconst 1, (0, 0, 0), 0)) (by decide +kernel)) rfl ?_
        refine am_e_iconst (w := 0) (am_nxt_of (i := (41, 1, .iconst 0, (0, 0, 0), 0)) (by decide +kernel)) rfl ?_
        refine am_e_callV (M' := am_m199) (o := 164) (ar := [.int 0, .int 1, .int 3]) (rest := []) (L := lv_args 0 [.ref 164, .int 3, .int 1, .int 0]) (am_nxt_of (i := (42, 3, .invokevirtual 434, (199, 1828, 3), 0)) (by decide +kernel)) rfl rfl rfl rfl ac_o rfl rfl rfl ?_
        refine am_Ev_mono (ac_aSec3 hX hS (o := 1) (p := 0) hG.1 hG.2.1 (by decide) (by decide) (by decide) (by decide) eg) (fun r ks h1 hq => ?_)
        obtain ⟨rfl, rfl, I1, J1, f1, s1⟩ := hq
        have G1 : ac_Gu X ac_gu3 3 h0 s (lo + 1) (i.toInt + 1) h1 := ac_Gu_1 (h := h) I1 J1 (ab_Fr_trans hG.2.2.1 (ab_mdle_Fr (by decide) f1)) eg0 eg1 (by omega) (by omega) s1
        obtain ⟨fu, efu, -⟩ := ac_r188 I1 (q := 3) (by decide)
        show am_Ek false am_G0 am_m229 30 _ [] _ _ _ _ _
        refine am_e_aload_n (am_nxt_of (i := (45, 1, .aload_n 0, (0, 0, 0), 0)) (by decide +kernel)) (v := 164) rfl ?_
        refine am_e_getf (am_nxt_of (i := (46, 3, .getfield 85, (12, 50, 1434), 0)) (by decide +kernel)) ac_o (ac_f50 I1) ?_
        refine am_e_iload_n (am_nxt_of (i := (49, 1, .iload_n 1, (0, 0, 0), 0)) (by decide +kernel)) (v := 3) rfl ?_
        refine am_e_iaload (v := fu) (q := 3) (am_nxt_of (i := (50, 1, .iaload, (0, 0, 0), 0)) (by decide +kernel)) ac_k188 (by decide) (by decide) efu ?_
        refine am_e_iload_n (am_nxt_of (i := (51, 1, .iload_n 3, (0, 0, 0), 0)) (by decide +kernel)) (v := bd) rfl ?_
        have e1 := ab_inc1 i0 (by omega)
        by_cases hfu : (fu : Int32) < bd
        · refine am_e_cmpT (am_nxt_of (i := (52, 3, .if_icmp .lt 7, (38, 0, 0), 0)) (by decide +kernel)) (am_c_ltT hfu) (am_tgt_of (by decide +kernel)) ?_
          refine am_e_iconst (w := 0) (am_nxt_of (i := (59, 1, .iconst 0, (0, 0, 0), 0)) (by decide +kernel)) rfl ?_
          refine am_e_istore (ls' := [(4, .int 0), (0, .ref 164), (1, .int 3), (2, .int k), (3, .int bd), (5, .int i)]) (am_nxt_of (i := (60, 2, .istore 4, (0, 0, 0), 0)) (by decide +kernel)) (by decide +kernel) rfl ?_
          refine am_e_iinc (w := i + Int32.ofInt 1) (ls' := [(5, .int (i + Int32.ofInt 1)), (4, .int 0), (0, .ref 164), (1, .int 3), (2, .int k), (3, .int bd)]) (am_nxt_of (i := (62, 3, .iinc 5 1, (0, 0, 0), 0)) (by decide +kernel)) (v := i) rfl (by decide +kernel) rfl rfl ?_
          refine am_e_goto (am_cur_of (i := (65, 3, .goto (-48), (13, 0, 0), 0)) (by decide +kernel)) (am_tgt_of (by decide +kernel)) ?_
          refine am_Ek_ls (ls' := [(0, .ref 164), (1, .int 3), (2, .int k), (3, .int bd), (4, .int 0), (5, .int (i + Int32.ofInt 1))]) ⟨rfl, rfl, rfl, rfl, rfl, rfl, trivial⟩ ?_
          exact ih _ _ (lo + 1) h1 (by omega) (by omega) (by omega) (by omega) (Or.inl rfl) (Or.inr (by omega)) (ac_Gu_le G1 (by omega) (by omega))
        · refine am_e_cmpF (am_nxt_of (i := (52, 3, .if_icmp .lt 7, (38, 0, 0), 0)) (by decide +kernel)) (am_c_ltF hfu) ?_
          refine am_e_iconst (w := 1) (am_nxt_of (i := (55, 1, .iconst 1, (0, 0, 0), 0)) (by decide +kernel)) rfl ?_
          refine am_e_goto (am_cur_of (i := (56, 3, .goto 4, (39, 0, 0), 0)) (by decide +kernel)) (am_tgt_of (by decide +kernel)) ?_
          refine am_e_istore (ls' := [(4, .int 1), (0, .ref 164), (1, .int 3), (2, .int k), (3, .int bd), (5, .int i)]) (am_nxt_of (i := (60, 2, .istore 4, (0, 0, 0), 0)) (by decide +kernel)) (by decide +kernel) rfl ?_
          refine am_e_iinc (w := i + Int32.ofInt 1) (ls' := [(5, .int (i + Int32.ofInt 1)), (4, .int 1), (0, .ref 164), (1, .int 3), (2, .int k), (3, .int bd)]) (am_nxt_of (i := (62, 3, .iinc 5 1, (0, 0, 0), 0)) (by decide +kernel)) (v := i) rfl (by decide +kernel) rfl rfl ?_
          refine am_e_goto (am_cur_of (i := (65, 3, .goto (-48), (13, 0, 0), 0)) (by decide +kernel)) (am_tgt_of (by decide +kernel)) ?_
          refine am_Ek_ls (ls' := [(0, .ref 164), (1, .int 3), (2, .int k), (3, .int bd), (4, .int 1), (5, .int (i + Int32.ofInt 1))]) ⟨rfl, rfl, rfl, rfl, rfl, rfl, trivial⟩ ?_
          exact ih _ _ (lo + 1) h1 (by omega) (by omega) (by omega) (by omega) (Or.inr rfl) (Or.inr (by omega)) (ac_Gu_le G1 (by omega) (by omega))
    · refine am_e_cmpT (am_nxt_of (i := (30, 3, .if_icmp .ge 38, (42, 0, 0), 0)) (by decide +kernel)) (am_c_geT hi) (am_tgt_of (by decide +kernel)) ?_
      exact hgo y i lo h hy l0 hl i1 hG
theorem ac_getsUp3 (hX : ac_XF X) (hS : ac_SC (ac_JX X)) {h0 : am_H} {k bd s n : Int32} (k0 : 0 ≤ k.toInt) (k3 : k.toInt ≤ 3) (en : h0 164 12 = .int n) (hkn : k.toInt < n.toInt) (hI : ab_Inv (ab_hi ab_tab) h0) (hj : ac_JX X h0) (hs : h0 189 3 = .int s) : am_Ek false am_G0 am_m229 0 (lv_args 0 [.ref 164, .int 3, .int k, .int bd]) [] am_ks0 h0 0 0 (fun r ks h' => ks = am_ks0 ∧ (r = some (.int 0) ∨ r = some (.int 1)) ∧ ac_Gu X ac_gu3 3 h0 s 1 9900 h') := by
  have z0 : (0 : Int32).toInt = 0 := by decide
  have z1 : (1 : Int32).toInt = 1 := by decide
  have m5 := ab_m7 (k := k) (c := 5) k0 k3 (by decide) (by decide)
  have m2 := ab_m7 (k := k) (c := 2) k0 k3 (by decide) (by decide)
  have m3 := ab_m7 (k := k) (c := 3) k0 k3 (by decide) (by decide)
  have z5 : (5 : Int32).toInt = 5 := by decide
  have z2 : (2 : Int32).toInt = 2 := by decide
  have z3 : (3 : Int32).toInt = 3 := by decide
  have x5 := ab_ix (x := (7 : Int32) * k + 5) (n := 56) (by omega) (by omega)
  have x2 := ab_ix (x := (7 : Int32) * k + 2) (n := 56) (by omega) (by omega)
  have x3 := ab_ix (x := (7 : Int32) * k + 3) (n := 56) (by omega) (by omega)
  obtain ⟨v5, e5, -, v5_1⟩ := ac_r170 hI (q := ((7 : Int32) * k + 5).toNatClampNeg) (Nat.lt_of_not_le (fun q => x5 (Or.inr q)))
  obtain ⟨v2, e2, -, v2_1⟩ := ac_r170 hI (q := ((7 : Int32) * k + 2).toNatClampNeg) (Nat.lt_of_not_le (fun q => x2 (Or.inr q)))
  obtain ⟨v3, e3, -, v3_1⟩ := ac_r170 hI (q := ((7 : Int32) * k + 3).toNatClampNeg) (Nat.lt_of_not_le (fun q => x3 (Or.inr q)))
  obtain ⟨⟨w2, ew2, w2_0⟩, w3, ew3, w3_0⟩ := hj.1.2.2.2.2.2.2.1 k.toInt.toNat n en (by omega)
  have c2 : ((7 : Int32) * k + 2).toNatClampNeg = 0 + 7 * k.toInt.toNat + 2 := ab_clamp (by omega)
  have c3 : ((7 : Int32) * k + 3).toNatClampNeg = 0 + 7 * k.toInt.toNat + 3 := ab_clamp (by omega)
  have v2_0 : 1 ≤ v2.toInt := by
    rw [c2, ew2] at e2
    cases e2
    exact w2_0
  have v3_0 : 1 ≤ v3.toInt := by
    rw [c3, ew3] at e3
    cases e3
    exact w3_0
  have a4 := ac_4p 3 3 (by decide) (by decide) k0 k3
  have x4 := ab_ix (x := (4 : Int32) * 3 + k) (n := 16) (by omega) (by omega)
  refine am_e_iconst (w := 1) (am_nxt_of (i := (0, 1, .iconst 1, (0, 0, 0), 0)) (by decide +kernel)) rfl ?_
  refine am_e_istore (ls' := [(4, .int 1), (0, .ref 164), (1, .int 3), (2, .int k), (3, .int bd)]) (am_nxt_of (i := (1, 2, .istore 4, (0, 0, 0), 0)) (by decide +kernel)) (by decide +kernel) rfl ?_
  refine am_e_aload_n (am_nxt_of (i := (3, 1, .aload_n 0, (0, 0, 0), 0)) (by decide +kernel)) (v := 164) rfl ?_
  refine am_e_getf (am_nxt_of (i := (4, 3, .getfield 94, (12, 53, 1437), 0)) (by decide +kernel)) ac_o (ac_f53 hI) ?_
  refine am_e_iconst (w := 4) (am_nxt_of (i := (7, 1, .iconst 4, (0, 0, 0), 0)) (by decide +kernel)) rfl ?_
  refine am_e_iload_n (am_nxt_of (i := (8, 1, .iload_n 1, (0, 0, 0), 0)) (by decide +kernel)) (v := 3) rfl ?_
  refine am_e_imul (w := (4 : Int32) * 3) (am_nxt_of (i := (9, 1, .imul, (0, 0, 0), 0)) (by decide +kernel)) rfl ?_
  refine am_e_iload_n (am_nxt_of (i := (10, 1, .iload_n 2, (0, 0, 0), 0)) (by decide +kernel)) (v := k) rfl ?_
  refine am_e_iadd (w := (4 : Int32) * 3 + k) (am_nxt_of (i := (11, 1, .iadd, (0, 0, 0), 0)) (by decide +kernel)) rfl ?_
  refine am_e_iconst (w := 0) (am_nxt_of (i := (12, 1, .iconst 0, (0, 0, 0), 0)) (by decide +kernel)) rfl ?_
  refine am_e_iastore (am_nxt_of (i := (13, 1, .iastore, (0, 0, 0), 0)) (by decide +kernel)) ac_k191 x4 rfl ?_
  have I1 := ac_w191 (q := ((4 : Int32) * 3 + k).toNatClampNeg) (v := 0) hI (by decide) (by decide)
  have f1 : ab_Fr [(191, 0)] h0 (am_up h0 191 ((4 : Int32) * 3 + k).toNatClampNeg (.int 0)) := ab_Fr_up rfl ab_Fr_refl
  have J1 := ac_JX_fr hX rfl _ _ f1 hj
  refine am_e_iconst (w := 0) (am_nxt_of (i := (14, 1, .iconst 0, (0, 0, 0), 0)) (by decide +kernel)) rfl ?_
  refine am_e_istore (ls' := [(5, .int 0), (4, .int 1), (0, .ref 164), (1, .int 3), (2, .int k), (3, .int bd)]) (am_nxt_of (i := (15, 2, .istore 5, (0, 0, 0), 0)) (by decide +kernel)) (by decide +kernel) rfl ?_
  refine am_Ek_ls (ls' := [(0, .ref 164), (1, .int 3), (2, .int k), (3, .int bd), (4, .int 1), (5, .int 0)]) ⟨rfl, rfl, rfl, rfl, rfl, rfl, trivial⟩ ?_
  exact ac_gC3 hX hS k0 k3 e5 v5_1 e2 v2_0 v2_1 e3 v3_0 v3_1 99 0 1 0 _ (by decide) (by decide) (by decide) (by decide) (Or.inr rfl) (Or.inl rfl) ⟨I1, J1, ab_mdle_Fr (by decide) f1, 0, by rw [Int32.add_zero]; exact hs, by decide, by decide⟩
end ACK
