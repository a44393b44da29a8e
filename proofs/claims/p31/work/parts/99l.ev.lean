/-! ===== THE MODEL'S ever, rule, fairest (wip/s/gen99l.py) ===== -/
abbrev ac_evL : List (Nat × Nat) := ac_gM ++ (ab_cbM ++ [(164, 64)])
abbrev ac_evO : List (Nat × Nat) := (164, 3) :: ac_evL
section ACM
variable {X : am_H → Prop}
theorem ac_ever (hX : ac_XF X) (hS : ac_SC (ac_JX X)) (hN : ab_Con ab_tab (ac_JX X) ab_S_isIn_x_0_3) {h : am_H} (hI : ab_Inv (ab_hi ab_tab) h) (hj : ac_JX X h) {k : Int32} : am_Ek false am_G0 am_m213 0 (lv_args 0 [.ref 164, .int k]) [] am_ks0 h 0 0 (ac_opQ X ac_evO h) := by
  have z0 : (0 : Int32).toInt = 0 := by decide
  have I1 := ac_p2 (v := 0) hI (by decide) (by decide)
  have J1 := ac_JX_fr hX (md := [(164, 3)]) rfl _ (am_up h 164 2 (.int 0)) (ab_Fr_up rfl ab_Fr_refl) hj
  have f1 : ab_Fr ac_evO h (am_up h 164 2 (.int 0)) := ab_Fr_up rfl ab_Fr_refl
  have t1 : am_up h 164 2 (.int 0) 164 2 = .int 0 := am_up_self _ _ _ _
  obtain ⟨b, eb, b0, b4⟩ := ac_g12 I1
  obtain ⟨t, et, t0, t8⟩ := ac_g13 I1
  refine am_e_aload_n (am_nxt_of (i := (0, 1, .aload_n 0, (0, 0, 0), 0)) (by decide +kernel)) (v := 164) rfl ?_
  refine am_e_iconst (w := 0) (am_nxt_of (i := (1, 1, .iconst 0, (0, 0, 0), 0)) (by decide +kernel)) rfl ?_
  refine am_e_putf (am_nxt_of (i := (2, 3, .putfield 139, (12, 2, 1386), 0)) (by decide +kernel)) ac_o rfl ?_
  refine am_e_aload_n (am_nxt_of (i := (5, 1, .aload_n 0, (0, 0, 0), 0)) (by decide +kernel)) (v := 164) rfl ?_
  refine am_e_getf (v := .int t) (am_nxt_of (i := (6, 3, .getfield 222, (12, 13, 1397), 0)) (by decide +kernel)) ac_o et ?_
  by_cases ht0 : (t : Int32) = 0
  · refine am_e_ifT (am_nxt_of (i := (9, 3, .ifCond .eq 12, (11, 0, 0), 0)) (by decide +kernel)) (am_c_eqT ht0) (am_tgt_of (by decide +kernel)) ?_
    refine am_e_iconst (w := (-1)) (am_nxt_of (i := (21, 1, .iconst (-1), (0, 0, 0), 0)) (by decide +kernel)) rfl ?_
    exact am_e_iret (ty := .int) (am_cur_of (i := (22, 1, .ireturn, (0, 0, 0), 0)) (by decide +kernel)) rfl rfl rfl ⟨rfl, I1, J1, f1, _, rfl⟩
  · refine am_e_ifF (am_nxt_of (i := (9, 3, .ifCond .eq 12, (11, 0, 0), 0)) (by decide +kernel)) (am_c_eqF ht0) ?_
    have t_1 : 1 ≤ t.toInt := by
      have := ac_ne' ht0
      omega
    refine am_e_iload_n (am_nxt_of (i := (12, 1, .iload_n 1, (0, 0, 0), 0)) (by decide +kernel)) (v := k) rfl ?_
    refine am_e_iconst (w := 0) (am_nxt_of (i := (13, 1, .iconst 0, (0, 0, 0), 0)) (by decide +kernel)) rfl ?_
    refine am_e_iconst (w := 3) (am_nxt_of (i := (14, 1, .iconst 3, (0, 0, 0), 0)) (by decide +kernel)) rfl ?_
    refine am_e_callS (M' := am_m162) (ar := [.int 3, .int 0, .int k]) (rest := []) (L := lv_args 0 [.int k, .int 0, .int 3]) (am_nxt_of (i := (15, 3, .invokestatic 184, (162, 1681, 3), 0)) (by decide +kernel)) rfl rfl rfl rfl rfl rfl rfl ?_
    refine am_Ev_mono (ac_use hN rfl ⟨ab_top_ok _, ab_i_ok (by decide) (by decide), ab_i_ok (by decide) (by decide), trivial⟩ I1 J1 ac_p0) (fun r ks g hq => ?_)
    obtain ⟨rfl, gI, gj, gF, c, hc, hg⟩ := hq
    have hr := ac_01 (s := ab_S_isIn_x_0_3) rfl hc hg.1
    have f2 := ab_Fr_trans f1 (ab_mdle_Fr (md' := ac_evO) (by decide) gF)
    have gt := (gF 164 2 rfl).trans t1
    have geb := (gF 164 12 rfl).trans eb
    have get := (gF 164 13 rfl).trans et
    rcases hr with rfl | rfl
    · show am_Ek false am_G0 am_m213 10 _ [.int 0] _ _ _ _ _
      refine am_e_ifF (am_nxt_of (i := (18, 3, .ifCond .ne 5, (13, 0, 0), 0)) (by decide +kernel)) (am_c_neF rfl) ?_
      refine am_e_iconst (w := (-1)) (am_nxt_of (i := (21, 1, .iconst (-1), (0, 0, 0), 0)) (by decide +kernel)) rfl ?_
      exact am_e_iret (ty := .int) (am_cur_of (i := (22, 1, .ireturn, (0, 0, 0), 0)) (by decide +kernel)) rfl rfl rfl ⟨rfl, gI, gj, f2, _, rfl⟩
    · show am_Ek false am_G0 am_m213 10 _ [.int 1] _ _ _ _ _
      refine am_e_ifT (am_nxt_of (i := (18, 3, .ifCond .ne 5, (13, 0, 0), 0)) (by decide +kernel)) (am_c_neT (by decide)) (am_tgt_of (by decide +kernel)) ?_
      refine am_e_aload_n (am_nxt_of (i := (23, 1, .aload_n 0, (0, 0, 0), 0)) (by decide +kernel)) (v := 164) rfl ?_
      refine am_e_callV (M' := am_m214) (o := 164) (ar := []) (rest := []) (L := lv_args 0 [.ref 164]) (am_nxt_of (i := (24, 3, .invokevirtual 464, (214, 1887, 3), 0)) (by decide +kernel)) rfl rfl rfl rfl ac_o rfl rfl rfl ?_
      refine am_Ev_mono (ac_goRounds hX hS gI gj gt get t_1) (fun r ks g2 hq => ?_)
      obtain ⟨rfl, hr, I2, J2, F2⟩ := hq
      have f3 : ab_Fr ac_evO h g2 := ab_Fr_trans f2 (ab_mdle_Fr (by decide) F2)
      obtain ⟨se, ese, -⟩ := ac_r189 I2 (q := 1) (by decide)
      obtain ⟨bg, ebg, -⟩ := ac_g63 I2
      obtain ⟨mf, emf, -⟩ := ac_g64 I2
      obtain ⟨ro, ero, -⟩ := ac_g65 I2
      rcases hr with rfl | rfl
      · show am_Ek false am_G0 am_m213 15 _ [.int 0] _ _ _ _ _
        refine am_e_istore_n (ls' := [(2, .int 0), (0, .ref 164), (1, .int k)]) (am_nxt_of (i := (27, 1, .istore_n 2, (0, 0, 0), 0)) (by decide +kernel)) (by decide +kernel) rfl ?_
        refine am_e_iload_n (am_nxt_of (i := (28, 1, .iload_n 1, (0, 0, 0), 0)) (by decide +kernel)) (v := k) rfl ?_
        by_cases h0 : (k : Int32) = 0
        · refine am_e_ifF (am_nxt_of (i := (29, 3, .ifCond .ne 15, (24, 0, 0), 0)) (by decide +kernel)) (am_c_neF h0) ?_
          refine am_e_iload_n (am_nxt_of (i := (32, 1, .iload_n 2, (0, 0, 0), 0)) (by decide +kernel)) (v := 0) rfl ?_
          refine am_e_ifT (am_nxt_of (i := (33, 3, .ifCond .eq 7, (22, 0, 0), 0)) (by decide +kernel)) (am_c_eqT rfl) (am_tgt_of (by decide +kernel)) ?_
          refine am_e_iconst (w := 0) (am_nxt_of (i := (40, 1, .iconst 0, (0, 0, 0), 0)) (by decide +kernel)) rfl ?_
          refine am_e_goto (am_cur_of (i := (41, 3, .goto 46, (47, 0, 0), 0)) (by decide +kernel)) (am_tgt_of (by decide +kernel)) ?_
          exact am_e_iret (ty := .int) (am_cur_of (i := (87, 1, .ireturn, (0, 0, 0), 0)) (by decide +kernel)) rfl rfl rfl ⟨rfl, I2, J2, f3, _, rfl⟩
        · refine am_e_ifT (am_nxt_of (i := (29, 3, .ifCond .ne 15, (24, 0, 0), 0)) (by decide +kernel)) (am_c_neT h0) (am_tgt_of (by decide +kernel)) ?_
          refine am_e_iload_n (am_nxt_of (i := (44, 1, .iload_n 1, (0, 0, 0), 0)) (by decide +kernel)) (v := k) rfl ?_
          refine am_e_iconst (w := 1) (am_nxt_of (i := (45, 1, .iconst 1, (0, 0, 0), 0)) (by decide +kernel)) rfl ?_
          by_cases h1 : (k : Int32) = 1
          · refine am_e_cmpF (am_nxt_of (i := (46, 3, .if_icmp .ne 25, (39, 0, 0), 0)) (by decide +kernel)) (am_c_neF h1) ?_
            refine am_e_iload_n (am_nxt_of (i := (49, 1, .iload_n 2, (0, 0, 0), 0)) (by decide +kernel)) (v := 0) rfl ?_
            refine am_e_ifT (am_nxt_of (i := (50, 3, .ifCond .eq 17, (37, 0, 0), 0)) (by decide +kernel)) (am_c_eqT rfl) (am_tgt_of (by decide +kernel)) ?_
            refine am_e_iconst (w := (-1)) (am_nxt_of (i := (67, 1, .iconst (-1), (0, 0, 0), 0)) (by decide +kernel)) rfl ?_
            refine am_e_goto (am_cur_of (i := (68, 3, .goto 19, (47, 0, 0), 0)) (by decide +kernel)) (am_tgt_of (by decide +kernel)) ?_
            exact am_e_iret (ty := .int) (am_cur_of (i := (87, 1, .ireturn, (0, 0, 0), 0)) (by decide +kernel)) rfl rfl rfl ⟨rfl, I2, J2, f3, _, rfl⟩
          · refine am_e_cmpT (am_nxt_of (i := (46, 3, .if_icmp .ne 25, (39, 0, 0), 0)) (by decide +kernel)) (am_c_neT h1) (am_tgt_of (by decide +kernel)) ?_
            refine am_e_iload_n (am_nxt_of (i := (71, 1, .iload_n 1, (0, 0, 0), 0)) (by decide +kernel)) (v := k) rfl ?_
            refine am_e_iconst (w := 2) (am_nxt_of (i := (72, 1, .iconst 2, (0, 0, 0), 0)) (by decide +kernel)) rfl ?_
            by_cases h2 : (k : Int32) = 2
            · refine am_e_cmpF (am_nxt_of (i := (73, 3, .if_icmp .ne 10, (45, 0, 0), 0)) (by decide +kernel)) (am_c_neF h2) ?_
              refine am_e_aload_n (am_nxt_of (i := (76, 1, .aload_n 0, (0, 0, 0), 0)) (by decide +kernel)) (v := 164) rfl ?_
              refine am_e_getf (v := .int mf) (am_nxt_of (i := (77, 3, .getfield 454, (12, 64, 1448), 0)) (by decide +kernel)) ac_o emf ?_
              refine am_e_goto (am_cur_of (i := (80, 3, .goto 7, (47, 0, 0), 0)) (by decide +kernel)) (am_tgt_of (by decide +kernel)) ?_
              exact am_e_iret (ty := .int) (am_cur_of (i := (87, 1, .ireturn, (0, 0, 0), 0)) (by decide +kernel)) rfl rfl rfl ⟨rfl, I2, J2, f3, _, rfl⟩
            · refine am_e_cmpT (am_nxt_of (i := (73, 3, .if_icmp .ne 10, (45, 0, 0), 0)) (by decide +kernel)) (am_c_neT h2) (am_tgt_of (by decide +kernel)) ?_
              refine am_e_aload_n (am_nxt_of (i := (83, 1, .aload_n 0, (0, 0, 0), 0)) (by decide +kernel)) (v := 164) rfl ?_
              refine am_e_getf (v := .int ro) (am_nxt_of (i := (84, 3, .getfield 457, (12, 65, 1449), 0)) (by decide +kernel)) ac_o ero ?_
              exact am_e_iret (ty := .int) (am_cur_of (i := (87, 1, .ireturn, (0, 0, 0), 0)) (by decide +kernel)) rfl rfl rfl ⟨rfl, I2, J2, f3, _, rfl⟩
      · show am_Ek false am_G0 am_m213 15 _ [.int 1] _ _ _ _ _
        refine am_e_istore_n (ls' := [(2, .int 1), (0, .ref 164), (1, .int k)]) (am_nxt_of (i := (27, 1, .istore_n 2, (0, 0, 0), 0)) (by decide +kernel)) (by decide +kernel) rfl ?_
        refine am_e_iload_n (am_nxt_of (i := (28, 1, .iload_n 1, (0, 0, 0), 0)) (by decide +kernel)) (v := k) rfl ?_
        by_cases h0 : (k : Int32) = 0
        · refine am_e_ifF (am_nxt_of (i := (29, 3, .ifCond .ne 15, (24, 0, 0), 0)) (by decide +kernel)) (am_c_neF h0) ?_
          refine am_e_iload_n (am_nxt_of (i := (32, 1, .iload_n 2, (0, 0, 0), 0)) (by decide +kernel)) (v := 1) rfl ?_
          refine am_e_ifF (am_nxt_of (i := (33, 3, .ifCond .eq 7, (22, 0, 0), 0)) (by decide +kernel)) (am_c_eqF (by decide)) ?_
          refine am_e_iconst (w := 1) (am_nxt_of (i := (36, 1, .iconst 1, (0, 0, 0), 0)) (by decide +kernel)) rfl ?_
          refine am_e_goto (am_cur_of (i := (37, 3, .goto 50, (47, 0, 0), 0)) (by decide +kernel)) (am_tgt_of (by decide +kernel)) ?_
          exact am_e_iret (ty := .int) (am_cur_of (i := (87, 1, .ireturn, (0, 0, 0), 0)) (by decide +kernel)) rfl rfl rfl ⟨rfl, I2, J2, f3, _, rfl⟩
        · refine am_e_ifT (am_nxt_of (i := (29, 3, .ifCond .ne 15, (24, 0, 0), 0)) (by decide +kernel)) (am_c_neT h0) (am_tgt_of (by decide +kernel)) ?_
          refine am_e_iload_n (am_nxt_of (i := (44, 1, .iload_n 1, (0, 0, 0), 0)) (by decide +kernel)) (v := k) rfl ?_
          refine am_e_iconst (w := 1) (am_nxt_of (i := (45, 1, .iconst 1, (0, 0, 0), 0)) (by decide +kernel)) rfl ?_
          by_cases h1 : (k : Int32) = 1
          · refine am_e_cmpF (am_nxt_of (i := (46, 3, .if_icmp .ne 25, (39, 0, 0), 0)) (by decide +kernel)) (am_c_neF h1) ?_
            refine am_e_iload_n (am_nxt_of (i := (49, 1, .iload_n 2, (0, 0, 0), 0)) (by decide +kernel)) (v := 1) rfl ?_
            refine am_e_ifF (am_nxt_of (i := (50, 3, .ifCond .eq 17, (37, 0, 0), 0)) (by decide +kernel)) (am_c_eqF (by decide)) ?_
            refine am_e_aload_n (am_nxt_of (i := (53, 1, .aload_n 0, (0, 0, 0), 0)) (by decide +kernel)) (v := 164) rfl ?_
            refine am_e_getf (am_nxt_of (i := (54, 3, .getfield 88, (12, 51, 1435), 0)) (by decide +kernel)) ac_o (ac_f51 I2) ?_
            refine am_e_iconst (w := 1) (am_nxt_of (i := (57, 1, .iconst 1, (0, 0, 0), 0)) (by decide +kernel)) rfl ?_
            refine am_e_iaload (v := se) (q := 1) (am_nxt_of (i := (58, 1, .iaload, (0, 0, 0), 0)) (by decide +kernel)) ac_k189 (by decide) (by decide) ese ?_
            refine am_e_aload_n (am_nxt_of (i := (59, 1, .aload_n 0, (0, 0, 0), 0)) (by decide +kernel)) (v := 164) rfl ?_
            refine am_e_getf (v := .int bg) (am_nxt_of (i := (60, 3, .getfield 447, (12, 63, 1447), 0)) (by decide +kernel)) ac_o ebg ?_
            refine am_e_isub (w := se - bg) (am_nxt_of (i := (63, 1, .isub, (0, 0, 0), 0)) (by decide +kernel)) rfl ?_
            refine am_e_goto (am_cur_of (i := (64, 3, .goto 23, (47, 0, 0), 0)) (by decide +kernel)) (am_tgt_of (by decide +kernel)) ?_
            exact am_e_iret (ty := .int) (am_cur_of (i := (87, 1, .ireturn, (0, 0, 0), 0)) (by decide +kernel)) rfl rfl rfl ⟨rfl, I2, J2, f3, _, rfl⟩
          · refine am_e_cmpT (am_nxt_of (i := (46, 3, .if_icmp .ne 25, (39, 0, 0), 0)) (by decide +kernel)) (am_c_neT h1) (am_tgt_of (by decide +kernel)) ?_
            refine am_e_iload_n (am_nxt_of (i := (71, 1, .iload_n 1, (0, 0, 0), 0)) (by decide +kernel)) (v := k) rfl ?_
            refine am_e_iconst (w := 2) (am_nxt_of (i := (72, 1, .iconst 2, (0, 0, 0), 0)) (by decide +kernel)) rfl ?_
            by_cases h2 : (k : Int32) = 2
            · refine am_e_cmpF (am_nxt_of (i := (73, 3, .if_icmp .ne 10, (45, 0, 0), 0)) (by decide +kernel)) (am_c_neF h2) ?_
              refine am_e_aload_n (am_nxt_of (i := (76, 1, .aload_n 0, (0, 0, 0), 0)) (by decide +kernel)) (v := 164) rfl ?_
              refine am_e_getf (v := .int mf) (am_nxt_of (i := (77, 3, .getfield 454, (12, 64, 1448), 0)) (by decide +kernel)) ac_o emf ?_
              refine am_e_goto (am_cur_of (i := (80, 3, .goto 7, (47, 0, 0), 0)) (by decide +kernel)) (am_tgt_of (by decide +kernel)) ?_
              exact am_e_iret (ty := .int) (am_cur_of (i := (87, 1, .ireturn, (0, 0, 0), 0)) (by decide +kernel)) rfl rfl rfl ⟨rfl, I2, J2, f3, _, rfl⟩
            · refine am_e_cmpT (am_nxt_of (i := (73, 3, .if_icmp .ne 10, (45, 0, 0), 0)) (by decide +kernel)) (am_c_neT h2) (am_tgt_of (by decide +kernel)) ?_
              refine am_e_aload_n (am_nxt_of (i := (83, 1, .aload_n 0, (0, 0, 0), 0)) (by decide +kernel)) (v := 164) rfl ?_
              refine am_e_getf (v := .int ro) (am_nxt_of (i := (84, 3, .getfield 457, (12, 65, 1449), 0)) (by decide +kernel)) ac_o ero ?_
              exact am_e_iret (ty := .int) (am_cur_of (i := (87, 1, .ireturn, (0, 0, 0), 0)) (by decide +kernel)) rfl rfl rfl ⟨rfl, I2, J2, f3, _, rfl⟩
theorem ac_rule (hX : ac_XF X) (hS : ac_SC (ac_JX X)) (hN : ab_Con ab_tab (ac_JX X) ab_S_isIn_x_0_3) {h : am_H} (hI : ab_Inv (ab_hi ab_tab) h) (hj : ac_JX X h) {k : Int32} : am_Ek false am_G0 am_m236 0 (lv_args 0 [.ref 164, .int k]) [] am_ks0 h 0 0 (ac_opQ X ac_evO h) := by
  have z0 : (0 : Int32).toInt = 0 := by decide
  have I1 := ac_p2 (v := 0) hI (by decide) (by decide)
  have J1 := ac_JX_fr hX (md := [(164, 3)]) rfl _ (am_up h 164 2 (.int 0)) (ab_Fr_up rfl ab_Fr_refl) hj
  have f1 : ab_Fr ac_evO h (am_up h 164 2 (.int 0)) := ab_Fr_up rfl ab_Fr_refl
  have t1 : am_up h 164 2 (.int 0) 164 2 = .int 0 := am_up_self _ _ _ _
  obtain ⟨b, eb, b0, b4⟩ := ac_g12 I1
  obtain ⟨t, et, t0, t8⟩ := ac_g13 I1
  refine am_e_aload_n (am_nxt_of (i := (0, 1, .aload_n 0, (0, 0, 0), 0)) (by decide +kernel)) (v := 164) rfl ?_
  refine am_e_iconst (w := 0) (am_nxt_of (i := (1, 1, .iconst 0, (0, 0, 0), 0)) (by decide +kernel)) rfl ?_
  refine am_e_putf (am_nxt_of (i := (2, 3, .putfield 139, (12, 2, 1386), 0)) (by decide +kernel)) ac_o rfl ?_
  refine am_e_iload_n (am_nxt_of (i := (5, 1, .iload_n 1, (0, 0, 0), 0)) (by decide +kernel)) (v := k) rfl ?_
  refine am_e_iconst (w := 0) (am_nxt_of (i := (6, 1, .iconst 0, (0, 0, 0), 0)) (by decide +kernel)) rfl ?_
  refine am_e_iconst (w := 3) (am_nxt_of (i := (7, 1, .iconst 3, (0, 0, 0), 0)) (by decide +kernel)) rfl ?_
  refine am_e_callS (M' := am_m162) (ar := [.int 3, .int 0, .int k]) (rest := []) (L := lv_args 0 [.int k, .int 0, .int 3]) (am_nxt_of (i := (8, 3, .invokestatic 184, (162, 1681, 3), 0)) (by decide +kernel)) rfl rfl rfl rfl rfl rfl rfl ?_
  refine am_Ev_mono (ac_use hN rfl ⟨ab_top_ok _, ab_i_ok (by decide) (by decide), ab_i_ok (by decide) (by decide), trivial⟩ I1 J1 ac_p0) (fun r ks g hq => ?_)
  obtain ⟨rfl, gI, gj, gF, c, hc, hg⟩ := hq
  have hr := ac_01 (s := ab_S_isIn_x_0_3) rfl hc hg.1
  have f2 := ab_Fr_trans f1 (ab_mdle_Fr (md' := ac_evO) (by decide) gF)
  have gt := (gF 164 2 rfl).trans t1
  have geb := (gF 164 12 rfl).trans eb
  have get := (gF 164 13 rfl).trans et
  rcases hr with rfl | rfl
  · show am_Ek false am_G0 am_m236 7 _ [.int 0] _ _ _ _ _
    refine am_e_ifT (am_nxt_of (i := (11, 3, .ifCond .eq 21, (16, 0, 0), 0)) (by decide +kernel)) (am_c_eqT rfl) (am_tgt_of (by decide +kernel)) ?_
    refine am_e_iconst (w := (-1)) (am_nxt_of (i := (32, 1, .iconst (-1), (0, 0, 0), 0)) (by decide +kernel)) rfl ?_
    exact am_e_iret (ty := .int) (am_cur_of (i := (33, 1, .ireturn, (0, 0, 0), 0)) (by decide +kernel)) rfl rfl rfl ⟨rfl, gI, gj, f2, _, rfl⟩
  · show am_Ek false am_G0 am_m236 7 _ [.int 1] _ _ _ _ _
    refine am_e_ifF (am_nxt_of (i := (11, 3, .ifCond .eq 21, (16, 0, 0), 0)) (by decide +kernel)) (am_c_eqF (by decide)) ?_
    refine am_e_aload_n (am_nxt_of (i := (14, 1, .aload_n 0, (0, 0, 0), 0)) (by decide +kernel)) (v := 164) rfl ?_
    refine am_e_getf (v := .int b) (am_nxt_of (i := (15, 3, .getfield 219, (12, 12, 1396), 0)) (by decide +kernel)) ac_o geb ?_
    by_cases hb0 : (b : Int32) = 0
    · refine am_e_ifT (am_nxt_of (i := (18, 3, .ifCond .eq 14, (16, 0, 0), 0)) (by decide +kernel)) (am_c_eqT hb0) (am_tgt_of (by decide +kernel)) ?_
      refine am_e_iconst (w := (-1)) (am_nxt_of (i := (32, 1, .iconst (-1), (0, 0, 0), 0)) (by decide +kernel)) rfl ?_
      exact am_e_iret (ty := .int) (am_cur_of (i := (33, 1, .ireturn, (0, 0, 0), 0)) (by decide +kernel)) rfl rfl rfl ⟨rfl, gI, gj, f2, _, rfl⟩
    · refine am_e_ifF (am_nxt_of (i := (18, 3, .ifCond .eq 14, (16, 0, 0), 0)) (by decide +kernel)) (am_c_eqF hb0) ?_
      have b_1 : 1 ≤ b.toInt := by
        have := ac_ne' hb0
        omega
      refine am_e_iload_n (am_nxt_of (i := (21, 1, .iload_n 1, (0, 0, 0), 0)) (by decide +kernel)) (v := k) rfl ?_
      by_cases hk0 : (k : Int32) = 0
      · refine am_e_ifF (am_nxt_of (i := (22, 3, .ifCond .ne 12, (18, 0, 0), 0)) (by decide +kernel)) (am_c_neF hk0) ?_
        refine am_e_aload_n (am_nxt_of (i := (25, 1, .aload_n 0, (0, 0, 0), 0)) (by decide +kernel)) (v := 164) rfl ?_
        refine am_e_getf (v := .int t) (am_nxt_of (i := (26, 3, .getfield 222, (12, 13, 1397), 0)) (by decide +kernel)) ac_o get ?_
        by_cases ht0 : (t : Int32) = 0
        · refine am_e_ifF (am_nxt_of (i := (29, 3, .ifCond .ne 5, (18, 0, 0), 0)) (by decide +kernel)) (am_c_neF ht0) ?_
          refine am_e_iconst (w := (-1)) (am_nxt_of (i := (32, 1, .iconst (-1), (0, 0, 0), 0)) (by decide +kernel)) rfl ?_
          exact am_e_iret (ty := .int) (am_cur_of (i := (33, 1, .ireturn, (0, 0, 0), 0)) (by decide +kernel)) rfl rfl rfl ⟨rfl, gI, gj, f2, _, rfl⟩
        · refine am_e_ifT (am_nxt_of (i := (29, 3, .ifCond .ne 5, (18, 0, 0), 0)) (by decide +kernel)) (am_c_neT ht0) (am_tgt_of (by decide +kernel)) ?_
          refine am_e_aload_n (am_nxt_of (i := (34, 1, .aload_n 0, (0, 0, 0), 0)) (by decide +kernel)) (v := 164) rfl ?_
          refine am_e_iload_n (am_nxt_of (i := (35, 1, .iload_n 1, (0, 0, 0), 0)) (by decide +kernel)) (v := k) rfl ?_
          refine am_e_callV (M' := am_m237) (o := 164) (ar := [.int k]) (rest := []) (L := lv_args 0 [.ref 164, .int k]) (am_nxt_of (i := (36, 3, .invokevirtual 517, (237, 1979, 3), 0)) (by decide +kernel)) rfl rfl rfl rfl ac_o rfl rfl rfl ?_
          refine am_Ev_mono (ac_ruleTime hX hS gI gj gt geb b_1 get (fun _ => by
            have := ac_ne' ht0
            omega)) (fun r ks g2 hq => ?_)
          obtain ⟨rfl, I2, J2, F2, x, rfl⟩ := hq
          have f3 : ab_Fr ac_evO h g2 := ab_Fr_trans f2 (ab_mdle_Fr (by decide) F2)
          show am_Ek false am_G0 am_m236 21 _ [.int x] _ _ _ _ _
          exact am_e_iret (ty := .int) (am_cur_of (i := (39, 1, .ireturn, (0, 0, 0), 0)) (by decide +kernel)) rfl rfl rfl ⟨rfl, I2, J2, f3, _, rfl⟩
      · refine am_e_ifT (am_nxt_of (i := (22, 3, .ifCond .ne 12, (18, 0, 0), 0)) (by decide +kernel)) (am_c_neT hk0) (am_tgt_of (by decide +kernel)) ?_
        refine am_e_aload_n (am_nxt_of (i := (34, 1, .aload_n 0, (0, 0, 0), 0)) (by decide +kernel)) (v := 164) rfl ?_
        refine am_e_iload_n (am_nxt_of (i := (35, 1, .iload_n 1, (0, 0, 0), 0)) (by decide +kernel)) (v := k) rfl ?_
        refine am_e_callV (M' := am_m237) (o := 164) (ar := [.int k]) (rest := []) (L := lv_args 0 [.ref 164, .int k]) (am_nxt_of (i := (36, 3, .invokevirtual 517, (237, 1979, 3), 0)) (by decide +kernel)) rfl rfl rfl rfl ac_o rfl rfl rfl ?_
        refine am_Ev_mono (ac_ruleTime hX hS gI gj gt geb b_1 get (fun e => absurd e hk0)) (fun r ks g2 hq => ?_)
        obtain ⟨rfl, I2, J2, F2, x, rfl⟩ := hq
        have f3 : ab_Fr ac_evO h g2 := ab_Fr_trans f2 (ab_mdle_Fr (by decide) F2)
        show am_Ek false am_G0 am_m236 21 _ [.int x] _ _ _ _ _
        exact am_e_iret (ty := .int) (am_cur_of (i := (39, 1, .ireturn, (0, 0, 0), 0)) (by decide +kernel)) rfl rfl rfl ⟨rfl, I2, J2, f3, _, rfl⟩
theorem ac_fa_l (hX : ac_XF X) (hS : ac_SC (ac_JX X)) {h0 h1 : am_H} {b t : Int32} (t1 : h1 164 2 = .int 0) (eb1 : h1 164 12 = .int b) (b_1 : 1 ≤ b.toInt) (et1 : h1 164 13 = .int t) (f1 : ab_Fr ac_evO h0 h1) : ∀ (d : Nat) (y be le : Int32) (h : am_H), 4 - y.toInt ≤ d → 0 ≤ y.toInt → y.toInt ≤ 4 → (y = 0 → 1 ≤ t.toInt) → ab_Inv (ab_hi ab_tab) h → ac_JX X h → ab_Fr ac_evL h1 h → am_Ek false am_G0 am_m239 19 [(0, .ref 164), (1, .int be), (2, .int le), (3, .int y)] [] am_ks0 h 0 0 (ac_opQ X ac_evO h0) := by
  have z4 : (4 : Int32).toInt = 4 := by decide
  have z0 : (0 : Int32).toInt = 0 := by decide
  intro d
  induction d with
  | zero =>
    intro y be le h hd y0 y4 hy hI hj hF
    refine am_e_iload_n (am_nxt_of (i := (32, 1, .iload_n 3, (0, 0, 0), 0)) (by decide +kernel)) (v := y) rfl ?_
    refine am_e_iconst (w := 4) (am_nxt_of (i := (33, 1, .iconst 4, (0, 0, 0), 0)) (by decide +kernel)) rfl ?_
    refine am_e_cmpT (am_nxt_of (i := (34, 3, .if_icmp .ge 39, (40, 0, 0), 0)) (by decide +kernel)) (am_c_geT (ac_nlt (by omega))) (am_tgt_of (by decide +kernel)) ?_
    refine am_e_iload_n (am_nxt_of (i := (73, 1, .iload_n 1, (0, 0, 0), 0)) (by decide +kernel)) (v := be) rfl ?_
    exact am_e_iret (ty := .int) (am_cur_of (i := (74, 1, .ireturn, (0, 0, 0), 0)) (by decide +kernel)) rfl rfl rfl ⟨rfl, hI, hj, ab_Fr_trans f1 (ab_mdle_Fr (by decide) hF), _, rfl⟩
  | succ d ih =>
    intro y be le h hd y0 y4 hy hI hj hF
    refine am_e_iload_n (am_nxt_of (i := (32, 1, .iload_n 3, (0, 0, 0), 0)) (by decide +kernel)) (v := y) rfl ?_
    refine am_e_iconst (w := 4) (am_nxt_of (i := (33, 1, .iconst 4, (0, 0, 0), 0)) (by decide +kernel)) rfl ?_
    by_cases hlt : (y : Int32) < 4
    · refine am_e_cmpF (am_nxt_of (i := (34, 3, .if_icmp .ge 39, (40, 0, 0), 0)) (by decide +kernel)) (am_c_geF hlt) ?_
      have hy4 := ac_lt' hlt
      have e1 := ab_inc1 y0 (by omega)
      refine am_e_aload_n (am_nxt_of (i := (37, 1, .aload_n 0, (0, 0, 0), 0)) (by decide +kernel)) (v := 164) rfl ?_
      refine am_e_iload_n (am_nxt_of (i := (38, 1, .iload_n 3, (0, 0, 0), 0)) (by decide +kernel)) (v := y) rfl ?_
      refine am_e_callV (M' := am_m237) (o := 164) (ar := [.int y]) (rest := []) (L := lv_args 0 [.ref 164, .int y]) (am_nxt_of (i := (39, 3, .invokevirtual 517, (237, 1979, 3), 0)) (by decide +kernel)) rfl rfl rfl rfl ac_o rfl rfl rfl ?_
      refine am_Ev_mono (ac_ruleTime hX hS hI hj ((hF 164 2 (by decide)).trans t1) ((hF 164 12 (by decide)).trans eb1) b_1 ((hF 164 13 (by decide)).trans et1) hy) (fun r ks g hq => ?_)
      obtain ⟨rfl, gI, gj, gf, x, rfl⟩ := hq
      have gF := ab_Fr_trans hF gf
      show am_Ek false am_G0 am_m239 25 _ [.int x] _ _ _ _ _
      refine am_e_istore (ls' := [(4, .int x), (0, .ref 164), (1, .int be), (2, .int le), (3, .int y)]) (am_nxt_of (i := (42, 2, .istore 4, (0, 0, 0), 0)) (by decide +kernel)) (by decide +kernel) rfl ?_
      refine am_e_iload (am_nxt_of (i := (44, 2, .iload 4, (0, 0, 0), 0)) (by decide +kernel)) (v := x) rfl ?_
      by_cases hx : (x : Int32) < 0
      · refine am_e_ifT (am_nxt_of (i := (46, 3, .ifCond .lt 21, (38, 0, 0), 0)) (by decide +kernel)) (am_c_ltT hx) (am_tgt_of (by decide +kernel)) ?_
        refine am_e_iinc (w := y + Int32.ofInt 1) (ls' := [(3, .int (y + Int32.ofInt 1)), (4, .int x), (0, .ref 164), (1, .int be), (2, .int le)]) (am_nxt_of (i := (67, 3, .iinc 3 1, (0, 0, 0), 0)) (by decide +kernel)) (v := y) rfl (by decide +kernel) rfl rfl ?_
        refine am_e_goto (am_cur_of (i := (70, 3, .goto (-38), (19, 0, 0), 0)) (by decide +kernel)) (am_tgt_of (by decide +kernel)) ?_
        refine am_Ek_ls (ls' := [(0, .ref 164), (1, .int be), (2, .int le), (3, .int (y + Int32.ofInt 1))]) ⟨rfl, rfl, rfl, rfl, trivial⟩ ?_
        exact ih _ _ _ g (by omega) (by omega) (by omega) (fun e => absurd (show (y + Int32.ofInt 1).toInt = 0 by rw [e]; decide) (by omega)) gI gj gF
      · refine am_e_ifF (am_nxt_of (i := (46, 3, .ifCond .lt 21, (38, 0, 0), 0)) (by decide +kernel)) (am_c_ltF hx) ?_
        refine am_e_iload_n (am_nxt_of (i := (49, 1, .iload_n 1, (0, 0, 0), 0)) (by decide +kernel)) (v := be) rfl ?_
        by_cases hb : (be : Int32) < 0
        · refine am_e_ifT (am_nxt_of (i := (50, 3, .ifCond .lt 12, (34, 0, 0), 0)) (by decide +kernel)) (am_c_ltT hb) (am_tgt_of (by decide +kernel)) ?_
          refine am_e_iload_n (am_nxt_of (i := (62, 1, .iload_n 3, (0, 0, 0), 0)) (by decide +kernel)) (v := y) rfl ?_
          refine am_e_istore_n (ls' := [(1, .int y), (4, .int x), (0, .ref 164), (2, .int le), (3, .int y)]) (am_nxt_of (i := (63, 1, .istore_n 1, (0, 0, 0), 0)) (by decide +kernel)) (by decide +kernel) rfl ?_
          refine am_e_iload (am_nxt_of (i := (64, 2, .iload 4, (0, 0, 0), 0)) (by decide +kernel)) (v := x) rfl ?_
          refine am_e_istore_n (ls' := [(2, .int x), (1, .int y), (4, .int x), (0, .ref 164), (3, .int y)]) (am_nxt_of (i := (66, 1, .istore_n 2, (0, 0, 0), 0)) (by decide +kernel)) (by decide +kernel) rfl ?_
          refine am_e_iinc (w := y + Int32.ofInt 1) (ls' := [(3, .int (y + Int32.ofInt 1)), (2, .int x), (1, .int y), (4, .int x), (0, .ref 164)]) (am_nxt_of (i := (67, 3, .iinc 3 1, (0, 0, 0), 0)) (by decide +kernel)) (v := y) rfl (by decide +kernel) rfl rfl ?_
          refine am_e_goto (am_cur_of (i := (70, 3, .goto (-38), (19, 0, 0), 0)) (by decide +kernel)) (am_tgt_of (by decide +kernel)) ?_
          refine am_Ek_ls (ls' := [(0, .ref 164), (1, .int y), (2, .int x), (3, .int (y + Int32.ofInt 1))]) ⟨rfl, rfl, rfl, rfl, trivial⟩ ?_
          exact ih _ _ _ g (by omega) (by omega) (by omega) (fun e => absurd (show (y + Int32.ofInt 1).toInt = 0 by rw [e]; decide) (by omega)) gI gj gF
        · refine am_e_ifF (am_nxt_of (i := (50, 3, .ifCond .lt 12, (34, 0, 0), 0)) (by decide +kernel)) (am_c_ltF hb) ?_
          refine am_e_iload (am_nxt_of (i := (53, 2, .iload 4, (0, 0, 0), 0)) (by decide +kernel)) (v := x) rfl ?_
          refine am_e_iload_n (am_nxt_of (i := (55, 1, .iload_n 2, (0, 0, 0), 0)) (by decide +kernel)) (v := le) rfl ?_
          by_cases hc : (x : Int32) < le
          · refine am_e_cmpT (am_nxt_of (i := (56, 3, .if_icmp .lt 6, (34, 0, 0), 0)) (by decide +kernel)) (am_c_ltT hc) (am_tgt_of (by decide +kernel)) ?_
            refine am_e_iload_n (am_nxt_of (i := (62, 1, .iload_n 3, (0, 0, 0), 0)) (by decide +kernel)) (v := y) rfl ?_
            refine am_e_istore_n (ls' := [(1, .int y), (4, .int x), (0, .ref 164), (2, .int le), (3, .int y)]) (am_nxt_of (i := (63, 1, .istore_n 1, (0, 0, 0), 0)) (by decide +kernel)) (by decide +kernel) rfl ?_
            refine am_e_iload (am_nxt_of (i := (64, 2, .iload 4, (0, 0, 0), 0)) (by decide +kernel)) (v := x) rfl ?_
            refine am_e_istore_n (ls' := [(2, .int x), (1, .int y), (4, .int x), (0, .ref 164), (3, .int y)]) (am_nxt_of (i := (66, 1, .istore_n 2, (0, 0, 0), 0)) (by decide +kernel)) (by decide +kernel) rfl ?_
            refine am_e_iinc (w := y + Int32.ofInt 1) (ls' := [(3, .int (y + Int32.ofInt 1)), (2, .int x), (1, .int y), (4, .int x), (0, .ref 164)]) (am_nxt_of (i := (67, 3, .iinc 3 1, (0, 0, 0), 0)) (by decide +kernel)) (v := y) rfl (by decide +kernel) rfl rfl ?_
            refine am_e_goto (am_cur_of (i := (70, 3, .goto (-38), (19, 0, 0), 0)) (by decide +kernel)) (am_tgt_of (by decide +kernel)) ?_
            refine am_Ek_ls (ls' := [(0, .ref 164), (1, .int y), (2, .int x), (3, .int (y + Int32.ofInt 1))]) ⟨rfl, rfl, rfl, rfl, trivial⟩ ?_
            exact ih _ _ _ g (by omega) (by omega) (by omega) (fun e => absurd (show (y + Int32.ofInt 1).toInt = 0 by rw [e]; decide) (by omega)) gI gj gF
          · refine am_e_cmpF (am_nxt_of (i := (56, 3, .if_icmp .lt 6, (34, 0, 0), 0)) (by decide +kernel)) (am_c_ltF hc) ?_
            refine am_e_goto (am_cur_of (i := (59, 3, .goto 8, (38, 0, 0), 0)) (by decide +kernel)) (am_tgt_of (by decide +kernel)) ?_
            refine am_e_iinc (w := y + Int32.ofInt 1) (ls' := [(3, .int (y + Int32.ofInt 1)), (4, .int x), (0, .ref 164), (1, .int be), (2, .int le)]) (am_nxt_of (i := (67, 3, .iinc 3 1, (0, 0, 0), 0)) (by decide +kernel)) (v := y) rfl (by decide +kernel) rfl rfl ?_
            refine am_e_goto (am_cur_of (i := (70, 3, .goto (-38), (19, 0, 0), 0)) (by decide +kernel)) (am_tgt_of (by decide +kernel)) ?_
            refine am_Ek_ls (ls' := [(0, .ref 164), (1, .int be), (2, .int le), (3, .int (y + Int32.ofInt 1))]) ⟨rfl, rfl, rfl, rfl, trivial⟩ ?_
            exact ih _ _ _ g (by omega) (by omega) (by omega) (fun e => absurd (show (y + Int32.ofInt 1).toInt = 0 by rw [e]; decide) (by omega)) gI gj gF
    · refine am_e_cmpT (am_nxt_of (i := (34, 3, .if_icmp .ge 39, (40, 0, 0), 0)) (by decide +kernel)) (am_c_geT hlt) (am_tgt_of (by decide +kernel)) ?_
      refine am_e_iload_n (am_nxt_of (i := (73, 1, .iload_n 1, (0, 0, 0), 0)) (by decide +kernel)) (v := be) rfl ?_
      exact am_e_iret (ty := .int) (am_cur_of (i := (74, 1, .ireturn, (0, 0, 0), 0)) (by decide +kernel)) rfl rfl rfl ⟨rfl, hI, hj, ab_Fr_trans f1 (ab_mdle_Fr (by decide) hF), _, rfl⟩
theorem ac_fairest (hX : ac_XF X) (hS : ac_SC (ac_JX X)) (hN : ab_Con ab_tab (ac_JX X) ab_S_isIn_x_0_3) {h : am_H} (hI : ab_Inv (ab_hi ab_tab) h) (hj : ac_JX X h) : am_Ek false am_G0 am_m239 0 (lv_args 0 [.ref 164]) [] am_ks0 h 0 0 (ac_opQ X ac_evO h) := by
  have z0 : (0 : Int32).toInt = 0 := by decide
  have I1 := ac_p2 (v := 0) hI (by decide) (by decide)
  have J1 := ac_JX_fr hX (md := [(164, 3)]) rfl _ (am_up h 164 2 (.int 0)) (ab_Fr_up rfl ab_Fr_refl) hj
  have f1 : ab_Fr ac_evO h (am_up h 164 2 (.int 0)) := ab_Fr_up rfl ab_Fr_refl
  have t1 : am_up h 164 2 (.int 0) 164 2 = .int 0 := am_up_self _ _ _ _
  obtain ⟨b, eb, b0, b4⟩ := ac_g12 I1
  obtain ⟨t, et, t0, t8⟩ := ac_g13 I1
  refine am_e_aload_n (am_nxt_of (i := (0, 1, .aload_n 0, (0, 0, 0), 0)) (by decide +kernel)) (v := 164) rfl ?_
  refine am_e_iconst (w := 0) (am_nxt_of (i := (1, 1, .iconst 0, (0, 0, 0), 0)) (by decide +kernel)) rfl ?_
  refine am_e_putf (am_nxt_of (i := (2, 3, .putfield 139, (12, 2, 1386), 0)) (by decide +kernel)) ac_o rfl ?_
  refine am_e_aload_n (am_nxt_of (i := (5, 1, .aload_n 0, (0, 0, 0), 0)) (by decide +kernel)) (v := 164) rfl ?_
  refine am_e_getf (v := .int b) (am_nxt_of (i := (6, 3, .getfield 219, (12, 12, 1396), 0)) (by decide +kernel)) ac_o eb ?_
  by_cases hb0 : (b : Int32) = 0
  · refine am_e_ifF (am_nxt_of (i := (9, 3, .ifCond .ne 5, (8, 0, 0), 0)) (by decide +kernel)) (am_c_neF hb0) ?_
    refine am_e_iconst (w := (-1)) (am_nxt_of (i := (12, 1, .iconst (-1), (0, 0, 0), 0)) (by decide +kernel)) rfl ?_
    exact am_e_iret (ty := .int) (am_cur_of (i := (13, 1, .ireturn, (0, 0, 0), 0)) (by decide +kernel)) rfl rfl rfl ⟨rfl, I1, J1, f1, _, rfl⟩
  · refine am_e_ifT (am_nxt_of (i := (9, 3, .ifCond .ne 5, (8, 0, 0), 0)) (by decide +kernel)) (am_c_neT hb0) (am_tgt_of (by decide +kernel)) ?_
    have b_1 : 1 ≤ b.toInt := by
      have := ac_ne' hb0
      omega
    refine am_e_bipush (w := (-2)) (am_nxt_of (i := (14, 2, .bipush (-2), (0, 0, 0), 0)) (by decide +kernel)) (by decide) ?_
    refine am_e_istore_n (ls' := [(1, .int (-2)), (0, .ref 164)]) (am_nxt_of (i := (16, 1, .istore_n 1, (0, 0, 0), 0)) (by decide +kernel)) (by decide +kernel) rfl ?_
    refine am_e_iconst (w := 0) (am_nxt_of (i := (17, 1, .iconst 0, (0, 0, 0), 0)) (by decide +kernel)) rfl ?_
    refine am_e_istore_n (ls' := [(2, .int 0), (1, .int (-2)), (0, .ref 164)]) (am_nxt_of (i := (18, 1, .istore_n 2, (0, 0, 0), 0)) (by decide +kernel)) (by decide +kernel) rfl ?_
    refine am_e_aload_n (am_nxt_of (i := (19, 1, .aload_n 0, (0, 0, 0), 0)) (by decide +kernel)) (v := 164) rfl ?_
    refine am_e_getf (v := .int t) (am_nxt_of (i := (20, 3, .getfield 222, (12, 13, 1397), 0)) (by decide +kernel)) ac_o et ?_
    by_cases ht0 : (t : Int32) = 0
    · refine am_e_ifF (am_nxt_of (i := (23, 3, .ifCond .ne 7, (17, 0, 0), 0)) (by decide +kernel)) (am_c_neF ht0) ?_
      refine am_e_iconst (w := 1) (am_nxt_of (i := (26, 1, .iconst 1, (0, 0, 0), 0)) (by decide +kernel)) rfl ?_
      refine am_e_goto (am_cur_of (i := (27, 3, .goto 4, (18, 0, 0), 0)) (by decide +kernel)) (am_tgt_of (by decide +kernel)) ?_
      refine am_e_istore_n (ls' := [(3, .int 1), (2, .int 0), (1, .int (-2)), (0, .ref 164)]) (am_nxt_of (i := (31, 1, .istore_n 3, (0, 0, 0), 0)) (by decide +kernel)) (by decide +kernel) rfl ?_
      refine am_Ek_ls (ls' := [(0, .ref 164), (1, .int (-2)), (2, .int 0), (3, .int 1)]) ⟨rfl, rfl, rfl, rfl, trivial⟩ ?_
      exact ac_fa_l hX hS t1 eb b_1 et f1 4 1 _ _ _ (by decide) (by decide) (by decide) (fun e => absurd e (by decide)) I1 J1 ab_Fr_refl
    · refine am_e_ifT (am_nxt_of (i := (23, 3, .ifCond .ne 7, (17, 0, 0), 0)) (by decide +kernel)) (am_c_neT ht0) (am_tgt_of (by decide +kernel)) ?_
      refine am_e_iconst (w := 0) (am_nxt_of (i := (30, 1, .iconst 0, (0, 0, 0), 0)) (by decide +kernel)) rfl ?_
      refine am_e_istore_n (ls' := [(3, .int 0), (2, .int 0), (1, .int (-2)), (0, .ref 164)]) (am_nxt_of (i := (31, 1, .istore_n 3, (0, 0, 0), 0)) (by decide +kernel)) (by decide +kernel) rfl ?_
      refine am_Ek_ls (ls' := [(0, .ref 164), (1, .int (-2)), (2, .int 0), (3, .int 0)]) ⟨rfl, rfl, rfl, rfl, trivial⟩ ?_
      exact ac_fa_l hX hS t1 eb b_1 et f1 4 0 _ _ _ (by decide) (by decide) (by decide) (fun _ => by
        have := ac_ne' ht0
        omega) I1 J1 ab_Fr_refl
end ACM
