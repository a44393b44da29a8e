/-! ===== readJoin against signs, 23 (wip/r/gen99qu.py) ===== -/
theorem rj_c0_23 {T : Nat → Int32} {S x p : Int32} {n n' : Nat} {h h' g g' : am_H} {r r' : Option Value} (R : rq T S x p 23 h g) (A : rp 23 h g) (B : rp_t h g) (Z : rs 23 h g) (w0_z : rg_v g 164 45 = 0) (ka : (rg_v h 44 10) = 0) (kc : (rg_v g 164 8) = 0) (hc_z : rn n am_m44 0 (lv_args 0 [.ref 44]) [] h r h') (hm_z : rn n' am_m178 0 (lv_args 0 [.ref 164]) [] g r' g') : rj_Q T S x p 23 h g h' g' r r' := by
  have z0_z : (0 : Int32).toInt = 0 := by decide
  have g0_z : am_get (lv_args 0 [.ref 44]) 0 = some (.ref 44) := rfl
  have g0m : am_get (lv_args 0 [.ref 164]) 0 = some (.ref 164) := rfl
  have Rk := R
  have Zk := Z
  obtain ⟨⟨c1_z, c2_z, c3_z, c4_z, c5_z, c6_z, c7_z, c8_z⟩, ⟨m2_z, m3_z, m4_z, m5_z, m6_z, m7_z, m8_z⟩, R3, R4, R5, R6, R7, R8, R9, R10⟩ := (R : rq T S x p 23 h g)
  obtain ⟨np, op, z1_z, z2_z, z3_z, z4_z, z5_z, z6_z, z7_z, z8_z, z9_z, z10_z⟩ := (Z : rs 23 h g)
  obtain ⟨nk1_z, nk2_z, nk3_z⟩ := A.2.2.2.2.2.1
  replace nk1_z : rg_v h 32 0 = rg_v g 164 44 := nk1_z
  replace nk2_z : 0 ≤ (rg_v h 32 0).toInt := nk2_z
  replace nk3_z : (rg_v h 32 0).toInt ≤ 64 := nk3_z
  replace z8_z : np.toInt ≤ (rg_v h 32 0).toInt + op.toInt := z8_z
  obtain ⟨kn, ekn⟩ : ∃ v, rg_v h 32 0 = v := ⟨_, rfl⟩
  rw [ekn] at nk1_z nk2_z nk3_z z8_z
  have e9_z := rt_c1 (x := kn) (by omega) (by omega)
  replace hc_z := rn_aload_n (am_cur_of (i := (0, 1, .aload_n 0, (0, 0, 0), 0)) (by decide +kernel)) g0_z hc_z
  replace hc_z := rn_bipush (w := 41) (am_cur_of (i := (1, 2, .bipush 41, (0, 0, 0), 0)) (by decide +kernel)) (by decide) hc_z
  replace hc_z := rn_callV (M' := am_m45) (o := 44) (ar := [.int 41]) (rest := []) (L := lv_args 0 [.ref 44, .int 41]) (am_cur_of (i := (3, 3, .invokevirtual 105, (45, 834, 3), 0)) (by decide +kernel)) rfl rfl rfl rfl hc_z
  obtain ⟨r5594_z, h5595_z, q5596_z, hc_z⟩ := hc_z
  obtain ⟨rfl, yq5596_z⟩ := rp_mkN (fun q => absurd (Eq.trans (Eq.symm ka) q.1) (by decide)) q5596_z
  subst yq5596_z
  replace hc_z : rn _ _ _ _ [.int 0] _ _ _ := hc_z
  replace hc_z := rn_ifT (am_cur_of (i := (6, 3, .ifCond .eq 45, (28, 0, 0), 0)) (by decide +kernel)) (by decide) hc_z
  replace hc_z := rn_aload_n (am_cur_of (i := (51, 1, .aload_n 0, (0, 0, 0), 0)) (by decide +kernel)) g0_z hc_z
  replace hc_z := rn_getI (v := 0) (am_cur_of (i := (52, 3, .getfield 60, (4, 10, 419), 0)) (by decide +kernel)) (by decide +kernel) ka hc_z
  replace hc_z := rn_bipush (w := 6) (am_cur_of (i := (55, 2, .bipush 6, (0, 0, 0), 0)) (by decide +kernel)) (by decide) hc_z
  replace hc_z := rn_cmpT (am_cur_of (i := (57, 3, .if_icmp .ne 11, (36, 0, 0), 0)) (by decide +kernel)) (by decide) hc_z
  replace hc_z := rn_aload_n (am_cur_of (i := (68, 1, .aload_n 0, (0, 0, 0), 0)) (by decide +kernel)) g0_z hc_z
  replace hc_z := rn_getI (v := op) (am_cur_of (i := (69, 3, .getfield 254, (4, 14, 423), 0)) (by decide +kernel)) (by decide +kernel) z4_z hc_z
  replace hc_z := rn_if (am_cur_of (i := (72, 3, .ifCond .le 8, (42, 0, 0), 0)) (by decide +kernel)) hc_z
  rcases hc_z with ⟨b5597_z, hc_z⟩ | ⟨b5597_z, hc_z⟩
  · replace b5597_z : op.toInt ≤ (0 : Int32).toInt := b5597_z
    replace hc_z := rn_iconst (w := 3) (am_cur_of (i := (80, 1, .iconst 3, (0, 0, 0), 0)) (by decide +kernel)) (by decide) hc_z
    replace hc_z := rn_iret (am_cur_of (i := (81, 1, .ireturn, (0, 0, 0), 0)) (by decide +kernel)) hc_z
    obtain ⟨e5598_z, e5599_z⟩ := hc_z
    replace hm_z := rn_aload_n (am_cur_of (i := (0, 1, .aload_n 0, (0, 0, 0), 0)) (by decide +kernel)) g0m hm_z
    replace hm_z := rn_bipush (w := 41) (am_cur_of (i := (1, 2, .bipush 41, (0, 0, 0), 0)) (by decide +kernel)) (by decide) hm_z
    replace hm_z := rn_callV (M' := am_m171) (o := 164) (ar := [.int 41]) (rest := []) (L := lv_args 0 [.ref 164, .int 41]) (am_cur_of (i := (3, 3, .invokevirtual 194, (171, 1715, 3), 0)) (by decide +kernel)) rfl rfl rfl rfl hm_z
    obtain ⟨r5600_z, h5601_z, q5602_z, hm_z⟩ := hm_z
    obtain ⟨rfl, yq5602_z⟩ := rp_sgN (fun q => absurd (Eq.trans (Eq.symm kc) q.1) (by decide)) q5602_z
    subst yq5602_z
    replace hm_z : rn _ _ _ _ [.int 0] _ _ _ := hm_z
    replace hm_z := rn_ifT (am_cur_of (i := (6, 3, .ifCond .eq 41, (26, 0, 0), 0)) (by decide +kernel)) (by decide) hm_z
    replace hm_z := rn_aload_n (am_cur_of (i := (47, 1, .aload_n 0, (0, 0, 0), 0)) (by decide +kernel)) g0m hm_z
    replace hm_z := rn_bipush (w := 12) (am_cur_of (i := (48, 2, .bipush 12, (0, 0, 0), 0)) (by decide +kernel)) (by decide) hm_z
    replace hm_z := rn_callV (M' := am_m174) (o := 164) (ar := [.int 12]) (rest := []) (L := lv_args 0 [.ref 164, .int 12]) (am_cur_of (i := (50, 3, .invokevirtual 306, (174, 1727, 3), 0)) (by decide +kernel)) rfl rfl rfl rfl hm_z
    obtain ⟨r5603_z, h5604_z, q5605_z, hm_z⟩ := hm_z
    obtain ⟨rfl, yq5605_z⟩ := rp_kyN (fun q => absurd (Eq.trans (Eq.symm kc) q.1) (by decide)) q5605_z
    subst yq5605_z
    replace hm_z : rn _ _ _ _ [.int 0] _ _ _ := hm_z
    replace hm_z := rn_ifT (am_cur_of (i := (53, 3, .ifCond .eq 7, (32, 0, 0), 0)) (by decide +kernel)) (by decide) hm_z
    replace hm_z := rn_aload_n (am_cur_of (i := (60, 1, .aload_n 0, (0, 0, 0), 0)) (by decide +kernel)) g0m hm_z
    replace hm_z := rn_bipush (w := 13) (am_cur_of (i := (61, 2, .bipush 13, (0, 0, 0), 0)) (by decide +kernel)) (by decide) hm_z
    replace hm_z := rn_callV (M' := am_m174) (o := 164) (ar := [.int 13]) (rest := []) (L := lv_args 0 [.ref 164, .int 13]) (am_cur_of (i := (63, 3, .invokevirtual 306, (174, 1727, 3), 0)) (by decide +kernel)) rfl rfl rfl rfl hm_z
    obtain ⟨r5606_z, h5607_z, q5608_z, hm_z⟩ := hm_z
    obtain ⟨rfl, yq5608_z⟩ := rp_kyN (fun q => absurd (Eq.trans (Eq.symm kc) q.1) (by decide)) q5608_z
    subst yq5608_z
    replace hm_z : rn _ _ _ _ [.int 0] _ _ _ := hm_z
    replace hm_z := rn_ifT (am_cur_of (i := (66, 3, .ifCond .eq 7, (38, 0, 0), 0)) (by decide +kernel)) (by decide) hm_z
    replace hm_z := rn_aload_n (am_cur_of (i := (73, 1, .aload_n 0, (0, 0, 0), 0)) (by decide +kernel)) g0m hm_z
    replace hm_z := rn_getI (v := 0) (am_cur_of (i := (74, 3, .getfield 157, (12, 8, 1392), 0)) (by decide +kernel)) (by decide +kernel) kc hm_z
    replace hm_z := rn_iconst (w := 5) (am_cur_of (i := (77, 1, .iconst 5, (0, 0, 0), 0)) (by decide +kernel)) (by decide) hm_z
    replace hm_z := rn_cmpT (am_cur_of (i := (78, 3, .if_icmp .ne 12, (47, 0, 0), 0)) (by decide +kernel)) (by decide) hm_z
    replace hm_z := rn_aload_n (am_cur_of (i := (90, 1, .aload_n 0, (0, 0, 0), 0)) (by decide +kernel)) g0m hm_z
    replace hm_z := rn_bipush (w := 43) (am_cur_of (i := (91, 2, .bipush 43, (0, 0, 0), 0)) (by decide +kernel)) (by decide) hm_z
    replace hm_z := rn_callV (M' := am_m171) (o := 164) (ar := [.int 43]) (rest := []) (L := lv_args 0 [.ref 164, .int 43]) (am_cur_of (i := (93, 3, .invokevirtual 194, (171, 1715, 3), 0)) (by decide +kernel)) rfl rfl rfl rfl hm_z
    obtain ⟨r5609_z, h5610_z, q5611_z, hm_z⟩ := hm_z
    obtain ⟨rfl, yq5611_z⟩ := rp_sgN (fun q => absurd (Eq.trans (Eq.symm kc) q.1) (by decide)) q5611_z
    subst yq5611_z
    replace hm_z : rn _ _ _ _ [.int 0] _ _ _ := hm_z
    replace hm_z := rn_ifT (am_cur_of (i := (96, 3, .ifCond .eq 8, (53, 0, 0), 0)) (by decide +kernel)) (by decide) hm_z
    replace hm_z := rn_aload_n (am_cur_of (i := (104, 1, .aload_n 0, (0, 0, 0), 0)) (by decide +kernel)) g0m hm_z
    replace hm_z := rn_bipush (w := 45) (am_cur_of (i := (105, 2, .bipush 45, (0, 0, 0), 0)) (by decide +kernel)) (by decide) hm_z
    replace hm_z := rn_callV (M' := am_m171) (o := 164) (ar := [.int 45]) (rest := []) (L := lv_args 0 [.ref 164, .int 45]) (am_cur_of (i := (107, 3, .invokevirtual 194, (171, 1715, 3), 0)) (by decide +kernel)) rfl rfl rfl rfl hm_z
    obtain ⟨r5612_z, h5613_z, q5614_z, hm_z⟩ := hm_z
    obtain ⟨rfl, yq5614_z⟩ := rp_sgN (fun q => absurd (Eq.trans (Eq.symm kc) q.1) (by decide)) q5614_z
    subst yq5614_z
    replace hm_z : rn _ _ _ _ [.int 0] _ _ _ := hm_z
    replace hm_z := rn_ifT (am_cur_of (i := (110, 3, .ifCond .eq 8, (59, 0, 0), 0)) (by decide +kernel)) (by decide) hm_z
    replace hm_z := rn_aload_n (am_cur_of (i := (118, 1, .aload_n 0, (0, 0, 0), 0)) (by decide +kernel)) g0m hm_z
    replace hm_z := rn_bipush (w := 42) (am_cur_of (i := (119, 2, .bipush 42, (0, 0, 0), 0)) (by decide +kernel)) (by decide) hm_z
    replace hm_z := rn_callV (M' := am_m171) (o := 164) (ar := [.int 42]) (rest := []) (L := lv_args 0 [.ref 164, .int 42]) (am_cur_of (i := (121, 3, .invokevirtual 194, (171, 1715, 3), 0)) (by decide +kernel)) rfl rfl rfl rfl hm_z
    obtain ⟨r5615_z, h5616_z, q5617_z, hm_z⟩ := hm_z
    obtain ⟨rfl, yq5617_z⟩ := rp_sgN (fun q => absurd (Eq.trans (Eq.symm kc) q.1) (by decide)) q5617_z
    subst yq5617_z
    replace hm_z : rn _ _ _ _ [.int 0] _ _ _ := hm_z
    replace hm_z := rn_ifT (am_cur_of (i := (124, 3, .ifCond .eq 8, (65, 0, 0), 0)) (by decide +kernel)) (by decide) hm_z
    replace hm_z := rn_aload_n (am_cur_of (i := (132, 1, .aload_n 0, (0, 0, 0), 0)) (by decide +kernel)) g0m hm_z
    replace hm_z := rn_bipush (w := 47) (am_cur_of (i := (133, 2, .bipush 47, (0, 0, 0), 0)) (by decide +kernel)) (by decide) hm_z
    replace hm_z := rn_callV (M' := am_m171) (o := 164) (ar := [.int 47]) (rest := []) (L := lv_args 0 [.ref 164, .int 47]) (am_cur_of (i := (135, 3, .invokevirtual 194, (171, 1715, 3), 0)) (by decide +kernel)) rfl rfl rfl rfl hm_z
    obtain ⟨r5618_z, h5619_z, q5620_z, hm_z⟩ := hm_z
    obtain ⟨rfl, yq5620_z⟩ := rp_sgN (fun q => absurd (Eq.trans (Eq.symm kc) q.1) (by decide)) q5620_z
    subst yq5620_z
    replace hm_z : rn _ _ _ _ [.int 0] _ _ _ := hm_z
    replace hm_z := rn_ifT (am_cur_of (i := (138, 3, .ifCond .eq 8, (71, 0, 0), 0)) (by decide +kernel)) (by decide) hm_z
    replace hm_z := rn_iconst (w := 0) (am_cur_of (i := (146, 1, .iconst 0, (0, 0, 0), 0)) (by decide +kernel)) (by decide) hm_z
    replace hm_z := rn_istore_n (am_cur_of (i := (147, 1, .istore_n 1, (0, 0, 0), 0)) (by decide +kernel)) hm_z
    obtain ⟨_, s5621_z, s5622_z, g1m, hm_z⟩ := hm_z
    replace g0m := s5621_z 0 _ (by decide) rfl g0m
    clear s5621_z s5622_z
    replace hm_z := rn_iload_n (am_cur_of (i := (148, 1, .iload_n 1, (0, 0, 0), 0)) (by decide +kernel)) g1m hm_z
    replace hm_z := rn_ifF (am_cur_of (i := (149, 3, .ifCond .ne 9, (79, 0, 0), 0)) (by decide +kernel)) (by decide) hm_z
    replace hm_z := rn_aload_n (am_cur_of (i := (152, 1, .aload_n 0, (0, 0, 0), 0)) (by decide +kernel)) g0m hm_z
    replace hm_z := rn_iconst (w := 1) (am_cur_of (i := (153, 1, .iconst 1, (0, 0, 0), 0)) (by decide +kernel)) (by decide) hm_z
    replace hm_z := rn_callV (M' := am_m158) (o := 164) (ar := [.int 1]) (rest := []) (L := lv_args 0 [.ref 164, .int 1]) (am_cur_of (i := (154, 3, .invokevirtual 181, (158, 1665, 3), 0)) (by decide +kernel)) rfl rfl rfl rfl hm_z
    obtain ⟨r5623_z, h5624_z, q5625_z, hm_z⟩ := hm_z
    obtain ⟨rfl, yq5625_z⟩ := rp_wrong q5625_z
    subst yq5625_z
    replace hm_z : rn _ _ _ _ [.int 0] _ _ _ := hm_z
    replace hm_z := rn_iret (am_cur_of (i := (157, 1, .ireturn, (0, 0, 0), 0)) (by decide +kernel)) hm_z
    obtain ⟨e5626_z, e5627_z⟩ := hm_z
    subst e5599_z e5627_z
    exact Or.inr ⟨e5598_z, rfl, z4_z.trans (rt_i32 (by rw [show (0 : Int32).toInt = 0 by decide]; omega)), e5626_z, rfl⟩
  · replace b5597_z : (0 : Int32).toInt < op.toInt := b5597_z
    replace hc_z := rn_aload_n (am_cur_of (i := (75, 1, .aload_n 0, (0, 0, 0), 0)) (by decide +kernel)) g0_z hc_z
    replace hc_z := rn_iconst (w := 1) (am_cur_of (i := (76, 1, .iconst 1, (0, 0, 0), 0)) (by decide +kernel)) (by decide) hc_z
    replace hc_z := rn_callV (M' := am_m29) (o := 44) (ar := [.int 1]) (rest := []) (L := lv_args 0 [.ref 44, .int 1]) (am_cur_of (i := (77, 3, .invokevirtual 108, (29, 769, 3), 0)) (by decide +kernel)) rfl rfl rfl rfl hc_z
    obtain ⟨r5628_z, h5629_z, q5630_z, hc_z⟩ := hc_z
    obtain ⟨rfl, yq5630_z⟩ := rp_fail R4 q5630_z
    subst yq5630_z
    replace hc_z : rn _ _ _ _ [] _ _ _ := hc_z
    have K := rs_stick (w := 1) (q := p) (a := 44) (by decide) (by decide) rfl (by decide) rfl (show rg_v (am_up (am_up h 44 1 (.int 1)) 44 2 (.int (rg_v h 44 9))) 44 2 = p from R5) hc_z
    replace hm_z := rn_aload_n (am_cur_of (i := (0, 1, .aload_n 0, (0, 0, 0), 0)) (by decide +kernel)) g0m hm_z
    replace hm_z := rn_bipush (w := 41) (am_cur_of (i := (1, 2, .bipush 41, (0, 0, 0), 0)) (by decide +kernel)) (by decide) hm_z
    replace hm_z := rn_callV (M' := am_m171) (o := 164) (ar := [.int 41]) (rest := []) (L := lv_args 0 [.ref 164, .int 41]) (am_cur_of (i := (3, 3, .invokevirtual 194, (171, 1715, 3), 0)) (by decide +kernel)) rfl rfl rfl rfl hm_z
    obtain ⟨r5631_z, h5632_z, q5633_z, hm_z⟩ := hm_z
    obtain ⟨rfl, yq5633_z⟩ := rp_sgN (fun q => absurd (Eq.trans (Eq.symm kc) q.1) (by decide)) q5633_z
    subst yq5633_z
    replace hm_z : rn _ _ _ _ [.int 0] _ _ _ := hm_z
    replace hm_z := rn_ifT (am_cur_of (i := (6, 3, .ifCond .eq 41, (26, 0, 0), 0)) (by decide +kernel)) (by decide) hm_z
    replace hm_z := rn_aload_n (am_cur_of (i := (47, 1, .aload_n 0, (0, 0, 0), 0)) (by decide +kernel)) g0m hm_z
    replace hm_z := rn_bipush (w := 12) (am_cur_of (i := (48, 2, .bipush 12, (0, 0, 0), 0)) (by decide +kernel)) (by decide) hm_z
    replace hm_z := rn_callV (M' := am_m174) (o := 164) (ar := [.int 12]) (rest := []) (L := lv_args 0 [.ref 164, .int 12]) (am_cur_of (i := (50, 3, .invokevirtual 306, (174, 1727, 3), 0)) (by decide +kernel)) rfl rfl rfl rfl hm_z
    obtain ⟨r5634_z, h5635_z, q5636_z, hm_z⟩ := hm_z
    obtain ⟨rfl, yq5636_z⟩ := rp_kyN (fun q => absurd (Eq.trans (Eq.symm kc) q.1) (by decide)) q5636_z
    subst yq5636_z
    replace hm_z : rn _ _ _ _ [.int 0] _ _ _ := hm_z
    replace hm_z := rn_ifT (am_cur_of (i := (53, 3, .ifCond .eq 7, (32, 0, 0), 0)) (by decide +kernel)) (by decide) hm_z
    replace hm_z := rn_aload_n (am_cur_of (i := (60, 1, .aload_n 0, (0, 0, 0), 0)) (by decide +kernel)) g0m hm_z
    replace hm_z := rn_bipush (w := 13) (am_cur_of (i := (61, 2, .bipush 13, (0, 0, 0), 0)) (by decide +kernel)) (by decide) hm_z
    replace hm_z := rn_callV (M' := am_m174) (o := 164) (ar := [.int 13]) (rest := []) (L := lv_args 0 [.ref 164, .int 13]) (am_cur_of (i := (63, 3, .invokevirtual 306, (174, 1727, 3), 0)) (by decide +kernel)) rfl rfl rfl rfl hm_z
    obtain ⟨r5637_z, h5638_z, q5639_z, hm_z⟩ := hm_z
    obtain ⟨rfl, yq5639_z⟩ := rp_kyN (fun q => absurd (Eq.trans (Eq.symm kc) q.1) (by decide)) q5639_z
    subst yq5639_z
    replace hm_z : rn _ _ _ _ [.int 0] _ _ _ := hm_z
    replace hm_z := rn_ifT (am_cur_of (i := (66, 3, .ifCond .eq 7, (38, 0, 0), 0)) (by decide +kernel)) (by decide) hm_z
    replace hm_z := rn_aload_n (am_cur_of (i := (73, 1, .aload_n 0, (0, 0, 0), 0)) (by decide +kernel)) g0m hm_z
    replace hm_z := rn_getI (v := 0) (am_cur_of (i := (74, 3, .getfield 157, (12, 8, 1392), 0)) (by decide +kernel)) (by decide +kernel) kc hm_z
    replace hm_z := rn_iconst (w := 5) (am_cur_of (i := (77, 1, .iconst 5, (0, 0, 0), 0)) (by decide +kernel)) (by decide) hm_z
    replace hm_z := rn_cmpT (am_cur_of (i := (78, 3, .if_icmp .ne 12, (47, 0, 0), 0)) (by decide +kernel)) (by decide) hm_z
    replace hm_z := rn_aload_n (am_cur_of (i := (90, 1, .aload_n 0, (0, 0, 0), 0)) (by decide +kernel)) g0m hm_z
    replace hm_z := rn_bipush (w := 43) (am_cur_of (i := (91, 2, .bipush 43, (0, 0, 0), 0)) (by decide +kernel)) (by decide) hm_z
    replace hm_z := rn_callV (M' := am_m171) (o := 164) (ar := [.int 43]) (rest := []) (L := lv_args 0 [.ref 164, .int 43]) (am_cur_of (i := (93, 3, .invokevirtual 194, (171, 1715, 3), 0)) (by decide +kernel)) rfl rfl rfl rfl hm_z
    obtain ⟨r5640_z, h5641_z, q5642_z, hm_z⟩ := hm_z
    obtain ⟨rfl, yq5642_z⟩ := rp_sgN (fun q => absurd (Eq.trans (Eq.symm kc) q.1) (by decide)) q5642_z
    subst yq5642_z
    replace hm_z : rn _ _ _ _ [.int 0] _ _ _ := hm_z
    replace hm_z := rn_ifT (am_cur_of (i := (96, 3, .ifCond .eq 8, (53, 0, 0), 0)) (by decide +kernel)) (by decide) hm_z
    replace hm_z := rn_aload_n (am_cur_of (i := (104, 1, .aload_n 0, (0, 0, 0), 0)) (by decide +kernel)) g0m hm_z
    replace hm_z := rn_bipush (w := 45) (am_cur_of (i := (105, 2, .bipush 45, (0, 0, 0), 0)) (by decide +kernel)) (by decide) hm_z
    replace hm_z := rn_callV (M' := am_m171) (o := 164) (ar := [.int 45]) (rest := []) (L := lv_args 0 [.ref 164, .int 45]) (am_cur_of (i := (107, 3, .invokevirtual 194, (171, 1715, 3), 0)) (by decide +kernel)) rfl rfl rfl rfl hm_z
    obtain ⟨r5643_z, h5644_z, q5645_z, hm_z⟩ := hm_z
    obtain ⟨rfl, yq5645_z⟩ := rp_sgN (fun q => absurd (Eq.trans (Eq.symm kc) q.1) (by decide)) q5645_z
    subst yq5645_z
    replace hm_z : rn _ _ _ _ [.int 0] _ _ _ := hm_z
    replace hm_z := rn_ifT (am_cur_of (i := (110, 3, .ifCond .eq 8, (59, 0, 0), 0)) (by decide +kernel)) (by decide) hm_z
    replace hm_z := rn_aload_n (am_cur_of (i := (118, 1, .aload_n 0, (0, 0, 0), 0)) (by decide +kernel)) g0m hm_z
    replace hm_z := rn_bipush (w := 42) (am_cur_of (i := (119, 2, .bipush 42, (0, 0, 0), 0)) (by decide +kernel)) (by decide) hm_z
    replace hm_z := rn_callV (M' := am_m171) (o := 164) (ar := [.int 42]) (rest := []) (L := lv_args 0 [.ref 164, .int 42]) (am_cur_of (i := (121, 3, .invokevirtual 194, (171, 1715, 3), 0)) (by decide +kernel)) rfl rfl rfl rfl hm_z
    obtain ⟨r5646_z, h5647_z, q5648_z, hm_z⟩ := hm_z
    obtain ⟨rfl, yq5648_z⟩ := rp_sgN (fun q => absurd (Eq.trans (Eq.symm kc) q.1) (by decide)) q5648_z
    subst yq5648_z
    replace hm_z : rn _ _ _ _ [.int 0] _ _ _ := hm_z
    replace hm_z := rn_ifT (am_cur_of (i := (124, 3, .ifCond .eq 8, (65, 0, 0), 0)) (by decide +kernel)) (by decide) hm_z
    replace hm_z := rn_aload_n (am_cur_of (i := (132, 1, .aload_n 0, (0, 0, 0), 0)) (by decide +kernel)) g0m hm_z
    replace hm_z := rn_bipush (w := 47) (am_cur_of (i := (133, 2, .bipush 47, (0, 0, 0), 0)) (by decide +kernel)) (by decide) hm_z
    replace hm_z := rn_callV (M' := am_m171) (o := 164) (ar := [.int 47]) (rest := []) (L := lv_args 0 [.ref 164, .int 47]) (am_cur_of (i := (135, 3, .invokevirtual 194, (171, 1715, 3), 0)) (by decide +kernel)) rfl rfl rfl rfl hm_z
    obtain ⟨r5649_z, h5650_z, q5651_z, hm_z⟩ := hm_z
    obtain ⟨rfl, yq5651_z⟩ := rp_sgN (fun q => absurd (Eq.trans (Eq.symm kc) q.1) (by decide)) q5651_z
    subst yq5651_z
    replace hm_z : rn _ _ _ _ [.int 0] _ _ _ := hm_z
    replace hm_z := rn_ifT (am_cur_of (i := (138, 3, .ifCond .eq 8, (71, 0, 0), 0)) (by decide +kernel)) (by decide) hm_z
    replace hm_z := rn_iconst (w := 0) (am_cur_of (i := (146, 1, .iconst 0, (0, 0, 0), 0)) (by decide +kernel)) (by decide) hm_z
    replace hm_z := rn_istore_n (am_cur_of (i := (147, 1, .istore_n 1, (0, 0, 0), 0)) (by decide +kernel)) hm_z
    obtain ⟨_, s5652_z, s5653_z, g1m, hm_z⟩ := hm_z
    replace g0m := s5652_z 0 _ (by decide) rfl g0m
    clear s5652_z s5653_z
    replace hm_z := rn_iload_n (am_cur_of (i := (148, 1, .iload_n 1, (0, 0, 0), 0)) (by decide +kernel)) g1m hm_z
    replace hm_z := rn_ifF (am_cur_of (i := (149, 3, .ifCond .ne 9, (79, 0, 0), 0)) (by decide +kernel)) (by decide) hm_z
    replace hm_z := rn_aload_n (am_cur_of (i := (152, 1, .aload_n 0, (0, 0, 0), 0)) (by decide +kernel)) g0m hm_z
    replace hm_z := rn_iconst (w := 1) (am_cur_of (i := (153, 1, .iconst 1, (0, 0, 0), 0)) (by decide +kernel)) (by decide) hm_z
    replace hm_z := rn_callV (M' := am_m158) (o := 164) (ar := [.int 1]) (rest := []) (L := lv_args 0 [.ref 164, .int 1]) (am_cur_of (i := (154, 3, .invokevirtual 181, (158, 1665, 3), 0)) (by decide +kernel)) rfl rfl rfl rfl hm_z
    obtain ⟨r5654_z, h5655_z, q5656_z, hm_z⟩ := hm_z
    obtain ⟨rfl, yq5656_z⟩ := rp_wrong q5656_z
    subst yq5656_z
    replace hm_z : rn _ _ _ _ [.int 0] _ _ _ := hm_z
    replace hm_z := rn_iret (am_cur_of (i := (157, 1, .ireturn, (0, 0, 0), 0)) (by decide +kernel)) hm_z
    obtain ⟨e5657_z, e5658_z⟩ := hm_z
    subst e5657_z e5658_z
    exact Or.inl (Or.inr ⟨rfl, 1, by decide, K.1, K.2, rfl, R6⟩)
theorem rj_c1_23 {T : Nat → Int32} {S x p : Int32} {n n' : Nat} {h h' g g' : am_H} {r r' : Option Value} (R : rq T S x p 23 h g) (A : rp 23 h g) (B : rp_t h g) (Z : rs 23 h g) (w0_z : rg_v g 164 45 = 0) (ka : (rg_v h 44 10) = 1) (kc : (rg_v g 164 8) = 6) (hc_z : rn n am_m44 0 (lv_args 0 [.ref 44]) [] h r h') (hm_z : rn n' am_m178 0 (lv_args 0 [.ref 164]) [] g r' g') : rj_Q T S x p 23 h g h' g' r r' := by
  have z0_z : (0 : Int32).toInt = 0 := by decide
  have g0_z : am_get (lv_args 0 [.ref 44]) 0 = some (.ref 44) := rfl
  have g0m : am_get (lv_args 0 [.ref 164]) 0 = some (.ref 164) := rfl
  have Rk := R
  have Zk := Z
  obtain ⟨⟨c1_z, c2_z, c3_z, c4_z, c5_z, c6_z, c7_z, c8_z⟩, ⟨m2_z, m3_z, m4_z, m5_z, m6_z, m7_z, m8_z⟩, R3, R4, R5, R6, R7, R8, R9, R10⟩ := (R : rq T S x p 23 h g)
  obtain ⟨np, op, z1_z, z2_z, z3_z, z4_z, z5_z, z6_z, z7_z, z8_z, z9_z, z10_z⟩ := (Z : rs 23 h g)
  obtain ⟨nk1_z, nk2_z, nk3_z⟩ := A.2.2.2.2.2.1
  replace nk1_z : rg_v h 32 0 = rg_v g 164 44 := nk1_z
  replace nk2_z : 0 ≤ (rg_v h 32 0).toInt := nk2_z
  replace nk3_z : (rg_v h 32 0).toInt ≤ 64 := nk3_z
  replace z8_z : np.toInt ≤ (rg_v h 32 0).toInt + op.toInt := z8_z
  obtain ⟨kn, ekn⟩ : ∃ v, rg_v h 32 0 = v := ⟨_, rfl⟩
  rw [ekn] at nk1_z nk2_z nk3_z z8_z
  have e9_z := rt_c1 (x := kn) (by omega) (by omega)
  replace hc_z := rn_aload_n (am_cur_of (i := (0, 1, .aload_n 0, (0, 0, 0), 0)) (by decide +kernel)) g0_z hc_z
  replace hc_z := rn_bipush (w := 41) (am_cur_of (i := (1, 2, .bipush 41, (0, 0, 0), 0)) (by decide +kernel)) (by decide) hc_z
  replace hc_z := rn_callV (M' := am_m45) (o := 44) (ar := [.int 41]) (rest := []) (L := lv_args 0 [.ref 44, .int 41]) (am_cur_of (i := (3, 3, .invokevirtual 105, (45, 834, 3), 0)) (by decide +kernel)) rfl rfl rfl rfl hc_z
  obtain ⟨r5659_z, h5660_z, q5661_z, hc_z⟩ := hc_z
  obtain ⟨rfl, yq5661_z⟩ := rp_mkN (fun q => absurd (Eq.trans (Eq.symm ka) q.1) (by decide)) q5661_z
  subst yq5661_z
  replace hc_z : rn _ _ _ _ [.int 0] _ _ _ := hc_z
  replace hc_z := rn_ifT (am_cur_of (i := (6, 3, .ifCond .eq 45, (28, 0, 0), 0)) (by decide +kernel)) (by decide) hc_z
  replace hc_z := rn_aload_n (am_cur_of (i := (51, 1, .aload_n 0, (0, 0, 0), 0)) (by decide +kernel)) g0_z hc_z
  replace hc_z := rn_getI (v := 1) (am_cur_of (i := (52, 3, .getfield 60, (4, 10, 419), 0)) (by decide +kernel)) (by decide +kernel) ka hc_z
  replace hc_z := rn_bipush (w := 6) (am_cur_of (i := (55, 2, .bipush 6, (0, 0, 0), 0)) (by decide +kernel)) (by decide) hc_z
  replace hc_z := rn_cmpT (am_cur_of (i := (57, 3, .if_icmp .ne 11, (36, 0, 0), 0)) (by decide +kernel)) (by decide) hc_z
  replace hc_z := rn_aload_n (am_cur_of (i := (68, 1, .aload_n 0, (0, 0, 0), 0)) (by decide +kernel)) g0_z hc_z
  replace hc_z := rn_getI (v := op) (am_cur_of (i := (69, 3, .getfield 254, (4, 14, 423), 0)) (by decide +kernel)) (by decide +kernel) z4_z hc_z
  replace hc_z := rn_if (am_cur_of (i := (72, 3, .ifCond .le 8, (42, 0, 0), 0)) (by decide +kernel)) hc_z
  rcases hc_z with ⟨b5662_z, hc_z⟩ | ⟨b5662_z, hc_z⟩
  · replace b5662_z : op.toInt ≤ (0 : Int32).toInt := b5662_z
    replace hc_z := rn_iconst (w := 3) (am_cur_of (i := (80, 1, .iconst 3, (0, 0, 0), 0)) (by decide +kernel)) (by decide) hc_z
    replace hc_z := rn_iret (am_cur_of (i := (81, 1, .ireturn, (0, 0, 0), 0)) (by decide +kernel)) hc_z
    obtain ⟨e5663_z, e5664_z⟩ := hc_z
    replace hm_z := rn_aload_n (am_cur_of (i := (0, 1, .aload_n 0, (0, 0, 0), 0)) (by decide +kernel)) g0m hm_z
    replace hm_z := rn_bipush (w := 41) (am_cur_of (i := (1, 2, .bipush 41, (0, 0, 0), 0)) (by decide +kernel)) (by decide) hm_z
    replace hm_z := rn_callV (M' := am_m171) (o := 164) (ar := [.int 41]) (rest := []) (L := lv_args 0 [.ref 164, .int 41]) (am_cur_of (i := (3, 3, .invokevirtual 194, (171, 1715, 3), 0)) (by decide +kernel)) rfl rfl rfl rfl hm_z
    obtain ⟨r5665_z, h5666_z, q5667_z, hm_z⟩ := hm_z
    obtain ⟨rfl, yq5667_z⟩ := rp_sgN (fun q => absurd (Eq.trans (Eq.symm kc) q.1) (by decide)) q5667_z
    subst yq5667_z
    replace hm_z : rn _ _ _ _ [.int 0] _ _ _ := hm_z
    replace hm_z := rn_ifT (am_cur_of (i := (6, 3, .ifCond .eq 41, (26, 0, 0), 0)) (by decide +kernel)) (by decide) hm_z
    replace hm_z := rn_aload_n (am_cur_of (i := (47, 1, .aload_n 0, (0, 0, 0), 0)) (by decide +kernel)) g0m hm_z
    replace hm_z := rn_bipush (w := 12) (am_cur_of (i := (48, 2, .bipush 12, (0, 0, 0), 0)) (by decide +kernel)) (by decide) hm_z
    replace hm_z := rn_callV (M' := am_m174) (o := 164) (ar := [.int 12]) (rest := []) (L := lv_args 0 [.ref 164, .int 12]) (am_cur_of (i := (50, 3, .invokevirtual 306, (174, 1727, 3), 0)) (by decide +kernel)) rfl rfl rfl rfl hm_z
    obtain ⟨r5668_z, h5669_z, q5670_z, hm_z⟩ := hm_z
    obtain ⟨rfl, yq5670_z⟩ := rp_kyN (fun q => absurd (Eq.trans (Eq.symm kc) q.1) (by decide)) q5670_z
    subst yq5670_z
    replace hm_z : rn _ _ _ _ [.int 0] _ _ _ := hm_z
    replace hm_z := rn_ifT (am_cur_of (i := (53, 3, .ifCond .eq 7, (32, 0, 0), 0)) (by decide +kernel)) (by decide) hm_z
    replace hm_z := rn_aload_n (am_cur_of (i := (60, 1, .aload_n 0, (0, 0, 0), 0)) (by decide +kernel)) g0m hm_z
    replace hm_z := rn_bipush (w := 13) (am_cur_of (i := (61, 2, .bipush 13, (0, 0, 0), 0)) (by decide +kernel)) (by decide) hm_z
    replace hm_z := rn_callV (M' := am_m174) (o := 164) (ar := [.int 13]) (rest := []) (L := lv_args 0 [.ref 164, .int 13]) (am_cur_of (i := (63, 3, .invokevirtual 306, (174, 1727, 3), 0)) (by decide +kernel)) rfl rfl rfl rfl hm_z
    obtain ⟨r5671_z, h5672_z, q5673_z, hm_z⟩ := hm_z
    obtain ⟨rfl, yq5673_z⟩ := rp_kyN (fun q => absurd (Eq.trans (Eq.symm kc) q.1) (by decide)) q5673_z
    subst yq5673_z
    replace hm_z : rn _ _ _ _ [.int 0] _ _ _ := hm_z
    replace hm_z := rn_ifT (am_cur_of (i := (66, 3, .ifCond .eq 7, (38, 0, 0), 0)) (by decide +kernel)) (by decide) hm_z
    replace hm_z := rn_aload_n (am_cur_of (i := (73, 1, .aload_n 0, (0, 0, 0), 0)) (by decide +kernel)) g0m hm_z
    replace hm_z := rn_getI (v := 6) (am_cur_of (i := (74, 3, .getfield 157, (12, 8, 1392), 0)) (by decide +kernel)) (by decide +kernel) kc hm_z
    replace hm_z := rn_iconst (w := 5) (am_cur_of (i := (77, 1, .iconst 5, (0, 0, 0), 0)) (by decide +kernel)) (by decide) hm_z
    replace hm_z := rn_cmpT (am_cur_of (i := (78, 3, .if_icmp .ne 12, (47, 0, 0), 0)) (by decide +kernel)) (by decide) hm_z
    replace hm_z := rn_aload_n (am_cur_of (i := (90, 1, .aload_n 0, (0, 0, 0), 0)) (by decide +kernel)) g0m hm_z
    replace hm_z := rn_bipush (w := 43) (am_cur_of (i := (91, 2, .bipush 43, (0, 0, 0), 0)) (by decide +kernel)) (by decide) hm_z
    replace hm_z := rn_callV (M' := am_m171) (o := 164) (ar := [.int 43]) (rest := []) (L := lv_args 0 [.ref 164, .int 43]) (am_cur_of (i := (93, 3, .invokevirtual 194, (171, 1715, 3), 0)) (by decide +kernel)) rfl rfl rfl rfl hm_z
    obtain ⟨r5674_z, h5675_z, q5676_z, hm_z⟩ := hm_z
    obtain ⟨rfl, yq5676_z⟩ := rp_sgN (fun q => absurd (Eq.trans (Eq.symm kc) q.1) (by decide)) q5676_z
    subst yq5676_z
    replace hm_z : rn _ _ _ _ [.int 0] _ _ _ := hm_z
    replace hm_z := rn_ifT (am_cur_of (i := (96, 3, .ifCond .eq 8, (53, 0, 0), 0)) (by decide +kernel)) (by decide) hm_z
    replace hm_z := rn_aload_n (am_cur_of (i := (104, 1, .aload_n 0, (0, 0, 0), 0)) (by decide +kernel)) g0m hm_z
    replace hm_z := rn_bipush (w := 45) (am_cur_of (i := (105, 2, .bipush 45, (0, 0, 0), 0)) (by decide +kernel)) (by decide) hm_z
    replace hm_z := rn_callV (M' := am_m171) (o := 164) (ar := [.int 45]) (rest := []) (L := lv_args 0 [.ref 164, .int 45]) (am_cur_of (i := (107, 3, .invokevirtual 194, (171, 1715, 3), 0)) (by decide +kernel)) rfl rfl rfl rfl hm_z
    obtain ⟨r5677_z, h5678_z, q5679_z, hm_z⟩ := hm_z
    obtain ⟨rfl, yq5679_z⟩ := rp_sgN (fun q => absurd (Eq.trans (Eq.symm kc) q.1) (by decide)) q5679_z
    subst yq5679_z
    replace hm_z : rn _ _ _ _ [.int 0] _ _ _ := hm_z
    replace hm_z := rn_ifT (am_cur_of (i := (110, 3, .ifCond .eq 8, (59, 0, 0), 0)) (by decide +kernel)) (by decide) hm_z
    replace hm_z := rn_aload_n (am_cur_of (i := (118, 1, .aload_n 0, (0, 0, 0), 0)) (by decide +kernel)) g0m hm_z
    replace hm_z := rn_bipush (w := 42) (am_cur_of (i := (119, 2, .bipush 42, (0, 0, 0), 0)) (by decide +kernel)) (by decide) hm_z
    replace hm_z := rn_callV (M' := am_m171) (o := 164) (ar := [.int 42]) (rest := []) (L := lv_args 0 [.ref 164, .int 42]) (am_cur_of (i := (121, 3, .invokevirtual 194, (171, 1715, 3), 0)) (by decide +kernel)) rfl rfl rfl rfl hm_z
    obtain ⟨r5680_z, h5681_z, q5682_z, hm_z⟩ := hm_z
    obtain ⟨rfl, yq5682_z⟩ := rp_sgN (fun q => absurd (Eq.trans (Eq.symm kc) q.1) (by decide)) q5682_z
    subst yq5682_z
    replace hm_z : rn _ _ _ _ [.int 0] _ _ _ := hm_z
    replace hm_z := rn_ifT (am_cur_of (i := (124, 3, .ifCond .eq 8, (65, 0, 0), 0)) (by decide +kernel)) (by decide) hm_z
    replace hm_z := rn_aload_n (am_cur_of (i := (132, 1, .aload_n 0, (0, 0, 0), 0)) (by decide +kernel)) g0m hm_z
    replace hm_z := rn_bipush (w := 47) (am_cur_of (i := (133, 2, .bipush 47, (0, 0, 0), 0)) (by decide +kernel)) (by decide) hm_z
    replace hm_z := rn_callV (M' := am_m171) (o := 164) (ar := [.int 47]) (rest := []) (L := lv_args 0 [.ref 164, .int 47]) (am_cur_of (i := (135, 3, .invokevirtual 194, (171, 1715, 3), 0)) (by decide +kernel)) rfl rfl rfl rfl hm_z
    obtain ⟨r5683_z, h5684_z, q5685_z, hm_z⟩ := hm_z
    obtain ⟨rfl, yq5685_z⟩ := rp_sgN (fun q => absurd (Eq.trans (Eq.symm kc) q.1) (by decide)) q5685_z
    subst yq5685_z
    replace hm_z : rn _ _ _ _ [.int 0] _ _ _ := hm_z
    replace hm_z := rn_ifT (am_cur_of (i := (138, 3, .ifCond .eq 8, (71, 0, 0), 0)) (by decide +kernel)) (by decide) hm_z
    replace hm_z := rn_iconst (w := 0) (am_cur_of (i := (146, 1, .iconst 0, (0, 0, 0), 0)) (by decide +kernel)) (by decide) hm_z
    replace hm_z := rn_istore_n (am_cur_of (i := (147, 1, .istore_n 1, (0, 0, 0), 0)) (by decide +kernel)) hm_z
    obtain ⟨_, s5686_z, s5687_z, g1m, hm_z⟩ := hm_z
    replace g0m := s5686_z 0 _ (by decide) rfl g0m
    clear s5686_z s5687_z
    replace hm_z := rn_iload_n (am_cur_of (i := (148, 1, .iload_n 1, (0, 0, 0), 0)) (by decide +kernel)) g1m hm_z
    replace hm_z := rn_ifF (am_cur_of (i := (149, 3, .ifCond .ne 9, (79, 0, 0), 0)) (by decide +kernel)) (by decide) hm_z
    replace hm_z := rn_aload_n (am_cur_of (i := (152, 1, .aload_n 0, (0, 0, 0), 0)) (by decide +kernel)) g0m hm_z
    replace hm_z := rn_iconst (w := 1) (am_cur_of (i := (153, 1, .iconst 1, (0, 0, 0), 0)) (by decide +kernel)) (by decide) hm_z
    replace hm_z := rn_callV (M' := am_m158) (o := 164) (ar := [.int 1]) (rest := []) (L := lv_args 0 [.ref 164, .int 1]) (am_cur_of (i := (154, 3, .invokevirtual 181, (158, 1665, 3), 0)) (by decide +kernel)) rfl rfl rfl rfl hm_z
    obtain ⟨r5688_z, h5689_z, q5690_z, hm_z⟩ := hm_z
    obtain ⟨rfl, yq5690_z⟩ := rp_wrong q5690_z
    subst yq5690_z
    replace hm_z : rn _ _ _ _ [.int 0] _ _ _ := hm_z
    replace hm_z := rn_iret (am_cur_of (i := (157, 1, .ireturn, (0, 0, 0), 0)) (by decide +kernel)) hm_z
    obtain ⟨e5691_z, e5692_z⟩ := hm_z
    subst e5664_z e5692_z
    exact Or.inr ⟨e5663_z, rfl, z4_z.trans (rt_i32 (by rw [show (0 : Int32).toInt = 0 by decide]; omega)), e5691_z, rfl⟩
  · replace b5662_z : (0 : Int32).toInt < op.toInt := b5662_z
    replace hc_z := rn_aload_n (am_cur_of (i := (75, 1, .aload_n 0, (0, 0, 0), 0)) (by decide +kernel)) g0_z hc_z
    replace hc_z := rn_iconst (w := 1) (am_cur_of (i := (76, 1, .iconst 1, (0, 0, 0), 0)) (by decide +kernel)) (by decide) hc_z
    replace hc_z := rn_callV (M' := am_m29) (o := 44) (ar := [.int 1]) (rest := []) (L := lv_args 0 [.ref 44, .int 1]) (am_cur_of (i := (77, 3, .invokevirtual 108, (29, 769, 3), 0)) (by decide +kernel)) rfl rfl rfl rfl hc_z
    obtain ⟨r5693_z, h5694_z, q5695_z, hc_z⟩ := hc_z
    obtain ⟨rfl, yq5695_z⟩ := rp_fail R4 q5695_z
    subst yq5695_z
    replace hc_z : rn _ _ _ _ [] _ _ _ := hc_z
    have K := rs_stick (w := 1) (q := p) (a := 44) (by decide) (by decide) rfl (by decide) rfl (show rg_v (am_up (am_up h 44 1 (.int 1)) 44 2 (.int (rg_v h 44 9))) 44 2 = p from R5) hc_z
    replace hm_z := rn_aload_n (am_cur_of (i := (0, 1, .aload_n 0, (0, 0, 0), 0)) (by decide +kernel)) g0m hm_z
    replace hm_z := rn_bipush (w := 41) (am_cur_of (i := (1, 2, .bipush 41, (0, 0, 0), 0)) (by decide +kernel)) (by decide) hm_z
    replace hm_z := rn_callV (M' := am_m171) (o := 164) (ar := [.int 41]) (rest := []) (L := lv_args 0 [.ref 164, .int 41]) (am_cur_of (i := (3, 3, .invokevirtual 194, (171, 1715, 3), 0)) (by decide +kernel)) rfl rfl rfl rfl hm_z
    obtain ⟨r5696_z, h5697_z, q5698_z, hm_z⟩ := hm_z
    obtain ⟨rfl, yq5698_z⟩ := rp_sgN (fun q => absurd (Eq.trans (Eq.symm kc) q.1) (by decide)) q5698_z
    subst yq5698_z
    replace hm_z : rn _ _ _ _ [.int 0] _ _ _ := hm_z
    replace hm_z := rn_ifT (am_cur_of (i := (6, 3, .ifCond .eq 41, (26, 0, 0), 0)) (by decide +kernel)) (by decide) hm_z
    replace hm_z := rn_aload_n (am_cur_of (i := (47, 1, .aload_n 0, (0, 0, 0), 0)) (by decide +kernel)) g0m hm_z
    replace hm_z := rn_bipush (w := 12) (am_cur_of (i := (48, 2, .bipush 12, (0, 0, 0), 0)) (by decide +kernel)) (by decide) hm_z
    replace hm_z := rn_callV (M' := am_m174) (o := 164) (ar := [.int 12]) (rest := []) (L := lv_args 0 [.ref 164, .int 12]) (am_cur_of (i := (50, 3, .invokevirtual 306, (174, 1727, 3), 0)) (by decide +kernel)) rfl rfl rfl rfl hm_z
    obtain ⟨r5699_z, h5700_z, q5701_z, hm_z⟩ := hm_z
    obtain ⟨rfl, yq5701_z⟩ := rp_kyN (fun q => absurd (Eq.trans (Eq.symm kc) q.1) (by decide)) q5701_z
    subst yq5701_z
    replace hm_z : rn _ _ _ _ [.int 0] _ _ _ := hm_z
    replace hm_z := rn_ifT (am_cur_of (i := (53, 3, .ifCond .eq 7, (32, 0, 0), 0)) (by decide +kernel)) (by decide) hm_z
    replace hm_z := rn_aload_n (am_cur_of (i := (60, 1, .aload_n 0, (0, 0, 0), 0)) (by decide +kernel)) g0m hm_z
    replace hm_z := rn_bipush (w := 13) (am_cur_of (i := (61, 2, .bipush 13, (0, 0, 0), 0)) (by decide +kernel)) (by decide) hm_z
    replace hm_z := rn_callV (M' := am_m174) (o := 164) (ar := [.int 13]) (rest := []) (L := lv_args 0 [.ref 164, .int 13]) (am_cur_of (i := (63, 3, .invokevirtual 306, (174, 1727, 3), 0)) (by decide +kernel)) rfl rfl rfl rfl hm_z
    obtain ⟨r5702_z, h5703_z, q5704_z, hm_z⟩ := hm_z
    obtain ⟨rfl, yq5704_z⟩ := rp_kyN (fun q => absurd (Eq.trans (Eq.symm kc) q.1) (by decide)) q5704_z
    subst yq5704_z
    replace hm_z : rn _ _ _ _ [.int 0] _ _ _ := hm_z
    replace hm_z := rn_ifT (am_cur_of (i := (66, 3, .ifCond .eq 7, (38, 0, 0), 0)) (by decide +kernel)) (by decide) hm_z
    replace hm_z := rn_aload_n (am_cur_of (i := (73, 1, .aload_n 0, (0, 0, 0), 0)) (by decide +kernel)) g0m hm_z
    replace hm_z := rn_getI (v := 6) (am_cur_of (i := (74, 3, .getfield 157, (12, 8, 1392), 0)) (by decide +kernel)) (by decide +kernel) kc hm_z
    replace hm_z := rn_iconst (w := 5) (am_cur_of (i := (77, 1, .iconst 5, (0, 0, 0), 0)) (by decide +kernel)) (by decide) hm_z
    replace hm_z := rn_cmpT (am_cur_of (i := (78, 3, .if_icmp .ne 12, (47, 0, 0), 0)) (by decide +kernel)) (by decide) hm_z
    replace hm_z := rn_aload_n (am_cur_of (i := (90, 1, .aload_n 0, (0, 0, 0), 0)) (by decide +kernel)) g0m hm_z
    replace hm_z := rn_bipush (w := 43) (am_cur_of (i := (91, 2, .bipush 43, (0, 0, 0), 0)) (by decide +kernel)) (by decide) hm_z
    replace hm_z := rn_callV (M' := am_m171) (o := 164) (ar := [.int 43]) (rest := []) (L := lv_args 0 [.ref 164, .int 43]) (am_cur_of (i := (93, 3, .invokevirtual 194, (171, 1715, 3), 0)) (by decide +kernel)) rfl rfl rfl rfl hm_z
    obtain ⟨r5705_z, h5706_z, q5707_z, hm_z⟩ := hm_z
    obtain ⟨rfl, yq5707_z⟩ := rp_sgN (fun q => absurd (Eq.trans (Eq.symm kc) q.1) (by decide)) q5707_z
    subst yq5707_z
    replace hm_z : rn _ _ _ _ [.int 0] _ _ _ := hm_z
    replace hm_z := rn_ifT (am_cur_of (i := (96, 3, .ifCond .eq 8, (53, 0, 0), 0)) (by decide +kernel)) (by decide) hm_z
    replace hm_z := rn_aload_n (am_cur_of (i := (104, 1, .aload_n 0, (0, 0, 0), 0)) (by decide +kernel)) g0m hm_z
    replace hm_z := rn_bipush (w := 45) (am_cur_of (i := (105, 2, .bipush 45, (0, 0, 0), 0)) (by decide +kernel)) (by decide) hm_z
    replace hm_z := rn_callV (M' := am_m171) (o := 164) (ar := [.int 45]) (rest := []) (L := lv_args 0 [.ref 164, .int 45]) (am_cur_of (i := (107, 3, .invokevirtual 194, (171, 1715, 3), 0)) (by decide +kernel)) rfl rfl rfl rfl hm_z
    obtain ⟨r5708_z, h5709_z, q5710_z, hm_z⟩ := hm_z
    obtain ⟨rfl, yq5710_z⟩ := rp_sgN (fun q => absurd (Eq.trans (Eq.symm kc) q.1) (by decide)) q5710_z
    subst yq5710_z
    replace hm_z : rn _ _ _ _ [.int 0] _ _ _ := hm_z
    replace hm_z := rn_ifT (am_cur_of (i := (110, 3, .ifCond .eq 8, (59, 0, 0), 0)) (by decide +kernel)) (by decide) hm_z
    replace hm_z := rn_aload_n (am_cur_of (i := (118, 1, .aload_n 0, (0, 0, 0), 0)) (by decide +kernel)) g0m hm_z
    replace hm_z := rn_bipush (w := 42) (am_cur_of (i := (119, 2, .bipush 42, (0, 0, 0), 0)) (by decide +kernel)) (by decide) hm_z
    replace hm_z := rn_callV (M' := am_m171) (o := 164) (ar := [.int 42]) (rest := []) (L := lv_args 0 [.ref 164, .int 42]) (am_cur_of (i := (121, 3, .invokevirtual 194, (171, 1715, 3), 0)) (by decide +kernel)) rfl rfl rfl rfl hm_z
    obtain ⟨r5711_z, h5712_z, q5713_z, hm_z⟩ := hm_z
    obtain ⟨rfl, yq5713_z⟩ := rp_sgN (fun q => absurd (Eq.trans (Eq.symm kc) q.1) (by decide)) q5713_z
    subst yq5713_z
    replace hm_z : rn _ _ _ _ [.int 0] _ _ _ := hm_z
    replace hm_z := rn_ifT (am_cur_of (i := (124, 3, .ifCond .eq 8, (65, 0, 0), 0)) (by decide +kernel)) (by decide) hm_z
    replace hm_z := rn_aload_n (am_cur_of (i := (132, 1, .aload_n 0, (0, 0, 0), 0)) (by decide +kernel)) g0m hm_z
    replace hm_z := rn_bipush (w := 47) (am_cur_of (i := (133, 2, .bipush 47, (0, 0, 0), 0)) (by decide +kernel)) (by decide) hm_z
    replace hm_z := rn_callV (M' := am_m171) (o := 164) (ar := [.int 47]) (rest := []) (L := lv_args 0 [.ref 164, .int 47]) (am_cur_of (i := (135, 3, .invokevirtual 194, (171, 1715, 3), 0)) (by decide +kernel)) rfl rfl rfl rfl hm_z
    obtain ⟨r5714_z, h5715_z, q5716_z, hm_z⟩ := hm_z
    obtain ⟨rfl, yq5716_z⟩ := rp_sgN (fun q => absurd (Eq.trans (Eq.symm kc) q.1) (by decide)) q5716_z
    subst yq5716_z
    replace hm_z : rn _ _ _ _ [.int 0] _ _ _ := hm_z
    replace hm_z := rn_ifT (am_cur_of (i := (138, 3, .ifCond .eq 8, (71, 0, 0), 0)) (by decide +kernel)) (by decide) hm_z
    replace hm_z := rn_iconst (w := 0) (am_cur_of (i := (146, 1, .iconst 0, (0, 0, 0), 0)) (by decide +kernel)) (by decide) hm_z
    replace hm_z := rn_istore_n (am_cur_of (i := (147, 1, .istore_n 1, (0, 0, 0), 0)) (by decide +kernel)) hm_z
    obtain ⟨_, s5717_z, s5718_z, g1m, hm_z⟩ := hm_z
    replace g0m := s5717_z 0 _ (by decide) rfl g0m
    clear s5717_z s5718_z
    replace hm_z := rn_iload_n (am_cur_of (i := (148, 1, .iload_n 1, (0, 0, 0), 0)) (by decide +kernel)) g1m hm_z
    replace hm_z := rn_ifF (am_cur_of (i := (149, 3, .ifCond .ne 9, (79, 0, 0), 0)) (by decide +kernel)) (by decide) hm_z
    replace hm_z := rn_aload_n (am_cur_of (i := (152, 1, .aload_n 0, (0, 0, 0), 0)) (by decide +kernel)) g0m hm_z
    replace hm_z := rn_iconst (w := 1) (am_cur_of (i := (153, 1, .iconst 1, (0, 0, 0), 0)) (by decide +kernel)) (by decide) hm_z
    replace hm_z := rn_callV (M' := am_m158) (o := 164) (ar := [.int 1]) (rest := []) (L := lv_args 0 [.ref 164, .int 1]) (am_cur_of (i := (154, 3, .invokevirtual 181, (158, 1665, 3), 0)) (by decide +kernel)) rfl rfl rfl rfl hm_z
    obtain ⟨r5719_z, h5720_z, q5721_z, hm_z⟩ := hm_z
    obtain ⟨rfl, yq5721_z⟩ := rp_wrong q5721_z
    subst yq5721_z
    replace hm_z : rn _ _ _ _ [.int 0] _ _ _ := hm_z
    replace hm_z := rn_iret (am_cur_of (i := (157, 1, .ireturn, (0, 0, 0), 0)) (by decide +kernel)) hm_z
    obtain ⟨e5722_z, e5723_z⟩ := hm_z
    subst e5722_z e5723_z
    exact Or.inl (Or.inr ⟨rfl, 1, by decide, K.1, K.2, rfl, R6⟩)
theorem rj_c2_23 {T : Nat → Int32} {S x p : Int32} {n n' : Nat} {h h' g g' : am_H} {r r' : Option Value} (R : rq T S x p 23 h g) (A : rp 23 h g) (B : rp_t h g) (Z : rs 23 h g) (w0_z : rg_v g 164 45 = 0) (ka : (rg_v h 44 10) = 1) (kc : (rg_v g 164 8) = 4) (kd : (rg_v g 164 9) = 37) (hc_z : rn n am_m44 0 (lv_args 0 [.ref 44]) [] h r h') (hm_z : rn n' am_m178 0 (lv_args 0 [.ref 164]) [] g r' g') : rj_Q T S x p 23 h g h' g' r r' := by
  have z0_z : (0 : Int32).toInt = 0 := by decide
  have g0_z : am_get (lv_args 0 [.ref 44]) 0 = some (.ref 44) := rfl
  have g0m : am_get (lv_args 0 [.ref 164]) 0 = some (.ref 164) := rfl
  have Rk := R
  have Zk := Z
  obtain ⟨⟨c1_z, c2_z, c3_z, c4_z, c5_z, c6_z, c7_z, c8_z⟩, ⟨m2_z, m3_z, m4_z, m5_z, m6_z, m7_z, m8_z⟩, R3, R4, R5, R6, R7, R8, R9, R10⟩ := (R : rq T S x p 23 h g)
  obtain ⟨np, op, z1_z, z2_z, z3_z, z4_z, z5_z, z6_z, z7_z, z8_z, z9_z, z10_z⟩ := (Z : rs 23 h g)
  obtain ⟨nk1_z, nk2_z, nk3_z⟩ := A.2.2.2.2.2.1
  replace nk1_z : rg_v h 32 0 = rg_v g 164 44 := nk1_z
  replace nk2_z : 0 ≤ (rg_v h 32 0).toInt := nk2_z
  replace nk3_z : (rg_v h 32 0).toInt ≤ 64 := nk3_z
  replace z8_z : np.toInt ≤ (rg_v h 32 0).toInt + op.toInt := z8_z
  obtain ⟨kn, ekn⟩ : ∃ v, rg_v h 32 0 = v := ⟨_, rfl⟩
  rw [ekn] at nk1_z nk2_z nk3_z z8_z
  have e9_z := rt_c1 (x := kn) (by omega) (by omega)
  replace hc_z := rn_aload_n (am_cur_of (i := (0, 1, .aload_n 0, (0, 0, 0), 0)) (by decide +kernel)) g0_z hc_z
  replace hc_z := rn_bipush (w := 41) (am_cur_of (i := (1, 2, .bipush 41, (0, 0, 0), 0)) (by decide +kernel)) (by decide) hc_z
  replace hc_z := rn_callV (M' := am_m45) (o := 44) (ar := [.int 41]) (rest := []) (L := lv_args 0 [.ref 44, .int 41]) (am_cur_of (i := (3, 3, .invokevirtual 105, (45, 834, 3), 0)) (by decide +kernel)) rfl rfl rfl rfl hc_z
  obtain ⟨r5724_z, h5725_z, q5726_z, hc_z⟩ := hc_z
  obtain ⟨rfl, yq5726_z⟩ := rp_mkN (fun q => absurd (Eq.trans (Eq.symm ka) q.1) (by decide)) q5726_z
  subst yq5726_z
  replace hc_z : rn _ _ _ _ [.int 0] _ _ _ := hc_z
  replace hc_z := rn_ifT (am_cur_of (i := (6, 3, .ifCond .eq 45, (28, 0, 0), 0)) (by decide +kernel)) (by decide) hc_z
  replace hc_z := rn_aload_n (am_cur_of (i := (51, 1, .aload_n 0, (0, 0, 0), 0)) (by decide +kernel)) g0_z hc_z
  replace hc_z := rn_getI (v := 1) (am_cur_of (i := (52, 3, .getfield 60, (4, 10, 419), 0)) (by decide +kernel)) (by decide +kernel) ka hc_z
  replace hc_z := rn_bipush (w := 6) (am_cur_of (i := (55, 2, .bipush 6, (0, 0, 0), 0)) (by decide +kernel)) (by decide) hc_z
  replace hc_z := rn_cmpT (am_cur_of (i := (57, 3, .if_icmp .ne 11, (36, 0, 0), 0)) (by decide +kernel)) (by decide) hc_z
  replace hc_z := rn_aload_n (am_cur_of (i := (68, 1, .aload_n 0, (0, 0, 0), 0)) (by decide +kernel)) g0_z hc_z
  replace hc_z := rn_getI (v := op) (am_cur_of (i := (69, 3, .getfield 254, (4, 14, 423), 0)) (by decide +kernel)) (by decide +kernel) z4_z hc_z
  replace hc_z := rn_if (am_cur_of (i := (72, 3, .ifCond .le 8, (42, 0, 0), 0)) (by decide +kernel)) hc_z
  rcases hc_z with ⟨b5727_z, hc_z⟩ | ⟨b5727_z, hc_z⟩
  · replace b5727_z : op.toInt ≤ (0 : Int32).toInt := b5727_z
    replace hc_z := rn_iconst (w := 3) (am_cur_of (i := (80, 1, .iconst 3, (0, 0, 0), 0)) (by decide +kernel)) (by decide) hc_z
    replace hc_z := rn_iret (am_cur_of (i := (81, 1, .ireturn, (0, 0, 0), 0)) (by decide +kernel)) hc_z
    obtain ⟨e5728_z, e5729_z⟩ := hc_z
    replace hm_z := rn_aload_n (am_cur_of (i := (0, 1, .aload_n 0, (0, 0, 0), 0)) (by decide +kernel)) g0m hm_z
    replace hm_z := rn_bipush (w := 41) (am_cur_of (i := (1, 2, .bipush 41, (0, 0, 0), 0)) (by decide +kernel)) (by decide) hm_z
    replace hm_z := rn_callV (M' := am_m171) (o := 164) (ar := [.int 41]) (rest := []) (L := lv_args 0 [.ref 164, .int 41]) (am_cur_of (i := (3, 3, .invokevirtual 194, (171, 1715, 3), 0)) (by decide +kernel)) rfl rfl rfl rfl hm_z
    obtain ⟨r5730_z, h5731_z, q5732_z, hm_z⟩ := hm_z
    obtain ⟨rfl, yq5732_z⟩ := rp_sgN (fun q => absurd (Eq.trans (Eq.symm kd) q.2) (by decide)) q5732_z
    subst yq5732_z
    replace hm_z : rn _ _ _ _ [.int 0] _ _ _ := hm_z
    replace hm_z := rn_ifT (am_cur_of (i := (6, 3, .ifCond .eq 41, (26, 0, 0), 0)) (by decide +kernel)) (by decide) hm_z
    replace hm_z := rn_aload_n (am_cur_of (i := (47, 1, .aload_n 0, (0, 0, 0), 0)) (by decide +kernel)) g0m hm_z
    replace hm_z := rn_bipush (w := 12) (am_cur_of (i := (48, 2, .bipush 12, (0, 0, 0), 0)) (by decide +kernel)) (by decide) hm_z
    replace hm_z := rn_callV (M' := am_m174) (o := 164) (ar := [.int 12]) (rest := []) (L := lv_args 0 [.ref 164, .int 12]) (am_cur_of (i := (50, 3, .invokevirtual 306, (174, 1727, 3), 0)) (by decide +kernel)) rfl rfl rfl rfl hm_z
    obtain ⟨r5733_z, h5734_z, q5735_z, hm_z⟩ := hm_z
    obtain ⟨rfl, yq5735_z⟩ := rp_kyN (fun q => absurd (Eq.trans (Eq.symm kc) q.1) (by decide)) q5735_z
    subst yq5735_z
    replace hm_z : rn _ _ _ _ [.int 0] _ _ _ := hm_z
    replace hm_z := rn_ifT (am_cur_of (i := (53, 3, .ifCond .eq 7, (32, 0, 0), 0)) (by decide +kernel)) (by decide) hm_z
    replace hm_z := rn_aload_n (am_cur_of (i := (60, 1, .aload_n 0, (0, 0, 0), 0)) (by decide +kernel)) g0m hm_z
    replace hm_z := rn_bipush (w := 13) (am_cur_of (i := (61, 2, .bipush 13, (0, 0, 0), 0)) (by decide +kernel)) (by decide) hm_z
    replace hm_z := rn_callV (M' := am_m174) (o := 164) (ar := [.int 13]) (rest := []) (L := lv_args 0 [.ref 164, .int 13]) (am_cur_of (i := (63, 3, .invokevirtual 306, (174, 1727, 3), 0)) (by decide +kernel)) rfl rfl rfl rfl hm_z
    obtain ⟨r5736_z, h5737_z, q5738_z, hm_z⟩ := hm_z
    obtain ⟨rfl, yq5738_z⟩ := rp_kyN (fun q => absurd (Eq.trans (Eq.symm kc) q.1) (by decide)) q5738_z
    subst yq5738_z
    replace hm_z : rn _ _ _ _ [.int 0] _ _ _ := hm_z
    replace hm_z := rn_ifT (am_cur_of (i := (66, 3, .ifCond .eq 7, (38, 0, 0), 0)) (by decide +kernel)) (by decide) hm_z
    replace hm_z := rn_aload_n (am_cur_of (i := (73, 1, .aload_n 0, (0, 0, 0), 0)) (by decide +kernel)) g0m hm_z
    replace hm_z := rn_getI (v := 4) (am_cur_of (i := (74, 3, .getfield 157, (12, 8, 1392), 0)) (by decide +kernel)) (by decide +kernel) kc hm_z
    replace hm_z := rn_iconst (w := 5) (am_cur_of (i := (77, 1, .iconst 5, (0, 0, 0), 0)) (by decide +kernel)) (by decide) hm_z
    replace hm_z := rn_cmpT (am_cur_of (i := (78, 3, .if_icmp .ne 12, (47, 0, 0), 0)) (by decide +kernel)) (by decide) hm_z
    replace hm_z := rn_aload_n (am_cur_of (i := (90, 1, .aload_n 0, (0, 0, 0), 0)) (by decide +kernel)) g0m hm_z
    replace hm_z := rn_bipush (w := 43) (am_cur_of (i := (91, 2, .bipush 43, (0, 0, 0), 0)) (by decide +kernel)) (by decide) hm_z
    replace hm_z := rn_callV (M' := am_m171) (o := 164) (ar := [.int 43]) (rest := []) (L := lv_args 0 [.ref 164, .int 43]) (am_cur_of (i := (93, 3, .invokevirtual 194, (171, 1715, 3), 0)) (by decide +kernel)) rfl rfl rfl rfl hm_z
    obtain ⟨r5739_z, h5740_z, q5741_z, hm_z⟩ := hm_z
    obtain ⟨rfl, yq5741_z⟩ := rp_sgN (fun q => absurd (Eq.trans (Eq.symm kd) q.2) (by decide)) q5741_z
    subst yq5741_z
    replace hm_z : rn _ _ _ _ [.int 0] _ _ _ := hm_z
    replace hm_z := rn_ifT (am_cur_of (i := (96, 3, .ifCond .eq 8, (53, 0, 0), 0)) (by decide +kernel)) (by decide) hm_z
    replace hm_z := rn_aload_n (am_cur_of (i := (104, 1, .aload_n 0, (0, 0, 0), 0)) (by decide +kernel)) g0m hm_z
    replace hm_z := rn_bipush (w := 45) (am_cur_of (i := (105, 2, .bipush 45, (0, 0, 0), 0)) (by decide +kernel)) (by decide) hm_z
    replace hm_z := rn_callV (M' := am_m171) (o := 164) (ar := [.int 45]) (rest := []) (L := lv_args 0 [.ref 164, .int 45]) (am_cur_of (i := (107, 3, .invokevirtual 194, (171, 1715, 3), 0)) (by decide +kernel)) rfl rfl rfl rfl hm_z
    obtain ⟨r5742_z, h5743_z, q5744_z, hm_z⟩ := hm_z
    obtain ⟨rfl, yq5744_z⟩ := rp_sgN (fun q => absurd (Eq.trans (Eq.symm kd) q.2) (by decide)) q5744_z
    subst yq5744_z
    replace hm_z : rn _ _ _ _ [.int 0] _ _ _ := hm_z
    replace hm_z := rn_ifT (am_cur_of (i := (110, 3, .ifCond .eq 8, (59, 0, 0), 0)) (by decide +kernel)) (by decide) hm_z
    replace hm_z := rn_aload_n (am_cur_of (i := (118, 1, .aload_n 0, (0, 0, 0), 0)) (by decide +kernel)) g0m hm_z
    replace hm_z := rn_bipush (w := 42) (am_cur_of (i := (119, 2, .bipush 42, (0, 0, 0), 0)) (by decide +kernel)) (by decide) hm_z
    replace hm_z := rn_callV (M' := am_m171) (o := 164) (ar := [.int 42]) (rest := []) (L := lv_args 0 [.ref 164, .int 42]) (am_cur_of (i := (121, 3, .invokevirtual 194, (171, 1715, 3), 0)) (by decide +kernel)) rfl rfl rfl rfl hm_z
    obtain ⟨r5745_z, h5746_z, q5747_z, hm_z⟩ := hm_z
    obtain ⟨rfl, yq5747_z⟩ := rp_sgN (fun q => absurd (Eq.trans (Eq.symm kd) q.2) (by decide)) q5747_z
    subst yq5747_z
    replace hm_z : rn _ _ _ _ [.int 0] _ _ _ := hm_z
    replace hm_z := rn_ifT (am_cur_of (i := (124, 3, .ifCond .eq 8, (65, 0, 0), 0)) (by decide +kernel)) (by decide) hm_z
    replace hm_z := rn_aload_n (am_cur_of (i := (132, 1, .aload_n 0, (0, 0, 0), 0)) (by decide +kernel)) g0m hm_z
    replace hm_z := rn_bipush (w := 47) (am_cur_of (i := (133, 2, .bipush 47, (0, 0, 0), 0)) (by decide +kernel)) (by decide) hm_z
    replace hm_z := rn_callV (M' := am_m171) (o := 164) (ar := [.int 47]) (rest := []) (L := lv_args 0 [.ref 164, .int 47]) (am_cur_of (i := (135, 3, .invokevirtual 194, (171, 1715, 3), 0)) (by decide +kernel)) rfl rfl rfl rfl hm_z
    obtain ⟨r5748_z, h5749_z, q5750_z, hm_z⟩ := hm_z
    obtain ⟨rfl, yq5750_z⟩ := rp_sgN (fun q => absurd (Eq.trans (Eq.symm kd) q.2) (by decide)) q5750_z
    subst yq5750_z
    replace hm_z : rn _ _ _ _ [.int 0] _ _ _ := hm_z
    replace hm_z := rn_ifT (am_cur_of (i := (138, 3, .ifCond .eq 8, (71, 0, 0), 0)) (by decide +kernel)) (by decide) hm_z
    replace hm_z := rn_iconst (w := 0) (am_cur_of (i := (146, 1, .iconst 0, (0, 0, 0), 0)) (by decide +kernel)) (by decide) hm_z
    replace hm_z := rn_istore_n (am_cur_of (i := (147, 1, .istore_n 1, (0, 0, 0), 0)) (by decide +kernel)) hm_z
    obtain ⟨_, s5751_z, s5752_z, g1m, hm_z⟩ := hm_z
    replace g0m := s5751_z 0 _ (by decide) rfl g0m
    clear s5751_z s5752_z
    replace hm_z := rn_iload_n (am_cur_of (i := (148, 1, .iload_n 1, (0, 0, 0), 0)) (by decide +kernel)) g1m hm_z
    replace hm_z := rn_ifF (am_cur_of (i := (149, 3, .ifCond .ne 9, (79, 0, 0), 0)) (by decide +kernel)) (by decide) hm_z
    replace hm_z := rn_aload_n (am_cur_of (i := (152, 1, .aload_n 0, (0, 0, 0), 0)) (by decide +kernel)) g0m hm_z
    replace hm_z := rn_iconst (w := 1) (am_cur_of (i := (153, 1, .iconst 1, (0, 0, 0), 0)) (by decide +kernel)) (by decide) hm_z
    replace hm_z := rn_callV (M' := am_m158) (o := 164) (ar := [.int 1]) (rest := []) (L := lv_args 0 [.ref 164, .int 1]) (am_cur_of (i := (154, 3, .invokevirtual 181, (158, 1665, 3), 0)) (by decide +kernel)) rfl rfl rfl rfl hm_z
    obtain ⟨r5753_z, h5754_z, q5755_z, hm_z⟩ := hm_z
    obtain ⟨rfl, yq5755_z⟩ := rp_wrong q5755_z
    subst yq5755_z
    replace hm_z : rn _ _ _ _ [.int 0] _ _ _ := hm_z
    replace hm_z := rn_iret (am_cur_of (i := (157, 1, .ireturn, (0, 0, 0), 0)) (by decide +kernel)) hm_z
    obtain ⟨e5756_z, e5757_z⟩ := hm_z
    subst e5729_z e5757_z
    exact Or.inr ⟨e5728_z, rfl, z4_z.trans (rt_i32 (by rw [show (0 : Int32).toInt = 0 by decide]; omega)), e5756_z, rfl⟩
  · replace b5727_z : (0 : Int32).toInt < op.toInt := b5727_z
    replace hc_z := rn_aload_n (am_cur_of (i := (75, 1, .aload_n 0, (0, 0, 0), 0)) (by decide +kernel)) g0_z hc_z
    replace hc_z := rn_iconst (w := 1) (am_cur_of (i := (76, 1, .iconst 1, (0, 0, 0), 0)) (by decide +kernel)) (by decide) hc_z
    replace hc_z := rn_callV (M' := am_m29) (o := 44) (ar := [.int 1]) (rest := []) (L := lv_args 0 [.ref 44, .int 1]) (am_cur_of (i := (77, 3, .invokevirtual 108, (29, 769, 3), 0)) (by decide +kernel)) rfl rfl rfl rfl hc_z
    obtain ⟨r5758_z, h5759_z, q5760_z, hc_z⟩ := hc_z
    obtain ⟨rfl, yq5760_z⟩ := rp_fail R4 q5760_z
    subst yq5760_z
    replace hc_z : rn _ _ _ _ [] _ _ _ := hc_z
    have K := rs_stick (w := 1) (q := p) (a := 44) (by decide) (by decide) rfl (by decide) rfl (show rg_v (am_up (am_up h 44 1 (.int 1)) 44 2 (.int (rg_v h 44 9))) 44 2 = p from R5) hc_z
    replace hm_z := rn_aload_n (am_cur_of (i := (0, 1, .aload_n 0, (0, 0, 0), 0)) (by decide +kernel)) g0m hm_z
    replace hm_z := rn_bipush (w := 41) (am_cur_of (i := (1, 2, .bipush 41, (0, 0, 0), 0)) (by decide +kernel)) (by decide) hm_z
    replace hm_z := rn_callV (M' := am_m171) (o := 164) (ar := [.int 41]) (rest := []) (L := lv_args 0 [.ref 164, .int 41]) (am_cur_of (i := (3, 3, .invokevirtual 194, (171, 1715, 3), 0)) (by decide +kernel)) rfl rfl rfl rfl hm_z
    obtain ⟨r5761_z, h5762_z, q5763_z, hm_z⟩ := hm_z
    obtain ⟨rfl, yq5763_z⟩ := rp_sgN (fun q => absurd (Eq.trans (Eq.symm kd) q.2) (by decide)) q5763_z
    subst yq5763_z
    replace hm_z : rn _ _ _ _ [.int 0] _ _ _ := hm_z
    replace hm_z := rn_ifT (am_cur_of (i := (6, 3, .ifCond .eq 41, (26, 0, 0), 0)) (by decide +kernel)) (by decide) hm_z
    replace hm_z := rn_aload_n (am_cur_of (i := (47, 1, .aload_n 0, (0, 0, 0), 0)) (by decide +kernel)) g0m hm_z
    replace hm_z := rn_bipush (w := 12) (am_cur_of (i := (48, 2, .bipush 12, (0, 0, 0), 0)) (by decide +kernel)) (by decide) hm_z
    replace hm_z := rn_callV (M' := am_m174) (o := 164) (ar := [.int 12]) (rest := []) (L := lv_args 0 [.ref 164, .int 12]) (am_cur_of (i := (50, 3, .invokevirtual 306, (174, 1727, 3), 0)) (by decide +kernel)) rfl rfl rfl rfl hm_z
    obtain ⟨r5764_z, h5765_z, q5766_z, hm_z⟩ := hm_z
    obtain ⟨rfl, yq5766_z⟩ := rp_kyN (fun q => absurd (Eq.trans (Eq.symm kc) q.1) (by decide)) q5766_z
    subst yq5766_z
    replace hm_z : rn _ _ _ _ [.int 0] _ _ _ := hm_z
    replace hm_z := rn_ifT (am_cur_of (i := (53, 3, .ifCond .eq 7, (32, 0, 0), 0)) (by decide +kernel)) (by decide) hm_z
    replace hm_z := rn_aload_n (am_cur_of (i := (60, 1, .aload_n 0, (0, 0, 0), 0)) (by decide +kernel)) g0m hm_z
    replace hm_z := rn_bipush (w := 13) (am_cur_of (i := (61, 2, .bipush 13, (0, 0, 0), 0)) (by decide +kernel)) (by decide) hm_z
    replace hm_z := rn_callV (M' := am_m174) (o := 164) (ar := [.int 13]) (rest := []) (L := lv_args 0 [.ref 164, .int 13]) (am_cur_of (i := (63, 3, .invokevirtual 306, (174, 1727, 3), 0)) (by decide +kernel)) rfl rfl rfl rfl hm_z
    obtain ⟨r5767_z, h5768_z, q5769_z, hm_z⟩ := hm_z
    obtain ⟨rfl, yq5769_z⟩ := rp_kyN (fun q => absurd (Eq.trans (Eq.symm kc) q.1) (by decide)) q5769_z
    subst yq5769_z
    replace hm_z : rn _ _ _ _ [.int 0] _ _ _ := hm_z
    replace hm_z := rn_ifT (am_cur_of (i := (66, 3, .ifCond .eq 7, (38, 0, 0), 0)) (by decide +kernel)) (by decide) hm_z
    replace hm_z := rn_aload_n (am_cur_of (i := (73, 1, .aload_n 0, (0, 0, 0), 0)) (by decide +kernel)) g0m hm_z
    replace hm_z := rn_getI (v := 4) (am_cur_of (i := (74, 3, .getfield 157, (12, 8, 1392), 0)) (by decide +kernel)) (by decide +kernel) kc hm_z
    replace hm_z := rn_iconst (w := 5) (am_cur_of (i := (77, 1, .iconst 5, (0, 0, 0), 0)) (by decide +kernel)) (by decide) hm_z
    replace hm_z := rn_cmpT (am_cur_of (i := (78, 3, .if_icmp .ne 12, (47, 0, 0), 0)) (by decide +kernel)) (by decide) hm_z
    replace hm_z := rn_aload_n (am_cur_of (i := (90, 1, .aload_n 0, (0, 0, 0), 0)) (by decide +kernel)) g0m hm_z
    replace hm_z := rn_bipush (w := 43) (am_cur_of (i := (91, 2, .bipush 43, (0, 0, 0), 0)) (by decide +kernel)) (by decide) hm_z
    replace hm_z := rn_callV (M' := am_m171) (o := 164) (ar := [.int 43]) (rest := []) (L := lv_args 0 [.ref 164, .int 43]) (am_cur_of (i := (93, 3, .invokevirtual 194, (171, 1715, 3), 0)) (by decide +kernel)) rfl rfl rfl rfl hm_z
    obtain ⟨r5770_z, h5771_z, q5772_z, hm_z⟩ := hm_z
    obtain ⟨rfl, yq5772_z⟩ := rp_sgN (fun q => absurd (Eq.trans (Eq.symm kd) q.2) (by decide)) q5772_z
    subst yq5772_z
    replace hm_z : rn _ _ _ _ [.int 0] _ _ _ := hm_z
    replace hm_z := rn_ifT (am_cur_of (i := (96, 3, .ifCond .eq 8, (53, 0, 0), 0)) (by decide +kernel)) (by decide) hm_z
    replace hm_z := rn_aload_n (am_cur_of (i := (104, 1, .aload_n 0, (0, 0, 0), 0)) (by decide +kernel)) g0m hm_z
    replace hm_z := rn_bipush (w := 45) (am_cur_of (i := (105, 2, .bipush 45, (0, 0, 0), 0)) (by decide +kernel)) (by decide) hm_z
    replace hm_z := rn_callV (M' := am_m171) (o := 164) (ar := [.int 45]) (rest := []) (L := lv_args 0 [.ref 164, .int 45]) (am_cur_of (i := (107, 3, .invokevirtual 194, (171, 1715, 3), 0)) (by decide +kernel)) rfl rfl rfl rfl hm_z
    obtain ⟨r5773_z, h5774_z, q5775_z, hm_z⟩ := hm_z
    obtain ⟨rfl, yq5775_z⟩ := rp_sgN (fun q => absurd (Eq.trans (Eq.symm kd) q.2) (by decide)) q5775_z
    subst yq5775_z
    replace hm_z : rn _ _ _ _ [.int 0] _ _ _ := hm_z
    replace hm_z := rn_ifT (am_cur_of (i := (110, 3, .ifCond .eq 8, (59, 0, 0), 0)) (by decide +kernel)) (by decide) hm_z
    replace hm_z := rn_aload_n (am_cur_of (i := (118, 1, .aload_n 0, (0, 0, 0), 0)) (by decide +kernel)) g0m hm_z
    replace hm_z := rn_bipush (w := 42) (am_cur_of (i := (119, 2, .bipush 42, (0, 0, 0), 0)) (by decide +kernel)) (by decide) hm_z
    replace hm_z := rn_callV (M' := am_m171) (o := 164) (ar := [.int 42]) (rest := []) (L := lv_args 0 [.ref 164, .int 42]) (am_cur_of (i := (121, 3, .invokevirtual 194, (171, 1715, 3), 0)) (by decide +kernel)) rfl rfl rfl rfl hm_z
    obtain ⟨r5776_z, h5777_z, q5778_z, hm_z⟩ := hm_z
    obtain ⟨rfl, yq5778_z⟩ := rp_sgN (fun q => absurd (Eq.trans (Eq.symm kd) q.2) (by decide)) q5778_z
    subst yq5778_z
    replace hm_z : rn _ _ _ _ [.int 0] _ _ _ := hm_z
    replace hm_z := rn_ifT (am_cur_of (i := (124, 3, .ifCond .eq 8, (65, 0, 0), 0)) (by decide +kernel)) (by decide) hm_z
    replace hm_z := rn_aload_n (am_cur_of (i := (132, 1, .aload_n 0, (0, 0, 0), 0)) (by decide +kernel)) g0m hm_z
    replace hm_z := rn_bipush (w := 47) (am_cur_of (i := (133, 2, .bipush 47, (0, 0, 0), 0)) (by decide +kernel)) (by decide) hm_z
    replace hm_z := rn_callV (M' := am_m171) (o := 164) (ar := [.int 47]) (rest := []) (L := lv_args 0 [.ref 164, .int 47]) (am_cur_of (i := (135, 3, .invokevirtual 194, (171, 1715, 3), 0)) (by decide +kernel)) rfl rfl rfl rfl hm_z
    obtain ⟨r5779_z, h5780_z, q5781_z, hm_z⟩ := hm_z
    obtain ⟨rfl, yq5781_z⟩ := rp_sgN (fun q => absurd (Eq.trans (Eq.symm kd) q.2) (by decide)) q5781_z
    subst yq5781_z
    replace hm_z : rn _ _ _ _ [.int 0] _ _ _ := hm_z
    replace hm_z := rn_ifT (am_cur_of (i := (138, 3, .ifCond .eq 8, (71, 0, 0), 0)) (by decide +kernel)) (by decide) hm_z
    replace hm_z := rn_iconst (w := 0) (am_cur_of (i := (146, 1, .iconst 0, (0, 0, 0), 0)) (by decide +kernel)) (by decide) hm_z
    replace hm_z := rn_istore_n (am_cur_of (i := (147, 1, .istore_n 1, (0, 0, 0), 0)) (by decide +kernel)) hm_z
    obtain ⟨_, s5782_z, s5783_z, g1m, hm_z⟩ := hm_z
    replace g0m := s5782_z 0 _ (by decide) rfl g0m
    clear s5782_z s5783_z
    replace hm_z := rn_iload_n (am_cur_of (i := (148, 1, .iload_n 1, (0, 0, 0), 0)) (by decide +kernel)) g1m hm_z
    replace hm_z := rn_ifF (am_cur_of (i := (149, 3, .ifCond .ne 9, (79, 0, 0), 0)) (by decide +kernel)) (by decide) hm_z
    replace hm_z := rn_aload_n (am_cur_of (i := (152, 1, .aload_n 0, (0, 0, 0), 0)) (by decide +kernel)) g0m hm_z
    replace hm_z := rn_iconst (w := 1) (am_cur_of (i := (153, 1, .iconst 1, (0, 0, 0), 0)) (by decide +kernel)) (by decide) hm_z
    replace hm_z := rn_callV (M' := am_m158) (o := 164) (ar := [.int 1]) (rest := []) (L := lv_args 0 [.ref 164, .int 1]) (am_cur_of (i := (154, 3, .invokevirtual 181, (158, 1665, 3), 0)) (by decide +kernel)) rfl rfl rfl rfl hm_z
    obtain ⟨r5784_z, h5785_z, q5786_z, hm_z⟩ := hm_z
    obtain ⟨rfl, yq5786_z⟩ := rp_wrong q5786_z
    subst yq5786_z
    replace hm_z : rn _ _ _ _ [.int 0] _ _ _ := hm_z
    replace hm_z := rn_iret (am_cur_of (i := (157, 1, .ireturn, (0, 0, 0), 0)) (by decide +kernel)) hm_z
    obtain ⟨e5787_z, e5788_z⟩ := hm_z
    subst e5787_z e5788_z
    exact Or.inl (Or.inr ⟨rfl, 1, by decide, K.1, K.2, rfl, R6⟩)
theorem rj_c3_23 {T : Nat → Int32} {S x p : Int32} {n n' : Nat} {h h' g g' : am_H} {r r' : Option Value} (R : rq T S x p 23 h g) (A : rp 23 h g) (B : rp_t h g) (Z : rs 23 h g) (w0_z : rg_v g 164 45 = 0) (ka : (rg_v h 44 10) = 2) (kc : (rg_v g 164 8) = 1) (kb0_z : 0 ≤ (rg_v h 44 11).toInt) (kb9_z : (rg_v h 44 11).toInt ≤ 10) (kd : (rg_v g 164 9) = (rg_v h 44 11)) (hc_z : rn n am_m44 0 (lv_args 0 [.ref 44]) [] h r h') (hm_z : rn n' am_m178 0 (lv_args 0 [.ref 164]) [] g r' g') : rj_Q T S x p 23 h g h' g' r r' := by
  have z0_z : (0 : Int32).toInt = 0 := by decide
  have g0_z : am_get (lv_args 0 [.ref 44]) 0 = some (.ref 44) := rfl
  have g0m : am_get (lv_args 0 [.ref 164]) 0 = some (.ref 164) := rfl
  have Rk := R
  have Zk := Z
  obtain ⟨⟨c1_z, c2_z, c3_z, c4_z, c5_z, c6_z, c7_z, c8_z⟩, ⟨m2_z, m3_z, m4_z, m5_z, m6_z, m7_z, m8_z⟩, R3, R4, R5, R6, R7, R8, R9, R10⟩ := (R : rq T S x p 23 h g)
  obtain ⟨np, op, z1_z, z2_z, z3_z, z4_z, z5_z, z6_z, z7_z, z8_z, z9_z, z10_z⟩ := (Z : rs 23 h g)
  obtain ⟨nk1_z, nk2_z, nk3_z⟩ := A.2.2.2.2.2.1
  replace nk1_z : rg_v h 32 0 = rg_v g 164 44 := nk1_z
  replace nk2_z : 0 ≤ (rg_v h 32 0).toInt := nk2_z
  replace nk3_z : (rg_v h 32 0).toInt ≤ 64 := nk3_z
  replace z8_z : np.toInt ≤ (rg_v h 32 0).toInt + op.toInt := z8_z
  obtain ⟨kn, ekn⟩ : ∃ v, rg_v h 32 0 = v := ⟨_, rfl⟩
  rw [ekn] at nk1_z nk2_z nk3_z z8_z
  have e9_z := rt_c1 (x := kn) (by omega) (by omega)
  replace hc_z := rn_aload_n (am_cur_of (i := (0, 1, .aload_n 0, (0, 0, 0), 0)) (by decide +kernel)) g0_z hc_z
  replace hc_z := rn_bipush (w := 41) (am_cur_of (i := (1, 2, .bipush 41, (0, 0, 0), 0)) (by decide +kernel)) (by decide) hc_z
  replace hc_z := rn_callV (M' := am_m45) (o := 44) (ar := [.int 41]) (rest := []) (L := lv_args 0 [.ref 44, .int 41]) (am_cur_of (i := (3, 3, .invokevirtual 105, (45, 834, 3), 0)) (by decide +kernel)) rfl rfl rfl rfl hc_z
  obtain ⟨r5789_z, h5790_z, q5791_z, hc_z⟩ := hc_z
  obtain ⟨rfl, yq5791_z⟩ := rp_mkN (fun q => absurd (Eq.trans (Eq.symm ka) q.1) (by decide)) q5791_z
  subst yq5791_z
  replace hc_z : rn _ _ _ _ [.int 0] _ _ _ := hc_z
  replace hc_z := rn_ifT (am_cur_of (i := (6, 3, .ifCond .eq 45, (28, 0, 0), 0)) (by decide +kernel)) (by decide) hc_z
  replace hc_z := rn_aload_n (am_cur_of (i := (51, 1, .aload_n 0, (0, 0, 0), 0)) (by decide +kernel)) g0_z hc_z
  replace hc_z := rn_getI (v := 2) (am_cur_of (i := (52, 3, .getfield 60, (4, 10, 419), 0)) (by decide +kernel)) (by decide +kernel) ka hc_z
  replace hc_z := rn_bipush (w := 6) (am_cur_of (i := (55, 2, .bipush 6, (0, 0, 0), 0)) (by decide +kernel)) (by decide) hc_z
  replace hc_z := rn_cmpT (am_cur_of (i := (57, 3, .if_icmp .ne 11, (36, 0, 0), 0)) (by decide +kernel)) (by decide) hc_z
  replace hc_z := rn_aload_n (am_cur_of (i := (68, 1, .aload_n 0, (0, 0, 0), 0)) (by decide +kernel)) g0_z hc_z
  replace hc_z := rn_getI (v := op) (am_cur_of (i := (69, 3, .getfield 254, (4, 14, 423), 0)) (by decide +kernel)) (by decide +kernel) z4_z hc_z
  replace hc_z := rn_if (am_cur_of (i := (72, 3, .ifCond .le 8, (42, 0, 0), 0)) (by decide +kernel)) hc_z
  rcases hc_z with ⟨b5792_z, hc_z⟩ | ⟨b5792_z, hc_z⟩
  · replace b5792_z : op.toInt ≤ (0 : Int32).toInt := b5792_z
    replace hc_z := rn_iconst (w := 3) (am_cur_of (i := (80, 1, .iconst 3, (0, 0, 0), 0)) (by decide +kernel)) (by decide) hc_z
    replace hc_z := rn_iret (am_cur_of (i := (81, 1, .ireturn, (0, 0, 0), 0)) (by decide +kernel)) hc_z
    obtain ⟨e5793_z, e5794_z⟩ := hc_z
    replace hm_z := rn_aload_n (am_cur_of (i := (0, 1, .aload_n 0, (0, 0, 0), 0)) (by decide +kernel)) g0m hm_z
    replace hm_z := rn_bipush (w := 41) (am_cur_of (i := (1, 2, .bipush 41, (0, 0, 0), 0)) (by decide +kernel)) (by decide) hm_z
    replace hm_z := rn_callV (M' := am_m171) (o := 164) (ar := [.int 41]) (rest := []) (L := lv_args 0 [.ref 164, .int 41]) (am_cur_of (i := (3, 3, .invokevirtual 194, (171, 1715, 3), 0)) (by decide +kernel)) rfl rfl rfl rfl hm_z
    obtain ⟨r5795_z, h5796_z, q5797_z, hm_z⟩ := hm_z
    obtain ⟨rfl, yq5797_z⟩ := rp_sgN (fun q => absurd (Eq.trans (Eq.symm kc) q.1) (by decide)) q5797_z
    subst yq5797_z
    replace hm_z : rn _ _ _ _ [.int 0] _ _ _ := hm_z
    replace hm_z := rn_ifT (am_cur_of (i := (6, 3, .ifCond .eq 41, (26, 0, 0), 0)) (by decide +kernel)) (by decide) hm_z
    replace hm_z := rn_aload_n (am_cur_of (i := (47, 1, .aload_n 0, (0, 0, 0), 0)) (by decide +kernel)) g0m hm_z
    replace hm_z := rn_bipush (w := 12) (am_cur_of (i := (48, 2, .bipush 12, (0, 0, 0), 0)) (by decide +kernel)) (by decide) hm_z
    replace hm_z := rn_callV (M' := am_m174) (o := 164) (ar := [.int 12]) (rest := []) (L := lv_args 0 [.ref 164, .int 12]) (am_cur_of (i := (50, 3, .invokevirtual 306, (174, 1727, 3), 0)) (by decide +kernel)) rfl rfl rfl rfl hm_z
    obtain ⟨r5798_z, h5799_z, q5800_z, hm_z⟩ := hm_z
    obtain ⟨rfl, yq5800_z⟩ := rp_kyN (fun q => by have zz := congrArg Int32.toInt q.2; have zy := congrArg Int32.toInt kd; have zx : (12 : Int32).toInt = 12 := (by decide); omega) q5800_z
    subst yq5800_z
    replace hm_z : rn _ _ _ _ [.int 0] _ _ _ := hm_z
    replace hm_z := rn_ifT (am_cur_of (i := (53, 3, .ifCond .eq 7, (32, 0, 0), 0)) (by decide +kernel)) (by decide) hm_z
    replace hm_z := rn_aload_n (am_cur_of (i := (60, 1, .aload_n 0, (0, 0, 0), 0)) (by decide +kernel)) g0m hm_z
    replace hm_z := rn_bipush (w := 13) (am_cur_of (i := (61, 2, .bipush 13, (0, 0, 0), 0)) (by decide +kernel)) (by decide) hm_z
    replace hm_z := rn_callV (M' := am_m174) (o := 164) (ar := [.int 13]) (rest := []) (L := lv_args 0 [.ref 164, .int 13]) (am_cur_of (i := (63, 3, .invokevirtual 306, (174, 1727, 3), 0)) (by decide +kernel)) rfl rfl rfl rfl hm_z
    obtain ⟨r5801_z, h5802_z, q5803_z, hm_z⟩ := hm_z
    obtain ⟨rfl, yq5803_z⟩ := rp_kyN (fun q => by have zz := congrArg Int32.toInt q.2; have zy := congrArg Int32.toInt kd; have zx : (13 : Int32).toInt = 13 := (by decide); omega) q5803_z
    subst yq5803_z
    replace hm_z : rn _ _ _ _ [.int 0] _ _ _ := hm_z
    replace hm_z := rn_ifT (am_cur_of (i := (66, 3, .ifCond .eq 7, (38, 0, 0), 0)) (by decide +kernel)) (by decide) hm_z
    replace hm_z := rn_aload_n (am_cur_of (i := (73, 1, .aload_n 0, (0, 0, 0), 0)) (by decide +kernel)) g0m hm_z
    replace hm_z := rn_getI (v := 1) (am_cur_of (i := (74, 3, .getfield 157, (12, 8, 1392), 0)) (by decide +kernel)) (by decide +kernel) kc hm_z
    replace hm_z := rn_iconst (w := 5) (am_cur_of (i := (77, 1, .iconst 5, (0, 0, 0), 0)) (by decide +kernel)) (by decide) hm_z
    replace hm_z := rn_cmpT (am_cur_of (i := (78, 3, .if_icmp .ne 12, (47, 0, 0), 0)) (by decide +kernel)) (by decide) hm_z
    replace hm_z := rn_aload_n (am_cur_of (i := (90, 1, .aload_n 0, (0, 0, 0), 0)) (by decide +kernel)) g0m hm_z
    replace hm_z := rn_bipush (w := 43) (am_cur_of (i := (91, 2, .bipush 43, (0, 0, 0), 0)) (by decide +kernel)) (by decide) hm_z
    replace hm_z := rn_callV (M' := am_m171) (o := 164) (ar := [.int 43]) (rest := []) (L := lv_args 0 [.ref 164, .int 43]) (am_cur_of (i := (93, 3, .invokevirtual 194, (171, 1715, 3), 0)) (by decide +kernel)) rfl rfl rfl rfl hm_z
    obtain ⟨r5804_z, h5805_z, q5806_z, hm_z⟩ := hm_z
    obtain ⟨rfl, yq5806_z⟩ := rp_sgN (fun q => absurd (Eq.trans (Eq.symm kc) q.1) (by decide)) q5806_z
    subst yq5806_z
    replace hm_z : rn _ _ _ _ [.int 0] _ _ _ := hm_z
    replace hm_z := rn_ifT (am_cur_of (i := (96, 3, .ifCond .eq 8, (53, 0, 0), 0)) (by decide +kernel)) (by decide) hm_z
    replace hm_z := rn_aload_n (am_cur_of (i := (104, 1, .aload_n 0, (0, 0, 0), 0)) (by decide +kernel)) g0m hm_z
    replace hm_z := rn_bipush (w := 45) (am_cur_of (i := (105, 2, .bipush 45, (0, 0, 0), 0)) (by decide +kernel)) (by decide) hm_z
    replace hm_z := rn_callV (M' := am_m171) (o := 164) (ar := [.int 45]) (rest := []) (L := lv_args 0 [.ref 164, .int 45]) (am_cur_of (i := (107, 3, .invokevirtual 194, (171, 1715, 3), 0)) (by decide +kernel)) rfl rfl rfl rfl hm_z
    obtain ⟨r5807_z, h5808_z, q5809_z, hm_z⟩ := hm_z
    obtain ⟨rfl, yq5809_z⟩ := rp_sgN (fun q => absurd (Eq.trans (Eq.symm kc) q.1) (by decide)) q5809_z
    subst yq5809_z
    replace hm_z : rn _ _ _ _ [.int 0] _ _ _ := hm_z
    replace hm_z := rn_ifT (am_cur_of (i := (110, 3, .ifCond .eq 8, (59, 0, 0), 0)) (by decide +kernel)) (by decide) hm_z
    replace hm_z := rn_aload_n (am_cur_of (i := (118, 1, .aload_n 0, (0, 0, 0), 0)) (by decide +kernel)) g0m hm_z
    replace hm_z := rn_bipush (w := 42) (am_cur_of (i := (119, 2, .bipush 42, (0, 0, 0), 0)) (by decide +kernel)) (by decide) hm_z
    replace hm_z := rn_callV (M' := am_m171) (o := 164) (ar := [.int 42]) (rest := []) (L := lv_args 0 [.ref 164, .int 42]) (am_cur_of (i := (121, 3, .invokevirtual 194, (171, 1715, 3), 0)) (by decide +kernel)) rfl rfl rfl rfl hm_z
    obtain ⟨r5810_z, h5811_z, q5812_z, hm_z⟩ := hm_z
    obtain ⟨rfl, yq5812_z⟩ := rp_sgN (fun q => absurd (Eq.trans (Eq.symm kc) q.1) (by decide)) q5812_z
    subst yq5812_z
    replace hm_z : rn _ _ _ _ [.int 0] _ _ _ := hm_z
    replace hm_z := rn_ifT (am_cur_of (i := (124, 3, .ifCond .eq 8, (65, 0, 0), 0)) (by decide +kernel)) (by decide) hm_z
    replace hm_z := rn_aload_n (am_cur_of (i := (132, 1, .aload_n 0, (0, 0, 0), 0)) (by decide +kernel)) g0m hm_z
    replace hm_z := rn_bipush (w := 47) (am_cur_of (i := (133, 2, .bipush 47, (0, 0, 0), 0)) (by decide +kernel)) (by decide) hm_z
    replace hm_z := rn_callV (M' := am_m171) (o := 164) (ar := [.int 47]) (rest := []) (L := lv_args 0 [.ref 164, .int 47]) (am_cur_of (i := (135, 3, .invokevirtual 194, (171, 1715, 3), 0)) (by decide +kernel)) rfl rfl rfl rfl hm_z
    obtain ⟨r5813_z, h5814_z, q5815_z, hm_z⟩ := hm_z
    obtain ⟨rfl, yq5815_z⟩ := rp_sgN (fun q => absurd (Eq.trans (Eq.symm kc) q.1) (by decide)) q5815_z
    subst yq5815_z
    replace hm_z : rn _ _ _ _ [.int 0] _ _ _ := hm_z
    replace hm_z := rn_ifT (am_cur_of (i := (138, 3, .ifCond .eq 8, (71, 0, 0), 0)) (by decide +kernel)) (by decide) hm_z
    replace hm_z := rn_iconst (w := 0) (am_cur_of (i := (146, 1, .iconst 0, (0, 0, 0), 0)) (by decide +kernel)) (by decide) hm_z
    replace hm_z := rn_istore_n (am_cur_of (i := (147, 1, .istore_n 1, (0, 0, 0), 0)) (by decide +kernel)) hm_z
    obtain ⟨_, s5816_z, s5817_z, g1m, hm_z⟩ := hm_z
    replace g0m := s5816_z 0 _ (by decide) rfl g0m
    clear s5816_z s5817_z
    replace hm_z := rn_iload_n (am_cur_of (i := (148, 1, .iload_n 1, (0, 0, 0), 0)) (by decide +kernel)) g1m hm_z
    replace hm_z := rn_ifF (am_cur_of (i := (149, 3, .ifCond .ne 9, (79, 0, 0), 0)) (by decide +kernel)) (by decide) hm_z
    replace hm_z := rn_aload_n (am_cur_of (i := (152, 1, .aload_n 0, (0, 0, 0), 0)) (by decide +kernel)) g0m hm_z
    replace hm_z := rn_iconst (w := 1) (am_cur_of (i := (153, 1, .iconst 1, (0, 0, 0), 0)) (by decide +kernel)) (by decide) hm_z
    replace hm_z := rn_callV (M' := am_m158) (o := 164) (ar := [.int 1]) (rest := []) (L := lv_args 0 [.ref 164, .int 1]) (am_cur_of (i := (154, 3, .invokevirtual 181, (158, 1665, 3), 0)) (by decide +kernel)) rfl rfl rfl rfl hm_z
    obtain ⟨r5818_z, h5819_z, q5820_z, hm_z⟩ := hm_z
    obtain ⟨rfl, yq5820_z⟩ := rp_wrong q5820_z
    subst yq5820_z
    replace hm_z : rn _ _ _ _ [.int 0] _ _ _ := hm_z
    replace hm_z := rn_iret (am_cur_of (i := (157, 1, .ireturn, (0, 0, 0), 0)) (by decide +kernel)) hm_z
    obtain ⟨e5821_z, e5822_z⟩ := hm_z
    subst e5794_z e5822_z
    exact Or.inr ⟨e5793_z, rfl, z4_z.trans (rt_i32 (by rw [show (0 : Int32).toInt = 0 by decide]; omega)), e5821_z, rfl⟩
  · replace b5792_z : (0 : Int32).toInt < op.toInt := b5792_z
    replace hc_z := rn_aload_n (am_cur_of (i := (75, 1, .aload_n 0, (0, 0, 0), 0)) (by decide +kernel)) g0_z hc_z
    replace hc_z := rn_iconst (w := 1) (am_cur_of (i := (76, 1, .iconst 1, (0, 0, 0), 0)) (by decide +kernel)) (by decide) hc_z
    replace hc_z := rn_callV (M' := am_m29) (o := 44) (ar := [.int 1]) (rest := []) (L := lv_args 0 [.ref 44, .int 1]) (am_cur_of (i := (77, 3, .invokevirtual 108, (29, 769, 3), 0)) (by decide +kernel)) rfl rfl rfl rfl hc_z
    obtain ⟨r5823_z, h5824_z, q5825_z, hc_z⟩ := hc_z
    obtain ⟨rfl, yq5825_z⟩ := rp_fail R4 q5825_z
    subst yq5825_z
    replace hc_z : rn _ _ _ _ [] _ _ _ := hc_z
    have K := rs_stick (w := 1) (q := p) (a := 44) (by decide) (by decide) rfl (by decide) rfl (show rg_v (am_up (am_up h 44 1 (.int 1)) 44 2 (.int (rg_v h 44 9))) 44 2 = p from R5) hc_z
    replace hm_z := rn_aload_n (am_cur_of (i := (0, 1, .aload_n 0, (0, 0, 0), 0)) (by decide +kernel)) g0m hm_z
    replace hm_z := rn_bipush (w := 41) (am_cur_of (i := (1, 2, .bipush 41, (0, 0, 0), 0)) (by decide +kernel)) (by decide) hm_z
    replace hm_z := rn_callV (M' := am_m171) (o := 164) (ar := [.int 41]) (rest := []) (L := lv_args 0 [.ref 164, .int 41]) (am_cur_of (i := (3, 3, .invokevirtual 194, (171, 1715, 3), 0)) (by decide +kernel)) rfl rfl rfl rfl hm_z
    obtain ⟨r5826_z, h5827_z, q5828_z, hm_z⟩ := hm_z
    obtain ⟨rfl, yq5828_z⟩ := rp_sgN (fun q => absurd (Eq.trans (Eq.symm kc) q.1) (by decide)) q5828_z
    subst yq5828_z
    replace hm_z : rn _ _ _ _ [.int 0] _ _ _ := hm_z
    replace hm_z := rn_ifT (am_cur_of (i := (6, 3, .ifCond .eq 41, (26, 0, 0), 0)) (by decide +kernel)) (by decide) hm_z
    replace hm_z := rn_aload_n (am_cur_of (i := (47, 1, .aload_n 0, (0, 0, 0), 0)) (by decide +kernel)) g0m hm_z
    replace hm_z := rn_bipush (w := 12) (am_cur_of (i := (48, 2, .bipush 12, (0, 0, 0), 0)) (by decide +kernel)) (by decide) hm_z
    replace hm_z := rn_callV (M' := am_m174) (o := 164) (ar := [.int 12]) (rest := []) (L := lv_args 0 [.ref 164, .int 12]) (am_cur_of (i := (50, 3, .invokevirtual 306, (174, 1727, 3), 0)) (by decide +kernel)) rfl rfl rfl rfl hm_z
    obtain ⟨r5829_z, h5830_z, q5831_z, hm_z⟩ := hm_z
    obtain ⟨rfl, yq5831_z⟩ := rp_kyN (fun q => by have zz := congrArg Int32.toInt q.2; have zy := congrArg Int32.toInt kd; have zx : (12 : Int32).toInt = 12 := (by decide); omega) q5831_z
    subst yq5831_z
    replace hm_z : rn _ _ _ _ [.int 0] _ _ _ := hm_z
    replace hm_z := rn_ifT (am_cur_of (i := (53, 3, .ifCond .eq 7, (32, 0, 0), 0)) (by decide +kernel)) (by decide) hm_z
    replace hm_z := rn_aload_n (am_cur_of (i := (60, 1, .aload_n 0, (0, 0, 0), 0)) (by decide +kernel)) g0m hm_z
    replace hm_z := rn_bipush (w := 13) (am_cur_of (i := (61, 2, .bipush 13, (0, 0, 0), 0)) (by decide +kernel)) (by decide) hm_z
    replace hm_z := rn_callV (M' := am_m174) (o := 164) (ar := [.int 13]) (rest := []) (L := lv_args 0 [.ref 164, .int 13]) (am_cur_of (i := (63, 3, .invokevirtual 306, (174, 1727, 3), 0)) (by decide +kernel)) rfl rfl rfl rfl hm_z
    obtain ⟨r5832_z, h5833_z, q5834_z, hm_z⟩ := hm_z
    obtain ⟨rfl, yq5834_z⟩ := rp_kyN (fun q => by have zz := congrArg Int32.toInt q.2; have zy := congrArg Int32.toInt kd; have zx : (13 : Int32).toInt = 13 := (by decide); omega) q5834_z
    subst yq5834_z
    replace hm_z : rn _ _ _ _ [.int 0] _ _ _ := hm_z
    replace hm_z := rn_ifT (am_cur_of (i := (66, 3, .ifCond .eq 7, (38, 0, 0), 0)) (by decide +kernel)) (by decide) hm_z
    replace hm_z := rn_aload_n (am_cur_of (i := (73, 1, .aload_n 0, (0, 0, 0), 0)) (by decide +kernel)) g0m hm_z
    replace hm_z := rn_getI (v := 1) (am_cur_of (i := (74, 3, .getfield 157, (12, 8, 1392), 0)) (by decide +kernel)) (by decide +kernel) kc hm_z
    replace hm_z := rn_iconst (w := 5) (am_cur_of (i := (77, 1, .iconst 5, (0, 0, 0), 0)) (by decide +kernel)) (by decide) hm_z
    replace hm_z := rn_cmpT (am_cur_of (i := (78, 3, .if_icmp .ne 12, (47, 0, 0), 0)) (by decide +kernel)) (by decide) hm_z
    replace hm_z := rn_aload_n (am_cur_of (i := (90, 1, .aload_n 0, (0, 0, 0), 0)) (by decide +kernel)) g0m hm_z
    replace hm_z := rn_bipush (w := 43) (am_cur_of (i := (91, 2, .bipush 43, (0, 0, 0), 0)) (by decide +kernel)) (by decide) hm_z
    replace hm_z := rn_callV (M' := am_m171) (o := 164) (ar := [.int 43]) (rest := []) (L := lv_args 0 [.ref 164, .int 43]) (am_cur_of (i := (93, 3, .invokevirtual 194, (171, 1715, 3), 0)) (by decide +kernel)) rfl rfl rfl rfl hm_z
    obtain ⟨r5835_z, h5836_z, q5837_z, hm_z⟩ := hm_z
    obtain ⟨rfl, yq5837_z⟩ := rp_sgN (fun q => absurd (Eq.trans (Eq.symm kc) q.1) (by decide)) q5837_z
    subst yq5837_z
    replace hm_z : rn _ _ _ _ [.int 0] _ _ _ := hm_z
    replace hm_z := rn_ifT (am_cur_of (i := (96, 3, .ifCond .eq 8, (53, 0, 0), 0)) (by decide +kernel)) (by decide) hm_z
    replace hm_z := rn_aload_n (am_cur_of (i := (104, 1, .aload_n 0, (0, 0, 0), 0)) (by decide +kernel)) g0m hm_z
    replace hm_z := rn_bipush (w := 45) (am_cur_of (i := (105, 2, .bipush 45, (0, 0, 0), 0)) (by decide +kernel)) (by decide) hm_z
    replace hm_z := rn_callV (M' := am_m171) (o := 164) (ar := [.int 45]) (rest := []) (L := lv_args 0 [.ref 164, .int 45]) (am_cur_of (i := (107, 3, .invokevirtual 194, (171, 1715, 3), 0)) (by decide +kernel)) rfl rfl rfl rfl hm_z
    obtain ⟨r5838_z, h5839_z, q5840_z, hm_z⟩ := hm_z
    obtain ⟨rfl, yq5840_z⟩ := rp_sgN (fun q => absurd (Eq.trans (Eq.symm kc) q.1) (by decide)) q5840_z
    subst yq5840_z
    replace hm_z : rn _ _ _ _ [.int 0] _ _ _ := hm_z
    replace hm_z := rn_ifT (am_cur_of (i := (110, 3, .ifCond .eq 8, (59, 0, 0), 0)) (by decide +kernel)) (by decide) hm_z
    replace hm_z := rn_aload_n (am_cur_of (i := (118, 1, .aload_n 0, (0, 0, 0), 0)) (by decide +kernel)) g0m hm_z
    replace hm_z := rn_bipush (w := 42) (am_cur_of (i := (119, 2, .bipush 42, (0, 0, 0), 0)) (by decide +kernel)) (by decide) hm_z
    replace hm_z := rn_callV (M' := am_m171) (o := 164) (ar := [.int 42]) (rest := []) (L := lv_args 0 [.ref 164, .int 42]) (am_cur_of (i := (121, 3, .invokevirtual 194, (171, 1715, 3), 0)) (by decide +kernel)) rfl rfl rfl rfl hm_z
    obtain ⟨r5841_z, h5842_z, q5843_z, hm_z⟩ := hm_z
    obtain ⟨rfl, yq5843_z⟩ := rp_sgN (fun q => absurd (Eq.trans (Eq.symm kc) q.1) (by decide)) q5843_z
    subst yq5843_z
    replace hm_z : rn _ _ _ _ [.int 0] _ _ _ := hm_z
    replace hm_z := rn_ifT (am_cur_of (i := (124, 3, .ifCond .eq 8, (65, 0, 0), 0)) (by decide +kernel)) (by decide) hm_z
    replace hm_z := rn_aload_n (am_cur_of (i := (132, 1, .aload_n 0, (0, 0, 0), 0)) (by decide +kernel)) g0m hm_z
    replace hm_z := rn_bipush (w := 47) (am_cur_of (i := (133, 2, .bipush 47, (0, 0, 0), 0)) (by decide +kernel)) (by decide) hm_z
    replace hm_z := rn_callV (M' := am_m171) (o := 164) (ar := [.int 47]) (rest := []) (L := lv_args 0 [.ref 164, .int 47]) (am_cur_of (i := (135, 3, .invokevirtual 194, (171, 1715, 3), 0)) (by decide +kernel)) rfl rfl rfl rfl hm_z
    obtain ⟨r5844_z, h5845_z, q5846_z, hm_z⟩ := hm_z
    obtain ⟨rfl, yq5846_z⟩ := rp_sgN (fun q => absurd (Eq.trans (Eq.symm kc) q.1) (by decide)) q5846_z
    subst yq5846_z
    replace hm_z : rn _ _ _ _ [.int 0] _ _ _ := hm_z
    replace hm_z := rn_ifT (am_cur_of (i := (138, 3, .ifCond .eq 8, (71, 0, 0), 0)) (by decide +kernel)) (by decide) hm_z
    replace hm_z := rn_iconst (w := 0) (am_cur_of (i := (146, 1, .iconst 0, (0, 0, 0), 0)) (by decide +kernel)) (by decide) hm_z
    replace hm_z := rn_istore_n (am_cur_of (i := (147, 1, .istore_n 1, (0, 0, 0), 0)) (by decide +kernel)) hm_z
    obtain ⟨_, s5847_z, s5848_z, g1m, hm_z⟩ := hm_z
    replace g0m := s5847_z 0 _ (by decide) rfl g0m
    clear s5847_z s5848_z
    replace hm_z := rn_iload_n (am_cur_of (i := (148, 1, .iload_n 1, (0, 0, 0), 0)) (by decide +kernel)) g1m hm_z
    replace hm_z := rn_ifF (am_cur_of (i := (149, 3, .ifCond .ne 9, (79, 0, 0), 0)) (by decide +kernel)) (by decide) hm_z
    replace hm_z := rn_aload_n (am_cur_of (i := (152, 1, .aload_n 0, (0, 0, 0), 0)) (by decide +kernel)) g0m hm_z
    replace hm_z := rn_iconst (w := 1) (am_cur_of (i := (153, 1, .iconst 1, (0, 0, 0), 0)) (by decide +kernel)) (by decide) hm_z
    replace hm_z := rn_callV (M' := am_m158) (o := 164) (ar := [.int 1]) (rest := []) (L := lv_args 0 [.ref 164, .int 1]) (am_cur_of (i := (154, 3, .invokevirtual 181, (158, 1665, 3), 0)) (by decide +kernel)) rfl rfl rfl rfl hm_z
    obtain ⟨r5849_z, h5850_z, q5851_z, hm_z⟩ := hm_z
    obtain ⟨rfl, yq5851_z⟩ := rp_wrong q5851_z
    subst yq5851_z
    replace hm_z : rn _ _ _ _ [.int 0] _ _ _ := hm_z
    replace hm_z := rn_iret (am_cur_of (i := (157, 1, .ireturn, (0, 0, 0), 0)) (by decide +kernel)) hm_z
    obtain ⟨e5852_z, e5853_z⟩ := hm_z
    subst e5852_z e5853_z
    exact Or.inl (Or.inr ⟨rfl, 1, by decide, K.1, K.2, rfl, R6⟩)
theorem rj_c4_23 {T : Nat → Int32} {S x p : Int32} {n n' : Nat} {h h' g g' : am_H} {r r' : Option Value} (R : rq T S x p 23 h g) (A : rp 23 h g) (B : rp_t h g) (Z : rs 23 h g) (w0_z : rg_v g 164 45 = 0) (ka : (rg_v h 44 10) = 2) (kc : (rg_v g 164 8) = 1) (kb : (rg_v h 44 11) = 11) (kd : (rg_v g 164 9) = 11) (hc_z : rn n am_m44 0 (lv_args 0 [.ref 44]) [] h r h') (hm_z : rn n' am_m178 0 (lv_args 0 [.ref 164]) [] g r' g') : rj_Q T S x p 23 h g h' g' r r' := by
  have z0_z : (0 : Int32).toInt = 0 := by decide
  have g0_z : am_get (lv_args 0 [.ref 44]) 0 = some (.ref 44) := rfl
  have g0m : am_get (lv_args 0 [.ref 164]) 0 = some (.ref 164) := rfl
  have Rk := R
  have Zk := Z
  obtain ⟨⟨c1_z, c2_z, c3_z, c4_z, c5_z, c6_z, c7_z, c8_z⟩, ⟨m2_z, m3_z, m4_z, m5_z, m6_z, m7_z, m8_z⟩, R3, R4, R5, R6, R7, R8, R9, R10⟩ := (R : rq T S x p 23 h g)
  obtain ⟨np, op, z1_z, z2_z, z3_z, z4_z, z5_z, z6_z, z7_z, z8_z, z9_z, z10_z⟩ := (Z : rs 23 h g)
  obtain ⟨nk1_z, nk2_z, nk3_z⟩ := A.2.2.2.2.2.1
  replace nk1_z : rg_v h 32 0 = rg_v g 164 44 := nk1_z
  replace nk2_z : 0 ≤ (rg_v h 32 0).toInt := nk2_z
  replace nk3_z : (rg_v h 32 0).toInt ≤ 64 := nk3_z
  replace z8_z : np.toInt ≤ (rg_v h 32 0).toInt + op.toInt := z8_z
  obtain ⟨kn, ekn⟩ : ∃ v, rg_v h 32 0 = v := ⟨_, rfl⟩
  rw [ekn] at nk1_z nk2_z nk3_z z8_z
  have e9_z := rt_c1 (x := kn) (by omega) (by omega)
  replace hc_z := rn_aload_n (am_cur_of (i := (0, 1, .aload_n 0, (0, 0, 0), 0)) (by decide +kernel)) g0_z hc_z
  replace hc_z := rn_bipush (w := 41) (am_cur_of (i := (1, 2, .bipush 41, (0, 0, 0), 0)) (by decide +kernel)) (by decide) hc_z
  replace hc_z := rn_callV (M' := am_m45) (o := 44) (ar := [.int 41]) (rest := []) (L := lv_args 0 [.ref 44, .int 41]) (am_cur_of (i := (3, 3, .invokevirtual 105, (45, 834, 3), 0)) (by decide +kernel)) rfl rfl rfl rfl hc_z
  obtain ⟨r5854_z, h5855_z, q5856_z, hc_z⟩ := hc_z
  obtain ⟨rfl, yq5856_z⟩ := rp_mkN (fun q => absurd (Eq.trans (Eq.symm ka) q.1) (by decide)) q5856_z
  subst yq5856_z
  replace hc_z : rn _ _ _ _ [.int 0] _ _ _ := hc_z
  replace hc_z := rn_ifT (am_cur_of (i := (6, 3, .ifCond .eq 45, (28, 0, 0), 0)) (by decide +kernel)) (by decide) hc_z
  replace hc_z := rn_aload_n (am_cur_of (i := (51, 1, .aload_n 0, (0, 0, 0), 0)) (by decide +kernel)) g0_z hc_z
  replace hc_z := rn_getI (v := 2) (am_cur_of (i := (52, 3, .getfield 60, (4, 10, 419), 0)) (by decide +kernel)) (by decide +kernel) ka hc_z
  replace hc_z := rn_bipush (w := 6) (am_cur_of (i := (55, 2, .bipush 6, (0, 0, 0), 0)) (by decide +kernel)) (by decide) hc_z
  replace hc_z := rn_cmpT (am_cur_of (i := (57, 3, .if_icmp .ne 11, (36, 0, 0), 0)) (by decide +kernel)) (by decide) hc_z
  replace hc_z := rn_aload_n (am_cur_of (i := (68, 1, .aload_n 0, (0, 0, 0), 0)) (by decide +kernel)) g0_z hc_z
  replace hc_z := rn_getI (v := op) (am_cur_of (i := (69, 3, .getfield 254, (4, 14, 423), 0)) (by decide +kernel)) (by decide +kernel) z4_z hc_z
  replace hc_z := rn_if (am_cur_of (i := (72, 3, .ifCond .le 8, (42, 0, 0), 0)) (by decide +kernel)) hc_z
  rcases hc_z with ⟨b5857_z, hc_z⟩ | ⟨b5857_z, hc_z⟩
  · replace b5857_z : op.toInt ≤ (0 : Int32).toInt := b5857_z
    replace hc_z := rn_iconst (w := 3) (am_cur_of (i := (80, 1, .iconst 3, (0, 0, 0), 0)) (by decide +kernel)) (by decide) hc_z
    replace hc_z := rn_iret (am_cur_of (i := (81, 1, .ireturn, (0, 0, 0), 0)) (by decide +kernel)) hc_z
    obtain ⟨e5858_z, e5859_z⟩ := hc_z
    replace hm_z := rn_aload_n (am_cur_of (i := (0, 1, .aload_n 0, (0, 0, 0), 0)) (by decide +kernel)) g0m hm_z
    replace hm_z := rn_bipush (w := 41) (am_cur_of (i := (1, 2, .bipush 41, (0, 0, 0), 0)) (by decide +kernel)) (by decide) hm_z
    replace hm_z := rn_callV (M' := am_m171) (o := 164) (ar := [.int 41]) (rest := []) (L := lv_args 0 [.ref 164, .int 41]) (am_cur_of (i := (3, 3, .invokevirtual 194, (171, 1715, 3), 0)) (by decide +kernel)) rfl rfl rfl rfl hm_z
    obtain ⟨r5860_z, h5861_z, q5862_z, hm_z⟩ := hm_z
    obtain ⟨rfl, yq5862_z⟩ := rp_sgN (fun q => absurd (Eq.trans (Eq.symm kc) q.1) (by decide)) q5862_z
    subst yq5862_z
    replace hm_z : rn _ _ _ _ [.int 0] _ _ _ := hm_z
    replace hm_z := rn_ifT (am_cur_of (i := (6, 3, .ifCond .eq 41, (26, 0, 0), 0)) (by decide +kernel)) (by decide) hm_z
    replace hm_z := rn_aload_n (am_cur_of (i := (47, 1, .aload_n 0, (0, 0, 0), 0)) (by decide +kernel)) g0m hm_z
    replace hm_z := rn_bipush (w := 12) (am_cur_of (i := (48, 2, .bipush 12, (0, 0, 0), 0)) (by decide +kernel)) (by decide) hm_z
    replace hm_z := rn_callV (M' := am_m174) (o := 164) (ar := [.int 12]) (rest := []) (L := lv_args 0 [.ref 164, .int 12]) (am_cur_of (i := (50, 3, .invokevirtual 306, (174, 1727, 3), 0)) (by decide +kernel)) rfl rfl rfl rfl hm_z
    obtain ⟨r5863_z, h5864_z, q5865_z, hm_z⟩ := hm_z
    obtain ⟨rfl, yq5865_z⟩ := rp_kyN (fun q => absurd (Eq.trans (Eq.symm kd) q.2) (by decide)) q5865_z
    subst yq5865_z
    replace hm_z : rn _ _ _ _ [.int 0] _ _ _ := hm_z
    replace hm_z := rn_ifT (am_cur_of (i := (53, 3, .ifCond .eq 7, (32, 0, 0), 0)) (by decide +kernel)) (by decide) hm_z
    replace hm_z := rn_aload_n (am_cur_of (i := (60, 1, .aload_n 0, (0, 0, 0), 0)) (by decide +kernel)) g0m hm_z
    replace hm_z := rn_bipush (w := 13) (am_cur_of (i := (61, 2, .bipush 13, (0, 0, 0), 0)) (by decide +kernel)) (by decide) hm_z
    replace hm_z := rn_callV (M' := am_m174) (o := 164) (ar := [.int 13]) (rest := []) (L := lv_args 0 [.ref 164, .int 13]) (am_cur_of (i := (63, 3, .invokevirtual 306, (174, 1727, 3), 0)) (by decide +kernel)) rfl rfl rfl rfl hm_z
    obtain ⟨r5866_z, h5867_z, q5868_z, hm_z⟩ := hm_z
    obtain ⟨rfl, yq5868_z⟩ := rp_kyN (fun q => absurd (Eq.trans (Eq.symm kd) q.2) (by decide)) q5868_z
    subst yq5868_z
    replace hm_z : rn _ _ _ _ [.int 0] _ _ _ := hm_z
    replace hm_z := rn_ifT (am_cur_of (i := (66, 3, .ifCond .eq 7, (38, 0, 0), 0)) (by decide +kernel)) (by decide) hm_z
    replace hm_z := rn_aload_n (am_cur_of (i := (73, 1, .aload_n 0, (0, 0, 0), 0)) (by decide +kernel)) g0m hm_z
    replace hm_z := rn_getI (v := 1) (am_cur_of (i := (74, 3, .getfield 157, (12, 8, 1392), 0)) (by decide +kernel)) (by decide +kernel) kc hm_z
    replace hm_z := rn_iconst (w := 5) (am_cur_of (i := (77, 1, .iconst 5, (0, 0, 0), 0)) (by decide +kernel)) (by decide) hm_z
    replace hm_z := rn_cmpT (am_cur_of (i := (78, 3, .if_icmp .ne 12, (47, 0, 0), 0)) (by decide +kernel)) (by decide) hm_z
    replace hm_z := rn_aload_n (am_cur_of (i := (90, 1, .aload_n 0, (0, 0, 0), 0)) (by decide +kernel)) g0m hm_z
    replace hm_z := rn_bipush (w := 43) (am_cur_of (i := (91, 2, .bipush 43, (0, 0, 0), 0)) (by decide +kernel)) (by decide) hm_z
    replace hm_z := rn_callV (M' := am_m171) (o := 164) (ar := [.int 43]) (rest := []) (L := lv_args 0 [.ref 164, .int 43]) (am_cur_of (i := (93, 3, .invokevirtual 194, (171, 1715, 3), 0)) (by decide +kernel)) rfl rfl rfl rfl hm_z
    obtain ⟨r5869_z, h5870_z, q5871_z, hm_z⟩ := hm_z
    obtain ⟨rfl, yq5871_z⟩ := rp_sgN (fun q => absurd (Eq.trans (Eq.symm kc) q.1) (by decide)) q5871_z
    subst yq5871_z
    replace hm_z : rn _ _ _ _ [.int 0] _ _ _ := hm_z
    replace hm_z := rn_ifT (am_cur_of (i := (96, 3, .ifCond .eq 8, (53, 0, 0), 0)) (by decide +kernel)) (by decide) hm_z
    replace hm_z := rn_aload_n (am_cur_of (i := (104, 1, .aload_n 0, (0, 0, 0), 0)) (by decide +kernel)) g0m hm_z
    replace hm_z := rn_bipush (w := 45) (am_cur_of (i := (105, 2, .bipush 45, (0, 0, 0), 0)) (by decide +kernel)) (by decide) hm_z
    replace hm_z := rn_callV (M' := am_m171) (o := 164) (ar := [.int 45]) (rest := []) (L := lv_args 0 [.ref 164, .int 45]) (am_cur_of (i := (107, 3, .invokevirtual 194, (171, 1715, 3), 0)) (by decide +kernel)) rfl rfl rfl rfl hm_z
    obtain ⟨r5872_z, h5873_z, q5874_z, hm_z⟩ := hm_z
    obtain ⟨rfl, yq5874_z⟩ := rp_sgN (fun q => absurd (Eq.trans (Eq.symm kc) q.1) (by decide)) q5874_z
    subst yq5874_z
    replace hm_z : rn _ _ _ _ [.int 0] _ _ _ := hm_z
    replace hm_z := rn_ifT (am_cur_of (i := (110, 3, .ifCond .eq 8, (59, 0, 0), 0)) (by decide +kernel)) (by decide) hm_z
    replace hm_z := rn_aload_n (am_cur_of (i := (118, 1, .aload_n 0, (0, 0, 0), 0)) (by decide +kernel)) g0m hm_z
    replace hm_z := rn_bipush (w := 42) (am_cur_of (i := (119, 2, .bipush 42, (0, 0, 0), 0)) (by decide +kernel)) (by decide) hm_z
    replace hm_z := rn_callV (M' := am_m171) (o := 164) (ar := [.int 42]) (rest := []) (L := lv_args 0 [.ref 164, .int 42]) (am_cur_of (i := (121, 3, .invokevirtual 194, (171, 1715, 3), 0)) (by decide +kernel)) rfl rfl rfl rfl hm_z
    obtain ⟨r5875_z, h5876_z, q5877_z, hm_z⟩ := hm_z
    obtain ⟨rfl, yq5877_z⟩ := rp_sgN (fun q => absurd (Eq.trans (Eq.symm kc) q.1) (by decide)) q5877_z
    subst yq5877_z
    replace hm_z : rn _ _ _ _ [.int 0] _ _ _ := hm_z
    replace hm_z := rn_ifT (am_cur_of (i := (124, 3, .ifCond .eq 8, (65, 0, 0), 0)) (by decide +kernel)) (by decide) hm_z
    replace hm_z := rn_aload_n (am_cur_of (i := (132, 1, .aload_n 0, (0, 0, 0), 0)) (by decide +kernel)) g0m hm_z
    replace hm_z := rn_bipush (w := 47) (am_cur_of (i := (133, 2, .bipush 47, (0, 0, 0), 0)) (by decide +kernel)) (by decide) hm_z
    replace hm_z := rn_callV (M' := am_m171) (o := 164) (ar := [.int 47]) (rest := []) (L := lv_args 0 [.ref 164, .int 47]) (am_cur_of (i := (135, 3, .invokevirtual 194, (171, 1715, 3), 0)) (by decide +kernel)) rfl rfl rfl rfl hm_z
    obtain ⟨r5878_z, h5879_z, q5880_z, hm_z⟩ := hm_z
    obtain ⟨rfl, yq5880_z⟩ := rp_sgN (fun q => absurd (Eq.trans (Eq.symm kc) q.1) (by decide)) q5880_z
    subst yq5880_z
    replace hm_z : rn _ _ _ _ [.int 0] _ _ _ := hm_z
    replace hm_z := rn_ifT (am_cur_of (i := (138, 3, .ifCond .eq 8, (71, 0, 0), 0)) (by decide +kernel)) (by decide) hm_z
    replace hm_z := rn_iconst (w := 0) (am_cur_of (i := (146, 1, .iconst 0, (0, 0, 0), 0)) (by decide +kernel)) (by decide) hm_z
    replace hm_z := rn_istore_n (am_cur_of (i := (147, 1, .istore_n 1, (0, 0, 0), 0)) (by decide +kernel)) hm_z
    obtain ⟨_, s5881_z, s5882_z, g1m, hm_z⟩ := hm_z
    replace g0m := s5881_z 0 _ (by decide) rfl g0m
    clear s5881_z s5882_z
    replace hm_z := rn_iload_n (am_cur_of (i := (148, 1, .iload_n 1, (0, 0, 0), 0)) (by decide +kernel)) g1m hm_z
    replace hm_z := rn_ifF (am_cur_of (i := (149, 3, .ifCond .ne 9, (79, 0, 0), 0)) (by decide +kernel)) (by decide) hm_z
    replace hm_z := rn_aload_n (am_cur_of (i := (152, 1, .aload_n 0, (0, 0, 0), 0)) (by decide +kernel)) g0m hm_z
    replace hm_z := rn_iconst (w := 1) (am_cur_of (i := (153, 1, .iconst 1, (0, 0, 0), 0)) (by decide +kernel)) (by decide) hm_z
    replace hm_z := rn_callV (M' := am_m158) (o := 164) (ar := [.int 1]) (rest := []) (L := lv_args 0 [.ref 164, .int 1]) (am_cur_of (i := (154, 3, .invokevirtual 181, (158, 1665, 3), 0)) (by decide +kernel)) rfl rfl rfl rfl hm_z
    obtain ⟨r5883_z, h5884_z, q5885_z, hm_z⟩ := hm_z
    obtain ⟨rfl, yq5885_z⟩ := rp_wrong q5885_z
    subst yq5885_z
    replace hm_z : rn _ _ _ _ [.int 0] _ _ _ := hm_z
    replace hm_z := rn_iret (am_cur_of (i := (157, 1, .ireturn, (0, 0, 0), 0)) (by decide +kernel)) hm_z
    obtain ⟨e5886_z, e5887_z⟩ := hm_z
    subst e5859_z e5887_z
    exact Or.inr ⟨e5858_z, rfl, z4_z.trans (rt_i32 (by rw [show (0 : Int32).toInt = 0 by decide]; omega)), e5886_z, rfl⟩
  · replace b5857_z : (0 : Int32).toInt < op.toInt := b5857_z
    replace hc_z := rn_aload_n (am_cur_of (i := (75, 1, .aload_n 0, (0, 0, 0), 0)) (by decide +kernel)) g0_z hc_z
    replace hc_z := rn_iconst (w := 1) (am_cur_of (i := (76, 1, .iconst 1, (0, 0, 0), 0)) (by decide +kernel)) (by decide) hc_z
    replace hc_z := rn_callV (M' := am_m29) (o := 44) (ar := [.int 1]) (rest := []) (L := lv_args 0 [.ref 44, .int 1]) (am_cur_of (i := (77, 3, .invokevirtual 108, (29, 769, 3), 0)) (by decide +kernel)) rfl rfl rfl rfl hc_z
    obtain ⟨r5888_z, h5889_z, q5890_z, hc_z⟩ := hc_z
    obtain ⟨rfl, yq5890_z⟩ := rp_fail R4 q5890_z
    subst yq5890_z
    replace hc_z : rn _ _ _ _ [] _ _ _ := hc_z
    have K := rs_stick (w := 1) (q := p) (a := 44) (by decide) (by decide) rfl (by decide) rfl (show rg_v (am_up (am_up h 44 1 (.int 1)) 44 2 (.int (rg_v h 44 9))) 44 2 = p from R5) hc_z
    replace hm_z := rn_aload_n (am_cur_of (i := (0, 1, .aload_n 0, (0, 0, 0), 0)) (by decide +kernel)) g0m hm_z
    replace hm_z := rn_bipush (w := 41) (am_cur_of (i := (1, 2, .bipush 41, (0, 0, 0), 0)) (by decide +kernel)) (by decide) hm_z
    replace hm_z := rn_callV (M' := am_m171) (o := 164) (ar := [.int 41]) (rest := []) (L := lv_args 0 [.ref 164, .int 41]) (am_cur_of (i := (3, 3, .invokevirtual 194, (171, 1715, 3), 0)) (by decide +kernel)) rfl rfl rfl rfl hm_z
    obtain ⟨r5891_z, h5892_z, q5893_z, hm_z⟩ := hm_z
    obtain ⟨rfl, yq5893_z⟩ := rp_sgN (fun q => absurd (Eq.trans (Eq.symm kc) q.1) (by decide)) q5893_z
    subst yq5893_z
    replace hm_z : rn _ _ _ _ [.int 0] _ _ _ := hm_z
    replace hm_z := rn_ifT (am_cur_of (i := (6, 3, .ifCond .eq 41, (26, 0, 0), 0)) (by decide +kernel)) (by decide) hm_z
    replace hm_z := rn_aload_n (am_cur_of (i := (47, 1, .aload_n 0, (0, 0, 0), 0)) (by decide +kernel)) g0m hm_z
    replace hm_z := rn_bipush (w := 12) (am_cur_of (i := (48, 2, .bipush 12, (0, 0, 0), 0)) (by decide +kernel)) (by decide) hm_z
    replace hm_z := rn_callV (M' := am_m174) (o := 164) (ar := [.int 12]) (rest := []) (L := lv_args 0 [.ref 164, .int 12]) (am_cur_of (i := (50, 3, .invokevirtual 306, (174, 1727, 3), 0)) (by decide +kernel)) rfl rfl rfl rfl hm_z
    obtain ⟨r5894_z, h5895_z, q5896_z, hm_z⟩ := hm_z
    obtain ⟨rfl, yq5896_z⟩ := rp_kyN (fun q => absurd (Eq.trans (Eq.symm kd) q.2) (by decide)) q5896_z
    subst yq5896_z
    replace hm_z : rn _ _ _ _ [.int 0] _ _ _ := hm_z
    replace hm_z := rn_ifT (am_cur_of (i := (53, 3, .ifCond .eq 7, (32, 0, 0), 0)) (by decide +kernel)) (by decide) hm_z
    replace hm_z := rn_aload_n (am_cur_of (i := (60, 1, .aload_n 0, (0, 0, 0), 0)) (by decide +kernel)) g0m hm_z
    replace hm_z := rn_bipush (w := 13) (am_cur_of (i := (61, 2, .bipush 13, (0, 0, 0), 0)) (by decide +kernel)) (by decide) hm_z
    replace hm_z := rn_callV (M' := am_m174) (o := 164) (ar := [.int 13]) (rest := []) (L := lv_args 0 [.ref 164, .int 13]) (am_cur_of (i := (63, 3, .invokevirtual 306, (174, 1727, 3), 0)) (by decide +kernel)) rfl rfl rfl rfl hm_z
    obtain ⟨r5897_z, h5898_z, q5899_z, hm_z⟩ := hm_z
    obtain ⟨rfl, yq5899_z⟩ := rp_kyN (fun q => absurd (Eq.trans (Eq.symm kd) q.2) (by decide)) q5899_z
    subst yq5899_z
    replace hm_z : rn _ _ _ _ [.int 0] _ _ _ := hm_z
    replace hm_z := rn_ifT (am_cur_of (i := (66, 3, .ifCond .eq 7, (38, 0, 0), 0)) (by decide +kernel)) (by decide) hm_z
    replace hm_z := rn_aload_n (am_cur_of (i := (73, 1, .aload_n 0, (0, 0, 0), 0)) (by decide +kernel)) g0m hm_z
    replace hm_z := rn_getI (v := 1) (am_cur_of (i := (74, 3, .getfield 157, (12, 8, 1392), 0)) (by decide +kernel)) (by decide +kernel) kc hm_z
    replace hm_z := rn_iconst (w := 5) (am_cur_of (i := (77, 1, .iconst 5, (0, 0, 0), 0)) (by decide +kernel)) (by decide) hm_z
    replace hm_z := rn_cmpT (am_cur_of (i := (78, 3, .if_icmp .ne 12, (47, 0, 0), 0)) (by decide +kernel)) (by decide) hm_z
    replace hm_z := rn_aload_n (am_cur_of (i := (90, 1, .aload_n 0, (0, 0, 0), 0)) (by decide +kernel)) g0m hm_z
    replace hm_z := rn_bipush (w := 43) (am_cur_of (i := (91, 2, .bipush 43, (0, 0, 0), 0)) (by decide +kernel)) (by decide) hm_z
    replace hm_z := rn_callV (M' := am_m171) (o := 164) (ar := [.int 43]) (rest := []) (L := lv_args 0 [.ref 164, .int 43]) (am_cur_of (i := (93, 3, .invokevirtual 194, (171, 1715, 3), 0)) (by decide +kernel)) rfl rfl rfl rfl hm_z
    obtain ⟨r5900_z, h5901_z, q5902_z, hm_z⟩ := hm_z
    obtain ⟨rfl, yq5902_z⟩ := rp_sgN (fun q => absurd (Eq.trans (Eq.symm kc) q.1) (by decide)) q5902_z
    subst yq5902_z
    replace hm_z : rn _ _ _ _ [.int 0] _ _ _ := hm_z
    replace hm_z := rn_ifT (am_cur_of (i := (96, 3, .ifCond .eq 8, (53, 0, 0), 0)) (by decide +kernel)) (by decide) hm_z
    replace hm_z := rn_aload_n (am_cur_of (i := (104, 1, .aload_n 0, (0, 0, 0), 0)) (by decide +kernel)) g0m hm_z
    replace hm_z := rn_bipush (w := 45) (am_cur_of (i := (105, 2, .bipush 45, (0, 0, 0), 0)) (by decide +kernel)) (by decide) hm_z
    replace hm_z := rn_callV (M' := am_m171) (o := 164) (ar := [.int 45]) (rest := []) (L := lv_args 0 [.ref 164, .int 45]) (am_cur_of (i := (107, 3, .invokevirtual 194, (171, 1715, 3), 0)) (by decide +kernel)) rfl rfl rfl rfl hm_z
    obtain ⟨r5903_z, h5904_z, q5905_z, hm_z⟩ := hm_z
    obtain ⟨rfl, yq5905_z⟩ := rp_sgN (fun q => absurd (Eq.trans (Eq.symm kc) q.1) (by decide)) q5905_z
    subst yq5905_z
    replace hm_z : rn _ _ _ _ [.int 0] _ _ _ := hm_z
    replace hm_z := rn_ifT (am_cur_of (i := (110, 3, .ifCond .eq 8, (59, 0, 0), 0)) (by decide +kernel)) (by decide) hm_z
    replace hm_z := rn_aload_n (am_cur_of (i := (118, 1, .aload_n 0, (0, 0, 0), 0)) (by decide +kernel)) g0m hm_z
    replace hm_z := rn_bipush (w := 42) (am_cur_of (i := (119, 2, .bipush 42, (0, 0, 0), 0)) (by decide +kernel)) (by decide) hm_z
    replace hm_z := rn_callV (M' := am_m171) (o := 164) (ar := [.int 42]) (rest := []) (L := lv_args 0 [.ref 164, .int 42]) (am_cur_of (i := (121, 3, .invokevirtual 194, (171, 1715, 3), 0)) (by decide +kernel)) rfl rfl rfl rfl hm_z
    obtain ⟨r5906_z, h5907_z, q5908_z, hm_z⟩ := hm_z
    obtain ⟨rfl, yq5908_z⟩ := rp_sgN (fun q => absurd (Eq.trans (Eq.symm kc) q.1) (by decide)) q5908_z
    subst yq5908_z
    replace hm_z : rn _ _ _ _ [.int 0] _ _ _ := hm_z
    replace hm_z := rn_ifT (am_cur_of (i := (124, 3, .ifCond .eq 8, (65, 0, 0), 0)) (by decide +kernel)) (by decide) hm_z
    replace hm_z := rn_aload_n (am_cur_of (i := (132, 1, .aload_n 0, (0, 0, 0), 0)) (by decide +kernel)) g0m hm_z
    replace hm_z := rn_bipush (w := 47) (am_cur_of (i := (133, 2, .bipush 47, (0, 0, 0), 0)) (by decide +kernel)) (by decide) hm_z
    replace hm_z := rn_callV (M' := am_m171) (o := 164) (ar := [.int 47]) (rest := []) (L := lv_args 0 [.ref 164, .int 47]) (am_cur_of (i := (135, 3, .invokevirtual 194, (171, 1715, 3), 0)) (by decide +kernel)) rfl rfl rfl rfl hm_z
    obtain ⟨r5909_z, h5910_z, q5911_z, hm_z⟩ := hm_z
    obtain ⟨rfl, yq5911_z⟩ := rp_sgN (fun q => absurd (Eq.trans (Eq.symm kc) q.1) (by decide)) q5911_z
    subst yq5911_z
    replace hm_z : rn _ _ _ _ [.int 0] _ _ _ := hm_z
    replace hm_z := rn_ifT (am_cur_of (i := (138, 3, .ifCond .eq 8, (71, 0, 0), 0)) (by decide +kernel)) (by decide) hm_z
    replace hm_z := rn_iconst (w := 0) (am_cur_of (i := (146, 1, .iconst 0, (0, 0, 0), 0)) (by decide +kernel)) (by decide) hm_z
    replace hm_z := rn_istore_n (am_cur_of (i := (147, 1, .istore_n 1, (0, 0, 0), 0)) (by decide +kernel)) hm_z
    obtain ⟨_, s5912_z, s5913_z, g1m, hm_z⟩ := hm_z
    replace g0m := s5912_z 0 _ (by decide) rfl g0m
    clear s5912_z s5913_z
    replace hm_z := rn_iload_n (am_cur_of (i := (148, 1, .iload_n 1, (0, 0, 0), 0)) (by decide +kernel)) g1m hm_z
    replace hm_z := rn_ifF (am_cur_of (i := (149, 3, .ifCond .ne 9, (79, 0, 0), 0)) (by decide +kernel)) (by decide) hm_z
    replace hm_z := rn_aload_n (am_cur_of (i := (152, 1, .aload_n 0, (0, 0, 0), 0)) (by decide +kernel)) g0m hm_z
    replace hm_z := rn_iconst (w := 1) (am_cur_of (i := (153, 1, .iconst 1, (0, 0, 0), 0)) (by decide +kernel)) (by decide) hm_z
    replace hm_z := rn_callV (M' := am_m158) (o := 164) (ar := [.int 1]) (rest := []) (L := lv_args 0 [.ref 164, .int 1]) (am_cur_of (i := (154, 3, .invokevirtual 181, (158, 1665, 3), 0)) (by decide +kernel)) rfl rfl rfl rfl hm_z
    obtain ⟨r5914_z, h5915_z, q5916_z, hm_z⟩ := hm_z
    obtain ⟨rfl, yq5916_z⟩ := rp_wrong q5916_z
    subst yq5916_z
    replace hm_z : rn _ _ _ _ [.int 0] _ _ _ := hm_z
    replace hm_z := rn_iret (am_cur_of (i := (157, 1, .ireturn, (0, 0, 0), 0)) (by decide +kernel)) hm_z
    obtain ⟨e5917_z, e5918_z⟩ := hm_z
    subst e5917_z e5918_z
    exact Or.inl (Or.inr ⟨rfl, 1, by decide, K.1, K.2, rfl, R6⟩)
theorem rj_c5_23 {T : Nat → Int32} {S x p : Int32} {n n' : Nat} {h h' g g' : am_H} {r r' : Option Value} (R : rq T S x p 23 h g) (A : rp 23 h g) (B : rp_t h g) (Z : rs 23 h g) (w0_z : rg_v g 164 45 = 0) (ka : (rg_v h 44 10) = 2) (kc : (rg_v g 164 8) = 1) (kb : (rg_v h 44 11) = 12) (kd : (rg_v g 164 9) = 15) (hc_z : rn n am_m44 0 (lv_args 0 [.ref 44]) [] h r h') (hm_z : rn n' am_m178 0 (lv_args 0 [.ref 164]) [] g r' g') : rj_Q T S x p 23 h g h' g' r r' := by
  have z0_z : (0 : Int32).toInt = 0 := by decide
  have g0_z : am_get (lv_args 0 [.ref 44]) 0 = some (.ref 44) := rfl
  have g0m : am_get (lv_args 0 [.ref 164]) 0 = some (.ref 164) := rfl
  have Rk := R
  have Zk := Z
  obtain ⟨⟨c1_z, c2_z, c3_z, c4_z, c5_z, c6_z, c7_z, c8_z⟩, ⟨m2_z, m3_z, m4_z, m5_z, m6_z, m7_z, m8_z⟩, R3, R4, R5, R6, R7, R8, R9, R10⟩ := (R : rq T S x p 23 h g)
  obtain ⟨np, op, z1_z, z2_z, z3_z, z4_z, z5_z, z6_z, z7_z, z8_z, z9_z, z10_z⟩ := (Z : rs 23 h g)
  obtain ⟨nk1_z, nk2_z, nk3_z⟩ := A.2.2.2.2.2.1
  replace nk1_z : rg_v h 32 0 = rg_v g 164 44 := nk1_z
  replace nk2_z : 0 ≤ (rg_v h 32 0).toInt := nk2_z
  replace nk3_z : (rg_v h 32 0).toInt ≤ 64 := nk3_z
  replace z8_z : np.toInt ≤ (rg_v h 32 0).toInt + op.toInt := z8_z
  obtain ⟨kn, ekn⟩ : ∃ v, rg_v h 32 0 = v := ⟨_, rfl⟩
  rw [ekn] at nk1_z nk2_z nk3_z z8_z
  have e9_z := rt_c1 (x := kn) (by omega) (by omega)
  replace hc_z := rn_aload_n (am_cur_of (i := (0, 1, .aload_n 0, (0, 0, 0), 0)) (by decide +kernel)) g0_z hc_z
  replace hc_z := rn_bipush (w := 41) (am_cur_of (i := (1, 2, .bipush 41, (0, 0, 0), 0)) (by decide +kernel)) (by decide) hc_z
  replace hc_z := rn_callV (M' := am_m45) (o := 44) (ar := [.int 41]) (rest := []) (L := lv_args 0 [.ref 44, .int 41]) (am_cur_of (i := (3, 3, .invokevirtual 105, (45, 834, 3), 0)) (by decide +kernel)) rfl rfl rfl rfl hc_z
  obtain ⟨r5919_z, h5920_z, q5921_z, hc_z⟩ := hc_z
  obtain ⟨rfl, yq5921_z⟩ := rp_mkN (fun q => absurd (Eq.trans (Eq.symm ka) q.1) (by decide)) q5921_z
  subst yq5921_z
  replace hc_z : rn _ _ _ _ [.int 0] _ _ _ := hc_z
  replace hc_z := rn_ifT (am_cur_of (i := (6, 3, .ifCond .eq 45, (28, 0, 0), 0)) (by decide +kernel)) (by decide) hc_z
  replace hc_z := rn_aload_n (am_cur_of (i := (51, 1, .aload_n 0, (0, 0, 0), 0)) (by decide +kernel)) g0_z hc_z
  replace hc_z := rn_getI (v := 2) (am_cur_of (i := (52, 3, .getfield 60, (4, 10, 419), 0)) (by decide +kernel)) (by decide +kernel) ka hc_z
  replace hc_z := rn_bipush (w := 6) (am_cur_of (i := (55, 2, .bipush 6, (0, 0, 0), 0)) (by decide +kernel)) (by decide) hc_z
  replace hc_z := rn_cmpT (am_cur_of (i := (57, 3, .if_icmp .ne 11, (36, 0, 0), 0)) (by decide +kernel)) (by decide) hc_z
  replace hc_z := rn_aload_n (am_cur_of (i := (68, 1, .aload_n 0, (0, 0, 0), 0)) (by decide +kernel)) g0_z hc_z
  replace hc_z := rn_getI (v := op) (am_cur_of (i := (69, 3, .getfield 254, (4, 14, 423), 0)) (by decide +kernel)) (by decide +kernel) z4_z hc_z
  replace hc_z := rn_if (am_cur_of (i := (72, 3, .ifCond .le 8, (42, 0, 0), 0)) (by decide +kernel)) hc_z
  rcases hc_z with ⟨b5922_z, hc_z⟩ | ⟨b5922_z, hc_z⟩
  · replace b5922_z : op.toInt ≤ (0 : Int32).toInt := b5922_z
    replace hc_z := rn_iconst (w := 3) (am_cur_of (i := (80, 1, .iconst 3, (0, 0, 0), 0)) (by decide +kernel)) (by decide) hc_z
    replace hc_z := rn_iret (am_cur_of (i := (81, 1, .ireturn, (0, 0, 0), 0)) (by decide +kernel)) hc_z
    obtain ⟨e5923_z, e5924_z⟩ := hc_z
    replace hm_z := rn_aload_n (am_cur_of (i := (0, 1, .aload_n 0, (0, 0, 0), 0)) (by decide +kernel)) g0m hm_z
    replace hm_z := rn_bipush (w := 41) (am_cur_of (i := (1, 2, .bipush 41, (0, 0, 0), 0)) (by decide +kernel)) (by decide) hm_z
    replace hm_z := rn_callV (M' := am_m171) (o := 164) (ar := [.int 41]) (rest := []) (L := lv_args 0 [.ref 164, .int 41]) (am_cur_of (i := (3, 3, .invokevirtual 194, (171, 1715, 3), 0)) (by decide +kernel)) rfl rfl rfl rfl hm_z
    obtain ⟨r5925_z, h5926_z, q5927_z, hm_z⟩ := hm_z
    obtain ⟨rfl, yq5927_z⟩ := rp_sgN (fun q => absurd (Eq.trans (Eq.symm kc) q.1) (by decide)) q5927_z
    subst yq5927_z
    replace hm_z : rn _ _ _ _ [.int 0] _ _ _ := hm_z
    replace hm_z := rn_ifT (am_cur_of (i := (6, 3, .ifCond .eq 41, (26, 0, 0), 0)) (by decide +kernel)) (by decide) hm_z
    replace hm_z := rn_aload_n (am_cur_of (i := (47, 1, .aload_n 0, (0, 0, 0), 0)) (by decide +kernel)) g0m hm_z
    replace hm_z := rn_bipush (w := 12) (am_cur_of (i := (48, 2, .bipush 12, (0, 0, 0), 0)) (by decide +kernel)) (by decide) hm_z
    replace hm_z := rn_callV (M' := am_m174) (o := 164) (ar := [.int 12]) (rest := []) (L := lv_args 0 [.ref 164, .int 12]) (am_cur_of (i := (50, 3, .invokevirtual 306, (174, 1727, 3), 0)) (by decide +kernel)) rfl rfl rfl rfl hm_z
    obtain ⟨r5928_z, h5929_z, q5930_z, hm_z⟩ := hm_z
    obtain ⟨rfl, yq5930_z⟩ := rp_kyN (fun q => absurd (Eq.trans (Eq.symm kd) q.2) (by decide)) q5930_z
    subst yq5930_z
    replace hm_z : rn _ _ _ _ [.int 0] _ _ _ := hm_z
    replace hm_z := rn_ifT (am_cur_of (i := (53, 3, .ifCond .eq 7, (32, 0, 0), 0)) (by decide +kernel)) (by decide) hm_z
    replace hm_z := rn_aload_n (am_cur_of (i := (60, 1, .aload_n 0, (0, 0, 0), 0)) (by decide +kernel)) g0m hm_z
    replace hm_z := rn_bipush (w := 13) (am_cur_of (i := (61, 2, .bipush 13, (0, 0, 0), 0)) (by decide +kernel)) (by decide) hm_z
    replace hm_z := rn_callV (M' := am_m174) (o := 164) (ar := [.int 13]) (rest := []) (L := lv_args 0 [.ref 164, .int 13]) (am_cur_of (i := (63, 3, .invokevirtual 306, (174, 1727, 3), 0)) (by decide +kernel)) rfl rfl rfl rfl hm_z
    obtain ⟨r5931_z, h5932_z, q5933_z, hm_z⟩ := hm_z
    obtain ⟨rfl, yq5933_z⟩ := rp_kyN (fun q => absurd (Eq.trans (Eq.symm kd) q.2) (by decide)) q5933_z
    subst yq5933_z
    replace hm_z : rn _ _ _ _ [.int 0] _ _ _ := hm_z
    replace hm_z := rn_ifT (am_cur_of (i := (66, 3, .ifCond .eq 7, (38, 0, 0), 0)) (by decide +kernel)) (by decide) hm_z
    replace hm_z := rn_aload_n (am_cur_of (i := (73, 1, .aload_n 0, (0, 0, 0), 0)) (by decide +kernel)) g0m hm_z
    replace hm_z := rn_getI (v := 1) (am_cur_of (i := (74, 3, .getfield 157, (12, 8, 1392), 0)) (by decide +kernel)) (by decide +kernel) kc hm_z
    replace hm_z := rn_iconst (w := 5) (am_cur_of (i := (77, 1, .iconst 5, (0, 0, 0), 0)) (by decide +kernel)) (by decide) hm_z
    replace hm_z := rn_cmpT (am_cur_of (i := (78, 3, .if_icmp .ne 12, (47, 0, 0), 0)) (by decide +kernel)) (by decide) hm_z
    replace hm_z := rn_aload_n (am_cur_of (i := (90, 1, .aload_n 0, (0, 0, 0), 0)) (by decide +kernel)) g0m hm_z
    replace hm_z := rn_bipush (w := 43) (am_cur_of (i := (91, 2, .bipush 43, (0, 0, 0), 0)) (by decide +kernel)) (by decide) hm_z
    replace hm_z := rn_callV (M' := am_m171) (o := 164) (ar := [.int 43]) (rest := []) (L := lv_args 0 [.ref 164, .int 43]) (am_cur_of (i := (93, 3, .invokevirtual 194, (171, 1715, 3), 0)) (by decide +kernel)) rfl rfl rfl rfl hm_z
    obtain ⟨r5934_z, h5935_z, q5936_z, hm_z⟩ := hm_z
    obtain ⟨rfl, yq5936_z⟩ := rp_sgN (fun q => absurd (Eq.trans (Eq.symm kc) q.1) (by decide)) q5936_z
    subst yq5936_z
    replace hm_z : rn _ _ _ _ [.int 0] _ _ _ := hm_z
    replace hm_z := rn_ifT (am_cur_of (i := (96, 3, .ifCond .eq 8, (53, 0, 0), 0)) (by decide +kernel)) (by decide) hm_z
    replace hm_z := rn_aload_n (am_cur_of (i := (104, 1, .aload_n 0, (0, 0, 0), 0)) (by decide +kernel)) g0m hm_z
    replace hm_z := rn_bipush (w := 45) (am_cur_of (i := (105, 2, .bipush 45, (0, 0, 0), 0)) (by decide +kernel)) (by decide) hm_z
    replace hm_z := rn_callV (M' := am_m171) (o := 164) (ar := [.int 45]) (rest := []) (L := lv_args 0 [.ref 164, .int 45]) (am_cur_of (i := (107, 3, .invokevirtual 194, (171, 1715, 3), 0)) (by decide +kernel)) rfl rfl rfl rfl hm_z
    obtain ⟨r5937_z, h5938_z, q5939_z, hm_z⟩ := hm_z
    obtain ⟨rfl, yq5939_z⟩ := rp_sgN (fun q => absurd (Eq.trans (Eq.symm kc) q.1) (by decide)) q5939_z
    subst yq5939_z
    replace hm_z : rn _ _ _ _ [.int 0] _ _ _ := hm_z
    replace hm_z := rn_ifT (am_cur_of (i := (110, 3, .ifCond .eq 8, (59, 0, 0), 0)) (by decide +kernel)) (by decide) hm_z
    replace hm_z := rn_aload_n (am_cur_of (i := (118, 1, .aload_n 0, (0, 0, 0), 0)) (by decide +kernel)) g0m hm_z
    replace hm_z := rn_bipush (w := 42) (am_cur_of (i := (119, 2, .bipush 42, (0, 0, 0), 0)) (by decide +kernel)) (by decide) hm_z
    replace hm_z := rn_callV (M' := am_m171) (o := 164) (ar := [.int 42]) (rest := []) (L := lv_args 0 [.ref 164, .int 42]) (am_cur_of (i := (121, 3, .invokevirtual 194, (171, 1715, 3), 0)) (by decide +kernel)) rfl rfl rfl rfl hm_z
    obtain ⟨r5940_z, h5941_z, q5942_z, hm_z⟩ := hm_z
    obtain ⟨rfl, yq5942_z⟩ := rp_sgN (fun q => absurd (Eq.trans (Eq.symm kc) q.1) (by decide)) q5942_z
    subst yq5942_z
    replace hm_z : rn _ _ _ _ [.int 0] _ _ _ := hm_z
    replace hm_z := rn_ifT (am_cur_of (i := (124, 3, .ifCond .eq 8, (65, 0, 0), 0)) (by decide +kernel)) (by decide) hm_z
    replace hm_z := rn_aload_n (am_cur_of (i := (132, 1, .aload_n 0, (0, 0, 0), 0)) (by decide +kernel)) g0m hm_z
    replace hm_z := rn_bipush (w := 47) (am_cur_of (i := (133, 2, .bipush 47, (0, 0, 0), 0)) (by decide +kernel)) (by decide) hm_z
    replace hm_z := rn_callV (M' := am_m171) (o := 164) (ar := [.int 47]) (rest := []) (L := lv_args 0 [.ref 164, .int 47]) (am_cur_of (i := (135, 3, .invokevirtual 194, (171, 1715, 3), 0)) (by decide +kernel)) rfl rfl rfl rfl hm_z
    obtain ⟨r5943_z, h5944_z, q5945_z, hm_z⟩ := hm_z
    obtain ⟨rfl, yq5945_z⟩ := rp_sgN (fun q => absurd (Eq.trans (Eq.symm kc) q.1) (by decide)) q5945_z
    subst yq5945_z
    replace hm_z : rn _ _ _ _ [.int 0] _ _ _ := hm_z
    replace hm_z := rn_ifT (am_cur_of (i := (138, 3, .ifCond .eq 8, (71, 0, 0), 0)) (by decide +kernel)) (by decide) hm_z
    replace hm_z := rn_iconst (w := 0) (am_cur_of (i := (146, 1, .iconst 0, (0, 0, 0), 0)) (by decide +kernel)) (by decide) hm_z
    replace hm_z := rn_istore_n (am_cur_of (i := (147, 1, .istore_n 1, (0, 0, 0), 0)) (by decide +kernel)) hm_z
    obtain ⟨_, s5946_z, s5947_z, g1m, hm_z⟩ := hm_z
    replace g0m := s5946_z 0 _ (by decide) rfl g0m
    clear s5946_z s5947_z
    replace hm_z := rn_iload_n (am_cur_of (i := (148, 1, .iload_n 1, (0, 0, 0), 0)) (by decide +kernel)) g1m hm_z
    replace hm_z := rn_ifF (am_cur_of (i := (149, 3, .ifCond .ne 9, (79, 0, 0), 0)) (by decide +kernel)) (by decide) hm_z
    replace hm_z := rn_aload_n (am_cur_of (i := (152, 1, .aload_n 0, (0, 0, 0), 0)) (by decide +kernel)) g0m hm_z
    replace hm_z := rn_iconst (w := 1) (am_cur_of (i := (153, 1, .iconst 1, (0, 0, 0), 0)) (by decide +kernel)) (by decide) hm_z
    replace hm_z := rn_callV (M' := am_m158) (o := 164) (ar := [.int 1]) (rest := []) (L := lv_args 0 [.ref 164, .int 1]) (am_cur_of (i := (154, 3, .invokevirtual 181, (158, 1665, 3), 0)) (by decide +kernel)) rfl rfl rfl rfl hm_z
    obtain ⟨r5948_z, h5949_z, q5950_z, hm_z⟩ := hm_z
    obtain ⟨rfl, yq5950_z⟩ := rp_wrong q5950_z
    subst yq5950_z
    replace hm_z : rn _ _ _ _ [.int 0] _ _ _ := hm_z
    replace hm_z := rn_iret (am_cur_of (i := (157, 1, .ireturn, (0, 0, 0), 0)) (by decide +kernel)) hm_z
    obtain ⟨e5951_z, e5952_z⟩ := hm_z
    subst e5924_z e5952_z
    exact Or.inr ⟨e5923_z, rfl, z4_z.trans (rt_i32 (by rw [show (0 : Int32).toInt = 0 by decide]; omega)), e5951_z, rfl⟩
  · replace b5922_z : (0 : Int32).toInt < op.toInt := b5922_z
    replace hc_z := rn_aload_n (am_cur_of (i := (75, 1, .aload_n 0, (0, 0, 0), 0)) (by decide +kernel)) g0_z hc_z
    replace hc_z := rn_iconst (w := 1) (am_cur_of (i := (76, 1, .iconst 1, (0, 0, 0), 0)) (by decide +kernel)) (by decide) hc_z
    replace hc_z := rn_callV (M' := am_m29) (o := 44) (ar := [.int 1]) (rest := []) (L := lv_args 0 [.ref 44, .int 1]) (am_cur_of (i := (77, 3, .invokevirtual 108, (29, 769, 3), 0)) (by decide +kernel)) rfl rfl rfl rfl hc_z
    obtain ⟨r5953_z, h5954_z, q5955_z, hc_z⟩ := hc_z
    obtain ⟨rfl, yq5955_z⟩ := rp_fail R4 q5955_z
    subst yq5955_z
    replace hc_z : rn _ _ _ _ [] _ _ _ := hc_z
    have K := rs_stick (w := 1) (q := p) (a := 44) (by decide) (by decide) rfl (by decide) rfl (show rg_v (am_up (am_up h 44 1 (.int 1)) 44 2 (.int (rg_v h 44 9))) 44 2 = p from R5) hc_z
    replace hm_z := rn_aload_n (am_cur_of (i := (0, 1, .aload_n 0, (0, 0, 0), 0)) (by decide +kernel)) g0m hm_z
    replace hm_z := rn_bipush (w := 41) (am_cur_of (i := (1, 2, .bipush 41, (0, 0, 0), 0)) (by decide +kernel)) (by decide) hm_z
    replace hm_z := rn_callV (M' := am_m171) (o := 164) (ar := [.int 41]) (rest := []) (L := lv_args 0 [.ref 164, .int 41]) (am_cur_of (i := (3, 3, .invokevirtual 194, (171, 1715, 3), 0)) (by decide +kernel)) rfl rfl rfl rfl hm_z
    obtain ⟨r5956_z, h5957_z, q5958_z, hm_z⟩ := hm_z
    obtain ⟨rfl, yq5958_z⟩ := rp_sgN (fun q => absurd (Eq.trans (Eq.symm kc) q.1) (by decide)) q5958_z
    subst yq5958_z
    replace hm_z : rn _ _ _ _ [.int 0] _ _ _ := hm_z
    replace hm_z := rn_ifT (am_cur_of (i := (6, 3, .ifCond .eq 41, (26, 0, 0), 0)) (by decide +kernel)) (by decide) hm_z
    replace hm_z := rn_aload_n (am_cur_of (i := (47, 1, .aload_n 0, (0, 0, 0), 0)) (by decide +kernel)) g0m hm_z
    replace hm_z := rn_bipush (w := 12) (am_cur_of (i := (48, 2, .bipush 12, (0, 0, 0), 0)) (by decide +kernel)) (by decide) hm_z
    replace hm_z := rn_callV (M' := am_m174) (o := 164) (ar := [.int 12]) (rest := []) (L := lv_args 0 [.ref 164, .int 12]) (am_cur_of (i := (50, 3, .invokevirtual 306, (174, 1727, 3), 0)) (by decide +kernel)) rfl rfl rfl rfl hm_z
    obtain ⟨r5959_z, h5960_z, q5961_z, hm_z⟩ := hm_z
    obtain ⟨rfl, yq5961_z⟩ := rp_kyN (fun q => absurd (Eq.trans (Eq.symm kd) q.2) (by decide)) q5961_z
    subst yq5961_z
    replace hm_z : rn _ _ _ _ [.int 0] _ _ _ := hm_z
    replace hm_z := rn_ifT (am_cur_of (i := (53, 3, .ifCond .eq 7, (32, 0, 0), 0)) (by decide +kernel)) (by decide) hm_z
    replace hm_z := rn_aload_n (am_cur_of (i := (60, 1, .aload_n 0, (0, 0, 0), 0)) (by decide +kernel)) g0m hm_z
    replace hm_z := rn_bipush (w := 13) (am_cur_of (i := (61, 2, .bipush 13, (0, 0, 0), 0)) (by decide +kernel)) (by decide) hm_z
    replace hm_z := rn_callV (M' := am_m174) (o := 164) (ar := [.int 13]) (rest := []) (L := lv_args 0 [.ref 164, .int 13]) (am_cur_of (i := (63, 3, .invokevirtual 306, (174, 1727, 3), 0)) (by decide +kernel)) rfl rfl rfl rfl hm_z
    obtain ⟨r5962_z, h5963_z, q5964_z, hm_z⟩ := hm_z
    obtain ⟨rfl, yq5964_z⟩ := rp_kyN (fun q => absurd (Eq.trans (Eq.symm kd) q.2) (by decide)) q5964_z
    subst yq5964_z
    replace hm_z : rn _ _ _ _ [.int 0] _ _ _ := hm_z
    replace hm_z := rn_ifT (am_cur_of (i := (66, 3, .ifCond .eq 7, (38, 0, 0), 0)) (by decide +kernel)) (by decide) hm_z
    replace hm_z := rn_aload_n (am_cur_of (i := (73, 1, .aload_n 0, (0, 0, 0), 0)) (by decide +kernel)) g0m hm_z
    replace hm_z := rn_getI (v := 1) (am_cur_of (i := (74, 3, .getfield 157, (12, 8, 1392), 0)) (by decide +kernel)) (by decide +kernel) kc hm_z
    replace hm_z := rn_iconst (w := 5) (am_cur_of (i := (77, 1, .iconst 5, (0, 0, 0), 0)) (by decide +kernel)) (by decide) hm_z
    replace hm_z := rn_cmpT (am_cur_of (i := (78, 3, .if_icmp .ne 12, (47, 0, 0), 0)) (by decide +kernel)) (by decide) hm_z
    replace hm_z := rn_aload_n (am_cur_of (i := (90, 1, .aload_n 0, (0, 0, 0), 0)) (by decide +kernel)) g0m hm_z
    replace hm_z := rn_bipush (w := 43) (am_cur_of (i := (91, 2, .bipush 43, (0, 0, 0), 0)) (by decide +kernel)) (by decide) hm_z
    replace hm_z := rn_callV (M' := am_m171) (o := 164) (ar := [.int 43]) (rest := []) (L := lv_args 0 [.ref 164, .int 43]) (am_cur_of (i := (93, 3, .invokevirtual 194, (171, 1715, 3), 0)) (by decide +kernel)) rfl rfl rfl rfl hm_z
    obtain ⟨r5965_z, h5966_z, q5967_z, hm_z⟩ := hm_z
    obtain ⟨rfl, yq5967_z⟩ := rp_sgN (fun q => absurd (Eq.trans (Eq.symm kc) q.1) (by decide)) q5967_z
    subst yq5967_z
    replace hm_z : rn _ _ _ _ [.int 0] _ _ _ := hm_z
    replace hm_z := rn_ifT (am_cur_of (i := (96, 3, .ifCond .eq 8, (53, 0, 0), 0)) (by decide +kernel)) (by decide) hm_z
    replace hm_z := rn_aload_n (am_cur_of (i := (104, 1, .aload_n 0, (0, 0, 0), 0)) (by decide +kernel)) g0m hm_z
    replace hm_z := rn_bipush (w := 45) (am_cur_of (i := (105, 2, .bipush 45, (0, 0, 0), 0)) (by decide +kernel)) (by decide) hm_z
    replace hm_z := rn_callV (M' := am_m171) (o := 164) (ar := [.int 45]) (rest := []) (L := lv_args 0 [.ref 164, .int 45]) (am_cur_of (i := (107, 3, .invokevirtual 194, (171, 1715, 3), 0)) (by decide +kernel)) rfl rfl rfl rfl hm_z
    obtain ⟨r5968_z, h5969_z, q5970_z, hm_z⟩ := hm_z
    obtain ⟨rfl, yq5970_z⟩ := rp_sgN (fun q => absurd (Eq.trans (Eq.symm kc) q.1) (by decide)) q5970_z
    subst yq5970_z
    replace hm_z : rn _ _ _ _ [.int 0] _ _ _ := hm_z
    replace hm_z := rn_ifT (am_cur_of (i := (110, 3, .ifCond .eq 8, (59, 0, 0), 0)) (by decide +kernel)) (by decide) hm_z
    replace hm_z := rn_aload_n (am_cur_of (i := (118, 1, .aload_n 0, (0, 0, 0), 0)) (by decide +kernel)) g0m hm_z
    replace hm_z := rn_bipush (w := 42) (am_cur_of (i := (119, 2, .bipush 42, (0, 0, 0), 0)) (by decide +kernel)) (by decide) hm_z
    replace hm_z := rn_callV (M' := am_m171) (o := 164) (ar := [.int 42]) (rest := []) (L := lv_args 0 [.ref 164, .int 42]) (am_cur_of (i := (121, 3, .invokevirtual 194, (171, 1715, 3), 0)) (by decide +kernel)) rfl rfl rfl rfl hm_z
    obtain ⟨r5971_z, h5972_z, q5973_z, hm_z⟩ := hm_z
    obtain ⟨rfl, yq5973_z⟩ := rp_sgN (fun q => absurd (Eq.trans (Eq.symm kc) q.1) (by decide)) q5973_z
    subst yq5973_z
    replace hm_z : rn _ _ _ _ [.int 0] _ _ _ := hm_z
    replace hm_z := rn_ifT (am_cur_of (i := (124, 3, .ifCond .eq 8, (65, 0, 0), 0)) (by decide +kernel)) (by decide) hm_z
    replace hm_z := rn_aload_n (am_cur_of (i := (132, 1, .aload_n 0, (0, 0, 0), 0)) (by decide +kernel)) g0m hm_z
    replace hm_z := rn_bipush (w := 47) (am_cur_of (i := (133, 2, .bipush 47, (0, 0, 0), 0)) (by decide +kernel)) (by decide) hm_z
    replace hm_z := rn_callV (M' := am_m171) (o := 164) (ar := [.int 47]) (rest := []) (L := lv_args 0 [.ref 164, .int 47]) (am_cur_of (i := (135, 3, .invokevirtual 194, (171, 1715, 3), 0)) (by decide +kernel)) rfl rfl rfl rfl hm_z
    obtain ⟨r5974_z, h5975_z, q5976_z, hm_z⟩ := hm_z
    obtain ⟨rfl, yq5976_z⟩ := rp_sgN (fun q => absurd (Eq.trans (Eq.symm kc) q.1) (by decide)) q5976_z
    subst yq5976_z
    replace hm_z : rn _ _ _ _ [.int 0] _ _ _ := hm_z
    replace hm_z := rn_ifT (am_cur_of (i := (138, 3, .ifCond .eq 8, (71, 0, 0), 0)) (by decide +kernel)) (by decide) hm_z
    replace hm_z := rn_iconst (w := 0) (am_cur_of (i := (146, 1, .iconst 0, (0, 0, 0), 0)) (by decide +kernel)) (by decide) hm_z
    replace hm_z := rn_istore_n (am_cur_of (i := (147, 1, .istore_n 1, (0, 0, 0), 0)) (by decide +kernel)) hm_z
    obtain ⟨_, s5977_z, s5978_z, g1m, hm_z⟩ := hm_z
    replace g0m := s5977_z 0 _ (by decide) rfl g0m
    clear s5977_z s5978_z
    replace hm_z := rn_iload_n (am_cur_of (i := (148, 1, .iload_n 1, (0, 0, 0), 0)) (by decide +kernel)) g1m hm_z
    replace hm_z := rn_ifF (am_cur_of (i := (149, 3, .ifCond .ne 9, (79, 0, 0), 0)) (by decide +kernel)) (by decide) hm_z
    replace hm_z := rn_aload_n (am_cur_of (i := (152, 1, .aload_n 0, (0, 0, 0), 0)) (by decide +kernel)) g0m hm_z
    replace hm_z := rn_iconst (w := 1) (am_cur_of (i := (153, 1, .iconst 1, (0, 0, 0), 0)) (by decide +kernel)) (by decide) hm_z
    replace hm_z := rn_callV (M' := am_m158) (o := 164) (ar := [.int 1]) (rest := []) (L := lv_args 0 [.ref 164, .int 1]) (am_cur_of (i := (154, 3, .invokevirtual 181, (158, 1665, 3), 0)) (by decide +kernel)) rfl rfl rfl rfl hm_z
    obtain ⟨r5979_z, h5980_z, q5981_z, hm_z⟩ := hm_z
    obtain ⟨rfl, yq5981_z⟩ := rp_wrong q5981_z
    subst yq5981_z
    replace hm_z : rn _ _ _ _ [.int 0] _ _ _ := hm_z
    replace hm_z := rn_iret (am_cur_of (i := (157, 1, .ireturn, (0, 0, 0), 0)) (by decide +kernel)) hm_z
    obtain ⟨e5982_z, e5983_z⟩ := hm_z
    subst e5982_z e5983_z
    exact Or.inl (Or.inr ⟨rfl, 1, by decide, K.1, K.2, rfl, R6⟩)
theorem rj_c6_23 {T : Nat → Int32} {S x p : Int32} {n n' : Nat} {h h' g g' : am_H} {r r' : Option Value} (R : rq T S x p 23 h g) (A : rp 23 h g) (B : rp_t h g) (Z : rs 23 h g) (w0_z : rg_v g 164 45 = 0) (ka : (rg_v h 44 10) = 2) (kc : (rg_v g 164 8) = 1) (kb : (rg_v h 44 11) = 13) (kd : (rg_v g 164 9) = 16) (hc_z : rn n am_m44 0 (lv_args 0 [.ref 44]) [] h r h') (hm_z : rn n' am_m178 0 (lv_args 0 [.ref 164]) [] g r' g') : rj_Q T S x p 23 h g h' g' r r' := by
  have z0_z : (0 : Int32).toInt = 0 := by decide
  have g0_z : am_get (lv_args 0 [.ref 44]) 0 = some (.ref 44) := rfl
  have g0m : am_get (lv_args 0 [.ref 164]) 0 = some (.ref 164) := rfl
  have Rk := R
  have Zk := Z
  obtain ⟨⟨c1_z, c2_z, c3_z, c4_z, c5_z, c6_z, c7_z, c8_z⟩, ⟨m2_z, m3_z, m4_z, m5_z, m6_z, m7_z, m8_z⟩, R3, R4, R5, R6, R7, R8, R9, R10⟩ := (R : rq T S x p 23 h g)
  obtain ⟨np, op, z1_z, z2_z, z3_z, z4_z, z5_z, z6_z, z7_z, z8_z, z9_z, z10_z⟩ := (Z : rs 23 h g)
  obtain ⟨nk1_z, nk2_z, nk3_z⟩ := A.2.2.2.2.2.1
  replace nk1_z : rg_v h 32 0 = rg_v g 164 44 := nk1_z
  replace nk2_z : 0 ≤ (rg_v h 32 0).toInt := nk2_z
  replace nk3_z : (rg_v h 32 0).toInt ≤ 64 := nk3_z
  replace z8_z : np.toInt ≤ (rg_v h 32 0).toInt + op.toInt := z8_z
  obtain ⟨kn, ekn⟩ : ∃ v, rg_v h 32 0 = v := ⟨_, rfl⟩
  rw [ekn] at nk1_z nk2_z nk3_z z8_z
  have e9_z := rt_c1 (x := kn) (by omega) (by omega)
  replace hc_z := rn_aload_n (am_cur_of (i := (0, 1, .aload_n 0, (0, 0, 0), 0)) (by decide +kernel)) g0_z hc_z
  replace hc_z := rn_bipush (w := 41) (am_cur_of (i := (1, 2, .bipush 41, (0, 0, 0), 0)) (by decide +kernel)) (by decide) hc_z
  replace hc_z := rn_callV (M' := am_m45) (o := 44) (ar := [.int 41]) (rest := []) (L := lv_args 0 [.ref 44, .int 41]) (am_cur_of (i := (3, 3, .invokevirtual 105, (45, 834, 3), 0)) (by decide +kernel)) rfl rfl rfl rfl hc_z
  obtain ⟨r5984_z, h5985_z, q5986_z, hc_z⟩ := hc_z
  obtain ⟨rfl, yq5986_z⟩ := rp_mkN (fun q => absurd (Eq.trans (Eq.symm ka) q.1) (by decide)) q5986_z
  subst yq5986_z
  replace hc_z : rn _ _ _ _ [.int 0] _ _ _ := hc_z
  replace hc_z := rn_ifT (am_cur_of (i := (6, 3, .ifCond .eq 45, (28, 0, 0), 0)) (by decide +kernel)) (by decide) hc_z
  replace hc_z := rn_aload_n (am_cur_of (i := (51, 1, .aload_n 0, (0, 0, 0), 0)) (by decide +kernel)) g0_z hc_z
  replace hc_z := rn_getI (v := 2) (am_cur_of (i := (52, 3, .getfield 60, (4, 10, 419), 0)) (by decide +kernel)) (by decide +kernel) ka hc_z
  replace hc_z := rn_bipush (w := 6) (am_cur_of (i := (55, 2, .bipush 6, (0, 0, 0), 0)) (by decide +kernel)) (by decide) hc_z
  replace hc_z := rn_cmpT (am_cur_of (i := (57, 3, .if_icmp .ne 11, (36, 0, 0), 0)) (by decide +kernel)) (by decide) hc_z
  replace hc_z := rn_aload_n (am_cur_of (i := (68, 1, .aload_n 0, (0, 0, 0), 0)) (by decide +kernel)) g0_z hc_z
  replace hc_z := rn_getI (v := op) (am_cur_of (i := (69, 3, .getfield 254, (4, 14, 423), 0)) (by decide +kernel)) (by decide +kernel) z4_z hc_z
  replace hc_z := rn_if (am_cur_of (i := (72, 3, .ifCond .le 8, (42, 0, 0), 0)) (by decide +kernel)) hc_z
  rcases hc_z with ⟨b5987_z, hc_z⟩ | ⟨b5987_z, hc_z⟩
  · replace b5987_z : op.toInt ≤ (0 : Int32).toInt := b5987_z
    replace hc_z := rn_iconst (w := 3) (am_cur_of (i := (80, 1, .iconst 3, (0, 0, 0), 0)) (by decide +kernel)) (by decide) hc_z
    replace hc_z := rn_iret (am_cur_of (i := (81, 1, .ireturn, (0, 0, 0), 0)) (by decide +kernel)) hc_z
    obtain ⟨e5988_z, e5989_z⟩ := hc_z
    replace hm_z := rn_aload_n (am_cur_of (i := (0, 1, .aload_n 0, (0, 0, 0), 0)) (by decide +kernel)) g0m hm_z
    replace hm_z := rn_bipush (w := 41) (am_cur_of (i := (1, 2, .bipush 41, (0, 0, 0), 0)) (by decide +kernel)) (by decide) hm_z
    replace hm_z := rn_callV (M' := am_m171) (o := 164) (ar := [.int 41]) (rest := []) (L := lv_args 0 [.ref 164, .int 41]) (am_cur_of (i := (3, 3, .invokevirtual 194, (171, 1715, 3), 0)) (by decide +kernel)) rfl rfl rfl rfl hm_z
    obtain ⟨r5990_z, h5991_z, q5992_z, hm_z⟩ := hm_z
    obtain ⟨rfl, yq5992_z⟩ := rp_sgN (fun q => absurd (Eq.trans (Eq.symm kc) q.1) (by decide)) q5992_z
    subst yq5992_z
    replace hm_z : rn _ _ _ _ [.int 0] _ _ _ := hm_z
    replace hm_z := rn_ifT (am_cur_of (i := (6, 3, .ifCond .eq 41, (26, 0, 0), 0)) (by decide +kernel)) (by decide) hm_z
    replace hm_z := rn_aload_n (am_cur_of (i := (47, 1, .aload_n 0, (0, 0, 0), 0)) (by decide +kernel)) g0m hm_z
    replace hm_z := rn_bipush (w := 12) (am_cur_of (i := (48, 2, .bipush 12, (0, 0, 0), 0)) (by decide +kernel)) (by decide) hm_z
    replace hm_z := rn_callV (M' := am_m174) (o := 164) (ar := [.int 12]) (rest := []) (L := lv_args 0 [.ref 164, .int 12]) (am_cur_of (i := (50, 3, .invokevirtual 306, (174, 1727, 3), 0)) (by decide +kernel)) rfl rfl rfl rfl hm_z
    obtain ⟨r5993_z, h5994_z, q5995_z, hm_z⟩ := hm_z
    obtain ⟨rfl, yq5995_z⟩ := rp_kyN (fun q => absurd (Eq.trans (Eq.symm kd) q.2) (by decide)) q5995_z
    subst yq5995_z
    replace hm_z : rn _ _ _ _ [.int 0] _ _ _ := hm_z
    replace hm_z := rn_ifT (am_cur_of (i := (53, 3, .ifCond .eq 7, (32, 0, 0), 0)) (by decide +kernel)) (by decide) hm_z
    replace hm_z := rn_aload_n (am_cur_of (i := (60, 1, .aload_n 0, (0, 0, 0), 0)) (by decide +kernel)) g0m hm_z
    replace hm_z := rn_bipush (w := 13) (am_cur_of (i := (61, 2, .bipush 13, (0, 0, 0), 0)) (by decide +kernel)) (by decide) hm_z
    replace hm_z := rn_callV (M' := am_m174) (o := 164) (ar := [.int 13]) (rest := []) (L := lv_args 0 [.ref 164, .int 13]) (am_cur_of (i := (63, 3, .invokevirtual 306, (174, 1727, 3), 0)) (by decide +kernel)) rfl rfl rfl rfl hm_z
    obtain ⟨r5996_z, h5997_z, q5998_z, hm_z⟩ := hm_z
    obtain ⟨rfl, yq5998_z⟩ := rp_kyN (fun q => absurd (Eq.trans (Eq.symm kd) q.2) (by decide)) q5998_z
    subst yq5998_z
    replace hm_z : rn _ _ _ _ [.int 0] _ _ _ := hm_z
    replace hm_z := rn_ifT (am_cur_of (i := (66, 3, .ifCond .eq 7, (38, 0, 0), 0)) (by decide +kernel)) (by decide) hm_z
    replace hm_z := rn_aload_n (am_cur_of (i := (73, 1, .aload_n 0, (0, 0, 0), 0)) (by decide +kernel)) g0m hm_z
    replace hm_z := rn_getI (v := 1) (am_cur_of (i := (74, 3, .getfield 157, (12, 8, 1392), 0)) (by decide +kernel)) (by decide +kernel) kc hm_z
    replace hm_z := rn_iconst (w := 5) (am_cur_of (i := (77, 1, .iconst 5, (0, 0, 0), 0)) (by decide +kernel)) (by decide) hm_z
    replace hm_z := rn_cmpT (am_cur_of (i := (78, 3, .if_icmp .ne 12, (47, 0, 0), 0)) (by decide +kernel)) (by decide) hm_z
    replace hm_z := rn_aload_n (am_cur_of (i := (90, 1, .aload_n 0, (0, 0, 0), 0)) (by decide +kernel)) g0m hm_z
    replace hm_z := rn_bipush (w := 43) (am_cur_of (i := (91, 2, .bipush 43, (0, 0, 0), 0)) (by decide +kernel)) (by decide) hm_z
    replace hm_z := rn_callV (M' := am_m171) (o := 164) (ar := [.int 43]) (rest := []) (L := lv_args 0 [.ref 164, .int 43]) (am_cur_of (i := (93, 3, .invokevirtual 194, (171, 1715, 3), 0)) (by decide +kernel)) rfl rfl rfl rfl hm_z
    obtain ⟨r5999_z, h6000_z, q6001_z, hm_z⟩ := hm_z
    obtain ⟨rfl, yq6001_z⟩ := rp_sgN (fun q => absurd (Eq.trans (Eq.symm kc) q.1) (by decide)) q6001_z
    subst yq6001_z
    replace hm_z : rn _ _ _ _ [.int 0] _ _ _ := hm_z
    replace hm_z := rn_ifT (am_cur_of (i := (96, 3, .ifCond .eq 8, (53, 0, 0), 0)) (by decide +kernel)) (by decide) hm_z
    replace hm_z := rn_aload_n (am_cur_of (i := (104, 1, .aload_n 0, (0, 0, 0), 0)) (by decide +kernel)) g0m hm_z
    replace hm_z := rn_bipush (w := 45) (am_cur_of (i := (105, 2, .bipush 45, (0, 0, 0), 0)) (by decide +kernel)) (by decide) hm_z
    replace hm_z := rn_callV (M' := am_m171) (o := 164) (ar := [.int 45]) (rest := []) (L := lv_args 0 [.ref 164, .int 45]) (am_cur_of (i := (107, 3, .invokevirtual 194, (171, 1715, 3), 0)) (by decide +kernel)) rfl rfl rfl rfl hm_z
    obtain ⟨r6002_z, h6003_z, q6004_z, hm_z⟩ := hm_z
    obtain ⟨rfl, yq6004_z⟩ := rp_sgN (fun q => absurd (Eq.trans (Eq.symm kc) q.1) (by decide)) q6004_z
    subst yq6004_z
    replace hm_z : rn _ _ _ _ [.int 0] _ _ _ := hm_z
    replace hm_z := rn_ifT (am_cur_of (i := (110, 3, .ifCond .eq 8, (59, 0, 0), 0)) (by decide +kernel)) (by decide) hm_z
    replace hm_z := rn_aload_n (am_cur_of (i := (118, 1, .aload_n 0, (0, 0, 0), 0)) (by decide +kernel)) g0m hm_z
    replace hm_z := rn_bipush (w := 42) (am_cur_of (i := (119, 2, .bipush 42, (0, 0, 0), 0)) (by decide +kernel)) (by decide) hm_z
    replace hm_z := rn_callV (M' := am_m171) (o := 164) (ar := [.int 42]) (rest := []) (L := lv_args 0 [.ref 164, .int 42]) (am_cur_of (i := (121, 3, .invokevirtual 194, (171, 1715, 3), 0)) (by decide +kernel)) rfl rfl rfl rfl hm_z
    obtain ⟨r6005_z, h6006_z, q6007_z, hm_z⟩ := hm_z
    obtain ⟨rfl, yq6007_z⟩ := rp_sgN (fun q => absurd (Eq.trans (Eq.symm kc) q.1) (by decide)) q6007_z
    subst yq6007_z
    replace hm_z : rn _ _ _ _ [.int 0] _ _ _ := hm_z
    replace hm_z := rn_ifT (am_cur_of (i := (124, 3, .ifCond .eq 8, (65, 0, 0), 0)) (by decide +kernel)) (by decide) hm_z
    replace hm_z := rn_aload_n (am_cur_of (i := (132, 1, .aload_n 0, (0, 0, 0), 0)) (by decide +kernel)) g0m hm_z
    replace hm_z := rn_bipush (w := 47) (am_cur_of (i := (133, 2, .bipush 47, (0, 0, 0), 0)) (by decide +kernel)) (by decide) hm_z
    replace hm_z := rn_callV (M' := am_m171) (o := 164) (ar := [.int 47]) (rest := []) (L := lv_args 0 [.ref 164, .int 47]) (am_cur_of (i := (135, 3, .invokevirtual 194, (171, 1715, 3), 0)) (by decide +kernel)) rfl rfl rfl rfl hm_z
    obtain ⟨r6008_z, h6009_z, q6010_z, hm_z⟩ := hm_z
    obtain ⟨rfl, yq6010_z⟩ := rp_sgN (fun q => absurd (Eq.trans (Eq.symm kc) q.1) (by decide)) q6010_z
    subst yq6010_z
    replace hm_z : rn _ _ _ _ [.int 0] _ _ _ := hm_z
    replace hm_z := rn_ifT (am_cur_of (i := (138, 3, .ifCond .eq 8, (71, 0, 0), 0)) (by decide +kernel)) (by decide) hm_z
    replace hm_z := rn_iconst (w := 0) (am_cur_of (i := (146, 1, .iconst 0, (0, 0, 0), 0)) (by decide +kernel)) (by decide) hm_z
    replace hm_z := rn_istore_n (am_cur_of (i := (147, 1, .istore_n 1, (0, 0, 0), 0)) (by decide +kernel)) hm_z
    obtain ⟨_, s6011_z, s6012_z, g1m, hm_z⟩ := hm_z
    replace g0m := s6011_z 0 _ (by decide) rfl g0m
    clear s6011_z s6012_z
    replace hm_z := rn_iload_n (am_cur_of (i := (148, 1, .iload_n 1, (0, 0, 0), 0)) (by decide +kernel)) g1m hm_z
    replace hm_z := rn_ifF (am_cur_of (i := (149, 3, .ifCond .ne 9, (79, 0, 0), 0)) (by decide +kernel)) (by decide) hm_z
    replace hm_z := rn_aload_n (am_cur_of (i := (152, 1, .aload_n 0, (0, 0, 0), 0)) (by decide +kernel)) g0m hm_z
    replace hm_z := rn_iconst (w := 1) (am_cur_of (i := (153, 1, .iconst 1, (0, 0, 0), 0)) (by decide +kernel)) (by decide) hm_z
    replace hm_z := rn_callV (M' := am_m158) (o := 164) (ar := [.int 1]) (rest := []) (L := lv_args 0 [.ref 164, .int 1]) (am_cur_of (i := (154, 3, .invokevirtual 181, (158, 1665, 3), 0)) (by decide +kernel)) rfl rfl rfl rfl hm_z
    obtain ⟨r6013_z, h6014_z, q6015_z, hm_z⟩ := hm_z
    obtain ⟨rfl, yq6015_z⟩ := rp_wrong q6015_z
    subst yq6015_z
    replace hm_z : rn _ _ _ _ [.int 0] _ _ _ := hm_z
    replace hm_z := rn_iret (am_cur_of (i := (157, 1, .ireturn, (0, 0, 0), 0)) (by decide +kernel)) hm_z
    obtain ⟨e6016_z, e6017_z⟩ := hm_z
    subst e5989_z e6017_z
    exact Or.inr ⟨e5988_z, rfl, z4_z.trans (rt_i32 (by rw [show (0 : Int32).toInt = 0 by decide]; omega)), e6016_z, rfl⟩
  · replace b5987_z : (0 : Int32).toInt < op.toInt := b5987_z
    replace hc_z := rn_aload_n (am_cur_of (i := (75, 1, .aload_n 0, (0, 0, 0), 0)) (by decide +kernel)) g0_z hc_z
    replace hc_z := rn_iconst (w := 1) (am_cur_of (i := (76, 1, .iconst 1, (0, 0, 0), 0)) (by decide +kernel)) (by decide) hc_z
    replace hc_z := rn_callV (M' := am_m29) (o := 44) (ar := [.int 1]) (rest := []) (L := lv_args 0 [.ref 44, .int 1]) (am_cur_of (i := (77, 3, .invokevirtual 108, (29, 769, 3), 0)) (by decide +kernel)) rfl rfl rfl rfl hc_z
    obtain ⟨r6018_z, h6019_z, q6020_z, hc_z⟩ := hc_z
    obtain ⟨rfl, yq6020_z⟩ := rp_fail R4 q6020_z
    subst yq6020_z
    replace hc_z : rn _ _ _ _ [] _ _ _ := hc_z
    have K := rs_stick (w := 1) (q := p) (a := 44) (by decide) (by decide) rfl (by decide) rfl (show rg_v (am_up (am_up h 44 1 (.int 1)) 44 2 (.int (rg_v h 44 9))) 44 2 = p from R5) hc_z
    replace hm_z := rn_aload_n (am_cur_of (i := (0, 1, .aload_n 0, (0, 0, 0), 0)) (by decide +kernel)) g0m hm_z
    replace hm_z := rn_bipush (w := 41) (am_cur_of (i := (1, 2, .bipush 41, (0, 0, 0), 0)) (by decide +kernel)) (by decide) hm_z
    replace hm_z := rn_callV (M' := am_m171) (o := 164) (ar := [.int 41]) (rest := []) (L := lv_args 0 [.ref 164, .int 41]) (am_cur_of (i := (3, 3, .invokevirtual 194, (171, 1715, 3), 0)) (by decide +kernel)) rfl rfl rfl rfl hm_z
    obtain ⟨r6021_z, h6022_z, q6023_z, hm_z⟩ := hm_z
    obtain ⟨rfl, yq6023_z⟩ := rp_sgN (fun q => absurd (Eq.trans (Eq.symm kc) q.1) (by decide)) q6023_z
    subst yq6023_z
    replace hm_z : rn _ _ _ _ [.int 0] _ _ _ := hm_z
    replace hm_z := rn_ifT (am_cur_of (i := (6, 3, .ifCond .eq 41, (26, 0, 0), 0)) (by decide +kernel)) (by decide) hm_z
    replace hm_z := rn_aload_n (am_cur_of (i := (47, 1, .aload_n 0, (0, 0, 0), 0)) (by decide +kernel)) g0m hm_z
    replace hm_z := rn_bipush (w := 12) (am_cur_of (i := (48, 2, .bipush 12, (0, 0, 0), 0)) (by decide +kernel)) (by decide) hm_z
    replace hm_z := rn_callV (M' := am_m174) (o := 164) (ar := [.int 12]) (rest := []) (L := lv_args 0 [.ref 164, .int 12]) (am_cur_of (i := (50, 3, .invokevirtual 306, (174, 1727, 3), 0)) (by decide +kernel)) rfl rfl rfl rfl hm_z
    obtain ⟨r6024_z, h6025_z, q6026_z, hm_z⟩ := hm_z
    obtain ⟨rfl, yq6026_z⟩ := rp_kyN (fun q => absurd (Eq.trans (Eq.symm kd) q.2) (by decide)) q6026_z
    subst yq6026_z
    replace hm_z : rn _ _ _ _ [.int 0] _ _ _ := hm_z
    replace hm_z := rn_ifT (am_cur_of (i := (53, 3, .ifCond .eq 7, (32, 0, 0), 0)) (by decide +kernel)) (by decide) hm_z
    replace hm_z := rn_aload_n (am_cur_of (i := (60, 1, .aload_n 0, (0, 0, 0), 0)) (by decide +kernel)) g0m hm_z
    replace hm_z := rn_bipush (w := 13) (am_cur_of (i := (61, 2, .bipush 13, (0, 0, 0), 0)) (by decide +kernel)) (by decide) hm_z
    replace hm_z := rn_callV (M' := am_m174) (o := 164) (ar := [.int 13]) (rest := []) (L := lv_args 0 [.ref 164, .int 13]) (am_cur_of (i := (63, 3, .invokevirtual 306, (174, 1727, 3), 0)) (by decide +kernel)) rfl rfl rfl rfl hm_z
    obtain ⟨r6027_z, h6028_z, q6029_z, hm_z⟩ := hm_z
    obtain ⟨rfl, yq6029_z⟩ := rp_kyN (fun q => absurd (Eq.trans (Eq.symm kd) q.2) (by decide)) q6029_z
    subst yq6029_z
    replace hm_z : rn _ _ _ _ [.int 0] _ _ _ := hm_z
    replace hm_z := rn_ifT (am_cur_of (i := (66, 3, .ifCond .eq 7, (38, 0, 0), 0)) (by decide +kernel)) (by decide) hm_z
    replace hm_z := rn_aload_n (am_cur_of (i := (73, 1, .aload_n 0, (0, 0, 0), 0)) (by decide +kernel)) g0m hm_z
    replace hm_z := rn_getI (v := 1) (am_cur_of (i := (74, 3, .getfield 157, (12, 8, 1392), 0)) (by decide +kernel)) (by decide +kernel) kc hm_z
    replace hm_z := rn_iconst (w := 5) (am_cur_of (i := (77, 1, .iconst 5, (0, 0, 0), 0)) (by decide +kernel)) (by decide) hm_z
    replace hm_z := rn_cmpT (am_cur_of (i := (78, 3, .if_icmp .ne 12, (47, 0, 0), 0)) (by decide +kernel)) (by decide) hm_z
    replace hm_z := rn_aload_n (am_cur_of (i := (90, 1, .aload_n 0, (0, 0, 0), 0)) (by decide +kernel)) g0m hm_z
    replace hm_z := rn_bipush (w := 43) (am_cur_of (i := (91, 2, .bipush 43, (0, 0, 0), 0)) (by decide +kernel)) (by decide) hm_z
    replace hm_z := rn_callV (M' := am_m171) (o := 164) (ar := [.int 43]) (rest := []) (L := lv_args 0 [.ref 164, .int 43]) (am_cur_of (i := (93, 3, .invokevirtual 194, (171, 1715, 3), 0)) (by decide +kernel)) rfl rfl rfl rfl hm_z
    obtain ⟨r6030_z, h6031_z, q6032_z, hm_z⟩ := hm_z
    obtain ⟨rfl, yq6032_z⟩ := rp_sgN (fun q => absurd (Eq.trans (Eq.symm kc) q.1) (by decide)) q6032_z
    subst yq6032_z
    replace hm_z : rn _ _ _ _ [.int 0] _ _ _ := hm_z
    replace hm_z := rn_ifT (am_cur_of (i := (96, 3, .ifCond .eq 8, (53, 0, 0), 0)) (by decide +kernel)) (by decide) hm_z
    replace hm_z := rn_aload_n (am_cur_of (i := (104, 1, .aload_n 0, (0, 0, 0), 0)) (by decide +kernel)) g0m hm_z
    replace hm_z := rn_bipush (w := 45) (am_cur_of (i := (105, 2, .bipush 45, (0, 0, 0), 0)) (by decide +kernel)) (by decide) hm_z
    replace hm_z := rn_callV (M' := am_m171) (o := 164) (ar := [.int 45]) (rest := []) (L := lv_args 0 [.ref 164, .int 45]) (am_cur_of (i := (107, 3, .invokevirtual 194, (171, 1715, 3), 0)) (by decide +kernel)) rfl rfl rfl rfl hm_z
    obtain ⟨r6033_z, h6034_z, q6035_z, hm_z⟩ := hm_z
    obtain ⟨rfl, yq6035_z⟩ := rp_sgN (fun q => absurd (Eq.trans (Eq.symm kc) q.1) (by decide)) q6035_z
    subst yq6035_z
    replace hm_z : rn _ _ _ _ [.int 0] _ _ _ := hm_z
    replace hm_z := rn_ifT (am_cur_of (i := (110, 3, .ifCond .eq 8, (59, 0, 0), 0)) (by decide +kernel)) (by decide) hm_z
    replace hm_z := rn_aload_n (am_cur_of (i := (118, 1, .aload_n 0, (0, 0, 0), 0)) (by decide +kernel)) g0m hm_z
    replace hm_z := rn_bipush (w := 42) (am_cur_of (i := (119, 2, .bipush 42, (0, 0, 0), 0)) (by decide +kernel)) (by decide) hm_z
    replace hm_z := rn_callV (M' := am_m171) (o := 164) (ar := [.int 42]) (rest := []) (L := lv_args 0 [.ref 164, .int 42]) (am_cur_of (i := (121, 3, .invokevirtual 194, (171, 1715, 3), 0)) (by decide +kernel)) rfl rfl rfl rfl hm_z
    obtain ⟨r6036_z, h6037_z, q6038_z, hm_z⟩ := hm_z
    obtain ⟨rfl, yq6038_z⟩ := rp_sgN (fun q => absurd (Eq.trans (Eq.symm kc) q.1) (by decide)) q6038_z
    subst yq6038_z
    replace hm_z : rn _ _ _ _ [.int 0] _ _ _ := hm_z
    replace hm_z := rn_ifT (am_cur_of (i := (124, 3, .ifCond .eq 8, (65, 0, 0), 0)) (by decide +kernel)) (by decide) hm_z
    replace hm_z := rn_aload_n (am_cur_of (i := (132, 1, .aload_n 0, (0, 0, 0), 0)) (by decide +kernel)) g0m hm_z
    replace hm_z := rn_bipush (w := 47) (am_cur_of (i := (133, 2, .bipush 47, (0, 0, 0), 0)) (by decide +kernel)) (by decide) hm_z
    replace hm_z := rn_callV (M' := am_m171) (o := 164) (ar := [.int 47]) (rest := []) (L := lv_args 0 [.ref 164, .int 47]) (am_cur_of (i := (135, 3, .invokevirtual 194, (171, 1715, 3), 0)) (by decide +kernel)) rfl rfl rfl rfl hm_z
    obtain ⟨r6039_z, h6040_z, q6041_z, hm_z⟩ := hm_z
    obtain ⟨rfl, yq6041_z⟩ := rp_sgN (fun q => absurd (Eq.trans (Eq.symm kc) q.1) (by decide)) q6041_z
    subst yq6041_z
    replace hm_z : rn _ _ _ _ [.int 0] _ _ _ := hm_z
    replace hm_z := rn_ifT (am_cur_of (i := (138, 3, .ifCond .eq 8, (71, 0, 0), 0)) (by decide +kernel)) (by decide) hm_z
    replace hm_z := rn_iconst (w := 0) (am_cur_of (i := (146, 1, .iconst 0, (0, 0, 0), 0)) (by decide +kernel)) (by decide) hm_z
    replace hm_z := rn_istore_n (am_cur_of (i := (147, 1, .istore_n 1, (0, 0, 0), 0)) (by decide +kernel)) hm_z
    obtain ⟨_, s6042_z, s6043_z, g1m, hm_z⟩ := hm_z
    replace g0m := s6042_z 0 _ (by decide) rfl g0m
    clear s6042_z s6043_z
    replace hm_z := rn_iload_n (am_cur_of (i := (148, 1, .iload_n 1, (0, 0, 0), 0)) (by decide +kernel)) g1m hm_z
    replace hm_z := rn_ifF (am_cur_of (i := (149, 3, .ifCond .ne 9, (79, 0, 0), 0)) (by decide +kernel)) (by decide) hm_z
    replace hm_z := rn_aload_n (am_cur_of (i := (152, 1, .aload_n 0, (0, 0, 0), 0)) (by decide +kernel)) g0m hm_z
    replace hm_z := rn_iconst (w := 1) (am_cur_of (i := (153, 1, .iconst 1, (0, 0, 0), 0)) (by decide +kernel)) (by decide) hm_z
    replace hm_z := rn_callV (M' := am_m158) (o := 164) (ar := [.int 1]) (rest := []) (L := lv_args 0 [.ref 164, .int 1]) (am_cur_of (i := (154, 3, .invokevirtual 181, (158, 1665, 3), 0)) (by decide +kernel)) rfl rfl rfl rfl hm_z
    obtain ⟨r6044_z, h6045_z, q6046_z, hm_z⟩ := hm_z
    obtain ⟨rfl, yq6046_z⟩ := rp_wrong q6046_z
    subst yq6046_z
    replace hm_z : rn _ _ _ _ [.int 0] _ _ _ := hm_z
    replace hm_z := rn_iret (am_cur_of (i := (157, 1, .ireturn, (0, 0, 0), 0)) (by decide +kernel)) hm_z
    obtain ⟨e6047_z, e6048_z⟩ := hm_z
    subst e6047_z e6048_z
    exact Or.inl (Or.inr ⟨rfl, 1, by decide, K.1, K.2, rfl, R6⟩)
theorem rj_c7_23 {T : Nat → Int32} {S x p : Int32} {n n' : Nat} {h h' g g' : am_H} {r r' : Option Value} (R : rq T S x p 23 h g) (A : rp 23 h g) (B : rp_t h g) (Z : rs 23 h g) (w0_z : rg_v g 164 45 = 0) (ka : (rg_v h 44 10) = 2) (kc : (rg_v g 164 8) = 1) (kb : (rg_v h 44 11) = 14) (kd : (rg_v g 164 9) = 17) (hc_z : rn n am_m44 0 (lv_args 0 [.ref 44]) [] h r h') (hm_z : rn n' am_m178 0 (lv_args 0 [.ref 164]) [] g r' g') : rj_Q T S x p 23 h g h' g' r r' := by
  have z0_z : (0 : Int32).toInt = 0 := by decide
  have g0_z : am_get (lv_args 0 [.ref 44]) 0 = some (.ref 44) := rfl
  have g0m : am_get (lv_args 0 [.ref 164]) 0 = some (.ref 164) := rfl
  have Rk := R
  have Zk := Z
  obtain ⟨⟨c1_z, c2_z, c3_z, c4_z, c5_z, c6_z, c7_z, c8_z⟩, ⟨m2_z, m3_z, m4_z, m5_z, m6_z, m7_z, m8_z⟩, R3, R4, R5, R6, R7, R8, R9, R10⟩ := (R : rq T S x p 23 h g)
  obtain ⟨np, op, z1_z, z2_z, z3_z, z4_z, z5_z, z6_z, z7_z, z8_z, z9_z, z10_z⟩ := (Z : rs 23 h g)
  obtain ⟨nk1_z, nk2_z, nk3_z⟩ := A.2.2.2.2.2.1
  replace nk1_z : rg_v h 32 0 = rg_v g 164 44 := nk1_z
  replace nk2_z : 0 ≤ (rg_v h 32 0).toInt := nk2_z
  replace nk3_z : (rg_v h 32 0).toInt ≤ 64 := nk3_z
  replace z8_z : np.toInt ≤ (rg_v h 32 0).toInt + op.toInt := z8_z
  obtain ⟨kn, ekn⟩ : ∃ v, rg_v h 32 0 = v := ⟨_, rfl⟩
  rw [ekn] at nk1_z nk2_z nk3_z z8_z
  have e9_z := rt_c1 (x := kn) (by omega) (by omega)
  replace hc_z := rn_aload_n (am_cur_of (i := (0, 1, .aload_n 0, (0, 0, 0), 0)) (by decide +kernel)) g0_z hc_z
  replace hc_z := rn_bipush (w := 41) (am_cur_of (i := (1, 2, .bipush 41, (0, 0, 0), 0)) (by decide +kernel)) (by decide) hc_z
  replace hc_z := rn_callV (M' := am_m45) (o := 44) (ar := [.int 41]) (rest := []) (L := lv_args 0 [.ref 44, .int 41]) (am_cur_of (i := (3, 3, .invokevirtual 105, (45, 834, 3), 0)) (by decide +kernel)) rfl rfl rfl rfl hc_z
  obtain ⟨r6049_z, h6050_z, q6051_z, hc_z⟩ := hc_z
  obtain ⟨rfl, yq6051_z⟩ := rp_mkN (fun q => absurd (Eq.trans (Eq.symm ka) q.1) (by decide)) q6051_z
  subst yq6051_z
  replace hc_z : rn _ _ _ _ [.int 0] _ _ _ := hc_z
  replace hc_z := rn_ifT (am_cur_of (i := (6, 3, .ifCond .eq 45, (28, 0, 0), 0)) (by decide +kernel)) (by decide) hc_z
  replace hc_z := rn_aload_n (am_cur_of (i := (51, 1, .aload_n 0, (0, 0, 0), 0)) (by decide +kernel)) g0_z hc_z
  replace hc_z := rn_getI (v := 2) (am_cur_of (i := (52, 3, .getfield 60, (4, 10, 419), 0)) (by decide +kernel)) (by decide +kernel) ka hc_z
  replace hc_z := rn_bipush (w := 6) (am_cur_of (i := (55, 2, .bipush 6, (0, 0, 0), 0)) (by decide +kernel)) (by decide) hc_z
  replace hc_z := rn_cmpT (am_cur_of (i := (57, 3, .if_icmp .ne 11, (36, 0, 0), 0)) (by decide +kernel)) (by decide) hc_z
  replace hc_z := rn_aload_n (am_cur_of (i := (68, 1, .aload_n 0, (0, 0, 0), 0)) (by decide +kernel)) g0_z hc_z
  replace hc_z := rn_getI (v := op) (am_cur_of (i := (69, 3, .getfield 254, (4, 14, 423), 0)) (by decide +kernel)) (by decide +kernel) z4_z hc_z
  replace hc_z := rn_if (am_cur_of (i := (72, 3, .ifCond .le 8, (42, 0, 0), 0)) (by decide +kernel)) hc_z
  rcases hc_z with ⟨b6052_z, hc_z⟩ | ⟨b6052_z, hc_z⟩
  · replace b6052_z : op.toInt ≤ (0 : Int32).toInt := b6052_z
    replace hc_z := rn_iconst (w := 3) (am_cur_of (i := (80, 1, .iconst 3, (0, 0, 0), 0)) (by decide +kernel)) (by decide) hc_z
    replace hc_z := rn_iret (am_cur_of (i := (81, 1, .ireturn, (0, 0, 0), 0)) (by decide +kernel)) hc_z
    obtain ⟨e6053_z, e6054_z⟩ := hc_z
    replace hm_z := rn_aload_n (am_cur_of (i := (0, 1, .aload_n 0, (0, 0, 0), 0)) (by decide +kernel)) g0m hm_z
    replace hm_z := rn_bipush (w := 41) (am_cur_of (i := (1, 2, .bipush 41, (0, 0, 0), 0)) (by decide +kernel)) (by decide) hm_z
    replace hm_z := rn_callV (M' := am_m171) (o := 164) (ar := [.int 41]) (rest := []) (L := lv_args 0 [.ref 164, .int 41]) (am_cur_of (i := (3, 3, .invokevirtual 194, (171, 1715, 3), 0)) (by decide +kernel)) rfl rfl rfl rfl hm_z
    obtain ⟨r6055_z, h6056_z, q6057_z, hm_z⟩ := hm_z
    obtain ⟨rfl, yq6057_z⟩ := rp_sgN (fun q => absurd (Eq.trans (Eq.symm kc) q.1) (by decide)) q6057_z
    subst yq6057_z
    replace hm_z : rn _ _ _ _ [.int 0] _ _ _ := hm_z
    replace hm_z := rn_ifT (am_cur_of (i := (6, 3, .ifCond .eq 41, (26, 0, 0), 0)) (by decide +kernel)) (by decide) hm_z
    replace hm_z := rn_aload_n (am_cur_of (i := (47, 1, .aload_n 0, (0, 0, 0), 0)) (by decide +kernel)) g0m hm_z
    replace hm_z := rn_bipush (w := 12) (am_cur_of (i := (48, 2, .bipush 12, (0, 0, 0), 0)) (by decide +kernel)) (by decide) hm_z
    replace hm_z := rn_callV (M' := am_m174) (o := 164) (ar := [.int 12]) (rest := []) (L := lv_args 0 [.ref 164, .int 12]) (am_cur_of (i := (50, 3, .invokevirtual 306, (174, 1727, 3), 0)) (by decide +kernel)) rfl rfl rfl rfl hm_z
    obtain ⟨r6058_z, h6059_z, q6060_z, hm_z⟩ := hm_z
    obtain ⟨rfl, yq6060_z⟩ := rp_kyN (fun q => absurd (Eq.trans (Eq.symm kd) q.2) (by decide)) q6060_z
    subst yq6060_z
    replace hm_z : rn _ _ _ _ [.int 0] _ _ _ := hm_z
    replace hm_z := rn_ifT (am_cur_of (i := (53, 3, .ifCond .eq 7, (32, 0, 0), 0)) (by decide +kernel)) (by decide) hm_z
    replace hm_z := rn_aload_n (am_cur_of (i := (60, 1, .aload_n 0, (0, 0, 0), 0)) (by decide +kernel)) g0m hm_z
    replace hm_z := rn_bipush (w := 13) (am_cur_of (i := (61, 2, .bipush 13, (0, 0, 0), 0)) (by decide +kernel)) (by decide) hm_z
    replace hm_z := rn_callV (M' := am_m174) (o := 164) (ar := [.int 13]) (rest := []) (L := lv_args 0 [.ref 164, .int 13]) (am_cur_of (i := (63, 3, .invokevirtual 306, (174, 1727, 3), 0)) (by decide +kernel)) rfl rfl rfl rfl hm_z
    obtain ⟨r6061_z, h6062_z, q6063_z, hm_z⟩ := hm_z
    obtain ⟨rfl, yq6063_z⟩ := rp_kyN (fun q => absurd (Eq.trans (Eq.symm kd) q.2) (by decide)) q6063_z
    subst yq6063_z
    replace hm_z : rn _ _ _ _ [.int 0] _ _ _ := hm_z
    replace hm_z := rn_ifT (am_cur_of (i := (66, 3, .ifCond .eq 7, (38, 0, 0), 0)) (by decide +kernel)) (by decide) hm_z
    replace hm_z := rn_aload_n (am_cur_of (i := (73, 1, .aload_n 0, (0, 0, 0), 0)) (by decide +kernel)) g0m hm_z
    replace hm_z := rn_getI (v := 1) (am_cur_of (i := (74, 3, .getfield 157, (12, 8, 1392), 0)) (by decide +kernel)) (by decide +kernel) kc hm_z
    replace hm_z := rn_iconst (w := 5) (am_cur_of (i := (77, 1, .iconst 5, (0, 0, 0), 0)) (by decide +kernel)) (by decide) hm_z
    replace hm_z := rn_cmpT (am_cur_of (i := (78, 3, .if_icmp .ne 12, (47, 0, 0), 0)) (by decide +kernel)) (by decide) hm_z
    replace hm_z := rn_aload_n (am_cur_of (i := (90, 1, .aload_n 0, (0, 0, 0), 0)) (by decide +kernel)) g0m hm_z
    replace hm_z := rn_bipush (w := 43) (am_cur_of (i := (91, 2, .bipush 43, (0, 0, 0), 0)) (by decide +kernel)) (by decide) hm_z
    replace hm_z := rn_callV (M' := am_m171) (o := 164) (ar := [.int 43]) (rest := []) (L := lv_args 0 [.ref 164, .int 43]) (am_cur_of (i := (93, 3, .invokevirtual 194, (171, 1715, 3), 0)) (by decide +kernel)) rfl rfl rfl rfl hm_z
    obtain ⟨r6064_z, h6065_z, q6066_z, hm_z⟩ := hm_z
    obtain ⟨rfl, yq6066_z⟩ := rp_sgN (fun q => absurd (Eq.trans (Eq.symm kc) q.1) (by decide)) q6066_z
    subst yq6066_z
    replace hm_z : rn _ _ _ _ [.int 0] _ _ _ := hm_z
    replace hm_z := rn_ifT (am_cur_of (i := (96, 3, .ifCond .eq 8, (53, 0, 0), 0)) (by decide +kernel)) (by decide) hm_z
    replace hm_z := rn_aload_n (am_cur_of (i := (104, 1, .aload_n 0, (0, 0, 0), 0)) (by decide +kernel)) g0m hm_z
    replace hm_z := rn_bipush (w := 45) (am_cur_of (i := (105, 2, .bipush 45, (0, 0, 0), 0)) (by decide +kernel)) (by decide) hm_z
    replace hm_z := rn_callV (M' := am_m171) (o := 164) (ar := [.int 45]) (rest := []) (L := lv_args 0 [.ref 164, .int 45]) (am_cur_of (i := (107, 3, .invokevirtual 194, (171, 1715, 3), 0)) (by decide +kernel)) rfl rfl rfl rfl hm_z
    obtain ⟨r6067_z, h6068_z, q6069_z, hm_z⟩ := hm_z
    obtain ⟨rfl, yq6069_z⟩ := rp_sgN (fun q => absurd (Eq.trans (Eq.symm kc) q.1) (by decide)) q6069_z
    subst yq6069_z
    replace hm_z : rn _ _ _ _ [.int 0] _ _ _ := hm_z
    replace hm_z := rn_ifT (am_cur_of (i := (110, 3, .ifCond .eq 8, (59, 0, 0), 0)) (by decide +kernel)) (by decide) hm_z
    replace hm_z := rn_aload_n (am_cur_of (i := (118, 1, .aload_n 0, (0, 0, 0), 0)) (by decide +kernel)) g0m hm_z
    replace hm_z := rn_bipush (w := 42) (am_cur_of (i := (119, 2, .bipush 42, (0, 0, 0), 0)) (by decide +kernel)) (by decide) hm_z
    replace hm_z := rn_callV (M' := am_m171) (o := 164) (ar := [.int 42]) (rest := []) (L := lv_args 0 [.ref 164, .int 42]) (am_cur_of (i := (121, 3, .invokevirtual 194, (171, 1715, 3), 0)) (by decide +kernel)) rfl rfl rfl rfl hm_z
    obtain ⟨r6070_z, h6071_z, q6072_z, hm_z⟩ := hm_z
    obtain ⟨rfl, yq6072_z⟩ := rp_sgN (fun q => absurd (Eq.trans (Eq.symm kc) q.1) (by decide)) q6072_z
    subst yq6072_z
    replace hm_z : rn _ _ _ _ [.int 0] _ _ _ := hm_z
    replace hm_z := rn_ifT (am_cur_of (i := (124, 3, .ifCond .eq 8, (65, 0, 0), 0)) (by decide +kernel)) (by decide) hm_z
    replace hm_z := rn_aload_n (am_cur_of (i := (132, 1, .aload_n 0, (0, 0, 0), 0)) (by decide +kernel)) g0m hm_z
    replace hm_z := rn_bipush (w := 47) (am_cur_of (i := (133, 2, .bipush 47, (0, 0, 0), 0)) (by decide +kernel)) (by decide) hm_z
    replace hm_z := rn_callV (M' := am_m171) (o := 164) (ar := [.int 47]) (rest := []) (L := lv_args 0 [.ref 164, .int 47]) (am_cur_of (i := (135, 3, .invokevirtual 194, (171, 1715, 3), 0)) (by decide +kernel)) rfl rfl rfl rfl hm_z
    obtain ⟨r6073_z, h6074_z, q6075_z, hm_z⟩ := hm_z
    obtain ⟨rfl, yq6075_z⟩ := rp_sgN (fun q => absurd (Eq.trans (Eq.symm kc) q.1) (by decide)) q6075_z
    subst yq6075_z
    replace hm_z : rn _ _ _ _ [.int 0] _ _ _ := hm_z
    replace hm_z := rn_ifT (am_cur_of (i := (138, 3, .ifCond .eq 8, (71, 0, 0), 0)) (by decide +kernel)) (by decide) hm_z
    replace hm_z := rn_iconst (w := 0) (am_cur_of (i := (146, 1, .iconst 0, (0, 0, 0), 0)) (by decide +kernel)) (by decide) hm_z
    replace hm_z := rn_istore_n (am_cur_of (i := (147, 1, .istore_n 1, (0, 0, 0), 0)) (by decide +kernel)) hm_z
    obtain ⟨_, s6076_z, s6077_z, g1m, hm_z⟩ := hm_z
    replace g0m := s6076_z 0 _ (by decide) rfl g0m
    clear s6076_z s6077_z
    replace hm_z := rn_iload_n (am_cur_of (i := (148, 1, .iload_n 1, (0, 0, 0), 0)) (by decide +kernel)) g1m hm_z
    replace hm_z := rn_ifF (am_cur_of (i := (149, 3, .ifCond .ne 9, (79, 0, 0), 0)) (by decide +kernel)) (by decide) hm_z
    replace hm_z := rn_aload_n (am_cur_of (i := (152, 1, .aload_n 0, (0, 0, 0), 0)) (by decide +kernel)) g0m hm_z
    replace hm_z := rn_iconst (w := 1) (am_cur_of (i := (153, 1, .iconst 1, (0, 0, 0), 0)) (by decide +kernel)) (by decide) hm_z
    replace hm_z := rn_callV (M' := am_m158) (o := 164) (ar := [.int 1]) (rest := []) (L := lv_args 0 [.ref 164, .int 1]) (am_cur_of (i := (154, 3, .invokevirtual 181, (158, 1665, 3), 0)) (by decide +kernel)) rfl rfl rfl rfl hm_z
    obtain ⟨r6078_z, h6079_z, q6080_z, hm_z⟩ := hm_z
    obtain ⟨rfl, yq6080_z⟩ := rp_wrong q6080_z
    subst yq6080_z
    replace hm_z : rn _ _ _ _ [.int 0] _ _ _ := hm_z
    replace hm_z := rn_iret (am_cur_of (i := (157, 1, .ireturn, (0, 0, 0), 0)) (by decide +kernel)) hm_z
    obtain ⟨e6081_z, e6082_z⟩ := hm_z
    subst e6054_z e6082_z
    exact Or.inr ⟨e6053_z, rfl, z4_z.trans (rt_i32 (by rw [show (0 : Int32).toInt = 0 by decide]; omega)), e6081_z, rfl⟩
  · replace b6052_z : (0 : Int32).toInt < op.toInt := b6052_z
    replace hc_z := rn_aload_n (am_cur_of (i := (75, 1, .aload_n 0, (0, 0, 0), 0)) (by decide +kernel)) g0_z hc_z
    replace hc_z := rn_iconst (w := 1) (am_cur_of (i := (76, 1, .iconst 1, (0, 0, 0), 0)) (by decide +kernel)) (by decide) hc_z
    replace hc_z := rn_callV (M' := am_m29) (o := 44) (ar := [.int 1]) (rest := []) (L := lv_args 0 [.ref 44, .int 1]) (am_cur_of (i := (77, 3, .invokevirtual 108, (29, 769, 3), 0)) (by decide +kernel)) rfl rfl rfl rfl hc_z
    obtain ⟨r6083_z, h6084_z, q6085_z, hc_z⟩ := hc_z
    obtain ⟨rfl, yq6085_z⟩ := rp_fail R4 q6085_z
    subst yq6085_z
    replace hc_z : rn _ _ _ _ [] _ _ _ := hc_z
    have K := rs_stick (w := 1) (q := p) (a := 44) (by decide) (by decide) rfl (by decide) rfl (show rg_v (am_up (am_up h 44 1 (.int 1)) 44 2 (.int (rg_v h 44 9))) 44 2 = p from R5) hc_z
    replace hm_z := rn_aload_n (am_cur_of (i := (0, 1, .aload_n 0, (0, 0, 0), 0)) (by decide +kernel)) g0m hm_z
    replace hm_z := rn_bipush (w := 41) (am_cur_of (i := (1, 2, .bipush 41, (0, 0, 0), 0)) (by decide +kernel)) (by decide) hm_z
    replace hm_z := rn_callV (M' := am_m171) (o := 164) (ar := [.int 41]) (rest := []) (L := lv_args 0 [.ref 164, .int 41]) (am_cur_of (i := (3, 3, .invokevirtual 194, (171, 1715, 3), 0)) (by decide +kernel)) rfl rfl rfl rfl hm_z
    obtain ⟨r6086_z, h6087_z, q6088_z, hm_z⟩ := hm_z
    obtain ⟨rfl, yq6088_z⟩ := rp_sgN (fun q => absurd (Eq.trans (Eq.symm kc) q.1) (by decide)) q6088_z
    subst yq6088_z
    replace hm_z : rn _ _ _ _ [.int 0] _ _ _ := hm_z
    replace hm_z := rn_ifT (am_cur_of (i := (6, 3, .ifCond .eq 41, (26, 0, 0), 0)) (by decide +kernel)) (by decide) hm_z
    replace hm_z := rn_aload_n (am_cur_of (i := (47, 1, .aload_n 0, (0, 0, 0), 0)) (by decide +kernel)) g0m hm_z
    replace hm_z := rn_bipush (w := 12) (am_cur_of (i := (48, 2, .bipush 12, (0, 0, 0), 0)) (by decide +kernel)) (by decide) hm_z
    replace hm_z := rn_callV (M' := am_m174) (o := 164) (ar := [.int 12]) (rest := []) (L := lv_args 0 [.ref 164, .int 12]) (am_cur_of (i := (50, 3, .invokevirtual 306, (174, 1727, 3), 0)) (by decide +kernel)) rfl rfl rfl rfl hm_z
    obtain ⟨r6089_z, h6090_z, q6091_z, hm_z⟩ := hm_z
    obtain ⟨rfl, yq6091_z⟩ := rp_kyN (fun q => absurd (Eq.trans (Eq.symm kd) q.2) (by decide)) q6091_z
    subst yq6091_z
    replace hm_z : rn _ _ _ _ [.int 0] _ _ _ := hm_z
    replace hm_z := rn_ifT (am_cur_of (i := (53, 3, .ifCond .eq 7, (32, 0, 0), 0)) (by decide +kernel)) (by decide) hm_z
    replace hm_z := rn_aload_n (am_cur_of (i := (60, 1, .aload_n 0, (0, 0, 0), 0)) (by decide +kernel)) g0m hm_z
    replace hm_z := rn_bipush (w := 13) (am_cur_of (i := (61, 2, .bipush 13, (0, 0, 0), 0)) (by decide +kernel)) (by decide) hm_z
    replace hm_z := rn_callV (M' := am_m174) (o := 164) (ar := [.int 13]) (rest := []) (L := lv_args 0 [.ref 164, .int 13]) (am_cur_of (i := (63, 3, .invokevirtual 306, (174, 1727, 3), 0)) (by decide +kernel)) rfl rfl rfl rfl hm_z
    obtain ⟨r6092_z, h6093_z, q6094_z, hm_z⟩ := hm_z
    obtain ⟨rfl, yq6094_z⟩ := rp_kyN (fun q => absurd (Eq.trans (Eq.symm kd) q.2) (by decide)) q6094_z
    subst yq6094_z
    replace hm_z : rn _ _ _ _ [.int 0] _ _ _ := hm_z
    replace hm_z := rn_ifT (am_cur_of (i := (66, 3, .ifCond .eq 7, (38, 0, 0), 0)) (by decide +kernel)) (by decide) hm_z
    replace hm_z := rn_aload_n (am_cur_of (i := (73, 1, .aload_n 0, (0, 0, 0), 0)) (by decide +kernel)) g0m hm_z
    replace hm_z := rn_getI (v := 1) (am_cur_of (i := (74, 3, .getfield 157, (12, 8, 1392), 0)) (by decide +kernel)) (by decide +kernel) kc hm_z
    replace hm_z := rn_iconst (w := 5) (am_cur_of (i := (77, 1, .iconst 5, (0, 0, 0), 0)) (by decide +kernel)) (by decide) hm_z
    replace hm_z := rn_cmpT (am_cur_of (i := (78, 3, .if_icmp .ne 12, (47, 0, 0), 0)) (by decide +kernel)) (by decide) hm_z
    replace hm_z := rn_aload_n (am_cur_of (i := (90, 1, .aload_n 0, (0, 0, 0), 0)) (by decide +kernel)) g0m hm_z
    replace hm_z := rn_bipush (w := 43) (am_cur_of (i := (91, 2, .bipush 43, (0, 0, 0), 0)) (by decide +kernel)) (by decide) hm_z
    replace hm_z := rn_callV (M' := am_m171) (o := 164) (ar := [.int 43]) (rest := []) (L := lv_args 0 [.ref 164, .int 43]) (am_cur_of (i := (93, 3, .invokevirtual 194, (171, 1715, 3), 0)) (by decide +kernel)) rfl rfl rfl rfl hm_z
    obtain ⟨r6095_z, h6096_z, q6097_z, hm_z⟩ := hm_z
    obtain ⟨rfl, yq6097_z⟩ := rp_sgN (fun q => absurd (Eq.trans (Eq.symm kc) q.1) (by decide)) q6097_z
    subst yq6097_z
    replace hm_z : rn _ _ _ _ [.int 0] _ _ _ := hm_z
    replace hm_z := rn_ifT (am_cur_of (i := (96, 3, .ifCond .eq 8, (53, 0, 0), 0)) (by decide +kernel)) (by decide) hm_z
    replace hm_z := rn_aload_n (am_cur_of (i := (104, 1, .aload_n 0, (0, 0, 0), 0)) (by decide +kernel)) g0m hm_z
    replace hm_z := rn_bipush (w := 45) (am_cur_of (i := (105, 2, .bipush 45, (0, 0, 0), 0)) (by decide +kernel)) (by decide) hm_z
    replace hm_z := rn_callV (M' := am_m171) (o := 164) (ar := [.int 45]) (rest := []) (L := lv_args 0 [.ref 164, .int 45]) (am_cur_of (i := (107, 3, .invokevirtual 194, (171, 1715, 3), 0)) (by decide +kernel)) rfl rfl rfl rfl hm_z
    obtain ⟨r6098_z, h6099_z, q6100_z, hm_z⟩ := hm_z
    obtain ⟨rfl, yq6100_z⟩ := rp_sgN (fun q => absurd (Eq.trans (Eq.symm kc) q.1) (by decide)) q6100_z
    subst yq6100_z
    replace hm_z : rn _ _ _ _ [.int 0] _ _ _ := hm_z
    replace hm_z := rn_ifT (am_cur_of (i := (110, 3, .ifCond .eq 8, (59, 0, 0), 0)) (by decide +kernel)) (by decide) hm_z
    replace hm_z := rn_aload_n (am_cur_of (i := (118, 1, .aload_n 0, (0, 0, 0), 0)) (by decide +kernel)) g0m hm_z
    replace hm_z := rn_bipush (w := 42) (am_cur_of (i := (119, 2, .bipush 42, (0, 0, 0), 0)) (by decide +kernel)) (by decide) hm_z
    replace hm_z := rn_callV (M' := am_m171) (o := 164) (ar := [.int 42]) (rest := []) (L := lv_args 0 [.ref 164, .int 42]) (am_cur_of (i := (121, 3, .invokevirtual 194, (171, 1715, 3), 0)) (by decide +kernel)) rfl rfl rfl rfl hm_z
    obtain ⟨r6101_z, h6102_z, q6103_z, hm_z⟩ := hm_z
    obtain ⟨rfl, yq6103_z⟩ := rp_sgN (fun q => absurd (Eq.trans (Eq.symm kc) q.1) (by decide)) q6103_z
    subst yq6103_z
    replace hm_z : rn _ _ _ _ [.int 0] _ _ _ := hm_z
    replace hm_z := rn_ifT (am_cur_of (i := (124, 3, .ifCond .eq 8, (65, 0, 0), 0)) (by decide +kernel)) (by decide) hm_z
    replace hm_z := rn_aload_n (am_cur_of (i := (132, 1, .aload_n 0, (0, 0, 0), 0)) (by decide +kernel)) g0m hm_z
    replace hm_z := rn_bipush (w := 47) (am_cur_of (i := (133, 2, .bipush 47, (0, 0, 0), 0)) (by decide +kernel)) (by decide) hm_z
    replace hm_z := rn_callV (M' := am_m171) (o := 164) (ar := [.int 47]) (rest := []) (L := lv_args 0 [.ref 164, .int 47]) (am_cur_of (i := (135, 3, .invokevirtual 194, (171, 1715, 3), 0)) (by decide +kernel)) rfl rfl rfl rfl hm_z
    obtain ⟨r6104_z, h6105_z, q6106_z, hm_z⟩ := hm_z
    obtain ⟨rfl, yq6106_z⟩ := rp_sgN (fun q => absurd (Eq.trans (Eq.symm kc) q.1) (by decide)) q6106_z
    subst yq6106_z
    replace hm_z : rn _ _ _ _ [.int 0] _ _ _ := hm_z
    replace hm_z := rn_ifT (am_cur_of (i := (138, 3, .ifCond .eq 8, (71, 0, 0), 0)) (by decide +kernel)) (by decide) hm_z
    replace hm_z := rn_iconst (w := 0) (am_cur_of (i := (146, 1, .iconst 0, (0, 0, 0), 0)) (by decide +kernel)) (by decide) hm_z
    replace hm_z := rn_istore_n (am_cur_of (i := (147, 1, .istore_n 1, (0, 0, 0), 0)) (by decide +kernel)) hm_z
    obtain ⟨_, s6107_z, s6108_z, g1m, hm_z⟩ := hm_z
    replace g0m := s6107_z 0 _ (by decide) rfl g0m
    clear s6107_z s6108_z
    replace hm_z := rn_iload_n (am_cur_of (i := (148, 1, .iload_n 1, (0, 0, 0), 0)) (by decide +kernel)) g1m hm_z
    replace hm_z := rn_ifF (am_cur_of (i := (149, 3, .ifCond .ne 9, (79, 0, 0), 0)) (by decide +kernel)) (by decide) hm_z
    replace hm_z := rn_aload_n (am_cur_of (i := (152, 1, .aload_n 0, (0, 0, 0), 0)) (by decide +kernel)) g0m hm_z
    replace hm_z := rn_iconst (w := 1) (am_cur_of (i := (153, 1, .iconst 1, (0, 0, 0), 0)) (by decide +kernel)) (by decide) hm_z
    replace hm_z := rn_callV (M' := am_m158) (o := 164) (ar := [.int 1]) (rest := []) (L := lv_args 0 [.ref 164, .int 1]) (am_cur_of (i := (154, 3, .invokevirtual 181, (158, 1665, 3), 0)) (by decide +kernel)) rfl rfl rfl rfl hm_z
    obtain ⟨r6109_z, h6110_z, q6111_z, hm_z⟩ := hm_z
    obtain ⟨rfl, yq6111_z⟩ := rp_wrong q6111_z
    subst yq6111_z
    replace hm_z : rn _ _ _ _ [.int 0] _ _ _ := hm_z
    replace hm_z := rn_iret (am_cur_of (i := (157, 1, .ireturn, (0, 0, 0), 0)) (by decide +kernel)) hm_z
    obtain ⟨e6112_z, e6113_z⟩ := hm_z
    subst e6112_z e6113_z
    exact Or.inl (Or.inr ⟨rfl, 1, by decide, K.1, K.2, rfl, R6⟩)
theorem rj_c8_23 {T : Nat → Int32} {S x p : Int32} {n n' : Nat} {h h' g g' : am_H} {r r' : Option Value} (R : rq T S x p 23 h g) (A : rp 23 h g) (B : rp_t h g) (Z : rs 23 h g) (w0_z : rg_v g 164 45 = 0) (ka : (rg_v h 44 10) = 2) (kc : (rg_v g 164 8) = 1) (kb : (rg_v h 44 11) = 15) (kd : (rg_v g 164 9) = 18) (hc_z : rn n am_m44 0 (lv_args 0 [.ref 44]) [] h r h') (hm_z : rn n' am_m178 0 (lv_args 0 [.ref 164]) [] g r' g') : rj_Q T S x p 23 h g h' g' r r' := by
  have z0_z : (0 : Int32).toInt = 0 := by decide
  have g0_z : am_get (lv_args 0 [.ref 44]) 0 = some (.ref 44) := rfl
  have g0m : am_get (lv_args 0 [.ref 164]) 0 = some (.ref 164) := rfl
  have Rk := R
  have Zk := Z
  obtain ⟨⟨c1_z, c2_z, c3_z, c4_z, c5_z, c6_z, c7_z, c8_z⟩, ⟨m2_z, m3_z, m4_z, m5_z, m6_z, m7_z, m8_z⟩, R3, R4, R5, R6, R7, R8, R9, R10⟩ := (R : rq T S x p 23 h g)
  obtain ⟨np, op, z1_z, z2_z, z3_z, z4_z, z5_z, z6_z, z7_z, z8_z, z9_z, z10_z⟩ := (Z : rs 23 h g)
  obtain ⟨nk1_z, nk2_z, nk3_z⟩ := A.2.2.2.2.2.1
  replace nk1_z : rg_v h 32 0 = rg_v g 164 44 := nk1_z
  replace nk2_z : 0 ≤ (rg_v h 32 0).toInt := nk2_z
  replace nk3_z : (rg_v h 32 0).toInt ≤ 64 := nk3_z
  replace z8_z : np.toInt ≤ (rg_v h 32 0).toInt + op.toInt := z8_z
  obtain ⟨kn, ekn⟩ : ∃ v, rg_v h 32 0 = v := ⟨_, rfl⟩
  rw [ekn] at nk1_z nk2_z nk3_z z8_z
  have e9_z := rt_c1 (x := kn) (by omega) (by omega)
  replace hc_z := rn_aload_n (am_cur_of (i := (0, 1, .aload_n 0, (0, 0, 0), 0)) (by decide +kernel)) g0_z hc_z
  replace hc_z := rn_bipush (w := 41) (am_cur_of (i := (1, 2, .bipush 41, (0, 0, 0), 0)) (by decide +kernel)) (by decide) hc_z
  replace hc_z := rn_callV (M' := am_m45) (o := 44) (ar := [.int 41]) (rest := []) (L := lv_args 0 [.ref 44, .int 41]) (am_cur_of (i := (3, 3, .invokevirtual 105, (45, 834, 3), 0)) (by decide +kernel)) rfl rfl rfl rfl hc_z
  obtain ⟨r6114_z, h6115_z, q6116_z, hc_z⟩ := hc_z
  obtain ⟨rfl, yq6116_z⟩ := rp_mkN (fun q => absurd (Eq.trans (Eq.symm ka) q.1) (by decide)) q6116_z
  subst yq6116_z
  replace hc_z : rn _ _ _ _ [.int 0] _ _ _ := hc_z
  replace hc_z := rn_ifT (am_cur_of (i := (6, 3, .ifCond .eq 45, (28, 0, 0), 0)) (by decide +kernel)) (by decide) hc_z
  replace hc_z := rn_aload_n (am_cur_of (i := (51, 1, .aload_n 0, (0, 0, 0), 0)) (by decide +kernel)) g0_z hc_z
  replace hc_z := rn_getI (v := 2) (am_cur_of (i := (52, 3, .getfield 60, (4, 10, 419), 0)) (by decide +kernel)) (by decide +kernel) ka hc_z
  replace hc_z := rn_bipush (w := 6) (am_cur_of (i := (55, 2, .bipush 6, (0, 0, 0), 0)) (by decide +kernel)) (by decide) hc_z
  replace hc_z := rn_cmpT (am_cur_of (i := (57, 3, .if_icmp .ne 11, (36, 0, 0), 0)) (by decide +kernel)) (by decide) hc_z
  replace hc_z := rn_aload_n (am_cur_of (i := (68, 1, .aload_n 0, (0, 0, 0), 0)) (by decide +kernel)) g0_z hc_z
  replace hc_z := rn_getI (v := op) (am_cur_of (i := (69, 3, .getfield 254, (4, 14, 423), 0)) (by decide +kernel)) (by decide +kernel) z4_z hc_z
  replace hc_z := rn_if (am_cur_of (i := (72, 3, .ifCond .le 8, (42, 0, 0), 0)) (by decide +kernel)) hc_z
  rcases hc_z with ⟨b6117_z, hc_z⟩ | ⟨b6117_z, hc_z⟩
  · replace b6117_z : op.toInt ≤ (0 : Int32).toInt := b6117_z
    replace hc_z := rn_iconst (w := 3) (am_cur_of (i := (80, 1, .iconst 3, (0, 0, 0), 0)) (by decide +kernel)) (by decide) hc_z
    replace hc_z := rn_iret (am_cur_of (i := (81, 1, .ireturn, (0, 0, 0), 0)) (by decide +kernel)) hc_z
    obtain ⟨e6118_z, e6119_z⟩ := hc_z
    replace hm_z := rn_aload_n (am_cur_of (i := (0, 1, .aload_n 0, (0, 0, 0), 0)) (by decide +kernel)) g0m hm_z
    replace hm_z := rn_bipush (w := 41) (am_cur_of (i := (1, 2, .bipush 41, (0, 0, 0), 0)) (by decide +kernel)) (by decide) hm_z
    replace hm_z := rn_callV (M' := am_m171) (o := 164) (ar := [.int 41]) (rest := []) (L := lv_args 0 [.ref 164, .int 41]) (am_cur_of (i := (3, 3, .invokevirtual 194, (171, 1715, 3), 0)) (by decide +kernel)) rfl rfl rfl rfl hm_z
    obtain ⟨r6120_z, h6121_z, q6122_z, hm_z⟩ := hm_z
    obtain ⟨rfl, yq6122_z⟩ := rp_sgN (fun q => absurd (Eq.trans (Eq.symm kc) q.1) (by decide)) q6122_z
    subst yq6122_z
    replace hm_z : rn _ _ _ _ [.int 0] _ _ _ := hm_z
    replace hm_z := rn_ifT (am_cur_of (i := (6, 3, .ifCond .eq 41, (26, 0, 0), 0)) (by decide +kernel)) (by decide) hm_z
    replace hm_z := rn_aload_n (am_cur_of (i := (47, 1, .aload_n 0, (0, 0, 0), 0)) (by decide +kernel)) g0m hm_z
    replace hm_z := rn_bipush (w := 12) (am_cur_of (i := (48, 2, .bipush 12, (0, 0, 0), 0)) (by decide +kernel)) (by decide) hm_z
    replace hm_z := rn_callV (M' := am_m174) (o := 164) (ar := [.int 12]) (rest := []) (L := lv_args 0 [.ref 164, .int 12]) (am_cur_of (i := (50, 3, .invokevirtual 306, (174, 1727, 3), 0)) (by decide +kernel)) rfl rfl rfl rfl hm_z
    obtain ⟨r6123_z, h6124_z, q6125_z, hm_z⟩ := hm_z
    obtain ⟨rfl, yq6125_z⟩ := rp_kyN (fun q => absurd (Eq.trans (Eq.symm kd) q.2) (by decide)) q6125_z
    subst yq6125_z
    replace hm_z : rn _ _ _ _ [.int 0] _ _ _ := hm_z
    replace hm_z := rn_ifT (am_cur_of (i := (53, 3, .ifCond .eq 7, (32, 0, 0), 0)) (by decide +kernel)) (by decide) hm_z
    replace hm_z := rn_aload_n (am_cur_of (i := (60, 1, .aload_n 0, (0, 0, 0), 0)) (by decide +kernel)) g0m hm_z
    replace hm_z := rn_bipush (w := 13) (am_cur_of (i := (61, 2, .bipush 13, (0, 0, 0), 0)) (by decide +kernel)) (by decide) hm_z
    replace hm_z := rn_callV (M' := am_m174) (o := 164) (ar := [.int 13]) (rest := []) (L := lv_args 0 [.ref 164, .int 13]) (am_cur_of (i := (63, 3, .invokevirtual 306, (174, 1727, 3), 0)) (by decide +kernel)) rfl rfl rfl rfl hm_z
    obtain ⟨r6126_z, h6127_z, q6128_z, hm_z⟩ := hm_z
    obtain ⟨rfl, yq6128_z⟩ := rp_kyN (fun q => absurd (Eq.trans (Eq.symm kd) q.2) (by decide)) q6128_z
    subst yq6128_z
    replace hm_z : rn _ _ _ _ [.int 0] _ _ _ := hm_z
    replace hm_z := rn_ifT (am_cur_of (i := (66, 3, .ifCond .eq 7, (38, 0, 0), 0)) (by decide +kernel)) (by decide) hm_z
    replace hm_z := rn_aload_n (am_cur_of (i := (73, 1, .aload_n 0, (0, 0, 0), 0)) (by decide +kernel)) g0m hm_z
    replace hm_z := rn_getI (v := 1) (am_cur_of (i := (74, 3, .getfield 157, (12, 8, 1392), 0)) (by decide +kernel)) (by decide +kernel) kc hm_z
    replace hm_z := rn_iconst (w := 5) (am_cur_of (i := (77, 1, .iconst 5, (0, 0, 0), 0)) (by decide +kernel)) (by decide) hm_z
    replace hm_z := rn_cmpT (am_cur_of (i := (78, 3, .if_icmp .ne 12, (47, 0, 0), 0)) (by decide +kernel)) (by decide) hm_z
    replace hm_z := rn_aload_n (am_cur_of (i := (90, 1, .aload_n 0, (0, 0, 0), 0)) (by decide +kernel)) g0m hm_z
    replace hm_z := rn_bipush (w := 43) (am_cur_of (i := (91, 2, .bipush 43, (0, 0, 0), 0)) (by decide +kernel)) (by decide) hm_z
    replace hm_z := rn_callV (M' := am_m171) (o := 164) (ar := [.int 43]) (rest := []) (L := lv_args 0 [.ref 164, .int 43]) (am_cur_of (i := (93, 3, .invokevirtual 194, (171, 1715, 3), 0)) (by decide +kernel)) rfl rfl rfl rfl hm_z
    obtain ⟨r6129_z, h6130_z, q6131_z, hm_z⟩ := hm_z
    obtain ⟨rfl, yq6131_z⟩ := rp_sgN (fun q => absurd (Eq.trans (Eq.symm kc) q.1) (by decide)) q6131_z
    subst yq6131_z
    replace hm_z : rn _ _ _ _ [.int 0] _ _ _ := hm_z
    replace hm_z := rn_ifT (am_cur_of (i := (96, 3, .ifCond .eq 8, (53, 0, 0), 0)) (by decide +kernel)) (by decide) hm_z
    replace hm_z := rn_aload_n (am_cur_of (i := (104, 1, .aload_n 0, (0, 0, 0), 0)) (by decide +kernel)) g0m hm_z
    replace hm_z := rn_bipush (w := 45) (am_cur_of (i := (105, 2, .bipush 45, (0, 0, 0), 0)) (by decide +kernel)) (by decide) hm_z
    replace hm_z := rn_callV (M' := am_m171) (o := 164) (ar := [.int 45]) (rest := []) (L := lv_args 0 [.ref 164, .int 45]) (am_cur_of (i := (107, 3, .invokevirtual 194, (171, 1715, 3), 0)) (by decide +kernel)) rfl rfl rfl rfl hm_z
    obtain ⟨r6132_z, h6133_z, q6134_z, hm_z⟩ := hm_z
    obtain ⟨rfl, yq6134_z⟩ := rp_sgN (fun q => absurd (Eq.trans (Eq.symm kc) q.1) (by decide)) q6134_z
    subst yq6134_z
    replace hm_z : rn _ _ _ _ [.int 0] _ _ _ := hm_z
    replace hm_z := rn_ifT (am_cur_of (i := (110, 3, .ifCond .eq 8, (59, 0, 0), 0)) (by decide +kernel)) (by decide) hm_z
    replace hm_z := rn_aload_n (am_cur_of (i := (118, 1, .aload_n 0, (0, 0, 0), 0)) (by decide +kernel)) g0m hm_z
    replace hm_z := rn_bipush (w := 42) (am_cur_of (i := (119, 2, .bipush 42, (0, 0, 0), 0)) (by decide +kernel)) (by decide) hm_z
    replace hm_z := rn_callV (M' := am_m171) (o := 164) (ar := [.int 42]) (rest := []) (L := lv_args 0 [.ref 164, .int 42]) (am_cur_of (i := (121, 3, .invokevirtual 194, (171, 1715, 3), 0)) (by decide +kernel)) rfl rfl rfl rfl hm_z
    obtain ⟨r6135_z, h6136_z, q6137_z, hm_z⟩ := hm_z
    obtain ⟨rfl, yq6137_z⟩ := rp_sgN (fun q => absurd (Eq.trans (Eq.symm kc) q.1) (by decide)) q6137_z
    subst yq6137_z
    replace hm_z : rn _ _ _ _ [.int 0] _ _ _ := hm_z
    replace hm_z := rn_ifT (am_cur_of (i := (124, 3, .ifCond .eq 8, (65, 0, 0), 0)) (by decide +kernel)) (by decide) hm_z
    replace hm_z := rn_aload_n (am_cur_of (i := (132, 1, .aload_n 0, (0, 0, 0), 0)) (by decide +kernel)) g0m hm_z
    replace hm_z := rn_bipush (w := 47) (am_cur_of (i := (133, 2, .bipush 47, (0, 0, 0), 0)) (by decide +kernel)) (by decide) hm_z
    replace hm_z := rn_callV (M' := am_m171) (o := 164) (ar := [.int 47]) (rest := []) (L := lv_args 0 [.ref 164, .int 47]) (am_cur_of (i := (135, 3, .invokevirtual 194, (171, 1715, 3), 0)) (by decide +kernel)) rfl rfl rfl rfl hm_z
    obtain ⟨r6138_z, h6139_z, q6140_z, hm_z⟩ := hm_z
    obtain ⟨rfl, yq6140_z⟩ := rp_sgN (fun q => absurd (Eq.trans (Eq.symm kc) q.1) (by decide)) q6140_z
    subst yq6140_z
    replace hm_z : rn _ _ _ _ [.int 0] _ _ _ := hm_z
    replace hm_z := rn_ifT (am_cur_of (i := (138, 3, .ifCond .eq 8, (71, 0, 0), 0)) (by decide +kernel)) (by decide) hm_z
    replace hm_z := rn_iconst (w := 0) (am_cur_of (i := (146, 1, .iconst 0, (0, 0, 0), 0)) (by decide +kernel)) (by decide) hm_z
    replace hm_z := rn_istore_n (am_cur_of (i := (147, 1, .istore_n 1, (0, 0, 0), 0)) (by decide +kernel)) hm_z
    obtain ⟨_, s6141_z, s6142_z, g1m, hm_z⟩ := hm_z
    replace g0m := s6141_z 0 _ (by decide) rfl g0m
    clear s6141_z s6142_z
    replace hm_z := rn_iload_n (am_cur_of (i := (148, 1, .iload_n 1, (0, 0, 0), 0)) (by decide +kernel)) g1m hm_z
    replace hm_z := rn_ifF (am_cur_of (i := (149, 3, .ifCond .ne 9, (79, 0, 0), 0)) (by decide +kernel)) (by decide) hm_z
    replace hm_z := rn_aload_n (am_cur_of (i := (152, 1, .aload_n 0, (0, 0, 0), 0)) (by decide +kernel)) g0m hm_z
    replace hm_z := rn_iconst (w := 1) (am_cur_of (i := (153, 1, .iconst 1, (0, 0, 0), 0)) (by decide +kernel)) (by decide) hm_z
    replace hm_z := rn_callV (M' := am_m158) (o := 164) (ar := [.int 1]) (rest := []) (L := lv_args 0 [.ref 164, .int 1]) (am_cur_of (i := (154, 3, .invokevirtual 181, (158, 1665, 3), 0)) (by decide +kernel)) rfl rfl rfl rfl hm_z
    obtain ⟨r6143_z, h6144_z, q6145_z, hm_z⟩ := hm_z
    obtain ⟨rfl, yq6145_z⟩ := rp_wrong q6145_z
    subst yq6145_z
    replace hm_z : rn _ _ _ _ [.int 0] _ _ _ := hm_z
    replace hm_z := rn_iret (am_cur_of (i := (157, 1, .ireturn, (0, 0, 0), 0)) (by decide +kernel)) hm_z
    obtain ⟨e6146_z, e6147_z⟩ := hm_z
    subst e6119_z e6147_z
    exact Or.inr ⟨e6118_z, rfl, z4_z.trans (rt_i32 (by rw [show (0 : Int32).toInt = 0 by decide]; omega)), e6146_z, rfl⟩
  · replace b6117_z : (0 : Int32).toInt < op.toInt := b6117_z
    replace hc_z := rn_aload_n (am_cur_of (i := (75, 1, .aload_n 0, (0, 0, 0), 0)) (by decide +kernel)) g0_z hc_z
    replace hc_z := rn_iconst (w := 1) (am_cur_of (i := (76, 1, .iconst 1, (0, 0, 0), 0)) (by decide +kernel)) (by decide) hc_z
    replace hc_z := rn_callV (M' := am_m29) (o := 44) (ar := [.int 1]) (rest := []) (L := lv_args 0 [.ref 44, .int 1]) (am_cur_of (i := (77, 3, .invokevirtual 108, (29, 769, 3), 0)) (by decide +kernel)) rfl rfl rfl rfl hc_z
    obtain ⟨r6148_z, h6149_z, q6150_z, hc_z⟩ := hc_z
    obtain ⟨rfl, yq6150_z⟩ := rp_fail R4 q6150_z
    subst yq6150_z
    replace hc_z : rn _ _ _ _ [] _ _ _ := hc_z
    have K := rs_stick (w := 1) (q := p) (a := 44) (by decide) (by decide) rfl (by decide) rfl (show rg_v (am_up (am_up h 44 1 (.int 1)) 44 2 (.int (rg_v h 44 9))) 44 2 = p from R5) hc_z
    replace hm_z := rn_aload_n (am_cur_of (i := (0, 1, .aload_n 0, (0, 0, 0), 0)) (by decide +kernel)) g0m hm_z
    replace hm_z := rn_bipush (w := 41) (am_cur_of (i := (1, 2, .bipush 41, (0, 0, 0), 0)) (by decide +kernel)) (by decide) hm_z
    replace hm_z := rn_callV (M' := am_m171) (o := 164) (ar := [.int 41]) (rest := []) (L := lv_args 0 [.ref 164, .int 41]) (am_cur_of (i := (3, 3, .invokevirtual 194, (171, 1715, 3), 0)) (by decide +kernel)) rfl rfl rfl rfl hm_z
    obtain ⟨r6151_z, h6152_z, q6153_z, hm_z⟩ := hm_z
    obtain ⟨rfl, yq6153_z⟩ := rp_sgN (fun q => absurd (Eq.trans (Eq.symm kc) q.1) (by decide)) q6153_z
    subst yq6153_z
    replace hm_z : rn _ _ _ _ [.int 0] _ _ _ := hm_z
    replace hm_z := rn_ifT (am_cur_of (i := (6, 3, .ifCond .eq 41, (26, 0, 0), 0)) (by decide +kernel)) (by decide) hm_z
    replace hm_z := rn_aload_n (am_cur_of (i := (47, 1, .aload_n 0, (0, 0, 0), 0)) (by decide +kernel)) g0m hm_z
    replace hm_z := rn_bipush (w := 12) (am_cur_of (i := (48, 2, .bipush 12, (0, 0, 0), 0)) (by decide +kernel)) (by decide) hm_z
    replace hm_z := rn_callV (M' := am_m174) (o := 164) (ar := [.int 12]) (rest := []) (L := lv_args 0 [.ref 164, .int 12]) (am_cur_of (i := (50, 3, .invokevirtual 306, (174, 1727, 3), 0)) (by decide +kernel)) rfl rfl rfl rfl hm_z
    obtain ⟨r6154_z, h6155_z, q6156_z, hm_z⟩ := hm_z
    obtain ⟨rfl, yq6156_z⟩ := rp_kyN (fun q => absurd (Eq.trans (Eq.symm kd) q.2) (by decide)) q6156_z
    subst yq6156_z
    replace hm_z : rn _ _ _ _ [.int 0] _ _ _ := hm_z
    replace hm_z := rn_ifT (am_cur_of (i := (53, 3, .ifCond .eq 7, (32, 0, 0), 0)) (by decide +kernel)) (by decide) hm_z
    replace hm_z := rn_aload_n (am_cur_of (i := (60, 1, .aload_n 0, (0, 0, 0), 0)) (by decide +kernel)) g0m hm_z
    replace hm_z := rn_bipush (w := 13) (am_cur_of (i := (61, 2, .bipush 13, (0, 0, 0), 0)) (by decide +kernel)) (by decide) hm_z
    replace hm_z := rn_callV (M' := am_m174) (o := 164) (ar := [.int 13]) (rest := []) (L := lv_args 0 [.ref 164, .int 13]) (am_cur_of (i := (63, 3, .invokevirtual 306, (174, 1727, 3), 0)) (by decide +kernel)) rfl rfl rfl rfl hm_z
    obtain ⟨r6157_z, h6158_z, q6159_z, hm_z⟩ := hm_z
    obtain ⟨rfl, yq6159_z⟩ := rp_kyN (fun q => absurd (Eq.trans (Eq.symm kd) q.2) (by decide)) q6159_z
    subst yq6159_z
    replace hm_z : rn _ _ _ _ [.int 0] _ _ _ := hm_z
    replace hm_z := rn_ifT (am_cur_of (i := (66, 3, .ifCond .eq 7, (38, 0, 0), 0)) (by decide +kernel)) (by decide) hm_z
    replace hm_z := rn_aload_n (am_cur_of (i := (73, 1, .aload_n 0, (0, 0, 0), 0)) (by decide +kernel)) g0m hm_z
    replace hm_z := rn_getI (v := 1) (am_cur_of (i := (74, 3, .getfield 157, (12, 8, 1392), 0)) (by decide +kernel)) (by decide +kernel) kc hm_z
    replace hm_z := rn_iconst (w := 5) (am_cur_of (i := (77, 1, .iconst 5, (0, 0, 0), 0)) (by decide +kernel)) (by decide) hm_z
    replace hm_z := rn_cmpT (am_cur_of (i := (78, 3, .if_icmp .ne 12, (47, 0, 0), 0)) (by decide +kernel)) (by decide) hm_z
    replace hm_z := rn_aload_n (am_cur_of (i := (90, 1, .aload_n 0, (0, 0, 0), 0)) (by decide +kernel)) g0m hm_z
    replace hm_z := rn_bipush (w := 43) (am_cur_of (i := (91, 2, .bipush 43, (0, 0, 0), 0)) (by decide +kernel)) (by decide) hm_z
    replace hm_z := rn_callV (M' := am_m171) (o := 164) (ar := [.int 43]) (rest := []) (L := lv_args 0 [.ref 164, .int 43]) (am_cur_of (i := (93, 3, .invokevirtual 194, (171, 1715, 3), 0)) (by decide +kernel)) rfl rfl rfl rfl hm_z
    obtain ⟨r6160_z, h6161_z, q6162_z, hm_z⟩ := hm_z
    obtain ⟨rfl, yq6162_z⟩ := rp_sgN (fun q => absurd (Eq.trans (Eq.symm kc) q.1) (by decide)) q6162_z
    subst yq6162_z
    replace hm_z : rn _ _ _ _ [.int 0] _ _ _ := hm_z
    replace hm_z := rn_ifT (am_cur_of (i := (96, 3, .ifCond .eq 8, (53, 0, 0), 0)) (by decide +kernel)) (by decide) hm_z
    replace hm_z := rn_aload_n (am_cur_of (i := (104, 1, .aload_n 0, (0, 0, 0), 0)) (by decide +kernel)) g0m hm_z
    replace hm_z := rn_bipush (w := 45) (am_cur_of (i := (105, 2, .bipush 45, (0, 0, 0), 0)) (by decide +kernel)) (by decide) hm_z
    replace hm_z := rn_callV (M' := am_m171) (o := 164) (ar := [.int 45]) (rest := []) (L := lv_args 0 [.ref 164, .int 45]) (am_cur_of (i := (107, 3, .invokevirtual 194, (171, 1715, 3), 0)) (by decide +kernel)) rfl rfl rfl rfl hm_z
    obtain ⟨r6163_z, h6164_z, q6165_z, hm_z⟩ := hm_z
    obtain ⟨rfl, yq6165_z⟩ := rp_sgN (fun q => absurd (Eq.trans (Eq.symm kc) q.1) (by decide)) q6165_z
    subst yq6165_z
    replace hm_z : rn _ _ _ _ [.int 0] _ _ _ := hm_z
    replace hm_z := rn_ifT (am_cur_of (i := (110, 3, .ifCond .eq 8, (59, 0, 0), 0)) (by decide +kernel)) (by decide) hm_z
    replace hm_z := rn_aload_n (am_cur_of (i := (118, 1, .aload_n 0, (0, 0, 0), 0)) (by decide +kernel)) g0m hm_z
    replace hm_z := rn_bipush (w := 42) (am_cur_of (i := (119, 2, .bipush 42, (0, 0, 0), 0)) (by decide +kernel)) (by decide) hm_z
    replace hm_z := rn_callV (M' := am_m171) (o := 164) (ar := [.int 42]) (rest := []) (L := lv_args 0 [.ref 164, .int 42]) (am_cur_of (i := (121, 3, .invokevirtual 194, (171, 1715, 3), 0)) (by decide +kernel)) rfl rfl rfl rfl hm_z
    obtain ⟨r6166_z, h6167_z, q6168_z, hm_z⟩ := hm_z
    obtain ⟨rfl, yq6168_z⟩ := rp_sgN (fun q => absurd (Eq.trans (Eq.symm kc) q.1) (by decide)) q6168_z
    subst yq6168_z
    replace hm_z : rn _ _ _ _ [.int 0] _ _ _ := hm_z
    replace hm_z := rn_ifT (am_cur_of (i := (124, 3, .ifCond .eq 8, (65, 0, 0), 0)) (by decide +kernel)) (by decide) hm_z
    replace hm_z := rn_aload_n (am_cur_of (i := (132, 1, .aload_n 0, (0, 0, 0), 0)) (by decide +kernel)) g0m hm_z
    replace hm_z := rn_bipush (w := 47) (am_cur_of (i := (133, 2, .bipush 47, (0, 0, 0), 0)) (by decide +kernel)) (by decide) hm_z
    replace hm_z := rn_callV (M' := am_m171) (o := 164) (ar := [.int 47]) (rest := []) (L := lv_args 0 [.ref 164, .int 47]) (am_cur_of (i := (135, 3, .invokevirtual 194, (171, 1715, 3), 0)) (by decide +kernel)) rfl rfl rfl rfl hm_z
    obtain ⟨r6169_z, h6170_z, q6171_z, hm_z⟩ := hm_z
    obtain ⟨rfl, yq6171_z⟩ := rp_sgN (fun q => absurd (Eq.trans (Eq.symm kc) q.1) (by decide)) q6171_z
    subst yq6171_z
    replace hm_z : rn _ _ _ _ [.int 0] _ _ _ := hm_z
    replace hm_z := rn_ifT (am_cur_of (i := (138, 3, .ifCond .eq 8, (71, 0, 0), 0)) (by decide +kernel)) (by decide) hm_z
    replace hm_z := rn_iconst (w := 0) (am_cur_of (i := (146, 1, .iconst 0, (0, 0, 0), 0)) (by decide +kernel)) (by decide) hm_z
    replace hm_z := rn_istore_n (am_cur_of (i := (147, 1, .istore_n 1, (0, 0, 0), 0)) (by decide +kernel)) hm_z
    obtain ⟨_, s6172_z, s6173_z, g1m, hm_z⟩ := hm_z
    replace g0m := s6172_z 0 _ (by decide) rfl g0m
    clear s6172_z s6173_z
    replace hm_z := rn_iload_n (am_cur_of (i := (148, 1, .iload_n 1, (0, 0, 0), 0)) (by decide +kernel)) g1m hm_z
    replace hm_z := rn_ifF (am_cur_of (i := (149, 3, .ifCond .ne 9, (79, 0, 0), 0)) (by decide +kernel)) (by decide) hm_z
    replace hm_z := rn_aload_n (am_cur_of (i := (152, 1, .aload_n 0, (0, 0, 0), 0)) (by decide +kernel)) g0m hm_z
    replace hm_z := rn_iconst (w := 1) (am_cur_of (i := (153, 1, .iconst 1, (0, 0, 0), 0)) (by decide +kernel)) (by decide) hm_z
    replace hm_z := rn_callV (M' := am_m158) (o := 164) (ar := [.int 1]) (rest := []) (L := lv_args 0 [.ref 164, .int 1]) (am_cur_of (i := (154, 3, .invokevirtual 181, (158, 1665, 3), 0)) (by decide +kernel)) rfl rfl rfl rfl hm_z
    obtain ⟨r6174_z, h6175_z, q6176_z, hm_z⟩ := hm_z
    obtain ⟨rfl, yq6176_z⟩ := rp_wrong q6176_z
    subst yq6176_z
    replace hm_z : rn _ _ _ _ [.int 0] _ _ _ := hm_z
    replace hm_z := rn_iret (am_cur_of (i := (157, 1, .ireturn, (0, 0, 0), 0)) (by decide +kernel)) hm_z
    obtain ⟨e6177_z, e6178_z⟩ := hm_z
    subst e6177_z e6178_z
    exact Or.inl (Or.inr ⟨rfl, 1, by decide, K.1, K.2, rfl, R6⟩)
theorem rj_c9_23 {T : Nat → Int32} {S x p : Int32} {n n' : Nat} {h h' g g' : am_H} {r r' : Option Value} (R : rq T S x p 23 h g) (A : rp 23 h g) (B : rp_t h g) (Z : rs 23 h g) (w0_z : rg_v g 164 45 = 0) (ka : (rg_v h 44 10) = 2) (kc : (rg_v g 164 8) = 1) (kb : (rg_v h 44 11) = 16) (kd : (rg_v g 164 9) = 19) (hc_z : rn n am_m44 0 (lv_args 0 [.ref 44]) [] h r h') (hm_z : rn n' am_m178 0 (lv_args 0 [.ref 164]) [] g r' g') : rj_Q T S x p 23 h g h' g' r r' := by
  have z0_z : (0 : Int32).toInt = 0 := by decide
  have g0_z : am_get (lv_args 0 [.ref 44]) 0 = some (.ref 44) := rfl
  have g0m : am_get (lv_args 0 [.ref 164]) 0 = some (.ref 164) := rfl
  have Rk := R
  have Zk := Z
  obtain ⟨⟨c1_z, c2_z, c3_z, c4_z, c5_z, c6_z, c7_z, c8_z⟩, ⟨m2_z, m3_z, m4_z, m5_z, m6_z, m7_z, m8_z⟩, R3, R4, R5, R6, R7, R8, R9, R10⟩ := (R : rq T S x p 23 h g)
  obtain ⟨np, op, z1_z, z2_z, z3_z, z4_z, z5_z, z6_z, z7_z, z8_z, z9_z, z10_z⟩ := (Z : rs 23 h g)
  obtain ⟨nk1_z, nk2_z, nk3_z⟩ := A.2.2.2.2.2.1
  replace nk1_z : rg_v h 32 0 = rg_v g 164 44 := nk1_z
  replace nk2_z : 0 ≤ (rg_v h 32 0).toInt := nk2_z
  replace nk3_z : (rg_v h 32 0).toInt ≤ 64 := nk3_z
  replace z8_z : np.toInt ≤ (rg_v h 32 0).toInt + op.toInt := z8_z
  obtain ⟨kn, ekn⟩ : ∃ v, rg_v h 32 0 = v := ⟨_, rfl⟩
  rw [ekn] at nk1_z nk2_z nk3_z z8_z
  have e9_z := rt_c1 (x := kn) (by omega) (by omega)
  replace hc_z := rn_aload_n (am_cur_of (i := (0, 1, .aload_n 0, (0, 0, 0), 0)) (by decide +kernel)) g0_z hc_z
  replace hc_z := rn_bipush (w := 41) (am_cur_of (i := (1, 2, .bipush 41, (0, 0, 0), 0)) (by decide +kernel)) (by decide) hc_z
  replace hc_z := rn_callV (M' := am_m45) (o := 44) (ar := [.int 41]) (rest := []) (L := lv_args 0 [.ref 44, .int 41]) (am_cur_of (i := (3, 3, .invokevirtual 105, (45, 834, 3), 0)) (by decide +kernel)) rfl rfl rfl rfl hc_z
  obtain ⟨r6179_z, h6180_z, q6181_z, hc_z⟩ := hc_z
  obtain ⟨rfl, yq6181_z⟩ := rp_mkN (fun q => absurd (Eq.trans (Eq.symm ka) q.1) (by decide)) q6181_z
  subst yq6181_z
  replace hc_z : rn _ _ _ _ [.int 0] _ _ _ := hc_z
  replace hc_z := rn_ifT (am_cur_of (i := (6, 3, .ifCond .eq 45, (28, 0, 0), 0)) (by decide +kernel)) (by decide) hc_z
  replace hc_z := rn_aload_n (am_cur_of (i := (51, 1, .aload_n 0, (0, 0, 0), 0)) (by decide +kernel)) g0_z hc_z
  replace hc_z := rn_getI (v := 2) (am_cur_of (i := (52, 3, .getfield 60, (4, 10, 419), 0)) (by decide +kernel)) (by decide +kernel) ka hc_z
  replace hc_z := rn_bipush (w := 6) (am_cur_of (i := (55, 2, .bipush 6, (0, 0, 0), 0)) (by decide +kernel)) (by decide) hc_z
  replace hc_z := rn_cmpT (am_cur_of (i := (57, 3, .if_icmp .ne 11, (36, 0, 0), 0)) (by decide +kernel)) (by decide) hc_z
  replace hc_z := rn_aload_n (am_cur_of (i := (68, 1, .aload_n 0, (0, 0, 0), 0)) (by decide +kernel)) g0_z hc_z
  replace hc_z := rn_getI (v := op) (am_cur_of (i := (69, 3, .getfield 254, (4, 14, 423), 0)) (by decide +kernel)) (by decide +kernel) z4_z hc_z
  replace hc_z := rn_if (am_cur_of (i := (72, 3, .ifCond .le 8, (42, 0, 0), 0)) (by decide +kernel)) hc_z
  rcases hc_z with ⟨b6182_z, hc_z⟩ | ⟨b6182_z, hc_z⟩
  · replace b6182_z : op.toInt ≤ (0 : Int32).toInt := b6182_z
    replace hc_z := rn_iconst (w := 3) (am_cur_of (i := (80, 1, .iconst 3, (0, 0, 0), 0)) (by decide +kernel)) (by decide) hc_z
    replace hc_z := rn_iret (am_cur_of (i := (81, 1, .ireturn, (0, 0, 0), 0)) (by decide +kernel)) hc_z
    obtain ⟨e6183_z, e6184_z⟩ := hc_z
    replace hm_z := rn_aload_n (am_cur_of (i := (0, 1, .aload_n 0, (0, 0, 0), 0)) (by decide +kernel)) g0m hm_z
    replace hm_z := rn_bipush (w := 41) (am_cur_of (i := (1, 2, .bipush 41, (0, 0, 0), 0)) (by decide +kernel)) (by decide) hm_z
    replace hm_z := rn_callV (M' := am_m171) (o := 164) (ar := [.int 41]) (rest := []) (L := lv_args 0 [.ref 164, .int 41]) (am_cur_of (i := (3, 3, .invokevirtual 194, (171, 1715, 3), 0)) (by decide +kernel)) rfl rfl rfl rfl hm_z
    obtain ⟨r6185_z, h6186_z, q6187_z, hm_z⟩ := hm_z
    obtain ⟨rfl, yq6187_z⟩ := rp_sgN (fun q => absurd (Eq.trans (Eq.symm kc) q.1) (by decide)) q6187_z
    subst yq6187_z
    replace hm_z : rn _ _ _ _ [.int 0] _ _ _ := hm_z
    replace hm_z := rn_ifT (am_cur_of (i := (6, 3, .ifCond .eq 41, (26, 0, 0), 0)) (by decide +kernel)) (by decide) hm_z
    replace hm_z := rn_aload_n (am_cur_of (i := (47, 1, .aload_n 0, (0, 0, 0), 0)) (by decide +kernel)) g0m hm_z
    replace hm_z := rn_bipush (w := 12) (am_cur_of (i := (48, 2, .bipush 12, (0, 0, 0), 0)) (by decide +kernel)) (by decide) hm_z
    replace hm_z := rn_callV (M' := am_m174) (o := 164) (ar := [.int 12]) (rest := []) (L := lv_args 0 [.ref 164, .int 12]) (am_cur_of (i := (50, 3, .invokevirtual 306, (174, 1727, 3), 0)) (by decide +kernel)) rfl rfl rfl rfl hm_z
    obtain ⟨r6188_z, h6189_z, q6190_z, hm_z⟩ := hm_z
    obtain ⟨rfl, yq6190_z⟩ := rp_kyN (fun q => absurd (Eq.trans (Eq.symm kd) q.2) (by decide)) q6190_z
    subst yq6190_z
    replace hm_z : rn _ _ _ _ [.int 0] _ _ _ := hm_z
    replace hm_z := rn_ifT (am_cur_of (i := (53, 3, .ifCond .eq 7, (32, 0, 0), 0)) (by decide +kernel)) (by decide) hm_z
    replace hm_z := rn_aload_n (am_cur_of (i := (60, 1, .aload_n 0, (0, 0, 0), 0)) (by decide +kernel)) g0m hm_z
    replace hm_z := rn_bipush (w := 13) (am_cur_of (i := (61, 2, .bipush 13, (0, 0, 0), 0)) (by decide +kernel)) (by decide) hm_z
    replace hm_z := rn_callV (M' := am_m174) (o := 164) (ar := [.int 13]) (rest := []) (L := lv_args 0 [.ref 164, .int 13]) (am_cur_of (i := (63, 3, .invokevirtual 306, (174, 1727, 3), 0)) (by decide +kernel)) rfl rfl rfl rfl hm_z
    obtain ⟨r6191_z, h6192_z, q6193_z, hm_z⟩ := hm_z
    obtain ⟨rfl, yq6193_z⟩ := rp_kyN (fun q => absurd (Eq.trans (Eq.symm kd) q.2) (by decide)) q6193_z
    subst yq6193_z
    replace hm_z : rn _ _ _ _ [.int 0] _ _ _ := hm_z
    replace hm_z := rn_ifT (am_cur_of (i := (66, 3, .ifCond .eq 7, (38, 0, 0), 0)) (by decide +kernel)) (by decide) hm_z
    replace hm_z := rn_aload_n (am_cur_of (i := (73, 1, .aload_n 0, (0, 0, 0), 0)) (by decide +kernel)) g0m hm_z
    replace hm_z := rn_getI (v := 1) (am_cur_of (i := (74, 3, .getfield 157, (12, 8, 1392), 0)) (by decide +kernel)) (by decide +kernel) kc hm_z
    replace hm_z := rn_iconst (w := 5) (am_cur_of (i := (77, 1, .iconst 5, (0, 0, 0), 0)) (by decide +kernel)) (by decide) hm_z
    replace hm_z := rn_cmpT (am_cur_of (i := (78, 3, .if_icmp .ne 12, (47, 0, 0), 0)) (by decide +kernel)) (by decide) hm_z
    replace hm_z := rn_aload_n (am_cur_of (i := (90, 1, .aload_n 0, (0, 0, 0), 0)) (by decide +kernel)) g0m hm_z
    replace hm_z := rn_bipush (w := 43) (am_cur_of (i := (91, 2, .bipush 43, (0, 0, 0), 0)) (by decide +kernel)) (by decide) hm_z
    replace hm_z := rn_callV (M' := am_m171) (o := 164) (ar := [.int 43]) (rest := []) (L := lv_args 0 [.ref 164, .int 43]) (am_cur_of (i := (93, 3, .invokevirtual 194, (171, 1715, 3), 0)) (by decide +kernel)) rfl rfl rfl rfl hm_z
    obtain ⟨r6194_z, h6195_z, q6196_z, hm_z⟩ := hm_z
    obtain ⟨rfl, yq6196_z⟩ := rp_sgN (fun q => absurd (Eq.trans (Eq.symm kc) q.1) (by decide)) q6196_z
    subst yq6196_z
    replace hm_z : rn _ _ _ _ [.int 0] _ _ _ := hm_z
    replace hm_z := rn_ifT (am_cur_of (i := (96, 3, .ifCond .eq 8, (53, 0, 0), 0)) (by decide +kernel)) (by decide) hm_z
    replace hm_z := rn_aload_n (am_cur_of (i := (104, 1, .aload_n 0, (0, 0, 0), 0)) (by decide +kernel)) g0m hm_z
    replace hm_z := rn_bipush (w := 45) (am_cur_of (i := (105, 2, .bipush 45, (0, 0, 0), 0)) (by decide +kernel)) (by decide) hm_z
    replace hm_z := rn_callV (M' := am_m171) (o := 164) (ar := [.int 45]) (rest := []) (L := lv_args 0 [.ref 164, .int 45]) (am_cur_of (i := (107, 3, .invokevirtual 194, (171, 1715, 3), 0)) (by decide +kernel)) rfl rfl rfl rfl hm_z
    obtain ⟨r6197_z, h6198_z, q6199_z, hm_z⟩ := hm_z
    obtain ⟨rfl, yq6199_z⟩ := rp_sgN (fun q => absurd (Eq.trans (Eq.symm kc) q.1) (by decide)) q6199_z
    subst yq6199_z
    replace hm_z : rn _ _ _ _ [.int 0] _ _ _ := hm_z
    replace hm_z := rn_ifT (am_cur_of (i := (110, 3, .ifCond .eq 8, (59, 0, 0), 0)) (by decide +kernel)) (by decide) hm_z
    replace hm_z := rn_aload_n (am_cur_of (i := (118, 1, .aload_n 0, (0, 0, 0), 0)) (by decide +kernel)) g0m hm_z
    replace hm_z := rn_bipush (w := 42) (am_cur_of (i := (119, 2, .bipush 42, (0, 0, 0), 0)) (by decide +kernel)) (by decide) hm_z
    replace hm_z := rn_callV (M' := am_m171) (o := 164) (ar := [.int 42]) (rest := []) (L := lv_args 0 [.ref 164, .int 42]) (am_cur_of (i := (121, 3, .invokevirtual 194, (171, 1715, 3), 0)) (by decide +kernel)) rfl rfl rfl rfl hm_z
    obtain ⟨r6200_z, h6201_z, q6202_z, hm_z⟩ := hm_z
    obtain ⟨rfl, yq6202_z⟩ := rp_sgN (fun q => absurd (Eq.trans (Eq.symm kc) q.1) (by decide)) q6202_z
    subst yq6202_z
    replace hm_z : rn _ _ _ _ [.int 0] _ _ _ := hm_z
    replace hm_z := rn_ifT (am_cur_of (i := (124, 3, .ifCond .eq 8, (65, 0, 0), 0)) (by decide +kernel)) (by decide) hm_z
    replace hm_z := rn_aload_n (am_cur_of (i := (132, 1, .aload_n 0, (0, 0, 0), 0)) (by decide +kernel)) g0m hm_z
    replace hm_z := rn_bipush (w := 47) (am_cur_of (i := (133, 2, .bipush 47, (0, 0, 0), 0)) (by decide +kernel)) (by decide) hm_z
    replace hm_z := rn_callV (M' := am_m171) (o := 164) (ar := [.int 47]) (rest := []) (L := lv_args 0 [.ref 164, .int 47]) (am_cur_of (i := (135, 3, .invokevirtual 194, (171, 1715, 3), 0)) (by decide +kernel)) rfl rfl rfl rfl hm_z
    obtain ⟨r6203_z, h6204_z, q6205_z, hm_z⟩ := hm_z
    obtain ⟨rfl, yq6205_z⟩ := rp_sgN (fun q => absurd (Eq.trans (Eq.symm kc) q.1) (by decide)) q6205_z
    subst yq6205_z
    replace hm_z : rn _ _ _ _ [.int 0] _ _ _ := hm_z
    replace hm_z := rn_ifT (am_cur_of (i := (138, 3, .ifCond .eq 8, (71, 0, 0), 0)) (by decide +kernel)) (by decide) hm_z
    replace hm_z := rn_iconst (w := 0) (am_cur_of (i := (146, 1, .iconst 0, (0, 0, 0), 0)) (by decide +kernel)) (by decide) hm_z
    replace hm_z := rn_istore_n (am_cur_of (i := (147, 1, .istore_n 1, (0, 0, 0), 0)) (by decide +kernel)) hm_z
    obtain ⟨_, s6206_z, s6207_z, g1m, hm_z⟩ := hm_z
    replace g0m := s6206_z 0 _ (by decide) rfl g0m
    clear s6206_z s6207_z
    replace hm_z := rn_iload_n (am_cur_of (i := (148, 1, .iload_n 1, (0, 0, 0), 0)) (by decide +kernel)) g1m hm_z
    replace hm_z := rn_ifF (am_cur_of (i := (149, 3, .ifCond .ne 9, (79, 0, 0), 0)) (by decide +kernel)) (by decide) hm_z
    replace hm_z := rn_aload_n (am_cur_of (i := (152, 1, .aload_n 0, (0, 0, 0), 0)) (by decide +kernel)) g0m hm_z
    replace hm_z := rn_iconst (w := 1) (am_cur_of (i := (153, 1, .iconst 1, (0, 0, 0), 0)) (by decide +kernel)) (by decide) hm_z
    replace hm_z := rn_callV (M' := am_m158) (o := 164) (ar := [.int 1]) (rest := []) (L := lv_args 0 [.ref 164, .int 1]) (am_cur_of (i := (154, 3, .invokevirtual 181, (158, 1665, 3), 0)) (by decide +kernel)) rfl rfl rfl rfl hm_z
    obtain ⟨r6208_z, h6209_z, q6210_z, hm_z⟩ := hm_z
    obtain ⟨rfl, yq6210_z⟩ := rp_wrong q6210_z
    subst yq6210_z
    replace hm_z : rn _ _ _ _ [.int 0] _ _ _ := hm_z
    replace hm_z := rn_iret (am_cur_of (i := (157, 1, .ireturn, (0, 0, 0), 0)) (by decide +kernel)) hm_z
    obtain ⟨e6211_z, e6212_z⟩ := hm_z
    subst e6184_z e6212_z
    exact Or.inr ⟨e6183_z, rfl, z4_z.trans (rt_i32 (by rw [show (0 : Int32).toInt = 0 by decide]; omega)), e6211_z, rfl⟩
  · replace b6182_z : (0 : Int32).toInt < op.toInt := b6182_z
    replace hc_z := rn_aload_n (am_cur_of (i := (75, 1, .aload_n 0, (0, 0, 0), 0)) (by decide +kernel)) g0_z hc_z
    replace hc_z := rn_iconst (w := 1) (am_cur_of (i := (76, 1, .iconst 1, (0, 0, 0), 0)) (by decide +kernel)) (by decide) hc_z
    replace hc_z := rn_callV (M' := am_m29) (o := 44) (ar := [.int 1]) (rest := []) (L := lv_args 0 [.ref 44, .int 1]) (am_cur_of (i := (77, 3, .invokevirtual 108, (29, 769, 3), 0)) (by decide +kernel)) rfl rfl rfl rfl hc_z
    obtain ⟨r6213_z, h6214_z, q6215_z, hc_z⟩ := hc_z
    obtain ⟨rfl, yq6215_z⟩ := rp_fail R4 q6215_z
    subst yq6215_z
    replace hc_z : rn _ _ _ _ [] _ _ _ := hc_z
    have K := rs_stick (w := 1) (q := p) (a := 44) (by decide) (by decide) rfl (by decide) rfl (show rg_v (am_up (am_up h 44 1 (.int 1)) 44 2 (.int (rg_v h 44 9))) 44 2 = p from R5) hc_z
    replace hm_z := rn_aload_n (am_cur_of (i := (0, 1, .aload_n 0, (0, 0, 0), 0)) (by decide +kernel)) g0m hm_z
    replace hm_z := rn_bipush (w := 41) (am_cur_of (i := (1, 2, .bipush 41, (0, 0, 0), 0)) (by decide +kernel)) (by decide) hm_z
    replace hm_z := rn_callV (M' := am_m171) (o := 164) (ar := [.int 41]) (rest := []) (L := lv_args 0 [.ref 164, .int 41]) (am_cur_of (i := (3, 3, .invokevirtual 194, (171, 1715, 3), 0)) (by decide +kernel)) rfl rfl rfl rfl hm_z
    obtain ⟨r6216_z, h6217_z, q6218_z, hm_z⟩ := hm_z
    obtain ⟨rfl, yq6218_z⟩ := rp_sgN (fun q => absurd (Eq.trans (Eq.symm kc) q.1) (by decide)) q6218_z
    subst yq6218_z
    replace hm_z : rn _ _ _ _ [.int 0] _ _ _ := hm_z
    replace hm_z := rn_ifT (am_cur_of (i := (6, 3, .ifCond .eq 41, (26, 0, 0), 0)) (by decide +kernel)) (by decide) hm_z
    replace hm_z := rn_aload_n (am_cur_of (i := (47, 1, .aload_n 0, (0, 0, 0), 0)) (by decide +kernel)) g0m hm_z
    replace hm_z := rn_bipush (w := 12) (am_cur_of (i := (48, 2, .bipush 12, (0, 0, 0), 0)) (by decide +kernel)) (by decide) hm_z
    replace hm_z := rn_callV (M' := am_m174) (o := 164) (ar := [.int 12]) (rest := []) (L := lv_args 0 [.ref 164, .int 12]) (am_cur_of (i := (50, 3, .invokevirtual 306, (174, 1727, 3), 0)) (by decide +kernel)) rfl rfl rfl rfl hm_z
    obtain ⟨r6219_z, h6220_z, q6221_z, hm_z⟩ := hm_z
    obtain ⟨rfl, yq6221_z⟩ := rp_kyN (fun q => absurd (Eq.trans (Eq.symm kd) q.2) (by decide)) q6221_z
    subst yq6221_z
    replace hm_z : rn _ _ _ _ [.int 0] _ _ _ := hm_z
    replace hm_z := rn_ifT (am_cur_of (i := (53, 3, .ifCond .eq 7, (32, 0, 0), 0)) (by decide +kernel)) (by decide) hm_z
    replace hm_z := rn_aload_n (am_cur_of (i := (60, 1, .aload_n 0, (0, 0, 0), 0)) (by decide +kernel)) g0m hm_z
    replace hm_z := rn_bipush (w := 13) (am_cur_of (i := (61, 2, .bipush 13, (0, 0, 0), 0)) (by decide +kernel)) (by decide) hm_z
    replace hm_z := rn_callV (M' := am_m174) (o := 164) (ar := [.int 13]) (rest := []) (L := lv_args 0 [.ref 164, .int 13]) (am_cur_of (i := (63, 3, .invokevirtual 306, (174, 1727, 3), 0)) (by decide +kernel)) rfl rfl rfl rfl hm_z
    obtain ⟨r6222_z, h6223_z, q6224_z, hm_z⟩ := hm_z
    obtain ⟨rfl, yq6224_z⟩ := rp_kyN (fun q => absurd (Eq.trans (Eq.symm kd) q.2) (by decide)) q6224_z
    subst yq6224_z
    replace hm_z : rn _ _ _ _ [.int 0] _ _ _ := hm_z
    replace hm_z := rn_ifT (am_cur_of (i := (66, 3, .ifCond .eq 7, (38, 0, 0), 0)) (by decide +kernel)) (by decide) hm_z
    replace hm_z := rn_aload_n (am_cur_of (i := (73, 1, .aload_n 0, (0, 0, 0), 0)) (by decide +kernel)) g0m hm_z
    replace hm_z := rn_getI (v := 1) (am_cur_of (i := (74, 3, .getfield 157, (12, 8, 1392), 0)) (by decide +kernel)) (by decide +kernel) kc hm_z
    replace hm_z := rn_iconst (w := 5) (am_cur_of (i := (77, 1, .iconst 5, (0, 0, 0), 0)) (by decide +kernel)) (by decide) hm_z
    replace hm_z := rn_cmpT (am_cur_of (i := (78, 3, .if_icmp .ne 12, (47, 0, 0), 0)) (by decide +kernel)) (by decide) hm_z
    replace hm_z := rn_aload_n (am_cur_of (i := (90, 1, .aload_n 0, (0, 0, 0), 0)) (by decide +kernel)) g0m hm_z
    replace hm_z := rn_bipush (w := 43) (am_cur_of (i := (91, 2, .bipush 43, (0, 0, 0), 0)) (by decide +kernel)) (by decide) hm_z
    replace hm_z := rn_callV (M' := am_m171) (o := 164) (ar := [.int 43]) (rest := []) (L := lv_args 0 [.ref 164, .int 43]) (am_cur_of (i := (93, 3, .invokevirtual 194, (171, 1715, 3), 0)) (by decide +kernel)) rfl rfl rfl rfl hm_z
    obtain ⟨r6225_z, h6226_z, q6227_z, hm_z⟩ := hm_z
    obtain ⟨rfl, yq6227_z⟩ := rp_sgN (fun q => absurd (Eq.trans (Eq.symm kc) q.1) (by decide)) q6227_z
    subst yq6227_z
    replace hm_z : rn _ _ _ _ [.int 0] _ _ _ := hm_z
    replace hm_z := rn_ifT (am_cur_of (i := (96, 3, .ifCond .eq 8, (53, 0, 0), 0)) (by decide +kernel)) (by decide) hm_z
    replace hm_z := rn_aload_n (am_cur_of (i := (104, 1, .aload_n 0, (0, 0, 0), 0)) (by decide +kernel)) g0m hm_z
    replace hm_z := rn_bipush (w := 45) (am_cur_of (i := (105, 2, .bipush 45, (0, 0, 0), 0)) (by decide +kernel)) (by decide) hm_z
    replace hm_z := rn_callV (M' := am_m171) (o := 164) (ar := [.int 45]) (rest := []) (L := lv_args 0 [.ref 164, .int 45]) (am_cur_of (i := (107, 3, .invokevirtual 194, (171, 1715, 3), 0)) (by decide +kernel)) rfl rfl rfl rfl hm_z
    obtain ⟨r6228_z, h6229_z, q6230_z, hm_z⟩ := hm_z
    obtain ⟨rfl, yq6230_z⟩ := rp_sgN (fun q => absurd (Eq.trans (Eq.symm kc) q.1) (by decide)) q6230_z
    subst yq6230_z
    replace hm_z : rn _ _ _ _ [.int 0] _ _ _ := hm_z
    replace hm_z := rn_ifT (am_cur_of (i := (110, 3, .ifCond .eq 8, (59, 0, 0), 0)) (by decide +kernel)) (by decide) hm_z
    replace hm_z := rn_aload_n (am_cur_of (i := (118, 1, .aload_n 0, (0, 0, 0), 0)) (by decide +kernel)) g0m hm_z
    replace hm_z := rn_bipush (w := 42) (am_cur_of (i := (119, 2, .bipush 42, (0, 0, 0), 0)) (by decide +kernel)) (by decide) hm_z
    replace hm_z := rn_callV (M' := am_m171) (o := 164) (ar := [.int 42]) (rest := []) (L := lv_args 0 [.ref 164, .int 42]) (am_cur_of (i := (121, 3, .invokevirtual 194, (171, 1715, 3), 0)) (by decide +kernel)) rfl rfl rfl rfl hm_z
    obtain ⟨r6231_z, h6232_z, q6233_z, hm_z⟩ := hm_z
    obtain ⟨rfl, yq6233_z⟩ := rp_sgN (fun q => absurd (Eq.trans (Eq.symm kc) q.1) (by decide)) q6233_z
    subst yq6233_z
    replace hm_z : rn _ _ _ _ [.int 0] _ _ _ := hm_z
    replace hm_z := rn_ifT (am_cur_of (i := (124, 3, .ifCond .eq 8, (65, 0, 0), 0)) (by decide +kernel)) (by decide) hm_z
    replace hm_z := rn_aload_n (am_cur_of (i := (132, 1, .aload_n 0, (0, 0, 0), 0)) (by decide +kernel)) g0m hm_z
    replace hm_z := rn_bipush (w := 47) (am_cur_of (i := (133, 2, .bipush 47, (0, 0, 0), 0)) (by decide +kernel)) (by decide) hm_z
    replace hm_z := rn_callV (M' := am_m171) (o := 164) (ar := [.int 47]) (rest := []) (L := lv_args 0 [.ref 164, .int 47]) (am_cur_of (i := (135, 3, .invokevirtual 194, (171, 1715, 3), 0)) (by decide +kernel)) rfl rfl rfl rfl hm_z
    obtain ⟨r6234_z, h6235_z, q6236_z, hm_z⟩ := hm_z
    obtain ⟨rfl, yq6236_z⟩ := rp_sgN (fun q => absurd (Eq.trans (Eq.symm kc) q.1) (by decide)) q6236_z
    subst yq6236_z
    replace hm_z : rn _ _ _ _ [.int 0] _ _ _ := hm_z
    replace hm_z := rn_ifT (am_cur_of (i := (138, 3, .ifCond .eq 8, (71, 0, 0), 0)) (by decide +kernel)) (by decide) hm_z
    replace hm_z := rn_iconst (w := 0) (am_cur_of (i := (146, 1, .iconst 0, (0, 0, 0), 0)) (by decide +kernel)) (by decide) hm_z
    replace hm_z := rn_istore_n (am_cur_of (i := (147, 1, .istore_n 1, (0, 0, 0), 0)) (by decide +kernel)) hm_z
    obtain ⟨_, s6237_z, s6238_z, g1m, hm_z⟩ := hm_z
    replace g0m := s6237_z 0 _ (by decide) rfl g0m
    clear s6237_z s6238_z
    replace hm_z := rn_iload_n (am_cur_of (i := (148, 1, .iload_n 1, (0, 0, 0), 0)) (by decide +kernel)) g1m hm_z
    replace hm_z := rn_ifF (am_cur_of (i := (149, 3, .ifCond .ne 9, (79, 0, 0), 0)) (by decide +kernel)) (by decide) hm_z
    replace hm_z := rn_aload_n (am_cur_of (i := (152, 1, .aload_n 0, (0, 0, 0), 0)) (by decide +kernel)) g0m hm_z
    replace hm_z := rn_iconst (w := 1) (am_cur_of (i := (153, 1, .iconst 1, (0, 0, 0), 0)) (by decide +kernel)) (by decide) hm_z
    replace hm_z := rn_callV (M' := am_m158) (o := 164) (ar := [.int 1]) (rest := []) (L := lv_args 0 [.ref 164, .int 1]) (am_cur_of (i := (154, 3, .invokevirtual 181, (158, 1665, 3), 0)) (by decide +kernel)) rfl rfl rfl rfl hm_z
    obtain ⟨r6239_z, h6240_z, q6241_z, hm_z⟩ := hm_z
    obtain ⟨rfl, yq6241_z⟩ := rp_wrong q6241_z
    subst yq6241_z
    replace hm_z : rn _ _ _ _ [.int 0] _ _ _ := hm_z
    replace hm_z := rn_iret (am_cur_of (i := (157, 1, .ireturn, (0, 0, 0), 0)) (by decide +kernel)) hm_z
    obtain ⟨e6242_z, e6243_z⟩ := hm_z
    subst e6242_z e6243_z
    exact Or.inl (Or.inr ⟨rfl, 1, by decide, K.1, K.2, rfl, R6⟩)
theorem rj_c10_23 {T : Nat → Int32} {S x p : Int32} {n n' : Nat} {h h' g g' : am_H} {r r' : Option Value} (R : rq T S x p 23 h g) (A : rp 23 h g) (B : rp_t h g) (Z : rs 23 h g) (w0_z : rg_v g 164 45 = 0) (ka : (rg_v h 44 10) = 3) (kc : (rg_v g 164 8) = 2) (kd : (rg_v g 164 9) = (rg_v h 44 11)) (hc_z : rn n am_m44 0 (lv_args 0 [.ref 44]) [] h r h') (hm_z : rn n' am_m178 0 (lv_args 0 [.ref 164]) [] g r' g') : rj_Q T S x p 23 h g h' g' r r' := by
  have z0_z : (0 : Int32).toInt = 0 := by decide
  have g0_z : am_get (lv_args 0 [.ref 44]) 0 = some (.ref 44) := rfl
  have g0m : am_get (lv_args 0 [.ref 164]) 0 = some (.ref 164) := rfl
  have Rk := R
  have Zk := Z
  obtain ⟨⟨c1_z, c2_z, c3_z, c4_z, c5_z, c6_z, c7_z, c8_z⟩, ⟨m2_z, m3_z, m4_z, m5_z, m6_z, m7_z, m8_z⟩, R3, R4, R5, R6, R7, R8, R9, R10⟩ := (R : rq T S x p 23 h g)
  obtain ⟨np, op, z1_z, z2_z, z3_z, z4_z, z5_z, z6_z, z7_z, z8_z, z9_z, z10_z⟩ := (Z : rs 23 h g)
  obtain ⟨nk1_z, nk2_z, nk3_z⟩ := A.2.2.2.2.2.1
  replace nk1_z : rg_v h 32 0 = rg_v g 164 44 := nk1_z
  replace nk2_z : 0 ≤ (rg_v h 32 0).toInt := nk2_z
  replace nk3_z : (rg_v h 32 0).toInt ≤ 64 := nk3_z
  replace z8_z : np.toInt ≤ (rg_v h 32 0).toInt + op.toInt := z8_z
  obtain ⟨kn, ekn⟩ : ∃ v, rg_v h 32 0 = v := ⟨_, rfl⟩
  rw [ekn] at nk1_z nk2_z nk3_z z8_z
  have e9_z := rt_c1 (x := kn) (by omega) (by omega)
  replace hc_z := rn_aload_n (am_cur_of (i := (0, 1, .aload_n 0, (0, 0, 0), 0)) (by decide +kernel)) g0_z hc_z
  replace hc_z := rn_bipush (w := 41) (am_cur_of (i := (1, 2, .bipush 41, (0, 0, 0), 0)) (by decide +kernel)) (by decide) hc_z
  replace hc_z := rn_callV (M' := am_m45) (o := 44) (ar := [.int 41]) (rest := []) (L := lv_args 0 [.ref 44, .int 41]) (am_cur_of (i := (3, 3, .invokevirtual 105, (45, 834, 3), 0)) (by decide +kernel)) rfl rfl rfl rfl hc_z
  obtain ⟨r6244_z, h6245_z, q6246_z, hc_z⟩ := hc_z
  obtain ⟨rfl, yq6246_z⟩ := rp_mkN (fun q => absurd (Eq.trans (Eq.symm ka) q.1) (by decide)) q6246_z
  subst yq6246_z
  replace hc_z : rn _ _ _ _ [.int 0] _ _ _ := hc_z
  replace hc_z := rn_ifT (am_cur_of (i := (6, 3, .ifCond .eq 45, (28, 0, 0), 0)) (by decide +kernel)) (by decide) hc_z
  replace hc_z := rn_aload_n (am_cur_of (i := (51, 1, .aload_n 0, (0, 0, 0), 0)) (by decide +kernel)) g0_z hc_z
  replace hc_z := rn_getI (v := 3) (am_cur_of (i := (52, 3, .getfield 60, (4, 10, 419), 0)) (by decide +kernel)) (by decide +kernel) ka hc_z
  replace hc_z := rn_bipush (w := 6) (am_cur_of (i := (55, 2, .bipush 6, (0, 0, 0), 0)) (by decide +kernel)) (by decide) hc_z
  replace hc_z := rn_cmpT (am_cur_of (i := (57, 3, .if_icmp .ne 11, (36, 0, 0), 0)) (by decide +kernel)) (by decide) hc_z
  replace hc_z := rn_aload_n (am_cur_of (i := (68, 1, .aload_n 0, (0, 0, 0), 0)) (by decide +kernel)) g0_z hc_z
  replace hc_z := rn_getI (v := op) (am_cur_of (i := (69, 3, .getfield 254, (4, 14, 423), 0)) (by decide +kernel)) (by decide +kernel) z4_z hc_z
  replace hc_z := rn_if (am_cur_of (i := (72, 3, .ifCond .le 8, (42, 0, 0), 0)) (by decide +kernel)) hc_z
  rcases hc_z with ⟨b6247_z, hc_z⟩ | ⟨b6247_z, hc_z⟩
  · replace b6247_z : op.toInt ≤ (0 : Int32).toInt := b6247_z
    replace hc_z := rn_iconst (w := 3) (am_cur_of (i := (80, 1, .iconst 3, (0, 0, 0), 0)) (by decide +kernel)) (by decide) hc_z
    replace hc_z := rn_iret (am_cur_of (i := (81, 1, .ireturn, (0, 0, 0), 0)) (by decide +kernel)) hc_z
    obtain ⟨e6248_z, e6249_z⟩ := hc_z
    replace hm_z := rn_aload_n (am_cur_of (i := (0, 1, .aload_n 0, (0, 0, 0), 0)) (by decide +kernel)) g0m hm_z
    replace hm_z := rn_bipush (w := 41) (am_cur_of (i := (1, 2, .bipush 41, (0, 0, 0), 0)) (by decide +kernel)) (by decide) hm_z
    replace hm_z := rn_callV (M' := am_m171) (o := 164) (ar := [.int 41]) (rest := []) (L := lv_args 0 [.ref 164, .int 41]) (am_cur_of (i := (3, 3, .invokevirtual 194, (171, 1715, 3), 0)) (by decide +kernel)) rfl rfl rfl rfl hm_z
    obtain ⟨r6250_z, h6251_z, q6252_z, hm_z⟩ := hm_z
    obtain ⟨rfl, yq6252_z⟩ := rp_sgN (fun q => absurd (Eq.trans (Eq.symm kc) q.1) (by decide)) q6252_z
    subst yq6252_z
    replace hm_z : rn _ _ _ _ [.int 0] _ _ _ := hm_z
    replace hm_z := rn_ifT (am_cur_of (i := (6, 3, .ifCond .eq 41, (26, 0, 0), 0)) (by decide +kernel)) (by decide) hm_z
    replace hm_z := rn_aload_n (am_cur_of (i := (47, 1, .aload_n 0, (0, 0, 0), 0)) (by decide +kernel)) g0m hm_z
    replace hm_z := rn_bipush (w := 12) (am_cur_of (i := (48, 2, .bipush 12, (0, 0, 0), 0)) (by decide +kernel)) (by decide) hm_z
    replace hm_z := rn_callV (M' := am_m174) (o := 164) (ar := [.int 12]) (rest := []) (L := lv_args 0 [.ref 164, .int 12]) (am_cur_of (i := (50, 3, .invokevirtual 306, (174, 1727, 3), 0)) (by decide +kernel)) rfl rfl rfl rfl hm_z
    obtain ⟨r6253_z, h6254_z, q6255_z, hm_z⟩ := hm_z
    obtain ⟨rfl, yq6255_z⟩ := rp_kyN (fun q => absurd (Eq.trans (Eq.symm kc) q.1) (by decide)) q6255_z
    subst yq6255_z
    replace hm_z : rn _ _ _ _ [.int 0] _ _ _ := hm_z
    replace hm_z := rn_ifT (am_cur_of (i := (53, 3, .ifCond .eq 7, (32, 0, 0), 0)) (by decide +kernel)) (by decide) hm_z
    replace hm_z := rn_aload_n (am_cur_of (i := (60, 1, .aload_n 0, (0, 0, 0), 0)) (by decide +kernel)) g0m hm_z
    replace hm_z := rn_bipush (w := 13) (am_cur_of (i := (61, 2, .bipush 13, (0, 0, 0), 0)) (by decide +kernel)) (by decide) hm_z
    replace hm_z := rn_callV (M' := am_m174) (o := 164) (ar := [.int 13]) (rest := []) (L := lv_args 0 [.ref 164, .int 13]) (am_cur_of (i := (63, 3, .invokevirtual 306, (174, 1727, 3), 0)) (by decide +kernel)) rfl rfl rfl rfl hm_z
    obtain ⟨r6256_z, h6257_z, q6258_z, hm_z⟩ := hm_z
    obtain ⟨rfl, yq6258_z⟩ := rp_kyN (fun q => absurd (Eq.trans (Eq.symm kc) q.1) (by decide)) q6258_z
    subst yq6258_z
    replace hm_z : rn _ _ _ _ [.int 0] _ _ _ := hm_z
    replace hm_z := rn_ifT (am_cur_of (i := (66, 3, .ifCond .eq 7, (38, 0, 0), 0)) (by decide +kernel)) (by decide) hm_z
    replace hm_z := rn_aload_n (am_cur_of (i := (73, 1, .aload_n 0, (0, 0, 0), 0)) (by decide +kernel)) g0m hm_z
    replace hm_z := rn_getI (v := 2) (am_cur_of (i := (74, 3, .getfield 157, (12, 8, 1392), 0)) (by decide +kernel)) (by decide +kernel) kc hm_z
    replace hm_z := rn_iconst (w := 5) (am_cur_of (i := (77, 1, .iconst 5, (0, 0, 0), 0)) (by decide +kernel)) (by decide) hm_z
    replace hm_z := rn_cmpT (am_cur_of (i := (78, 3, .if_icmp .ne 12, (47, 0, 0), 0)) (by decide +kernel)) (by decide) hm_z
    replace hm_z := rn_aload_n (am_cur_of (i := (90, 1, .aload_n 0, (0, 0, 0), 0)) (by decide +kernel)) g0m hm_z
    replace hm_z := rn_bipush (w := 43) (am_cur_of (i := (91, 2, .bipush 43, (0, 0, 0), 0)) (by decide +kernel)) (by decide) hm_z
    replace hm_z := rn_callV (M' := am_m171) (o := 164) (ar := [.int 43]) (rest := []) (L := lv_args 0 [.ref 164, .int 43]) (am_cur_of (i := (93, 3, .invokevirtual 194, (171, 1715, 3), 0)) (by decide +kernel)) rfl rfl rfl rfl hm_z
    obtain ⟨r6259_z, h6260_z, q6261_z, hm_z⟩ := hm_z
    obtain ⟨rfl, yq6261_z⟩ := rp_sgN (fun q => absurd (Eq.trans (Eq.symm kc) q.1) (by decide)) q6261_z
    subst yq6261_z
    replace hm_z : rn _ _ _ _ [.int 0] _ _ _ := hm_z
    replace hm_z := rn_ifT (am_cur_of (i := (96, 3, .ifCond .eq 8, (53, 0, 0), 0)) (by decide +kernel)) (by decide) hm_z
    replace hm_z := rn_aload_n (am_cur_of (i := (104, 1, .aload_n 0, (0, 0, 0), 0)) (by decide +kernel)) g0m hm_z
    replace hm_z := rn_bipush (w := 45) (am_cur_of (i := (105, 2, .bipush 45, (0, 0, 0), 0)) (by decide +kernel)) (by decide) hm_z
    replace hm_z := rn_callV (M' := am_m171) (o := 164) (ar := [.int 45]) (rest := []) (L := lv_args 0 [.ref 164, .int 45]) (am_cur_of (i := (107, 3, .invokevirtual 194, (171, 1715, 3), 0)) (by decide +kernel)) rfl rfl rfl rfl hm_z
    obtain ⟨r6262_z, h6263_z, q6264_z, hm_z⟩ := hm_z
    obtain ⟨rfl, yq6264_z⟩ := rp_sgN (fun q => absurd (Eq.trans (Eq.symm kc) q.1) (by decide)) q6264_z
    subst yq6264_z
    replace hm_z : rn _ _ _ _ [.int 0] _ _ _ := hm_z
    replace hm_z := rn_ifT (am_cur_of (i := (110, 3, .ifCond .eq 8, (59, 0, 0), 0)) (by decide +kernel)) (by decide) hm_z
    replace hm_z := rn_aload_n (am_cur_of (i := (118, 1, .aload_n 0, (0, 0, 0), 0)) (by decide +kernel)) g0m hm_z
    replace hm_z := rn_bipush (w := 42) (am_cur_of (i := (119, 2, .bipush 42, (0, 0, 0), 0)) (by decide +kernel)) (by decide) hm_z
    replace hm_z := rn_callV (M' := am_m171) (o := 164) (ar := [.int 42]) (rest := []) (L := lv_args 0 [.ref 164, .int 42]) (am_cur_of (i := (121, 3, .invokevirtual 194, (171, 1715, 3), 0)) (by decide +kernel)) rfl rfl rfl rfl hm_z
    obtain ⟨r6265_z, h6266_z, q6267_z, hm_z⟩ := hm_z
    obtain ⟨rfl, yq6267_z⟩ := rp_sgN (fun q => absurd (Eq.trans (Eq.symm kc) q.1) (by decide)) q6267_z
    subst yq6267_z
    replace hm_z : rn _ _ _ _ [.int 0] _ _ _ := hm_z
    replace hm_z := rn_ifT (am_cur_of (i := (124, 3, .ifCond .eq 8, (65, 0, 0), 0)) (by decide +kernel)) (by decide) hm_z
    replace hm_z := rn_aload_n (am_cur_of (i := (132, 1, .aload_n 0, (0, 0, 0), 0)) (by decide +kernel)) g0m hm_z
    replace hm_z := rn_bipush (w := 47) (am_cur_of (i := (133, 2, .bipush 47, (0, 0, 0), 0)) (by decide +kernel)) (by decide) hm_z
    replace hm_z := rn_callV (M' := am_m171) (o := 164) (ar := [.int 47]) (rest := []) (L := lv_args 0 [.ref 164, .int 47]) (am_cur_of (i := (135, 3, .invokevirtual 194, (171, 1715, 3), 0)) (by decide +kernel)) rfl rfl rfl rfl hm_z
    obtain ⟨r6268_z, h6269_z, q6270_z, hm_z⟩ := hm_z
    obtain ⟨rfl, yq6270_z⟩ := rp_sgN (fun q => absurd (Eq.trans (Eq.symm kc) q.1) (by decide)) q6270_z
    subst yq6270_z
    replace hm_z : rn _ _ _ _ [.int 0] _ _ _ := hm_z
    replace hm_z := rn_ifT (am_cur_of (i := (138, 3, .ifCond .eq 8, (71, 0, 0), 0)) (by decide +kernel)) (by decide) hm_z
    replace hm_z := rn_iconst (w := 0) (am_cur_of (i := (146, 1, .iconst 0, (0, 0, 0), 0)) (by decide +kernel)) (by decide) hm_z
    replace hm_z := rn_istore_n (am_cur_of (i := (147, 1, .istore_n 1, (0, 0, 0), 0)) (by decide +kernel)) hm_z
    obtain ⟨_, s6271_z, s6272_z, g1m, hm_z⟩ := hm_z
    replace g0m := s6271_z 0 _ (by decide) rfl g0m
    clear s6271_z s6272_z
    replace hm_z := rn_iload_n (am_cur_of (i := (148, 1, .iload_n 1, (0, 0, 0), 0)) (by decide +kernel)) g1m hm_z
    replace hm_z := rn_ifF (am_cur_of (i := (149, 3, .ifCond .ne 9, (79, 0, 0), 0)) (by decide +kernel)) (by decide) hm_z
    replace hm_z := rn_aload_n (am_cur_of (i := (152, 1, .aload_n 0, (0, 0, 0), 0)) (by decide +kernel)) g0m hm_z
    replace hm_z := rn_iconst (w := 1) (am_cur_of (i := (153, 1, .iconst 1, (0, 0, 0), 0)) (by decide +kernel)) (by decide) hm_z
    replace hm_z := rn_callV (M' := am_m158) (o := 164) (ar := [.int 1]) (rest := []) (L := lv_args 0 [.ref 164, .int 1]) (am_cur_of (i := (154, 3, .invokevirtual 181, (158, 1665, 3), 0)) (by decide +kernel)) rfl rfl rfl rfl hm_z
    obtain ⟨r6273_z, h6274_z, q6275_z, hm_z⟩ := hm_z
    obtain ⟨rfl, yq6275_z⟩ := rp_wrong q6275_z
    subst yq6275_z
    replace hm_z : rn _ _ _ _ [.int 0] _ _ _ := hm_z
    replace hm_z := rn_iret (am_cur_of (i := (157, 1, .ireturn, (0, 0, 0), 0)) (by decide +kernel)) hm_z
    obtain ⟨e6276_z, e6277_z⟩ := hm_z
    subst e6249_z e6277_z
    exact Or.inr ⟨e6248_z, rfl, z4_z.trans (rt_i32 (by rw [show (0 : Int32).toInt = 0 by decide]; omega)), e6276_z, rfl⟩
  · replace b6247_z : (0 : Int32).toInt < op.toInt := b6247_z
    replace hc_z := rn_aload_n (am_cur_of (i := (75, 1, .aload_n 0, (0, 0, 0), 0)) (by decide +kernel)) g0_z hc_z
    replace hc_z := rn_iconst (w := 1) (am_cur_of (i := (76, 1, .iconst 1, (0, 0, 0), 0)) (by decide +kernel)) (by decide) hc_z
    replace hc_z := rn_callV (M' := am_m29) (o := 44) (ar := [.int 1]) (rest := []) (L := lv_args 0 [.ref 44, .int 1]) (am_cur_of (i := (77, 3, .invokevirtual 108, (29, 769, 3), 0)) (by decide +kernel)) rfl rfl rfl rfl hc_z
    obtain ⟨r6278_z, h6279_z, q6280_z, hc_z⟩ := hc_z
    obtain ⟨rfl, yq6280_z⟩ := rp_fail R4 q6280_z
    subst yq6280_z
    replace hc_z : rn _ _ _ _ [] _ _ _ := hc_z
    have K := rs_stick (w := 1) (q := p) (a := 44) (by decide) (by decide) rfl (by decide) rfl (show rg_v (am_up (am_up h 44 1 (.int 1)) 44 2 (.int (rg_v h 44 9))) 44 2 = p from R5) hc_z
    replace hm_z := rn_aload_n (am_cur_of (i := (0, 1, .aload_n 0, (0, 0, 0), 0)) (by decide +kernel)) g0m hm_z
    replace hm_z := rn_bipush (w := 41) (am_cur_of (i := (1, 2, .bipush 41, (0, 0, 0), 0)) (by decide +kernel)) (by decide) hm_z
    replace hm_z := rn_callV (M' := am_m171) (o := 164) (ar := [.int 41]) (rest := []) (L := lv_args 0 [.ref 164, .int 41]) (am_cur_of (i := (3, 3, .invokevirtual 194, (171, 1715, 3), 0)) (by decide +kernel)) rfl rfl rfl rfl hm_z
    obtain ⟨r6281_z, h6282_z, q6283_z, hm_z⟩ := hm_z
    obtain ⟨rfl, yq6283_z⟩ := rp_sgN (fun q => absurd (Eq.trans (Eq.symm kc) q.1) (by decide)) q6283_z
    subst yq6283_z
    replace hm_z : rn _ _ _ _ [.int 0] _ _ _ := hm_z
    replace hm_z := rn_ifT (am_cur_of (i := (6, 3, .ifCond .eq 41, (26, 0, 0), 0)) (by decide +kernel)) (by decide) hm_z
    replace hm_z := rn_aload_n (am_cur_of (i := (47, 1, .aload_n 0, (0, 0, 0), 0)) (by decide +kernel)) g0m hm_z
    replace hm_z := rn_bipush (w := 12) (am_cur_of (i := (48, 2, .bipush 12, (0, 0, 0), 0)) (by decide +kernel)) (by decide) hm_z
    replace hm_z := rn_callV (M' := am_m174) (o := 164) (ar := [.int 12]) (rest := []) (L := lv_args 0 [.ref 164, .int 12]) (am_cur_of (i := (50, 3, .invokevirtual 306, (174, 1727, 3), 0)) (by decide +kernel)) rfl rfl rfl rfl hm_z
    obtain ⟨r6284_z, h6285_z, q6286_z, hm_z⟩ := hm_z
    obtain ⟨rfl, yq6286_z⟩ := rp_kyN (fun q => absurd (Eq.trans (Eq.symm kc) q.1) (by decide)) q6286_z
    subst yq6286_z
    replace hm_z : rn _ _ _ _ [.int 0] _ _ _ := hm_z
    replace hm_z := rn_ifT (am_cur_of (i := (53, 3, .ifCond .eq 7, (32, 0, 0), 0)) (by decide +kernel)) (by decide) hm_z
    replace hm_z := rn_aload_n (am_cur_of (i := (60, 1, .aload_n 0, (0, 0, 0), 0)) (by decide +kernel)) g0m hm_z
    replace hm_z := rn_bipush (w := 13) (am_cur_of (i := (61, 2, .bipush 13, (0, 0, 0), 0)) (by decide +kernel)) (by decide) hm_z
    replace hm_z := rn_callV (M' := am_m174) (o := 164) (ar := [.int 13]) (rest := []) (L := lv_args 0 [.ref 164, .int 13]) (am_cur_of (i := (63, 3, .invokevirtual 306, (174, 1727, 3), 0)) (by decide +kernel)) rfl rfl rfl rfl hm_z
    obtain ⟨r6287_z, h6288_z, q6289_z, hm_z⟩ := hm_z
    obtain ⟨rfl, yq6289_z⟩ := rp_kyN (fun q => absurd (Eq.trans (Eq.symm kc) q.1) (by decide)) q6289_z
    subst yq6289_z
    replace hm_z : rn _ _ _ _ [.int 0] _ _ _ := hm_z
    replace hm_z := rn_ifT (am_cur_of (i := (66, 3, .ifCond .eq 7, (38, 0, 0), 0)) (by decide +kernel)) (by decide) hm_z
    replace hm_z := rn_aload_n (am_cur_of (i := (73, 1, .aload_n 0, (0, 0, 0), 0)) (by decide +kernel)) g0m hm_z
    replace hm_z := rn_getI (v := 2) (am_cur_of (i := (74, 3, .getfield 157, (12, 8, 1392), 0)) (by decide +kernel)) (by decide +kernel) kc hm_z
    replace hm_z := rn_iconst (w := 5) (am_cur_of (i := (77, 1, .iconst 5, (0, 0, 0), 0)) (by decide +kernel)) (by decide) hm_z
    replace hm_z := rn_cmpT (am_cur_of (i := (78, 3, .if_icmp .ne 12, (47, 0, 0), 0)) (by decide +kernel)) (by decide) hm_z
    replace hm_z := rn_aload_n (am_cur_of (i := (90, 1, .aload_n 0, (0, 0, 0), 0)) (by decide +kernel)) g0m hm_z
    replace hm_z := rn_bipush (w := 43) (am_cur_of (i := (91, 2, .bipush 43, (0, 0, 0), 0)) (by decide +kernel)) (by decide) hm_z
    replace hm_z := rn_callV (M' := am_m171) (o := 164) (ar := [.int 43]) (rest := []) (L := lv_args 0 [.ref 164, .int 43]) (am_cur_of (i := (93, 3, .invokevirtual 194, (171, 1715, 3), 0)) (by decide +kernel)) rfl rfl rfl rfl hm_z
    obtain ⟨r6290_z, h6291_z, q6292_z, hm_z⟩ := hm_z
    obtain ⟨rfl, yq6292_z⟩ := rp_sgN (fun q => absurd (Eq.trans (Eq.symm kc) q.1) (by decide)) q6292_z
    subst yq6292_z
    replace hm_z : rn _ _ _ _ [.int 0] _ _ _ := hm_z
    replace hm_z := rn_ifT (am_cur_of (i := (96, 3, .ifCond .eq 8, (53, 0, 0), 0)) (by decide +kernel)) (by decide) hm_z
    replace hm_z := rn_aload_n (am_cur_of (i := (104, 1, .aload_n 0, (0, 0, 0), 0)) (by decide +kernel)) g0m hm_z
    replace hm_z := rn_bipush (w := 45) (am_cur_of (i := (105, 2, .bipush 45, (0, 0, 0), 0)) (by decide +kernel)) (by decide) hm_z
    replace hm_z := rn_callV (M' := am_m171) (o := 164) (ar := [.int 45]) (rest := []) (L := lv_args 0 [.ref 164, .int 45]) (am_cur_of (i := (107, 3, .invokevirtual 194, (171, 1715, 3), 0)) (by decide +kernel)) rfl rfl rfl rfl hm_z
    obtain ⟨r6293_z, h6294_z, q6295_z, hm_z⟩ := hm_z
    obtain ⟨rfl, yq6295_z⟩ := rp_sgN (fun q => absurd (Eq.trans (Eq.symm kc) q.1) (by decide)) q6295_z
    subst yq6295_z
    replace hm_z : rn _ _ _ _ [.int 0] _ _ _ := hm_z
    replace hm_z := rn_ifT (am_cur_of (i := (110, 3, .ifCond .eq 8, (59, 0, 0), 0)) (by decide +kernel)) (by decide) hm_z
    replace hm_z := rn_aload_n (am_cur_of (i := (118, 1, .aload_n 0, (0, 0, 0), 0)) (by decide +kernel)) g0m hm_z
    replace hm_z := rn_bipush (w := 42) (am_cur_of (i := (119, 2, .bipush 42, (0, 0, 0), 0)) (by decide +kernel)) (by decide) hm_z
    replace hm_z := rn_callV (M' := am_m171) (o := 164) (ar := [.int 42]) (rest := []) (L := lv_args 0 [.ref 164, .int 42]) (am_cur_of (i := (121, 3, .invokevirtual 194, (171, 1715, 3), 0)) (by decide +kernel)) rfl rfl rfl rfl hm_z
    obtain ⟨r6296_z, h6297_z, q6298_z, hm_z⟩ := hm_z
    obtain ⟨rfl, yq6298_z⟩ := rp_sgN (fun q => absurd (Eq.trans (Eq.symm kc) q.1) (by decide)) q6298_z
    subst yq6298_z
    replace hm_z : rn _ _ _ _ [.int 0] _ _ _ := hm_z
    replace hm_z := rn_ifT (am_cur_of (i := (124, 3, .ifCond .eq 8, (65, 0, 0), 0)) (by decide +kernel)) (by decide) hm_z
    replace hm_z := rn_aload_n (am_cur_of (i := (132, 1, .aload_n 0, (0, 0, 0), 0)) (by decide +kernel)) g0m hm_z
    replace hm_z := rn_bipush (w := 47) (am_cur_of (i := (133, 2, .bipush 47, (0, 0, 0), 0)) (by decide +kernel)) (by decide) hm_z
    replace hm_z := rn_callV (M' := am_m171) (o := 164) (ar := [.int 47]) (rest := []) (L := lv_args 0 [.ref 164, .int 47]) (am_cur_of (i := (135, 3, .invokevirtual 194, (171, 1715, 3), 0)) (by decide +kernel)) rfl rfl rfl rfl hm_z
    obtain ⟨r6299_z, h6300_z, q6301_z, hm_z⟩ := hm_z
    obtain ⟨rfl, yq6301_z⟩ := rp_sgN (fun q => absurd (Eq.trans (Eq.symm kc) q.1) (by decide)) q6301_z
    subst yq6301_z
    replace hm_z : rn _ _ _ _ [.int 0] _ _ _ := hm_z
    replace hm_z := rn_ifT (am_cur_of (i := (138, 3, .ifCond .eq 8, (71, 0, 0), 0)) (by decide +kernel)) (by decide) hm_z
    replace hm_z := rn_iconst (w := 0) (am_cur_of (i := (146, 1, .iconst 0, (0, 0, 0), 0)) (by decide +kernel)) (by decide) hm_z
    replace hm_z := rn_istore_n (am_cur_of (i := (147, 1, .istore_n 1, (0, 0, 0), 0)) (by decide +kernel)) hm_z
    obtain ⟨_, s6302_z, s6303_z, g1m, hm_z⟩ := hm_z
    replace g0m := s6302_z 0 _ (by decide) rfl g0m
    clear s6302_z s6303_z
    replace hm_z := rn_iload_n (am_cur_of (i := (148, 1, .iload_n 1, (0, 0, 0), 0)) (by decide +kernel)) g1m hm_z
    replace hm_z := rn_ifF (am_cur_of (i := (149, 3, .ifCond .ne 9, (79, 0, 0), 0)) (by decide +kernel)) (by decide) hm_z
    replace hm_z := rn_aload_n (am_cur_of (i := (152, 1, .aload_n 0, (0, 0, 0), 0)) (by decide +kernel)) g0m hm_z
    replace hm_z := rn_iconst (w := 1) (am_cur_of (i := (153, 1, .iconst 1, (0, 0, 0), 0)) (by decide +kernel)) (by decide) hm_z
    replace hm_z := rn_callV (M' := am_m158) (o := 164) (ar := [.int 1]) (rest := []) (L := lv_args 0 [.ref 164, .int 1]) (am_cur_of (i := (154, 3, .invokevirtual 181, (158, 1665, 3), 0)) (by decide +kernel)) rfl rfl rfl rfl hm_z
    obtain ⟨r6304_z, h6305_z, q6306_z, hm_z⟩ := hm_z
    obtain ⟨rfl, yq6306_z⟩ := rp_wrong q6306_z
    subst yq6306_z
    replace hm_z : rn _ _ _ _ [.int 0] _ _ _ := hm_z
    replace hm_z := rn_iret (am_cur_of (i := (157, 1, .ireturn, (0, 0, 0), 0)) (by decide +kernel)) hm_z
    obtain ⟨e6307_z, e6308_z⟩ := hm_z
    subst e6307_z e6308_z
    exact Or.inl (Or.inr ⟨rfl, 1, by decide, K.1, K.2, rfl, R6⟩)
theorem rj_c11_23 {T : Nat → Int32} {S x p : Int32} {n n' : Nat} {h h' g g' : am_H} {r r' : Option Value} (R : rq T S x p 23 h g) (A : rp 23 h g) (B : rp_t h g) (Z : rs 23 h g) (w0_z : rg_v g 164 45 = 0) (ka : (rg_v h 44 10) = 4) (kc : (rg_v g 164 8) = 3) (kb0_z : 0 ≤ (rg_v h 44 11).toInt) (kd0_z : 0 ≤ (rg_v g 164 9).toInt) (kbd : ((rg_v h 44 11).toInt = (rg_v g 164 9).toInt ∨ (99999 < (rg_v h 44 11).toInt ∧ 99999 < (rg_v g 164 9).toInt))) (hc_z : rn n am_m44 0 (lv_args 0 [.ref 44]) [] h r h') (hm_z : rn n' am_m178 0 (lv_args 0 [.ref 164]) [] g r' g') : rj_Q T S x p 23 h g h' g' r r' := by
  have z0_z : (0 : Int32).toInt = 0 := by decide
  have g0_z : am_get (lv_args 0 [.ref 44]) 0 = some (.ref 44) := rfl
  have g0m : am_get (lv_args 0 [.ref 164]) 0 = some (.ref 164) := rfl
  have Rk := R
  have Zk := Z
  obtain ⟨⟨c1_z, c2_z, c3_z, c4_z, c5_z, c6_z, c7_z, c8_z⟩, ⟨m2_z, m3_z, m4_z, m5_z, m6_z, m7_z, m8_z⟩, R3, R4, R5, R6, R7, R8, R9, R10⟩ := (R : rq T S x p 23 h g)
  obtain ⟨np, op, z1_z, z2_z, z3_z, z4_z, z5_z, z6_z, z7_z, z8_z, z9_z, z10_z⟩ := (Z : rs 23 h g)
  obtain ⟨nk1_z, nk2_z, nk3_z⟩ := A.2.2.2.2.2.1
  replace nk1_z : rg_v h 32 0 = rg_v g 164 44 := nk1_z
  replace nk2_z : 0 ≤ (rg_v h 32 0).toInt := nk2_z
  replace nk3_z : (rg_v h 32 0).toInt ≤ 64 := nk3_z
  replace z8_z : np.toInt ≤ (rg_v h 32 0).toInt + op.toInt := z8_z
  obtain ⟨kn, ekn⟩ : ∃ v, rg_v h 32 0 = v := ⟨_, rfl⟩
  rw [ekn] at nk1_z nk2_z nk3_z z8_z
  have e9_z := rt_c1 (x := kn) (by omega) (by omega)
  replace hc_z := rn_aload_n (am_cur_of (i := (0, 1, .aload_n 0, (0, 0, 0), 0)) (by decide +kernel)) g0_z hc_z
  replace hc_z := rn_bipush (w := 41) (am_cur_of (i := (1, 2, .bipush 41, (0, 0, 0), 0)) (by decide +kernel)) (by decide) hc_z
  replace hc_z := rn_callV (M' := am_m45) (o := 44) (ar := [.int 41]) (rest := []) (L := lv_args 0 [.ref 44, .int 41]) (am_cur_of (i := (3, 3, .invokevirtual 105, (45, 834, 3), 0)) (by decide +kernel)) rfl rfl rfl rfl hc_z
  obtain ⟨r6309_z, h6310_z, q6311_z, hc_z⟩ := hc_z
  obtain ⟨rfl, yq6311_z⟩ := rp_mkN (fun q => absurd (Eq.trans (Eq.symm ka) q.1) (by decide)) q6311_z
  subst yq6311_z
  replace hc_z : rn _ _ _ _ [.int 0] _ _ _ := hc_z
  replace hc_z := rn_ifT (am_cur_of (i := (6, 3, .ifCond .eq 45, (28, 0, 0), 0)) (by decide +kernel)) (by decide) hc_z
  replace hc_z := rn_aload_n (am_cur_of (i := (51, 1, .aload_n 0, (0, 0, 0), 0)) (by decide +kernel)) g0_z hc_z
  replace hc_z := rn_getI (v := 4) (am_cur_of (i := (52, 3, .getfield 60, (4, 10, 419), 0)) (by decide +kernel)) (by decide +kernel) ka hc_z
  replace hc_z := rn_bipush (w := 6) (am_cur_of (i := (55, 2, .bipush 6, (0, 0, 0), 0)) (by decide +kernel)) (by decide) hc_z
  replace hc_z := rn_cmpT (am_cur_of (i := (57, 3, .if_icmp .ne 11, (36, 0, 0), 0)) (by decide +kernel)) (by decide) hc_z
  replace hc_z := rn_aload_n (am_cur_of (i := (68, 1, .aload_n 0, (0, 0, 0), 0)) (by decide +kernel)) g0_z hc_z
  replace hc_z := rn_getI (v := op) (am_cur_of (i := (69, 3, .getfield 254, (4, 14, 423), 0)) (by decide +kernel)) (by decide +kernel) z4_z hc_z
  replace hc_z := rn_if (am_cur_of (i := (72, 3, .ifCond .le 8, (42, 0, 0), 0)) (by decide +kernel)) hc_z
  rcases hc_z with ⟨b6312_z, hc_z⟩ | ⟨b6312_z, hc_z⟩
  · replace b6312_z : op.toInt ≤ (0 : Int32).toInt := b6312_z
    replace hc_z := rn_iconst (w := 3) (am_cur_of (i := (80, 1, .iconst 3, (0, 0, 0), 0)) (by decide +kernel)) (by decide) hc_z
    replace hc_z := rn_iret (am_cur_of (i := (81, 1, .ireturn, (0, 0, 0), 0)) (by decide +kernel)) hc_z
    obtain ⟨e6313_z, e6314_z⟩ := hc_z
    replace hm_z := rn_aload_n (am_cur_of (i := (0, 1, .aload_n 0, (0, 0, 0), 0)) (by decide +kernel)) g0m hm_z
    replace hm_z := rn_bipush (w := 41) (am_cur_of (i := (1, 2, .bipush 41, (0, 0, 0), 0)) (by decide +kernel)) (by decide) hm_z
    replace hm_z := rn_callV (M' := am_m171) (o := 164) (ar := [.int 41]) (rest := []) (L := lv_args 0 [.ref 164, .int 41]) (am_cur_of (i := (3, 3, .invokevirtual 194, (171, 1715, 3), 0)) (by decide +kernel)) rfl rfl rfl rfl hm_z
    obtain ⟨r6315_z, h6316_z, q6317_z, hm_z⟩ := hm_z
    obtain ⟨rfl, yq6317_z⟩ := rp_sgN (fun q => absurd (Eq.trans (Eq.symm kc) q.1) (by decide)) q6317_z
    subst yq6317_z
    replace hm_z : rn _ _ _ _ [.int 0] _ _ _ := hm_z
    replace hm_z := rn_ifT (am_cur_of (i := (6, 3, .ifCond .eq 41, (26, 0, 0), 0)) (by decide +kernel)) (by decide) hm_z
    replace hm_z := rn_aload_n (am_cur_of (i := (47, 1, .aload_n 0, (0, 0, 0), 0)) (by decide +kernel)) g0m hm_z
    replace hm_z := rn_bipush (w := 12) (am_cur_of (i := (48, 2, .bipush 12, (0, 0, 0), 0)) (by decide +kernel)) (by decide) hm_z
    replace hm_z := rn_callV (M' := am_m174) (o := 164) (ar := [.int 12]) (rest := []) (L := lv_args 0 [.ref 164, .int 12]) (am_cur_of (i := (50, 3, .invokevirtual 306, (174, 1727, 3), 0)) (by decide +kernel)) rfl rfl rfl rfl hm_z
    obtain ⟨r6318_z, h6319_z, q6320_z, hm_z⟩ := hm_z
    obtain ⟨rfl, yq6320_z⟩ := rp_kyN (fun q => absurd (Eq.trans (Eq.symm kc) q.1) (by decide)) q6320_z
    subst yq6320_z
    replace hm_z : rn _ _ _ _ [.int 0] _ _ _ := hm_z
    replace hm_z := rn_ifT (am_cur_of (i := (53, 3, .ifCond .eq 7, (32, 0, 0), 0)) (by decide +kernel)) (by decide) hm_z
    replace hm_z := rn_aload_n (am_cur_of (i := (60, 1, .aload_n 0, (0, 0, 0), 0)) (by decide +kernel)) g0m hm_z
    replace hm_z := rn_bipush (w := 13) (am_cur_of (i := (61, 2, .bipush 13, (0, 0, 0), 0)) (by decide +kernel)) (by decide) hm_z
    replace hm_z := rn_callV (M' := am_m174) (o := 164) (ar := [.int 13]) (rest := []) (L := lv_args 0 [.ref 164, .int 13]) (am_cur_of (i := (63, 3, .invokevirtual 306, (174, 1727, 3), 0)) (by decide +kernel)) rfl rfl rfl rfl hm_z
    obtain ⟨r6321_z, h6322_z, q6323_z, hm_z⟩ := hm_z
    obtain ⟨rfl, yq6323_z⟩ := rp_kyN (fun q => absurd (Eq.trans (Eq.symm kc) q.1) (by decide)) q6323_z
    subst yq6323_z
    replace hm_z : rn _ _ _ _ [.int 0] _ _ _ := hm_z
    replace hm_z := rn_ifT (am_cur_of (i := (66, 3, .ifCond .eq 7, (38, 0, 0), 0)) (by decide +kernel)) (by decide) hm_z
    replace hm_z := rn_aload_n (am_cur_of (i := (73, 1, .aload_n 0, (0, 0, 0), 0)) (by decide +kernel)) g0m hm_z
    replace hm_z := rn_getI (v := 3) (am_cur_of (i := (74, 3, .getfield 157, (12, 8, 1392), 0)) (by decide +kernel)) (by decide +kernel) kc hm_z
    replace hm_z := rn_iconst (w := 5) (am_cur_of (i := (77, 1, .iconst 5, (0, 0, 0), 0)) (by decide +kernel)) (by decide) hm_z
    replace hm_z := rn_cmpT (am_cur_of (i := (78, 3, .if_icmp .ne 12, (47, 0, 0), 0)) (by decide +kernel)) (by decide) hm_z
    replace hm_z := rn_aload_n (am_cur_of (i := (90, 1, .aload_n 0, (0, 0, 0), 0)) (by decide +kernel)) g0m hm_z
    replace hm_z := rn_bipush (w := 43) (am_cur_of (i := (91, 2, .bipush 43, (0, 0, 0), 0)) (by decide +kernel)) (by decide) hm_z
    replace hm_z := rn_callV (M' := am_m171) (o := 164) (ar := [.int 43]) (rest := []) (L := lv_args 0 [.ref 164, .int 43]) (am_cur_of (i := (93, 3, .invokevirtual 194, (171, 1715, 3), 0)) (by decide +kernel)) rfl rfl rfl rfl hm_z
    obtain ⟨r6324_z, h6325_z, q6326_z, hm_z⟩ := hm_z
    obtain ⟨rfl, yq6326_z⟩ := rp_sgN (fun q => absurd (Eq.trans (Eq.symm kc) q.1) (by decide)) q6326_z
    subst yq6326_z
    replace hm_z : rn _ _ _ _ [.int 0] _ _ _ := hm_z
    replace hm_z := rn_ifT (am_cur_of (i := (96, 3, .ifCond .eq 8, (53, 0, 0), 0)) (by decide +kernel)) (by decide) hm_z
    replace hm_z := rn_aload_n (am_cur_of (i := (104, 1, .aload_n 0, (0, 0, 0), 0)) (by decide +kernel)) g0m hm_z
    replace hm_z := rn_bipush (w := 45) (am_cur_of (i := (105, 2, .bipush 45, (0, 0, 0), 0)) (by decide +kernel)) (by decide) hm_z
    replace hm_z := rn_callV (M' := am_m171) (o := 164) (ar := [.int 45]) (rest := []) (L := lv_args 0 [.ref 164, .int 45]) (am_cur_of (i := (107, 3, .invokevirtual 194, (171, 1715, 3), 0)) (by decide +kernel)) rfl rfl rfl rfl hm_z
    obtain ⟨r6327_z, h6328_z, q6329_z, hm_z⟩ := hm_z
    obtain ⟨rfl, yq6329_z⟩ := rp_sgN (fun q => absurd (Eq.trans (Eq.symm kc) q.1) (by decide)) q6329_z
    subst yq6329_z
    replace hm_z : rn _ _ _ _ [.int 0] _ _ _ := hm_z
    replace hm_z := rn_ifT (am_cur_of (i := (110, 3, .ifCond .eq 8, (59, 0, 0), 0)) (by decide +kernel)) (by decide) hm_z
    replace hm_z := rn_aload_n (am_cur_of (i := (118, 1, .aload_n 0, (0, 0, 0), 0)) (by decide +kernel)) g0m hm_z
    replace hm_z := rn_bipush (w := 42) (am_cur_of (i := (119, 2, .bipush 42, (0, 0, 0), 0)) (by decide +kernel)) (by decide) hm_z
    replace hm_z := rn_callV (M' := am_m171) (o := 164) (ar := [.int 42]) (rest := []) (L := lv_args 0 [.ref 164, .int 42]) (am_cur_of (i := (121, 3, .invokevirtual 194, (171, 1715, 3), 0)) (by decide +kernel)) rfl rfl rfl rfl hm_z
    obtain ⟨r6330_z, h6331_z, q6332_z, hm_z⟩ := hm_z
    obtain ⟨rfl, yq6332_z⟩ := rp_sgN (fun q => absurd (Eq.trans (Eq.symm kc) q.1) (by decide)) q6332_z
    subst yq6332_z
    replace hm_z : rn _ _ _ _ [.int 0] _ _ _ := hm_z
    replace hm_z := rn_ifT (am_cur_of (i := (124, 3, .ifCond .eq 8, (65, 0, 0), 0)) (by decide +kernel)) (by decide) hm_z
    replace hm_z := rn_aload_n (am_cur_of (i := (132, 1, .aload_n 0, (0, 0, 0), 0)) (by decide +kernel)) g0m hm_z
    replace hm_z := rn_bipush (w := 47) (am_cur_of (i := (133, 2, .bipush 47, (0, 0, 0), 0)) (by decide +kernel)) (by decide) hm_z
    replace hm_z := rn_callV (M' := am_m171) (o := 164) (ar := [.int 47]) (rest := []) (L := lv_args 0 [.ref 164, .int 47]) (am_cur_of (i := (135, 3, .invokevirtual 194, (171, 1715, 3), 0)) (by decide +kernel)) rfl rfl rfl rfl hm_z
    obtain ⟨r6333_z, h6334_z, q6335_z, hm_z⟩ := hm_z
    obtain ⟨rfl, yq6335_z⟩ := rp_sgN (fun q => absurd (Eq.trans (Eq.symm kc) q.1) (by decide)) q6335_z
    subst yq6335_z
    replace hm_z : rn _ _ _ _ [.int 0] _ _ _ := hm_z
    replace hm_z := rn_ifT (am_cur_of (i := (138, 3, .ifCond .eq 8, (71, 0, 0), 0)) (by decide +kernel)) (by decide) hm_z
    replace hm_z := rn_iconst (w := 0) (am_cur_of (i := (146, 1, .iconst 0, (0, 0, 0), 0)) (by decide +kernel)) (by decide) hm_z
    replace hm_z := rn_istore_n (am_cur_of (i := (147, 1, .istore_n 1, (0, 0, 0), 0)) (by decide +kernel)) hm_z
    obtain ⟨_, s6336_z, s6337_z, g1m, hm_z⟩ := hm_z
    replace g0m := s6336_z 0 _ (by decide) rfl g0m
    clear s6336_z s6337_z
    replace hm_z := rn_iload_n (am_cur_of (i := (148, 1, .iload_n 1, (0, 0, 0), 0)) (by decide +kernel)) g1m hm_z
    replace hm_z := rn_ifF (am_cur_of (i := (149, 3, .ifCond .ne 9, (79, 0, 0), 0)) (by decide +kernel)) (by decide) hm_z
    replace hm_z := rn_aload_n (am_cur_of (i := (152, 1, .aload_n 0, (0, 0, 0), 0)) (by decide +kernel)) g0m hm_z
    replace hm_z := rn_iconst (w := 1) (am_cur_of (i := (153, 1, .iconst 1, (0, 0, 0), 0)) (by decide +kernel)) (by decide) hm_z
    replace hm_z := rn_callV (M' := am_m158) (o := 164) (ar := [.int 1]) (rest := []) (L := lv_args 0 [.ref 164, .int 1]) (am_cur_of (i := (154, 3, .invokevirtual 181, (158, 1665, 3), 0)) (by decide +kernel)) rfl rfl rfl rfl hm_z
    obtain ⟨r6338_z, h6339_z, q6340_z, hm_z⟩ := hm_z
    obtain ⟨rfl, yq6340_z⟩ := rp_wrong q6340_z
    subst yq6340_z
    replace hm_z : rn _ _ _ _ [.int 0] _ _ _ := hm_z
    replace hm_z := rn_iret (am_cur_of (i := (157, 1, .ireturn, (0, 0, 0), 0)) (by decide +kernel)) hm_z
    obtain ⟨e6341_z, e6342_z⟩ := hm_z
    subst e6314_z e6342_z
    exact Or.inr ⟨e6313_z, rfl, z4_z.trans (rt_i32 (by rw [show (0 : Int32).toInt = 0 by decide]; omega)), e6341_z, rfl⟩
  · replace b6312_z : (0 : Int32).toInt < op.toInt := b6312_z
    replace hc_z := rn_aload_n (am_cur_of (i := (75, 1, .aload_n 0, (0, 0, 0), 0)) (by decide +kernel)) g0_z hc_z
    replace hc_z := rn_iconst (w := 1) (am_cur_of (i := (76, 1, .iconst 1, (0, 0, 0), 0)) (by decide +kernel)) (by decide) hc_z
    replace hc_z := rn_callV (M' := am_m29) (o := 44) (ar := [.int 1]) (rest := []) (L := lv_args 0 [.ref 44, .int 1]) (am_cur_of (i := (77, 3, .invokevirtual 108, (29, 769, 3), 0)) (by decide +kernel)) rfl rfl rfl rfl hc_z
    obtain ⟨r6343_z, h6344_z, q6345_z, hc_z⟩ := hc_z
    obtain ⟨rfl, yq6345_z⟩ := rp_fail R4 q6345_z
    subst yq6345_z
    replace hc_z : rn _ _ _ _ [] _ _ _ := hc_z
    have K := rs_stick (w := 1) (q := p) (a := 44) (by decide) (by decide) rfl (by decide) rfl (show rg_v (am_up (am_up h 44 1 (.int 1)) 44 2 (.int (rg_v h 44 9))) 44 2 = p from R5) hc_z
    replace hm_z := rn_aload_n (am_cur_of (i := (0, 1, .aload_n 0, (0, 0, 0), 0)) (by decide +kernel)) g0m hm_z
    replace hm_z := rn_bipush (w := 41) (am_cur_of (i := (1, 2, .bipush 41, (0, 0, 0), 0)) (by decide +kernel)) (by decide) hm_z
    replace hm_z := rn_callV (M' := am_m171) (o := 164) (ar := [.int 41]) (rest := []) (L := lv_args 0 [.ref 164, .int 41]) (am_cur_of (i := (3, 3, .invokevirtual 194, (171, 1715, 3), 0)) (by decide +kernel)) rfl rfl rfl rfl hm_z
    obtain ⟨r6346_z, h6347_z, q6348_z, hm_z⟩ := hm_z
    obtain ⟨rfl, yq6348_z⟩ := rp_sgN (fun q => absurd (Eq.trans (Eq.symm kc) q.1) (by decide)) q6348_z
    subst yq6348_z
    replace hm_z : rn _ _ _ _ [.int 0] _ _ _ := hm_z
    replace hm_z := rn_ifT (am_cur_of (i := (6, 3, .ifCond .eq 41, (26, 0, 0), 0)) (by decide +kernel)) (by decide) hm_z
    replace hm_z := rn_aload_n (am_cur_of (i := (47, 1, .aload_n 0, (0, 0, 0), 0)) (by decide +kernel)) g0m hm_z
    replace hm_z := rn_bipush (w := 12) (am_cur_of (i := (48, 2, .bipush 12, (0, 0, 0), 0)) (by decide +kernel)) (by decide) hm_z
    replace hm_z := rn_callV (M' := am_m174) (o := 164) (ar := [.int 12]) (rest := []) (L := lv_args 0 [.ref 164, .int 12]) (am_cur_of (i := (50, 3, .invokevirtual 306, (174, 1727, 3), 0)) (by decide +kernel)) rfl rfl rfl rfl hm_z
    obtain ⟨r6349_z, h6350_z, q6351_z, hm_z⟩ := hm_z
    obtain ⟨rfl, yq6351_z⟩ := rp_kyN (fun q => absurd (Eq.trans (Eq.symm kc) q.1) (by decide)) q6351_z
    subst yq6351_z
    replace hm_z : rn _ _ _ _ [.int 0] _ _ _ := hm_z
    replace hm_z := rn_ifT (am_cur_of (i := (53, 3, .ifCond .eq 7, (32, 0, 0), 0)) (by decide +kernel)) (by decide) hm_z
    replace hm_z := rn_aload_n (am_cur_of (i := (60, 1, .aload_n 0, (0, 0, 0), 0)) (by decide +kernel)) g0m hm_z
    replace hm_z := rn_bipush (w := 13) (am_cur_of (i := (61, 2, .bipush 13, (0, 0, 0), 0)) (by decide +kernel)) (by decide) hm_z
    replace hm_z := rn_callV (M' := am_m174) (o := 164) (ar := [.int 13]) (rest := []) (L := lv_args 0 [.ref 164, .int 13]) (am_cur_of (i := (63, 3, .invokevirtual 306, (174, 1727, 3), 0)) (by decide +kernel)) rfl rfl rfl rfl hm_z
    obtain ⟨r6352_z, h6353_z, q6354_z, hm_z⟩ := hm_z
    obtain ⟨rfl, yq6354_z⟩ := rp_kyN (fun q => absurd (Eq.trans (Eq.symm kc) q.1) (by decide)) q6354_z
    subst yq6354_z
    replace hm_z : rn _ _ _ _ [.int 0] _ _ _ := hm_z
    replace hm_z := rn_ifT (am_cur_of (i := (66, 3, .ifCond .eq 7, (38, 0, 0), 0)) (by decide +kernel)) (by decide) hm_z
    replace hm_z := rn_aload_n (am_cur_of (i := (73, 1, .aload_n 0, (0, 0, 0), 0)) (by decide +kernel)) g0m hm_z
    replace hm_z := rn_getI (v := 3) (am_cur_of (i := (74, 3, .getfield 157, (12, 8, 1392), 0)) (by decide +kernel)) (by decide +kernel) kc hm_z
    replace hm_z := rn_iconst (w := 5) (am_cur_of (i := (77, 1, .iconst 5, (0, 0, 0), 0)) (by decide +kernel)) (by decide) hm_z
    replace hm_z := rn_cmpT (am_cur_of (i := (78, 3, .if_icmp .ne 12, (47, 0, 0), 0)) (by decide +kernel)) (by decide) hm_z
    replace hm_z := rn_aload_n (am_cur_of (i := (90, 1, .aload_n 0, (0, 0, 0), 0)) (by decide +kernel)) g0m hm_z
    replace hm_z := rn_bipush (w := 43) (am_cur_of (i := (91, 2, .bipush 43, (0, 0, 0), 0)) (by decide +kernel)) (by decide) hm_z
    replace hm_z := rn_callV (M' := am_m171) (o := 164) (ar := [.int 43]) (rest := []) (L := lv_args 0 [.ref 164, .int 43]) (am_cur_of (i := (93, 3, .invokevirtual 194, (171, 1715, 3), 0)) (by decide +kernel)) rfl rfl rfl rfl hm_z
    obtain ⟨r6355_z, h6356_z, q6357_z, hm_z⟩ := hm_z
    obtain ⟨rfl, yq6357_z⟩ := rp_sgN (fun q => absurd (Eq.trans (Eq.symm kc) q.1) (by decide)) q6357_z
    subst yq6357_z
    replace hm_z : rn _ _ _ _ [.int 0] _ _ _ := hm_z
    replace hm_z := rn_ifT (am_cur_of (i := (96, 3, .ifCond .eq 8, (53, 0, 0), 0)) (by decide +kernel)) (by decide) hm_z
    replace hm_z := rn_aload_n (am_cur_of (i := (104, 1, .aload_n 0, (0, 0, 0), 0)) (by decide +kernel)) g0m hm_z
    replace hm_z := rn_bipush (w := 45) (am_cur_of (i := (105, 2, .bipush 45, (0, 0, 0), 0)) (by decide +kernel)) (by decide) hm_z
    replace hm_z := rn_callV (M' := am_m171) (o := 164) (ar := [.int 45]) (rest := []) (L := lv_args 0 [.ref 164, .int 45]) (am_cur_of (i := (107, 3, .invokevirtual 194, (171, 1715, 3), 0)) (by decide +kernel)) rfl rfl rfl rfl hm_z
    obtain ⟨r6358_z, h6359_z, q6360_z, hm_z⟩ := hm_z
    obtain ⟨rfl, yq6360_z⟩ := rp_sgN (fun q => absurd (Eq.trans (Eq.symm kc) q.1) (by decide)) q6360_z
    subst yq6360_z
    replace hm_z : rn _ _ _ _ [.int 0] _ _ _ := hm_z
    replace hm_z := rn_ifT (am_cur_of (i := (110, 3, .ifCond .eq 8, (59, 0, 0), 0)) (by decide +kernel)) (by decide) hm_z
    replace hm_z := rn_aload_n (am_cur_of (i := (118, 1, .aload_n 0, (0, 0, 0), 0)) (by decide +kernel)) g0m hm_z
    replace hm_z := rn_bipush (w := 42) (am_cur_of (i := (119, 2, .bipush 42, (0, 0, 0), 0)) (by decide +kernel)) (by decide) hm_z
    replace hm_z := rn_callV (M' := am_m171) (o := 164) (ar := [.int 42]) (rest := []) (L := lv_args 0 [.ref 164, .int 42]) (am_cur_of (i := (121, 3, .invokevirtual 194, (171, 1715, 3), 0)) (by decide +kernel)) rfl rfl rfl rfl hm_z
    obtain ⟨r6361_z, h6362_z, q6363_z, hm_z⟩ := hm_z
    obtain ⟨rfl, yq6363_z⟩ := rp_sgN (fun q => absurd (Eq.trans (Eq.symm kc) q.1) (by decide)) q6363_z
    subst yq6363_z
    replace hm_z : rn _ _ _ _ [.int 0] _ _ _ := hm_z
    replace hm_z := rn_ifT (am_cur_of (i := (124, 3, .ifCond .eq 8, (65, 0, 0), 0)) (by decide +kernel)) (by decide) hm_z
    replace hm_z := rn_aload_n (am_cur_of (i := (132, 1, .aload_n 0, (0, 0, 0), 0)) (by decide +kernel)) g0m hm_z
    replace hm_z := rn_bipush (w := 47) (am_cur_of (i := (133, 2, .bipush 47, (0, 0, 0), 0)) (by decide +kernel)) (by decide) hm_z
    replace hm_z := rn_callV (M' := am_m171) (o := 164) (ar := [.int 47]) (rest := []) (L := lv_args 0 [.ref 164, .int 47]) (am_cur_of (i := (135, 3, .invokevirtual 194, (171, 1715, 3), 0)) (by decide +kernel)) rfl rfl rfl rfl hm_z
    obtain ⟨r6364_z, h6365_z, q6366_z, hm_z⟩ := hm_z
    obtain ⟨rfl, yq6366_z⟩ := rp_sgN (fun q => absurd (Eq.trans (Eq.symm kc) q.1) (by decide)) q6366_z
    subst yq6366_z
    replace hm_z : rn _ _ _ _ [.int 0] _ _ _ := hm_z
    replace hm_z := rn_ifT (am_cur_of (i := (138, 3, .ifCond .eq 8, (71, 0, 0), 0)) (by decide +kernel)) (by decide) hm_z
    replace hm_z := rn_iconst (w := 0) (am_cur_of (i := (146, 1, .iconst 0, (0, 0, 0), 0)) (by decide +kernel)) (by decide) hm_z
    replace hm_z := rn_istore_n (am_cur_of (i := (147, 1, .istore_n 1, (0, 0, 0), 0)) (by decide +kernel)) hm_z
    obtain ⟨_, s6367_z, s6368_z, g1m, hm_z⟩ := hm_z
    replace g0m := s6367_z 0 _ (by decide) rfl g0m
    clear s6367_z s6368_z
    replace hm_z := rn_iload_n (am_cur_of (i := (148, 1, .iload_n 1, (0, 0, 0), 0)) (by decide +kernel)) g1m hm_z
    replace hm_z := rn_ifF (am_cur_of (i := (149, 3, .ifCond .ne 9, (79, 0, 0), 0)) (by decide +kernel)) (by decide) hm_z
    replace hm_z := rn_aload_n (am_cur_of (i := (152, 1, .aload_n 0, (0, 0, 0), 0)) (by decide +kernel)) g0m hm_z
    replace hm_z := rn_iconst (w := 1) (am_cur_of (i := (153, 1, .iconst 1, (0, 0, 0), 0)) (by decide +kernel)) (by decide) hm_z
    replace hm_z := rn_callV (M' := am_m158) (o := 164) (ar := [.int 1]) (rest := []) (L := lv_args 0 [.ref 164, .int 1]) (am_cur_of (i := (154, 3, .invokevirtual 181, (158, 1665, 3), 0)) (by decide +kernel)) rfl rfl rfl rfl hm_z
    obtain ⟨r6369_z, h6370_z, q6371_z, hm_z⟩ := hm_z
    obtain ⟨rfl, yq6371_z⟩ := rp_wrong q6371_z
    subst yq6371_z
    replace hm_z : rn _ _ _ _ [.int 0] _ _ _ := hm_z
    replace hm_z := rn_iret (am_cur_of (i := (157, 1, .ireturn, (0, 0, 0), 0)) (by decide +kernel)) hm_z
    obtain ⟨e6372_z, e6373_z⟩ := hm_z
    subst e6372_z e6373_z
    exact Or.inl (Or.inr ⟨rfl, 1, by decide, K.1, K.2, rfl, R6⟩)
theorem rj_c12_23 {T : Nat → Int32} {S x p : Int32} {n n' : Nat} {h h' g g' : am_H} {r r' : Option Value} (R : rq T S x p 23 h g) (A : rp 23 h g) (B : rp_t h g) (Z : rs 23 h g) (w0_z : rg_v g 164 45 = 0) (ka : (rg_v h 44 10) = 5) (kc : (rg_v g 164 8) = 4) (kb : (rg_v h 44 11) = 59) (kd : (rg_v g 164 9) = 59) (hc_z : rn n am_m44 0 (lv_args 0 [.ref 44]) [] h r h') (hm_z : rn n' am_m178 0 (lv_args 0 [.ref 164]) [] g r' g') : rj_Q T S x p 23 h g h' g' r r' := by
  have z0_z : (0 : Int32).toInt = 0 := by decide
  have g0_z : am_get (lv_args 0 [.ref 44]) 0 = some (.ref 44) := rfl
  have g0m : am_get (lv_args 0 [.ref 164]) 0 = some (.ref 164) := rfl
  have Rk := R
  have Zk := Z
  obtain ⟨⟨c1_z, c2_z, c3_z, c4_z, c5_z, c6_z, c7_z, c8_z⟩, ⟨m2_z, m3_z, m4_z, m5_z, m6_z, m7_z, m8_z⟩, R3, R4, R5, R6, R7, R8, R9, R10⟩ := (R : rq T S x p 23 h g)
  obtain ⟨np, op, z1_z, z2_z, z3_z, z4_z, z5_z, z6_z, z7_z, z8_z, z9_z, z10_z⟩ := (Z : rs 23 h g)
  obtain ⟨nk1_z, nk2_z, nk3_z⟩ := A.2.2.2.2.2.1
  replace nk1_z : rg_v h 32 0 = rg_v g 164 44 := nk1_z
  replace nk2_z : 0 ≤ (rg_v h 32 0).toInt := nk2_z
  replace nk3_z : (rg_v h 32 0).toInt ≤ 64 := nk3_z
  replace z8_z : np.toInt ≤ (rg_v h 32 0).toInt + op.toInt := z8_z
  obtain ⟨kn, ekn⟩ : ∃ v, rg_v h 32 0 = v := ⟨_, rfl⟩
  rw [ekn] at nk1_z nk2_z nk3_z z8_z
  have e9_z := rt_c1 (x := kn) (by omega) (by omega)
  replace hc_z := rn_aload_n (am_cur_of (i := (0, 1, .aload_n 0, (0, 0, 0), 0)) (by decide +kernel)) g0_z hc_z
  replace hc_z := rn_bipush (w := 41) (am_cur_of (i := (1, 2, .bipush 41, (0, 0, 0), 0)) (by decide +kernel)) (by decide) hc_z
  replace hc_z := rn_callV (M' := am_m45) (o := 44) (ar := [.int 41]) (rest := []) (L := lv_args 0 [.ref 44, .int 41]) (am_cur_of (i := (3, 3, .invokevirtual 105, (45, 834, 3), 0)) (by decide +kernel)) rfl rfl rfl rfl hc_z
  obtain ⟨r6374_z, h6375_z, q6376_z, hc_z⟩ := hc_z
  obtain ⟨rfl, yq6376_z⟩ := rp_mkN (fun q => absurd (Eq.trans (Eq.symm kb) q.2) (by decide)) q6376_z
  subst yq6376_z
  replace hc_z : rn _ _ _ _ [.int 0] _ _ _ := hc_z
  replace hc_z := rn_ifT (am_cur_of (i := (6, 3, .ifCond .eq 45, (28, 0, 0), 0)) (by decide +kernel)) (by decide) hc_z
  replace hc_z := rn_aload_n (am_cur_of (i := (51, 1, .aload_n 0, (0, 0, 0), 0)) (by decide +kernel)) g0_z hc_z
  replace hc_z := rn_getI (v := 5) (am_cur_of (i := (52, 3, .getfield 60, (4, 10, 419), 0)) (by decide +kernel)) (by decide +kernel) ka hc_z
  replace hc_z := rn_bipush (w := 6) (am_cur_of (i := (55, 2, .bipush 6, (0, 0, 0), 0)) (by decide +kernel)) (by decide) hc_z
  replace hc_z := rn_cmpT (am_cur_of (i := (57, 3, .if_icmp .ne 11, (36, 0, 0), 0)) (by decide +kernel)) (by decide) hc_z
  replace hc_z := rn_aload_n (am_cur_of (i := (68, 1, .aload_n 0, (0, 0, 0), 0)) (by decide +kernel)) g0_z hc_z
  replace hc_z := rn_getI (v := op) (am_cur_of (i := (69, 3, .getfield 254, (4, 14, 423), 0)) (by decide +kernel)) (by decide +kernel) z4_z hc_z
  replace hc_z := rn_if (am_cur_of (i := (72, 3, .ifCond .le 8, (42, 0, 0), 0)) (by decide +kernel)) hc_z
  rcases hc_z with ⟨b6377_z, hc_z⟩ | ⟨b6377_z, hc_z⟩
  · replace b6377_z : op.toInt ≤ (0 : Int32).toInt := b6377_z
    replace hc_z := rn_iconst (w := 3) (am_cur_of (i := (80, 1, .iconst 3, (0, 0, 0), 0)) (by decide +kernel)) (by decide) hc_z
    replace hc_z := rn_iret (am_cur_of (i := (81, 1, .ireturn, (0, 0, 0), 0)) (by decide +kernel)) hc_z
    obtain ⟨e6378_z, e6379_z⟩ := hc_z
    replace hm_z := rn_aload_n (am_cur_of (i := (0, 1, .aload_n 0, (0, 0, 0), 0)) (by decide +kernel)) g0m hm_z
    replace hm_z := rn_bipush (w := 41) (am_cur_of (i := (1, 2, .bipush 41, (0, 0, 0), 0)) (by decide +kernel)) (by decide) hm_z
    replace hm_z := rn_callV (M' := am_m171) (o := 164) (ar := [.int 41]) (rest := []) (L := lv_args 0 [.ref 164, .int 41]) (am_cur_of (i := (3, 3, .invokevirtual 194, (171, 1715, 3), 0)) (by decide +kernel)) rfl rfl rfl rfl hm_z
    obtain ⟨r6380_z, h6381_z, q6382_z, hm_z⟩ := hm_z
    obtain ⟨rfl, yq6382_z⟩ := rp_sgN (fun q => absurd (Eq.trans (Eq.symm kd) q.2) (by decide)) q6382_z
    subst yq6382_z
    replace hm_z : rn _ _ _ _ [.int 0] _ _ _ := hm_z
    replace hm_z := rn_ifT (am_cur_of (i := (6, 3, .ifCond .eq 41, (26, 0, 0), 0)) (by decide +kernel)) (by decide) hm_z
    replace hm_z := rn_aload_n (am_cur_of (i := (47, 1, .aload_n 0, (0, 0, 0), 0)) (by decide +kernel)) g0m hm_z
    replace hm_z := rn_bipush (w := 12) (am_cur_of (i := (48, 2, .bipush 12, (0, 0, 0), 0)) (by decide +kernel)) (by decide) hm_z
    replace hm_z := rn_callV (M' := am_m174) (o := 164) (ar := [.int 12]) (rest := []) (L := lv_args 0 [.ref 164, .int 12]) (am_cur_of (i := (50, 3, .invokevirtual 306, (174, 1727, 3), 0)) (by decide +kernel)) rfl rfl rfl rfl hm_z
    obtain ⟨r6383_z, h6384_z, q6385_z, hm_z⟩ := hm_z
    obtain ⟨rfl, yq6385_z⟩ := rp_kyN (fun q => absurd (Eq.trans (Eq.symm kc) q.1) (by decide)) q6385_z
    subst yq6385_z
    replace hm_z : rn _ _ _ _ [.int 0] _ _ _ := hm_z
    replace hm_z := rn_ifT (am_cur_of (i := (53, 3, .ifCond .eq 7, (32, 0, 0), 0)) (by decide +kernel)) (by decide) hm_z
    replace hm_z := rn_aload_n (am_cur_of (i := (60, 1, .aload_n 0, (0, 0, 0), 0)) (by decide +kernel)) g0m hm_z
    replace hm_z := rn_bipush (w := 13) (am_cur_of (i := (61, 2, .bipush 13, (0, 0, 0), 0)) (by decide +kernel)) (by decide) hm_z
    replace hm_z := rn_callV (M' := am_m174) (o := 164) (ar := [.int 13]) (rest := []) (L := lv_args 0 [.ref 164, .int 13]) (am_cur_of (i := (63, 3, .invokevirtual 306, (174, 1727, 3), 0)) (by decide +kernel)) rfl rfl rfl rfl hm_z
    obtain ⟨r6386_z, h6387_z, q6388_z, hm_z⟩ := hm_z
    obtain ⟨rfl, yq6388_z⟩ := rp_kyN (fun q => absurd (Eq.trans (Eq.symm kc) q.1) (by decide)) q6388_z
    subst yq6388_z
    replace hm_z : rn _ _ _ _ [.int 0] _ _ _ := hm_z
    replace hm_z := rn_ifT (am_cur_of (i := (66, 3, .ifCond .eq 7, (38, 0, 0), 0)) (by decide +kernel)) (by decide) hm_z
    replace hm_z := rn_aload_n (am_cur_of (i := (73, 1, .aload_n 0, (0, 0, 0), 0)) (by decide +kernel)) g0m hm_z
    replace hm_z := rn_getI (v := 4) (am_cur_of (i := (74, 3, .getfield 157, (12, 8, 1392), 0)) (by decide +kernel)) (by decide +kernel) kc hm_z
    replace hm_z := rn_iconst (w := 5) (am_cur_of (i := (77, 1, .iconst 5, (0, 0, 0), 0)) (by decide +kernel)) (by decide) hm_z
    replace hm_z := rn_cmpT (am_cur_of (i := (78, 3, .if_icmp .ne 12, (47, 0, 0), 0)) (by decide +kernel)) (by decide) hm_z
    replace hm_z := rn_aload_n (am_cur_of (i := (90, 1, .aload_n 0, (0, 0, 0), 0)) (by decide +kernel)) g0m hm_z
    replace hm_z := rn_bipush (w := 43) (am_cur_of (i := (91, 2, .bipush 43, (0, 0, 0), 0)) (by decide +kernel)) (by decide) hm_z
    replace hm_z := rn_callV (M' := am_m171) (o := 164) (ar := [.int 43]) (rest := []) (L := lv_args 0 [.ref 164, .int 43]) (am_cur_of (i := (93, 3, .invokevirtual 194, (171, 1715, 3), 0)) (by decide +kernel)) rfl rfl rfl rfl hm_z
    obtain ⟨r6389_z, h6390_z, q6391_z, hm_z⟩ := hm_z
    obtain ⟨rfl, yq6391_z⟩ := rp_sgN (fun q => absurd (Eq.trans (Eq.symm kd) q.2) (by decide)) q6391_z
    subst yq6391_z
    replace hm_z : rn _ _ _ _ [.int 0] _ _ _ := hm_z
    replace hm_z := rn_ifT (am_cur_of (i := (96, 3, .ifCond .eq 8, (53, 0, 0), 0)) (by decide +kernel)) (by decide) hm_z
    replace hm_z := rn_aload_n (am_cur_of (i := (104, 1, .aload_n 0, (0, 0, 0), 0)) (by decide +kernel)) g0m hm_z
    replace hm_z := rn_bipush (w := 45) (am_cur_of (i := (105, 2, .bipush 45, (0, 0, 0), 0)) (by decide +kernel)) (by decide) hm_z
    replace hm_z := rn_callV (M' := am_m171) (o := 164) (ar := [.int 45]) (rest := []) (L := lv_args 0 [.ref 164, .int 45]) (am_cur_of (i := (107, 3, .invokevirtual 194, (171, 1715, 3), 0)) (by decide +kernel)) rfl rfl rfl rfl hm_z
    obtain ⟨r6392_z, h6393_z, q6394_z, hm_z⟩ := hm_z
    obtain ⟨rfl, yq6394_z⟩ := rp_sgN (fun q => absurd (Eq.trans (Eq.symm kd) q.2) (by decide)) q6394_z
    subst yq6394_z
    replace hm_z : rn _ _ _ _ [.int 0] _ _ _ := hm_z
    replace hm_z := rn_ifT (am_cur_of (i := (110, 3, .ifCond .eq 8, (59, 0, 0), 0)) (by decide +kernel)) (by decide) hm_z
    replace hm_z := rn_aload_n (am_cur_of (i := (118, 1, .aload_n 0, (0, 0, 0), 0)) (by decide +kernel)) g0m hm_z
    replace hm_z := rn_bipush (w := 42) (am_cur_of (i := (119, 2, .bipush 42, (0, 0, 0), 0)) (by decide +kernel)) (by decide) hm_z
    replace hm_z := rn_callV (M' := am_m171) (o := 164) (ar := [.int 42]) (rest := []) (L := lv_args 0 [.ref 164, .int 42]) (am_cur_of (i := (121, 3, .invokevirtual 194, (171, 1715, 3), 0)) (by decide +kernel)) rfl rfl rfl rfl hm_z
    obtain ⟨r6395_z, h6396_z, q6397_z, hm_z⟩ := hm_z
    obtain ⟨rfl, yq6397_z⟩ := rp_sgN (fun q => absurd (Eq.trans (Eq.symm kd) q.2) (by decide)) q6397_z
    subst yq6397_z
    replace hm_z : rn _ _ _ _ [.int 0] _ _ _ := hm_z
    replace hm_z := rn_ifT (am_cur_of (i := (124, 3, .ifCond .eq 8, (65, 0, 0), 0)) (by decide +kernel)) (by decide) hm_z
    replace hm_z := rn_aload_n (am_cur_of (i := (132, 1, .aload_n 0, (0, 0, 0), 0)) (by decide +kernel)) g0m hm_z
    replace hm_z := rn_bipush (w := 47) (am_cur_of (i := (133, 2, .bipush 47, (0, 0, 0), 0)) (by decide +kernel)) (by decide) hm_z
    replace hm_z := rn_callV (M' := am_m171) (o := 164) (ar := [.int 47]) (rest := []) (L := lv_args 0 [.ref 164, .int 47]) (am_cur_of (i := (135, 3, .invokevirtual 194, (171, 1715, 3), 0)) (by decide +kernel)) rfl rfl rfl rfl hm_z
    obtain ⟨r6398_z, h6399_z, q6400_z, hm_z⟩ := hm_z
    obtain ⟨rfl, yq6400_z⟩ := rp_sgN (fun q => absurd (Eq.trans (Eq.symm kd) q.2) (by decide)) q6400_z
    subst yq6400_z
    replace hm_z : rn _ _ _ _ [.int 0] _ _ _ := hm_z
    replace hm_z := rn_ifT (am_cur_of (i := (138, 3, .ifCond .eq 8, (71, 0, 0), 0)) (by decide +kernel)) (by decide) hm_z
    replace hm_z := rn_iconst (w := 0) (am_cur_of (i := (146, 1, .iconst 0, (0, 0, 0), 0)) (by decide +kernel)) (by decide) hm_z
    replace hm_z := rn_istore_n (am_cur_of (i := (147, 1, .istore_n 1, (0, 0, 0), 0)) (by decide +kernel)) hm_z
    obtain ⟨_, s6401_z, s6402_z, g1m, hm_z⟩ := hm_z
    replace g0m := s6401_z 0 _ (by decide) rfl g0m
    clear s6401_z s6402_z
    replace hm_z := rn_iload_n (am_cur_of (i := (148, 1, .iload_n 1, (0, 0, 0), 0)) (by decide +kernel)) g1m hm_z
    replace hm_z := rn_ifF (am_cur_of (i := (149, 3, .ifCond .ne 9, (79, 0, 0), 0)) (by decide +kernel)) (by decide) hm_z
    replace hm_z := rn_aload_n (am_cur_of (i := (152, 1, .aload_n 0, (0, 0, 0), 0)) (by decide +kernel)) g0m hm_z
    replace hm_z := rn_iconst (w := 1) (am_cur_of (i := (153, 1, .iconst 1, (0, 0, 0), 0)) (by decide +kernel)) (by decide) hm_z
    replace hm_z := rn_callV (M' := am_m158) (o := 164) (ar := [.int 1]) (rest := []) (L := lv_args 0 [.ref 164, .int 1]) (am_cur_of (i := (154, 3, .invokevirtual 181, (158, 1665, 3), 0)) (by decide +kernel)) rfl rfl rfl rfl hm_z
    obtain ⟨r6403_z, h6404_z, q6405_z, hm_z⟩ := hm_z
    obtain ⟨rfl, yq6405_z⟩ := rp_wrong q6405_z
    subst yq6405_z
    replace hm_z : rn _ _ _ _ [.int 0] _ _ _ := hm_z
    replace hm_z := rn_iret (am_cur_of (i := (157, 1, .ireturn, (0, 0, 0), 0)) (by decide +kernel)) hm_z
    obtain ⟨e6406_z, e6407_z⟩ := hm_z
    subst e6379_z e6407_z
    exact Or.inr ⟨e6378_z, rfl, z4_z.trans (rt_i32 (by rw [show (0 : Int32).toInt = 0 by decide]; omega)), e6406_z, rfl⟩
  · replace b6377_z : (0 : Int32).toInt < op.toInt := b6377_z
    replace hc_z := rn_aload_n (am_cur_of (i := (75, 1, .aload_n 0, (0, 0, 0), 0)) (by decide +kernel)) g0_z hc_z
    replace hc_z := rn_iconst (w := 1) (am_cur_of (i := (76, 1, .iconst 1, (0, 0, 0), 0)) (by decide +kernel)) (by decide) hc_z
    replace hc_z := rn_callV (M' := am_m29) (o := 44) (ar := [.int 1]) (rest := []) (L := lv_args 0 [.ref 44, .int 1]) (am_cur_of (i := (77, 3, .invokevirtual 108, (29, 769, 3), 0)) (by decide +kernel)) rfl rfl rfl rfl hc_z
    obtain ⟨r6408_z, h6409_z, q6410_z, hc_z⟩ := hc_z
    obtain ⟨rfl, yq6410_z⟩ := rp_fail R4 q6410_z
    subst yq6410_z
    replace hc_z : rn _ _ _ _ [] _ _ _ := hc_z
    have K := rs_stick (w := 1) (q := p) (a := 44) (by decide) (by decide) rfl (by decide) rfl (show rg_v (am_up (am_up h 44 1 (.int 1)) 44 2 (.int (rg_v h 44 9))) 44 2 = p from R5) hc_z
    replace hm_z := rn_aload_n (am_cur_of (i := (0, 1, .aload_n 0, (0, 0, 0), 0)) (by decide +kernel)) g0m hm_z
    replace hm_z := rn_bipush (w := 41) (am_cur_of (i := (1, 2, .bipush 41, (0, 0, 0), 0)) (by decide +kernel)) (by decide) hm_z
    replace hm_z := rn_callV (M' := am_m171) (o := 164) (ar := [.int 41]) (rest := []) (L := lv_args 0 [.ref 164, .int 41]) (am_cur_of (i := (3, 3, .invokevirtual 194, (171, 1715, 3), 0)) (by decide +kernel)) rfl rfl rfl rfl hm_z
    obtain ⟨r6411_z, h6412_z, q6413_z, hm_z⟩ := hm_z
    obtain ⟨rfl, yq6413_z⟩ := rp_sgN (fun q => absurd (Eq.trans (Eq.symm kd) q.2) (by decide)) q6413_z
    subst yq6413_z
    replace hm_z : rn _ _ _ _ [.int 0] _ _ _ := hm_z
    replace hm_z := rn_ifT (am_cur_of (i := (6, 3, .ifCond .eq 41, (26, 0, 0), 0)) (by decide +kernel)) (by decide) hm_z
    replace hm_z := rn_aload_n (am_cur_of (i := (47, 1, .aload_n 0, (0, 0, 0), 0)) (by decide +kernel)) g0m hm_z
    replace hm_z := rn_bipush (w := 12) (am_cur_of (i := (48, 2, .bipush 12, (0, 0, 0), 0)) (by decide +kernel)) (by decide) hm_z
    replace hm_z := rn_callV (M' := am_m174) (o := 164) (ar := [.int 12]) (rest := []) (L := lv_args 0 [.ref 164, .int 12]) (am_cur_of (i := (50, 3, .invokevirtual 306, (174, 1727, 3), 0)) (by decide +kernel)) rfl rfl rfl rfl hm_z
    obtain ⟨r6414_z, h6415_z, q6416_z, hm_z⟩ := hm_z
    obtain ⟨rfl, yq6416_z⟩ := rp_kyN (fun q => absurd (Eq.trans (Eq.symm kc) q.1) (by decide)) q6416_z
    subst yq6416_z
    replace hm_z : rn _ _ _ _ [.int 0] _ _ _ := hm_z
    replace hm_z := rn_ifT (am_cur_of (i := (53, 3, .ifCond .eq 7, (32, 0, 0), 0)) (by decide +kernel)) (by decide) hm_z
    replace hm_z := rn_aload_n (am_cur_of (i := (60, 1, .aload_n 0, (0, 0, 0), 0)) (by decide +kernel)) g0m hm_z
    replace hm_z := rn_bipush (w := 13) (am_cur_of (i := (61, 2, .bipush 13, (0, 0, 0), 0)) (by decide +kernel)) (by decide) hm_z
    replace hm_z := rn_callV (M' := am_m174) (o := 164) (ar := [.int 13]) (rest := []) (L := lv_args 0 [.ref 164, .int 13]) (am_cur_of (i := (63, 3, .invokevirtual 306, (174, 1727, 3), 0)) (by decide +kernel)) rfl rfl rfl rfl hm_z
    obtain ⟨r6417_z, h6418_z, q6419_z, hm_z⟩ := hm_z
    obtain ⟨rfl, yq6419_z⟩ := rp_kyN (fun q => absurd (Eq.trans (Eq.symm kc) q.1) (by decide)) q6419_z
    subst yq6419_z
    replace hm_z : rn _ _ _ _ [.int 0] _ _ _ := hm_z
    replace hm_z := rn_ifT (am_cur_of (i := (66, 3, .ifCond .eq 7, (38, 0, 0), 0)) (by decide +kernel)) (by decide) hm_z
    replace hm_z := rn_aload_n (am_cur_of (i := (73, 1, .aload_n 0, (0, 0, 0), 0)) (by decide +kernel)) g0m hm_z
    replace hm_z := rn_getI (v := 4) (am_cur_of (i := (74, 3, .getfield 157, (12, 8, 1392), 0)) (by decide +kernel)) (by decide +kernel) kc hm_z
    replace hm_z := rn_iconst (w := 5) (am_cur_of (i := (77, 1, .iconst 5, (0, 0, 0), 0)) (by decide +kernel)) (by decide) hm_z
    replace hm_z := rn_cmpT (am_cur_of (i := (78, 3, .if_icmp .ne 12, (47, 0, 0), 0)) (by decide +kernel)) (by decide) hm_z
    replace hm_z := rn_aload_n (am_cur_of (i := (90, 1, .aload_n 0, (0, 0, 0), 0)) (by decide +kernel)) g0m hm_z
    replace hm_z := rn_bipush (w := 43) (am_cur_of (i := (91, 2, .bipush 43, (0, 0, 0), 0)) (by decide +kernel)) (by decide) hm_z
    replace hm_z := rn_callV (M' := am_m171) (o := 164) (ar := [.int 43]) (rest := []) (L := lv_args 0 [.ref 164, .int 43]) (am_cur_of (i := (93, 3, .invokevirtual 194, (171, 1715, 3), 0)) (by decide +kernel)) rfl rfl rfl rfl hm_z
    obtain ⟨r6420_z, h6421_z, q6422_z, hm_z⟩ := hm_z
    obtain ⟨rfl, yq6422_z⟩ := rp_sgN (fun q => absurd (Eq.trans (Eq.symm kd) q.2) (by decide)) q6422_z
    subst yq6422_z
    replace hm_z : rn _ _ _ _ [.int 0] _ _ _ := hm_z
    replace hm_z := rn_ifT (am_cur_of (i := (96, 3, .ifCond .eq 8, (53, 0, 0), 0)) (by decide +kernel)) (by decide) hm_z
    replace hm_z := rn_aload_n (am_cur_of (i := (104, 1, .aload_n 0, (0, 0, 0), 0)) (by decide +kernel)) g0m hm_z
    replace hm_z := rn_bipush (w := 45) (am_cur_of (i := (105, 2, .bipush 45, (0, 0, 0), 0)) (by decide +kernel)) (by decide) hm_z
    replace hm_z := rn_callV (M' := am_m171) (o := 164) (ar := [.int 45]) (rest := []) (L := lv_args 0 [.ref 164, .int 45]) (am_cur_of (i := (107, 3, .invokevirtual 194, (171, 1715, 3), 0)) (by decide +kernel)) rfl rfl rfl rfl hm_z
    obtain ⟨r6423_z, h6424_z, q6425_z, hm_z⟩ := hm_z
    obtain ⟨rfl, yq6425_z⟩ := rp_sgN (fun q => absurd (Eq.trans (Eq.symm kd) q.2) (by decide)) q6425_z
    subst yq6425_z
    replace hm_z : rn _ _ _ _ [.int 0] _ _ _ := hm_z
    replace hm_z := rn_ifT (am_cur_of (i := (110, 3, .ifCond .eq 8, (59, 0, 0), 0)) (by decide +kernel)) (by decide) hm_z
    replace hm_z := rn_aload_n (am_cur_of (i := (118, 1, .aload_n 0, (0, 0, 0), 0)) (by decide +kernel)) g0m hm_z
    replace hm_z := rn_bipush (w := 42) (am_cur_of (i := (119, 2, .bipush 42, (0, 0, 0), 0)) (by decide +kernel)) (by decide) hm_z
    replace hm_z := rn_callV (M' := am_m171) (o := 164) (ar := [.int 42]) (rest := []) (L := lv_args 0 [.ref 164, .int 42]) (am_cur_of (i := (121, 3, .invokevirtual 194, (171, 1715, 3), 0)) (by decide +kernel)) rfl rfl rfl rfl hm_z
    obtain ⟨r6426_z, h6427_z, q6428_z, hm_z⟩ := hm_z
    obtain ⟨rfl, yq6428_z⟩ := rp_sgN (fun q => absurd (Eq.trans (Eq.symm kd) q.2) (by decide)) q6428_z
    subst yq6428_z
    replace hm_z : rn _ _ _ _ [.int 0] _ _ _ := hm_z
    replace hm_z := rn_ifT (am_cur_of (i := (124, 3, .ifCond .eq 8, (65, 0, 0), 0)) (by decide +kernel)) (by decide) hm_z
    replace hm_z := rn_aload_n (am_cur_of (i := (132, 1, .aload_n 0, (0, 0, 0), 0)) (by decide +kernel)) g0m hm_z
    replace hm_z := rn_bipush (w := 47) (am_cur_of (i := (133, 2, .bipush 47, (0, 0, 0), 0)) (by decide +kernel)) (by decide) hm_z
    replace hm_z := rn_callV (M' := am_m171) (o := 164) (ar := [.int 47]) (rest := []) (L := lv_args 0 [.ref 164, .int 47]) (am_cur_of (i := (135, 3, .invokevirtual 194, (171, 1715, 3), 0)) (by decide +kernel)) rfl rfl rfl rfl hm_z
    obtain ⟨r6429_z, h6430_z, q6431_z, hm_z⟩ := hm_z
    obtain ⟨rfl, yq6431_z⟩ := rp_sgN (fun q => absurd (Eq.trans (Eq.symm kd) q.2) (by decide)) q6431_z
    subst yq6431_z
    replace hm_z : rn _ _ _ _ [.int 0] _ _ _ := hm_z
    replace hm_z := rn_ifT (am_cur_of (i := (138, 3, .ifCond .eq 8, (71, 0, 0), 0)) (by decide +kernel)) (by decide) hm_z
    replace hm_z := rn_iconst (w := 0) (am_cur_of (i := (146, 1, .iconst 0, (0, 0, 0), 0)) (by decide +kernel)) (by decide) hm_z
    replace hm_z := rn_istore_n (am_cur_of (i := (147, 1, .istore_n 1, (0, 0, 0), 0)) (by decide +kernel)) hm_z
    obtain ⟨_, s6432_z, s6433_z, g1m, hm_z⟩ := hm_z
    replace g0m := s6432_z 0 _ (by decide) rfl g0m
    clear s6432_z s6433_z
    replace hm_z := rn_iload_n (am_cur_of (i := (148, 1, .iload_n 1, (0, 0, 0), 0)) (by decide +kernel)) g1m hm_z
    replace hm_z := rn_ifF (am_cur_of (i := (149, 3, .ifCond .ne 9, (79, 0, 0), 0)) (by decide +kernel)) (by decide) hm_z
    replace hm_z := rn_aload_n (am_cur_of (i := (152, 1, .aload_n 0, (0, 0, 0), 0)) (by decide +kernel)) g0m hm_z
    replace hm_z := rn_iconst (w := 1) (am_cur_of (i := (153, 1, .iconst 1, (0, 0, 0), 0)) (by decide +kernel)) (by decide) hm_z
    replace hm_z := rn_callV (M' := am_m158) (o := 164) (ar := [.int 1]) (rest := []) (L := lv_args 0 [.ref 164, .int 1]) (am_cur_of (i := (154, 3, .invokevirtual 181, (158, 1665, 3), 0)) (by decide +kernel)) rfl rfl rfl rfl hm_z
    obtain ⟨r6434_z, h6435_z, q6436_z, hm_z⟩ := hm_z
    obtain ⟨rfl, yq6436_z⟩ := rp_wrong q6436_z
    subst yq6436_z
    replace hm_z : rn _ _ _ _ [.int 0] _ _ _ := hm_z
    replace hm_z := rn_iret (am_cur_of (i := (157, 1, .ireturn, (0, 0, 0), 0)) (by decide +kernel)) hm_z
    obtain ⟨e6437_z, e6438_z⟩ := hm_z
    subst e6437_z e6438_z
    exact Or.inl (Or.inr ⟨rfl, 1, by decide, K.1, K.2, rfl, R6⟩)
theorem rj_c13_23 {T : Nat → Int32} {S x p : Int32} {n n' : Nat} {h h' g g' : am_H} {r r' : Option Value} (R : rq T S x p 23 h g) (A : rp 23 h g) (B : rp_t h g) (Z : rs 23 h g) (w0_z : rg_v g 164 45 = 0) (ka : (rg_v h 44 10) = 5) (kc : (rg_v g 164 8) = 4) (kb : (rg_v h 44 11) = 40) (kd : (rg_v g 164 9) = 40) (hc_z : rn n am_m44 0 (lv_args 0 [.ref 44]) [] h r h') (hm_z : rn n' am_m178 0 (lv_args 0 [.ref 164]) [] g r' g') : rj_Q T S x p 23 h g h' g' r r' := by
  have z0_z : (0 : Int32).toInt = 0 := by decide
  have g0_z : am_get (lv_args 0 [.ref 44]) 0 = some (.ref 44) := rfl
  have g0m : am_get (lv_args 0 [.ref 164]) 0 = some (.ref 164) := rfl
  have Rk := R
  have Zk := Z
  obtain ⟨⟨c1_z, c2_z, c3_z, c4_z, c5_z, c6_z, c7_z, c8_z⟩, ⟨m2_z, m3_z, m4_z, m5_z, m6_z, m7_z, m8_z⟩, R3, R4, R5, R6, R7, R8, R9, R10⟩ := (R : rq T S x p 23 h g)
  obtain ⟨np, op, z1_z, z2_z, z3_z, z4_z, z5_z, z6_z, z7_z, z8_z, z9_z, z10_z⟩ := (Z : rs 23 h g)
  obtain ⟨nk1_z, nk2_z, nk3_z⟩ := A.2.2.2.2.2.1
  replace nk1_z : rg_v h 32 0 = rg_v g 164 44 := nk1_z
  replace nk2_z : 0 ≤ (rg_v h 32 0).toInt := nk2_z
  replace nk3_z : (rg_v h 32 0).toInt ≤ 64 := nk3_z
  replace z8_z : np.toInt ≤ (rg_v h 32 0).toInt + op.toInt := z8_z
  obtain ⟨kn, ekn⟩ : ∃ v, rg_v h 32 0 = v := ⟨_, rfl⟩
  rw [ekn] at nk1_z nk2_z nk3_z z8_z
  have e9_z := rt_c1 (x := kn) (by omega) (by omega)
  replace hc_z := rn_aload_n (am_cur_of (i := (0, 1, .aload_n 0, (0, 0, 0), 0)) (by decide +kernel)) g0_z hc_z
  replace hc_z := rn_bipush (w := 41) (am_cur_of (i := (1, 2, .bipush 41, (0, 0, 0), 0)) (by decide +kernel)) (by decide) hc_z
  replace hc_z := rn_callV (M' := am_m45) (o := 44) (ar := [.int 41]) (rest := []) (L := lv_args 0 [.ref 44, .int 41]) (am_cur_of (i := (3, 3, .invokevirtual 105, (45, 834, 3), 0)) (by decide +kernel)) rfl rfl rfl rfl hc_z
  obtain ⟨r6439_z, h6440_z, q6441_z, hc_z⟩ := hc_z
  obtain ⟨rfl, yq6441_z⟩ := rp_mkN (fun q => absurd (Eq.trans (Eq.symm kb) q.2) (by decide)) q6441_z
  subst yq6441_z
  replace hc_z : rn _ _ _ _ [.int 0] _ _ _ := hc_z
  replace hc_z := rn_ifT (am_cur_of (i := (6, 3, .ifCond .eq 45, (28, 0, 0), 0)) (by decide +kernel)) (by decide) hc_z
  replace hc_z := rn_aload_n (am_cur_of (i := (51, 1, .aload_n 0, (0, 0, 0), 0)) (by decide +kernel)) g0_z hc_z
  replace hc_z := rn_getI (v := 5) (am_cur_of (i := (52, 3, .getfield 60, (4, 10, 419), 0)) (by decide +kernel)) (by decide +kernel) ka hc_z
  replace hc_z := rn_bipush (w := 6) (am_cur_of (i := (55, 2, .bipush 6, (0, 0, 0), 0)) (by decide +kernel)) (by decide) hc_z
  replace hc_z := rn_cmpT (am_cur_of (i := (57, 3, .if_icmp .ne 11, (36, 0, 0), 0)) (by decide +kernel)) (by decide) hc_z
  replace hc_z := rn_aload_n (am_cur_of (i := (68, 1, .aload_n 0, (0, 0, 0), 0)) (by decide +kernel)) g0_z hc_z
  replace hc_z := rn_getI (v := op) (am_cur_of (i := (69, 3, .getfield 254, (4, 14, 423), 0)) (by decide +kernel)) (by decide +kernel) z4_z hc_z
  replace hc_z := rn_if (am_cur_of (i := (72, 3, .ifCond .le 8, (42, 0, 0), 0)) (by decide +kernel)) hc_z
  rcases hc_z with ⟨b6442_z, hc_z⟩ | ⟨b6442_z, hc_z⟩
  · replace b6442_z : op.toInt ≤ (0 : Int32).toInt := b6442_z
    replace hc_z := rn_iconst (w := 3) (am_cur_of (i := (80, 1, .iconst 3, (0, 0, 0), 0)) (by decide +kernel)) (by decide) hc_z
    replace hc_z := rn_iret (am_cur_of (i := (81, 1, .ireturn, (0, 0, 0), 0)) (by decide +kernel)) hc_z
    obtain ⟨e6443_z, e6444_z⟩ := hc_z
    replace hm_z := rn_aload_n (am_cur_of (i := (0, 1, .aload_n 0, (0, 0, 0), 0)) (by decide +kernel)) g0m hm_z
    replace hm_z := rn_bipush (w := 41) (am_cur_of (i := (1, 2, .bipush 41, (0, 0, 0), 0)) (by decide +kernel)) (by decide) hm_z
    replace hm_z := rn_callV (M' := am_m171) (o := 164) (ar := [.int 41]) (rest := []) (L := lv_args 0 [.ref 164, .int 41]) (am_cur_of (i := (3, 3, .invokevirtual 194, (171, 1715, 3), 0)) (by decide +kernel)) rfl rfl rfl rfl hm_z
    obtain ⟨r6445_z, h6446_z, q6447_z, hm_z⟩ := hm_z
    obtain ⟨rfl, yq6447_z⟩ := rp_sgN (fun q => absurd (Eq.trans (Eq.symm kd) q.2) (by decide)) q6447_z
    subst yq6447_z
    replace hm_z : rn _ _ _ _ [.int 0] _ _ _ := hm_z
    replace hm_z := rn_ifT (am_cur_of (i := (6, 3, .ifCond .eq 41, (26, 0, 0), 0)) (by decide +kernel)) (by decide) hm_z
    replace hm_z := rn_aload_n (am_cur_of (i := (47, 1, .aload_n 0, (0, 0, 0), 0)) (by decide +kernel)) g0m hm_z
    replace hm_z := rn_bipush (w := 12) (am_cur_of (i := (48, 2, .bipush 12, (0, 0, 0), 0)) (by decide +kernel)) (by decide) hm_z
    replace hm_z := rn_callV (M' := am_m174) (o := 164) (ar := [.int 12]) (rest := []) (L := lv_args 0 [.ref 164, .int 12]) (am_cur_of (i := (50, 3, .invokevirtual 306, (174, 1727, 3), 0)) (by decide +kernel)) rfl rfl rfl rfl hm_z
    obtain ⟨r6448_z, h6449_z, q6450_z, hm_z⟩ := hm_z
    obtain ⟨rfl, yq6450_z⟩ := rp_kyN (fun q => absurd (Eq.trans (Eq.symm kc) q.1) (by decide)) q6450_z
    subst yq6450_z
    replace hm_z : rn _ _ _ _ [.int 0] _ _ _ := hm_z
    replace hm_z := rn_ifT (am_cur_of (i := (53, 3, .ifCond .eq 7, (32, 0, 0), 0)) (by decide +kernel)) (by decide) hm_z
    replace hm_z := rn_aload_n (am_cur_of (i := (60, 1, .aload_n 0, (0, 0, 0), 0)) (by decide +kernel)) g0m hm_z
    replace hm_z := rn_bipush (w := 13) (am_cur_of (i := (61, 2, .bipush 13, (0, 0, 0), 0)) (by decide +kernel)) (by decide) hm_z
    replace hm_z := rn_callV (M' := am_m174) (o := 164) (ar := [.int 13]) (rest := []) (L := lv_args 0 [.ref 164, .int 13]) (am_cur_of (i := (63, 3, .invokevirtual 306, (174, 1727, 3), 0)) (by decide +kernel)) rfl rfl rfl rfl hm_z
    obtain ⟨r6451_z, h6452_z, q6453_z, hm_z⟩ := hm_z
    obtain ⟨rfl, yq6453_z⟩ := rp_kyN (fun q => absurd (Eq.trans (Eq.symm kc) q.1) (by decide)) q6453_z
    subst yq6453_z
    replace hm_z : rn _ _ _ _ [.int 0] _ _ _ := hm_z
    replace hm_z := rn_ifT (am_cur_of (i := (66, 3, .ifCond .eq 7, (38, 0, 0), 0)) (by decide +kernel)) (by decide) hm_z
    replace hm_z := rn_aload_n (am_cur_of (i := (73, 1, .aload_n 0, (0, 0, 0), 0)) (by decide +kernel)) g0m hm_z
    replace hm_z := rn_getI (v := 4) (am_cur_of (i := (74, 3, .getfield 157, (12, 8, 1392), 0)) (by decide +kernel)) (by decide +kernel) kc hm_z
    replace hm_z := rn_iconst (w := 5) (am_cur_of (i := (77, 1, .iconst 5, (0, 0, 0), 0)) (by decide +kernel)) (by decide) hm_z
    replace hm_z := rn_cmpT (am_cur_of (i := (78, 3, .if_icmp .ne 12, (47, 0, 0), 0)) (by decide +kernel)) (by decide) hm_z
    replace hm_z := rn_aload_n (am_cur_of (i := (90, 1, .aload_n 0, (0, 0, 0), 0)) (by decide +kernel)) g0m hm_z
    replace hm_z := rn_bipush (w := 43) (am_cur_of (i := (91, 2, .bipush 43, (0, 0, 0), 0)) (by decide +kernel)) (by decide) hm_z
    replace hm_z := rn_callV (M' := am_m171) (o := 164) (ar := [.int 43]) (rest := []) (L := lv_args 0 [.ref 164, .int 43]) (am_cur_of (i := (93, 3, .invokevirtual 194, (171, 1715, 3), 0)) (by decide +kernel)) rfl rfl rfl rfl hm_z
    obtain ⟨r6454_z, h6455_z, q6456_z, hm_z⟩ := hm_z
    obtain ⟨rfl, yq6456_z⟩ := rp_sgN (fun q => absurd (Eq.trans (Eq.symm kd) q.2) (by decide)) q6456_z
    subst yq6456_z
    replace hm_z : rn _ _ _ _ [.int 0] _ _ _ := hm_z
    replace hm_z := rn_ifT (am_cur_of (i := (96, 3, .ifCond .eq 8, (53, 0, 0), 0)) (by decide +kernel)) (by decide) hm_z
    replace hm_z := rn_aload_n (am_cur_of (i := (104, 1, .aload_n 0, (0, 0, 0), 0)) (by decide +kernel)) g0m hm_z
    replace hm_z := rn_bipush (w := 45) (am_cur_of (i := (105, 2, .bipush 45, (0, 0, 0), 0)) (by decide +kernel)) (by decide) hm_z
    replace hm_z := rn_callV (M' := am_m171) (o := 164) (ar := [.int 45]) (rest := []) (L := lv_args 0 [.ref 164, .int 45]) (am_cur_of (i := (107, 3, .invokevirtual 194, (171, 1715, 3), 0)) (by decide +kernel)) rfl rfl rfl rfl hm_z
    obtain ⟨r6457_z, h6458_z, q6459_z, hm_z⟩ := hm_z
    obtain ⟨rfl, yq6459_z⟩ := rp_sgN (fun q => absurd (Eq.trans (Eq.symm kd) q.2) (by decide)) q6459_z
    subst yq6459_z
    replace hm_z : rn _ _ _ _ [.int 0] _ _ _ := hm_z
    replace hm_z := rn_ifT (am_cur_of (i := (110, 3, .ifCond .eq 8, (59, 0, 0), 0)) (by decide +kernel)) (by decide) hm_z
    replace hm_z := rn_aload_n (am_cur_of (i := (118, 1, .aload_n 0, (0, 0, 0), 0)) (by decide +kernel)) g0m hm_z
    replace hm_z := rn_bipush (w := 42) (am_cur_of (i := (119, 2, .bipush 42, (0, 0, 0), 0)) (by decide +kernel)) (by decide) hm_z
    replace hm_z := rn_callV (M' := am_m171) (o := 164) (ar := [.int 42]) (rest := []) (L := lv_args 0 [.ref 164, .int 42]) (am_cur_of (i := (121, 3, .invokevirtual 194, (171, 1715, 3), 0)) (by decide +kernel)) rfl rfl rfl rfl hm_z
    obtain ⟨r6460_z, h6461_z, q6462_z, hm_z⟩ := hm_z
    obtain ⟨rfl, yq6462_z⟩ := rp_sgN (fun q => absurd (Eq.trans (Eq.symm kd) q.2) (by decide)) q6462_z
    subst yq6462_z
    replace hm_z : rn _ _ _ _ [.int 0] _ _ _ := hm_z
    replace hm_z := rn_ifT (am_cur_of (i := (124, 3, .ifCond .eq 8, (65, 0, 0), 0)) (by decide +kernel)) (by decide) hm_z
    replace hm_z := rn_aload_n (am_cur_of (i := (132, 1, .aload_n 0, (0, 0, 0), 0)) (by decide +kernel)) g0m hm_z
    replace hm_z := rn_bipush (w := 47) (am_cur_of (i := (133, 2, .bipush 47, (0, 0, 0), 0)) (by decide +kernel)) (by decide) hm_z
    replace hm_z := rn_callV (M' := am_m171) (o := 164) (ar := [.int 47]) (rest := []) (L := lv_args 0 [.ref 164, .int 47]) (am_cur_of (i := (135, 3, .invokevirtual 194, (171, 1715, 3), 0)) (by decide +kernel)) rfl rfl rfl rfl hm_z
    obtain ⟨r6463_z, h6464_z, q6465_z, hm_z⟩ := hm_z
    obtain ⟨rfl, yq6465_z⟩ := rp_sgN (fun q => absurd (Eq.trans (Eq.symm kd) q.2) (by decide)) q6465_z
    subst yq6465_z
    replace hm_z : rn _ _ _ _ [.int 0] _ _ _ := hm_z
    replace hm_z := rn_ifT (am_cur_of (i := (138, 3, .ifCond .eq 8, (71, 0, 0), 0)) (by decide +kernel)) (by decide) hm_z
    replace hm_z := rn_iconst (w := 0) (am_cur_of (i := (146, 1, .iconst 0, (0, 0, 0), 0)) (by decide +kernel)) (by decide) hm_z
    replace hm_z := rn_istore_n (am_cur_of (i := (147, 1, .istore_n 1, (0, 0, 0), 0)) (by decide +kernel)) hm_z
    obtain ⟨_, s6466_z, s6467_z, g1m, hm_z⟩ := hm_z
    replace g0m := s6466_z 0 _ (by decide) rfl g0m
    clear s6466_z s6467_z
    replace hm_z := rn_iload_n (am_cur_of (i := (148, 1, .iload_n 1, (0, 0, 0), 0)) (by decide +kernel)) g1m hm_z
    replace hm_z := rn_ifF (am_cur_of (i := (149, 3, .ifCond .ne 9, (79, 0, 0), 0)) (by decide +kernel)) (by decide) hm_z
    replace hm_z := rn_aload_n (am_cur_of (i := (152, 1, .aload_n 0, (0, 0, 0), 0)) (by decide +kernel)) g0m hm_z
    replace hm_z := rn_iconst (w := 1) (am_cur_of (i := (153, 1, .iconst 1, (0, 0, 0), 0)) (by decide +kernel)) (by decide) hm_z
    replace hm_z := rn_callV (M' := am_m158) (o := 164) (ar := [.int 1]) (rest := []) (L := lv_args 0 [.ref 164, .int 1]) (am_cur_of (i := (154, 3, .invokevirtual 181, (158, 1665, 3), 0)) (by decide +kernel)) rfl rfl rfl rfl hm_z
    obtain ⟨r6468_z, h6469_z, q6470_z, hm_z⟩ := hm_z
    obtain ⟨rfl, yq6470_z⟩ := rp_wrong q6470_z
    subst yq6470_z
    replace hm_z : rn _ _ _ _ [.int 0] _ _ _ := hm_z
    replace hm_z := rn_iret (am_cur_of (i := (157, 1, .ireturn, (0, 0, 0), 0)) (by decide +kernel)) hm_z
    obtain ⟨e6471_z, e6472_z⟩ := hm_z
    subst e6444_z e6472_z
    exact Or.inr ⟨e6443_z, rfl, z4_z.trans (rt_i32 (by rw [show (0 : Int32).toInt = 0 by decide]; omega)), e6471_z, rfl⟩
  · replace b6442_z : (0 : Int32).toInt < op.toInt := b6442_z
    replace hc_z := rn_aload_n (am_cur_of (i := (75, 1, .aload_n 0, (0, 0, 0), 0)) (by decide +kernel)) g0_z hc_z
    replace hc_z := rn_iconst (w := 1) (am_cur_of (i := (76, 1, .iconst 1, (0, 0, 0), 0)) (by decide +kernel)) (by decide) hc_z
    replace hc_z := rn_callV (M' := am_m29) (o := 44) (ar := [.int 1]) (rest := []) (L := lv_args 0 [.ref 44, .int 1]) (am_cur_of (i := (77, 3, .invokevirtual 108, (29, 769, 3), 0)) (by decide +kernel)) rfl rfl rfl rfl hc_z
    obtain ⟨r6473_z, h6474_z, q6475_z, hc_z⟩ := hc_z
    obtain ⟨rfl, yq6475_z⟩ := rp_fail R4 q6475_z
    subst yq6475_z
    replace hc_z : rn _ _ _ _ [] _ _ _ := hc_z
    have K := rs_stick (w := 1) (q := p) (a := 44) (by decide) (by decide) rfl (by decide) rfl (show rg_v (am_up (am_up h 44 1 (.int 1)) 44 2 (.int (rg_v h 44 9))) 44 2 = p from R5) hc_z
    replace hm_z := rn_aload_n (am_cur_of (i := (0, 1, .aload_n 0, (0, 0, 0), 0)) (by decide +kernel)) g0m hm_z
    replace hm_z := rn_bipush (w := 41) (am_cur_of (i := (1, 2, .bipush 41, (0, 0, 0), 0)) (by decide +kernel)) (by decide) hm_z
    replace hm_z := rn_callV (M' := am_m171) (o := 164) (ar := [.int 41]) (rest := []) (L := lv_args 0 [.ref 164, .int 41]) (am_cur_of (i := (3, 3, .invokevirtual 194, (171, 1715, 3), 0)) (by decide +kernel)) rfl rfl rfl rfl hm_z
    obtain ⟨r6476_z, h6477_z, q6478_z, hm_z⟩ := hm_z
    obtain ⟨rfl, yq6478_z⟩ := rp_sgN (fun q => absurd (Eq.trans (Eq.symm kd) q.2) (by decide)) q6478_z
    subst yq6478_z
    replace hm_z : rn _ _ _ _ [.int 0] _ _ _ := hm_z
    replace hm_z := rn_ifT (am_cur_of (i := (6, 3, .ifCond .eq 41, (26, 0, 0), 0)) (by decide +kernel)) (by decide) hm_z
    replace hm_z := rn_aload_n (am_cur_of (i := (47, 1, .aload_n 0, (0, 0, 0), 0)) (by decide +kernel)) g0m hm_z
    replace hm_z := rn_bipush (w := 12) (am_cur_of (i := (48, 2, .bipush 12, (0, 0, 0), 0)) (by decide +kernel)) (by decide) hm_z
    replace hm_z := rn_callV (M' := am_m174) (o := 164) (ar := [.int 12]) (rest := []) (L := lv_args 0 [.ref 164, .int 12]) (am_cur_of (i := (50, 3, .invokevirtual 306, (174, 1727, 3), 0)) (by decide +kernel)) rfl rfl rfl rfl hm_z
    obtain ⟨r6479_z, h6480_z, q6481_z, hm_z⟩ := hm_z
    obtain ⟨rfl, yq6481_z⟩ := rp_kyN (fun q => absurd (Eq.trans (Eq.symm kc) q.1) (by decide)) q6481_z
    subst yq6481_z
    replace hm_z : rn _ _ _ _ [.int 0] _ _ _ := hm_z
    replace hm_z := rn_ifT (am_cur_of (i := (53, 3, .ifCond .eq 7, (32, 0, 0), 0)) (by decide +kernel)) (by decide) hm_z
    replace hm_z := rn_aload_n (am_cur_of (i := (60, 1, .aload_n 0, (0, 0, 0), 0)) (by decide +kernel)) g0m hm_z
    replace hm_z := rn_bipush (w := 13) (am_cur_of (i := (61, 2, .bipush 13, (0, 0, 0), 0)) (by decide +kernel)) (by decide) hm_z
    replace hm_z := rn_callV (M' := am_m174) (o := 164) (ar := [.int 13]) (rest := []) (L := lv_args 0 [.ref 164, .int 13]) (am_cur_of (i := (63, 3, .invokevirtual 306, (174, 1727, 3), 0)) (by decide +kernel)) rfl rfl rfl rfl hm_z
    obtain ⟨r6482_z, h6483_z, q6484_z, hm_z⟩ := hm_z
    obtain ⟨rfl, yq6484_z⟩ := rp_kyN (fun q => absurd (Eq.trans (Eq.symm kc) q.1) (by decide)) q6484_z
    subst yq6484_z
    replace hm_z : rn _ _ _ _ [.int 0] _ _ _ := hm_z
    replace hm_z := rn_ifT (am_cur_of (i := (66, 3, .ifCond .eq 7, (38, 0, 0), 0)) (by decide +kernel)) (by decide) hm_z
    replace hm_z := rn_aload_n (am_cur_of (i := (73, 1, .aload_n 0, (0, 0, 0), 0)) (by decide +kernel)) g0m hm_z
    replace hm_z := rn_getI (v := 4) (am_cur_of (i := (74, 3, .getfield 157, (12, 8, 1392), 0)) (by decide +kernel)) (by decide +kernel) kc hm_z
    replace hm_z := rn_iconst (w := 5) (am_cur_of (i := (77, 1, .iconst 5, (0, 0, 0), 0)) (by decide +kernel)) (by decide) hm_z
    replace hm_z := rn_cmpT (am_cur_of (i := (78, 3, .if_icmp .ne 12, (47, 0, 0), 0)) (by decide +kernel)) (by decide) hm_z
    replace hm_z := rn_aload_n (am_cur_of (i := (90, 1, .aload_n 0, (0, 0, 0), 0)) (by decide +kernel)) g0m hm_z
    replace hm_z := rn_bipush (w := 43) (am_cur_of (i := (91, 2, .bipush 43, (0, 0, 0), 0)) (by decide +kernel)) (by decide) hm_z
    replace hm_z := rn_callV (M' := am_m171) (o := 164) (ar := [.int 43]) (rest := []) (L := lv_args 0 [.ref 164, .int 43]) (am_cur_of (i := (93, 3, .invokevirtual 194, (171, 1715, 3), 0)) (by decide +kernel)) rfl rfl rfl rfl hm_z
    obtain ⟨r6485_z, h6486_z, q6487_z, hm_z⟩ := hm_z
    obtain ⟨rfl, yq6487_z⟩ := rp_sgN (fun q => absurd (Eq.trans (Eq.symm kd) q.2) (by decide)) q6487_z
    subst yq6487_z
    replace hm_z : rn _ _ _ _ [.int 0] _ _ _ := hm_z
    replace hm_z := rn_ifT (am_cur_of (i := (96, 3, .ifCond .eq 8, (53, 0, 0), 0)) (by decide +kernel)) (by decide) hm_z
    replace hm_z := rn_aload_n (am_cur_of (i := (104, 1, .aload_n 0, (0, 0, 0), 0)) (by decide +kernel)) g0m hm_z
    replace hm_z := rn_bipush (w := 45) (am_cur_of (i := (105, 2, .bipush 45, (0, 0, 0), 0)) (by decide +kernel)) (by decide) hm_z
    replace hm_z := rn_callV (M' := am_m171) (o := 164) (ar := [.int 45]) (rest := []) (L := lv_args 0 [.ref 164, .int 45]) (am_cur_of (i := (107, 3, .invokevirtual 194, (171, 1715, 3), 0)) (by decide +kernel)) rfl rfl rfl rfl hm_z
    obtain ⟨r6488_z, h6489_z, q6490_z, hm_z⟩ := hm_z
    obtain ⟨rfl, yq6490_z⟩ := rp_sgN (fun q => absurd (Eq.trans (Eq.symm kd) q.2) (by decide)) q6490_z
    subst yq6490_z
    replace hm_z : rn _ _ _ _ [.int 0] _ _ _ := hm_z
    replace hm_z := rn_ifT (am_cur_of (i := (110, 3, .ifCond .eq 8, (59, 0, 0), 0)) (by decide +kernel)) (by decide) hm_z
    replace hm_z := rn_aload_n (am_cur_of (i := (118, 1, .aload_n 0, (0, 0, 0), 0)) (by decide +kernel)) g0m hm_z
    replace hm_z := rn_bipush (w := 42) (am_cur_of (i := (119, 2, .bipush 42, (0, 0, 0), 0)) (by decide +kernel)) (by decide) hm_z
    replace hm_z := rn_callV (M' := am_m171) (o := 164) (ar := [.int 42]) (rest := []) (L := lv_args 0 [.ref 164, .int 42]) (am_cur_of (i := (121, 3, .invokevirtual 194, (171, 1715, 3), 0)) (by decide +kernel)) rfl rfl rfl rfl hm_z
    obtain ⟨r6491_z, h6492_z, q6493_z, hm_z⟩ := hm_z
    obtain ⟨rfl, yq6493_z⟩ := rp_sgN (fun q => absurd (Eq.trans (Eq.symm kd) q.2) (by decide)) q6493_z
    subst yq6493_z
    replace hm_z : rn _ _ _ _ [.int 0] _ _ _ := hm_z
    replace hm_z := rn_ifT (am_cur_of (i := (124, 3, .ifCond .eq 8, (65, 0, 0), 0)) (by decide +kernel)) (by decide) hm_z
    replace hm_z := rn_aload_n (am_cur_of (i := (132, 1, .aload_n 0, (0, 0, 0), 0)) (by decide +kernel)) g0m hm_z
    replace hm_z := rn_bipush (w := 47) (am_cur_of (i := (133, 2, .bipush 47, (0, 0, 0), 0)) (by decide +kernel)) (by decide) hm_z
    replace hm_z := rn_callV (M' := am_m171) (o := 164) (ar := [.int 47]) (rest := []) (L := lv_args 0 [.ref 164, .int 47]) (am_cur_of (i := (135, 3, .invokevirtual 194, (171, 1715, 3), 0)) (by decide +kernel)) rfl rfl rfl rfl hm_z
    obtain ⟨r6494_z, h6495_z, q6496_z, hm_z⟩ := hm_z
    obtain ⟨rfl, yq6496_z⟩ := rp_sgN (fun q => absurd (Eq.trans (Eq.symm kd) q.2) (by decide)) q6496_z
    subst yq6496_z
    replace hm_z : rn _ _ _ _ [.int 0] _ _ _ := hm_z
    replace hm_z := rn_ifT (am_cur_of (i := (138, 3, .ifCond .eq 8, (71, 0, 0), 0)) (by decide +kernel)) (by decide) hm_z
    replace hm_z := rn_iconst (w := 0) (am_cur_of (i := (146, 1, .iconst 0, (0, 0, 0), 0)) (by decide +kernel)) (by decide) hm_z
    replace hm_z := rn_istore_n (am_cur_of (i := (147, 1, .istore_n 1, (0, 0, 0), 0)) (by decide +kernel)) hm_z
    obtain ⟨_, s6497_z, s6498_z, g1m, hm_z⟩ := hm_z
    replace g0m := s6497_z 0 _ (by decide) rfl g0m
    clear s6497_z s6498_z
    replace hm_z := rn_iload_n (am_cur_of (i := (148, 1, .iload_n 1, (0, 0, 0), 0)) (by decide +kernel)) g1m hm_z
    replace hm_z := rn_ifF (am_cur_of (i := (149, 3, .ifCond .ne 9, (79, 0, 0), 0)) (by decide +kernel)) (by decide) hm_z
    replace hm_z := rn_aload_n (am_cur_of (i := (152, 1, .aload_n 0, (0, 0, 0), 0)) (by decide +kernel)) g0m hm_z
    replace hm_z := rn_iconst (w := 1) (am_cur_of (i := (153, 1, .iconst 1, (0, 0, 0), 0)) (by decide +kernel)) (by decide) hm_z
    replace hm_z := rn_callV (M' := am_m158) (o := 164) (ar := [.int 1]) (rest := []) (L := lv_args 0 [.ref 164, .int 1]) (am_cur_of (i := (154, 3, .invokevirtual 181, (158, 1665, 3), 0)) (by decide +kernel)) rfl rfl rfl rfl hm_z
    obtain ⟨r6499_z, h6500_z, q6501_z, hm_z⟩ := hm_z
    obtain ⟨rfl, yq6501_z⟩ := rp_wrong q6501_z
    subst yq6501_z
    replace hm_z : rn _ _ _ _ [.int 0] _ _ _ := hm_z
    replace hm_z := rn_iret (am_cur_of (i := (157, 1, .ireturn, (0, 0, 0), 0)) (by decide +kernel)) hm_z
    obtain ⟨e6502_z, e6503_z⟩ := hm_z
    subst e6502_z e6503_z
    exact Or.inl (Or.inr ⟨rfl, 1, by decide, K.1, K.2, rfl, R6⟩)
theorem rj_c14_23 {T : Nat → Int32} {S x p : Int32} {n n' : Nat} {h h' g g' : am_H} {r r' : Option Value} (R : rq T S x p 23 h g) (A : rp 23 h g) (B : rp_t h g) (Z : rs 23 h g) (w0_z : rg_v g 164 45 = 0) (ka : (rg_v h 44 10) = 5) (kc : (rg_v g 164 8) = 4) (kb : (rg_v h 44 11) = 41) (kd : (rg_v g 164 9) = 41) (hc_z : rn n am_m44 0 (lv_args 0 [.ref 44]) [] h r h') (hm_z : rn n' am_m178 0 (lv_args 0 [.ref 164]) [] g r' g') : rj_Q T S x p 23 h g h' g' r r' := by
  have z0_z : (0 : Int32).toInt = 0 := by decide
  have g0_z : am_get (lv_args 0 [.ref 44]) 0 = some (.ref 44) := rfl
  have g0m : am_get (lv_args 0 [.ref 164]) 0 = some (.ref 164) := rfl
  have Rk := R
  have Zk := Z
  obtain ⟨⟨c1_z, c2_z, c3_z, c4_z, c5_z, c6_z, c7_z, c8_z⟩, ⟨m2_z, m3_z, m4_z, m5_z, m6_z, m7_z, m8_z⟩, R3, R4, R5, R6, R7, R8, R9, R10⟩ := (R : rq T S x p 23 h g)
  obtain ⟨np, op, z1_z, z2_z, z3_z, z4_z, z5_z, z6_z, z7_z, z8_z, z9_z, z10_z⟩ := (Z : rs 23 h g)
  obtain ⟨nk1_z, nk2_z, nk3_z⟩ := A.2.2.2.2.2.1
  replace nk1_z : rg_v h 32 0 = rg_v g 164 44 := nk1_z
  replace nk2_z : 0 ≤ (rg_v h 32 0).toInt := nk2_z
  replace nk3_z : (rg_v h 32 0).toInt ≤ 64 := nk3_z
  replace z8_z : np.toInt ≤ (rg_v h 32 0).toInt + op.toInt := z8_z
  obtain ⟨kn, ekn⟩ : ∃ v, rg_v h 32 0 = v := ⟨_, rfl⟩
  rw [ekn] at nk1_z nk2_z nk3_z z8_z
  have e9_z := rt_c1 (x := kn) (by omega) (by omega)
  replace hc_z := rn_aload_n (am_cur_of (i := (0, 1, .aload_n 0, (0, 0, 0), 0)) (by decide +kernel)) g0_z hc_z
  replace hc_z := rn_bipush (w := 41) (am_cur_of (i := (1, 2, .bipush 41, (0, 0, 0), 0)) (by decide +kernel)) (by decide) hc_z
  replace hc_z := rn_callV (M' := am_m45) (o := 44) (ar := [.int 41]) (rest := []) (L := lv_args 0 [.ref 44, .int 41]) (am_cur_of (i := (3, 3, .invokevirtual 105, (45, 834, 3), 0)) (by decide +kernel)) rfl rfl rfl rfl hc_z
  obtain ⟨r6504_z, h6505_z, q6506_z, hc_z⟩ := hc_z
  obtain ⟨rfl, yq6506_z⟩ := rp_mkT ka kb q6506_z
  subst yq6506_z
  replace hc_z : rn _ _ _ _ [.int 1] _ _ _ := hc_z
  replace hc_z := rn_ifF (am_cur_of (i := (6, 3, .ifCond .eq 45, (28, 0, 0), 0)) (by decide +kernel)) (by decide) hc_z
  replace hc_z := rn_aload_n (am_cur_of (i := (9, 1, .aload_n 0, (0, 0, 0), 0)) (by decide +kernel)) g0_z hc_z
  replace hc_z := rn_getI (v := op) (am_cur_of (i := (10, 3, .getfield 254, (4, 14, 423), 0)) (by decide +kernel)) (by decide +kernel) z4_z hc_z
  replace hc_z := rn_if (am_cur_of (i := (13, 3, .ifCond .le 38, (28, 0, 0), 0)) (by decide +kernel)) hc_z
  rcases hc_z with ⟨b6507_z, hc_z⟩ | ⟨b6507_z, hc_z⟩
  · replace b6507_z : op.toInt ≤ (0 : Int32).toInt := b6507_z
    replace hc_z := rn_aload_n (am_cur_of (i := (51, 1, .aload_n 0, (0, 0, 0), 0)) (by decide +kernel)) g0_z hc_z
    replace hc_z := rn_getI (v := 5) (am_cur_of (i := (52, 3, .getfield 60, (4, 10, 419), 0)) (by decide +kernel)) (by decide +kernel) ka hc_z
    replace hc_z := rn_bipush (w := 6) (am_cur_of (i := (55, 2, .bipush 6, (0, 0, 0), 0)) (by decide +kernel)) (by decide) hc_z
    replace hc_z := rn_cmpT (am_cur_of (i := (57, 3, .if_icmp .ne 11, (36, 0, 0), 0)) (by decide +kernel)) (by decide) hc_z
    replace hc_z := rn_aload_n (am_cur_of (i := (68, 1, .aload_n 0, (0, 0, 0), 0)) (by decide +kernel)) g0_z hc_z
    replace hc_z := rn_getI (v := op) (am_cur_of (i := (69, 3, .getfield 254, (4, 14, 423), 0)) (by decide +kernel)) (by decide +kernel) z4_z hc_z
    replace hc_z := rn_if (am_cur_of (i := (72, 3, .ifCond .le 8, (42, 0, 0), 0)) (by decide +kernel)) hc_z
    rcases hc_z with ⟨b6508_z, hc_z⟩ | ⟨b6508_z, hc_z⟩
    · replace b6508_z : op.toInt ≤ (0 : Int32).toInt := b6508_z
      replace hc_z := rn_iconst (w := 3) (am_cur_of (i := (80, 1, .iconst 3, (0, 0, 0), 0)) (by decide +kernel)) (by decide) hc_z
      replace hc_z := rn_iret (am_cur_of (i := (81, 1, .ireturn, (0, 0, 0), 0)) (by decide +kernel)) hc_z
      obtain ⟨e6509_z, e6510_z⟩ := hc_z
      replace hm_z := rn_aload_n (am_cur_of (i := (0, 1, .aload_n 0, (0, 0, 0), 0)) (by decide +kernel)) g0m hm_z
      replace hm_z := rn_bipush (w := 41) (am_cur_of (i := (1, 2, .bipush 41, (0, 0, 0), 0)) (by decide +kernel)) (by decide) hm_z
      replace hm_z := rn_callV (M' := am_m171) (o := 164) (ar := [.int 41]) (rest := []) (L := lv_args 0 [.ref 164, .int 41]) (am_cur_of (i := (3, 3, .invokevirtual 194, (171, 1715, 3), 0)) (by decide +kernel)) rfl rfl rfl rfl hm_z
      obtain ⟨r6511_z, h6512_z, q6513_z, hm_z⟩ := hm_z
      obtain ⟨rfl, yq6513_z⟩ := rp_sgT kc kd q6513_z
      subst yq6513_z
      replace hm_z : rn _ _ _ _ [.int 1] _ _ _ := hm_z
      replace hm_z := rn_ifF (am_cur_of (i := (6, 3, .ifCond .eq 41, (26, 0, 0), 0)) (by decide +kernel)) (by decide) hm_z
      replace hm_z := rn_aload_n (am_cur_of (i := (9, 1, .aload_n 0, (0, 0, 0), 0)) (by decide +kernel)) g0m hm_z
      replace hm_z := rn_getI (v := op) (am_cur_of (i := (10, 3, .getfield 295, (12, 43, 1427), 0)) (by decide +kernel)) (by decide +kernel) z5_z hm_z
      replace hm_z := rn_if (am_cur_of (i := (13, 3, .ifCond .le 34, (26, 0, 0), 0)) (by decide +kernel)) hm_z
      rcases hm_z with ⟨b6514_z, hm_z⟩ | ⟨b6514_z, hm_z⟩
      · replace b6514_z : op.toInt ≤ (0 : Int32).toInt := b6514_z
        replace hm_z := rn_aload_n (am_cur_of (i := (47, 1, .aload_n 0, (0, 0, 0), 0)) (by decide +kernel)) g0m hm_z
        replace hm_z := rn_bipush (w := 12) (am_cur_of (i := (48, 2, .bipush 12, (0, 0, 0), 0)) (by decide +kernel)) (by decide) hm_z
        replace hm_z := rn_callV (M' := am_m174) (o := 164) (ar := [.int 12]) (rest := []) (L := lv_args 0 [.ref 164, .int 12]) (am_cur_of (i := (50, 3, .invokevirtual 306, (174, 1727, 3), 0)) (by decide +kernel)) rfl rfl rfl rfl hm_z
        obtain ⟨r6515_z, h6516_z, q6517_z, hm_z⟩ := hm_z
        obtain ⟨rfl, yq6517_z⟩ := rp_kyN (fun q => absurd (Eq.trans (Eq.symm kc) q.1) (by decide)) q6517_z
        subst yq6517_z
        replace hm_z : rn _ _ _ _ [.int 0] _ _ _ := hm_z
        replace hm_z := rn_ifT (am_cur_of (i := (53, 3, .ifCond .eq 7, (32, 0, 0), 0)) (by decide +kernel)) (by decide) hm_z
        replace hm_z := rn_aload_n (am_cur_of (i := (60, 1, .aload_n 0, (0, 0, 0), 0)) (by decide +kernel)) g0m hm_z
        replace hm_z := rn_bipush (w := 13) (am_cur_of (i := (61, 2, .bipush 13, (0, 0, 0), 0)) (by decide +kernel)) (by decide) hm_z
        replace hm_z := rn_callV (M' := am_m174) (o := 164) (ar := [.int 13]) (rest := []) (L := lv_args 0 [.ref 164, .int 13]) (am_cur_of (i := (63, 3, .invokevirtual 306, (174, 1727, 3), 0)) (by decide +kernel)) rfl rfl rfl rfl hm_z
        obtain ⟨r6518_z, h6519_z, q6520_z, hm_z⟩ := hm_z
        obtain ⟨rfl, yq6520_z⟩ := rp_kyN (fun q => absurd (Eq.trans (Eq.symm kc) q.1) (by decide)) q6520_z
        subst yq6520_z
        replace hm_z : rn _ _ _ _ [.int 0] _ _ _ := hm_z
        replace hm_z := rn_ifT (am_cur_of (i := (66, 3, .ifCond .eq 7, (38, 0, 0), 0)) (by decide +kernel)) (by decide) hm_z
        replace hm_z := rn_aload_n (am_cur_of (i := (73, 1, .aload_n 0, (0, 0, 0), 0)) (by decide +kernel)) g0m hm_z
        replace hm_z := rn_getI (v := 4) (am_cur_of (i := (74, 3, .getfield 157, (12, 8, 1392), 0)) (by decide +kernel)) (by decide +kernel) kc hm_z
        replace hm_z := rn_iconst (w := 5) (am_cur_of (i := (77, 1, .iconst 5, (0, 0, 0), 0)) (by decide +kernel)) (by decide) hm_z
        replace hm_z := rn_cmpT (am_cur_of (i := (78, 3, .if_icmp .ne 12, (47, 0, 0), 0)) (by decide +kernel)) (by decide) hm_z
        replace hm_z := rn_aload_n (am_cur_of (i := (90, 1, .aload_n 0, (0, 0, 0), 0)) (by decide +kernel)) g0m hm_z
        replace hm_z := rn_bipush (w := 43) (am_cur_of (i := (91, 2, .bipush 43, (0, 0, 0), 0)) (by decide +kernel)) (by decide) hm_z
        replace hm_z := rn_callV (M' := am_m171) (o := 164) (ar := [.int 43]) (rest := []) (L := lv_args 0 [.ref 164, .int 43]) (am_cur_of (i := (93, 3, .invokevirtual 194, (171, 1715, 3), 0)) (by decide +kernel)) rfl rfl rfl rfl hm_z
        obtain ⟨r6521_z, h6522_z, q6523_z, hm_z⟩ := hm_z
        obtain ⟨rfl, yq6523_z⟩ := rp_sgN (fun q => absurd (Eq.trans (Eq.symm kd) q.2) (by decide)) q6523_z
        subst yq6523_z
        replace hm_z : rn _ _ _ _ [.int 0] _ _ _ := hm_z
        replace hm_z := rn_ifT (am_cur_of (i := (96, 3, .ifCond .eq 8, (53, 0, 0), 0)) (by decide +kernel)) (by decide) hm_z
        replace hm_z := rn_aload_n (am_cur_of (i := (104, 1, .aload_n 0, (0, 0, 0), 0)) (by decide +kernel)) g0m hm_z
        replace hm_z := rn_bipush (w := 45) (am_cur_of (i := (105, 2, .bipush 45, (0, 0, 0), 0)) (by decide +kernel)) (by decide) hm_z
        replace hm_z := rn_callV (M' := am_m171) (o := 164) (ar := [.int 45]) (rest := []) (L := lv_args 0 [.ref 164, .int 45]) (am_cur_of (i := (107, 3, .invokevirtual 194, (171, 1715, 3), 0)) (by decide +kernel)) rfl rfl rfl rfl hm_z
        obtain ⟨r6524_z, h6525_z, q6526_z, hm_z⟩ := hm_z
        obtain ⟨rfl, yq6526_z⟩ := rp_sgN (fun q => absurd (Eq.trans (Eq.symm kd) q.2) (by decide)) q6526_z
        subst yq6526_z
        replace hm_z : rn _ _ _ _ [.int 0] _ _ _ := hm_z
        replace hm_z := rn_ifT (am_cur_of (i := (110, 3, .ifCond .eq 8, (59, 0, 0), 0)) (by decide +kernel)) (by decide) hm_z
        replace hm_z := rn_aload_n (am_cur_of (i := (118, 1, .aload_n 0, (0, 0, 0), 0)) (by decide +kernel)) g0m hm_z
        replace hm_z := rn_bipush (w := 42) (am_cur_of (i := (119, 2, .bipush 42, (0, 0, 0), 0)) (by decide +kernel)) (by decide) hm_z
        replace hm_z := rn_callV (M' := am_m171) (o := 164) (ar := [.int 42]) (rest := []) (L := lv_args 0 [.ref 164, .int 42]) (am_cur_of (i := (121, 3, .invokevirtual 194, (171, 1715, 3), 0)) (by decide +kernel)) rfl rfl rfl rfl hm_z
        obtain ⟨r6527_z, h6528_z, q6529_z, hm_z⟩ := hm_z
        obtain ⟨rfl, yq6529_z⟩ := rp_sgN (fun q => absurd (Eq.trans (Eq.symm kd) q.2) (by decide)) q6529_z
        subst yq6529_z
        replace hm_z : rn _ _ _ _ [.int 0] _ _ _ := hm_z
        replace hm_z := rn_ifT (am_cur_of (i := (124, 3, .ifCond .eq 8, (65, 0, 0), 0)) (by decide +kernel)) (by decide) hm_z
        replace hm_z := rn_aload_n (am_cur_of (i := (132, 1, .aload_n 0, (0, 0, 0), 0)) (by decide +kernel)) g0m hm_z
        replace hm_z := rn_bipush (w := 47) (am_cur_of (i := (133, 2, .bipush 47, (0, 0, 0), 0)) (by decide +kernel)) (by decide) hm_z
        replace hm_z := rn_callV (M' := am_m171) (o := 164) (ar := [.int 47]) (rest := []) (L := lv_args 0 [.ref 164, .int 47]) (am_cur_of (i := (135, 3, .invokevirtual 194, (171, 1715, 3), 0)) (by decide +kernel)) rfl rfl rfl rfl hm_z
        obtain ⟨r6530_z, h6531_z, q6532_z, hm_z⟩ := hm_z
        obtain ⟨rfl, yq6532_z⟩ := rp_sgN (fun q => absurd (Eq.trans (Eq.symm kd) q.2) (by decide)) q6532_z
        subst yq6532_z
        replace hm_z : rn _ _ _ _ [.int 0] _ _ _ := hm_z
        replace hm_z := rn_ifT (am_cur_of (i := (138, 3, .ifCond .eq 8, (71, 0, 0), 0)) (by decide +kernel)) (by decide) hm_z
        replace hm_z := rn_iconst (w := 0) (am_cur_of (i := (146, 1, .iconst 0, (0, 0, 0), 0)) (by decide +kernel)) (by decide) hm_z
        replace hm_z := rn_istore_n (am_cur_of (i := (147, 1, .istore_n 1, (0, 0, 0), 0)) (by decide +kernel)) hm_z
        obtain ⟨_, s6533_z, s6534_z, g1m, hm_z⟩ := hm_z
        replace g0m := s6533_z 0 _ (by decide) rfl g0m
        clear s6533_z s6534_z
        replace hm_z := rn_iload_n (am_cur_of (i := (148, 1, .iload_n 1, (0, 0, 0), 0)) (by decide +kernel)) g1m hm_z
        replace hm_z := rn_ifF (am_cur_of (i := (149, 3, .ifCond .ne 9, (79, 0, 0), 0)) (by decide +kernel)) (by decide) hm_z
        replace hm_z := rn_aload_n (am_cur_of (i := (152, 1, .aload_n 0, (0, 0, 0), 0)) (by decide +kernel)) g0m hm_z
        replace hm_z := rn_iconst (w := 1) (am_cur_of (i := (153, 1, .iconst 1, (0, 0, 0), 0)) (by decide +kernel)) (by decide) hm_z
        replace hm_z := rn_callV (M' := am_m158) (o := 164) (ar := [.int 1]) (rest := []) (L := lv_args 0 [.ref 164, .int 1]) (am_cur_of (i := (154, 3, .invokevirtual 181, (158, 1665, 3), 0)) (by decide +kernel)) rfl rfl rfl rfl hm_z
        obtain ⟨r6535_z, h6536_z, q6537_z, hm_z⟩ := hm_z
        obtain ⟨rfl, yq6537_z⟩ := rp_wrong q6537_z
        subst yq6537_z
        replace hm_z : rn _ _ _ _ [.int 0] _ _ _ := hm_z
        replace hm_z := rn_iret (am_cur_of (i := (157, 1, .ireturn, (0, 0, 0), 0)) (by decide +kernel)) hm_z
        obtain ⟨e6538_z, e6539_z⟩ := hm_z
        subst e6510_z e6539_z
        exact Or.inr ⟨e6509_z, rfl, z4_z.trans (rt_i32 (by rw [show (0 : Int32).toInt = 0 by decide]; omega)), e6538_z, rfl⟩
      · replace b6514_z : (0 : Int32).toInt < op.toInt := b6514_z
        omega
    · replace b6508_z : (0 : Int32).toInt < op.toInt := b6508_z
      omega
  · replace b6507_z : (0 : Int32).toInt < op.toInt := b6507_z
    replace hc_z := rn_aload_n (am_cur_of (i := (16, 1, .aload_n 0, (0, 0, 0), 0)) (by decide +kernel)) g0_z hc_z
    replace hc_z := rn_iconst (w := 3) (am_cur_of (i := (17, 1, .iconst 3, (0, 0, 0), 0)) (by decide +kernel)) (by decide) hc_z
    replace hc_z := rn_callV (M' := am_m46) (o := 44) (ar := [.int 3]) (rest := []) (L := lv_args 0 [.ref 44, .int 3]) (am_cur_of (i := (18, 3, .invokevirtual 264, (46, 838, 3), 0)) (by decide +kernel)) rfl rfl rfl rfl hc_z
    obtain ⟨r6540_z, h6541_z, q6542_z, hc_z⟩ := hc_z
    replace hm_z := rn_aload_n (am_cur_of (i := (0, 1, .aload_n 0, (0, 0, 0), 0)) (by decide +kernel)) g0m hm_z
    replace hm_z := rn_bipush (w := 41) (am_cur_of (i := (1, 2, .bipush 41, (0, 0, 0), 0)) (by decide +kernel)) (by decide) hm_z
    replace hm_z := rn_callV (M' := am_m171) (o := 164) (ar := [.int 41]) (rest := []) (L := lv_args 0 [.ref 164, .int 41]) (am_cur_of (i := (3, 3, .invokevirtual 194, (171, 1715, 3), 0)) (by decide +kernel)) rfl rfl rfl rfl hm_z
    obtain ⟨r6543_z, h6544_z, q6545_z, hm_z⟩ := hm_z
    obtain ⟨rfl, yq6545_z⟩ := rp_sgT kc kd q6545_z
    subst yq6545_z
    replace hm_z : rn _ _ _ _ [.int 1] _ _ _ := hm_z
    replace hm_z := rn_ifF (am_cur_of (i := (6, 3, .ifCond .eq 41, (26, 0, 0), 0)) (by decide +kernel)) (by decide) hm_z
    replace hm_z := rn_aload_n (am_cur_of (i := (9, 1, .aload_n 0, (0, 0, 0), 0)) (by decide +kernel)) g0m hm_z
    replace hm_z := rn_getI (v := op) (am_cur_of (i := (10, 3, .getfield 295, (12, 43, 1427), 0)) (by decide +kernel)) (by decide +kernel) z5_z hm_z
    replace hm_z := rn_if (am_cur_of (i := (13, 3, .ifCond .le 34, (26, 0, 0), 0)) (by decide +kernel)) hm_z
    rcases hm_z with ⟨b6546_z, hm_z⟩ | ⟨b6546_z, hm_z⟩
    · replace b6546_z : op.toInt ≤ (0 : Int32).toInt := b6546_z
      omega
    · replace b6546_z : (0 : Int32).toInt < op.toInt := b6546_z
      replace hm_z := rn_aload_n (am_cur_of (i := (16, 1, .aload_n 0, (0, 0, 0), 0)) (by decide +kernel)) g0m hm_z
      replace hm_z := rn_iconst (w := 1) (am_cur_of (i := (17, 1, .iconst 1, (0, 0, 0), 0)) (by decide +kernel)) (by decide) hm_z
      replace hm_z := rn_callV (M' := am_m179) (o := 164) (ar := [.int 1]) (rest := []) (L := lv_args 0 [.ref 164, .int 1]) (am_cur_of (i := (18, 3, .invokevirtual 318, (179, 1747, 3), 0)) (by decide +kernel)) rfl rfl rfl rfl hm_z
      obtain ⟨r6547_z, h6548_z, q6549_z, hm_z⟩ := hm_z
      have oo : 1 ≤ (rg_v h 44 14).toInt := by rw [z4_z]; omega
      obtain ⟨rfl, rfl, FC, FM, R, A, B, Z, nq, e13_z, hst⟩ := rz_set23 rs_l3 (by decide) Rk A B Zk q6542_z q6549_z
      have Zq := Z
      obtain ⟨np, op, z1_z, z2_z, z3_z, z4_z, z5_z, z6_z, z7_z, z8_z, z9_z, z10_z⟩ := Zq
      obtain rfl : np = nq := z1_z.symm.trans e13_z
      replace hm_z : rn _ _ _ _ [] _ _ _ := hm_z
      replace hc_z : rn _ _ _ _ [] _ _ _ := hc_z
      have cn := rt_cl z3_z
      have o1_z : 1 ≤ op.toInt := by rw [← z4_z, rg_v_fr FC (by decide)]; exact oo
      have n1_z : 1 ≤ np.toInt := by
        by_cases q : np.toInt = 0
        · rw [show np.toNatClampNeg = 0 by omega] at z10_z
          have z11_z : ((0 : Nat) : Int) = op.toInt := z10_z
          omega
        · omega
      have top : rg_v h6548_z 184 (np.toNatClampNeg - 1) = 0 := by
        rcases hst with q | q
        · omega
        · exact rs_o2 (z9_z (np.toNatClampNeg - 1) (by omega)) q
      exact Or.inl (rj_p23 R A B Z ((rg_v_fr FM (by decide)).trans w0_z) z1_z n1_z top z4_z o1_z g0_z g0m hc_z hm_z)
theorem rj_c15_23 {T : Nat → Int32} {S x p : Int32} {n n' : Nat} {h h' g g' : am_H} {r r' : Option Value} (R : rq T S x p 23 h g) (A : rp 23 h g) (B : rp_t h g) (Z : rs 23 h g) (w0_z : rg_v g 164 45 = 0) (ka : (rg_v h 44 10) = 6) (kc : (rg_v g 164 8) = 1) (kb : (rg_v h 44 11) = 3) (kd : (rg_v g 164 9) = 13) (hc_z : rn n am_m44 0 (lv_args 0 [.ref 44]) [] h r h') (hm_z : rn n' am_m178 0 (lv_args 0 [.ref 164]) [] g r' g') : rj_Q T S x p 23 h g h' g' r r' := by
  have g0_z : am_get (lv_args 0 [.ref 44]) 0 = some (.ref 44) := rfl
  have g0m : am_get (lv_args 0 [.ref 164]) 0 = some (.ref 164) := rfl
  have Rk := R
  have Zk := Z
  obtain ⟨⟨c1_z, c2_z, c3_z, c4_z, c5_z, c6_z, c7_z, c8_z⟩, ⟨m2_z, m3_z, m4_z, m5_z, m6_z, m7_z, m8_z⟩, R3, R4, R5, R6, R7, R8, R9, R10⟩ := (R : rq T S x p 23 h g)
  obtain ⟨np, op, z1_z, z2_z, z3_z, z4_z, z5_z, z6_z, z7_z, z8_z, z9_z, z10_z⟩ := (Z : rs 23 h g)
  obtain ⟨nk1_z, nk2_z, nk3_z⟩ := A.2.2.2.2.2.1
  replace nk1_z : rg_v h 32 0 = rg_v g 164 44 := nk1_z
  replace nk2_z : 0 ≤ (rg_v h 32 0).toInt := nk2_z
  replace nk3_z : (rg_v h 32 0).toInt ≤ 64 := nk3_z
  replace z8_z : np.toInt ≤ (rg_v h 32 0).toInt + op.toInt := z8_z
  obtain ⟨kn, ekn⟩ : ∃ v, rg_v h 32 0 = v := ⟨_, rfl⟩
  rw [ekn] at nk1_z nk2_z nk3_z z8_z
  have e9_z := rt_c1 (x := kn) (by omega) (by omega)
  replace hc_z := rn_aload_n (am_cur_of (i := (0, 1, .aload_n 0, (0, 0, 0), 0)) (by decide +kernel)) g0_z hc_z
  replace hc_z := rn_bipush (w := 41) (am_cur_of (i := (1, 2, .bipush 41, (0, 0, 0), 0)) (by decide +kernel)) (by decide) hc_z
  replace hc_z := rn_callV (M' := am_m45) (o := 44) (ar := [.int 41]) (rest := []) (L := lv_args 0 [.ref 44, .int 41]) (am_cur_of (i := (3, 3, .invokevirtual 105, (45, 834, 3), 0)) (by decide +kernel)) rfl rfl rfl rfl hc_z
  obtain ⟨r6550_z, h6551_z, q6552_z, hc_z⟩ := hc_z
  obtain ⟨rfl, yq6552_z⟩ := rp_mkN (fun q => absurd (Eq.trans (Eq.symm ka) q.1) (by decide)) q6552_z
  subst yq6552_z
  replace hc_z : rn _ _ _ _ [.int 0] _ _ _ := hc_z
  replace hc_z := rn_ifT (am_cur_of (i := (6, 3, .ifCond .eq 45, (28, 0, 0), 0)) (by decide +kernel)) (by decide) hc_z
  replace hc_z := rn_aload_n (am_cur_of (i := (51, 1, .aload_n 0, (0, 0, 0), 0)) (by decide +kernel)) g0_z hc_z
  replace hc_z := rn_getI (v := 6) (am_cur_of (i := (52, 3, .getfield 60, (4, 10, 419), 0)) (by decide +kernel)) (by decide +kernel) ka hc_z
  replace hc_z := rn_bipush (w := 6) (am_cur_of (i := (55, 2, .bipush 6, (0, 0, 0), 0)) (by decide +kernel)) (by decide) hc_z
  replace hc_z := rn_cmpF (am_cur_of (i := (57, 3, .if_icmp .ne 11, (36, 0, 0), 0)) (by decide +kernel)) (by decide) hc_z
  replace hc_z := rn_aload_n (am_cur_of (i := (60, 1, .aload_n 0, (0, 0, 0), 0)) (by decide +kernel)) g0_z hc_z
  replace hc_z := rn_getI (v := 3) (am_cur_of (i := (61, 3, .getfield 91, (4, 11, 420), 0)) (by decide +kernel)) (by decide +kernel) kb hc_z
  replace hc_z := rn_iconst (w := 5) (am_cur_of (i := (64, 1, .iconst 5, (0, 0, 0), 0)) (by decide +kernel)) (by decide) hc_z
  replace hc_z := rn_cmpT (am_cur_of (i := (65, 3, .if_icmp .ne 17, (44, 0, 0), 0)) (by decide +kernel)) (by decide) hc_z
  replace hc_z := rn_aload_n (am_cur_of (i := (82, 1, .aload_n 0, (0, 0, 0), 0)) (by decide +kernel)) g0_z hc_z
  replace hc_z := rn_getI (v := 3) (am_cur_of (i := (83, 3, .getfield 91, (4, 11, 420), 0)) (by decide +kernel)) (by decide +kernel) kb hc_z
  replace hc_z := rn_istore_n (am_cur_of (i := (86, 1, .istore_n 1, (0, 0, 0), 0)) (by decide +kernel)) hc_z
  obtain ⟨_, s6553_z, s6554_z, g1_z, hc_z⟩ := hc_z
  replace g0_z := s6553_z 0 _ (by decide) rfl g0_z
  clear s6553_z s6554_z
  replace hc_z := rn_iload_n (am_cur_of (i := (87, 1, .iload_n 1, (0, 0, 0), 0)) (by decide +kernel)) g1_z hc_z
  replace hc_z := rn_callS (M' := am_m47) (ar := [.int 3]) (rest := []) (L := lv_args 0 [.int 3]) (am_cur_of (i := (88, 3, .invokestatic 283, (47, 842, 3), 0)) (by decide +kernel)) rfl rfl rfl rfl hc_z
  obtain ⟨r6555_z, h6556_z, q6557_z, hc_z⟩ := hc_z
  obtain ⟨rfl, yq6557_z⟩ := rs_rankC q6557_z
  replace yq6557_z := yq6557_z.symm
  subst yq6557_z
  rw [show rk_C 3 = 3 by decide] at hc_z
  replace hc_z : rn _ _ _ _ [.int 3] _ _ _ := hc_z
  replace hc_z := rn_bipush (w := 6) (am_cur_of (i := (91, 2, .bipush 6, (0, 0, 0), 0)) (by decide +kernel)) (by decide) hc_z
  replace hc_z := rn_callS (M' := am_m47) (ar := [.int 6]) (rest := [.int 3]) (L := lv_args 0 [.int 6]) (am_cur_of (i := (93, 3, .invokestatic 283, (47, 842, 3), 0)) (by decide +kernel)) rfl rfl rfl rfl hc_z
  obtain ⟨r6558_z, h6559_z, q6560_z, hc_z⟩ := hc_z
  obtain ⟨rfl, yq6560_z⟩ := rs_rankC q6560_z
  replace yq6560_z := yq6560_z.symm
  subst yq6560_z
  rw [show rk_C 6 = 6 by decide] at hc_z
  replace hc_z : rn _ _ _ _ [.int 6, .int 3] _ _ _ := hc_z
  replace hc_z := rn_cmpT (am_cur_of (i := (96, 3, .if_icmp .ne 46, (73, 0, 0), 0)) (by decide +kernel)) (by decide) hc_z
  replace hc_z := rn_aload_n (am_cur_of (i := (142, 1, .aload_n 0, (0, 0, 0), 0)) (by decide +kernel)) g0_z hc_z
  replace hc_z := rn_iload_n (am_cur_of (i := (143, 1, .iload_n 1, (0, 0, 0), 0)) (by decide +kernel)) g1_z hc_z
  replace hc_z := rn_callV (M' := am_m46) (o := 44) (ar := [.int 3]) (rest := []) (L := lv_args 0 [.ref 44, .int 3]) (am_cur_of (i := (144, 3, .invokevirtual 264, (46, 838, 3), 0)) (by decide +kernel)) rfl rfl rfl rfl hc_z
  obtain ⟨r6561_z, h6562_z, q6563_z, hc_z⟩ := hc_z
  replace hm_z := rn_aload_n (am_cur_of (i := (0, 1, .aload_n 0, (0, 0, 0), 0)) (by decide +kernel)) g0m hm_z
  replace hm_z := rn_bipush (w := 41) (am_cur_of (i := (1, 2, .bipush 41, (0, 0, 0), 0)) (by decide +kernel)) (by decide) hm_z
  replace hm_z := rn_callV (M' := am_m171) (o := 164) (ar := [.int 41]) (rest := []) (L := lv_args 0 [.ref 164, .int 41]) (am_cur_of (i := (3, 3, .invokevirtual 194, (171, 1715, 3), 0)) (by decide +kernel)) rfl rfl rfl rfl hm_z
  obtain ⟨r6564_z, h6565_z, q6566_z, hm_z⟩ := hm_z
  obtain ⟨rfl, yq6566_z⟩ := rp_sgN (fun q => absurd (Eq.trans (Eq.symm kc) q.1) (by decide)) q6566_z
  subst yq6566_z
  replace hm_z : rn _ _ _ _ [.int 0] _ _ _ := hm_z
  replace hm_z := rn_ifT (am_cur_of (i := (6, 3, .ifCond .eq 41, (26, 0, 0), 0)) (by decide +kernel)) (by decide) hm_z
  replace hm_z := rn_aload_n (am_cur_of (i := (47, 1, .aload_n 0, (0, 0, 0), 0)) (by decide +kernel)) g0m hm_z
  replace hm_z := rn_bipush (w := 12) (am_cur_of (i := (48, 2, .bipush 12, (0, 0, 0), 0)) (by decide +kernel)) (by decide) hm_z
  replace hm_z := rn_callV (M' := am_m174) (o := 164) (ar := [.int 12]) (rest := []) (L := lv_args 0 [.ref 164, .int 12]) (am_cur_of (i := (50, 3, .invokevirtual 306, (174, 1727, 3), 0)) (by decide +kernel)) rfl rfl rfl rfl hm_z
  obtain ⟨r6567_z, h6568_z, q6569_z, hm_z⟩ := hm_z
  obtain ⟨rfl, yq6569_z⟩ := rp_kyN (fun q => absurd (Eq.trans (Eq.symm kd) q.2) (by decide)) q6569_z
  subst yq6569_z
  replace hm_z : rn _ _ _ _ [.int 0] _ _ _ := hm_z
  replace hm_z := rn_ifT (am_cur_of (i := (53, 3, .ifCond .eq 7, (32, 0, 0), 0)) (by decide +kernel)) (by decide) hm_z
  replace hm_z := rn_aload_n (am_cur_of (i := (60, 1, .aload_n 0, (0, 0, 0), 0)) (by decide +kernel)) g0m hm_z
  replace hm_z := rn_bipush (w := 13) (am_cur_of (i := (61, 2, .bipush 13, (0, 0, 0), 0)) (by decide +kernel)) (by decide) hm_z
  replace hm_z := rn_callV (M' := am_m174) (o := 164) (ar := [.int 13]) (rest := []) (L := lv_args 0 [.ref 164, .int 13]) (am_cur_of (i := (63, 3, .invokevirtual 306, (174, 1727, 3), 0)) (by decide +kernel)) rfl rfl rfl rfl hm_z
  obtain ⟨r6570_z, h6571_z, q6572_z, hm_z⟩ := hm_z
  obtain ⟨rfl, yq6572_z⟩ := rp_kyT kc kd q6572_z
  subst yq6572_z
  replace hm_z : rn _ _ _ _ [.int 1] _ _ _ := hm_z
  replace hm_z := rn_ifF (am_cur_of (i := (66, 3, .ifCond .eq 7, (38, 0, 0), 0)) (by decide +kernel)) (by decide) hm_z
  replace hm_z := rn_iconst (w := 4) (am_cur_of (i := (69, 1, .iconst 4, (0, 0, 0), 0)) (by decide +kernel)) (by decide) hm_z
  replace hm_z := rn_goto (am_cur_of (i := (70, 3, .goto 77, (72, 0, 0), 0)) (by decide +kernel)) hm_z
  replace hm_z := rn_istore_n (am_cur_of (i := (147, 1, .istore_n 1, (0, 0, 0), 0)) (by decide +kernel)) hm_z
  obtain ⟨_, s6573_z, s6574_z, g1m, hm_z⟩ := hm_z
  replace g0m := s6573_z 0 _ (by decide) rfl g0m
  clear s6573_z s6574_z
  replace hm_z := rn_iload_n (am_cur_of (i := (148, 1, .iload_n 1, (0, 0, 0), 0)) (by decide +kernel)) g1m hm_z
  replace hm_z := rn_ifT (am_cur_of (i := (149, 3, .ifCond .ne 9, (79, 0, 0), 0)) (by decide +kernel)) (by decide) hm_z
  replace hm_z := rn_aload_n (am_cur_of (i := (158, 1, .aload_n 0, (0, 0, 0), 0)) (by decide +kernel)) g0m hm_z
  replace hm_z := rn_iload_n (am_cur_of (i := (159, 1, .iload_n 1, (0, 0, 0), 0)) (by decide +kernel)) g1m hm_z
  replace hm_z := rn_callS (M' := am_m180) (ar := [.int 4]) (rest := [.ref 164]) (L := lv_args 0 [.int 4]) (am_cur_of (i := (160, 3, .invokestatic 283, (180, 1751, 3), 0)) (by decide +kernel)) rfl rfl rfl rfl hm_z
  obtain ⟨r6575_z, h6576_z, q6577_z, hm_z⟩ := hm_z
  obtain ⟨rfl, yq6577_z⟩ := rs_rankM q6577_z
  replace yq6577_z := yq6577_z.symm
  subst yq6577_z
  rw [show rk_M 4 = 1 by decide] at hm_z
  replace hm_z : rn _ _ _ _ [.int 1, .ref 164] _ _ _ := hm_z
  replace hm_z := rn_iconst (w := 4) (am_cur_of (i := (163, 1, .iconst 4, (0, 0, 0), 0)) (by decide +kernel)) (by decide) hm_z
  replace hm_z := rn_cmpT (am_cur_of (i := (164, 3, .if_icmp .ne 7, (86, 0, 0), 0)) (by decide +kernel)) (by decide) hm_z
  replace hm_z := rn_iload_n (am_cur_of (i := (171, 1, .iload_n 1, (0, 0, 0), 0)) (by decide +kernel)) g1m hm_z
  replace hm_z := rn_callS (M' := am_m180) (ar := [.int 4]) (rest := [.ref 164]) (L := lv_args 0 [.int 4]) (am_cur_of (i := (172, 3, .invokestatic 283, (180, 1751, 3), 0)) (by decide +kernel)) rfl rfl rfl rfl hm_z
  obtain ⟨r6578_z, h6579_z, q6580_z, hm_z⟩ := hm_z
  obtain ⟨rfl, yq6580_z⟩ := rs_rankM q6580_z
  replace yq6580_z := yq6580_z.symm
  subst yq6580_z
  rw [show rk_M 4 = 1 by decide] at hm_z
  replace hm_z : rn _ _ _ _ [.int 1, .ref 164] _ _ _ := hm_z
  replace hm_z := rn_callV (M' := am_m179) (o := 164) (ar := [.int 1]) (rest := []) (L := lv_args 0 [.ref 164, .int 1]) (am_cur_of (i := (175, 3, .invokevirtual 318, (179, 1747, 3), 0)) (by decide +kernel)) rfl rfl rfl rfl hm_z
  obtain ⟨r6581_z, h6582_z, q6583_z, hm_z⟩ := hm_z
  obtain ⟨rfl, rfl, FC, FM, R, A, B, Z, nq, e13_z, hst⟩ := rz_set23 (show rs_l 3 1 from by have q := rs_lo (c := 3) (k := 4) (by unfold rs_o; decide); rw [show rk_M 4 = 1 by decide] at q; exact q) (by decide) Rk A B Zk q6563_z q6583_z
  have Zq := Z
  obtain ⟨np, op, z1_z, z2_z, z3_z, z4_z, z5_z, z6_z, z7_z, z8_z, z9_z, z10_z⟩ := Zq
  obtain rfl : np = nq := z1_z.symm.trans e13_z
  replace hm_z : rn _ _ _ _ [] _ _ _ := hm_z
  replace hc_z : rn _ _ _ _ [] _ _ _ := hc_z
  have cn := rt_cl z3_z
  have zz1_z : (1 : Int32).toInt = 1 := by decide
  have n31_z := (ab_32 np).2
  have y1_z := ab_isub (x := np) (y := 1) (by omega) (by omega)
  replace hm_z := rn_iload_n (am_cur_of (i := (178, 1, .iload_n 1, (0, 0, 0), 0)) (by decide +kernel)) g1m hm_z
  replace hm_z := rn_callS (M' := am_m180) (ar := [.int 4]) (rest := []) (L := lv_args 0 [.int 4]) (am_cur_of (i := (179, 3, .invokestatic 283, (180, 1751, 3), 0)) (by decide +kernel)) rfl rfl rfl rfl hm_z
  obtain ⟨r6584_z, h6585_z, q6586_z, hm_z⟩ := hm_z
  obtain ⟨rfl, yq6586_z⟩ := rs_rankM q6586_z
  replace yq6586_z := yq6586_z.symm
  subst yq6586_z
  rw [show rk_M 4 = 1 by decide] at hm_z
  replace hm_z : rn _ _ _ _ [.int 1] _ _ _ := hm_z
  replace hm_z := rn_iconst (w := 4) (am_cur_of (i := (182, 1, .iconst 4, (0, 0, 0), 0)) (by decide +kernel)) (by decide) hm_z
  replace hm_z := rn_cmpT (am_cur_of (i := (183, 3, .if_icmp .ne 34, (110, 0, 0), 0)) (by decide +kernel)) (by decide) hm_z
  exact Or.inl (rj_t3_23 R A B Z g0_z g1_z g0m g1m hc_z hm_z)
theorem rj_c16_23 {T : Nat → Int32} {S x p : Int32} {n n' : Nat} {h h' g g' : am_H} {r r' : Option Value} (R : rq T S x p 23 h g) (A : rp 23 h g) (B : rp_t h g) (Z : rs 23 h g) (w0_z : rg_v g 164 45 = 0) (ka : (rg_v h 44 10) = 6) (kc : (rg_v g 164 8) = 1) (kb : (rg_v h 44 11) = 4) (kd : (rg_v g 164 9) = 12) (hc_z : rn n am_m44 0 (lv_args 0 [.ref 44]) [] h r h') (hm_z : rn n' am_m178 0 (lv_args 0 [.ref 164]) [] g r' g') : rj_Q T S x p 23 h g h' g' r r' := by
  have g0_z : am_get (lv_args 0 [.ref 44]) 0 = some (.ref 44) := rfl
  have g0m : am_get (lv_args 0 [.ref 164]) 0 = some (.ref 164) := rfl
  have Rk := R
  have Zk := Z
  obtain ⟨⟨c1_z, c2_z, c3_z, c4_z, c5_z, c6_z, c7_z, c8_z⟩, ⟨m2_z, m3_z, m4_z, m5_z, m6_z, m7_z, m8_z⟩, R3, R4, R5, R6, R7, R8, R9, R10⟩ := (R : rq T S x p 23 h g)
  obtain ⟨np, op, z1_z, z2_z, z3_z, z4_z, z5_z, z6_z, z7_z, z8_z, z9_z, z10_z⟩ := (Z : rs 23 h g)
  obtain ⟨nk1_z, nk2_z, nk3_z⟩ := A.2.2.2.2.2.1
  replace nk1_z : rg_v h 32 0 = rg_v g 164 44 := nk1_z
  replace nk2_z : 0 ≤ (rg_v h 32 0).toInt := nk2_z
  replace nk3_z : (rg_v h 32 0).toInt ≤ 64 := nk3_z
  replace z8_z : np.toInt ≤ (rg_v h 32 0).toInt + op.toInt := z8_z
  obtain ⟨kn, ekn⟩ : ∃ v, rg_v h 32 0 = v := ⟨_, rfl⟩
  rw [ekn] at nk1_z nk2_z nk3_z z8_z
  have e9_z := rt_c1 (x := kn) (by omega) (by omega)
  replace hc_z := rn_aload_n (am_cur_of (i := (0, 1, .aload_n 0, (0, 0, 0), 0)) (by decide +kernel)) g0_z hc_z
  replace hc_z := rn_bipush (w := 41) (am_cur_of (i := (1, 2, .bipush 41, (0, 0, 0), 0)) (by decide +kernel)) (by decide) hc_z
  replace hc_z := rn_callV (M' := am_m45) (o := 44) (ar := [.int 41]) (rest := []) (L := lv_args 0 [.ref 44, .int 41]) (am_cur_of (i := (3, 3, .invokevirtual 105, (45, 834, 3), 0)) (by decide +kernel)) rfl rfl rfl rfl hc_z
  obtain ⟨r6587_z, h6588_z, q6589_z, hc_z⟩ := hc_z
  obtain ⟨rfl, yq6589_z⟩ := rp_mkN (fun q => absurd (Eq.trans (Eq.symm ka) q.1) (by decide)) q6589_z
  subst yq6589_z
  replace hc_z : rn _ _ _ _ [.int 0] _ _ _ := hc_z
  replace hc_z := rn_ifT (am_cur_of (i := (6, 3, .ifCond .eq 45, (28, 0, 0), 0)) (by decide +kernel)) (by decide) hc_z
  replace hc_z := rn_aload_n (am_cur_of (i := (51, 1, .aload_n 0, (0, 0, 0), 0)) (by decide +kernel)) g0_z hc_z
  replace hc_z := rn_getI (v := 6) (am_cur_of (i := (52, 3, .getfield 60, (4, 10, 419), 0)) (by decide +kernel)) (by decide +kernel) ka hc_z
  replace hc_z := rn_bipush (w := 6) (am_cur_of (i := (55, 2, .bipush 6, (0, 0, 0), 0)) (by decide +kernel)) (by decide) hc_z
  replace hc_z := rn_cmpF (am_cur_of (i := (57, 3, .if_icmp .ne 11, (36, 0, 0), 0)) (by decide +kernel)) (by decide) hc_z
  replace hc_z := rn_aload_n (am_cur_of (i := (60, 1, .aload_n 0, (0, 0, 0), 0)) (by decide +kernel)) g0_z hc_z
  replace hc_z := rn_getI (v := 4) (am_cur_of (i := (61, 3, .getfield 91, (4, 11, 420), 0)) (by decide +kernel)) (by decide +kernel) kb hc_z
  replace hc_z := rn_iconst (w := 5) (am_cur_of (i := (64, 1, .iconst 5, (0, 0, 0), 0)) (by decide +kernel)) (by decide) hc_z
  replace hc_z := rn_cmpT (am_cur_of (i := (65, 3, .if_icmp .ne 17, (44, 0, 0), 0)) (by decide +kernel)) (by decide) hc_z
  replace hc_z := rn_aload_n (am_cur_of (i := (82, 1, .aload_n 0, (0, 0, 0), 0)) (by decide +kernel)) g0_z hc_z
  replace hc_z := rn_getI (v := 4) (am_cur_of (i := (83, 3, .getfield 91, (4, 11, 420), 0)) (by decide +kernel)) (by decide +kernel) kb hc_z
  replace hc_z := rn_istore_n (am_cur_of (i := (86, 1, .istore_n 1, (0, 0, 0), 0)) (by decide +kernel)) hc_z
  obtain ⟨_, s6590_z, s6591_z, g1_z, hc_z⟩ := hc_z
  replace g0_z := s6590_z 0 _ (by decide) rfl g0_z
  clear s6590_z s6591_z
  replace hc_z := rn_iload_n (am_cur_of (i := (87, 1, .iload_n 1, (0, 0, 0), 0)) (by decide +kernel)) g1_z hc_z
  replace hc_z := rn_callS (M' := am_m47) (ar := [.int 4]) (rest := []) (L := lv_args 0 [.int 4]) (am_cur_of (i := (88, 3, .invokestatic 283, (47, 842, 3), 0)) (by decide +kernel)) rfl rfl rfl rfl hc_z
  obtain ⟨r6592_z, h6593_z, q6594_z, hc_z⟩ := hc_z
  obtain ⟨rfl, yq6594_z⟩ := rs_rankC q6594_z
  replace yq6594_z := yq6594_z.symm
  subst yq6594_z
  rw [show rk_C 4 = 4 by decide] at hc_z
  replace hc_z : rn _ _ _ _ [.int 4] _ _ _ := hc_z
  replace hc_z := rn_bipush (w := 6) (am_cur_of (i := (91, 2, .bipush 6, (0, 0, 0), 0)) (by decide +kernel)) (by decide) hc_z
  replace hc_z := rn_callS (M' := am_m47) (ar := [.int 6]) (rest := [.int 4]) (L := lv_args 0 [.int 6]) (am_cur_of (i := (93, 3, .invokestatic 283, (47, 842, 3), 0)) (by decide +kernel)) rfl rfl rfl rfl hc_z
  obtain ⟨r6595_z, h6596_z, q6597_z, hc_z⟩ := hc_z
  obtain ⟨rfl, yq6597_z⟩ := rs_rankC q6597_z
  replace yq6597_z := yq6597_z.symm
  subst yq6597_z
  rw [show rk_C 6 = 6 by decide] at hc_z
  replace hc_z : rn _ _ _ _ [.int 6, .int 4] _ _ _ := hc_z
  replace hc_z := rn_cmpT (am_cur_of (i := (96, 3, .if_icmp .ne 46, (73, 0, 0), 0)) (by decide +kernel)) (by decide) hc_z
  replace hc_z := rn_aload_n (am_cur_of (i := (142, 1, .aload_n 0, (0, 0, 0), 0)) (by decide +kernel)) g0_z hc_z
  replace hc_z := rn_iload_n (am_cur_of (i := (143, 1, .iload_n 1, (0, 0, 0), 0)) (by decide +kernel)) g1_z hc_z
  replace hc_z := rn_callV (M' := am_m46) (o := 44) (ar := [.int 4]) (rest := []) (L := lv_args 0 [.ref 44, .int 4]) (am_cur_of (i := (144, 3, .invokevirtual 264, (46, 838, 3), 0)) (by decide +kernel)) rfl rfl rfl rfl hc_z
  obtain ⟨r6598_z, h6599_z, q6600_z, hc_z⟩ := hc_z
  replace hm_z := rn_aload_n (am_cur_of (i := (0, 1, .aload_n 0, (0, 0, 0), 0)) (by decide +kernel)) g0m hm_z
  replace hm_z := rn_bipush (w := 41) (am_cur_of (i := (1, 2, .bipush 41, (0, 0, 0), 0)) (by decide +kernel)) (by decide) hm_z
  replace hm_z := rn_callV (M' := am_m171) (o := 164) (ar := [.int 41]) (rest := []) (L := lv_args 0 [.ref 164, .int 41]) (am_cur_of (i := (3, 3, .invokevirtual 194, (171, 1715, 3), 0)) (by decide +kernel)) rfl rfl rfl rfl hm_z
  obtain ⟨r6601_z, h6602_z, q6603_z, hm_z⟩ := hm_z
  obtain ⟨rfl, yq6603_z⟩ := rp_sgN (fun q => absurd (Eq.trans (Eq.symm kc) q.1) (by decide)) q6603_z
  subst yq6603_z
  replace hm_z : rn _ _ _ _ [.int 0] _ _ _ := hm_z
  replace hm_z := rn_ifT (am_cur_of (i := (6, 3, .ifCond .eq 41, (26, 0, 0), 0)) (by decide +kernel)) (by decide) hm_z
  replace hm_z := rn_aload_n (am_cur_of (i := (47, 1, .aload_n 0, (0, 0, 0), 0)) (by decide +kernel)) g0m hm_z
  replace hm_z := rn_bipush (w := 12) (am_cur_of (i := (48, 2, .bipush 12, (0, 0, 0), 0)) (by decide +kernel)) (by decide) hm_z
  replace hm_z := rn_callV (M' := am_m174) (o := 164) (ar := [.int 12]) (rest := []) (L := lv_args 0 [.ref 164, .int 12]) (am_cur_of (i := (50, 3, .invokevirtual 306, (174, 1727, 3), 0)) (by decide +kernel)) rfl rfl rfl rfl hm_z
  obtain ⟨r6604_z, h6605_z, q6606_z, hm_z⟩ := hm_z
  obtain ⟨rfl, yq6606_z⟩ := rp_kyT kc kd q6606_z
  subst yq6606_z
  replace hm_z : rn _ _ _ _ [.int 1] _ _ _ := hm_z
  replace hm_z := rn_ifF (am_cur_of (i := (53, 3, .ifCond .eq 7, (32, 0, 0), 0)) (by decide +kernel)) (by decide) hm_z
  replace hm_z := rn_iconst (w := 3) (am_cur_of (i := (56, 1, .iconst 3, (0, 0, 0), 0)) (by decide +kernel)) (by decide) hm_z
  replace hm_z := rn_goto (am_cur_of (i := (57, 3, .goto 90, (72, 0, 0), 0)) (by decide +kernel)) hm_z
  replace hm_z := rn_istore_n (am_cur_of (i := (147, 1, .istore_n 1, (0, 0, 0), 0)) (by decide +kernel)) hm_z
  obtain ⟨_, s6607_z, s6608_z, g1m, hm_z⟩ := hm_z
  replace g0m := s6607_z 0 _ (by decide) rfl g0m
  clear s6607_z s6608_z
  replace hm_z := rn_iload_n (am_cur_of (i := (148, 1, .iload_n 1, (0, 0, 0), 0)) (by decide +kernel)) g1m hm_z
  replace hm_z := rn_ifT (am_cur_of (i := (149, 3, .ifCond .ne 9, (79, 0, 0), 0)) (by decide +kernel)) (by decide) hm_z
  replace hm_z := rn_aload_n (am_cur_of (i := (158, 1, .aload_n 0, (0, 0, 0), 0)) (by decide +kernel)) g0m hm_z
  replace hm_z := rn_iload_n (am_cur_of (i := (159, 1, .iload_n 1, (0, 0, 0), 0)) (by decide +kernel)) g1m hm_z
  replace hm_z := rn_callS (M' := am_m180) (ar := [.int 3]) (rest := [.ref 164]) (L := lv_args 0 [.int 3]) (am_cur_of (i := (160, 3, .invokestatic 283, (180, 1751, 3), 0)) (by decide +kernel)) rfl rfl rfl rfl hm_z
  obtain ⟨r6609_z, h6610_z, q6611_z, hm_z⟩ := hm_z
  obtain ⟨rfl, yq6611_z⟩ := rs_rankM q6611_z
  replace yq6611_z := yq6611_z.symm
  subst yq6611_z
  rw [show rk_M 3 = 2 by decide] at hm_z
  replace hm_z : rn _ _ _ _ [.int 2, .ref 164] _ _ _ := hm_z
  replace hm_z := rn_iconst (w := 4) (am_cur_of (i := (163, 1, .iconst 4, (0, 0, 0), 0)) (by decide +kernel)) (by decide) hm_z
  replace hm_z := rn_cmpT (am_cur_of (i := (164, 3, .if_icmp .ne 7, (86, 0, 0), 0)) (by decide +kernel)) (by decide) hm_z
  replace hm_z := rn_iload_n (am_cur_of (i := (171, 1, .iload_n 1, (0, 0, 0), 0)) (by decide +kernel)) g1m hm_z
  replace hm_z := rn_callS (M' := am_m180) (ar := [.int 3]) (rest := [.ref 164]) (L := lv_args 0 [.int 3]) (am_cur_of (i := (172, 3, .invokestatic 283, (180, 1751, 3), 0)) (by decide +kernel)) rfl rfl rfl rfl hm_z
  obtain ⟨r6612_z, h6613_z, q6614_z, hm_z⟩ := hm_z
  obtain ⟨rfl, yq6614_z⟩ := rs_rankM q6614_z
  replace yq6614_z := yq6614_z.symm
  subst yq6614_z
  rw [show rk_M 3 = 2 by decide] at hm_z
  replace hm_z : rn _ _ _ _ [.int 2, .ref 164] _ _ _ := hm_z
  replace hm_z := rn_callV (M' := am_m179) (o := 164) (ar := [.int 2]) (rest := []) (L := lv_args 0 [.ref 164, .int 2]) (am_cur_of (i := (175, 3, .invokevirtual 318, (179, 1747, 3), 0)) (by decide +kernel)) rfl rfl rfl rfl hm_z
  obtain ⟨r6615_z, h6616_z, q6617_z, hm_z⟩ := hm_z
  obtain ⟨rfl, rfl, FC, FM, R, A, B, Z, nq, e13_z, hst⟩ := rz_set23 (show rs_l 4 2 from by have q := rs_lo (c := 4) (k := 3) (by unfold rs_o; decide); rw [show rk_M 3 = 2 by decide] at q; exact q) (by decide) Rk A B Zk q6600_z q6617_z
  have Zq := Z
  obtain ⟨np, op, z1_z, z2_z, z3_z, z4_z, z5_z, z6_z, z7_z, z8_z, z9_z, z10_z⟩ := Zq
  obtain rfl : np = nq := z1_z.symm.trans e13_z
  replace hm_z : rn _ _ _ _ [] _ _ _ := hm_z
  replace hc_z : rn _ _ _ _ [] _ _ _ := hc_z
  have cn := rt_cl z3_z
  have zz1_z : (1 : Int32).toInt = 1 := by decide
  have n31_z := (ab_32 np).2
  have y1_z := ab_isub (x := np) (y := 1) (by omega) (by omega)
  replace hm_z := rn_iload_n (am_cur_of (i := (178, 1, .iload_n 1, (0, 0, 0), 0)) (by decide +kernel)) g1m hm_z
  replace hm_z := rn_callS (M' := am_m180) (ar := [.int 3]) (rest := []) (L := lv_args 0 [.int 3]) (am_cur_of (i := (179, 3, .invokestatic 283, (180, 1751, 3), 0)) (by decide +kernel)) rfl rfl rfl rfl hm_z
  obtain ⟨r6618_z, h6619_z, q6620_z, hm_z⟩ := hm_z
  obtain ⟨rfl, yq6620_z⟩ := rs_rankM q6620_z
  replace yq6620_z := yq6620_z.symm
  subst yq6620_z
  rw [show rk_M 3 = 2 by decide] at hm_z
  replace hm_z : rn _ _ _ _ [.int 2] _ _ _ := hm_z
  replace hm_z := rn_iconst (w := 4) (am_cur_of (i := (182, 1, .iconst 4, (0, 0, 0), 0)) (by decide +kernel)) (by decide) hm_z
  replace hm_z := rn_cmpT (am_cur_of (i := (183, 3, .if_icmp .ne 34, (110, 0, 0), 0)) (by decide +kernel)) (by decide) hm_z
  exact Or.inl (rj_t4_23 R A B Z g0_z g1_z g0m g1m hc_z hm_z)
theorem rj_c17_23 {T : Nat → Int32} {S x p : Int32} {n n' : Nat} {h h' g g' : am_H} {r r' : Option Value} (R : rq T S x p 23 h g) (A : rp 23 h g) (B : rp_t h g) (Z : rs 23 h g) (w0_z : rg_v g 164 45 = 0) (ka : (rg_v h 44 10) = 6) (kc : (rg_v g 164 8) = 1) (kb : (rg_v h 44 11) = 5) (kd : (rg_v g 164 9) = 14) (hc_z : rn n am_m44 0 (lv_args 0 [.ref 44]) [] h r h') (hm_z : rn n' am_m178 0 (lv_args 0 [.ref 164]) [] g r' g') : rj_Q T S x p 23 h g h' g' r r' := by
  have z0_z : (0 : Int32).toInt = 0 := by decide
  have g0_z : am_get (lv_args 0 [.ref 44]) 0 = some (.ref 44) := rfl
  have g0m : am_get (lv_args 0 [.ref 164]) 0 = some (.ref 164) := rfl
  have Rk := R
  have Zk := Z
  obtain ⟨⟨c1_z, c2_z, c3_z, c4_z, c5_z, c6_z, c7_z, c8_z⟩, ⟨m2_z, m3_z, m4_z, m5_z, m6_z, m7_z, m8_z⟩, R3, R4, R5, R6, R7, R8, R9, R10⟩ := (R : rq T S x p 23 h g)
  obtain ⟨np, op, z1_z, z2_z, z3_z, z4_z, z5_z, z6_z, z7_z, z8_z, z9_z, z10_z⟩ := (Z : rs 23 h g)
  obtain ⟨nk1_z, nk2_z, nk3_z⟩ := A.2.2.2.2.2.1
  replace nk1_z : rg_v h 32 0 = rg_v g 164 44 := nk1_z
  replace nk2_z : 0 ≤ (rg_v h 32 0).toInt := nk2_z
  replace nk3_z : (rg_v h 32 0).toInt ≤ 64 := nk3_z
  replace z8_z : np.toInt ≤ (rg_v h 32 0).toInt + op.toInt := z8_z
  obtain ⟨kn, ekn⟩ : ∃ v, rg_v h 32 0 = v := ⟨_, rfl⟩
  rw [ekn] at nk1_z nk2_z nk3_z z8_z
  have e9_z := rt_c1 (x := kn) (by omega) (by omega)
  replace hc_z := rn_aload_n (am_cur_of (i := (0, 1, .aload_n 0, (0, 0, 0), 0)) (by decide +kernel)) g0_z hc_z
  replace hc_z := rn_bipush (w := 41) (am_cur_of (i := (1, 2, .bipush 41, (0, 0, 0), 0)) (by decide +kernel)) (by decide) hc_z
  replace hc_z := rn_callV (M' := am_m45) (o := 44) (ar := [.int 41]) (rest := []) (L := lv_args 0 [.ref 44, .int 41]) (am_cur_of (i := (3, 3, .invokevirtual 105, (45, 834, 3), 0)) (by decide +kernel)) rfl rfl rfl rfl hc_z
  obtain ⟨r6621_z, h6622_z, q6623_z, hc_z⟩ := hc_z
  obtain ⟨rfl, yq6623_z⟩ := rp_mkN (fun q => absurd (Eq.trans (Eq.symm ka) q.1) (by decide)) q6623_z
  subst yq6623_z
  replace hc_z : rn _ _ _ _ [.int 0] _ _ _ := hc_z
  replace hc_z := rn_ifT (am_cur_of (i := (6, 3, .ifCond .eq 45, (28, 0, 0), 0)) (by decide +kernel)) (by decide) hc_z
  replace hc_z := rn_aload_n (am_cur_of (i := (51, 1, .aload_n 0, (0, 0, 0), 0)) (by decide +kernel)) g0_z hc_z
  replace hc_z := rn_getI (v := 6) (am_cur_of (i := (52, 3, .getfield 60, (4, 10, 419), 0)) (by decide +kernel)) (by decide +kernel) ka hc_z
  replace hc_z := rn_bipush (w := 6) (am_cur_of (i := (55, 2, .bipush 6, (0, 0, 0), 0)) (by decide +kernel)) (by decide) hc_z
  replace hc_z := rn_cmpF (am_cur_of (i := (57, 3, .if_icmp .ne 11, (36, 0, 0), 0)) (by decide +kernel)) (by decide) hc_z
  replace hc_z := rn_aload_n (am_cur_of (i := (60, 1, .aload_n 0, (0, 0, 0), 0)) (by decide +kernel)) g0_z hc_z
  replace hc_z := rn_getI (v := 5) (am_cur_of (i := (61, 3, .getfield 91, (4, 11, 420), 0)) (by decide +kernel)) (by decide +kernel) kb hc_z
  replace hc_z := rn_iconst (w := 5) (am_cur_of (i := (64, 1, .iconst 5, (0, 0, 0), 0)) (by decide +kernel)) (by decide) hc_z
  replace hc_z := rn_cmpF (am_cur_of (i := (65, 3, .if_icmp .ne 17, (44, 0, 0), 0)) (by decide +kernel)) (by decide) hc_z
  replace hc_z := rn_aload_n (am_cur_of (i := (68, 1, .aload_n 0, (0, 0, 0), 0)) (by decide +kernel)) g0_z hc_z
  replace hc_z := rn_getI (v := op) (am_cur_of (i := (69, 3, .getfield 254, (4, 14, 423), 0)) (by decide +kernel)) (by decide +kernel) z4_z hc_z
  replace hc_z := rn_if (am_cur_of (i := (72, 3, .ifCond .le 8, (42, 0, 0), 0)) (by decide +kernel)) hc_z
  rcases hc_z with ⟨b6624_z, hc_z⟩ | ⟨b6624_z, hc_z⟩
  · replace b6624_z : op.toInt ≤ (0 : Int32).toInt := b6624_z
    replace hc_z := rn_iconst (w := 3) (am_cur_of (i := (80, 1, .iconst 3, (0, 0, 0), 0)) (by decide +kernel)) (by decide) hc_z
    replace hc_z := rn_iret (am_cur_of (i := (81, 1, .ireturn, (0, 0, 0), 0)) (by decide +kernel)) hc_z
    obtain ⟨e6625_z, e6626_z⟩ := hc_z
    replace hm_z := rn_aload_n (am_cur_of (i := (0, 1, .aload_n 0, (0, 0, 0), 0)) (by decide +kernel)) g0m hm_z
    replace hm_z := rn_bipush (w := 41) (am_cur_of (i := (1, 2, .bipush 41, (0, 0, 0), 0)) (by decide +kernel)) (by decide) hm_z
    replace hm_z := rn_callV (M' := am_m171) (o := 164) (ar := [.int 41]) (rest := []) (L := lv_args 0 [.ref 164, .int 41]) (am_cur_of (i := (3, 3, .invokevirtual 194, (171, 1715, 3), 0)) (by decide +kernel)) rfl rfl rfl rfl hm_z
    obtain ⟨r6627_z, h6628_z, q6629_z, hm_z⟩ := hm_z
    obtain ⟨rfl, yq6629_z⟩ := rp_sgN (fun q => absurd (Eq.trans (Eq.symm kc) q.1) (by decide)) q6629_z
    subst yq6629_z
    replace hm_z : rn _ _ _ _ [.int 0] _ _ _ := hm_z
    replace hm_z := rn_ifT (am_cur_of (i := (6, 3, .ifCond .eq 41, (26, 0, 0), 0)) (by decide +kernel)) (by decide) hm_z
    replace hm_z := rn_aload_n (am_cur_of (i := (47, 1, .aload_n 0, (0, 0, 0), 0)) (by decide +kernel)) g0m hm_z
    replace hm_z := rn_bipush (w := 12) (am_cur_of (i := (48, 2, .bipush 12, (0, 0, 0), 0)) (by decide +kernel)) (by decide) hm_z
    replace hm_z := rn_callV (M' := am_m174) (o := 164) (ar := [.int 12]) (rest := []) (L := lv_args 0 [.ref 164, .int 12]) (am_cur_of (i := (50, 3, .invokevirtual 306, (174, 1727, 3), 0)) (by decide +kernel)) rfl rfl rfl rfl hm_z
    obtain ⟨r6630_z, h6631_z, q6632_z, hm_z⟩ := hm_z
    obtain ⟨rfl, yq6632_z⟩ := rp_kyN (fun q => absurd (Eq.trans (Eq.symm kd) q.2) (by decide)) q6632_z
    subst yq6632_z
    replace hm_z : rn _ _ _ _ [.int 0] _ _ _ := hm_z
    replace hm_z := rn_ifT (am_cur_of (i := (53, 3, .ifCond .eq 7, (32, 0, 0), 0)) (by decide +kernel)) (by decide) hm_z
    replace hm_z := rn_aload_n (am_cur_of (i := (60, 1, .aload_n 0, (0, 0, 0), 0)) (by decide +kernel)) g0m hm_z
    replace hm_z := rn_bipush (w := 13) (am_cur_of (i := (61, 2, .bipush 13, (0, 0, 0), 0)) (by decide +kernel)) (by decide) hm_z
    replace hm_z := rn_callV (M' := am_m174) (o := 164) (ar := [.int 13]) (rest := []) (L := lv_args 0 [.ref 164, .int 13]) (am_cur_of (i := (63, 3, .invokevirtual 306, (174, 1727, 3), 0)) (by decide +kernel)) rfl rfl rfl rfl hm_z
    obtain ⟨r6633_z, h6634_z, q6635_z, hm_z⟩ := hm_z
    obtain ⟨rfl, yq6635_z⟩ := rp_kyN (fun q => absurd (Eq.trans (Eq.symm kd) q.2) (by decide)) q6635_z
    subst yq6635_z
    replace hm_z : rn _ _ _ _ [.int 0] _ _ _ := hm_z
    replace hm_z := rn_ifT (am_cur_of (i := (66, 3, .ifCond .eq 7, (38, 0, 0), 0)) (by decide +kernel)) (by decide) hm_z
    replace hm_z := rn_aload_n (am_cur_of (i := (73, 1, .aload_n 0, (0, 0, 0), 0)) (by decide +kernel)) g0m hm_z
    replace hm_z := rn_getI (v := 1) (am_cur_of (i := (74, 3, .getfield 157, (12, 8, 1392), 0)) (by decide +kernel)) (by decide +kernel) kc hm_z
    replace hm_z := rn_iconst (w := 5) (am_cur_of (i := (77, 1, .iconst 5, (0, 0, 0), 0)) (by decide +kernel)) (by decide) hm_z
    replace hm_z := rn_cmpT (am_cur_of (i := (78, 3, .if_icmp .ne 12, (47, 0, 0), 0)) (by decide +kernel)) (by decide) hm_z
    replace hm_z := rn_aload_n (am_cur_of (i := (90, 1, .aload_n 0, (0, 0, 0), 0)) (by decide +kernel)) g0m hm_z
    replace hm_z := rn_bipush (w := 43) (am_cur_of (i := (91, 2, .bipush 43, (0, 0, 0), 0)) (by decide +kernel)) (by decide) hm_z
    replace hm_z := rn_callV (M' := am_m171) (o := 164) (ar := [.int 43]) (rest := []) (L := lv_args 0 [.ref 164, .int 43]) (am_cur_of (i := (93, 3, .invokevirtual 194, (171, 1715, 3), 0)) (by decide +kernel)) rfl rfl rfl rfl hm_z
    obtain ⟨r6636_z, h6637_z, q6638_z, hm_z⟩ := hm_z
    obtain ⟨rfl, yq6638_z⟩ := rp_sgN (fun q => absurd (Eq.trans (Eq.symm kc) q.1) (by decide)) q6638_z
    subst yq6638_z
    replace hm_z : rn _ _ _ _ [.int 0] _ _ _ := hm_z
    replace hm_z := rn_ifT (am_cur_of (i := (96, 3, .ifCond .eq 8, (53, 0, 0), 0)) (by decide +kernel)) (by decide) hm_z
    replace hm_z := rn_aload_n (am_cur_of (i := (104, 1, .aload_n 0, (0, 0, 0), 0)) (by decide +kernel)) g0m hm_z
    replace hm_z := rn_bipush (w := 45) (am_cur_of (i := (105, 2, .bipush 45, (0, 0, 0), 0)) (by decide +kernel)) (by decide) hm_z
    replace hm_z := rn_callV (M' := am_m171) (o := 164) (ar := [.int 45]) (rest := []) (L := lv_args 0 [.ref 164, .int 45]) (am_cur_of (i := (107, 3, .invokevirtual 194, (171, 1715, 3), 0)) (by decide +kernel)) rfl rfl rfl rfl hm_z
    obtain ⟨r6639_z, h6640_z, q6641_z, hm_z⟩ := hm_z
    obtain ⟨rfl, yq6641_z⟩ := rp_sgN (fun q => absurd (Eq.trans (Eq.symm kc) q.1) (by decide)) q6641_z
    subst yq6641_z
    replace hm_z : rn _ _ _ _ [.int 0] _ _ _ := hm_z
    replace hm_z := rn_ifT (am_cur_of (i := (110, 3, .ifCond .eq 8, (59, 0, 0), 0)) (by decide +kernel)) (by decide) hm_z
    replace hm_z := rn_aload_n (am_cur_of (i := (118, 1, .aload_n 0, (0, 0, 0), 0)) (by decide +kernel)) g0m hm_z
    replace hm_z := rn_bipush (w := 42) (am_cur_of (i := (119, 2, .bipush 42, (0, 0, 0), 0)) (by decide +kernel)) (by decide) hm_z
    replace hm_z := rn_callV (M' := am_m171) (o := 164) (ar := [.int 42]) (rest := []) (L := lv_args 0 [.ref 164, .int 42]) (am_cur_of (i := (121, 3, .invokevirtual 194, (171, 1715, 3), 0)) (by decide +kernel)) rfl rfl rfl rfl hm_z
    obtain ⟨r6642_z, h6643_z, q6644_z, hm_z⟩ := hm_z
    obtain ⟨rfl, yq6644_z⟩ := rp_sgN (fun q => absurd (Eq.trans (Eq.symm kc) q.1) (by decide)) q6644_z
    subst yq6644_z
    replace hm_z : rn _ _ _ _ [.int 0] _ _ _ := hm_z
    replace hm_z := rn_ifT (am_cur_of (i := (124, 3, .ifCond .eq 8, (65, 0, 0), 0)) (by decide +kernel)) (by decide) hm_z
    replace hm_z := rn_aload_n (am_cur_of (i := (132, 1, .aload_n 0, (0, 0, 0), 0)) (by decide +kernel)) g0m hm_z
    replace hm_z := rn_bipush (w := 47) (am_cur_of (i := (133, 2, .bipush 47, (0, 0, 0), 0)) (by decide +kernel)) (by decide) hm_z
    replace hm_z := rn_callV (M' := am_m171) (o := 164) (ar := [.int 47]) (rest := []) (L := lv_args 0 [.ref 164, .int 47]) (am_cur_of (i := (135, 3, .invokevirtual 194, (171, 1715, 3), 0)) (by decide +kernel)) rfl rfl rfl rfl hm_z
    obtain ⟨r6645_z, h6646_z, q6647_z, hm_z⟩ := hm_z
    obtain ⟨rfl, yq6647_z⟩ := rp_sgN (fun q => absurd (Eq.trans (Eq.symm kc) q.1) (by decide)) q6647_z
    subst yq6647_z
    replace hm_z : rn _ _ _ _ [.int 0] _ _ _ := hm_z
    replace hm_z := rn_ifT (am_cur_of (i := (138, 3, .ifCond .eq 8, (71, 0, 0), 0)) (by decide +kernel)) (by decide) hm_z
    replace hm_z := rn_iconst (w := 0) (am_cur_of (i := (146, 1, .iconst 0, (0, 0, 0), 0)) (by decide +kernel)) (by decide) hm_z
    replace hm_z := rn_istore_n (am_cur_of (i := (147, 1, .istore_n 1, (0, 0, 0), 0)) (by decide +kernel)) hm_z
    obtain ⟨_, s6648_z, s6649_z, g1m, hm_z⟩ := hm_z
    replace g0m := s6648_z 0 _ (by decide) rfl g0m
    clear s6648_z s6649_z
    replace hm_z := rn_iload_n (am_cur_of (i := (148, 1, .iload_n 1, (0, 0, 0), 0)) (by decide +kernel)) g1m hm_z
    replace hm_z := rn_ifF (am_cur_of (i := (149, 3, .ifCond .ne 9, (79, 0, 0), 0)) (by decide +kernel)) (by decide) hm_z
    replace hm_z := rn_aload_n (am_cur_of (i := (152, 1, .aload_n 0, (0, 0, 0), 0)) (by decide +kernel)) g0m hm_z
    replace hm_z := rn_iconst (w := 1) (am_cur_of (i := (153, 1, .iconst 1, (0, 0, 0), 0)) (by decide +kernel)) (by decide) hm_z
    replace hm_z := rn_callV (M' := am_m158) (o := 164) (ar := [.int 1]) (rest := []) (L := lv_args 0 [.ref 164, .int 1]) (am_cur_of (i := (154, 3, .invokevirtual 181, (158, 1665, 3), 0)) (by decide +kernel)) rfl rfl rfl rfl hm_z
    obtain ⟨r6650_z, h6651_z, q6652_z, hm_z⟩ := hm_z
    obtain ⟨rfl, yq6652_z⟩ := rp_wrong q6652_z
    subst yq6652_z
    replace hm_z : rn _ _ _ _ [.int 0] _ _ _ := hm_z
    replace hm_z := rn_iret (am_cur_of (i := (157, 1, .ireturn, (0, 0, 0), 0)) (by decide +kernel)) hm_z
    obtain ⟨e6653_z, e6654_z⟩ := hm_z
    subst e6626_z e6654_z
    exact Or.inr ⟨e6625_z, rfl, z4_z.trans (rt_i32 (by rw [show (0 : Int32).toInt = 0 by decide]; omega)), e6653_z, rfl⟩
  · replace b6624_z : (0 : Int32).toInt < op.toInt := b6624_z
    replace hc_z := rn_aload_n (am_cur_of (i := (75, 1, .aload_n 0, (0, 0, 0), 0)) (by decide +kernel)) g0_z hc_z
    replace hc_z := rn_iconst (w := 1) (am_cur_of (i := (76, 1, .iconst 1, (0, 0, 0), 0)) (by decide +kernel)) (by decide) hc_z
    replace hc_z := rn_callV (M' := am_m29) (o := 44) (ar := [.int 1]) (rest := []) (L := lv_args 0 [.ref 44, .int 1]) (am_cur_of (i := (77, 3, .invokevirtual 108, (29, 769, 3), 0)) (by decide +kernel)) rfl rfl rfl rfl hc_z
    obtain ⟨r6655_z, h6656_z, q6657_z, hc_z⟩ := hc_z
    obtain ⟨rfl, yq6657_z⟩ := rp_fail R4 q6657_z
    subst yq6657_z
    replace hc_z : rn _ _ _ _ [] _ _ _ := hc_z
    have K := rs_stick (w := 1) (q := p) (a := 44) (by decide) (by decide) rfl (by decide) rfl (show rg_v (am_up (am_up h 44 1 (.int 1)) 44 2 (.int (rg_v h 44 9))) 44 2 = p from R5) hc_z
    replace hm_z := rn_aload_n (am_cur_of (i := (0, 1, .aload_n 0, (0, 0, 0), 0)) (by decide +kernel)) g0m hm_z
    replace hm_z := rn_bipush (w := 41) (am_cur_of (i := (1, 2, .bipush 41, (0, 0, 0), 0)) (by decide +kernel)) (by decide) hm_z
    replace hm_z := rn_callV (M' := am_m171) (o := 164) (ar := [.int 41]) (rest := []) (L := lv_args 0 [.ref 164, .int 41]) (am_cur_of (i := (3, 3, .invokevirtual 194, (171, 1715, 3), 0)) (by decide +kernel)) rfl rfl rfl rfl hm_z
    obtain ⟨r6658_z, h6659_z, q6660_z, hm_z⟩ := hm_z
    obtain ⟨rfl, yq6660_z⟩ := rp_sgN (fun q => absurd (Eq.trans (Eq.symm kc) q.1) (by decide)) q6660_z
    subst yq6660_z
    replace hm_z : rn _ _ _ _ [.int 0] _ _ _ := hm_z
    replace hm_z := rn_ifT (am_cur_of (i := (6, 3, .ifCond .eq 41, (26, 0, 0), 0)) (by decide +kernel)) (by decide) hm_z
    replace hm_z := rn_aload_n (am_cur_of (i := (47, 1, .aload_n 0, (0, 0, 0), 0)) (by decide +kernel)) g0m hm_z
    replace hm_z := rn_bipush (w := 12) (am_cur_of (i := (48, 2, .bipush 12, (0, 0, 0), 0)) (by decide +kernel)) (by decide) hm_z
    replace hm_z := rn_callV (M' := am_m174) (o := 164) (ar := [.int 12]) (rest := []) (L := lv_args 0 [.ref 164, .int 12]) (am_cur_of (i := (50, 3, .invokevirtual 306, (174, 1727, 3), 0)) (by decide +kernel)) rfl rfl rfl rfl hm_z
    obtain ⟨r6661_z, h6662_z, q6663_z, hm_z⟩ := hm_z
    obtain ⟨rfl, yq6663_z⟩ := rp_kyN (fun q => absurd (Eq.trans (Eq.symm kd) q.2) (by decide)) q6663_z
    subst yq6663_z
    replace hm_z : rn _ _ _ _ [.int 0] _ _ _ := hm_z
    replace hm_z := rn_ifT (am_cur_of (i := (53, 3, .ifCond .eq 7, (32, 0, 0), 0)) (by decide +kernel)) (by decide) hm_z
    replace hm_z := rn_aload_n (am_cur_of (i := (60, 1, .aload_n 0, (0, 0, 0), 0)) (by decide +kernel)) g0m hm_z
    replace hm_z := rn_bipush (w := 13) (am_cur_of (i := (61, 2, .bipush 13, (0, 0, 0), 0)) (by decide +kernel)) (by decide) hm_z
    replace hm_z := rn_callV (M' := am_m174) (o := 164) (ar := [.int 13]) (rest := []) (L := lv_args 0 [.ref 164, .int 13]) (am_cur_of (i := (63, 3, .invokevirtual 306, (174, 1727, 3), 0)) (by decide +kernel)) rfl rfl rfl rfl hm_z
    obtain ⟨r6664_z, h6665_z, q6666_z, hm_z⟩ := hm_z
    obtain ⟨rfl, yq6666_z⟩ := rp_kyN (fun q => absurd (Eq.trans (Eq.symm kd) q.2) (by decide)) q6666_z
    subst yq6666_z
    replace hm_z : rn _ _ _ _ [.int 0] _ _ _ := hm_z
    replace hm_z := rn_ifT (am_cur_of (i := (66, 3, .ifCond .eq 7, (38, 0, 0), 0)) (by decide +kernel)) (by decide) hm_z
    replace hm_z := rn_aload_n (am_cur_of (i := (73, 1, .aload_n 0, (0, 0, 0), 0)) (by decide +kernel)) g0m hm_z
    replace hm_z := rn_getI (v := 1) (am_cur_of (i := (74, 3, .getfield 157, (12, 8, 1392), 0)) (by decide +kernel)) (by decide +kernel) kc hm_z
    replace hm_z := rn_iconst (w := 5) (am_cur_of (i := (77, 1, .iconst 5, (0, 0, 0), 0)) (by decide +kernel)) (by decide) hm_z
    replace hm_z := rn_cmpT (am_cur_of (i := (78, 3, .if_icmp .ne 12, (47, 0, 0), 0)) (by decide +kernel)) (by decide) hm_z
    replace hm_z := rn_aload_n (am_cur_of (i := (90, 1, .aload_n 0, (0, 0, 0), 0)) (by decide +kernel)) g0m hm_z
    replace hm_z := rn_bipush (w := 43) (am_cur_of (i := (91, 2, .bipush 43, (0, 0, 0), 0)) (by decide +kernel)) (by decide) hm_z
    replace hm_z := rn_callV (M' := am_m171) (o := 164) (ar := [.int 43]) (rest := []) (L := lv_args 0 [.ref 164, .int 43]) (am_cur_of (i := (93, 3, .invokevirtual 194, (171, 1715, 3), 0)) (by decide +kernel)) rfl rfl rfl rfl hm_z
    obtain ⟨r6667_z, h6668_z, q6669_z, hm_z⟩ := hm_z
    obtain ⟨rfl, yq6669_z⟩ := rp_sgN (fun q => absurd (Eq.trans (Eq.symm kc) q.1) (by decide)) q6669_z
    subst yq6669_z
    replace hm_z : rn _ _ _ _ [.int 0] _ _ _ := hm_z
    replace hm_z := rn_ifT (am_cur_of (i := (96, 3, .ifCond .eq 8, (53, 0, 0), 0)) (by decide +kernel)) (by decide) hm_z
    replace hm_z := rn_aload_n (am_cur_of (i := (104, 1, .aload_n 0, (0, 0, 0), 0)) (by decide +kernel)) g0m hm_z
    replace hm_z := rn_bipush (w := 45) (am_cur_of (i := (105, 2, .bipush 45, (0, 0, 0), 0)) (by decide +kernel)) (by decide) hm_z
    replace hm_z := rn_callV (M' := am_m171) (o := 164) (ar := [.int 45]) (rest := []) (L := lv_args 0 [.ref 164, .int 45]) (am_cur_of (i := (107, 3, .invokevirtual 194, (171, 1715, 3), 0)) (by decide +kernel)) rfl rfl rfl rfl hm_z
    obtain ⟨r6670_z, h6671_z, q6672_z, hm_z⟩ := hm_z
    obtain ⟨rfl, yq6672_z⟩ := rp_sgN (fun q => absurd (Eq.trans (Eq.symm kc) q.1) (by decide)) q6672_z
    subst yq6672_z
    replace hm_z : rn _ _ _ _ [.int 0] _ _ _ := hm_z
    replace hm_z := rn_ifT (am_cur_of (i := (110, 3, .ifCond .eq 8, (59, 0, 0), 0)) (by decide +kernel)) (by decide) hm_z
    replace hm_z := rn_aload_n (am_cur_of (i := (118, 1, .aload_n 0, (0, 0, 0), 0)) (by decide +kernel)) g0m hm_z
    replace hm_z := rn_bipush (w := 42) (am_cur_of (i := (119, 2, .bipush 42, (0, 0, 0), 0)) (by decide +kernel)) (by decide) hm_z
    replace hm_z := rn_callV (M' := am_m171) (o := 164) (ar := [.int 42]) (rest := []) (L := lv_args 0 [.ref 164, .int 42]) (am_cur_of (i := (121, 3, .invokevirtual 194, (171, 1715, 3), 0)) (by decide +kernel)) rfl rfl rfl rfl hm_z
    obtain ⟨r6673_z, h6674_z, q6675_z, hm_z⟩ := hm_z
    obtain ⟨rfl, yq6675_z⟩ := rp_sgN (fun q => absurd (Eq.trans (Eq.symm kc) q.1) (by decide)) q6675_z
    subst yq6675_z
    replace hm_z : rn _ _ _ _ [.int 0] _ _ _ := hm_z
    replace hm_z := rn_ifT (am_cur_of (i := (124, 3, .ifCond .eq 8, (65, 0, 0), 0)) (by decide +kernel)) (by decide) hm_z
    replace hm_z := rn_aload_n (am_cur_of (i := (132, 1, .aload_n 0, (0, 0, 0), 0)) (by decide +kernel)) g0m hm_z
    replace hm_z := rn_bipush (w := 47) (am_cur_of (i := (133, 2, .bipush 47, (0, 0, 0), 0)) (by decide +kernel)) (by decide) hm_z
    replace hm_z := rn_callV (M' := am_m171) (o := 164) (ar := [.int 47]) (rest := []) (L := lv_args 0 [.ref 164, .int 47]) (am_cur_of (i := (135, 3, .invokevirtual 194, (171, 1715, 3), 0)) (by decide +kernel)) rfl rfl rfl rfl hm_z
    obtain ⟨r6676_z, h6677_z, q6678_z, hm_z⟩ := hm_z
    obtain ⟨rfl, yq6678_z⟩ := rp_sgN (fun q => absurd (Eq.trans (Eq.symm kc) q.1) (by decide)) q6678_z
    subst yq6678_z
    replace hm_z : rn _ _ _ _ [.int 0] _ _ _ := hm_z
    replace hm_z := rn_ifT (am_cur_of (i := (138, 3, .ifCond .eq 8, (71, 0, 0), 0)) (by decide +kernel)) (by decide) hm_z
    replace hm_z := rn_iconst (w := 0) (am_cur_of (i := (146, 1, .iconst 0, (0, 0, 0), 0)) (by decide +kernel)) (by decide) hm_z
    replace hm_z := rn_istore_n (am_cur_of (i := (147, 1, .istore_n 1, (0, 0, 0), 0)) (by decide +kernel)) hm_z
    obtain ⟨_, s6679_z, s6680_z, g1m, hm_z⟩ := hm_z
    replace g0m := s6679_z 0 _ (by decide) rfl g0m
    clear s6679_z s6680_z
    replace hm_z := rn_iload_n (am_cur_of (i := (148, 1, .iload_n 1, (0, 0, 0), 0)) (by decide +kernel)) g1m hm_z
    replace hm_z := rn_ifF (am_cur_of (i := (149, 3, .ifCond .ne 9, (79, 0, 0), 0)) (by decide +kernel)) (by decide) hm_z
    replace hm_z := rn_aload_n (am_cur_of (i := (152, 1, .aload_n 0, (0, 0, 0), 0)) (by decide +kernel)) g0m hm_z
    replace hm_z := rn_iconst (w := 1) (am_cur_of (i := (153, 1, .iconst 1, (0, 0, 0), 0)) (by decide +kernel)) (by decide) hm_z
    replace hm_z := rn_callV (M' := am_m158) (o := 164) (ar := [.int 1]) (rest := []) (L := lv_args 0 [.ref 164, .int 1]) (am_cur_of (i := (154, 3, .invokevirtual 181, (158, 1665, 3), 0)) (by decide +kernel)) rfl rfl rfl rfl hm_z
    obtain ⟨r6681_z, h6682_z, q6683_z, hm_z⟩ := hm_z
    obtain ⟨rfl, yq6683_z⟩ := rp_wrong q6683_z
    subst yq6683_z
    replace hm_z : rn _ _ _ _ [.int 0] _ _ _ := hm_z
    replace hm_z := rn_iret (am_cur_of (i := (157, 1, .ireturn, (0, 0, 0), 0)) (by decide +kernel)) hm_z
    obtain ⟨e6684_z, e6685_z⟩ := hm_z
    subst e6684_z e6685_z
    exact Or.inl (Or.inr ⟨rfl, 1, by decide, K.1, K.2, rfl, R6⟩)
theorem rj_c18_23 {T : Nat → Int32} {S x p : Int32} {n n' : Nat} {h h' g g' : am_H} {r r' : Option Value} (R : rq T S x p 23 h g) (A : rp 23 h g) (B : rp_t h g) (Z : rs 23 h g) (w0_z : rg_v g 164 45 = 0) (ka : (rg_v h 44 10) = 6) (kc : (rg_v g 164 8) = 5) (kb : (rg_v h 44 11) = 6) (kd : (rg_v g 164 9) = 0) (hc_z : rn n am_m44 0 (lv_args 0 [.ref 44]) [] h r h') (hm_z : rn n' am_m178 0 (lv_args 0 [.ref 164]) [] g r' g') : rj_Q T S x p 23 h g h' g' r r' := by
  have z0_z : (0 : Int32).toInt = 0 := by decide
  have z4_z : (4 : Int32).toInt = 4 := by decide
  have z6_z : (6 : Int32).toInt = 6 := by decide
  have g0_z : am_get (lv_args 0 [.ref 44]) 0 = some (.ref 44) := rfl
  have g0m : am_get (lv_args 0 [.ref 164]) 0 = some (.ref 164) := rfl
  have Rk := R
  have Zk := Z
  obtain ⟨⟨c1_z, c2_z, c3_z, c4_z, c5_z, c6_z, c7_z, c8_z⟩, ⟨m2_z, m3_z, m4_z, m5_z, m6_z, m7_z, m8_z⟩, R3, R4, R5, R6, R7, R8, R9, R10⟩ := (R : rq T S x p 23 h g)
  obtain ⟨np, op, z1_z, z2_z, z3_z, z4_z, z5_z, z6_z, z7_z, z8_z, z9_z, z10_z⟩ := (Z : rs 23 h g)
  obtain ⟨nk1_z, nk2_z, nk3_z⟩ := A.2.2.2.2.2.1
  replace nk1_z : rg_v h 32 0 = rg_v g 164 44 := nk1_z
  replace nk2_z : 0 ≤ (rg_v h 32 0).toInt := nk2_z
  replace nk3_z : (rg_v h 32 0).toInt ≤ 64 := nk3_z
  replace z8_z : np.toInt ≤ (rg_v h 32 0).toInt + op.toInt := z8_z
  obtain ⟨kn, ekn⟩ : ∃ v, rg_v h 32 0 = v := ⟨_, rfl⟩
  rw [ekn] at nk1_z nk2_z nk3_z z8_z
  have e9_z := rt_c1 (x := kn) (by omega) (by omega)
  replace hc_z := rn_aload_n (am_cur_of (i := (0, 1, .aload_n 0, (0, 0, 0), 0)) (by decide +kernel)) g0_z hc_z
  replace hc_z := rn_bipush (w := 41) (am_cur_of (i := (1, 2, .bipush 41, (0, 0, 0), 0)) (by decide +kernel)) (by decide) hc_z
  replace hc_z := rn_callV (M' := am_m45) (o := 44) (ar := [.int 41]) (rest := []) (L := lv_args 0 [.ref 44, .int 41]) (am_cur_of (i := (3, 3, .invokevirtual 105, (45, 834, 3), 0)) (by decide +kernel)) rfl rfl rfl rfl hc_z
  obtain ⟨r6686_z, h6687_z, q6688_z, hc_z⟩ := hc_z
  obtain ⟨rfl, yq6688_z⟩ := rp_mkN (fun q => absurd (Eq.trans (Eq.symm ka) q.1) (by decide)) q6688_z
  subst yq6688_z
  replace hc_z : rn _ _ _ _ [.int 0] _ _ _ := hc_z
  replace hc_z := rn_ifT (am_cur_of (i := (6, 3, .ifCond .eq 45, (28, 0, 0), 0)) (by decide +kernel)) (by decide) hc_z
  replace hc_z := rn_aload_n (am_cur_of (i := (51, 1, .aload_n 0, (0, 0, 0), 0)) (by decide +kernel)) g0_z hc_z
  replace hc_z := rn_getI (v := 6) (am_cur_of (i := (52, 3, .getfield 60, (4, 10, 419), 0)) (by decide +kernel)) (by decide +kernel) ka hc_z
  replace hc_z := rn_bipush (w := 6) (am_cur_of (i := (55, 2, .bipush 6, (0, 0, 0), 0)) (by decide +kernel)) (by decide) hc_z
  replace hc_z := rn_cmpF (am_cur_of (i := (57, 3, .if_icmp .ne 11, (36, 0, 0), 0)) (by decide +kernel)) (by decide) hc_z
  replace hc_z := rn_aload_n (am_cur_of (i := (60, 1, .aload_n 0, (0, 0, 0), 0)) (by decide +kernel)) g0_z hc_z
  replace hc_z := rn_getI (v := 6) (am_cur_of (i := (61, 3, .getfield 91, (4, 11, 420), 0)) (by decide +kernel)) (by decide +kernel) kb hc_z
  replace hc_z := rn_iconst (w := 5) (am_cur_of (i := (64, 1, .iconst 5, (0, 0, 0), 0)) (by decide +kernel)) (by decide) hc_z
  replace hc_z := rn_cmpT (am_cur_of (i := (65, 3, .if_icmp .ne 17, (44, 0, 0), 0)) (by decide +kernel)) (by decide) hc_z
  replace hc_z := rn_aload_n (am_cur_of (i := (82, 1, .aload_n 0, (0, 0, 0), 0)) (by decide +kernel)) g0_z hc_z
  replace hc_z := rn_getI (v := 6) (am_cur_of (i := (83, 3, .getfield 91, (4, 11, 420), 0)) (by decide +kernel)) (by decide +kernel) kb hc_z
  replace hc_z := rn_istore_n (am_cur_of (i := (86, 1, .istore_n 1, (0, 0, 0), 0)) (by decide +kernel)) hc_z
  obtain ⟨_, s6689_z, s6690_z, g1_z, hc_z⟩ := hc_z
  replace g0_z := s6689_z 0 _ (by decide) rfl g0_z
  clear s6689_z s6690_z
  replace hc_z := rn_iload_n (am_cur_of (i := (87, 1, .iload_n 1, (0, 0, 0), 0)) (by decide +kernel)) g1_z hc_z
  replace hc_z := rn_callS (M' := am_m47) (ar := [.int 6]) (rest := []) (L := lv_args 0 [.int 6]) (am_cur_of (i := (88, 3, .invokestatic 283, (47, 842, 3), 0)) (by decide +kernel)) rfl rfl rfl rfl hc_z
  obtain ⟨r6691_z, h6692_z, q6693_z, hc_z⟩ := hc_z
  obtain ⟨rfl, yq6693_z⟩ := rs_rankC q6693_z
  replace yq6693_z := yq6693_z.symm
  subst yq6693_z
  rw [show rk_C 6 = 6 by decide] at hc_z
  replace hc_z : rn _ _ _ _ [.int 6] _ _ _ := hc_z
  replace hc_z := rn_bipush (w := 6) (am_cur_of (i := (91, 2, .bipush 6, (0, 0, 0), 0)) (by decide +kernel)) (by decide) hc_z
  replace hc_z := rn_callS (M' := am_m47) (ar := [.int 6]) (rest := [.int 6]) (L := lv_args 0 [.int 6]) (am_cur_of (i := (93, 3, .invokestatic 283, (47, 842, 3), 0)) (by decide +kernel)) rfl rfl rfl rfl hc_z
  obtain ⟨r6694_z, h6695_z, q6696_z, hc_z⟩ := hc_z
  obtain ⟨rfl, yq6696_z⟩ := rs_rankC q6696_z
  replace yq6696_z := yq6696_z.symm
  subst yq6696_z
  rw [show rk_C 6 = 6 by decide] at hc_z
  replace hc_z : rn _ _ _ _ [.int 6, .int 6] _ _ _ := hc_z
  replace hc_z := rn_cmpF (am_cur_of (i := (96, 3, .if_icmp .ne 46, (73, 0, 0), 0)) (by decide +kernel)) (by decide) hc_z
  replace hc_z := rn_aload_n (am_cur_of (i := (99, 1, .aload_n 0, (0, 0, 0), 0)) (by decide +kernel)) g0_z hc_z
  replace hc_z := rn_bipush (w := 12) (am_cur_of (i := (100, 2, .bipush 12, (0, 0, 0), 0)) (by decide +kernel)) (by decide) hc_z
  replace hc_z := rn_callV (M' := am_m46) (o := 44) (ar := [.int 12]) (rest := []) (L := lv_args 0 [.ref 44, .int 12]) (am_cur_of (i := (102, 3, .invokevirtual 264, (46, 838, 3), 0)) (by decide +kernel)) rfl rfl rfl rfl hc_z
  obtain ⟨r6697_z, h6698_z, q6699_z, hc_z⟩ := hc_z
  replace hm_z := rn_aload_n (am_cur_of (i := (0, 1, .aload_n 0, (0, 0, 0), 0)) (by decide +kernel)) g0m hm_z
  replace hm_z := rn_bipush (w := 41) (am_cur_of (i := (1, 2, .bipush 41, (0, 0, 0), 0)) (by decide +kernel)) (by decide) hm_z
  replace hm_z := rn_callV (M' := am_m171) (o := 164) (ar := [.int 41]) (rest := []) (L := lv_args 0 [.ref 164, .int 41]) (am_cur_of (i := (3, 3, .invokevirtual 194, (171, 1715, 3), 0)) (by decide +kernel)) rfl rfl rfl rfl hm_z
  obtain ⟨r6700_z, h6701_z, q6702_z, hm_z⟩ := hm_z
  obtain ⟨rfl, yq6702_z⟩ := rp_sgN (fun q => absurd (Eq.trans (Eq.symm kc) q.1) (by decide)) q6702_z
  subst yq6702_z
  replace hm_z : rn _ _ _ _ [.int 0] _ _ _ := hm_z
  replace hm_z := rn_ifT (am_cur_of (i := (6, 3, .ifCond .eq 41, (26, 0, 0), 0)) (by decide +kernel)) (by decide) hm_z
  replace hm_z := rn_aload_n (am_cur_of (i := (47, 1, .aload_n 0, (0, 0, 0), 0)) (by decide +kernel)) g0m hm_z
  replace hm_z := rn_bipush (w := 12) (am_cur_of (i := (48, 2, .bipush 12, (0, 0, 0), 0)) (by decide +kernel)) (by decide) hm_z
  replace hm_z := rn_callV (M' := am_m174) (o := 164) (ar := [.int 12]) (rest := []) (L := lv_args 0 [.ref 164, .int 12]) (am_cur_of (i := (50, 3, .invokevirtual 306, (174, 1727, 3), 0)) (by decide +kernel)) rfl rfl rfl rfl hm_z
  obtain ⟨r6703_z, h6704_z, q6705_z, hm_z⟩ := hm_z
  obtain ⟨rfl, yq6705_z⟩ := rp_kyN (fun q => absurd (Eq.trans (Eq.symm kc) q.1) (by decide)) q6705_z
  subst yq6705_z
  replace hm_z : rn _ _ _ _ [.int 0] _ _ _ := hm_z
  replace hm_z := rn_ifT (am_cur_of (i := (53, 3, .ifCond .eq 7, (32, 0, 0), 0)) (by decide +kernel)) (by decide) hm_z
  replace hm_z := rn_aload_n (am_cur_of (i := (60, 1, .aload_n 0, (0, 0, 0), 0)) (by decide +kernel)) g0m hm_z
  replace hm_z := rn_bipush (w := 13) (am_cur_of (i := (61, 2, .bipush 13, (0, 0, 0), 0)) (by decide +kernel)) (by decide) hm_z
  replace hm_z := rn_callV (M' := am_m174) (o := 164) (ar := [.int 13]) (rest := []) (L := lv_args 0 [.ref 164, .int 13]) (am_cur_of (i := (63, 3, .invokevirtual 306, (174, 1727, 3), 0)) (by decide +kernel)) rfl rfl rfl rfl hm_z
  obtain ⟨r6706_z, h6707_z, q6708_z, hm_z⟩ := hm_z
  obtain ⟨rfl, yq6708_z⟩ := rp_kyN (fun q => absurd (Eq.trans (Eq.symm kc) q.1) (by decide)) q6708_z
  subst yq6708_z
  replace hm_z : rn _ _ _ _ [.int 0] _ _ _ := hm_z
  replace hm_z := rn_ifT (am_cur_of (i := (66, 3, .ifCond .eq 7, (38, 0, 0), 0)) (by decide +kernel)) (by decide) hm_z
  replace hm_z := rn_aload_n (am_cur_of (i := (73, 1, .aload_n 0, (0, 0, 0), 0)) (by decide +kernel)) g0m hm_z
  replace hm_z := rn_getI (v := 5) (am_cur_of (i := (74, 3, .getfield 157, (12, 8, 1392), 0)) (by decide +kernel)) (by decide +kernel) kc hm_z
  replace hm_z := rn_iconst (w := 5) (am_cur_of (i := (77, 1, .iconst 5, (0, 0, 0), 0)) (by decide +kernel)) (by decide) hm_z
  replace hm_z := rn_cmpF (am_cur_of (i := (78, 3, .if_icmp .ne 12, (47, 0, 0), 0)) (by decide +kernel)) (by decide) hm_z
  replace hm_z := rn_iconst (w := 5) (am_cur_of (i := (81, 1, .iconst 5, (0, 0, 0), 0)) (by decide +kernel)) (by decide) hm_z
  replace hm_z := rn_aload_n (am_cur_of (i := (82, 1, .aload_n 0, (0, 0, 0), 0)) (by decide +kernel)) g0m hm_z
  replace hm_z := rn_getI (v := 0) (am_cur_of (i := (83, 3, .getfield 168, (12, 9, 1393), 0)) (by decide +kernel)) (by decide +kernel) kd hm_z
  replace hm_z := rn_iadd (w := 5) (am_cur_of (i := (86, 1, .iadd, (0, 0, 0), 0)) (by decide +kernel)) (by decide) hm_z
  replace hm_z := rn_goto (am_cur_of (i := (87, 3, .goto 60, (72, 0, 0), 0)) (by decide +kernel)) hm_z
  replace hm_z := rn_istore_n (am_cur_of (i := (147, 1, .istore_n 1, (0, 0, 0), 0)) (by decide +kernel)) hm_z
  obtain ⟨_, s6709_z, s6710_z, g1m, hm_z⟩ := hm_z
  replace g0m := s6709_z 0 _ (by decide) rfl g0m
  clear s6709_z s6710_z
  replace hm_z := rn_iload_n (am_cur_of (i := (148, 1, .iload_n 1, (0, 0, 0), 0)) (by decide +kernel)) g1m hm_z
  replace hm_z := rn_ifT (am_cur_of (i := (149, 3, .ifCond .ne 9, (79, 0, 0), 0)) (by decide +kernel)) (by decide) hm_z
  replace hm_z := rn_aload_n (am_cur_of (i := (158, 1, .aload_n 0, (0, 0, 0), 0)) (by decide +kernel)) g0m hm_z
  replace hm_z := rn_iload_n (am_cur_of (i := (159, 1, .iload_n 1, (0, 0, 0), 0)) (by decide +kernel)) g1m hm_z
  replace hm_z := rn_callS (M' := am_m180) (ar := [.int 5]) (rest := [.ref 164]) (L := lv_args 0 [.int 5]) (am_cur_of (i := (160, 3, .invokestatic 283, (180, 1751, 3), 0)) (by decide +kernel)) rfl rfl rfl rfl hm_z
  obtain ⟨r6711_z, h6712_z, q6713_z, hm_z⟩ := hm_z
  obtain ⟨rfl, yq6713_z⟩ := rs_rankM q6713_z
  replace yq6713_z := yq6713_z.symm
  subst yq6713_z
  rw [show rk_M 5 = 4 by decide] at hm_z
  replace hm_z : rn _ _ _ _ [.int 4, .ref 164] _ _ _ := hm_z
  replace hm_z := rn_iconst (w := 4) (am_cur_of (i := (163, 1, .iconst 4, (0, 0, 0), 0)) (by decide +kernel)) (by decide) hm_z
  replace hm_z := rn_cmpF (am_cur_of (i := (164, 3, .if_icmp .ne 7, (86, 0, 0), 0)) (by decide +kernel)) (by decide) hm_z
  replace hm_z := rn_iconst (w := 5) (am_cur_of (i := (167, 1, .iconst 5, (0, 0, 0), 0)) (by decide +kernel)) (by decide) hm_z
  replace hm_z := rn_goto (am_cur_of (i := (168, 3, .goto 7, (88, 0, 0), 0)) (by decide +kernel)) hm_z
  replace hm_z := rn_callV (M' := am_m179) (o := 164) (ar := [.int 5]) (rest := []) (L := lv_args 0 [.ref 164, .int 5]) (am_cur_of (i := (175, 3, .invokevirtual 318, (179, 1747, 3), 0)) (by decide +kernel)) rfl rfl rfl rfl hm_z
  obtain ⟨r6714_z, h6715_z, q6716_z, hm_z⟩ := hm_z
  obtain ⟨rfl, rfl, FC, FM, R, A, B, Z, nq, e13_z, hst⟩ := rz_set23 rs_l12 (by decide) Rk A B Zk q6699_z q6716_z
  have Zq := Z
  obtain ⟨np, op, z1_z, z2_z, z3_z, z4_z, z5_z, z6_z, z7_z, z8_z, z9_z, z10_z⟩ := Zq
  obtain rfl : np = nq := z1_z.symm.trans e13_z
  replace hm_z : rn _ _ _ _ [] _ _ _ := hm_z
  replace hc_z : rn _ _ _ _ [] _ _ _ := hc_z
  have cn := rt_cl z3_z
  have zz1_z : (1 : Int32).toInt = 1 := by decide
  have n31_z := (ab_32 np).2
  have y1_z := ab_isub (x := np) (y := 1) (by omega) (by omega)
  replace hc_z := rn_aload_n (am_cur_of (i := (105, 1, .aload_n 0, (0, 0, 0), 0)) (by decide +kernel)) g0_z hc_z
  replace hc_z := rn_getI (v := np) (am_cur_of (i := (106, 3, .getfield 251, (4, 13, 422), 0)) (by decide +kernel)) (by decide +kernel) z1_z hc_z
  replace hc_z := rn_if (am_cur_of (i := (109, 3, .ifCond .le 38, (76, 0, 0), 0)) (by decide +kernel)) hc_z
  rcases hc_z with ⟨b6717_z, hc_z⟩ | ⟨b6717_z, hc_z⟩
  · replace b6717_z : np.toInt ≤ (0 : Int32).toInt := b6717_z
    replace hm_z := rn_iload_n (am_cur_of (i := (178, 1, .iload_n 1, (0, 0, 0), 0)) (by decide +kernel)) g1m hm_z
    replace hm_z := rn_callS (M' := am_m180) (ar := [.int 5]) (rest := []) (L := lv_args 0 [.int 5]) (am_cur_of (i := (179, 3, .invokestatic 283, (180, 1751, 3), 0)) (by decide +kernel)) rfl rfl rfl rfl hm_z
    obtain ⟨r6718_z, h6719_z, q6720_z, hm_z⟩ := hm_z
    obtain ⟨rfl, yq6720_z⟩ := rs_rankM q6720_z
    replace yq6720_z := yq6720_z.symm
    subst yq6720_z
    rw [show rk_M 5 = 4 by decide] at hm_z
    replace hm_z : rn _ _ _ _ [.int 4] _ _ _ := hm_z
    replace hm_z := rn_iconst (w := 4) (am_cur_of (i := (182, 1, .iconst 4, (0, 0, 0), 0)) (by decide +kernel)) (by decide) hm_z
    replace hm_z := rn_cmpF (am_cur_of (i := (183, 3, .if_icmp .ne 34, (110, 0, 0), 0)) (by decide +kernel)) (by decide) hm_z
    replace hm_z := rn_aload_n (am_cur_of (i := (186, 1, .aload_n 0, (0, 0, 0), 0)) (by decide +kernel)) g0m hm_z
    replace hm_z := rn_getI (v := np) (am_cur_of (i := (187, 3, .getfield 280, (12, 41, 1425), 0)) (by decide +kernel)) (by decide +kernel) z2_z hm_z
    replace hm_z := rn_if (am_cur_of (i := (190, 3, .ifCond .le 27, (110, 0, 0), 0)) (by decide +kernel)) hm_z
    rcases hm_z with ⟨b6721_z, hm_z⟩ | ⟨b6721_z, hm_z⟩
    · replace b6721_z : np.toInt ≤ (0 : Int32).toInt := b6721_z
      exact Or.inl (rj_t6_23 R A B Z g0_z g1_z g0m g1m hc_z hm_z)
    · replace b6721_z : (0 : Int32).toInt < np.toInt := b6721_z
      omega
  · replace b6717_z : (0 : Int32).toInt < np.toInt := b6717_z
    replace hc_z := rn_aload_n (am_cur_of (i := (112, 1, .aload_n 0, (0, 0, 0), 0)) (by decide +kernel)) g0_z hc_z
    replace hc_z := rn_getR (x := 47) (am_cur_of (i := (113, 3, .getfield 22, (4, 12, 421), 0)) (by decide +kernel)) (by decide +kernel) hc_z
    replace hc_z := rn_aload_n (am_cur_of (i := (116, 1, .aload_n 0, (0, 0, 0), 0)) (by decide +kernel)) g0_z hc_z
    replace hc_z := rn_getI (v := np) (am_cur_of (i := (117, 3, .getfield 251, (4, 13, 422), 0)) (by decide +kernel)) (by decide +kernel) z1_z hc_z
    replace hc_z := rn_iconst (w := 1) (am_cur_of (i := (120, 1, .iconst 1, (0, 0, 0), 0)) (by decide +kernel)) (by decide) hc_z
    replace hc_z := rn_isub (w := np - 1) (am_cur_of (i := (121, 1, .isub, (0, 0, 0), 0)) (by decide +kernel)) rfl hc_z
    replace hc_z := rn_iaload (N := 72) (q := (np - 1).toNatClampNeg) (v := rg_v h6698_z 47 (np.toNatClampNeg - 1)) (am_cur_of (i := (122, 1, .iaload, (0, 0, 0), 0)) (by decide +kernel)) (by decide +kernel) rfl (by rw [show (np - 1).toNatClampNeg = np.toNatClampNeg - 1 by have := rt_cl (x := np - 1) (by omega); omega]) hc_z
    obtain ⟨p6722_z, hc_z⟩ := hc_z
    replace hc_z := rn_callS (M' := am_m47) (ar := [.int (rg_v h6698_z 47 (np.toNatClampNeg - 1))]) (rest := []) (L := lv_args 0 [.int (rg_v h6698_z 47 (np.toNatClampNeg - 1))]) (am_cur_of (i := (123, 3, .invokestatic 283, (47, 842, 3), 0)) (by decide +kernel)) rfl rfl rfl rfl hc_z
    obtain ⟨r6723_z, h6724_z, q6725_z, hc_z⟩ := hc_z
    obtain ⟨rfl, yq6725_z⟩ := rs_rankC q6725_z
    replace yq6725_z := yq6725_z.symm
    subst yq6725_z
    replace hc_z : rn _ _ _ _ [.int (rk_C (rg_v h6698_z 47 (np.toNatClampNeg - 1)))] _ _ _ := hc_z
    replace hc_z := rn_bipush (w := 6) (am_cur_of (i := (126, 2, .bipush 6, (0, 0, 0), 0)) (by decide +kernel)) (by decide) hc_z
    replace hc_z := rn_callS (M' := am_m47) (ar := [.int 6]) (rest := [.int (rk_C (rg_v h6698_z 47 (np.toNatClampNeg - 1)))]) (L := lv_args 0 [.int 6]) (am_cur_of (i := (128, 3, .invokestatic 283, (47, 842, 3), 0)) (by decide +kernel)) rfl rfl rfl rfl hc_z
    obtain ⟨r6726_z, h6727_z, q6728_z, hc_z⟩ := hc_z
    obtain ⟨rfl, yq6728_z⟩ := rs_rankC q6728_z
    replace yq6728_z := yq6728_z.symm
    subst yq6728_z
    rw [show rk_C 6 = 6 by decide] at hc_z
    replace hc_z : rn _ _ _ _ [.int 6, .int (rk_C (rg_v h6698_z 47 (np.toNatClampNeg - 1)))] _ _ _ := hc_z
    replace hc_z := rn_cmp (am_cur_of (i := (131, 3, .if_icmp .ne 16, (76, 0, 0), 0)) (by decide +kernel)) hc_z
    rcases hc_z with ⟨b6729_z, hc_z⟩ | ⟨b6729_z, hc_z⟩
    · replace b6729_z : ¬ (rk_C (rg_v h6698_z 47 (np.toNatClampNeg - 1))) = (6 : Int32) ∧ ¬ (rk_C (rg_v h6698_z 47 (np.toNatClampNeg - 1))).toInt = (6 : Int32).toInt := b6729_z
      replace hm_z := rn_iload_n (am_cur_of (i := (178, 1, .iload_n 1, (0, 0, 0), 0)) (by decide +kernel)) g1m hm_z
      replace hm_z := rn_callS (M' := am_m180) (ar := [.int 5]) (rest := []) (L := lv_args 0 [.int 5]) (am_cur_of (i := (179, 3, .invokestatic 283, (180, 1751, 3), 0)) (by decide +kernel)) rfl rfl rfl rfl hm_z
      obtain ⟨r6730_z, h6731_z, q6732_z, hm_z⟩ := hm_z
      obtain ⟨rfl, yq6732_z⟩ := rs_rankM q6732_z
      replace yq6732_z := yq6732_z.symm
      subst yq6732_z
      rw [show rk_M 5 = 4 by decide] at hm_z
      replace hm_z : rn _ _ _ _ [.int 4] _ _ _ := hm_z
      replace hm_z := rn_iconst (w := 4) (am_cur_of (i := (182, 1, .iconst 4, (0, 0, 0), 0)) (by decide +kernel)) (by decide) hm_z
      replace hm_z := rn_cmpF (am_cur_of (i := (183, 3, .if_icmp .ne 34, (110, 0, 0), 0)) (by decide +kernel)) (by decide) hm_z
      replace hm_z := rn_aload_n (am_cur_of (i := (186, 1, .aload_n 0, (0, 0, 0), 0)) (by decide +kernel)) g0m hm_z
      replace hm_z := rn_getI (v := np) (am_cur_of (i := (187, 3, .getfield 280, (12, 41, 1425), 0)) (by decide +kernel)) (by decide +kernel) z2_z hm_z
      replace hm_z := rn_if (am_cur_of (i := (190, 3, .ifCond .le 27, (110, 0, 0), 0)) (by decide +kernel)) hm_z
      rcases hm_z with ⟨b6733_z, hm_z⟩ | ⟨b6733_z, hm_z⟩
      · replace b6733_z : np.toInt ≤ (0 : Int32).toInt := b6733_z
        omega
      · replace b6733_z : (0 : Int32).toInt < np.toInt := b6733_z
        replace hm_z := rn_aload_n (am_cur_of (i := (193, 1, .aload_n 0, (0, 0, 0), 0)) (by decide +kernel)) g0m hm_z
        replace hm_z := rn_getR (x := 184) (am_cur_of (i := (194, 3, .getfield 72, (12, 39, 1423), 0)) (by decide +kernel)) (by decide +kernel) hm_z
        replace hm_z := rn_aload_n (am_cur_of (i := (197, 1, .aload_n 0, (0, 0, 0), 0)) (by decide +kernel)) g0m hm_z
        replace hm_z := rn_getI (v := np) (am_cur_of (i := (198, 3, .getfield 280, (12, 41, 1425), 0)) (by decide +kernel)) (by decide +kernel) z2_z hm_z
        replace hm_z := rn_iconst (w := 1) (am_cur_of (i := (201, 1, .iconst 1, (0, 0, 0), 0)) (by decide +kernel)) (by decide) hm_z
        replace hm_z := rn_isub (w := np - 1) (am_cur_of (i := (202, 1, .isub, (0, 0, 0), 0)) (by decide +kernel)) rfl hm_z
        replace hm_z := rn_iaload (N := 96) (q := (np - 1).toNatClampNeg) (v := rg_v h6715_z 184 (np.toNatClampNeg - 1)) (am_cur_of (i := (203, 1, .iaload, (0, 0, 0), 0)) (by decide +kernel)) (by decide +kernel) rfl (by rw [show (np - 1).toNatClampNeg = np.toNatClampNeg - 1 by have := rt_cl (x := np - 1) (by omega); omega]) hm_z
        obtain ⟨p6734_z, hm_z⟩ := hm_z
        replace hm_z := rn_callS (M' := am_m180) (ar := [.int (rg_v h6715_z 184 (np.toNatClampNeg - 1))]) (rest := []) (L := lv_args 0 [.int (rg_v h6715_z 184 (np.toNatClampNeg - 1))]) (am_cur_of (i := (204, 3, .invokestatic 283, (180, 1751, 3), 0)) (by decide +kernel)) rfl rfl rfl rfl hm_z
        obtain ⟨r6735_z, h6736_z, q6737_z, hm_z⟩ := hm_z
        obtain ⟨rfl, yq6737_z⟩ := rs_rankM q6737_z
        replace yq6737_z := yq6737_z.symm
        subst yq6737_z
        replace hm_z : rn _ _ _ _ [.int (rk_M (rg_v h6715_z 184 (np.toNatClampNeg - 1)))] _ _ _ := hm_z
        replace hm_z := rn_iconst (w := 4) (am_cur_of (i := (207, 1, .iconst 4, (0, 0, 0), 0)) (by decide +kernel)) (by decide) hm_z
        replace hm_z := rn_cmp (am_cur_of (i := (208, 3, .if_icmp .ne 9, (110, 0, 0), 0)) (by decide +kernel)) hm_z
        rcases hm_z with ⟨b6738_z, hm_z⟩ | ⟨b6738_z, hm_z⟩
        · replace b6738_z : ¬ (rk_M (rg_v h6715_z 184 (np.toNatClampNeg - 1))) = (4 : Int32) ∧ ¬ (rk_M (rg_v h6715_z 184 (np.toNatClampNeg - 1))).toInt = (4 : Int32).toInt := b6738_z
          exact Or.inl (rj_t6_23 R A B Z g0_z g1_z g0m g1m hc_z hm_z)
        · replace b6738_z : (rk_M (rg_v h6715_z 184 (np.toNatClampNeg - 1))) = (4 : Int32) ∧ (rk_M (rg_v h6715_z 184 (np.toNatClampNeg - 1))).toInt = (4 : Int32).toInt := b6738_z
          exact absurd b6738_z.2 (fun q4_z => b6729_z.2 ((rs_o64 (z9_z (np.toNatClampNeg - 1) (by omega))).mpr (q4_z.trans (by decide))))
    · replace b6729_z : (rk_C (rg_v h6698_z 47 (np.toNatClampNeg - 1))) = (6 : Int32) ∧ (rk_C (rg_v h6698_z 47 (np.toNatClampNeg - 1))).toInt = (6 : Int32).toInt := b6729_z
      replace hc_z := rn_aload_n (am_cur_of (i := (134, 1, .aload_n 0, (0, 0, 0), 0)) (by decide +kernel)) g0_z hc_z
      replace hc_z := rn_iconst (w := 1) (am_cur_of (i := (135, 1, .iconst 1, (0, 0, 0), 0)) (by decide +kernel)) (by decide) hc_z
      replace hc_z := rn_callV (M' := am_m29) (o := 44) (ar := [.int 1]) (rest := []) (L := lv_args 0 [.ref 44, .int 1]) (am_cur_of (i := (136, 3, .invokevirtual 108, (29, 769, 3), 0)) (by decide +kernel)) rfl rfl rfl rfl hc_z
      obtain ⟨r6739_z, h6740_z, q6741_z, hc_z⟩ := hc_z
      obtain ⟨rfl, yq6741_z⟩ := rp_fail R.2.2.2.1 q6741_z
      subst yq6741_z
      replace hc_z : rn _ _ _ _ [] _ _ _ := hc_z
      have K := rs_stick (w := 1) (q := p) (a := 44) (by decide) (by decide) rfl (by decide) rfl (show rg_v (am_up (am_up h6698_z 44 1 (.int 1)) 44 2 (.int (rg_v h6698_z 44 9))) 44 2 = p from R.2.2.2.2.1) hc_z
      replace hm_z := rn_iload_n (am_cur_of (i := (178, 1, .iload_n 1, (0, 0, 0), 0)) (by decide +kernel)) g1m hm_z
      replace hm_z := rn_callS (M' := am_m180) (ar := [.int 5]) (rest := []) (L := lv_args 0 [.int 5]) (am_cur_of (i := (179, 3, .invokestatic 283, (180, 1751, 3), 0)) (by decide +kernel)) rfl rfl rfl rfl hm_z
      obtain ⟨r6742_z, h6743_z, q6744_z, hm_z⟩ := hm_z
      obtain ⟨rfl, yq6744_z⟩ := rs_rankM q6744_z
      replace yq6744_z := yq6744_z.symm
      subst yq6744_z
      rw [show rk_M 5 = 4 by decide] at hm_z
      replace hm_z : rn _ _ _ _ [.int 4] _ _ _ := hm_z
      replace hm_z := rn_iconst (w := 4) (am_cur_of (i := (182, 1, .iconst 4, (0, 0, 0), 0)) (by decide +kernel)) (by decide) hm_z
      replace hm_z := rn_cmpF (am_cur_of (i := (183, 3, .if_icmp .ne 34, (110, 0, 0), 0)) (by decide +kernel)) (by decide) hm_z
      replace hm_z := rn_aload_n (am_cur_of (i := (186, 1, .aload_n 0, (0, 0, 0), 0)) (by decide +kernel)) g0m hm_z
      replace hm_z := rn_getI (v := np) (am_cur_of (i := (187, 3, .getfield 280, (12, 41, 1425), 0)) (by decide +kernel)) (by decide +kernel) z2_z hm_z
      replace hm_z := rn_if (am_cur_of (i := (190, 3, .ifCond .le 27, (110, 0, 0), 0)) (by decide +kernel)) hm_z
      rcases hm_z with ⟨b6745_z, hm_z⟩ | ⟨b6745_z, hm_z⟩
      · replace b6745_z : np.toInt ≤ (0 : Int32).toInt := b6745_z
        omega
      · replace b6745_z : (0 : Int32).toInt < np.toInt := b6745_z
        replace hm_z := rn_aload_n (am_cur_of (i := (193, 1, .aload_n 0, (0, 0, 0), 0)) (by decide +kernel)) g0m hm_z
        replace hm_z := rn_getR (x := 184) (am_cur_of (i := (194, 3, .getfield 72, (12, 39, 1423), 0)) (by decide +kernel)) (by decide +kernel) hm_z
        replace hm_z := rn_aload_n (am_cur_of (i := (197, 1, .aload_n 0, (0, 0, 0), 0)) (by decide +kernel)) g0m hm_z
        replace hm_z := rn_getI (v := np) (am_cur_of (i := (198, 3, .getfield 280, (12, 41, 1425), 0)) (by decide +kernel)) (by decide +kernel) z2_z hm_z
        replace hm_z := rn_iconst (w := 1) (am_cur_of (i := (201, 1, .iconst 1, (0, 0, 0), 0)) (by decide +kernel)) (by decide) hm_z
        replace hm_z := rn_isub (w := np - 1) (am_cur_of (i := (202, 1, .isub, (0, 0, 0), 0)) (by decide +kernel)) rfl hm_z
        replace hm_z := rn_iaload (N := 96) (q := (np - 1).toNatClampNeg) (v := rg_v h6715_z 184 (np.toNatClampNeg - 1)) (am_cur_of (i := (203, 1, .iaload, (0, 0, 0), 0)) (by decide +kernel)) (by decide +kernel) rfl (by rw [show (np - 1).toNatClampNeg = np.toNatClampNeg - 1 by have := rt_cl (x := np - 1) (by omega); omega]) hm_z
        obtain ⟨p6746_z, hm_z⟩ := hm_z
        replace hm_z := rn_callS (M' := am_m180) (ar := [.int (rg_v h6715_z 184 (np.toNatClampNeg - 1))]) (rest := []) (L := lv_args 0 [.int (rg_v h6715_z 184 (np.toNatClampNeg - 1))]) (am_cur_of (i := (204, 3, .invokestatic 283, (180, 1751, 3), 0)) (by decide +kernel)) rfl rfl rfl rfl hm_z
        obtain ⟨r6747_z, h6748_z, q6749_z, hm_z⟩ := hm_z
        obtain ⟨rfl, yq6749_z⟩ := rs_rankM q6749_z
        replace yq6749_z := yq6749_z.symm
        subst yq6749_z
        replace hm_z : rn _ _ _ _ [.int (rk_M (rg_v h6715_z 184 (np.toNatClampNeg - 1)))] _ _ _ := hm_z
        replace hm_z := rn_iconst (w := 4) (am_cur_of (i := (207, 1, .iconst 4, (0, 0, 0), 0)) (by decide +kernel)) (by decide) hm_z
        replace hm_z := rn_cmp (am_cur_of (i := (208, 3, .if_icmp .ne 9, (110, 0, 0), 0)) (by decide +kernel)) hm_z
        rcases hm_z with ⟨b6750_z, hm_z⟩ | ⟨b6750_z, hm_z⟩
        · replace b6750_z : ¬ (rk_M (rg_v h6715_z 184 (np.toNatClampNeg - 1))) = (4 : Int32) ∧ ¬ (rk_M (rg_v h6715_z 184 (np.toNatClampNeg - 1))).toInt = (4 : Int32).toInt := b6750_z
          exact absurd ((rs_o64 (z9_z (np.toNatClampNeg - 1) (by omega))).mp (b6729_z.2.trans (by decide))) (fun q4_z => b6750_z.2 (q4_z.trans (by decide)))
        · replace b6750_z : (rk_M (rg_v h6715_z 184 (np.toNatClampNeg - 1))) = (4 : Int32) ∧ (rk_M (rg_v h6715_z 184 (np.toNatClampNeg - 1))).toInt = (4 : Int32).toInt := b6750_z
          replace hm_z := rn_aload_n (am_cur_of (i := (211, 1, .aload_n 0, (0, 0, 0), 0)) (by decide +kernel)) g0m hm_z
          replace hm_z := rn_iconst (w := 1) (am_cur_of (i := (212, 1, .iconst 1, (0, 0, 0), 0)) (by decide +kernel)) (by decide) hm_z
          replace hm_z := rn_callV (M' := am_m158) (o := 164) (ar := [.int 1]) (rest := []) (L := lv_args 0 [.ref 164, .int 1]) (am_cur_of (i := (213, 3, .invokevirtual 181, (158, 1665, 3), 0)) (by decide +kernel)) rfl rfl rfl rfl hm_z
          obtain ⟨r6751_z, h6752_z, q6753_z, hm_z⟩ := hm_z
          obtain ⟨rfl, yq6753_z⟩ := rp_wrong q6753_z
          subst yq6753_z
          replace hm_z : rn _ _ _ _ [.int 0] _ _ _ := hm_z
          replace hm_z := rn_iret (am_cur_of (i := (216, 1, .ireturn, (0, 0, 0), 0)) (by decide +kernel)) hm_z
          obtain ⟨e6754_z, e6755_z⟩ := hm_z
          subst e6754_z e6755_z
          exact Or.inl (Or.inr ⟨rfl, 1, by decide, K.1, K.2, rfl, R.2.2.2.2.2.1⟩)
theorem rj_c19_23 {T : Nat → Int32} {S x p : Int32} {n n' : Nat} {h h' g g' : am_H} {r r' : Option Value} (R : rq T S x p 23 h g) (A : rp 23 h g) (B : rp_t h g) (Z : rs 23 h g) (w0_z : rg_v g 164 45 = 0) (ka : (rg_v h 44 10) = 6) (kc : (rg_v g 164 8) = 5) (kb : (rg_v h 44 11) = 7) (kd : (rg_v g 164 9) = 1) (hc_z : rn n am_m44 0 (lv_args 0 [.ref 44]) [] h r h') (hm_z : rn n' am_m178 0 (lv_args 0 [.ref 164]) [] g r' g') : rj_Q T S x p 23 h g h' g' r r' := by
  have z0_z : (0 : Int32).toInt = 0 := by decide
  have z4_z : (4 : Int32).toInt = 4 := by decide
  have z6_z : (6 : Int32).toInt = 6 := by decide
  have g0_z : am_get (lv_args 0 [.ref 44]) 0 = some (.ref 44) := rfl
  have g0m : am_get (lv_args 0 [.ref 164]) 0 = some (.ref 164) := rfl
  have Rk := R
  have Zk := Z
  obtain ⟨⟨c1_z, c2_z, c3_z, c4_z, c5_z, c6_z, c7_z, c8_z⟩, ⟨m2_z, m3_z, m4_z, m5_z, m6_z, m7_z, m8_z⟩, R3, R4, R5, R6, R7, R8, R9, R10⟩ := (R : rq T S x p 23 h g)
  obtain ⟨np, op, z1_z, z2_z, z3_z, z4_z, z5_z, z6_z, z7_z, z8_z, z9_z, z10_z⟩ := (Z : rs 23 h g)
  obtain ⟨nk1_z, nk2_z, nk3_z⟩ := A.2.2.2.2.2.1
  replace nk1_z : rg_v h 32 0 = rg_v g 164 44 := nk1_z
  replace nk2_z : 0 ≤ (rg_v h 32 0).toInt := nk2_z
  replace nk3_z : (rg_v h 32 0).toInt ≤ 64 := nk3_z
  replace z8_z : np.toInt ≤ (rg_v h 32 0).toInt + op.toInt := z8_z
  obtain ⟨kn, ekn⟩ : ∃ v, rg_v h 32 0 = v := ⟨_, rfl⟩
  rw [ekn] at nk1_z nk2_z nk3_z z8_z
  have e9_z := rt_c1 (x := kn) (by omega) (by omega)
  replace hc_z := rn_aload_n (am_cur_of (i := (0, 1, .aload_n 0, (0, 0, 0), 0)) (by decide +kernel)) g0_z hc_z
  replace hc_z := rn_bipush (w := 41) (am_cur_of (i := (1, 2, .bipush 41, (0, 0, 0), 0)) (by decide +kernel)) (by decide) hc_z
  replace hc_z := rn_callV (M' := am_m45) (o := 44) (ar := [.int 41]) (rest := []) (L := lv_args 0 [.ref 44, .int 41]) (am_cur_of (i := (3, 3, .invokevirtual 105, (45, 834, 3), 0)) (by decide +kernel)) rfl rfl rfl rfl hc_z
  obtain ⟨r6756_z, h6757_z, q6758_z, hc_z⟩ := hc_z
  obtain ⟨rfl, yq6758_z⟩ := rp_mkN (fun q => absurd (Eq.trans (Eq.symm ka) q.1) (by decide)) q6758_z
  subst yq6758_z
  replace hc_z : rn _ _ _ _ [.int 0] _ _ _ := hc_z
  replace hc_z := rn_ifT (am_cur_of (i := (6, 3, .ifCond .eq 45, (28, 0, 0), 0)) (by decide +kernel)) (by decide) hc_z
  replace hc_z := rn_aload_n (am_cur_of (i := (51, 1, .aload_n 0, (0, 0, 0), 0)) (by decide +kernel)) g0_z hc_z
  replace hc_z := rn_getI (v := 6) (am_cur_of (i := (52, 3, .getfield 60, (4, 10, 419), 0)) (by decide +kernel)) (by decide +kernel) ka hc_z
  replace hc_z := rn_bipush (w := 6) (am_cur_of (i := (55, 2, .bipush 6, (0, 0, 0), 0)) (by decide +kernel)) (by decide) hc_z
  replace hc_z := rn_cmpF (am_cur_of (i := (57, 3, .if_icmp .ne 11, (36, 0, 0), 0)) (by decide +kernel)) (by decide) hc_z
  replace hc_z := rn_aload_n (am_cur_of (i := (60, 1, .aload_n 0, (0, 0, 0), 0)) (by decide +kernel)) g0_z hc_z
  replace hc_z := rn_getI (v := 7) (am_cur_of (i := (61, 3, .getfield 91, (4, 11, 420), 0)) (by decide +kernel)) (by decide +kernel) kb hc_z
  replace hc_z := rn_iconst (w := 5) (am_cur_of (i := (64, 1, .iconst 5, (0, 0, 0), 0)) (by decide +kernel)) (by decide) hc_z
  replace hc_z := rn_cmpT (am_cur_of (i := (65, 3, .if_icmp .ne 17, (44, 0, 0), 0)) (by decide +kernel)) (by decide) hc_z
  replace hc_z := rn_aload_n (am_cur_of (i := (82, 1, .aload_n 0, (0, 0, 0), 0)) (by decide +kernel)) g0_z hc_z
  replace hc_z := rn_getI (v := 7) (am_cur_of (i := (83, 3, .getfield 91, (4, 11, 420), 0)) (by decide +kernel)) (by decide +kernel) kb hc_z
  replace hc_z := rn_istore_n (am_cur_of (i := (86, 1, .istore_n 1, (0, 0, 0), 0)) (by decide +kernel)) hc_z
  obtain ⟨_, s6759_z, s6760_z, g1_z, hc_z⟩ := hc_z
  replace g0_z := s6759_z 0 _ (by decide) rfl g0_z
  clear s6759_z s6760_z
  replace hc_z := rn_iload_n (am_cur_of (i := (87, 1, .iload_n 1, (0, 0, 0), 0)) (by decide +kernel)) g1_z hc_z
  replace hc_z := rn_callS (M' := am_m47) (ar := [.int 7]) (rest := []) (L := lv_args 0 [.int 7]) (am_cur_of (i := (88, 3, .invokestatic 283, (47, 842, 3), 0)) (by decide +kernel)) rfl rfl rfl rfl hc_z
  obtain ⟨r6761_z, h6762_z, q6763_z, hc_z⟩ := hc_z
  obtain ⟨rfl, yq6763_z⟩ := rs_rankC q6763_z
  replace yq6763_z := yq6763_z.symm
  subst yq6763_z
  rw [show rk_C 7 = 6 by decide] at hc_z
  replace hc_z : rn _ _ _ _ [.int 6] _ _ _ := hc_z
  replace hc_z := rn_bipush (w := 6) (am_cur_of (i := (91, 2, .bipush 6, (0, 0, 0), 0)) (by decide +kernel)) (by decide) hc_z
  replace hc_z := rn_callS (M' := am_m47) (ar := [.int 6]) (rest := [.int 6]) (L := lv_args 0 [.int 6]) (am_cur_of (i := (93, 3, .invokestatic 283, (47, 842, 3), 0)) (by decide +kernel)) rfl rfl rfl rfl hc_z
  obtain ⟨r6764_z, h6765_z, q6766_z, hc_z⟩ := hc_z
  obtain ⟨rfl, yq6766_z⟩ := rs_rankC q6766_z
  replace yq6766_z := yq6766_z.symm
  subst yq6766_z
  rw [show rk_C 6 = 6 by decide] at hc_z
  replace hc_z : rn _ _ _ _ [.int 6, .int 6] _ _ _ := hc_z
  replace hc_z := rn_cmpF (am_cur_of (i := (96, 3, .if_icmp .ne 46, (73, 0, 0), 0)) (by decide +kernel)) (by decide) hc_z
  replace hc_z := rn_aload_n (am_cur_of (i := (99, 1, .aload_n 0, (0, 0, 0), 0)) (by decide +kernel)) g0_z hc_z
  replace hc_z := rn_bipush (w := 12) (am_cur_of (i := (100, 2, .bipush 12, (0, 0, 0), 0)) (by decide +kernel)) (by decide) hc_z
  replace hc_z := rn_callV (M' := am_m46) (o := 44) (ar := [.int 12]) (rest := []) (L := lv_args 0 [.ref 44, .int 12]) (am_cur_of (i := (102, 3, .invokevirtual 264, (46, 838, 3), 0)) (by decide +kernel)) rfl rfl rfl rfl hc_z
  obtain ⟨r6767_z, h6768_z, q6769_z, hc_z⟩ := hc_z
  replace hm_z := rn_aload_n (am_cur_of (i := (0, 1, .aload_n 0, (0, 0, 0), 0)) (by decide +kernel)) g0m hm_z
  replace hm_z := rn_bipush (w := 41) (am_cur_of (i := (1, 2, .bipush 41, (0, 0, 0), 0)) (by decide +kernel)) (by decide) hm_z
  replace hm_z := rn_callV (M' := am_m171) (o := 164) (ar := [.int 41]) (rest := []) (L := lv_args 0 [.ref 164, .int 41]) (am_cur_of (i := (3, 3, .invokevirtual 194, (171, 1715, 3), 0)) (by decide +kernel)) rfl rfl rfl rfl hm_z
  obtain ⟨r6770_z, h6771_z, q6772_z, hm_z⟩ := hm_z
  obtain ⟨rfl, yq6772_z⟩ := rp_sgN (fun q => absurd (Eq.trans (Eq.symm kc) q.1) (by decide)) q6772_z
  subst yq6772_z
  replace hm_z : rn _ _ _ _ [.int 0] _ _ _ := hm_z
  replace hm_z := rn_ifT (am_cur_of (i := (6, 3, .ifCond .eq 41, (26, 0, 0), 0)) (by decide +kernel)) (by decide) hm_z
  replace hm_z := rn_aload_n (am_cur_of (i := (47, 1, .aload_n 0, (0, 0, 0), 0)) (by decide +kernel)) g0m hm_z
  replace hm_z := rn_bipush (w := 12) (am_cur_of (i := (48, 2, .bipush 12, (0, 0, 0), 0)) (by decide +kernel)) (by decide) hm_z
  replace hm_z := rn_callV (M' := am_m174) (o := 164) (ar := [.int 12]) (rest := []) (L := lv_args 0 [.ref 164, .int 12]) (am_cur_of (i := (50, 3, .invokevirtual 306, (174, 1727, 3), 0)) (by decide +kernel)) rfl rfl rfl rfl hm_z
  obtain ⟨r6773_z, h6774_z, q6775_z, hm_z⟩ := hm_z
  obtain ⟨rfl, yq6775_z⟩ := rp_kyN (fun q => absurd (Eq.trans (Eq.symm kc) q.1) (by decide)) q6775_z
  subst yq6775_z
  replace hm_z : rn _ _ _ _ [.int 0] _ _ _ := hm_z
  replace hm_z := rn_ifT (am_cur_of (i := (53, 3, .ifCond .eq 7, (32, 0, 0), 0)) (by decide +kernel)) (by decide) hm_z
  replace hm_z := rn_aload_n (am_cur_of (i := (60, 1, .aload_n 0, (0, 0, 0), 0)) (by decide +kernel)) g0m hm_z
  replace hm_z := rn_bipush (w := 13) (am_cur_of (i := (61, 2, .bipush 13, (0, 0, 0), 0)) (by decide +kernel)) (by decide) hm_z
  replace hm_z := rn_callV (M' := am_m174) (o := 164) (ar := [.int 13]) (rest := []) (L := lv_args 0 [.ref 164, .int 13]) (am_cur_of (i := (63, 3, .invokevirtual 306, (174, 1727, 3), 0)) (by decide +kernel)) rfl rfl rfl rfl hm_z
  obtain ⟨r6776_z, h6777_z, q6778_z, hm_z⟩ := hm_z
  obtain ⟨rfl, yq6778_z⟩ := rp_kyN (fun q => absurd (Eq.trans (Eq.symm kc) q.1) (by decide)) q6778_z
  subst yq6778_z
  replace hm_z : rn _ _ _ _ [.int 0] _ _ _ := hm_z
  replace hm_z := rn_ifT (am_cur_of (i := (66, 3, .ifCond .eq 7, (38, 0, 0), 0)) (by decide +kernel)) (by decide) hm_z
  replace hm_z := rn_aload_n (am_cur_of (i := (73, 1, .aload_n 0, (0, 0, 0), 0)) (by decide +kernel)) g0m hm_z
  replace hm_z := rn_getI (v := 5) (am_cur_of (i := (74, 3, .getfield 157, (12, 8, 1392), 0)) (by decide +kernel)) (by decide +kernel) kc hm_z
  replace hm_z := rn_iconst (w := 5) (am_cur_of (i := (77, 1, .iconst 5, (0, 0, 0), 0)) (by decide +kernel)) (by decide) hm_z
  replace hm_z := rn_cmpF (am_cur_of (i := (78, 3, .if_icmp .ne 12, (47, 0, 0), 0)) (by decide +kernel)) (by decide) hm_z
  replace hm_z := rn_iconst (w := 5) (am_cur_of (i := (81, 1, .iconst 5, (0, 0, 0), 0)) (by decide +kernel)) (by decide) hm_z
  replace hm_z := rn_aload_n (am_cur_of (i := (82, 1, .aload_n 0, (0, 0, 0), 0)) (by decide +kernel)) g0m hm_z
  replace hm_z := rn_getI (v := 1) (am_cur_of (i := (83, 3, .getfield 168, (12, 9, 1393), 0)) (by decide +kernel)) (by decide +kernel) kd hm_z
  replace hm_z := rn_iadd (w := 6) (am_cur_of (i := (86, 1, .iadd, (0, 0, 0), 0)) (by decide +kernel)) (by decide) hm_z
  replace hm_z := rn_goto (am_cur_of (i := (87, 3, .goto 60, (72, 0, 0), 0)) (by decide +kernel)) hm_z
  replace hm_z := rn_istore_n (am_cur_of (i := (147, 1, .istore_n 1, (0, 0, 0), 0)) (by decide +kernel)) hm_z
  obtain ⟨_, s6779_z, s6780_z, g1m, hm_z⟩ := hm_z
  replace g0m := s6779_z 0 _ (by decide) rfl g0m
  clear s6779_z s6780_z
  replace hm_z := rn_iload_n (am_cur_of (i := (148, 1, .iload_n 1, (0, 0, 0), 0)) (by decide +kernel)) g1m hm_z
  replace hm_z := rn_ifT (am_cur_of (i := (149, 3, .ifCond .ne 9, (79, 0, 0), 0)) (by decide +kernel)) (by decide) hm_z
  replace hm_z := rn_aload_n (am_cur_of (i := (158, 1, .aload_n 0, (0, 0, 0), 0)) (by decide +kernel)) g0m hm_z
  replace hm_z := rn_iload_n (am_cur_of (i := (159, 1, .iload_n 1, (0, 0, 0), 0)) (by decide +kernel)) g1m hm_z
  replace hm_z := rn_callS (M' := am_m180) (ar := [.int 6]) (rest := [.ref 164]) (L := lv_args 0 [.int 6]) (am_cur_of (i := (160, 3, .invokestatic 283, (180, 1751, 3), 0)) (by decide +kernel)) rfl rfl rfl rfl hm_z
  obtain ⟨r6781_z, h6782_z, q6783_z, hm_z⟩ := hm_z
  obtain ⟨rfl, yq6783_z⟩ := rs_rankM q6783_z
  replace yq6783_z := yq6783_z.symm
  subst yq6783_z
  rw [show rk_M 6 = 4 by decide] at hm_z
  replace hm_z : rn _ _ _ _ [.int 4, .ref 164] _ _ _ := hm_z
  replace hm_z := rn_iconst (w := 4) (am_cur_of (i := (163, 1, .iconst 4, (0, 0, 0), 0)) (by decide +kernel)) (by decide) hm_z
  replace hm_z := rn_cmpF (am_cur_of (i := (164, 3, .if_icmp .ne 7, (86, 0, 0), 0)) (by decide +kernel)) (by decide) hm_z
  replace hm_z := rn_iconst (w := 5) (am_cur_of (i := (167, 1, .iconst 5, (0, 0, 0), 0)) (by decide +kernel)) (by decide) hm_z
  replace hm_z := rn_goto (am_cur_of (i := (168, 3, .goto 7, (88, 0, 0), 0)) (by decide +kernel)) hm_z
  replace hm_z := rn_callV (M' := am_m179) (o := 164) (ar := [.int 5]) (rest := []) (L := lv_args 0 [.ref 164, .int 5]) (am_cur_of (i := (175, 3, .invokevirtual 318, (179, 1747, 3), 0)) (by decide +kernel)) rfl rfl rfl rfl hm_z
  obtain ⟨r6784_z, h6785_z, q6786_z, hm_z⟩ := hm_z
  obtain ⟨rfl, rfl, FC, FM, R, A, B, Z, nq, e13_z, hst⟩ := rz_set23 rs_l12 (by decide) Rk A B Zk q6769_z q6786_z
  have Zq := Z
  obtain ⟨np, op, z1_z, z2_z, z3_z, z4_z, z5_z, z6_z, z7_z, z8_z, z9_z, z10_z⟩ := Zq
  obtain rfl : np = nq := z1_z.symm.trans e13_z
  replace hm_z : rn _ _ _ _ [] _ _ _ := hm_z
  replace hc_z : rn _ _ _ _ [] _ _ _ := hc_z
  have cn := rt_cl z3_z
  have zz1_z : (1 : Int32).toInt = 1 := by decide
  have n31_z := (ab_32 np).2
  have y1_z := ab_isub (x := np) (y := 1) (by omega) (by omega)
  replace hc_z := rn_aload_n (am_cur_of (i := (105, 1, .aload_n 0, (0, 0, 0), 0)) (by decide +kernel)) g0_z hc_z
  replace hc_z := rn_getI (v := np) (am_cur_of (i := (106, 3, .getfield 251, (4, 13, 422), 0)) (by decide +kernel)) (by decide +kernel) z1_z hc_z
  replace hc_z := rn_if (am_cur_of (i := (109, 3, .ifCond .le 38, (76, 0, 0), 0)) (by decide +kernel)) hc_z
  rcases hc_z with ⟨b6787_z, hc_z⟩ | ⟨b6787_z, hc_z⟩
  · replace b6787_z : np.toInt ≤ (0 : Int32).toInt := b6787_z
    replace hm_z := rn_iload_n (am_cur_of (i := (178, 1, .iload_n 1, (0, 0, 0), 0)) (by decide +kernel)) g1m hm_z
    replace hm_z := rn_callS (M' := am_m180) (ar := [.int 6]) (rest := []) (L := lv_args 0 [.int 6]) (am_cur_of (i := (179, 3, .invokestatic 283, (180, 1751, 3), 0)) (by decide +kernel)) rfl rfl rfl rfl hm_z
    obtain ⟨r6788_z, h6789_z, q6790_z, hm_z⟩ := hm_z
    obtain ⟨rfl, yq6790_z⟩ := rs_rankM q6790_z
    replace yq6790_z := yq6790_z.symm
    subst yq6790_z
    rw [show rk_M 6 = 4 by decide] at hm_z
    replace hm_z : rn _ _ _ _ [.int 4] _ _ _ := hm_z
    replace hm_z := rn_iconst (w := 4) (am_cur_of (i := (182, 1, .iconst 4, (0, 0, 0), 0)) (by decide +kernel)) (by decide) hm_z
    replace hm_z := rn_cmpF (am_cur_of (i := (183, 3, .if_icmp .ne 34, (110, 0, 0), 0)) (by decide +kernel)) (by decide) hm_z
    replace hm_z := rn_aload_n (am_cur_of (i := (186, 1, .aload_n 0, (0, 0, 0), 0)) (by decide +kernel)) g0m hm_z
    replace hm_z := rn_getI (v := np) (am_cur_of (i := (187, 3, .getfield 280, (12, 41, 1425), 0)) (by decide +kernel)) (by decide +kernel) z2_z hm_z
    replace hm_z := rn_if (am_cur_of (i := (190, 3, .ifCond .le 27, (110, 0, 0), 0)) (by decide +kernel)) hm_z
    rcases hm_z with ⟨b6791_z, hm_z⟩ | ⟨b6791_z, hm_z⟩
    · replace b6791_z : np.toInt ≤ (0 : Int32).toInt := b6791_z
      exact Or.inl (rj_t7_23 R A B Z g0_z g1_z g0m g1m hc_z hm_z)
    · replace b6791_z : (0 : Int32).toInt < np.toInt := b6791_z
      omega
  · replace b6787_z : (0 : Int32).toInt < np.toInt := b6787_z
    replace hc_z := rn_aload_n (am_cur_of (i := (112, 1, .aload_n 0, (0, 0, 0), 0)) (by decide +kernel)) g0_z hc_z
    replace hc_z := rn_getR (x := 47) (am_cur_of (i := (113, 3, .getfield 22, (4, 12, 421), 0)) (by decide +kernel)) (by decide +kernel) hc_z
    replace hc_z := rn_aload_n (am_cur_of (i := (116, 1, .aload_n 0, (0, 0, 0), 0)) (by decide +kernel)) g0_z hc_z
    replace hc_z := rn_getI (v := np) (am_cur_of (i := (117, 3, .getfield 251, (4, 13, 422), 0)) (by decide +kernel)) (by decide +kernel) z1_z hc_z
    replace hc_z := rn_iconst (w := 1) (am_cur_of (i := (120, 1, .iconst 1, (0, 0, 0), 0)) (by decide +kernel)) (by decide) hc_z
    replace hc_z := rn_isub (w := np - 1) (am_cur_of (i := (121, 1, .isub, (0, 0, 0), 0)) (by decide +kernel)) rfl hc_z
    replace hc_z := rn_iaload (N := 72) (q := (np - 1).toNatClampNeg) (v := rg_v h6768_z 47 (np.toNatClampNeg - 1)) (am_cur_of (i := (122, 1, .iaload, (0, 0, 0), 0)) (by decide +kernel)) (by decide +kernel) rfl (by rw [show (np - 1).toNatClampNeg = np.toNatClampNeg - 1 by have := rt_cl (x := np - 1) (by omega); omega]) hc_z
    obtain ⟨p6792_z, hc_z⟩ := hc_z
    replace hc_z := rn_callS (M' := am_m47) (ar := [.int (rg_v h6768_z 47 (np.toNatClampNeg - 1))]) (rest := []) (L := lv_args 0 [.int (rg_v h6768_z 47 (np.toNatClampNeg - 1))]) (am_cur_of (i := (123, 3, .invokestatic 283, (47, 842, 3), 0)) (by decide +kernel)) rfl rfl rfl rfl hc_z
    obtain ⟨r6793_z, h6794_z, q6795_z, hc_z⟩ := hc_z
    obtain ⟨rfl, yq6795_z⟩ := rs_rankC q6795_z
    replace yq6795_z := yq6795_z.symm
    subst yq6795_z
    replace hc_z : rn _ _ _ _ [.int (rk_C (rg_v h6768_z 47 (np.toNatClampNeg - 1)))] _ _ _ := hc_z
    replace hc_z := rn_bipush (w := 6) (am_cur_of (i := (126, 2, .bipush 6, (0, 0, 0), 0)) (by decide +kernel)) (by decide) hc_z
    replace hc_z := rn_callS (M' := am_m47) (ar := [.int 6]) (rest := [.int (rk_C (rg_v h6768_z 47 (np.toNatClampNeg - 1)))]) (L := lv_args 0 [.int 6]) (am_cur_of (i := (128, 3, .invokestatic 283, (47, 842, 3), 0)) (by decide +kernel)) rfl rfl rfl rfl hc_z
    obtain ⟨r6796_z, h6797_z, q6798_z, hc_z⟩ := hc_z
    obtain ⟨rfl, yq6798_z⟩ := rs_rankC q6798_z
    replace yq6798_z := yq6798_z.symm
    subst yq6798_z
    rw [show rk_C 6 = 6 by decide] at hc_z
    replace hc_z : rn _ _ _ _ [.int 6, .int (rk_C (rg_v h6768_z 47 (np.toNatClampNeg - 1)))] _ _ _ := hc_z
    replace hc_z := rn_cmp (am_cur_of (i := (131, 3, .if_icmp .ne 16, (76, 0, 0), 0)) (by decide +kernel)) hc_z
    rcases hc_z with ⟨b6799_z, hc_z⟩ | ⟨b6799_z, hc_z⟩
    · replace b6799_z : ¬ (rk_C (rg_v h6768_z 47 (np.toNatClampNeg - 1))) = (6 : Int32) ∧ ¬ (rk_C (rg_v h6768_z 47 (np.toNatClampNeg - 1))).toInt = (6 : Int32).toInt := b6799_z
      replace hm_z := rn_iload_n (am_cur_of (i := (178, 1, .iload_n 1, (0, 0, 0), 0)) (by decide +kernel)) g1m hm_z
      replace hm_z := rn_callS (M' := am_m180) (ar := [.int 6]) (rest := []) (L := lv_args 0 [.int 6]) (am_cur_of (i := (179, 3, .invokestatic 283, (180, 1751, 3), 0)) (by decide +kernel)) rfl rfl rfl rfl hm_z
      obtain ⟨r6800_z, h6801_z, q6802_z, hm_z⟩ := hm_z
      obtain ⟨rfl, yq6802_z⟩ := rs_rankM q6802_z
      replace yq6802_z := yq6802_z.symm
      subst yq6802_z
      rw [show rk_M 6 = 4 by decide] at hm_z
      replace hm_z : rn _ _ _ _ [.int 4] _ _ _ := hm_z
      replace hm_z := rn_iconst (w := 4) (am_cur_of (i := (182, 1, .iconst 4, (0, 0, 0), 0)) (by decide +kernel)) (by decide) hm_z
      replace hm_z := rn_cmpF (am_cur_of (i := (183, 3, .if_icmp .ne 34, (110, 0, 0), 0)) (by decide +kernel)) (by decide) hm_z
      replace hm_z := rn_aload_n (am_cur_of (i := (186, 1, .aload_n 0, (0, 0, 0), 0)) (by decide +kernel)) g0m hm_z
      replace hm_z := rn_getI (v := np) (am_cur_of (i := (187, 3, .getfield 280, (12, 41, 1425), 0)) (by decide +kernel)) (by decide +kernel) z2_z hm_z
      replace hm_z := rn_if (am_cur_of (i := (190, 3, .ifCond .le 27, (110, 0, 0), 0)) (by decide +kernel)) hm_z
      rcases hm_z with ⟨b6803_z, hm_z⟩ | ⟨b6803_z, hm_z⟩
      · replace b6803_z : np.toInt ≤ (0 : Int32).toInt := b6803_z
        omega
      · replace b6803_z : (0 : Int32).toInt < np.toInt := b6803_z
        replace hm_z := rn_aload_n (am_cur_of (i := (193, 1, .aload_n 0, (0, 0, 0), 0)) (by decide +kernel)) g0m hm_z
        replace hm_z := rn_getR (x := 184) (am_cur_of (i := (194, 3, .getfield 72, (12, 39, 1423), 0)) (by decide +kernel)) (by decide +kernel) hm_z
        replace hm_z := rn_aload_n (am_cur_of (i := (197, 1, .aload_n 0, (0, 0, 0), 0)) (by decide +kernel)) g0m hm_z
        replace hm_z := rn_getI (v := np) (am_cur_of (i := (198, 3, .getfield 280, (12, 41, 1425), 0)) (by decide +kernel)) (by decide +kernel) z2_z hm_z
        replace hm_z := rn_iconst (w := 1) (am_cur_of (i := (201, 1, .iconst 1, (0, 0, 0), 0)) (by decide +kernel)) (by decide) hm_z
        replace hm_z := rn_isub (w := np - 1) (am_cur_of (i := (202, 1, .isub, (0, 0, 0), 0)) (by decide +kernel)) rfl hm_z
        replace hm_z := rn_iaload (N := 96) (q := (np - 1).toNatClampNeg) (v := rg_v h6785_z 184 (np.toNatClampNeg - 1)) (am_cur_of (i := (203, 1, .iaload, (0, 0, 0), 0)) (by decide +kernel)) (by decide +kernel) rfl (by rw [show (np - 1).toNatClampNeg = np.toNatClampNeg - 1 by have := rt_cl (x := np - 1) (by omega); omega]) hm_z
        obtain ⟨p6804_z, hm_z⟩ := hm_z
        replace hm_z := rn_callS (M' := am_m180) (ar := [.int (rg_v h6785_z 184 (np.toNatClampNeg - 1))]) (rest := []) (L := lv_args 0 [.int (rg_v h6785_z 184 (np.toNatClampNeg - 1))]) (am_cur_of (i := (204, 3, .invokestatic 283, (180, 1751, 3), 0)) (by decide +kernel)) rfl rfl rfl rfl hm_z
        obtain ⟨r6805_z, h6806_z, q6807_z, hm_z⟩ := hm_z
        obtain ⟨rfl, yq6807_z⟩ := rs_rankM q6807_z
        replace yq6807_z := yq6807_z.symm
        subst yq6807_z
        replace hm_z : rn _ _ _ _ [.int (rk_M (rg_v h6785_z 184 (np.toNatClampNeg - 1)))] _ _ _ := hm_z
        replace hm_z := rn_iconst (w := 4) (am_cur_of (i := (207, 1, .iconst 4, (0, 0, 0), 0)) (by decide +kernel)) (by decide) hm_z
        replace hm_z := rn_cmp (am_cur_of (i := (208, 3, .if_icmp .ne 9, (110, 0, 0), 0)) (by decide +kernel)) hm_z
        rcases hm_z with ⟨b6808_z, hm_z⟩ | ⟨b6808_z, hm_z⟩
        · replace b6808_z : ¬ (rk_M (rg_v h6785_z 184 (np.toNatClampNeg - 1))) = (4 : Int32) ∧ ¬ (rk_M (rg_v h6785_z 184 (np.toNatClampNeg - 1))).toInt = (4 : Int32).toInt := b6808_z
          exact Or.inl (rj_t7_23 R A B Z g0_z g1_z g0m g1m hc_z hm_z)
        · replace b6808_z : (rk_M (rg_v h6785_z 184 (np.toNatClampNeg - 1))) = (4 : Int32) ∧ (rk_M (rg_v h6785_z 184 (np.toNatClampNeg - 1))).toInt = (4 : Int32).toInt := b6808_z
          exact absurd b6808_z.2 (fun q4_z => b6799_z.2 ((rs_o64 (z9_z (np.toNatClampNeg - 1) (by omega))).mpr (q4_z.trans (by decide))))
    · replace b6799_z : (rk_C (rg_v h6768_z 47 (np.toNatClampNeg - 1))) = (6 : Int32) ∧ (rk_C (rg_v h6768_z 47 (np.toNatClampNeg - 1))).toInt = (6 : Int32).toInt := b6799_z
      replace hc_z := rn_aload_n (am_cur_of (i := (134, 1, .aload_n 0, (0, 0, 0), 0)) (by decide +kernel)) g0_z hc_z
      replace hc_z := rn_iconst (w := 1) (am_cur_of (i := (135, 1, .iconst 1, (0, 0, 0), 0)) (by decide +kernel)) (by decide) hc_z
      replace hc_z := rn_callV (M' := am_m29) (o := 44) (ar := [.int 1]) (rest := []) (L := lv_args 0 [.ref 44, .int 1]) (am_cur_of (i := (136, 3, .invokevirtual 108, (29, 769, 3), 0)) (by decide +kernel)) rfl rfl rfl rfl hc_z
      obtain ⟨r6809_z, h6810_z, q6811_z, hc_z⟩ := hc_z
      obtain ⟨rfl, yq6811_z⟩ := rp_fail R.2.2.2.1 q6811_z
      subst yq6811_z
      replace hc_z : rn _ _ _ _ [] _ _ _ := hc_z
      have K := rs_stick (w := 1) (q := p) (a := 44) (by decide) (by decide) rfl (by decide) rfl (show rg_v (am_up (am_up h6768_z 44 1 (.int 1)) 44 2 (.int (rg_v h6768_z 44 9))) 44 2 = p from R.2.2.2.2.1) hc_z
      replace hm_z := rn_iload_n (am_cur_of (i := (178, 1, .iload_n 1, (0, 0, 0), 0)) (by decide +kernel)) g1m hm_z
      replace hm_z := rn_callS (M' := am_m180) (ar := [.int 6]) (rest := []) (L := lv_args 0 [.int 6]) (am_cur_of (i := (179, 3, .invokestatic 283, (180, 1751, 3), 0)) (by decide +kernel)) rfl rfl rfl rfl hm_z
      obtain ⟨r6812_z, h6813_z, q6814_z, hm_z⟩ := hm_z
      obtain ⟨rfl, yq6814_z⟩ := rs_rankM q6814_z
      replace yq6814_z := yq6814_z.symm
      subst yq6814_z
      rw [show rk_M 6 = 4 by decide] at hm_z
      replace hm_z : rn _ _ _ _ [.int 4] _ _ _ := hm_z
      replace hm_z := rn_iconst (w := 4) (am_cur_of (i := (182, 1, .iconst 4, (0, 0, 0), 0)) (by decide +kernel)) (by decide) hm_z
      replace hm_z := rn_cmpF (am_cur_of (i := (183, 3, .if_icmp .ne 34, (110, 0, 0), 0)) (by decide +kernel)) (by decide) hm_z
      replace hm_z := rn_aload_n (am_cur_of (i := (186, 1, .aload_n 0, (0, 0, 0), 0)) (by decide +kernel)) g0m hm_z
      replace hm_z := rn_getI (v := np) (am_cur_of (i := (187, 3, .getfield 280, (12, 41, 1425), 0)) (by decide +kernel)) (by decide +kernel) z2_z hm_z
      replace hm_z := rn_if (am_cur_of (i := (190, 3, .ifCond .le 27, (110, 0, 0), 0)) (by decide +kernel)) hm_z
      rcases hm_z with ⟨b6815_z, hm_z⟩ | ⟨b6815_z, hm_z⟩
      · replace b6815_z : np.toInt ≤ (0 : Int32).toInt := b6815_z
        omega
      · replace b6815_z : (0 : Int32).toInt < np.toInt := b6815_z
        replace hm_z := rn_aload_n (am_cur_of (i := (193, 1, .aload_n 0, (0, 0, 0), 0)) (by decide +kernel)) g0m hm_z
        replace hm_z := rn_getR (x := 184) (am_cur_of (i := (194, 3, .getfield 72, (12, 39, 1423), 0)) (by decide +kernel)) (by decide +kernel) hm_z
        replace hm_z := rn_aload_n (am_cur_of (i := (197, 1, .aload_n 0, (0, 0, 0), 0)) (by decide +kernel)) g0m hm_z
        replace hm_z := rn_getI (v := np) (am_cur_of (i := (198, 3, .getfield 280, (12, 41, 1425), 0)) (by decide +kernel)) (by decide +kernel) z2_z hm_z
        replace hm_z := rn_iconst (w := 1) (am_cur_of (i := (201, 1, .iconst 1, (0, 0, 0), 0)) (by decide +kernel)) (by decide) hm_z
        replace hm_z := rn_isub (w := np - 1) (am_cur_of (i := (202, 1, .isub, (0, 0, 0), 0)) (by decide +kernel)) rfl hm_z
        replace hm_z := rn_iaload (N := 96) (q := (np - 1).toNatClampNeg) (v := rg_v h6785_z 184 (np.toNatClampNeg - 1)) (am_cur_of (i := (203, 1, .iaload, (0, 0, 0), 0)) (by decide +kernel)) (by decide +kernel) rfl (by rw [show (np - 1).toNatClampNeg = np.toNatClampNeg - 1 by have := rt_cl (x := np - 1) (by omega); omega]) hm_z
        obtain ⟨p6816_z, hm_z⟩ := hm_z
        replace hm_z := rn_callS (M' := am_m180) (ar := [.int (rg_v h6785_z 184 (np.toNatClampNeg - 1))]) (rest := []) (L := lv_args 0 [.int (rg_v h6785_z 184 (np.toNatClampNeg - 1))]) (am_cur_of (i := (204, 3, .invokestatic 283, (180, 1751, 3), 0)) (by decide +kernel)) rfl rfl rfl rfl hm_z
        obtain ⟨r6817_z, h6818_z, q6819_z, hm_z⟩ := hm_z
        obtain ⟨rfl, yq6819_z⟩ := rs_rankM q6819_z
        replace yq6819_z := yq6819_z.symm
        subst yq6819_z
        replace hm_z : rn _ _ _ _ [.int (rk_M (rg_v h6785_z 184 (np.toNatClampNeg - 1)))] _ _ _ := hm_z
        replace hm_z := rn_iconst (w := 4) (am_cur_of (i := (207, 1, .iconst 4, (0, 0, 0), 0)) (by decide +kernel)) (by decide) hm_z
        replace hm_z := rn_cmp (am_cur_of (i := (208, 3, .if_icmp .ne 9, (110, 0, 0), 0)) (by decide +kernel)) hm_z
        rcases hm_z with ⟨b6820_z, hm_z⟩ | ⟨b6820_z, hm_z⟩
        · replace b6820_z : ¬ (rk_M (rg_v h6785_z 184 (np.toNatClampNeg - 1))) = (4 : Int32) ∧ ¬ (rk_M (rg_v h6785_z 184 (np.toNatClampNeg - 1))).toInt = (4 : Int32).toInt := b6820_z
          exact absurd ((rs_o64 (z9_z (np.toNatClampNeg - 1) (by omega))).mp (b6799_z.2.trans (by decide))) (fun q4_z => b6820_z.2 (q4_z.trans (by decide)))
        · replace b6820_z : (rk_M (rg_v h6785_z 184 (np.toNatClampNeg - 1))) = (4 : Int32) ∧ (rk_M (rg_v h6785_z 184 (np.toNatClampNeg - 1))).toInt = (4 : Int32).toInt := b6820_z
          replace hm_z := rn_aload_n (am_cur_of (i := (211, 1, .aload_n 0, (0, 0, 0), 0)) (by decide +kernel)) g0m hm_z
          replace hm_z := rn_iconst (w := 1) (am_cur_of (i := (212, 1, .iconst 1, (0, 0, 0), 0)) (by decide +kernel)) (by decide) hm_z
          replace hm_z := rn_callV (M' := am_m158) (o := 164) (ar := [.int 1]) (rest := []) (L := lv_args 0 [.ref 164, .int 1]) (am_cur_of (i := (213, 3, .invokevirtual 181, (158, 1665, 3), 0)) (by decide +kernel)) rfl rfl rfl rfl hm_z
          obtain ⟨r6821_z, h6822_z, q6823_z, hm_z⟩ := hm_z
          obtain ⟨rfl, yq6823_z⟩ := rp_wrong q6823_z
          subst yq6823_z
          replace hm_z : rn _ _ _ _ [.int 0] _ _ _ := hm_z
          replace hm_z := rn_iret (am_cur_of (i := (216, 1, .ireturn, (0, 0, 0), 0)) (by decide +kernel)) hm_z
          obtain ⟨e6824_z, e6825_z⟩ := hm_z
          subst e6824_z e6825_z
          exact Or.inl (Or.inr ⟨rfl, 1, by decide, K.1, K.2, rfl, R.2.2.2.2.2.1⟩)
theorem rj_c20_23 {T : Nat → Int32} {S x p : Int32} {n n' : Nat} {h h' g g' : am_H} {r r' : Option Value} (R : rq T S x p 23 h g) (A : rp 23 h g) (B : rp_t h g) (Z : rs 23 h g) (w0_z : rg_v g 164 45 = 0) (ka : (rg_v h 44 10) = 6) (kc : (rg_v g 164 8) = 5) (kb : (rg_v h 44 11) = 8) (kd : (rg_v g 164 9) = 2) (hc_z : rn n am_m44 0 (lv_args 0 [.ref 44]) [] h r h') (hm_z : rn n' am_m178 0 (lv_args 0 [.ref 164]) [] g r' g') : rj_Q T S x p 23 h g h' g' r r' := by
  have z0_z : (0 : Int32).toInt = 0 := by decide
  have z4_z : (4 : Int32).toInt = 4 := by decide
  have z6_z : (6 : Int32).toInt = 6 := by decide
  have g0_z : am_get (lv_args 0 [.ref 44]) 0 = some (.ref 44) := rfl
  have g0m : am_get (lv_args 0 [.ref 164]) 0 = some (.ref 164) := rfl
  have Rk := R
  have Zk := Z
  obtain ⟨⟨c1_z, c2_z, c3_z, c4_z, c5_z, c6_z, c7_z, c8_z⟩, ⟨m2_z, m3_z, m4_z, m5_z, m6_z, m7_z, m8_z⟩, R3, R4, R5, R6, R7, R8, R9, R10⟩ := (R : rq T S x p 23 h g)
  obtain ⟨np, op, z1_z, z2_z, z3_z, z4_z, z5_z, z6_z, z7_z, z8_z, z9_z, z10_z⟩ := (Z : rs 23 h g)
  obtain ⟨nk1_z, nk2_z, nk3_z⟩ := A.2.2.2.2.2.1
  replace nk1_z : rg_v h 32 0 = rg_v g 164 44 := nk1_z
  replace nk2_z : 0 ≤ (rg_v h 32 0).toInt := nk2_z
  replace nk3_z : (rg_v h 32 0).toInt ≤ 64 := nk3_z
  replace z8_z : np.toInt ≤ (rg_v h 32 0).toInt + op.toInt := z8_z
  obtain ⟨kn, ekn⟩ : ∃ v, rg_v h 32 0 = v := ⟨_, rfl⟩
  rw [ekn] at nk1_z nk2_z nk3_z z8_z
  have e9_z := rt_c1 (x := kn) (by omega) (by omega)
  replace hc_z := rn_aload_n (am_cur_of (i := (0, 1, .aload_n 0, (0, 0, 0), 0)) (by decide +kernel)) g0_z hc_z
  replace hc_z := rn_bipush (w := 41) (am_cur_of (i := (1, 2, .bipush 41, (0, 0, 0), 0)) (by decide +kernel)) (by decide) hc_z
  replace hc_z := rn_callV (M' := am_m45) (o := 44) (ar := [.int 41]) (rest := []) (L := lv_args 0 [.ref 44, .int 41]) (am_cur_of (i := (3, 3, .invokevirtual 105, (45, 834, 3), 0)) (by decide +kernel)) rfl rfl rfl rfl hc_z
  obtain ⟨r6826_z, h6827_z, q6828_z, hc_z⟩ := hc_z
  obtain ⟨rfl, yq6828_z⟩ := rp_mkN (fun q => absurd (Eq.trans (Eq.symm ka) q.1) (by decide)) q6828_z
  subst yq6828_z
  replace hc_z : rn _ _ _ _ [.int 0] _ _ _ := hc_z
  replace hc_z := rn_ifT (am_cur_of (i := (6, 3, .ifCond .eq 45, (28, 0, 0), 0)) (by decide +kernel)) (by decide) hc_z
  replace hc_z := rn_aload_n (am_cur_of (i := (51, 1, .aload_n 0, (0, 0, 0), 0)) (by decide +kernel)) g0_z hc_z
  replace hc_z := rn_getI (v := 6) (am_cur_of (i := (52, 3, .getfield 60, (4, 10, 419), 0)) (by decide +kernel)) (by decide +kernel) ka hc_z
  replace hc_z := rn_bipush (w := 6) (am_cur_of (i := (55, 2, .bipush 6, (0, 0, 0), 0)) (by decide +kernel)) (by decide) hc_z
  replace hc_z := rn_cmpF (am_cur_of (i := (57, 3, .if_icmp .ne 11, (36, 0, 0), 0)) (by decide +kernel)) (by decide) hc_z
  replace hc_z := rn_aload_n (am_cur_of (i := (60, 1, .aload_n 0, (0, 0, 0), 0)) (by decide +kernel)) g0_z hc_z
  replace hc_z := rn_getI (v := 8) (am_cur_of (i := (61, 3, .getfield 91, (4, 11, 420), 0)) (by decide +kernel)) (by decide +kernel) kb hc_z
  replace hc_z := rn_iconst (w := 5) (am_cur_of (i := (64, 1, .iconst 5, (0, 0, 0), 0)) (by decide +kernel)) (by decide) hc_z
  replace hc_z := rn_cmpT (am_cur_of (i := (65, 3, .if_icmp .ne 17, (44, 0, 0), 0)) (by decide +kernel)) (by decide) hc_z
  replace hc_z := rn_aload_n (am_cur_of (i := (82, 1, .aload_n 0, (0, 0, 0), 0)) (by decide +kernel)) g0_z hc_z
  replace hc_z := rn_getI (v := 8) (am_cur_of (i := (83, 3, .getfield 91, (4, 11, 420), 0)) (by decide +kernel)) (by decide +kernel) kb hc_z
  replace hc_z := rn_istore_n (am_cur_of (i := (86, 1, .istore_n 1, (0, 0, 0), 0)) (by decide +kernel)) hc_z
  obtain ⟨_, s6829_z, s6830_z, g1_z, hc_z⟩ := hc_z
  replace g0_z := s6829_z 0 _ (by decide) rfl g0_z
  clear s6829_z s6830_z
  replace hc_z := rn_iload_n (am_cur_of (i := (87, 1, .iload_n 1, (0, 0, 0), 0)) (by decide +kernel)) g1_z hc_z
  replace hc_z := rn_callS (M' := am_m47) (ar := [.int 8]) (rest := []) (L := lv_args 0 [.int 8]) (am_cur_of (i := (88, 3, .invokestatic 283, (47, 842, 3), 0)) (by decide +kernel)) rfl rfl rfl rfl hc_z
  obtain ⟨r6831_z, h6832_z, q6833_z, hc_z⟩ := hc_z
  obtain ⟨rfl, yq6833_z⟩ := rs_rankC q6833_z
  replace yq6833_z := yq6833_z.symm
  subst yq6833_z
  rw [show rk_C 8 = 6 by decide] at hc_z
  replace hc_z : rn _ _ _ _ [.int 6] _ _ _ := hc_z
  replace hc_z := rn_bipush (w := 6) (am_cur_of (i := (91, 2, .bipush 6, (0, 0, 0), 0)) (by decide +kernel)) (by decide) hc_z
  replace hc_z := rn_callS (M' := am_m47) (ar := [.int 6]) (rest := [.int 6]) (L := lv_args 0 [.int 6]) (am_cur_of (i := (93, 3, .invokestatic 283, (47, 842, 3), 0)) (by decide +kernel)) rfl rfl rfl rfl hc_z
  obtain ⟨r6834_z, h6835_z, q6836_z, hc_z⟩ := hc_z
  obtain ⟨rfl, yq6836_z⟩ := rs_rankC q6836_z
  replace yq6836_z := yq6836_z.symm
  subst yq6836_z
  rw [show rk_C 6 = 6 by decide] at hc_z
  replace hc_z : rn _ _ _ _ [.int 6, .int 6] _ _ _ := hc_z
  replace hc_z := rn_cmpF (am_cur_of (i := (96, 3, .if_icmp .ne 46, (73, 0, 0), 0)) (by decide +kernel)) (by decide) hc_z
  replace hc_z := rn_aload_n (am_cur_of (i := (99, 1, .aload_n 0, (0, 0, 0), 0)) (by decide +kernel)) g0_z hc_z
  replace hc_z := rn_bipush (w := 12) (am_cur_of (i := (100, 2, .bipush 12, (0, 0, 0), 0)) (by decide +kernel)) (by decide) hc_z
  replace hc_z := rn_callV (M' := am_m46) (o := 44) (ar := [.int 12]) (rest := []) (L := lv_args 0 [.ref 44, .int 12]) (am_cur_of (i := (102, 3, .invokevirtual 264, (46, 838, 3), 0)) (by decide +kernel)) rfl rfl rfl rfl hc_z
  obtain ⟨r6837_z, h6838_z, q6839_z, hc_z⟩ := hc_z
  replace hm_z := rn_aload_n (am_cur_of (i := (0, 1, .aload_n 0, (0, 0, 0), 0)) (by decide +kernel)) g0m hm_z
  replace hm_z := rn_bipush (w := 41) (am_cur_of (i := (1, 2, .bipush 41, (0, 0, 0), 0)) (by decide +kernel)) (by decide) hm_z
  replace hm_z := rn_callV (M' := am_m171) (o := 164) (ar := [.int 41]) (rest := []) (L := lv_args 0 [.ref 164, .int 41]) (am_cur_of (i := (3, 3, .invokevirtual 194, (171, 1715, 3), 0)) (by decide +kernel)) rfl rfl rfl rfl hm_z
  obtain ⟨r6840_z, h6841_z, q6842_z, hm_z⟩ := hm_z
  obtain ⟨rfl, yq6842_z⟩ := rp_sgN (fun q => absurd (Eq.trans (Eq.symm kc) q.1) (by decide)) q6842_z
  subst yq6842_z
  replace hm_z : rn _ _ _ _ [.int 0] _ _ _ := hm_z
  replace hm_z := rn_ifT (am_cur_of (i := (6, 3, .ifCond .eq 41, (26, 0, 0), 0)) (by decide +kernel)) (by decide) hm_z
  replace hm_z := rn_aload_n (am_cur_of (i := (47, 1, .aload_n 0, (0, 0, 0), 0)) (by decide +kernel)) g0m hm_z
  replace hm_z := rn_bipush (w := 12) (am_cur_of (i := (48, 2, .bipush 12, (0, 0, 0), 0)) (by decide +kernel)) (by decide) hm_z
  replace hm_z := rn_callV (M' := am_m174) (o := 164) (ar := [.int 12]) (rest := []) (L := lv_args 0 [.ref 164, .int 12]) (am_cur_of (i := (50, 3, .invokevirtual 306, (174, 1727, 3), 0)) (by decide +kernel)) rfl rfl rfl rfl hm_z
  obtain ⟨r6843_z, h6844_z, q6845_z, hm_z⟩ := hm_z
  obtain ⟨rfl, yq6845_z⟩ := rp_kyN (fun q => absurd (Eq.trans (Eq.symm kc) q.1) (by decide)) q6845_z
  subst yq6845_z
  replace hm_z : rn _ _ _ _ [.int 0] _ _ _ := hm_z
  replace hm_z := rn_ifT (am_cur_of (i := (53, 3, .ifCond .eq 7, (32, 0, 0), 0)) (by decide +kernel)) (by decide) hm_z
  replace hm_z := rn_aload_n (am_cur_of (i := (60, 1, .aload_n 0, (0, 0, 0), 0)) (by decide +kernel)) g0m hm_z
  replace hm_z := rn_bipush (w := 13) (am_cur_of (i := (61, 2, .bipush 13, (0, 0, 0), 0)) (by decide +kernel)) (by decide) hm_z
  replace hm_z := rn_callV (M' := am_m174) (o := 164) (ar := [.int 13]) (rest := []) (L := lv_args 0 [.ref 164, .int 13]) (am_cur_of (i := (63, 3, .invokevirtual 306, (174, 1727, 3), 0)) (by decide +kernel)) rfl rfl rfl rfl hm_z
  obtain ⟨r6846_z, h6847_z, q6848_z, hm_z⟩ := hm_z
  obtain ⟨rfl, yq6848_z⟩ := rp_kyN (fun q => absurd (Eq.trans (Eq.symm kc) q.1) (by decide)) q6848_z
  subst yq6848_z
  replace hm_z : rn _ _ _ _ [.int 0] _ _ _ := hm_z
  replace hm_z := rn_ifT (am_cur_of (i := (66, 3, .ifCond .eq 7, (38, 0, 0), 0)) (by decide +kernel)) (by decide) hm_z
  replace hm_z := rn_aload_n (am_cur_of (i := (73, 1, .aload_n 0, (0, 0, 0), 0)) (by decide +kernel)) g0m hm_z
  replace hm_z := rn_getI (v := 5) (am_cur_of (i := (74, 3, .getfield 157, (12, 8, 1392), 0)) (by decide +kernel)) (by decide +kernel) kc hm_z
  replace hm_z := rn_iconst (w := 5) (am_cur_of (i := (77, 1, .iconst 5, (0, 0, 0), 0)) (by decide +kernel)) (by decide) hm_z
  replace hm_z := rn_cmpF (am_cur_of (i := (78, 3, .if_icmp .ne 12, (47, 0, 0), 0)) (by decide +kernel)) (by decide) hm_z
  replace hm_z := rn_iconst (w := 5) (am_cur_of (i := (81, 1, .iconst 5, (0, 0, 0), 0)) (by decide +kernel)) (by decide) hm_z
  replace hm_z := rn_aload_n (am_cur_of (i := (82, 1, .aload_n 0, (0, 0, 0), 0)) (by decide +kernel)) g0m hm_z
  replace hm_z := rn_getI (v := 2) (am_cur_of (i := (83, 3, .getfield 168, (12, 9, 1393), 0)) (by decide +kernel)) (by decide +kernel) kd hm_z
  replace hm_z := rn_iadd (w := 7) (am_cur_of (i := (86, 1, .iadd, (0, 0, 0), 0)) (by decide +kernel)) (by decide) hm_z
  replace hm_z := rn_goto (am_cur_of (i := (87, 3, .goto 60, (72, 0, 0), 0)) (by decide +kernel)) hm_z
  replace hm_z := rn_istore_n (am_cur_of (i := (147, 1, .istore_n 1, (0, 0, 0), 0)) (by decide +kernel)) hm_z
  obtain ⟨_, s6849_z, s6850_z, g1m, hm_z⟩ := hm_z
  replace g0m := s6849_z 0 _ (by decide) rfl g0m
  clear s6849_z s6850_z
  replace hm_z := rn_iload_n (am_cur_of (i := (148, 1, .iload_n 1, (0, 0, 0), 0)) (by decide +kernel)) g1m hm_z
  replace hm_z := rn_ifT (am_cur_of (i := (149, 3, .ifCond .ne 9, (79, 0, 0), 0)) (by decide +kernel)) (by decide) hm_z
  replace hm_z := rn_aload_n (am_cur_of (i := (158, 1, .aload_n 0, (0, 0, 0), 0)) (by decide +kernel)) g0m hm_z
  replace hm_z := rn_iload_n (am_cur_of (i := (159, 1, .iload_n 1, (0, 0, 0), 0)) (by decide +kernel)) g1m hm_z
  replace hm_z := rn_callS (M' := am_m180) (ar := [.int 7]) (rest := [.ref 164]) (L := lv_args 0 [.int 7]) (am_cur_of (i := (160, 3, .invokestatic 283, (180, 1751, 3), 0)) (by decide +kernel)) rfl rfl rfl rfl hm_z
  obtain ⟨r6851_z, h6852_z, q6853_z, hm_z⟩ := hm_z
  obtain ⟨rfl, yq6853_z⟩ := rs_rankM q6853_z
  replace yq6853_z := yq6853_z.symm
  subst yq6853_z
  rw [show rk_M 7 = 4 by decide] at hm_z
  replace hm_z : rn _ _ _ _ [.int 4, .ref 164] _ _ _ := hm_z
  replace hm_z := rn_iconst (w := 4) (am_cur_of (i := (163, 1, .iconst 4, (0, 0, 0), 0)) (by decide +kernel)) (by decide) hm_z
  replace hm_z := rn_cmpF (am_cur_of (i := (164, 3, .if_icmp .ne 7, (86, 0, 0), 0)) (by decide +kernel)) (by decide) hm_z
  replace hm_z := rn_iconst (w := 5) (am_cur_of (i := (167, 1, .iconst 5, (0, 0, 0), 0)) (by decide +kernel)) (by decide) hm_z
  replace hm_z := rn_goto (am_cur_of (i := (168, 3, .goto 7, (88, 0, 0), 0)) (by decide +kernel)) hm_z
  replace hm_z := rn_callV (M' := am_m179) (o := 164) (ar := [.int 5]) (rest := []) (L := lv_args 0 [.ref 164, .int 5]) (am_cur_of (i := (175, 3, .invokevirtual 318, (179, 1747, 3), 0)) (by decide +kernel)) rfl rfl rfl rfl hm_z
  obtain ⟨r6854_z, h6855_z, q6856_z, hm_z⟩ := hm_z
  obtain ⟨rfl, rfl, FC, FM, R, A, B, Z, nq, e13_z, hst⟩ := rz_set23 rs_l12 (by decide) Rk A B Zk q6839_z q6856_z
  have Zq := Z
  obtain ⟨np, op, z1_z, z2_z, z3_z, z4_z, z5_z, z6_z, z7_z, z8_z, z9_z, z10_z⟩ := Zq
  obtain rfl : np = nq := z1_z.symm.trans e13_z
  replace hm_z : rn _ _ _ _ [] _ _ _ := hm_z
  replace hc_z : rn _ _ _ _ [] _ _ _ := hc_z
  have cn := rt_cl z3_z
  have zz1_z : (1 : Int32).toInt = 1 := by decide
  have n31_z := (ab_32 np).2
  have y1_z := ab_isub (x := np) (y := 1) (by omega) (by omega)
  replace hc_z := rn_aload_n (am_cur_of (i := (105, 1, .aload_n 0, (0, 0, 0), 0)) (by decide +kernel)) g0_z hc_z
  replace hc_z := rn_getI (v := np) (am_cur_of (i := (106, 3, .getfield 251, (4, 13, 422), 0)) (by decide +kernel)) (by decide +kernel) z1_z hc_z
  replace hc_z := rn_if (am_cur_of (i := (109, 3, .ifCond .le 38, (76, 0, 0), 0)) (by decide +kernel)) hc_z
  rcases hc_z with ⟨b6857_z, hc_z⟩ | ⟨b6857_z, hc_z⟩
  · replace b6857_z : np.toInt ≤ (0 : Int32).toInt := b6857_z
    replace hm_z := rn_iload_n (am_cur_of (i := (178, 1, .iload_n 1, (0, 0, 0), 0)) (by decide +kernel)) g1m hm_z
    replace hm_z := rn_callS (M' := am_m180) (ar := [.int 7]) (rest := []) (L := lv_args 0 [.int 7]) (am_cur_of (i := (179, 3, .invokestatic 283, (180, 1751, 3), 0)) (by decide +kernel)) rfl rfl rfl rfl hm_z
    obtain ⟨r6858_z, h6859_z, q6860_z, hm_z⟩ := hm_z
    obtain ⟨rfl, yq6860_z⟩ := rs_rankM q6860_z
    replace yq6860_z := yq6860_z.symm
    subst yq6860_z
    rw [show rk_M 7 = 4 by decide] at hm_z
    replace hm_z : rn _ _ _ _ [.int 4] _ _ _ := hm_z
    replace hm_z := rn_iconst (w := 4) (am_cur_of (i := (182, 1, .iconst 4, (0, 0, 0), 0)) (by decide +kernel)) (by decide) hm_z
    replace hm_z := rn_cmpF (am_cur_of (i := (183, 3, .if_icmp .ne 34, (110, 0, 0), 0)) (by decide +kernel)) (by decide) hm_z
    replace hm_z := rn_aload_n (am_cur_of (i := (186, 1, .aload_n 0, (0, 0, 0), 0)) (by decide +kernel)) g0m hm_z
    replace hm_z := rn_getI (v := np) (am_cur_of (i := (187, 3, .getfield 280, (12, 41, 1425), 0)) (by decide +kernel)) (by decide +kernel) z2_z hm_z
    replace hm_z := rn_if (am_cur_of (i := (190, 3, .ifCond .le 27, (110, 0, 0), 0)) (by decide +kernel)) hm_z
    rcases hm_z with ⟨b6861_z, hm_z⟩ | ⟨b6861_z, hm_z⟩
    · replace b6861_z : np.toInt ≤ (0 : Int32).toInt := b6861_z
      exact Or.inl (rj_t8_23 R A B Z g0_z g1_z g0m g1m hc_z hm_z)
    · replace b6861_z : (0 : Int32).toInt < np.toInt := b6861_z
      omega
  · replace b6857_z : (0 : Int32).toInt < np.toInt := b6857_z
    replace hc_z := rn_aload_n (am_cur_of (i := (112, 1, .aload_n 0, (0, 0, 0), 0)) (by decide +kernel)) g0_z hc_z
    replace hc_z := rn_getR (x := 47) (am_cur_of (i := (113, 3, .getfield 22, (4, 12, 421), 0)) (by decide +kernel)) (by decide +kernel) hc_z
    replace hc_z := rn_aload_n (am_cur_of (i := (116, 1, .aload_n 0, (0, 0, 0), 0)) (by decide +kernel)) g0_z hc_z
    replace hc_z := rn_getI (v := np) (am_cur_of (i := (117, 3, .getfield 251, (4, 13, 422), 0)) (by decide +kernel)) (by decide +kernel) z1_z hc_z
    replace hc_z := rn_iconst (w := 1) (am_cur_of (i := (120, 1, .iconst 1, (0, 0, 0), 0)) (by decide +kernel)) (by decide) hc_z
    replace hc_z := rn_isub (w := np - 1) (am_cur_of (i := (121, 1, .isub, (0, 0, 0), 0)) (by decide +kernel)) rfl hc_z
    replace hc_z := rn_iaload (N := 72) (q := (np - 1).toNatClampNeg) (v := rg_v h6838_z 47 (np.toNatClampNeg - 1)) (am_cur_of (i := (122, 1, .iaload, (0, 0, 0), 0)) (by decide +kernel)) (by decide +kernel) rfl (by rw [show (np - 1).toNatClampNeg = np.toNatClampNeg - 1 by have := rt_cl (x := np - 1) (by omega); omega]) hc_z
    obtain ⟨p6862_z, hc_z⟩ := hc_z
    replace hc_z := rn_callS (M' := am_m47) (ar := [.int (rg_v h6838_z 47 (np.toNatClampNeg - 1))]) (rest := []) (L := lv_args 0 [.int (rg_v h6838_z 47 (np.toNatClampNeg - 1))]) (am_cur_of (i := (123, 3, .invokestatic 283, (47, 842, 3), 0)) (by decide +kernel)) rfl rfl rfl rfl hc_z
    obtain ⟨r6863_z, h6864_z, q6865_z, hc_z⟩ := hc_z
    obtain ⟨rfl, yq6865_z⟩ := rs_rankC q6865_z
    replace yq6865_z := yq6865_z.symm
    subst yq6865_z
    replace hc_z : rn _ _ _ _ [.int (rk_C (rg_v h6838_z 47 (np.toNatClampNeg - 1)))] _ _ _ := hc_z
    replace hc_z := rn_bipush (w := 6) (am_cur_of (i := (126, 2, .bipush 6, (0, 0, 0), 0)) (by decide +kernel)) (by decide) hc_z
    replace hc_z := rn_callS (M' := am_m47) (ar := [.int 6]) (rest := [.int (rk_C (rg_v h6838_z 47 (np.toNatClampNeg - 1)))]) (L := lv_args 0 [.int 6]) (am_cur_of (i := (128, 3, .invokestatic 283, (47, 842, 3), 0)) (by decide +kernel)) rfl rfl rfl rfl hc_z
    obtain ⟨r6866_z, h6867_z, q6868_z, hc_z⟩ := hc_z
    obtain ⟨rfl, yq6868_z⟩ := rs_rankC q6868_z
    replace yq6868_z := yq6868_z.symm
    subst yq6868_z
    rw [show rk_C 6 = 6 by decide] at hc_z
    replace hc_z : rn _ _ _ _ [.int 6, .int (rk_C (rg_v h6838_z 47 (np.toNatClampNeg - 1)))] _ _ _ := hc_z
    replace hc_z := rn_cmp (am_cur_of (i := (131, 3, .if_icmp .ne 16, (76, 0, 0), 0)) (by decide +kernel)) hc_z
    rcases hc_z with ⟨b6869_z, hc_z⟩ | ⟨b6869_z, hc_z⟩
    · replace b6869_z : ¬ (rk_C (rg_v h6838_z 47 (np.toNatClampNeg - 1))) = (6 : Int32) ∧ ¬ (rk_C (rg_v h6838_z 47 (np.toNatClampNeg - 1))).toInt = (6 : Int32).toInt := b6869_z
      replace hm_z := rn_iload_n (am_cur_of (i := (178, 1, .iload_n 1, (0, 0, 0), 0)) (by decide +kernel)) g1m hm_z
      replace hm_z := rn_callS (M' := am_m180) (ar := [.int 7]) (rest := []) (L := lv_args 0 [.int 7]) (am_cur_of (i := (179, 3, .invokestatic 283, (180, 1751, 3), 0)) (by decide +kernel)) rfl rfl rfl rfl hm_z
      obtain ⟨r6870_z, h6871_z, q6872_z, hm_z⟩ := hm_z
      obtain ⟨rfl, yq6872_z⟩ := rs_rankM q6872_z
      replace yq6872_z := yq6872_z.symm
      subst yq6872_z
      rw [show rk_M 7 = 4 by decide] at hm_z
      replace hm_z : rn _ _ _ _ [.int 4] _ _ _ := hm_z
      replace hm_z := rn_iconst (w := 4) (am_cur_of (i := (182, 1, .iconst 4, (0, 0, 0), 0)) (by decide +kernel)) (by decide) hm_z
      replace hm_z := rn_cmpF (am_cur_of (i := (183, 3, .if_icmp .ne 34, (110, 0, 0), 0)) (by decide +kernel)) (by decide) hm_z
      replace hm_z := rn_aload_n (am_cur_of (i := (186, 1, .aload_n 0, (0, 0, 0), 0)) (by decide +kernel)) g0m hm_z
      replace hm_z := rn_getI (v := np) (am_cur_of (i := (187, 3, .getfield 280, (12, 41, 1425), 0)) (by decide +kernel)) (by decide +kernel) z2_z hm_z
      replace hm_z := rn_if (am_cur_of (i := (190, 3, .ifCond .le 27, (110, 0, 0), 0)) (by decide +kernel)) hm_z
      rcases hm_z with ⟨b6873_z, hm_z⟩ | ⟨b6873_z, hm_z⟩
      · replace b6873_z : np.toInt ≤ (0 : Int32).toInt := b6873_z
        omega
      · replace b6873_z : (0 : Int32).toInt < np.toInt := b6873_z
        replace hm_z := rn_aload_n (am_cur_of (i := (193, 1, .aload_n 0, (0, 0, 0), 0)) (by decide +kernel)) g0m hm_z
        replace hm_z := rn_getR (x := 184) (am_cur_of (i := (194, 3, .getfield 72, (12, 39, 1423), 0)) (by decide +kernel)) (by decide +kernel) hm_z
        replace hm_z := rn_aload_n (am_cur_of (i := (197, 1, .aload_n 0, (0, 0, 0), 0)) (by decide +kernel)) g0m hm_z
        replace hm_z := rn_getI (v := np) (am_cur_of (i := (198, 3, .getfield 280, (12, 41, 1425), 0)) (by decide +kernel)) (by decide +kernel) z2_z hm_z
        replace hm_z := rn_iconst (w := 1) (am_cur_of (i := (201, 1, .iconst 1, (0, 0, 0), 0)) (by decide +kernel)) (by decide) hm_z
        replace hm_z := rn_isub (w := np - 1) (am_cur_of (i := (202, 1, .isub, (0, 0, 0), 0)) (by decide +kernel)) rfl hm_z
        replace hm_z := rn_iaload (N := 96) (q := (np - 1).toNatClampNeg) (v := rg_v h6855_z 184 (np.toNatClampNeg - 1)) (am_cur_of (i := (203, 1, .iaload, (0, 0, 0), 0)) (by decide +kernel)) (by decide +kernel) rfl (by rw [show (np - 1).toNatClampNeg = np.toNatClampNeg - 1 by have := rt_cl (x := np - 1) (by omega); omega]) hm_z
        obtain ⟨p6874_z, hm_z⟩ := hm_z
        replace hm_z := rn_callS (M' := am_m180) (ar := [.int (rg_v h6855_z 184 (np.toNatClampNeg - 1))]) (rest := []) (L := lv_args 0 [.int (rg_v h6855_z 184 (np.toNatClampNeg - 1))]) (am_cur_of (i := (204, 3, .invokestatic 283, (180, 1751, 3), 0)) (by decide +kernel)) rfl rfl rfl rfl hm_z
        obtain ⟨r6875_z, h6876_z, q6877_z, hm_z⟩ := hm_z
        obtain ⟨rfl, yq6877_z⟩ := rs_rankM q6877_z
        replace yq6877_z := yq6877_z.symm
        subst yq6877_z
        replace hm_z : rn _ _ _ _ [.int (rk_M (rg_v h6855_z 184 (np.toNatClampNeg - 1)))] _ _ _ := hm_z
        replace hm_z := rn_iconst (w := 4) (am_cur_of (i := (207, 1, .iconst 4, (0, 0, 0), 0)) (by decide +kernel)) (by decide) hm_z
        replace hm_z := rn_cmp (am_cur_of (i := (208, 3, .if_icmp .ne 9, (110, 0, 0), 0)) (by decide +kernel)) hm_z
        rcases hm_z with ⟨b6878_z, hm_z⟩ | ⟨b6878_z, hm_z⟩
        · replace b6878_z : ¬ (rk_M (rg_v h6855_z 184 (np.toNatClampNeg - 1))) = (4 : Int32) ∧ ¬ (rk_M (rg_v h6855_z 184 (np.toNatClampNeg - 1))).toInt = (4 : Int32).toInt := b6878_z
          exact Or.inl (rj_t8_23 R A B Z g0_z g1_z g0m g1m hc_z hm_z)
        · replace b6878_z : (rk_M (rg_v h6855_z 184 (np.toNatClampNeg - 1))) = (4 : Int32) ∧ (rk_M (rg_v h6855_z 184 (np.toNatClampNeg - 1))).toInt = (4 : Int32).toInt := b6878_z
          exact absurd b6878_z.2 (fun q4_z => b6869_z.2 ((rs_o64 (z9_z (np.toNatClampNeg - 1) (by omega))).mpr (q4_z.trans (by decide))))
    · replace b6869_z : (rk_C (rg_v h6838_z 47 (np.toNatClampNeg - 1))) = (6 : Int32) ∧ (rk_C (rg_v h6838_z 47 (np.toNatClampNeg - 1))).toInt = (6 : Int32).toInt := b6869_z
      replace hc_z := rn_aload_n (am_cur_of (i := (134, 1, .aload_n 0, (0, 0, 0), 0)) (by decide +kernel)) g0_z hc_z
      replace hc_z := rn_iconst (w := 1) (am_cur_of (i := (135, 1, .iconst 1, (0, 0, 0), 0)) (by decide +kernel)) (by decide) hc_z
      replace hc_z := rn_callV (M' := am_m29) (o := 44) (ar := [.int 1]) (rest := []) (L := lv_args 0 [.ref 44, .int 1]) (am_cur_of (i := (136, 3, .invokevirtual 108, (29, 769, 3), 0)) (by decide +kernel)) rfl rfl rfl rfl hc_z
      obtain ⟨r6879_z, h6880_z, q6881_z, hc_z⟩ := hc_z
      obtain ⟨rfl, yq6881_z⟩ := rp_fail R.2.2.2.1 q6881_z
      subst yq6881_z
      replace hc_z : rn _ _ _ _ [] _ _ _ := hc_z
      have K := rs_stick (w := 1) (q := p) (a := 44) (by decide) (by decide) rfl (by decide) rfl (show rg_v (am_up (am_up h6838_z 44 1 (.int 1)) 44 2 (.int (rg_v h6838_z 44 9))) 44 2 = p from R.2.2.2.2.1) hc_z
      replace hm_z := rn_iload_n (am_cur_of (i := (178, 1, .iload_n 1, (0, 0, 0), 0)) (by decide +kernel)) g1m hm_z
      replace hm_z := rn_callS (M' := am_m180) (ar := [.int 7]) (rest := []) (L := lv_args 0 [.int 7]) (am_cur_of (i := (179, 3, .invokestatic 283, (180, 1751, 3), 0)) (by decide +kernel)) rfl rfl rfl rfl hm_z
      obtain ⟨r6882_z, h6883_z, q6884_z, hm_z⟩ := hm_z
      obtain ⟨rfl, yq6884_z⟩ := rs_rankM q6884_z
      replace yq6884_z := yq6884_z.symm
      subst yq6884_z
      rw [show rk_M 7 = 4 by decide] at hm_z
      replace hm_z : rn _ _ _ _ [.int 4] _ _ _ := hm_z
      replace hm_z := rn_iconst (w := 4) (am_cur_of (i := (182, 1, .iconst 4, (0, 0, 0), 0)) (by decide +kernel)) (by decide) hm_z
      replace hm_z := rn_cmpF (am_cur_of (i := (183, 3, .if_icmp .ne 34, (110, 0, 0), 0)) (by decide +kernel)) (by decide) hm_z
      replace hm_z := rn_aload_n (am_cur_of (i := (186, 1, .aload_n 0, (0, 0, 0), 0)) (by decide +kernel)) g0m hm_z
      replace hm_z := rn_getI (v := np) (am_cur_of (i := (187, 3, .getfield 280, (12, 41, 1425), 0)) (by decide +kernel)) (by decide +kernel) z2_z hm_z
      replace hm_z := rn_if (am_cur_of (i := (190, 3, .ifCond .le 27, (110, 0, 0), 0)) (by decide +kernel)) hm_z
      rcases hm_z with ⟨b6885_z, hm_z⟩ | ⟨b6885_z, hm_z⟩
      · replace b6885_z : np.toInt ≤ (0 : Int32).toInt := b6885_z
        omega
      · replace b6885_z : (0 : Int32).toInt < np.toInt := b6885_z
        replace hm_z := rn_aload_n (am_cur_of (i := (193, 1, .aload_n 0, (0, 0, 0), 0)) (by decide +kernel)) g0m hm_z
        replace hm_z := rn_getR (x := 184) (am_cur_of (i := (194, 3, .getfield 72, (12, 39, 1423), 0)) (by decide +kernel)) (by decide +kernel) hm_z
        replace hm_z := rn_aload_n (am_cur_of (i := (197, 1, .aload_n 0, (0, 0, 0), 0)) (by decide +kernel)) g0m hm_z
        replace hm_z := rn_getI (v := np) (am_cur_of (i := (198, 3, .getfield 280, (12, 41, 1425), 0)) (by decide +kernel)) (by decide +kernel) z2_z hm_z
        replace hm_z := rn_iconst (w := 1) (am_cur_of (i := (201, 1, .iconst 1, (0, 0, 0), 0)) (by decide +kernel)) (by decide) hm_z
        replace hm_z := rn_isub (w := np - 1) (am_cur_of (i := (202, 1, .isub, (0, 0, 0), 0)) (by decide +kernel)) rfl hm_z
        replace hm_z := rn_iaload (N := 96) (q := (np - 1).toNatClampNeg) (v := rg_v h6855_z 184 (np.toNatClampNeg - 1)) (am_cur_of (i := (203, 1, .iaload, (0, 0, 0), 0)) (by decide +kernel)) (by decide +kernel) rfl (by rw [show (np - 1).toNatClampNeg = np.toNatClampNeg - 1 by have := rt_cl (x := np - 1) (by omega); omega]) hm_z
        obtain ⟨p6886_z, hm_z⟩ := hm_z
        replace hm_z := rn_callS (M' := am_m180) (ar := [.int (rg_v h6855_z 184 (np.toNatClampNeg - 1))]) (rest := []) (L := lv_args 0 [.int (rg_v h6855_z 184 (np.toNatClampNeg - 1))]) (am_cur_of (i := (204, 3, .invokestatic 283, (180, 1751, 3), 0)) (by decide +kernel)) rfl rfl rfl rfl hm_z
        obtain ⟨r6887_z, h6888_z, q6889_z, hm_z⟩ := hm_z
        obtain ⟨rfl, yq6889_z⟩ := rs_rankM q6889_z
        replace yq6889_z := yq6889_z.symm
        subst yq6889_z
        replace hm_z : rn _ _ _ _ [.int (rk_M (rg_v h6855_z 184 (np.toNatClampNeg - 1)))] _ _ _ := hm_z
        replace hm_z := rn_iconst (w := 4) (am_cur_of (i := (207, 1, .iconst 4, (0, 0, 0), 0)) (by decide +kernel)) (by decide) hm_z
        replace hm_z := rn_cmp (am_cur_of (i := (208, 3, .if_icmp .ne 9, (110, 0, 0), 0)) (by decide +kernel)) hm_z
        rcases hm_z with ⟨b6890_z, hm_z⟩ | ⟨b6890_z, hm_z⟩
        · replace b6890_z : ¬ (rk_M (rg_v h6855_z 184 (np.toNatClampNeg - 1))) = (4 : Int32) ∧ ¬ (rk_M (rg_v h6855_z 184 (np.toNatClampNeg - 1))).toInt = (4 : Int32).toInt := b6890_z
          exact absurd ((rs_o64 (z9_z (np.toNatClampNeg - 1) (by omega))).mp (b6869_z.2.trans (by decide))) (fun q4_z => b6890_z.2 (q4_z.trans (by decide)))
        · replace b6890_z : (rk_M (rg_v h6855_z 184 (np.toNatClampNeg - 1))) = (4 : Int32) ∧ (rk_M (rg_v h6855_z 184 (np.toNatClampNeg - 1))).toInt = (4 : Int32).toInt := b6890_z
          replace hm_z := rn_aload_n (am_cur_of (i := (211, 1, .aload_n 0, (0, 0, 0), 0)) (by decide +kernel)) g0m hm_z
          replace hm_z := rn_iconst (w := 1) (am_cur_of (i := (212, 1, .iconst 1, (0, 0, 0), 0)) (by decide +kernel)) (by decide) hm_z
          replace hm_z := rn_callV (M' := am_m158) (o := 164) (ar := [.int 1]) (rest := []) (L := lv_args 0 [.ref 164, .int 1]) (am_cur_of (i := (213, 3, .invokevirtual 181, (158, 1665, 3), 0)) (by decide +kernel)) rfl rfl rfl rfl hm_z
          obtain ⟨r6891_z, h6892_z, q6893_z, hm_z⟩ := hm_z
          obtain ⟨rfl, yq6893_z⟩ := rp_wrong q6893_z
          subst yq6893_z
          replace hm_z : rn _ _ _ _ [.int 0] _ _ _ := hm_z
          replace hm_z := rn_iret (am_cur_of (i := (216, 1, .ireturn, (0, 0, 0), 0)) (by decide +kernel)) hm_z
          obtain ⟨e6894_z, e6895_z⟩ := hm_z
          subst e6894_z e6895_z
          exact Or.inl (Or.inr ⟨rfl, 1, by decide, K.1, K.2, rfl, R.2.2.2.2.2.1⟩)
theorem rj_c21_23 {T : Nat → Int32} {S x p : Int32} {n n' : Nat} {h h' g g' : am_H} {r r' : Option Value} (R : rq T S x p 23 h g) (A : rp 23 h g) (B : rp_t h g) (Z : rs 23 h g) (w0_z : rg_v g 164 45 = 0) (ka : (rg_v h 44 10) = 6) (kc : (rg_v g 164 8) = 5) (kb : (rg_v h 44 11) = 9) (kd : (rg_v g 164 9) = 3) (hc_z : rn n am_m44 0 (lv_args 0 [.ref 44]) [] h r h') (hm_z : rn n' am_m178 0 (lv_args 0 [.ref 164]) [] g r' g') : rj_Q T S x p 23 h g h' g' r r' := by
  have z0_z : (0 : Int32).toInt = 0 := by decide
  have z4_z : (4 : Int32).toInt = 4 := by decide
  have z6_z : (6 : Int32).toInt = 6 := by decide
  have g0_z : am_get (lv_args 0 [.ref 44]) 0 = some (.ref 44) := rfl
  have g0m : am_get (lv_args 0 [.ref 164]) 0 = some (.ref 164) := rfl
  have Rk := R
  have Zk := Z
  obtain ⟨⟨c1_z, c2_z, c3_z, c4_z, c5_z, c6_z, c7_z, c8_z⟩, ⟨m2_z, m3_z, m4_z, m5_z, m6_z, m7_z, m8_z⟩, R3, R4, R5, R6, R7, R8, R9, R10⟩ := (R : rq T S x p 23 h g)
  obtain ⟨np, op, z1_z, z2_z, z3_z, z4_z, z5_z, z6_z, z7_z, z8_z, z9_z, z10_z⟩ := (Z : rs 23 h g)
  obtain ⟨nk1_z, nk2_z, nk3_z⟩ := A.2.2.2.2.2.1
  replace nk1_z : rg_v h 32 0 = rg_v g 164 44 := nk1_z
  replace nk2_z : 0 ≤ (rg_v h 32 0).toInt := nk2_z
  replace nk3_z : (rg_v h 32 0).toInt ≤ 64 := nk3_z
  replace z8_z : np.toInt ≤ (rg_v h 32 0).toInt + op.toInt := z8_z
  obtain ⟨kn, ekn⟩ : ∃ v, rg_v h 32 0 = v := ⟨_, rfl⟩
  rw [ekn] at nk1_z nk2_z nk3_z z8_z
  have e9_z := rt_c1 (x := kn) (by omega) (by omega)
  replace hc_z := rn_aload_n (am_cur_of (i := (0, 1, .aload_n 0, (0, 0, 0), 0)) (by decide +kernel)) g0_z hc_z
  replace hc_z := rn_bipush (w := 41) (am_cur_of (i := (1, 2, .bipush 41, (0, 0, 0), 0)) (by decide +kernel)) (by decide) hc_z
  replace hc_z := rn_callV (M' := am_m45) (o := 44) (ar := [.int 41]) (rest := []) (L := lv_args 0 [.ref 44, .int 41]) (am_cur_of (i := (3, 3, .invokevirtual 105, (45, 834, 3), 0)) (by decide +kernel)) rfl rfl rfl rfl hc_z
  obtain ⟨r6896_z, h6897_z, q6898_z, hc_z⟩ := hc_z
  obtain ⟨rfl, yq6898_z⟩ := rp_mkN (fun q => absurd (Eq.trans (Eq.symm ka) q.1) (by decide)) q6898_z
  subst yq6898_z
  replace hc_z : rn _ _ _ _ [.int 0] _ _ _ := hc_z
  replace hc_z := rn_ifT (am_cur_of (i := (6, 3, .ifCond .eq 45, (28, 0, 0), 0)) (by decide +kernel)) (by decide) hc_z
  replace hc_z := rn_aload_n (am_cur_of (i := (51, 1, .aload_n 0, (0, 0, 0), 0)) (by decide +kernel)) g0_z hc_z
  replace hc_z := rn_getI (v := 6) (am_cur_of (i := (52, 3, .getfield 60, (4, 10, 419), 0)) (by decide +kernel)) (by decide +kernel) ka hc_z
  replace hc_z := rn_bipush (w := 6) (am_cur_of (i := (55, 2, .bipush 6, (0, 0, 0), 0)) (by decide +kernel)) (by decide) hc_z
  replace hc_z := rn_cmpF (am_cur_of (i := (57, 3, .if_icmp .ne 11, (36, 0, 0), 0)) (by decide +kernel)) (by decide) hc_z
  replace hc_z := rn_aload_n (am_cur_of (i := (60, 1, .aload_n 0, (0, 0, 0), 0)) (by decide +kernel)) g0_z hc_z
  replace hc_z := rn_getI (v := 9) (am_cur_of (i := (61, 3, .getfield 91, (4, 11, 420), 0)) (by decide +kernel)) (by decide +kernel) kb hc_z
  replace hc_z := rn_iconst (w := 5) (am_cur_of (i := (64, 1, .iconst 5, (0, 0, 0), 0)) (by decide +kernel)) (by decide) hc_z
  replace hc_z := rn_cmpT (am_cur_of (i := (65, 3, .if_icmp .ne 17, (44, 0, 0), 0)) (by decide +kernel)) (by decide) hc_z
  replace hc_z := rn_aload_n (am_cur_of (i := (82, 1, .aload_n 0, (0, 0, 0), 0)) (by decide +kernel)) g0_z hc_z
  replace hc_z := rn_getI (v := 9) (am_cur_of (i := (83, 3, .getfield 91, (4, 11, 420), 0)) (by decide +kernel)) (by decide +kernel) kb hc_z
  replace hc_z := rn_istore_n (am_cur_of (i := (86, 1, .istore_n 1, (0, 0, 0), 0)) (by decide +kernel)) hc_z
  obtain ⟨_, s6899_z, s6900_z, g1_z, hc_z⟩ := hc_z
  replace g0_z := s6899_z 0 _ (by decide) rfl g0_z
  clear s6899_z s6900_z
  replace hc_z := rn_iload_n (am_cur_of (i := (87, 1, .iload_n 1, (0, 0, 0), 0)) (by decide +kernel)) g1_z hc_z
  replace hc_z := rn_callS (M' := am_m47) (ar := [.int 9]) (rest := []) (L := lv_args 0 [.int 9]) (am_cur_of (i := (88, 3, .invokestatic 283, (47, 842, 3), 0)) (by decide +kernel)) rfl rfl rfl rfl hc_z
  obtain ⟨r6901_z, h6902_z, q6903_z, hc_z⟩ := hc_z
  obtain ⟨rfl, yq6903_z⟩ := rs_rankC q6903_z
  replace yq6903_z := yq6903_z.symm
  subst yq6903_z
  rw [show rk_C 9 = 6 by decide] at hc_z
  replace hc_z : rn _ _ _ _ [.int 6] _ _ _ := hc_z
  replace hc_z := rn_bipush (w := 6) (am_cur_of (i := (91, 2, .bipush 6, (0, 0, 0), 0)) (by decide +kernel)) (by decide) hc_z
  replace hc_z := rn_callS (M' := am_m47) (ar := [.int 6]) (rest := [.int 6]) (L := lv_args 0 [.int 6]) (am_cur_of (i := (93, 3, .invokestatic 283, (47, 842, 3), 0)) (by decide +kernel)) rfl rfl rfl rfl hc_z
  obtain ⟨r6904_z, h6905_z, q6906_z, hc_z⟩ := hc_z
  obtain ⟨rfl, yq6906_z⟩ := rs_rankC q6906_z
  replace yq6906_z := yq6906_z.symm
  subst yq6906_z
  rw [show rk_C 6 = 6 by decide] at hc_z
  replace hc_z : rn _ _ _ _ [.int 6, .int 6] _ _ _ := hc_z
  replace hc_z := rn_cmpF (am_cur_of (i := (96, 3, .if_icmp .ne 46, (73, 0, 0), 0)) (by decide +kernel)) (by decide) hc_z
  replace hc_z := rn_aload_n (am_cur_of (i := (99, 1, .aload_n 0, (0, 0, 0), 0)) (by decide +kernel)) g0_z hc_z
  replace hc_z := rn_bipush (w := 12) (am_cur_of (i := (100, 2, .bipush 12, (0, 0, 0), 0)) (by decide +kernel)) (by decide) hc_z
  replace hc_z := rn_callV (M' := am_m46) (o := 44) (ar := [.int 12]) (rest := []) (L := lv_args 0 [.ref 44, .int 12]) (am_cur_of (i := (102, 3, .invokevirtual 264, (46, 838, 3), 0)) (by decide +kernel)) rfl rfl rfl rfl hc_z
  obtain ⟨r6907_z, h6908_z, q6909_z, hc_z⟩ := hc_z
  replace hm_z := rn_aload_n (am_cur_of (i := (0, 1, .aload_n 0, (0, 0, 0), 0)) (by decide +kernel)) g0m hm_z
  replace hm_z := rn_bipush (w := 41) (am_cur_of (i := (1, 2, .bipush 41, (0, 0, 0), 0)) (by decide +kernel)) (by decide) hm_z
  replace hm_z := rn_callV (M' := am_m171) (o := 164) (ar := [.int 41]) (rest := []) (L := lv_args 0 [.ref 164, .int 41]) (am_cur_of (i := (3, 3, .invokevirtual 194, (171, 1715, 3), 0)) (by decide +kernel)) rfl rfl rfl rfl hm_z
  obtain ⟨r6910_z, h6911_z, q6912_z, hm_z⟩ := hm_z
  obtain ⟨rfl, yq6912_z⟩ := rp_sgN (fun q => absurd (Eq.trans (Eq.symm kc) q.1) (by decide)) q6912_z
  subst yq6912_z
  replace hm_z : rn _ _ _ _ [.int 0] _ _ _ := hm_z
  replace hm_z := rn_ifT (am_cur_of (i := (6, 3, .ifCond .eq 41, (26, 0, 0), 0)) (by decide +kernel)) (by decide) hm_z
  replace hm_z := rn_aload_n (am_cur_of (i := (47, 1, .aload_n 0, (0, 0, 0), 0)) (by decide +kernel)) g0m hm_z
  replace hm_z := rn_bipush (w := 12) (am_cur_of (i := (48, 2, .bipush 12, (0, 0, 0), 0)) (by decide +kernel)) (by decide) hm_z
  replace hm_z := rn_callV (M' := am_m174) (o := 164) (ar := [.int 12]) (rest := []) (L := lv_args 0 [.ref 164, .int 12]) (am_cur_of (i := (50, 3, .invokevirtual 306, (174, 1727, 3), 0)) (by decide +kernel)) rfl rfl rfl rfl hm_z
  obtain ⟨r6913_z, h6914_z, q6915_z, hm_z⟩ := hm_z
  obtain ⟨rfl, yq6915_z⟩ := rp_kyN (fun q => absurd (Eq.trans (Eq.symm kc) q.1) (by decide)) q6915_z
  subst yq6915_z
  replace hm_z : rn _ _ _ _ [.int 0] _ _ _ := hm_z
  replace hm_z := rn_ifT (am_cur_of (i := (53, 3, .ifCond .eq 7, (32, 0, 0), 0)) (by decide +kernel)) (by decide) hm_z
  replace hm_z := rn_aload_n (am_cur_of (i := (60, 1, .aload_n 0, (0, 0, 0), 0)) (by decide +kernel)) g0m hm_z
  replace hm_z := rn_bipush (w := 13) (am_cur_of (i := (61, 2, .bipush 13, (0, 0, 0), 0)) (by decide +kernel)) (by decide) hm_z
  replace hm_z := rn_callV (M' := am_m174) (o := 164) (ar := [.int 13]) (rest := []) (L := lv_args 0 [.ref 164, .int 13]) (am_cur_of (i := (63, 3, .invokevirtual 306, (174, 1727, 3), 0)) (by decide +kernel)) rfl rfl rfl rfl hm_z
  obtain ⟨r6916_z, h6917_z, q6918_z, hm_z⟩ := hm_z
  obtain ⟨rfl, yq6918_z⟩ := rp_kyN (fun q => absurd (Eq.trans (Eq.symm kc) q.1) (by decide)) q6918_z
  subst yq6918_z
  replace hm_z : rn _ _ _ _ [.int 0] _ _ _ := hm_z
  replace hm_z := rn_ifT (am_cur_of (i := (66, 3, .ifCond .eq 7, (38, 0, 0), 0)) (by decide +kernel)) (by decide) hm_z
  replace hm_z := rn_aload_n (am_cur_of (i := (73, 1, .aload_n 0, (0, 0, 0), 0)) (by decide +kernel)) g0m hm_z
  replace hm_z := rn_getI (v := 5) (am_cur_of (i := (74, 3, .getfield 157, (12, 8, 1392), 0)) (by decide +kernel)) (by decide +kernel) kc hm_z
  replace hm_z := rn_iconst (w := 5) (am_cur_of (i := (77, 1, .iconst 5, (0, 0, 0), 0)) (by decide +kernel)) (by decide) hm_z
  replace hm_z := rn_cmpF (am_cur_of (i := (78, 3, .if_icmp .ne 12, (47, 0, 0), 0)) (by decide +kernel)) (by decide) hm_z
  replace hm_z := rn_iconst (w := 5) (am_cur_of (i := (81, 1, .iconst 5, (0, 0, 0), 0)) (by decide +kernel)) (by decide) hm_z
  replace hm_z := rn_aload_n (am_cur_of (i := (82, 1, .aload_n 0, (0, 0, 0), 0)) (by decide +kernel)) g0m hm_z
  replace hm_z := rn_getI (v := 3) (am_cur_of (i := (83, 3, .getfield 168, (12, 9, 1393), 0)) (by decide +kernel)) (by decide +kernel) kd hm_z
  replace hm_z := rn_iadd (w := 8) (am_cur_of (i := (86, 1, .iadd, (0, 0, 0), 0)) (by decide +kernel)) (by decide) hm_z
  replace hm_z := rn_goto (am_cur_of (i := (87, 3, .goto 60, (72, 0, 0), 0)) (by decide +kernel)) hm_z
  replace hm_z := rn_istore_n (am_cur_of (i := (147, 1, .istore_n 1, (0, 0, 0), 0)) (by decide +kernel)) hm_z
  obtain ⟨_, s6919_z, s6920_z, g1m, hm_z⟩ := hm_z
  replace g0m := s6919_z 0 _ (by decide) rfl g0m
  clear s6919_z s6920_z
  replace hm_z := rn_iload_n (am_cur_of (i := (148, 1, .iload_n 1, (0, 0, 0), 0)) (by decide +kernel)) g1m hm_z
  replace hm_z := rn_ifT (am_cur_of (i := (149, 3, .ifCond .ne 9, (79, 0, 0), 0)) (by decide +kernel)) (by decide) hm_z
  replace hm_z := rn_aload_n (am_cur_of (i := (158, 1, .aload_n 0, (0, 0, 0), 0)) (by decide +kernel)) g0m hm_z
  replace hm_z := rn_iload_n (am_cur_of (i := (159, 1, .iload_n 1, (0, 0, 0), 0)) (by decide +kernel)) g1m hm_z
  replace hm_z := rn_callS (M' := am_m180) (ar := [.int 8]) (rest := [.ref 164]) (L := lv_args 0 [.int 8]) (am_cur_of (i := (160, 3, .invokestatic 283, (180, 1751, 3), 0)) (by decide +kernel)) rfl rfl rfl rfl hm_z
  obtain ⟨r6921_z, h6922_z, q6923_z, hm_z⟩ := hm_z
  obtain ⟨rfl, yq6923_z⟩ := rs_rankM q6923_z
  replace yq6923_z := yq6923_z.symm
  subst yq6923_z
  rw [show rk_M 8 = 4 by decide] at hm_z
  replace hm_z : rn _ _ _ _ [.int 4, .ref 164] _ _ _ := hm_z
  replace hm_z := rn_iconst (w := 4) (am_cur_of (i := (163, 1, .iconst 4, (0, 0, 0), 0)) (by decide +kernel)) (by decide) hm_z
  replace hm_z := rn_cmpF (am_cur_of (i := (164, 3, .if_icmp .ne 7, (86, 0, 0), 0)) (by decide +kernel)) (by decide) hm_z
  replace hm_z := rn_iconst (w := 5) (am_cur_of (i := (167, 1, .iconst 5, (0, 0, 0), 0)) (by decide +kernel)) (by decide) hm_z
  replace hm_z := rn_goto (am_cur_of (i := (168, 3, .goto 7, (88, 0, 0), 0)) (by decide +kernel)) hm_z
  replace hm_z := rn_callV (M' := am_m179) (o := 164) (ar := [.int 5]) (rest := []) (L := lv_args 0 [.ref 164, .int 5]) (am_cur_of (i := (175, 3, .invokevirtual 318, (179, 1747, 3), 0)) (by decide +kernel)) rfl rfl rfl rfl hm_z
  obtain ⟨r6924_z, h6925_z, q6926_z, hm_z⟩ := hm_z
  obtain ⟨rfl, rfl, FC, FM, R, A, B, Z, nq, e13_z, hst⟩ := rz_set23 rs_l12 (by decide) Rk A B Zk q6909_z q6926_z
  have Zq := Z
  obtain ⟨np, op, z1_z, z2_z, z3_z, z4_z, z5_z, z6_z, z7_z, z8_z, z9_z, z10_z⟩ := Zq
  obtain rfl : np = nq := z1_z.symm.trans e13_z
  replace hm_z : rn _ _ _ _ [] _ _ _ := hm_z
  replace hc_z : rn _ _ _ _ [] _ _ _ := hc_z
  have cn := rt_cl z3_z
  have zz1_z : (1 : Int32).toInt = 1 := by decide
  have n31_z := (ab_32 np).2
  have y1_z := ab_isub (x := np) (y := 1) (by omega) (by omega)
  replace hc_z := rn_aload_n (am_cur_of (i := (105, 1, .aload_n 0, (0, 0, 0), 0)) (by decide +kernel)) g0_z hc_z
  replace hc_z := rn_getI (v := np) (am_cur_of (i := (106, 3, .getfield 251, (4, 13, 422), 0)) (by decide +kernel)) (by decide +kernel) z1_z hc_z
  replace hc_z := rn_if (am_cur_of (i := (109, 3, .ifCond .le 38, (76, 0, 0), 0)) (by decide +kernel)) hc_z
  rcases hc_z with ⟨b6927_z, hc_z⟩ | ⟨b6927_z, hc_z⟩
  · replace b6927_z : np.toInt ≤ (0 : Int32).toInt := b6927_z
    replace hm_z := rn_iload_n (am_cur_of (i := (178, 1, .iload_n 1, (0, 0, 0), 0)) (by decide +kernel)) g1m hm_z
    replace hm_z := rn_callS (M' := am_m180) (ar := [.int 8]) (rest := []) (L := lv_args 0 [.int 8]) (am_cur_of (i := (179, 3, .invokestatic 283, (180, 1751, 3), 0)) (by decide +kernel)) rfl rfl rfl rfl hm_z
    obtain ⟨r6928_z, h6929_z, q6930_z, hm_z⟩ := hm_z
    obtain ⟨rfl, yq6930_z⟩ := rs_rankM q6930_z
    replace yq6930_z := yq6930_z.symm
    subst yq6930_z
    rw [show rk_M 8 = 4 by decide] at hm_z
    replace hm_z : rn _ _ _ _ [.int 4] _ _ _ := hm_z
    replace hm_z := rn_iconst (w := 4) (am_cur_of (i := (182, 1, .iconst 4, (0, 0, 0), 0)) (by decide +kernel)) (by decide) hm_z
    replace hm_z := rn_cmpF (am_cur_of (i := (183, 3, .if_icmp .ne 34, (110, 0, 0), 0)) (by decide +kernel)) (by decide) hm_z
    replace hm_z := rn_aload_n (am_cur_of (i := (186, 1, .aload_n 0, (0, 0, 0), 0)) (by decide +kernel)) g0m hm_z
    replace hm_z := rn_getI (v := np) (am_cur_of (i := (187, 3, .getfield 280, (12, 41, 1425), 0)) (by decide +kernel)) (by decide +kernel) z2_z hm_z
    replace hm_z := rn_if (am_cur_of (i := (190, 3, .ifCond .le 27, (110, 0, 0), 0)) (by decide +kernel)) hm_z
    rcases hm_z with ⟨b6931_z, hm_z⟩ | ⟨b6931_z, hm_z⟩
    · replace b6931_z : np.toInt ≤ (0 : Int32).toInt := b6931_z
      exact Or.inl (rj_t9_23 R A B Z g0_z g1_z g0m g1m hc_z hm_z)
    · replace b6931_z : (0 : Int32).toInt < np.toInt := b6931_z
      omega
  · replace b6927_z : (0 : Int32).toInt < np.toInt := b6927_z
    replace hc_z := rn_aload_n (am_cur_of (i := (112, 1, .aload_n 0, (0, 0, 0), 0)) (by decide +kernel)) g0_z hc_z
    replace hc_z := rn_getR (x := 47) (am_cur_of (i := (113, 3, .getfield 22, (4, 12, 421), 0)) (by decide +kernel)) (by decide +kernel) hc_z
    replace hc_z := rn_aload_n (am_cur_of (i := (116, 1, .aload_n 0, (0, 0, 0), 0)) (by decide +kernel)) g0_z hc_z
    replace hc_z := rn_getI (v := np) (am_cur_of (i := (117, 3, .getfield 251, (4, 13, 422), 0)) (by decide +kernel)) (by decide +kernel) z1_z hc_z
    replace hc_z := rn_iconst (w := 1) (am_cur_of (i := (120, 1, .iconst 1, (0, 0, 0), 0)) (by decide +kernel)) (by decide) hc_z
    replace hc_z := rn_isub (w := np - 1) (am_cur_of (i := (121, 1, .isub, (0, 0, 0), 0)) (by decide +kernel)) rfl hc_z
    replace hc_z := rn_iaload (N := 72) (q := (np - 1).toNatClampNeg) (v := rg_v h6908_z 47 (np.toNatClampNeg - 1)) (am_cur_of (i := (122, 1, .iaload, (0, 0, 0), 0)) (by decide +kernel)) (by decide +kernel) rfl (by rw [show (np - 1).toNatClampNeg = np.toNatClampNeg - 1 by have := rt_cl (x := np - 1) (by omega); omega]) hc_z
    obtain ⟨p6932_z, hc_z⟩ := hc_z
    replace hc_z := rn_callS (M' := am_m47) (ar := [.int (rg_v h6908_z 47 (np.toNatClampNeg - 1))]) (rest := []) (L := lv_args 0 [.int (rg_v h6908_z 47 (np.toNatClampNeg - 1))]) (am_cur_of (i := (123, 3, .invokestatic 283, (47, 842, 3), 0)) (by decide +kernel)) rfl rfl rfl rfl hc_z
    obtain ⟨r6933_z, h6934_z, q6935_z, hc_z⟩ := hc_z
    obtain ⟨rfl, yq6935_z⟩ := rs_rankC q6935_z
    replace yq6935_z := yq6935_z.symm
    subst yq6935_z
    replace hc_z : rn _ _ _ _ [.int (rk_C (rg_v h6908_z 47 (np.toNatClampNeg - 1)))] _ _ _ := hc_z
    replace hc_z := rn_bipush (w := 6) (am_cur_of (i := (126, 2, .bipush 6, (0, 0, 0), 0)) (by decide +kernel)) (by decide) hc_z
    replace hc_z := rn_callS (M' := am_m47) (ar := [.int 6]) (rest := [.int (rk_C (rg_v h6908_z 47 (np.toNatClampNeg - 1)))]) (L := lv_args 0 [.int 6]) (am_cur_of (i := (128, 3, .invokestatic 283, (47, 842, 3), 0)) (by decide +kernel)) rfl rfl rfl rfl hc_z
    obtain ⟨r6936_z, h6937_z, q6938_z, hc_z⟩ := hc_z
    obtain ⟨rfl, yq6938_z⟩ := rs_rankC q6938_z
    replace yq6938_z := yq6938_z.symm
    subst yq6938_z
    rw [show rk_C 6 = 6 by decide] at hc_z
    replace hc_z : rn _ _ _ _ [.int 6, .int (rk_C (rg_v h6908_z 47 (np.toNatClampNeg - 1)))] _ _ _ := hc_z
    replace hc_z := rn_cmp (am_cur_of (i := (131, 3, .if_icmp .ne 16, (76, 0, 0), 0)) (by decide +kernel)) hc_z
    rcases hc_z with ⟨b6939_z, hc_z⟩ | ⟨b6939_z, hc_z⟩
    · replace b6939_z : ¬ (rk_C (rg_v h6908_z 47 (np.toNatClampNeg - 1))) = (6 : Int32) ∧ ¬ (rk_C (rg_v h6908_z 47 (np.toNatClampNeg - 1))).toInt = (6 : Int32).toInt := b6939_z
      replace hm_z := rn_iload_n (am_cur_of (i := (178, 1, .iload_n 1, (0, 0, 0), 0)) (by decide +kernel)) g1m hm_z
      replace hm_z := rn_callS (M' := am_m180) (ar := [.int 8]) (rest := []) (L := lv_args 0 [.int 8]) (am_cur_of (i := (179, 3, .invokestatic 283, (180, 1751, 3), 0)) (by decide +kernel)) rfl rfl rfl rfl hm_z
      obtain ⟨r6940_z, h6941_z, q6942_z, hm_z⟩ := hm_z
      obtain ⟨rfl, yq6942_z⟩ := rs_rankM q6942_z
      replace yq6942_z := yq6942_z.symm
      subst yq6942_z
      rw [show rk_M 8 = 4 by decide] at hm_z
      replace hm_z : rn _ _ _ _ [.int 4] _ _ _ := hm_z
      replace hm_z := rn_iconst (w := 4) (am_cur_of (i := (182, 1, .iconst 4, (0, 0, 0), 0)) (by decide +kernel)) (by decide) hm_z
      replace hm_z := rn_cmpF (am_cur_of (i := (183, 3, .if_icmp .ne 34, (110, 0, 0), 0)) (by decide +kernel)) (by decide) hm_z
      replace hm_z := rn_aload_n (am_cur_of (i := (186, 1, .aload_n 0, (0, 0, 0), 0)) (by decide +kernel)) g0m hm_z
      replace hm_z := rn_getI (v := np) (am_cur_of (i := (187, 3, .getfield 280, (12, 41, 1425), 0)) (by decide +kernel)) (by decide +kernel) z2_z hm_z
      replace hm_z := rn_if (am_cur_of (i := (190, 3, .ifCond .le 27, (110, 0, 0), 0)) (by decide +kernel)) hm_z
      rcases hm_z with ⟨b6943_z, hm_z⟩ | ⟨b6943_z, hm_z⟩
      · replace b6943_z : np.toInt ≤ (0 : Int32).toInt := b6943_z
        omega
      · replace b6943_z : (0 : Int32).toInt < np.toInt := b6943_z
        replace hm_z := rn_aload_n (am_cur_of (i := (193, 1, .aload_n 0, (0, 0, 0), 0)) (by decide +kernel)) g0m hm_z
        replace hm_z := rn_getR (x := 184) (am_cur_of (i := (194, 3, .getfield 72, (12, 39, 1423), 0)) (by decide +kernel)) (by decide +kernel) hm_z
        replace hm_z := rn_aload_n (am_cur_of (i := (197, 1, .aload_n 0, (0, 0, 0), 0)) (by decide +kernel)) g0m hm_z
        replace hm_z := rn_getI (v := np) (am_cur_of (i := (198, 3, .getfield 280, (12, 41, 1425), 0)) (by decide +kernel)) (by decide +kernel) z2_z hm_z
        replace hm_z := rn_iconst (w := 1) (am_cur_of (i := (201, 1, .iconst 1, (0, 0, 0), 0)) (by decide +kernel)) (by decide) hm_z
        replace hm_z := rn_isub (w := np - 1) (am_cur_of (i := (202, 1, .isub, (0, 0, 0), 0)) (by decide +kernel)) rfl hm_z
        replace hm_z := rn_iaload (N := 96) (q := (np - 1).toNatClampNeg) (v := rg_v h6925_z 184 (np.toNatClampNeg - 1)) (am_cur_of (i := (203, 1, .iaload, (0, 0, 0), 0)) (by decide +kernel)) (by decide +kernel) rfl (by rw [show (np - 1).toNatClampNeg = np.toNatClampNeg - 1 by have := rt_cl (x := np - 1) (by omega); omega]) hm_z
        obtain ⟨p6944_z, hm_z⟩ := hm_z
        replace hm_z := rn_callS (M' := am_m180) (ar := [.int (rg_v h6925_z 184 (np.toNatClampNeg - 1))]) (rest := []) (L := lv_args 0 [.int (rg_v h6925_z 184 (np.toNatClampNeg - 1))]) (am_cur_of (i := (204, 3, .invokestatic 283, (180, 1751, 3), 0)) (by decide +kernel)) rfl rfl rfl rfl hm_z
        obtain ⟨r6945_z, h6946_z, q6947_z, hm_z⟩ := hm_z
        obtain ⟨rfl, yq6947_z⟩ := rs_rankM q6947_z
        replace yq6947_z := yq6947_z.symm
        subst yq6947_z
        replace hm_z : rn _ _ _ _ [.int (rk_M (rg_v h6925_z 184 (np.toNatClampNeg - 1)))] _ _ _ := hm_z
        replace hm_z := rn_iconst (w := 4) (am_cur_of (i := (207, 1, .iconst 4, (0, 0, 0), 0)) (by decide +kernel)) (by decide) hm_z
        replace hm_z := rn_cmp (am_cur_of (i := (208, 3, .if_icmp .ne 9, (110, 0, 0), 0)) (by decide +kernel)) hm_z
        rcases hm_z with ⟨b6948_z, hm_z⟩ | ⟨b6948_z, hm_z⟩
        · replace b6948_z : ¬ (rk_M (rg_v h6925_z 184 (np.toNatClampNeg - 1))) = (4 : Int32) ∧ ¬ (rk_M (rg_v h6925_z 184 (np.toNatClampNeg - 1))).toInt = (4 : Int32).toInt := b6948_z
          exact Or.inl (rj_t9_23 R A B Z g0_z g1_z g0m g1m hc_z hm_z)
        · replace b6948_z : (rk_M (rg_v h6925_z 184 (np.toNatClampNeg - 1))) = (4 : Int32) ∧ (rk_M (rg_v h6925_z 184 (np.toNatClampNeg - 1))).toInt = (4 : Int32).toInt := b6948_z
          exact absurd b6948_z.2 (fun q4_z => b6939_z.2 ((rs_o64 (z9_z (np.toNatClampNeg - 1) (by omega))).mpr (q4_z.trans (by decide))))
    · replace b6939_z : (rk_C (rg_v h6908_z 47 (np.toNatClampNeg - 1))) = (6 : Int32) ∧ (rk_C (rg_v h6908_z 47 (np.toNatClampNeg - 1))).toInt = (6 : Int32).toInt := b6939_z
      replace hc_z := rn_aload_n (am_cur_of (i := (134, 1, .aload_n 0, (0, 0, 0), 0)) (by decide +kernel)) g0_z hc_z
      replace hc_z := rn_iconst (w := 1) (am_cur_of (i := (135, 1, .iconst 1, (0, 0, 0), 0)) (by decide +kernel)) (by decide) hc_z
      replace hc_z := rn_callV (M' := am_m29) (o := 44) (ar := [.int 1]) (rest := []) (L := lv_args 0 [.ref 44, .int 1]) (am_cur_of (i := (136, 3, .invokevirtual 108, (29, 769, 3), 0)) (by decide +kernel)) rfl rfl rfl rfl hc_z
      obtain ⟨r6949_z, h6950_z, q6951_z, hc_z⟩ := hc_z
      obtain ⟨rfl, yq6951_z⟩ := rp_fail R.2.2.2.1 q6951_z
      subst yq6951_z
      replace hc_z : rn _ _ _ _ [] _ _ _ := hc_z
      have K := rs_stick (w := 1) (q := p) (a := 44) (by decide) (by decide) rfl (by decide) rfl (show rg_v (am_up (am_up h6908_z 44 1 (.int 1)) 44 2 (.int (rg_v h6908_z 44 9))) 44 2 = p from R.2.2.2.2.1) hc_z
      replace hm_z := rn_iload_n (am_cur_of (i := (178, 1, .iload_n 1, (0, 0, 0), 0)) (by decide +kernel)) g1m hm_z
      replace hm_z := rn_callS (M' := am_m180) (ar := [.int 8]) (rest := []) (L := lv_args 0 [.int 8]) (am_cur_of (i := (179, 3, .invokestatic 283, (180, 1751, 3), 0)) (by decide +kernel)) rfl rfl rfl rfl hm_z
      obtain ⟨r6952_z, h6953_z, q6954_z, hm_z⟩ := hm_z
      obtain ⟨rfl, yq6954_z⟩ := rs_rankM q6954_z
      replace yq6954_z := yq6954_z.symm
      subst yq6954_z
      rw [show rk_M 8 = 4 by decide] at hm_z
      replace hm_z : rn _ _ _ _ [.int 4] _ _ _ := hm_z
      replace hm_z := rn_iconst (w := 4) (am_cur_of (i := (182, 1, .iconst 4, (0, 0, 0), 0)) (by decide +kernel)) (by decide) hm_z
      replace hm_z := rn_cmpF (am_cur_of (i := (183, 3, .if_icmp .ne 34, (110, 0, 0), 0)) (by decide +kernel)) (by decide) hm_z
      replace hm_z := rn_aload_n (am_cur_of (i := (186, 1, .aload_n 0, (0, 0, 0), 0)) (by decide +kernel)) g0m hm_z
      replace hm_z := rn_getI (v := np) (am_cur_of (i := (187, 3, .getfield 280, (12, 41, 1425), 0)) (by decide +kernel)) (by decide +kernel) z2_z hm_z
      replace hm_z := rn_if (am_cur_of (i := (190, 3, .ifCond .le 27, (110, 0, 0), 0)) (by decide +kernel)) hm_z
      rcases hm_z with ⟨b6955_z, hm_z⟩ | ⟨b6955_z, hm_z⟩
      · replace b6955_z : np.toInt ≤ (0 : Int32).toInt := b6955_z
        omega
      · replace b6955_z : (0 : Int32).toInt < np.toInt := b6955_z
        replace hm_z := rn_aload_n (am_cur_of (i := (193, 1, .aload_n 0, (0, 0, 0), 0)) (by decide +kernel)) g0m hm_z
        replace hm_z := rn_getR (x := 184) (am_cur_of (i := (194, 3, .getfield 72, (12, 39, 1423), 0)) (by decide +kernel)) (by decide +kernel) hm_z
        replace hm_z := rn_aload_n (am_cur_of (i := (197, 1, .aload_n 0, (0, 0, 0), 0)) (by decide +kernel)) g0m hm_z
        replace hm_z := rn_getI (v := np) (am_cur_of (i := (198, 3, .getfield 280, (12, 41, 1425), 0)) (by decide +kernel)) (by decide +kernel) z2_z hm_z
        replace hm_z := rn_iconst (w := 1) (am_cur_of (i := (201, 1, .iconst 1, (0, 0, 0), 0)) (by decide +kernel)) (by decide) hm_z
        replace hm_z := rn_isub (w := np - 1) (am_cur_of (i := (202, 1, .isub, (0, 0, 0), 0)) (by decide +kernel)) rfl hm_z
        replace hm_z := rn_iaload (N := 96) (q := (np - 1).toNatClampNeg) (v := rg_v h6925_z 184 (np.toNatClampNeg - 1)) (am_cur_of (i := (203, 1, .iaload, (0, 0, 0), 0)) (by decide +kernel)) (by decide +kernel) rfl (by rw [show (np - 1).toNatClampNeg = np.toNatClampNeg - 1 by have := rt_cl (x := np - 1) (by omega); omega]) hm_z
        obtain ⟨p6956_z, hm_z⟩ := hm_z
        replace hm_z := rn_callS (M' := am_m180) (ar := [.int (rg_v h6925_z 184 (np.toNatClampNeg - 1))]) (rest := []) (L := lv_args 0 [.int (rg_v h6925_z 184 (np.toNatClampNeg - 1))]) (am_cur_of (i := (204, 3, .invokestatic 283, (180, 1751, 3), 0)) (by decide +kernel)) rfl rfl rfl rfl hm_z
        obtain ⟨r6957_z, h6958_z, q6959_z, hm_z⟩ := hm_z
        obtain ⟨rfl, yq6959_z⟩ := rs_rankM q6959_z
        replace yq6959_z := yq6959_z.symm
        subst yq6959_z
        replace hm_z : rn _ _ _ _ [.int (rk_M (rg_v h6925_z 184 (np.toNatClampNeg - 1)))] _ _ _ := hm_z
        replace hm_z := rn_iconst (w := 4) (am_cur_of (i := (207, 1, .iconst 4, (0, 0, 0), 0)) (by decide +kernel)) (by decide) hm_z
        replace hm_z := rn_cmp (am_cur_of (i := (208, 3, .if_icmp .ne 9, (110, 0, 0), 0)) (by decide +kernel)) hm_z
        rcases hm_z with ⟨b6960_z, hm_z⟩ | ⟨b6960_z, hm_z⟩
        · replace b6960_z : ¬ (rk_M (rg_v h6925_z 184 (np.toNatClampNeg - 1))) = (4 : Int32) ∧ ¬ (rk_M (rg_v h6925_z 184 (np.toNatClampNeg - 1))).toInt = (4 : Int32).toInt := b6960_z
          exact absurd ((rs_o64 (z9_z (np.toNatClampNeg - 1) (by omega))).mp (b6939_z.2.trans (by decide))) (fun q4_z => b6960_z.2 (q4_z.trans (by decide)))
        · replace b6960_z : (rk_M (rg_v h6925_z 184 (np.toNatClampNeg - 1))) = (4 : Int32) ∧ (rk_M (rg_v h6925_z 184 (np.toNatClampNeg - 1))).toInt = (4 : Int32).toInt := b6960_z
          replace hm_z := rn_aload_n (am_cur_of (i := (211, 1, .aload_n 0, (0, 0, 0), 0)) (by decide +kernel)) g0m hm_z
          replace hm_z := rn_iconst (w := 1) (am_cur_of (i := (212, 1, .iconst 1, (0, 0, 0), 0)) (by decide +kernel)) (by decide) hm_z
          replace hm_z := rn_callV (M' := am_m158) (o := 164) (ar := [.int 1]) (rest := []) (L := lv_args 0 [.ref 164, .int 1]) (am_cur_of (i := (213, 3, .invokevirtual 181, (158, 1665, 3), 0)) (by decide +kernel)) rfl rfl rfl rfl hm_z
          obtain ⟨r6961_z, h6962_z, q6963_z, hm_z⟩ := hm_z
          obtain ⟨rfl, yq6963_z⟩ := rp_wrong q6963_z
          subst yq6963_z
          replace hm_z : rn _ _ _ _ [.int 0] _ _ _ := hm_z
          replace hm_z := rn_iret (am_cur_of (i := (216, 1, .ireturn, (0, 0, 0), 0)) (by decide +kernel)) hm_z
          obtain ⟨e6964_z, e6965_z⟩ := hm_z
          subst e6964_z e6965_z
          exact Or.inl (Or.inr ⟨rfl, 1, by decide, K.1, K.2, rfl, R.2.2.2.2.2.1⟩)
theorem rj_c22_23 {T : Nat → Int32} {S x p : Int32} {n n' : Nat} {h h' g g' : am_H} {r r' : Option Value} (R : rq T S x p 23 h g) (A : rp 23 h g) (B : rp_t h g) (Z : rs 23 h g) (w0_z : rg_v g 164 45 = 0) (ka : (rg_v h 44 10) = 6) (kc : (rg_v g 164 8) = 5) (kb : (rg_v h 44 11) = 10) (kd : (rg_v g 164 9) = 4) (hc_z : rn n am_m44 0 (lv_args 0 [.ref 44]) [] h r h') (hm_z : rn n' am_m178 0 (lv_args 0 [.ref 164]) [] g r' g') : rj_Q T S x p 23 h g h' g' r r' := by
  have z0_z : (0 : Int32).toInt = 0 := by decide
  have z4_z : (4 : Int32).toInt = 4 := by decide
  have z6_z : (6 : Int32).toInt = 6 := by decide
  have g0_z : am_get (lv_args 0 [.ref 44]) 0 = some (.ref 44) := rfl
  have g0m : am_get (lv_args 0 [.ref 164]) 0 = some (.ref 164) := rfl
  have Rk := R
  have Zk := Z
  obtain ⟨⟨c1_z, c2_z, c3_z, c4_z, c5_z, c6_z, c7_z, c8_z⟩, ⟨m2_z, m3_z, m4_z, m5_z, m6_z, m7_z, m8_z⟩, R3, R4, R5, R6, R7, R8, R9, R10⟩ := (R : rq T S x p 23 h g)
  obtain ⟨np, op, z1_z, z2_z, z3_z, z4_z, z5_z, z6_z, z7_z, z8_z, z9_z, z10_z⟩ := (Z : rs 23 h g)
  obtain ⟨nk1_z, nk2_z, nk3_z⟩ := A.2.2.2.2.2.1
  replace nk1_z : rg_v h 32 0 = rg_v g 164 44 := nk1_z
  replace nk2_z : 0 ≤ (rg_v h 32 0).toInt := nk2_z
  replace nk3_z : (rg_v h 32 0).toInt ≤ 64 := nk3_z
  replace z8_z : np.toInt ≤ (rg_v h 32 0).toInt + op.toInt := z8_z
  obtain ⟨kn, ekn⟩ : ∃ v, rg_v h 32 0 = v := ⟨_, rfl⟩
  rw [ekn] at nk1_z nk2_z nk3_z z8_z
  have e9_z := rt_c1 (x := kn) (by omega) (by omega)
  replace hc_z := rn_aload_n (am_cur_of (i := (0, 1, .aload_n 0, (0, 0, 0), 0)) (by decide +kernel)) g0_z hc_z
  replace hc_z := rn_bipush (w := 41) (am_cur_of (i := (1, 2, .bipush 41, (0, 0, 0), 0)) (by decide +kernel)) (by decide) hc_z
  replace hc_z := rn_callV (M' := am_m45) (o := 44) (ar := [.int 41]) (rest := []) (L := lv_args 0 [.ref 44, .int 41]) (am_cur_of (i := (3, 3, .invokevirtual 105, (45, 834, 3), 0)) (by decide +kernel)) rfl rfl rfl rfl hc_z
  obtain ⟨r6966_z, h6967_z, q6968_z, hc_z⟩ := hc_z
  obtain ⟨rfl, yq6968_z⟩ := rp_mkN (fun q => absurd (Eq.trans (Eq.symm ka) q.1) (by decide)) q6968_z
  subst yq6968_z
  replace hc_z : rn _ _ _ _ [.int 0] _ _ _ := hc_z
  replace hc_z := rn_ifT (am_cur_of (i := (6, 3, .ifCond .eq 45, (28, 0, 0), 0)) (by decide +kernel)) (by decide) hc_z
  replace hc_z := rn_aload_n (am_cur_of (i := (51, 1, .aload_n 0, (0, 0, 0), 0)) (by decide +kernel)) g0_z hc_z
  replace hc_z := rn_getI (v := 6) (am_cur_of (i := (52, 3, .getfield 60, (4, 10, 419), 0)) (by decide +kernel)) (by decide +kernel) ka hc_z
  replace hc_z := rn_bipush (w := 6) (am_cur_of (i := (55, 2, .bipush 6, (0, 0, 0), 0)) (by decide +kernel)) (by decide) hc_z
  replace hc_z := rn_cmpF (am_cur_of (i := (57, 3, .if_icmp .ne 11, (36, 0, 0), 0)) (by decide +kernel)) (by decide) hc_z
  replace hc_z := rn_aload_n (am_cur_of (i := (60, 1, .aload_n 0, (0, 0, 0), 0)) (by decide +kernel)) g0_z hc_z
  replace hc_z := rn_getI (v := 10) (am_cur_of (i := (61, 3, .getfield 91, (4, 11, 420), 0)) (by decide +kernel)) (by decide +kernel) kb hc_z
  replace hc_z := rn_iconst (w := 5) (am_cur_of (i := (64, 1, .iconst 5, (0, 0, 0), 0)) (by decide +kernel)) (by decide) hc_z
  replace hc_z := rn_cmpT (am_cur_of (i := (65, 3, .if_icmp .ne 17, (44, 0, 0), 0)) (by decide +kernel)) (by decide) hc_z
  replace hc_z := rn_aload_n (am_cur_of (i := (82, 1, .aload_n 0, (0, 0, 0), 0)) (by decide +kernel)) g0_z hc_z
  replace hc_z := rn_getI (v := 10) (am_cur_of (i := (83, 3, .getfield 91, (4, 11, 420), 0)) (by decide +kernel)) (by decide +kernel) kb hc_z
  replace hc_z := rn_istore_n (am_cur_of (i := (86, 1, .istore_n 1, (0, 0, 0), 0)) (by decide +kernel)) hc_z
  obtain ⟨_, s6969_z, s6970_z, g1_z, hc_z⟩ := hc_z
  replace g0_z := s6969_z 0 _ (by decide) rfl g0_z
  clear s6969_z s6970_z
  replace hc_z := rn_iload_n (am_cur_of (i := (87, 1, .iload_n 1, (0, 0, 0), 0)) (by decide +kernel)) g1_z hc_z
  replace hc_z := rn_callS (M' := am_m47) (ar := [.int 10]) (rest := []) (L := lv_args 0 [.int 10]) (am_cur_of (i := (88, 3, .invokestatic 283, (47, 842, 3), 0)) (by decide +kernel)) rfl rfl rfl rfl hc_z
  obtain ⟨r6971_z, h6972_z, q6973_z, hc_z⟩ := hc_z
  obtain ⟨rfl, yq6973_z⟩ := rs_rankC q6973_z
  replace yq6973_z := yq6973_z.symm
  subst yq6973_z
  rw [show rk_C 10 = 6 by decide] at hc_z
  replace hc_z : rn _ _ _ _ [.int 6] _ _ _ := hc_z
  replace hc_z := rn_bipush (w := 6) (am_cur_of (i := (91, 2, .bipush 6, (0, 0, 0), 0)) (by decide +kernel)) (by decide) hc_z
  replace hc_z := rn_callS (M' := am_m47) (ar := [.int 6]) (rest := [.int 6]) (L := lv_args 0 [.int 6]) (am_cur_of (i := (93, 3, .invokestatic 283, (47, 842, 3), 0)) (by decide +kernel)) rfl rfl rfl rfl hc_z
  obtain ⟨r6974_z, h6975_z, q6976_z, hc_z⟩ := hc_z
  obtain ⟨rfl, yq6976_z⟩ := rs_rankC q6976_z
  replace yq6976_z := yq6976_z.symm
  subst yq6976_z
  rw [show rk_C 6 = 6 by decide] at hc_z
  replace hc_z : rn _ _ _ _ [.int 6, .int 6] _ _ _ := hc_z
  replace hc_z := rn_cmpF (am_cur_of (i := (96, 3, .if_icmp .ne 46, (73, 0, 0), 0)) (by decide +kernel)) (by decide) hc_z
  replace hc_z := rn_aload_n (am_cur_of (i := (99, 1, .aload_n 0, (0, 0, 0), 0)) (by decide +kernel)) g0_z hc_z
  replace hc_z := rn_bipush (w := 12) (am_cur_of (i := (100, 2, .bipush 12, (0, 0, 0), 0)) (by decide +kernel)) (by decide) hc_z
  replace hc_z := rn_callV (M' := am_m46) (o := 44) (ar := [.int 12]) (rest := []) (L := lv_args 0 [.ref 44, .int 12]) (am_cur_of (i := (102, 3, .invokevirtual 264, (46, 838, 3), 0)) (by decide +kernel)) rfl rfl rfl rfl hc_z
  obtain ⟨r6977_z, h6978_z, q6979_z, hc_z⟩ := hc_z
  replace hm_z := rn_aload_n (am_cur_of (i := (0, 1, .aload_n 0, (0, 0, 0), 0)) (by decide +kernel)) g0m hm_z
  replace hm_z := rn_bipush (w := 41) (am_cur_of (i := (1, 2, .bipush 41, (0, 0, 0), 0)) (by decide +kernel)) (by decide) hm_z
  replace hm_z := rn_callV (M' := am_m171) (o := 164) (ar := [.int 41]) (rest := []) (L := lv_args 0 [.ref 164, .int 41]) (am_cur_of (i := (3, 3, .invokevirtual 194, (171, 1715, 3), 0)) (by decide +kernel)) rfl rfl rfl rfl hm_z
  obtain ⟨r6980_z, h6981_z, q6982_z, hm_z⟩ := hm_z
  obtain ⟨rfl, yq6982_z⟩ := rp_sgN (fun q => absurd (Eq.trans (Eq.symm kc) q.1) (by decide)) q6982_z
  subst yq6982_z
  replace hm_z : rn _ _ _ _ [.int 0] _ _ _ := hm_z
  replace hm_z := rn_ifT (am_cur_of (i := (6, 3, .ifCond .eq 41, (26, 0, 0), 0)) (by decide +kernel)) (by decide) hm_z
  replace hm_z := rn_aload_n (am_cur_of (i := (47, 1, .aload_n 0, (0, 0, 0), 0)) (by decide +kernel)) g0m hm_z
  replace hm_z := rn_bipush (w := 12) (am_cur_of (i := (48, 2, .bipush 12, (0, 0, 0), 0)) (by decide +kernel)) (by decide) hm_z
  replace hm_z := rn_callV (M' := am_m174) (o := 164) (ar := [.int 12]) (rest := []) (L := lv_args 0 [.ref 164, .int 12]) (am_cur_of (i := (50, 3, .invokevirtual 306, (174, 1727, 3), 0)) (by decide +kernel)) rfl rfl rfl rfl hm_z
  obtain ⟨r6983_z, h6984_z, q6985_z, hm_z⟩ := hm_z
  obtain ⟨rfl, yq6985_z⟩ := rp_kyN (fun q => absurd (Eq.trans (Eq.symm kc) q.1) (by decide)) q6985_z
  subst yq6985_z
  replace hm_z : rn _ _ _ _ [.int 0] _ _ _ := hm_z
  replace hm_z := rn_ifT (am_cur_of (i := (53, 3, .ifCond .eq 7, (32, 0, 0), 0)) (by decide +kernel)) (by decide) hm_z
  replace hm_z := rn_aload_n (am_cur_of (i := (60, 1, .aload_n 0, (0, 0, 0), 0)) (by decide +kernel)) g0m hm_z
  replace hm_z := rn_bipush (w := 13) (am_cur_of (i := (61, 2, .bipush 13, (0, 0, 0), 0)) (by decide +kernel)) (by decide) hm_z
  replace hm_z := rn_callV (M' := am_m174) (o := 164) (ar := [.int 13]) (rest := []) (L := lv_args 0 [.ref 164, .int 13]) (am_cur_of (i := (63, 3, .invokevirtual 306, (174, 1727, 3), 0)) (by decide +kernel)) rfl rfl rfl rfl hm_z
  obtain ⟨r6986_z, h6987_z, q6988_z, hm_z⟩ := hm_z
  obtain ⟨rfl, yq6988_z⟩ := rp_kyN (fun q => absurd (Eq.trans (Eq.symm kc) q.1) (by decide)) q6988_z
  subst yq6988_z
  replace hm_z : rn _ _ _ _ [.int 0] _ _ _ := hm_z
  replace hm_z := rn_ifT (am_cur_of (i := (66, 3, .ifCond .eq 7, (38, 0, 0), 0)) (by decide +kernel)) (by decide) hm_z
  replace hm_z := rn_aload_n (am_cur_of (i := (73, 1, .aload_n 0, (0, 0, 0), 0)) (by decide +kernel)) g0m hm_z
  replace hm_z := rn_getI (v := 5) (am_cur_of (i := (74, 3, .getfield 157, (12, 8, 1392), 0)) (by decide +kernel)) (by decide +kernel) kc hm_z
  replace hm_z := rn_iconst (w := 5) (am_cur_of (i := (77, 1, .iconst 5, (0, 0, 0), 0)) (by decide +kernel)) (by decide) hm_z
  replace hm_z := rn_cmpF (am_cur_of (i := (78, 3, .if_icmp .ne 12, (47, 0, 0), 0)) (by decide +kernel)) (by decide) hm_z
  replace hm_z := rn_iconst (w := 5) (am_cur_of (i := (81, 1, .iconst 5, (0, 0, 0), 0)) (by decide +kernel)) (by decide) hm_z
  replace hm_z := rn_aload_n (am_cur_of (i := (82, 1, .aload_n 0, (0, 0, 0), 0)) (by decide +kernel)) g0m hm_z
  replace hm_z := rn_getI (v := 4) (am_cur_of (i := (83, 3, .getfield 168, (12, 9, 1393), 0)) (by decide +kernel)) (by decide +kernel) kd hm_z
  replace hm_z := rn_iadd (w := 9) (am_cur_of (i := (86, 1, .iadd, (0, 0, 0), 0)) (by decide +kernel)) (by decide) hm_z
  replace hm_z := rn_goto (am_cur_of (i := (87, 3, .goto 60, (72, 0, 0), 0)) (by decide +kernel)) hm_z
  replace hm_z := rn_istore_n (am_cur_of (i := (147, 1, .istore_n 1, (0, 0, 0), 0)) (by decide +kernel)) hm_z
  obtain ⟨_, s6989_z, s6990_z, g1m, hm_z⟩ := hm_z
  replace g0m := s6989_z 0 _ (by decide) rfl g0m
  clear s6989_z s6990_z
  replace hm_z := rn_iload_n (am_cur_of (i := (148, 1, .iload_n 1, (0, 0, 0), 0)) (by decide +kernel)) g1m hm_z
  replace hm_z := rn_ifT (am_cur_of (i := (149, 3, .ifCond .ne 9, (79, 0, 0), 0)) (by decide +kernel)) (by decide) hm_z
  replace hm_z := rn_aload_n (am_cur_of (i := (158, 1, .aload_n 0, (0, 0, 0), 0)) (by decide +kernel)) g0m hm_z
  replace hm_z := rn_iload_n (am_cur_of (i := (159, 1, .iload_n 1, (0, 0, 0), 0)) (by decide +kernel)) g1m hm_z
  replace hm_z := rn_callS (M' := am_m180) (ar := [.int 9]) (rest := [.ref 164]) (L := lv_args 0 [.int 9]) (am_cur_of (i := (160, 3, .invokestatic 283, (180, 1751, 3), 0)) (by decide +kernel)) rfl rfl rfl rfl hm_z
  obtain ⟨r6991_z, h6992_z, q6993_z, hm_z⟩ := hm_z
  obtain ⟨rfl, yq6993_z⟩ := rs_rankM q6993_z
  replace yq6993_z := yq6993_z.symm
  subst yq6993_z
  rw [show rk_M 9 = 4 by decide] at hm_z
  replace hm_z : rn _ _ _ _ [.int 4, .ref 164] _ _ _ := hm_z
  replace hm_z := rn_iconst (w := 4) (am_cur_of (i := (163, 1, .iconst 4, (0, 0, 0), 0)) (by decide +kernel)) (by decide) hm_z
  replace hm_z := rn_cmpF (am_cur_of (i := (164, 3, .if_icmp .ne 7, (86, 0, 0), 0)) (by decide +kernel)) (by decide) hm_z
  replace hm_z := rn_iconst (w := 5) (am_cur_of (i := (167, 1, .iconst 5, (0, 0, 0), 0)) (by decide +kernel)) (by decide) hm_z
  replace hm_z := rn_goto (am_cur_of (i := (168, 3, .goto 7, (88, 0, 0), 0)) (by decide +kernel)) hm_z
  replace hm_z := rn_callV (M' := am_m179) (o := 164) (ar := [.int 5]) (rest := []) (L := lv_args 0 [.ref 164, .int 5]) (am_cur_of (i := (175, 3, .invokevirtual 318, (179, 1747, 3), 0)) (by decide +kernel)) rfl rfl rfl rfl hm_z
  obtain ⟨r6994_z, h6995_z, q6996_z, hm_z⟩ := hm_z
  obtain ⟨rfl, rfl, FC, FM, R, A, B, Z, nq, e13_z, hst⟩ := rz_set23 rs_l12 (by decide) Rk A B Zk q6979_z q6996_z
  have Zq := Z
  obtain ⟨np, op, z1_z, z2_z, z3_z, z4_z, z5_z, z6_z, z7_z, z8_z, z9_z, z10_z⟩ := Zq
  obtain rfl : np = nq := z1_z.symm.trans e13_z
  replace hm_z : rn _ _ _ _ [] _ _ _ := hm_z
  replace hc_z : rn _ _ _ _ [] _ _ _ := hc_z
  have cn := rt_cl z3_z
  have zz1_z : (1 : Int32).toInt = 1 := by decide
  have n31_z := (ab_32 np).2
  have y1_z := ab_isub (x := np) (y := 1) (by omega) (by omega)
  replace hc_z := rn_aload_n (am_cur_of (i := (105, 1, .aload_n 0, (0, 0, 0), 0)) (by decide +kernel)) g0_z hc_z
  replace hc_z := rn_getI (v := np) (am_cur_of (i := (106, 3, .getfield 251, (4, 13, 422), 0)) (by decide +kernel)) (by decide +kernel) z1_z hc_z
  replace hc_z := rn_if (am_cur_of (i := (109, 3, .ifCond .le 38, (76, 0, 0), 0)) (by decide +kernel)) hc_z
  rcases hc_z with ⟨b6997_z, hc_z⟩ | ⟨b6997_z, hc_z⟩
  · replace b6997_z : np.toInt ≤ (0 : Int32).toInt := b6997_z
    replace hm_z := rn_iload_n (am_cur_of (i := (178, 1, .iload_n 1, (0, 0, 0), 0)) (by decide +kernel)) g1m hm_z
    replace hm_z := rn_callS (M' := am_m180) (ar := [.int 9]) (rest := []) (L := lv_args 0 [.int 9]) (am_cur_of (i := (179, 3, .invokestatic 283, (180, 1751, 3), 0)) (by decide +kernel)) rfl rfl rfl rfl hm_z
    obtain ⟨r6998_z, h6999_z, q7000_z, hm_z⟩ := hm_z
    obtain ⟨rfl, yq7000_z⟩ := rs_rankM q7000_z
    replace yq7000_z := yq7000_z.symm
    subst yq7000_z
    rw [show rk_M 9 = 4 by decide] at hm_z
    replace hm_z : rn _ _ _ _ [.int 4] _ _ _ := hm_z
    replace hm_z := rn_iconst (w := 4) (am_cur_of (i := (182, 1, .iconst 4, (0, 0, 0), 0)) (by decide +kernel)) (by decide) hm_z
    replace hm_z := rn_cmpF (am_cur_of (i := (183, 3, .if_icmp .ne 34, (110, 0, 0), 0)) (by decide +kernel)) (by decide) hm_z
    replace hm_z := rn_aload_n (am_cur_of (i := (186, 1, .aload_n 0, (0, 0, 0), 0)) (by decide +kernel)) g0m hm_z
    replace hm_z := rn_getI (v := np) (am_cur_of (i := (187, 3, .getfield 280, (12, 41, 1425), 0)) (by decide +kernel)) (by decide +kernel) z2_z hm_z
    replace hm_z := rn_if (am_cur_of (i := (190, 3, .ifCond .le 27, (110, 0, 0), 0)) (by decide +kernel)) hm_z
    rcases hm_z with ⟨b7001_z, hm_z⟩ | ⟨b7001_z, hm_z⟩
    · replace b7001_z : np.toInt ≤ (0 : Int32).toInt := b7001_z
      exact Or.inl (rj_t10_23 R A B Z g0_z g1_z g0m g1m hc_z hm_z)
    · replace b7001_z : (0 : Int32).toInt < np.toInt := b7001_z
      omega
  · replace b6997_z : (0 : Int32).toInt < np.toInt := b6997_z
    replace hc_z := rn_aload_n (am_cur_of (i := (112, 1, .aload_n 0, (0, 0, 0), 0)) (by decide +kernel)) g0_z hc_z
    replace hc_z := rn_getR (x := 47) (am_cur_of (i := (113, 3, .getfield 22, (4, 12, 421), 0)) (by decide +kernel)) (by decide +kernel) hc_z
    replace hc_z := rn_aload_n (am_cur_of (i := (116, 1, .aload_n 0, (0, 0, 0), 0)) (by decide +kernel)) g0_z hc_z
    replace hc_z := rn_getI (v := np) (am_cur_of (i := (117, 3, .getfield 251, (4, 13, 422), 0)) (by decide +kernel)) (by decide +kernel) z1_z hc_z
    replace hc_z := rn_iconst (w := 1) (am_cur_of (i := (120, 1, .iconst 1, (0, 0, 0), 0)) (by decide +kernel)) (by decide) hc_z
    replace hc_z := rn_isub (w := np - 1) (am_cur_of (i := (121, 1, .isub, (0, 0, 0), 0)) (by decide +kernel)) rfl hc_z
    replace hc_z := rn_iaload (N := 72) (q := (np - 1).toNatClampNeg) (v := rg_v h6978_z 47 (np.toNatClampNeg - 1)) (am_cur_of (i := (122, 1, .iaload, (0, 0, 0), 0)) (by decide +kernel)) (by decide +kernel) rfl (by rw [show (np - 1).toNatClampNeg = np.toNatClampNeg - 1 by have := rt_cl (x := np - 1) (by omega); omega]) hc_z
    obtain ⟨p7002_z, hc_z⟩ := hc_z
    replace hc_z := rn_callS (M' := am_m47) (ar := [.int (rg_v h6978_z 47 (np.toNatClampNeg - 1))]) (rest := []) (L := lv_args 0 [.int (rg_v h6978_z 47 (np.toNatClampNeg - 1))]) (am_cur_of (i := (123, 3, .invokestatic 283, (47, 842, 3), 0)) (by decide +kernel)) rfl rfl rfl rfl hc_z
    obtain ⟨r7003_z, h7004_z, q7005_z, hc_z⟩ := hc_z
    obtain ⟨rfl, yq7005_z⟩ := rs_rankC q7005_z
    replace yq7005_z := yq7005_z.symm
    subst yq7005_z
    replace hc_z : rn _ _ _ _ [.int (rk_C (rg_v h6978_z 47 (np.toNatClampNeg - 1)))] _ _ _ := hc_z
    replace hc_z := rn_bipush (w := 6) (am_cur_of (i := (126, 2, .bipush 6, (0, 0, 0), 0)) (by decide +kernel)) (by decide) hc_z
    replace hc_z := rn_callS (M' := am_m47) (ar := [.int 6]) (rest := [.int (rk_C (rg_v h6978_z 47 (np.toNatClampNeg - 1)))]) (L := lv_args 0 [.int 6]) (am_cur_of (i := (128, 3, .invokestatic 283, (47, 842, 3), 0)) (by decide +kernel)) rfl rfl rfl rfl hc_z
    obtain ⟨r7006_z, h7007_z, q7008_z, hc_z⟩ := hc_z
    obtain ⟨rfl, yq7008_z⟩ := rs_rankC q7008_z
    replace yq7008_z := yq7008_z.symm
    subst yq7008_z
    rw [show rk_C 6 = 6 by decide] at hc_z
    replace hc_z : rn _ _ _ _ [.int 6, .int (rk_C (rg_v h6978_z 47 (np.toNatClampNeg - 1)))] _ _ _ := hc_z
    replace hc_z := rn_cmp (am_cur_of (i := (131, 3, .if_icmp .ne 16, (76, 0, 0), 0)) (by decide +kernel)) hc_z
    rcases hc_z with ⟨b7009_z, hc_z⟩ | ⟨b7009_z, hc_z⟩
    · replace b7009_z : ¬ (rk_C (rg_v h6978_z 47 (np.toNatClampNeg - 1))) = (6 : Int32) ∧ ¬ (rk_C (rg_v h6978_z 47 (np.toNatClampNeg - 1))).toInt = (6 : Int32).toInt := b7009_z
      replace hm_z := rn_iload_n (am_cur_of (i := (178, 1, .iload_n 1, (0, 0, 0), 0)) (by decide +kernel)) g1m hm_z
      replace hm_z := rn_callS (M' := am_m180) (ar := [.int 9]) (rest := []) (L := lv_args 0 [.int 9]) (am_cur_of (i := (179, 3, .invokestatic 283, (180, 1751, 3), 0)) (by decide +kernel)) rfl rfl rfl rfl hm_z
      obtain ⟨r7010_z, h7011_z, q7012_z, hm_z⟩ := hm_z
      obtain ⟨rfl, yq7012_z⟩ := rs_rankM q7012_z
      replace yq7012_z := yq7012_z.symm
      subst yq7012_z
      rw [show rk_M 9 = 4 by decide] at hm_z
      replace hm_z : rn _ _ _ _ [.int 4] _ _ _ := hm_z
      replace hm_z := rn_iconst (w := 4) (am_cur_of (i := (182, 1, .iconst 4, (0, 0, 0), 0)) (by decide +kernel)) (by decide) hm_z
      replace hm_z := rn_cmpF (am_cur_of (i := (183, 3, .if_icmp .ne 34, (110, 0, 0), 0)) (by decide +kernel)) (by decide) hm_z
      replace hm_z := rn_aload_n (am_cur_of (i := (186, 1, .aload_n 0, (0, 0, 0), 0)) (by decide +kernel)) g0m hm_z
      replace hm_z := rn_getI (v := np) (am_cur_of (i := (187, 3, .getfield 280, (12, 41, 1425), 0)) (by decide +kernel)) (by decide +kernel) z2_z hm_z
      replace hm_z := rn_if (am_cur_of (i := (190, 3, .ifCond .le 27, (110, 0, 0), 0)) (by decide +kernel)) hm_z
      rcases hm_z with ⟨b7013_z, hm_z⟩ | ⟨b7013_z, hm_z⟩
      · replace b7013_z : np.toInt ≤ (0 : Int32).toInt := b7013_z
        omega
      · replace b7013_z : (0 : Int32).toInt < np.toInt := b7013_z
        replace hm_z := rn_aload_n (am_cur_of (i := (193, 1, .aload_n 0, (0, 0, 0), 0)) (by decide +kernel)) g0m hm_z
        replace hm_z := rn_getR (x := 184) (am_cur_of (i := (194, 3, .getfield 72, (12, 39, 1423), 0)) (by decide +kernel)) (by decide +kernel) hm_z
        replace hm_z := rn_aload_n (am_cur_of (i := (197, 1, .aload_n 0, (0, 0, 0), 0)) (by decide +kernel)) g0m hm_z
        replace hm_z := rn_getI (v := np) (am_cur_of (i := (198, 3, .getfield 280, (12, 41, 1425), 0)) (by decide +kernel)) (by decide +kernel) z2_z hm_z
        replace hm_z := rn_iconst (w := 1) (am_cur_of (i := (201, 1, .iconst 1, (0, 0, 0), 0)) (by decide +kernel)) (by decide) hm_z
        replace hm_z := rn_isub (w := np - 1) (am_cur_of (i := (202, 1, .isub, (0, 0, 0), 0)) (by decide +kernel)) rfl hm_z
        replace hm_z := rn_iaload (N := 96) (q := (np - 1).toNatClampNeg) (v := rg_v h6995_z 184 (np.toNatClampNeg - 1)) (am_cur_of (i := (203, 1, .iaload, (0, 0, 0), 0)) (by decide +kernel)) (by decide +kernel) rfl (by rw [show (np - 1).toNatClampNeg = np.toNatClampNeg - 1 by have := rt_cl (x := np - 1) (by omega); omega]) hm_z
        obtain ⟨p7014_z, hm_z⟩ := hm_z
        replace hm_z := rn_callS (M' := am_m180) (ar := [.int (rg_v h6995_z 184 (np.toNatClampNeg - 1))]) (rest := []) (L := lv_args 0 [.int (rg_v h6995_z 184 (np.toNatClampNeg - 1))]) (am_cur_of (i := (204, 3, .invokestatic 283, (180, 1751, 3), 0)) (by decide +kernel)) rfl rfl rfl rfl hm_z
        obtain ⟨r7015_z, h7016_z, q7017_z, hm_z⟩ := hm_z
        obtain ⟨rfl, yq7017_z⟩ := rs_rankM q7017_z
        replace yq7017_z := yq7017_z.symm
        subst yq7017_z
        replace hm_z : rn _ _ _ _ [.int (rk_M (rg_v h6995_z 184 (np.toNatClampNeg - 1)))] _ _ _ := hm_z
        replace hm_z := rn_iconst (w := 4) (am_cur_of (i := (207, 1, .iconst 4, (0, 0, 0), 0)) (by decide +kernel)) (by decide) hm_z
        replace hm_z := rn_cmp (am_cur_of (i := (208, 3, .if_icmp .ne 9, (110, 0, 0), 0)) (by decide +kernel)) hm_z
        rcases hm_z with ⟨b7018_z, hm_z⟩ | ⟨b7018_z, hm_z⟩
        · replace b7018_z : ¬ (rk_M (rg_v h6995_z 184 (np.toNatClampNeg - 1))) = (4 : Int32) ∧ ¬ (rk_M (rg_v h6995_z 184 (np.toNatClampNeg - 1))).toInt = (4 : Int32).toInt := b7018_z
          exact Or.inl (rj_t10_23 R A B Z g0_z g1_z g0m g1m hc_z hm_z)
        · replace b7018_z : (rk_M (rg_v h6995_z 184 (np.toNatClampNeg - 1))) = (4 : Int32) ∧ (rk_M (rg_v h6995_z 184 (np.toNatClampNeg - 1))).toInt = (4 : Int32).toInt := b7018_z
          exact absurd b7018_z.2 (fun q4_z => b7009_z.2 ((rs_o64 (z9_z (np.toNatClampNeg - 1) (by omega))).mpr (q4_z.trans (by decide))))
    · replace b7009_z : (rk_C (rg_v h6978_z 47 (np.toNatClampNeg - 1))) = (6 : Int32) ∧ (rk_C (rg_v h6978_z 47 (np.toNatClampNeg - 1))).toInt = (6 : Int32).toInt := b7009_z
      replace hc_z := rn_aload_n (am_cur_of (i := (134, 1, .aload_n 0, (0, 0, 0), 0)) (by decide +kernel)) g0_z hc_z
      replace hc_z := rn_iconst (w := 1) (am_cur_of (i := (135, 1, .iconst 1, (0, 0, 0), 0)) (by decide +kernel)) (by decide) hc_z
      replace hc_z := rn_callV (M' := am_m29) (o := 44) (ar := [.int 1]) (rest := []) (L := lv_args 0 [.ref 44, .int 1]) (am_cur_of (i := (136, 3, .invokevirtual 108, (29, 769, 3), 0)) (by decide +kernel)) rfl rfl rfl rfl hc_z
      obtain ⟨r7019_z, h7020_z, q7021_z, hc_z⟩ := hc_z
      obtain ⟨rfl, yq7021_z⟩ := rp_fail R.2.2.2.1 q7021_z
      subst yq7021_z
      replace hc_z : rn _ _ _ _ [] _ _ _ := hc_z
      have K := rs_stick (w := 1) (q := p) (a := 44) (by decide) (by decide) rfl (by decide) rfl (show rg_v (am_up (am_up h6978_z 44 1 (.int 1)) 44 2 (.int (rg_v h6978_z 44 9))) 44 2 = p from R.2.2.2.2.1) hc_z
      replace hm_z := rn_iload_n (am_cur_of (i := (178, 1, .iload_n 1, (0, 0, 0), 0)) (by decide +kernel)) g1m hm_z
      replace hm_z := rn_callS (M' := am_m180) (ar := [.int 9]) (rest := []) (L := lv_args 0 [.int 9]) (am_cur_of (i := (179, 3, .invokestatic 283, (180, 1751, 3), 0)) (by decide +kernel)) rfl rfl rfl rfl hm_z
      obtain ⟨r7022_z, h7023_z, q7024_z, hm_z⟩ := hm_z
      obtain ⟨rfl, yq7024_z⟩ := rs_rankM q7024_z
      replace yq7024_z := yq7024_z.symm
      subst yq7024_z
      rw [show rk_M 9 = 4 by decide] at hm_z
      replace hm_z : rn _ _ _ _ [.int 4] _ _ _ := hm_z
      replace hm_z := rn_iconst (w := 4) (am_cur_of (i := (182, 1, .iconst 4, (0, 0, 0), 0)) (by decide +kernel)) (by decide) hm_z
      replace hm_z := rn_cmpF (am_cur_of (i := (183, 3, .if_icmp .ne 34, (110, 0, 0), 0)) (by decide +kernel)) (by decide) hm_z
      replace hm_z := rn_aload_n (am_cur_of (i := (186, 1, .aload_n 0, (0, 0, 0), 0)) (by decide +kernel)) g0m hm_z
      replace hm_z := rn_getI (v := np) (am_cur_of (i := (187, 3, .getfield 280, (12, 41, 1425), 0)) (by decide +kernel)) (by decide +kernel) z2_z hm_z
      replace hm_z := rn_if (am_cur_of (i := (190, 3, .ifCond .le 27, (110, 0, 0), 0)) (by decide +kernel)) hm_z
      rcases hm_z with ⟨b7025_z, hm_z⟩ | ⟨b7025_z, hm_z⟩
      · replace b7025_z : np.toInt ≤ (0 : Int32).toInt := b7025_z
        omega
      · replace b7025_z : (0 : Int32).toInt < np.toInt := b7025_z
        replace hm_z := rn_aload_n (am_cur_of (i := (193, 1, .aload_n 0, (0, 0, 0), 0)) (by decide +kernel)) g0m hm_z
        replace hm_z := rn_getR (x := 184) (am_cur_of (i := (194, 3, .getfield 72, (12, 39, 1423), 0)) (by decide +kernel)) (by decide +kernel) hm_z
        replace hm_z := rn_aload_n (am_cur_of (i := (197, 1, .aload_n 0, (0, 0, 0), 0)) (by decide +kernel)) g0m hm_z
        replace hm_z := rn_getI (v := np) (am_cur_of (i := (198, 3, .getfield 280, (12, 41, 1425), 0)) (by decide +kernel)) (by decide +kernel) z2_z hm_z
        replace hm_z := rn_iconst (w := 1) (am_cur_of (i := (201, 1, .iconst 1, (0, 0, 0), 0)) (by decide +kernel)) (by decide) hm_z
        replace hm_z := rn_isub (w := np - 1) (am_cur_of (i := (202, 1, .isub, (0, 0, 0), 0)) (by decide +kernel)) rfl hm_z
        replace hm_z := rn_iaload (N := 96) (q := (np - 1).toNatClampNeg) (v := rg_v h6995_z 184 (np.toNatClampNeg - 1)) (am_cur_of (i := (203, 1, .iaload, (0, 0, 0), 0)) (by decide +kernel)) (by decide +kernel) rfl (by rw [show (np - 1).toNatClampNeg = np.toNatClampNeg - 1 by have := rt_cl (x := np - 1) (by omega); omega]) hm_z
        obtain ⟨p7026_z, hm_z⟩ := hm_z
        replace hm_z := rn_callS (M' := am_m180) (ar := [.int (rg_v h6995_z 184 (np.toNatClampNeg - 1))]) (rest := []) (L := lv_args 0 [.int (rg_v h6995_z 184 (np.toNatClampNeg - 1))]) (am_cur_of (i := (204, 3, .invokestatic 283, (180, 1751, 3), 0)) (by decide +kernel)) rfl rfl rfl rfl hm_z
        obtain ⟨r7027_z, h7028_z, q7029_z, hm_z⟩ := hm_z
        obtain ⟨rfl, yq7029_z⟩ := rs_rankM q7029_z
        replace yq7029_z := yq7029_z.symm
        subst yq7029_z
        replace hm_z : rn _ _ _ _ [.int (rk_M (rg_v h6995_z 184 (np.toNatClampNeg - 1)))] _ _ _ := hm_z
        replace hm_z := rn_iconst (w := 4) (am_cur_of (i := (207, 1, .iconst 4, (0, 0, 0), 0)) (by decide +kernel)) (by decide) hm_z
        replace hm_z := rn_cmp (am_cur_of (i := (208, 3, .if_icmp .ne 9, (110, 0, 0), 0)) (by decide +kernel)) hm_z
        rcases hm_z with ⟨b7030_z, hm_z⟩ | ⟨b7030_z, hm_z⟩
        · replace b7030_z : ¬ (rk_M (rg_v h6995_z 184 (np.toNatClampNeg - 1))) = (4 : Int32) ∧ ¬ (rk_M (rg_v h6995_z 184 (np.toNatClampNeg - 1))).toInt = (4 : Int32).toInt := b7030_z
          exact absurd ((rs_o64 (z9_z (np.toNatClampNeg - 1) (by omega))).mp (b7009_z.2.trans (by decide))) (fun q4_z => b7030_z.2 (q4_z.trans (by decide)))
        · replace b7030_z : (rk_M (rg_v h6995_z 184 (np.toNatClampNeg - 1))) = (4 : Int32) ∧ (rk_M (rg_v h6995_z 184 (np.toNatClampNeg - 1))).toInt = (4 : Int32).toInt := b7030_z
          replace hm_z := rn_aload_n (am_cur_of (i := (211, 1, .aload_n 0, (0, 0, 0), 0)) (by decide +kernel)) g0m hm_z
          replace hm_z := rn_iconst (w := 1) (am_cur_of (i := (212, 1, .iconst 1, (0, 0, 0), 0)) (by decide +kernel)) (by decide) hm_z
          replace hm_z := rn_callV (M' := am_m158) (o := 164) (ar := [.int 1]) (rest := []) (L := lv_args 0 [.ref 164, .int 1]) (am_cur_of (i := (213, 3, .invokevirtual 181, (158, 1665, 3), 0)) (by decide +kernel)) rfl rfl rfl rfl hm_z
          obtain ⟨r7031_z, h7032_z, q7033_z, hm_z⟩ := hm_z
          obtain ⟨rfl, yq7033_z⟩ := rp_wrong q7033_z
          subst yq7033_z
          replace hm_z : rn _ _ _ _ [.int 0] _ _ _ := hm_z
          replace hm_z := rn_iret (am_cur_of (i := (216, 1, .ireturn, (0, 0, 0), 0)) (by decide +kernel)) hm_z
          obtain ⟨e7034_z, e7035_z⟩ := hm_z
          subst e7034_z e7035_z
          exact Or.inl (Or.inr ⟨rfl, 1, by decide, K.1, K.2, rfl, R.2.2.2.2.2.1⟩)
theorem rj_c23_23 {T : Nat → Int32} {S x p : Int32} {n n' : Nat} {h h' g g' : am_H} {r r' : Option Value} (R : rq T S x p 23 h g) (A : rp 23 h g) (B : rp_t h g) (Z : rs 23 h g) (w0_z : rg_v g 164 45 = 0) (ka : (rg_v h 44 10) = 6) (kc : (rg_v g 164 8) = 5) (kb : (rg_v h 44 11) = 11) (kd : (rg_v g 164 9) = 5) (hc_z : rn n am_m44 0 (lv_args 0 [.ref 44]) [] h r h') (hm_z : rn n' am_m178 0 (lv_args 0 [.ref 164]) [] g r' g') : rj_Q T S x p 23 h g h' g' r r' := by
  have z0_z : (0 : Int32).toInt = 0 := by decide
  have z4_z : (4 : Int32).toInt = 4 := by decide
  have z6_z : (6 : Int32).toInt = 6 := by decide
  have g0_z : am_get (lv_args 0 [.ref 44]) 0 = some (.ref 44) := rfl
  have g0m : am_get (lv_args 0 [.ref 164]) 0 = some (.ref 164) := rfl
  have Rk := R
  have Zk := Z
  obtain ⟨⟨c1_z, c2_z, c3_z, c4_z, c5_z, c6_z, c7_z, c8_z⟩, ⟨m2_z, m3_z, m4_z, m5_z, m6_z, m7_z, m8_z⟩, R3, R4, R5, R6, R7, R8, R9, R10⟩ := (R : rq T S x p 23 h g)
  obtain ⟨np, op, z1_z, z2_z, z3_z, z4_z, z5_z, z6_z, z7_z, z8_z, z9_z, z10_z⟩ := (Z : rs 23 h g)
  obtain ⟨nk1_z, nk2_z, nk3_z⟩ := A.2.2.2.2.2.1
  replace nk1_z : rg_v h 32 0 = rg_v g 164 44 := nk1_z
  replace nk2_z : 0 ≤ (rg_v h 32 0).toInt := nk2_z
  replace nk3_z : (rg_v h 32 0).toInt ≤ 64 := nk3_z
  replace z8_z : np.toInt ≤ (rg_v h 32 0).toInt + op.toInt := z8_z
  obtain ⟨kn, ekn⟩ : ∃ v, rg_v h 32 0 = v := ⟨_, rfl⟩
  rw [ekn] at nk1_z nk2_z nk3_z z8_z
  have e9_z := rt_c1 (x := kn) (by omega) (by omega)
  replace hc_z := rn_aload_n (am_cur_of (i := (0, 1, .aload_n 0, (0, 0, 0), 0)) (by decide +kernel)) g0_z hc_z
  replace hc_z := rn_bipush (w := 41) (am_cur_of (i := (1, 2, .bipush 41, (0, 0, 0), 0)) (by decide +kernel)) (by decide) hc_z
  replace hc_z := rn_callV (M' := am_m45) (o := 44) (ar := [.int 41]) (rest := []) (L := lv_args 0 [.ref 44, .int 41]) (am_cur_of (i := (3, 3, .invokevirtual 105, (45, 834, 3), 0)) (by decide +kernel)) rfl rfl rfl rfl hc_z
  obtain ⟨r7036_z, h7037_z, q7038_z, hc_z⟩ := hc_z
  obtain ⟨rfl, yq7038_z⟩ := rp_mkN (fun q => absurd (Eq.trans (Eq.symm ka) q.1) (by decide)) q7038_z
  subst yq7038_z
  replace hc_z : rn _ _ _ _ [.int 0] _ _ _ := hc_z
  replace hc_z := rn_ifT (am_cur_of (i := (6, 3, .ifCond .eq 45, (28, 0, 0), 0)) (by decide +kernel)) (by decide) hc_z
  replace hc_z := rn_aload_n (am_cur_of (i := (51, 1, .aload_n 0, (0, 0, 0), 0)) (by decide +kernel)) g0_z hc_z
  replace hc_z := rn_getI (v := 6) (am_cur_of (i := (52, 3, .getfield 60, (4, 10, 419), 0)) (by decide +kernel)) (by decide +kernel) ka hc_z
  replace hc_z := rn_bipush (w := 6) (am_cur_of (i := (55, 2, .bipush 6, (0, 0, 0), 0)) (by decide +kernel)) (by decide) hc_z
  replace hc_z := rn_cmpF (am_cur_of (i := (57, 3, .if_icmp .ne 11, (36, 0, 0), 0)) (by decide +kernel)) (by decide) hc_z
  replace hc_z := rn_aload_n (am_cur_of (i := (60, 1, .aload_n 0, (0, 0, 0), 0)) (by decide +kernel)) g0_z hc_z
  replace hc_z := rn_getI (v := 11) (am_cur_of (i := (61, 3, .getfield 91, (4, 11, 420), 0)) (by decide +kernel)) (by decide +kernel) kb hc_z
  replace hc_z := rn_iconst (w := 5) (am_cur_of (i := (64, 1, .iconst 5, (0, 0, 0), 0)) (by decide +kernel)) (by decide) hc_z
  replace hc_z := rn_cmpT (am_cur_of (i := (65, 3, .if_icmp .ne 17, (44, 0, 0), 0)) (by decide +kernel)) (by decide) hc_z
  replace hc_z := rn_aload_n (am_cur_of (i := (82, 1, .aload_n 0, (0, 0, 0), 0)) (by decide +kernel)) g0_z hc_z
  replace hc_z := rn_getI (v := 11) (am_cur_of (i := (83, 3, .getfield 91, (4, 11, 420), 0)) (by decide +kernel)) (by decide +kernel) kb hc_z
  replace hc_z := rn_istore_n (am_cur_of (i := (86, 1, .istore_n 1, (0, 0, 0), 0)) (by decide +kernel)) hc_z
  obtain ⟨_, s7039_z, s7040_z, g1_z, hc_z⟩ := hc_z
  replace g0_z := s7039_z 0 _ (by decide) rfl g0_z
  clear s7039_z s7040_z
  replace hc_z := rn_iload_n (am_cur_of (i := (87, 1, .iload_n 1, (0, 0, 0), 0)) (by decide +kernel)) g1_z hc_z
  replace hc_z := rn_callS (M' := am_m47) (ar := [.int 11]) (rest := []) (L := lv_args 0 [.int 11]) (am_cur_of (i := (88, 3, .invokestatic 283, (47, 842, 3), 0)) (by decide +kernel)) rfl rfl rfl rfl hc_z
  obtain ⟨r7041_z, h7042_z, q7043_z, hc_z⟩ := hc_z
  obtain ⟨rfl, yq7043_z⟩ := rs_rankC q7043_z
  replace yq7043_z := yq7043_z.symm
  subst yq7043_z
  rw [show rk_C 11 = 6 by decide] at hc_z
  replace hc_z : rn _ _ _ _ [.int 6] _ _ _ := hc_z
  replace hc_z := rn_bipush (w := 6) (am_cur_of (i := (91, 2, .bipush 6, (0, 0, 0), 0)) (by decide +kernel)) (by decide) hc_z
  replace hc_z := rn_callS (M' := am_m47) (ar := [.int 6]) (rest := [.int 6]) (L := lv_args 0 [.int 6]) (am_cur_of (i := (93, 3, .invokestatic 283, (47, 842, 3), 0)) (by decide +kernel)) rfl rfl rfl rfl hc_z
  obtain ⟨r7044_z, h7045_z, q7046_z, hc_z⟩ := hc_z
  obtain ⟨rfl, yq7046_z⟩ := rs_rankC q7046_z
  replace yq7046_z := yq7046_z.symm
  subst yq7046_z
  rw [show rk_C 6 = 6 by decide] at hc_z
  replace hc_z : rn _ _ _ _ [.int 6, .int 6] _ _ _ := hc_z
  replace hc_z := rn_cmpF (am_cur_of (i := (96, 3, .if_icmp .ne 46, (73, 0, 0), 0)) (by decide +kernel)) (by decide) hc_z
  replace hc_z := rn_aload_n (am_cur_of (i := (99, 1, .aload_n 0, (0, 0, 0), 0)) (by decide +kernel)) g0_z hc_z
  replace hc_z := rn_bipush (w := 12) (am_cur_of (i := (100, 2, .bipush 12, (0, 0, 0), 0)) (by decide +kernel)) (by decide) hc_z
  replace hc_z := rn_callV (M' := am_m46) (o := 44) (ar := [.int 12]) (rest := []) (L := lv_args 0 [.ref 44, .int 12]) (am_cur_of (i := (102, 3, .invokevirtual 264, (46, 838, 3), 0)) (by decide +kernel)) rfl rfl rfl rfl hc_z
  obtain ⟨r7047_z, h7048_z, q7049_z, hc_z⟩ := hc_z
  replace hm_z := rn_aload_n (am_cur_of (i := (0, 1, .aload_n 0, (0, 0, 0), 0)) (by decide +kernel)) g0m hm_z
  replace hm_z := rn_bipush (w := 41) (am_cur_of (i := (1, 2, .bipush 41, (0, 0, 0), 0)) (by decide +kernel)) (by decide) hm_z
  replace hm_z := rn_callV (M' := am_m171) (o := 164) (ar := [.int 41]) (rest := []) (L := lv_args 0 [.ref 164, .int 41]) (am_cur_of (i := (3, 3, .invokevirtual 194, (171, 1715, 3), 0)) (by decide +kernel)) rfl rfl rfl rfl hm_z
  obtain ⟨r7050_z, h7051_z, q7052_z, hm_z⟩ := hm_z
  obtain ⟨rfl, yq7052_z⟩ := rp_sgN (fun q => absurd (Eq.trans (Eq.symm kc) q.1) (by decide)) q7052_z
  subst yq7052_z
  replace hm_z : rn _ _ _ _ [.int 0] _ _ _ := hm_z
  replace hm_z := rn_ifT (am_cur_of (i := (6, 3, .ifCond .eq 41, (26, 0, 0), 0)) (by decide +kernel)) (by decide) hm_z
  replace hm_z := rn_aload_n (am_cur_of (i := (47, 1, .aload_n 0, (0, 0, 0), 0)) (by decide +kernel)) g0m hm_z
  replace hm_z := rn_bipush (w := 12) (am_cur_of (i := (48, 2, .bipush 12, (0, 0, 0), 0)) (by decide +kernel)) (by decide) hm_z
  replace hm_z := rn_callV (M' := am_m174) (o := 164) (ar := [.int 12]) (rest := []) (L := lv_args 0 [.ref 164, .int 12]) (am_cur_of (i := (50, 3, .invokevirtual 306, (174, 1727, 3), 0)) (by decide +kernel)) rfl rfl rfl rfl hm_z
  obtain ⟨r7053_z, h7054_z, q7055_z, hm_z⟩ := hm_z
  obtain ⟨rfl, yq7055_z⟩ := rp_kyN (fun q => absurd (Eq.trans (Eq.symm kc) q.1) (by decide)) q7055_z
  subst yq7055_z
  replace hm_z : rn _ _ _ _ [.int 0] _ _ _ := hm_z
  replace hm_z := rn_ifT (am_cur_of (i := (53, 3, .ifCond .eq 7, (32, 0, 0), 0)) (by decide +kernel)) (by decide) hm_z
  replace hm_z := rn_aload_n (am_cur_of (i := (60, 1, .aload_n 0, (0, 0, 0), 0)) (by decide +kernel)) g0m hm_z
  replace hm_z := rn_bipush (w := 13) (am_cur_of (i := (61, 2, .bipush 13, (0, 0, 0), 0)) (by decide +kernel)) (by decide) hm_z
  replace hm_z := rn_callV (M' := am_m174) (o := 164) (ar := [.int 13]) (rest := []) (L := lv_args 0 [.ref 164, .int 13]) (am_cur_of (i := (63, 3, .invokevirtual 306, (174, 1727, 3), 0)) (by decide +kernel)) rfl rfl rfl rfl hm_z
  obtain ⟨r7056_z, h7057_z, q7058_z, hm_z⟩ := hm_z
  obtain ⟨rfl, yq7058_z⟩ := rp_kyN (fun q => absurd (Eq.trans (Eq.symm kc) q.1) (by decide)) q7058_z
  subst yq7058_z
  replace hm_z : rn _ _ _ _ [.int 0] _ _ _ := hm_z
  replace hm_z := rn_ifT (am_cur_of (i := (66, 3, .ifCond .eq 7, (38, 0, 0), 0)) (by decide +kernel)) (by decide) hm_z
  replace hm_z := rn_aload_n (am_cur_of (i := (73, 1, .aload_n 0, (0, 0, 0), 0)) (by decide +kernel)) g0m hm_z
  replace hm_z := rn_getI (v := 5) (am_cur_of (i := (74, 3, .getfield 157, (12, 8, 1392), 0)) (by decide +kernel)) (by decide +kernel) kc hm_z
  replace hm_z := rn_iconst (w := 5) (am_cur_of (i := (77, 1, .iconst 5, (0, 0, 0), 0)) (by decide +kernel)) (by decide) hm_z
  replace hm_z := rn_cmpF (am_cur_of (i := (78, 3, .if_icmp .ne 12, (47, 0, 0), 0)) (by decide +kernel)) (by decide) hm_z
  replace hm_z := rn_iconst (w := 5) (am_cur_of (i := (81, 1, .iconst 5, (0, 0, 0), 0)) (by decide +kernel)) (by decide) hm_z
  replace hm_z := rn_aload_n (am_cur_of (i := (82, 1, .aload_n 0, (0, 0, 0), 0)) (by decide +kernel)) g0m hm_z
  replace hm_z := rn_getI (v := 5) (am_cur_of (i := (83, 3, .getfield 168, (12, 9, 1393), 0)) (by decide +kernel)) (by decide +kernel) kd hm_z
  replace hm_z := rn_iadd (w := 10) (am_cur_of (i := (86, 1, .iadd, (0, 0, 0), 0)) (by decide +kernel)) (by decide) hm_z
  replace hm_z := rn_goto (am_cur_of (i := (87, 3, .goto 60, (72, 0, 0), 0)) (by decide +kernel)) hm_z
  replace hm_z := rn_istore_n (am_cur_of (i := (147, 1, .istore_n 1, (0, 0, 0), 0)) (by decide +kernel)) hm_z
  obtain ⟨_, s7059_z, s7060_z, g1m, hm_z⟩ := hm_z
  replace g0m := s7059_z 0 _ (by decide) rfl g0m
  clear s7059_z s7060_z
  replace hm_z := rn_iload_n (am_cur_of (i := (148, 1, .iload_n 1, (0, 0, 0), 0)) (by decide +kernel)) g1m hm_z
  replace hm_z := rn_ifT (am_cur_of (i := (149, 3, .ifCond .ne 9, (79, 0, 0), 0)) (by decide +kernel)) (by decide) hm_z
  replace hm_z := rn_aload_n (am_cur_of (i := (158, 1, .aload_n 0, (0, 0, 0), 0)) (by decide +kernel)) g0m hm_z
  replace hm_z := rn_iload_n (am_cur_of (i := (159, 1, .iload_n 1, (0, 0, 0), 0)) (by decide +kernel)) g1m hm_z
  replace hm_z := rn_callS (M' := am_m180) (ar := [.int 10]) (rest := [.ref 164]) (L := lv_args 0 [.int 10]) (am_cur_of (i := (160, 3, .invokestatic 283, (180, 1751, 3), 0)) (by decide +kernel)) rfl rfl rfl rfl hm_z
  obtain ⟨r7061_z, h7062_z, q7063_z, hm_z⟩ := hm_z
  obtain ⟨rfl, yq7063_z⟩ := rs_rankM q7063_z
  replace yq7063_z := yq7063_z.symm
  subst yq7063_z
  rw [show rk_M 10 = 4 by decide] at hm_z
  replace hm_z : rn _ _ _ _ [.int 4, .ref 164] _ _ _ := hm_z
  replace hm_z := rn_iconst (w := 4) (am_cur_of (i := (163, 1, .iconst 4, (0, 0, 0), 0)) (by decide +kernel)) (by decide) hm_z
  replace hm_z := rn_cmpF (am_cur_of (i := (164, 3, .if_icmp .ne 7, (86, 0, 0), 0)) (by decide +kernel)) (by decide) hm_z
  replace hm_z := rn_iconst (w := 5) (am_cur_of (i := (167, 1, .iconst 5, (0, 0, 0), 0)) (by decide +kernel)) (by decide) hm_z
  replace hm_z := rn_goto (am_cur_of (i := (168, 3, .goto 7, (88, 0, 0), 0)) (by decide +kernel)) hm_z
  replace hm_z := rn_callV (M' := am_m179) (o := 164) (ar := [.int 5]) (rest := []) (L := lv_args 0 [.ref 164, .int 5]) (am_cur_of (i := (175, 3, .invokevirtual 318, (179, 1747, 3), 0)) (by decide +kernel)) rfl rfl rfl rfl hm_z
  obtain ⟨r7064_z, h7065_z, q7066_z, hm_z⟩ := hm_z
  obtain ⟨rfl, rfl, FC, FM, R, A, B, Z, nq, e13_z, hst⟩ := rz_set23 rs_l12 (by decide) Rk A B Zk q7049_z q7066_z
  have Zq := Z
  obtain ⟨np, op, z1_z, z2_z, z3_z, z4_z, z5_z, z6_z, z7_z, z8_z, z9_z, z10_z⟩ := Zq
  obtain rfl : np = nq := z1_z.symm.trans e13_z
  replace hm_z : rn _ _ _ _ [] _ _ _ := hm_z
  replace hc_z : rn _ _ _ _ [] _ _ _ := hc_z
  have cn := rt_cl z3_z
  have zz1_z : (1 : Int32).toInt = 1 := by decide
  have n31_z := (ab_32 np).2
  have y1_z := ab_isub (x := np) (y := 1) (by omega) (by omega)
  replace hc_z := rn_aload_n (am_cur_of (i := (105, 1, .aload_n 0, (0, 0, 0), 0)) (by decide +kernel)) g0_z hc_z
  replace hc_z := rn_getI (v := np) (am_cur_of (i := (106, 3, .getfield 251, (4, 13, 422), 0)) (by decide +kernel)) (by decide +kernel) z1_z hc_z
  replace hc_z := rn_if (am_cur_of (i := (109, 3, .ifCond .le 38, (76, 0, 0), 0)) (by decide +kernel)) hc_z
  rcases hc_z with ⟨b7067_z, hc_z⟩ | ⟨b7067_z, hc_z⟩
  · replace b7067_z : np.toInt ≤ (0 : Int32).toInt := b7067_z
    replace hm_z := rn_iload_n (am_cur_of (i := (178, 1, .iload_n 1, (0, 0, 0), 0)) (by decide +kernel)) g1m hm_z
    replace hm_z := rn_callS (M' := am_m180) (ar := [.int 10]) (rest := []) (L := lv_args 0 [.int 10]) (am_cur_of (i := (179, 3, .invokestatic 283, (180, 1751, 3), 0)) (by decide +kernel)) rfl rfl rfl rfl hm_z
    obtain ⟨r7068_z, h7069_z, q7070_z, hm_z⟩ := hm_z
    obtain ⟨rfl, yq7070_z⟩ := rs_rankM q7070_z
    replace yq7070_z := yq7070_z.symm
    subst yq7070_z
    rw [show rk_M 10 = 4 by decide] at hm_z
    replace hm_z : rn _ _ _ _ [.int 4] _ _ _ := hm_z
    replace hm_z := rn_iconst (w := 4) (am_cur_of (i := (182, 1, .iconst 4, (0, 0, 0), 0)) (by decide +kernel)) (by decide) hm_z
    replace hm_z := rn_cmpF (am_cur_of (i := (183, 3, .if_icmp .ne 34, (110, 0, 0), 0)) (by decide +kernel)) (by decide) hm_z
    replace hm_z := rn_aload_n (am_cur_of (i := (186, 1, .aload_n 0, (0, 0, 0), 0)) (by decide +kernel)) g0m hm_z
    replace hm_z := rn_getI (v := np) (am_cur_of (i := (187, 3, .getfield 280, (12, 41, 1425), 0)) (by decide +kernel)) (by decide +kernel) z2_z hm_z
    replace hm_z := rn_if (am_cur_of (i := (190, 3, .ifCond .le 27, (110, 0, 0), 0)) (by decide +kernel)) hm_z
    rcases hm_z with ⟨b7071_z, hm_z⟩ | ⟨b7071_z, hm_z⟩
    · replace b7071_z : np.toInt ≤ (0 : Int32).toInt := b7071_z
      exact Or.inl (rj_t11_23 R A B Z g0_z g1_z g0m g1m hc_z hm_z)
    · replace b7071_z : (0 : Int32).toInt < np.toInt := b7071_z
      omega
  · replace b7067_z : (0 : Int32).toInt < np.toInt := b7067_z
    replace hc_z := rn_aload_n (am_cur_of (i := (112, 1, .aload_n 0, (0, 0, 0), 0)) (by decide +kernel)) g0_z hc_z
    replace hc_z := rn_getR (x := 47) (am_cur_of (i := (113, 3, .getfield 22, (4, 12, 421), 0)) (by decide +kernel)) (by decide +kernel) hc_z
    replace hc_z := rn_aload_n (am_cur_of (i := (116, 1, .aload_n 0, (0, 0, 0), 0)) (by decide +kernel)) g0_z hc_z
    replace hc_z := rn_getI (v := np) (am_cur_of (i := (117, 3, .getfield 251, (4, 13, 422), 0)) (by decide +kernel)) (by decide +kernel) z1_z hc_z
    replace hc_z := rn_iconst (w := 1) (am_cur_of (i := (120, 1, .iconst 1, (0, 0, 0), 0)) (by decide +kernel)) (by decide) hc_z
    replace hc_z := rn_isub (w := np - 1) (am_cur_of (i := (121, 1, .isub, (0, 0, 0), 0)) (by decide +kernel)) rfl hc_z
    replace hc_z := rn_iaload (N := 72) (q := (np - 1).toNatClampNeg) (v := rg_v h7048_z 47 (np.toNatClampNeg - 1)) (am_cur_of (i := (122, 1, .iaload, (0, 0, 0), 0)) (by decide +kernel)) (by decide +kernel) rfl (by rw [show (np - 1).toNatClampNeg = np.toNatClampNeg - 1 by have := rt_cl (x := np - 1) (by omega); omega]) hc_z
    obtain ⟨p7072_z, hc_z⟩ := hc_z
    replace hc_z := rn_callS (M' := am_m47) (ar := [.int (rg_v h7048_z 47 (np.toNatClampNeg - 1))]) (rest := []) (L := lv_args 0 [.int (rg_v h7048_z 47 (np.toNatClampNeg - 1))]) (am_cur_of (i := (123, 3, .invokestatic 283, (47, 842, 3), 0)) (by decide +kernel)) rfl rfl rfl rfl hc_z
    obtain ⟨r7073_z, h7074_z, q7075_z, hc_z⟩ := hc_z
    obtain ⟨rfl, yq7075_z⟩ := rs_rankC q7075_z
    replace yq7075_z := yq7075_z.symm
    subst yq7075_z
    replace hc_z : rn _ _ _ _ [.int (rk_C (rg_v h7048_z 47 (np.toNatClampNeg - 1)))] _ _ _ := hc_z
    replace hc_z := rn_bipush (w := 6) (am_cur_of (i := (126, 2, .bipush 6, (0, 0, 0), 0)) (by decide +kernel)) (by decide) hc_z
    replace hc_z := rn_callS (M' := am_m47) (ar := [.int 6]) (rest := [.int (rk_C (rg_v h7048_z 47 (np.toNatClampNeg - 1)))]) (L := lv_args 0 [.int 6]) (am_cur_of (i := (128, 3, .invokestatic 283, (47, 842, 3), 0)) (by decide +kernel)) rfl rfl rfl rfl hc_z
    obtain ⟨r7076_z, h7077_z, q7078_z, hc_z⟩ := hc_z
    obtain ⟨rfl, yq7078_z⟩ := rs_rankC q7078_z
    replace yq7078_z := yq7078_z.symm
    subst yq7078_z
    rw [show rk_C 6 = 6 by decide] at hc_z
    replace hc_z : rn _ _ _ _ [.int 6, .int (rk_C (rg_v h7048_z 47 (np.toNatClampNeg - 1)))] _ _ _ := hc_z
    replace hc_z := rn_cmp (am_cur_of (i := (131, 3, .if_icmp .ne 16, (76, 0, 0), 0)) (by decide +kernel)) hc_z
    rcases hc_z with ⟨b7079_z, hc_z⟩ | ⟨b7079_z, hc_z⟩
    · replace b7079_z : ¬ (rk_C (rg_v h7048_z 47 (np.toNatClampNeg - 1))) = (6 : Int32) ∧ ¬ (rk_C (rg_v h7048_z 47 (np.toNatClampNeg - 1))).toInt = (6 : Int32).toInt := b7079_z
      replace hm_z := rn_iload_n (am_cur_of (i := (178, 1, .iload_n 1, (0, 0, 0), 0)) (by decide +kernel)) g1m hm_z
      replace hm_z := rn_callS (M' := am_m180) (ar := [.int 10]) (rest := []) (L := lv_args 0 [.int 10]) (am_cur_of (i := (179, 3, .invokestatic 283, (180, 1751, 3), 0)) (by decide +kernel)) rfl rfl rfl rfl hm_z
      obtain ⟨r7080_z, h7081_z, q7082_z, hm_z⟩ := hm_z
      obtain ⟨rfl, yq7082_z⟩ := rs_rankM q7082_z
      replace yq7082_z := yq7082_z.symm
      subst yq7082_z
      rw [show rk_M 10 = 4 by decide] at hm_z
      replace hm_z : rn _ _ _ _ [.int 4] _ _ _ := hm_z
      replace hm_z := rn_iconst (w := 4) (am_cur_of (i := (182, 1, .iconst 4, (0, 0, 0), 0)) (by decide +kernel)) (by decide) hm_z
      replace hm_z := rn_cmpF (am_cur_of (i := (183, 3, .if_icmp .ne 34, (110, 0, 0), 0)) (by decide +kernel)) (by decide) hm_z
      replace hm_z := rn_aload_n (am_cur_of (i := (186, 1, .aload_n 0, (0, 0, 0), 0)) (by decide +kernel)) g0m hm_z
      replace hm_z := rn_getI (v := np) (am_cur_of (i := (187, 3, .getfield 280, (12, 41, 1425), 0)) (by decide +kernel)) (by decide +kernel) z2_z hm_z
      replace hm_z := rn_if (am_cur_of (i := (190, 3, .ifCond .le 27, (110, 0, 0), 0)) (by decide +kernel)) hm_z
      rcases hm_z with ⟨b7083_z, hm_z⟩ | ⟨b7083_z, hm_z⟩
      · replace b7083_z : np.toInt ≤ (0 : Int32).toInt := b7083_z
        omega
      · replace b7083_z : (0 : Int32).toInt < np.toInt := b7083_z
        replace hm_z := rn_aload_n (am_cur_of (i := (193, 1, .aload_n 0, (0, 0, 0), 0)) (by decide +kernel)) g0m hm_z
        replace hm_z := rn_getR (x := 184) (am_cur_of (i := (194, 3, .getfield 72, (12, 39, 1423), 0)) (by decide +kernel)) (by decide +kernel) hm_z
        replace hm_z := rn_aload_n (am_cur_of (i := (197, 1, .aload_n 0, (0, 0, 0), 0)) (by decide +kernel)) g0m hm_z
        replace hm_z := rn_getI (v := np) (am_cur_of (i := (198, 3, .getfield 280, (12, 41, 1425), 0)) (by decide +kernel)) (by decide +kernel) z2_z hm_z
        replace hm_z := rn_iconst (w := 1) (am_cur_of (i := (201, 1, .iconst 1, (0, 0, 0), 0)) (by decide +kernel)) (by decide) hm_z
        replace hm_z := rn_isub (w := np - 1) (am_cur_of (i := (202, 1, .isub, (0, 0, 0), 0)) (by decide +kernel)) rfl hm_z
        replace hm_z := rn_iaload (N := 96) (q := (np - 1).toNatClampNeg) (v := rg_v h7065_z 184 (np.toNatClampNeg - 1)) (am_cur_of (i := (203, 1, .iaload, (0, 0, 0), 0)) (by decide +kernel)) (by decide +kernel) rfl (by rw [show (np - 1).toNatClampNeg = np.toNatClampNeg - 1 by have := rt_cl (x := np - 1) (by omega); omega]) hm_z
        obtain ⟨p7084_z, hm_z⟩ := hm_z
        replace hm_z := rn_callS (M' := am_m180) (ar := [.int (rg_v h7065_z 184 (np.toNatClampNeg - 1))]) (rest := []) (L := lv_args 0 [.int (rg_v h7065_z 184 (np.toNatClampNeg - 1))]) (am_cur_of (i := (204, 3, .invokestatic 283, (180, 1751, 3), 0)) (by decide +kernel)) rfl rfl rfl rfl hm_z
        obtain ⟨r7085_z, h7086_z, q7087_z, hm_z⟩ := hm_z
        obtain ⟨rfl, yq7087_z⟩ := rs_rankM q7087_z
        replace yq7087_z := yq7087_z.symm
        subst yq7087_z
        replace hm_z : rn _ _ _ _ [.int (rk_M (rg_v h7065_z 184 (np.toNatClampNeg - 1)))] _ _ _ := hm_z
        replace hm_z := rn_iconst (w := 4) (am_cur_of (i := (207, 1, .iconst 4, (0, 0, 0), 0)) (by decide +kernel)) (by decide) hm_z
        replace hm_z := rn_cmp (am_cur_of (i := (208, 3, .if_icmp .ne 9, (110, 0, 0), 0)) (by decide +kernel)) hm_z
        rcases hm_z with ⟨b7088_z, hm_z⟩ | ⟨b7088_z, hm_z⟩
        · replace b7088_z : ¬ (rk_M (rg_v h7065_z 184 (np.toNatClampNeg - 1))) = (4 : Int32) ∧ ¬ (rk_M (rg_v h7065_z 184 (np.toNatClampNeg - 1))).toInt = (4 : Int32).toInt := b7088_z
          exact Or.inl (rj_t11_23 R A B Z g0_z g1_z g0m g1m hc_z hm_z)
        · replace b7088_z : (rk_M (rg_v h7065_z 184 (np.toNatClampNeg - 1))) = (4 : Int32) ∧ (rk_M (rg_v h7065_z 184 (np.toNatClampNeg - 1))).toInt = (4 : Int32).toInt := b7088_z
          exact absurd b7088_z.2 (fun q4_z => b7079_z.2 ((rs_o64 (z9_z (np.toNatClampNeg - 1) (by omega))).mpr (q4_z.trans (by decide))))
    · replace b7079_z : (rk_C (rg_v h7048_z 47 (np.toNatClampNeg - 1))) = (6 : Int32) ∧ (rk_C (rg_v h7048_z 47 (np.toNatClampNeg - 1))).toInt = (6 : Int32).toInt := b7079_z
      replace hc_z := rn_aload_n (am_cur_of (i := (134, 1, .aload_n 0, (0, 0, 0), 0)) (by decide +kernel)) g0_z hc_z
      replace hc_z := rn_iconst (w := 1) (am_cur_of (i := (135, 1, .iconst 1, (0, 0, 0), 0)) (by decide +kernel)) (by decide) hc_z
      replace hc_z := rn_callV (M' := am_m29) (o := 44) (ar := [.int 1]) (rest := []) (L := lv_args 0 [.ref 44, .int 1]) (am_cur_of (i := (136, 3, .invokevirtual 108, (29, 769, 3), 0)) (by decide +kernel)) rfl rfl rfl rfl hc_z
      obtain ⟨r7089_z, h7090_z, q7091_z, hc_z⟩ := hc_z
      obtain ⟨rfl, yq7091_z⟩ := rp_fail R.2.2.2.1 q7091_z
      subst yq7091_z
      replace hc_z : rn _ _ _ _ [] _ _ _ := hc_z
      have K := rs_stick (w := 1) (q := p) (a := 44) (by decide) (by decide) rfl (by decide) rfl (show rg_v (am_up (am_up h7048_z 44 1 (.int 1)) 44 2 (.int (rg_v h7048_z 44 9))) 44 2 = p from R.2.2.2.2.1) hc_z
      replace hm_z := rn_iload_n (am_cur_of (i := (178, 1, .iload_n 1, (0, 0, 0), 0)) (by decide +kernel)) g1m hm_z
      replace hm_z := rn_callS (M' := am_m180) (ar := [.int 10]) (rest := []) (L := lv_args 0 [.int 10]) (am_cur_of (i := (179, 3, .invokestatic 283, (180, 1751, 3), 0)) (by decide +kernel)) rfl rfl rfl rfl hm_z
      obtain ⟨r7092_z, h7093_z, q7094_z, hm_z⟩ := hm_z
      obtain ⟨rfl, yq7094_z⟩ := rs_rankM q7094_z
      replace yq7094_z := yq7094_z.symm
      subst yq7094_z
      rw [show rk_M 10 = 4 by decide] at hm_z
      replace hm_z : rn _ _ _ _ [.int 4] _ _ _ := hm_z
      replace hm_z := rn_iconst (w := 4) (am_cur_of (i := (182, 1, .iconst 4, (0, 0, 0), 0)) (by decide +kernel)) (by decide) hm_z
      replace hm_z := rn_cmpF (am_cur_of (i := (183, 3, .if_icmp .ne 34, (110, 0, 0), 0)) (by decide +kernel)) (by decide) hm_z
      replace hm_z := rn_aload_n (am_cur_of (i := (186, 1, .aload_n 0, (0, 0, 0), 0)) (by decide +kernel)) g0m hm_z
      replace hm_z := rn_getI (v := np) (am_cur_of (i := (187, 3, .getfield 280, (12, 41, 1425), 0)) (by decide +kernel)) (by decide +kernel) z2_z hm_z
      replace hm_z := rn_if (am_cur_of (i := (190, 3, .ifCond .le 27, (110, 0, 0), 0)) (by decide +kernel)) hm_z
      rcases hm_z with ⟨b7095_z, hm_z⟩ | ⟨b7095_z, hm_z⟩
      · replace b7095_z : np.toInt ≤ (0 : Int32).toInt := b7095_z
        omega
      · replace b7095_z : (0 : Int32).toInt < np.toInt := b7095_z
        replace hm_z := rn_aload_n (am_cur_of (i := (193, 1, .aload_n 0, (0, 0, 0), 0)) (by decide +kernel)) g0m hm_z
        replace hm_z := rn_getR (x := 184) (am_cur_of (i := (194, 3, .getfield 72, (12, 39, 1423), 0)) (by decide +kernel)) (by decide +kernel) hm_z
        replace hm_z := rn_aload_n (am_cur_of (i := (197, 1, .aload_n 0, (0, 0, 0), 0)) (by decide +kernel)) g0m hm_z
        replace hm_z := rn_getI (v := np) (am_cur_of (i := (198, 3, .getfield 280, (12, 41, 1425), 0)) (by decide +kernel)) (by decide +kernel) z2_z hm_z
        replace hm_z := rn_iconst (w := 1) (am_cur_of (i := (201, 1, .iconst 1, (0, 0, 0), 0)) (by decide +kernel)) (by decide) hm_z
        replace hm_z := rn_isub (w := np - 1) (am_cur_of (i := (202, 1, .isub, (0, 0, 0), 0)) (by decide +kernel)) rfl hm_z
        replace hm_z := rn_iaload (N := 96) (q := (np - 1).toNatClampNeg) (v := rg_v h7065_z 184 (np.toNatClampNeg - 1)) (am_cur_of (i := (203, 1, .iaload, (0, 0, 0), 0)) (by decide +kernel)) (by decide +kernel) rfl (by rw [show (np - 1).toNatClampNeg = np.toNatClampNeg - 1 by have := rt_cl (x := np - 1) (by omega); omega]) hm_z
        obtain ⟨p7096_z, hm_z⟩ := hm_z
        replace hm_z := rn_callS (M' := am_m180) (ar := [.int (rg_v h7065_z 184 (np.toNatClampNeg - 1))]) (rest := []) (L := lv_args 0 [.int (rg_v h7065_z 184 (np.toNatClampNeg - 1))]) (am_cur_of (i := (204, 3, .invokestatic 283, (180, 1751, 3), 0)) (by decide +kernel)) rfl rfl rfl rfl hm_z
        obtain ⟨r7097_z, h7098_z, q7099_z, hm_z⟩ := hm_z
        obtain ⟨rfl, yq7099_z⟩ := rs_rankM q7099_z
        replace yq7099_z := yq7099_z.symm
        subst yq7099_z
        replace hm_z : rn _ _ _ _ [.int (rk_M (rg_v h7065_z 184 (np.toNatClampNeg - 1)))] _ _ _ := hm_z
        replace hm_z := rn_iconst (w := 4) (am_cur_of (i := (207, 1, .iconst 4, (0, 0, 0), 0)) (by decide +kernel)) (by decide) hm_z
        replace hm_z := rn_cmp (am_cur_of (i := (208, 3, .if_icmp .ne 9, (110, 0, 0), 0)) (by decide +kernel)) hm_z
        rcases hm_z with ⟨b7100_z, hm_z⟩ | ⟨b7100_z, hm_z⟩
        · replace b7100_z : ¬ (rk_M (rg_v h7065_z 184 (np.toNatClampNeg - 1))) = (4 : Int32) ∧ ¬ (rk_M (rg_v h7065_z 184 (np.toNatClampNeg - 1))).toInt = (4 : Int32).toInt := b7100_z
          exact absurd ((rs_o64 (z9_z (np.toNatClampNeg - 1) (by omega))).mp (b7079_z.2.trans (by decide))) (fun q4_z => b7100_z.2 (q4_z.trans (by decide)))
        · replace b7100_z : (rk_M (rg_v h7065_z 184 (np.toNatClampNeg - 1))) = (4 : Int32) ∧ (rk_M (rg_v h7065_z 184 (np.toNatClampNeg - 1))).toInt = (4 : Int32).toInt := b7100_z
          replace hm_z := rn_aload_n (am_cur_of (i := (211, 1, .aload_n 0, (0, 0, 0), 0)) (by decide +kernel)) g0m hm_z
          replace hm_z := rn_iconst (w := 1) (am_cur_of (i := (212, 1, .iconst 1, (0, 0, 0), 0)) (by decide +kernel)) (by decide) hm_z
          replace hm_z := rn_callV (M' := am_m158) (o := 164) (ar := [.int 1]) (rest := []) (L := lv_args 0 [.ref 164, .int 1]) (am_cur_of (i := (213, 3, .invokevirtual 181, (158, 1665, 3), 0)) (by decide +kernel)) rfl rfl rfl rfl hm_z
          obtain ⟨r7101_z, h7102_z, q7103_z, hm_z⟩ := hm_z
          obtain ⟨rfl, yq7103_z⟩ := rp_wrong q7103_z
          subst yq7103_z
          replace hm_z : rn _ _ _ _ [.int 0] _ _ _ := hm_z
          replace hm_z := rn_iret (am_cur_of (i := (216, 1, .ireturn, (0, 0, 0), 0)) (by decide +kernel)) hm_z
          obtain ⟨e7104_z, e7105_z⟩ := hm_z
          subst e7104_z e7105_z
          exact Or.inl (Or.inr ⟨rfl, 1, by decide, K.1, K.2, rfl, R.2.2.2.2.2.1⟩)
theorem rj_c24_23 {T : Nat → Int32} {S x p : Int32} {n n' : Nat} {h h' g g' : am_H} {r r' : Option Value} (R : rq T S x p 23 h g) (A : rp 23 h g) (B : rp_t h g) (Z : rs 23 h g) (w0_z : rg_v g 164 45 = 0) (ka : (rg_v h 44 10) = 6) (kc : (rg_v g 164 8) = 4) (kb : (rg_v h 44 11) = 12) (kd : (rg_v g 164 9) = 43) (hc_z : rn n am_m44 0 (lv_args 0 [.ref 44]) [] h r h') (hm_z : rn n' am_m178 0 (lv_args 0 [.ref 164]) [] g r' g') : rj_Q T S x p 23 h g h' g' r r' := by
  have g0_z : am_get (lv_args 0 [.ref 44]) 0 = some (.ref 44) := rfl
  have g0m : am_get (lv_args 0 [.ref 164]) 0 = some (.ref 164) := rfl
  have Rk := R
  have Zk := Z
  obtain ⟨⟨c1_z, c2_z, c3_z, c4_z, c5_z, c6_z, c7_z, c8_z⟩, ⟨m2_z, m3_z, m4_z, m5_z, m6_z, m7_z, m8_z⟩, R3, R4, R5, R6, R7, R8, R9, R10⟩ := (R : rq T S x p 23 h g)
  obtain ⟨np, op, z1_z, z2_z, z3_z, z4_z, z5_z, z6_z, z7_z, z8_z, z9_z, z10_z⟩ := (Z : rs 23 h g)
  obtain ⟨nk1_z, nk2_z, nk3_z⟩ := A.2.2.2.2.2.1
  replace nk1_z : rg_v h 32 0 = rg_v g 164 44 := nk1_z
  replace nk2_z : 0 ≤ (rg_v h 32 0).toInt := nk2_z
  replace nk3_z : (rg_v h 32 0).toInt ≤ 64 := nk3_z
  replace z8_z : np.toInt ≤ (rg_v h 32 0).toInt + op.toInt := z8_z
  obtain ⟨kn, ekn⟩ : ∃ v, rg_v h 32 0 = v := ⟨_, rfl⟩
  rw [ekn] at nk1_z nk2_z nk3_z z8_z
  have e9_z := rt_c1 (x := kn) (by omega) (by omega)
  replace hc_z := rn_aload_n (am_cur_of (i := (0, 1, .aload_n 0, (0, 0, 0), 0)) (by decide +kernel)) g0_z hc_z
  replace hc_z := rn_bipush (w := 41) (am_cur_of (i := (1, 2, .bipush 41, (0, 0, 0), 0)) (by decide +kernel)) (by decide) hc_z
  replace hc_z := rn_callV (M' := am_m45) (o := 44) (ar := [.int 41]) (rest := []) (L := lv_args 0 [.ref 44, .int 41]) (am_cur_of (i := (3, 3, .invokevirtual 105, (45, 834, 3), 0)) (by decide +kernel)) rfl rfl rfl rfl hc_z
  obtain ⟨r7106_z, h7107_z, q7108_z, hc_z⟩ := hc_z
  obtain ⟨rfl, yq7108_z⟩ := rp_mkN (fun q => absurd (Eq.trans (Eq.symm ka) q.1) (by decide)) q7108_z
  subst yq7108_z
  replace hc_z : rn _ _ _ _ [.int 0] _ _ _ := hc_z
  replace hc_z := rn_ifT (am_cur_of (i := (6, 3, .ifCond .eq 45, (28, 0, 0), 0)) (by decide +kernel)) (by decide) hc_z
  replace hc_z := rn_aload_n (am_cur_of (i := (51, 1, .aload_n 0, (0, 0, 0), 0)) (by decide +kernel)) g0_z hc_z
  replace hc_z := rn_getI (v := 6) (am_cur_of (i := (52, 3, .getfield 60, (4, 10, 419), 0)) (by decide +kernel)) (by decide +kernel) ka hc_z
  replace hc_z := rn_bipush (w := 6) (am_cur_of (i := (55, 2, .bipush 6, (0, 0, 0), 0)) (by decide +kernel)) (by decide) hc_z
  replace hc_z := rn_cmpF (am_cur_of (i := (57, 3, .if_icmp .ne 11, (36, 0, 0), 0)) (by decide +kernel)) (by decide) hc_z
  replace hc_z := rn_aload_n (am_cur_of (i := (60, 1, .aload_n 0, (0, 0, 0), 0)) (by decide +kernel)) g0_z hc_z
  replace hc_z := rn_getI (v := 12) (am_cur_of (i := (61, 3, .getfield 91, (4, 11, 420), 0)) (by decide +kernel)) (by decide +kernel) kb hc_z
  replace hc_z := rn_iconst (w := 5) (am_cur_of (i := (64, 1, .iconst 5, (0, 0, 0), 0)) (by decide +kernel)) (by decide) hc_z
  replace hc_z := rn_cmpT (am_cur_of (i := (65, 3, .if_icmp .ne 17, (44, 0, 0), 0)) (by decide +kernel)) (by decide) hc_z
  replace hc_z := rn_aload_n (am_cur_of (i := (82, 1, .aload_n 0, (0, 0, 0), 0)) (by decide +kernel)) g0_z hc_z
  replace hc_z := rn_getI (v := 12) (am_cur_of (i := (83, 3, .getfield 91, (4, 11, 420), 0)) (by decide +kernel)) (by decide +kernel) kb hc_z
  replace hc_z := rn_istore_n (am_cur_of (i := (86, 1, .istore_n 1, (0, 0, 0), 0)) (by decide +kernel)) hc_z
  obtain ⟨_, s7109_z, s7110_z, g1_z, hc_z⟩ := hc_z
  replace g0_z := s7109_z 0 _ (by decide) rfl g0_z
  clear s7109_z s7110_z
  replace hc_z := rn_iload_n (am_cur_of (i := (87, 1, .iload_n 1, (0, 0, 0), 0)) (by decide +kernel)) g1_z hc_z
  replace hc_z := rn_callS (M' := am_m47) (ar := [.int 12]) (rest := []) (L := lv_args 0 [.int 12]) (am_cur_of (i := (88, 3, .invokestatic 283, (47, 842, 3), 0)) (by decide +kernel)) rfl rfl rfl rfl hc_z
  obtain ⟨r7111_z, h7112_z, q7113_z, hc_z⟩ := hc_z
  obtain ⟨rfl, yq7113_z⟩ := rs_rankC q7113_z
  replace yq7113_z := yq7113_z.symm
  subst yq7113_z
  rw [show rk_C 12 = 12 by decide] at hc_z
  replace hc_z : rn _ _ _ _ [.int 12] _ _ _ := hc_z
  replace hc_z := rn_bipush (w := 6) (am_cur_of (i := (91, 2, .bipush 6, (0, 0, 0), 0)) (by decide +kernel)) (by decide) hc_z
  replace hc_z := rn_callS (M' := am_m47) (ar := [.int 6]) (rest := [.int 12]) (L := lv_args 0 [.int 6]) (am_cur_of (i := (93, 3, .invokestatic 283, (47, 842, 3), 0)) (by decide +kernel)) rfl rfl rfl rfl hc_z
  obtain ⟨r7114_z, h7115_z, q7116_z, hc_z⟩ := hc_z
  obtain ⟨rfl, yq7116_z⟩ := rs_rankC q7116_z
  replace yq7116_z := yq7116_z.symm
  subst yq7116_z
  rw [show rk_C 6 = 6 by decide] at hc_z
  replace hc_z : rn _ _ _ _ [.int 6, .int 12] _ _ _ := hc_z
  replace hc_z := rn_cmpT (am_cur_of (i := (96, 3, .if_icmp .ne 46, (73, 0, 0), 0)) (by decide +kernel)) (by decide) hc_z
  replace hc_z := rn_aload_n (am_cur_of (i := (142, 1, .aload_n 0, (0, 0, 0), 0)) (by decide +kernel)) g0_z hc_z
  replace hc_z := rn_iload_n (am_cur_of (i := (143, 1, .iload_n 1, (0, 0, 0), 0)) (by decide +kernel)) g1_z hc_z
  replace hc_z := rn_callV (M' := am_m46) (o := 44) (ar := [.int 12]) (rest := []) (L := lv_args 0 [.ref 44, .int 12]) (am_cur_of (i := (144, 3, .invokevirtual 264, (46, 838, 3), 0)) (by decide +kernel)) rfl rfl rfl rfl hc_z
  obtain ⟨r7117_z, h7118_z, q7119_z, hc_z⟩ := hc_z
  replace hm_z := rn_aload_n (am_cur_of (i := (0, 1, .aload_n 0, (0, 0, 0), 0)) (by decide +kernel)) g0m hm_z
  replace hm_z := rn_bipush (w := 41) (am_cur_of (i := (1, 2, .bipush 41, (0, 0, 0), 0)) (by decide +kernel)) (by decide) hm_z
  replace hm_z := rn_callV (M' := am_m171) (o := 164) (ar := [.int 41]) (rest := []) (L := lv_args 0 [.ref 164, .int 41]) (am_cur_of (i := (3, 3, .invokevirtual 194, (171, 1715, 3), 0)) (by decide +kernel)) rfl rfl rfl rfl hm_z
  obtain ⟨r7120_z, h7121_z, q7122_z, hm_z⟩ := hm_z
  obtain ⟨rfl, yq7122_z⟩ := rp_sgN (fun q => absurd (Eq.trans (Eq.symm kd) q.2) (by decide)) q7122_z
  subst yq7122_z
  replace hm_z : rn _ _ _ _ [.int 0] _ _ _ := hm_z
  replace hm_z := rn_ifT (am_cur_of (i := (6, 3, .ifCond .eq 41, (26, 0, 0), 0)) (by decide +kernel)) (by decide) hm_z
  replace hm_z := rn_aload_n (am_cur_of (i := (47, 1, .aload_n 0, (0, 0, 0), 0)) (by decide +kernel)) g0m hm_z
  replace hm_z := rn_bipush (w := 12) (am_cur_of (i := (48, 2, .bipush 12, (0, 0, 0), 0)) (by decide +kernel)) (by decide) hm_z
  replace hm_z := rn_callV (M' := am_m174) (o := 164) (ar := [.int 12]) (rest := []) (L := lv_args 0 [.ref 164, .int 12]) (am_cur_of (i := (50, 3, .invokevirtual 306, (174, 1727, 3), 0)) (by decide +kernel)) rfl rfl rfl rfl hm_z
  obtain ⟨r7123_z, h7124_z, q7125_z, hm_z⟩ := hm_z
  obtain ⟨rfl, yq7125_z⟩ := rp_kyN (fun q => absurd (Eq.trans (Eq.symm kc) q.1) (by decide)) q7125_z
  subst yq7125_z
  replace hm_z : rn _ _ _ _ [.int 0] _ _ _ := hm_z
  replace hm_z := rn_ifT (am_cur_of (i := (53, 3, .ifCond .eq 7, (32, 0, 0), 0)) (by decide +kernel)) (by decide) hm_z
  replace hm_z := rn_aload_n (am_cur_of (i := (60, 1, .aload_n 0, (0, 0, 0), 0)) (by decide +kernel)) g0m hm_z
  replace hm_z := rn_bipush (w := 13) (am_cur_of (i := (61, 2, .bipush 13, (0, 0, 0), 0)) (by decide +kernel)) (by decide) hm_z
  replace hm_z := rn_callV (M' := am_m174) (o := 164) (ar := [.int 13]) (rest := []) (L := lv_args 0 [.ref 164, .int 13]) (am_cur_of (i := (63, 3, .invokevirtual 306, (174, 1727, 3), 0)) (by decide +kernel)) rfl rfl rfl rfl hm_z
  obtain ⟨r7126_z, h7127_z, q7128_z, hm_z⟩ := hm_z
  obtain ⟨rfl, yq7128_z⟩ := rp_kyN (fun q => absurd (Eq.trans (Eq.symm kc) q.1) (by decide)) q7128_z
  subst yq7128_z
  replace hm_z : rn _ _ _ _ [.int 0] _ _ _ := hm_z
  replace hm_z := rn_ifT (am_cur_of (i := (66, 3, .ifCond .eq 7, (38, 0, 0), 0)) (by decide +kernel)) (by decide) hm_z
  replace hm_z := rn_aload_n (am_cur_of (i := (73, 1, .aload_n 0, (0, 0, 0), 0)) (by decide +kernel)) g0m hm_z
  replace hm_z := rn_getI (v := 4) (am_cur_of (i := (74, 3, .getfield 157, (12, 8, 1392), 0)) (by decide +kernel)) (by decide +kernel) kc hm_z
  replace hm_z := rn_iconst (w := 5) (am_cur_of (i := (77, 1, .iconst 5, (0, 0, 0), 0)) (by decide +kernel)) (by decide) hm_z
  replace hm_z := rn_cmpT (am_cur_of (i := (78, 3, .if_icmp .ne 12, (47, 0, 0), 0)) (by decide +kernel)) (by decide) hm_z
  replace hm_z := rn_aload_n (am_cur_of (i := (90, 1, .aload_n 0, (0, 0, 0), 0)) (by decide +kernel)) g0m hm_z
  replace hm_z := rn_bipush (w := 43) (am_cur_of (i := (91, 2, .bipush 43, (0, 0, 0), 0)) (by decide +kernel)) (by decide) hm_z
  replace hm_z := rn_callV (M' := am_m171) (o := 164) (ar := [.int 43]) (rest := []) (L := lv_args 0 [.ref 164, .int 43]) (am_cur_of (i := (93, 3, .invokevirtual 194, (171, 1715, 3), 0)) (by decide +kernel)) rfl rfl rfl rfl hm_z
  obtain ⟨r7129_z, h7130_z, q7131_z, hm_z⟩ := hm_z
  obtain ⟨rfl, yq7131_z⟩ := rp_sgT kc kd q7131_z
  subst yq7131_z
  replace hm_z : rn _ _ _ _ [.int 1] _ _ _ := hm_z
  replace hm_z := rn_ifF (am_cur_of (i := (96, 3, .ifCond .eq 8, (53, 0, 0), 0)) (by decide +kernel)) (by decide) hm_z
  replace hm_z := rn_bipush (w := 11) (am_cur_of (i := (99, 2, .bipush 11, (0, 0, 0), 0)) (by decide +kernel)) (by decide) hm_z
  replace hm_z := rn_goto (am_cur_of (i := (101, 3, .goto 46, (72, 0, 0), 0)) (by decide +kernel)) hm_z
  replace hm_z := rn_istore_n (am_cur_of (i := (147, 1, .istore_n 1, (0, 0, 0), 0)) (by decide +kernel)) hm_z
  obtain ⟨_, s7132_z, s7133_z, g1m, hm_z⟩ := hm_z
  replace g0m := s7132_z 0 _ (by decide) rfl g0m
  clear s7132_z s7133_z
  replace hm_z := rn_iload_n (am_cur_of (i := (148, 1, .iload_n 1, (0, 0, 0), 0)) (by decide +kernel)) g1m hm_z
  replace hm_z := rn_ifT (am_cur_of (i := (149, 3, .ifCond .ne 9, (79, 0, 0), 0)) (by decide +kernel)) (by decide) hm_z
  replace hm_z := rn_aload_n (am_cur_of (i := (158, 1, .aload_n 0, (0, 0, 0), 0)) (by decide +kernel)) g0m hm_z
  replace hm_z := rn_iload_n (am_cur_of (i := (159, 1, .iload_n 1, (0, 0, 0), 0)) (by decide +kernel)) g1m hm_z
  replace hm_z := rn_callS (M' := am_m180) (ar := [.int 11]) (rest := [.ref 164]) (L := lv_args 0 [.int 11]) (am_cur_of (i := (160, 3, .invokestatic 283, (180, 1751, 3), 0)) (by decide +kernel)) rfl rfl rfl rfl hm_z
  obtain ⟨r7134_z, h7135_z, q7136_z, hm_z⟩ := hm_z
  obtain ⟨rfl, yq7136_z⟩ := rs_rankM q7136_z
  replace yq7136_z := yq7136_z.symm
  subst yq7136_z
  rw [show rk_M 11 = 5 by decide] at hm_z
  replace hm_z : rn _ _ _ _ [.int 5, .ref 164] _ _ _ := hm_z
  replace hm_z := rn_iconst (w := 4) (am_cur_of (i := (163, 1, .iconst 4, (0, 0, 0), 0)) (by decide +kernel)) (by decide) hm_z
  replace hm_z := rn_cmpT (am_cur_of (i := (164, 3, .if_icmp .ne 7, (86, 0, 0), 0)) (by decide +kernel)) (by decide) hm_z
  replace hm_z := rn_iload_n (am_cur_of (i := (171, 1, .iload_n 1, (0, 0, 0), 0)) (by decide +kernel)) g1m hm_z
  replace hm_z := rn_callS (M' := am_m180) (ar := [.int 11]) (rest := [.ref 164]) (L := lv_args 0 [.int 11]) (am_cur_of (i := (172, 3, .invokestatic 283, (180, 1751, 3), 0)) (by decide +kernel)) rfl rfl rfl rfl hm_z
  obtain ⟨r7137_z, h7138_z, q7139_z, hm_z⟩ := hm_z
  obtain ⟨rfl, yq7139_z⟩ := rs_rankM q7139_z
  replace yq7139_z := yq7139_z.symm
  subst yq7139_z
  rw [show rk_M 11 = 5 by decide] at hm_z
  replace hm_z : rn _ _ _ _ [.int 5, .ref 164] _ _ _ := hm_z
  replace hm_z := rn_callV (M' := am_m179) (o := 164) (ar := [.int 5]) (rest := []) (L := lv_args 0 [.ref 164, .int 5]) (am_cur_of (i := (175, 3, .invokevirtual 318, (179, 1747, 3), 0)) (by decide +kernel)) rfl rfl rfl rfl hm_z
  obtain ⟨r7140_z, h7141_z, q7142_z, hm_z⟩ := hm_z
  obtain ⟨rfl, rfl, FC, FM, R, A, B, Z, nq, e13_z, hst⟩ := rz_set23 (show rs_l 12 5 from by have q := rs_lo (c := 12) (k := 11) (by unfold rs_o; decide); rw [show rk_M 11 = 5 by decide] at q; exact q) (by decide) Rk A B Zk q7119_z q7142_z
  have Zq := Z
  obtain ⟨np, op, z1_z, z2_z, z3_z, z4_z, z5_z, z6_z, z7_z, z8_z, z9_z, z10_z⟩ := Zq
  obtain rfl : np = nq := z1_z.symm.trans e13_z
  replace hm_z : rn _ _ _ _ [] _ _ _ := hm_z
  replace hc_z : rn _ _ _ _ [] _ _ _ := hc_z
  have cn := rt_cl z3_z
  have zz1_z : (1 : Int32).toInt = 1 := by decide
  have n31_z := (ab_32 np).2
  have y1_z := ab_isub (x := np) (y := 1) (by omega) (by omega)
  replace hm_z := rn_iload_n (am_cur_of (i := (178, 1, .iload_n 1, (0, 0, 0), 0)) (by decide +kernel)) g1m hm_z
  replace hm_z := rn_callS (M' := am_m180) (ar := [.int 11]) (rest := []) (L := lv_args 0 [.int 11]) (am_cur_of (i := (179, 3, .invokestatic 283, (180, 1751, 3), 0)) (by decide +kernel)) rfl rfl rfl rfl hm_z
  obtain ⟨r7143_z, h7144_z, q7145_z, hm_z⟩ := hm_z
  obtain ⟨rfl, yq7145_z⟩ := rs_rankM q7145_z
  replace yq7145_z := yq7145_z.symm
  subst yq7145_z
  rw [show rk_M 11 = 5 by decide] at hm_z
  replace hm_z : rn _ _ _ _ [.int 5] _ _ _ := hm_z
  replace hm_z := rn_iconst (w := 4) (am_cur_of (i := (182, 1, .iconst 4, (0, 0, 0), 0)) (by decide +kernel)) (by decide) hm_z
  replace hm_z := rn_cmpT (am_cur_of (i := (183, 3, .if_icmp .ne 34, (110, 0, 0), 0)) (by decide +kernel)) (by decide) hm_z
  exact Or.inl (rj_t12_23 R A B Z g0_z g1_z g0m g1m hc_z hm_z)
theorem rj_c25_23 {T : Nat → Int32} {S x p : Int32} {n n' : Nat} {h h' g g' : am_H} {r r' : Option Value} (R : rq T S x p 23 h g) (A : rp 23 h g) (B : rp_t h g) (Z : rs 23 h g) (w0_z : rg_v g 164 45 = 0) (ka : (rg_v h 44 10) = 6) (kc : (rg_v g 164 8) = 4) (kb : (rg_v h 44 11) = 13) (kd : (rg_v g 164 9) = 45) (hc_z : rn n am_m44 0 (lv_args 0 [.ref 44]) [] h r h') (hm_z : rn n' am_m178 0 (lv_args 0 [.ref 164]) [] g r' g') : rj_Q T S x p 23 h g h' g' r r' := by
  have g0_z : am_get (lv_args 0 [.ref 44]) 0 = some (.ref 44) := rfl
  have g0m : am_get (lv_args 0 [.ref 164]) 0 = some (.ref 164) := rfl
  have Rk := R
  have Zk := Z
  obtain ⟨⟨c1_z, c2_z, c3_z, c4_z, c5_z, c6_z, c7_z, c8_z⟩, ⟨m2_z, m3_z, m4_z, m5_z, m6_z, m7_z, m8_z⟩, R3, R4, R5, R6, R7, R8, R9, R10⟩ := (R : rq T S x p 23 h g)
  obtain ⟨np, op, z1_z, z2_z, z3_z, z4_z, z5_z, z6_z, z7_z, z8_z, z9_z, z10_z⟩ := (Z : rs 23 h g)
  obtain ⟨nk1_z, nk2_z, nk3_z⟩ := A.2.2.2.2.2.1
  replace nk1_z : rg_v h 32 0 = rg_v g 164 44 := nk1_z
  replace nk2_z : 0 ≤ (rg_v h 32 0).toInt := nk2_z
  replace nk3_z : (rg_v h 32 0).toInt ≤ 64 := nk3_z
  replace z8_z : np.toInt ≤ (rg_v h 32 0).toInt + op.toInt := z8_z
  obtain ⟨kn, ekn⟩ : ∃ v, rg_v h 32 0 = v := ⟨_, rfl⟩
  rw [ekn] at nk1_z nk2_z nk3_z z8_z
  have e9_z := rt_c1 (x := kn) (by omega) (by omega)
  replace hc_z := rn_aload_n (am_cur_of (i := (0, 1, .aload_n 0, (0, 0, 0), 0)) (by decide +kernel)) g0_z hc_z
  replace hc_z := rn_bipush (w := 41) (am_cur_of (i := (1, 2, .bipush 41, (0, 0, 0), 0)) (by decide +kernel)) (by decide) hc_z
  replace hc_z := rn_callV (M' := am_m45) (o := 44) (ar := [.int 41]) (rest := []) (L := lv_args 0 [.ref 44, .int 41]) (am_cur_of (i := (3, 3, .invokevirtual 105, (45, 834, 3), 0)) (by decide +kernel)) rfl rfl rfl rfl hc_z
  obtain ⟨r7146_z, h7147_z, q7148_z, hc_z⟩ := hc_z
  obtain ⟨rfl, yq7148_z⟩ := rp_mkN (fun q => absurd (Eq.trans (Eq.symm ka) q.1) (by decide)) q7148_z
  subst yq7148_z
  replace hc_z : rn _ _ _ _ [.int 0] _ _ _ := hc_z
  replace hc_z := rn_ifT (am_cur_of (i := (6, 3, .ifCond .eq 45, (28, 0, 0), 0)) (by decide +kernel)) (by decide) hc_z
  replace hc_z := rn_aload_n (am_cur_of (i := (51, 1, .aload_n 0, (0, 0, 0), 0)) (by decide +kernel)) g0_z hc_z
  replace hc_z := rn_getI (v := 6) (am_cur_of (i := (52, 3, .getfield 60, (4, 10, 419), 0)) (by decide +kernel)) (by decide +kernel) ka hc_z
  replace hc_z := rn_bipush (w := 6) (am_cur_of (i := (55, 2, .bipush 6, (0, 0, 0), 0)) (by decide +kernel)) (by decide) hc_z
  replace hc_z := rn_cmpF (am_cur_of (i := (57, 3, .if_icmp .ne 11, (36, 0, 0), 0)) (by decide +kernel)) (by decide) hc_z
  replace hc_z := rn_aload_n (am_cur_of (i := (60, 1, .aload_n 0, (0, 0, 0), 0)) (by decide +kernel)) g0_z hc_z
  replace hc_z := rn_getI (v := 13) (am_cur_of (i := (61, 3, .getfield 91, (4, 11, 420), 0)) (by decide +kernel)) (by decide +kernel) kb hc_z
  replace hc_z := rn_iconst (w := 5) (am_cur_of (i := (64, 1, .iconst 5, (0, 0, 0), 0)) (by decide +kernel)) (by decide) hc_z
  replace hc_z := rn_cmpT (am_cur_of (i := (65, 3, .if_icmp .ne 17, (44, 0, 0), 0)) (by decide +kernel)) (by decide) hc_z
  replace hc_z := rn_aload_n (am_cur_of (i := (82, 1, .aload_n 0, (0, 0, 0), 0)) (by decide +kernel)) g0_z hc_z
  replace hc_z := rn_getI (v := 13) (am_cur_of (i := (83, 3, .getfield 91, (4, 11, 420), 0)) (by decide +kernel)) (by decide +kernel) kb hc_z
  replace hc_z := rn_istore_n (am_cur_of (i := (86, 1, .istore_n 1, (0, 0, 0), 0)) (by decide +kernel)) hc_z
  obtain ⟨_, s7149_z, s7150_z, g1_z, hc_z⟩ := hc_z
  replace g0_z := s7149_z 0 _ (by decide) rfl g0_z
  clear s7149_z s7150_z
  replace hc_z := rn_iload_n (am_cur_of (i := (87, 1, .iload_n 1, (0, 0, 0), 0)) (by decide +kernel)) g1_z hc_z
  replace hc_z := rn_callS (M' := am_m47) (ar := [.int 13]) (rest := []) (L := lv_args 0 [.int 13]) (am_cur_of (i := (88, 3, .invokestatic 283, (47, 842, 3), 0)) (by decide +kernel)) rfl rfl rfl rfl hc_z
  obtain ⟨r7151_z, h7152_z, q7153_z, hc_z⟩ := hc_z
  obtain ⟨rfl, yq7153_z⟩ := rs_rankC q7153_z
  replace yq7153_z := yq7153_z.symm
  subst yq7153_z
  rw [show rk_C 13 = 12 by decide] at hc_z
  replace hc_z : rn _ _ _ _ [.int 12] _ _ _ := hc_z
  replace hc_z := rn_bipush (w := 6) (am_cur_of (i := (91, 2, .bipush 6, (0, 0, 0), 0)) (by decide +kernel)) (by decide) hc_z
  replace hc_z := rn_callS (M' := am_m47) (ar := [.int 6]) (rest := [.int 12]) (L := lv_args 0 [.int 6]) (am_cur_of (i := (93, 3, .invokestatic 283, (47, 842, 3), 0)) (by decide +kernel)) rfl rfl rfl rfl hc_z
  obtain ⟨r7154_z, h7155_z, q7156_z, hc_z⟩ := hc_z
  obtain ⟨rfl, yq7156_z⟩ := rs_rankC q7156_z
  replace yq7156_z := yq7156_z.symm
  subst yq7156_z
  rw [show rk_C 6 = 6 by decide] at hc_z
  replace hc_z : rn _ _ _ _ [.int 6, .int 12] _ _ _ := hc_z
  replace hc_z := rn_cmpT (am_cur_of (i := (96, 3, .if_icmp .ne 46, (73, 0, 0), 0)) (by decide +kernel)) (by decide) hc_z
  replace hc_z := rn_aload_n (am_cur_of (i := (142, 1, .aload_n 0, (0, 0, 0), 0)) (by decide +kernel)) g0_z hc_z
  replace hc_z := rn_iload_n (am_cur_of (i := (143, 1, .iload_n 1, (0, 0, 0), 0)) (by decide +kernel)) g1_z hc_z
  replace hc_z := rn_callV (M' := am_m46) (o := 44) (ar := [.int 13]) (rest := []) (L := lv_args 0 [.ref 44, .int 13]) (am_cur_of (i := (144, 3, .invokevirtual 264, (46, 838, 3), 0)) (by decide +kernel)) rfl rfl rfl rfl hc_z
  obtain ⟨r7157_z, h7158_z, q7159_z, hc_z⟩ := hc_z
  replace hm_z := rn_aload_n (am_cur_of (i := (0, 1, .aload_n 0, (0, 0, 0), 0)) (by decide +kernel)) g0m hm_z
  replace hm_z := rn_bipush (w := 41) (am_cur_of (i := (1, 2, .bipush 41, (0, 0, 0), 0)) (by decide +kernel)) (by decide) hm_z
  replace hm_z := rn_callV (M' := am_m171) (o := 164) (ar := [.int 41]) (rest := []) (L := lv_args 0 [.ref 164, .int 41]) (am_cur_of (i := (3, 3, .invokevirtual 194, (171, 1715, 3), 0)) (by decide +kernel)) rfl rfl rfl rfl hm_z
  obtain ⟨r7160_z, h7161_z, q7162_z, hm_z⟩ := hm_z
  obtain ⟨rfl, yq7162_z⟩ := rp_sgN (fun q => absurd (Eq.trans (Eq.symm kd) q.2) (by decide)) q7162_z
  subst yq7162_z
  replace hm_z : rn _ _ _ _ [.int 0] _ _ _ := hm_z
  replace hm_z := rn_ifT (am_cur_of (i := (6, 3, .ifCond .eq 41, (26, 0, 0), 0)) (by decide +kernel)) (by decide) hm_z
  replace hm_z := rn_aload_n (am_cur_of (i := (47, 1, .aload_n 0, (0, 0, 0), 0)) (by decide +kernel)) g0m hm_z
  replace hm_z := rn_bipush (w := 12) (am_cur_of (i := (48, 2, .bipush 12, (0, 0, 0), 0)) (by decide +kernel)) (by decide) hm_z
  replace hm_z := rn_callV (M' := am_m174) (o := 164) (ar := [.int 12]) (rest := []) (L := lv_args 0 [.ref 164, .int 12]) (am_cur_of (i := (50, 3, .invokevirtual 306, (174, 1727, 3), 0)) (by decide +kernel)) rfl rfl rfl rfl hm_z
  obtain ⟨r7163_z, h7164_z, q7165_z, hm_z⟩ := hm_z
  obtain ⟨rfl, yq7165_z⟩ := rp_kyN (fun q => absurd (Eq.trans (Eq.symm kc) q.1) (by decide)) q7165_z
  subst yq7165_z
  replace hm_z : rn _ _ _ _ [.int 0] _ _ _ := hm_z
  replace hm_z := rn_ifT (am_cur_of (i := (53, 3, .ifCond .eq 7, (32, 0, 0), 0)) (by decide +kernel)) (by decide) hm_z
  replace hm_z := rn_aload_n (am_cur_of (i := (60, 1, .aload_n 0, (0, 0, 0), 0)) (by decide +kernel)) g0m hm_z
  replace hm_z := rn_bipush (w := 13) (am_cur_of (i := (61, 2, .bipush 13, (0, 0, 0), 0)) (by decide +kernel)) (by decide) hm_z
  replace hm_z := rn_callV (M' := am_m174) (o := 164) (ar := [.int 13]) (rest := []) (L := lv_args 0 [.ref 164, .int 13]) (am_cur_of (i := (63, 3, .invokevirtual 306, (174, 1727, 3), 0)) (by decide +kernel)) rfl rfl rfl rfl hm_z
  obtain ⟨r7166_z, h7167_z, q7168_z, hm_z⟩ := hm_z
  obtain ⟨rfl, yq7168_z⟩ := rp_kyN (fun q => absurd (Eq.trans (Eq.symm kc) q.1) (by decide)) q7168_z
  subst yq7168_z
  replace hm_z : rn _ _ _ _ [.int 0] _ _ _ := hm_z
  replace hm_z := rn_ifT (am_cur_of (i := (66, 3, .ifCond .eq 7, (38, 0, 0), 0)) (by decide +kernel)) (by decide) hm_z
  replace hm_z := rn_aload_n (am_cur_of (i := (73, 1, .aload_n 0, (0, 0, 0), 0)) (by decide +kernel)) g0m hm_z
  replace hm_z := rn_getI (v := 4) (am_cur_of (i := (74, 3, .getfield 157, (12, 8, 1392), 0)) (by decide +kernel)) (by decide +kernel) kc hm_z
  replace hm_z := rn_iconst (w := 5) (am_cur_of (i := (77, 1, .iconst 5, (0, 0, 0), 0)) (by decide +kernel)) (by decide) hm_z
  replace hm_z := rn_cmpT (am_cur_of (i := (78, 3, .if_icmp .ne 12, (47, 0, 0), 0)) (by decide +kernel)) (by decide) hm_z
  replace hm_z := rn_aload_n (am_cur_of (i := (90, 1, .aload_n 0, (0, 0, 0), 0)) (by decide +kernel)) g0m hm_z
  replace hm_z := rn_bipush (w := 43) (am_cur_of (i := (91, 2, .bipush 43, (0, 0, 0), 0)) (by decide +kernel)) (by decide) hm_z
  replace hm_z := rn_callV (M' := am_m171) (o := 164) (ar := [.int 43]) (rest := []) (L := lv_args 0 [.ref 164, .int 43]) (am_cur_of (i := (93, 3, .invokevirtual 194, (171, 1715, 3), 0)) (by decide +kernel)) rfl rfl rfl rfl hm_z
  obtain ⟨r7169_z, h7170_z, q7171_z, hm_z⟩ := hm_z
  obtain ⟨rfl, yq7171_z⟩ := rp_sgN (fun q => absurd (Eq.trans (Eq.symm kd) q.2) (by decide)) q7171_z
  subst yq7171_z
  replace hm_z : rn _ _ _ _ [.int 0] _ _ _ := hm_z
  replace hm_z := rn_ifT (am_cur_of (i := (96, 3, .ifCond .eq 8, (53, 0, 0), 0)) (by decide +kernel)) (by decide) hm_z
  replace hm_z := rn_aload_n (am_cur_of (i := (104, 1, .aload_n 0, (0, 0, 0), 0)) (by decide +kernel)) g0m hm_z
  replace hm_z := rn_bipush (w := 45) (am_cur_of (i := (105, 2, .bipush 45, (0, 0, 0), 0)) (by decide +kernel)) (by decide) hm_z
  replace hm_z := rn_callV (M' := am_m171) (o := 164) (ar := [.int 45]) (rest := []) (L := lv_args 0 [.ref 164, .int 45]) (am_cur_of (i := (107, 3, .invokevirtual 194, (171, 1715, 3), 0)) (by decide +kernel)) rfl rfl rfl rfl hm_z
  obtain ⟨r7172_z, h7173_z, q7174_z, hm_z⟩ := hm_z
  obtain ⟨rfl, yq7174_z⟩ := rp_sgT kc kd q7174_z
  subst yq7174_z
  replace hm_z : rn _ _ _ _ [.int 1] _ _ _ := hm_z
  replace hm_z := rn_ifF (am_cur_of (i := (110, 3, .ifCond .eq 8, (59, 0, 0), 0)) (by decide +kernel)) (by decide) hm_z
  replace hm_z := rn_bipush (w := 12) (am_cur_of (i := (113, 2, .bipush 12, (0, 0, 0), 0)) (by decide +kernel)) (by decide) hm_z
  replace hm_z := rn_goto (am_cur_of (i := (115, 3, .goto 32, (72, 0, 0), 0)) (by decide +kernel)) hm_z
  replace hm_z := rn_istore_n (am_cur_of (i := (147, 1, .istore_n 1, (0, 0, 0), 0)) (by decide +kernel)) hm_z
  obtain ⟨_, s7175_z, s7176_z, g1m, hm_z⟩ := hm_z
  replace g0m := s7175_z 0 _ (by decide) rfl g0m
  clear s7175_z s7176_z
  replace hm_z := rn_iload_n (am_cur_of (i := (148, 1, .iload_n 1, (0, 0, 0), 0)) (by decide +kernel)) g1m hm_z
  replace hm_z := rn_ifT (am_cur_of (i := (149, 3, .ifCond .ne 9, (79, 0, 0), 0)) (by decide +kernel)) (by decide) hm_z
  replace hm_z := rn_aload_n (am_cur_of (i := (158, 1, .aload_n 0, (0, 0, 0), 0)) (by decide +kernel)) g0m hm_z
  replace hm_z := rn_iload_n (am_cur_of (i := (159, 1, .iload_n 1, (0, 0, 0), 0)) (by decide +kernel)) g1m hm_z
  replace hm_z := rn_callS (M' := am_m180) (ar := [.int 12]) (rest := [.ref 164]) (L := lv_args 0 [.int 12]) (am_cur_of (i := (160, 3, .invokestatic 283, (180, 1751, 3), 0)) (by decide +kernel)) rfl rfl rfl rfl hm_z
  obtain ⟨r7177_z, h7178_z, q7179_z, hm_z⟩ := hm_z
  obtain ⟨rfl, yq7179_z⟩ := rs_rankM q7179_z
  replace yq7179_z := yq7179_z.symm
  subst yq7179_z
  rw [show rk_M 12 = 5 by decide] at hm_z
  replace hm_z : rn _ _ _ _ [.int 5, .ref 164] _ _ _ := hm_z
  replace hm_z := rn_iconst (w := 4) (am_cur_of (i := (163, 1, .iconst 4, (0, 0, 0), 0)) (by decide +kernel)) (by decide) hm_z
  replace hm_z := rn_cmpT (am_cur_of (i := (164, 3, .if_icmp .ne 7, (86, 0, 0), 0)) (by decide +kernel)) (by decide) hm_z
  replace hm_z := rn_iload_n (am_cur_of (i := (171, 1, .iload_n 1, (0, 0, 0), 0)) (by decide +kernel)) g1m hm_z
  replace hm_z := rn_callS (M' := am_m180) (ar := [.int 12]) (rest := [.ref 164]) (L := lv_args 0 [.int 12]) (am_cur_of (i := (172, 3, .invokestatic 283, (180, 1751, 3), 0)) (by decide +kernel)) rfl rfl rfl rfl hm_z
  obtain ⟨r7180_z, h7181_z, q7182_z, hm_z⟩ := hm_z
  obtain ⟨rfl, yq7182_z⟩ := rs_rankM q7182_z
  replace yq7182_z := yq7182_z.symm
  subst yq7182_z
  rw [show rk_M 12 = 5 by decide] at hm_z
  replace hm_z : rn _ _ _ _ [.int 5, .ref 164] _ _ _ := hm_z
  replace hm_z := rn_callV (M' := am_m179) (o := 164) (ar := [.int 5]) (rest := []) (L := lv_args 0 [.ref 164, .int 5]) (am_cur_of (i := (175, 3, .invokevirtual 318, (179, 1747, 3), 0)) (by decide +kernel)) rfl rfl rfl rfl hm_z
  obtain ⟨r7183_z, h7184_z, q7185_z, hm_z⟩ := hm_z
  obtain ⟨rfl, rfl, FC, FM, R, A, B, Z, nq, e13_z, hst⟩ := rz_set23 (show rs_l 13 5 from by have q := rs_lo (c := 13) (k := 12) (by unfold rs_o; decide); rw [show rk_M 12 = 5 by decide] at q; exact q) (by decide) Rk A B Zk q7159_z q7185_z
  have Zq := Z
  obtain ⟨np, op, z1_z, z2_z, z3_z, z4_z, z5_z, z6_z, z7_z, z8_z, z9_z, z10_z⟩ := Zq
  obtain rfl : np = nq := z1_z.symm.trans e13_z
  replace hm_z : rn _ _ _ _ [] _ _ _ := hm_z
  replace hc_z : rn _ _ _ _ [] _ _ _ := hc_z
  have cn := rt_cl z3_z
  have zz1_z : (1 : Int32).toInt = 1 := by decide
  have n31_z := (ab_32 np).2
  have y1_z := ab_isub (x := np) (y := 1) (by omega) (by omega)
  replace hm_z := rn_iload_n (am_cur_of (i := (178, 1, .iload_n 1, (0, 0, 0), 0)) (by decide +kernel)) g1m hm_z
  replace hm_z := rn_callS (M' := am_m180) (ar := [.int 12]) (rest := []) (L := lv_args 0 [.int 12]) (am_cur_of (i := (179, 3, .invokestatic 283, (180, 1751, 3), 0)) (by decide +kernel)) rfl rfl rfl rfl hm_z
  obtain ⟨r7186_z, h7187_z, q7188_z, hm_z⟩ := hm_z
  obtain ⟨rfl, yq7188_z⟩ := rs_rankM q7188_z
  replace yq7188_z := yq7188_z.symm
  subst yq7188_z
  rw [show rk_M 12 = 5 by decide] at hm_z
  replace hm_z : rn _ _ _ _ [.int 5] _ _ _ := hm_z
  replace hm_z := rn_iconst (w := 4) (am_cur_of (i := (182, 1, .iconst 4, (0, 0, 0), 0)) (by decide +kernel)) (by decide) hm_z
  replace hm_z := rn_cmpT (am_cur_of (i := (183, 3, .if_icmp .ne 34, (110, 0, 0), 0)) (by decide +kernel)) (by decide) hm_z
  exact Or.inl (rj_t13_23 R A B Z g0_z g1_z g0m g1m hc_z hm_z)
theorem rj_c26_23 {T : Nat → Int32} {S x p : Int32} {n n' : Nat} {h h' g g' : am_H} {r r' : Option Value} (R : rq T S x p 23 h g) (A : rp 23 h g) (B : rp_t h g) (Z : rs 23 h g) (w0_z : rg_v g 164 45 = 0) (ka : (rg_v h 44 10) = 6) (kc : (rg_v g 164 8) = 4) (kb : (rg_v h 44 11) = 14) (kd : (rg_v g 164 9) = 42) (hc_z : rn n am_m44 0 (lv_args 0 [.ref 44]) [] h r h') (hm_z : rn n' am_m178 0 (lv_args 0 [.ref 164]) [] g r' g') : rj_Q T S x p 23 h g h' g' r r' := by
  have g0_z : am_get (lv_args 0 [.ref 44]) 0 = some (.ref 44) := rfl
  have g0m : am_get (lv_args 0 [.ref 164]) 0 = some (.ref 164) := rfl
  have Rk := R
  have Zk := Z
  obtain ⟨⟨c1_z, c2_z, c3_z, c4_z, c5_z, c6_z, c7_z, c8_z⟩, ⟨m2_z, m3_z, m4_z, m5_z, m6_z, m7_z, m8_z⟩, R3, R4, R5, R6, R7, R8, R9, R10⟩ := (R : rq T S x p 23 h g)
  obtain ⟨np, op, z1_z, z2_z, z3_z, z4_z, z5_z, z6_z, z7_z, z8_z, z9_z, z10_z⟩ := (Z : rs 23 h g)
  obtain ⟨nk1_z, nk2_z, nk3_z⟩ := A.2.2.2.2.2.1
  replace nk1_z : rg_v h 32 0 = rg_v g 164 44 := nk1_z
  replace nk2_z : 0 ≤ (rg_v h 32 0).toInt := nk2_z
  replace nk3_z : (rg_v h 32 0).toInt ≤ 64 := nk3_z
  replace z8_z : np.toInt ≤ (rg_v h 32 0).toInt + op.toInt := z8_z
  obtain ⟨kn, ekn⟩ : ∃ v, rg_v h 32 0 = v := ⟨_, rfl⟩
  rw [ekn] at nk1_z nk2_z nk3_z z8_z
  have e9_z := rt_c1 (x := kn) (by omega) (by omega)
  replace hc_z := rn_aload_n (am_cur_of (i := (0, 1, .aload_n 0, (0, 0, 0), 0)) (by decide +kernel)) g0_z hc_z
  replace hc_z := rn_bipush (w := 41) (am_cur_of (i := (1, 2, .bipush 41, (0, 0, 0), 0)) (by decide +kernel)) (by decide) hc_z
  replace hc_z := rn_callV (M' := am_m45) (o := 44) (ar := [.int 41]) (rest := []) (L := lv_args 0 [.ref 44, .int 41]) (am_cur_of (i := (3, 3, .invokevirtual 105, (45, 834, 3), 0)) (by decide +kernel)) rfl rfl rfl rfl hc_z
  obtain ⟨r7189_z, h7190_z, q7191_z, hc_z⟩ := hc_z
  obtain ⟨rfl, yq7191_z⟩ := rp_mkN (fun q => absurd (Eq.trans (Eq.symm ka) q.1) (by decide)) q7191_z
  subst yq7191_z
  replace hc_z : rn _ _ _ _ [.int 0] _ _ _ := hc_z
  replace hc_z := rn_ifT (am_cur_of (i := (6, 3, .ifCond .eq 45, (28, 0, 0), 0)) (by decide +kernel)) (by decide) hc_z
  replace hc_z := rn_aload_n (am_cur_of (i := (51, 1, .aload_n 0, (0, 0, 0), 0)) (by decide +kernel)) g0_z hc_z
  replace hc_z := rn_getI (v := 6) (am_cur_of (i := (52, 3, .getfield 60, (4, 10, 419), 0)) (by decide +kernel)) (by decide +kernel) ka hc_z
  replace hc_z := rn_bipush (w := 6) (am_cur_of (i := (55, 2, .bipush 6, (0, 0, 0), 0)) (by decide +kernel)) (by decide) hc_z
  replace hc_z := rn_cmpF (am_cur_of (i := (57, 3, .if_icmp .ne 11, (36, 0, 0), 0)) (by decide +kernel)) (by decide) hc_z
  replace hc_z := rn_aload_n (am_cur_of (i := (60, 1, .aload_n 0, (0, 0, 0), 0)) (by decide +kernel)) g0_z hc_z
  replace hc_z := rn_getI (v := 14) (am_cur_of (i := (61, 3, .getfield 91, (4, 11, 420), 0)) (by decide +kernel)) (by decide +kernel) kb hc_z
  replace hc_z := rn_iconst (w := 5) (am_cur_of (i := (64, 1, .iconst 5, (0, 0, 0), 0)) (by decide +kernel)) (by decide) hc_z
  replace hc_z := rn_cmpT (am_cur_of (i := (65, 3, .if_icmp .ne 17, (44, 0, 0), 0)) (by decide +kernel)) (by decide) hc_z
  replace hc_z := rn_aload_n (am_cur_of (i := (82, 1, .aload_n 0, (0, 0, 0), 0)) (by decide +kernel)) g0_z hc_z
  replace hc_z := rn_getI (v := 14) (am_cur_of (i := (83, 3, .getfield 91, (4, 11, 420), 0)) (by decide +kernel)) (by decide +kernel) kb hc_z
  replace hc_z := rn_istore_n (am_cur_of (i := (86, 1, .istore_n 1, (0, 0, 0), 0)) (by decide +kernel)) hc_z
  obtain ⟨_, s7192_z, s7193_z, g1_z, hc_z⟩ := hc_z
  replace g0_z := s7192_z 0 _ (by decide) rfl g0_z
  clear s7192_z s7193_z
  replace hc_z := rn_iload_n (am_cur_of (i := (87, 1, .iload_n 1, (0, 0, 0), 0)) (by decide +kernel)) g1_z hc_z
  replace hc_z := rn_callS (M' := am_m47) (ar := [.int 14]) (rest := []) (L := lv_args 0 [.int 14]) (am_cur_of (i := (88, 3, .invokestatic 283, (47, 842, 3), 0)) (by decide +kernel)) rfl rfl rfl rfl hc_z
  obtain ⟨r7194_z, h7195_z, q7196_z, hc_z⟩ := hc_z
  obtain ⟨rfl, yq7196_z⟩ := rs_rankC q7196_z
  replace yq7196_z := yq7196_z.symm
  subst yq7196_z
  rw [show rk_C 14 = 14 by decide] at hc_z
  replace hc_z : rn _ _ _ _ [.int 14] _ _ _ := hc_z
  replace hc_z := rn_bipush (w := 6) (am_cur_of (i := (91, 2, .bipush 6, (0, 0, 0), 0)) (by decide +kernel)) (by decide) hc_z
  replace hc_z := rn_callS (M' := am_m47) (ar := [.int 6]) (rest := [.int 14]) (L := lv_args 0 [.int 6]) (am_cur_of (i := (93, 3, .invokestatic 283, (47, 842, 3), 0)) (by decide +kernel)) rfl rfl rfl rfl hc_z
  obtain ⟨r7197_z, h7198_z, q7199_z, hc_z⟩ := hc_z
  obtain ⟨rfl, yq7199_z⟩ := rs_rankC q7199_z
  replace yq7199_z := yq7199_z.symm
  subst yq7199_z
  rw [show rk_C 6 = 6 by decide] at hc_z
  replace hc_z : rn _ _ _ _ [.int 6, .int 14] _ _ _ := hc_z
  replace hc_z := rn_cmpT (am_cur_of (i := (96, 3, .if_icmp .ne 46, (73, 0, 0), 0)) (by decide +kernel)) (by decide) hc_z
  replace hc_z := rn_aload_n (am_cur_of (i := (142, 1, .aload_n 0, (0, 0, 0), 0)) (by decide +kernel)) g0_z hc_z
  replace hc_z := rn_iload_n (am_cur_of (i := (143, 1, .iload_n 1, (0, 0, 0), 0)) (by decide +kernel)) g1_z hc_z
  replace hc_z := rn_callV (M' := am_m46) (o := 44) (ar := [.int 14]) (rest := []) (L := lv_args 0 [.ref 44, .int 14]) (am_cur_of (i := (144, 3, .invokevirtual 264, (46, 838, 3), 0)) (by decide +kernel)) rfl rfl rfl rfl hc_z
  obtain ⟨r7200_z, h7201_z, q7202_z, hc_z⟩ := hc_z
  replace hm_z := rn_aload_n (am_cur_of (i := (0, 1, .aload_n 0, (0, 0, 0), 0)) (by decide +kernel)) g0m hm_z
  replace hm_z := rn_bipush (w := 41) (am_cur_of (i := (1, 2, .bipush 41, (0, 0, 0), 0)) (by decide +kernel)) (by decide) hm_z
  replace hm_z := rn_callV (M' := am_m171) (o := 164) (ar := [.int 41]) (rest := []) (L := lv_args 0 [.ref 164, .int 41]) (am_cur_of (i := (3, 3, .invokevirtual 194, (171, 1715, 3), 0)) (by decide +kernel)) rfl rfl rfl rfl hm_z
  obtain ⟨r7203_z, h7204_z, q7205_z, hm_z⟩ := hm_z
  obtain ⟨rfl, yq7205_z⟩ := rp_sgN (fun q => absurd (Eq.trans (Eq.symm kd) q.2) (by decide)) q7205_z
  subst yq7205_z
  replace hm_z : rn _ _ _ _ [.int 0] _ _ _ := hm_z
  replace hm_z := rn_ifT (am_cur_of (i := (6, 3, .ifCond .eq 41, (26, 0, 0), 0)) (by decide +kernel)) (by decide) hm_z
  replace hm_z := rn_aload_n (am_cur_of (i := (47, 1, .aload_n 0, (0, 0, 0), 0)) (by decide +kernel)) g0m hm_z
  replace hm_z := rn_bipush (w := 12) (am_cur_of (i := (48, 2, .bipush 12, (0, 0, 0), 0)) (by decide +kernel)) (by decide) hm_z
  replace hm_z := rn_callV (M' := am_m174) (o := 164) (ar := [.int 12]) (rest := []) (L := lv_args 0 [.ref 164, .int 12]) (am_cur_of (i := (50, 3, .invokevirtual 306, (174, 1727, 3), 0)) (by decide +kernel)) rfl rfl rfl rfl hm_z
  obtain ⟨r7206_z, h7207_z, q7208_z, hm_z⟩ := hm_z
  obtain ⟨rfl, yq7208_z⟩ := rp_kyN (fun q => absurd (Eq.trans (Eq.symm kc) q.1) (by decide)) q7208_z
  subst yq7208_z
  replace hm_z : rn _ _ _ _ [.int 0] _ _ _ := hm_z
  replace hm_z := rn_ifT (am_cur_of (i := (53, 3, .ifCond .eq 7, (32, 0, 0), 0)) (by decide +kernel)) (by decide) hm_z
  replace hm_z := rn_aload_n (am_cur_of (i := (60, 1, .aload_n 0, (0, 0, 0), 0)) (by decide +kernel)) g0m hm_z
  replace hm_z := rn_bipush (w := 13) (am_cur_of (i := (61, 2, .bipush 13, (0, 0, 0), 0)) (by decide +kernel)) (by decide) hm_z
  replace hm_z := rn_callV (M' := am_m174) (o := 164) (ar := [.int 13]) (rest := []) (L := lv_args 0 [.ref 164, .int 13]) (am_cur_of (i := (63, 3, .invokevirtual 306, (174, 1727, 3), 0)) (by decide +kernel)) rfl rfl rfl rfl hm_z
  obtain ⟨r7209_z, h7210_z, q7211_z, hm_z⟩ := hm_z
  obtain ⟨rfl, yq7211_z⟩ := rp_kyN (fun q => absurd (Eq.trans (Eq.symm kc) q.1) (by decide)) q7211_z
  subst yq7211_z
  replace hm_z : rn _ _ _ _ [.int 0] _ _ _ := hm_z
  replace hm_z := rn_ifT (am_cur_of (i := (66, 3, .ifCond .eq 7, (38, 0, 0), 0)) (by decide +kernel)) (by decide) hm_z
  replace hm_z := rn_aload_n (am_cur_of (i := (73, 1, .aload_n 0, (0, 0, 0), 0)) (by decide +kernel)) g0m hm_z
  replace hm_z := rn_getI (v := 4) (am_cur_of (i := (74, 3, .getfield 157, (12, 8, 1392), 0)) (by decide +kernel)) (by decide +kernel) kc hm_z
  replace hm_z := rn_iconst (w := 5) (am_cur_of (i := (77, 1, .iconst 5, (0, 0, 0), 0)) (by decide +kernel)) (by decide) hm_z
  replace hm_z := rn_cmpT (am_cur_of (i := (78, 3, .if_icmp .ne 12, (47, 0, 0), 0)) (by decide +kernel)) (by decide) hm_z
  replace hm_z := rn_aload_n (am_cur_of (i := (90, 1, .aload_n 0, (0, 0, 0), 0)) (by decide +kernel)) g0m hm_z
  replace hm_z := rn_bipush (w := 43) (am_cur_of (i := (91, 2, .bipush 43, (0, 0, 0), 0)) (by decide +kernel)) (by decide) hm_z
  replace hm_z := rn_callV (M' := am_m171) (o := 164) (ar := [.int 43]) (rest := []) (L := lv_args 0 [.ref 164, .int 43]) (am_cur_of (i := (93, 3, .invokevirtual 194, (171, 1715, 3), 0)) (by decide +kernel)) rfl rfl rfl rfl hm_z
  obtain ⟨r7212_z, h7213_z, q7214_z, hm_z⟩ := hm_z
  obtain ⟨rfl, yq7214_z⟩ := rp_sgN (fun q => absurd (Eq.trans (Eq.symm kd) q.2) (by decide)) q7214_z
  subst yq7214_z
  replace hm_z : rn _ _ _ _ [.int 0] _ _ _ := hm_z
  replace hm_z := rn_ifT (am_cur_of (i := (96, 3, .ifCond .eq 8, (53, 0, 0), 0)) (by decide +kernel)) (by decide) hm_z
  replace hm_z := rn_aload_n (am_cur_of (i := (104, 1, .aload_n 0, (0, 0, 0), 0)) (by decide +kernel)) g0m hm_z
  replace hm_z := rn_bipush (w := 45) (am_cur_of (i := (105, 2, .bipush 45, (0, 0, 0), 0)) (by decide +kernel)) (by decide) hm_z
  replace hm_z := rn_callV (M' := am_m171) (o := 164) (ar := [.int 45]) (rest := []) (L := lv_args 0 [.ref 164, .int 45]) (am_cur_of (i := (107, 3, .invokevirtual 194, (171, 1715, 3), 0)) (by decide +kernel)) rfl rfl rfl rfl hm_z
  obtain ⟨r7215_z, h7216_z, q7217_z, hm_z⟩ := hm_z
  obtain ⟨rfl, yq7217_z⟩ := rp_sgN (fun q => absurd (Eq.trans (Eq.symm kd) q.2) (by decide)) q7217_z
  subst yq7217_z
  replace hm_z : rn _ _ _ _ [.int 0] _ _ _ := hm_z
  replace hm_z := rn_ifT (am_cur_of (i := (110, 3, .ifCond .eq 8, (59, 0, 0), 0)) (by decide +kernel)) (by decide) hm_z
  replace hm_z := rn_aload_n (am_cur_of (i := (118, 1, .aload_n 0, (0, 0, 0), 0)) (by decide +kernel)) g0m hm_z
  replace hm_z := rn_bipush (w := 42) (am_cur_of (i := (119, 2, .bipush 42, (0, 0, 0), 0)) (by decide +kernel)) (by decide) hm_z
  replace hm_z := rn_callV (M' := am_m171) (o := 164) (ar := [.int 42]) (rest := []) (L := lv_args 0 [.ref 164, .int 42]) (am_cur_of (i := (121, 3, .invokevirtual 194, (171, 1715, 3), 0)) (by decide +kernel)) rfl rfl rfl rfl hm_z
  obtain ⟨r7218_z, h7219_z, q7220_z, hm_z⟩ := hm_z
  obtain ⟨rfl, yq7220_z⟩ := rp_sgT kc kd q7220_z
  subst yq7220_z
  replace hm_z : rn _ _ _ _ [.int 1] _ _ _ := hm_z
  replace hm_z := rn_ifF (am_cur_of (i := (124, 3, .ifCond .eq 8, (65, 0, 0), 0)) (by decide +kernel)) (by decide) hm_z
  replace hm_z := rn_bipush (w := 13) (am_cur_of (i := (127, 2, .bipush 13, (0, 0, 0), 0)) (by decide +kernel)) (by decide) hm_z
  replace hm_z := rn_goto (am_cur_of (i := (129, 3, .goto 18, (72, 0, 0), 0)) (by decide +kernel)) hm_z
  replace hm_z := rn_istore_n (am_cur_of (i := (147, 1, .istore_n 1, (0, 0, 0), 0)) (by decide +kernel)) hm_z
  obtain ⟨_, s7221_z, s7222_z, g1m, hm_z⟩ := hm_z
  replace g0m := s7221_z 0 _ (by decide) rfl g0m
  clear s7221_z s7222_z
  replace hm_z := rn_iload_n (am_cur_of (i := (148, 1, .iload_n 1, (0, 0, 0), 0)) (by decide +kernel)) g1m hm_z
  replace hm_z := rn_ifT (am_cur_of (i := (149, 3, .ifCond .ne 9, (79, 0, 0), 0)) (by decide +kernel)) (by decide) hm_z
  replace hm_z := rn_aload_n (am_cur_of (i := (158, 1, .aload_n 0, (0, 0, 0), 0)) (by decide +kernel)) g0m hm_z
  replace hm_z := rn_iload_n (am_cur_of (i := (159, 1, .iload_n 1, (0, 0, 0), 0)) (by decide +kernel)) g1m hm_z
  replace hm_z := rn_callS (M' := am_m180) (ar := [.int 13]) (rest := [.ref 164]) (L := lv_args 0 [.int 13]) (am_cur_of (i := (160, 3, .invokestatic 283, (180, 1751, 3), 0)) (by decide +kernel)) rfl rfl rfl rfl hm_z
  obtain ⟨r7223_z, h7224_z, q7225_z, hm_z⟩ := hm_z
  obtain ⟨rfl, yq7225_z⟩ := rs_rankM q7225_z
  replace yq7225_z := yq7225_z.symm
  subst yq7225_z
  rw [show rk_M 13 = 6 by decide] at hm_z
  replace hm_z : rn _ _ _ _ [.int 6, .ref 164] _ _ _ := hm_z
  replace hm_z := rn_iconst (w := 4) (am_cur_of (i := (163, 1, .iconst 4, (0, 0, 0), 0)) (by decide +kernel)) (by decide) hm_z
  replace hm_z := rn_cmpT (am_cur_of (i := (164, 3, .if_icmp .ne 7, (86, 0, 0), 0)) (by decide +kernel)) (by decide) hm_z
  replace hm_z := rn_iload_n (am_cur_of (i := (171, 1, .iload_n 1, (0, 0, 0), 0)) (by decide +kernel)) g1m hm_z
  replace hm_z := rn_callS (M' := am_m180) (ar := [.int 13]) (rest := [.ref 164]) (L := lv_args 0 [.int 13]) (am_cur_of (i := (172, 3, .invokestatic 283, (180, 1751, 3), 0)) (by decide +kernel)) rfl rfl rfl rfl hm_z
  obtain ⟨r7226_z, h7227_z, q7228_z, hm_z⟩ := hm_z
  obtain ⟨rfl, yq7228_z⟩ := rs_rankM q7228_z
  replace yq7228_z := yq7228_z.symm
  subst yq7228_z
  rw [show rk_M 13 = 6 by decide] at hm_z
  replace hm_z : rn _ _ _ _ [.int 6, .ref 164] _ _ _ := hm_z
  replace hm_z := rn_callV (M' := am_m179) (o := 164) (ar := [.int 6]) (rest := []) (L := lv_args 0 [.ref 164, .int 6]) (am_cur_of (i := (175, 3, .invokevirtual 318, (179, 1747, 3), 0)) (by decide +kernel)) rfl rfl rfl rfl hm_z
  obtain ⟨r7229_z, h7230_z, q7231_z, hm_z⟩ := hm_z
  obtain ⟨rfl, rfl, FC, FM, R, A, B, Z, nq, e13_z, hst⟩ := rz_set23 (show rs_l 14 6 from by have q := rs_lo (c := 14) (k := 13) (by unfold rs_o; decide); rw [show rk_M 13 = 6 by decide] at q; exact q) (by decide) Rk A B Zk q7202_z q7231_z
  have Zq := Z
  obtain ⟨np, op, z1_z, z2_z, z3_z, z4_z, z5_z, z6_z, z7_z, z8_z, z9_z, z10_z⟩ := Zq
  obtain rfl : np = nq := z1_z.symm.trans e13_z
  replace hm_z : rn _ _ _ _ [] _ _ _ := hm_z
  replace hc_z : rn _ _ _ _ [] _ _ _ := hc_z
  have cn := rt_cl z3_z
  have zz1_z : (1 : Int32).toInt = 1 := by decide
  have n31_z := (ab_32 np).2
  have y1_z := ab_isub (x := np) (y := 1) (by omega) (by omega)
  replace hm_z := rn_iload_n (am_cur_of (i := (178, 1, .iload_n 1, (0, 0, 0), 0)) (by decide +kernel)) g1m hm_z
  replace hm_z := rn_callS (M' := am_m180) (ar := [.int 13]) (rest := []) (L := lv_args 0 [.int 13]) (am_cur_of (i := (179, 3, .invokestatic 283, (180, 1751, 3), 0)) (by decide +kernel)) rfl rfl rfl rfl hm_z
  obtain ⟨r7232_z, h7233_z, q7234_z, hm_z⟩ := hm_z
  obtain ⟨rfl, yq7234_z⟩ := rs_rankM q7234_z
  replace yq7234_z := yq7234_z.symm
  subst yq7234_z
  rw [show rk_M 13 = 6 by decide] at hm_z
  replace hm_z : rn _ _ _ _ [.int 6] _ _ _ := hm_z
  replace hm_z := rn_iconst (w := 4) (am_cur_of (i := (182, 1, .iconst 4, (0, 0, 0), 0)) (by decide +kernel)) (by decide) hm_z
  replace hm_z := rn_cmpT (am_cur_of (i := (183, 3, .if_icmp .ne 34, (110, 0, 0), 0)) (by decide +kernel)) (by decide) hm_z
  exact Or.inl (rj_t14_23 R A B Z g0_z g1_z g0m g1m hc_z hm_z)
theorem rj_c27_23 {T : Nat → Int32} {S x p : Int32} {n n' : Nat} {h h' g g' : am_H} {r r' : Option Value} (R : rq T S x p 23 h g) (A : rp 23 h g) (B : rp_t h g) (Z : rs 23 h g) (w0_z : rg_v g 164 45 = 0) (ka : (rg_v h 44 10) = 6) (kc : (rg_v g 164 8) = 4) (kb : (rg_v h 44 11) = 15) (kd : (rg_v g 164 9) = 47) (hc_z : rn n am_m44 0 (lv_args 0 [.ref 44]) [] h r h') (hm_z : rn n' am_m178 0 (lv_args 0 [.ref 164]) [] g r' g') : rj_Q T S x p 23 h g h' g' r r' := by
  have g0_z : am_get (lv_args 0 [.ref 44]) 0 = some (.ref 44) := rfl
  have g0m : am_get (lv_args 0 [.ref 164]) 0 = some (.ref 164) := rfl
  have Rk := R
  have Zk := Z
  obtain ⟨⟨c1_z, c2_z, c3_z, c4_z, c5_z, c6_z, c7_z, c8_z⟩, ⟨m2_z, m3_z, m4_z, m5_z, m6_z, m7_z, m8_z⟩, R3, R4, R5, R6, R7, R8, R9, R10⟩ := (R : rq T S x p 23 h g)
  obtain ⟨np, op, z1_z, z2_z, z3_z, z4_z, z5_z, z6_z, z7_z, z8_z, z9_z, z10_z⟩ := (Z : rs 23 h g)
  obtain ⟨nk1_z, nk2_z, nk3_z⟩ := A.2.2.2.2.2.1
  replace nk1_z : rg_v h 32 0 = rg_v g 164 44 := nk1_z
  replace nk2_z : 0 ≤ (rg_v h 32 0).toInt := nk2_z
  replace nk3_z : (rg_v h 32 0).toInt ≤ 64 := nk3_z
  replace z8_z : np.toInt ≤ (rg_v h 32 0).toInt + op.toInt := z8_z
  obtain ⟨kn, ekn⟩ : ∃ v, rg_v h 32 0 = v := ⟨_, rfl⟩
  rw [ekn] at nk1_z nk2_z nk3_z z8_z
  have e9_z := rt_c1 (x := kn) (by omega) (by omega)
  replace hc_z := rn_aload_n (am_cur_of (i := (0, 1, .aload_n 0, (0, 0, 0), 0)) (by decide +kernel)) g0_z hc_z
  replace hc_z := rn_bipush (w := 41) (am_cur_of (i := (1, 2, .bipush 41, (0, 0, 0), 0)) (by decide +kernel)) (by decide) hc_z
  replace hc_z := rn_callV (M' := am_m45) (o := 44) (ar := [.int 41]) (rest := []) (L := lv_args 0 [.ref 44, .int 41]) (am_cur_of (i := (3, 3, .invokevirtual 105, (45, 834, 3), 0)) (by decide +kernel)) rfl rfl rfl rfl hc_z
  obtain ⟨r7235_z, h7236_z, q7237_z, hc_z⟩ := hc_z
  obtain ⟨rfl, yq7237_z⟩ := rp_mkN (fun q => absurd (Eq.trans (Eq.symm ka) q.1) (by decide)) q7237_z
  subst yq7237_z
  replace hc_z : rn _ _ _ _ [.int 0] _ _ _ := hc_z
  replace hc_z := rn_ifT (am_cur_of (i := (6, 3, .ifCond .eq 45, (28, 0, 0), 0)) (by decide +kernel)) (by decide) hc_z
  replace hc_z := rn_aload_n (am_cur_of (i := (51, 1, .aload_n 0, (0, 0, 0), 0)) (by decide +kernel)) g0_z hc_z
  replace hc_z := rn_getI (v := 6) (am_cur_of (i := (52, 3, .getfield 60, (4, 10, 419), 0)) (by decide +kernel)) (by decide +kernel) ka hc_z
  replace hc_z := rn_bipush (w := 6) (am_cur_of (i := (55, 2, .bipush 6, (0, 0, 0), 0)) (by decide +kernel)) (by decide) hc_z
  replace hc_z := rn_cmpF (am_cur_of (i := (57, 3, .if_icmp .ne 11, (36, 0, 0), 0)) (by decide +kernel)) (by decide) hc_z
  replace hc_z := rn_aload_n (am_cur_of (i := (60, 1, .aload_n 0, (0, 0, 0), 0)) (by decide +kernel)) g0_z hc_z
  replace hc_z := rn_getI (v := 15) (am_cur_of (i := (61, 3, .getfield 91, (4, 11, 420), 0)) (by decide +kernel)) (by decide +kernel) kb hc_z
  replace hc_z := rn_iconst (w := 5) (am_cur_of (i := (64, 1, .iconst 5, (0, 0, 0), 0)) (by decide +kernel)) (by decide) hc_z
  replace hc_z := rn_cmpT (am_cur_of (i := (65, 3, .if_icmp .ne 17, (44, 0, 0), 0)) (by decide +kernel)) (by decide) hc_z
  replace hc_z := rn_aload_n (am_cur_of (i := (82, 1, .aload_n 0, (0, 0, 0), 0)) (by decide +kernel)) g0_z hc_z
  replace hc_z := rn_getI (v := 15) (am_cur_of (i := (83, 3, .getfield 91, (4, 11, 420), 0)) (by decide +kernel)) (by decide +kernel) kb hc_z
  replace hc_z := rn_istore_n (am_cur_of (i := (86, 1, .istore_n 1, (0, 0, 0), 0)) (by decide +kernel)) hc_z
  obtain ⟨_, s7238_z, s7239_z, g1_z, hc_z⟩ := hc_z
  replace g0_z := s7238_z 0 _ (by decide) rfl g0_z
  clear s7238_z s7239_z
  replace hc_z := rn_iload_n (am_cur_of (i := (87, 1, .iload_n 1, (0, 0, 0), 0)) (by decide +kernel)) g1_z hc_z
  replace hc_z := rn_callS (M' := am_m47) (ar := [.int 15]) (rest := []) (L := lv_args 0 [.int 15]) (am_cur_of (i := (88, 3, .invokestatic 283, (47, 842, 3), 0)) (by decide +kernel)) rfl rfl rfl rfl hc_z
  obtain ⟨r7240_z, h7241_z, q7242_z, hc_z⟩ := hc_z
  obtain ⟨rfl, yq7242_z⟩ := rs_rankC q7242_z
  replace yq7242_z := yq7242_z.symm
  subst yq7242_z
  rw [show rk_C 15 = 14 by decide] at hc_z
  replace hc_z : rn _ _ _ _ [.int 14] _ _ _ := hc_z
  replace hc_z := rn_bipush (w := 6) (am_cur_of (i := (91, 2, .bipush 6, (0, 0, 0), 0)) (by decide +kernel)) (by decide) hc_z
  replace hc_z := rn_callS (M' := am_m47) (ar := [.int 6]) (rest := [.int 14]) (L := lv_args 0 [.int 6]) (am_cur_of (i := (93, 3, .invokestatic 283, (47, 842, 3), 0)) (by decide +kernel)) rfl rfl rfl rfl hc_z
  obtain ⟨r7243_z, h7244_z, q7245_z, hc_z⟩ := hc_z
  obtain ⟨rfl, yq7245_z⟩ := rs_rankC q7245_z
  replace yq7245_z := yq7245_z.symm
  subst yq7245_z
  rw [show rk_C 6 = 6 by decide] at hc_z
  replace hc_z : rn _ _ _ _ [.int 6, .int 14] _ _ _ := hc_z
  replace hc_z := rn_cmpT (am_cur_of (i := (96, 3, .if_icmp .ne 46, (73, 0, 0), 0)) (by decide +kernel)) (by decide) hc_z
  replace hc_z := rn_aload_n (am_cur_of (i := (142, 1, .aload_n 0, (0, 0, 0), 0)) (by decide +kernel)) g0_z hc_z
  replace hc_z := rn_iload_n (am_cur_of (i := (143, 1, .iload_n 1, (0, 0, 0), 0)) (by decide +kernel)) g1_z hc_z
  replace hc_z := rn_callV (M' := am_m46) (o := 44) (ar := [.int 15]) (rest := []) (L := lv_args 0 [.ref 44, .int 15]) (am_cur_of (i := (144, 3, .invokevirtual 264, (46, 838, 3), 0)) (by decide +kernel)) rfl rfl rfl rfl hc_z
  obtain ⟨r7246_z, h7247_z, q7248_z, hc_z⟩ := hc_z
  replace hm_z := rn_aload_n (am_cur_of (i := (0, 1, .aload_n 0, (0, 0, 0), 0)) (by decide +kernel)) g0m hm_z
  replace hm_z := rn_bipush (w := 41) (am_cur_of (i := (1, 2, .bipush 41, (0, 0, 0), 0)) (by decide +kernel)) (by decide) hm_z
  replace hm_z := rn_callV (M' := am_m171) (o := 164) (ar := [.int 41]) (rest := []) (L := lv_args 0 [.ref 164, .int 41]) (am_cur_of (i := (3, 3, .invokevirtual 194, (171, 1715, 3), 0)) (by decide +kernel)) rfl rfl rfl rfl hm_z
  obtain ⟨r7249_z, h7250_z, q7251_z, hm_z⟩ := hm_z
  obtain ⟨rfl, yq7251_z⟩ := rp_sgN (fun q => absurd (Eq.trans (Eq.symm kd) q.2) (by decide)) q7251_z
  subst yq7251_z
  replace hm_z : rn _ _ _ _ [.int 0] _ _ _ := hm_z
  replace hm_z := rn_ifT (am_cur_of (i := (6, 3, .ifCond .eq 41, (26, 0, 0), 0)) (by decide +kernel)) (by decide) hm_z
  replace hm_z := rn_aload_n (am_cur_of (i := (47, 1, .aload_n 0, (0, 0, 0), 0)) (by decide +kernel)) g0m hm_z
  replace hm_z := rn_bipush (w := 12) (am_cur_of (i := (48, 2, .bipush 12, (0, 0, 0), 0)) (by decide +kernel)) (by decide) hm_z
  replace hm_z := rn_callV (M' := am_m174) (o := 164) (ar := [.int 12]) (rest := []) (L := lv_args 0 [.ref 164, .int 12]) (am_cur_of (i := (50, 3, .invokevirtual 306, (174, 1727, 3), 0)) (by decide +kernel)) rfl rfl rfl rfl hm_z
  obtain ⟨r7252_z, h7253_z, q7254_z, hm_z⟩ := hm_z
  obtain ⟨rfl, yq7254_z⟩ := rp_kyN (fun q => absurd (Eq.trans (Eq.symm kc) q.1) (by decide)) q7254_z
  subst yq7254_z
  replace hm_z : rn _ _ _ _ [.int 0] _ _ _ := hm_z
  replace hm_z := rn_ifT (am_cur_of (i := (53, 3, .ifCond .eq 7, (32, 0, 0), 0)) (by decide +kernel)) (by decide) hm_z
  replace hm_z := rn_aload_n (am_cur_of (i := (60, 1, .aload_n 0, (0, 0, 0), 0)) (by decide +kernel)) g0m hm_z
  replace hm_z := rn_bipush (w := 13) (am_cur_of (i := (61, 2, .bipush 13, (0, 0, 0), 0)) (by decide +kernel)) (by decide) hm_z
  replace hm_z := rn_callV (M' := am_m174) (o := 164) (ar := [.int 13]) (rest := []) (L := lv_args 0 [.ref 164, .int 13]) (am_cur_of (i := (63, 3, .invokevirtual 306, (174, 1727, 3), 0)) (by decide +kernel)) rfl rfl rfl rfl hm_z
  obtain ⟨r7255_z, h7256_z, q7257_z, hm_z⟩ := hm_z
  obtain ⟨rfl, yq7257_z⟩ := rp_kyN (fun q => absurd (Eq.trans (Eq.symm kc) q.1) (by decide)) q7257_z
  subst yq7257_z
  replace hm_z : rn _ _ _ _ [.int 0] _ _ _ := hm_z
  replace hm_z := rn_ifT (am_cur_of (i := (66, 3, .ifCond .eq 7, (38, 0, 0), 0)) (by decide +kernel)) (by decide) hm_z
  replace hm_z := rn_aload_n (am_cur_of (i := (73, 1, .aload_n 0, (0, 0, 0), 0)) (by decide +kernel)) g0m hm_z
  replace hm_z := rn_getI (v := 4) (am_cur_of (i := (74, 3, .getfield 157, (12, 8, 1392), 0)) (by decide +kernel)) (by decide +kernel) kc hm_z
  replace hm_z := rn_iconst (w := 5) (am_cur_of (i := (77, 1, .iconst 5, (0, 0, 0), 0)) (by decide +kernel)) (by decide) hm_z
  replace hm_z := rn_cmpT (am_cur_of (i := (78, 3, .if_icmp .ne 12, (47, 0, 0), 0)) (by decide +kernel)) (by decide) hm_z
  replace hm_z := rn_aload_n (am_cur_of (i := (90, 1, .aload_n 0, (0, 0, 0), 0)) (by decide +kernel)) g0m hm_z
  replace hm_z := rn_bipush (w := 43) (am_cur_of (i := (91, 2, .bipush 43, (0, 0, 0), 0)) (by decide +kernel)) (by decide) hm_z
  replace hm_z := rn_callV (M' := am_m171) (o := 164) (ar := [.int 43]) (rest := []) (L := lv_args 0 [.ref 164, .int 43]) (am_cur_of (i := (93, 3, .invokevirtual 194, (171, 1715, 3), 0)) (by decide +kernel)) rfl rfl rfl rfl hm_z
  obtain ⟨r7258_z, h7259_z, q7260_z, hm_z⟩ := hm_z
  obtain ⟨rfl, yq7260_z⟩ := rp_sgN (fun q => absurd (Eq.trans (Eq.symm kd) q.2) (by decide)) q7260_z
  subst yq7260_z
  replace hm_z : rn _ _ _ _ [.int 0] _ _ _ := hm_z
  replace hm_z := rn_ifT (am_cur_of (i := (96, 3, .ifCond .eq 8, (53, 0, 0), 0)) (by decide +kernel)) (by decide) hm_z
  replace hm_z := rn_aload_n (am_cur_of (i := (104, 1, .aload_n 0, (0, 0, 0), 0)) (by decide +kernel)) g0m hm_z
  replace hm_z := rn_bipush (w := 45) (am_cur_of (i := (105, 2, .bipush 45, (0, 0, 0), 0)) (by decide +kernel)) (by decide) hm_z
  replace hm_z := rn_callV (M' := am_m171) (o := 164) (ar := [.int 45]) (rest := []) (L := lv_args 0 [.ref 164, .int 45]) (am_cur_of (i := (107, 3, .invokevirtual 194, (171, 1715, 3), 0)) (by decide +kernel)) rfl rfl rfl rfl hm_z
  obtain ⟨r7261_z, h7262_z, q7263_z, hm_z⟩ := hm_z
  obtain ⟨rfl, yq7263_z⟩ := rp_sgN (fun q => absurd (Eq.trans (Eq.symm kd) q.2) (by decide)) q7263_z
  subst yq7263_z
  replace hm_z : rn _ _ _ _ [.int 0] _ _ _ := hm_z
  replace hm_z := rn_ifT (am_cur_of (i := (110, 3, .ifCond .eq 8, (59, 0, 0), 0)) (by decide +kernel)) (by decide) hm_z
  replace hm_z := rn_aload_n (am_cur_of (i := (118, 1, .aload_n 0, (0, 0, 0), 0)) (by decide +kernel)) g0m hm_z
  replace hm_z := rn_bipush (w := 42) (am_cur_of (i := (119, 2, .bipush 42, (0, 0, 0), 0)) (by decide +kernel)) (by decide) hm_z
  replace hm_z := rn_callV (M' := am_m171) (o := 164) (ar := [.int 42]) (rest := []) (L := lv_args 0 [.ref 164, .int 42]) (am_cur_of (i := (121, 3, .invokevirtual 194, (171, 1715, 3), 0)) (by decide +kernel)) rfl rfl rfl rfl hm_z
  obtain ⟨r7264_z, h7265_z, q7266_z, hm_z⟩ := hm_z
  obtain ⟨rfl, yq7266_z⟩ := rp_sgN (fun q => absurd (Eq.trans (Eq.symm kd) q.2) (by decide)) q7266_z
  subst yq7266_z
  replace hm_z : rn _ _ _ _ [.int 0] _ _ _ := hm_z
  replace hm_z := rn_ifT (am_cur_of (i := (124, 3, .ifCond .eq 8, (65, 0, 0), 0)) (by decide +kernel)) (by decide) hm_z
  replace hm_z := rn_aload_n (am_cur_of (i := (132, 1, .aload_n 0, (0, 0, 0), 0)) (by decide +kernel)) g0m hm_z
  replace hm_z := rn_bipush (w := 47) (am_cur_of (i := (133, 2, .bipush 47, (0, 0, 0), 0)) (by decide +kernel)) (by decide) hm_z
  replace hm_z := rn_callV (M' := am_m171) (o := 164) (ar := [.int 47]) (rest := []) (L := lv_args 0 [.ref 164, .int 47]) (am_cur_of (i := (135, 3, .invokevirtual 194, (171, 1715, 3), 0)) (by decide +kernel)) rfl rfl rfl rfl hm_z
  obtain ⟨r7267_z, h7268_z, q7269_z, hm_z⟩ := hm_z
  obtain ⟨rfl, yq7269_z⟩ := rp_sgT kc kd q7269_z
  subst yq7269_z
  replace hm_z : rn _ _ _ _ [.int 1] _ _ _ := hm_z
  replace hm_z := rn_ifF (am_cur_of (i := (138, 3, .ifCond .eq 8, (71, 0, 0), 0)) (by decide +kernel)) (by decide) hm_z
  replace hm_z := rn_bipush (w := 14) (am_cur_of (i := (141, 2, .bipush 14, (0, 0, 0), 0)) (by decide +kernel)) (by decide) hm_z
  replace hm_z := rn_goto (am_cur_of (i := (143, 3, .goto 4, (72, 0, 0), 0)) (by decide +kernel)) hm_z
  replace hm_z := rn_istore_n (am_cur_of (i := (147, 1, .istore_n 1, (0, 0, 0), 0)) (by decide +kernel)) hm_z
  obtain ⟨_, s7270_z, s7271_z, g1m, hm_z⟩ := hm_z
  replace g0m := s7270_z 0 _ (by decide) rfl g0m
  clear s7270_z s7271_z
  replace hm_z := rn_iload_n (am_cur_of (i := (148, 1, .iload_n 1, (0, 0, 0), 0)) (by decide +kernel)) g1m hm_z
  replace hm_z := rn_ifT (am_cur_of (i := (149, 3, .ifCond .ne 9, (79, 0, 0), 0)) (by decide +kernel)) (by decide) hm_z
  replace hm_z := rn_aload_n (am_cur_of (i := (158, 1, .aload_n 0, (0, 0, 0), 0)) (by decide +kernel)) g0m hm_z
  replace hm_z := rn_iload_n (am_cur_of (i := (159, 1, .iload_n 1, (0, 0, 0), 0)) (by decide +kernel)) g1m hm_z
  replace hm_z := rn_callS (M' := am_m180) (ar := [.int 14]) (rest := [.ref 164]) (L := lv_args 0 [.int 14]) (am_cur_of (i := (160, 3, .invokestatic 283, (180, 1751, 3), 0)) (by decide +kernel)) rfl rfl rfl rfl hm_z
  obtain ⟨r7272_z, h7273_z, q7274_z, hm_z⟩ := hm_z
  obtain ⟨rfl, yq7274_z⟩ := rs_rankM q7274_z
  replace yq7274_z := yq7274_z.symm
  subst yq7274_z
  rw [show rk_M 14 = 6 by decide] at hm_z
  replace hm_z : rn _ _ _ _ [.int 6, .ref 164] _ _ _ := hm_z
  replace hm_z := rn_iconst (w := 4) (am_cur_of (i := (163, 1, .iconst 4, (0, 0, 0), 0)) (by decide +kernel)) (by decide) hm_z
  replace hm_z := rn_cmpT (am_cur_of (i := (164, 3, .if_icmp .ne 7, (86, 0, 0), 0)) (by decide +kernel)) (by decide) hm_z
  replace hm_z := rn_iload_n (am_cur_of (i := (171, 1, .iload_n 1, (0, 0, 0), 0)) (by decide +kernel)) g1m hm_z
  replace hm_z := rn_callS (M' := am_m180) (ar := [.int 14]) (rest := [.ref 164]) (L := lv_args 0 [.int 14]) (am_cur_of (i := (172, 3, .invokestatic 283, (180, 1751, 3), 0)) (by decide +kernel)) rfl rfl rfl rfl hm_z
  obtain ⟨r7275_z, h7276_z, q7277_z, hm_z⟩ := hm_z
  obtain ⟨rfl, yq7277_z⟩ := rs_rankM q7277_z
  replace yq7277_z := yq7277_z.symm
  subst yq7277_z
  rw [show rk_M 14 = 6 by decide] at hm_z
  replace hm_z : rn _ _ _ _ [.int 6, .ref 164] _ _ _ := hm_z
  replace hm_z := rn_callV (M' := am_m179) (o := 164) (ar := [.int 6]) (rest := []) (L := lv_args 0 [.ref 164, .int 6]) (am_cur_of (i := (175, 3, .invokevirtual 318, (179, 1747, 3), 0)) (by decide +kernel)) rfl rfl rfl rfl hm_z
  obtain ⟨r7278_z, h7279_z, q7280_z, hm_z⟩ := hm_z
  obtain ⟨rfl, rfl, FC, FM, R, A, B, Z, nq, e13_z, hst⟩ := rz_set23 (show rs_l 15 6 from by have q := rs_lo (c := 15) (k := 14) (by unfold rs_o; decide); rw [show rk_M 14 = 6 by decide] at q; exact q) (by decide) Rk A B Zk q7248_z q7280_z
  have Zq := Z
  obtain ⟨np, op, z1_z, z2_z, z3_z, z4_z, z5_z, z6_z, z7_z, z8_z, z9_z, z10_z⟩ := Zq
  obtain rfl : np = nq := z1_z.symm.trans e13_z
  replace hm_z : rn _ _ _ _ [] _ _ _ := hm_z
  replace hc_z : rn _ _ _ _ [] _ _ _ := hc_z
  have cn := rt_cl z3_z
  have zz1_z : (1 : Int32).toInt = 1 := by decide
  have n31_z := (ab_32 np).2
  have y1_z := ab_isub (x := np) (y := 1) (by omega) (by omega)
  replace hm_z := rn_iload_n (am_cur_of (i := (178, 1, .iload_n 1, (0, 0, 0), 0)) (by decide +kernel)) g1m hm_z
  replace hm_z := rn_callS (M' := am_m180) (ar := [.int 14]) (rest := []) (L := lv_args 0 [.int 14]) (am_cur_of (i := (179, 3, .invokestatic 283, (180, 1751, 3), 0)) (by decide +kernel)) rfl rfl rfl rfl hm_z
  obtain ⟨r7281_z, h7282_z, q7283_z, hm_z⟩ := hm_z
  obtain ⟨rfl, yq7283_z⟩ := rs_rankM q7283_z
  replace yq7283_z := yq7283_z.symm
  subst yq7283_z
  rw [show rk_M 14 = 6 by decide] at hm_z
  replace hm_z : rn _ _ _ _ [.int 6] _ _ _ := hm_z
  replace hm_z := rn_iconst (w := 4) (am_cur_of (i := (182, 1, .iconst 4, (0, 0, 0), 0)) (by decide +kernel)) (by decide) hm_z
  replace hm_z := rn_cmpT (am_cur_of (i := (183, 3, .if_icmp .ne 34, (110, 0, 0), 0)) (by decide +kernel)) (by decide) hm_z
  exact Or.inl (rj_t15_23 R A B Z g0_z g1_z g0m g1m hc_z hm_z)
theorem rj_all23 {T : Nat → Int32} {S x p : Int32} {n n' : Nat} {h h' g g' : am_H} {r r' : Option Value} (R : rq T S x p 23 h g) (A : rp 23 h g) (B : rp_t h g) (Z : rs 23 h g) (w0_z : rg_v g 164 45 = 0) (hc_z : rn n am_m44 0 (lv_args 0 [.ref 44]) [] h r h') (hm_z : rn n' am_m178 0 (lv_args 0 [.ref 164]) [] g r' g') : rj_Q T S x p 23 h g h' g' r r' := by
  rcases tk_cases R.2.2.2.2.2.2.2.2.2 with ⟨ka, kc⟩ | ⟨ka, kc⟩ | ⟨ka, kc, kd⟩ | ⟨ka, kc, kb0_z, kb9_z, kd⟩ | ⟨ka, kc, kb, kd⟩ | ⟨ka, kc, kb, kd⟩ | ⟨ka, kc, kb, kd⟩ | ⟨ka, kc, kb, kd⟩ | ⟨ka, kc, kb, kd⟩ | ⟨ka, kc, kb, kd⟩ | ⟨ka, kc, kd⟩ | ⟨ka, kc, kb0_z, kd0_z, kbd⟩ | ⟨ka, kc, kb, kd⟩ | ⟨ka, kc, kb, kd⟩ | ⟨ka, kc, kb, kd⟩ | ⟨ka, kc, kb, kd⟩ | ⟨ka, kc, kb, kd⟩ | ⟨ka, kc, kb, kd⟩ | ⟨ka, kc, kb, kd⟩ | ⟨ka, kc, kb, kd⟩ | ⟨ka, kc, kb, kd⟩ | ⟨ka, kc, kb, kd⟩ | ⟨ka, kc, kb, kd⟩ | ⟨ka, kc, kb, kd⟩ | ⟨ka, kc, kb, kd⟩ | ⟨ka, kc, kb, kd⟩ | ⟨ka, kc, kb, kd⟩ | ⟨ka, kc, kb, kd⟩
  · exact rj_c0_23 R A B Z w0_z ka kc hc_z hm_z
  · exact rj_c1_23 R A B Z w0_z ka kc hc_z hm_z
  · exact rj_c2_23 R A B Z w0_z ka kc kd hc_z hm_z
  · exact rj_c3_23 R A B Z w0_z ka kc kb0_z kb9_z kd hc_z hm_z
  · exact rj_c4_23 R A B Z w0_z ka kc kb kd hc_z hm_z
  · exact rj_c5_23 R A B Z w0_z ka kc kb kd hc_z hm_z
  · exact rj_c6_23 R A B Z w0_z ka kc kb kd hc_z hm_z
  · exact rj_c7_23 R A B Z w0_z ka kc kb kd hc_z hm_z
  · exact rj_c8_23 R A B Z w0_z ka kc kb kd hc_z hm_z
  · exact rj_c9_23 R A B Z w0_z ka kc kb kd hc_z hm_z
  · exact rj_c10_23 R A B Z w0_z ka kc kd hc_z hm_z
  · exact rj_c11_23 R A B Z w0_z ka kc kb0_z kd0_z kbd hc_z hm_z
  · exact rj_c12_23 R A B Z w0_z ka kc kb kd hc_z hm_z
  · exact rj_c13_23 R A B Z w0_z ka kc kb kd hc_z hm_z
  · exact rj_c14_23 R A B Z w0_z ka kc kb kd hc_z hm_z
  · exact rj_c15_23 R A B Z w0_z ka kc kb kd hc_z hm_z
  · exact rj_c16_23 R A B Z w0_z ka kc kb kd hc_z hm_z
  · exact rj_c17_23 R A B Z w0_z ka kc kb kd hc_z hm_z
  · exact rj_c18_23 R A B Z w0_z ka kc kb kd hc_z hm_z
  · exact rj_c19_23 R A B Z w0_z ka kc kb kd hc_z hm_z
  · exact rj_c20_23 R A B Z w0_z ka kc kb kd hc_z hm_z
  · exact rj_c21_23 R A B Z w0_z ka kc kb kd hc_z hm_z
  · exact rj_c22_23 R A B Z w0_z ka kc kb kd hc_z hm_z
  · exact rj_c23_23 R A B Z w0_z ka kc kb kd hc_z hm_z
  · exact rj_c24_23 R A B Z w0_z ka kc kb kd hc_z hm_z
  · exact rj_c25_23 R A B Z w0_z ka kc kb kd hc_z hm_z
  · exact rj_c26_23 R A B Z w0_z ka kc kb kd hc_z hm_z
  · exact rj_c27_23 R A B Z w0_z ka kc kb kd hc_z hm_z
