/-! ===== readValue against leafRead, 2, 1 (wip/r/gen99qr.py) ===== -/
theorem rv_val21 {T : Nat → Int32} {S x p : Int32} {n n' : Nat} {h h' g g' : am_H} {r r' : Option Value} (R : rq T S x p 2 h g) (A : rp 2 h g) (B : rp_t h g) (Z : rs 2 h g) (w1_z : rg_v g 164 45 = 1) (w2_z : rg_v g 164 46 = 0) (hc_z : rn n am_m51 0 (lv_args 0 [.ref 44, .int 1]) [] h r h') (hm_z : rn n' am_m172 0 (lv_args 0 [.ref 164]) [] g r' g') : rv_Q T S x p 2 h' g' r r' := by
  have z8_z : (8 : Int32).toInt = 8 := by decide
  have z11_z : (11 : Int32).toInt = 11 := by decide
  have z9999_z : (9999 : Int32).toInt = 9999 := by decide
  rcases tk_cases R.2.2.2.2.2.2.2.2.2 with ⟨ka, kc⟩ | ⟨ka, kc⟩ | ⟨ka, kc, kd⟩ | ⟨ka, kc, kb0_z, kb9_z, kd⟩ | ⟨ka, kc, kb, kd⟩ | ⟨ka, kc, kb, kd⟩ | ⟨ka, kc, kb, kd⟩ | ⟨ka, kc, kb, kd⟩ | ⟨ka, kc, kb, kd⟩ | ⟨ka, kc, kb, kd⟩ | ⟨ka, kc, kd⟩ | ⟨ka, kc, kb0_z, kd0_z, kbd⟩ | ⟨ka, kc, kb, kd⟩ | ⟨ka, kc, kb, kd⟩ | ⟨ka, kc, kb, kd⟩ | ⟨ka, kc, kb, kd⟩ | ⟨ka, kc, kb, kd⟩ | ⟨ka, kc, kb, kd⟩ | ⟨ka, kc, kb, kd⟩ | ⟨ka, kc, kb, kd⟩ | ⟨ka, kc, kb, kd⟩ | ⟨ka, kc, kb, kd⟩ | ⟨ka, kc, kb, kd⟩ | ⟨ka, kc, kb, kd⟩ | ⟨ka, kc, kb, kd⟩ | ⟨ka, kc, kb, kd⟩ | ⟨ka, kc, kb, kd⟩ | ⟨ka, kc, kb, kd⟩
  · have g0_z : am_get (lv_args 0 [.ref 44, .int 1]) 0 = some (.ref 44) := rfl
    have g1_z : am_get (lv_args 0 [.ref 44, .int 1]) 1 = some (.int 1) := rfl
    have g0m : am_get (lv_args 0 [.ref 164]) 0 = some (.ref 164) := rfl
    have Rk := R
    have Zk := Z
    obtain ⟨⟨c1_z, c2_z, c3_z, c4_z, c5_z, c6_z, c7_z, c8_z⟩, ⟨m2_z, m3_z, m4_z, m5_z, m6_z, m7_z, m8_z⟩, R3, R4, R5, R6, R7, R8, R9, R10⟩ := (R : rq T S x p 2 h g)
    obtain ⟨np, op, z1_z, z2_z, z3_z, z4_z, z5_z, z6_z, z7_z, z8_z, z9_z, z10_z⟩ := (Z : rs 2 h g)
    obtain ⟨nk1_z, nk2_z, nk3_z⟩ := A.2.2.2.2.2.1
    replace nk1_z : rg_v h 11 0 = rg_v g 164 44 := nk1_z
    replace nk2_z : 0 ≤ (rg_v h 11 0).toInt := nk2_z
    replace nk3_z : (rg_v h 11 0).toInt ≤ 64 := nk3_z
    replace z8_z : np.toInt ≤ (rg_v h 11 0).toInt + op.toInt := z8_z
    obtain ⟨kn, ekn⟩ : ∃ v, rg_v h 11 0 = v := ⟨_, rfl⟩
    rw [ekn] at nk1_z nk2_z nk3_z z8_z
    have e9_z := rt_c1 (x := kn) (by omega) (by omega)
    replace hc_z := rn_aload_n (am_cur_of (i := (0, 1, .aload_n 0, (0, 0, 0), 0)) (by decide +kernel)) g0_z hc_z
    replace hc_z := rn_getI (v := 0) (am_cur_of (i := (1, 3, .getfield 60, (4, 10, 419), 0)) (by decide +kernel)) (by decide +kernel) ka hc_z
    replace hc_z := rn_bipush (w := 6) (am_cur_of (i := (4, 2, .bipush 6, (0, 0, 0), 0)) (by decide +kernel)) (by decide) hc_z
    replace hc_z := rn_cmpT (am_cur_of (i := (6, 3, .if_icmp .ne 30, (19, 0, 0), 0)) (by decide +kernel)) (by decide) hc_z
    replace hc_z := rn_aload_n (am_cur_of (i := (36, 1, .aload_n 0, (0, 0, 0), 0)) (by decide +kernel)) g0_z hc_z
    replace hc_z := rn_bipush (w := 40) (am_cur_of (i := (37, 2, .bipush 40, (0, 0, 0), 0)) (by decide +kernel)) (by decide) hc_z
    replace hc_z := rn_callV (M' := am_m45) (o := 44) (ar := [.int 40]) (rest := []) (L := lv_args 0 [.ref 44, .int 40]) (am_cur_of (i := (39, 3, .invokevirtual 105, (45, 834, 3), 0)) (by decide +kernel)) rfl rfl rfl rfl hc_z
    obtain ⟨r1295_z, h1296_z, q1297_z, hc_z⟩ := hc_z
    obtain ⟨rfl, yq1297_z⟩ := rp_mkN (fun q => absurd (Eq.trans (Eq.symm ka) q.1) (by decide)) q1297_z
    subst yq1297_z
    replace hc_z : rn _ _ _ _ [.int 0] _ _ _ := hc_z
    replace hc_z := rn_ifT (am_cur_of (i := (42, 3, .ifCond .eq 38, (43, 0, 0), 0)) (by decide +kernel)) (by decide) hc_z
    replace hc_z := rn_aload_n (am_cur_of (i := (80, 1, .aload_n 0, (0, 0, 0), 0)) (by decide +kernel)) g0_z hc_z
    replace hc_z := rn_getI (v := 0) (am_cur_of (i := (81, 3, .getfield 60, (4, 10, 419), 0)) (by decide +kernel)) (by decide +kernel) ka hc_z
    replace hc_z := rn_iconst (w := 4) (am_cur_of (i := (84, 1, .iconst 4, (0, 0, 0), 0)) (by decide +kernel)) (by decide) hc_z
    replace hc_z := rn_cmpT (am_cur_of (i := (85, 3, .if_icmp .ne 40, (64, 0, 0), 0)) (by decide +kernel)) (by decide) hc_z
    replace hc_z := rn_aload_n (am_cur_of (i := (125, 1, .aload_n 0, (0, 0, 0), 0)) (by decide +kernel)) g0_z hc_z
    replace hc_z := rn_getI (v := 0) (am_cur_of (i := (126, 3, .getfield 60, (4, 10, 419), 0)) (by decide +kernel)) (by decide +kernel) ka hc_z
    replace hc_z := rn_iconst (w := 2) (am_cur_of (i := (129, 1, .iconst 2, (0, 0, 0), 0)) (by decide +kernel)) (by decide) hc_z
    replace hc_z := rn_cmpT (am_cur_of (i := (130, 3, .if_icmp .ne 37, (84, 0, 0), 0)) (by decide +kernel)) (by decide) hc_z
    replace hc_z := rn_aload_n (am_cur_of (i := (167, 1, .aload_n 0, (0, 0, 0), 0)) (by decide +kernel)) g0_z hc_z
    replace hc_z := rn_iconst (w := 1) (am_cur_of (i := (168, 1, .iconst 1, (0, 0, 0), 0)) (by decide +kernel)) (by decide) hc_z
    replace hc_z := rn_callV (M' := am_m29) (o := 44) (ar := [.int 1]) (rest := []) (L := lv_args 0 [.ref 44, .int 1]) (am_cur_of (i := (169, 3, .invokevirtual 108, (29, 769, 3), 0)) (by decide +kernel)) rfl rfl rfl rfl hc_z
    obtain ⟨r1298_z, h1299_z, q1300_z, hc_z⟩ := hc_z
    obtain ⟨rfl, yq1300_z⟩ := rp_fail R4 q1300_z
    subst yq1300_z
    replace hc_z : rn _ _ _ _ [] _ _ _ := hc_z
    have K := rs_stick (w := 1) (q := p) (a := 51) (by decide) (by decide) rfl (by decide) rfl (show rg_v (am_up (am_up h 44 1 (.int 1)) 44 2 (.int (rg_v h 44 9))) 44 2 = p from R5) hc_z
    replace hm_z := rn_aload_n (am_cur_of (i := (0, 1, .aload_n 0, (0, 0, 0), 0)) (by decide +kernel)) g0m hm_z
    replace hm_z := rn_bipush (w := 40) (am_cur_of (i := (1, 2, .bipush 40, (0, 0, 0), 0)) (by decide +kernel)) (by decide) hm_z
    replace hm_z := rn_callV (M' := am_m171) (o := 164) (ar := [.int 40]) (rest := []) (L := lv_args 0 [.ref 164, .int 40]) (am_cur_of (i := (3, 3, .invokevirtual 194, (171, 1715, 3), 0)) (by decide +kernel)) rfl rfl rfl rfl hm_z
    obtain ⟨r1301_z, h1302_z, q1303_z, hm_z⟩ := hm_z
    obtain ⟨rfl, yq1303_z⟩ := rp_sgN (fun q => absurd (Eq.trans (Eq.symm kc) q.1) (by decide)) q1303_z
    subst yq1303_z
    replace hm_z : rn _ _ _ _ [.int 0] _ _ _ := hm_z
    replace hm_z := rn_ifT (am_cur_of (i := (6, 3, .ifCond .eq 44, (28, 0, 0), 0)) (by decide +kernel)) (by decide) hm_z
    replace hm_z := rn_aload_n (am_cur_of (i := (50, 1, .aload_n 0, (0, 0, 0), 0)) (by decide +kernel)) g0m hm_z
    replace hm_z := rn_bipush (w := 14) (am_cur_of (i := (51, 2, .bipush 14, (0, 0, 0), 0)) (by decide +kernel)) (by decide) hm_z
    replace hm_z := rn_callV (M' := am_m174) (o := 164) (ar := [.int 14]) (rest := []) (L := lv_args 0 [.ref 164, .int 14]) (am_cur_of (i := (53, 3, .invokevirtual 306, (174, 1727, 3), 0)) (by decide +kernel)) rfl rfl rfl rfl hm_z
    obtain ⟨r1304_z, h1305_z, q1306_z, hm_z⟩ := hm_z
    obtain ⟨rfl, yq1306_z⟩ := rp_kyN (fun q => absurd (Eq.trans (Eq.symm kc) q.1) (by decide)) q1306_z
    subst yq1306_z
    replace hm_z : rn _ _ _ _ [.int 0] _ _ _ := hm_z
    replace hm_z := rn_ifT (am_cur_of (i := (56, 3, .ifCond .eq 30, (47, 0, 0), 0)) (by decide +kernel)) (by decide) hm_z
    replace hm_z := rn_aload_n (am_cur_of (i := (86, 1, .aload_n 0, (0, 0, 0), 0)) (by decide +kernel)) g0m hm_z
    replace hm_z := rn_callV (M' := am_m176) (o := 164) (ar := []) (rest := []) (L := lv_args 0 [.ref 164]) (am_cur_of (i := (87, 3, .invokevirtual 312, (176, 1735, 3), 0)) (by decide +kernel)) rfl rfl rfl rfl hm_z
    obtain ⟨r1307_z, h1308_z, q1309_z, hm_z⟩ := hm_z
    obtain ⟨rfl, yq1309_z⟩ := rp_nm (c := 0) (d := rg_v g 164 9) kc rfl q1309_z
    replace yq1309_z := yq1309_z.symm
    subst yq1309_z
    rw [show rp_nmf 0 (rg_v g 164 9) = (-1) from by unfold rp_nmf; rw [if_neg (by decide)]] at hm_z
    replace hm_z : rn _ _ _ _ [.int (-1)] _ _ _ := hm_z
    replace hm_z := rn_istore_n (am_cur_of (i := (90, 1, .istore_n 1, (0, 0, 0), 0)) (by decide +kernel)) hm_z
    obtain ⟨_, s1310_z, s1311_z, g1m, hm_z⟩ := hm_z
    replace g0m := s1310_z 0 _ (by decide) rfl g0m
    clear s1310_z s1311_z
    replace hm_z := rn_iload_n (am_cur_of (i := (91, 1, .iload_n 1, (0, 0, 0), 0)) (by decide +kernel)) g1m hm_z
    replace hm_z := rn_ifF (am_cur_of (i := (92, 3, .ifCond .ge 17, (60, 0, 0), 0)) (by decide +kernel)) (by decide) hm_z
    replace hm_z := rn_aload_n (am_cur_of (i := (95, 1, .aload_n 0, (0, 0, 0), 0)) (by decide +kernel)) g0m hm_z
    replace hm_z := rn_getI (v := 0) (am_cur_of (i := (96, 3, .getfield 157, (12, 8, 1392), 0)) (by decide +kernel)) (by decide +kernel) kc hm_z
    replace hm_z := rn_iconst (w := 3) (am_cur_of (i := (99, 1, .iconst 3, (0, 0, 0), 0)) (by decide +kernel)) (by decide) hm_z
    replace hm_z := rn_cmpF (am_cur_of (i := (100, 3, .if_icmp .eq 9, (60, 0, 0), 0)) (by decide +kernel)) (by decide) hm_z
    replace hm_z := rn_aload_n (am_cur_of (i := (103, 1, .aload_n 0, (0, 0, 0), 0)) (by decide +kernel)) g0m hm_z
    replace hm_z := rn_iconst (w := 1) (am_cur_of (i := (104, 1, .iconst 1, (0, 0, 0), 0)) (by decide +kernel)) (by decide) hm_z
    replace hm_z := rn_callV (M' := am_m158) (o := 164) (ar := [.int 1]) (rest := []) (L := lv_args 0 [.ref 164, .int 1]) (am_cur_of (i := (105, 3, .invokevirtual 181, (158, 1665, 3), 0)) (by decide +kernel)) rfl rfl rfl rfl hm_z
    obtain ⟨r1312_z, h1313_z, q1314_z, hm_z⟩ := hm_z
    obtain ⟨rfl, yq1314_z⟩ := rp_wrong q1314_z
    subst yq1314_z
    replace hm_z : rn _ _ _ _ [.int 0] _ _ _ := hm_z
    replace hm_z := rn_iret (am_cur_of (i := (108, 1, .ireturn, (0, 0, 0), 0)) (by decide +kernel)) hm_z
    obtain ⟨e1315_z, e1316_z⟩ := hm_z
    subst e1315_z e1316_z
    exact (Or.inr ⟨rfl, 1, by decide, K.1, K.2, rfl, R6⟩)
  · have g0_z : am_get (lv_args 0 [.ref 44, .int 1]) 0 = some (.ref 44) := rfl
    have g1_z : am_get (lv_args 0 [.ref 44, .int 1]) 1 = some (.int 1) := rfl
    have g0m : am_get (lv_args 0 [.ref 164]) 0 = some (.ref 164) := rfl
    have Rk := R
    have Zk := Z
    obtain ⟨⟨c1_z, c2_z, c3_z, c4_z, c5_z, c6_z, c7_z, c8_z⟩, ⟨m2_z, m3_z, m4_z, m5_z, m6_z, m7_z, m8_z⟩, R3, R4, R5, R6, R7, R8, R9, R10⟩ := (R : rq T S x p 2 h g)
    obtain ⟨np, op, z1_z, z2_z, z3_z, z4_z, z5_z, z6_z, z7_z, z8_z, z9_z, z10_z⟩ := (Z : rs 2 h g)
    obtain ⟨nk1_z, nk2_z, nk3_z⟩ := A.2.2.2.2.2.1
    replace nk1_z : rg_v h 11 0 = rg_v g 164 44 := nk1_z
    replace nk2_z : 0 ≤ (rg_v h 11 0).toInt := nk2_z
    replace nk3_z : (rg_v h 11 0).toInt ≤ 64 := nk3_z
    replace z8_z : np.toInt ≤ (rg_v h 11 0).toInt + op.toInt := z8_z
    obtain ⟨kn, ekn⟩ : ∃ v, rg_v h 11 0 = v := ⟨_, rfl⟩
    rw [ekn] at nk1_z nk2_z nk3_z z8_z
    have e9_z := rt_c1 (x := kn) (by omega) (by omega)
    replace hc_z := rn_aload_n (am_cur_of (i := (0, 1, .aload_n 0, (0, 0, 0), 0)) (by decide +kernel)) g0_z hc_z
    replace hc_z := rn_getI (v := 1) (am_cur_of (i := (1, 3, .getfield 60, (4, 10, 419), 0)) (by decide +kernel)) (by decide +kernel) ka hc_z
    replace hc_z := rn_bipush (w := 6) (am_cur_of (i := (4, 2, .bipush 6, (0, 0, 0), 0)) (by decide +kernel)) (by decide) hc_z
    replace hc_z := rn_cmpT (am_cur_of (i := (6, 3, .if_icmp .ne 30, (19, 0, 0), 0)) (by decide +kernel)) (by decide) hc_z
    replace hc_z := rn_aload_n (am_cur_of (i := (36, 1, .aload_n 0, (0, 0, 0), 0)) (by decide +kernel)) g0_z hc_z
    replace hc_z := rn_bipush (w := 40) (am_cur_of (i := (37, 2, .bipush 40, (0, 0, 0), 0)) (by decide +kernel)) (by decide) hc_z
    replace hc_z := rn_callV (M' := am_m45) (o := 44) (ar := [.int 40]) (rest := []) (L := lv_args 0 [.ref 44, .int 40]) (am_cur_of (i := (39, 3, .invokevirtual 105, (45, 834, 3), 0)) (by decide +kernel)) rfl rfl rfl rfl hc_z
    obtain ⟨r1317_z, h1318_z, q1319_z, hc_z⟩ := hc_z
    obtain ⟨rfl, yq1319_z⟩ := rp_mkN (fun q => absurd (Eq.trans (Eq.symm ka) q.1) (by decide)) q1319_z
    subst yq1319_z
    replace hc_z : rn _ _ _ _ [.int 0] _ _ _ := hc_z
    replace hc_z := rn_ifT (am_cur_of (i := (42, 3, .ifCond .eq 38, (43, 0, 0), 0)) (by decide +kernel)) (by decide) hc_z
    replace hc_z := rn_aload_n (am_cur_of (i := (80, 1, .aload_n 0, (0, 0, 0), 0)) (by decide +kernel)) g0_z hc_z
    replace hc_z := rn_getI (v := 1) (am_cur_of (i := (81, 3, .getfield 60, (4, 10, 419), 0)) (by decide +kernel)) (by decide +kernel) ka hc_z
    replace hc_z := rn_iconst (w := 4) (am_cur_of (i := (84, 1, .iconst 4, (0, 0, 0), 0)) (by decide +kernel)) (by decide) hc_z
    replace hc_z := rn_cmpT (am_cur_of (i := (85, 3, .if_icmp .ne 40, (64, 0, 0), 0)) (by decide +kernel)) (by decide) hc_z
    replace hc_z := rn_aload_n (am_cur_of (i := (125, 1, .aload_n 0, (0, 0, 0), 0)) (by decide +kernel)) g0_z hc_z
    replace hc_z := rn_getI (v := 1) (am_cur_of (i := (126, 3, .getfield 60, (4, 10, 419), 0)) (by decide +kernel)) (by decide +kernel) ka hc_z
    replace hc_z := rn_iconst (w := 2) (am_cur_of (i := (129, 1, .iconst 2, (0, 0, 0), 0)) (by decide +kernel)) (by decide) hc_z
    replace hc_z := rn_cmpT (am_cur_of (i := (130, 3, .if_icmp .ne 37, (84, 0, 0), 0)) (by decide +kernel)) (by decide) hc_z
    replace hc_z := rn_aload_n (am_cur_of (i := (167, 1, .aload_n 0, (0, 0, 0), 0)) (by decide +kernel)) g0_z hc_z
    replace hc_z := rn_iconst (w := 1) (am_cur_of (i := (168, 1, .iconst 1, (0, 0, 0), 0)) (by decide +kernel)) (by decide) hc_z
    replace hc_z := rn_callV (M' := am_m29) (o := 44) (ar := [.int 1]) (rest := []) (L := lv_args 0 [.ref 44, .int 1]) (am_cur_of (i := (169, 3, .invokevirtual 108, (29, 769, 3), 0)) (by decide +kernel)) rfl rfl rfl rfl hc_z
    obtain ⟨r1320_z, h1321_z, q1322_z, hc_z⟩ := hc_z
    obtain ⟨rfl, yq1322_z⟩ := rp_fail R4 q1322_z
    subst yq1322_z
    replace hc_z : rn _ _ _ _ [] _ _ _ := hc_z
    have K := rs_stick (w := 1) (q := p) (a := 51) (by decide) (by decide) rfl (by decide) rfl (show rg_v (am_up (am_up h 44 1 (.int 1)) 44 2 (.int (rg_v h 44 9))) 44 2 = p from R5) hc_z
    replace hm_z := rn_aload_n (am_cur_of (i := (0, 1, .aload_n 0, (0, 0, 0), 0)) (by decide +kernel)) g0m hm_z
    replace hm_z := rn_bipush (w := 40) (am_cur_of (i := (1, 2, .bipush 40, (0, 0, 0), 0)) (by decide +kernel)) (by decide) hm_z
    replace hm_z := rn_callV (M' := am_m171) (o := 164) (ar := [.int 40]) (rest := []) (L := lv_args 0 [.ref 164, .int 40]) (am_cur_of (i := (3, 3, .invokevirtual 194, (171, 1715, 3), 0)) (by decide +kernel)) rfl rfl rfl rfl hm_z
    obtain ⟨r1323_z, h1324_z, q1325_z, hm_z⟩ := hm_z
    obtain ⟨rfl, yq1325_z⟩ := rp_sgN (fun q => absurd (Eq.trans (Eq.symm kc) q.1) (by decide)) q1325_z
    subst yq1325_z
    replace hm_z : rn _ _ _ _ [.int 0] _ _ _ := hm_z
    replace hm_z := rn_ifT (am_cur_of (i := (6, 3, .ifCond .eq 44, (28, 0, 0), 0)) (by decide +kernel)) (by decide) hm_z
    replace hm_z := rn_aload_n (am_cur_of (i := (50, 1, .aload_n 0, (0, 0, 0), 0)) (by decide +kernel)) g0m hm_z
    replace hm_z := rn_bipush (w := 14) (am_cur_of (i := (51, 2, .bipush 14, (0, 0, 0), 0)) (by decide +kernel)) (by decide) hm_z
    replace hm_z := rn_callV (M' := am_m174) (o := 164) (ar := [.int 14]) (rest := []) (L := lv_args 0 [.ref 164, .int 14]) (am_cur_of (i := (53, 3, .invokevirtual 306, (174, 1727, 3), 0)) (by decide +kernel)) rfl rfl rfl rfl hm_z
    obtain ⟨r1326_z, h1327_z, q1328_z, hm_z⟩ := hm_z
    obtain ⟨rfl, yq1328_z⟩ := rp_kyN (fun q => absurd (Eq.trans (Eq.symm kc) q.1) (by decide)) q1328_z
    subst yq1328_z
    replace hm_z : rn _ _ _ _ [.int 0] _ _ _ := hm_z
    replace hm_z := rn_ifT (am_cur_of (i := (56, 3, .ifCond .eq 30, (47, 0, 0), 0)) (by decide +kernel)) (by decide) hm_z
    replace hm_z := rn_aload_n (am_cur_of (i := (86, 1, .aload_n 0, (0, 0, 0), 0)) (by decide +kernel)) g0m hm_z
    replace hm_z := rn_callV (M' := am_m176) (o := 164) (ar := []) (rest := []) (L := lv_args 0 [.ref 164]) (am_cur_of (i := (87, 3, .invokevirtual 312, (176, 1735, 3), 0)) (by decide +kernel)) rfl rfl rfl rfl hm_z
    obtain ⟨r1329_z, h1330_z, q1331_z, hm_z⟩ := hm_z
    obtain ⟨rfl, yq1331_z⟩ := rp_nm (c := 6) (d := rg_v g 164 9) kc rfl q1331_z
    replace yq1331_z := yq1331_z.symm
    subst yq1331_z
    rw [show rp_nmf 6 (rg_v g 164 9) = (-1) from by unfold rp_nmf; rw [if_neg (by decide)]] at hm_z
    replace hm_z : rn _ _ _ _ [.int (-1)] _ _ _ := hm_z
    replace hm_z := rn_istore_n (am_cur_of (i := (90, 1, .istore_n 1, (0, 0, 0), 0)) (by decide +kernel)) hm_z
    obtain ⟨_, s1332_z, s1333_z, g1m, hm_z⟩ := hm_z
    replace g0m := s1332_z 0 _ (by decide) rfl g0m
    clear s1332_z s1333_z
    replace hm_z := rn_iload_n (am_cur_of (i := (91, 1, .iload_n 1, (0, 0, 0), 0)) (by decide +kernel)) g1m hm_z
    replace hm_z := rn_ifF (am_cur_of (i := (92, 3, .ifCond .ge 17, (60, 0, 0), 0)) (by decide +kernel)) (by decide) hm_z
    replace hm_z := rn_aload_n (am_cur_of (i := (95, 1, .aload_n 0, (0, 0, 0), 0)) (by decide +kernel)) g0m hm_z
    replace hm_z := rn_getI (v := 6) (am_cur_of (i := (96, 3, .getfield 157, (12, 8, 1392), 0)) (by decide +kernel)) (by decide +kernel) kc hm_z
    replace hm_z := rn_iconst (w := 3) (am_cur_of (i := (99, 1, .iconst 3, (0, 0, 0), 0)) (by decide +kernel)) (by decide) hm_z
    replace hm_z := rn_cmpF (am_cur_of (i := (100, 3, .if_icmp .eq 9, (60, 0, 0), 0)) (by decide +kernel)) (by decide) hm_z
    replace hm_z := rn_aload_n (am_cur_of (i := (103, 1, .aload_n 0, (0, 0, 0), 0)) (by decide +kernel)) g0m hm_z
    replace hm_z := rn_iconst (w := 1) (am_cur_of (i := (104, 1, .iconst 1, (0, 0, 0), 0)) (by decide +kernel)) (by decide) hm_z
    replace hm_z := rn_callV (M' := am_m158) (o := 164) (ar := [.int 1]) (rest := []) (L := lv_args 0 [.ref 164, .int 1]) (am_cur_of (i := (105, 3, .invokevirtual 181, (158, 1665, 3), 0)) (by decide +kernel)) rfl rfl rfl rfl hm_z
    obtain ⟨r1334_z, h1335_z, q1336_z, hm_z⟩ := hm_z
    obtain ⟨rfl, yq1336_z⟩ := rp_wrong q1336_z
    subst yq1336_z
    replace hm_z : rn _ _ _ _ [.int 0] _ _ _ := hm_z
    replace hm_z := rn_iret (am_cur_of (i := (108, 1, .ireturn, (0, 0, 0), 0)) (by decide +kernel)) hm_z
    obtain ⟨e1337_z, e1338_z⟩ := hm_z
    subst e1337_z e1338_z
    exact (Or.inr ⟨rfl, 1, by decide, K.1, K.2, rfl, R6⟩)
  · have g0_z : am_get (lv_args 0 [.ref 44, .int 1]) 0 = some (.ref 44) := rfl
    have g1_z : am_get (lv_args 0 [.ref 44, .int 1]) 1 = some (.int 1) := rfl
    have g0m : am_get (lv_args 0 [.ref 164]) 0 = some (.ref 164) := rfl
    have Rk := R
    have Zk := Z
    obtain ⟨⟨c1_z, c2_z, c3_z, c4_z, c5_z, c6_z, c7_z, c8_z⟩, ⟨m2_z, m3_z, m4_z, m5_z, m6_z, m7_z, m8_z⟩, R3, R4, R5, R6, R7, R8, R9, R10⟩ := (R : rq T S x p 2 h g)
    obtain ⟨np, op, z1_z, z2_z, z3_z, z4_z, z5_z, z6_z, z7_z, z8_z, z9_z, z10_z⟩ := (Z : rs 2 h g)
    obtain ⟨nk1_z, nk2_z, nk3_z⟩ := A.2.2.2.2.2.1
    replace nk1_z : rg_v h 11 0 = rg_v g 164 44 := nk1_z
    replace nk2_z : 0 ≤ (rg_v h 11 0).toInt := nk2_z
    replace nk3_z : (rg_v h 11 0).toInt ≤ 64 := nk3_z
    replace z8_z : np.toInt ≤ (rg_v h 11 0).toInt + op.toInt := z8_z
    obtain ⟨kn, ekn⟩ : ∃ v, rg_v h 11 0 = v := ⟨_, rfl⟩
    rw [ekn] at nk1_z nk2_z nk3_z z8_z
    have e9_z := rt_c1 (x := kn) (by omega) (by omega)
    replace hc_z := rn_aload_n (am_cur_of (i := (0, 1, .aload_n 0, (0, 0, 0), 0)) (by decide +kernel)) g0_z hc_z
    replace hc_z := rn_getI (v := 1) (am_cur_of (i := (1, 3, .getfield 60, (4, 10, 419), 0)) (by decide +kernel)) (by decide +kernel) ka hc_z
    replace hc_z := rn_bipush (w := 6) (am_cur_of (i := (4, 2, .bipush 6, (0, 0, 0), 0)) (by decide +kernel)) (by decide) hc_z
    replace hc_z := rn_cmpT (am_cur_of (i := (6, 3, .if_icmp .ne 30, (19, 0, 0), 0)) (by decide +kernel)) (by decide) hc_z
    replace hc_z := rn_aload_n (am_cur_of (i := (36, 1, .aload_n 0, (0, 0, 0), 0)) (by decide +kernel)) g0_z hc_z
    replace hc_z := rn_bipush (w := 40) (am_cur_of (i := (37, 2, .bipush 40, (0, 0, 0), 0)) (by decide +kernel)) (by decide) hc_z
    replace hc_z := rn_callV (M' := am_m45) (o := 44) (ar := [.int 40]) (rest := []) (L := lv_args 0 [.ref 44, .int 40]) (am_cur_of (i := (39, 3, .invokevirtual 105, (45, 834, 3), 0)) (by decide +kernel)) rfl rfl rfl rfl hc_z
    obtain ⟨r1339_z, h1340_z, q1341_z, hc_z⟩ := hc_z
    obtain ⟨rfl, yq1341_z⟩ := rp_mkN (fun q => absurd (Eq.trans (Eq.symm ka) q.1) (by decide)) q1341_z
    subst yq1341_z
    replace hc_z : rn _ _ _ _ [.int 0] _ _ _ := hc_z
    replace hc_z := rn_ifT (am_cur_of (i := (42, 3, .ifCond .eq 38, (43, 0, 0), 0)) (by decide +kernel)) (by decide) hc_z
    replace hc_z := rn_aload_n (am_cur_of (i := (80, 1, .aload_n 0, (0, 0, 0), 0)) (by decide +kernel)) g0_z hc_z
    replace hc_z := rn_getI (v := 1) (am_cur_of (i := (81, 3, .getfield 60, (4, 10, 419), 0)) (by decide +kernel)) (by decide +kernel) ka hc_z
    replace hc_z := rn_iconst (w := 4) (am_cur_of (i := (84, 1, .iconst 4, (0, 0, 0), 0)) (by decide +kernel)) (by decide) hc_z
    replace hc_z := rn_cmpT (am_cur_of (i := (85, 3, .if_icmp .ne 40, (64, 0, 0), 0)) (by decide +kernel)) (by decide) hc_z
    replace hc_z := rn_aload_n (am_cur_of (i := (125, 1, .aload_n 0, (0, 0, 0), 0)) (by decide +kernel)) g0_z hc_z
    replace hc_z := rn_getI (v := 1) (am_cur_of (i := (126, 3, .getfield 60, (4, 10, 419), 0)) (by decide +kernel)) (by decide +kernel) ka hc_z
    replace hc_z := rn_iconst (w := 2) (am_cur_of (i := (129, 1, .iconst 2, (0, 0, 0), 0)) (by decide +kernel)) (by decide) hc_z
    replace hc_z := rn_cmpT (am_cur_of (i := (130, 3, .if_icmp .ne 37, (84, 0, 0), 0)) (by decide +kernel)) (by decide) hc_z
    replace hc_z := rn_aload_n (am_cur_of (i := (167, 1, .aload_n 0, (0, 0, 0), 0)) (by decide +kernel)) g0_z hc_z
    replace hc_z := rn_iconst (w := 1) (am_cur_of (i := (168, 1, .iconst 1, (0, 0, 0), 0)) (by decide +kernel)) (by decide) hc_z
    replace hc_z := rn_callV (M' := am_m29) (o := 44) (ar := [.int 1]) (rest := []) (L := lv_args 0 [.ref 44, .int 1]) (am_cur_of (i := (169, 3, .invokevirtual 108, (29, 769, 3), 0)) (by decide +kernel)) rfl rfl rfl rfl hc_z
    obtain ⟨r1342_z, h1343_z, q1344_z, hc_z⟩ := hc_z
    obtain ⟨rfl, yq1344_z⟩ := rp_fail R4 q1344_z
    subst yq1344_z
    replace hc_z : rn _ _ _ _ [] _ _ _ := hc_z
    have K := rs_stick (w := 1) (q := p) (a := 51) (by decide) (by decide) rfl (by decide) rfl (show rg_v (am_up (am_up h 44 1 (.int 1)) 44 2 (.int (rg_v h 44 9))) 44 2 = p from R5) hc_z
    replace hm_z := rn_aload_n (am_cur_of (i := (0, 1, .aload_n 0, (0, 0, 0), 0)) (by decide +kernel)) g0m hm_z
    replace hm_z := rn_bipush (w := 40) (am_cur_of (i := (1, 2, .bipush 40, (0, 0, 0), 0)) (by decide +kernel)) (by decide) hm_z
    replace hm_z := rn_callV (M' := am_m171) (o := 164) (ar := [.int 40]) (rest := []) (L := lv_args 0 [.ref 164, .int 40]) (am_cur_of (i := (3, 3, .invokevirtual 194, (171, 1715, 3), 0)) (by decide +kernel)) rfl rfl rfl rfl hm_z
    obtain ⟨r1345_z, h1346_z, q1347_z, hm_z⟩ := hm_z
    obtain ⟨rfl, yq1347_z⟩ := rp_sgN (fun q => absurd (Eq.trans (Eq.symm kd) q.2) (by decide)) q1347_z
    subst yq1347_z
    replace hm_z : rn _ _ _ _ [.int 0] _ _ _ := hm_z
    replace hm_z := rn_ifT (am_cur_of (i := (6, 3, .ifCond .eq 44, (28, 0, 0), 0)) (by decide +kernel)) (by decide) hm_z
    replace hm_z := rn_aload_n (am_cur_of (i := (50, 1, .aload_n 0, (0, 0, 0), 0)) (by decide +kernel)) g0m hm_z
    replace hm_z := rn_bipush (w := 14) (am_cur_of (i := (51, 2, .bipush 14, (0, 0, 0), 0)) (by decide +kernel)) (by decide) hm_z
    replace hm_z := rn_callV (M' := am_m174) (o := 164) (ar := [.int 14]) (rest := []) (L := lv_args 0 [.ref 164, .int 14]) (am_cur_of (i := (53, 3, .invokevirtual 306, (174, 1727, 3), 0)) (by decide +kernel)) rfl rfl rfl rfl hm_z
    obtain ⟨r1348_z, h1349_z, q1350_z, hm_z⟩ := hm_z
    obtain ⟨rfl, yq1350_z⟩ := rp_kyN (fun q => absurd (Eq.trans (Eq.symm kc) q.1) (by decide)) q1350_z
    subst yq1350_z
    replace hm_z : rn _ _ _ _ [.int 0] _ _ _ := hm_z
    replace hm_z := rn_ifT (am_cur_of (i := (56, 3, .ifCond .eq 30, (47, 0, 0), 0)) (by decide +kernel)) (by decide) hm_z
    replace hm_z := rn_aload_n (am_cur_of (i := (86, 1, .aload_n 0, (0, 0, 0), 0)) (by decide +kernel)) g0m hm_z
    replace hm_z := rn_callV (M' := am_m176) (o := 164) (ar := []) (rest := []) (L := lv_args 0 [.ref 164]) (am_cur_of (i := (87, 3, .invokevirtual 312, (176, 1735, 3), 0)) (by decide +kernel)) rfl rfl rfl rfl hm_z
    obtain ⟨r1351_z, h1352_z, q1353_z, hm_z⟩ := hm_z
    obtain ⟨rfl, yq1353_z⟩ := rp_nm (c := 4) (d := 37) kc kd q1353_z
    replace yq1353_z := yq1353_z.symm
    subst yq1353_z
    rw [show rp_nmf 4 37 = (-1) from by unfold rp_nmf; rw [if_neg (by decide)]] at hm_z
    replace hm_z : rn _ _ _ _ [.int (-1)] _ _ _ := hm_z
    replace hm_z := rn_istore_n (am_cur_of (i := (90, 1, .istore_n 1, (0, 0, 0), 0)) (by decide +kernel)) hm_z
    obtain ⟨_, s1354_z, s1355_z, g1m, hm_z⟩ := hm_z
    replace g0m := s1354_z 0 _ (by decide) rfl g0m
    clear s1354_z s1355_z
    replace hm_z := rn_iload_n (am_cur_of (i := (91, 1, .iload_n 1, (0, 0, 0), 0)) (by decide +kernel)) g1m hm_z
    replace hm_z := rn_ifF (am_cur_of (i := (92, 3, .ifCond .ge 17, (60, 0, 0), 0)) (by decide +kernel)) (by decide) hm_z
    replace hm_z := rn_aload_n (am_cur_of (i := (95, 1, .aload_n 0, (0, 0, 0), 0)) (by decide +kernel)) g0m hm_z
    replace hm_z := rn_getI (v := 4) (am_cur_of (i := (96, 3, .getfield 157, (12, 8, 1392), 0)) (by decide +kernel)) (by decide +kernel) kc hm_z
    replace hm_z := rn_iconst (w := 3) (am_cur_of (i := (99, 1, .iconst 3, (0, 0, 0), 0)) (by decide +kernel)) (by decide) hm_z
    replace hm_z := rn_cmpF (am_cur_of (i := (100, 3, .if_icmp .eq 9, (60, 0, 0), 0)) (by decide +kernel)) (by decide) hm_z
    replace hm_z := rn_aload_n (am_cur_of (i := (103, 1, .aload_n 0, (0, 0, 0), 0)) (by decide +kernel)) g0m hm_z
    replace hm_z := rn_iconst (w := 1) (am_cur_of (i := (104, 1, .iconst 1, (0, 0, 0), 0)) (by decide +kernel)) (by decide) hm_z
    replace hm_z := rn_callV (M' := am_m158) (o := 164) (ar := [.int 1]) (rest := []) (L := lv_args 0 [.ref 164, .int 1]) (am_cur_of (i := (105, 3, .invokevirtual 181, (158, 1665, 3), 0)) (by decide +kernel)) rfl rfl rfl rfl hm_z
    obtain ⟨r1356_z, h1357_z, q1358_z, hm_z⟩ := hm_z
    obtain ⟨rfl, yq1358_z⟩ := rp_wrong q1358_z
    subst yq1358_z
    replace hm_z : rn _ _ _ _ [.int 0] _ _ _ := hm_z
    replace hm_z := rn_iret (am_cur_of (i := (108, 1, .ireturn, (0, 0, 0), 0)) (by decide +kernel)) hm_z
    obtain ⟨e1359_z, e1360_z⟩ := hm_z
    subst e1359_z e1360_z
    exact (Or.inr ⟨rfl, 1, by decide, K.1, K.2, rfl, R6⟩)
  · have g0_z : am_get (lv_args 0 [.ref 44, .int 1]) 0 = some (.ref 44) := rfl
    have g1_z : am_get (lv_args 0 [.ref 44, .int 1]) 1 = some (.int 1) := rfl
    have g0m : am_get (lv_args 0 [.ref 164]) 0 = some (.ref 164) := rfl
    have Rk := R
    have Zk := Z
    obtain ⟨⟨c1_z, c2_z, c3_z, c4_z, c5_z, c6_z, c7_z, c8_z⟩, ⟨m2_z, m3_z, m4_z, m5_z, m6_z, m7_z, m8_z⟩, R3, R4, R5, R6, R7, R8, R9, R10⟩ := (R : rq T S x p 2 h g)
    obtain ⟨np, op, z1_z, z2_z, z3_z, z4_z, z5_z, z6_z, z7_z, z8_z, z9_z, z10_z⟩ := (Z : rs 2 h g)
    obtain ⟨nk1_z, nk2_z, nk3_z⟩ := A.2.2.2.2.2.1
    replace nk1_z : rg_v h 11 0 = rg_v g 164 44 := nk1_z
    replace nk2_z : 0 ≤ (rg_v h 11 0).toInt := nk2_z
    replace nk3_z : (rg_v h 11 0).toInt ≤ 64 := nk3_z
    replace z8_z : np.toInt ≤ (rg_v h 11 0).toInt + op.toInt := z8_z
    obtain ⟨kn, ekn⟩ : ∃ v, rg_v h 11 0 = v := ⟨_, rfl⟩
    rw [ekn] at nk1_z nk2_z nk3_z z8_z
    have e9_z := rt_c1 (x := kn) (by omega) (by omega)
    replace hc_z := rn_aload_n (am_cur_of (i := (0, 1, .aload_n 0, (0, 0, 0), 0)) (by decide +kernel)) g0_z hc_z
    replace hc_z := rn_getI (v := 2) (am_cur_of (i := (1, 3, .getfield 60, (4, 10, 419), 0)) (by decide +kernel)) (by decide +kernel) ka hc_z
    replace hc_z := rn_bipush (w := 6) (am_cur_of (i := (4, 2, .bipush 6, (0, 0, 0), 0)) (by decide +kernel)) (by decide) hc_z
    replace hc_z := rn_cmpT (am_cur_of (i := (6, 3, .if_icmp .ne 30, (19, 0, 0), 0)) (by decide +kernel)) (by decide) hc_z
    replace hc_z := rn_aload_n (am_cur_of (i := (36, 1, .aload_n 0, (0, 0, 0), 0)) (by decide +kernel)) g0_z hc_z
    replace hc_z := rn_bipush (w := 40) (am_cur_of (i := (37, 2, .bipush 40, (0, 0, 0), 0)) (by decide +kernel)) (by decide) hc_z
    replace hc_z := rn_callV (M' := am_m45) (o := 44) (ar := [.int 40]) (rest := []) (L := lv_args 0 [.ref 44, .int 40]) (am_cur_of (i := (39, 3, .invokevirtual 105, (45, 834, 3), 0)) (by decide +kernel)) rfl rfl rfl rfl hc_z
    obtain ⟨r1361_z, h1362_z, q1363_z, hc_z⟩ := hc_z
    obtain ⟨rfl, yq1363_z⟩ := rp_mkN (fun q => absurd (Eq.trans (Eq.symm ka) q.1) (by decide)) q1363_z
    subst yq1363_z
    replace hc_z : rn _ _ _ _ [.int 0] _ _ _ := hc_z
    replace hc_z := rn_ifT (am_cur_of (i := (42, 3, .ifCond .eq 38, (43, 0, 0), 0)) (by decide +kernel)) (by decide) hc_z
    replace hc_z := rn_aload_n (am_cur_of (i := (80, 1, .aload_n 0, (0, 0, 0), 0)) (by decide +kernel)) g0_z hc_z
    replace hc_z := rn_getI (v := 2) (am_cur_of (i := (81, 3, .getfield 60, (4, 10, 419), 0)) (by decide +kernel)) (by decide +kernel) ka hc_z
    replace hc_z := rn_iconst (w := 4) (am_cur_of (i := (84, 1, .iconst 4, (0, 0, 0), 0)) (by decide +kernel)) (by decide) hc_z
    replace hc_z := rn_cmpT (am_cur_of (i := (85, 3, .if_icmp .ne 40, (64, 0, 0), 0)) (by decide +kernel)) (by decide) hc_z
    replace hc_z := rn_aload_n (am_cur_of (i := (125, 1, .aload_n 0, (0, 0, 0), 0)) (by decide +kernel)) g0_z hc_z
    replace hc_z := rn_getI (v := 2) (am_cur_of (i := (126, 3, .getfield 60, (4, 10, 419), 0)) (by decide +kernel)) (by decide +kernel) ka hc_z
    replace hc_z := rn_iconst (w := 2) (am_cur_of (i := (129, 1, .iconst 2, (0, 0, 0), 0)) (by decide +kernel)) (by decide) hc_z
    replace hc_z := rn_cmpF (am_cur_of (i := (130, 3, .if_icmp .ne 37, (84, 0, 0), 0)) (by decide +kernel)) (by decide) hc_z
    replace hc_z := rn_aload_n (am_cur_of (i := (133, 1, .aload_n 0, (0, 0, 0), 0)) (by decide +kernel)) g0_z hc_z
    replace hc_z := rn_getI (v := rg_v h 44 11) (am_cur_of (i := (134, 3, .getfield 91, (4, 11, 420), 0)) (by decide +kernel)) (by decide +kernel) rfl hc_z
    replace hc_z := rn_bipush (w := 11) (am_cur_of (i := (137, 2, .bipush 11, (0, 0, 0), 0)) (by decide +kernel)) (by decide) hc_z
    replace hc_z := rn_cmp (am_cur_of (i := (139, 3, .if_icmp .lt 28, (84, 0, 0), 0)) (by decide +kernel)) hc_z
    rcases hc_z with ⟨b1364_z, hc_z⟩ | ⟨b1364_z, hc_z⟩
    · replace b1364_z : (rg_v h 44 11).toInt < (11 : Int32).toInt := b1364_z
      replace hc_z := rn_aload_n (am_cur_of (i := (167, 1, .aload_n 0, (0, 0, 0), 0)) (by decide +kernel)) g0_z hc_z
      replace hc_z := rn_iconst (w := 1) (am_cur_of (i := (168, 1, .iconst 1, (0, 0, 0), 0)) (by decide +kernel)) (by decide) hc_z
      replace hc_z := rn_callV (M' := am_m29) (o := 44) (ar := [.int 1]) (rest := []) (L := lv_args 0 [.ref 44, .int 1]) (am_cur_of (i := (169, 3, .invokevirtual 108, (29, 769, 3), 0)) (by decide +kernel)) rfl rfl rfl rfl hc_z
      obtain ⟨r1365_z, h1366_z, q1367_z, hc_z⟩ := hc_z
      obtain ⟨rfl, yq1367_z⟩ := rp_fail R4 q1367_z
      subst yq1367_z
      replace hc_z : rn _ _ _ _ [] _ _ _ := hc_z
      have K := rs_stick (w := 1) (q := p) (a := 51) (by decide) (by decide) rfl (by decide) rfl (show rg_v (am_up (am_up h 44 1 (.int 1)) 44 2 (.int (rg_v h 44 9))) 44 2 = p from R5) hc_z
      replace hm_z := rn_aload_n (am_cur_of (i := (0, 1, .aload_n 0, (0, 0, 0), 0)) (by decide +kernel)) g0m hm_z
      replace hm_z := rn_bipush (w := 40) (am_cur_of (i := (1, 2, .bipush 40, (0, 0, 0), 0)) (by decide +kernel)) (by decide) hm_z
      replace hm_z := rn_callV (M' := am_m171) (o := 164) (ar := [.int 40]) (rest := []) (L := lv_args 0 [.ref 164, .int 40]) (am_cur_of (i := (3, 3, .invokevirtual 194, (171, 1715, 3), 0)) (by decide +kernel)) rfl rfl rfl rfl hm_z
      obtain ⟨r1368_z, h1369_z, q1370_z, hm_z⟩ := hm_z
      obtain ⟨rfl, yq1370_z⟩ := rp_sgN (fun q => absurd (Eq.trans (Eq.symm kc) q.1) (by decide)) q1370_z
      subst yq1370_z
      replace hm_z : rn _ _ _ _ [.int 0] _ _ _ := hm_z
      replace hm_z := rn_ifT (am_cur_of (i := (6, 3, .ifCond .eq 44, (28, 0, 0), 0)) (by decide +kernel)) (by decide) hm_z
      replace hm_z := rn_aload_n (am_cur_of (i := (50, 1, .aload_n 0, (0, 0, 0), 0)) (by decide +kernel)) g0m hm_z
      replace hm_z := rn_bipush (w := 14) (am_cur_of (i := (51, 2, .bipush 14, (0, 0, 0), 0)) (by decide +kernel)) (by decide) hm_z
      replace hm_z := rn_callV (M' := am_m174) (o := 164) (ar := [.int 14]) (rest := []) (L := lv_args 0 [.ref 164, .int 14]) (am_cur_of (i := (53, 3, .invokevirtual 306, (174, 1727, 3), 0)) (by decide +kernel)) rfl rfl rfl rfl hm_z
      obtain ⟨r1371_z, h1372_z, q1373_z, hm_z⟩ := hm_z
      obtain ⟨rfl, yq1373_z⟩ := rp_kyN (fun q => by have zz := congrArg Int32.toInt q.2; have zy := congrArg Int32.toInt kd; have zx : (14 : Int32).toInt = 14 := (by decide); omega) q1373_z
      subst yq1373_z
      replace hm_z : rn _ _ _ _ [.int 0] _ _ _ := hm_z
      replace hm_z := rn_ifT (am_cur_of (i := (56, 3, .ifCond .eq 30, (47, 0, 0), 0)) (by decide +kernel)) (by decide) hm_z
      replace hm_z := rn_aload_n (am_cur_of (i := (86, 1, .aload_n 0, (0, 0, 0), 0)) (by decide +kernel)) g0m hm_z
      replace hm_z := rn_callV (M' := am_m176) (o := 164) (ar := []) (rest := []) (L := lv_args 0 [.ref 164]) (am_cur_of (i := (87, 3, .invokevirtual 312, (176, 1735, 3), 0)) (by decide +kernel)) rfl rfl rfl rfl hm_z
      obtain ⟨r1374_z, h1375_z, q1376_z, hm_z⟩ := hm_z
      obtain ⟨rfl, yq1376_z⟩ := rp_nm (c := 1) (d := rg_v g 164 9) kc rfl q1376_z
      replace yq1376_z := yq1376_z.symm
      subst yq1376_z
      rw [show rp_nmf 1 (rg_v g 164 9) = (-1) from by have zy := congrArg Int32.toInt kd; unfold rp_nmf; rw [if_pos rfl, if_neg (fun q => by have zz := congrArg Int32.toInt q; have zx : (11 : Int32).toInt = 11 := (by decide); omega), if_neg (by omega), if_neg (by omega)]] at hm_z
      replace hm_z : rn _ _ _ _ [.int (-1)] _ _ _ := hm_z
      replace hm_z := rn_istore_n (am_cur_of (i := (90, 1, .istore_n 1, (0, 0, 0), 0)) (by decide +kernel)) hm_z
      obtain ⟨_, s1377_z, s1378_z, g1m, hm_z⟩ := hm_z
      replace g0m := s1377_z 0 _ (by decide) rfl g0m
      clear s1377_z s1378_z
      replace hm_z := rn_iload_n (am_cur_of (i := (91, 1, .iload_n 1, (0, 0, 0), 0)) (by decide +kernel)) g1m hm_z
      replace hm_z := rn_ifF (am_cur_of (i := (92, 3, .ifCond .ge 17, (60, 0, 0), 0)) (by decide +kernel)) (by decide) hm_z
      replace hm_z := rn_aload_n (am_cur_of (i := (95, 1, .aload_n 0, (0, 0, 0), 0)) (by decide +kernel)) g0m hm_z
      replace hm_z := rn_getI (v := 1) (am_cur_of (i := (96, 3, .getfield 157, (12, 8, 1392), 0)) (by decide +kernel)) (by decide +kernel) kc hm_z
      replace hm_z := rn_iconst (w := 3) (am_cur_of (i := (99, 1, .iconst 3, (0, 0, 0), 0)) (by decide +kernel)) (by decide) hm_z
      replace hm_z := rn_cmpF (am_cur_of (i := (100, 3, .if_icmp .eq 9, (60, 0, 0), 0)) (by decide +kernel)) (by decide) hm_z
      replace hm_z := rn_aload_n (am_cur_of (i := (103, 1, .aload_n 0, (0, 0, 0), 0)) (by decide +kernel)) g0m hm_z
      replace hm_z := rn_iconst (w := 1) (am_cur_of (i := (104, 1, .iconst 1, (0, 0, 0), 0)) (by decide +kernel)) (by decide) hm_z
      replace hm_z := rn_callV (M' := am_m158) (o := 164) (ar := [.int 1]) (rest := []) (L := lv_args 0 [.ref 164, .int 1]) (am_cur_of (i := (105, 3, .invokevirtual 181, (158, 1665, 3), 0)) (by decide +kernel)) rfl rfl rfl rfl hm_z
      obtain ⟨r1379_z, h1380_z, q1381_z, hm_z⟩ := hm_z
      obtain ⟨rfl, yq1381_z⟩ := rp_wrong q1381_z
      subst yq1381_z
      replace hm_z : rn _ _ _ _ [.int 0] _ _ _ := hm_z
      replace hm_z := rn_iret (am_cur_of (i := (108, 1, .ireturn, (0, 0, 0), 0)) (by decide +kernel)) hm_z
      obtain ⟨e1382_z, e1383_z⟩ := hm_z
      subst e1382_z e1383_z
      exact (Or.inr ⟨rfl, 1, by decide, K.1, K.2, rfl, R6⟩)
    · replace b1364_z : (11 : Int32).toInt ≤ (rg_v h 44 11).toInt := b1364_z
      omega
  · have g0_z : am_get (lv_args 0 [.ref 44, .int 1]) 0 = some (.ref 44) := rfl
    have g1_z : am_get (lv_args 0 [.ref 44, .int 1]) 1 = some (.int 1) := rfl
    have g0m : am_get (lv_args 0 [.ref 164]) 0 = some (.ref 164) := rfl
    have Rk := R
    have Zk := Z
    obtain ⟨⟨c1_z, c2_z, c3_z, c4_z, c5_z, c6_z, c7_z, c8_z⟩, ⟨m2_z, m3_z, m4_z, m5_z, m6_z, m7_z, m8_z⟩, R3, R4, R5, R6, R7, R8, R9, R10⟩ := (R : rq T S x p 2 h g)
    obtain ⟨np, op, z1_z, z2_z, z3_z, z4_z, z5_z, z6_z, z7_z, z8_z, z9_z, z10_z⟩ := (Z : rs 2 h g)
    obtain ⟨nk1_z, nk2_z, nk3_z⟩ := A.2.2.2.2.2.1
    replace nk1_z : rg_v h 11 0 = rg_v g 164 44 := nk1_z
    replace nk2_z : 0 ≤ (rg_v h 11 0).toInt := nk2_z
    replace nk3_z : (rg_v h 11 0).toInt ≤ 64 := nk3_z
    replace z8_z : np.toInt ≤ (rg_v h 11 0).toInt + op.toInt := z8_z
    obtain ⟨kn, ekn⟩ : ∃ v, rg_v h 11 0 = v := ⟨_, rfl⟩
    rw [ekn] at nk1_z nk2_z nk3_z z8_z
    have e9_z := rt_c1 (x := kn) (by omega) (by omega)
    replace hc_z := rn_aload_n (am_cur_of (i := (0, 1, .aload_n 0, (0, 0, 0), 0)) (by decide +kernel)) g0_z hc_z
    replace hc_z := rn_getI (v := 2) (am_cur_of (i := (1, 3, .getfield 60, (4, 10, 419), 0)) (by decide +kernel)) (by decide +kernel) ka hc_z
    replace hc_z := rn_bipush (w := 6) (am_cur_of (i := (4, 2, .bipush 6, (0, 0, 0), 0)) (by decide +kernel)) (by decide) hc_z
    replace hc_z := rn_cmpT (am_cur_of (i := (6, 3, .if_icmp .ne 30, (19, 0, 0), 0)) (by decide +kernel)) (by decide) hc_z
    replace hc_z := rn_aload_n (am_cur_of (i := (36, 1, .aload_n 0, (0, 0, 0), 0)) (by decide +kernel)) g0_z hc_z
    replace hc_z := rn_bipush (w := 40) (am_cur_of (i := (37, 2, .bipush 40, (0, 0, 0), 0)) (by decide +kernel)) (by decide) hc_z
    replace hc_z := rn_callV (M' := am_m45) (o := 44) (ar := [.int 40]) (rest := []) (L := lv_args 0 [.ref 44, .int 40]) (am_cur_of (i := (39, 3, .invokevirtual 105, (45, 834, 3), 0)) (by decide +kernel)) rfl rfl rfl rfl hc_z
    obtain ⟨r1384_z, h1385_z, q1386_z, hc_z⟩ := hc_z
    obtain ⟨rfl, yq1386_z⟩ := rp_mkN (fun q => absurd (Eq.trans (Eq.symm ka) q.1) (by decide)) q1386_z
    subst yq1386_z
    replace hc_z : rn _ _ _ _ [.int 0] _ _ _ := hc_z
    replace hc_z := rn_ifT (am_cur_of (i := (42, 3, .ifCond .eq 38, (43, 0, 0), 0)) (by decide +kernel)) (by decide) hc_z
    replace hc_z := rn_aload_n (am_cur_of (i := (80, 1, .aload_n 0, (0, 0, 0), 0)) (by decide +kernel)) g0_z hc_z
    replace hc_z := rn_getI (v := 2) (am_cur_of (i := (81, 3, .getfield 60, (4, 10, 419), 0)) (by decide +kernel)) (by decide +kernel) ka hc_z
    replace hc_z := rn_iconst (w := 4) (am_cur_of (i := (84, 1, .iconst 4, (0, 0, 0), 0)) (by decide +kernel)) (by decide) hc_z
    replace hc_z := rn_cmpT (am_cur_of (i := (85, 3, .if_icmp .ne 40, (64, 0, 0), 0)) (by decide +kernel)) (by decide) hc_z
    replace hc_z := rn_aload_n (am_cur_of (i := (125, 1, .aload_n 0, (0, 0, 0), 0)) (by decide +kernel)) g0_z hc_z
    replace hc_z := rn_getI (v := 2) (am_cur_of (i := (126, 3, .getfield 60, (4, 10, 419), 0)) (by decide +kernel)) (by decide +kernel) ka hc_z
    replace hc_z := rn_iconst (w := 2) (am_cur_of (i := (129, 1, .iconst 2, (0, 0, 0), 0)) (by decide +kernel)) (by decide) hc_z
    replace hc_z := rn_cmpF (am_cur_of (i := (130, 3, .if_icmp .ne 37, (84, 0, 0), 0)) (by decide +kernel)) (by decide) hc_z
    replace hc_z := rn_aload_n (am_cur_of (i := (133, 1, .aload_n 0, (0, 0, 0), 0)) (by decide +kernel)) g0_z hc_z
    replace hc_z := rn_getI (v := 11) (am_cur_of (i := (134, 3, .getfield 91, (4, 11, 420), 0)) (by decide +kernel)) (by decide +kernel) kb hc_z
    replace hc_z := rn_bipush (w := 11) (am_cur_of (i := (137, 2, .bipush 11, (0, 0, 0), 0)) (by decide +kernel)) (by decide) hc_z
    replace hc_z := rn_cmpF (am_cur_of (i := (139, 3, .if_icmp .lt 28, (84, 0, 0), 0)) (by decide +kernel)) (by decide) hc_z
    replace hc_z := rn_aload_n (am_cur_of (i := (142, 1, .aload_n 0, (0, 0, 0), 0)) (by decide +kernel)) g0_z hc_z
    replace hc_z := rn_callV (M' := am_m49) (o := 44) (ar := []) (rest := []) (L := lv_args 0 [.ref 44]) (am_cur_of (i := (143, 3, .invokevirtual 270, (49, 852, 3), 0)) (by decide +kernel)) rfl rfl rfl rfl hc_z
    obtain ⟨r1387_z, h1388_z, q1389_z, hc_z⟩ := hc_z
    rcases rs_ck2 R4 (show h 44 6 = .ref 2 from R3) q1389_z with ⟨ge, rfl, eh⟩ | ⟨lt, rfl, eh⟩
    · subst eh
      replace ge : 64 ≤ kn.toInt := by rw [← ekn]; exact ge
      replace hc_z : rn _ _ _ _ [] _ _ _ := hc_z
      have K := rs_stick (w := 2) (q := p) (a := 51) (by decide) (by decide) rfl (by decide) rfl (show rg_v (am_up (am_up h 44 1 (.int 2)) 44 2 (.int (rg_v h 44 9))) 44 2 = p from R5) hc_z
      replace hm_z := rn_aload_n (am_cur_of (i := (0, 1, .aload_n 0, (0, 0, 0), 0)) (by decide +kernel)) g0m hm_z
      replace hm_z := rn_bipush (w := 40) (am_cur_of (i := (1, 2, .bipush 40, (0, 0, 0), 0)) (by decide +kernel)) (by decide) hm_z
      replace hm_z := rn_callV (M' := am_m171) (o := 164) (ar := [.int 40]) (rest := []) (L := lv_args 0 [.ref 164, .int 40]) (am_cur_of (i := (3, 3, .invokevirtual 194, (171, 1715, 3), 0)) (by decide +kernel)) rfl rfl rfl rfl hm_z
      obtain ⟨r1390_z, h1391_z, q1392_z, hm_z⟩ := hm_z
      obtain ⟨rfl, yq1392_z⟩ := rp_sgN (fun q => absurd (Eq.trans (Eq.symm kc) q.1) (by decide)) q1392_z
      subst yq1392_z
      replace hm_z : rn _ _ _ _ [.int 0] _ _ _ := hm_z
      replace hm_z := rn_ifT (am_cur_of (i := (6, 3, .ifCond .eq 44, (28, 0, 0), 0)) (by decide +kernel)) (by decide) hm_z
      replace hm_z := rn_aload_n (am_cur_of (i := (50, 1, .aload_n 0, (0, 0, 0), 0)) (by decide +kernel)) g0m hm_z
      replace hm_z := rn_bipush (w := 14) (am_cur_of (i := (51, 2, .bipush 14, (0, 0, 0), 0)) (by decide +kernel)) (by decide) hm_z
      replace hm_z := rn_callV (M' := am_m174) (o := 164) (ar := [.int 14]) (rest := []) (L := lv_args 0 [.ref 164, .int 14]) (am_cur_of (i := (53, 3, .invokevirtual 306, (174, 1727, 3), 0)) (by decide +kernel)) rfl rfl rfl rfl hm_z
      obtain ⟨r1393_z, h1394_z, q1395_z, hm_z⟩ := hm_z
      obtain ⟨rfl, yq1395_z⟩ := rp_kyN (fun q => absurd (Eq.trans (Eq.symm kd) q.2) (by decide)) q1395_z
      subst yq1395_z
      replace hm_z : rn _ _ _ _ [.int 0] _ _ _ := hm_z
      replace hm_z := rn_ifT (am_cur_of (i := (56, 3, .ifCond .eq 30, (47, 0, 0), 0)) (by decide +kernel)) (by decide) hm_z
      replace hm_z := rn_aload_n (am_cur_of (i := (86, 1, .aload_n 0, (0, 0, 0), 0)) (by decide +kernel)) g0m hm_z
      replace hm_z := rn_callV (M' := am_m176) (o := 164) (ar := []) (rest := []) (L := lv_args 0 [.ref 164]) (am_cur_of (i := (87, 3, .invokevirtual 312, (176, 1735, 3), 0)) (by decide +kernel)) rfl rfl rfl rfl hm_z
      obtain ⟨r1396_z, h1397_z, q1398_z, hm_z⟩ := hm_z
      obtain ⟨rfl, yq1398_z⟩ := rp_nm (c := 1) (d := 11) kc kd q1398_z
      replace yq1398_z := yq1398_z.symm
      subst yq1398_z
      rw [show rp_nmf 1 11 = 3 from by decide] at hm_z
      replace hm_z : rn _ _ _ _ [.int 3] _ _ _ := hm_z
      replace hm_z := rn_istore_n (am_cur_of (i := (90, 1, .istore_n 1, (0, 0, 0), 0)) (by decide +kernel)) hm_z
      obtain ⟨_, s1399_z, s1400_z, g1m, hm_z⟩ := hm_z
      replace g0m := s1399_z 0 _ (by decide) rfl g0m
      clear s1399_z s1400_z
      replace hm_z := rn_iload_n (am_cur_of (i := (91, 1, .iload_n 1, (0, 0, 0), 0)) (by decide +kernel)) g1m hm_z
      replace hm_z := rn_ifT (am_cur_of (i := (92, 3, .ifCond .ge 17, (60, 0, 0), 0)) (by decide +kernel)) (by decide) hm_z
      replace hm_z := rn_iload_n (am_cur_of (i := (109, 1, .iload_n 1, (0, 0, 0), 0)) (by decide +kernel)) g1m hm_z
      replace hm_z := rn_ifT (am_cur_of (i := (110, 3, .ifCond .ge 19, (70, 0, 0), 0)) (by decide +kernel)) (by decide) hm_z
      replace hm_z := rn_aload_n (am_cur_of (i := (129, 1, .aload_n 0, (0, 0, 0), 0)) (by decide +kernel)) g0m hm_z
      replace hm_z := rn_callV (M' := am_m175) (o := 164) (ar := []) (rest := []) (L := lv_args 0 [.ref 164]) (am_cur_of (i := (130, 3, .invokevirtual 309, (175, 1731, 3), 0)) (by decide +kernel)) rfl rfl rfl rfl hm_z
      obtain ⟨r1401_z, h1402_z, q1403_z, hm_z⟩ := hm_z
      rcases rs_ic q1403_z with ⟨i1_z, rfl, i3_z⟩ | ⟨i1_z, -⟩
      · subst i3_z
        replace hm_z : rn _ _ _ _ [.int 0] _ _ _ := hm_z
        replace hm_z := rn_ifF (am_cur_of (i := (133, 3, .ifCond .ne 5, (75, 0, 0), 0)) (by decide +kernel)) (by decide) hm_z
        replace hm_z := rn_iconst (w := 0) (am_cur_of (i := (136, 1, .iconst 0, (0, 0, 0), 0)) (by decide +kernel)) (by decide) hm_z
        replace hm_z := rn_iret (am_cur_of (i := (137, 1, .ireturn, (0, 0, 0), 0)) (by decide +kernel)) hm_z
        obtain ⟨e1404_z, e1405_z⟩ := hm_z
        subst e1404_z e1405_z
        exact (Or.inr ⟨rfl, 2, by decide, K.1, K.2, rfl, R6⟩)
      · exact absurd (Int32.toInt_inj.mp (show (rg_v g 164 44).toInt = (64 : Int32).toInt from by rw [show rg_v g 164 44 = kn from nk1_z.symm, show (64 : Int32).toInt = 64 by decide]; omega)) i1_z
    · subst eh
      replace lt : kn.toInt < 64 := by rw [← ekn]; exact lt
      rw [show rg_v h 11 0 = kn from ekn] at hc_z
      replace hm_z := rn_aload_n (am_cur_of (i := (0, 1, .aload_n 0, (0, 0, 0), 0)) (by decide +kernel)) g0m hm_z
      replace hm_z := rn_bipush (w := 40) (am_cur_of (i := (1, 2, .bipush 40, (0, 0, 0), 0)) (by decide +kernel)) (by decide) hm_z
      replace hm_z := rn_callV (M' := am_m171) (o := 164) (ar := [.int 40]) (rest := []) (L := lv_args 0 [.ref 164, .int 40]) (am_cur_of (i := (3, 3, .invokevirtual 194, (171, 1715, 3), 0)) (by decide +kernel)) rfl rfl rfl rfl hm_z
      obtain ⟨r1406_z, h1407_z, q1408_z, hm_z⟩ := hm_z
      obtain ⟨rfl, yq1408_z⟩ := rp_sgN (fun q => absurd (Eq.trans (Eq.symm kc) q.1) (by decide)) q1408_z
      subst yq1408_z
      replace hm_z : rn _ _ _ _ [.int 0] _ _ _ := hm_z
      replace hm_z := rn_ifT (am_cur_of (i := (6, 3, .ifCond .eq 44, (28, 0, 0), 0)) (by decide +kernel)) (by decide) hm_z
      replace hm_z := rn_aload_n (am_cur_of (i := (50, 1, .aload_n 0, (0, 0, 0), 0)) (by decide +kernel)) g0m hm_z
      replace hm_z := rn_bipush (w := 14) (am_cur_of (i := (51, 2, .bipush 14, (0, 0, 0), 0)) (by decide +kernel)) (by decide) hm_z
      replace hm_z := rn_callV (M' := am_m174) (o := 164) (ar := [.int 14]) (rest := []) (L := lv_args 0 [.ref 164, .int 14]) (am_cur_of (i := (53, 3, .invokevirtual 306, (174, 1727, 3), 0)) (by decide +kernel)) rfl rfl rfl rfl hm_z
      obtain ⟨r1409_z, h1410_z, q1411_z, hm_z⟩ := hm_z
      obtain ⟨rfl, yq1411_z⟩ := rp_kyN (fun q => absurd (Eq.trans (Eq.symm kd) q.2) (by decide)) q1411_z
      subst yq1411_z
      replace hm_z : rn _ _ _ _ [.int 0] _ _ _ := hm_z
      replace hm_z := rn_ifT (am_cur_of (i := (56, 3, .ifCond .eq 30, (47, 0, 0), 0)) (by decide +kernel)) (by decide) hm_z
      replace hm_z := rn_aload_n (am_cur_of (i := (86, 1, .aload_n 0, (0, 0, 0), 0)) (by decide +kernel)) g0m hm_z
      replace hm_z := rn_callV (M' := am_m176) (o := 164) (ar := []) (rest := []) (L := lv_args 0 [.ref 164]) (am_cur_of (i := (87, 3, .invokevirtual 312, (176, 1735, 3), 0)) (by decide +kernel)) rfl rfl rfl rfl hm_z
      obtain ⟨r1412_z, h1413_z, q1414_z, hm_z⟩ := hm_z
      obtain ⟨rfl, yq1414_z⟩ := rp_nm (c := 1) (d := 11) kc kd q1414_z
      replace yq1414_z := yq1414_z.symm
      subst yq1414_z
      rw [show rp_nmf 1 11 = 3 from by decide] at hm_z
      replace hm_z : rn _ _ _ _ [.int 3] _ _ _ := hm_z
      replace hm_z := rn_istore_n (am_cur_of (i := (90, 1, .istore_n 1, (0, 0, 0), 0)) (by decide +kernel)) hm_z
      obtain ⟨_, s1415_z, s1416_z, g1m, hm_z⟩ := hm_z
      replace g0m := s1415_z 0 _ (by decide) rfl g0m
      clear s1415_z s1416_z
      replace hm_z := rn_iload_n (am_cur_of (i := (91, 1, .iload_n 1, (0, 0, 0), 0)) (by decide +kernel)) g1m hm_z
      replace hm_z := rn_ifT (am_cur_of (i := (92, 3, .ifCond .ge 17, (60, 0, 0), 0)) (by decide +kernel)) (by decide) hm_z
      replace hm_z := rn_iload_n (am_cur_of (i := (109, 1, .iload_n 1, (0, 0, 0), 0)) (by decide +kernel)) g1m hm_z
      replace hm_z := rn_ifT (am_cur_of (i := (110, 3, .ifCond .ge 19, (70, 0, 0), 0)) (by decide +kernel)) (by decide) hm_z
      replace hm_z := rn_aload_n (am_cur_of (i := (129, 1, .aload_n 0, (0, 0, 0), 0)) (by decide +kernel)) g0m hm_z
      replace hm_z := rn_callV (M' := am_m175) (o := 164) (ar := []) (rest := []) (L := lv_args 0 [.ref 164]) (am_cur_of (i := (130, 3, .invokevirtual 309, (175, 1731, 3), 0)) (by decide +kernel)) rfl rfl rfl rfl hm_z
      obtain ⟨r1417_z, h1418_z, q1419_z, hm_z⟩ := hm_z
      rcases rs_ic q1419_z with ⟨i1_z, -⟩ | ⟨i1_z, rfl, i3_z⟩
      · exfalso
        have zz := congrArg Int32.toInt i1_z
        rw [show rg_v g 164 44 = kn from nk1_z.symm, show (64 : Int32).toInt = 64 by decide] at zz
        omega
      · subst i3_z
        rw [show rg_v g 164 44 = kn from nk1_z.symm] at hm_z
        replace hm_z : rn _ _ _ _ [.int 1] _ _ _ := hm_z
        replace hc_z : rn _ _ _ _ [] _ _ _ := hc_z
        replace hc_z := rn_aload_n (am_cur_of (i := (146, 1, .aload_n 0, (0, 0, 0), 0)) (by decide +kernel)) g0_z hc_z
        replace hc_z := rn_getM (x := 2) (am_cur_of (i := (147, 3, .getfield 25, (4, 6, 415), 0)) (by decide +kernel)) (show (am_up h 11 0 (.int (kn + 1))) 44 6 = .ref 2 from R3) hc_z
        replace hc_z := rn_getR (x := 11) (am_cur_of (i := (150, 3, .getfield 242, (1, 19, 316), 0)) (by decide +kernel)) (by decide +kernel) hc_z
        replace hc_z := rn_iconst (w := 1) (am_cur_of (i := (153, 1, .iconst 1, (0, 0, 0), 0)) (by decide +kernel)) (by decide) hc_z
        replace hc_z := rn_aload_n (am_cur_of (i := (154, 1, .aload_n 0, (0, 0, 0), 0)) (by decide +kernel)) g0_z hc_z
        replace hc_z := rn_getI (v := 11) (am_cur_of (i := (155, 3, .getfield 91, (4, 11, 420), 0)) (by decide +kernel)) (by decide +kernel) (show rg_v (am_up h 11 0 (.int (kn + 1))) 44 11 = 11 from kb) hc_z
        replace hc_z := rn_bipush (w := 11) (am_cur_of (i := (158, 2, .bipush 11, (0, 0, 0), 0)) (by decide +kernel)) (by decide) hc_z
        replace hc_z := rn_isub (w := 0) (am_cur_of (i := (160, 1, .isub, (0, 0, 0), 0)) (by decide +kernel)) (by decide) hc_z
        replace hc_z := rn_callV (M' := am_m48) (o := 11) (ar := [.int 0, .int 1]) (rest := []) (L := lv_args 0 [.ref 11, .int 1, .int 0]) (am_cur_of (i := (161, 3, .invokevirtual 276, (48, 845, 3), 0)) (by decide +kernel)) rfl rfl rfl rfl hc_z
        obtain ⟨r1420_z, h1421_z, q1422_z, hc_z⟩ := hc_z
        obtain ⟨rfl, PF⟩ := rs_put2 q1422_z
        replace hc_z : rn _ _ _ _ [] _ _ _ := hc_z
        replace hc_z := rn_goto (am_cur_of (i := (164, 3, .goto 8, (87, 0, 0), 0)) (by decide +kernel)) hc_z
        replace hc_z := rn_aload_n (am_cur_of (i := (172, 1, .aload_n 0, (0, 0, 0), 0)) (by decide +kernel)) g0_z hc_z
        replace hc_z := rn_callV (M' := am_m19) (o := 44) (ar := []) (rest := []) (L := lv_args 0 [.ref 44]) (am_cur_of (i := (173, 3, .invokevirtual 57, (19, 727, 3), 0)) (by decide +kernel)) rfl rfl rfl rfl hc_z
        obtain ⟨r1423_z, h1424_z, q1425_z, hc_z⟩ := hc_z
        have vo := rn_void rfl q1425_z
        subst vo
        replace hm_z := rn_ifT (am_cur_of (i := (133, 3, .ifCond .ne 5, (75, 0, 0), 0)) (by decide +kernel)) (by decide) hm_z
        replace hm_z := rn_aload_n (am_cur_of (i := (138, 1, .aload_n 0, (0, 0, 0), 0)) (by decide +kernel)) g0m hm_z
        replace hm_z := rn_iload_n (am_cur_of (i := (139, 1, .iload_n 1, (0, 0, 0), 0)) (by decide +kernel)) g1m hm_z
        replace hm_z := rn_ifF (am_cur_of (i := (140, 3, .ifCond .lt 7, (80, 0, 0), 0)) (by decide +kernel)) (by decide) hm_z
        replace hm_z := rn_iconst (w := 1) (am_cur_of (i := (143, 1, .iconst 1, (0, 0, 0), 0)) (by decide +kernel)) (by decide) hm_z
        replace hm_z := rn_goto (am_cur_of (i := (144, 3, .goto 4, (81, 0, 0), 0)) (by decide +kernel)) hm_z
        replace hm_z := rn_iload_n (am_cur_of (i := (148, 1, .iload_n 1, (0, 0, 0), 0)) (by decide +kernel)) g1m hm_z
        replace hm_z := rn_ifF (am_cur_of (i := (149, 3, .ifCond .lt 7, (85, 0, 0), 0)) (by decide +kernel)) (by decide) hm_z
        replace hm_z := rn_iload_n (am_cur_of (i := (152, 1, .iload_n 1, (0, 0, 0), 0)) (by decide +kernel)) g1m hm_z
        replace hm_z := rn_goto (am_cur_of (i := (153, 3, .goto 7, (87, 0, 0), 0)) (by decide +kernel)) hm_z
        replace hm_z := rn_iconst (w := 0) (am_cur_of (i := (160, 1, .iconst 0, (0, 0, 0), 0)) (by decide +kernel)) (by decide) hm_z
        replace hm_z := rn_callV (M' := am_m177) (o := 164) (ar := [.int 0, .int 3, .int 1]) (rest := []) (L := lv_args 0 [.ref 164, .int 1, .int 3, .int 0]) (am_cur_of (i := (161, 3, .invokevirtual 291, (177, 1739, 3), 0)) (by decide +kernel)) rfl rfl rfl rfl hm_z
        obtain ⟨r1426_z, h1427_z, q1428_z, hm_z⟩ := hm_z
        obtain ⟨rfl, GF⟩ := rs_grown q1428_z
        replace hm_z : rn _ _ _ _ [] _ _ _ := hm_z
        replace hm_z := rn_aload_n (am_cur_of (i := (164, 1, .aload_n 0, (0, 0, 0), 0)) (by decide +kernel)) g0m hm_z
        replace hm_z := rn_iconst (w := 0) (am_cur_of (i := (165, 1, .iconst 0, (0, 0, 0), 0)) (by decide +kernel)) (by decide) hm_z
        replace hm_z := rn_put (am_cur_of (i := (166, 3, .putfield 315, (12, 45, 1429), 0)) (by decide +kernel)) (by decide +kernel) hm_z
        replace hm_z := rn_aload_n (am_cur_of (i := (169, 1, .aload_n 0, (0, 0, 0), 0)) (by decide +kernel)) g0m hm_z
        replace hm_z := rn_callV (M' := am_m151) (o := 164) (ar := []) (rest := []) (L := lv_args 0 [.ref 164]) (am_cur_of (i := (170, 3, .invokevirtual 191, (151, 1636, 3), 0)) (by decide +kernel)) rfl rfl rfl rfl hm_z
        obtain ⟨r1429_z, h1430_z, q1431_z, hm_z⟩ := hm_z
        have vo := rn_void rfl q1431_z
        subst vo
        have FC : ab_Fr (rz_MC2.drop 1) h h1421_z := ab_Fr_trans (ab_Fr_up rfl ab_Fr_refl) (ab_Fr_sub (by decide) PF)
        have FC' : ab_Fr rz_MC2 h h1421_z := ab_Fr_sub (by decide) FC
        have FM : ab_Fr rz_MM g (am_up h1427_z 164 45 (.int 0)) := ab_Fr_up rfl (ab_Fr_trans (ab_Fr_up rfl ab_Fr_refl) (ab_Fr_sub (by decide) GF))
        obtain ⟨-, -, x2_z, p2_z, R2, le2_z, t5_z, t6_z⟩ := pr_tok (rz_q02 (rq_0 Rk) FC' FM) q1425_z q1431_z
        have A2 := rp_x (by decide) (rz_p2 A FC' FM ((show rg_v h1421_z 11 0 = kn + 1 from ((rg_v_fr PF (by decide)).trans (show rg_v (am_up h 11 0 (.int (kn + 1))) 11 0 = kn + 1 from rfl))).trans (show rg_v (am_up h1427_z 164 45 (.int 0)) 164 44 = kn + 1 from (show rg_v (am_up h1427_z 164 45 (.int 0)) 164 44 = kn + 1 from ((rg_v_fr GF (by decide)).trans (show rg_v (am_up g 164 44 (.int (kn + 1))) 164 44 = kn + 1 from rfl)))).symm) (by rw [show rg_v h1421_z 11 0 = kn + 1 from ((rg_v_fr PF (by decide)).trans (show rg_v (am_up h 11 0 (.int (kn + 1))) 11 0 = kn + 1 from rfl))]; omega) (by rw [show rg_v h1421_z 11 0 = kn + 1 from ((rg_v_fr PF (by decide)).trans (show rg_v (am_up h 11 0 (.int (kn + 1))) 11 0 = kn + 1 from rfl))]; omega)) (rx_C_f t5_z) (rx_M_f t6_z)
        have B2 := rp_tk (rz_t2 B FC FM) (rg_v_fr t5_z (by decide)) (fun k => rg_v_fr t6_z (rg_v_in (by decide) k)) (rx_M_f t6_z)
        have FC47 : ab_Fr [(44, 14), (44, 15), (11, 1), (11, 2), (12, 0), (13, 0)] h h1421_z := ab_Fr_trans (ab_Fr_up rfl ab_Fr_refl) (ab_Fr_sub (by decide) PF)
        have FM184 : ab_Fr [(164, 42), (164, 43), (164, 44), (164, 45), (164, 46), (164, 47), (164, 22), (181, 0), (182, 0), (183, 0), (185, 0)] g (am_up h1427_z 164 45 (.int 0)) := ab_Fr_up rfl (ab_Fr_trans (ab_Fr_up rfl ab_Fr_refl) (ab_Fr_sub (by decide) GF))
        have Z2 : rs 2 h1421_z (am_up h1427_z 164 45 (.int 0)) := rs_keep Zk ((show rg_v h1421_z 44 13 = np from ((rg_v_fr PF (by decide)).trans (show rg_v (am_up h 11 0 (.int (kn + 1))) 44 13 = np from z1_z))).trans z1_z.symm) ((show rg_v (am_up h1427_z 164 45 (.int 0)) 164 41 = np from (show rg_v (am_up h1427_z 164 45 (.int 0)) 164 41 = np from ((rg_v_fr GF (by decide)).trans (show rg_v (am_up g 164 44 (.int (kn + 1))) 164 41 = np from z2_z)))).trans z2_z.symm) ((show rg_v h1421_z 44 14 = op from ((rg_v_fr PF (by decide)).trans (show rg_v (am_up h 11 0 (.int (kn + 1))) 44 14 = op from z4_z))).trans z4_z.symm) ((show rg_v (am_up h1427_z 164 45 (.int 0)) 164 43 = op from (show rg_v (am_up h1427_z 164 45 (.int 0)) 164 43 = op from ((rg_v_fr GF (by decide)).trans (show rg_v (am_up g 164 44 (.int (kn + 1))) 164 43 = op from z5_z)))).trans z5_z.symm) (show (rg_v h 11 0).toInt ≤ (rg_v h1421_z 11 0).toInt by rw [(show rg_v h1421_z 11 0 = kn + 1 from ((rg_v_fr PF (by decide)).trans (show rg_v (am_up h 11 0 (.int (kn + 1))) 11 0 = kn + 1 from rfl))), ekn]; omega) (fun k => rg_v_fr FC47 (rg_v_in (by decide) k)) (fun k => rg_v_fr FM184 (rg_v_in (by decide) k))
        replace Z2 := rs_fr (by decide) Z2 t5_z t6_z
        have e45_z : rg_v h1430_z 164 45 = 0 := (rg_v_fr t6_z (by decide)).trans (show rg_v (am_up h1427_z 164 45 (.int 0)) 164 45 = 0 from (show rg_v (am_up h1427_z 164 45 (.int 0)) 164 45 = 0 from rfl))
        have e46_z : rg_v h1430_z 164 46 = 0 := (rg_v_fr t6_z (by decide)).trans (show rg_v (am_up h1427_z 164 45 (.int 0)) 164 46 = 0 from (show rg_v (am_up h1427_z 164 45 (.int 0)) 164 46 = 0 from ((rg_v_fr GF (by decide)).trans (show rg_v (am_up g 164 44 (.int (kn + 1))) 164 46 = 0 from w2_z))))
        replace hm_z : rn _ _ _ _ [] _ _ _ := hm_z
        replace hc_z : rn _ _ _ _ [] _ _ _ := hc_z
        replace hc_z := rn_iconst (w := 2) (am_cur_of (i := (176, 1, .iconst 2, (0, 0, 0), 0)) (by decide +kernel)) (by decide) hc_z
        replace hc_z := rn_iret (am_cur_of (i := (177, 1, .ireturn, (0, 0, 0), 0)) (by decide +kernel)) hc_z
        obtain ⟨e1432_z, e1433_z⟩ := hc_z
        replace hm_z := rn_iconst (w := 1) (am_cur_of (i := (173, 1, .iconst 1, (0, 0, 0), 0)) (by decide +kernel)) (by decide) hm_z
        replace hm_z := rn_iret (am_cur_of (i := (174, 1, .ireturn, (0, 0, 0), 0)) (by decide +kernel)) hm_z
        obtain ⟨e1434_z, e1435_z⟩ := hm_z
        subst e1432_z e1433_z e1434_z e1435_z
        exact Or.inl ⟨_, x2_z, p2_z, rfl, rfl, R2, le2_z, A2, B2, Z2, Or.inr (Or.inr ⟨rfl, e45_z⟩)⟩
  · have g0_z : am_get (lv_args 0 [.ref 44, .int 1]) 0 = some (.ref 44) := rfl
    have g1_z : am_get (lv_args 0 [.ref 44, .int 1]) 1 = some (.int 1) := rfl
    have g0m : am_get (lv_args 0 [.ref 164]) 0 = some (.ref 164) := rfl
    have Rk := R
    have Zk := Z
    obtain ⟨⟨c1_z, c2_z, c3_z, c4_z, c5_z, c6_z, c7_z, c8_z⟩, ⟨m2_z, m3_z, m4_z, m5_z, m6_z, m7_z, m8_z⟩, R3, R4, R5, R6, R7, R8, R9, R10⟩ := (R : rq T S x p 2 h g)
    obtain ⟨np, op, z1_z, z2_z, z3_z, z4_z, z5_z, z6_z, z7_z, z8_z, z9_z, z10_z⟩ := (Z : rs 2 h g)
    obtain ⟨nk1_z, nk2_z, nk3_z⟩ := A.2.2.2.2.2.1
    replace nk1_z : rg_v h 11 0 = rg_v g 164 44 := nk1_z
    replace nk2_z : 0 ≤ (rg_v h 11 0).toInt := nk2_z
    replace nk3_z : (rg_v h 11 0).toInt ≤ 64 := nk3_z
    replace z8_z : np.toInt ≤ (rg_v h 11 0).toInt + op.toInt := z8_z
    obtain ⟨kn, ekn⟩ : ∃ v, rg_v h 11 0 = v := ⟨_, rfl⟩
    rw [ekn] at nk1_z nk2_z nk3_z z8_z
    have e9_z := rt_c1 (x := kn) (by omega) (by omega)
    replace hc_z := rn_aload_n (am_cur_of (i := (0, 1, .aload_n 0, (0, 0, 0), 0)) (by decide +kernel)) g0_z hc_z
    replace hc_z := rn_getI (v := 2) (am_cur_of (i := (1, 3, .getfield 60, (4, 10, 419), 0)) (by decide +kernel)) (by decide +kernel) ka hc_z
    replace hc_z := rn_bipush (w := 6) (am_cur_of (i := (4, 2, .bipush 6, (0, 0, 0), 0)) (by decide +kernel)) (by decide) hc_z
    replace hc_z := rn_cmpT (am_cur_of (i := (6, 3, .if_icmp .ne 30, (19, 0, 0), 0)) (by decide +kernel)) (by decide) hc_z
    replace hc_z := rn_aload_n (am_cur_of (i := (36, 1, .aload_n 0, (0, 0, 0), 0)) (by decide +kernel)) g0_z hc_z
    replace hc_z := rn_bipush (w := 40) (am_cur_of (i := (37, 2, .bipush 40, (0, 0, 0), 0)) (by decide +kernel)) (by decide) hc_z
    replace hc_z := rn_callV (M' := am_m45) (o := 44) (ar := [.int 40]) (rest := []) (L := lv_args 0 [.ref 44, .int 40]) (am_cur_of (i := (39, 3, .invokevirtual 105, (45, 834, 3), 0)) (by decide +kernel)) rfl rfl rfl rfl hc_z
    obtain ⟨r1436_z, h1437_z, q1438_z, hc_z⟩ := hc_z
    obtain ⟨rfl, yq1438_z⟩ := rp_mkN (fun q => absurd (Eq.trans (Eq.symm ka) q.1) (by decide)) q1438_z
    subst yq1438_z
    replace hc_z : rn _ _ _ _ [.int 0] _ _ _ := hc_z
    replace hc_z := rn_ifT (am_cur_of (i := (42, 3, .ifCond .eq 38, (43, 0, 0), 0)) (by decide +kernel)) (by decide) hc_z
    replace hc_z := rn_aload_n (am_cur_of (i := (80, 1, .aload_n 0, (0, 0, 0), 0)) (by decide +kernel)) g0_z hc_z
    replace hc_z := rn_getI (v := 2) (am_cur_of (i := (81, 3, .getfield 60, (4, 10, 419), 0)) (by decide +kernel)) (by decide +kernel) ka hc_z
    replace hc_z := rn_iconst (w := 4) (am_cur_of (i := (84, 1, .iconst 4, (0, 0, 0), 0)) (by decide +kernel)) (by decide) hc_z
    replace hc_z := rn_cmpT (am_cur_of (i := (85, 3, .if_icmp .ne 40, (64, 0, 0), 0)) (by decide +kernel)) (by decide) hc_z
    replace hc_z := rn_aload_n (am_cur_of (i := (125, 1, .aload_n 0, (0, 0, 0), 0)) (by decide +kernel)) g0_z hc_z
    replace hc_z := rn_getI (v := 2) (am_cur_of (i := (126, 3, .getfield 60, (4, 10, 419), 0)) (by decide +kernel)) (by decide +kernel) ka hc_z
    replace hc_z := rn_iconst (w := 2) (am_cur_of (i := (129, 1, .iconst 2, (0, 0, 0), 0)) (by decide +kernel)) (by decide) hc_z
    replace hc_z := rn_cmpF (am_cur_of (i := (130, 3, .if_icmp .ne 37, (84, 0, 0), 0)) (by decide +kernel)) (by decide) hc_z
    replace hc_z := rn_aload_n (am_cur_of (i := (133, 1, .aload_n 0, (0, 0, 0), 0)) (by decide +kernel)) g0_z hc_z
    replace hc_z := rn_getI (v := 12) (am_cur_of (i := (134, 3, .getfield 91, (4, 11, 420), 0)) (by decide +kernel)) (by decide +kernel) kb hc_z
    replace hc_z := rn_bipush (w := 11) (am_cur_of (i := (137, 2, .bipush 11, (0, 0, 0), 0)) (by decide +kernel)) (by decide) hc_z
    replace hc_z := rn_cmpF (am_cur_of (i := (139, 3, .if_icmp .lt 28, (84, 0, 0), 0)) (by decide +kernel)) (by decide) hc_z
    replace hc_z := rn_aload_n (am_cur_of (i := (142, 1, .aload_n 0, (0, 0, 0), 0)) (by decide +kernel)) g0_z hc_z
    replace hc_z := rn_callV (M' := am_m49) (o := 44) (ar := []) (rest := []) (L := lv_args 0 [.ref 44]) (am_cur_of (i := (143, 3, .invokevirtual 270, (49, 852, 3), 0)) (by decide +kernel)) rfl rfl rfl rfl hc_z
    obtain ⟨r1439_z, h1440_z, q1441_z, hc_z⟩ := hc_z
    rcases rs_ck2 R4 (show h 44 6 = .ref 2 from R3) q1441_z with ⟨ge, rfl, eh⟩ | ⟨lt, rfl, eh⟩
    · subst eh
      replace ge : 64 ≤ kn.toInt := by rw [← ekn]; exact ge
      replace hc_z : rn _ _ _ _ [] _ _ _ := hc_z
      have K := rs_stick (w := 2) (q := p) (a := 51) (by decide) (by decide) rfl (by decide) rfl (show rg_v (am_up (am_up h 44 1 (.int 2)) 44 2 (.int (rg_v h 44 9))) 44 2 = p from R5) hc_z
      replace hm_z := rn_aload_n (am_cur_of (i := (0, 1, .aload_n 0, (0, 0, 0), 0)) (by decide +kernel)) g0m hm_z
      replace hm_z := rn_bipush (w := 40) (am_cur_of (i := (1, 2, .bipush 40, (0, 0, 0), 0)) (by decide +kernel)) (by decide) hm_z
      replace hm_z := rn_callV (M' := am_m171) (o := 164) (ar := [.int 40]) (rest := []) (L := lv_args 0 [.ref 164, .int 40]) (am_cur_of (i := (3, 3, .invokevirtual 194, (171, 1715, 3), 0)) (by decide +kernel)) rfl rfl rfl rfl hm_z
      obtain ⟨r1442_z, h1443_z, q1444_z, hm_z⟩ := hm_z
      obtain ⟨rfl, yq1444_z⟩ := rp_sgN (fun q => absurd (Eq.trans (Eq.symm kc) q.1) (by decide)) q1444_z
      subst yq1444_z
      replace hm_z : rn _ _ _ _ [.int 0] _ _ _ := hm_z
      replace hm_z := rn_ifT (am_cur_of (i := (6, 3, .ifCond .eq 44, (28, 0, 0), 0)) (by decide +kernel)) (by decide) hm_z
      replace hm_z := rn_aload_n (am_cur_of (i := (50, 1, .aload_n 0, (0, 0, 0), 0)) (by decide +kernel)) g0m hm_z
      replace hm_z := rn_bipush (w := 14) (am_cur_of (i := (51, 2, .bipush 14, (0, 0, 0), 0)) (by decide +kernel)) (by decide) hm_z
      replace hm_z := rn_callV (M' := am_m174) (o := 164) (ar := [.int 14]) (rest := []) (L := lv_args 0 [.ref 164, .int 14]) (am_cur_of (i := (53, 3, .invokevirtual 306, (174, 1727, 3), 0)) (by decide +kernel)) rfl rfl rfl rfl hm_z
      obtain ⟨r1445_z, h1446_z, q1447_z, hm_z⟩ := hm_z
      obtain ⟨rfl, yq1447_z⟩ := rp_kyN (fun q => absurd (Eq.trans (Eq.symm kd) q.2) (by decide)) q1447_z
      subst yq1447_z
      replace hm_z : rn _ _ _ _ [.int 0] _ _ _ := hm_z
      replace hm_z := rn_ifT (am_cur_of (i := (56, 3, .ifCond .eq 30, (47, 0, 0), 0)) (by decide +kernel)) (by decide) hm_z
      replace hm_z := rn_aload_n (am_cur_of (i := (86, 1, .aload_n 0, (0, 0, 0), 0)) (by decide +kernel)) g0m hm_z
      replace hm_z := rn_callV (M' := am_m176) (o := 164) (ar := []) (rest := []) (L := lv_args 0 [.ref 164]) (am_cur_of (i := (87, 3, .invokevirtual 312, (176, 1735, 3), 0)) (by decide +kernel)) rfl rfl rfl rfl hm_z
      obtain ⟨r1448_z, h1449_z, q1450_z, hm_z⟩ := hm_z
      obtain ⟨rfl, yq1450_z⟩ := rp_nm (c := 1) (d := 15) kc kd q1450_z
      replace yq1450_z := yq1450_z.symm
      subst yq1450_z
      rw [show rp_nmf 1 15 = 0 from by decide] at hm_z
      replace hm_z : rn _ _ _ _ [.int 0] _ _ _ := hm_z
      replace hm_z := rn_istore_n (am_cur_of (i := (90, 1, .istore_n 1, (0, 0, 0), 0)) (by decide +kernel)) hm_z
      obtain ⟨_, s1451_z, s1452_z, g1m, hm_z⟩ := hm_z
      replace g0m := s1451_z 0 _ (by decide) rfl g0m
      clear s1451_z s1452_z
      replace hm_z := rn_iload_n (am_cur_of (i := (91, 1, .iload_n 1, (0, 0, 0), 0)) (by decide +kernel)) g1m hm_z
      replace hm_z := rn_ifT (am_cur_of (i := (92, 3, .ifCond .ge 17, (60, 0, 0), 0)) (by decide +kernel)) (by decide) hm_z
      replace hm_z := rn_iload_n (am_cur_of (i := (109, 1, .iload_n 1, (0, 0, 0), 0)) (by decide +kernel)) g1m hm_z
      replace hm_z := rn_ifT (am_cur_of (i := (110, 3, .ifCond .ge 19, (70, 0, 0), 0)) (by decide +kernel)) (by decide) hm_z
      replace hm_z := rn_aload_n (am_cur_of (i := (129, 1, .aload_n 0, (0, 0, 0), 0)) (by decide +kernel)) g0m hm_z
      replace hm_z := rn_callV (M' := am_m175) (o := 164) (ar := []) (rest := []) (L := lv_args 0 [.ref 164]) (am_cur_of (i := (130, 3, .invokevirtual 309, (175, 1731, 3), 0)) (by decide +kernel)) rfl rfl rfl rfl hm_z
      obtain ⟨r1453_z, h1454_z, q1455_z, hm_z⟩ := hm_z
      rcases rs_ic q1455_z with ⟨i1_z, rfl, i3_z⟩ | ⟨i1_z, -⟩
      · subst i3_z
        replace hm_z : rn _ _ _ _ [.int 0] _ _ _ := hm_z
        replace hm_z := rn_ifF (am_cur_of (i := (133, 3, .ifCond .ne 5, (75, 0, 0), 0)) (by decide +kernel)) (by decide) hm_z
        replace hm_z := rn_iconst (w := 0) (am_cur_of (i := (136, 1, .iconst 0, (0, 0, 0), 0)) (by decide +kernel)) (by decide) hm_z
        replace hm_z := rn_iret (am_cur_of (i := (137, 1, .ireturn, (0, 0, 0), 0)) (by decide +kernel)) hm_z
        obtain ⟨e1456_z, e1457_z⟩ := hm_z
        subst e1456_z e1457_z
        exact (Or.inr ⟨rfl, 2, by decide, K.1, K.2, rfl, R6⟩)
      · exact absurd (Int32.toInt_inj.mp (show (rg_v g 164 44).toInt = (64 : Int32).toInt from by rw [show rg_v g 164 44 = kn from nk1_z.symm, show (64 : Int32).toInt = 64 by decide]; omega)) i1_z
    · subst eh
      replace lt : kn.toInt < 64 := by rw [← ekn]; exact lt
      rw [show rg_v h 11 0 = kn from ekn] at hc_z
      replace hm_z := rn_aload_n (am_cur_of (i := (0, 1, .aload_n 0, (0, 0, 0), 0)) (by decide +kernel)) g0m hm_z
      replace hm_z := rn_bipush (w := 40) (am_cur_of (i := (1, 2, .bipush 40, (0, 0, 0), 0)) (by decide +kernel)) (by decide) hm_z
      replace hm_z := rn_callV (M' := am_m171) (o := 164) (ar := [.int 40]) (rest := []) (L := lv_args 0 [.ref 164, .int 40]) (am_cur_of (i := (3, 3, .invokevirtual 194, (171, 1715, 3), 0)) (by decide +kernel)) rfl rfl rfl rfl hm_z
      obtain ⟨r1458_z, h1459_z, q1460_z, hm_z⟩ := hm_z
      obtain ⟨rfl, yq1460_z⟩ := rp_sgN (fun q => absurd (Eq.trans (Eq.symm kc) q.1) (by decide)) q1460_z
      subst yq1460_z
      replace hm_z : rn _ _ _ _ [.int 0] _ _ _ := hm_z
      replace hm_z := rn_ifT (am_cur_of (i := (6, 3, .ifCond .eq 44, (28, 0, 0), 0)) (by decide +kernel)) (by decide) hm_z
      replace hm_z := rn_aload_n (am_cur_of (i := (50, 1, .aload_n 0, (0, 0, 0), 0)) (by decide +kernel)) g0m hm_z
      replace hm_z := rn_bipush (w := 14) (am_cur_of (i := (51, 2, .bipush 14, (0, 0, 0), 0)) (by decide +kernel)) (by decide) hm_z
      replace hm_z := rn_callV (M' := am_m174) (o := 164) (ar := [.int 14]) (rest := []) (L := lv_args 0 [.ref 164, .int 14]) (am_cur_of (i := (53, 3, .invokevirtual 306, (174, 1727, 3), 0)) (by decide +kernel)) rfl rfl rfl rfl hm_z
      obtain ⟨r1461_z, h1462_z, q1463_z, hm_z⟩ := hm_z
      obtain ⟨rfl, yq1463_z⟩ := rp_kyN (fun q => absurd (Eq.trans (Eq.symm kd) q.2) (by decide)) q1463_z
      subst yq1463_z
      replace hm_z : rn _ _ _ _ [.int 0] _ _ _ := hm_z
      replace hm_z := rn_ifT (am_cur_of (i := (56, 3, .ifCond .eq 30, (47, 0, 0), 0)) (by decide +kernel)) (by decide) hm_z
      replace hm_z := rn_aload_n (am_cur_of (i := (86, 1, .aload_n 0, (0, 0, 0), 0)) (by decide +kernel)) g0m hm_z
      replace hm_z := rn_callV (M' := am_m176) (o := 164) (ar := []) (rest := []) (L := lv_args 0 [.ref 164]) (am_cur_of (i := (87, 3, .invokevirtual 312, (176, 1735, 3), 0)) (by decide +kernel)) rfl rfl rfl rfl hm_z
      obtain ⟨r1464_z, h1465_z, q1466_z, hm_z⟩ := hm_z
      obtain ⟨rfl, yq1466_z⟩ := rp_nm (c := 1) (d := 15) kc kd q1466_z
      replace yq1466_z := yq1466_z.symm
      subst yq1466_z
      rw [show rp_nmf 1 15 = 0 from by decide] at hm_z
      replace hm_z : rn _ _ _ _ [.int 0] _ _ _ := hm_z
      replace hm_z := rn_istore_n (am_cur_of (i := (90, 1, .istore_n 1, (0, 0, 0), 0)) (by decide +kernel)) hm_z
      obtain ⟨_, s1467_z, s1468_z, g1m, hm_z⟩ := hm_z
      replace g0m := s1467_z 0 _ (by decide) rfl g0m
      clear s1467_z s1468_z
      replace hm_z := rn_iload_n (am_cur_of (i := (91, 1, .iload_n 1, (0, 0, 0), 0)) (by decide +kernel)) g1m hm_z
      replace hm_z := rn_ifT (am_cur_of (i := (92, 3, .ifCond .ge 17, (60, 0, 0), 0)) (by decide +kernel)) (by decide) hm_z
      replace hm_z := rn_iload_n (am_cur_of (i := (109, 1, .iload_n 1, (0, 0, 0), 0)) (by decide +kernel)) g1m hm_z
      replace hm_z := rn_ifT (am_cur_of (i := (110, 3, .ifCond .ge 19, (70, 0, 0), 0)) (by decide +kernel)) (by decide) hm_z
      replace hm_z := rn_aload_n (am_cur_of (i := (129, 1, .aload_n 0, (0, 0, 0), 0)) (by decide +kernel)) g0m hm_z
      replace hm_z := rn_callV (M' := am_m175) (o := 164) (ar := []) (rest := []) (L := lv_args 0 [.ref 164]) (am_cur_of (i := (130, 3, .invokevirtual 309, (175, 1731, 3), 0)) (by decide +kernel)) rfl rfl rfl rfl hm_z
      obtain ⟨r1469_z, h1470_z, q1471_z, hm_z⟩ := hm_z
      rcases rs_ic q1471_z with ⟨i1_z, -⟩ | ⟨i1_z, rfl, i3_z⟩
      · exfalso
        have zz := congrArg Int32.toInt i1_z
        rw [show rg_v g 164 44 = kn from nk1_z.symm, show (64 : Int32).toInt = 64 by decide] at zz
        omega
      · subst i3_z
        rw [show rg_v g 164 44 = kn from nk1_z.symm] at hm_z
        replace hm_z : rn _ _ _ _ [.int 1] _ _ _ := hm_z
        replace hc_z : rn _ _ _ _ [] _ _ _ := hc_z
        replace hc_z := rn_aload_n (am_cur_of (i := (146, 1, .aload_n 0, (0, 0, 0), 0)) (by decide +kernel)) g0_z hc_z
        replace hc_z := rn_getM (x := 2) (am_cur_of (i := (147, 3, .getfield 25, (4, 6, 415), 0)) (by decide +kernel)) (show (am_up h 11 0 (.int (kn + 1))) 44 6 = .ref 2 from R3) hc_z
        replace hc_z := rn_getR (x := 11) (am_cur_of (i := (150, 3, .getfield 242, (1, 19, 316), 0)) (by decide +kernel)) (by decide +kernel) hc_z
        replace hc_z := rn_iconst (w := 1) (am_cur_of (i := (153, 1, .iconst 1, (0, 0, 0), 0)) (by decide +kernel)) (by decide) hc_z
        replace hc_z := rn_aload_n (am_cur_of (i := (154, 1, .aload_n 0, (0, 0, 0), 0)) (by decide +kernel)) g0_z hc_z
        replace hc_z := rn_getI (v := 12) (am_cur_of (i := (155, 3, .getfield 91, (4, 11, 420), 0)) (by decide +kernel)) (by decide +kernel) (show rg_v (am_up h 11 0 (.int (kn + 1))) 44 11 = 12 from kb) hc_z
        replace hc_z := rn_bipush (w := 11) (am_cur_of (i := (158, 2, .bipush 11, (0, 0, 0), 0)) (by decide +kernel)) (by decide) hc_z
        replace hc_z := rn_isub (w := 1) (am_cur_of (i := (160, 1, .isub, (0, 0, 0), 0)) (by decide +kernel)) (by decide) hc_z
        replace hc_z := rn_callV (M' := am_m48) (o := 11) (ar := [.int 1, .int 1]) (rest := []) (L := lv_args 0 [.ref 11, .int 1, .int 1]) (am_cur_of (i := (161, 3, .invokevirtual 276, (48, 845, 3), 0)) (by decide +kernel)) rfl rfl rfl rfl hc_z
        obtain ⟨r1472_z, h1473_z, q1474_z, hc_z⟩ := hc_z
        obtain ⟨rfl, PF⟩ := rs_put2 q1474_z
        replace hc_z : rn _ _ _ _ [] _ _ _ := hc_z
        replace hc_z := rn_goto (am_cur_of (i := (164, 3, .goto 8, (87, 0, 0), 0)) (by decide +kernel)) hc_z
        replace hc_z := rn_aload_n (am_cur_of (i := (172, 1, .aload_n 0, (0, 0, 0), 0)) (by decide +kernel)) g0_z hc_z
        replace hc_z := rn_callV (M' := am_m19) (o := 44) (ar := []) (rest := []) (L := lv_args 0 [.ref 44]) (am_cur_of (i := (173, 3, .invokevirtual 57, (19, 727, 3), 0)) (by decide +kernel)) rfl rfl rfl rfl hc_z
        obtain ⟨r1475_z, h1476_z, q1477_z, hc_z⟩ := hc_z
        have vo := rn_void rfl q1477_z
        subst vo
        replace hm_z := rn_ifT (am_cur_of (i := (133, 3, .ifCond .ne 5, (75, 0, 0), 0)) (by decide +kernel)) (by decide) hm_z
        replace hm_z := rn_aload_n (am_cur_of (i := (138, 1, .aload_n 0, (0, 0, 0), 0)) (by decide +kernel)) g0m hm_z
        replace hm_z := rn_iload_n (am_cur_of (i := (139, 1, .iload_n 1, (0, 0, 0), 0)) (by decide +kernel)) g1m hm_z
        replace hm_z := rn_ifF (am_cur_of (i := (140, 3, .ifCond .lt 7, (80, 0, 0), 0)) (by decide +kernel)) (by decide) hm_z
        replace hm_z := rn_iconst (w := 1) (am_cur_of (i := (143, 1, .iconst 1, (0, 0, 0), 0)) (by decide +kernel)) (by decide) hm_z
        replace hm_z := rn_goto (am_cur_of (i := (144, 3, .goto 4, (81, 0, 0), 0)) (by decide +kernel)) hm_z
        replace hm_z := rn_iload_n (am_cur_of (i := (148, 1, .iload_n 1, (0, 0, 0), 0)) (by decide +kernel)) g1m hm_z
        replace hm_z := rn_ifF (am_cur_of (i := (149, 3, .ifCond .lt 7, (85, 0, 0), 0)) (by decide +kernel)) (by decide) hm_z
        replace hm_z := rn_iload_n (am_cur_of (i := (152, 1, .iload_n 1, (0, 0, 0), 0)) (by decide +kernel)) g1m hm_z
        replace hm_z := rn_goto (am_cur_of (i := (153, 3, .goto 7, (87, 0, 0), 0)) (by decide +kernel)) hm_z
        replace hm_z := rn_iconst (w := 0) (am_cur_of (i := (160, 1, .iconst 0, (0, 0, 0), 0)) (by decide +kernel)) (by decide) hm_z
        replace hm_z := rn_callV (M' := am_m177) (o := 164) (ar := [.int 0, .int 0, .int 1]) (rest := []) (L := lv_args 0 [.ref 164, .int 1, .int 0, .int 0]) (am_cur_of (i := (161, 3, .invokevirtual 291, (177, 1739, 3), 0)) (by decide +kernel)) rfl rfl rfl rfl hm_z
        obtain ⟨r1478_z, h1479_z, q1480_z, hm_z⟩ := hm_z
        obtain ⟨rfl, GF⟩ := rs_grown q1480_z
        replace hm_z : rn _ _ _ _ [] _ _ _ := hm_z
        replace hm_z := rn_aload_n (am_cur_of (i := (164, 1, .aload_n 0, (0, 0, 0), 0)) (by decide +kernel)) g0m hm_z
        replace hm_z := rn_iconst (w := 0) (am_cur_of (i := (165, 1, .iconst 0, (0, 0, 0), 0)) (by decide +kernel)) (by decide) hm_z
        replace hm_z := rn_put (am_cur_of (i := (166, 3, .putfield 315, (12, 45, 1429), 0)) (by decide +kernel)) (by decide +kernel) hm_z
        replace hm_z := rn_aload_n (am_cur_of (i := (169, 1, .aload_n 0, (0, 0, 0), 0)) (by decide +kernel)) g0m hm_z
        replace hm_z := rn_callV (M' := am_m151) (o := 164) (ar := []) (rest := []) (L := lv_args 0 [.ref 164]) (am_cur_of (i := (170, 3, .invokevirtual 191, (151, 1636, 3), 0)) (by decide +kernel)) rfl rfl rfl rfl hm_z
        obtain ⟨r1481_z, h1482_z, q1483_z, hm_z⟩ := hm_z
        have vo := rn_void rfl q1483_z
        subst vo
        have FC : ab_Fr (rz_MC2.drop 1) h h1473_z := ab_Fr_trans (ab_Fr_up rfl ab_Fr_refl) (ab_Fr_sub (by decide) PF)
        have FC' : ab_Fr rz_MC2 h h1473_z := ab_Fr_sub (by decide) FC
        have FM : ab_Fr rz_MM g (am_up h1479_z 164 45 (.int 0)) := ab_Fr_up rfl (ab_Fr_trans (ab_Fr_up rfl ab_Fr_refl) (ab_Fr_sub (by decide) GF))
        obtain ⟨-, -, x2_z, p2_z, R2, le2_z, t5_z, t6_z⟩ := pr_tok (rz_q02 (rq_0 Rk) FC' FM) q1477_z q1483_z
        have A2 := rp_x (by decide) (rz_p2 A FC' FM ((show rg_v h1473_z 11 0 = kn + 1 from ((rg_v_fr PF (by decide)).trans (show rg_v (am_up h 11 0 (.int (kn + 1))) 11 0 = kn + 1 from rfl))).trans (show rg_v (am_up h1479_z 164 45 (.int 0)) 164 44 = kn + 1 from (show rg_v (am_up h1479_z 164 45 (.int 0)) 164 44 = kn + 1 from ((rg_v_fr GF (by decide)).trans (show rg_v (am_up g 164 44 (.int (kn + 1))) 164 44 = kn + 1 from rfl)))).symm) (by rw [show rg_v h1473_z 11 0 = kn + 1 from ((rg_v_fr PF (by decide)).trans (show rg_v (am_up h 11 0 (.int (kn + 1))) 11 0 = kn + 1 from rfl))]; omega) (by rw [show rg_v h1473_z 11 0 = kn + 1 from ((rg_v_fr PF (by decide)).trans (show rg_v (am_up h 11 0 (.int (kn + 1))) 11 0 = kn + 1 from rfl))]; omega)) (rx_C_f t5_z) (rx_M_f t6_z)
        have B2 := rp_tk (rz_t2 B FC FM) (rg_v_fr t5_z (by decide)) (fun k => rg_v_fr t6_z (rg_v_in (by decide) k)) (rx_M_f t6_z)
        have FC47 : ab_Fr [(44, 14), (44, 15), (11, 1), (11, 2), (12, 0), (13, 0)] h h1473_z := ab_Fr_trans (ab_Fr_up rfl ab_Fr_refl) (ab_Fr_sub (by decide) PF)
        have FM184 : ab_Fr [(164, 42), (164, 43), (164, 44), (164, 45), (164, 46), (164, 47), (164, 22), (181, 0), (182, 0), (183, 0), (185, 0)] g (am_up h1479_z 164 45 (.int 0)) := ab_Fr_up rfl (ab_Fr_trans (ab_Fr_up rfl ab_Fr_refl) (ab_Fr_sub (by decide) GF))
        have Z2 : rs 2 h1473_z (am_up h1479_z 164 45 (.int 0)) := rs_keep Zk ((show rg_v h1473_z 44 13 = np from ((rg_v_fr PF (by decide)).trans (show rg_v (am_up h 11 0 (.int (kn + 1))) 44 13 = np from z1_z))).trans z1_z.symm) ((show rg_v (am_up h1479_z 164 45 (.int 0)) 164 41 = np from (show rg_v (am_up h1479_z 164 45 (.int 0)) 164 41 = np from ((rg_v_fr GF (by decide)).trans (show rg_v (am_up g 164 44 (.int (kn + 1))) 164 41 = np from z2_z)))).trans z2_z.symm) ((show rg_v h1473_z 44 14 = op from ((rg_v_fr PF (by decide)).trans (show rg_v (am_up h 11 0 (.int (kn + 1))) 44 14 = op from z4_z))).trans z4_z.symm) ((show rg_v (am_up h1479_z 164 45 (.int 0)) 164 43 = op from (show rg_v (am_up h1479_z 164 45 (.int 0)) 164 43 = op from ((rg_v_fr GF (by decide)).trans (show rg_v (am_up g 164 44 (.int (kn + 1))) 164 43 = op from z5_z)))).trans z5_z.symm) (show (rg_v h 11 0).toInt ≤ (rg_v h1473_z 11 0).toInt by rw [(show rg_v h1473_z 11 0 = kn + 1 from ((rg_v_fr PF (by decide)).trans (show rg_v (am_up h 11 0 (.int (kn + 1))) 11 0 = kn + 1 from rfl))), ekn]; omega) (fun k => rg_v_fr FC47 (rg_v_in (by decide) k)) (fun k => rg_v_fr FM184 (rg_v_in (by decide) k))
        replace Z2 := rs_fr (by decide) Z2 t5_z t6_z
        have e45_z : rg_v h1482_z 164 45 = 0 := (rg_v_fr t6_z (by decide)).trans (show rg_v (am_up h1479_z 164 45 (.int 0)) 164 45 = 0 from (show rg_v (am_up h1479_z 164 45 (.int 0)) 164 45 = 0 from rfl))
        have e46_z : rg_v h1482_z 164 46 = 0 := (rg_v_fr t6_z (by decide)).trans (show rg_v (am_up h1479_z 164 45 (.int 0)) 164 46 = 0 from (show rg_v (am_up h1479_z 164 45 (.int 0)) 164 46 = 0 from ((rg_v_fr GF (by decide)).trans (show rg_v (am_up g 164 44 (.int (kn + 1))) 164 46 = 0 from w2_z))))
        replace hm_z : rn _ _ _ _ [] _ _ _ := hm_z
        replace hc_z : rn _ _ _ _ [] _ _ _ := hc_z
        replace hc_z := rn_iconst (w := 2) (am_cur_of (i := (176, 1, .iconst 2, (0, 0, 0), 0)) (by decide +kernel)) (by decide) hc_z
        replace hc_z := rn_iret (am_cur_of (i := (177, 1, .ireturn, (0, 0, 0), 0)) (by decide +kernel)) hc_z
        obtain ⟨e1484_z, e1485_z⟩ := hc_z
        replace hm_z := rn_iconst (w := 1) (am_cur_of (i := (173, 1, .iconst 1, (0, 0, 0), 0)) (by decide +kernel)) (by decide) hm_z
        replace hm_z := rn_iret (am_cur_of (i := (174, 1, .ireturn, (0, 0, 0), 0)) (by decide +kernel)) hm_z
        obtain ⟨e1486_z, e1487_z⟩ := hm_z
        subst e1484_z e1485_z e1486_z e1487_z
        exact Or.inl ⟨_, x2_z, p2_z, rfl, rfl, R2, le2_z, A2, B2, Z2, Or.inr (Or.inr ⟨rfl, e45_z⟩)⟩
  · have g0_z : am_get (lv_args 0 [.ref 44, .int 1]) 0 = some (.ref 44) := rfl
    have g1_z : am_get (lv_args 0 [.ref 44, .int 1]) 1 = some (.int 1) := rfl
    have g0m : am_get (lv_args 0 [.ref 164]) 0 = some (.ref 164) := rfl
    have Rk := R
    have Zk := Z
    obtain ⟨⟨c1_z, c2_z, c3_z, c4_z, c5_z, c6_z, c7_z, c8_z⟩, ⟨m2_z, m3_z, m4_z, m5_z, m6_z, m7_z, m8_z⟩, R3, R4, R5, R6, R7, R8, R9, R10⟩ := (R : rq T S x p 2 h g)
    obtain ⟨np, op, z1_z, z2_z, z3_z, z4_z, z5_z, z6_z, z7_z, z8_z, z9_z, z10_z⟩ := (Z : rs 2 h g)
    obtain ⟨nk1_z, nk2_z, nk3_z⟩ := A.2.2.2.2.2.1
    replace nk1_z : rg_v h 11 0 = rg_v g 164 44 := nk1_z
    replace nk2_z : 0 ≤ (rg_v h 11 0).toInt := nk2_z
    replace nk3_z : (rg_v h 11 0).toInt ≤ 64 := nk3_z
    replace z8_z : np.toInt ≤ (rg_v h 11 0).toInt + op.toInt := z8_z
    obtain ⟨kn, ekn⟩ : ∃ v, rg_v h 11 0 = v := ⟨_, rfl⟩
    rw [ekn] at nk1_z nk2_z nk3_z z8_z
    have e9_z := rt_c1 (x := kn) (by omega) (by omega)
    replace hc_z := rn_aload_n (am_cur_of (i := (0, 1, .aload_n 0, (0, 0, 0), 0)) (by decide +kernel)) g0_z hc_z
    replace hc_z := rn_getI (v := 2) (am_cur_of (i := (1, 3, .getfield 60, (4, 10, 419), 0)) (by decide +kernel)) (by decide +kernel) ka hc_z
    replace hc_z := rn_bipush (w := 6) (am_cur_of (i := (4, 2, .bipush 6, (0, 0, 0), 0)) (by decide +kernel)) (by decide) hc_z
    replace hc_z := rn_cmpT (am_cur_of (i := (6, 3, .if_icmp .ne 30, (19, 0, 0), 0)) (by decide +kernel)) (by decide) hc_z
    replace hc_z := rn_aload_n (am_cur_of (i := (36, 1, .aload_n 0, (0, 0, 0), 0)) (by decide +kernel)) g0_z hc_z
    replace hc_z := rn_bipush (w := 40) (am_cur_of (i := (37, 2, .bipush 40, (0, 0, 0), 0)) (by decide +kernel)) (by decide) hc_z
    replace hc_z := rn_callV (M' := am_m45) (o := 44) (ar := [.int 40]) (rest := []) (L := lv_args 0 [.ref 44, .int 40]) (am_cur_of (i := (39, 3, .invokevirtual 105, (45, 834, 3), 0)) (by decide +kernel)) rfl rfl rfl rfl hc_z
    obtain ⟨r1488_z, h1489_z, q1490_z, hc_z⟩ := hc_z
    obtain ⟨rfl, yq1490_z⟩ := rp_mkN (fun q => absurd (Eq.trans (Eq.symm ka) q.1) (by decide)) q1490_z
    subst yq1490_z
    replace hc_z : rn _ _ _ _ [.int 0] _ _ _ := hc_z
    replace hc_z := rn_ifT (am_cur_of (i := (42, 3, .ifCond .eq 38, (43, 0, 0), 0)) (by decide +kernel)) (by decide) hc_z
    replace hc_z := rn_aload_n (am_cur_of (i := (80, 1, .aload_n 0, (0, 0, 0), 0)) (by decide +kernel)) g0_z hc_z
    replace hc_z := rn_getI (v := 2) (am_cur_of (i := (81, 3, .getfield 60, (4, 10, 419), 0)) (by decide +kernel)) (by decide +kernel) ka hc_z
    replace hc_z := rn_iconst (w := 4) (am_cur_of (i := (84, 1, .iconst 4, (0, 0, 0), 0)) (by decide +kernel)) (by decide) hc_z
    replace hc_z := rn_cmpT (am_cur_of (i := (85, 3, .if_icmp .ne 40, (64, 0, 0), 0)) (by decide +kernel)) (by decide) hc_z
    replace hc_z := rn_aload_n (am_cur_of (i := (125, 1, .aload_n 0, (0, 0, 0), 0)) (by decide +kernel)) g0_z hc_z
    replace hc_z := rn_getI (v := 2) (am_cur_of (i := (126, 3, .getfield 60, (4, 10, 419), 0)) (by decide +kernel)) (by decide +kernel) ka hc_z
    replace hc_z := rn_iconst (w := 2) (am_cur_of (i := (129, 1, .iconst 2, (0, 0, 0), 0)) (by decide +kernel)) (by decide) hc_z
    replace hc_z := rn_cmpF (am_cur_of (i := (130, 3, .if_icmp .ne 37, (84, 0, 0), 0)) (by decide +kernel)) (by decide) hc_z
    replace hc_z := rn_aload_n (am_cur_of (i := (133, 1, .aload_n 0, (0, 0, 0), 0)) (by decide +kernel)) g0_z hc_z
    replace hc_z := rn_getI (v := 13) (am_cur_of (i := (134, 3, .getfield 91, (4, 11, 420), 0)) (by decide +kernel)) (by decide +kernel) kb hc_z
    replace hc_z := rn_bipush (w := 11) (am_cur_of (i := (137, 2, .bipush 11, (0, 0, 0), 0)) (by decide +kernel)) (by decide) hc_z
    replace hc_z := rn_cmpF (am_cur_of (i := (139, 3, .if_icmp .lt 28, (84, 0, 0), 0)) (by decide +kernel)) (by decide) hc_z
    replace hc_z := rn_aload_n (am_cur_of (i := (142, 1, .aload_n 0, (0, 0, 0), 0)) (by decide +kernel)) g0_z hc_z
    replace hc_z := rn_callV (M' := am_m49) (o := 44) (ar := []) (rest := []) (L := lv_args 0 [.ref 44]) (am_cur_of (i := (143, 3, .invokevirtual 270, (49, 852, 3), 0)) (by decide +kernel)) rfl rfl rfl rfl hc_z
    obtain ⟨r1491_z, h1492_z, q1493_z, hc_z⟩ := hc_z
    rcases rs_ck2 R4 (show h 44 6 = .ref 2 from R3) q1493_z with ⟨ge, rfl, eh⟩ | ⟨lt, rfl, eh⟩
    · subst eh
      replace ge : 64 ≤ kn.toInt := by rw [← ekn]; exact ge
      replace hc_z : rn _ _ _ _ [] _ _ _ := hc_z
      have K := rs_stick (w := 2) (q := p) (a := 51) (by decide) (by decide) rfl (by decide) rfl (show rg_v (am_up (am_up h 44 1 (.int 2)) 44 2 (.int (rg_v h 44 9))) 44 2 = p from R5) hc_z
      replace hm_z := rn_aload_n (am_cur_of (i := (0, 1, .aload_n 0, (0, 0, 0), 0)) (by decide +kernel)) g0m hm_z
      replace hm_z := rn_bipush (w := 40) (am_cur_of (i := (1, 2, .bipush 40, (0, 0, 0), 0)) (by decide +kernel)) (by decide) hm_z
      replace hm_z := rn_callV (M' := am_m171) (o := 164) (ar := [.int 40]) (rest := []) (L := lv_args 0 [.ref 164, .int 40]) (am_cur_of (i := (3, 3, .invokevirtual 194, (171, 1715, 3), 0)) (by decide +kernel)) rfl rfl rfl rfl hm_z
      obtain ⟨r1494_z, h1495_z, q1496_z, hm_z⟩ := hm_z
      obtain ⟨rfl, yq1496_z⟩ := rp_sgN (fun q => absurd (Eq.trans (Eq.symm kc) q.1) (by decide)) q1496_z
      subst yq1496_z
      replace hm_z : rn _ _ _ _ [.int 0] _ _ _ := hm_z
      replace hm_z := rn_ifT (am_cur_of (i := (6, 3, .ifCond .eq 44, (28, 0, 0), 0)) (by decide +kernel)) (by decide) hm_z
      replace hm_z := rn_aload_n (am_cur_of (i := (50, 1, .aload_n 0, (0, 0, 0), 0)) (by decide +kernel)) g0m hm_z
      replace hm_z := rn_bipush (w := 14) (am_cur_of (i := (51, 2, .bipush 14, (0, 0, 0), 0)) (by decide +kernel)) (by decide) hm_z
      replace hm_z := rn_callV (M' := am_m174) (o := 164) (ar := [.int 14]) (rest := []) (L := lv_args 0 [.ref 164, .int 14]) (am_cur_of (i := (53, 3, .invokevirtual 306, (174, 1727, 3), 0)) (by decide +kernel)) rfl rfl rfl rfl hm_z
      obtain ⟨r1497_z, h1498_z, q1499_z, hm_z⟩ := hm_z
      obtain ⟨rfl, yq1499_z⟩ := rp_kyN (fun q => absurd (Eq.trans (Eq.symm kd) q.2) (by decide)) q1499_z
      subst yq1499_z
      replace hm_z : rn _ _ _ _ [.int 0] _ _ _ := hm_z
      replace hm_z := rn_ifT (am_cur_of (i := (56, 3, .ifCond .eq 30, (47, 0, 0), 0)) (by decide +kernel)) (by decide) hm_z
      replace hm_z := rn_aload_n (am_cur_of (i := (86, 1, .aload_n 0, (0, 0, 0), 0)) (by decide +kernel)) g0m hm_z
      replace hm_z := rn_callV (M' := am_m176) (o := 164) (ar := []) (rest := []) (L := lv_args 0 [.ref 164]) (am_cur_of (i := (87, 3, .invokevirtual 312, (176, 1735, 3), 0)) (by decide +kernel)) rfl rfl rfl rfl hm_z
      obtain ⟨r1500_z, h1501_z, q1502_z, hm_z⟩ := hm_z
      obtain ⟨rfl, yq1502_z⟩ := rp_nm (c := 1) (d := 16) kc kd q1502_z
      replace yq1502_z := yq1502_z.symm
      subst yq1502_z
      rw [show rp_nmf 1 16 = 1 from by decide] at hm_z
      replace hm_z : rn _ _ _ _ [.int 1] _ _ _ := hm_z
      replace hm_z := rn_istore_n (am_cur_of (i := (90, 1, .istore_n 1, (0, 0, 0), 0)) (by decide +kernel)) hm_z
      obtain ⟨_, s1503_z, s1504_z, g1m, hm_z⟩ := hm_z
      replace g0m := s1503_z 0 _ (by decide) rfl g0m
      clear s1503_z s1504_z
      replace hm_z := rn_iload_n (am_cur_of (i := (91, 1, .iload_n 1, (0, 0, 0), 0)) (by decide +kernel)) g1m hm_z
      replace hm_z := rn_ifT (am_cur_of (i := (92, 3, .ifCond .ge 17, (60, 0, 0), 0)) (by decide +kernel)) (by decide) hm_z
      replace hm_z := rn_iload_n (am_cur_of (i := (109, 1, .iload_n 1, (0, 0, 0), 0)) (by decide +kernel)) g1m hm_z
      replace hm_z := rn_ifT (am_cur_of (i := (110, 3, .ifCond .ge 19, (70, 0, 0), 0)) (by decide +kernel)) (by decide) hm_z
      replace hm_z := rn_aload_n (am_cur_of (i := (129, 1, .aload_n 0, (0, 0, 0), 0)) (by decide +kernel)) g0m hm_z
      replace hm_z := rn_callV (M' := am_m175) (o := 164) (ar := []) (rest := []) (L := lv_args 0 [.ref 164]) (am_cur_of (i := (130, 3, .invokevirtual 309, (175, 1731, 3), 0)) (by decide +kernel)) rfl rfl rfl rfl hm_z
      obtain ⟨r1505_z, h1506_z, q1507_z, hm_z⟩ := hm_z
      rcases rs_ic q1507_z with ⟨i1_z, rfl, i3_z⟩ | ⟨i1_z, -⟩
      · subst i3_z
        replace hm_z : rn _ _ _ _ [.int 0] _ _ _ := hm_z
        replace hm_z := rn_ifF (am_cur_of (i := (133, 3, .ifCond .ne 5, (75, 0, 0), 0)) (by decide +kernel)) (by decide) hm_z
        replace hm_z := rn_iconst (w := 0) (am_cur_of (i := (136, 1, .iconst 0, (0, 0, 0), 0)) (by decide +kernel)) (by decide) hm_z
        replace hm_z := rn_iret (am_cur_of (i := (137, 1, .ireturn, (0, 0, 0), 0)) (by decide +kernel)) hm_z
        obtain ⟨e1508_z, e1509_z⟩ := hm_z
        subst e1508_z e1509_z
        exact (Or.inr ⟨rfl, 2, by decide, K.1, K.2, rfl, R6⟩)
      · exact absurd (Int32.toInt_inj.mp (show (rg_v g 164 44).toInt = (64 : Int32).toInt from by rw [show rg_v g 164 44 = kn from nk1_z.symm, show (64 : Int32).toInt = 64 by decide]; omega)) i1_z
    · subst eh
      replace lt : kn.toInt < 64 := by rw [← ekn]; exact lt
      rw [show rg_v h 11 0 = kn from ekn] at hc_z
      replace hm_z := rn_aload_n (am_cur_of (i := (0, 1, .aload_n 0, (0, 0, 0), 0)) (by decide +kernel)) g0m hm_z
      replace hm_z := rn_bipush (w := 40) (am_cur_of (i := (1, 2, .bipush 40, (0, 0, 0), 0)) (by decide +kernel)) (by decide) hm_z
      replace hm_z := rn_callV (M' := am_m171) (o := 164) (ar := [.int 40]) (rest := []) (L := lv_args 0 [.ref 164, .int 40]) (am_cur_of (i := (3, 3, .invokevirtual 194, (171, 1715, 3), 0)) (by decide +kernel)) rfl rfl rfl rfl hm_z
      obtain ⟨r1510_z, h1511_z, q1512_z, hm_z⟩ := hm_z
      obtain ⟨rfl, yq1512_z⟩ := rp_sgN (fun q => absurd (Eq.trans (Eq.symm kc) q.1) (by decide)) q1512_z
      subst yq1512_z
      replace hm_z : rn _ _ _ _ [.int 0] _ _ _ := hm_z
      replace hm_z := rn_ifT (am_cur_of (i := (6, 3, .ifCond .eq 44, (28, 0, 0), 0)) (by decide +kernel)) (by decide) hm_z
      replace hm_z := rn_aload_n (am_cur_of (i := (50, 1, .aload_n 0, (0, 0, 0), 0)) (by decide +kernel)) g0m hm_z
      replace hm_z := rn_bipush (w := 14) (am_cur_of (i := (51, 2, .bipush 14, (0, 0, 0), 0)) (by decide +kernel)) (by decide) hm_z
      replace hm_z := rn_callV (M' := am_m174) (o := 164) (ar := [.int 14]) (rest := []) (L := lv_args 0 [.ref 164, .int 14]) (am_cur_of (i := (53, 3, .invokevirtual 306, (174, 1727, 3), 0)) (by decide +kernel)) rfl rfl rfl rfl hm_z
      obtain ⟨r1513_z, h1514_z, q1515_z, hm_z⟩ := hm_z
      obtain ⟨rfl, yq1515_z⟩ := rp_kyN (fun q => absurd (Eq.trans (Eq.symm kd) q.2) (by decide)) q1515_z
      subst yq1515_z
      replace hm_z : rn _ _ _ _ [.int 0] _ _ _ := hm_z
      replace hm_z := rn_ifT (am_cur_of (i := (56, 3, .ifCond .eq 30, (47, 0, 0), 0)) (by decide +kernel)) (by decide) hm_z
      replace hm_z := rn_aload_n (am_cur_of (i := (86, 1, .aload_n 0, (0, 0, 0), 0)) (by decide +kernel)) g0m hm_z
      replace hm_z := rn_callV (M' := am_m176) (o := 164) (ar := []) (rest := []) (L := lv_args 0 [.ref 164]) (am_cur_of (i := (87, 3, .invokevirtual 312, (176, 1735, 3), 0)) (by decide +kernel)) rfl rfl rfl rfl hm_z
      obtain ⟨r1516_z, h1517_z, q1518_z, hm_z⟩ := hm_z
      obtain ⟨rfl, yq1518_z⟩ := rp_nm (c := 1) (d := 16) kc kd q1518_z
      replace yq1518_z := yq1518_z.symm
      subst yq1518_z
      rw [show rp_nmf 1 16 = 1 from by decide] at hm_z
      replace hm_z : rn _ _ _ _ [.int 1] _ _ _ := hm_z
      replace hm_z := rn_istore_n (am_cur_of (i := (90, 1, .istore_n 1, (0, 0, 0), 0)) (by decide +kernel)) hm_z
      obtain ⟨_, s1519_z, s1520_z, g1m, hm_z⟩ := hm_z
      replace g0m := s1519_z 0 _ (by decide) rfl g0m
      clear s1519_z s1520_z
      replace hm_z := rn_iload_n (am_cur_of (i := (91, 1, .iload_n 1, (0, 0, 0), 0)) (by decide +kernel)) g1m hm_z
      replace hm_z := rn_ifT (am_cur_of (i := (92, 3, .ifCond .ge 17, (60, 0, 0), 0)) (by decide +kernel)) (by decide) hm_z
      replace hm_z := rn_iload_n (am_cur_of (i := (109, 1, .iload_n 1, (0, 0, 0), 0)) (by decide +kernel)) g1m hm_z
      replace hm_z := rn_ifT (am_cur_of (i := (110, 3, .ifCond .ge 19, (70, 0, 0), 0)) (by decide +kernel)) (by decide) hm_z
      replace hm_z := rn_aload_n (am_cur_of (i := (129, 1, .aload_n 0, (0, 0, 0), 0)) (by decide +kernel)) g0m hm_z
      replace hm_z := rn_callV (M' := am_m175) (o := 164) (ar := []) (rest := []) (L := lv_args 0 [.ref 164]) (am_cur_of (i := (130, 3, .invokevirtual 309, (175, 1731, 3), 0)) (by decide +kernel)) rfl rfl rfl rfl hm_z
      obtain ⟨r1521_z, h1522_z, q1523_z, hm_z⟩ := hm_z
      rcases rs_ic q1523_z with ⟨i1_z, -⟩ | ⟨i1_z, rfl, i3_z⟩
      · exfalso
        have zz := congrArg Int32.toInt i1_z
        rw [show rg_v g 164 44 = kn from nk1_z.symm, show (64 : Int32).toInt = 64 by decide] at zz
        omega
      · subst i3_z
        rw [show rg_v g 164 44 = kn from nk1_z.symm] at hm_z
        replace hm_z : rn _ _ _ _ [.int 1] _ _ _ := hm_z
        replace hc_z : rn _ _ _ _ [] _ _ _ := hc_z
        replace hc_z := rn_aload_n (am_cur_of (i := (146, 1, .aload_n 0, (0, 0, 0), 0)) (by decide +kernel)) g0_z hc_z
        replace hc_z := rn_getM (x := 2) (am_cur_of (i := (147, 3, .getfield 25, (4, 6, 415), 0)) (by decide +kernel)) (show (am_up h 11 0 (.int (kn + 1))) 44 6 = .ref 2 from R3) hc_z
        replace hc_z := rn_getR (x := 11) (am_cur_of (i := (150, 3, .getfield 242, (1, 19, 316), 0)) (by decide +kernel)) (by decide +kernel) hc_z
        replace hc_z := rn_iconst (w := 1) (am_cur_of (i := (153, 1, .iconst 1, (0, 0, 0), 0)) (by decide +kernel)) (by decide) hc_z
        replace hc_z := rn_aload_n (am_cur_of (i := (154, 1, .aload_n 0, (0, 0, 0), 0)) (by decide +kernel)) g0_z hc_z
        replace hc_z := rn_getI (v := 13) (am_cur_of (i := (155, 3, .getfield 91, (4, 11, 420), 0)) (by decide +kernel)) (by decide +kernel) (show rg_v (am_up h 11 0 (.int (kn + 1))) 44 11 = 13 from kb) hc_z
        replace hc_z := rn_bipush (w := 11) (am_cur_of (i := (158, 2, .bipush 11, (0, 0, 0), 0)) (by decide +kernel)) (by decide) hc_z
        replace hc_z := rn_isub (w := 2) (am_cur_of (i := (160, 1, .isub, (0, 0, 0), 0)) (by decide +kernel)) (by decide) hc_z
        replace hc_z := rn_callV (M' := am_m48) (o := 11) (ar := [.int 2, .int 1]) (rest := []) (L := lv_args 0 [.ref 11, .int 1, .int 2]) (am_cur_of (i := (161, 3, .invokevirtual 276, (48, 845, 3), 0)) (by decide +kernel)) rfl rfl rfl rfl hc_z
        obtain ⟨r1524_z, h1525_z, q1526_z, hc_z⟩ := hc_z
        obtain ⟨rfl, PF⟩ := rs_put2 q1526_z
        replace hc_z : rn _ _ _ _ [] _ _ _ := hc_z
        replace hc_z := rn_goto (am_cur_of (i := (164, 3, .goto 8, (87, 0, 0), 0)) (by decide +kernel)) hc_z
        replace hc_z := rn_aload_n (am_cur_of (i := (172, 1, .aload_n 0, (0, 0, 0), 0)) (by decide +kernel)) g0_z hc_z
        replace hc_z := rn_callV (M' := am_m19) (o := 44) (ar := []) (rest := []) (L := lv_args 0 [.ref 44]) (am_cur_of (i := (173, 3, .invokevirtual 57, (19, 727, 3), 0)) (by decide +kernel)) rfl rfl rfl rfl hc_z
        obtain ⟨r1527_z, h1528_z, q1529_z, hc_z⟩ := hc_z
        have vo := rn_void rfl q1529_z
        subst vo
        replace hm_z := rn_ifT (am_cur_of (i := (133, 3, .ifCond .ne 5, (75, 0, 0), 0)) (by decide +kernel)) (by decide) hm_z
        replace hm_z := rn_aload_n (am_cur_of (i := (138, 1, .aload_n 0, (0, 0, 0), 0)) (by decide +kernel)) g0m hm_z
        replace hm_z := rn_iload_n (am_cur_of (i := (139, 1, .iload_n 1, (0, 0, 0), 0)) (by decide +kernel)) g1m hm_z
        replace hm_z := rn_ifF (am_cur_of (i := (140, 3, .ifCond .lt 7, (80, 0, 0), 0)) (by decide +kernel)) (by decide) hm_z
        replace hm_z := rn_iconst (w := 1) (am_cur_of (i := (143, 1, .iconst 1, (0, 0, 0), 0)) (by decide +kernel)) (by decide) hm_z
        replace hm_z := rn_goto (am_cur_of (i := (144, 3, .goto 4, (81, 0, 0), 0)) (by decide +kernel)) hm_z
        replace hm_z := rn_iload_n (am_cur_of (i := (148, 1, .iload_n 1, (0, 0, 0), 0)) (by decide +kernel)) g1m hm_z
        replace hm_z := rn_ifF (am_cur_of (i := (149, 3, .ifCond .lt 7, (85, 0, 0), 0)) (by decide +kernel)) (by decide) hm_z
        replace hm_z := rn_iload_n (am_cur_of (i := (152, 1, .iload_n 1, (0, 0, 0), 0)) (by decide +kernel)) g1m hm_z
        replace hm_z := rn_goto (am_cur_of (i := (153, 3, .goto 7, (87, 0, 0), 0)) (by decide +kernel)) hm_z
        replace hm_z := rn_iconst (w := 0) (am_cur_of (i := (160, 1, .iconst 0, (0, 0, 0), 0)) (by decide +kernel)) (by decide) hm_z
        replace hm_z := rn_callV (M' := am_m177) (o := 164) (ar := [.int 0, .int 1, .int 1]) (rest := []) (L := lv_args 0 [.ref 164, .int 1, .int 1, .int 0]) (am_cur_of (i := (161, 3, .invokevirtual 291, (177, 1739, 3), 0)) (by decide +kernel)) rfl rfl rfl rfl hm_z
        obtain ⟨r1530_z, h1531_z, q1532_z, hm_z⟩ := hm_z
        obtain ⟨rfl, GF⟩ := rs_grown q1532_z
        replace hm_z : rn _ _ _ _ [] _ _ _ := hm_z
        replace hm_z := rn_aload_n (am_cur_of (i := (164, 1, .aload_n 0, (0, 0, 0), 0)) (by decide +kernel)) g0m hm_z
        replace hm_z := rn_iconst (w := 0) (am_cur_of (i := (165, 1, .iconst 0, (0, 0, 0), 0)) (by decide +kernel)) (by decide) hm_z
        replace hm_z := rn_put (am_cur_of (i := (166, 3, .putfield 315, (12, 45, 1429), 0)) (by decide +kernel)) (by decide +kernel) hm_z
        replace hm_z := rn_aload_n (am_cur_of (i := (169, 1, .aload_n 0, (0, 0, 0), 0)) (by decide +kernel)) g0m hm_z
        replace hm_z := rn_callV (M' := am_m151) (o := 164) (ar := []) (rest := []) (L := lv_args 0 [.ref 164]) (am_cur_of (i := (170, 3, .invokevirtual 191, (151, 1636, 3), 0)) (by decide +kernel)) rfl rfl rfl rfl hm_z
        obtain ⟨r1533_z, h1534_z, q1535_z, hm_z⟩ := hm_z
        have vo := rn_void rfl q1535_z
        subst vo
        have FC : ab_Fr (rz_MC2.drop 1) h h1525_z := ab_Fr_trans (ab_Fr_up rfl ab_Fr_refl) (ab_Fr_sub (by decide) PF)
        have FC' : ab_Fr rz_MC2 h h1525_z := ab_Fr_sub (by decide) FC
        have FM : ab_Fr rz_MM g (am_up h1531_z 164 45 (.int 0)) := ab_Fr_up rfl (ab_Fr_trans (ab_Fr_up rfl ab_Fr_refl) (ab_Fr_sub (by decide) GF))
        obtain ⟨-, -, x2_z, p2_z, R2, le2_z, t5_z, t6_z⟩ := pr_tok (rz_q02 (rq_0 Rk) FC' FM) q1529_z q1535_z
        have A2 := rp_x (by decide) (rz_p2 A FC' FM ((show rg_v h1525_z 11 0 = kn + 1 from ((rg_v_fr PF (by decide)).trans (show rg_v (am_up h 11 0 (.int (kn + 1))) 11 0 = kn + 1 from rfl))).trans (show rg_v (am_up h1531_z 164 45 (.int 0)) 164 44 = kn + 1 from (show rg_v (am_up h1531_z 164 45 (.int 0)) 164 44 = kn + 1 from ((rg_v_fr GF (by decide)).trans (show rg_v (am_up g 164 44 (.int (kn + 1))) 164 44 = kn + 1 from rfl)))).symm) (by rw [show rg_v h1525_z 11 0 = kn + 1 from ((rg_v_fr PF (by decide)).trans (show rg_v (am_up h 11 0 (.int (kn + 1))) 11 0 = kn + 1 from rfl))]; omega) (by rw [show rg_v h1525_z 11 0 = kn + 1 from ((rg_v_fr PF (by decide)).trans (show rg_v (am_up h 11 0 (.int (kn + 1))) 11 0 = kn + 1 from rfl))]; omega)) (rx_C_f t5_z) (rx_M_f t6_z)
        have B2 := rp_tk (rz_t2 B FC FM) (rg_v_fr t5_z (by decide)) (fun k => rg_v_fr t6_z (rg_v_in (by decide) k)) (rx_M_f t6_z)
        have FC47 : ab_Fr [(44, 14), (44, 15), (11, 1), (11, 2), (12, 0), (13, 0)] h h1525_z := ab_Fr_trans (ab_Fr_up rfl ab_Fr_refl) (ab_Fr_sub (by decide) PF)
        have FM184 : ab_Fr [(164, 42), (164, 43), (164, 44), (164, 45), (164, 46), (164, 47), (164, 22), (181, 0), (182, 0), (183, 0), (185, 0)] g (am_up h1531_z 164 45 (.int 0)) := ab_Fr_up rfl (ab_Fr_trans (ab_Fr_up rfl ab_Fr_refl) (ab_Fr_sub (by decide) GF))
        have Z2 : rs 2 h1525_z (am_up h1531_z 164 45 (.int 0)) := rs_keep Zk ((show rg_v h1525_z 44 13 = np from ((rg_v_fr PF (by decide)).trans (show rg_v (am_up h 11 0 (.int (kn + 1))) 44 13 = np from z1_z))).trans z1_z.symm) ((show rg_v (am_up h1531_z 164 45 (.int 0)) 164 41 = np from (show rg_v (am_up h1531_z 164 45 (.int 0)) 164 41 = np from ((rg_v_fr GF (by decide)).trans (show rg_v (am_up g 164 44 (.int (kn + 1))) 164 41 = np from z2_z)))).trans z2_z.symm) ((show rg_v h1525_z 44 14 = op from ((rg_v_fr PF (by decide)).trans (show rg_v (am_up h 11 0 (.int (kn + 1))) 44 14 = op from z4_z))).trans z4_z.symm) ((show rg_v (am_up h1531_z 164 45 (.int 0)) 164 43 = op from (show rg_v (am_up h1531_z 164 45 (.int 0)) 164 43 = op from ((rg_v_fr GF (by decide)).trans (show rg_v (am_up g 164 44 (.int (kn + 1))) 164 43 = op from z5_z)))).trans z5_z.symm) (show (rg_v h 11 0).toInt ≤ (rg_v h1525_z 11 0).toInt by rw [(show rg_v h1525_z 11 0 = kn + 1 from ((rg_v_fr PF (by decide)).trans (show rg_v (am_up h 11 0 (.int (kn + 1))) 11 0 = kn + 1 from rfl))), ekn]; omega) (fun k => rg_v_fr FC47 (rg_v_in (by decide) k)) (fun k => rg_v_fr FM184 (rg_v_in (by decide) k))
        replace Z2 := rs_fr (by decide) Z2 t5_z t6_z
        have e45_z : rg_v h1534_z 164 45 = 0 := (rg_v_fr t6_z (by decide)).trans (show rg_v (am_up h1531_z 164 45 (.int 0)) 164 45 = 0 from (show rg_v (am_up h1531_z 164 45 (.int 0)) 164 45 = 0 from rfl))
        have e46_z : rg_v h1534_z 164 46 = 0 := (rg_v_fr t6_z (by decide)).trans (show rg_v (am_up h1531_z 164 45 (.int 0)) 164 46 = 0 from (show rg_v (am_up h1531_z 164 45 (.int 0)) 164 46 = 0 from ((rg_v_fr GF (by decide)).trans (show rg_v (am_up g 164 44 (.int (kn + 1))) 164 46 = 0 from w2_z))))
        replace hm_z : rn _ _ _ _ [] _ _ _ := hm_z
        replace hc_z : rn _ _ _ _ [] _ _ _ := hc_z
        replace hc_z := rn_iconst (w := 2) (am_cur_of (i := (176, 1, .iconst 2, (0, 0, 0), 0)) (by decide +kernel)) (by decide) hc_z
        replace hc_z := rn_iret (am_cur_of (i := (177, 1, .ireturn, (0, 0, 0), 0)) (by decide +kernel)) hc_z
        obtain ⟨e1536_z, e1537_z⟩ := hc_z
        replace hm_z := rn_iconst (w := 1) (am_cur_of (i := (173, 1, .iconst 1, (0, 0, 0), 0)) (by decide +kernel)) (by decide) hm_z
        replace hm_z := rn_iret (am_cur_of (i := (174, 1, .ireturn, (0, 0, 0), 0)) (by decide +kernel)) hm_z
        obtain ⟨e1538_z, e1539_z⟩ := hm_z
        subst e1536_z e1537_z e1538_z e1539_z
        exact Or.inl ⟨_, x2_z, p2_z, rfl, rfl, R2, le2_z, A2, B2, Z2, Or.inr (Or.inr ⟨rfl, e45_z⟩)⟩
  · have g0_z : am_get (lv_args 0 [.ref 44, .int 1]) 0 = some (.ref 44) := rfl
    have g1_z : am_get (lv_args 0 [.ref 44, .int 1]) 1 = some (.int 1) := rfl
    have g0m : am_get (lv_args 0 [.ref 164]) 0 = some (.ref 164) := rfl
    have Rk := R
    have Zk := Z
    obtain ⟨⟨c1_z, c2_z, c3_z, c4_z, c5_z, c6_z, c7_z, c8_z⟩, ⟨m2_z, m3_z, m4_z, m5_z, m6_z, m7_z, m8_z⟩, R3, R4, R5, R6, R7, R8, R9, R10⟩ := (R : rq T S x p 2 h g)
    obtain ⟨np, op, z1_z, z2_z, z3_z, z4_z, z5_z, z6_z, z7_z, z8_z, z9_z, z10_z⟩ := (Z : rs 2 h g)
    obtain ⟨nk1_z, nk2_z, nk3_z⟩ := A.2.2.2.2.2.1
    replace nk1_z : rg_v h 11 0 = rg_v g 164 44 := nk1_z
    replace nk2_z : 0 ≤ (rg_v h 11 0).toInt := nk2_z
    replace nk3_z : (rg_v h 11 0).toInt ≤ 64 := nk3_z
    replace z8_z : np.toInt ≤ (rg_v h 11 0).toInt + op.toInt := z8_z
    obtain ⟨kn, ekn⟩ : ∃ v, rg_v h 11 0 = v := ⟨_, rfl⟩
    rw [ekn] at nk1_z nk2_z nk3_z z8_z
    have e9_z := rt_c1 (x := kn) (by omega) (by omega)
    replace hc_z := rn_aload_n (am_cur_of (i := (0, 1, .aload_n 0, (0, 0, 0), 0)) (by decide +kernel)) g0_z hc_z
    replace hc_z := rn_getI (v := 2) (am_cur_of (i := (1, 3, .getfield 60, (4, 10, 419), 0)) (by decide +kernel)) (by decide +kernel) ka hc_z
    replace hc_z := rn_bipush (w := 6) (am_cur_of (i := (4, 2, .bipush 6, (0, 0, 0), 0)) (by decide +kernel)) (by decide) hc_z
    replace hc_z := rn_cmpT (am_cur_of (i := (6, 3, .if_icmp .ne 30, (19, 0, 0), 0)) (by decide +kernel)) (by decide) hc_z
    replace hc_z := rn_aload_n (am_cur_of (i := (36, 1, .aload_n 0, (0, 0, 0), 0)) (by decide +kernel)) g0_z hc_z
    replace hc_z := rn_bipush (w := 40) (am_cur_of (i := (37, 2, .bipush 40, (0, 0, 0), 0)) (by decide +kernel)) (by decide) hc_z
    replace hc_z := rn_callV (M' := am_m45) (o := 44) (ar := [.int 40]) (rest := []) (L := lv_args 0 [.ref 44, .int 40]) (am_cur_of (i := (39, 3, .invokevirtual 105, (45, 834, 3), 0)) (by decide +kernel)) rfl rfl rfl rfl hc_z
    obtain ⟨r1540_z, h1541_z, q1542_z, hc_z⟩ := hc_z
    obtain ⟨rfl, yq1542_z⟩ := rp_mkN (fun q => absurd (Eq.trans (Eq.symm ka) q.1) (by decide)) q1542_z
    subst yq1542_z
    replace hc_z : rn _ _ _ _ [.int 0] _ _ _ := hc_z
    replace hc_z := rn_ifT (am_cur_of (i := (42, 3, .ifCond .eq 38, (43, 0, 0), 0)) (by decide +kernel)) (by decide) hc_z
    replace hc_z := rn_aload_n (am_cur_of (i := (80, 1, .aload_n 0, (0, 0, 0), 0)) (by decide +kernel)) g0_z hc_z
    replace hc_z := rn_getI (v := 2) (am_cur_of (i := (81, 3, .getfield 60, (4, 10, 419), 0)) (by decide +kernel)) (by decide +kernel) ka hc_z
    replace hc_z := rn_iconst (w := 4) (am_cur_of (i := (84, 1, .iconst 4, (0, 0, 0), 0)) (by decide +kernel)) (by decide) hc_z
    replace hc_z := rn_cmpT (am_cur_of (i := (85, 3, .if_icmp .ne 40, (64, 0, 0), 0)) (by decide +kernel)) (by decide) hc_z
    replace hc_z := rn_aload_n (am_cur_of (i := (125, 1, .aload_n 0, (0, 0, 0), 0)) (by decide +kernel)) g0_z hc_z
    replace hc_z := rn_getI (v := 2) (am_cur_of (i := (126, 3, .getfield 60, (4, 10, 419), 0)) (by decide +kernel)) (by decide +kernel) ka hc_z
    replace hc_z := rn_iconst (w := 2) (am_cur_of (i := (129, 1, .iconst 2, (0, 0, 0), 0)) (by decide +kernel)) (by decide) hc_z
    replace hc_z := rn_cmpF (am_cur_of (i := (130, 3, .if_icmp .ne 37, (84, 0, 0), 0)) (by decide +kernel)) (by decide) hc_z
    replace hc_z := rn_aload_n (am_cur_of (i := (133, 1, .aload_n 0, (0, 0, 0), 0)) (by decide +kernel)) g0_z hc_z
    replace hc_z := rn_getI (v := 14) (am_cur_of (i := (134, 3, .getfield 91, (4, 11, 420), 0)) (by decide +kernel)) (by decide +kernel) kb hc_z
    replace hc_z := rn_bipush (w := 11) (am_cur_of (i := (137, 2, .bipush 11, (0, 0, 0), 0)) (by decide +kernel)) (by decide) hc_z
    replace hc_z := rn_cmpF (am_cur_of (i := (139, 3, .if_icmp .lt 28, (84, 0, 0), 0)) (by decide +kernel)) (by decide) hc_z
    replace hc_z := rn_aload_n (am_cur_of (i := (142, 1, .aload_n 0, (0, 0, 0), 0)) (by decide +kernel)) g0_z hc_z
    replace hc_z := rn_callV (M' := am_m49) (o := 44) (ar := []) (rest := []) (L := lv_args 0 [.ref 44]) (am_cur_of (i := (143, 3, .invokevirtual 270, (49, 852, 3), 0)) (by decide +kernel)) rfl rfl rfl rfl hc_z
    obtain ⟨r1543_z, h1544_z, q1545_z, hc_z⟩ := hc_z
    rcases rs_ck2 R4 (show h 44 6 = .ref 2 from R3) q1545_z with ⟨ge, rfl, eh⟩ | ⟨lt, rfl, eh⟩
    · subst eh
      replace ge : 64 ≤ kn.toInt := by rw [← ekn]; exact ge
      replace hc_z : rn _ _ _ _ [] _ _ _ := hc_z
      have K := rs_stick (w := 2) (q := p) (a := 51) (by decide) (by decide) rfl (by decide) rfl (show rg_v (am_up (am_up h 44 1 (.int 2)) 44 2 (.int (rg_v h 44 9))) 44 2 = p from R5) hc_z
      replace hm_z := rn_aload_n (am_cur_of (i := (0, 1, .aload_n 0, (0, 0, 0), 0)) (by decide +kernel)) g0m hm_z
      replace hm_z := rn_bipush (w := 40) (am_cur_of (i := (1, 2, .bipush 40, (0, 0, 0), 0)) (by decide +kernel)) (by decide) hm_z
      replace hm_z := rn_callV (M' := am_m171) (o := 164) (ar := [.int 40]) (rest := []) (L := lv_args 0 [.ref 164, .int 40]) (am_cur_of (i := (3, 3, .invokevirtual 194, (171, 1715, 3), 0)) (by decide +kernel)) rfl rfl rfl rfl hm_z
      obtain ⟨r1546_z, h1547_z, q1548_z, hm_z⟩ := hm_z
      obtain ⟨rfl, yq1548_z⟩ := rp_sgN (fun q => absurd (Eq.trans (Eq.symm kc) q.1) (by decide)) q1548_z
      subst yq1548_z
      replace hm_z : rn _ _ _ _ [.int 0] _ _ _ := hm_z
      replace hm_z := rn_ifT (am_cur_of (i := (6, 3, .ifCond .eq 44, (28, 0, 0), 0)) (by decide +kernel)) (by decide) hm_z
      replace hm_z := rn_aload_n (am_cur_of (i := (50, 1, .aload_n 0, (0, 0, 0), 0)) (by decide +kernel)) g0m hm_z
      replace hm_z := rn_bipush (w := 14) (am_cur_of (i := (51, 2, .bipush 14, (0, 0, 0), 0)) (by decide +kernel)) (by decide) hm_z
      replace hm_z := rn_callV (M' := am_m174) (o := 164) (ar := [.int 14]) (rest := []) (L := lv_args 0 [.ref 164, .int 14]) (am_cur_of (i := (53, 3, .invokevirtual 306, (174, 1727, 3), 0)) (by decide +kernel)) rfl rfl rfl rfl hm_z
      obtain ⟨r1549_z, h1550_z, q1551_z, hm_z⟩ := hm_z
      obtain ⟨rfl, yq1551_z⟩ := rp_kyN (fun q => absurd (Eq.trans (Eq.symm kd) q.2) (by decide)) q1551_z
      subst yq1551_z
      replace hm_z : rn _ _ _ _ [.int 0] _ _ _ := hm_z
      replace hm_z := rn_ifT (am_cur_of (i := (56, 3, .ifCond .eq 30, (47, 0, 0), 0)) (by decide +kernel)) (by decide) hm_z
      replace hm_z := rn_aload_n (am_cur_of (i := (86, 1, .aload_n 0, (0, 0, 0), 0)) (by decide +kernel)) g0m hm_z
      replace hm_z := rn_callV (M' := am_m176) (o := 164) (ar := []) (rest := []) (L := lv_args 0 [.ref 164]) (am_cur_of (i := (87, 3, .invokevirtual 312, (176, 1735, 3), 0)) (by decide +kernel)) rfl rfl rfl rfl hm_z
      obtain ⟨r1552_z, h1553_z, q1554_z, hm_z⟩ := hm_z
      obtain ⟨rfl, yq1554_z⟩ := rp_nm (c := 1) (d := 17) kc kd q1554_z
      replace yq1554_z := yq1554_z.symm
      subst yq1554_z
      rw [show rp_nmf 1 17 = 2 from by decide] at hm_z
      replace hm_z : rn _ _ _ _ [.int 2] _ _ _ := hm_z
      replace hm_z := rn_istore_n (am_cur_of (i := (90, 1, .istore_n 1, (0, 0, 0), 0)) (by decide +kernel)) hm_z
      obtain ⟨_, s1555_z, s1556_z, g1m, hm_z⟩ := hm_z
      replace g0m := s1555_z 0 _ (by decide) rfl g0m
      clear s1555_z s1556_z
      replace hm_z := rn_iload_n (am_cur_of (i := (91, 1, .iload_n 1, (0, 0, 0), 0)) (by decide +kernel)) g1m hm_z
      replace hm_z := rn_ifT (am_cur_of (i := (92, 3, .ifCond .ge 17, (60, 0, 0), 0)) (by decide +kernel)) (by decide) hm_z
      replace hm_z := rn_iload_n (am_cur_of (i := (109, 1, .iload_n 1, (0, 0, 0), 0)) (by decide +kernel)) g1m hm_z
      replace hm_z := rn_ifT (am_cur_of (i := (110, 3, .ifCond .ge 19, (70, 0, 0), 0)) (by decide +kernel)) (by decide) hm_z
      replace hm_z := rn_aload_n (am_cur_of (i := (129, 1, .aload_n 0, (0, 0, 0), 0)) (by decide +kernel)) g0m hm_z
      replace hm_z := rn_callV (M' := am_m175) (o := 164) (ar := []) (rest := []) (L := lv_args 0 [.ref 164]) (am_cur_of (i := (130, 3, .invokevirtual 309, (175, 1731, 3), 0)) (by decide +kernel)) rfl rfl rfl rfl hm_z
      obtain ⟨r1557_z, h1558_z, q1559_z, hm_z⟩ := hm_z
      rcases rs_ic q1559_z with ⟨i1_z, rfl, i3_z⟩ | ⟨i1_z, -⟩
      · subst i3_z
        replace hm_z : rn _ _ _ _ [.int 0] _ _ _ := hm_z
        replace hm_z := rn_ifF (am_cur_of (i := (133, 3, .ifCond .ne 5, (75, 0, 0), 0)) (by decide +kernel)) (by decide) hm_z
        replace hm_z := rn_iconst (w := 0) (am_cur_of (i := (136, 1, .iconst 0, (0, 0, 0), 0)) (by decide +kernel)) (by decide) hm_z
        replace hm_z := rn_iret (am_cur_of (i := (137, 1, .ireturn, (0, 0, 0), 0)) (by decide +kernel)) hm_z
        obtain ⟨e1560_z, e1561_z⟩ := hm_z
        subst e1560_z e1561_z
        exact (Or.inr ⟨rfl, 2, by decide, K.1, K.2, rfl, R6⟩)
      · exact absurd (Int32.toInt_inj.mp (show (rg_v g 164 44).toInt = (64 : Int32).toInt from by rw [show rg_v g 164 44 = kn from nk1_z.symm, show (64 : Int32).toInt = 64 by decide]; omega)) i1_z
    · subst eh
      replace lt : kn.toInt < 64 := by rw [← ekn]; exact lt
      rw [show rg_v h 11 0 = kn from ekn] at hc_z
      replace hm_z := rn_aload_n (am_cur_of (i := (0, 1, .aload_n 0, (0, 0, 0), 0)) (by decide +kernel)) g0m hm_z
      replace hm_z := rn_bipush (w := 40) (am_cur_of (i := (1, 2, .bipush 40, (0, 0, 0), 0)) (by decide +kernel)) (by decide) hm_z
      replace hm_z := rn_callV (M' := am_m171) (o := 164) (ar := [.int 40]) (rest := []) (L := lv_args 0 [.ref 164, .int 40]) (am_cur_of (i := (3, 3, .invokevirtual 194, (171, 1715, 3), 0)) (by decide +kernel)) rfl rfl rfl rfl hm_z
      obtain ⟨r1562_z, h1563_z, q1564_z, hm_z⟩ := hm_z
      obtain ⟨rfl, yq1564_z⟩ := rp_sgN (fun q => absurd (Eq.trans (Eq.symm kc) q.1) (by decide)) q1564_z
      subst yq1564_z
      replace hm_z : rn _ _ _ _ [.int 0] _ _ _ := hm_z
      replace hm_z := rn_ifT (am_cur_of (i := (6, 3, .ifCond .eq 44, (28, 0, 0), 0)) (by decide +kernel)) (by decide) hm_z
      replace hm_z := rn_aload_n (am_cur_of (i := (50, 1, .aload_n 0, (0, 0, 0), 0)) (by decide +kernel)) g0m hm_z
      replace hm_z := rn_bipush (w := 14) (am_cur_of (i := (51, 2, .bipush 14, (0, 0, 0), 0)) (by decide +kernel)) (by decide) hm_z
      replace hm_z := rn_callV (M' := am_m174) (o := 164) (ar := [.int 14]) (rest := []) (L := lv_args 0 [.ref 164, .int 14]) (am_cur_of (i := (53, 3, .invokevirtual 306, (174, 1727, 3), 0)) (by decide +kernel)) rfl rfl rfl rfl hm_z
      obtain ⟨r1565_z, h1566_z, q1567_z, hm_z⟩ := hm_z
      obtain ⟨rfl, yq1567_z⟩ := rp_kyN (fun q => absurd (Eq.trans (Eq.symm kd) q.2) (by decide)) q1567_z
      subst yq1567_z
      replace hm_z : rn _ _ _ _ [.int 0] _ _ _ := hm_z
      replace hm_z := rn_ifT (am_cur_of (i := (56, 3, .ifCond .eq 30, (47, 0, 0), 0)) (by decide +kernel)) (by decide) hm_z
      replace hm_z := rn_aload_n (am_cur_of (i := (86, 1, .aload_n 0, (0, 0, 0), 0)) (by decide +kernel)) g0m hm_z
      replace hm_z := rn_callV (M' := am_m176) (o := 164) (ar := []) (rest := []) (L := lv_args 0 [.ref 164]) (am_cur_of (i := (87, 3, .invokevirtual 312, (176, 1735, 3), 0)) (by decide +kernel)) rfl rfl rfl rfl hm_z
      obtain ⟨r1568_z, h1569_z, q1570_z, hm_z⟩ := hm_z
      obtain ⟨rfl, yq1570_z⟩ := rp_nm (c := 1) (d := 17) kc kd q1570_z
      replace yq1570_z := yq1570_z.symm
      subst yq1570_z
      rw [show rp_nmf 1 17 = 2 from by decide] at hm_z
      replace hm_z : rn _ _ _ _ [.int 2] _ _ _ := hm_z
      replace hm_z := rn_istore_n (am_cur_of (i := (90, 1, .istore_n 1, (0, 0, 0), 0)) (by decide +kernel)) hm_z
      obtain ⟨_, s1571_z, s1572_z, g1m, hm_z⟩ := hm_z
      replace g0m := s1571_z 0 _ (by decide) rfl g0m
      clear s1571_z s1572_z
      replace hm_z := rn_iload_n (am_cur_of (i := (91, 1, .iload_n 1, (0, 0, 0), 0)) (by decide +kernel)) g1m hm_z
      replace hm_z := rn_ifT (am_cur_of (i := (92, 3, .ifCond .ge 17, (60, 0, 0), 0)) (by decide +kernel)) (by decide) hm_z
      replace hm_z := rn_iload_n (am_cur_of (i := (109, 1, .iload_n 1, (0, 0, 0), 0)) (by decide +kernel)) g1m hm_z
      replace hm_z := rn_ifT (am_cur_of (i := (110, 3, .ifCond .ge 19, (70, 0, 0), 0)) (by decide +kernel)) (by decide) hm_z
      replace hm_z := rn_aload_n (am_cur_of (i := (129, 1, .aload_n 0, (0, 0, 0), 0)) (by decide +kernel)) g0m hm_z
      replace hm_z := rn_callV (M' := am_m175) (o := 164) (ar := []) (rest := []) (L := lv_args 0 [.ref 164]) (am_cur_of (i := (130, 3, .invokevirtual 309, (175, 1731, 3), 0)) (by decide +kernel)) rfl rfl rfl rfl hm_z
      obtain ⟨r1573_z, h1574_z, q1575_z, hm_z⟩ := hm_z
      rcases rs_ic q1575_z with ⟨i1_z, -⟩ | ⟨i1_z, rfl, i3_z⟩
      · exfalso
        have zz := congrArg Int32.toInt i1_z
        rw [show rg_v g 164 44 = kn from nk1_z.symm, show (64 : Int32).toInt = 64 by decide] at zz
        omega
      · subst i3_z
        rw [show rg_v g 164 44 = kn from nk1_z.symm] at hm_z
        replace hm_z : rn _ _ _ _ [.int 1] _ _ _ := hm_z
        replace hc_z : rn _ _ _ _ [] _ _ _ := hc_z
        replace hc_z := rn_aload_n (am_cur_of (i := (146, 1, .aload_n 0, (0, 0, 0), 0)) (by decide +kernel)) g0_z hc_z
        replace hc_z := rn_getM (x := 2) (am_cur_of (i := (147, 3, .getfield 25, (4, 6, 415), 0)) (by decide +kernel)) (show (am_up h 11 0 (.int (kn + 1))) 44 6 = .ref 2 from R3) hc_z
        replace hc_z := rn_getR (x := 11) (am_cur_of (i := (150, 3, .getfield 242, (1, 19, 316), 0)) (by decide +kernel)) (by decide +kernel) hc_z
        replace hc_z := rn_iconst (w := 1) (am_cur_of (i := (153, 1, .iconst 1, (0, 0, 0), 0)) (by decide +kernel)) (by decide) hc_z
        replace hc_z := rn_aload_n (am_cur_of (i := (154, 1, .aload_n 0, (0, 0, 0), 0)) (by decide +kernel)) g0_z hc_z
        replace hc_z := rn_getI (v := 14) (am_cur_of (i := (155, 3, .getfield 91, (4, 11, 420), 0)) (by decide +kernel)) (by decide +kernel) (show rg_v (am_up h 11 0 (.int (kn + 1))) 44 11 = 14 from kb) hc_z
        replace hc_z := rn_bipush (w := 11) (am_cur_of (i := (158, 2, .bipush 11, (0, 0, 0), 0)) (by decide +kernel)) (by decide) hc_z
        replace hc_z := rn_isub (w := 3) (am_cur_of (i := (160, 1, .isub, (0, 0, 0), 0)) (by decide +kernel)) (by decide) hc_z
        replace hc_z := rn_callV (M' := am_m48) (o := 11) (ar := [.int 3, .int 1]) (rest := []) (L := lv_args 0 [.ref 11, .int 1, .int 3]) (am_cur_of (i := (161, 3, .invokevirtual 276, (48, 845, 3), 0)) (by decide +kernel)) rfl rfl rfl rfl hc_z
        obtain ⟨r1576_z, h1577_z, q1578_z, hc_z⟩ := hc_z
        obtain ⟨rfl, PF⟩ := rs_put2 q1578_z
        replace hc_z : rn _ _ _ _ [] _ _ _ := hc_z
        replace hc_z := rn_goto (am_cur_of (i := (164, 3, .goto 8, (87, 0, 0), 0)) (by decide +kernel)) hc_z
        replace hc_z := rn_aload_n (am_cur_of (i := (172, 1, .aload_n 0, (0, 0, 0), 0)) (by decide +kernel)) g0_z hc_z
        replace hc_z := rn_callV (M' := am_m19) (o := 44) (ar := []) (rest := []) (L := lv_args 0 [.ref 44]) (am_cur_of (i := (173, 3, .invokevirtual 57, (19, 727, 3), 0)) (by decide +kernel)) rfl rfl rfl rfl hc_z
        obtain ⟨r1579_z, h1580_z, q1581_z, hc_z⟩ := hc_z
        have vo := rn_void rfl q1581_z
        subst vo
        replace hm_z := rn_ifT (am_cur_of (i := (133, 3, .ifCond .ne 5, (75, 0, 0), 0)) (by decide +kernel)) (by decide) hm_z
        replace hm_z := rn_aload_n (am_cur_of (i := (138, 1, .aload_n 0, (0, 0, 0), 0)) (by decide +kernel)) g0m hm_z
        replace hm_z := rn_iload_n (am_cur_of (i := (139, 1, .iload_n 1, (0, 0, 0), 0)) (by decide +kernel)) g1m hm_z
        replace hm_z := rn_ifF (am_cur_of (i := (140, 3, .ifCond .lt 7, (80, 0, 0), 0)) (by decide +kernel)) (by decide) hm_z
        replace hm_z := rn_iconst (w := 1) (am_cur_of (i := (143, 1, .iconst 1, (0, 0, 0), 0)) (by decide +kernel)) (by decide) hm_z
        replace hm_z := rn_goto (am_cur_of (i := (144, 3, .goto 4, (81, 0, 0), 0)) (by decide +kernel)) hm_z
        replace hm_z := rn_iload_n (am_cur_of (i := (148, 1, .iload_n 1, (0, 0, 0), 0)) (by decide +kernel)) g1m hm_z
        replace hm_z := rn_ifF (am_cur_of (i := (149, 3, .ifCond .lt 7, (85, 0, 0), 0)) (by decide +kernel)) (by decide) hm_z
        replace hm_z := rn_iload_n (am_cur_of (i := (152, 1, .iload_n 1, (0, 0, 0), 0)) (by decide +kernel)) g1m hm_z
        replace hm_z := rn_goto (am_cur_of (i := (153, 3, .goto 7, (87, 0, 0), 0)) (by decide +kernel)) hm_z
        replace hm_z := rn_iconst (w := 0) (am_cur_of (i := (160, 1, .iconst 0, (0, 0, 0), 0)) (by decide +kernel)) (by decide) hm_z
        replace hm_z := rn_callV (M' := am_m177) (o := 164) (ar := [.int 0, .int 2, .int 1]) (rest := []) (L := lv_args 0 [.ref 164, .int 1, .int 2, .int 0]) (am_cur_of (i := (161, 3, .invokevirtual 291, (177, 1739, 3), 0)) (by decide +kernel)) rfl rfl rfl rfl hm_z
        obtain ⟨r1582_z, h1583_z, q1584_z, hm_z⟩ := hm_z
        obtain ⟨rfl, GF⟩ := rs_grown q1584_z
        replace hm_z : rn _ _ _ _ [] _ _ _ := hm_z
        replace hm_z := rn_aload_n (am_cur_of (i := (164, 1, .aload_n 0, (0, 0, 0), 0)) (by decide +kernel)) g0m hm_z
        replace hm_z := rn_iconst (w := 0) (am_cur_of (i := (165, 1, .iconst 0, (0, 0, 0), 0)) (by decide +kernel)) (by decide) hm_z
        replace hm_z := rn_put (am_cur_of (i := (166, 3, .putfield 315, (12, 45, 1429), 0)) (by decide +kernel)) (by decide +kernel) hm_z
        replace hm_z := rn_aload_n (am_cur_of (i := (169, 1, .aload_n 0, (0, 0, 0), 0)) (by decide +kernel)) g0m hm_z
        replace hm_z := rn_callV (M' := am_m151) (o := 164) (ar := []) (rest := []) (L := lv_args 0 [.ref 164]) (am_cur_of (i := (170, 3, .invokevirtual 191, (151, 1636, 3), 0)) (by decide +kernel)) rfl rfl rfl rfl hm_z
        obtain ⟨r1585_z, h1586_z, q1587_z, hm_z⟩ := hm_z
        have vo := rn_void rfl q1587_z
        subst vo
        have FC : ab_Fr (rz_MC2.drop 1) h h1577_z := ab_Fr_trans (ab_Fr_up rfl ab_Fr_refl) (ab_Fr_sub (by decide) PF)
        have FC' : ab_Fr rz_MC2 h h1577_z := ab_Fr_sub (by decide) FC
        have FM : ab_Fr rz_MM g (am_up h1583_z 164 45 (.int 0)) := ab_Fr_up rfl (ab_Fr_trans (ab_Fr_up rfl ab_Fr_refl) (ab_Fr_sub (by decide) GF))
        obtain ⟨-, -, x2_z, p2_z, R2, le2_z, t5_z, t6_z⟩ := pr_tok (rz_q02 (rq_0 Rk) FC' FM) q1581_z q1587_z
        have A2 := rp_x (by decide) (rz_p2 A FC' FM ((show rg_v h1577_z 11 0 = kn + 1 from ((rg_v_fr PF (by decide)).trans (show rg_v (am_up h 11 0 (.int (kn + 1))) 11 0 = kn + 1 from rfl))).trans (show rg_v (am_up h1583_z 164 45 (.int 0)) 164 44 = kn + 1 from (show rg_v (am_up h1583_z 164 45 (.int 0)) 164 44 = kn + 1 from ((rg_v_fr GF (by decide)).trans (show rg_v (am_up g 164 44 (.int (kn + 1))) 164 44 = kn + 1 from rfl)))).symm) (by rw [show rg_v h1577_z 11 0 = kn + 1 from ((rg_v_fr PF (by decide)).trans (show rg_v (am_up h 11 0 (.int (kn + 1))) 11 0 = kn + 1 from rfl))]; omega) (by rw [show rg_v h1577_z 11 0 = kn + 1 from ((rg_v_fr PF (by decide)).trans (show rg_v (am_up h 11 0 (.int (kn + 1))) 11 0 = kn + 1 from rfl))]; omega)) (rx_C_f t5_z) (rx_M_f t6_z)
        have B2 := rp_tk (rz_t2 B FC FM) (rg_v_fr t5_z (by decide)) (fun k => rg_v_fr t6_z (rg_v_in (by decide) k)) (rx_M_f t6_z)
        have FC47 : ab_Fr [(44, 14), (44, 15), (11, 1), (11, 2), (12, 0), (13, 0)] h h1577_z := ab_Fr_trans (ab_Fr_up rfl ab_Fr_refl) (ab_Fr_sub (by decide) PF)
        have FM184 : ab_Fr [(164, 42), (164, 43), (164, 44), (164, 45), (164, 46), (164, 47), (164, 22), (181, 0), (182, 0), (183, 0), (185, 0)] g (am_up h1583_z 164 45 (.int 0)) := ab_Fr_up rfl (ab_Fr_trans (ab_Fr_up rfl ab_Fr_refl) (ab_Fr_sub (by decide) GF))
        have Z2 : rs 2 h1577_z (am_up h1583_z 164 45 (.int 0)) := rs_keep Zk ((show rg_v h1577_z 44 13 = np from ((rg_v_fr PF (by decide)).trans (show rg_v (am_up h 11 0 (.int (kn + 1))) 44 13 = np from z1_z))).trans z1_z.symm) ((show rg_v (am_up h1583_z 164 45 (.int 0)) 164 41 = np from (show rg_v (am_up h1583_z 164 45 (.int 0)) 164 41 = np from ((rg_v_fr GF (by decide)).trans (show rg_v (am_up g 164 44 (.int (kn + 1))) 164 41 = np from z2_z)))).trans z2_z.symm) ((show rg_v h1577_z 44 14 = op from ((rg_v_fr PF (by decide)).trans (show rg_v (am_up h 11 0 (.int (kn + 1))) 44 14 = op from z4_z))).trans z4_z.symm) ((show rg_v (am_up h1583_z 164 45 (.int 0)) 164 43 = op from (show rg_v (am_up h1583_z 164 45 (.int 0)) 164 43 = op from ((rg_v_fr GF (by decide)).trans (show rg_v (am_up g 164 44 (.int (kn + 1))) 164 43 = op from z5_z)))).trans z5_z.symm) (show (rg_v h 11 0).toInt ≤ (rg_v h1577_z 11 0).toInt by rw [(show rg_v h1577_z 11 0 = kn + 1 from ((rg_v_fr PF (by decide)).trans (show rg_v (am_up h 11 0 (.int (kn + 1))) 11 0 = kn + 1 from rfl))), ekn]; omega) (fun k => rg_v_fr FC47 (rg_v_in (by decide) k)) (fun k => rg_v_fr FM184 (rg_v_in (by decide) k))
        replace Z2 := rs_fr (by decide) Z2 t5_z t6_z
        have e45_z : rg_v h1586_z 164 45 = 0 := (rg_v_fr t6_z (by decide)).trans (show rg_v (am_up h1583_z 164 45 (.int 0)) 164 45 = 0 from (show rg_v (am_up h1583_z 164 45 (.int 0)) 164 45 = 0 from rfl))
        have e46_z : rg_v h1586_z 164 46 = 0 := (rg_v_fr t6_z (by decide)).trans (show rg_v (am_up h1583_z 164 45 (.int 0)) 164 46 = 0 from (show rg_v (am_up h1583_z 164 45 (.int 0)) 164 46 = 0 from ((rg_v_fr GF (by decide)).trans (show rg_v (am_up g 164 44 (.int (kn + 1))) 164 46 = 0 from w2_z))))
        replace hm_z : rn _ _ _ _ [] _ _ _ := hm_z
        replace hc_z : rn _ _ _ _ [] _ _ _ := hc_z
        replace hc_z := rn_iconst (w := 2) (am_cur_of (i := (176, 1, .iconst 2, (0, 0, 0), 0)) (by decide +kernel)) (by decide) hc_z
        replace hc_z := rn_iret (am_cur_of (i := (177, 1, .ireturn, (0, 0, 0), 0)) (by decide +kernel)) hc_z
        obtain ⟨e1588_z, e1589_z⟩ := hc_z
        replace hm_z := rn_iconst (w := 1) (am_cur_of (i := (173, 1, .iconst 1, (0, 0, 0), 0)) (by decide +kernel)) (by decide) hm_z
        replace hm_z := rn_iret (am_cur_of (i := (174, 1, .ireturn, (0, 0, 0), 0)) (by decide +kernel)) hm_z
        obtain ⟨e1590_z, e1591_z⟩ := hm_z
        subst e1588_z e1589_z e1590_z e1591_z
        exact Or.inl ⟨_, x2_z, p2_z, rfl, rfl, R2, le2_z, A2, B2, Z2, Or.inr (Or.inr ⟨rfl, e45_z⟩)⟩
  · have g0_z : am_get (lv_args 0 [.ref 44, .int 1]) 0 = some (.ref 44) := rfl
    have g1_z : am_get (lv_args 0 [.ref 44, .int 1]) 1 = some (.int 1) := rfl
    have g0m : am_get (lv_args 0 [.ref 164]) 0 = some (.ref 164) := rfl
    have Rk := R
    have Zk := Z
    obtain ⟨⟨c1_z, c2_z, c3_z, c4_z, c5_z, c6_z, c7_z, c8_z⟩, ⟨m2_z, m3_z, m4_z, m5_z, m6_z, m7_z, m8_z⟩, R3, R4, R5, R6, R7, R8, R9, R10⟩ := (R : rq T S x p 2 h g)
    obtain ⟨np, op, z1_z, z2_z, z3_z, z4_z, z5_z, z6_z, z7_z, z8_z, z9_z, z10_z⟩ := (Z : rs 2 h g)
    obtain ⟨nk1_z, nk2_z, nk3_z⟩ := A.2.2.2.2.2.1
    replace nk1_z : rg_v h 11 0 = rg_v g 164 44 := nk1_z
    replace nk2_z : 0 ≤ (rg_v h 11 0).toInt := nk2_z
    replace nk3_z : (rg_v h 11 0).toInt ≤ 64 := nk3_z
    replace z8_z : np.toInt ≤ (rg_v h 11 0).toInt + op.toInt := z8_z
    obtain ⟨kn, ekn⟩ : ∃ v, rg_v h 11 0 = v := ⟨_, rfl⟩
    rw [ekn] at nk1_z nk2_z nk3_z z8_z
    have e9_z := rt_c1 (x := kn) (by omega) (by omega)
    replace hc_z := rn_aload_n (am_cur_of (i := (0, 1, .aload_n 0, (0, 0, 0), 0)) (by decide +kernel)) g0_z hc_z
    replace hc_z := rn_getI (v := 2) (am_cur_of (i := (1, 3, .getfield 60, (4, 10, 419), 0)) (by decide +kernel)) (by decide +kernel) ka hc_z
    replace hc_z := rn_bipush (w := 6) (am_cur_of (i := (4, 2, .bipush 6, (0, 0, 0), 0)) (by decide +kernel)) (by decide) hc_z
    replace hc_z := rn_cmpT (am_cur_of (i := (6, 3, .if_icmp .ne 30, (19, 0, 0), 0)) (by decide +kernel)) (by decide) hc_z
    replace hc_z := rn_aload_n (am_cur_of (i := (36, 1, .aload_n 0, (0, 0, 0), 0)) (by decide +kernel)) g0_z hc_z
    replace hc_z := rn_bipush (w := 40) (am_cur_of (i := (37, 2, .bipush 40, (0, 0, 0), 0)) (by decide +kernel)) (by decide) hc_z
    replace hc_z := rn_callV (M' := am_m45) (o := 44) (ar := [.int 40]) (rest := []) (L := lv_args 0 [.ref 44, .int 40]) (am_cur_of (i := (39, 3, .invokevirtual 105, (45, 834, 3), 0)) (by decide +kernel)) rfl rfl rfl rfl hc_z
    obtain ⟨r1592_z, h1593_z, q1594_z, hc_z⟩ := hc_z
    obtain ⟨rfl, yq1594_z⟩ := rp_mkN (fun q => absurd (Eq.trans (Eq.symm ka) q.1) (by decide)) q1594_z
    subst yq1594_z
    replace hc_z : rn _ _ _ _ [.int 0] _ _ _ := hc_z
    replace hc_z := rn_ifT (am_cur_of (i := (42, 3, .ifCond .eq 38, (43, 0, 0), 0)) (by decide +kernel)) (by decide) hc_z
    replace hc_z := rn_aload_n (am_cur_of (i := (80, 1, .aload_n 0, (0, 0, 0), 0)) (by decide +kernel)) g0_z hc_z
    replace hc_z := rn_getI (v := 2) (am_cur_of (i := (81, 3, .getfield 60, (4, 10, 419), 0)) (by decide +kernel)) (by decide +kernel) ka hc_z
    replace hc_z := rn_iconst (w := 4) (am_cur_of (i := (84, 1, .iconst 4, (0, 0, 0), 0)) (by decide +kernel)) (by decide) hc_z
    replace hc_z := rn_cmpT (am_cur_of (i := (85, 3, .if_icmp .ne 40, (64, 0, 0), 0)) (by decide +kernel)) (by decide) hc_z
    replace hc_z := rn_aload_n (am_cur_of (i := (125, 1, .aload_n 0, (0, 0, 0), 0)) (by decide +kernel)) g0_z hc_z
    replace hc_z := rn_getI (v := 2) (am_cur_of (i := (126, 3, .getfield 60, (4, 10, 419), 0)) (by decide +kernel)) (by decide +kernel) ka hc_z
    replace hc_z := rn_iconst (w := 2) (am_cur_of (i := (129, 1, .iconst 2, (0, 0, 0), 0)) (by decide +kernel)) (by decide) hc_z
    replace hc_z := rn_cmpF (am_cur_of (i := (130, 3, .if_icmp .ne 37, (84, 0, 0), 0)) (by decide +kernel)) (by decide) hc_z
    replace hc_z := rn_aload_n (am_cur_of (i := (133, 1, .aload_n 0, (0, 0, 0), 0)) (by decide +kernel)) g0_z hc_z
    replace hc_z := rn_getI (v := 15) (am_cur_of (i := (134, 3, .getfield 91, (4, 11, 420), 0)) (by decide +kernel)) (by decide +kernel) kb hc_z
    replace hc_z := rn_bipush (w := 11) (am_cur_of (i := (137, 2, .bipush 11, (0, 0, 0), 0)) (by decide +kernel)) (by decide) hc_z
    replace hc_z := rn_cmpF (am_cur_of (i := (139, 3, .if_icmp .lt 28, (84, 0, 0), 0)) (by decide +kernel)) (by decide) hc_z
    replace hc_z := rn_aload_n (am_cur_of (i := (142, 1, .aload_n 0, (0, 0, 0), 0)) (by decide +kernel)) g0_z hc_z
    replace hc_z := rn_callV (M' := am_m49) (o := 44) (ar := []) (rest := []) (L := lv_args 0 [.ref 44]) (am_cur_of (i := (143, 3, .invokevirtual 270, (49, 852, 3), 0)) (by decide +kernel)) rfl rfl rfl rfl hc_z
    obtain ⟨r1595_z, h1596_z, q1597_z, hc_z⟩ := hc_z
    rcases rs_ck2 R4 (show h 44 6 = .ref 2 from R3) q1597_z with ⟨ge, rfl, eh⟩ | ⟨lt, rfl, eh⟩
    · subst eh
      replace ge : 64 ≤ kn.toInt := by rw [← ekn]; exact ge
      replace hc_z : rn _ _ _ _ [] _ _ _ := hc_z
      have K := rs_stick (w := 2) (q := p) (a := 51) (by decide) (by decide) rfl (by decide) rfl (show rg_v (am_up (am_up h 44 1 (.int 2)) 44 2 (.int (rg_v h 44 9))) 44 2 = p from R5) hc_z
      replace hm_z := rn_aload_n (am_cur_of (i := (0, 1, .aload_n 0, (0, 0, 0), 0)) (by decide +kernel)) g0m hm_z
      replace hm_z := rn_bipush (w := 40) (am_cur_of (i := (1, 2, .bipush 40, (0, 0, 0), 0)) (by decide +kernel)) (by decide) hm_z
      replace hm_z := rn_callV (M' := am_m171) (o := 164) (ar := [.int 40]) (rest := []) (L := lv_args 0 [.ref 164, .int 40]) (am_cur_of (i := (3, 3, .invokevirtual 194, (171, 1715, 3), 0)) (by decide +kernel)) rfl rfl rfl rfl hm_z
      obtain ⟨r1598_z, h1599_z, q1600_z, hm_z⟩ := hm_z
      obtain ⟨rfl, yq1600_z⟩ := rp_sgN (fun q => absurd (Eq.trans (Eq.symm kc) q.1) (by decide)) q1600_z
      subst yq1600_z
      replace hm_z : rn _ _ _ _ [.int 0] _ _ _ := hm_z
      replace hm_z := rn_ifT (am_cur_of (i := (6, 3, .ifCond .eq 44, (28, 0, 0), 0)) (by decide +kernel)) (by decide) hm_z
      replace hm_z := rn_aload_n (am_cur_of (i := (50, 1, .aload_n 0, (0, 0, 0), 0)) (by decide +kernel)) g0m hm_z
      replace hm_z := rn_bipush (w := 14) (am_cur_of (i := (51, 2, .bipush 14, (0, 0, 0), 0)) (by decide +kernel)) (by decide) hm_z
      replace hm_z := rn_callV (M' := am_m174) (o := 164) (ar := [.int 14]) (rest := []) (L := lv_args 0 [.ref 164, .int 14]) (am_cur_of (i := (53, 3, .invokevirtual 306, (174, 1727, 3), 0)) (by decide +kernel)) rfl rfl rfl rfl hm_z
      obtain ⟨r1601_z, h1602_z, q1603_z, hm_z⟩ := hm_z
      obtain ⟨rfl, yq1603_z⟩ := rp_kyN (fun q => absurd (Eq.trans (Eq.symm kd) q.2) (by decide)) q1603_z
      subst yq1603_z
      replace hm_z : rn _ _ _ _ [.int 0] _ _ _ := hm_z
      replace hm_z := rn_ifT (am_cur_of (i := (56, 3, .ifCond .eq 30, (47, 0, 0), 0)) (by decide +kernel)) (by decide) hm_z
      replace hm_z := rn_aload_n (am_cur_of (i := (86, 1, .aload_n 0, (0, 0, 0), 0)) (by decide +kernel)) g0m hm_z
      replace hm_z := rn_callV (M' := am_m176) (o := 164) (ar := []) (rest := []) (L := lv_args 0 [.ref 164]) (am_cur_of (i := (87, 3, .invokevirtual 312, (176, 1735, 3), 0)) (by decide +kernel)) rfl rfl rfl rfl hm_z
      obtain ⟨r1604_z, h1605_z, q1606_z, hm_z⟩ := hm_z
      obtain ⟨rfl, yq1606_z⟩ := rp_nm (c := 1) (d := 18) kc kd q1606_z
      replace yq1606_z := yq1606_z.symm
      subst yq1606_z
      rw [show rp_nmf 1 18 = 4 from by decide] at hm_z
      replace hm_z : rn _ _ _ _ [.int 4] _ _ _ := hm_z
      replace hm_z := rn_istore_n (am_cur_of (i := (90, 1, .istore_n 1, (0, 0, 0), 0)) (by decide +kernel)) hm_z
      obtain ⟨_, s1607_z, s1608_z, g1m, hm_z⟩ := hm_z
      replace g0m := s1607_z 0 _ (by decide) rfl g0m
      clear s1607_z s1608_z
      replace hm_z := rn_iload_n (am_cur_of (i := (91, 1, .iload_n 1, (0, 0, 0), 0)) (by decide +kernel)) g1m hm_z
      replace hm_z := rn_ifT (am_cur_of (i := (92, 3, .ifCond .ge 17, (60, 0, 0), 0)) (by decide +kernel)) (by decide) hm_z
      replace hm_z := rn_iload_n (am_cur_of (i := (109, 1, .iload_n 1, (0, 0, 0), 0)) (by decide +kernel)) g1m hm_z
      replace hm_z := rn_ifT (am_cur_of (i := (110, 3, .ifCond .ge 19, (70, 0, 0), 0)) (by decide +kernel)) (by decide) hm_z
      replace hm_z := rn_aload_n (am_cur_of (i := (129, 1, .aload_n 0, (0, 0, 0), 0)) (by decide +kernel)) g0m hm_z
      replace hm_z := rn_callV (M' := am_m175) (o := 164) (ar := []) (rest := []) (L := lv_args 0 [.ref 164]) (am_cur_of (i := (130, 3, .invokevirtual 309, (175, 1731, 3), 0)) (by decide +kernel)) rfl rfl rfl rfl hm_z
      obtain ⟨r1609_z, h1610_z, q1611_z, hm_z⟩ := hm_z
      rcases rs_ic q1611_z with ⟨i1_z, rfl, i3_z⟩ | ⟨i1_z, -⟩
      · subst i3_z
        replace hm_z : rn _ _ _ _ [.int 0] _ _ _ := hm_z
        replace hm_z := rn_ifF (am_cur_of (i := (133, 3, .ifCond .ne 5, (75, 0, 0), 0)) (by decide +kernel)) (by decide) hm_z
        replace hm_z := rn_iconst (w := 0) (am_cur_of (i := (136, 1, .iconst 0, (0, 0, 0), 0)) (by decide +kernel)) (by decide) hm_z
        replace hm_z := rn_iret (am_cur_of (i := (137, 1, .ireturn, (0, 0, 0), 0)) (by decide +kernel)) hm_z
        obtain ⟨e1612_z, e1613_z⟩ := hm_z
        subst e1612_z e1613_z
        exact (Or.inr ⟨rfl, 2, by decide, K.1, K.2, rfl, R6⟩)
      · exact absurd (Int32.toInt_inj.mp (show (rg_v g 164 44).toInt = (64 : Int32).toInt from by rw [show rg_v g 164 44 = kn from nk1_z.symm, show (64 : Int32).toInt = 64 by decide]; omega)) i1_z
    · subst eh
      replace lt : kn.toInt < 64 := by rw [← ekn]; exact lt
      rw [show rg_v h 11 0 = kn from ekn] at hc_z
      replace hm_z := rn_aload_n (am_cur_of (i := (0, 1, .aload_n 0, (0, 0, 0), 0)) (by decide +kernel)) g0m hm_z
      replace hm_z := rn_bipush (w := 40) (am_cur_of (i := (1, 2, .bipush 40, (0, 0, 0), 0)) (by decide +kernel)) (by decide) hm_z
      replace hm_z := rn_callV (M' := am_m171) (o := 164) (ar := [.int 40]) (rest := []) (L := lv_args 0 [.ref 164, .int 40]) (am_cur_of (i := (3, 3, .invokevirtual 194, (171, 1715, 3), 0)) (by decide +kernel)) rfl rfl rfl rfl hm_z
      obtain ⟨r1614_z, h1615_z, q1616_z, hm_z⟩ := hm_z
      obtain ⟨rfl, yq1616_z⟩ := rp_sgN (fun q => absurd (Eq.trans (Eq.symm kc) q.1) (by decide)) q1616_z
      subst yq1616_z
      replace hm_z : rn _ _ _ _ [.int 0] _ _ _ := hm_z
      replace hm_z := rn_ifT (am_cur_of (i := (6, 3, .ifCond .eq 44, (28, 0, 0), 0)) (by decide +kernel)) (by decide) hm_z
      replace hm_z := rn_aload_n (am_cur_of (i := (50, 1, .aload_n 0, (0, 0, 0), 0)) (by decide +kernel)) g0m hm_z
      replace hm_z := rn_bipush (w := 14) (am_cur_of (i := (51, 2, .bipush 14, (0, 0, 0), 0)) (by decide +kernel)) (by decide) hm_z
      replace hm_z := rn_callV (M' := am_m174) (o := 164) (ar := [.int 14]) (rest := []) (L := lv_args 0 [.ref 164, .int 14]) (am_cur_of (i := (53, 3, .invokevirtual 306, (174, 1727, 3), 0)) (by decide +kernel)) rfl rfl rfl rfl hm_z
      obtain ⟨r1617_z, h1618_z, q1619_z, hm_z⟩ := hm_z
      obtain ⟨rfl, yq1619_z⟩ := rp_kyN (fun q => absurd (Eq.trans (Eq.symm kd) q.2) (by decide)) q1619_z
      subst yq1619_z
      replace hm_z : rn _ _ _ _ [.int 0] _ _ _ := hm_z
      replace hm_z := rn_ifT (am_cur_of (i := (56, 3, .ifCond .eq 30, (47, 0, 0), 0)) (by decide +kernel)) (by decide) hm_z
      replace hm_z := rn_aload_n (am_cur_of (i := (86, 1, .aload_n 0, (0, 0, 0), 0)) (by decide +kernel)) g0m hm_z
      replace hm_z := rn_callV (M' := am_m176) (o := 164) (ar := []) (rest := []) (L := lv_args 0 [.ref 164]) (am_cur_of (i := (87, 3, .invokevirtual 312, (176, 1735, 3), 0)) (by decide +kernel)) rfl rfl rfl rfl hm_z
      obtain ⟨r1620_z, h1621_z, q1622_z, hm_z⟩ := hm_z
      obtain ⟨rfl, yq1622_z⟩ := rp_nm (c := 1) (d := 18) kc kd q1622_z
      replace yq1622_z := yq1622_z.symm
      subst yq1622_z
      rw [show rp_nmf 1 18 = 4 from by decide] at hm_z
      replace hm_z : rn _ _ _ _ [.int 4] _ _ _ := hm_z
      replace hm_z := rn_istore_n (am_cur_of (i := (90, 1, .istore_n 1, (0, 0, 0), 0)) (by decide +kernel)) hm_z
      obtain ⟨_, s1623_z, s1624_z, g1m, hm_z⟩ := hm_z
      replace g0m := s1623_z 0 _ (by decide) rfl g0m
      clear s1623_z s1624_z
      replace hm_z := rn_iload_n (am_cur_of (i := (91, 1, .iload_n 1, (0, 0, 0), 0)) (by decide +kernel)) g1m hm_z
      replace hm_z := rn_ifT (am_cur_of (i := (92, 3, .ifCond .ge 17, (60, 0, 0), 0)) (by decide +kernel)) (by decide) hm_z
      replace hm_z := rn_iload_n (am_cur_of (i := (109, 1, .iload_n 1, (0, 0, 0), 0)) (by decide +kernel)) g1m hm_z
      replace hm_z := rn_ifT (am_cur_of (i := (110, 3, .ifCond .ge 19, (70, 0, 0), 0)) (by decide +kernel)) (by decide) hm_z
      replace hm_z := rn_aload_n (am_cur_of (i := (129, 1, .aload_n 0, (0, 0, 0), 0)) (by decide +kernel)) g0m hm_z
      replace hm_z := rn_callV (M' := am_m175) (o := 164) (ar := []) (rest := []) (L := lv_args 0 [.ref 164]) (am_cur_of (i := (130, 3, .invokevirtual 309, (175, 1731, 3), 0)) (by decide +kernel)) rfl rfl rfl rfl hm_z
      obtain ⟨r1625_z, h1626_z, q1627_z, hm_z⟩ := hm_z
      rcases rs_ic q1627_z with ⟨i1_z, -⟩ | ⟨i1_z, rfl, i3_z⟩
      · exfalso
        have zz := congrArg Int32.toInt i1_z
        rw [show rg_v g 164 44 = kn from nk1_z.symm, show (64 : Int32).toInt = 64 by decide] at zz
        omega
      · subst i3_z
        rw [show rg_v g 164 44 = kn from nk1_z.symm] at hm_z
        replace hm_z : rn _ _ _ _ [.int 1] _ _ _ := hm_z
        replace hc_z : rn _ _ _ _ [] _ _ _ := hc_z
        replace hc_z := rn_aload_n (am_cur_of (i := (146, 1, .aload_n 0, (0, 0, 0), 0)) (by decide +kernel)) g0_z hc_z
        replace hc_z := rn_getM (x := 2) (am_cur_of (i := (147, 3, .getfield 25, (4, 6, 415), 0)) (by decide +kernel)) (show (am_up h 11 0 (.int (kn + 1))) 44 6 = .ref 2 from R3) hc_z
        replace hc_z := rn_getR (x := 11) (am_cur_of (i := (150, 3, .getfield 242, (1, 19, 316), 0)) (by decide +kernel)) (by decide +kernel) hc_z
        replace hc_z := rn_iconst (w := 1) (am_cur_of (i := (153, 1, .iconst 1, (0, 0, 0), 0)) (by decide +kernel)) (by decide) hc_z
        replace hc_z := rn_aload_n (am_cur_of (i := (154, 1, .aload_n 0, (0, 0, 0), 0)) (by decide +kernel)) g0_z hc_z
        replace hc_z := rn_getI (v := 15) (am_cur_of (i := (155, 3, .getfield 91, (4, 11, 420), 0)) (by decide +kernel)) (by decide +kernel) (show rg_v (am_up h 11 0 (.int (kn + 1))) 44 11 = 15 from kb) hc_z
        replace hc_z := rn_bipush (w := 11) (am_cur_of (i := (158, 2, .bipush 11, (0, 0, 0), 0)) (by decide +kernel)) (by decide) hc_z
        replace hc_z := rn_isub (w := 4) (am_cur_of (i := (160, 1, .isub, (0, 0, 0), 0)) (by decide +kernel)) (by decide) hc_z
        replace hc_z := rn_callV (M' := am_m48) (o := 11) (ar := [.int 4, .int 1]) (rest := []) (L := lv_args 0 [.ref 11, .int 1, .int 4]) (am_cur_of (i := (161, 3, .invokevirtual 276, (48, 845, 3), 0)) (by decide +kernel)) rfl rfl rfl rfl hc_z
        obtain ⟨r1628_z, h1629_z, q1630_z, hc_z⟩ := hc_z
        obtain ⟨rfl, PF⟩ := rs_put2 q1630_z
        replace hc_z : rn _ _ _ _ [] _ _ _ := hc_z
        replace hc_z := rn_goto (am_cur_of (i := (164, 3, .goto 8, (87, 0, 0), 0)) (by decide +kernel)) hc_z
        replace hc_z := rn_aload_n (am_cur_of (i := (172, 1, .aload_n 0, (0, 0, 0), 0)) (by decide +kernel)) g0_z hc_z
        replace hc_z := rn_callV (M' := am_m19) (o := 44) (ar := []) (rest := []) (L := lv_args 0 [.ref 44]) (am_cur_of (i := (173, 3, .invokevirtual 57, (19, 727, 3), 0)) (by decide +kernel)) rfl rfl rfl rfl hc_z
        obtain ⟨r1631_z, h1632_z, q1633_z, hc_z⟩ := hc_z
        have vo := rn_void rfl q1633_z
        subst vo
        replace hm_z := rn_ifT (am_cur_of (i := (133, 3, .ifCond .ne 5, (75, 0, 0), 0)) (by decide +kernel)) (by decide) hm_z
        replace hm_z := rn_aload_n (am_cur_of (i := (138, 1, .aload_n 0, (0, 0, 0), 0)) (by decide +kernel)) g0m hm_z
        replace hm_z := rn_iload_n (am_cur_of (i := (139, 1, .iload_n 1, (0, 0, 0), 0)) (by decide +kernel)) g1m hm_z
        replace hm_z := rn_ifF (am_cur_of (i := (140, 3, .ifCond .lt 7, (80, 0, 0), 0)) (by decide +kernel)) (by decide) hm_z
        replace hm_z := rn_iconst (w := 1) (am_cur_of (i := (143, 1, .iconst 1, (0, 0, 0), 0)) (by decide +kernel)) (by decide) hm_z
        replace hm_z := rn_goto (am_cur_of (i := (144, 3, .goto 4, (81, 0, 0), 0)) (by decide +kernel)) hm_z
        replace hm_z := rn_iload_n (am_cur_of (i := (148, 1, .iload_n 1, (0, 0, 0), 0)) (by decide +kernel)) g1m hm_z
        replace hm_z := rn_ifF (am_cur_of (i := (149, 3, .ifCond .lt 7, (85, 0, 0), 0)) (by decide +kernel)) (by decide) hm_z
        replace hm_z := rn_iload_n (am_cur_of (i := (152, 1, .iload_n 1, (0, 0, 0), 0)) (by decide +kernel)) g1m hm_z
        replace hm_z := rn_goto (am_cur_of (i := (153, 3, .goto 7, (87, 0, 0), 0)) (by decide +kernel)) hm_z
        replace hm_z := rn_iconst (w := 0) (am_cur_of (i := (160, 1, .iconst 0, (0, 0, 0), 0)) (by decide +kernel)) (by decide) hm_z
        replace hm_z := rn_callV (M' := am_m177) (o := 164) (ar := [.int 0, .int 4, .int 1]) (rest := []) (L := lv_args 0 [.ref 164, .int 1, .int 4, .int 0]) (am_cur_of (i := (161, 3, .invokevirtual 291, (177, 1739, 3), 0)) (by decide +kernel)) rfl rfl rfl rfl hm_z
        obtain ⟨r1634_z, h1635_z, q1636_z, hm_z⟩ := hm_z
        obtain ⟨rfl, GF⟩ := rs_grown q1636_z
        replace hm_z : rn _ _ _ _ [] _ _ _ := hm_z
        replace hm_z := rn_aload_n (am_cur_of (i := (164, 1, .aload_n 0, (0, 0, 0), 0)) (by decide +kernel)) g0m hm_z
        replace hm_z := rn_iconst (w := 0) (am_cur_of (i := (165, 1, .iconst 0, (0, 0, 0), 0)) (by decide +kernel)) (by decide) hm_z
        replace hm_z := rn_put (am_cur_of (i := (166, 3, .putfield 315, (12, 45, 1429), 0)) (by decide +kernel)) (by decide +kernel) hm_z
        replace hm_z := rn_aload_n (am_cur_of (i := (169, 1, .aload_n 0, (0, 0, 0), 0)) (by decide +kernel)) g0m hm_z
        replace hm_z := rn_callV (M' := am_m151) (o := 164) (ar := []) (rest := []) (L := lv_args 0 [.ref 164]) (am_cur_of (i := (170, 3, .invokevirtual 191, (151, 1636, 3), 0)) (by decide +kernel)) rfl rfl rfl rfl hm_z
        obtain ⟨r1637_z, h1638_z, q1639_z, hm_z⟩ := hm_z
        have vo := rn_void rfl q1639_z
        subst vo
        have FC : ab_Fr (rz_MC2.drop 1) h h1629_z := ab_Fr_trans (ab_Fr_up rfl ab_Fr_refl) (ab_Fr_sub (by decide) PF)
        have FC' : ab_Fr rz_MC2 h h1629_z := ab_Fr_sub (by decide) FC
        have FM : ab_Fr rz_MM g (am_up h1635_z 164 45 (.int 0)) := ab_Fr_up rfl (ab_Fr_trans (ab_Fr_up rfl ab_Fr_refl) (ab_Fr_sub (by decide) GF))
        obtain ⟨-, -, x2_z, p2_z, R2, le2_z, t5_z, t6_z⟩ := pr_tok (rz_q02 (rq_0 Rk) FC' FM) q1633_z q1639_z
        have A2 := rp_x (by decide) (rz_p2 A FC' FM ((show rg_v h1629_z 11 0 = kn + 1 from ((rg_v_fr PF (by decide)).trans (show rg_v (am_up h 11 0 (.int (kn + 1))) 11 0 = kn + 1 from rfl))).trans (show rg_v (am_up h1635_z 164 45 (.int 0)) 164 44 = kn + 1 from (show rg_v (am_up h1635_z 164 45 (.int 0)) 164 44 = kn + 1 from ((rg_v_fr GF (by decide)).trans (show rg_v (am_up g 164 44 (.int (kn + 1))) 164 44 = kn + 1 from rfl)))).symm) (by rw [show rg_v h1629_z 11 0 = kn + 1 from ((rg_v_fr PF (by decide)).trans (show rg_v (am_up h 11 0 (.int (kn + 1))) 11 0 = kn + 1 from rfl))]; omega) (by rw [show rg_v h1629_z 11 0 = kn + 1 from ((rg_v_fr PF (by decide)).trans (show rg_v (am_up h 11 0 (.int (kn + 1))) 11 0 = kn + 1 from rfl))]; omega)) (rx_C_f t5_z) (rx_M_f t6_z)
        have B2 := rp_tk (rz_t2 B FC FM) (rg_v_fr t5_z (by decide)) (fun k => rg_v_fr t6_z (rg_v_in (by decide) k)) (rx_M_f t6_z)
        have FC47 : ab_Fr [(44, 14), (44, 15), (11, 1), (11, 2), (12, 0), (13, 0)] h h1629_z := ab_Fr_trans (ab_Fr_up rfl ab_Fr_refl) (ab_Fr_sub (by decide) PF)
        have FM184 : ab_Fr [(164, 42), (164, 43), (164, 44), (164, 45), (164, 46), (164, 47), (164, 22), (181, 0), (182, 0), (183, 0), (185, 0)] g (am_up h1635_z 164 45 (.int 0)) := ab_Fr_up rfl (ab_Fr_trans (ab_Fr_up rfl ab_Fr_refl) (ab_Fr_sub (by decide) GF))
        have Z2 : rs 2 h1629_z (am_up h1635_z 164 45 (.int 0)) := rs_keep Zk ((show rg_v h1629_z 44 13 = np from ((rg_v_fr PF (by decide)).trans (show rg_v (am_up h 11 0 (.int (kn + 1))) 44 13 = np from z1_z))).trans z1_z.symm) ((show rg_v (am_up h1635_z 164 45 (.int 0)) 164 41 = np from (show rg_v (am_up h1635_z 164 45 (.int 0)) 164 41 = np from ((rg_v_fr GF (by decide)).trans (show rg_v (am_up g 164 44 (.int (kn + 1))) 164 41 = np from z2_z)))).trans z2_z.symm) ((show rg_v h1629_z 44 14 = op from ((rg_v_fr PF (by decide)).trans (show rg_v (am_up h 11 0 (.int (kn + 1))) 44 14 = op from z4_z))).trans z4_z.symm) ((show rg_v (am_up h1635_z 164 45 (.int 0)) 164 43 = op from (show rg_v (am_up h1635_z 164 45 (.int 0)) 164 43 = op from ((rg_v_fr GF (by decide)).trans (show rg_v (am_up g 164 44 (.int (kn + 1))) 164 43 = op from z5_z)))).trans z5_z.symm) (show (rg_v h 11 0).toInt ≤ (rg_v h1629_z 11 0).toInt by rw [(show rg_v h1629_z 11 0 = kn + 1 from ((rg_v_fr PF (by decide)).trans (show rg_v (am_up h 11 0 (.int (kn + 1))) 11 0 = kn + 1 from rfl))), ekn]; omega) (fun k => rg_v_fr FC47 (rg_v_in (by decide) k)) (fun k => rg_v_fr FM184 (rg_v_in (by decide) k))
        replace Z2 := rs_fr (by decide) Z2 t5_z t6_z
        have e45_z : rg_v h1638_z 164 45 = 0 := (rg_v_fr t6_z (by decide)).trans (show rg_v (am_up h1635_z 164 45 (.int 0)) 164 45 = 0 from (show rg_v (am_up h1635_z 164 45 (.int 0)) 164 45 = 0 from rfl))
        have e46_z : rg_v h1638_z 164 46 = 0 := (rg_v_fr t6_z (by decide)).trans (show rg_v (am_up h1635_z 164 45 (.int 0)) 164 46 = 0 from (show rg_v (am_up h1635_z 164 45 (.int 0)) 164 46 = 0 from ((rg_v_fr GF (by decide)).trans (show rg_v (am_up g 164 44 (.int (kn + 1))) 164 46 = 0 from w2_z))))
        replace hm_z : rn _ _ _ _ [] _ _ _ := hm_z
        replace hc_z : rn _ _ _ _ [] _ _ _ := hc_z
        replace hc_z := rn_iconst (w := 2) (am_cur_of (i := (176, 1, .iconst 2, (0, 0, 0), 0)) (by decide +kernel)) (by decide) hc_z
        replace hc_z := rn_iret (am_cur_of (i := (177, 1, .ireturn, (0, 0, 0), 0)) (by decide +kernel)) hc_z
        obtain ⟨e1640_z, e1641_z⟩ := hc_z
        replace hm_z := rn_iconst (w := 1) (am_cur_of (i := (173, 1, .iconst 1, (0, 0, 0), 0)) (by decide +kernel)) (by decide) hm_z
        replace hm_z := rn_iret (am_cur_of (i := (174, 1, .ireturn, (0, 0, 0), 0)) (by decide +kernel)) hm_z
        obtain ⟨e1642_z, e1643_z⟩ := hm_z
        subst e1640_z e1641_z e1642_z e1643_z
        exact Or.inl ⟨_, x2_z, p2_z, rfl, rfl, R2, le2_z, A2, B2, Z2, Or.inr (Or.inr ⟨rfl, e45_z⟩)⟩
  · have g0_z : am_get (lv_args 0 [.ref 44, .int 1]) 0 = some (.ref 44) := rfl
    have g1_z : am_get (lv_args 0 [.ref 44, .int 1]) 1 = some (.int 1) := rfl
    have g0m : am_get (lv_args 0 [.ref 164]) 0 = some (.ref 164) := rfl
    have Rk := R
    have Zk := Z
    obtain ⟨⟨c1_z, c2_z, c3_z, c4_z, c5_z, c6_z, c7_z, c8_z⟩, ⟨m2_z, m3_z, m4_z, m5_z, m6_z, m7_z, m8_z⟩, R3, R4, R5, R6, R7, R8, R9, R10⟩ := (R : rq T S x p 2 h g)
    obtain ⟨np, op, z1_z, z2_z, z3_z, z4_z, z5_z, z6_z, z7_z, z8_z, z9_z, z10_z⟩ := (Z : rs 2 h g)
    obtain ⟨nk1_z, nk2_z, nk3_z⟩ := A.2.2.2.2.2.1
    replace nk1_z : rg_v h 11 0 = rg_v g 164 44 := nk1_z
    replace nk2_z : 0 ≤ (rg_v h 11 0).toInt := nk2_z
    replace nk3_z : (rg_v h 11 0).toInt ≤ 64 := nk3_z
    replace z8_z : np.toInt ≤ (rg_v h 11 0).toInt + op.toInt := z8_z
    obtain ⟨kn, ekn⟩ : ∃ v, rg_v h 11 0 = v := ⟨_, rfl⟩
    rw [ekn] at nk1_z nk2_z nk3_z z8_z
    have e9_z := rt_c1 (x := kn) (by omega) (by omega)
    replace hc_z := rn_aload_n (am_cur_of (i := (0, 1, .aload_n 0, (0, 0, 0), 0)) (by decide +kernel)) g0_z hc_z
    replace hc_z := rn_getI (v := 2) (am_cur_of (i := (1, 3, .getfield 60, (4, 10, 419), 0)) (by decide +kernel)) (by decide +kernel) ka hc_z
    replace hc_z := rn_bipush (w := 6) (am_cur_of (i := (4, 2, .bipush 6, (0, 0, 0), 0)) (by decide +kernel)) (by decide) hc_z
    replace hc_z := rn_cmpT (am_cur_of (i := (6, 3, .if_icmp .ne 30, (19, 0, 0), 0)) (by decide +kernel)) (by decide) hc_z
    replace hc_z := rn_aload_n (am_cur_of (i := (36, 1, .aload_n 0, (0, 0, 0), 0)) (by decide +kernel)) g0_z hc_z
    replace hc_z := rn_bipush (w := 40) (am_cur_of (i := (37, 2, .bipush 40, (0, 0, 0), 0)) (by decide +kernel)) (by decide) hc_z
    replace hc_z := rn_callV (M' := am_m45) (o := 44) (ar := [.int 40]) (rest := []) (L := lv_args 0 [.ref 44, .int 40]) (am_cur_of (i := (39, 3, .invokevirtual 105, (45, 834, 3), 0)) (by decide +kernel)) rfl rfl rfl rfl hc_z
    obtain ⟨r1644_z, h1645_z, q1646_z, hc_z⟩ := hc_z
    obtain ⟨rfl, yq1646_z⟩ := rp_mkN (fun q => absurd (Eq.trans (Eq.symm ka) q.1) (by decide)) q1646_z
    subst yq1646_z
    replace hc_z : rn _ _ _ _ [.int 0] _ _ _ := hc_z
    replace hc_z := rn_ifT (am_cur_of (i := (42, 3, .ifCond .eq 38, (43, 0, 0), 0)) (by decide +kernel)) (by decide) hc_z
    replace hc_z := rn_aload_n (am_cur_of (i := (80, 1, .aload_n 0, (0, 0, 0), 0)) (by decide +kernel)) g0_z hc_z
    replace hc_z := rn_getI (v := 2) (am_cur_of (i := (81, 3, .getfield 60, (4, 10, 419), 0)) (by decide +kernel)) (by decide +kernel) ka hc_z
    replace hc_z := rn_iconst (w := 4) (am_cur_of (i := (84, 1, .iconst 4, (0, 0, 0), 0)) (by decide +kernel)) (by decide) hc_z
    replace hc_z := rn_cmpT (am_cur_of (i := (85, 3, .if_icmp .ne 40, (64, 0, 0), 0)) (by decide +kernel)) (by decide) hc_z
    replace hc_z := rn_aload_n (am_cur_of (i := (125, 1, .aload_n 0, (0, 0, 0), 0)) (by decide +kernel)) g0_z hc_z
    replace hc_z := rn_getI (v := 2) (am_cur_of (i := (126, 3, .getfield 60, (4, 10, 419), 0)) (by decide +kernel)) (by decide +kernel) ka hc_z
    replace hc_z := rn_iconst (w := 2) (am_cur_of (i := (129, 1, .iconst 2, (0, 0, 0), 0)) (by decide +kernel)) (by decide) hc_z
    replace hc_z := rn_cmpF (am_cur_of (i := (130, 3, .if_icmp .ne 37, (84, 0, 0), 0)) (by decide +kernel)) (by decide) hc_z
    replace hc_z := rn_aload_n (am_cur_of (i := (133, 1, .aload_n 0, (0, 0, 0), 0)) (by decide +kernel)) g0_z hc_z
    replace hc_z := rn_getI (v := 16) (am_cur_of (i := (134, 3, .getfield 91, (4, 11, 420), 0)) (by decide +kernel)) (by decide +kernel) kb hc_z
    replace hc_z := rn_bipush (w := 11) (am_cur_of (i := (137, 2, .bipush 11, (0, 0, 0), 0)) (by decide +kernel)) (by decide) hc_z
    replace hc_z := rn_cmpF (am_cur_of (i := (139, 3, .if_icmp .lt 28, (84, 0, 0), 0)) (by decide +kernel)) (by decide) hc_z
    replace hc_z := rn_aload_n (am_cur_of (i := (142, 1, .aload_n 0, (0, 0, 0), 0)) (by decide +kernel)) g0_z hc_z
    replace hc_z := rn_callV (M' := am_m49) (o := 44) (ar := []) (rest := []) (L := lv_args 0 [.ref 44]) (am_cur_of (i := (143, 3, .invokevirtual 270, (49, 852, 3), 0)) (by decide +kernel)) rfl rfl rfl rfl hc_z
    obtain ⟨r1647_z, h1648_z, q1649_z, hc_z⟩ := hc_z
    rcases rs_ck2 R4 (show h 44 6 = .ref 2 from R3) q1649_z with ⟨ge, rfl, eh⟩ | ⟨lt, rfl, eh⟩
    · subst eh
      replace ge : 64 ≤ kn.toInt := by rw [← ekn]; exact ge
      replace hc_z : rn _ _ _ _ [] _ _ _ := hc_z
      have K := rs_stick (w := 2) (q := p) (a := 51) (by decide) (by decide) rfl (by decide) rfl (show rg_v (am_up (am_up h 44 1 (.int 2)) 44 2 (.int (rg_v h 44 9))) 44 2 = p from R5) hc_z
      replace hm_z := rn_aload_n (am_cur_of (i := (0, 1, .aload_n 0, (0, 0, 0), 0)) (by decide +kernel)) g0m hm_z
      replace hm_z := rn_bipush (w := 40) (am_cur_of (i := (1, 2, .bipush 40, (0, 0, 0), 0)) (by decide +kernel)) (by decide) hm_z
      replace hm_z := rn_callV (M' := am_m171) (o := 164) (ar := [.int 40]) (rest := []) (L := lv_args 0 [.ref 164, .int 40]) (am_cur_of (i := (3, 3, .invokevirtual 194, (171, 1715, 3), 0)) (by decide +kernel)) rfl rfl rfl rfl hm_z
      obtain ⟨r1650_z, h1651_z, q1652_z, hm_z⟩ := hm_z
      obtain ⟨rfl, yq1652_z⟩ := rp_sgN (fun q => absurd (Eq.trans (Eq.symm kc) q.1) (by decide)) q1652_z
      subst yq1652_z
      replace hm_z : rn _ _ _ _ [.int 0] _ _ _ := hm_z
      replace hm_z := rn_ifT (am_cur_of (i := (6, 3, .ifCond .eq 44, (28, 0, 0), 0)) (by decide +kernel)) (by decide) hm_z
      replace hm_z := rn_aload_n (am_cur_of (i := (50, 1, .aload_n 0, (0, 0, 0), 0)) (by decide +kernel)) g0m hm_z
      replace hm_z := rn_bipush (w := 14) (am_cur_of (i := (51, 2, .bipush 14, (0, 0, 0), 0)) (by decide +kernel)) (by decide) hm_z
      replace hm_z := rn_callV (M' := am_m174) (o := 164) (ar := [.int 14]) (rest := []) (L := lv_args 0 [.ref 164, .int 14]) (am_cur_of (i := (53, 3, .invokevirtual 306, (174, 1727, 3), 0)) (by decide +kernel)) rfl rfl rfl rfl hm_z
      obtain ⟨r1653_z, h1654_z, q1655_z, hm_z⟩ := hm_z
      obtain ⟨rfl, yq1655_z⟩ := rp_kyN (fun q => absurd (Eq.trans (Eq.symm kd) q.2) (by decide)) q1655_z
      subst yq1655_z
      replace hm_z : rn _ _ _ _ [.int 0] _ _ _ := hm_z
      replace hm_z := rn_ifT (am_cur_of (i := (56, 3, .ifCond .eq 30, (47, 0, 0), 0)) (by decide +kernel)) (by decide) hm_z
      replace hm_z := rn_aload_n (am_cur_of (i := (86, 1, .aload_n 0, (0, 0, 0), 0)) (by decide +kernel)) g0m hm_z
      replace hm_z := rn_callV (M' := am_m176) (o := 164) (ar := []) (rest := []) (L := lv_args 0 [.ref 164]) (am_cur_of (i := (87, 3, .invokevirtual 312, (176, 1735, 3), 0)) (by decide +kernel)) rfl rfl rfl rfl hm_z
      obtain ⟨r1656_z, h1657_z, q1658_z, hm_z⟩ := hm_z
      obtain ⟨rfl, yq1658_z⟩ := rp_nm (c := 1) (d := 19) kc kd q1658_z
      replace yq1658_z := yq1658_z.symm
      subst yq1658_z
      rw [show rp_nmf 1 19 = 5 from by decide] at hm_z
      replace hm_z : rn _ _ _ _ [.int 5] _ _ _ := hm_z
      replace hm_z := rn_istore_n (am_cur_of (i := (90, 1, .istore_n 1, (0, 0, 0), 0)) (by decide +kernel)) hm_z
      obtain ⟨_, s1659_z, s1660_z, g1m, hm_z⟩ := hm_z
      replace g0m := s1659_z 0 _ (by decide) rfl g0m
      clear s1659_z s1660_z
      replace hm_z := rn_iload_n (am_cur_of (i := (91, 1, .iload_n 1, (0, 0, 0), 0)) (by decide +kernel)) g1m hm_z
      replace hm_z := rn_ifT (am_cur_of (i := (92, 3, .ifCond .ge 17, (60, 0, 0), 0)) (by decide +kernel)) (by decide) hm_z
      replace hm_z := rn_iload_n (am_cur_of (i := (109, 1, .iload_n 1, (0, 0, 0), 0)) (by decide +kernel)) g1m hm_z
      replace hm_z := rn_ifT (am_cur_of (i := (110, 3, .ifCond .ge 19, (70, 0, 0), 0)) (by decide +kernel)) (by decide) hm_z
      replace hm_z := rn_aload_n (am_cur_of (i := (129, 1, .aload_n 0, (0, 0, 0), 0)) (by decide +kernel)) g0m hm_z
      replace hm_z := rn_callV (M' := am_m175) (o := 164) (ar := []) (rest := []) (L := lv_args 0 [.ref 164]) (am_cur_of (i := (130, 3, .invokevirtual 309, (175, 1731, 3), 0)) (by decide +kernel)) rfl rfl rfl rfl hm_z
      obtain ⟨r1661_z, h1662_z, q1663_z, hm_z⟩ := hm_z
      rcases rs_ic q1663_z with ⟨i1_z, rfl, i3_z⟩ | ⟨i1_z, -⟩
      · subst i3_z
        replace hm_z : rn _ _ _ _ [.int 0] _ _ _ := hm_z
        replace hm_z := rn_ifF (am_cur_of (i := (133, 3, .ifCond .ne 5, (75, 0, 0), 0)) (by decide +kernel)) (by decide) hm_z
        replace hm_z := rn_iconst (w := 0) (am_cur_of (i := (136, 1, .iconst 0, (0, 0, 0), 0)) (by decide +kernel)) (by decide) hm_z
        replace hm_z := rn_iret (am_cur_of (i := (137, 1, .ireturn, (0, 0, 0), 0)) (by decide +kernel)) hm_z
        obtain ⟨e1664_z, e1665_z⟩ := hm_z
        subst e1664_z e1665_z
        exact (Or.inr ⟨rfl, 2, by decide, K.1, K.2, rfl, R6⟩)
      · exact absurd (Int32.toInt_inj.mp (show (rg_v g 164 44).toInt = (64 : Int32).toInt from by rw [show rg_v g 164 44 = kn from nk1_z.symm, show (64 : Int32).toInt = 64 by decide]; omega)) i1_z
    · subst eh
      replace lt : kn.toInt < 64 := by rw [← ekn]; exact lt
      rw [show rg_v h 11 0 = kn from ekn] at hc_z
      replace hm_z := rn_aload_n (am_cur_of (i := (0, 1, .aload_n 0, (0, 0, 0), 0)) (by decide +kernel)) g0m hm_z
      replace hm_z := rn_bipush (w := 40) (am_cur_of (i := (1, 2, .bipush 40, (0, 0, 0), 0)) (by decide +kernel)) (by decide) hm_z
      replace hm_z := rn_callV (M' := am_m171) (o := 164) (ar := [.int 40]) (rest := []) (L := lv_args 0 [.ref 164, .int 40]) (am_cur_of (i := (3, 3, .invokevirtual 194, (171, 1715, 3), 0)) (by decide +kernel)) rfl rfl rfl rfl hm_z
      obtain ⟨r1666_z, h1667_z, q1668_z, hm_z⟩ := hm_z
      obtain ⟨rfl, yq1668_z⟩ := rp_sgN (fun q => absurd (Eq.trans (Eq.symm kc) q.1) (by decide)) q1668_z
      subst yq1668_z
      replace hm_z : rn _ _ _ _ [.int 0] _ _ _ := hm_z
      replace hm_z := rn_ifT (am_cur_of (i := (6, 3, .ifCond .eq 44, (28, 0, 0), 0)) (by decide +kernel)) (by decide) hm_z
      replace hm_z := rn_aload_n (am_cur_of (i := (50, 1, .aload_n 0, (0, 0, 0), 0)) (by decide +kernel)) g0m hm_z
      replace hm_z := rn_bipush (w := 14) (am_cur_of (i := (51, 2, .bipush 14, (0, 0, 0), 0)) (by decide +kernel)) (by decide) hm_z
      replace hm_z := rn_callV (M' := am_m174) (o := 164) (ar := [.int 14]) (rest := []) (L := lv_args 0 [.ref 164, .int 14]) (am_cur_of (i := (53, 3, .invokevirtual 306, (174, 1727, 3), 0)) (by decide +kernel)) rfl rfl rfl rfl hm_z
      obtain ⟨r1669_z, h1670_z, q1671_z, hm_z⟩ := hm_z
      obtain ⟨rfl, yq1671_z⟩ := rp_kyN (fun q => absurd (Eq.trans (Eq.symm kd) q.2) (by decide)) q1671_z
      subst yq1671_z
      replace hm_z : rn _ _ _ _ [.int 0] _ _ _ := hm_z
      replace hm_z := rn_ifT (am_cur_of (i := (56, 3, .ifCond .eq 30, (47, 0, 0), 0)) (by decide +kernel)) (by decide) hm_z
      replace hm_z := rn_aload_n (am_cur_of (i := (86, 1, .aload_n 0, (0, 0, 0), 0)) (by decide +kernel)) g0m hm_z
      replace hm_z := rn_callV (M' := am_m176) (o := 164) (ar := []) (rest := []) (L := lv_args 0 [.ref 164]) (am_cur_of (i := (87, 3, .invokevirtual 312, (176, 1735, 3), 0)) (by decide +kernel)) rfl rfl rfl rfl hm_z
      obtain ⟨r1672_z, h1673_z, q1674_z, hm_z⟩ := hm_z
      obtain ⟨rfl, yq1674_z⟩ := rp_nm (c := 1) (d := 19) kc kd q1674_z
      replace yq1674_z := yq1674_z.symm
      subst yq1674_z
      rw [show rp_nmf 1 19 = 5 from by decide] at hm_z
      replace hm_z : rn _ _ _ _ [.int 5] _ _ _ := hm_z
      replace hm_z := rn_istore_n (am_cur_of (i := (90, 1, .istore_n 1, (0, 0, 0), 0)) (by decide +kernel)) hm_z
      obtain ⟨_, s1675_z, s1676_z, g1m, hm_z⟩ := hm_z
      replace g0m := s1675_z 0 _ (by decide) rfl g0m
      clear s1675_z s1676_z
      replace hm_z := rn_iload_n (am_cur_of (i := (91, 1, .iload_n 1, (0, 0, 0), 0)) (by decide +kernel)) g1m hm_z
      replace hm_z := rn_ifT (am_cur_of (i := (92, 3, .ifCond .ge 17, (60, 0, 0), 0)) (by decide +kernel)) (by decide) hm_z
      replace hm_z := rn_iload_n (am_cur_of (i := (109, 1, .iload_n 1, (0, 0, 0), 0)) (by decide +kernel)) g1m hm_z
      replace hm_z := rn_ifT (am_cur_of (i := (110, 3, .ifCond .ge 19, (70, 0, 0), 0)) (by decide +kernel)) (by decide) hm_z
      replace hm_z := rn_aload_n (am_cur_of (i := (129, 1, .aload_n 0, (0, 0, 0), 0)) (by decide +kernel)) g0m hm_z
      replace hm_z := rn_callV (M' := am_m175) (o := 164) (ar := []) (rest := []) (L := lv_args 0 [.ref 164]) (am_cur_of (i := (130, 3, .invokevirtual 309, (175, 1731, 3), 0)) (by decide +kernel)) rfl rfl rfl rfl hm_z
      obtain ⟨r1677_z, h1678_z, q1679_z, hm_z⟩ := hm_z
      rcases rs_ic q1679_z with ⟨i1_z, -⟩ | ⟨i1_z, rfl, i3_z⟩
      · exfalso
        have zz := congrArg Int32.toInt i1_z
        rw [show rg_v g 164 44 = kn from nk1_z.symm, show (64 : Int32).toInt = 64 by decide] at zz
        omega
      · subst i3_z
        rw [show rg_v g 164 44 = kn from nk1_z.symm] at hm_z
        replace hm_z : rn _ _ _ _ [.int 1] _ _ _ := hm_z
        replace hc_z : rn _ _ _ _ [] _ _ _ := hc_z
        replace hc_z := rn_aload_n (am_cur_of (i := (146, 1, .aload_n 0, (0, 0, 0), 0)) (by decide +kernel)) g0_z hc_z
        replace hc_z := rn_getM (x := 2) (am_cur_of (i := (147, 3, .getfield 25, (4, 6, 415), 0)) (by decide +kernel)) (show (am_up h 11 0 (.int (kn + 1))) 44 6 = .ref 2 from R3) hc_z
        replace hc_z := rn_getR (x := 11) (am_cur_of (i := (150, 3, .getfield 242, (1, 19, 316), 0)) (by decide +kernel)) (by decide +kernel) hc_z
        replace hc_z := rn_iconst (w := 1) (am_cur_of (i := (153, 1, .iconst 1, (0, 0, 0), 0)) (by decide +kernel)) (by decide) hc_z
        replace hc_z := rn_aload_n (am_cur_of (i := (154, 1, .aload_n 0, (0, 0, 0), 0)) (by decide +kernel)) g0_z hc_z
        replace hc_z := rn_getI (v := 16) (am_cur_of (i := (155, 3, .getfield 91, (4, 11, 420), 0)) (by decide +kernel)) (by decide +kernel) (show rg_v (am_up h 11 0 (.int (kn + 1))) 44 11 = 16 from kb) hc_z
        replace hc_z := rn_bipush (w := 11) (am_cur_of (i := (158, 2, .bipush 11, (0, 0, 0), 0)) (by decide +kernel)) (by decide) hc_z
        replace hc_z := rn_isub (w := 5) (am_cur_of (i := (160, 1, .isub, (0, 0, 0), 0)) (by decide +kernel)) (by decide) hc_z
        replace hc_z := rn_callV (M' := am_m48) (o := 11) (ar := [.int 5, .int 1]) (rest := []) (L := lv_args 0 [.ref 11, .int 1, .int 5]) (am_cur_of (i := (161, 3, .invokevirtual 276, (48, 845, 3), 0)) (by decide +kernel)) rfl rfl rfl rfl hc_z
        obtain ⟨r1680_z, h1681_z, q1682_z, hc_z⟩ := hc_z
        obtain ⟨rfl, PF⟩ := rs_put2 q1682_z
        replace hc_z : rn _ _ _ _ [] _ _ _ := hc_z
        replace hc_z := rn_goto (am_cur_of (i := (164, 3, .goto 8, (87, 0, 0), 0)) (by decide +kernel)) hc_z
        replace hc_z := rn_aload_n (am_cur_of (i := (172, 1, .aload_n 0, (0, 0, 0), 0)) (by decide +kernel)) g0_z hc_z
        replace hc_z := rn_callV (M' := am_m19) (o := 44) (ar := []) (rest := []) (L := lv_args 0 [.ref 44]) (am_cur_of (i := (173, 3, .invokevirtual 57, (19, 727, 3), 0)) (by decide +kernel)) rfl rfl rfl rfl hc_z
        obtain ⟨r1683_z, h1684_z, q1685_z, hc_z⟩ := hc_z
        have vo := rn_void rfl q1685_z
        subst vo
        replace hm_z := rn_ifT (am_cur_of (i := (133, 3, .ifCond .ne 5, (75, 0, 0), 0)) (by decide +kernel)) (by decide) hm_z
        replace hm_z := rn_aload_n (am_cur_of (i := (138, 1, .aload_n 0, (0, 0, 0), 0)) (by decide +kernel)) g0m hm_z
        replace hm_z := rn_iload_n (am_cur_of (i := (139, 1, .iload_n 1, (0, 0, 0), 0)) (by decide +kernel)) g1m hm_z
        replace hm_z := rn_ifF (am_cur_of (i := (140, 3, .ifCond .lt 7, (80, 0, 0), 0)) (by decide +kernel)) (by decide) hm_z
        replace hm_z := rn_iconst (w := 1) (am_cur_of (i := (143, 1, .iconst 1, (0, 0, 0), 0)) (by decide +kernel)) (by decide) hm_z
        replace hm_z := rn_goto (am_cur_of (i := (144, 3, .goto 4, (81, 0, 0), 0)) (by decide +kernel)) hm_z
        replace hm_z := rn_iload_n (am_cur_of (i := (148, 1, .iload_n 1, (0, 0, 0), 0)) (by decide +kernel)) g1m hm_z
        replace hm_z := rn_ifF (am_cur_of (i := (149, 3, .ifCond .lt 7, (85, 0, 0), 0)) (by decide +kernel)) (by decide) hm_z
        replace hm_z := rn_iload_n (am_cur_of (i := (152, 1, .iload_n 1, (0, 0, 0), 0)) (by decide +kernel)) g1m hm_z
        replace hm_z := rn_goto (am_cur_of (i := (153, 3, .goto 7, (87, 0, 0), 0)) (by decide +kernel)) hm_z
        replace hm_z := rn_iconst (w := 0) (am_cur_of (i := (160, 1, .iconst 0, (0, 0, 0), 0)) (by decide +kernel)) (by decide) hm_z
        replace hm_z := rn_callV (M' := am_m177) (o := 164) (ar := [.int 0, .int 5, .int 1]) (rest := []) (L := lv_args 0 [.ref 164, .int 1, .int 5, .int 0]) (am_cur_of (i := (161, 3, .invokevirtual 291, (177, 1739, 3), 0)) (by decide +kernel)) rfl rfl rfl rfl hm_z
        obtain ⟨r1686_z, h1687_z, q1688_z, hm_z⟩ := hm_z
        obtain ⟨rfl, GF⟩ := rs_grown q1688_z
        replace hm_z : rn _ _ _ _ [] _ _ _ := hm_z
        replace hm_z := rn_aload_n (am_cur_of (i := (164, 1, .aload_n 0, (0, 0, 0), 0)) (by decide +kernel)) g0m hm_z
        replace hm_z := rn_iconst (w := 0) (am_cur_of (i := (165, 1, .iconst 0, (0, 0, 0), 0)) (by decide +kernel)) (by decide) hm_z
        replace hm_z := rn_put (am_cur_of (i := (166, 3, .putfield 315, (12, 45, 1429), 0)) (by decide +kernel)) (by decide +kernel) hm_z
        replace hm_z := rn_aload_n (am_cur_of (i := (169, 1, .aload_n 0, (0, 0, 0), 0)) (by decide +kernel)) g0m hm_z
        replace hm_z := rn_callV (M' := am_m151) (o := 164) (ar := []) (rest := []) (L := lv_args 0 [.ref 164]) (am_cur_of (i := (170, 3, .invokevirtual 191, (151, 1636, 3), 0)) (by decide +kernel)) rfl rfl rfl rfl hm_z
        obtain ⟨r1689_z, h1690_z, q1691_z, hm_z⟩ := hm_z
        have vo := rn_void rfl q1691_z
        subst vo
        have FC : ab_Fr (rz_MC2.drop 1) h h1681_z := ab_Fr_trans (ab_Fr_up rfl ab_Fr_refl) (ab_Fr_sub (by decide) PF)
        have FC' : ab_Fr rz_MC2 h h1681_z := ab_Fr_sub (by decide) FC
        have FM : ab_Fr rz_MM g (am_up h1687_z 164 45 (.int 0)) := ab_Fr_up rfl (ab_Fr_trans (ab_Fr_up rfl ab_Fr_refl) (ab_Fr_sub (by decide) GF))
        obtain ⟨-, -, x2_z, p2_z, R2, le2_z, t5_z, t6_z⟩ := pr_tok (rz_q02 (rq_0 Rk) FC' FM) q1685_z q1691_z
        have A2 := rp_x (by decide) (rz_p2 A FC' FM ((show rg_v h1681_z 11 0 = kn + 1 from ((rg_v_fr PF (by decide)).trans (show rg_v (am_up h 11 0 (.int (kn + 1))) 11 0 = kn + 1 from rfl))).trans (show rg_v (am_up h1687_z 164 45 (.int 0)) 164 44 = kn + 1 from (show rg_v (am_up h1687_z 164 45 (.int 0)) 164 44 = kn + 1 from ((rg_v_fr GF (by decide)).trans (show rg_v (am_up g 164 44 (.int (kn + 1))) 164 44 = kn + 1 from rfl)))).symm) (by rw [show rg_v h1681_z 11 0 = kn + 1 from ((rg_v_fr PF (by decide)).trans (show rg_v (am_up h 11 0 (.int (kn + 1))) 11 0 = kn + 1 from rfl))]; omega) (by rw [show rg_v h1681_z 11 0 = kn + 1 from ((rg_v_fr PF (by decide)).trans (show rg_v (am_up h 11 0 (.int (kn + 1))) 11 0 = kn + 1 from rfl))]; omega)) (rx_C_f t5_z) (rx_M_f t6_z)
        have B2 := rp_tk (rz_t2 B FC FM) (rg_v_fr t5_z (by decide)) (fun k => rg_v_fr t6_z (rg_v_in (by decide) k)) (rx_M_f t6_z)
        have FC47 : ab_Fr [(44, 14), (44, 15), (11, 1), (11, 2), (12, 0), (13, 0)] h h1681_z := ab_Fr_trans (ab_Fr_up rfl ab_Fr_refl) (ab_Fr_sub (by decide) PF)
        have FM184 : ab_Fr [(164, 42), (164, 43), (164, 44), (164, 45), (164, 46), (164, 47), (164, 22), (181, 0), (182, 0), (183, 0), (185, 0)] g (am_up h1687_z 164 45 (.int 0)) := ab_Fr_up rfl (ab_Fr_trans (ab_Fr_up rfl ab_Fr_refl) (ab_Fr_sub (by decide) GF))
        have Z2 : rs 2 h1681_z (am_up h1687_z 164 45 (.int 0)) := rs_keep Zk ((show rg_v h1681_z 44 13 = np from ((rg_v_fr PF (by decide)).trans (show rg_v (am_up h 11 0 (.int (kn + 1))) 44 13 = np from z1_z))).trans z1_z.symm) ((show rg_v (am_up h1687_z 164 45 (.int 0)) 164 41 = np from (show rg_v (am_up h1687_z 164 45 (.int 0)) 164 41 = np from ((rg_v_fr GF (by decide)).trans (show rg_v (am_up g 164 44 (.int (kn + 1))) 164 41 = np from z2_z)))).trans z2_z.symm) ((show rg_v h1681_z 44 14 = op from ((rg_v_fr PF (by decide)).trans (show rg_v (am_up h 11 0 (.int (kn + 1))) 44 14 = op from z4_z))).trans z4_z.symm) ((show rg_v (am_up h1687_z 164 45 (.int 0)) 164 43 = op from (show rg_v (am_up h1687_z 164 45 (.int 0)) 164 43 = op from ((rg_v_fr GF (by decide)).trans (show rg_v (am_up g 164 44 (.int (kn + 1))) 164 43 = op from z5_z)))).trans z5_z.symm) (show (rg_v h 11 0).toInt ≤ (rg_v h1681_z 11 0).toInt by rw [(show rg_v h1681_z 11 0 = kn + 1 from ((rg_v_fr PF (by decide)).trans (show rg_v (am_up h 11 0 (.int (kn + 1))) 11 0 = kn + 1 from rfl))), ekn]; omega) (fun k => rg_v_fr FC47 (rg_v_in (by decide) k)) (fun k => rg_v_fr FM184 (rg_v_in (by decide) k))
        replace Z2 := rs_fr (by decide) Z2 t5_z t6_z
        have e45_z : rg_v h1690_z 164 45 = 0 := (rg_v_fr t6_z (by decide)).trans (show rg_v (am_up h1687_z 164 45 (.int 0)) 164 45 = 0 from (show rg_v (am_up h1687_z 164 45 (.int 0)) 164 45 = 0 from rfl))
        have e46_z : rg_v h1690_z 164 46 = 0 := (rg_v_fr t6_z (by decide)).trans (show rg_v (am_up h1687_z 164 45 (.int 0)) 164 46 = 0 from (show rg_v (am_up h1687_z 164 45 (.int 0)) 164 46 = 0 from ((rg_v_fr GF (by decide)).trans (show rg_v (am_up g 164 44 (.int (kn + 1))) 164 46 = 0 from w2_z))))
        replace hm_z : rn _ _ _ _ [] _ _ _ := hm_z
        replace hc_z : rn _ _ _ _ [] _ _ _ := hc_z
        replace hc_z := rn_iconst (w := 2) (am_cur_of (i := (176, 1, .iconst 2, (0, 0, 0), 0)) (by decide +kernel)) (by decide) hc_z
        replace hc_z := rn_iret (am_cur_of (i := (177, 1, .ireturn, (0, 0, 0), 0)) (by decide +kernel)) hc_z
        obtain ⟨e1692_z, e1693_z⟩ := hc_z
        replace hm_z := rn_iconst (w := 1) (am_cur_of (i := (173, 1, .iconst 1, (0, 0, 0), 0)) (by decide +kernel)) (by decide) hm_z
        replace hm_z := rn_iret (am_cur_of (i := (174, 1, .ireturn, (0, 0, 0), 0)) (by decide +kernel)) hm_z
        obtain ⟨e1694_z, e1695_z⟩ := hm_z
        subst e1692_z e1693_z e1694_z e1695_z
        exact Or.inl ⟨_, x2_z, p2_z, rfl, rfl, R2, le2_z, A2, B2, Z2, Or.inr (Or.inr ⟨rfl, e45_z⟩)⟩
  · have g0_z : am_get (lv_args 0 [.ref 44, .int 1]) 0 = some (.ref 44) := rfl
    have g1_z : am_get (lv_args 0 [.ref 44, .int 1]) 1 = some (.int 1) := rfl
    have g0m : am_get (lv_args 0 [.ref 164]) 0 = some (.ref 164) := rfl
    have Rk := R
    have Zk := Z
    obtain ⟨⟨c1_z, c2_z, c3_z, c4_z, c5_z, c6_z, c7_z, c8_z⟩, ⟨m2_z, m3_z, m4_z, m5_z, m6_z, m7_z, m8_z⟩, R3, R4, R5, R6, R7, R8, R9, R10⟩ := (R : rq T S x p 2 h g)
    obtain ⟨np, op, z1_z, z2_z, z3_z, z4_z, z5_z, z6_z, z7_z, z8_z, z9_z, z10_z⟩ := (Z : rs 2 h g)
    obtain ⟨nk1_z, nk2_z, nk3_z⟩ := A.2.2.2.2.2.1
    replace nk1_z : rg_v h 11 0 = rg_v g 164 44 := nk1_z
    replace nk2_z : 0 ≤ (rg_v h 11 0).toInt := nk2_z
    replace nk3_z : (rg_v h 11 0).toInt ≤ 64 := nk3_z
    replace z8_z : np.toInt ≤ (rg_v h 11 0).toInt + op.toInt := z8_z
    obtain ⟨kn, ekn⟩ : ∃ v, rg_v h 11 0 = v := ⟨_, rfl⟩
    rw [ekn] at nk1_z nk2_z nk3_z z8_z
    have e9_z := rt_c1 (x := kn) (by omega) (by omega)
    replace hc_z := rn_aload_n (am_cur_of (i := (0, 1, .aload_n 0, (0, 0, 0), 0)) (by decide +kernel)) g0_z hc_z
    replace hc_z := rn_getI (v := 3) (am_cur_of (i := (1, 3, .getfield 60, (4, 10, 419), 0)) (by decide +kernel)) (by decide +kernel) ka hc_z
    replace hc_z := rn_bipush (w := 6) (am_cur_of (i := (4, 2, .bipush 6, (0, 0, 0), 0)) (by decide +kernel)) (by decide) hc_z
    replace hc_z := rn_cmpT (am_cur_of (i := (6, 3, .if_icmp .ne 30, (19, 0, 0), 0)) (by decide +kernel)) (by decide) hc_z
    replace hc_z := rn_aload_n (am_cur_of (i := (36, 1, .aload_n 0, (0, 0, 0), 0)) (by decide +kernel)) g0_z hc_z
    replace hc_z := rn_bipush (w := 40) (am_cur_of (i := (37, 2, .bipush 40, (0, 0, 0), 0)) (by decide +kernel)) (by decide) hc_z
    replace hc_z := rn_callV (M' := am_m45) (o := 44) (ar := [.int 40]) (rest := []) (L := lv_args 0 [.ref 44, .int 40]) (am_cur_of (i := (39, 3, .invokevirtual 105, (45, 834, 3), 0)) (by decide +kernel)) rfl rfl rfl rfl hc_z
    obtain ⟨r1696_z, h1697_z, q1698_z, hc_z⟩ := hc_z
    obtain ⟨rfl, yq1698_z⟩ := rp_mkN (fun q => absurd (Eq.trans (Eq.symm ka) q.1) (by decide)) q1698_z
    subst yq1698_z
    replace hc_z : rn _ _ _ _ [.int 0] _ _ _ := hc_z
    replace hc_z := rn_ifT (am_cur_of (i := (42, 3, .ifCond .eq 38, (43, 0, 0), 0)) (by decide +kernel)) (by decide) hc_z
    replace hc_z := rn_aload_n (am_cur_of (i := (80, 1, .aload_n 0, (0, 0, 0), 0)) (by decide +kernel)) g0_z hc_z
    replace hc_z := rn_getI (v := 3) (am_cur_of (i := (81, 3, .getfield 60, (4, 10, 419), 0)) (by decide +kernel)) (by decide +kernel) ka hc_z
    replace hc_z := rn_iconst (w := 4) (am_cur_of (i := (84, 1, .iconst 4, (0, 0, 0), 0)) (by decide +kernel)) (by decide) hc_z
    replace hc_z := rn_cmpT (am_cur_of (i := (85, 3, .if_icmp .ne 40, (64, 0, 0), 0)) (by decide +kernel)) (by decide) hc_z
    replace hc_z := rn_aload_n (am_cur_of (i := (125, 1, .aload_n 0, (0, 0, 0), 0)) (by decide +kernel)) g0_z hc_z
    replace hc_z := rn_getI (v := 3) (am_cur_of (i := (126, 3, .getfield 60, (4, 10, 419), 0)) (by decide +kernel)) (by decide +kernel) ka hc_z
    replace hc_z := rn_iconst (w := 2) (am_cur_of (i := (129, 1, .iconst 2, (0, 0, 0), 0)) (by decide +kernel)) (by decide) hc_z
    replace hc_z := rn_cmpT (am_cur_of (i := (130, 3, .if_icmp .ne 37, (84, 0, 0), 0)) (by decide +kernel)) (by decide) hc_z
    replace hc_z := rn_aload_n (am_cur_of (i := (167, 1, .aload_n 0, (0, 0, 0), 0)) (by decide +kernel)) g0_z hc_z
    replace hc_z := rn_iconst (w := 1) (am_cur_of (i := (168, 1, .iconst 1, (0, 0, 0), 0)) (by decide +kernel)) (by decide) hc_z
    replace hc_z := rn_callV (M' := am_m29) (o := 44) (ar := [.int 1]) (rest := []) (L := lv_args 0 [.ref 44, .int 1]) (am_cur_of (i := (169, 3, .invokevirtual 108, (29, 769, 3), 0)) (by decide +kernel)) rfl rfl rfl rfl hc_z
    obtain ⟨r1699_z, h1700_z, q1701_z, hc_z⟩ := hc_z
    obtain ⟨rfl, yq1701_z⟩ := rp_fail R4 q1701_z
    subst yq1701_z
    replace hc_z : rn _ _ _ _ [] _ _ _ := hc_z
    have K := rs_stick (w := 1) (q := p) (a := 51) (by decide) (by decide) rfl (by decide) rfl (show rg_v (am_up (am_up h 44 1 (.int 1)) 44 2 (.int (rg_v h 44 9))) 44 2 = p from R5) hc_z
    replace hm_z := rn_aload_n (am_cur_of (i := (0, 1, .aload_n 0, (0, 0, 0), 0)) (by decide +kernel)) g0m hm_z
    replace hm_z := rn_bipush (w := 40) (am_cur_of (i := (1, 2, .bipush 40, (0, 0, 0), 0)) (by decide +kernel)) (by decide) hm_z
    replace hm_z := rn_callV (M' := am_m171) (o := 164) (ar := [.int 40]) (rest := []) (L := lv_args 0 [.ref 164, .int 40]) (am_cur_of (i := (3, 3, .invokevirtual 194, (171, 1715, 3), 0)) (by decide +kernel)) rfl rfl rfl rfl hm_z
    obtain ⟨r1702_z, h1703_z, q1704_z, hm_z⟩ := hm_z
    obtain ⟨rfl, yq1704_z⟩ := rp_sgN (fun q => absurd (Eq.trans (Eq.symm kc) q.1) (by decide)) q1704_z
    subst yq1704_z
    replace hm_z : rn _ _ _ _ [.int 0] _ _ _ := hm_z
    replace hm_z := rn_ifT (am_cur_of (i := (6, 3, .ifCond .eq 44, (28, 0, 0), 0)) (by decide +kernel)) (by decide) hm_z
    replace hm_z := rn_aload_n (am_cur_of (i := (50, 1, .aload_n 0, (0, 0, 0), 0)) (by decide +kernel)) g0m hm_z
    replace hm_z := rn_bipush (w := 14) (am_cur_of (i := (51, 2, .bipush 14, (0, 0, 0), 0)) (by decide +kernel)) (by decide) hm_z
    replace hm_z := rn_callV (M' := am_m174) (o := 164) (ar := [.int 14]) (rest := []) (L := lv_args 0 [.ref 164, .int 14]) (am_cur_of (i := (53, 3, .invokevirtual 306, (174, 1727, 3), 0)) (by decide +kernel)) rfl rfl rfl rfl hm_z
    obtain ⟨r1705_z, h1706_z, q1707_z, hm_z⟩ := hm_z
    obtain ⟨rfl, yq1707_z⟩ := rp_kyN (fun q => absurd (Eq.trans (Eq.symm kc) q.1) (by decide)) q1707_z
    subst yq1707_z
    replace hm_z : rn _ _ _ _ [.int 0] _ _ _ := hm_z
    replace hm_z := rn_ifT (am_cur_of (i := (56, 3, .ifCond .eq 30, (47, 0, 0), 0)) (by decide +kernel)) (by decide) hm_z
    replace hm_z := rn_aload_n (am_cur_of (i := (86, 1, .aload_n 0, (0, 0, 0), 0)) (by decide +kernel)) g0m hm_z
    replace hm_z := rn_callV (M' := am_m176) (o := 164) (ar := []) (rest := []) (L := lv_args 0 [.ref 164]) (am_cur_of (i := (87, 3, .invokevirtual 312, (176, 1735, 3), 0)) (by decide +kernel)) rfl rfl rfl rfl hm_z
    obtain ⟨r1708_z, h1709_z, q1710_z, hm_z⟩ := hm_z
    obtain ⟨rfl, yq1710_z⟩ := rp_nm (c := 2) (d := rg_v g 164 9) kc rfl q1710_z
    replace yq1710_z := yq1710_z.symm
    subst yq1710_z
    rw [show rp_nmf 2 (rg_v g 164 9) = (-1) from by unfold rp_nmf; rw [if_neg (by decide)]] at hm_z
    replace hm_z : rn _ _ _ _ [.int (-1)] _ _ _ := hm_z
    replace hm_z := rn_istore_n (am_cur_of (i := (90, 1, .istore_n 1, (0, 0, 0), 0)) (by decide +kernel)) hm_z
    obtain ⟨_, s1711_z, s1712_z, g1m, hm_z⟩ := hm_z
    replace g0m := s1711_z 0 _ (by decide) rfl g0m
    clear s1711_z s1712_z
    replace hm_z := rn_iload_n (am_cur_of (i := (91, 1, .iload_n 1, (0, 0, 0), 0)) (by decide +kernel)) g1m hm_z
    replace hm_z := rn_ifF (am_cur_of (i := (92, 3, .ifCond .ge 17, (60, 0, 0), 0)) (by decide +kernel)) (by decide) hm_z
    replace hm_z := rn_aload_n (am_cur_of (i := (95, 1, .aload_n 0, (0, 0, 0), 0)) (by decide +kernel)) g0m hm_z
    replace hm_z := rn_getI (v := 2) (am_cur_of (i := (96, 3, .getfield 157, (12, 8, 1392), 0)) (by decide +kernel)) (by decide +kernel) kc hm_z
    replace hm_z := rn_iconst (w := 3) (am_cur_of (i := (99, 1, .iconst 3, (0, 0, 0), 0)) (by decide +kernel)) (by decide) hm_z
    replace hm_z := rn_cmpF (am_cur_of (i := (100, 3, .if_icmp .eq 9, (60, 0, 0), 0)) (by decide +kernel)) (by decide) hm_z
    replace hm_z := rn_aload_n (am_cur_of (i := (103, 1, .aload_n 0, (0, 0, 0), 0)) (by decide +kernel)) g0m hm_z
    replace hm_z := rn_iconst (w := 1) (am_cur_of (i := (104, 1, .iconst 1, (0, 0, 0), 0)) (by decide +kernel)) (by decide) hm_z
    replace hm_z := rn_callV (M' := am_m158) (o := 164) (ar := [.int 1]) (rest := []) (L := lv_args 0 [.ref 164, .int 1]) (am_cur_of (i := (105, 3, .invokevirtual 181, (158, 1665, 3), 0)) (by decide +kernel)) rfl rfl rfl rfl hm_z
    obtain ⟨r1713_z, h1714_z, q1715_z, hm_z⟩ := hm_z
    obtain ⟨rfl, yq1715_z⟩ := rp_wrong q1715_z
    subst yq1715_z
    replace hm_z : rn _ _ _ _ [.int 0] _ _ _ := hm_z
    replace hm_z := rn_iret (am_cur_of (i := (108, 1, .ireturn, (0, 0, 0), 0)) (by decide +kernel)) hm_z
    obtain ⟨e1716_z, e1717_z⟩ := hm_z
    subst e1716_z e1717_z
    exact (Or.inr ⟨rfl, 1, by decide, K.1, K.2, rfl, R6⟩)
  · have g0_z : am_get (lv_args 0 [.ref 44, .int 1]) 0 = some (.ref 44) := rfl
    have g1_z : am_get (lv_args 0 [.ref 44, .int 1]) 1 = some (.int 1) := rfl
    have g0m : am_get (lv_args 0 [.ref 164]) 0 = some (.ref 164) := rfl
    have Rk := R
    have Zk := Z
    obtain ⟨⟨c1_z, c2_z, c3_z, c4_z, c5_z, c6_z, c7_z, c8_z⟩, ⟨m2_z, m3_z, m4_z, m5_z, m6_z, m7_z, m8_z⟩, R3, R4, R5, R6, R7, R8, R9, R10⟩ := (R : rq T S x p 2 h g)
    obtain ⟨np, op, z1_z, z2_z, z3_z, z4_z, z5_z, z6_z, z7_z, z8_z, z9_z, z10_z⟩ := (Z : rs 2 h g)
    obtain ⟨nk1_z, nk2_z, nk3_z⟩ := A.2.2.2.2.2.1
    replace nk1_z : rg_v h 11 0 = rg_v g 164 44 := nk1_z
    replace nk2_z : 0 ≤ (rg_v h 11 0).toInt := nk2_z
    replace nk3_z : (rg_v h 11 0).toInt ≤ 64 := nk3_z
    replace z8_z : np.toInt ≤ (rg_v h 11 0).toInt + op.toInt := z8_z
    obtain ⟨kn, ekn⟩ : ∃ v, rg_v h 11 0 = v := ⟨_, rfl⟩
    rw [ekn] at nk1_z nk2_z nk3_z z8_z
    have e9_z := rt_c1 (x := kn) (by omega) (by omega)
    replace hc_z := rn_aload_n (am_cur_of (i := (0, 1, .aload_n 0, (0, 0, 0), 0)) (by decide +kernel)) g0_z hc_z
    replace hc_z := rn_getI (v := 4) (am_cur_of (i := (1, 3, .getfield 60, (4, 10, 419), 0)) (by decide +kernel)) (by decide +kernel) ka hc_z
    replace hc_z := rn_bipush (w := 6) (am_cur_of (i := (4, 2, .bipush 6, (0, 0, 0), 0)) (by decide +kernel)) (by decide) hc_z
    replace hc_z := rn_cmpT (am_cur_of (i := (6, 3, .if_icmp .ne 30, (19, 0, 0), 0)) (by decide +kernel)) (by decide) hc_z
    replace hc_z := rn_aload_n (am_cur_of (i := (36, 1, .aload_n 0, (0, 0, 0), 0)) (by decide +kernel)) g0_z hc_z
    replace hc_z := rn_bipush (w := 40) (am_cur_of (i := (37, 2, .bipush 40, (0, 0, 0), 0)) (by decide +kernel)) (by decide) hc_z
    replace hc_z := rn_callV (M' := am_m45) (o := 44) (ar := [.int 40]) (rest := []) (L := lv_args 0 [.ref 44, .int 40]) (am_cur_of (i := (39, 3, .invokevirtual 105, (45, 834, 3), 0)) (by decide +kernel)) rfl rfl rfl rfl hc_z
    obtain ⟨r1718_z, h1719_z, q1720_z, hc_z⟩ := hc_z
    obtain ⟨rfl, yq1720_z⟩ := rp_mkN (fun q => absurd (Eq.trans (Eq.symm ka) q.1) (by decide)) q1720_z
    subst yq1720_z
    replace hc_z : rn _ _ _ _ [.int 0] _ _ _ := hc_z
    replace hc_z := rn_ifT (am_cur_of (i := (42, 3, .ifCond .eq 38, (43, 0, 0), 0)) (by decide +kernel)) (by decide) hc_z
    replace hc_z := rn_aload_n (am_cur_of (i := (80, 1, .aload_n 0, (0, 0, 0), 0)) (by decide +kernel)) g0_z hc_z
    replace hc_z := rn_getI (v := 4) (am_cur_of (i := (81, 3, .getfield 60, (4, 10, 419), 0)) (by decide +kernel)) (by decide +kernel) ka hc_z
    replace hc_z := rn_iconst (w := 4) (am_cur_of (i := (84, 1, .iconst 4, (0, 0, 0), 0)) (by decide +kernel)) (by decide) hc_z
    replace hc_z := rn_cmpF (am_cur_of (i := (85, 3, .if_icmp .ne 40, (64, 0, 0), 0)) (by decide +kernel)) (by decide) hc_z
    replace hc_z := rn_aload_n (am_cur_of (i := (88, 1, .aload_n 0, (0, 0, 0), 0)) (by decide +kernel)) g0_z hc_z
    replace hc_z := rn_getI (v := rg_v h 44 11) (am_cur_of (i := (89, 3, .getfield 91, (4, 11, 420), 0)) (by decide +kernel)) (by decide +kernel) rfl hc_z
    replace hc_z := rn_sipush (w := 9999) (am_cur_of (i := (92, 3, .sipush 9999, (0, 0, 0), 0)) (by decide +kernel)) (by decide) hc_z
    replace hc_z := rn_cmp (am_cur_of (i := (95, 3, .if_icmp .le 8, (54, 0, 0), 0)) (by decide +kernel)) hc_z
    rcases hc_z with ⟨b1721_z, hc_z⟩ | ⟨b1721_z, hc_z⟩
    · replace b1721_z : (rg_v h 44 11).toInt ≤ (9999 : Int32).toInt := b1721_z
      replace hc_z := rn_aload_n (am_cur_of (i := (103, 1, .aload_n 0, (0, 0, 0), 0)) (by decide +kernel)) g0_z hc_z
      replace hc_z := rn_callV (M' := am_m49) (o := 44) (ar := []) (rest := []) (L := lv_args 0 [.ref 44]) (am_cur_of (i := (104, 3, .invokevirtual 270, (49, 852, 3), 0)) (by decide +kernel)) rfl rfl rfl rfl hc_z
      obtain ⟨r1722_z, h1723_z, q1724_z, hc_z⟩ := hc_z
      rcases rs_ck2 R4 (show h 44 6 = .ref 2 from R3) q1724_z with ⟨ge, rfl, eh⟩ | ⟨lt, rfl, eh⟩
      · subst eh
        replace ge : 64 ≤ kn.toInt := by rw [← ekn]; exact ge
        replace hc_z : rn _ _ _ _ [] _ _ _ := hc_z
        have K := rs_stick (w := 2) (q := p) (a := 51) (by decide) (by decide) rfl (by decide) rfl (show rg_v (am_up (am_up h 44 1 (.int 2)) 44 2 (.int (rg_v h 44 9))) 44 2 = p from R5) hc_z
        replace hm_z := rn_aload_n (am_cur_of (i := (0, 1, .aload_n 0, (0, 0, 0), 0)) (by decide +kernel)) g0m hm_z
        replace hm_z := rn_bipush (w := 40) (am_cur_of (i := (1, 2, .bipush 40, (0, 0, 0), 0)) (by decide +kernel)) (by decide) hm_z
        replace hm_z := rn_callV (M' := am_m171) (o := 164) (ar := [.int 40]) (rest := []) (L := lv_args 0 [.ref 164, .int 40]) (am_cur_of (i := (3, 3, .invokevirtual 194, (171, 1715, 3), 0)) (by decide +kernel)) rfl rfl rfl rfl hm_z
        obtain ⟨r1725_z, h1726_z, q1727_z, hm_z⟩ := hm_z
        obtain ⟨rfl, yq1727_z⟩ := rp_sgN (fun q => absurd (Eq.trans (Eq.symm kc) q.1) (by decide)) q1727_z
        subst yq1727_z
        replace hm_z : rn _ _ _ _ [.int 0] _ _ _ := hm_z
        replace hm_z := rn_ifT (am_cur_of (i := (6, 3, .ifCond .eq 44, (28, 0, 0), 0)) (by decide +kernel)) (by decide) hm_z
        replace hm_z := rn_aload_n (am_cur_of (i := (50, 1, .aload_n 0, (0, 0, 0), 0)) (by decide +kernel)) g0m hm_z
        replace hm_z := rn_bipush (w := 14) (am_cur_of (i := (51, 2, .bipush 14, (0, 0, 0), 0)) (by decide +kernel)) (by decide) hm_z
        replace hm_z := rn_callV (M' := am_m174) (o := 164) (ar := [.int 14]) (rest := []) (L := lv_args 0 [.ref 164, .int 14]) (am_cur_of (i := (53, 3, .invokevirtual 306, (174, 1727, 3), 0)) (by decide +kernel)) rfl rfl rfl rfl hm_z
        obtain ⟨r1728_z, h1729_z, q1730_z, hm_z⟩ := hm_z
        obtain ⟨rfl, yq1730_z⟩ := rp_kyN (fun q => absurd (Eq.trans (Eq.symm kc) q.1) (by decide)) q1730_z
        subst yq1730_z
        replace hm_z : rn _ _ _ _ [.int 0] _ _ _ := hm_z
        replace hm_z := rn_ifT (am_cur_of (i := (56, 3, .ifCond .eq 30, (47, 0, 0), 0)) (by decide +kernel)) (by decide) hm_z
        replace hm_z := rn_aload_n (am_cur_of (i := (86, 1, .aload_n 0, (0, 0, 0), 0)) (by decide +kernel)) g0m hm_z
        replace hm_z := rn_callV (M' := am_m176) (o := 164) (ar := []) (rest := []) (L := lv_args 0 [.ref 164]) (am_cur_of (i := (87, 3, .invokevirtual 312, (176, 1735, 3), 0)) (by decide +kernel)) rfl rfl rfl rfl hm_z
        obtain ⟨r1731_z, h1732_z, q1733_z, hm_z⟩ := hm_z
        obtain ⟨rfl, yq1733_z⟩ := rp_nm (c := 3) (d := rg_v g 164 9) kc rfl q1733_z
        replace yq1733_z := yq1733_z.symm
        subst yq1733_z
        rw [show rp_nmf 3 (rg_v g 164 9) = (-1) from by unfold rp_nmf; rw [if_neg (by decide)]] at hm_z
        replace hm_z : rn _ _ _ _ [.int (-1)] _ _ _ := hm_z
        replace hm_z := rn_istore_n (am_cur_of (i := (90, 1, .istore_n 1, (0, 0, 0), 0)) (by decide +kernel)) hm_z
        obtain ⟨_, s1734_z, s1735_z, g1m, hm_z⟩ := hm_z
        replace g0m := s1734_z 0 _ (by decide) rfl g0m
        clear s1734_z s1735_z
        replace hm_z := rn_iload_n (am_cur_of (i := (91, 1, .iload_n 1, (0, 0, 0), 0)) (by decide +kernel)) g1m hm_z
        replace hm_z := rn_ifF (am_cur_of (i := (92, 3, .ifCond .ge 17, (60, 0, 0), 0)) (by decide +kernel)) (by decide) hm_z
        replace hm_z := rn_aload_n (am_cur_of (i := (95, 1, .aload_n 0, (0, 0, 0), 0)) (by decide +kernel)) g0m hm_z
        replace hm_z := rn_getI (v := 3) (am_cur_of (i := (96, 3, .getfield 157, (12, 8, 1392), 0)) (by decide +kernel)) (by decide +kernel) kc hm_z
        replace hm_z := rn_iconst (w := 3) (am_cur_of (i := (99, 1, .iconst 3, (0, 0, 0), 0)) (by decide +kernel)) (by decide) hm_z
        replace hm_z := rn_cmpT (am_cur_of (i := (100, 3, .if_icmp .eq 9, (60, 0, 0), 0)) (by decide +kernel)) (by decide) hm_z
        replace hm_z := rn_iload_n (am_cur_of (i := (109, 1, .iload_n 1, (0, 0, 0), 0)) (by decide +kernel)) g1m hm_z
        replace hm_z := rn_ifF (am_cur_of (i := (110, 3, .ifCond .ge 19, (70, 0, 0), 0)) (by decide +kernel)) (by decide) hm_z
        replace hm_z := rn_aload_n (am_cur_of (i := (113, 1, .aload_n 0, (0, 0, 0), 0)) (by decide +kernel)) g0m hm_z
        replace hm_z := rn_getI (v := rg_v g 164 9) (am_cur_of (i := (114, 3, .getfield 168, (12, 9, 1393), 0)) (by decide +kernel)) (by decide +kernel) rfl hm_z
        replace hm_z := rn_sipush (w := 9999) (am_cur_of (i := (117, 3, .sipush 9999, (0, 0, 0), 0)) (by decide +kernel)) (by decide) hm_z
        replace hm_z := rn_cmp (am_cur_of (i := (120, 3, .if_icmp .le 9, (70, 0, 0), 0)) (by decide +kernel)) hm_z
        rcases hm_z with ⟨b1736_z, hm_z⟩ | ⟨b1736_z, hm_z⟩
        · replace b1736_z : (rg_v g 164 9).toInt ≤ (9999 : Int32).toInt := b1736_z
          replace hm_z := rn_aload_n (am_cur_of (i := (129, 1, .aload_n 0, (0, 0, 0), 0)) (by decide +kernel)) g0m hm_z
          replace hm_z := rn_callV (M' := am_m175) (o := 164) (ar := []) (rest := []) (L := lv_args 0 [.ref 164]) (am_cur_of (i := (130, 3, .invokevirtual 309, (175, 1731, 3), 0)) (by decide +kernel)) rfl rfl rfl rfl hm_z
          obtain ⟨r1737_z, h1738_z, q1739_z, hm_z⟩ := hm_z
          rcases rs_ic q1739_z with ⟨i1_z, rfl, i3_z⟩ | ⟨i1_z, -⟩
          · subst i3_z
            replace hm_z : rn _ _ _ _ [.int 0] _ _ _ := hm_z
            replace hm_z := rn_ifF (am_cur_of (i := (133, 3, .ifCond .ne 5, (75, 0, 0), 0)) (by decide +kernel)) (by decide) hm_z
            replace hm_z := rn_iconst (w := 0) (am_cur_of (i := (136, 1, .iconst 0, (0, 0, 0), 0)) (by decide +kernel)) (by decide) hm_z
            replace hm_z := rn_iret (am_cur_of (i := (137, 1, .ireturn, (0, 0, 0), 0)) (by decide +kernel)) hm_z
            obtain ⟨e1740_z, e1741_z⟩ := hm_z
            subst e1740_z e1741_z
            exact (Or.inr ⟨rfl, 2, by decide, K.1, K.2, rfl, R6⟩)
          · exact absurd (Int32.toInt_inj.mp (show (rg_v g 164 44).toInt = (64 : Int32).toInt from by rw [show rg_v g 164 44 = kn from nk1_z.symm, show (64 : Int32).toInt = 64 by decide]; omega)) i1_z
        · replace b1736_z : (9999 : Int32).toInt < (rg_v g 164 9).toInt := b1736_z
          omega
      · subst eh
        replace lt : kn.toInt < 64 := by rw [← ekn]; exact lt
        rw [show rg_v h 11 0 = kn from ekn] at hc_z
        replace hm_z := rn_aload_n (am_cur_of (i := (0, 1, .aload_n 0, (0, 0, 0), 0)) (by decide +kernel)) g0m hm_z
        replace hm_z := rn_bipush (w := 40) (am_cur_of (i := (1, 2, .bipush 40, (0, 0, 0), 0)) (by decide +kernel)) (by decide) hm_z
        replace hm_z := rn_callV (M' := am_m171) (o := 164) (ar := [.int 40]) (rest := []) (L := lv_args 0 [.ref 164, .int 40]) (am_cur_of (i := (3, 3, .invokevirtual 194, (171, 1715, 3), 0)) (by decide +kernel)) rfl rfl rfl rfl hm_z
        obtain ⟨r1742_z, h1743_z, q1744_z, hm_z⟩ := hm_z
        obtain ⟨rfl, yq1744_z⟩ := rp_sgN (fun q => absurd (Eq.trans (Eq.symm kc) q.1) (by decide)) q1744_z
        subst yq1744_z
        replace hm_z : rn _ _ _ _ [.int 0] _ _ _ := hm_z
        replace hm_z := rn_ifT (am_cur_of (i := (6, 3, .ifCond .eq 44, (28, 0, 0), 0)) (by decide +kernel)) (by decide) hm_z
        replace hm_z := rn_aload_n (am_cur_of (i := (50, 1, .aload_n 0, (0, 0, 0), 0)) (by decide +kernel)) g0m hm_z
        replace hm_z := rn_bipush (w := 14) (am_cur_of (i := (51, 2, .bipush 14, (0, 0, 0), 0)) (by decide +kernel)) (by decide) hm_z
        replace hm_z := rn_callV (M' := am_m174) (o := 164) (ar := [.int 14]) (rest := []) (L := lv_args 0 [.ref 164, .int 14]) (am_cur_of (i := (53, 3, .invokevirtual 306, (174, 1727, 3), 0)) (by decide +kernel)) rfl rfl rfl rfl hm_z
        obtain ⟨r1745_z, h1746_z, q1747_z, hm_z⟩ := hm_z
        obtain ⟨rfl, yq1747_z⟩ := rp_kyN (fun q => absurd (Eq.trans (Eq.symm kc) q.1) (by decide)) q1747_z
        subst yq1747_z
        replace hm_z : rn _ _ _ _ [.int 0] _ _ _ := hm_z
        replace hm_z := rn_ifT (am_cur_of (i := (56, 3, .ifCond .eq 30, (47, 0, 0), 0)) (by decide +kernel)) (by decide) hm_z
        replace hm_z := rn_aload_n (am_cur_of (i := (86, 1, .aload_n 0, (0, 0, 0), 0)) (by decide +kernel)) g0m hm_z
        replace hm_z := rn_callV (M' := am_m176) (o := 164) (ar := []) (rest := []) (L := lv_args 0 [.ref 164]) (am_cur_of (i := (87, 3, .invokevirtual 312, (176, 1735, 3), 0)) (by decide +kernel)) rfl rfl rfl rfl hm_z
        obtain ⟨r1748_z, h1749_z, q1750_z, hm_z⟩ := hm_z
        obtain ⟨rfl, yq1750_z⟩ := rp_nm (c := 3) (d := rg_v g 164 9) kc rfl q1750_z
        replace yq1750_z := yq1750_z.symm
        subst yq1750_z
        rw [show rp_nmf 3 (rg_v g 164 9) = (-1) from by unfold rp_nmf; rw [if_neg (by decide)]] at hm_z
        replace hm_z : rn _ _ _ _ [.int (-1)] _ _ _ := hm_z
        replace hm_z := rn_istore_n (am_cur_of (i := (90, 1, .istore_n 1, (0, 0, 0), 0)) (by decide +kernel)) hm_z
        obtain ⟨_, s1751_z, s1752_z, g1m, hm_z⟩ := hm_z
        replace g0m := s1751_z 0 _ (by decide) rfl g0m
        clear s1751_z s1752_z
        replace hm_z := rn_iload_n (am_cur_of (i := (91, 1, .iload_n 1, (0, 0, 0), 0)) (by decide +kernel)) g1m hm_z
        replace hm_z := rn_ifF (am_cur_of (i := (92, 3, .ifCond .ge 17, (60, 0, 0), 0)) (by decide +kernel)) (by decide) hm_z
        replace hm_z := rn_aload_n (am_cur_of (i := (95, 1, .aload_n 0, (0, 0, 0), 0)) (by decide +kernel)) g0m hm_z
        replace hm_z := rn_getI (v := 3) (am_cur_of (i := (96, 3, .getfield 157, (12, 8, 1392), 0)) (by decide +kernel)) (by decide +kernel) kc hm_z
        replace hm_z := rn_iconst (w := 3) (am_cur_of (i := (99, 1, .iconst 3, (0, 0, 0), 0)) (by decide +kernel)) (by decide) hm_z
        replace hm_z := rn_cmpT (am_cur_of (i := (100, 3, .if_icmp .eq 9, (60, 0, 0), 0)) (by decide +kernel)) (by decide) hm_z
        replace hm_z := rn_iload_n (am_cur_of (i := (109, 1, .iload_n 1, (0, 0, 0), 0)) (by decide +kernel)) g1m hm_z
        replace hm_z := rn_ifF (am_cur_of (i := (110, 3, .ifCond .ge 19, (70, 0, 0), 0)) (by decide +kernel)) (by decide) hm_z
        replace hm_z := rn_aload_n (am_cur_of (i := (113, 1, .aload_n 0, (0, 0, 0), 0)) (by decide +kernel)) g0m hm_z
        replace hm_z := rn_getI (v := rg_v g 164 9) (am_cur_of (i := (114, 3, .getfield 168, (12, 9, 1393), 0)) (by decide +kernel)) (by decide +kernel) rfl hm_z
        replace hm_z := rn_sipush (w := 9999) (am_cur_of (i := (117, 3, .sipush 9999, (0, 0, 0), 0)) (by decide +kernel)) (by decide) hm_z
        replace hm_z := rn_cmp (am_cur_of (i := (120, 3, .if_icmp .le 9, (70, 0, 0), 0)) (by decide +kernel)) hm_z
        rcases hm_z with ⟨b1753_z, hm_z⟩ | ⟨b1753_z, hm_z⟩
        · replace b1753_z : (rg_v g 164 9).toInt ≤ (9999 : Int32).toInt := b1753_z
          replace hm_z := rn_aload_n (am_cur_of (i := (129, 1, .aload_n 0, (0, 0, 0), 0)) (by decide +kernel)) g0m hm_z
          replace hm_z := rn_callV (M' := am_m175) (o := 164) (ar := []) (rest := []) (L := lv_args 0 [.ref 164]) (am_cur_of (i := (130, 3, .invokevirtual 309, (175, 1731, 3), 0)) (by decide +kernel)) rfl rfl rfl rfl hm_z
          obtain ⟨r1754_z, h1755_z, q1756_z, hm_z⟩ := hm_z
          rcases rs_ic q1756_z with ⟨i1_z, -⟩ | ⟨i1_z, rfl, i3_z⟩
          · exfalso
            have zz := congrArg Int32.toInt i1_z
            rw [show rg_v g 164 44 = kn from nk1_z.symm, show (64 : Int32).toInt = 64 by decide] at zz
            omega
          · subst i3_z
            rw [show rg_v g 164 44 = kn from nk1_z.symm] at hm_z
            replace hm_z : rn _ _ _ _ [.int 1] _ _ _ := hm_z
            replace hc_z : rn _ _ _ _ [] _ _ _ := hc_z
            replace hc_z := rn_aload_n (am_cur_of (i := (107, 1, .aload_n 0, (0, 0, 0), 0)) (by decide +kernel)) g0_z hc_z
            replace hc_z := rn_getM (x := 2) (am_cur_of (i := (108, 3, .getfield 25, (4, 6, 415), 0)) (by decide +kernel)) (show (am_up h 11 0 (.int (kn + 1))) 44 6 = .ref 2 from R3) hc_z
            replace hc_z := rn_getR (x := 11) (am_cur_of (i := (111, 3, .getfield 242, (1, 19, 316), 0)) (by decide +kernel)) (by decide +kernel) hc_z
            replace hc_z := rn_iconst (w := 0) (am_cur_of (i := (114, 1, .iconst 0, (0, 0, 0), 0)) (by decide +kernel)) (by decide) hc_z
            replace hc_z := rn_aload_n (am_cur_of (i := (115, 1, .aload_n 0, (0, 0, 0), 0)) (by decide +kernel)) g0_z hc_z
            replace hc_z := rn_getI (v := rg_v h 44 11) (am_cur_of (i := (116, 3, .getfield 91, (4, 11, 420), 0)) (by decide +kernel)) (by decide +kernel) (show rg_v (am_up h 11 0 (.int (kn + 1))) 44 11 = rg_v h 44 11 from rfl) hc_z
            replace hc_z := rn_callV (M' := am_m48) (o := 11) (ar := [.int (rg_v h 44 11), .int 0]) (rest := []) (L := lv_args 0 [.ref 11, .int 0, .int (rg_v h 44 11)]) (am_cur_of (i := (119, 3, .invokevirtual 276, (48, 845, 3), 0)) (by decide +kernel)) rfl rfl rfl rfl hc_z
            obtain ⟨r1757_z, h1758_z, q1759_z, hc_z⟩ := hc_z
            obtain ⟨rfl, PF⟩ := rs_put2 q1759_z
            replace hc_z : rn _ _ _ _ [] _ _ _ := hc_z
            replace hc_z := rn_goto (am_cur_of (i := (122, 3, .goto 50, (87, 0, 0), 0)) (by decide +kernel)) hc_z
            replace hc_z := rn_aload_n (am_cur_of (i := (172, 1, .aload_n 0, (0, 0, 0), 0)) (by decide +kernel)) g0_z hc_z
            replace hc_z := rn_callV (M' := am_m19) (o := 44) (ar := []) (rest := []) (L := lv_args 0 [.ref 44]) (am_cur_of (i := (173, 3, .invokevirtual 57, (19, 727, 3), 0)) (by decide +kernel)) rfl rfl rfl rfl hc_z
            obtain ⟨r1760_z, h1761_z, q1762_z, hc_z⟩ := hc_z
            have vo := rn_void rfl q1762_z
            subst vo
            replace hm_z := rn_ifT (am_cur_of (i := (133, 3, .ifCond .ne 5, (75, 0, 0), 0)) (by decide +kernel)) (by decide) hm_z
            replace hm_z := rn_aload_n (am_cur_of (i := (138, 1, .aload_n 0, (0, 0, 0), 0)) (by decide +kernel)) g0m hm_z
            replace hm_z := rn_iload_n (am_cur_of (i := (139, 1, .iload_n 1, (0, 0, 0), 0)) (by decide +kernel)) g1m hm_z
            replace hm_z := rn_ifT (am_cur_of (i := (140, 3, .ifCond .lt 7, (80, 0, 0), 0)) (by decide +kernel)) (by decide) hm_z
            replace hm_z := rn_iconst (w := 0) (am_cur_of (i := (147, 1, .iconst 0, (0, 0, 0), 0)) (by decide +kernel)) (by decide) hm_z
            replace hm_z := rn_iload_n (am_cur_of (i := (148, 1, .iload_n 1, (0, 0, 0), 0)) (by decide +kernel)) g1m hm_z
            replace hm_z := rn_ifT (am_cur_of (i := (149, 3, .ifCond .lt 7, (85, 0, 0), 0)) (by decide +kernel)) (by decide) hm_z
            replace hm_z := rn_aload_n (am_cur_of (i := (156, 1, .aload_n 0, (0, 0, 0), 0)) (by decide +kernel)) g0m hm_z
            replace hm_z := rn_getI (v := rg_v g 164 9) (am_cur_of (i := (157, 3, .getfield 168, (12, 9, 1393), 0)) (by decide +kernel)) (by decide +kernel) (show rg_v (am_up g 164 44 (.int (kn + 1))) 164 9 = rg_v g 164 9 from rfl) hm_z
            replace hm_z := rn_iconst (w := 0) (am_cur_of (i := (160, 1, .iconst 0, (0, 0, 0), 0)) (by decide +kernel)) (by decide) hm_z
            replace hm_z := rn_callV (M' := am_m177) (o := 164) (ar := [.int 0, .int (rg_v g 164 9), .int 0]) (rest := []) (L := lv_args 0 [.ref 164, .int 0, .int (rg_v g 164 9), .int 0]) (am_cur_of (i := (161, 3, .invokevirtual 291, (177, 1739, 3), 0)) (by decide +kernel)) rfl rfl rfl rfl hm_z
            obtain ⟨r1763_z, h1764_z, q1765_z, hm_z⟩ := hm_z
            obtain ⟨rfl, GF⟩ := rs_grown q1765_z
            replace hm_z : rn _ _ _ _ [] _ _ _ := hm_z
            replace hm_z := rn_aload_n (am_cur_of (i := (164, 1, .aload_n 0, (0, 0, 0), 0)) (by decide +kernel)) g0m hm_z
            replace hm_z := rn_iconst (w := 0) (am_cur_of (i := (165, 1, .iconst 0, (0, 0, 0), 0)) (by decide +kernel)) (by decide) hm_z
            replace hm_z := rn_put (am_cur_of (i := (166, 3, .putfield 315, (12, 45, 1429), 0)) (by decide +kernel)) (by decide +kernel) hm_z
            replace hm_z := rn_aload_n (am_cur_of (i := (169, 1, .aload_n 0, (0, 0, 0), 0)) (by decide +kernel)) g0m hm_z
            replace hm_z := rn_callV (M' := am_m151) (o := 164) (ar := []) (rest := []) (L := lv_args 0 [.ref 164]) (am_cur_of (i := (170, 3, .invokevirtual 191, (151, 1636, 3), 0)) (by decide +kernel)) rfl rfl rfl rfl hm_z
            obtain ⟨r1766_z, h1767_z, q1768_z, hm_z⟩ := hm_z
            have vo := rn_void rfl q1768_z
            subst vo
            have FC : ab_Fr (rz_MC2.drop 1) h h1758_z := ab_Fr_trans (ab_Fr_up rfl ab_Fr_refl) (ab_Fr_sub (by decide) PF)
            have FC' : ab_Fr rz_MC2 h h1758_z := ab_Fr_sub (by decide) FC
            have FM : ab_Fr rz_MM g (am_up h1764_z 164 45 (.int 0)) := ab_Fr_up rfl (ab_Fr_trans (ab_Fr_up rfl ab_Fr_refl) (ab_Fr_sub (by decide) GF))
            obtain ⟨-, -, x2_z, p2_z, R2, le2_z, t5_z, t6_z⟩ := pr_tok (rz_q02 (rq_0 Rk) FC' FM) q1762_z q1768_z
            have A2 := rp_x (by decide) (rz_p2 A FC' FM ((show rg_v h1758_z 11 0 = kn + 1 from ((rg_v_fr PF (by decide)).trans (show rg_v (am_up h 11 0 (.int (kn + 1))) 11 0 = kn + 1 from rfl))).trans (show rg_v (am_up h1764_z 164 45 (.int 0)) 164 44 = kn + 1 from (show rg_v (am_up h1764_z 164 45 (.int 0)) 164 44 = kn + 1 from ((rg_v_fr GF (by decide)).trans (show rg_v (am_up g 164 44 (.int (kn + 1))) 164 44 = kn + 1 from rfl)))).symm) (by rw [show rg_v h1758_z 11 0 = kn + 1 from ((rg_v_fr PF (by decide)).trans (show rg_v (am_up h 11 0 (.int (kn + 1))) 11 0 = kn + 1 from rfl))]; omega) (by rw [show rg_v h1758_z 11 0 = kn + 1 from ((rg_v_fr PF (by decide)).trans (show rg_v (am_up h 11 0 (.int (kn + 1))) 11 0 = kn + 1 from rfl))]; omega)) (rx_C_f t5_z) (rx_M_f t6_z)
            have B2 := rp_tk (rz_t2 B FC FM) (rg_v_fr t5_z (by decide)) (fun k => rg_v_fr t6_z (rg_v_in (by decide) k)) (rx_M_f t6_z)
            have FC47 : ab_Fr [(44, 14), (44, 15), (11, 1), (11, 2), (12, 0), (13, 0)] h h1758_z := ab_Fr_trans (ab_Fr_up rfl ab_Fr_refl) (ab_Fr_sub (by decide) PF)
            have FM184 : ab_Fr [(164, 42), (164, 43), (164, 44), (164, 45), (164, 46), (164, 47), (164, 22), (181, 0), (182, 0), (183, 0), (185, 0)] g (am_up h1764_z 164 45 (.int 0)) := ab_Fr_up rfl (ab_Fr_trans (ab_Fr_up rfl ab_Fr_refl) (ab_Fr_sub (by decide) GF))
            have Z2 : rs 2 h1758_z (am_up h1764_z 164 45 (.int 0)) := rs_keep Zk ((show rg_v h1758_z 44 13 = np from ((rg_v_fr PF (by decide)).trans (show rg_v (am_up h 11 0 (.int (kn + 1))) 44 13 = np from z1_z))).trans z1_z.symm) ((show rg_v (am_up h1764_z 164 45 (.int 0)) 164 41 = np from (show rg_v (am_up h1764_z 164 45 (.int 0)) 164 41 = np from ((rg_v_fr GF (by decide)).trans (show rg_v (am_up g 164 44 (.int (kn + 1))) 164 41 = np from z2_z)))).trans z2_z.symm) ((show rg_v h1758_z 44 14 = op from ((rg_v_fr PF (by decide)).trans (show rg_v (am_up h 11 0 (.int (kn + 1))) 44 14 = op from z4_z))).trans z4_z.symm) ((show rg_v (am_up h1764_z 164 45 (.int 0)) 164 43 = op from (show rg_v (am_up h1764_z 164 45 (.int 0)) 164 43 = op from ((rg_v_fr GF (by decide)).trans (show rg_v (am_up g 164 44 (.int (kn + 1))) 164 43 = op from z5_z)))).trans z5_z.symm) (show (rg_v h 11 0).toInt ≤ (rg_v h1758_z 11 0).toInt by rw [(show rg_v h1758_z 11 0 = kn + 1 from ((rg_v_fr PF (by decide)).trans (show rg_v (am_up h 11 0 (.int (kn + 1))) 11 0 = kn + 1 from rfl))), ekn]; omega) (fun k => rg_v_fr FC47 (rg_v_in (by decide) k)) (fun k => rg_v_fr FM184 (rg_v_in (by decide) k))
            replace Z2 := rs_fr (by decide) Z2 t5_z t6_z
            have e45_z : rg_v h1767_z 164 45 = 0 := (rg_v_fr t6_z (by decide)).trans (show rg_v (am_up h1764_z 164 45 (.int 0)) 164 45 = 0 from (show rg_v (am_up h1764_z 164 45 (.int 0)) 164 45 = 0 from rfl))
            have e46_z : rg_v h1767_z 164 46 = 0 := (rg_v_fr t6_z (by decide)).trans (show rg_v (am_up h1764_z 164 45 (.int 0)) 164 46 = 0 from (show rg_v (am_up h1764_z 164 45 (.int 0)) 164 46 = 0 from ((rg_v_fr GF (by decide)).trans (show rg_v (am_up g 164 44 (.int (kn + 1))) 164 46 = 0 from w2_z))))
            replace hm_z : rn _ _ _ _ [] _ _ _ := hm_z
            replace hc_z : rn _ _ _ _ [] _ _ _ := hc_z
            replace hc_z := rn_iconst (w := 2) (am_cur_of (i := (176, 1, .iconst 2, (0, 0, 0), 0)) (by decide +kernel)) (by decide) hc_z
            replace hc_z := rn_iret (am_cur_of (i := (177, 1, .ireturn, (0, 0, 0), 0)) (by decide +kernel)) hc_z
            obtain ⟨e1769_z, e1770_z⟩ := hc_z
            replace hm_z := rn_iconst (w := 1) (am_cur_of (i := (173, 1, .iconst 1, (0, 0, 0), 0)) (by decide +kernel)) (by decide) hm_z
            replace hm_z := rn_iret (am_cur_of (i := (174, 1, .ireturn, (0, 0, 0), 0)) (by decide +kernel)) hm_z
            obtain ⟨e1771_z, e1772_z⟩ := hm_z
            subst e1769_z e1770_z e1771_z e1772_z
            exact Or.inl ⟨_, x2_z, p2_z, rfl, rfl, R2, le2_z, A2, B2, Z2, Or.inr (Or.inr ⟨rfl, e45_z⟩)⟩
        · replace b1753_z : (9999 : Int32).toInt < (rg_v g 164 9).toInt := b1753_z
          omega
    · replace b1721_z : (9999 : Int32).toInt < (rg_v h 44 11).toInt := b1721_z
      replace hc_z := rn_aload_n (am_cur_of (i := (98, 1, .aload_n 0, (0, 0, 0), 0)) (by decide +kernel)) g0_z hc_z
      replace hc_z := rn_iconst (w := 2) (am_cur_of (i := (99, 1, .iconst 2, (0, 0, 0), 0)) (by decide +kernel)) (by decide) hc_z
      replace hc_z := rn_callV (M' := am_m29) (o := 44) (ar := [.int 2]) (rest := []) (L := lv_args 0 [.ref 44, .int 2]) (am_cur_of (i := (100, 3, .invokevirtual 108, (29, 769, 3), 0)) (by decide +kernel)) rfl rfl rfl rfl hc_z
      obtain ⟨r1773_z, h1774_z, q1775_z, hc_z⟩ := hc_z
      obtain ⟨rfl, yq1775_z⟩ := rp_fail R4 q1775_z
      subst yq1775_z
      replace hc_z : rn _ _ _ _ [] _ _ _ := hc_z
      have K := rs_stick (w := 2) (q := p) (a := 51) (by decide) (by decide) rfl (by decide) rfl (show rg_v (am_up (am_up h 44 1 (.int 2)) 44 2 (.int (rg_v h 44 9))) 44 2 = p from R5) hc_z
      replace hm_z := rn_aload_n (am_cur_of (i := (0, 1, .aload_n 0, (0, 0, 0), 0)) (by decide +kernel)) g0m hm_z
      replace hm_z := rn_bipush (w := 40) (am_cur_of (i := (1, 2, .bipush 40, (0, 0, 0), 0)) (by decide +kernel)) (by decide) hm_z
      replace hm_z := rn_callV (M' := am_m171) (o := 164) (ar := [.int 40]) (rest := []) (L := lv_args 0 [.ref 164, .int 40]) (am_cur_of (i := (3, 3, .invokevirtual 194, (171, 1715, 3), 0)) (by decide +kernel)) rfl rfl rfl rfl hm_z
      obtain ⟨r1776_z, h1777_z, q1778_z, hm_z⟩ := hm_z
      obtain ⟨rfl, yq1778_z⟩ := rp_sgN (fun q => absurd (Eq.trans (Eq.symm kc) q.1) (by decide)) q1778_z
      subst yq1778_z
      replace hm_z : rn _ _ _ _ [.int 0] _ _ _ := hm_z
      replace hm_z := rn_ifT (am_cur_of (i := (6, 3, .ifCond .eq 44, (28, 0, 0), 0)) (by decide +kernel)) (by decide) hm_z
      replace hm_z := rn_aload_n (am_cur_of (i := (50, 1, .aload_n 0, (0, 0, 0), 0)) (by decide +kernel)) g0m hm_z
      replace hm_z := rn_bipush (w := 14) (am_cur_of (i := (51, 2, .bipush 14, (0, 0, 0), 0)) (by decide +kernel)) (by decide) hm_z
      replace hm_z := rn_callV (M' := am_m174) (o := 164) (ar := [.int 14]) (rest := []) (L := lv_args 0 [.ref 164, .int 14]) (am_cur_of (i := (53, 3, .invokevirtual 306, (174, 1727, 3), 0)) (by decide +kernel)) rfl rfl rfl rfl hm_z
      obtain ⟨r1779_z, h1780_z, q1781_z, hm_z⟩ := hm_z
      obtain ⟨rfl, yq1781_z⟩ := rp_kyN (fun q => absurd (Eq.trans (Eq.symm kc) q.1) (by decide)) q1781_z
      subst yq1781_z
      replace hm_z : rn _ _ _ _ [.int 0] _ _ _ := hm_z
      replace hm_z := rn_ifT (am_cur_of (i := (56, 3, .ifCond .eq 30, (47, 0, 0), 0)) (by decide +kernel)) (by decide) hm_z
      replace hm_z := rn_aload_n (am_cur_of (i := (86, 1, .aload_n 0, (0, 0, 0), 0)) (by decide +kernel)) g0m hm_z
      replace hm_z := rn_callV (M' := am_m176) (o := 164) (ar := []) (rest := []) (L := lv_args 0 [.ref 164]) (am_cur_of (i := (87, 3, .invokevirtual 312, (176, 1735, 3), 0)) (by decide +kernel)) rfl rfl rfl rfl hm_z
      obtain ⟨r1782_z, h1783_z, q1784_z, hm_z⟩ := hm_z
      obtain ⟨rfl, yq1784_z⟩ := rp_nm (c := 3) (d := rg_v g 164 9) kc rfl q1784_z
      replace yq1784_z := yq1784_z.symm
      subst yq1784_z
      rw [show rp_nmf 3 (rg_v g 164 9) = (-1) from by unfold rp_nmf; rw [if_neg (by decide)]] at hm_z
      replace hm_z : rn _ _ _ _ [.int (-1)] _ _ _ := hm_z
      replace hm_z := rn_istore_n (am_cur_of (i := (90, 1, .istore_n 1, (0, 0, 0), 0)) (by decide +kernel)) hm_z
      obtain ⟨_, s1785_z, s1786_z, g1m, hm_z⟩ := hm_z
      replace g0m := s1785_z 0 _ (by decide) rfl g0m
      clear s1785_z s1786_z
      replace hm_z := rn_iload_n (am_cur_of (i := (91, 1, .iload_n 1, (0, 0, 0), 0)) (by decide +kernel)) g1m hm_z
      replace hm_z := rn_ifF (am_cur_of (i := (92, 3, .ifCond .ge 17, (60, 0, 0), 0)) (by decide +kernel)) (by decide) hm_z
      replace hm_z := rn_aload_n (am_cur_of (i := (95, 1, .aload_n 0, (0, 0, 0), 0)) (by decide +kernel)) g0m hm_z
      replace hm_z := rn_getI (v := 3) (am_cur_of (i := (96, 3, .getfield 157, (12, 8, 1392), 0)) (by decide +kernel)) (by decide +kernel) kc hm_z
      replace hm_z := rn_iconst (w := 3) (am_cur_of (i := (99, 1, .iconst 3, (0, 0, 0), 0)) (by decide +kernel)) (by decide) hm_z
      replace hm_z := rn_cmpT (am_cur_of (i := (100, 3, .if_icmp .eq 9, (60, 0, 0), 0)) (by decide +kernel)) (by decide) hm_z
      replace hm_z := rn_iload_n (am_cur_of (i := (109, 1, .iload_n 1, (0, 0, 0), 0)) (by decide +kernel)) g1m hm_z
      replace hm_z := rn_ifF (am_cur_of (i := (110, 3, .ifCond .ge 19, (70, 0, 0), 0)) (by decide +kernel)) (by decide) hm_z
      replace hm_z := rn_aload_n (am_cur_of (i := (113, 1, .aload_n 0, (0, 0, 0), 0)) (by decide +kernel)) g0m hm_z
      replace hm_z := rn_getI (v := rg_v g 164 9) (am_cur_of (i := (114, 3, .getfield 168, (12, 9, 1393), 0)) (by decide +kernel)) (by decide +kernel) rfl hm_z
      replace hm_z := rn_sipush (w := 9999) (am_cur_of (i := (117, 3, .sipush 9999, (0, 0, 0), 0)) (by decide +kernel)) (by decide) hm_z
      replace hm_z := rn_cmp (am_cur_of (i := (120, 3, .if_icmp .le 9, (70, 0, 0), 0)) (by decide +kernel)) hm_z
      rcases hm_z with ⟨b1787_z, hm_z⟩ | ⟨b1787_z, hm_z⟩
      · replace b1787_z : (rg_v g 164 9).toInt ≤ (9999 : Int32).toInt := b1787_z
        omega
      · replace b1787_z : (9999 : Int32).toInt < (rg_v g 164 9).toInt := b1787_z
        replace hm_z := rn_aload_n (am_cur_of (i := (123, 1, .aload_n 0, (0, 0, 0), 0)) (by decide +kernel)) g0m hm_z
        replace hm_z := rn_iconst (w := 2) (am_cur_of (i := (124, 1, .iconst 2, (0, 0, 0), 0)) (by decide +kernel)) (by decide) hm_z
        replace hm_z := rn_callV (M' := am_m158) (o := 164) (ar := [.int 2]) (rest := []) (L := lv_args 0 [.ref 164, .int 2]) (am_cur_of (i := (125, 3, .invokevirtual 181, (158, 1665, 3), 0)) (by decide +kernel)) rfl rfl rfl rfl hm_z
        obtain ⟨r1788_z, h1789_z, q1790_z, hm_z⟩ := hm_z
        obtain ⟨rfl, yq1790_z⟩ := rp_wrong q1790_z
        subst yq1790_z
        replace hm_z : rn _ _ _ _ [.int 0] _ _ _ := hm_z
        replace hm_z := rn_iret (am_cur_of (i := (128, 1, .ireturn, (0, 0, 0), 0)) (by decide +kernel)) hm_z
        obtain ⟨e1791_z, e1792_z⟩ := hm_z
        subst e1791_z e1792_z
        exact (Or.inr ⟨rfl, 2, by decide, K.1, K.2, rfl, R6⟩)
  · have g0_z : am_get (lv_args 0 [.ref 44, .int 1]) 0 = some (.ref 44) := rfl
    have g1_z : am_get (lv_args 0 [.ref 44, .int 1]) 1 = some (.int 1) := rfl
    have g0m : am_get (lv_args 0 [.ref 164]) 0 = some (.ref 164) := rfl
    have Rk := R
    have Zk := Z
    obtain ⟨⟨c1_z, c2_z, c3_z, c4_z, c5_z, c6_z, c7_z, c8_z⟩, ⟨m2_z, m3_z, m4_z, m5_z, m6_z, m7_z, m8_z⟩, R3, R4, R5, R6, R7, R8, R9, R10⟩ := (R : rq T S x p 2 h g)
    obtain ⟨np, op, z1_z, z2_z, z3_z, z4_z, z5_z, z6_z, z7_z, z8_z, z9_z, z10_z⟩ := (Z : rs 2 h g)
    obtain ⟨nk1_z, nk2_z, nk3_z⟩ := A.2.2.2.2.2.1
    replace nk1_z : rg_v h 11 0 = rg_v g 164 44 := nk1_z
    replace nk2_z : 0 ≤ (rg_v h 11 0).toInt := nk2_z
    replace nk3_z : (rg_v h 11 0).toInt ≤ 64 := nk3_z
    replace z8_z : np.toInt ≤ (rg_v h 11 0).toInt + op.toInt := z8_z
    obtain ⟨kn, ekn⟩ : ∃ v, rg_v h 11 0 = v := ⟨_, rfl⟩
    rw [ekn] at nk1_z nk2_z nk3_z z8_z
    have e9_z := rt_c1 (x := kn) (by omega) (by omega)
    replace hc_z := rn_aload_n (am_cur_of (i := (0, 1, .aload_n 0, (0, 0, 0), 0)) (by decide +kernel)) g0_z hc_z
    replace hc_z := rn_getI (v := 5) (am_cur_of (i := (1, 3, .getfield 60, (4, 10, 419), 0)) (by decide +kernel)) (by decide +kernel) ka hc_z
    replace hc_z := rn_bipush (w := 6) (am_cur_of (i := (4, 2, .bipush 6, (0, 0, 0), 0)) (by decide +kernel)) (by decide) hc_z
    replace hc_z := rn_cmpT (am_cur_of (i := (6, 3, .if_icmp .ne 30, (19, 0, 0), 0)) (by decide +kernel)) (by decide) hc_z
    replace hc_z := rn_aload_n (am_cur_of (i := (36, 1, .aload_n 0, (0, 0, 0), 0)) (by decide +kernel)) g0_z hc_z
    replace hc_z := rn_bipush (w := 40) (am_cur_of (i := (37, 2, .bipush 40, (0, 0, 0), 0)) (by decide +kernel)) (by decide) hc_z
    replace hc_z := rn_callV (M' := am_m45) (o := 44) (ar := [.int 40]) (rest := []) (L := lv_args 0 [.ref 44, .int 40]) (am_cur_of (i := (39, 3, .invokevirtual 105, (45, 834, 3), 0)) (by decide +kernel)) rfl rfl rfl rfl hc_z
    obtain ⟨r1793_z, h1794_z, q1795_z, hc_z⟩ := hc_z
    obtain ⟨rfl, yq1795_z⟩ := rp_mkN (fun q => absurd (Eq.trans (Eq.symm kb) q.2) (by decide)) q1795_z
    subst yq1795_z
    replace hc_z : rn _ _ _ _ [.int 0] _ _ _ := hc_z
    replace hc_z := rn_ifT (am_cur_of (i := (42, 3, .ifCond .eq 38, (43, 0, 0), 0)) (by decide +kernel)) (by decide) hc_z
    replace hc_z := rn_aload_n (am_cur_of (i := (80, 1, .aload_n 0, (0, 0, 0), 0)) (by decide +kernel)) g0_z hc_z
    replace hc_z := rn_getI (v := 5) (am_cur_of (i := (81, 3, .getfield 60, (4, 10, 419), 0)) (by decide +kernel)) (by decide +kernel) ka hc_z
    replace hc_z := rn_iconst (w := 4) (am_cur_of (i := (84, 1, .iconst 4, (0, 0, 0), 0)) (by decide +kernel)) (by decide) hc_z
    replace hc_z := rn_cmpT (am_cur_of (i := (85, 3, .if_icmp .ne 40, (64, 0, 0), 0)) (by decide +kernel)) (by decide) hc_z
    replace hc_z := rn_aload_n (am_cur_of (i := (125, 1, .aload_n 0, (0, 0, 0), 0)) (by decide +kernel)) g0_z hc_z
    replace hc_z := rn_getI (v := 5) (am_cur_of (i := (126, 3, .getfield 60, (4, 10, 419), 0)) (by decide +kernel)) (by decide +kernel) ka hc_z
    replace hc_z := rn_iconst (w := 2) (am_cur_of (i := (129, 1, .iconst 2, (0, 0, 0), 0)) (by decide +kernel)) (by decide) hc_z
    replace hc_z := rn_cmpT (am_cur_of (i := (130, 3, .if_icmp .ne 37, (84, 0, 0), 0)) (by decide +kernel)) (by decide) hc_z
    replace hc_z := rn_aload_n (am_cur_of (i := (167, 1, .aload_n 0, (0, 0, 0), 0)) (by decide +kernel)) g0_z hc_z
    replace hc_z := rn_iconst (w := 1) (am_cur_of (i := (168, 1, .iconst 1, (0, 0, 0), 0)) (by decide +kernel)) (by decide) hc_z
    replace hc_z := rn_callV (M' := am_m29) (o := 44) (ar := [.int 1]) (rest := []) (L := lv_args 0 [.ref 44, .int 1]) (am_cur_of (i := (169, 3, .invokevirtual 108, (29, 769, 3), 0)) (by decide +kernel)) rfl rfl rfl rfl hc_z
    obtain ⟨r1796_z, h1797_z, q1798_z, hc_z⟩ := hc_z
    obtain ⟨rfl, yq1798_z⟩ := rp_fail R4 q1798_z
    subst yq1798_z
    replace hc_z : rn _ _ _ _ [] _ _ _ := hc_z
    have K := rs_stick (w := 1) (q := p) (a := 51) (by decide) (by decide) rfl (by decide) rfl (show rg_v (am_up (am_up h 44 1 (.int 1)) 44 2 (.int (rg_v h 44 9))) 44 2 = p from R5) hc_z
    replace hm_z := rn_aload_n (am_cur_of (i := (0, 1, .aload_n 0, (0, 0, 0), 0)) (by decide +kernel)) g0m hm_z
    replace hm_z := rn_bipush (w := 40) (am_cur_of (i := (1, 2, .bipush 40, (0, 0, 0), 0)) (by decide +kernel)) (by decide) hm_z
    replace hm_z := rn_callV (M' := am_m171) (o := 164) (ar := [.int 40]) (rest := []) (L := lv_args 0 [.ref 164, .int 40]) (am_cur_of (i := (3, 3, .invokevirtual 194, (171, 1715, 3), 0)) (by decide +kernel)) rfl rfl rfl rfl hm_z
    obtain ⟨r1799_z, h1800_z, q1801_z, hm_z⟩ := hm_z
    obtain ⟨rfl, yq1801_z⟩ := rp_sgN (fun q => absurd (Eq.trans (Eq.symm kd) q.2) (by decide)) q1801_z
    subst yq1801_z
    replace hm_z : rn _ _ _ _ [.int 0] _ _ _ := hm_z
    replace hm_z := rn_ifT (am_cur_of (i := (6, 3, .ifCond .eq 44, (28, 0, 0), 0)) (by decide +kernel)) (by decide) hm_z
    replace hm_z := rn_aload_n (am_cur_of (i := (50, 1, .aload_n 0, (0, 0, 0), 0)) (by decide +kernel)) g0m hm_z
    replace hm_z := rn_bipush (w := 14) (am_cur_of (i := (51, 2, .bipush 14, (0, 0, 0), 0)) (by decide +kernel)) (by decide) hm_z
    replace hm_z := rn_callV (M' := am_m174) (o := 164) (ar := [.int 14]) (rest := []) (L := lv_args 0 [.ref 164, .int 14]) (am_cur_of (i := (53, 3, .invokevirtual 306, (174, 1727, 3), 0)) (by decide +kernel)) rfl rfl rfl rfl hm_z
    obtain ⟨r1802_z, h1803_z, q1804_z, hm_z⟩ := hm_z
    obtain ⟨rfl, yq1804_z⟩ := rp_kyN (fun q => absurd (Eq.trans (Eq.symm kc) q.1) (by decide)) q1804_z
    subst yq1804_z
    replace hm_z : rn _ _ _ _ [.int 0] _ _ _ := hm_z
    replace hm_z := rn_ifT (am_cur_of (i := (56, 3, .ifCond .eq 30, (47, 0, 0), 0)) (by decide +kernel)) (by decide) hm_z
    replace hm_z := rn_aload_n (am_cur_of (i := (86, 1, .aload_n 0, (0, 0, 0), 0)) (by decide +kernel)) g0m hm_z
    replace hm_z := rn_callV (M' := am_m176) (o := 164) (ar := []) (rest := []) (L := lv_args 0 [.ref 164]) (am_cur_of (i := (87, 3, .invokevirtual 312, (176, 1735, 3), 0)) (by decide +kernel)) rfl rfl rfl rfl hm_z
    obtain ⟨r1805_z, h1806_z, q1807_z, hm_z⟩ := hm_z
    obtain ⟨rfl, yq1807_z⟩ := rp_nm (c := 4) (d := 59) kc kd q1807_z
    replace yq1807_z := yq1807_z.symm
    subst yq1807_z
    rw [show rp_nmf 4 59 = (-1) from by unfold rp_nmf; rw [if_neg (by decide)]] at hm_z
    replace hm_z : rn _ _ _ _ [.int (-1)] _ _ _ := hm_z
    replace hm_z := rn_istore_n (am_cur_of (i := (90, 1, .istore_n 1, (0, 0, 0), 0)) (by decide +kernel)) hm_z
    obtain ⟨_, s1808_z, s1809_z, g1m, hm_z⟩ := hm_z
    replace g0m := s1808_z 0 _ (by decide) rfl g0m
    clear s1808_z s1809_z
    replace hm_z := rn_iload_n (am_cur_of (i := (91, 1, .iload_n 1, (0, 0, 0), 0)) (by decide +kernel)) g1m hm_z
    replace hm_z := rn_ifF (am_cur_of (i := (92, 3, .ifCond .ge 17, (60, 0, 0), 0)) (by decide +kernel)) (by decide) hm_z
    replace hm_z := rn_aload_n (am_cur_of (i := (95, 1, .aload_n 0, (0, 0, 0), 0)) (by decide +kernel)) g0m hm_z
    replace hm_z := rn_getI (v := 4) (am_cur_of (i := (96, 3, .getfield 157, (12, 8, 1392), 0)) (by decide +kernel)) (by decide +kernel) kc hm_z
    replace hm_z := rn_iconst (w := 3) (am_cur_of (i := (99, 1, .iconst 3, (0, 0, 0), 0)) (by decide +kernel)) (by decide) hm_z
    replace hm_z := rn_cmpF (am_cur_of (i := (100, 3, .if_icmp .eq 9, (60, 0, 0), 0)) (by decide +kernel)) (by decide) hm_z
    replace hm_z := rn_aload_n (am_cur_of (i := (103, 1, .aload_n 0, (0, 0, 0), 0)) (by decide +kernel)) g0m hm_z
    replace hm_z := rn_iconst (w := 1) (am_cur_of (i := (104, 1, .iconst 1, (0, 0, 0), 0)) (by decide +kernel)) (by decide) hm_z
    replace hm_z := rn_callV (M' := am_m158) (o := 164) (ar := [.int 1]) (rest := []) (L := lv_args 0 [.ref 164, .int 1]) (am_cur_of (i := (105, 3, .invokevirtual 181, (158, 1665, 3), 0)) (by decide +kernel)) rfl rfl rfl rfl hm_z
    obtain ⟨r1810_z, h1811_z, q1812_z, hm_z⟩ := hm_z
    obtain ⟨rfl, yq1812_z⟩ := rp_wrong q1812_z
    subst yq1812_z
    replace hm_z : rn _ _ _ _ [.int 0] _ _ _ := hm_z
    replace hm_z := rn_iret (am_cur_of (i := (108, 1, .ireturn, (0, 0, 0), 0)) (by decide +kernel)) hm_z
    obtain ⟨e1813_z, e1814_z⟩ := hm_z
    subst e1813_z e1814_z
    exact (Or.inr ⟨rfl, 1, by decide, K.1, K.2, rfl, R6⟩)
  · have g0_z : am_get (lv_args 0 [.ref 44, .int 1]) 0 = some (.ref 44) := rfl
    have g1_z : am_get (lv_args 0 [.ref 44, .int 1]) 1 = some (.int 1) := rfl
    have g0m : am_get (lv_args 0 [.ref 164]) 0 = some (.ref 164) := rfl
    have Rk := R
    have Zk := Z
    obtain ⟨⟨c1_z, c2_z, c3_z, c4_z, c5_z, c6_z, c7_z, c8_z⟩, ⟨m2_z, m3_z, m4_z, m5_z, m6_z, m7_z, m8_z⟩, R3, R4, R5, R6, R7, R8, R9, R10⟩ := (R : rq T S x p 2 h g)
    obtain ⟨np, op, z1_z, z2_z, z3_z, z4_z, z5_z, z6_z, z7_z, z8_z, z9_z, z10_z⟩ := (Z : rs 2 h g)
    obtain ⟨nk1_z, nk2_z, nk3_z⟩ := A.2.2.2.2.2.1
    replace nk1_z : rg_v h 11 0 = rg_v g 164 44 := nk1_z
    replace nk2_z : 0 ≤ (rg_v h 11 0).toInt := nk2_z
    replace nk3_z : (rg_v h 11 0).toInt ≤ 64 := nk3_z
    replace z8_z : np.toInt ≤ (rg_v h 11 0).toInt + op.toInt := z8_z
    obtain ⟨kn, ekn⟩ : ∃ v, rg_v h 11 0 = v := ⟨_, rfl⟩
    rw [ekn] at nk1_z nk2_z nk3_z z8_z
    have e9_z := rt_c1 (x := kn) (by omega) (by omega)
    replace hc_z := rn_aload_n (am_cur_of (i := (0, 1, .aload_n 0, (0, 0, 0), 0)) (by decide +kernel)) g0_z hc_z
    replace hc_z := rn_getI (v := 5) (am_cur_of (i := (1, 3, .getfield 60, (4, 10, 419), 0)) (by decide +kernel)) (by decide +kernel) ka hc_z
    replace hc_z := rn_bipush (w := 6) (am_cur_of (i := (4, 2, .bipush 6, (0, 0, 0), 0)) (by decide +kernel)) (by decide) hc_z
    replace hc_z := rn_cmpT (am_cur_of (i := (6, 3, .if_icmp .ne 30, (19, 0, 0), 0)) (by decide +kernel)) (by decide) hc_z
    replace hc_z := rn_aload_n (am_cur_of (i := (36, 1, .aload_n 0, (0, 0, 0), 0)) (by decide +kernel)) g0_z hc_z
    replace hc_z := rn_bipush (w := 40) (am_cur_of (i := (37, 2, .bipush 40, (0, 0, 0), 0)) (by decide +kernel)) (by decide) hc_z
    replace hc_z := rn_callV (M' := am_m45) (o := 44) (ar := [.int 40]) (rest := []) (L := lv_args 0 [.ref 44, .int 40]) (am_cur_of (i := (39, 3, .invokevirtual 105, (45, 834, 3), 0)) (by decide +kernel)) rfl rfl rfl rfl hc_z
    obtain ⟨r1815_z, h1816_z, q1817_z, hc_z⟩ := hc_z
    obtain ⟨rfl, yq1817_z⟩ := rp_mkT ka kb q1817_z
    subst yq1817_z
    replace hc_z : rn _ _ _ _ [.int 1] _ _ _ := hc_z
    replace hc_z := rn_ifF (am_cur_of (i := (42, 3, .ifCond .eq 38, (43, 0, 0), 0)) (by decide +kernel)) (by decide) hc_z
    replace hc_z := rn_aload_n (am_cur_of (i := (45, 1, .aload_n 0, (0, 0, 0), 0)) (by decide +kernel)) g0_z hc_z
    replace hc_z := rn_getI (v := op) (am_cur_of (i := (46, 3, .getfield 254, (4, 14, 423), 0)) (by decide +kernel)) (by decide +kernel) z4_z hc_z
    replace hc_z := rn_bipush (w := 8) (am_cur_of (i := (49, 2, .bipush 8, (0, 0, 0), 0)) (by decide +kernel)) (by decide) hc_z
    replace hc_z := rn_cmp (am_cur_of (i := (51, 3, .if_icmp .lt 8, (30, 0, 0), 0)) (by decide +kernel)) hc_z
    rcases hc_z with ⟨b1818_z, hc_z⟩ | ⟨b1818_z, hc_z⟩
    · replace b1818_z : op.toInt < (8 : Int32).toInt := b1818_z
      replace hc_z := rn_aload_n (am_cur_of (i := (59, 1, .aload_n 0, (0, 0, 0), 0)) (by decide +kernel)) g0_z hc_z
      replace hc_z := rn_dup (am_cur_of (i := (60, 1, .dup, (0, 0, 0), 0)) (by decide +kernel)) hc_z
      replace hc_z := rn_getI (v := op) (am_cur_of (i := (61, 3, .getfield 254, (4, 14, 423), 0)) (by decide +kernel)) (by decide +kernel) z4_z hc_z
      replace hc_z := rn_iconst (w := 1) (am_cur_of (i := (64, 1, .iconst 1, (0, 0, 0), 0)) (by decide +kernel)) (by decide) hc_z
      replace hc_z := rn_iadd (w := op + 1) (am_cur_of (i := (65, 1, .iadd, (0, 0, 0), 0)) (by decide +kernel)) rfl hc_z
      replace hc_z := rn_put (am_cur_of (i := (66, 3, .putfield 254, (4, 14, 423), 0)) (by decide +kernel)) (by decide +kernel) hc_z
      replace hc_z := rn_aload_n (am_cur_of (i := (69, 1, .aload_n 0, (0, 0, 0), 0)) (by decide +kernel)) g0_z hc_z
      replace hc_z := rn_iconst (w := 2) (am_cur_of (i := (70, 1, .iconst 2, (0, 0, 0), 0)) (by decide +kernel)) (by decide) hc_z
      replace hc_z := rn_callV (M' := am_m50) (o := 44) (ar := [.int 2]) (rest := []) (L := lv_args 0 [.ref 44, .int 2]) (am_cur_of (i := (71, 3, .invokevirtual 273, (50, 856, 3), 0)) (by decide +kernel)) rfl rfl rfl rfl hc_z
      obtain ⟨r1819_z, h1820_z, q1821_z, hc_z⟩ := hc_z
      obtain ⟨rfl, eh⟩ := rs_hold (np := np) (show rg_v (am_up h 44 14 (.int (op + 1))) 44 13 = np from z1_z) (by omega) q1821_z
      subst eh
      replace hc_z : rn _ _ _ _ [] _ _ _ := hc_z
      replace hc_z := rn_aload_n (am_cur_of (i := (74, 1, .aload_n 0, (0, 0, 0), 0)) (by decide +kernel)) g0_z hc_z
      replace hc_z := rn_callV (M' := am_m19) (o := 44) (ar := []) (rest := []) (L := lv_args 0 [.ref 44]) (am_cur_of (i := (75, 3, .invokevirtual 57, (19, 727, 3), 0)) (by decide +kernel)) rfl rfl rfl rfl hc_z
      obtain ⟨r1822_z, h1823_z, q1824_z, hc_z⟩ := hc_z
      have vo := rn_void rfl q1824_z
      subst vo
      replace hm_z := rn_aload_n (am_cur_of (i := (0, 1, .aload_n 0, (0, 0, 0), 0)) (by decide +kernel)) g0m hm_z
      replace hm_z := rn_bipush (w := 40) (am_cur_of (i := (1, 2, .bipush 40, (0, 0, 0), 0)) (by decide +kernel)) (by decide) hm_z
      replace hm_z := rn_callV (M' := am_m171) (o := 164) (ar := [.int 40]) (rest := []) (L := lv_args 0 [.ref 164, .int 40]) (am_cur_of (i := (3, 3, .invokevirtual 194, (171, 1715, 3), 0)) (by decide +kernel)) rfl rfl rfl rfl hm_z
      obtain ⟨r1825_z, h1826_z, q1827_z, hm_z⟩ := hm_z
      obtain ⟨rfl, yq1827_z⟩ := rp_sgT kc kd q1827_z
      subst yq1827_z
      replace hm_z : rn _ _ _ _ [.int 1] _ _ _ := hm_z
      replace hm_z := rn_ifF (am_cur_of (i := (6, 3, .ifCond .eq 44, (28, 0, 0), 0)) (by decide +kernel)) (by decide) hm_z
      replace hm_z := rn_aload_n (am_cur_of (i := (9, 1, .aload_n 0, (0, 0, 0), 0)) (by decide +kernel)) g0m hm_z
      replace hm_z := rn_getI (v := op) (am_cur_of (i := (10, 3, .getfield 295, (12, 43, 1427), 0)) (by decide +kernel)) (by decide +kernel) z5_z hm_z
      replace hm_z := rn_bipush (w := 8) (am_cur_of (i := (13, 2, .bipush 8, (0, 0, 0), 0)) (by decide +kernel)) (by decide) hm_z
      replace hm_z := rn_cmp (am_cur_of (i := (15, 3, .if_icmp .ne 9, (12, 0, 0), 0)) (by decide +kernel)) hm_z
      rcases hm_z with ⟨b1828_z, hm_z⟩ | ⟨b1828_z, hm_z⟩
      · replace b1828_z : ¬ op = (8 : Int32) ∧ ¬ op.toInt = (8 : Int32).toInt := b1828_z
        replace hm_z := rn_aload_n (am_cur_of (i := (24, 1, .aload_n 0, (0, 0, 0), 0)) (by decide +kernel)) g0m hm_z
        replace hm_z := rn_dup (am_cur_of (i := (25, 1, .dup, (0, 0, 0), 0)) (by decide +kernel)) hm_z
        replace hm_z := rn_getI (v := op) (am_cur_of (i := (26, 3, .getfield 295, (12, 43, 1427), 0)) (by decide +kernel)) (by decide +kernel) z5_z hm_z
        replace hm_z := rn_iconst (w := 1) (am_cur_of (i := (29, 1, .iconst 1, (0, 0, 0), 0)) (by decide +kernel)) (by decide) hm_z
        replace hm_z := rn_iadd (w := op + 1) (am_cur_of (i := (30, 1, .iadd, (0, 0, 0), 0)) (by decide +kernel)) rfl hm_z
        replace hm_z := rn_put (am_cur_of (i := (31, 3, .putfield 295, (12, 43, 1427), 0)) (by decide +kernel)) (by decide +kernel) hm_z
        replace hm_z := rn_aload_n (am_cur_of (i := (34, 1, .aload_n 0, (0, 0, 0), 0)) (by decide +kernel)) g0m hm_z
        replace hm_z := rn_iconst (w := 0) (am_cur_of (i := (35, 1, .iconst 0, (0, 0, 0), 0)) (by decide +kernel)) (by decide) hm_z
        replace hm_z := rn_callV (M' := am_m173) (o := 164) (ar := [.int 0]) (rest := []) (L := lv_args 0 [.ref 164, .int 0]) (am_cur_of (i := (36, 3, .invokevirtual 298, (173, 1723, 3), 0)) (by decide +kernel)) rfl rfl rfl rfl hm_z
        obtain ⟨r1829_z, h1830_z, q1831_z, hm_z⟩ := hm_z
        obtain ⟨rfl, eh⟩ := rs_wf (np := np) (show rg_v (am_up g 164 43 (.int (op + 1))) 164 41 = np from z2_z) q1831_z
        subst eh
        replace hm_z : rn _ _ _ _ [] _ _ _ := hm_z
        replace hm_z := rn_aload_n (am_cur_of (i := (39, 1, .aload_n 0, (0, 0, 0), 0)) (by decide +kernel)) g0m hm_z
        replace hm_z := rn_iconst (w := 1) (am_cur_of (i := (40, 1, .iconst 1, (0, 0, 0), 0)) (by decide +kernel)) (by decide) hm_z
        replace hm_z := rn_put (am_cur_of (i := (41, 3, .putfield 302, (12, 46, 1430), 0)) (by decide +kernel)) (by decide +kernel) hm_z
        replace hm_z := rn_aload_n (am_cur_of (i := (44, 1, .aload_n 0, (0, 0, 0), 0)) (by decide +kernel)) g0m hm_z
        replace hm_z := rn_callV (M' := am_m151) (o := 164) (ar := []) (rest := []) (L := lv_args 0 [.ref 164]) (am_cur_of (i := (45, 3, .invokevirtual 191, (151, 1636, 3), 0)) (by decide +kernel)) rfl rfl rfl rfl hm_z
        obtain ⟨r1832_z, h1833_z, q1834_z, hm_z⟩ := hm_z
        have vo := rn_void rfl q1834_z
        subst vo
        have FC : ab_Fr (rz_MC2.drop 1) h (am_up (am_up (am_up h 44 14 (.int (op + 1))) 47 np.toNatClampNeg (.int 2)) 44 13 (.int (np + 1))) := ab_Fr_up rfl (ab_Fr_up rfl (ab_Fr_up rfl ab_Fr_refl))
        have FC' : ab_Fr rz_MC2 h (am_up (am_up (am_up h 44 14 (.int (op + 1))) 47 np.toNatClampNeg (.int 2)) 44 13 (.int (np + 1))) := ab_Fr_sub (by decide) FC
        have FM : ab_Fr rz_MM g (am_up (am_up (am_up (am_up g 164 43 (.int (op + 1))) 184 np.toNatClampNeg (.int 0)) 164 41 (.int (np + 1))) 164 46 (.int 1)) := ab_Fr_up rfl (ab_Fr_up rfl (ab_Fr_up rfl (ab_Fr_up rfl ab_Fr_refl)))
        obtain ⟨-, -, x2_z, p2_z, R2, le2_z, t5_z, t6_z⟩ := pr_tok (rz_q02 (rq_0 Rk) FC' FM) q1824_z q1834_z
        have A2 := rp_x (by decide) (rz_p2 A FC' FM ((show rg_v (am_up (am_up (am_up h 44 14 (.int (op + 1))) 47 np.toNatClampNeg (.int 2)) 44 13 (.int (np + 1))) 11 0 = kn from (show rg_v (am_up (am_up (am_up h 44 14 (.int (op + 1))) 47 np.toNatClampNeg (.int 2)) 44 13 (.int (np + 1))) 11 0 = kn from ekn)).trans (show rg_v (am_up (am_up (am_up (am_up g 164 43 (.int (op + 1))) 184 np.toNatClampNeg (.int 0)) 164 41 (.int (np + 1))) 164 46 (.int 1)) 164 44 = kn from (show rg_v (am_up (am_up (am_up (am_up g 164 43 (.int (op + 1))) 184 np.toNatClampNeg (.int 0)) 164 41 (.int (np + 1))) 164 46 (.int 1)) 164 44 = kn from nk1_z.symm)).symm) (by rw [show rg_v (am_up (am_up (am_up h 44 14 (.int (op + 1))) 47 np.toNatClampNeg (.int 2)) 44 13 (.int (np + 1))) 11 0 = kn from (show rg_v (am_up (am_up (am_up h 44 14 (.int (op + 1))) 47 np.toNatClampNeg (.int 2)) 44 13 (.int (np + 1))) 11 0 = kn from ekn)]; omega) (by rw [show rg_v (am_up (am_up (am_up h 44 14 (.int (op + 1))) 47 np.toNatClampNeg (.int 2)) 44 13 (.int (np + 1))) 11 0 = kn from (show rg_v (am_up (am_up (am_up h 44 14 (.int (op + 1))) 47 np.toNatClampNeg (.int 2)) 44 13 (.int (np + 1))) 11 0 = kn from ekn)]; omega)) (rx_C_f t5_z) (rx_M_f t6_z)
        have B2 := rp_tk (rz_t2 B FC FM) (rg_v_fr t5_z (by decide)) (fun k => rg_v_fr t6_z (rg_v_in (by decide) k)) (rx_M_f t6_z)
        have Z2 : rs 2 (am_up (am_up (am_up h 44 14 (.int (op + 1))) 47 np.toNatClampNeg (.int 2)) 44 13 (.int (np + 1))) (am_up (am_up (am_up (am_up g 164 43 (.int (op + 1))) 184 np.toNatClampNeg (.int 0)) 164 41 (.int (np + 1))) 164 46 (.int 1)) := rs_push (o := 2) (k := 0) (np := np) (op := op) Zk (by unfold rs_o; decide) z1_z z4_z (show rg_v (am_up (am_up (am_up h 44 14 (.int (op + 1))) 47 np.toNatClampNeg (.int 2)) 44 13 (.int (np + 1))) 44 13 = np + 1 from (show rg_v (am_up (am_up (am_up h 44 14 (.int (op + 1))) 47 np.toNatClampNeg (.int 2)) 44 13 (.int (np + 1))) 44 13 = np + 1 from rfl)) (show rg_v (am_up (am_up (am_up (am_up g 164 43 (.int (op + 1))) 184 np.toNatClampNeg (.int 0)) 164 41 (.int (np + 1))) 164 46 (.int 1)) 164 41 = np + 1 from (show rg_v (am_up (am_up (am_up (am_up g 164 43 (.int (op + 1))) 184 np.toNatClampNeg (.int 0)) 164 41 (.int (np + 1))) 164 46 (.int 1)) 164 41 = np + 1 from rfl)) (fun i hi_z => (show rg_v (am_up (am_up (am_up h 44 14 (.int (op + 1))) 47 np.toNatClampNeg (.int 2)) 44 13 (.int (np + 1))) 47 i = rg_v h 47 i from rg_v_other (h := h) (o := 47) (k := np.toNatClampNeg) (v := .int 2) (by omega))) (show rg_v (am_up (am_up (am_up h 44 14 (.int (op + 1))) 47 np.toNatClampNeg (.int 2)) 44 13 (.int (np + 1))) 47 np.toNatClampNeg = 2 from rg_v_self (h := h) (o := 47) (k := np.toNatClampNeg)) (fun i hi_z => (show rg_v (am_up (am_up (am_up (am_up g 164 43 (.int (op + 1))) 184 np.toNatClampNeg (.int 0)) 164 41 (.int (np + 1))) 164 46 (.int 1)) 184 i = rg_v g 184 i from rg_v_other (h := g) (o := 184) (k := np.toNatClampNeg) (v := .int 0) (by omega))) (show rg_v (am_up (am_up (am_up (am_up g 164 43 (.int (op + 1))) 184 np.toNatClampNeg (.int 0)) 164 41 (.int (np + 1))) 164 46 (.int 1)) 184 np.toNatClampNeg = 0 from rg_v_self (h := g) (o := 184) (k := np.toNatClampNeg)) (show (rg_v h 11 0).toInt ≤ 64 by rw [ekn]; exact nk3_z) (Or.inr ⟨rfl, by omega, (show rg_v (am_up (am_up (am_up h 44 14 (.int (op + 1))) 47 np.toNatClampNeg (.int 2)) 44 13 (.int (np + 1))) 44 14 = op + 1 from (show rg_v (am_up (am_up (am_up h 44 14 (.int (op + 1))) 47 np.toNatClampNeg (.int 2)) 44 13 (.int (np + 1))) 44 14 = op + 1 from rfl)), (show rg_v (am_up (am_up (am_up (am_up g 164 43 (.int (op + 1))) 184 np.toNatClampNeg (.int 0)) 164 41 (.int (np + 1))) 164 46 (.int 1)) 164 43 = op + 1 from (show rg_v (am_up (am_up (am_up (am_up g 164 43 (.int (op + 1))) 184 np.toNatClampNeg (.int 0)) 164 41 (.int (np + 1))) 164 46 (.int 1)) 164 43 = op + 1 from rfl)), rfl⟩)
        replace Z2 := rs_fr (by decide) Z2 t5_z t6_z
        have e45_z : rg_v h1833_z 164 45 = 1 := (rg_v_fr t6_z (by decide)).trans (show rg_v (am_up (am_up (am_up (am_up g 164 43 (.int (op + 1))) 184 np.toNatClampNeg (.int 0)) 164 41 (.int (np + 1))) 164 46 (.int 1)) 164 45 = 1 from (show rg_v (am_up (am_up (am_up (am_up g 164 43 (.int (op + 1))) 184 np.toNatClampNeg (.int 0)) 164 41 (.int (np + 1))) 164 46 (.int 1)) 164 45 = 1 from w1_z))
        have e46_z : rg_v h1833_z 164 46 = 1 := (rg_v_fr t6_z (by decide)).trans (show rg_v (am_up (am_up (am_up (am_up g 164 43 (.int (op + 1))) 184 np.toNatClampNeg (.int 0)) 164 41 (.int (np + 1))) 164 46 (.int 1)) 164 46 = 1 from (show rg_v (am_up (am_up (am_up (am_up g 164 43 (.int (op + 1))) 184 np.toNatClampNeg (.int 0)) 164 41 (.int (np + 1))) 164 46 (.int 1)) 164 46 = 1 from rfl))
        replace hm_z : rn _ _ _ _ [] _ _ _ := hm_z
        replace hc_z : rn _ _ _ _ [] _ _ _ := hc_z
        replace hc_z := rn_iconst (w := 0) (am_cur_of (i := (78, 1, .iconst 0, (0, 0, 0), 0)) (by decide +kernel)) (by decide) hc_z
        replace hc_z := rn_iret (am_cur_of (i := (79, 1, .ireturn, (0, 0, 0), 0)) (by decide +kernel)) hc_z
        obtain ⟨e1835_z, e1836_z⟩ := hc_z
        replace hm_z := rn_iconst (w := 1) (am_cur_of (i := (48, 1, .iconst 1, (0, 0, 0), 0)) (by decide +kernel)) (by decide) hm_z
        replace hm_z := rn_iret (am_cur_of (i := (49, 1, .ireturn, (0, 0, 0), 0)) (by decide +kernel)) hm_z
        obtain ⟨e1837_z, e1838_z⟩ := hm_z
        subst e1835_z e1836_z e1837_z e1838_z
        exact Or.inl ⟨_, x2_z, p2_z, rfl, rfl, R2, le2_z, A2, B2, Z2, Or.inl ⟨rfl, e45_z, e46_z⟩⟩
      · replace b1828_z : op = (8 : Int32) ∧ op.toInt = (8 : Int32).toInt := b1828_z
        omega
    · replace b1818_z : (8 : Int32).toInt ≤ op.toInt := b1818_z
      replace hc_z := rn_aload_n (am_cur_of (i := (54, 1, .aload_n 0, (0, 0, 0), 0)) (by decide +kernel)) g0_z hc_z
      replace hc_z := rn_iconst (w := 2) (am_cur_of (i := (55, 1, .iconst 2, (0, 0, 0), 0)) (by decide +kernel)) (by decide) hc_z
      replace hc_z := rn_callV (M' := am_m29) (o := 44) (ar := [.int 2]) (rest := []) (L := lv_args 0 [.ref 44, .int 2]) (am_cur_of (i := (56, 3, .invokevirtual 108, (29, 769, 3), 0)) (by decide +kernel)) rfl rfl rfl rfl hc_z
      obtain ⟨r1839_z, h1840_z, q1841_z, hc_z⟩ := hc_z
      obtain ⟨rfl, yq1841_z⟩ := rp_fail R4 q1841_z
      subst yq1841_z
      replace hc_z : rn _ _ _ _ [] _ _ _ := hc_z
      have K := rs_stick (w := 2) (q := p) (a := 51) (by decide) (by decide) rfl (by decide) rfl (show rg_v (am_up (am_up h 44 1 (.int 2)) 44 2 (.int (rg_v h 44 9))) 44 2 = p from R5) hc_z
      replace hm_z := rn_aload_n (am_cur_of (i := (0, 1, .aload_n 0, (0, 0, 0), 0)) (by decide +kernel)) g0m hm_z
      replace hm_z := rn_bipush (w := 40) (am_cur_of (i := (1, 2, .bipush 40, (0, 0, 0), 0)) (by decide +kernel)) (by decide) hm_z
      replace hm_z := rn_callV (M' := am_m171) (o := 164) (ar := [.int 40]) (rest := []) (L := lv_args 0 [.ref 164, .int 40]) (am_cur_of (i := (3, 3, .invokevirtual 194, (171, 1715, 3), 0)) (by decide +kernel)) rfl rfl rfl rfl hm_z
      obtain ⟨r1842_z, h1843_z, q1844_z, hm_z⟩ := hm_z
      obtain ⟨rfl, yq1844_z⟩ := rp_sgT kc kd q1844_z
      subst yq1844_z
      replace hm_z : rn _ _ _ _ [.int 1] _ _ _ := hm_z
      replace hm_z := rn_ifF (am_cur_of (i := (6, 3, .ifCond .eq 44, (28, 0, 0), 0)) (by decide +kernel)) (by decide) hm_z
      replace hm_z := rn_aload_n (am_cur_of (i := (9, 1, .aload_n 0, (0, 0, 0), 0)) (by decide +kernel)) g0m hm_z
      replace hm_z := rn_getI (v := op) (am_cur_of (i := (10, 3, .getfield 295, (12, 43, 1427), 0)) (by decide +kernel)) (by decide +kernel) z5_z hm_z
      replace hm_z := rn_bipush (w := 8) (am_cur_of (i := (13, 2, .bipush 8, (0, 0, 0), 0)) (by decide +kernel)) (by decide) hm_z
      replace hm_z := rn_cmp (am_cur_of (i := (15, 3, .if_icmp .ne 9, (12, 0, 0), 0)) (by decide +kernel)) hm_z
      rcases hm_z with ⟨b1845_z, hm_z⟩ | ⟨b1845_z, hm_z⟩
      · replace b1845_z : ¬ op = (8 : Int32) ∧ ¬ op.toInt = (8 : Int32).toInt := b1845_z
        omega
      · replace b1845_z : op = (8 : Int32) ∧ op.toInt = (8 : Int32).toInt := b1845_z
        replace hm_z := rn_aload_n (am_cur_of (i := (18, 1, .aload_n 0, (0, 0, 0), 0)) (by decide +kernel)) g0m hm_z
        replace hm_z := rn_iconst (w := 2) (am_cur_of (i := (19, 1, .iconst 2, (0, 0, 0), 0)) (by decide +kernel)) (by decide) hm_z
        replace hm_z := rn_callV (M' := am_m158) (o := 164) (ar := [.int 2]) (rest := []) (L := lv_args 0 [.ref 164, .int 2]) (am_cur_of (i := (20, 3, .invokevirtual 181, (158, 1665, 3), 0)) (by decide +kernel)) rfl rfl rfl rfl hm_z
        obtain ⟨r1846_z, h1847_z, q1848_z, hm_z⟩ := hm_z
        obtain ⟨rfl, yq1848_z⟩ := rp_wrong q1848_z
        subst yq1848_z
        replace hm_z : rn _ _ _ _ [.int 0] _ _ _ := hm_z
        replace hm_z := rn_iret (am_cur_of (i := (23, 1, .ireturn, (0, 0, 0), 0)) (by decide +kernel)) hm_z
        obtain ⟨e1849_z, e1850_z⟩ := hm_z
        subst e1849_z e1850_z
        exact (Or.inr ⟨rfl, 2, by decide, K.1, K.2, rfl, R6⟩)
  · have g0_z : am_get (lv_args 0 [.ref 44, .int 1]) 0 = some (.ref 44) := rfl
    have g1_z : am_get (lv_args 0 [.ref 44, .int 1]) 1 = some (.int 1) := rfl
    have g0m : am_get (lv_args 0 [.ref 164]) 0 = some (.ref 164) := rfl
    have Rk := R
    have Zk := Z
    obtain ⟨⟨c1_z, c2_z, c3_z, c4_z, c5_z, c6_z, c7_z, c8_z⟩, ⟨m2_z, m3_z, m4_z, m5_z, m6_z, m7_z, m8_z⟩, R3, R4, R5, R6, R7, R8, R9, R10⟩ := (R : rq T S x p 2 h g)
    obtain ⟨np, op, z1_z, z2_z, z3_z, z4_z, z5_z, z6_z, z7_z, z8_z, z9_z, z10_z⟩ := (Z : rs 2 h g)
    obtain ⟨nk1_z, nk2_z, nk3_z⟩ := A.2.2.2.2.2.1
    replace nk1_z : rg_v h 11 0 = rg_v g 164 44 := nk1_z
    replace nk2_z : 0 ≤ (rg_v h 11 0).toInt := nk2_z
    replace nk3_z : (rg_v h 11 0).toInt ≤ 64 := nk3_z
    replace z8_z : np.toInt ≤ (rg_v h 11 0).toInt + op.toInt := z8_z
    obtain ⟨kn, ekn⟩ : ∃ v, rg_v h 11 0 = v := ⟨_, rfl⟩
    rw [ekn] at nk1_z nk2_z nk3_z z8_z
    have e9_z := rt_c1 (x := kn) (by omega) (by omega)
    replace hc_z := rn_aload_n (am_cur_of (i := (0, 1, .aload_n 0, (0, 0, 0), 0)) (by decide +kernel)) g0_z hc_z
    replace hc_z := rn_getI (v := 5) (am_cur_of (i := (1, 3, .getfield 60, (4, 10, 419), 0)) (by decide +kernel)) (by decide +kernel) ka hc_z
    replace hc_z := rn_bipush (w := 6) (am_cur_of (i := (4, 2, .bipush 6, (0, 0, 0), 0)) (by decide +kernel)) (by decide) hc_z
    replace hc_z := rn_cmpT (am_cur_of (i := (6, 3, .if_icmp .ne 30, (19, 0, 0), 0)) (by decide +kernel)) (by decide) hc_z
    replace hc_z := rn_aload_n (am_cur_of (i := (36, 1, .aload_n 0, (0, 0, 0), 0)) (by decide +kernel)) g0_z hc_z
    replace hc_z := rn_bipush (w := 40) (am_cur_of (i := (37, 2, .bipush 40, (0, 0, 0), 0)) (by decide +kernel)) (by decide) hc_z
    replace hc_z := rn_callV (M' := am_m45) (o := 44) (ar := [.int 40]) (rest := []) (L := lv_args 0 [.ref 44, .int 40]) (am_cur_of (i := (39, 3, .invokevirtual 105, (45, 834, 3), 0)) (by decide +kernel)) rfl rfl rfl rfl hc_z
    obtain ⟨r1851_z, h1852_z, q1853_z, hc_z⟩ := hc_z
    obtain ⟨rfl, yq1853_z⟩ := rp_mkN (fun q => absurd (Eq.trans (Eq.symm kb) q.2) (by decide)) q1853_z
    subst yq1853_z
    replace hc_z : rn _ _ _ _ [.int 0] _ _ _ := hc_z
    replace hc_z := rn_ifT (am_cur_of (i := (42, 3, .ifCond .eq 38, (43, 0, 0), 0)) (by decide +kernel)) (by decide) hc_z
    replace hc_z := rn_aload_n (am_cur_of (i := (80, 1, .aload_n 0, (0, 0, 0), 0)) (by decide +kernel)) g0_z hc_z
    replace hc_z := rn_getI (v := 5) (am_cur_of (i := (81, 3, .getfield 60, (4, 10, 419), 0)) (by decide +kernel)) (by decide +kernel) ka hc_z
    replace hc_z := rn_iconst (w := 4) (am_cur_of (i := (84, 1, .iconst 4, (0, 0, 0), 0)) (by decide +kernel)) (by decide) hc_z
    replace hc_z := rn_cmpT (am_cur_of (i := (85, 3, .if_icmp .ne 40, (64, 0, 0), 0)) (by decide +kernel)) (by decide) hc_z
    replace hc_z := rn_aload_n (am_cur_of (i := (125, 1, .aload_n 0, (0, 0, 0), 0)) (by decide +kernel)) g0_z hc_z
    replace hc_z := rn_getI (v := 5) (am_cur_of (i := (126, 3, .getfield 60, (4, 10, 419), 0)) (by decide +kernel)) (by decide +kernel) ka hc_z
    replace hc_z := rn_iconst (w := 2) (am_cur_of (i := (129, 1, .iconst 2, (0, 0, 0), 0)) (by decide +kernel)) (by decide) hc_z
    replace hc_z := rn_cmpT (am_cur_of (i := (130, 3, .if_icmp .ne 37, (84, 0, 0), 0)) (by decide +kernel)) (by decide) hc_z
    replace hc_z := rn_aload_n (am_cur_of (i := (167, 1, .aload_n 0, (0, 0, 0), 0)) (by decide +kernel)) g0_z hc_z
    replace hc_z := rn_iconst (w := 1) (am_cur_of (i := (168, 1, .iconst 1, (0, 0, 0), 0)) (by decide +kernel)) (by decide) hc_z
    replace hc_z := rn_callV (M' := am_m29) (o := 44) (ar := [.int 1]) (rest := []) (L := lv_args 0 [.ref 44, .int 1]) (am_cur_of (i := (169, 3, .invokevirtual 108, (29, 769, 3), 0)) (by decide +kernel)) rfl rfl rfl rfl hc_z
    obtain ⟨r1854_z, h1855_z, q1856_z, hc_z⟩ := hc_z
    obtain ⟨rfl, yq1856_z⟩ := rp_fail R4 q1856_z
    subst yq1856_z
    replace hc_z : rn _ _ _ _ [] _ _ _ := hc_z
    have K := rs_stick (w := 1) (q := p) (a := 51) (by decide) (by decide) rfl (by decide) rfl (show rg_v (am_up (am_up h 44 1 (.int 1)) 44 2 (.int (rg_v h 44 9))) 44 2 = p from R5) hc_z
    replace hm_z := rn_aload_n (am_cur_of (i := (0, 1, .aload_n 0, (0, 0, 0), 0)) (by decide +kernel)) g0m hm_z
    replace hm_z := rn_bipush (w := 40) (am_cur_of (i := (1, 2, .bipush 40, (0, 0, 0), 0)) (by decide +kernel)) (by decide) hm_z
    replace hm_z := rn_callV (M' := am_m171) (o := 164) (ar := [.int 40]) (rest := []) (L := lv_args 0 [.ref 164, .int 40]) (am_cur_of (i := (3, 3, .invokevirtual 194, (171, 1715, 3), 0)) (by decide +kernel)) rfl rfl rfl rfl hm_z
    obtain ⟨r1857_z, h1858_z, q1859_z, hm_z⟩ := hm_z
    obtain ⟨rfl, yq1859_z⟩ := rp_sgN (fun q => absurd (Eq.trans (Eq.symm kd) q.2) (by decide)) q1859_z
    subst yq1859_z
    replace hm_z : rn _ _ _ _ [.int 0] _ _ _ := hm_z
    replace hm_z := rn_ifT (am_cur_of (i := (6, 3, .ifCond .eq 44, (28, 0, 0), 0)) (by decide +kernel)) (by decide) hm_z
    replace hm_z := rn_aload_n (am_cur_of (i := (50, 1, .aload_n 0, (0, 0, 0), 0)) (by decide +kernel)) g0m hm_z
    replace hm_z := rn_bipush (w := 14) (am_cur_of (i := (51, 2, .bipush 14, (0, 0, 0), 0)) (by decide +kernel)) (by decide) hm_z
    replace hm_z := rn_callV (M' := am_m174) (o := 164) (ar := [.int 14]) (rest := []) (L := lv_args 0 [.ref 164, .int 14]) (am_cur_of (i := (53, 3, .invokevirtual 306, (174, 1727, 3), 0)) (by decide +kernel)) rfl rfl rfl rfl hm_z
    obtain ⟨r1860_z, h1861_z, q1862_z, hm_z⟩ := hm_z
    obtain ⟨rfl, yq1862_z⟩ := rp_kyN (fun q => absurd (Eq.trans (Eq.symm kc) q.1) (by decide)) q1862_z
    subst yq1862_z
    replace hm_z : rn _ _ _ _ [.int 0] _ _ _ := hm_z
    replace hm_z := rn_ifT (am_cur_of (i := (56, 3, .ifCond .eq 30, (47, 0, 0), 0)) (by decide +kernel)) (by decide) hm_z
    replace hm_z := rn_aload_n (am_cur_of (i := (86, 1, .aload_n 0, (0, 0, 0), 0)) (by decide +kernel)) g0m hm_z
    replace hm_z := rn_callV (M' := am_m176) (o := 164) (ar := []) (rest := []) (L := lv_args 0 [.ref 164]) (am_cur_of (i := (87, 3, .invokevirtual 312, (176, 1735, 3), 0)) (by decide +kernel)) rfl rfl rfl rfl hm_z
    obtain ⟨r1863_z, h1864_z, q1865_z, hm_z⟩ := hm_z
    obtain ⟨rfl, yq1865_z⟩ := rp_nm (c := 4) (d := 41) kc kd q1865_z
    replace yq1865_z := yq1865_z.symm
    subst yq1865_z
    rw [show rp_nmf 4 41 = (-1) from by unfold rp_nmf; rw [if_neg (by decide)]] at hm_z
    replace hm_z : rn _ _ _ _ [.int (-1)] _ _ _ := hm_z
    replace hm_z := rn_istore_n (am_cur_of (i := (90, 1, .istore_n 1, (0, 0, 0), 0)) (by decide +kernel)) hm_z
    obtain ⟨_, s1866_z, s1867_z, g1m, hm_z⟩ := hm_z
    replace g0m := s1866_z 0 _ (by decide) rfl g0m
    clear s1866_z s1867_z
    replace hm_z := rn_iload_n (am_cur_of (i := (91, 1, .iload_n 1, (0, 0, 0), 0)) (by decide +kernel)) g1m hm_z
    replace hm_z := rn_ifF (am_cur_of (i := (92, 3, .ifCond .ge 17, (60, 0, 0), 0)) (by decide +kernel)) (by decide) hm_z
    replace hm_z := rn_aload_n (am_cur_of (i := (95, 1, .aload_n 0, (0, 0, 0), 0)) (by decide +kernel)) g0m hm_z
    replace hm_z := rn_getI (v := 4) (am_cur_of (i := (96, 3, .getfield 157, (12, 8, 1392), 0)) (by decide +kernel)) (by decide +kernel) kc hm_z
    replace hm_z := rn_iconst (w := 3) (am_cur_of (i := (99, 1, .iconst 3, (0, 0, 0), 0)) (by decide +kernel)) (by decide) hm_z
    replace hm_z := rn_cmpF (am_cur_of (i := (100, 3, .if_icmp .eq 9, (60, 0, 0), 0)) (by decide +kernel)) (by decide) hm_z
    replace hm_z := rn_aload_n (am_cur_of (i := (103, 1, .aload_n 0, (0, 0, 0), 0)) (by decide +kernel)) g0m hm_z
    replace hm_z := rn_iconst (w := 1) (am_cur_of (i := (104, 1, .iconst 1, (0, 0, 0), 0)) (by decide +kernel)) (by decide) hm_z
    replace hm_z := rn_callV (M' := am_m158) (o := 164) (ar := [.int 1]) (rest := []) (L := lv_args 0 [.ref 164, .int 1]) (am_cur_of (i := (105, 3, .invokevirtual 181, (158, 1665, 3), 0)) (by decide +kernel)) rfl rfl rfl rfl hm_z
    obtain ⟨r1868_z, h1869_z, q1870_z, hm_z⟩ := hm_z
    obtain ⟨rfl, yq1870_z⟩ := rp_wrong q1870_z
    subst yq1870_z
    replace hm_z : rn _ _ _ _ [.int 0] _ _ _ := hm_z
    replace hm_z := rn_iret (am_cur_of (i := (108, 1, .ireturn, (0, 0, 0), 0)) (by decide +kernel)) hm_z
    obtain ⟨e1871_z, e1872_z⟩ := hm_z
    subst e1871_z e1872_z
    exact (Or.inr ⟨rfl, 1, by decide, K.1, K.2, rfl, R6⟩)
  · have g0_z : am_get (lv_args 0 [.ref 44, .int 1]) 0 = some (.ref 44) := rfl
    have g1_z : am_get (lv_args 0 [.ref 44, .int 1]) 1 = some (.int 1) := rfl
    have g0m : am_get (lv_args 0 [.ref 164]) 0 = some (.ref 164) := rfl
    have Rk := R
    have Zk := Z
    obtain ⟨⟨c1_z, c2_z, c3_z, c4_z, c5_z, c6_z, c7_z, c8_z⟩, ⟨m2_z, m3_z, m4_z, m5_z, m6_z, m7_z, m8_z⟩, R3, R4, R5, R6, R7, R8, R9, R10⟩ := (R : rq T S x p 2 h g)
    obtain ⟨np, op, z1_z, z2_z, z3_z, z4_z, z5_z, z6_z, z7_z, z8_z, z9_z, z10_z⟩ := (Z : rs 2 h g)
    obtain ⟨nk1_z, nk2_z, nk3_z⟩ := A.2.2.2.2.2.1
    replace nk1_z : rg_v h 11 0 = rg_v g 164 44 := nk1_z
    replace nk2_z : 0 ≤ (rg_v h 11 0).toInt := nk2_z
    replace nk3_z : (rg_v h 11 0).toInt ≤ 64 := nk3_z
    replace z8_z : np.toInt ≤ (rg_v h 11 0).toInt + op.toInt := z8_z
    obtain ⟨kn, ekn⟩ : ∃ v, rg_v h 11 0 = v := ⟨_, rfl⟩
    rw [ekn] at nk1_z nk2_z nk3_z z8_z
    have e9_z := rt_c1 (x := kn) (by omega) (by omega)
    replace hc_z := rn_aload_n (am_cur_of (i := (0, 1, .aload_n 0, (0, 0, 0), 0)) (by decide +kernel)) g0_z hc_z
    replace hc_z := rn_getI (v := 6) (am_cur_of (i := (1, 3, .getfield 60, (4, 10, 419), 0)) (by decide +kernel)) (by decide +kernel) ka hc_z
    replace hc_z := rn_bipush (w := 6) (am_cur_of (i := (4, 2, .bipush 6, (0, 0, 0), 0)) (by decide +kernel)) (by decide) hc_z
    replace hc_z := rn_cmpF (am_cur_of (i := (6, 3, .if_icmp .ne 30, (19, 0, 0), 0)) (by decide +kernel)) (by decide) hc_z
    replace hc_z := rn_aload_n (am_cur_of (i := (9, 1, .aload_n 0, (0, 0, 0), 0)) (by decide +kernel)) g0_z hc_z
    replace hc_z := rn_getI (v := 3) (am_cur_of (i := (10, 3, .getfield 91, (4, 11, 420), 0)) (by decide +kernel)) (by decide +kernel) kb hc_z
    replace hc_z := rn_iconst (w := 5) (am_cur_of (i := (13, 1, .iconst 5, (0, 0, 0), 0)) (by decide +kernel)) (by decide) hc_z
    replace hc_z := rn_cmpT (am_cur_of (i := (14, 3, .if_icmp .ne 22, (19, 0, 0), 0)) (by decide +kernel)) (by decide) hc_z
    replace hc_z := rn_aload_n (am_cur_of (i := (36, 1, .aload_n 0, (0, 0, 0), 0)) (by decide +kernel)) g0_z hc_z
    replace hc_z := rn_bipush (w := 40) (am_cur_of (i := (37, 2, .bipush 40, (0, 0, 0), 0)) (by decide +kernel)) (by decide) hc_z
    replace hc_z := rn_callV (M' := am_m45) (o := 44) (ar := [.int 40]) (rest := []) (L := lv_args 0 [.ref 44, .int 40]) (am_cur_of (i := (39, 3, .invokevirtual 105, (45, 834, 3), 0)) (by decide +kernel)) rfl rfl rfl rfl hc_z
    obtain ⟨r1873_z, h1874_z, q1875_z, hc_z⟩ := hc_z
    obtain ⟨rfl, yq1875_z⟩ := rp_mkN (fun q => absurd (Eq.trans (Eq.symm ka) q.1) (by decide)) q1875_z
    subst yq1875_z
    replace hc_z : rn _ _ _ _ [.int 0] _ _ _ := hc_z
    replace hc_z := rn_ifT (am_cur_of (i := (42, 3, .ifCond .eq 38, (43, 0, 0), 0)) (by decide +kernel)) (by decide) hc_z
    replace hc_z := rn_aload_n (am_cur_of (i := (80, 1, .aload_n 0, (0, 0, 0), 0)) (by decide +kernel)) g0_z hc_z
    replace hc_z := rn_getI (v := 6) (am_cur_of (i := (81, 3, .getfield 60, (4, 10, 419), 0)) (by decide +kernel)) (by decide +kernel) ka hc_z
    replace hc_z := rn_iconst (w := 4) (am_cur_of (i := (84, 1, .iconst 4, (0, 0, 0), 0)) (by decide +kernel)) (by decide) hc_z
    replace hc_z := rn_cmpT (am_cur_of (i := (85, 3, .if_icmp .ne 40, (64, 0, 0), 0)) (by decide +kernel)) (by decide) hc_z
    replace hc_z := rn_aload_n (am_cur_of (i := (125, 1, .aload_n 0, (0, 0, 0), 0)) (by decide +kernel)) g0_z hc_z
    replace hc_z := rn_getI (v := 6) (am_cur_of (i := (126, 3, .getfield 60, (4, 10, 419), 0)) (by decide +kernel)) (by decide +kernel) ka hc_z
    replace hc_z := rn_iconst (w := 2) (am_cur_of (i := (129, 1, .iconst 2, (0, 0, 0), 0)) (by decide +kernel)) (by decide) hc_z
    replace hc_z := rn_cmpT (am_cur_of (i := (130, 3, .if_icmp .ne 37, (84, 0, 0), 0)) (by decide +kernel)) (by decide) hc_z
    replace hc_z := rn_aload_n (am_cur_of (i := (167, 1, .aload_n 0, (0, 0, 0), 0)) (by decide +kernel)) g0_z hc_z
    replace hc_z := rn_iconst (w := 1) (am_cur_of (i := (168, 1, .iconst 1, (0, 0, 0), 0)) (by decide +kernel)) (by decide) hc_z
    replace hc_z := rn_callV (M' := am_m29) (o := 44) (ar := [.int 1]) (rest := []) (L := lv_args 0 [.ref 44, .int 1]) (am_cur_of (i := (169, 3, .invokevirtual 108, (29, 769, 3), 0)) (by decide +kernel)) rfl rfl rfl rfl hc_z
    obtain ⟨r1876_z, h1877_z, q1878_z, hc_z⟩ := hc_z
    obtain ⟨rfl, yq1878_z⟩ := rp_fail R4 q1878_z
    subst yq1878_z
    replace hc_z : rn _ _ _ _ [] _ _ _ := hc_z
    have K := rs_stick (w := 1) (q := p) (a := 51) (by decide) (by decide) rfl (by decide) rfl (show rg_v (am_up (am_up h 44 1 (.int 1)) 44 2 (.int (rg_v h 44 9))) 44 2 = p from R5) hc_z
    replace hm_z := rn_aload_n (am_cur_of (i := (0, 1, .aload_n 0, (0, 0, 0), 0)) (by decide +kernel)) g0m hm_z
    replace hm_z := rn_bipush (w := 40) (am_cur_of (i := (1, 2, .bipush 40, (0, 0, 0), 0)) (by decide +kernel)) (by decide) hm_z
    replace hm_z := rn_callV (M' := am_m171) (o := 164) (ar := [.int 40]) (rest := []) (L := lv_args 0 [.ref 164, .int 40]) (am_cur_of (i := (3, 3, .invokevirtual 194, (171, 1715, 3), 0)) (by decide +kernel)) rfl rfl rfl rfl hm_z
    obtain ⟨r1879_z, h1880_z, q1881_z, hm_z⟩ := hm_z
    obtain ⟨rfl, yq1881_z⟩ := rp_sgN (fun q => absurd (Eq.trans (Eq.symm kc) q.1) (by decide)) q1881_z
    subst yq1881_z
    replace hm_z : rn _ _ _ _ [.int 0] _ _ _ := hm_z
    replace hm_z := rn_ifT (am_cur_of (i := (6, 3, .ifCond .eq 44, (28, 0, 0), 0)) (by decide +kernel)) (by decide) hm_z
    replace hm_z := rn_aload_n (am_cur_of (i := (50, 1, .aload_n 0, (0, 0, 0), 0)) (by decide +kernel)) g0m hm_z
    replace hm_z := rn_bipush (w := 14) (am_cur_of (i := (51, 2, .bipush 14, (0, 0, 0), 0)) (by decide +kernel)) (by decide) hm_z
    replace hm_z := rn_callV (M' := am_m174) (o := 164) (ar := [.int 14]) (rest := []) (L := lv_args 0 [.ref 164, .int 14]) (am_cur_of (i := (53, 3, .invokevirtual 306, (174, 1727, 3), 0)) (by decide +kernel)) rfl rfl rfl rfl hm_z
    obtain ⟨r1882_z, h1883_z, q1884_z, hm_z⟩ := hm_z
    obtain ⟨rfl, yq1884_z⟩ := rp_kyN (fun q => absurd (Eq.trans (Eq.symm kd) q.2) (by decide)) q1884_z
    subst yq1884_z
    replace hm_z : rn _ _ _ _ [.int 0] _ _ _ := hm_z
    replace hm_z := rn_ifT (am_cur_of (i := (56, 3, .ifCond .eq 30, (47, 0, 0), 0)) (by decide +kernel)) (by decide) hm_z
    replace hm_z := rn_aload_n (am_cur_of (i := (86, 1, .aload_n 0, (0, 0, 0), 0)) (by decide +kernel)) g0m hm_z
    replace hm_z := rn_callV (M' := am_m176) (o := 164) (ar := []) (rest := []) (L := lv_args 0 [.ref 164]) (am_cur_of (i := (87, 3, .invokevirtual 312, (176, 1735, 3), 0)) (by decide +kernel)) rfl rfl rfl rfl hm_z
    obtain ⟨r1885_z, h1886_z, q1887_z, hm_z⟩ := hm_z
    obtain ⟨rfl, yq1887_z⟩ := rp_nm (c := 1) (d := 13) kc kd q1887_z
    replace yq1887_z := yq1887_z.symm
    subst yq1887_z
    rw [show rp_nmf 1 13 = (-1) from by decide] at hm_z
    replace hm_z : rn _ _ _ _ [.int (-1)] _ _ _ := hm_z
    replace hm_z := rn_istore_n (am_cur_of (i := (90, 1, .istore_n 1, (0, 0, 0), 0)) (by decide +kernel)) hm_z
    obtain ⟨_, s1888_z, s1889_z, g1m, hm_z⟩ := hm_z
    replace g0m := s1888_z 0 _ (by decide) rfl g0m
    clear s1888_z s1889_z
    replace hm_z := rn_iload_n (am_cur_of (i := (91, 1, .iload_n 1, (0, 0, 0), 0)) (by decide +kernel)) g1m hm_z
    replace hm_z := rn_ifF (am_cur_of (i := (92, 3, .ifCond .ge 17, (60, 0, 0), 0)) (by decide +kernel)) (by decide) hm_z
    replace hm_z := rn_aload_n (am_cur_of (i := (95, 1, .aload_n 0, (0, 0, 0), 0)) (by decide +kernel)) g0m hm_z
    replace hm_z := rn_getI (v := 1) (am_cur_of (i := (96, 3, .getfield 157, (12, 8, 1392), 0)) (by decide +kernel)) (by decide +kernel) kc hm_z
    replace hm_z := rn_iconst (w := 3) (am_cur_of (i := (99, 1, .iconst 3, (0, 0, 0), 0)) (by decide +kernel)) (by decide) hm_z
    replace hm_z := rn_cmpF (am_cur_of (i := (100, 3, .if_icmp .eq 9, (60, 0, 0), 0)) (by decide +kernel)) (by decide) hm_z
    replace hm_z := rn_aload_n (am_cur_of (i := (103, 1, .aload_n 0, (0, 0, 0), 0)) (by decide +kernel)) g0m hm_z
    replace hm_z := rn_iconst (w := 1) (am_cur_of (i := (104, 1, .iconst 1, (0, 0, 0), 0)) (by decide +kernel)) (by decide) hm_z
    replace hm_z := rn_callV (M' := am_m158) (o := 164) (ar := [.int 1]) (rest := []) (L := lv_args 0 [.ref 164, .int 1]) (am_cur_of (i := (105, 3, .invokevirtual 181, (158, 1665, 3), 0)) (by decide +kernel)) rfl rfl rfl rfl hm_z
    obtain ⟨r1890_z, h1891_z, q1892_z, hm_z⟩ := hm_z
    obtain ⟨rfl, yq1892_z⟩ := rp_wrong q1892_z
    subst yq1892_z
    replace hm_z : rn _ _ _ _ [.int 0] _ _ _ := hm_z
    replace hm_z := rn_iret (am_cur_of (i := (108, 1, .ireturn, (0, 0, 0), 0)) (by decide +kernel)) hm_z
    obtain ⟨e1893_z, e1894_z⟩ := hm_z
    subst e1893_z e1894_z
    exact (Or.inr ⟨rfl, 1, by decide, K.1, K.2, rfl, R6⟩)
  · have g0_z : am_get (lv_args 0 [.ref 44, .int 1]) 0 = some (.ref 44) := rfl
    have g1_z : am_get (lv_args 0 [.ref 44, .int 1]) 1 = some (.int 1) := rfl
    have g0m : am_get (lv_args 0 [.ref 164]) 0 = some (.ref 164) := rfl
    have Rk := R
    have Zk := Z
    obtain ⟨⟨c1_z, c2_z, c3_z, c4_z, c5_z, c6_z, c7_z, c8_z⟩, ⟨m2_z, m3_z, m4_z, m5_z, m6_z, m7_z, m8_z⟩, R3, R4, R5, R6, R7, R8, R9, R10⟩ := (R : rq T S x p 2 h g)
    obtain ⟨np, op, z1_z, z2_z, z3_z, z4_z, z5_z, z6_z, z7_z, z8_z, z9_z, z10_z⟩ := (Z : rs 2 h g)
    obtain ⟨nk1_z, nk2_z, nk3_z⟩ := A.2.2.2.2.2.1
    replace nk1_z : rg_v h 11 0 = rg_v g 164 44 := nk1_z
    replace nk2_z : 0 ≤ (rg_v h 11 0).toInt := nk2_z
    replace nk3_z : (rg_v h 11 0).toInt ≤ 64 := nk3_z
    replace z8_z : np.toInt ≤ (rg_v h 11 0).toInt + op.toInt := z8_z
    obtain ⟨kn, ekn⟩ : ∃ v, rg_v h 11 0 = v := ⟨_, rfl⟩
    rw [ekn] at nk1_z nk2_z nk3_z z8_z
    have e9_z := rt_c1 (x := kn) (by omega) (by omega)
    replace hc_z := rn_aload_n (am_cur_of (i := (0, 1, .aload_n 0, (0, 0, 0), 0)) (by decide +kernel)) g0_z hc_z
    replace hc_z := rn_getI (v := 6) (am_cur_of (i := (1, 3, .getfield 60, (4, 10, 419), 0)) (by decide +kernel)) (by decide +kernel) ka hc_z
    replace hc_z := rn_bipush (w := 6) (am_cur_of (i := (4, 2, .bipush 6, (0, 0, 0), 0)) (by decide +kernel)) (by decide) hc_z
    replace hc_z := rn_cmpF (am_cur_of (i := (6, 3, .if_icmp .ne 30, (19, 0, 0), 0)) (by decide +kernel)) (by decide) hc_z
    replace hc_z := rn_aload_n (am_cur_of (i := (9, 1, .aload_n 0, (0, 0, 0), 0)) (by decide +kernel)) g0_z hc_z
    replace hc_z := rn_getI (v := 4) (am_cur_of (i := (10, 3, .getfield 91, (4, 11, 420), 0)) (by decide +kernel)) (by decide +kernel) kb hc_z
    replace hc_z := rn_iconst (w := 5) (am_cur_of (i := (13, 1, .iconst 5, (0, 0, 0), 0)) (by decide +kernel)) (by decide) hc_z
    replace hc_z := rn_cmpT (am_cur_of (i := (14, 3, .if_icmp .ne 22, (19, 0, 0), 0)) (by decide +kernel)) (by decide) hc_z
    replace hc_z := rn_aload_n (am_cur_of (i := (36, 1, .aload_n 0, (0, 0, 0), 0)) (by decide +kernel)) g0_z hc_z
    replace hc_z := rn_bipush (w := 40) (am_cur_of (i := (37, 2, .bipush 40, (0, 0, 0), 0)) (by decide +kernel)) (by decide) hc_z
    replace hc_z := rn_callV (M' := am_m45) (o := 44) (ar := [.int 40]) (rest := []) (L := lv_args 0 [.ref 44, .int 40]) (am_cur_of (i := (39, 3, .invokevirtual 105, (45, 834, 3), 0)) (by decide +kernel)) rfl rfl rfl rfl hc_z
    obtain ⟨r1895_z, h1896_z, q1897_z, hc_z⟩ := hc_z
    obtain ⟨rfl, yq1897_z⟩ := rp_mkN (fun q => absurd (Eq.trans (Eq.symm ka) q.1) (by decide)) q1897_z
    subst yq1897_z
    replace hc_z : rn _ _ _ _ [.int 0] _ _ _ := hc_z
    replace hc_z := rn_ifT (am_cur_of (i := (42, 3, .ifCond .eq 38, (43, 0, 0), 0)) (by decide +kernel)) (by decide) hc_z
    replace hc_z := rn_aload_n (am_cur_of (i := (80, 1, .aload_n 0, (0, 0, 0), 0)) (by decide +kernel)) g0_z hc_z
    replace hc_z := rn_getI (v := 6) (am_cur_of (i := (81, 3, .getfield 60, (4, 10, 419), 0)) (by decide +kernel)) (by decide +kernel) ka hc_z
    replace hc_z := rn_iconst (w := 4) (am_cur_of (i := (84, 1, .iconst 4, (0, 0, 0), 0)) (by decide +kernel)) (by decide) hc_z
    replace hc_z := rn_cmpT (am_cur_of (i := (85, 3, .if_icmp .ne 40, (64, 0, 0), 0)) (by decide +kernel)) (by decide) hc_z
    replace hc_z := rn_aload_n (am_cur_of (i := (125, 1, .aload_n 0, (0, 0, 0), 0)) (by decide +kernel)) g0_z hc_z
    replace hc_z := rn_getI (v := 6) (am_cur_of (i := (126, 3, .getfield 60, (4, 10, 419), 0)) (by decide +kernel)) (by decide +kernel) ka hc_z
    replace hc_z := rn_iconst (w := 2) (am_cur_of (i := (129, 1, .iconst 2, (0, 0, 0), 0)) (by decide +kernel)) (by decide) hc_z
    replace hc_z := rn_cmpT (am_cur_of (i := (130, 3, .if_icmp .ne 37, (84, 0, 0), 0)) (by decide +kernel)) (by decide) hc_z
    replace hc_z := rn_aload_n (am_cur_of (i := (167, 1, .aload_n 0, (0, 0, 0), 0)) (by decide +kernel)) g0_z hc_z
    replace hc_z := rn_iconst (w := 1) (am_cur_of (i := (168, 1, .iconst 1, (0, 0, 0), 0)) (by decide +kernel)) (by decide) hc_z
    replace hc_z := rn_callV (M' := am_m29) (o := 44) (ar := [.int 1]) (rest := []) (L := lv_args 0 [.ref 44, .int 1]) (am_cur_of (i := (169, 3, .invokevirtual 108, (29, 769, 3), 0)) (by decide +kernel)) rfl rfl rfl rfl hc_z
    obtain ⟨r1898_z, h1899_z, q1900_z, hc_z⟩ := hc_z
    obtain ⟨rfl, yq1900_z⟩ := rp_fail R4 q1900_z
    subst yq1900_z
    replace hc_z : rn _ _ _ _ [] _ _ _ := hc_z
    have K := rs_stick (w := 1) (q := p) (a := 51) (by decide) (by decide) rfl (by decide) rfl (show rg_v (am_up (am_up h 44 1 (.int 1)) 44 2 (.int (rg_v h 44 9))) 44 2 = p from R5) hc_z
    replace hm_z := rn_aload_n (am_cur_of (i := (0, 1, .aload_n 0, (0, 0, 0), 0)) (by decide +kernel)) g0m hm_z
    replace hm_z := rn_bipush (w := 40) (am_cur_of (i := (1, 2, .bipush 40, (0, 0, 0), 0)) (by decide +kernel)) (by decide) hm_z
    replace hm_z := rn_callV (M' := am_m171) (o := 164) (ar := [.int 40]) (rest := []) (L := lv_args 0 [.ref 164, .int 40]) (am_cur_of (i := (3, 3, .invokevirtual 194, (171, 1715, 3), 0)) (by decide +kernel)) rfl rfl rfl rfl hm_z
    obtain ⟨r1901_z, h1902_z, q1903_z, hm_z⟩ := hm_z
    obtain ⟨rfl, yq1903_z⟩ := rp_sgN (fun q => absurd (Eq.trans (Eq.symm kc) q.1) (by decide)) q1903_z
    subst yq1903_z
    replace hm_z : rn _ _ _ _ [.int 0] _ _ _ := hm_z
    replace hm_z := rn_ifT (am_cur_of (i := (6, 3, .ifCond .eq 44, (28, 0, 0), 0)) (by decide +kernel)) (by decide) hm_z
    replace hm_z := rn_aload_n (am_cur_of (i := (50, 1, .aload_n 0, (0, 0, 0), 0)) (by decide +kernel)) g0m hm_z
    replace hm_z := rn_bipush (w := 14) (am_cur_of (i := (51, 2, .bipush 14, (0, 0, 0), 0)) (by decide +kernel)) (by decide) hm_z
    replace hm_z := rn_callV (M' := am_m174) (o := 164) (ar := [.int 14]) (rest := []) (L := lv_args 0 [.ref 164, .int 14]) (am_cur_of (i := (53, 3, .invokevirtual 306, (174, 1727, 3), 0)) (by decide +kernel)) rfl rfl rfl rfl hm_z
    obtain ⟨r1904_z, h1905_z, q1906_z, hm_z⟩ := hm_z
    obtain ⟨rfl, yq1906_z⟩ := rp_kyN (fun q => absurd (Eq.trans (Eq.symm kd) q.2) (by decide)) q1906_z
    subst yq1906_z
    replace hm_z : rn _ _ _ _ [.int 0] _ _ _ := hm_z
    replace hm_z := rn_ifT (am_cur_of (i := (56, 3, .ifCond .eq 30, (47, 0, 0), 0)) (by decide +kernel)) (by decide) hm_z
    replace hm_z := rn_aload_n (am_cur_of (i := (86, 1, .aload_n 0, (0, 0, 0), 0)) (by decide +kernel)) g0m hm_z
    replace hm_z := rn_callV (M' := am_m176) (o := 164) (ar := []) (rest := []) (L := lv_args 0 [.ref 164]) (am_cur_of (i := (87, 3, .invokevirtual 312, (176, 1735, 3), 0)) (by decide +kernel)) rfl rfl rfl rfl hm_z
    obtain ⟨r1907_z, h1908_z, q1909_z, hm_z⟩ := hm_z
    obtain ⟨rfl, yq1909_z⟩ := rp_nm (c := 1) (d := 12) kc kd q1909_z
    replace yq1909_z := yq1909_z.symm
    subst yq1909_z
    rw [show rp_nmf 1 12 = (-1) from by decide] at hm_z
    replace hm_z : rn _ _ _ _ [.int (-1)] _ _ _ := hm_z
    replace hm_z := rn_istore_n (am_cur_of (i := (90, 1, .istore_n 1, (0, 0, 0), 0)) (by decide +kernel)) hm_z
    obtain ⟨_, s1910_z, s1911_z, g1m, hm_z⟩ := hm_z
    replace g0m := s1910_z 0 _ (by decide) rfl g0m
    clear s1910_z s1911_z
    replace hm_z := rn_iload_n (am_cur_of (i := (91, 1, .iload_n 1, (0, 0, 0), 0)) (by decide +kernel)) g1m hm_z
    replace hm_z := rn_ifF (am_cur_of (i := (92, 3, .ifCond .ge 17, (60, 0, 0), 0)) (by decide +kernel)) (by decide) hm_z
    replace hm_z := rn_aload_n (am_cur_of (i := (95, 1, .aload_n 0, (0, 0, 0), 0)) (by decide +kernel)) g0m hm_z
    replace hm_z := rn_getI (v := 1) (am_cur_of (i := (96, 3, .getfield 157, (12, 8, 1392), 0)) (by decide +kernel)) (by decide +kernel) kc hm_z
    replace hm_z := rn_iconst (w := 3) (am_cur_of (i := (99, 1, .iconst 3, (0, 0, 0), 0)) (by decide +kernel)) (by decide) hm_z
    replace hm_z := rn_cmpF (am_cur_of (i := (100, 3, .if_icmp .eq 9, (60, 0, 0), 0)) (by decide +kernel)) (by decide) hm_z
    replace hm_z := rn_aload_n (am_cur_of (i := (103, 1, .aload_n 0, (0, 0, 0), 0)) (by decide +kernel)) g0m hm_z
    replace hm_z := rn_iconst (w := 1) (am_cur_of (i := (104, 1, .iconst 1, (0, 0, 0), 0)) (by decide +kernel)) (by decide) hm_z
    replace hm_z := rn_callV (M' := am_m158) (o := 164) (ar := [.int 1]) (rest := []) (L := lv_args 0 [.ref 164, .int 1]) (am_cur_of (i := (105, 3, .invokevirtual 181, (158, 1665, 3), 0)) (by decide +kernel)) rfl rfl rfl rfl hm_z
    obtain ⟨r1912_z, h1913_z, q1914_z, hm_z⟩ := hm_z
    obtain ⟨rfl, yq1914_z⟩ := rp_wrong q1914_z
    subst yq1914_z
    replace hm_z : rn _ _ _ _ [.int 0] _ _ _ := hm_z
    replace hm_z := rn_iret (am_cur_of (i := (108, 1, .ireturn, (0, 0, 0), 0)) (by decide +kernel)) hm_z
    obtain ⟨e1915_z, e1916_z⟩ := hm_z
    subst e1915_z e1916_z
    exact (Or.inr ⟨rfl, 1, by decide, K.1, K.2, rfl, R6⟩)
  · have g0_z : am_get (lv_args 0 [.ref 44, .int 1]) 0 = some (.ref 44) := rfl
    have g1_z : am_get (lv_args 0 [.ref 44, .int 1]) 1 = some (.int 1) := rfl
    have g0m : am_get (lv_args 0 [.ref 164]) 0 = some (.ref 164) := rfl
    have Rk := R
    have Zk := Z
    obtain ⟨⟨c1_z, c2_z, c3_z, c4_z, c5_z, c6_z, c7_z, c8_z⟩, ⟨m2_z, m3_z, m4_z, m5_z, m6_z, m7_z, m8_z⟩, R3, R4, R5, R6, R7, R8, R9, R10⟩ := (R : rq T S x p 2 h g)
    obtain ⟨np, op, z1_z, z2_z, z3_z, z4_z, z5_z, z6_z, z7_z, z8_z, z9_z, z10_z⟩ := (Z : rs 2 h g)
    obtain ⟨nk1_z, nk2_z, nk3_z⟩ := A.2.2.2.2.2.1
    replace nk1_z : rg_v h 11 0 = rg_v g 164 44 := nk1_z
    replace nk2_z : 0 ≤ (rg_v h 11 0).toInt := nk2_z
    replace nk3_z : (rg_v h 11 0).toInt ≤ 64 := nk3_z
    replace z8_z : np.toInt ≤ (rg_v h 11 0).toInt + op.toInt := z8_z
    obtain ⟨kn, ekn⟩ : ∃ v, rg_v h 11 0 = v := ⟨_, rfl⟩
    rw [ekn] at nk1_z nk2_z nk3_z z8_z
    have e9_z := rt_c1 (x := kn) (by omega) (by omega)
    replace hc_z := rn_aload_n (am_cur_of (i := (0, 1, .aload_n 0, (0, 0, 0), 0)) (by decide +kernel)) g0_z hc_z
    replace hc_z := rn_getI (v := 6) (am_cur_of (i := (1, 3, .getfield 60, (4, 10, 419), 0)) (by decide +kernel)) (by decide +kernel) ka hc_z
    replace hc_z := rn_bipush (w := 6) (am_cur_of (i := (4, 2, .bipush 6, (0, 0, 0), 0)) (by decide +kernel)) (by decide) hc_z
    replace hc_z := rn_cmpF (am_cur_of (i := (6, 3, .if_icmp .ne 30, (19, 0, 0), 0)) (by decide +kernel)) (by decide) hc_z
    replace hc_z := rn_aload_n (am_cur_of (i := (9, 1, .aload_n 0, (0, 0, 0), 0)) (by decide +kernel)) g0_z hc_z
    replace hc_z := rn_getI (v := 5) (am_cur_of (i := (10, 3, .getfield 91, (4, 11, 420), 0)) (by decide +kernel)) (by decide +kernel) kb hc_z
    replace hc_z := rn_iconst (w := 5) (am_cur_of (i := (13, 1, .iconst 5, (0, 0, 0), 0)) (by decide +kernel)) (by decide) hc_z
    replace hc_z := rn_cmpF (am_cur_of (i := (14, 3, .if_icmp .ne 22, (19, 0, 0), 0)) (by decide +kernel)) (by decide) hc_z
    replace hc_z := rn_iload_n (am_cur_of (i := (17, 1, .iload_n 1, (0, 0, 0), 0)) (by decide +kernel)) g1_z hc_z
    replace hc_z := rn_ifT (am_cur_of (i := (18, 3, .ifCond .ne 18, (19, 0, 0), 0)) (by decide +kernel)) (by decide) hc_z
    replace hc_z := rn_aload_n (am_cur_of (i := (36, 1, .aload_n 0, (0, 0, 0), 0)) (by decide +kernel)) g0_z hc_z
    replace hc_z := rn_bipush (w := 40) (am_cur_of (i := (37, 2, .bipush 40, (0, 0, 0), 0)) (by decide +kernel)) (by decide) hc_z
    replace hc_z := rn_callV (M' := am_m45) (o := 44) (ar := [.int 40]) (rest := []) (L := lv_args 0 [.ref 44, .int 40]) (am_cur_of (i := (39, 3, .invokevirtual 105, (45, 834, 3), 0)) (by decide +kernel)) rfl rfl rfl rfl hc_z
    obtain ⟨r1917_z, h1918_z, q1919_z, hc_z⟩ := hc_z
    obtain ⟨rfl, yq1919_z⟩ := rp_mkN (fun q => absurd (Eq.trans (Eq.symm ka) q.1) (by decide)) q1919_z
    subst yq1919_z
    replace hc_z : rn _ _ _ _ [.int 0] _ _ _ := hc_z
    replace hc_z := rn_ifT (am_cur_of (i := (42, 3, .ifCond .eq 38, (43, 0, 0), 0)) (by decide +kernel)) (by decide) hc_z
    replace hc_z := rn_aload_n (am_cur_of (i := (80, 1, .aload_n 0, (0, 0, 0), 0)) (by decide +kernel)) g0_z hc_z
    replace hc_z := rn_getI (v := 6) (am_cur_of (i := (81, 3, .getfield 60, (4, 10, 419), 0)) (by decide +kernel)) (by decide +kernel) ka hc_z
    replace hc_z := rn_iconst (w := 4) (am_cur_of (i := (84, 1, .iconst 4, (0, 0, 0), 0)) (by decide +kernel)) (by decide) hc_z
    replace hc_z := rn_cmpT (am_cur_of (i := (85, 3, .if_icmp .ne 40, (64, 0, 0), 0)) (by decide +kernel)) (by decide) hc_z
    replace hc_z := rn_aload_n (am_cur_of (i := (125, 1, .aload_n 0, (0, 0, 0), 0)) (by decide +kernel)) g0_z hc_z
    replace hc_z := rn_getI (v := 6) (am_cur_of (i := (126, 3, .getfield 60, (4, 10, 419), 0)) (by decide +kernel)) (by decide +kernel) ka hc_z
    replace hc_z := rn_iconst (w := 2) (am_cur_of (i := (129, 1, .iconst 2, (0, 0, 0), 0)) (by decide +kernel)) (by decide) hc_z
    replace hc_z := rn_cmpT (am_cur_of (i := (130, 3, .if_icmp .ne 37, (84, 0, 0), 0)) (by decide +kernel)) (by decide) hc_z
    replace hc_z := rn_aload_n (am_cur_of (i := (167, 1, .aload_n 0, (0, 0, 0), 0)) (by decide +kernel)) g0_z hc_z
    replace hc_z := rn_iconst (w := 1) (am_cur_of (i := (168, 1, .iconst 1, (0, 0, 0), 0)) (by decide +kernel)) (by decide) hc_z
    replace hc_z := rn_callV (M' := am_m29) (o := 44) (ar := [.int 1]) (rest := []) (L := lv_args 0 [.ref 44, .int 1]) (am_cur_of (i := (169, 3, .invokevirtual 108, (29, 769, 3), 0)) (by decide +kernel)) rfl rfl rfl rfl hc_z
    obtain ⟨r1920_z, h1921_z, q1922_z, hc_z⟩ := hc_z
    obtain ⟨rfl, yq1922_z⟩ := rp_fail R4 q1922_z
    subst yq1922_z
    replace hc_z : rn _ _ _ _ [] _ _ _ := hc_z
    have K := rs_stick (w := 1) (q := p) (a := 51) (by decide) (by decide) rfl (by decide) rfl (show rg_v (am_up (am_up h 44 1 (.int 1)) 44 2 (.int (rg_v h 44 9))) 44 2 = p from R5) hc_z
    replace hm_z := rn_aload_n (am_cur_of (i := (0, 1, .aload_n 0, (0, 0, 0), 0)) (by decide +kernel)) g0m hm_z
    replace hm_z := rn_bipush (w := 40) (am_cur_of (i := (1, 2, .bipush 40, (0, 0, 0), 0)) (by decide +kernel)) (by decide) hm_z
    replace hm_z := rn_callV (M' := am_m171) (o := 164) (ar := [.int 40]) (rest := []) (L := lv_args 0 [.ref 164, .int 40]) (am_cur_of (i := (3, 3, .invokevirtual 194, (171, 1715, 3), 0)) (by decide +kernel)) rfl rfl rfl rfl hm_z
    obtain ⟨r1923_z, h1924_z, q1925_z, hm_z⟩ := hm_z
    obtain ⟨rfl, yq1925_z⟩ := rp_sgN (fun q => absurd (Eq.trans (Eq.symm kc) q.1) (by decide)) q1925_z
    subst yq1925_z
    replace hm_z : rn _ _ _ _ [.int 0] _ _ _ := hm_z
    replace hm_z := rn_ifT (am_cur_of (i := (6, 3, .ifCond .eq 44, (28, 0, 0), 0)) (by decide +kernel)) (by decide) hm_z
    replace hm_z := rn_aload_n (am_cur_of (i := (50, 1, .aload_n 0, (0, 0, 0), 0)) (by decide +kernel)) g0m hm_z
    replace hm_z := rn_bipush (w := 14) (am_cur_of (i := (51, 2, .bipush 14, (0, 0, 0), 0)) (by decide +kernel)) (by decide) hm_z
    replace hm_z := rn_callV (M' := am_m174) (o := 164) (ar := [.int 14]) (rest := []) (L := lv_args 0 [.ref 164, .int 14]) (am_cur_of (i := (53, 3, .invokevirtual 306, (174, 1727, 3), 0)) (by decide +kernel)) rfl rfl rfl rfl hm_z
    obtain ⟨r1926_z, h1927_z, q1928_z, hm_z⟩ := hm_z
    obtain ⟨rfl, yq1928_z⟩ := rp_kyT kc kd q1928_z
    subst yq1928_z
    replace hm_z : rn _ _ _ _ [.int 1] _ _ _ := hm_z
    replace hm_z := rn_ifF (am_cur_of (i := (56, 3, .ifCond .eq 30, (47, 0, 0), 0)) (by decide +kernel)) (by decide) hm_z
    replace hm_z := rn_aload_n (am_cur_of (i := (59, 1, .aload_n 0, (0, 0, 0), 0)) (by decide +kernel)) g0m hm_z
    replace hm_z := rn_getI (v := 0) (am_cur_of (i := (60, 3, .getfield 302, (12, 46, 1430), 0)) (by decide +kernel)) (by decide +kernel) w2_z hm_z
    replace hm_z := rn_ifT (am_cur_of (i := (63, 3, .ifCond .eq 23, (47, 0, 0), 0)) (by decide +kernel)) (by decide) hm_z
    replace hm_z := rn_aload_n (am_cur_of (i := (86, 1, .aload_n 0, (0, 0, 0), 0)) (by decide +kernel)) g0m hm_z
    replace hm_z := rn_callV (M' := am_m176) (o := 164) (ar := []) (rest := []) (L := lv_args 0 [.ref 164]) (am_cur_of (i := (87, 3, .invokevirtual 312, (176, 1735, 3), 0)) (by decide +kernel)) rfl rfl rfl rfl hm_z
    obtain ⟨r1929_z, h1930_z, q1931_z, hm_z⟩ := hm_z
    obtain ⟨rfl, yq1931_z⟩ := rp_nm (c := 1) (d := 14) kc kd q1931_z
    replace yq1931_z := yq1931_z.symm
    subst yq1931_z
    rw [show rp_nmf 1 14 = (-1) from by decide] at hm_z
    replace hm_z : rn _ _ _ _ [.int (-1)] _ _ _ := hm_z
    replace hm_z := rn_istore_n (am_cur_of (i := (90, 1, .istore_n 1, (0, 0, 0), 0)) (by decide +kernel)) hm_z
    obtain ⟨_, s1932_z, s1933_z, g1m, hm_z⟩ := hm_z
    replace g0m := s1932_z 0 _ (by decide) rfl g0m
    clear s1932_z s1933_z
    replace hm_z := rn_iload_n (am_cur_of (i := (91, 1, .iload_n 1, (0, 0, 0), 0)) (by decide +kernel)) g1m hm_z
    replace hm_z := rn_ifF (am_cur_of (i := (92, 3, .ifCond .ge 17, (60, 0, 0), 0)) (by decide +kernel)) (by decide) hm_z
    replace hm_z := rn_aload_n (am_cur_of (i := (95, 1, .aload_n 0, (0, 0, 0), 0)) (by decide +kernel)) g0m hm_z
    replace hm_z := rn_getI (v := 1) (am_cur_of (i := (96, 3, .getfield 157, (12, 8, 1392), 0)) (by decide +kernel)) (by decide +kernel) kc hm_z
    replace hm_z := rn_iconst (w := 3) (am_cur_of (i := (99, 1, .iconst 3, (0, 0, 0), 0)) (by decide +kernel)) (by decide) hm_z
    replace hm_z := rn_cmpF (am_cur_of (i := (100, 3, .if_icmp .eq 9, (60, 0, 0), 0)) (by decide +kernel)) (by decide) hm_z
    replace hm_z := rn_aload_n (am_cur_of (i := (103, 1, .aload_n 0, (0, 0, 0), 0)) (by decide +kernel)) g0m hm_z
    replace hm_z := rn_iconst (w := 1) (am_cur_of (i := (104, 1, .iconst 1, (0, 0, 0), 0)) (by decide +kernel)) (by decide) hm_z
    replace hm_z := rn_callV (M' := am_m158) (o := 164) (ar := [.int 1]) (rest := []) (L := lv_args 0 [.ref 164, .int 1]) (am_cur_of (i := (105, 3, .invokevirtual 181, (158, 1665, 3), 0)) (by decide +kernel)) rfl rfl rfl rfl hm_z
    obtain ⟨r1934_z, h1935_z, q1936_z, hm_z⟩ := hm_z
    obtain ⟨rfl, yq1936_z⟩ := rp_wrong q1936_z
    subst yq1936_z
    replace hm_z : rn _ _ _ _ [.int 0] _ _ _ := hm_z
    replace hm_z := rn_iret (am_cur_of (i := (108, 1, .ireturn, (0, 0, 0), 0)) (by decide +kernel)) hm_z
    obtain ⟨e1937_z, e1938_z⟩ := hm_z
    subst e1937_z e1938_z
    exact (Or.inr ⟨rfl, 1, by decide, K.1, K.2, rfl, R6⟩)
  · have g0_z : am_get (lv_args 0 [.ref 44, .int 1]) 0 = some (.ref 44) := rfl
    have g1_z : am_get (lv_args 0 [.ref 44, .int 1]) 1 = some (.int 1) := rfl
    have g0m : am_get (lv_args 0 [.ref 164]) 0 = some (.ref 164) := rfl
    have Rk := R
    have Zk := Z
    obtain ⟨⟨c1_z, c2_z, c3_z, c4_z, c5_z, c6_z, c7_z, c8_z⟩, ⟨m2_z, m3_z, m4_z, m5_z, m6_z, m7_z, m8_z⟩, R3, R4, R5, R6, R7, R8, R9, R10⟩ := (R : rq T S x p 2 h g)
    obtain ⟨np, op, z1_z, z2_z, z3_z, z4_z, z5_z, z6_z, z7_z, z8_z, z9_z, z10_z⟩ := (Z : rs 2 h g)
    obtain ⟨nk1_z, nk2_z, nk3_z⟩ := A.2.2.2.2.2.1
    replace nk1_z : rg_v h 11 0 = rg_v g 164 44 := nk1_z
    replace nk2_z : 0 ≤ (rg_v h 11 0).toInt := nk2_z
    replace nk3_z : (rg_v h 11 0).toInt ≤ 64 := nk3_z
    replace z8_z : np.toInt ≤ (rg_v h 11 0).toInt + op.toInt := z8_z
    obtain ⟨kn, ekn⟩ : ∃ v, rg_v h 11 0 = v := ⟨_, rfl⟩
    rw [ekn] at nk1_z nk2_z nk3_z z8_z
    have e9_z := rt_c1 (x := kn) (by omega) (by omega)
    replace hc_z := rn_aload_n (am_cur_of (i := (0, 1, .aload_n 0, (0, 0, 0), 0)) (by decide +kernel)) g0_z hc_z
    replace hc_z := rn_getI (v := 6) (am_cur_of (i := (1, 3, .getfield 60, (4, 10, 419), 0)) (by decide +kernel)) (by decide +kernel) ka hc_z
    replace hc_z := rn_bipush (w := 6) (am_cur_of (i := (4, 2, .bipush 6, (0, 0, 0), 0)) (by decide +kernel)) (by decide) hc_z
    replace hc_z := rn_cmpF (am_cur_of (i := (6, 3, .if_icmp .ne 30, (19, 0, 0), 0)) (by decide +kernel)) (by decide) hc_z
    replace hc_z := rn_aload_n (am_cur_of (i := (9, 1, .aload_n 0, (0, 0, 0), 0)) (by decide +kernel)) g0_z hc_z
    replace hc_z := rn_getI (v := 6) (am_cur_of (i := (10, 3, .getfield 91, (4, 11, 420), 0)) (by decide +kernel)) (by decide +kernel) kb hc_z
    replace hc_z := rn_iconst (w := 5) (am_cur_of (i := (13, 1, .iconst 5, (0, 0, 0), 0)) (by decide +kernel)) (by decide) hc_z
    replace hc_z := rn_cmpT (am_cur_of (i := (14, 3, .if_icmp .ne 22, (19, 0, 0), 0)) (by decide +kernel)) (by decide) hc_z
    replace hc_z := rn_aload_n (am_cur_of (i := (36, 1, .aload_n 0, (0, 0, 0), 0)) (by decide +kernel)) g0_z hc_z
    replace hc_z := rn_bipush (w := 40) (am_cur_of (i := (37, 2, .bipush 40, (0, 0, 0), 0)) (by decide +kernel)) (by decide) hc_z
    replace hc_z := rn_callV (M' := am_m45) (o := 44) (ar := [.int 40]) (rest := []) (L := lv_args 0 [.ref 44, .int 40]) (am_cur_of (i := (39, 3, .invokevirtual 105, (45, 834, 3), 0)) (by decide +kernel)) rfl rfl rfl rfl hc_z
    obtain ⟨r1939_z, h1940_z, q1941_z, hc_z⟩ := hc_z
    obtain ⟨rfl, yq1941_z⟩ := rp_mkN (fun q => absurd (Eq.trans (Eq.symm ka) q.1) (by decide)) q1941_z
    subst yq1941_z
    replace hc_z : rn _ _ _ _ [.int 0] _ _ _ := hc_z
    replace hc_z := rn_ifT (am_cur_of (i := (42, 3, .ifCond .eq 38, (43, 0, 0), 0)) (by decide +kernel)) (by decide) hc_z
    replace hc_z := rn_aload_n (am_cur_of (i := (80, 1, .aload_n 0, (0, 0, 0), 0)) (by decide +kernel)) g0_z hc_z
    replace hc_z := rn_getI (v := 6) (am_cur_of (i := (81, 3, .getfield 60, (4, 10, 419), 0)) (by decide +kernel)) (by decide +kernel) ka hc_z
    replace hc_z := rn_iconst (w := 4) (am_cur_of (i := (84, 1, .iconst 4, (0, 0, 0), 0)) (by decide +kernel)) (by decide) hc_z
    replace hc_z := rn_cmpT (am_cur_of (i := (85, 3, .if_icmp .ne 40, (64, 0, 0), 0)) (by decide +kernel)) (by decide) hc_z
    replace hc_z := rn_aload_n (am_cur_of (i := (125, 1, .aload_n 0, (0, 0, 0), 0)) (by decide +kernel)) g0_z hc_z
    replace hc_z := rn_getI (v := 6) (am_cur_of (i := (126, 3, .getfield 60, (4, 10, 419), 0)) (by decide +kernel)) (by decide +kernel) ka hc_z
    replace hc_z := rn_iconst (w := 2) (am_cur_of (i := (129, 1, .iconst 2, (0, 0, 0), 0)) (by decide +kernel)) (by decide) hc_z
    replace hc_z := rn_cmpT (am_cur_of (i := (130, 3, .if_icmp .ne 37, (84, 0, 0), 0)) (by decide +kernel)) (by decide) hc_z
    replace hc_z := rn_aload_n (am_cur_of (i := (167, 1, .aload_n 0, (0, 0, 0), 0)) (by decide +kernel)) g0_z hc_z
    replace hc_z := rn_iconst (w := 1) (am_cur_of (i := (168, 1, .iconst 1, (0, 0, 0), 0)) (by decide +kernel)) (by decide) hc_z
    replace hc_z := rn_callV (M' := am_m29) (o := 44) (ar := [.int 1]) (rest := []) (L := lv_args 0 [.ref 44, .int 1]) (am_cur_of (i := (169, 3, .invokevirtual 108, (29, 769, 3), 0)) (by decide +kernel)) rfl rfl rfl rfl hc_z
    obtain ⟨r1942_z, h1943_z, q1944_z, hc_z⟩ := hc_z
    obtain ⟨rfl, yq1944_z⟩ := rp_fail R4 q1944_z
    subst yq1944_z
    replace hc_z : rn _ _ _ _ [] _ _ _ := hc_z
    have K := rs_stick (w := 1) (q := p) (a := 51) (by decide) (by decide) rfl (by decide) rfl (show rg_v (am_up (am_up h 44 1 (.int 1)) 44 2 (.int (rg_v h 44 9))) 44 2 = p from R5) hc_z
    replace hm_z := rn_aload_n (am_cur_of (i := (0, 1, .aload_n 0, (0, 0, 0), 0)) (by decide +kernel)) g0m hm_z
    replace hm_z := rn_bipush (w := 40) (am_cur_of (i := (1, 2, .bipush 40, (0, 0, 0), 0)) (by decide +kernel)) (by decide) hm_z
    replace hm_z := rn_callV (M' := am_m171) (o := 164) (ar := [.int 40]) (rest := []) (L := lv_args 0 [.ref 164, .int 40]) (am_cur_of (i := (3, 3, .invokevirtual 194, (171, 1715, 3), 0)) (by decide +kernel)) rfl rfl rfl rfl hm_z
    obtain ⟨r1945_z, h1946_z, q1947_z, hm_z⟩ := hm_z
    obtain ⟨rfl, yq1947_z⟩ := rp_sgN (fun q => absurd (Eq.trans (Eq.symm kc) q.1) (by decide)) q1947_z
    subst yq1947_z
    replace hm_z : rn _ _ _ _ [.int 0] _ _ _ := hm_z
    replace hm_z := rn_ifT (am_cur_of (i := (6, 3, .ifCond .eq 44, (28, 0, 0), 0)) (by decide +kernel)) (by decide) hm_z
    replace hm_z := rn_aload_n (am_cur_of (i := (50, 1, .aload_n 0, (0, 0, 0), 0)) (by decide +kernel)) g0m hm_z
    replace hm_z := rn_bipush (w := 14) (am_cur_of (i := (51, 2, .bipush 14, (0, 0, 0), 0)) (by decide +kernel)) (by decide) hm_z
    replace hm_z := rn_callV (M' := am_m174) (o := 164) (ar := [.int 14]) (rest := []) (L := lv_args 0 [.ref 164, .int 14]) (am_cur_of (i := (53, 3, .invokevirtual 306, (174, 1727, 3), 0)) (by decide +kernel)) rfl rfl rfl rfl hm_z
    obtain ⟨r1948_z, h1949_z, q1950_z, hm_z⟩ := hm_z
    obtain ⟨rfl, yq1950_z⟩ := rp_kyN (fun q => absurd (Eq.trans (Eq.symm kc) q.1) (by decide)) q1950_z
    subst yq1950_z
    replace hm_z : rn _ _ _ _ [.int 0] _ _ _ := hm_z
    replace hm_z := rn_ifT (am_cur_of (i := (56, 3, .ifCond .eq 30, (47, 0, 0), 0)) (by decide +kernel)) (by decide) hm_z
    replace hm_z := rn_aload_n (am_cur_of (i := (86, 1, .aload_n 0, (0, 0, 0), 0)) (by decide +kernel)) g0m hm_z
    replace hm_z := rn_callV (M' := am_m176) (o := 164) (ar := []) (rest := []) (L := lv_args 0 [.ref 164]) (am_cur_of (i := (87, 3, .invokevirtual 312, (176, 1735, 3), 0)) (by decide +kernel)) rfl rfl rfl rfl hm_z
    obtain ⟨r1951_z, h1952_z, q1953_z, hm_z⟩ := hm_z
    obtain ⟨rfl, yq1953_z⟩ := rp_nm (c := 5) (d := 0) kc kd q1953_z
    replace yq1953_z := yq1953_z.symm
    subst yq1953_z
    rw [show rp_nmf 5 0 = (-1) from by unfold rp_nmf; rw [if_neg (by decide)]] at hm_z
    replace hm_z : rn _ _ _ _ [.int (-1)] _ _ _ := hm_z
    replace hm_z := rn_istore_n (am_cur_of (i := (90, 1, .istore_n 1, (0, 0, 0), 0)) (by decide +kernel)) hm_z
    obtain ⟨_, s1954_z, s1955_z, g1m, hm_z⟩ := hm_z
    replace g0m := s1954_z 0 _ (by decide) rfl g0m
    clear s1954_z s1955_z
    replace hm_z := rn_iload_n (am_cur_of (i := (91, 1, .iload_n 1, (0, 0, 0), 0)) (by decide +kernel)) g1m hm_z
    replace hm_z := rn_ifF (am_cur_of (i := (92, 3, .ifCond .ge 17, (60, 0, 0), 0)) (by decide +kernel)) (by decide) hm_z
    replace hm_z := rn_aload_n (am_cur_of (i := (95, 1, .aload_n 0, (0, 0, 0), 0)) (by decide +kernel)) g0m hm_z
    replace hm_z := rn_getI (v := 5) (am_cur_of (i := (96, 3, .getfield 157, (12, 8, 1392), 0)) (by decide +kernel)) (by decide +kernel) kc hm_z
    replace hm_z := rn_iconst (w := 3) (am_cur_of (i := (99, 1, .iconst 3, (0, 0, 0), 0)) (by decide +kernel)) (by decide) hm_z
    replace hm_z := rn_cmpF (am_cur_of (i := (100, 3, .if_icmp .eq 9, (60, 0, 0), 0)) (by decide +kernel)) (by decide) hm_z
    replace hm_z := rn_aload_n (am_cur_of (i := (103, 1, .aload_n 0, (0, 0, 0), 0)) (by decide +kernel)) g0m hm_z
    replace hm_z := rn_iconst (w := 1) (am_cur_of (i := (104, 1, .iconst 1, (0, 0, 0), 0)) (by decide +kernel)) (by decide) hm_z
    replace hm_z := rn_callV (M' := am_m158) (o := 164) (ar := [.int 1]) (rest := []) (L := lv_args 0 [.ref 164, .int 1]) (am_cur_of (i := (105, 3, .invokevirtual 181, (158, 1665, 3), 0)) (by decide +kernel)) rfl rfl rfl rfl hm_z
    obtain ⟨r1956_z, h1957_z, q1958_z, hm_z⟩ := hm_z
    obtain ⟨rfl, yq1958_z⟩ := rp_wrong q1958_z
    subst yq1958_z
    replace hm_z : rn _ _ _ _ [.int 0] _ _ _ := hm_z
    replace hm_z := rn_iret (am_cur_of (i := (108, 1, .ireturn, (0, 0, 0), 0)) (by decide +kernel)) hm_z
    obtain ⟨e1959_z, e1960_z⟩ := hm_z
    subst e1959_z e1960_z
    exact (Or.inr ⟨rfl, 1, by decide, K.1, K.2, rfl, R6⟩)
  · have g0_z : am_get (lv_args 0 [.ref 44, .int 1]) 0 = some (.ref 44) := rfl
    have g1_z : am_get (lv_args 0 [.ref 44, .int 1]) 1 = some (.int 1) := rfl
    have g0m : am_get (lv_args 0 [.ref 164]) 0 = some (.ref 164) := rfl
    have Rk := R
    have Zk := Z
    obtain ⟨⟨c1_z, c2_z, c3_z, c4_z, c5_z, c6_z, c7_z, c8_z⟩, ⟨m2_z, m3_z, m4_z, m5_z, m6_z, m7_z, m8_z⟩, R3, R4, R5, R6, R7, R8, R9, R10⟩ := (R : rq T S x p 2 h g)
    obtain ⟨np, op, z1_z, z2_z, z3_z, z4_z, z5_z, z6_z, z7_z, z8_z, z9_z, z10_z⟩ := (Z : rs 2 h g)
    obtain ⟨nk1_z, nk2_z, nk3_z⟩ := A.2.2.2.2.2.1
    replace nk1_z : rg_v h 11 0 = rg_v g 164 44 := nk1_z
    replace nk2_z : 0 ≤ (rg_v h 11 0).toInt := nk2_z
    replace nk3_z : (rg_v h 11 0).toInt ≤ 64 := nk3_z
    replace z8_z : np.toInt ≤ (rg_v h 11 0).toInt + op.toInt := z8_z
    obtain ⟨kn, ekn⟩ : ∃ v, rg_v h 11 0 = v := ⟨_, rfl⟩
    rw [ekn] at nk1_z nk2_z nk3_z z8_z
    have e9_z := rt_c1 (x := kn) (by omega) (by omega)
    replace hc_z := rn_aload_n (am_cur_of (i := (0, 1, .aload_n 0, (0, 0, 0), 0)) (by decide +kernel)) g0_z hc_z
    replace hc_z := rn_getI (v := 6) (am_cur_of (i := (1, 3, .getfield 60, (4, 10, 419), 0)) (by decide +kernel)) (by decide +kernel) ka hc_z
    replace hc_z := rn_bipush (w := 6) (am_cur_of (i := (4, 2, .bipush 6, (0, 0, 0), 0)) (by decide +kernel)) (by decide) hc_z
    replace hc_z := rn_cmpF (am_cur_of (i := (6, 3, .if_icmp .ne 30, (19, 0, 0), 0)) (by decide +kernel)) (by decide) hc_z
    replace hc_z := rn_aload_n (am_cur_of (i := (9, 1, .aload_n 0, (0, 0, 0), 0)) (by decide +kernel)) g0_z hc_z
    replace hc_z := rn_getI (v := 7) (am_cur_of (i := (10, 3, .getfield 91, (4, 11, 420), 0)) (by decide +kernel)) (by decide +kernel) kb hc_z
    replace hc_z := rn_iconst (w := 5) (am_cur_of (i := (13, 1, .iconst 5, (0, 0, 0), 0)) (by decide +kernel)) (by decide) hc_z
    replace hc_z := rn_cmpT (am_cur_of (i := (14, 3, .if_icmp .ne 22, (19, 0, 0), 0)) (by decide +kernel)) (by decide) hc_z
    replace hc_z := rn_aload_n (am_cur_of (i := (36, 1, .aload_n 0, (0, 0, 0), 0)) (by decide +kernel)) g0_z hc_z
    replace hc_z := rn_bipush (w := 40) (am_cur_of (i := (37, 2, .bipush 40, (0, 0, 0), 0)) (by decide +kernel)) (by decide) hc_z
    replace hc_z := rn_callV (M' := am_m45) (o := 44) (ar := [.int 40]) (rest := []) (L := lv_args 0 [.ref 44, .int 40]) (am_cur_of (i := (39, 3, .invokevirtual 105, (45, 834, 3), 0)) (by decide +kernel)) rfl rfl rfl rfl hc_z
    obtain ⟨r1961_z, h1962_z, q1963_z, hc_z⟩ := hc_z
    obtain ⟨rfl, yq1963_z⟩ := rp_mkN (fun q => absurd (Eq.trans (Eq.symm ka) q.1) (by decide)) q1963_z
    subst yq1963_z
    replace hc_z : rn _ _ _ _ [.int 0] _ _ _ := hc_z
    replace hc_z := rn_ifT (am_cur_of (i := (42, 3, .ifCond .eq 38, (43, 0, 0), 0)) (by decide +kernel)) (by decide) hc_z
    replace hc_z := rn_aload_n (am_cur_of (i := (80, 1, .aload_n 0, (0, 0, 0), 0)) (by decide +kernel)) g0_z hc_z
    replace hc_z := rn_getI (v := 6) (am_cur_of (i := (81, 3, .getfield 60, (4, 10, 419), 0)) (by decide +kernel)) (by decide +kernel) ka hc_z
    replace hc_z := rn_iconst (w := 4) (am_cur_of (i := (84, 1, .iconst 4, (0, 0, 0), 0)) (by decide +kernel)) (by decide) hc_z
    replace hc_z := rn_cmpT (am_cur_of (i := (85, 3, .if_icmp .ne 40, (64, 0, 0), 0)) (by decide +kernel)) (by decide) hc_z
    replace hc_z := rn_aload_n (am_cur_of (i := (125, 1, .aload_n 0, (0, 0, 0), 0)) (by decide +kernel)) g0_z hc_z
    replace hc_z := rn_getI (v := 6) (am_cur_of (i := (126, 3, .getfield 60, (4, 10, 419), 0)) (by decide +kernel)) (by decide +kernel) ka hc_z
    replace hc_z := rn_iconst (w := 2) (am_cur_of (i := (129, 1, .iconst 2, (0, 0, 0), 0)) (by decide +kernel)) (by decide) hc_z
    replace hc_z := rn_cmpT (am_cur_of (i := (130, 3, .if_icmp .ne 37, (84, 0, 0), 0)) (by decide +kernel)) (by decide) hc_z
    replace hc_z := rn_aload_n (am_cur_of (i := (167, 1, .aload_n 0, (0, 0, 0), 0)) (by decide +kernel)) g0_z hc_z
    replace hc_z := rn_iconst (w := 1) (am_cur_of (i := (168, 1, .iconst 1, (0, 0, 0), 0)) (by decide +kernel)) (by decide) hc_z
    replace hc_z := rn_callV (M' := am_m29) (o := 44) (ar := [.int 1]) (rest := []) (L := lv_args 0 [.ref 44, .int 1]) (am_cur_of (i := (169, 3, .invokevirtual 108, (29, 769, 3), 0)) (by decide +kernel)) rfl rfl rfl rfl hc_z
    obtain ⟨r1964_z, h1965_z, q1966_z, hc_z⟩ := hc_z
    obtain ⟨rfl, yq1966_z⟩ := rp_fail R4 q1966_z
    subst yq1966_z
    replace hc_z : rn _ _ _ _ [] _ _ _ := hc_z
    have K := rs_stick (w := 1) (q := p) (a := 51) (by decide) (by decide) rfl (by decide) rfl (show rg_v (am_up (am_up h 44 1 (.int 1)) 44 2 (.int (rg_v h 44 9))) 44 2 = p from R5) hc_z
    replace hm_z := rn_aload_n (am_cur_of (i := (0, 1, .aload_n 0, (0, 0, 0), 0)) (by decide +kernel)) g0m hm_z
    replace hm_z := rn_bipush (w := 40) (am_cur_of (i := (1, 2, .bipush 40, (0, 0, 0), 0)) (by decide +kernel)) (by decide) hm_z
    replace hm_z := rn_callV (M' := am_m171) (o := 164) (ar := [.int 40]) (rest := []) (L := lv_args 0 [.ref 164, .int 40]) (am_cur_of (i := (3, 3, .invokevirtual 194, (171, 1715, 3), 0)) (by decide +kernel)) rfl rfl rfl rfl hm_z
    obtain ⟨r1967_z, h1968_z, q1969_z, hm_z⟩ := hm_z
    obtain ⟨rfl, yq1969_z⟩ := rp_sgN (fun q => absurd (Eq.trans (Eq.symm kc) q.1) (by decide)) q1969_z
    subst yq1969_z
    replace hm_z : rn _ _ _ _ [.int 0] _ _ _ := hm_z
    replace hm_z := rn_ifT (am_cur_of (i := (6, 3, .ifCond .eq 44, (28, 0, 0), 0)) (by decide +kernel)) (by decide) hm_z
    replace hm_z := rn_aload_n (am_cur_of (i := (50, 1, .aload_n 0, (0, 0, 0), 0)) (by decide +kernel)) g0m hm_z
    replace hm_z := rn_bipush (w := 14) (am_cur_of (i := (51, 2, .bipush 14, (0, 0, 0), 0)) (by decide +kernel)) (by decide) hm_z
    replace hm_z := rn_callV (M' := am_m174) (o := 164) (ar := [.int 14]) (rest := []) (L := lv_args 0 [.ref 164, .int 14]) (am_cur_of (i := (53, 3, .invokevirtual 306, (174, 1727, 3), 0)) (by decide +kernel)) rfl rfl rfl rfl hm_z
    obtain ⟨r1970_z, h1971_z, q1972_z, hm_z⟩ := hm_z
    obtain ⟨rfl, yq1972_z⟩ := rp_kyN (fun q => absurd (Eq.trans (Eq.symm kc) q.1) (by decide)) q1972_z
    subst yq1972_z
    replace hm_z : rn _ _ _ _ [.int 0] _ _ _ := hm_z
    replace hm_z := rn_ifT (am_cur_of (i := (56, 3, .ifCond .eq 30, (47, 0, 0), 0)) (by decide +kernel)) (by decide) hm_z
    replace hm_z := rn_aload_n (am_cur_of (i := (86, 1, .aload_n 0, (0, 0, 0), 0)) (by decide +kernel)) g0m hm_z
    replace hm_z := rn_callV (M' := am_m176) (o := 164) (ar := []) (rest := []) (L := lv_args 0 [.ref 164]) (am_cur_of (i := (87, 3, .invokevirtual 312, (176, 1735, 3), 0)) (by decide +kernel)) rfl rfl rfl rfl hm_z
    obtain ⟨r1973_z, h1974_z, q1975_z, hm_z⟩ := hm_z
    obtain ⟨rfl, yq1975_z⟩ := rp_nm (c := 5) (d := 1) kc kd q1975_z
    replace yq1975_z := yq1975_z.symm
    subst yq1975_z
    rw [show rp_nmf 5 1 = (-1) from by unfold rp_nmf; rw [if_neg (by decide)]] at hm_z
    replace hm_z : rn _ _ _ _ [.int (-1)] _ _ _ := hm_z
    replace hm_z := rn_istore_n (am_cur_of (i := (90, 1, .istore_n 1, (0, 0, 0), 0)) (by decide +kernel)) hm_z
    obtain ⟨_, s1976_z, s1977_z, g1m, hm_z⟩ := hm_z
    replace g0m := s1976_z 0 _ (by decide) rfl g0m
    clear s1976_z s1977_z
    replace hm_z := rn_iload_n (am_cur_of (i := (91, 1, .iload_n 1, (0, 0, 0), 0)) (by decide +kernel)) g1m hm_z
    replace hm_z := rn_ifF (am_cur_of (i := (92, 3, .ifCond .ge 17, (60, 0, 0), 0)) (by decide +kernel)) (by decide) hm_z
    replace hm_z := rn_aload_n (am_cur_of (i := (95, 1, .aload_n 0, (0, 0, 0), 0)) (by decide +kernel)) g0m hm_z
    replace hm_z := rn_getI (v := 5) (am_cur_of (i := (96, 3, .getfield 157, (12, 8, 1392), 0)) (by decide +kernel)) (by decide +kernel) kc hm_z
    replace hm_z := rn_iconst (w := 3) (am_cur_of (i := (99, 1, .iconst 3, (0, 0, 0), 0)) (by decide +kernel)) (by decide) hm_z
    replace hm_z := rn_cmpF (am_cur_of (i := (100, 3, .if_icmp .eq 9, (60, 0, 0), 0)) (by decide +kernel)) (by decide) hm_z
    replace hm_z := rn_aload_n (am_cur_of (i := (103, 1, .aload_n 0, (0, 0, 0), 0)) (by decide +kernel)) g0m hm_z
    replace hm_z := rn_iconst (w := 1) (am_cur_of (i := (104, 1, .iconst 1, (0, 0, 0), 0)) (by decide +kernel)) (by decide) hm_z
    replace hm_z := rn_callV (M' := am_m158) (o := 164) (ar := [.int 1]) (rest := []) (L := lv_args 0 [.ref 164, .int 1]) (am_cur_of (i := (105, 3, .invokevirtual 181, (158, 1665, 3), 0)) (by decide +kernel)) rfl rfl rfl rfl hm_z
    obtain ⟨r1978_z, h1979_z, q1980_z, hm_z⟩ := hm_z
    obtain ⟨rfl, yq1980_z⟩ := rp_wrong q1980_z
    subst yq1980_z
    replace hm_z : rn _ _ _ _ [.int 0] _ _ _ := hm_z
    replace hm_z := rn_iret (am_cur_of (i := (108, 1, .ireturn, (0, 0, 0), 0)) (by decide +kernel)) hm_z
    obtain ⟨e1981_z, e1982_z⟩ := hm_z
    subst e1981_z e1982_z
    exact (Or.inr ⟨rfl, 1, by decide, K.1, K.2, rfl, R6⟩)
  · have g0_z : am_get (lv_args 0 [.ref 44, .int 1]) 0 = some (.ref 44) := rfl
    have g1_z : am_get (lv_args 0 [.ref 44, .int 1]) 1 = some (.int 1) := rfl
    have g0m : am_get (lv_args 0 [.ref 164]) 0 = some (.ref 164) := rfl
    have Rk := R
    have Zk := Z
    obtain ⟨⟨c1_z, c2_z, c3_z, c4_z, c5_z, c6_z, c7_z, c8_z⟩, ⟨m2_z, m3_z, m4_z, m5_z, m6_z, m7_z, m8_z⟩, R3, R4, R5, R6, R7, R8, R9, R10⟩ := (R : rq T S x p 2 h g)
    obtain ⟨np, op, z1_z, z2_z, z3_z, z4_z, z5_z, z6_z, z7_z, z8_z, z9_z, z10_z⟩ := (Z : rs 2 h g)
    obtain ⟨nk1_z, nk2_z, nk3_z⟩ := A.2.2.2.2.2.1
    replace nk1_z : rg_v h 11 0 = rg_v g 164 44 := nk1_z
    replace nk2_z : 0 ≤ (rg_v h 11 0).toInt := nk2_z
    replace nk3_z : (rg_v h 11 0).toInt ≤ 64 := nk3_z
    replace z8_z : np.toInt ≤ (rg_v h 11 0).toInt + op.toInt := z8_z
    obtain ⟨kn, ekn⟩ : ∃ v, rg_v h 11 0 = v := ⟨_, rfl⟩
    rw [ekn] at nk1_z nk2_z nk3_z z8_z
    have e9_z := rt_c1 (x := kn) (by omega) (by omega)
    replace hc_z := rn_aload_n (am_cur_of (i := (0, 1, .aload_n 0, (0, 0, 0), 0)) (by decide +kernel)) g0_z hc_z
    replace hc_z := rn_getI (v := 6) (am_cur_of (i := (1, 3, .getfield 60, (4, 10, 419), 0)) (by decide +kernel)) (by decide +kernel) ka hc_z
    replace hc_z := rn_bipush (w := 6) (am_cur_of (i := (4, 2, .bipush 6, (0, 0, 0), 0)) (by decide +kernel)) (by decide) hc_z
    replace hc_z := rn_cmpF (am_cur_of (i := (6, 3, .if_icmp .ne 30, (19, 0, 0), 0)) (by decide +kernel)) (by decide) hc_z
    replace hc_z := rn_aload_n (am_cur_of (i := (9, 1, .aload_n 0, (0, 0, 0), 0)) (by decide +kernel)) g0_z hc_z
    replace hc_z := rn_getI (v := 8) (am_cur_of (i := (10, 3, .getfield 91, (4, 11, 420), 0)) (by decide +kernel)) (by decide +kernel) kb hc_z
    replace hc_z := rn_iconst (w := 5) (am_cur_of (i := (13, 1, .iconst 5, (0, 0, 0), 0)) (by decide +kernel)) (by decide) hc_z
    replace hc_z := rn_cmpT (am_cur_of (i := (14, 3, .if_icmp .ne 22, (19, 0, 0), 0)) (by decide +kernel)) (by decide) hc_z
    replace hc_z := rn_aload_n (am_cur_of (i := (36, 1, .aload_n 0, (0, 0, 0), 0)) (by decide +kernel)) g0_z hc_z
    replace hc_z := rn_bipush (w := 40) (am_cur_of (i := (37, 2, .bipush 40, (0, 0, 0), 0)) (by decide +kernel)) (by decide) hc_z
    replace hc_z := rn_callV (M' := am_m45) (o := 44) (ar := [.int 40]) (rest := []) (L := lv_args 0 [.ref 44, .int 40]) (am_cur_of (i := (39, 3, .invokevirtual 105, (45, 834, 3), 0)) (by decide +kernel)) rfl rfl rfl rfl hc_z
    obtain ⟨r1983_z, h1984_z, q1985_z, hc_z⟩ := hc_z
    obtain ⟨rfl, yq1985_z⟩ := rp_mkN (fun q => absurd (Eq.trans (Eq.symm ka) q.1) (by decide)) q1985_z
    subst yq1985_z
    replace hc_z : rn _ _ _ _ [.int 0] _ _ _ := hc_z
    replace hc_z := rn_ifT (am_cur_of (i := (42, 3, .ifCond .eq 38, (43, 0, 0), 0)) (by decide +kernel)) (by decide) hc_z
    replace hc_z := rn_aload_n (am_cur_of (i := (80, 1, .aload_n 0, (0, 0, 0), 0)) (by decide +kernel)) g0_z hc_z
    replace hc_z := rn_getI (v := 6) (am_cur_of (i := (81, 3, .getfield 60, (4, 10, 419), 0)) (by decide +kernel)) (by decide +kernel) ka hc_z
    replace hc_z := rn_iconst (w := 4) (am_cur_of (i := (84, 1, .iconst 4, (0, 0, 0), 0)) (by decide +kernel)) (by decide) hc_z
    replace hc_z := rn_cmpT (am_cur_of (i := (85, 3, .if_icmp .ne 40, (64, 0, 0), 0)) (by decide +kernel)) (by decide) hc_z
    replace hc_z := rn_aload_n (am_cur_of (i := (125, 1, .aload_n 0, (0, 0, 0), 0)) (by decide +kernel)) g0_z hc_z
    replace hc_z := rn_getI (v := 6) (am_cur_of (i := (126, 3, .getfield 60, (4, 10, 419), 0)) (by decide +kernel)) (by decide +kernel) ka hc_z
    replace hc_z := rn_iconst (w := 2) (am_cur_of (i := (129, 1, .iconst 2, (0, 0, 0), 0)) (by decide +kernel)) (by decide) hc_z
    replace hc_z := rn_cmpT (am_cur_of (i := (130, 3, .if_icmp .ne 37, (84, 0, 0), 0)) (by decide +kernel)) (by decide) hc_z
    replace hc_z := rn_aload_n (am_cur_of (i := (167, 1, .aload_n 0, (0, 0, 0), 0)) (by decide +kernel)) g0_z hc_z
    replace hc_z := rn_iconst (w := 1) (am_cur_of (i := (168, 1, .iconst 1, (0, 0, 0), 0)) (by decide +kernel)) (by decide) hc_z
    replace hc_z := rn_callV (M' := am_m29) (o := 44) (ar := [.int 1]) (rest := []) (L := lv_args 0 [.ref 44, .int 1]) (am_cur_of (i := (169, 3, .invokevirtual 108, (29, 769, 3), 0)) (by decide +kernel)) rfl rfl rfl rfl hc_z
    obtain ⟨r1986_z, h1987_z, q1988_z, hc_z⟩ := hc_z
    obtain ⟨rfl, yq1988_z⟩ := rp_fail R4 q1988_z
    subst yq1988_z
    replace hc_z : rn _ _ _ _ [] _ _ _ := hc_z
    have K := rs_stick (w := 1) (q := p) (a := 51) (by decide) (by decide) rfl (by decide) rfl (show rg_v (am_up (am_up h 44 1 (.int 1)) 44 2 (.int (rg_v h 44 9))) 44 2 = p from R5) hc_z
    replace hm_z := rn_aload_n (am_cur_of (i := (0, 1, .aload_n 0, (0, 0, 0), 0)) (by decide +kernel)) g0m hm_z
    replace hm_z := rn_bipush (w := 40) (am_cur_of (i := (1, 2, .bipush 40, (0, 0, 0), 0)) (by decide +kernel)) (by decide) hm_z
    replace hm_z := rn_callV (M' := am_m171) (o := 164) (ar := [.int 40]) (rest := []) (L := lv_args 0 [.ref 164, .int 40]) (am_cur_of (i := (3, 3, .invokevirtual 194, (171, 1715, 3), 0)) (by decide +kernel)) rfl rfl rfl rfl hm_z
    obtain ⟨r1989_z, h1990_z, q1991_z, hm_z⟩ := hm_z
    obtain ⟨rfl, yq1991_z⟩ := rp_sgN (fun q => absurd (Eq.trans (Eq.symm kc) q.1) (by decide)) q1991_z
    subst yq1991_z
    replace hm_z : rn _ _ _ _ [.int 0] _ _ _ := hm_z
    replace hm_z := rn_ifT (am_cur_of (i := (6, 3, .ifCond .eq 44, (28, 0, 0), 0)) (by decide +kernel)) (by decide) hm_z
    replace hm_z := rn_aload_n (am_cur_of (i := (50, 1, .aload_n 0, (0, 0, 0), 0)) (by decide +kernel)) g0m hm_z
    replace hm_z := rn_bipush (w := 14) (am_cur_of (i := (51, 2, .bipush 14, (0, 0, 0), 0)) (by decide +kernel)) (by decide) hm_z
    replace hm_z := rn_callV (M' := am_m174) (o := 164) (ar := [.int 14]) (rest := []) (L := lv_args 0 [.ref 164, .int 14]) (am_cur_of (i := (53, 3, .invokevirtual 306, (174, 1727, 3), 0)) (by decide +kernel)) rfl rfl rfl rfl hm_z
    obtain ⟨r1992_z, h1993_z, q1994_z, hm_z⟩ := hm_z
    obtain ⟨rfl, yq1994_z⟩ := rp_kyN (fun q => absurd (Eq.trans (Eq.symm kc) q.1) (by decide)) q1994_z
    subst yq1994_z
    replace hm_z : rn _ _ _ _ [.int 0] _ _ _ := hm_z
    replace hm_z := rn_ifT (am_cur_of (i := (56, 3, .ifCond .eq 30, (47, 0, 0), 0)) (by decide +kernel)) (by decide) hm_z
    replace hm_z := rn_aload_n (am_cur_of (i := (86, 1, .aload_n 0, (0, 0, 0), 0)) (by decide +kernel)) g0m hm_z
    replace hm_z := rn_callV (M' := am_m176) (o := 164) (ar := []) (rest := []) (L := lv_args 0 [.ref 164]) (am_cur_of (i := (87, 3, .invokevirtual 312, (176, 1735, 3), 0)) (by decide +kernel)) rfl rfl rfl rfl hm_z
    obtain ⟨r1995_z, h1996_z, q1997_z, hm_z⟩ := hm_z
    obtain ⟨rfl, yq1997_z⟩ := rp_nm (c := 5) (d := 2) kc kd q1997_z
    replace yq1997_z := yq1997_z.symm
    subst yq1997_z
    rw [show rp_nmf 5 2 = (-1) from by unfold rp_nmf; rw [if_neg (by decide)]] at hm_z
    replace hm_z : rn _ _ _ _ [.int (-1)] _ _ _ := hm_z
    replace hm_z := rn_istore_n (am_cur_of (i := (90, 1, .istore_n 1, (0, 0, 0), 0)) (by decide +kernel)) hm_z
    obtain ⟨_, s1998_z, s1999_z, g1m, hm_z⟩ := hm_z
    replace g0m := s1998_z 0 _ (by decide) rfl g0m
    clear s1998_z s1999_z
    replace hm_z := rn_iload_n (am_cur_of (i := (91, 1, .iload_n 1, (0, 0, 0), 0)) (by decide +kernel)) g1m hm_z
    replace hm_z := rn_ifF (am_cur_of (i := (92, 3, .ifCond .ge 17, (60, 0, 0), 0)) (by decide +kernel)) (by decide) hm_z
    replace hm_z := rn_aload_n (am_cur_of (i := (95, 1, .aload_n 0, (0, 0, 0), 0)) (by decide +kernel)) g0m hm_z
    replace hm_z := rn_getI (v := 5) (am_cur_of (i := (96, 3, .getfield 157, (12, 8, 1392), 0)) (by decide +kernel)) (by decide +kernel) kc hm_z
    replace hm_z := rn_iconst (w := 3) (am_cur_of (i := (99, 1, .iconst 3, (0, 0, 0), 0)) (by decide +kernel)) (by decide) hm_z
    replace hm_z := rn_cmpF (am_cur_of (i := (100, 3, .if_icmp .eq 9, (60, 0, 0), 0)) (by decide +kernel)) (by decide) hm_z
    replace hm_z := rn_aload_n (am_cur_of (i := (103, 1, .aload_n 0, (0, 0, 0), 0)) (by decide +kernel)) g0m hm_z
    replace hm_z := rn_iconst (w := 1) (am_cur_of (i := (104, 1, .iconst 1, (0, 0, 0), 0)) (by decide +kernel)) (by decide) hm_z
    replace hm_z := rn_callV (M' := am_m158) (o := 164) (ar := [.int 1]) (rest := []) (L := lv_args 0 [.ref 164, .int 1]) (am_cur_of (i := (105, 3, .invokevirtual 181, (158, 1665, 3), 0)) (by decide +kernel)) rfl rfl rfl rfl hm_z
    obtain ⟨r2000_z, h2001_z, q2002_z, hm_z⟩ := hm_z
    obtain ⟨rfl, yq2002_z⟩ := rp_wrong q2002_z
    subst yq2002_z
    replace hm_z : rn _ _ _ _ [.int 0] _ _ _ := hm_z
    replace hm_z := rn_iret (am_cur_of (i := (108, 1, .ireturn, (0, 0, 0), 0)) (by decide +kernel)) hm_z
    obtain ⟨e2003_z, e2004_z⟩ := hm_z
    subst e2003_z e2004_z
    exact (Or.inr ⟨rfl, 1, by decide, K.1, K.2, rfl, R6⟩)
  · have g0_z : am_get (lv_args 0 [.ref 44, .int 1]) 0 = some (.ref 44) := rfl
    have g1_z : am_get (lv_args 0 [.ref 44, .int 1]) 1 = some (.int 1) := rfl
    have g0m : am_get (lv_args 0 [.ref 164]) 0 = some (.ref 164) := rfl
    have Rk := R
    have Zk := Z
    obtain ⟨⟨c1_z, c2_z, c3_z, c4_z, c5_z, c6_z, c7_z, c8_z⟩, ⟨m2_z, m3_z, m4_z, m5_z, m6_z, m7_z, m8_z⟩, R3, R4, R5, R6, R7, R8, R9, R10⟩ := (R : rq T S x p 2 h g)
    obtain ⟨np, op, z1_z, z2_z, z3_z, z4_z, z5_z, z6_z, z7_z, z8_z, z9_z, z10_z⟩ := (Z : rs 2 h g)
    obtain ⟨nk1_z, nk2_z, nk3_z⟩ := A.2.2.2.2.2.1
    replace nk1_z : rg_v h 11 0 = rg_v g 164 44 := nk1_z
    replace nk2_z : 0 ≤ (rg_v h 11 0).toInt := nk2_z
    replace nk3_z : (rg_v h 11 0).toInt ≤ 64 := nk3_z
    replace z8_z : np.toInt ≤ (rg_v h 11 0).toInt + op.toInt := z8_z
    obtain ⟨kn, ekn⟩ : ∃ v, rg_v h 11 0 = v := ⟨_, rfl⟩
    rw [ekn] at nk1_z nk2_z nk3_z z8_z
    have e9_z := rt_c1 (x := kn) (by omega) (by omega)
    replace hc_z := rn_aload_n (am_cur_of (i := (0, 1, .aload_n 0, (0, 0, 0), 0)) (by decide +kernel)) g0_z hc_z
    replace hc_z := rn_getI (v := 6) (am_cur_of (i := (1, 3, .getfield 60, (4, 10, 419), 0)) (by decide +kernel)) (by decide +kernel) ka hc_z
    replace hc_z := rn_bipush (w := 6) (am_cur_of (i := (4, 2, .bipush 6, (0, 0, 0), 0)) (by decide +kernel)) (by decide) hc_z
    replace hc_z := rn_cmpF (am_cur_of (i := (6, 3, .if_icmp .ne 30, (19, 0, 0), 0)) (by decide +kernel)) (by decide) hc_z
    replace hc_z := rn_aload_n (am_cur_of (i := (9, 1, .aload_n 0, (0, 0, 0), 0)) (by decide +kernel)) g0_z hc_z
    replace hc_z := rn_getI (v := 9) (am_cur_of (i := (10, 3, .getfield 91, (4, 11, 420), 0)) (by decide +kernel)) (by decide +kernel) kb hc_z
    replace hc_z := rn_iconst (w := 5) (am_cur_of (i := (13, 1, .iconst 5, (0, 0, 0), 0)) (by decide +kernel)) (by decide) hc_z
    replace hc_z := rn_cmpT (am_cur_of (i := (14, 3, .if_icmp .ne 22, (19, 0, 0), 0)) (by decide +kernel)) (by decide) hc_z
    replace hc_z := rn_aload_n (am_cur_of (i := (36, 1, .aload_n 0, (0, 0, 0), 0)) (by decide +kernel)) g0_z hc_z
    replace hc_z := rn_bipush (w := 40) (am_cur_of (i := (37, 2, .bipush 40, (0, 0, 0), 0)) (by decide +kernel)) (by decide) hc_z
    replace hc_z := rn_callV (M' := am_m45) (o := 44) (ar := [.int 40]) (rest := []) (L := lv_args 0 [.ref 44, .int 40]) (am_cur_of (i := (39, 3, .invokevirtual 105, (45, 834, 3), 0)) (by decide +kernel)) rfl rfl rfl rfl hc_z
    obtain ⟨r2005_z, h2006_z, q2007_z, hc_z⟩ := hc_z
    obtain ⟨rfl, yq2007_z⟩ := rp_mkN (fun q => absurd (Eq.trans (Eq.symm ka) q.1) (by decide)) q2007_z
    subst yq2007_z
    replace hc_z : rn _ _ _ _ [.int 0] _ _ _ := hc_z
    replace hc_z := rn_ifT (am_cur_of (i := (42, 3, .ifCond .eq 38, (43, 0, 0), 0)) (by decide +kernel)) (by decide) hc_z
    replace hc_z := rn_aload_n (am_cur_of (i := (80, 1, .aload_n 0, (0, 0, 0), 0)) (by decide +kernel)) g0_z hc_z
    replace hc_z := rn_getI (v := 6) (am_cur_of (i := (81, 3, .getfield 60, (4, 10, 419), 0)) (by decide +kernel)) (by decide +kernel) ka hc_z
    replace hc_z := rn_iconst (w := 4) (am_cur_of (i := (84, 1, .iconst 4, (0, 0, 0), 0)) (by decide +kernel)) (by decide) hc_z
    replace hc_z := rn_cmpT (am_cur_of (i := (85, 3, .if_icmp .ne 40, (64, 0, 0), 0)) (by decide +kernel)) (by decide) hc_z
    replace hc_z := rn_aload_n (am_cur_of (i := (125, 1, .aload_n 0, (0, 0, 0), 0)) (by decide +kernel)) g0_z hc_z
    replace hc_z := rn_getI (v := 6) (am_cur_of (i := (126, 3, .getfield 60, (4, 10, 419), 0)) (by decide +kernel)) (by decide +kernel) ka hc_z
    replace hc_z := rn_iconst (w := 2) (am_cur_of (i := (129, 1, .iconst 2, (0, 0, 0), 0)) (by decide +kernel)) (by decide) hc_z
    replace hc_z := rn_cmpT (am_cur_of (i := (130, 3, .if_icmp .ne 37, (84, 0, 0), 0)) (by decide +kernel)) (by decide) hc_z
    replace hc_z := rn_aload_n (am_cur_of (i := (167, 1, .aload_n 0, (0, 0, 0), 0)) (by decide +kernel)) g0_z hc_z
    replace hc_z := rn_iconst (w := 1) (am_cur_of (i := (168, 1, .iconst 1, (0, 0, 0), 0)) (by decide +kernel)) (by decide) hc_z
    replace hc_z := rn_callV (M' := am_m29) (o := 44) (ar := [.int 1]) (rest := []) (L := lv_args 0 [.ref 44, .int 1]) (am_cur_of (i := (169, 3, .invokevirtual 108, (29, 769, 3), 0)) (by decide +kernel)) rfl rfl rfl rfl hc_z
    obtain ⟨r2008_z, h2009_z, q2010_z, hc_z⟩ := hc_z
    obtain ⟨rfl, yq2010_z⟩ := rp_fail R4 q2010_z
    subst yq2010_z
    replace hc_z : rn _ _ _ _ [] _ _ _ := hc_z
    have K := rs_stick (w := 1) (q := p) (a := 51) (by decide) (by decide) rfl (by decide) rfl (show rg_v (am_up (am_up h 44 1 (.int 1)) 44 2 (.int (rg_v h 44 9))) 44 2 = p from R5) hc_z
    replace hm_z := rn_aload_n (am_cur_of (i := (0, 1, .aload_n 0, (0, 0, 0), 0)) (by decide +kernel)) g0m hm_z
    replace hm_z := rn_bipush (w := 40) (am_cur_of (i := (1, 2, .bipush 40, (0, 0, 0), 0)) (by decide +kernel)) (by decide) hm_z
    replace hm_z := rn_callV (M' := am_m171) (o := 164) (ar := [.int 40]) (rest := []) (L := lv_args 0 [.ref 164, .int 40]) (am_cur_of (i := (3, 3, .invokevirtual 194, (171, 1715, 3), 0)) (by decide +kernel)) rfl rfl rfl rfl hm_z
    obtain ⟨r2011_z, h2012_z, q2013_z, hm_z⟩ := hm_z
    obtain ⟨rfl, yq2013_z⟩ := rp_sgN (fun q => absurd (Eq.trans (Eq.symm kc) q.1) (by decide)) q2013_z
    subst yq2013_z
    replace hm_z : rn _ _ _ _ [.int 0] _ _ _ := hm_z
    replace hm_z := rn_ifT (am_cur_of (i := (6, 3, .ifCond .eq 44, (28, 0, 0), 0)) (by decide +kernel)) (by decide) hm_z
    replace hm_z := rn_aload_n (am_cur_of (i := (50, 1, .aload_n 0, (0, 0, 0), 0)) (by decide +kernel)) g0m hm_z
    replace hm_z := rn_bipush (w := 14) (am_cur_of (i := (51, 2, .bipush 14, (0, 0, 0), 0)) (by decide +kernel)) (by decide) hm_z
    replace hm_z := rn_callV (M' := am_m174) (o := 164) (ar := [.int 14]) (rest := []) (L := lv_args 0 [.ref 164, .int 14]) (am_cur_of (i := (53, 3, .invokevirtual 306, (174, 1727, 3), 0)) (by decide +kernel)) rfl rfl rfl rfl hm_z
    obtain ⟨r2014_z, h2015_z, q2016_z, hm_z⟩ := hm_z
    obtain ⟨rfl, yq2016_z⟩ := rp_kyN (fun q => absurd (Eq.trans (Eq.symm kc) q.1) (by decide)) q2016_z
    subst yq2016_z
    replace hm_z : rn _ _ _ _ [.int 0] _ _ _ := hm_z
    replace hm_z := rn_ifT (am_cur_of (i := (56, 3, .ifCond .eq 30, (47, 0, 0), 0)) (by decide +kernel)) (by decide) hm_z
    replace hm_z := rn_aload_n (am_cur_of (i := (86, 1, .aload_n 0, (0, 0, 0), 0)) (by decide +kernel)) g0m hm_z
    replace hm_z := rn_callV (M' := am_m176) (o := 164) (ar := []) (rest := []) (L := lv_args 0 [.ref 164]) (am_cur_of (i := (87, 3, .invokevirtual 312, (176, 1735, 3), 0)) (by decide +kernel)) rfl rfl rfl rfl hm_z
    obtain ⟨r2017_z, h2018_z, q2019_z, hm_z⟩ := hm_z
    obtain ⟨rfl, yq2019_z⟩ := rp_nm (c := 5) (d := 3) kc kd q2019_z
    replace yq2019_z := yq2019_z.symm
    subst yq2019_z
    rw [show rp_nmf 5 3 = (-1) from by unfold rp_nmf; rw [if_neg (by decide)]] at hm_z
    replace hm_z : rn _ _ _ _ [.int (-1)] _ _ _ := hm_z
    replace hm_z := rn_istore_n (am_cur_of (i := (90, 1, .istore_n 1, (0, 0, 0), 0)) (by decide +kernel)) hm_z
    obtain ⟨_, s2020_z, s2021_z, g1m, hm_z⟩ := hm_z
    replace g0m := s2020_z 0 _ (by decide) rfl g0m
    clear s2020_z s2021_z
    replace hm_z := rn_iload_n (am_cur_of (i := (91, 1, .iload_n 1, (0, 0, 0), 0)) (by decide +kernel)) g1m hm_z
    replace hm_z := rn_ifF (am_cur_of (i := (92, 3, .ifCond .ge 17, (60, 0, 0), 0)) (by decide +kernel)) (by decide) hm_z
    replace hm_z := rn_aload_n (am_cur_of (i := (95, 1, .aload_n 0, (0, 0, 0), 0)) (by decide +kernel)) g0m hm_z
    replace hm_z := rn_getI (v := 5) (am_cur_of (i := (96, 3, .getfield 157, (12, 8, 1392), 0)) (by decide +kernel)) (by decide +kernel) kc hm_z
    replace hm_z := rn_iconst (w := 3) (am_cur_of (i := (99, 1, .iconst 3, (0, 0, 0), 0)) (by decide +kernel)) (by decide) hm_z
    replace hm_z := rn_cmpF (am_cur_of (i := (100, 3, .if_icmp .eq 9, (60, 0, 0), 0)) (by decide +kernel)) (by decide) hm_z
    replace hm_z := rn_aload_n (am_cur_of (i := (103, 1, .aload_n 0, (0, 0, 0), 0)) (by decide +kernel)) g0m hm_z
    replace hm_z := rn_iconst (w := 1) (am_cur_of (i := (104, 1, .iconst 1, (0, 0, 0), 0)) (by decide +kernel)) (by decide) hm_z
    replace hm_z := rn_callV (M' := am_m158) (o := 164) (ar := [.int 1]) (rest := []) (L := lv_args 0 [.ref 164, .int 1]) (am_cur_of (i := (105, 3, .invokevirtual 181, (158, 1665, 3), 0)) (by decide +kernel)) rfl rfl rfl rfl hm_z
    obtain ⟨r2022_z, h2023_z, q2024_z, hm_z⟩ := hm_z
    obtain ⟨rfl, yq2024_z⟩ := rp_wrong q2024_z
    subst yq2024_z
    replace hm_z : rn _ _ _ _ [.int 0] _ _ _ := hm_z
    replace hm_z := rn_iret (am_cur_of (i := (108, 1, .ireturn, (0, 0, 0), 0)) (by decide +kernel)) hm_z
    obtain ⟨e2025_z, e2026_z⟩ := hm_z
    subst e2025_z e2026_z
    exact (Or.inr ⟨rfl, 1, by decide, K.1, K.2, rfl, R6⟩)
  · have g0_z : am_get (lv_args 0 [.ref 44, .int 1]) 0 = some (.ref 44) := rfl
    have g1_z : am_get (lv_args 0 [.ref 44, .int 1]) 1 = some (.int 1) := rfl
    have g0m : am_get (lv_args 0 [.ref 164]) 0 = some (.ref 164) := rfl
    have Rk := R
    have Zk := Z
    obtain ⟨⟨c1_z, c2_z, c3_z, c4_z, c5_z, c6_z, c7_z, c8_z⟩, ⟨m2_z, m3_z, m4_z, m5_z, m6_z, m7_z, m8_z⟩, R3, R4, R5, R6, R7, R8, R9, R10⟩ := (R : rq T S x p 2 h g)
    obtain ⟨np, op, z1_z, z2_z, z3_z, z4_z, z5_z, z6_z, z7_z, z8_z, z9_z, z10_z⟩ := (Z : rs 2 h g)
    obtain ⟨nk1_z, nk2_z, nk3_z⟩ := A.2.2.2.2.2.1
    replace nk1_z : rg_v h 11 0 = rg_v g 164 44 := nk1_z
    replace nk2_z : 0 ≤ (rg_v h 11 0).toInt := nk2_z
    replace nk3_z : (rg_v h 11 0).toInt ≤ 64 := nk3_z
    replace z8_z : np.toInt ≤ (rg_v h 11 0).toInt + op.toInt := z8_z
    obtain ⟨kn, ekn⟩ : ∃ v, rg_v h 11 0 = v := ⟨_, rfl⟩
    rw [ekn] at nk1_z nk2_z nk3_z z8_z
    have e9_z := rt_c1 (x := kn) (by omega) (by omega)
    replace hc_z := rn_aload_n (am_cur_of (i := (0, 1, .aload_n 0, (0, 0, 0), 0)) (by decide +kernel)) g0_z hc_z
    replace hc_z := rn_getI (v := 6) (am_cur_of (i := (1, 3, .getfield 60, (4, 10, 419), 0)) (by decide +kernel)) (by decide +kernel) ka hc_z
    replace hc_z := rn_bipush (w := 6) (am_cur_of (i := (4, 2, .bipush 6, (0, 0, 0), 0)) (by decide +kernel)) (by decide) hc_z
    replace hc_z := rn_cmpF (am_cur_of (i := (6, 3, .if_icmp .ne 30, (19, 0, 0), 0)) (by decide +kernel)) (by decide) hc_z
    replace hc_z := rn_aload_n (am_cur_of (i := (9, 1, .aload_n 0, (0, 0, 0), 0)) (by decide +kernel)) g0_z hc_z
    replace hc_z := rn_getI (v := 10) (am_cur_of (i := (10, 3, .getfield 91, (4, 11, 420), 0)) (by decide +kernel)) (by decide +kernel) kb hc_z
    replace hc_z := rn_iconst (w := 5) (am_cur_of (i := (13, 1, .iconst 5, (0, 0, 0), 0)) (by decide +kernel)) (by decide) hc_z
    replace hc_z := rn_cmpT (am_cur_of (i := (14, 3, .if_icmp .ne 22, (19, 0, 0), 0)) (by decide +kernel)) (by decide) hc_z
    replace hc_z := rn_aload_n (am_cur_of (i := (36, 1, .aload_n 0, (0, 0, 0), 0)) (by decide +kernel)) g0_z hc_z
    replace hc_z := rn_bipush (w := 40) (am_cur_of (i := (37, 2, .bipush 40, (0, 0, 0), 0)) (by decide +kernel)) (by decide) hc_z
    replace hc_z := rn_callV (M' := am_m45) (o := 44) (ar := [.int 40]) (rest := []) (L := lv_args 0 [.ref 44, .int 40]) (am_cur_of (i := (39, 3, .invokevirtual 105, (45, 834, 3), 0)) (by decide +kernel)) rfl rfl rfl rfl hc_z
    obtain ⟨r2027_z, h2028_z, q2029_z, hc_z⟩ := hc_z
    obtain ⟨rfl, yq2029_z⟩ := rp_mkN (fun q => absurd (Eq.trans (Eq.symm ka) q.1) (by decide)) q2029_z
    subst yq2029_z
    replace hc_z : rn _ _ _ _ [.int 0] _ _ _ := hc_z
    replace hc_z := rn_ifT (am_cur_of (i := (42, 3, .ifCond .eq 38, (43, 0, 0), 0)) (by decide +kernel)) (by decide) hc_z
    replace hc_z := rn_aload_n (am_cur_of (i := (80, 1, .aload_n 0, (0, 0, 0), 0)) (by decide +kernel)) g0_z hc_z
    replace hc_z := rn_getI (v := 6) (am_cur_of (i := (81, 3, .getfield 60, (4, 10, 419), 0)) (by decide +kernel)) (by decide +kernel) ka hc_z
    replace hc_z := rn_iconst (w := 4) (am_cur_of (i := (84, 1, .iconst 4, (0, 0, 0), 0)) (by decide +kernel)) (by decide) hc_z
    replace hc_z := rn_cmpT (am_cur_of (i := (85, 3, .if_icmp .ne 40, (64, 0, 0), 0)) (by decide +kernel)) (by decide) hc_z
    replace hc_z := rn_aload_n (am_cur_of (i := (125, 1, .aload_n 0, (0, 0, 0), 0)) (by decide +kernel)) g0_z hc_z
    replace hc_z := rn_getI (v := 6) (am_cur_of (i := (126, 3, .getfield 60, (4, 10, 419), 0)) (by decide +kernel)) (by decide +kernel) ka hc_z
    replace hc_z := rn_iconst (w := 2) (am_cur_of (i := (129, 1, .iconst 2, (0, 0, 0), 0)) (by decide +kernel)) (by decide) hc_z
    replace hc_z := rn_cmpT (am_cur_of (i := (130, 3, .if_icmp .ne 37, (84, 0, 0), 0)) (by decide +kernel)) (by decide) hc_z
    replace hc_z := rn_aload_n (am_cur_of (i := (167, 1, .aload_n 0, (0, 0, 0), 0)) (by decide +kernel)) g0_z hc_z
    replace hc_z := rn_iconst (w := 1) (am_cur_of (i := (168, 1, .iconst 1, (0, 0, 0), 0)) (by decide +kernel)) (by decide) hc_z
    replace hc_z := rn_callV (M' := am_m29) (o := 44) (ar := [.int 1]) (rest := []) (L := lv_args 0 [.ref 44, .int 1]) (am_cur_of (i := (169, 3, .invokevirtual 108, (29, 769, 3), 0)) (by decide +kernel)) rfl rfl rfl rfl hc_z
    obtain ⟨r2030_z, h2031_z, q2032_z, hc_z⟩ := hc_z
    obtain ⟨rfl, yq2032_z⟩ := rp_fail R4 q2032_z
    subst yq2032_z
    replace hc_z : rn _ _ _ _ [] _ _ _ := hc_z
    have K := rs_stick (w := 1) (q := p) (a := 51) (by decide) (by decide) rfl (by decide) rfl (show rg_v (am_up (am_up h 44 1 (.int 1)) 44 2 (.int (rg_v h 44 9))) 44 2 = p from R5) hc_z
    replace hm_z := rn_aload_n (am_cur_of (i := (0, 1, .aload_n 0, (0, 0, 0), 0)) (by decide +kernel)) g0m hm_z
    replace hm_z := rn_bipush (w := 40) (am_cur_of (i := (1, 2, .bipush 40, (0, 0, 0), 0)) (by decide +kernel)) (by decide) hm_z
    replace hm_z := rn_callV (M' := am_m171) (o := 164) (ar := [.int 40]) (rest := []) (L := lv_args 0 [.ref 164, .int 40]) (am_cur_of (i := (3, 3, .invokevirtual 194, (171, 1715, 3), 0)) (by decide +kernel)) rfl rfl rfl rfl hm_z
    obtain ⟨r2033_z, h2034_z, q2035_z, hm_z⟩ := hm_z
    obtain ⟨rfl, yq2035_z⟩ := rp_sgN (fun q => absurd (Eq.trans (Eq.symm kc) q.1) (by decide)) q2035_z
    subst yq2035_z
    replace hm_z : rn _ _ _ _ [.int 0] _ _ _ := hm_z
    replace hm_z := rn_ifT (am_cur_of (i := (6, 3, .ifCond .eq 44, (28, 0, 0), 0)) (by decide +kernel)) (by decide) hm_z
    replace hm_z := rn_aload_n (am_cur_of (i := (50, 1, .aload_n 0, (0, 0, 0), 0)) (by decide +kernel)) g0m hm_z
    replace hm_z := rn_bipush (w := 14) (am_cur_of (i := (51, 2, .bipush 14, (0, 0, 0), 0)) (by decide +kernel)) (by decide) hm_z
    replace hm_z := rn_callV (M' := am_m174) (o := 164) (ar := [.int 14]) (rest := []) (L := lv_args 0 [.ref 164, .int 14]) (am_cur_of (i := (53, 3, .invokevirtual 306, (174, 1727, 3), 0)) (by decide +kernel)) rfl rfl rfl rfl hm_z
    obtain ⟨r2036_z, h2037_z, q2038_z, hm_z⟩ := hm_z
    obtain ⟨rfl, yq2038_z⟩ := rp_kyN (fun q => absurd (Eq.trans (Eq.symm kc) q.1) (by decide)) q2038_z
    subst yq2038_z
    replace hm_z : rn _ _ _ _ [.int 0] _ _ _ := hm_z
    replace hm_z := rn_ifT (am_cur_of (i := (56, 3, .ifCond .eq 30, (47, 0, 0), 0)) (by decide +kernel)) (by decide) hm_z
    replace hm_z := rn_aload_n (am_cur_of (i := (86, 1, .aload_n 0, (0, 0, 0), 0)) (by decide +kernel)) g0m hm_z
    replace hm_z := rn_callV (M' := am_m176) (o := 164) (ar := []) (rest := []) (L := lv_args 0 [.ref 164]) (am_cur_of (i := (87, 3, .invokevirtual 312, (176, 1735, 3), 0)) (by decide +kernel)) rfl rfl rfl rfl hm_z
    obtain ⟨r2039_z, h2040_z, q2041_z, hm_z⟩ := hm_z
    obtain ⟨rfl, yq2041_z⟩ := rp_nm (c := 5) (d := 4) kc kd q2041_z
    replace yq2041_z := yq2041_z.symm
    subst yq2041_z
    rw [show rp_nmf 5 4 = (-1) from by unfold rp_nmf; rw [if_neg (by decide)]] at hm_z
    replace hm_z : rn _ _ _ _ [.int (-1)] _ _ _ := hm_z
    replace hm_z := rn_istore_n (am_cur_of (i := (90, 1, .istore_n 1, (0, 0, 0), 0)) (by decide +kernel)) hm_z
    obtain ⟨_, s2042_z, s2043_z, g1m, hm_z⟩ := hm_z
    replace g0m := s2042_z 0 _ (by decide) rfl g0m
    clear s2042_z s2043_z
    replace hm_z := rn_iload_n (am_cur_of (i := (91, 1, .iload_n 1, (0, 0, 0), 0)) (by decide +kernel)) g1m hm_z
    replace hm_z := rn_ifF (am_cur_of (i := (92, 3, .ifCond .ge 17, (60, 0, 0), 0)) (by decide +kernel)) (by decide) hm_z
    replace hm_z := rn_aload_n (am_cur_of (i := (95, 1, .aload_n 0, (0, 0, 0), 0)) (by decide +kernel)) g0m hm_z
    replace hm_z := rn_getI (v := 5) (am_cur_of (i := (96, 3, .getfield 157, (12, 8, 1392), 0)) (by decide +kernel)) (by decide +kernel) kc hm_z
    replace hm_z := rn_iconst (w := 3) (am_cur_of (i := (99, 1, .iconst 3, (0, 0, 0), 0)) (by decide +kernel)) (by decide) hm_z
    replace hm_z := rn_cmpF (am_cur_of (i := (100, 3, .if_icmp .eq 9, (60, 0, 0), 0)) (by decide +kernel)) (by decide) hm_z
    replace hm_z := rn_aload_n (am_cur_of (i := (103, 1, .aload_n 0, (0, 0, 0), 0)) (by decide +kernel)) g0m hm_z
    replace hm_z := rn_iconst (w := 1) (am_cur_of (i := (104, 1, .iconst 1, (0, 0, 0), 0)) (by decide +kernel)) (by decide) hm_z
    replace hm_z := rn_callV (M' := am_m158) (o := 164) (ar := [.int 1]) (rest := []) (L := lv_args 0 [.ref 164, .int 1]) (am_cur_of (i := (105, 3, .invokevirtual 181, (158, 1665, 3), 0)) (by decide +kernel)) rfl rfl rfl rfl hm_z
    obtain ⟨r2044_z, h2045_z, q2046_z, hm_z⟩ := hm_z
    obtain ⟨rfl, yq2046_z⟩ := rp_wrong q2046_z
    subst yq2046_z
    replace hm_z : rn _ _ _ _ [.int 0] _ _ _ := hm_z
    replace hm_z := rn_iret (am_cur_of (i := (108, 1, .ireturn, (0, 0, 0), 0)) (by decide +kernel)) hm_z
    obtain ⟨e2047_z, e2048_z⟩ := hm_z
    subst e2047_z e2048_z
    exact (Or.inr ⟨rfl, 1, by decide, K.1, K.2, rfl, R6⟩)
  · have g0_z : am_get (lv_args 0 [.ref 44, .int 1]) 0 = some (.ref 44) := rfl
    have g1_z : am_get (lv_args 0 [.ref 44, .int 1]) 1 = some (.int 1) := rfl
    have g0m : am_get (lv_args 0 [.ref 164]) 0 = some (.ref 164) := rfl
    have Rk := R
    have Zk := Z
    obtain ⟨⟨c1_z, c2_z, c3_z, c4_z, c5_z, c6_z, c7_z, c8_z⟩, ⟨m2_z, m3_z, m4_z, m5_z, m6_z, m7_z, m8_z⟩, R3, R4, R5, R6, R7, R8, R9, R10⟩ := (R : rq T S x p 2 h g)
    obtain ⟨np, op, z1_z, z2_z, z3_z, z4_z, z5_z, z6_z, z7_z, z8_z, z9_z, z10_z⟩ := (Z : rs 2 h g)
    obtain ⟨nk1_z, nk2_z, nk3_z⟩ := A.2.2.2.2.2.1
    replace nk1_z : rg_v h 11 0 = rg_v g 164 44 := nk1_z
    replace nk2_z : 0 ≤ (rg_v h 11 0).toInt := nk2_z
    replace nk3_z : (rg_v h 11 0).toInt ≤ 64 := nk3_z
    replace z8_z : np.toInt ≤ (rg_v h 11 0).toInt + op.toInt := z8_z
    obtain ⟨kn, ekn⟩ : ∃ v, rg_v h 11 0 = v := ⟨_, rfl⟩
    rw [ekn] at nk1_z nk2_z nk3_z z8_z
    have e9_z := rt_c1 (x := kn) (by omega) (by omega)
    replace hc_z := rn_aload_n (am_cur_of (i := (0, 1, .aload_n 0, (0, 0, 0), 0)) (by decide +kernel)) g0_z hc_z
    replace hc_z := rn_getI (v := 6) (am_cur_of (i := (1, 3, .getfield 60, (4, 10, 419), 0)) (by decide +kernel)) (by decide +kernel) ka hc_z
    replace hc_z := rn_bipush (w := 6) (am_cur_of (i := (4, 2, .bipush 6, (0, 0, 0), 0)) (by decide +kernel)) (by decide) hc_z
    replace hc_z := rn_cmpF (am_cur_of (i := (6, 3, .if_icmp .ne 30, (19, 0, 0), 0)) (by decide +kernel)) (by decide) hc_z
    replace hc_z := rn_aload_n (am_cur_of (i := (9, 1, .aload_n 0, (0, 0, 0), 0)) (by decide +kernel)) g0_z hc_z
    replace hc_z := rn_getI (v := 11) (am_cur_of (i := (10, 3, .getfield 91, (4, 11, 420), 0)) (by decide +kernel)) (by decide +kernel) kb hc_z
    replace hc_z := rn_iconst (w := 5) (am_cur_of (i := (13, 1, .iconst 5, (0, 0, 0), 0)) (by decide +kernel)) (by decide) hc_z
    replace hc_z := rn_cmpT (am_cur_of (i := (14, 3, .if_icmp .ne 22, (19, 0, 0), 0)) (by decide +kernel)) (by decide) hc_z
    replace hc_z := rn_aload_n (am_cur_of (i := (36, 1, .aload_n 0, (0, 0, 0), 0)) (by decide +kernel)) g0_z hc_z
    replace hc_z := rn_bipush (w := 40) (am_cur_of (i := (37, 2, .bipush 40, (0, 0, 0), 0)) (by decide +kernel)) (by decide) hc_z
    replace hc_z := rn_callV (M' := am_m45) (o := 44) (ar := [.int 40]) (rest := []) (L := lv_args 0 [.ref 44, .int 40]) (am_cur_of (i := (39, 3, .invokevirtual 105, (45, 834, 3), 0)) (by decide +kernel)) rfl rfl rfl rfl hc_z
    obtain ⟨r2049_z, h2050_z, q2051_z, hc_z⟩ := hc_z
    obtain ⟨rfl, yq2051_z⟩ := rp_mkN (fun q => absurd (Eq.trans (Eq.symm ka) q.1) (by decide)) q2051_z
    subst yq2051_z
    replace hc_z : rn _ _ _ _ [.int 0] _ _ _ := hc_z
    replace hc_z := rn_ifT (am_cur_of (i := (42, 3, .ifCond .eq 38, (43, 0, 0), 0)) (by decide +kernel)) (by decide) hc_z
    replace hc_z := rn_aload_n (am_cur_of (i := (80, 1, .aload_n 0, (0, 0, 0), 0)) (by decide +kernel)) g0_z hc_z
    replace hc_z := rn_getI (v := 6) (am_cur_of (i := (81, 3, .getfield 60, (4, 10, 419), 0)) (by decide +kernel)) (by decide +kernel) ka hc_z
    replace hc_z := rn_iconst (w := 4) (am_cur_of (i := (84, 1, .iconst 4, (0, 0, 0), 0)) (by decide +kernel)) (by decide) hc_z
    replace hc_z := rn_cmpT (am_cur_of (i := (85, 3, .if_icmp .ne 40, (64, 0, 0), 0)) (by decide +kernel)) (by decide) hc_z
    replace hc_z := rn_aload_n (am_cur_of (i := (125, 1, .aload_n 0, (0, 0, 0), 0)) (by decide +kernel)) g0_z hc_z
    replace hc_z := rn_getI (v := 6) (am_cur_of (i := (126, 3, .getfield 60, (4, 10, 419), 0)) (by decide +kernel)) (by decide +kernel) ka hc_z
    replace hc_z := rn_iconst (w := 2) (am_cur_of (i := (129, 1, .iconst 2, (0, 0, 0), 0)) (by decide +kernel)) (by decide) hc_z
    replace hc_z := rn_cmpT (am_cur_of (i := (130, 3, .if_icmp .ne 37, (84, 0, 0), 0)) (by decide +kernel)) (by decide) hc_z
    replace hc_z := rn_aload_n (am_cur_of (i := (167, 1, .aload_n 0, (0, 0, 0), 0)) (by decide +kernel)) g0_z hc_z
    replace hc_z := rn_iconst (w := 1) (am_cur_of (i := (168, 1, .iconst 1, (0, 0, 0), 0)) (by decide +kernel)) (by decide) hc_z
    replace hc_z := rn_callV (M' := am_m29) (o := 44) (ar := [.int 1]) (rest := []) (L := lv_args 0 [.ref 44, .int 1]) (am_cur_of (i := (169, 3, .invokevirtual 108, (29, 769, 3), 0)) (by decide +kernel)) rfl rfl rfl rfl hc_z
    obtain ⟨r2052_z, h2053_z, q2054_z, hc_z⟩ := hc_z
    obtain ⟨rfl, yq2054_z⟩ := rp_fail R4 q2054_z
    subst yq2054_z
    replace hc_z : rn _ _ _ _ [] _ _ _ := hc_z
    have K := rs_stick (w := 1) (q := p) (a := 51) (by decide) (by decide) rfl (by decide) rfl (show rg_v (am_up (am_up h 44 1 (.int 1)) 44 2 (.int (rg_v h 44 9))) 44 2 = p from R5) hc_z
    replace hm_z := rn_aload_n (am_cur_of (i := (0, 1, .aload_n 0, (0, 0, 0), 0)) (by decide +kernel)) g0m hm_z
    replace hm_z := rn_bipush (w := 40) (am_cur_of (i := (1, 2, .bipush 40, (0, 0, 0), 0)) (by decide +kernel)) (by decide) hm_z
    replace hm_z := rn_callV (M' := am_m171) (o := 164) (ar := [.int 40]) (rest := []) (L := lv_args 0 [.ref 164, .int 40]) (am_cur_of (i := (3, 3, .invokevirtual 194, (171, 1715, 3), 0)) (by decide +kernel)) rfl rfl rfl rfl hm_z
    obtain ⟨r2055_z, h2056_z, q2057_z, hm_z⟩ := hm_z
    obtain ⟨rfl, yq2057_z⟩ := rp_sgN (fun q => absurd (Eq.trans (Eq.symm kc) q.1) (by decide)) q2057_z
    subst yq2057_z
    replace hm_z : rn _ _ _ _ [.int 0] _ _ _ := hm_z
    replace hm_z := rn_ifT (am_cur_of (i := (6, 3, .ifCond .eq 44, (28, 0, 0), 0)) (by decide +kernel)) (by decide) hm_z
    replace hm_z := rn_aload_n (am_cur_of (i := (50, 1, .aload_n 0, (0, 0, 0), 0)) (by decide +kernel)) g0m hm_z
    replace hm_z := rn_bipush (w := 14) (am_cur_of (i := (51, 2, .bipush 14, (0, 0, 0), 0)) (by decide +kernel)) (by decide) hm_z
    replace hm_z := rn_callV (M' := am_m174) (o := 164) (ar := [.int 14]) (rest := []) (L := lv_args 0 [.ref 164, .int 14]) (am_cur_of (i := (53, 3, .invokevirtual 306, (174, 1727, 3), 0)) (by decide +kernel)) rfl rfl rfl rfl hm_z
    obtain ⟨r2058_z, h2059_z, q2060_z, hm_z⟩ := hm_z
    obtain ⟨rfl, yq2060_z⟩ := rp_kyN (fun q => absurd (Eq.trans (Eq.symm kc) q.1) (by decide)) q2060_z
    subst yq2060_z
    replace hm_z : rn _ _ _ _ [.int 0] _ _ _ := hm_z
    replace hm_z := rn_ifT (am_cur_of (i := (56, 3, .ifCond .eq 30, (47, 0, 0), 0)) (by decide +kernel)) (by decide) hm_z
    replace hm_z := rn_aload_n (am_cur_of (i := (86, 1, .aload_n 0, (0, 0, 0), 0)) (by decide +kernel)) g0m hm_z
    replace hm_z := rn_callV (M' := am_m176) (o := 164) (ar := []) (rest := []) (L := lv_args 0 [.ref 164]) (am_cur_of (i := (87, 3, .invokevirtual 312, (176, 1735, 3), 0)) (by decide +kernel)) rfl rfl rfl rfl hm_z
    obtain ⟨r2061_z, h2062_z, q2063_z, hm_z⟩ := hm_z
    obtain ⟨rfl, yq2063_z⟩ := rp_nm (c := 5) (d := 5) kc kd q2063_z
    replace yq2063_z := yq2063_z.symm
    subst yq2063_z
    rw [show rp_nmf 5 5 = (-1) from by unfold rp_nmf; rw [if_neg (by decide)]] at hm_z
    replace hm_z : rn _ _ _ _ [.int (-1)] _ _ _ := hm_z
    replace hm_z := rn_istore_n (am_cur_of (i := (90, 1, .istore_n 1, (0, 0, 0), 0)) (by decide +kernel)) hm_z
    obtain ⟨_, s2064_z, s2065_z, g1m, hm_z⟩ := hm_z
    replace g0m := s2064_z 0 _ (by decide) rfl g0m
    clear s2064_z s2065_z
    replace hm_z := rn_iload_n (am_cur_of (i := (91, 1, .iload_n 1, (0, 0, 0), 0)) (by decide +kernel)) g1m hm_z
    replace hm_z := rn_ifF (am_cur_of (i := (92, 3, .ifCond .ge 17, (60, 0, 0), 0)) (by decide +kernel)) (by decide) hm_z
    replace hm_z := rn_aload_n (am_cur_of (i := (95, 1, .aload_n 0, (0, 0, 0), 0)) (by decide +kernel)) g0m hm_z
    replace hm_z := rn_getI (v := 5) (am_cur_of (i := (96, 3, .getfield 157, (12, 8, 1392), 0)) (by decide +kernel)) (by decide +kernel) kc hm_z
    replace hm_z := rn_iconst (w := 3) (am_cur_of (i := (99, 1, .iconst 3, (0, 0, 0), 0)) (by decide +kernel)) (by decide) hm_z
    replace hm_z := rn_cmpF (am_cur_of (i := (100, 3, .if_icmp .eq 9, (60, 0, 0), 0)) (by decide +kernel)) (by decide) hm_z
    replace hm_z := rn_aload_n (am_cur_of (i := (103, 1, .aload_n 0, (0, 0, 0), 0)) (by decide +kernel)) g0m hm_z
    replace hm_z := rn_iconst (w := 1) (am_cur_of (i := (104, 1, .iconst 1, (0, 0, 0), 0)) (by decide +kernel)) (by decide) hm_z
    replace hm_z := rn_callV (M' := am_m158) (o := 164) (ar := [.int 1]) (rest := []) (L := lv_args 0 [.ref 164, .int 1]) (am_cur_of (i := (105, 3, .invokevirtual 181, (158, 1665, 3), 0)) (by decide +kernel)) rfl rfl rfl rfl hm_z
    obtain ⟨r2066_z, h2067_z, q2068_z, hm_z⟩ := hm_z
    obtain ⟨rfl, yq2068_z⟩ := rp_wrong q2068_z
    subst yq2068_z
    replace hm_z : rn _ _ _ _ [.int 0] _ _ _ := hm_z
    replace hm_z := rn_iret (am_cur_of (i := (108, 1, .ireturn, (0, 0, 0), 0)) (by decide +kernel)) hm_z
    obtain ⟨e2069_z, e2070_z⟩ := hm_z
    subst e2069_z e2070_z
    exact (Or.inr ⟨rfl, 1, by decide, K.1, K.2, rfl, R6⟩)
  · have g0_z : am_get (lv_args 0 [.ref 44, .int 1]) 0 = some (.ref 44) := rfl
    have g1_z : am_get (lv_args 0 [.ref 44, .int 1]) 1 = some (.int 1) := rfl
    have g0m : am_get (lv_args 0 [.ref 164]) 0 = some (.ref 164) := rfl
    have Rk := R
    have Zk := Z
    obtain ⟨⟨c1_z, c2_z, c3_z, c4_z, c5_z, c6_z, c7_z, c8_z⟩, ⟨m2_z, m3_z, m4_z, m5_z, m6_z, m7_z, m8_z⟩, R3, R4, R5, R6, R7, R8, R9, R10⟩ := (R : rq T S x p 2 h g)
    obtain ⟨np, op, z1_z, z2_z, z3_z, z4_z, z5_z, z6_z, z7_z, z8_z, z9_z, z10_z⟩ := (Z : rs 2 h g)
    obtain ⟨nk1_z, nk2_z, nk3_z⟩ := A.2.2.2.2.2.1
    replace nk1_z : rg_v h 11 0 = rg_v g 164 44 := nk1_z
    replace nk2_z : 0 ≤ (rg_v h 11 0).toInt := nk2_z
    replace nk3_z : (rg_v h 11 0).toInt ≤ 64 := nk3_z
    replace z8_z : np.toInt ≤ (rg_v h 11 0).toInt + op.toInt := z8_z
    obtain ⟨kn, ekn⟩ : ∃ v, rg_v h 11 0 = v := ⟨_, rfl⟩
    rw [ekn] at nk1_z nk2_z nk3_z z8_z
    have e9_z := rt_c1 (x := kn) (by omega) (by omega)
    replace hc_z := rn_aload_n (am_cur_of (i := (0, 1, .aload_n 0, (0, 0, 0), 0)) (by decide +kernel)) g0_z hc_z
    replace hc_z := rn_getI (v := 6) (am_cur_of (i := (1, 3, .getfield 60, (4, 10, 419), 0)) (by decide +kernel)) (by decide +kernel) ka hc_z
    replace hc_z := rn_bipush (w := 6) (am_cur_of (i := (4, 2, .bipush 6, (0, 0, 0), 0)) (by decide +kernel)) (by decide) hc_z
    replace hc_z := rn_cmpF (am_cur_of (i := (6, 3, .if_icmp .ne 30, (19, 0, 0), 0)) (by decide +kernel)) (by decide) hc_z
    replace hc_z := rn_aload_n (am_cur_of (i := (9, 1, .aload_n 0, (0, 0, 0), 0)) (by decide +kernel)) g0_z hc_z
    replace hc_z := rn_getI (v := 12) (am_cur_of (i := (10, 3, .getfield 91, (4, 11, 420), 0)) (by decide +kernel)) (by decide +kernel) kb hc_z
    replace hc_z := rn_iconst (w := 5) (am_cur_of (i := (13, 1, .iconst 5, (0, 0, 0), 0)) (by decide +kernel)) (by decide) hc_z
    replace hc_z := rn_cmpT (am_cur_of (i := (14, 3, .if_icmp .ne 22, (19, 0, 0), 0)) (by decide +kernel)) (by decide) hc_z
    replace hc_z := rn_aload_n (am_cur_of (i := (36, 1, .aload_n 0, (0, 0, 0), 0)) (by decide +kernel)) g0_z hc_z
    replace hc_z := rn_bipush (w := 40) (am_cur_of (i := (37, 2, .bipush 40, (0, 0, 0), 0)) (by decide +kernel)) (by decide) hc_z
    replace hc_z := rn_callV (M' := am_m45) (o := 44) (ar := [.int 40]) (rest := []) (L := lv_args 0 [.ref 44, .int 40]) (am_cur_of (i := (39, 3, .invokevirtual 105, (45, 834, 3), 0)) (by decide +kernel)) rfl rfl rfl rfl hc_z
    obtain ⟨r2071_z, h2072_z, q2073_z, hc_z⟩ := hc_z
    obtain ⟨rfl, yq2073_z⟩ := rp_mkN (fun q => absurd (Eq.trans (Eq.symm ka) q.1) (by decide)) q2073_z
    subst yq2073_z
    replace hc_z : rn _ _ _ _ [.int 0] _ _ _ := hc_z
    replace hc_z := rn_ifT (am_cur_of (i := (42, 3, .ifCond .eq 38, (43, 0, 0), 0)) (by decide +kernel)) (by decide) hc_z
    replace hc_z := rn_aload_n (am_cur_of (i := (80, 1, .aload_n 0, (0, 0, 0), 0)) (by decide +kernel)) g0_z hc_z
    replace hc_z := rn_getI (v := 6) (am_cur_of (i := (81, 3, .getfield 60, (4, 10, 419), 0)) (by decide +kernel)) (by decide +kernel) ka hc_z
    replace hc_z := rn_iconst (w := 4) (am_cur_of (i := (84, 1, .iconst 4, (0, 0, 0), 0)) (by decide +kernel)) (by decide) hc_z
    replace hc_z := rn_cmpT (am_cur_of (i := (85, 3, .if_icmp .ne 40, (64, 0, 0), 0)) (by decide +kernel)) (by decide) hc_z
    replace hc_z := rn_aload_n (am_cur_of (i := (125, 1, .aload_n 0, (0, 0, 0), 0)) (by decide +kernel)) g0_z hc_z
    replace hc_z := rn_getI (v := 6) (am_cur_of (i := (126, 3, .getfield 60, (4, 10, 419), 0)) (by decide +kernel)) (by decide +kernel) ka hc_z
    replace hc_z := rn_iconst (w := 2) (am_cur_of (i := (129, 1, .iconst 2, (0, 0, 0), 0)) (by decide +kernel)) (by decide) hc_z
    replace hc_z := rn_cmpT (am_cur_of (i := (130, 3, .if_icmp .ne 37, (84, 0, 0), 0)) (by decide +kernel)) (by decide) hc_z
    replace hc_z := rn_aload_n (am_cur_of (i := (167, 1, .aload_n 0, (0, 0, 0), 0)) (by decide +kernel)) g0_z hc_z
    replace hc_z := rn_iconst (w := 1) (am_cur_of (i := (168, 1, .iconst 1, (0, 0, 0), 0)) (by decide +kernel)) (by decide) hc_z
    replace hc_z := rn_callV (M' := am_m29) (o := 44) (ar := [.int 1]) (rest := []) (L := lv_args 0 [.ref 44, .int 1]) (am_cur_of (i := (169, 3, .invokevirtual 108, (29, 769, 3), 0)) (by decide +kernel)) rfl rfl rfl rfl hc_z
    obtain ⟨r2074_z, h2075_z, q2076_z, hc_z⟩ := hc_z
    obtain ⟨rfl, yq2076_z⟩ := rp_fail R4 q2076_z
    subst yq2076_z
    replace hc_z : rn _ _ _ _ [] _ _ _ := hc_z
    have K := rs_stick (w := 1) (q := p) (a := 51) (by decide) (by decide) rfl (by decide) rfl (show rg_v (am_up (am_up h 44 1 (.int 1)) 44 2 (.int (rg_v h 44 9))) 44 2 = p from R5) hc_z
    replace hm_z := rn_aload_n (am_cur_of (i := (0, 1, .aload_n 0, (0, 0, 0), 0)) (by decide +kernel)) g0m hm_z
    replace hm_z := rn_bipush (w := 40) (am_cur_of (i := (1, 2, .bipush 40, (0, 0, 0), 0)) (by decide +kernel)) (by decide) hm_z
    replace hm_z := rn_callV (M' := am_m171) (o := 164) (ar := [.int 40]) (rest := []) (L := lv_args 0 [.ref 164, .int 40]) (am_cur_of (i := (3, 3, .invokevirtual 194, (171, 1715, 3), 0)) (by decide +kernel)) rfl rfl rfl rfl hm_z
    obtain ⟨r2077_z, h2078_z, q2079_z, hm_z⟩ := hm_z
    obtain ⟨rfl, yq2079_z⟩ := rp_sgN (fun q => absurd (Eq.trans (Eq.symm kd) q.2) (by decide)) q2079_z
    subst yq2079_z
    replace hm_z : rn _ _ _ _ [.int 0] _ _ _ := hm_z
    replace hm_z := rn_ifT (am_cur_of (i := (6, 3, .ifCond .eq 44, (28, 0, 0), 0)) (by decide +kernel)) (by decide) hm_z
    replace hm_z := rn_aload_n (am_cur_of (i := (50, 1, .aload_n 0, (0, 0, 0), 0)) (by decide +kernel)) g0m hm_z
    replace hm_z := rn_bipush (w := 14) (am_cur_of (i := (51, 2, .bipush 14, (0, 0, 0), 0)) (by decide +kernel)) (by decide) hm_z
    replace hm_z := rn_callV (M' := am_m174) (o := 164) (ar := [.int 14]) (rest := []) (L := lv_args 0 [.ref 164, .int 14]) (am_cur_of (i := (53, 3, .invokevirtual 306, (174, 1727, 3), 0)) (by decide +kernel)) rfl rfl rfl rfl hm_z
    obtain ⟨r2080_z, h2081_z, q2082_z, hm_z⟩ := hm_z
    obtain ⟨rfl, yq2082_z⟩ := rp_kyN (fun q => absurd (Eq.trans (Eq.symm kc) q.1) (by decide)) q2082_z
    subst yq2082_z
    replace hm_z : rn _ _ _ _ [.int 0] _ _ _ := hm_z
    replace hm_z := rn_ifT (am_cur_of (i := (56, 3, .ifCond .eq 30, (47, 0, 0), 0)) (by decide +kernel)) (by decide) hm_z
    replace hm_z := rn_aload_n (am_cur_of (i := (86, 1, .aload_n 0, (0, 0, 0), 0)) (by decide +kernel)) g0m hm_z
    replace hm_z := rn_callV (M' := am_m176) (o := 164) (ar := []) (rest := []) (L := lv_args 0 [.ref 164]) (am_cur_of (i := (87, 3, .invokevirtual 312, (176, 1735, 3), 0)) (by decide +kernel)) rfl rfl rfl rfl hm_z
    obtain ⟨r2083_z, h2084_z, q2085_z, hm_z⟩ := hm_z
    obtain ⟨rfl, yq2085_z⟩ := rp_nm (c := 4) (d := 43) kc kd q2085_z
    replace yq2085_z := yq2085_z.symm
    subst yq2085_z
    rw [show rp_nmf 4 43 = (-1) from by unfold rp_nmf; rw [if_neg (by decide)]] at hm_z
    replace hm_z : rn _ _ _ _ [.int (-1)] _ _ _ := hm_z
    replace hm_z := rn_istore_n (am_cur_of (i := (90, 1, .istore_n 1, (0, 0, 0), 0)) (by decide +kernel)) hm_z
    obtain ⟨_, s2086_z, s2087_z, g1m, hm_z⟩ := hm_z
    replace g0m := s2086_z 0 _ (by decide) rfl g0m
    clear s2086_z s2087_z
    replace hm_z := rn_iload_n (am_cur_of (i := (91, 1, .iload_n 1, (0, 0, 0), 0)) (by decide +kernel)) g1m hm_z
    replace hm_z := rn_ifF (am_cur_of (i := (92, 3, .ifCond .ge 17, (60, 0, 0), 0)) (by decide +kernel)) (by decide) hm_z
    replace hm_z := rn_aload_n (am_cur_of (i := (95, 1, .aload_n 0, (0, 0, 0), 0)) (by decide +kernel)) g0m hm_z
    replace hm_z := rn_getI (v := 4) (am_cur_of (i := (96, 3, .getfield 157, (12, 8, 1392), 0)) (by decide +kernel)) (by decide +kernel) kc hm_z
    replace hm_z := rn_iconst (w := 3) (am_cur_of (i := (99, 1, .iconst 3, (0, 0, 0), 0)) (by decide +kernel)) (by decide) hm_z
    replace hm_z := rn_cmpF (am_cur_of (i := (100, 3, .if_icmp .eq 9, (60, 0, 0), 0)) (by decide +kernel)) (by decide) hm_z
    replace hm_z := rn_aload_n (am_cur_of (i := (103, 1, .aload_n 0, (0, 0, 0), 0)) (by decide +kernel)) g0m hm_z
    replace hm_z := rn_iconst (w := 1) (am_cur_of (i := (104, 1, .iconst 1, (0, 0, 0), 0)) (by decide +kernel)) (by decide) hm_z
    replace hm_z := rn_callV (M' := am_m158) (o := 164) (ar := [.int 1]) (rest := []) (L := lv_args 0 [.ref 164, .int 1]) (am_cur_of (i := (105, 3, .invokevirtual 181, (158, 1665, 3), 0)) (by decide +kernel)) rfl rfl rfl rfl hm_z
    obtain ⟨r2088_z, h2089_z, q2090_z, hm_z⟩ := hm_z
    obtain ⟨rfl, yq2090_z⟩ := rp_wrong q2090_z
    subst yq2090_z
    replace hm_z : rn _ _ _ _ [.int 0] _ _ _ := hm_z
    replace hm_z := rn_iret (am_cur_of (i := (108, 1, .ireturn, (0, 0, 0), 0)) (by decide +kernel)) hm_z
    obtain ⟨e2091_z, e2092_z⟩ := hm_z
    subst e2091_z e2092_z
    exact (Or.inr ⟨rfl, 1, by decide, K.1, K.2, rfl, R6⟩)
  · have g0_z : am_get (lv_args 0 [.ref 44, .int 1]) 0 = some (.ref 44) := rfl
    have g1_z : am_get (lv_args 0 [.ref 44, .int 1]) 1 = some (.int 1) := rfl
    have g0m : am_get (lv_args 0 [.ref 164]) 0 = some (.ref 164) := rfl
    have Rk := R
    have Zk := Z
    obtain ⟨⟨c1_z, c2_z, c3_z, c4_z, c5_z, c6_z, c7_z, c8_z⟩, ⟨m2_z, m3_z, m4_z, m5_z, m6_z, m7_z, m8_z⟩, R3, R4, R5, R6, R7, R8, R9, R10⟩ := (R : rq T S x p 2 h g)
    obtain ⟨np, op, z1_z, z2_z, z3_z, z4_z, z5_z, z6_z, z7_z, z8_z, z9_z, z10_z⟩ := (Z : rs 2 h g)
    obtain ⟨nk1_z, nk2_z, nk3_z⟩ := A.2.2.2.2.2.1
    replace nk1_z : rg_v h 11 0 = rg_v g 164 44 := nk1_z
    replace nk2_z : 0 ≤ (rg_v h 11 0).toInt := nk2_z
    replace nk3_z : (rg_v h 11 0).toInt ≤ 64 := nk3_z
    replace z8_z : np.toInt ≤ (rg_v h 11 0).toInt + op.toInt := z8_z
    obtain ⟨kn, ekn⟩ : ∃ v, rg_v h 11 0 = v := ⟨_, rfl⟩
    rw [ekn] at nk1_z nk2_z nk3_z z8_z
    have e9_z := rt_c1 (x := kn) (by omega) (by omega)
    replace hc_z := rn_aload_n (am_cur_of (i := (0, 1, .aload_n 0, (0, 0, 0), 0)) (by decide +kernel)) g0_z hc_z
    replace hc_z := rn_getI (v := 6) (am_cur_of (i := (1, 3, .getfield 60, (4, 10, 419), 0)) (by decide +kernel)) (by decide +kernel) ka hc_z
    replace hc_z := rn_bipush (w := 6) (am_cur_of (i := (4, 2, .bipush 6, (0, 0, 0), 0)) (by decide +kernel)) (by decide) hc_z
    replace hc_z := rn_cmpF (am_cur_of (i := (6, 3, .if_icmp .ne 30, (19, 0, 0), 0)) (by decide +kernel)) (by decide) hc_z
    replace hc_z := rn_aload_n (am_cur_of (i := (9, 1, .aload_n 0, (0, 0, 0), 0)) (by decide +kernel)) g0_z hc_z
    replace hc_z := rn_getI (v := 13) (am_cur_of (i := (10, 3, .getfield 91, (4, 11, 420), 0)) (by decide +kernel)) (by decide +kernel) kb hc_z
    replace hc_z := rn_iconst (w := 5) (am_cur_of (i := (13, 1, .iconst 5, (0, 0, 0), 0)) (by decide +kernel)) (by decide) hc_z
    replace hc_z := rn_cmpT (am_cur_of (i := (14, 3, .if_icmp .ne 22, (19, 0, 0), 0)) (by decide +kernel)) (by decide) hc_z
    replace hc_z := rn_aload_n (am_cur_of (i := (36, 1, .aload_n 0, (0, 0, 0), 0)) (by decide +kernel)) g0_z hc_z
    replace hc_z := rn_bipush (w := 40) (am_cur_of (i := (37, 2, .bipush 40, (0, 0, 0), 0)) (by decide +kernel)) (by decide) hc_z
    replace hc_z := rn_callV (M' := am_m45) (o := 44) (ar := [.int 40]) (rest := []) (L := lv_args 0 [.ref 44, .int 40]) (am_cur_of (i := (39, 3, .invokevirtual 105, (45, 834, 3), 0)) (by decide +kernel)) rfl rfl rfl rfl hc_z
    obtain ⟨r2093_z, h2094_z, q2095_z, hc_z⟩ := hc_z
    obtain ⟨rfl, yq2095_z⟩ := rp_mkN (fun q => absurd (Eq.trans (Eq.symm ka) q.1) (by decide)) q2095_z
    subst yq2095_z
    replace hc_z : rn _ _ _ _ [.int 0] _ _ _ := hc_z
    replace hc_z := rn_ifT (am_cur_of (i := (42, 3, .ifCond .eq 38, (43, 0, 0), 0)) (by decide +kernel)) (by decide) hc_z
    replace hc_z := rn_aload_n (am_cur_of (i := (80, 1, .aload_n 0, (0, 0, 0), 0)) (by decide +kernel)) g0_z hc_z
    replace hc_z := rn_getI (v := 6) (am_cur_of (i := (81, 3, .getfield 60, (4, 10, 419), 0)) (by decide +kernel)) (by decide +kernel) ka hc_z
    replace hc_z := rn_iconst (w := 4) (am_cur_of (i := (84, 1, .iconst 4, (0, 0, 0), 0)) (by decide +kernel)) (by decide) hc_z
    replace hc_z := rn_cmpT (am_cur_of (i := (85, 3, .if_icmp .ne 40, (64, 0, 0), 0)) (by decide +kernel)) (by decide) hc_z
    replace hc_z := rn_aload_n (am_cur_of (i := (125, 1, .aload_n 0, (0, 0, 0), 0)) (by decide +kernel)) g0_z hc_z
    replace hc_z := rn_getI (v := 6) (am_cur_of (i := (126, 3, .getfield 60, (4, 10, 419), 0)) (by decide +kernel)) (by decide +kernel) ka hc_z
    replace hc_z := rn_iconst (w := 2) (am_cur_of (i := (129, 1, .iconst 2, (0, 0, 0), 0)) (by decide +kernel)) (by decide) hc_z
    replace hc_z := rn_cmpT (am_cur_of (i := (130, 3, .if_icmp .ne 37, (84, 0, 0), 0)) (by decide +kernel)) (by decide) hc_z
    replace hc_z := rn_aload_n (am_cur_of (i := (167, 1, .aload_n 0, (0, 0, 0), 0)) (by decide +kernel)) g0_z hc_z
    replace hc_z := rn_iconst (w := 1) (am_cur_of (i := (168, 1, .iconst 1, (0, 0, 0), 0)) (by decide +kernel)) (by decide) hc_z
    replace hc_z := rn_callV (M' := am_m29) (o := 44) (ar := [.int 1]) (rest := []) (L := lv_args 0 [.ref 44, .int 1]) (am_cur_of (i := (169, 3, .invokevirtual 108, (29, 769, 3), 0)) (by decide +kernel)) rfl rfl rfl rfl hc_z
    obtain ⟨r2096_z, h2097_z, q2098_z, hc_z⟩ := hc_z
    obtain ⟨rfl, yq2098_z⟩ := rp_fail R4 q2098_z
    subst yq2098_z
    replace hc_z : rn _ _ _ _ [] _ _ _ := hc_z
    have K := rs_stick (w := 1) (q := p) (a := 51) (by decide) (by decide) rfl (by decide) rfl (show rg_v (am_up (am_up h 44 1 (.int 1)) 44 2 (.int (rg_v h 44 9))) 44 2 = p from R5) hc_z
    replace hm_z := rn_aload_n (am_cur_of (i := (0, 1, .aload_n 0, (0, 0, 0), 0)) (by decide +kernel)) g0m hm_z
    replace hm_z := rn_bipush (w := 40) (am_cur_of (i := (1, 2, .bipush 40, (0, 0, 0), 0)) (by decide +kernel)) (by decide) hm_z
    replace hm_z := rn_callV (M' := am_m171) (o := 164) (ar := [.int 40]) (rest := []) (L := lv_args 0 [.ref 164, .int 40]) (am_cur_of (i := (3, 3, .invokevirtual 194, (171, 1715, 3), 0)) (by decide +kernel)) rfl rfl rfl rfl hm_z
    obtain ⟨r2099_z, h2100_z, q2101_z, hm_z⟩ := hm_z
    obtain ⟨rfl, yq2101_z⟩ := rp_sgN (fun q => absurd (Eq.trans (Eq.symm kd) q.2) (by decide)) q2101_z
    subst yq2101_z
    replace hm_z : rn _ _ _ _ [.int 0] _ _ _ := hm_z
    replace hm_z := rn_ifT (am_cur_of (i := (6, 3, .ifCond .eq 44, (28, 0, 0), 0)) (by decide +kernel)) (by decide) hm_z
    replace hm_z := rn_aload_n (am_cur_of (i := (50, 1, .aload_n 0, (0, 0, 0), 0)) (by decide +kernel)) g0m hm_z
    replace hm_z := rn_bipush (w := 14) (am_cur_of (i := (51, 2, .bipush 14, (0, 0, 0), 0)) (by decide +kernel)) (by decide) hm_z
    replace hm_z := rn_callV (M' := am_m174) (o := 164) (ar := [.int 14]) (rest := []) (L := lv_args 0 [.ref 164, .int 14]) (am_cur_of (i := (53, 3, .invokevirtual 306, (174, 1727, 3), 0)) (by decide +kernel)) rfl rfl rfl rfl hm_z
    obtain ⟨r2102_z, h2103_z, q2104_z, hm_z⟩ := hm_z
    obtain ⟨rfl, yq2104_z⟩ := rp_kyN (fun q => absurd (Eq.trans (Eq.symm kc) q.1) (by decide)) q2104_z
    subst yq2104_z
    replace hm_z : rn _ _ _ _ [.int 0] _ _ _ := hm_z
    replace hm_z := rn_ifT (am_cur_of (i := (56, 3, .ifCond .eq 30, (47, 0, 0), 0)) (by decide +kernel)) (by decide) hm_z
    replace hm_z := rn_aload_n (am_cur_of (i := (86, 1, .aload_n 0, (0, 0, 0), 0)) (by decide +kernel)) g0m hm_z
    replace hm_z := rn_callV (M' := am_m176) (o := 164) (ar := []) (rest := []) (L := lv_args 0 [.ref 164]) (am_cur_of (i := (87, 3, .invokevirtual 312, (176, 1735, 3), 0)) (by decide +kernel)) rfl rfl rfl rfl hm_z
    obtain ⟨r2105_z, h2106_z, q2107_z, hm_z⟩ := hm_z
    obtain ⟨rfl, yq2107_z⟩ := rp_nm (c := 4) (d := 45) kc kd q2107_z
    replace yq2107_z := yq2107_z.symm
    subst yq2107_z
    rw [show rp_nmf 4 45 = (-1) from by unfold rp_nmf; rw [if_neg (by decide)]] at hm_z
    replace hm_z : rn _ _ _ _ [.int (-1)] _ _ _ := hm_z
    replace hm_z := rn_istore_n (am_cur_of (i := (90, 1, .istore_n 1, (0, 0, 0), 0)) (by decide +kernel)) hm_z
    obtain ⟨_, s2108_z, s2109_z, g1m, hm_z⟩ := hm_z
    replace g0m := s2108_z 0 _ (by decide) rfl g0m
    clear s2108_z s2109_z
    replace hm_z := rn_iload_n (am_cur_of (i := (91, 1, .iload_n 1, (0, 0, 0), 0)) (by decide +kernel)) g1m hm_z
    replace hm_z := rn_ifF (am_cur_of (i := (92, 3, .ifCond .ge 17, (60, 0, 0), 0)) (by decide +kernel)) (by decide) hm_z
    replace hm_z := rn_aload_n (am_cur_of (i := (95, 1, .aload_n 0, (0, 0, 0), 0)) (by decide +kernel)) g0m hm_z
    replace hm_z := rn_getI (v := 4) (am_cur_of (i := (96, 3, .getfield 157, (12, 8, 1392), 0)) (by decide +kernel)) (by decide +kernel) kc hm_z
    replace hm_z := rn_iconst (w := 3) (am_cur_of (i := (99, 1, .iconst 3, (0, 0, 0), 0)) (by decide +kernel)) (by decide) hm_z
    replace hm_z := rn_cmpF (am_cur_of (i := (100, 3, .if_icmp .eq 9, (60, 0, 0), 0)) (by decide +kernel)) (by decide) hm_z
    replace hm_z := rn_aload_n (am_cur_of (i := (103, 1, .aload_n 0, (0, 0, 0), 0)) (by decide +kernel)) g0m hm_z
    replace hm_z := rn_iconst (w := 1) (am_cur_of (i := (104, 1, .iconst 1, (0, 0, 0), 0)) (by decide +kernel)) (by decide) hm_z
    replace hm_z := rn_callV (M' := am_m158) (o := 164) (ar := [.int 1]) (rest := []) (L := lv_args 0 [.ref 164, .int 1]) (am_cur_of (i := (105, 3, .invokevirtual 181, (158, 1665, 3), 0)) (by decide +kernel)) rfl rfl rfl rfl hm_z
    obtain ⟨r2110_z, h2111_z, q2112_z, hm_z⟩ := hm_z
    obtain ⟨rfl, yq2112_z⟩ := rp_wrong q2112_z
    subst yq2112_z
    replace hm_z : rn _ _ _ _ [.int 0] _ _ _ := hm_z
    replace hm_z := rn_iret (am_cur_of (i := (108, 1, .ireturn, (0, 0, 0), 0)) (by decide +kernel)) hm_z
    obtain ⟨e2113_z, e2114_z⟩ := hm_z
    subst e2113_z e2114_z
    exact (Or.inr ⟨rfl, 1, by decide, K.1, K.2, rfl, R6⟩)
  · have g0_z : am_get (lv_args 0 [.ref 44, .int 1]) 0 = some (.ref 44) := rfl
    have g1_z : am_get (lv_args 0 [.ref 44, .int 1]) 1 = some (.int 1) := rfl
    have g0m : am_get (lv_args 0 [.ref 164]) 0 = some (.ref 164) := rfl
    have Rk := R
    have Zk := Z
    obtain ⟨⟨c1_z, c2_z, c3_z, c4_z, c5_z, c6_z, c7_z, c8_z⟩, ⟨m2_z, m3_z, m4_z, m5_z, m6_z, m7_z, m8_z⟩, R3, R4, R5, R6, R7, R8, R9, R10⟩ := (R : rq T S x p 2 h g)
    obtain ⟨np, op, z1_z, z2_z, z3_z, z4_z, z5_z, z6_z, z7_z, z8_z, z9_z, z10_z⟩ := (Z : rs 2 h g)
    obtain ⟨nk1_z, nk2_z, nk3_z⟩ := A.2.2.2.2.2.1
    replace nk1_z : rg_v h 11 0 = rg_v g 164 44 := nk1_z
    replace nk2_z : 0 ≤ (rg_v h 11 0).toInt := nk2_z
    replace nk3_z : (rg_v h 11 0).toInt ≤ 64 := nk3_z
    replace z8_z : np.toInt ≤ (rg_v h 11 0).toInt + op.toInt := z8_z
    obtain ⟨kn, ekn⟩ : ∃ v, rg_v h 11 0 = v := ⟨_, rfl⟩
    rw [ekn] at nk1_z nk2_z nk3_z z8_z
    have e9_z := rt_c1 (x := kn) (by omega) (by omega)
    replace hc_z := rn_aload_n (am_cur_of (i := (0, 1, .aload_n 0, (0, 0, 0), 0)) (by decide +kernel)) g0_z hc_z
    replace hc_z := rn_getI (v := 6) (am_cur_of (i := (1, 3, .getfield 60, (4, 10, 419), 0)) (by decide +kernel)) (by decide +kernel) ka hc_z
    replace hc_z := rn_bipush (w := 6) (am_cur_of (i := (4, 2, .bipush 6, (0, 0, 0), 0)) (by decide +kernel)) (by decide) hc_z
    replace hc_z := rn_cmpF (am_cur_of (i := (6, 3, .if_icmp .ne 30, (19, 0, 0), 0)) (by decide +kernel)) (by decide) hc_z
    replace hc_z := rn_aload_n (am_cur_of (i := (9, 1, .aload_n 0, (0, 0, 0), 0)) (by decide +kernel)) g0_z hc_z
    replace hc_z := rn_getI (v := 14) (am_cur_of (i := (10, 3, .getfield 91, (4, 11, 420), 0)) (by decide +kernel)) (by decide +kernel) kb hc_z
    replace hc_z := rn_iconst (w := 5) (am_cur_of (i := (13, 1, .iconst 5, (0, 0, 0), 0)) (by decide +kernel)) (by decide) hc_z
    replace hc_z := rn_cmpT (am_cur_of (i := (14, 3, .if_icmp .ne 22, (19, 0, 0), 0)) (by decide +kernel)) (by decide) hc_z
    replace hc_z := rn_aload_n (am_cur_of (i := (36, 1, .aload_n 0, (0, 0, 0), 0)) (by decide +kernel)) g0_z hc_z
    replace hc_z := rn_bipush (w := 40) (am_cur_of (i := (37, 2, .bipush 40, (0, 0, 0), 0)) (by decide +kernel)) (by decide) hc_z
    replace hc_z := rn_callV (M' := am_m45) (o := 44) (ar := [.int 40]) (rest := []) (L := lv_args 0 [.ref 44, .int 40]) (am_cur_of (i := (39, 3, .invokevirtual 105, (45, 834, 3), 0)) (by decide +kernel)) rfl rfl rfl rfl hc_z
    obtain ⟨r2115_z, h2116_z, q2117_z, hc_z⟩ := hc_z
    obtain ⟨rfl, yq2117_z⟩ := rp_mkN (fun q => absurd (Eq.trans (Eq.symm ka) q.1) (by decide)) q2117_z
    subst yq2117_z
    replace hc_z : rn _ _ _ _ [.int 0] _ _ _ := hc_z
    replace hc_z := rn_ifT (am_cur_of (i := (42, 3, .ifCond .eq 38, (43, 0, 0), 0)) (by decide +kernel)) (by decide) hc_z
    replace hc_z := rn_aload_n (am_cur_of (i := (80, 1, .aload_n 0, (0, 0, 0), 0)) (by decide +kernel)) g0_z hc_z
    replace hc_z := rn_getI (v := 6) (am_cur_of (i := (81, 3, .getfield 60, (4, 10, 419), 0)) (by decide +kernel)) (by decide +kernel) ka hc_z
    replace hc_z := rn_iconst (w := 4) (am_cur_of (i := (84, 1, .iconst 4, (0, 0, 0), 0)) (by decide +kernel)) (by decide) hc_z
    replace hc_z := rn_cmpT (am_cur_of (i := (85, 3, .if_icmp .ne 40, (64, 0, 0), 0)) (by decide +kernel)) (by decide) hc_z
    replace hc_z := rn_aload_n (am_cur_of (i := (125, 1, .aload_n 0, (0, 0, 0), 0)) (by decide +kernel)) g0_z hc_z
    replace hc_z := rn_getI (v := 6) (am_cur_of (i := (126, 3, .getfield 60, (4, 10, 419), 0)) (by decide +kernel)) (by decide +kernel) ka hc_z
    replace hc_z := rn_iconst (w := 2) (am_cur_of (i := (129, 1, .iconst 2, (0, 0, 0), 0)) (by decide +kernel)) (by decide) hc_z
    replace hc_z := rn_cmpT (am_cur_of (i := (130, 3, .if_icmp .ne 37, (84, 0, 0), 0)) (by decide +kernel)) (by decide) hc_z
    replace hc_z := rn_aload_n (am_cur_of (i := (167, 1, .aload_n 0, (0, 0, 0), 0)) (by decide +kernel)) g0_z hc_z
    replace hc_z := rn_iconst (w := 1) (am_cur_of (i := (168, 1, .iconst 1, (0, 0, 0), 0)) (by decide +kernel)) (by decide) hc_z
    replace hc_z := rn_callV (M' := am_m29) (o := 44) (ar := [.int 1]) (rest := []) (L := lv_args 0 [.ref 44, .int 1]) (am_cur_of (i := (169, 3, .invokevirtual 108, (29, 769, 3), 0)) (by decide +kernel)) rfl rfl rfl rfl hc_z
    obtain ⟨r2118_z, h2119_z, q2120_z, hc_z⟩ := hc_z
    obtain ⟨rfl, yq2120_z⟩ := rp_fail R4 q2120_z
    subst yq2120_z
    replace hc_z : rn _ _ _ _ [] _ _ _ := hc_z
    have K := rs_stick (w := 1) (q := p) (a := 51) (by decide) (by decide) rfl (by decide) rfl (show rg_v (am_up (am_up h 44 1 (.int 1)) 44 2 (.int (rg_v h 44 9))) 44 2 = p from R5) hc_z
    replace hm_z := rn_aload_n (am_cur_of (i := (0, 1, .aload_n 0, (0, 0, 0), 0)) (by decide +kernel)) g0m hm_z
    replace hm_z := rn_bipush (w := 40) (am_cur_of (i := (1, 2, .bipush 40, (0, 0, 0), 0)) (by decide +kernel)) (by decide) hm_z
    replace hm_z := rn_callV (M' := am_m171) (o := 164) (ar := [.int 40]) (rest := []) (L := lv_args 0 [.ref 164, .int 40]) (am_cur_of (i := (3, 3, .invokevirtual 194, (171, 1715, 3), 0)) (by decide +kernel)) rfl rfl rfl rfl hm_z
    obtain ⟨r2121_z, h2122_z, q2123_z, hm_z⟩ := hm_z
    obtain ⟨rfl, yq2123_z⟩ := rp_sgN (fun q => absurd (Eq.trans (Eq.symm kd) q.2) (by decide)) q2123_z
    subst yq2123_z
    replace hm_z : rn _ _ _ _ [.int 0] _ _ _ := hm_z
    replace hm_z := rn_ifT (am_cur_of (i := (6, 3, .ifCond .eq 44, (28, 0, 0), 0)) (by decide +kernel)) (by decide) hm_z
    replace hm_z := rn_aload_n (am_cur_of (i := (50, 1, .aload_n 0, (0, 0, 0), 0)) (by decide +kernel)) g0m hm_z
    replace hm_z := rn_bipush (w := 14) (am_cur_of (i := (51, 2, .bipush 14, (0, 0, 0), 0)) (by decide +kernel)) (by decide) hm_z
    replace hm_z := rn_callV (M' := am_m174) (o := 164) (ar := [.int 14]) (rest := []) (L := lv_args 0 [.ref 164, .int 14]) (am_cur_of (i := (53, 3, .invokevirtual 306, (174, 1727, 3), 0)) (by decide +kernel)) rfl rfl rfl rfl hm_z
    obtain ⟨r2124_z, h2125_z, q2126_z, hm_z⟩ := hm_z
    obtain ⟨rfl, yq2126_z⟩ := rp_kyN (fun q => absurd (Eq.trans (Eq.symm kc) q.1) (by decide)) q2126_z
    subst yq2126_z
    replace hm_z : rn _ _ _ _ [.int 0] _ _ _ := hm_z
    replace hm_z := rn_ifT (am_cur_of (i := (56, 3, .ifCond .eq 30, (47, 0, 0), 0)) (by decide +kernel)) (by decide) hm_z
    replace hm_z := rn_aload_n (am_cur_of (i := (86, 1, .aload_n 0, (0, 0, 0), 0)) (by decide +kernel)) g0m hm_z
    replace hm_z := rn_callV (M' := am_m176) (o := 164) (ar := []) (rest := []) (L := lv_args 0 [.ref 164]) (am_cur_of (i := (87, 3, .invokevirtual 312, (176, 1735, 3), 0)) (by decide +kernel)) rfl rfl rfl rfl hm_z
    obtain ⟨r2127_z, h2128_z, q2129_z, hm_z⟩ := hm_z
    obtain ⟨rfl, yq2129_z⟩ := rp_nm (c := 4) (d := 42) kc kd q2129_z
    replace yq2129_z := yq2129_z.symm
    subst yq2129_z
    rw [show rp_nmf 4 42 = (-1) from by unfold rp_nmf; rw [if_neg (by decide)]] at hm_z
    replace hm_z : rn _ _ _ _ [.int (-1)] _ _ _ := hm_z
    replace hm_z := rn_istore_n (am_cur_of (i := (90, 1, .istore_n 1, (0, 0, 0), 0)) (by decide +kernel)) hm_z
    obtain ⟨_, s2130_z, s2131_z, g1m, hm_z⟩ := hm_z
    replace g0m := s2130_z 0 _ (by decide) rfl g0m
    clear s2130_z s2131_z
    replace hm_z := rn_iload_n (am_cur_of (i := (91, 1, .iload_n 1, (0, 0, 0), 0)) (by decide +kernel)) g1m hm_z
    replace hm_z := rn_ifF (am_cur_of (i := (92, 3, .ifCond .ge 17, (60, 0, 0), 0)) (by decide +kernel)) (by decide) hm_z
    replace hm_z := rn_aload_n (am_cur_of (i := (95, 1, .aload_n 0, (0, 0, 0), 0)) (by decide +kernel)) g0m hm_z
    replace hm_z := rn_getI (v := 4) (am_cur_of (i := (96, 3, .getfield 157, (12, 8, 1392), 0)) (by decide +kernel)) (by decide +kernel) kc hm_z
    replace hm_z := rn_iconst (w := 3) (am_cur_of (i := (99, 1, .iconst 3, (0, 0, 0), 0)) (by decide +kernel)) (by decide) hm_z
    replace hm_z := rn_cmpF (am_cur_of (i := (100, 3, .if_icmp .eq 9, (60, 0, 0), 0)) (by decide +kernel)) (by decide) hm_z
    replace hm_z := rn_aload_n (am_cur_of (i := (103, 1, .aload_n 0, (0, 0, 0), 0)) (by decide +kernel)) g0m hm_z
    replace hm_z := rn_iconst (w := 1) (am_cur_of (i := (104, 1, .iconst 1, (0, 0, 0), 0)) (by decide +kernel)) (by decide) hm_z
    replace hm_z := rn_callV (M' := am_m158) (o := 164) (ar := [.int 1]) (rest := []) (L := lv_args 0 [.ref 164, .int 1]) (am_cur_of (i := (105, 3, .invokevirtual 181, (158, 1665, 3), 0)) (by decide +kernel)) rfl rfl rfl rfl hm_z
    obtain ⟨r2132_z, h2133_z, q2134_z, hm_z⟩ := hm_z
    obtain ⟨rfl, yq2134_z⟩ := rp_wrong q2134_z
    subst yq2134_z
    replace hm_z : rn _ _ _ _ [.int 0] _ _ _ := hm_z
    replace hm_z := rn_iret (am_cur_of (i := (108, 1, .ireturn, (0, 0, 0), 0)) (by decide +kernel)) hm_z
    obtain ⟨e2135_z, e2136_z⟩ := hm_z
    subst e2135_z e2136_z
    exact (Or.inr ⟨rfl, 1, by decide, K.1, K.2, rfl, R6⟩)
  · have g0_z : am_get (lv_args 0 [.ref 44, .int 1]) 0 = some (.ref 44) := rfl
    have g1_z : am_get (lv_args 0 [.ref 44, .int 1]) 1 = some (.int 1) := rfl
    have g0m : am_get (lv_args 0 [.ref 164]) 0 = some (.ref 164) := rfl
    have Rk := R
    have Zk := Z
    obtain ⟨⟨c1_z, c2_z, c3_z, c4_z, c5_z, c6_z, c7_z, c8_z⟩, ⟨m2_z, m3_z, m4_z, m5_z, m6_z, m7_z, m8_z⟩, R3, R4, R5, R6, R7, R8, R9, R10⟩ := (R : rq T S x p 2 h g)
    obtain ⟨np, op, z1_z, z2_z, z3_z, z4_z, z5_z, z6_z, z7_z, z8_z, z9_z, z10_z⟩ := (Z : rs 2 h g)
    obtain ⟨nk1_z, nk2_z, nk3_z⟩ := A.2.2.2.2.2.1
    replace nk1_z : rg_v h 11 0 = rg_v g 164 44 := nk1_z
    replace nk2_z : 0 ≤ (rg_v h 11 0).toInt := nk2_z
    replace nk3_z : (rg_v h 11 0).toInt ≤ 64 := nk3_z
    replace z8_z : np.toInt ≤ (rg_v h 11 0).toInt + op.toInt := z8_z
    obtain ⟨kn, ekn⟩ : ∃ v, rg_v h 11 0 = v := ⟨_, rfl⟩
    rw [ekn] at nk1_z nk2_z nk3_z z8_z
    have e9_z := rt_c1 (x := kn) (by omega) (by omega)
    replace hc_z := rn_aload_n (am_cur_of (i := (0, 1, .aload_n 0, (0, 0, 0), 0)) (by decide +kernel)) g0_z hc_z
    replace hc_z := rn_getI (v := 6) (am_cur_of (i := (1, 3, .getfield 60, (4, 10, 419), 0)) (by decide +kernel)) (by decide +kernel) ka hc_z
    replace hc_z := rn_bipush (w := 6) (am_cur_of (i := (4, 2, .bipush 6, (0, 0, 0), 0)) (by decide +kernel)) (by decide) hc_z
    replace hc_z := rn_cmpF (am_cur_of (i := (6, 3, .if_icmp .ne 30, (19, 0, 0), 0)) (by decide +kernel)) (by decide) hc_z
    replace hc_z := rn_aload_n (am_cur_of (i := (9, 1, .aload_n 0, (0, 0, 0), 0)) (by decide +kernel)) g0_z hc_z
    replace hc_z := rn_getI (v := 15) (am_cur_of (i := (10, 3, .getfield 91, (4, 11, 420), 0)) (by decide +kernel)) (by decide +kernel) kb hc_z
    replace hc_z := rn_iconst (w := 5) (am_cur_of (i := (13, 1, .iconst 5, (0, 0, 0), 0)) (by decide +kernel)) (by decide) hc_z
    replace hc_z := rn_cmpT (am_cur_of (i := (14, 3, .if_icmp .ne 22, (19, 0, 0), 0)) (by decide +kernel)) (by decide) hc_z
    replace hc_z := rn_aload_n (am_cur_of (i := (36, 1, .aload_n 0, (0, 0, 0), 0)) (by decide +kernel)) g0_z hc_z
    replace hc_z := rn_bipush (w := 40) (am_cur_of (i := (37, 2, .bipush 40, (0, 0, 0), 0)) (by decide +kernel)) (by decide) hc_z
    replace hc_z := rn_callV (M' := am_m45) (o := 44) (ar := [.int 40]) (rest := []) (L := lv_args 0 [.ref 44, .int 40]) (am_cur_of (i := (39, 3, .invokevirtual 105, (45, 834, 3), 0)) (by decide +kernel)) rfl rfl rfl rfl hc_z
    obtain ⟨r2137_z, h2138_z, q2139_z, hc_z⟩ := hc_z
    obtain ⟨rfl, yq2139_z⟩ := rp_mkN (fun q => absurd (Eq.trans (Eq.symm ka) q.1) (by decide)) q2139_z
    subst yq2139_z
    replace hc_z : rn _ _ _ _ [.int 0] _ _ _ := hc_z
    replace hc_z := rn_ifT (am_cur_of (i := (42, 3, .ifCond .eq 38, (43, 0, 0), 0)) (by decide +kernel)) (by decide) hc_z
    replace hc_z := rn_aload_n (am_cur_of (i := (80, 1, .aload_n 0, (0, 0, 0), 0)) (by decide +kernel)) g0_z hc_z
    replace hc_z := rn_getI (v := 6) (am_cur_of (i := (81, 3, .getfield 60, (4, 10, 419), 0)) (by decide +kernel)) (by decide +kernel) ka hc_z
    replace hc_z := rn_iconst (w := 4) (am_cur_of (i := (84, 1, .iconst 4, (0, 0, 0), 0)) (by decide +kernel)) (by decide) hc_z
    replace hc_z := rn_cmpT (am_cur_of (i := (85, 3, .if_icmp .ne 40, (64, 0, 0), 0)) (by decide +kernel)) (by decide) hc_z
    replace hc_z := rn_aload_n (am_cur_of (i := (125, 1, .aload_n 0, (0, 0, 0), 0)) (by decide +kernel)) g0_z hc_z
    replace hc_z := rn_getI (v := 6) (am_cur_of (i := (126, 3, .getfield 60, (4, 10, 419), 0)) (by decide +kernel)) (by decide +kernel) ka hc_z
    replace hc_z := rn_iconst (w := 2) (am_cur_of (i := (129, 1, .iconst 2, (0, 0, 0), 0)) (by decide +kernel)) (by decide) hc_z
    replace hc_z := rn_cmpT (am_cur_of (i := (130, 3, .if_icmp .ne 37, (84, 0, 0), 0)) (by decide +kernel)) (by decide) hc_z
    replace hc_z := rn_aload_n (am_cur_of (i := (167, 1, .aload_n 0, (0, 0, 0), 0)) (by decide +kernel)) g0_z hc_z
    replace hc_z := rn_iconst (w := 1) (am_cur_of (i := (168, 1, .iconst 1, (0, 0, 0), 0)) (by decide +kernel)) (by decide) hc_z
    replace hc_z := rn_callV (M' := am_m29) (o := 44) (ar := [.int 1]) (rest := []) (L := lv_args 0 [.ref 44, .int 1]) (am_cur_of (i := (169, 3, .invokevirtual 108, (29, 769, 3), 0)) (by decide +kernel)) rfl rfl rfl rfl hc_z
    obtain ⟨r2140_z, h2141_z, q2142_z, hc_z⟩ := hc_z
    obtain ⟨rfl, yq2142_z⟩ := rp_fail R4 q2142_z
    subst yq2142_z
    replace hc_z : rn _ _ _ _ [] _ _ _ := hc_z
    have K := rs_stick (w := 1) (q := p) (a := 51) (by decide) (by decide) rfl (by decide) rfl (show rg_v (am_up (am_up h 44 1 (.int 1)) 44 2 (.int (rg_v h 44 9))) 44 2 = p from R5) hc_z
    replace hm_z := rn_aload_n (am_cur_of (i := (0, 1, .aload_n 0, (0, 0, 0), 0)) (by decide +kernel)) g0m hm_z
    replace hm_z := rn_bipush (w := 40) (am_cur_of (i := (1, 2, .bipush 40, (0, 0, 0), 0)) (by decide +kernel)) (by decide) hm_z
    replace hm_z := rn_callV (M' := am_m171) (o := 164) (ar := [.int 40]) (rest := []) (L := lv_args 0 [.ref 164, .int 40]) (am_cur_of (i := (3, 3, .invokevirtual 194, (171, 1715, 3), 0)) (by decide +kernel)) rfl rfl rfl rfl hm_z
    obtain ⟨r2143_z, h2144_z, q2145_z, hm_z⟩ := hm_z
    obtain ⟨rfl, yq2145_z⟩ := rp_sgN (fun q => absurd (Eq.trans (Eq.symm kd) q.2) (by decide)) q2145_z
    subst yq2145_z
    replace hm_z : rn _ _ _ _ [.int 0] _ _ _ := hm_z
    replace hm_z := rn_ifT (am_cur_of (i := (6, 3, .ifCond .eq 44, (28, 0, 0), 0)) (by decide +kernel)) (by decide) hm_z
    replace hm_z := rn_aload_n (am_cur_of (i := (50, 1, .aload_n 0, (0, 0, 0), 0)) (by decide +kernel)) g0m hm_z
    replace hm_z := rn_bipush (w := 14) (am_cur_of (i := (51, 2, .bipush 14, (0, 0, 0), 0)) (by decide +kernel)) (by decide) hm_z
    replace hm_z := rn_callV (M' := am_m174) (o := 164) (ar := [.int 14]) (rest := []) (L := lv_args 0 [.ref 164, .int 14]) (am_cur_of (i := (53, 3, .invokevirtual 306, (174, 1727, 3), 0)) (by decide +kernel)) rfl rfl rfl rfl hm_z
    obtain ⟨r2146_z, h2147_z, q2148_z, hm_z⟩ := hm_z
    obtain ⟨rfl, yq2148_z⟩ := rp_kyN (fun q => absurd (Eq.trans (Eq.symm kc) q.1) (by decide)) q2148_z
    subst yq2148_z
    replace hm_z : rn _ _ _ _ [.int 0] _ _ _ := hm_z
    replace hm_z := rn_ifT (am_cur_of (i := (56, 3, .ifCond .eq 30, (47, 0, 0), 0)) (by decide +kernel)) (by decide) hm_z
    replace hm_z := rn_aload_n (am_cur_of (i := (86, 1, .aload_n 0, (0, 0, 0), 0)) (by decide +kernel)) g0m hm_z
    replace hm_z := rn_callV (M' := am_m176) (o := 164) (ar := []) (rest := []) (L := lv_args 0 [.ref 164]) (am_cur_of (i := (87, 3, .invokevirtual 312, (176, 1735, 3), 0)) (by decide +kernel)) rfl rfl rfl rfl hm_z
    obtain ⟨r2149_z, h2150_z, q2151_z, hm_z⟩ := hm_z
    obtain ⟨rfl, yq2151_z⟩ := rp_nm (c := 4) (d := 47) kc kd q2151_z
    replace yq2151_z := yq2151_z.symm
    subst yq2151_z
    rw [show rp_nmf 4 47 = (-1) from by unfold rp_nmf; rw [if_neg (by decide)]] at hm_z
    replace hm_z : rn _ _ _ _ [.int (-1)] _ _ _ := hm_z
    replace hm_z := rn_istore_n (am_cur_of (i := (90, 1, .istore_n 1, (0, 0, 0), 0)) (by decide +kernel)) hm_z
    obtain ⟨_, s2152_z, s2153_z, g1m, hm_z⟩ := hm_z
    replace g0m := s2152_z 0 _ (by decide) rfl g0m
    clear s2152_z s2153_z
    replace hm_z := rn_iload_n (am_cur_of (i := (91, 1, .iload_n 1, (0, 0, 0), 0)) (by decide +kernel)) g1m hm_z
    replace hm_z := rn_ifF (am_cur_of (i := (92, 3, .ifCond .ge 17, (60, 0, 0), 0)) (by decide +kernel)) (by decide) hm_z
    replace hm_z := rn_aload_n (am_cur_of (i := (95, 1, .aload_n 0, (0, 0, 0), 0)) (by decide +kernel)) g0m hm_z
    replace hm_z := rn_getI (v := 4) (am_cur_of (i := (96, 3, .getfield 157, (12, 8, 1392), 0)) (by decide +kernel)) (by decide +kernel) kc hm_z
    replace hm_z := rn_iconst (w := 3) (am_cur_of (i := (99, 1, .iconst 3, (0, 0, 0), 0)) (by decide +kernel)) (by decide) hm_z
    replace hm_z := rn_cmpF (am_cur_of (i := (100, 3, .if_icmp .eq 9, (60, 0, 0), 0)) (by decide +kernel)) (by decide) hm_z
    replace hm_z := rn_aload_n (am_cur_of (i := (103, 1, .aload_n 0, (0, 0, 0), 0)) (by decide +kernel)) g0m hm_z
    replace hm_z := rn_iconst (w := 1) (am_cur_of (i := (104, 1, .iconst 1, (0, 0, 0), 0)) (by decide +kernel)) (by decide) hm_z
    replace hm_z := rn_callV (M' := am_m158) (o := 164) (ar := [.int 1]) (rest := []) (L := lv_args 0 [.ref 164, .int 1]) (am_cur_of (i := (105, 3, .invokevirtual 181, (158, 1665, 3), 0)) (by decide +kernel)) rfl rfl rfl rfl hm_z
    obtain ⟨r2154_z, h2155_z, q2156_z, hm_z⟩ := hm_z
    obtain ⟨rfl, yq2156_z⟩ := rp_wrong q2156_z
    subst yq2156_z
    replace hm_z : rn _ _ _ _ [.int 0] _ _ _ := hm_z
    replace hm_z := rn_iret (am_cur_of (i := (108, 1, .ireturn, (0, 0, 0), 0)) (by decide +kernel)) hm_z
    obtain ⟨e2157_z, e2158_z⟩ := hm_z
    subst e2157_z e2158_z
    exact (Or.inr ⟨rfl, 1, by decide, K.1, K.2, rfl, R6⟩)
