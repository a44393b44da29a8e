/-! ===== readValue against leafRead, 2, 0 (wip/r/gen99qr.py) ===== -/
theorem rv_val20 {T : Nat → Int32} {S x p : Int32} {n n' : Nat} {h h' g g' : am_H} {r r' : Option Value} (R : rq T S x p 2 h g) (A : rp 2 h g) (B : rp_t h g) (Z : rs 2 h g) (w1_z : rg_v g 164 45 = 1) (w2_z : rg_v g 164 46 = 1) (hc_z : rn n am_m51 0 (lv_args 0 [.ref 44, .int 0]) [] h r h') (hm_z : rn n' am_m172 0 (lv_args 0 [.ref 164]) [] g r' g') : rv_Q T S x p 2 h' g' r r' := by
  have z8_z : (8 : Int32).toInt = 8 := by decide
  have z11_z : (11 : Int32).toInt = 11 := by decide
  have z9999_z : (9999 : Int32).toInt = 9999 := by decide
  rcases tk_cases R.2.2.2.2.2.2.2.2.2 with ⟨ka, kc⟩ | ⟨ka, kc⟩ | ⟨ka, kc, kd⟩ | ⟨ka, kc, kb0_z, kb9_z, kd⟩ | ⟨ka, kc, kb, kd⟩ | ⟨ka, kc, kb, kd⟩ | ⟨ka, kc, kb, kd⟩ | ⟨ka, kc, kb, kd⟩ | ⟨ka, kc, kb, kd⟩ | ⟨ka, kc, kb, kd⟩ | ⟨ka, kc, kd⟩ | ⟨ka, kc, kb0_z, kd0_z, kbd⟩ | ⟨ka, kc, kb, kd⟩ | ⟨ka, kc, kb, kd⟩ | ⟨ka, kc, kb, kd⟩ | ⟨ka, kc, kb, kd⟩ | ⟨ka, kc, kb, kd⟩ | ⟨ka, kc, kb, kd⟩ | ⟨ka, kc, kb, kd⟩ | ⟨ka, kc, kb, kd⟩ | ⟨ka, kc, kb, kd⟩ | ⟨ka, kc, kb, kd⟩ | ⟨ka, kc, kb, kd⟩ | ⟨ka, kc, kb, kd⟩ | ⟨ka, kc, kb, kd⟩ | ⟨ka, kc, kb, kd⟩ | ⟨ka, kc, kb, kd⟩ | ⟨ka, kc, kb, kd⟩
  · have g0_z : am_get (lv_args 0 [.ref 44, .int 0]) 0 = some (.ref 44) := rfl
    have g1_z : am_get (lv_args 0 [.ref 44, .int 0]) 1 = some (.int 0) := rfl
    have g0m : am_get (lv_args 0 [.ref 164]) 0 = some (.ref 164) := rfl
    have Rk := R
    have Zk := Z
    obtain ⟨⟨c1_z, c2_z, c3_z, c4_z, c5_z, c6_z, c7_z, c8_z⟩, ⟨m2_z, m3_z, m4_z, m5_z, m6_z, m7_z, m8_z⟩, R3, R4, R5, R6, R7, R8, R9, R10⟩ := (R : rq T S x p 2 h g)
    obtain ⟨np, op, z1_z, z2_z, z3_z, z4_z, z5_z, z6_z, z7_z, z8_z, z9_z, z10_z⟩ := (Z : rs 2 h g)
    obtain ⟨nk1_z, nk2_z, nk3_z⟩ := A.2.2.2.2.2.1
    replace nk1_z : rg_v h 11 0 = rg_v g 164 44 := nk1_z
    replace nk2_z : 0 ≤ (rg_v h 11 0).toInt := nk2_z
    replace nk3_z : (rg_v h 11 0).toInt ≤ 64 := nk3_z
    replace z8_z : np.toInt ≤ (rg_v h 11 0).toInt + op.toInt := z8_z
    obtain ⟨kn, ekn⟩ : ∃ v, rg_v h 11 0 = v := ⟨_, rfl⟩
    rw [ekn] at nk1_z nk2_z nk3_z z8_z
    have e9_z := rt_c1 (x := kn) (by omega) (by omega)
    replace hc_z := rn_aload_n (am_cur_of (i := (0, 1, .aload_n 0, (0, 0, 0), 0)) (by decide +kernel)) g0_z hc_z
    replace hc_z := rn_getI (v := 0) (am_cur_of (i := (1, 3, .getfield 60, (4, 10, 419), 0)) (by decide +kernel)) (by decide +kernel) ka hc_z
    replace hc_z := rn_bipush (w := 6) (am_cur_of (i := (4, 2, .bipush 6, (0, 0, 0), 0)) (by decide +kernel)) (by decide) hc_z
    replace hc_z := rn_cmpT (am_cur_of (i := (6, 3, .if_icmp .ne 30, (19, 0, 0), 0)) (by decide +kernel)) (by decide) hc_z
    replace hc_z := rn_aload_n (am_cur_of (i := (36, 1, .aload_n 0, (0, 0, 0), 0)) (by decide +kernel)) g0_z hc_z
    replace hc_z := rn_bipush (w := 40) (am_cur_of (i := (37, 2, .bipush 40, (0, 0, 0), 0)) (by decide +kernel)) (by decide) hc_z
    replace hc_z := rn_callV (M' := am_m45) (o := 44) (ar := [.int 40]) (rest := []) (L := lv_args 0 [.ref 44, .int 40]) (am_cur_of (i := (39, 3, .invokevirtual 105, (45, 834, 3), 0)) (by decide +kernel)) rfl rfl rfl rfl hc_z
    obtain ⟨r414_z, h415_z, q416_z, hc_z⟩ := hc_z
    obtain ⟨rfl, yq416_z⟩ := rp_mkN (fun q => absurd (Eq.trans (Eq.symm ka) q.1) (by decide)) q416_z
    subst yq416_z
    replace hc_z : rn _ _ _ _ [.int 0] _ _ _ := hc_z
    replace hc_z := rn_ifT (am_cur_of (i := (42, 3, .ifCond .eq 38, (43, 0, 0), 0)) (by decide +kernel)) (by decide) hc_z
    replace hc_z := rn_aload_n (am_cur_of (i := (80, 1, .aload_n 0, (0, 0, 0), 0)) (by decide +kernel)) g0_z hc_z
    replace hc_z := rn_getI (v := 0) (am_cur_of (i := (81, 3, .getfield 60, (4, 10, 419), 0)) (by decide +kernel)) (by decide +kernel) ka hc_z
    replace hc_z := rn_iconst (w := 4) (am_cur_of (i := (84, 1, .iconst 4, (0, 0, 0), 0)) (by decide +kernel)) (by decide) hc_z
    replace hc_z := rn_cmpT (am_cur_of (i := (85, 3, .if_icmp .ne 40, (64, 0, 0), 0)) (by decide +kernel)) (by decide) hc_z
    replace hc_z := rn_aload_n (am_cur_of (i := (125, 1, .aload_n 0, (0, 0, 0), 0)) (by decide +kernel)) g0_z hc_z
    replace hc_z := rn_getI (v := 0) (am_cur_of (i := (126, 3, .getfield 60, (4, 10, 419), 0)) (by decide +kernel)) (by decide +kernel) ka hc_z
    replace hc_z := rn_iconst (w := 2) (am_cur_of (i := (129, 1, .iconst 2, (0, 0, 0), 0)) (by decide +kernel)) (by decide) hc_z
    replace hc_z := rn_cmpT (am_cur_of (i := (130, 3, .if_icmp .ne 37, (84, 0, 0), 0)) (by decide +kernel)) (by decide) hc_z
    replace hc_z := rn_aload_n (am_cur_of (i := (167, 1, .aload_n 0, (0, 0, 0), 0)) (by decide +kernel)) g0_z hc_z
    replace hc_z := rn_iconst (w := 1) (am_cur_of (i := (168, 1, .iconst 1, (0, 0, 0), 0)) (by decide +kernel)) (by decide) hc_z
    replace hc_z := rn_callV (M' := am_m29) (o := 44) (ar := [.int 1]) (rest := []) (L := lv_args 0 [.ref 44, .int 1]) (am_cur_of (i := (169, 3, .invokevirtual 108, (29, 769, 3), 0)) (by decide +kernel)) rfl rfl rfl rfl hc_z
    obtain ⟨r417_z, h418_z, q419_z, hc_z⟩ := hc_z
    obtain ⟨rfl, yq419_z⟩ := rp_fail R4 q419_z
    subst yq419_z
    replace hc_z : rn _ _ _ _ [] _ _ _ := hc_z
    have K := rs_stick (w := 1) (q := p) (a := 51) (by decide) (by decide) rfl (by decide) rfl (show rg_v (am_up (am_up h 44 1 (.int 1)) 44 2 (.int (rg_v h 44 9))) 44 2 = p from R5) hc_z
    replace hm_z := rn_aload_n (am_cur_of (i := (0, 1, .aload_n 0, (0, 0, 0), 0)) (by decide +kernel)) g0m hm_z
    replace hm_z := rn_bipush (w := 40) (am_cur_of (i := (1, 2, .bipush 40, (0, 0, 0), 0)) (by decide +kernel)) (by decide) hm_z
    replace hm_z := rn_callV (M' := am_m171) (o := 164) (ar := [.int 40]) (rest := []) (L := lv_args 0 [.ref 164, .int 40]) (am_cur_of (i := (3, 3, .invokevirtual 194, (171, 1715, 3), 0)) (by decide +kernel)) rfl rfl rfl rfl hm_z
    obtain ⟨r420_z, h421_z, q422_z, hm_z⟩ := hm_z
    obtain ⟨rfl, yq422_z⟩ := rp_sgN (fun q => absurd (Eq.trans (Eq.symm kc) q.1) (by decide)) q422_z
    subst yq422_z
    replace hm_z : rn _ _ _ _ [.int 0] _ _ _ := hm_z
    replace hm_z := rn_ifT (am_cur_of (i := (6, 3, .ifCond .eq 44, (28, 0, 0), 0)) (by decide +kernel)) (by decide) hm_z
    replace hm_z := rn_aload_n (am_cur_of (i := (50, 1, .aload_n 0, (0, 0, 0), 0)) (by decide +kernel)) g0m hm_z
    replace hm_z := rn_bipush (w := 14) (am_cur_of (i := (51, 2, .bipush 14, (0, 0, 0), 0)) (by decide +kernel)) (by decide) hm_z
    replace hm_z := rn_callV (M' := am_m174) (o := 164) (ar := [.int 14]) (rest := []) (L := lv_args 0 [.ref 164, .int 14]) (am_cur_of (i := (53, 3, .invokevirtual 306, (174, 1727, 3), 0)) (by decide +kernel)) rfl rfl rfl rfl hm_z
    obtain ⟨r423_z, h424_z, q425_z, hm_z⟩ := hm_z
    obtain ⟨rfl, yq425_z⟩ := rp_kyN (fun q => absurd (Eq.trans (Eq.symm kc) q.1) (by decide)) q425_z
    subst yq425_z
    replace hm_z : rn _ _ _ _ [.int 0] _ _ _ := hm_z
    replace hm_z := rn_ifT (am_cur_of (i := (56, 3, .ifCond .eq 30, (47, 0, 0), 0)) (by decide +kernel)) (by decide) hm_z
    replace hm_z := rn_aload_n (am_cur_of (i := (86, 1, .aload_n 0, (0, 0, 0), 0)) (by decide +kernel)) g0m hm_z
    replace hm_z := rn_callV (M' := am_m176) (o := 164) (ar := []) (rest := []) (L := lv_args 0 [.ref 164]) (am_cur_of (i := (87, 3, .invokevirtual 312, (176, 1735, 3), 0)) (by decide +kernel)) rfl rfl rfl rfl hm_z
    obtain ⟨r426_z, h427_z, q428_z, hm_z⟩ := hm_z
    obtain ⟨rfl, yq428_z⟩ := rp_nm (c := 0) (d := rg_v g 164 9) kc rfl q428_z
    replace yq428_z := yq428_z.symm
    subst yq428_z
    rw [show rp_nmf 0 (rg_v g 164 9) = (-1) from by unfold rp_nmf; rw [if_neg (by decide)]] at hm_z
    replace hm_z : rn _ _ _ _ [.int (-1)] _ _ _ := hm_z
    replace hm_z := rn_istore_n (am_cur_of (i := (90, 1, .istore_n 1, (0, 0, 0), 0)) (by decide +kernel)) hm_z
    obtain ⟨_, s429_z, s430_z, g1m, hm_z⟩ := hm_z
    replace g0m := s429_z 0 _ (by decide) rfl g0m
    clear s429_z s430_z
    replace hm_z := rn_iload_n (am_cur_of (i := (91, 1, .iload_n 1, (0, 0, 0), 0)) (by decide +kernel)) g1m hm_z
    replace hm_z := rn_ifF (am_cur_of (i := (92, 3, .ifCond .ge 17, (60, 0, 0), 0)) (by decide +kernel)) (by decide) hm_z
    replace hm_z := rn_aload_n (am_cur_of (i := (95, 1, .aload_n 0, (0, 0, 0), 0)) (by decide +kernel)) g0m hm_z
    replace hm_z := rn_getI (v := 0) (am_cur_of (i := (96, 3, .getfield 157, (12, 8, 1392), 0)) (by decide +kernel)) (by decide +kernel) kc hm_z
    replace hm_z := rn_iconst (w := 3) (am_cur_of (i := (99, 1, .iconst 3, (0, 0, 0), 0)) (by decide +kernel)) (by decide) hm_z
    replace hm_z := rn_cmpF (am_cur_of (i := (100, 3, .if_icmp .eq 9, (60, 0, 0), 0)) (by decide +kernel)) (by decide) hm_z
    replace hm_z := rn_aload_n (am_cur_of (i := (103, 1, .aload_n 0, (0, 0, 0), 0)) (by decide +kernel)) g0m hm_z
    replace hm_z := rn_iconst (w := 1) (am_cur_of (i := (104, 1, .iconst 1, (0, 0, 0), 0)) (by decide +kernel)) (by decide) hm_z
    replace hm_z := rn_callV (M' := am_m158) (o := 164) (ar := [.int 1]) (rest := []) (L := lv_args 0 [.ref 164, .int 1]) (am_cur_of (i := (105, 3, .invokevirtual 181, (158, 1665, 3), 0)) (by decide +kernel)) rfl rfl rfl rfl hm_z
    obtain ⟨r431_z, h432_z, q433_z, hm_z⟩ := hm_z
    obtain ⟨rfl, yq433_z⟩ := rp_wrong q433_z
    subst yq433_z
    replace hm_z : rn _ _ _ _ [.int 0] _ _ _ := hm_z
    replace hm_z := rn_iret (am_cur_of (i := (108, 1, .ireturn, (0, 0, 0), 0)) (by decide +kernel)) hm_z
    obtain ⟨e434_z, e435_z⟩ := hm_z
    subst e434_z e435_z
    exact (Or.inr ⟨rfl, 1, by decide, K.1, K.2, rfl, R6⟩)
  · have g0_z : am_get (lv_args 0 [.ref 44, .int 0]) 0 = some (.ref 44) := rfl
    have g1_z : am_get (lv_args 0 [.ref 44, .int 0]) 1 = some (.int 0) := rfl
    have g0m : am_get (lv_args 0 [.ref 164]) 0 = some (.ref 164) := rfl
    have Rk := R
    have Zk := Z
    obtain ⟨⟨c1_z, c2_z, c3_z, c4_z, c5_z, c6_z, c7_z, c8_z⟩, ⟨m2_z, m3_z, m4_z, m5_z, m6_z, m7_z, m8_z⟩, R3, R4, R5, R6, R7, R8, R9, R10⟩ := (R : rq T S x p 2 h g)
    obtain ⟨np, op, z1_z, z2_z, z3_z, z4_z, z5_z, z6_z, z7_z, z8_z, z9_z, z10_z⟩ := (Z : rs 2 h g)
    obtain ⟨nk1_z, nk2_z, nk3_z⟩ := A.2.2.2.2.2.1
    replace nk1_z : rg_v h 11 0 = rg_v g 164 44 := nk1_z
    replace nk2_z : 0 ≤ (rg_v h 11 0).toInt := nk2_z
    replace nk3_z : (rg_v h 11 0).toInt ≤ 64 := nk3_z
    replace z8_z : np.toInt ≤ (rg_v h 11 0).toInt + op.toInt := z8_z
    obtain ⟨kn, ekn⟩ : ∃ v, rg_v h 11 0 = v := ⟨_, rfl⟩
    rw [ekn] at nk1_z nk2_z nk3_z z8_z
    have e9_z := rt_c1 (x := kn) (by omega) (by omega)
    replace hc_z := rn_aload_n (am_cur_of (i := (0, 1, .aload_n 0, (0, 0, 0), 0)) (by decide +kernel)) g0_z hc_z
    replace hc_z := rn_getI (v := 1) (am_cur_of (i := (1, 3, .getfield 60, (4, 10, 419), 0)) (by decide +kernel)) (by decide +kernel) ka hc_z
    replace hc_z := rn_bipush (w := 6) (am_cur_of (i := (4, 2, .bipush 6, (0, 0, 0), 0)) (by decide +kernel)) (by decide) hc_z
    replace hc_z := rn_cmpT (am_cur_of (i := (6, 3, .if_icmp .ne 30, (19, 0, 0), 0)) (by decide +kernel)) (by decide) hc_z
    replace hc_z := rn_aload_n (am_cur_of (i := (36, 1, .aload_n 0, (0, 0, 0), 0)) (by decide +kernel)) g0_z hc_z
    replace hc_z := rn_bipush (w := 40) (am_cur_of (i := (37, 2, .bipush 40, (0, 0, 0), 0)) (by decide +kernel)) (by decide) hc_z
    replace hc_z := rn_callV (M' := am_m45) (o := 44) (ar := [.int 40]) (rest := []) (L := lv_args 0 [.ref 44, .int 40]) (am_cur_of (i := (39, 3, .invokevirtual 105, (45, 834, 3), 0)) (by decide +kernel)) rfl rfl rfl rfl hc_z
    obtain ⟨r436_z, h437_z, q438_z, hc_z⟩ := hc_z
    obtain ⟨rfl, yq438_z⟩ := rp_mkN (fun q => absurd (Eq.trans (Eq.symm ka) q.1) (by decide)) q438_z
    subst yq438_z
    replace hc_z : rn _ _ _ _ [.int 0] _ _ _ := hc_z
    replace hc_z := rn_ifT (am_cur_of (i := (42, 3, .ifCond .eq 38, (43, 0, 0), 0)) (by decide +kernel)) (by decide) hc_z
    replace hc_z := rn_aload_n (am_cur_of (i := (80, 1, .aload_n 0, (0, 0, 0), 0)) (by decide +kernel)) g0_z hc_z
    replace hc_z := rn_getI (v := 1) (am_cur_of (i := (81, 3, .getfield 60, (4, 10, 419), 0)) (by decide +kernel)) (by decide +kernel) ka hc_z
    replace hc_z := rn_iconst (w := 4) (am_cur_of (i := (84, 1, .iconst 4, (0, 0, 0), 0)) (by decide +kernel)) (by decide) hc_z
    replace hc_z := rn_cmpT (am_cur_of (i := (85, 3, .if_icmp .ne 40, (64, 0, 0), 0)) (by decide +kernel)) (by decide) hc_z
    replace hc_z := rn_aload_n (am_cur_of (i := (125, 1, .aload_n 0, (0, 0, 0), 0)) (by decide +kernel)) g0_z hc_z
    replace hc_z := rn_getI (v := 1) (am_cur_of (i := (126, 3, .getfield 60, (4, 10, 419), 0)) (by decide +kernel)) (by decide +kernel) ka hc_z
    replace hc_z := rn_iconst (w := 2) (am_cur_of (i := (129, 1, .iconst 2, (0, 0, 0), 0)) (by decide +kernel)) (by decide) hc_z
    replace hc_z := rn_cmpT (am_cur_of (i := (130, 3, .if_icmp .ne 37, (84, 0, 0), 0)) (by decide +kernel)) (by decide) hc_z
    replace hc_z := rn_aload_n (am_cur_of (i := (167, 1, .aload_n 0, (0, 0, 0), 0)) (by decide +kernel)) g0_z hc_z
    replace hc_z := rn_iconst (w := 1) (am_cur_of (i := (168, 1, .iconst 1, (0, 0, 0), 0)) (by decide +kernel)) (by decide) hc_z
    replace hc_z := rn_callV (M' := am_m29) (o := 44) (ar := [.int 1]) (rest := []) (L := lv_args 0 [.ref 44, .int 1]) (am_cur_of (i := (169, 3, .invokevirtual 108, (29, 769, 3), 0)) (by decide +kernel)) rfl rfl rfl rfl hc_z
    obtain ⟨r439_z, h440_z, q441_z, hc_z⟩ := hc_z
    obtain ⟨rfl, yq441_z⟩ := rp_fail R4 q441_z
    subst yq441_z
    replace hc_z : rn _ _ _ _ [] _ _ _ := hc_z
    have K := rs_stick (w := 1) (q := p) (a := 51) (by decide) (by decide) rfl (by decide) rfl (show rg_v (am_up (am_up h 44 1 (.int 1)) 44 2 (.int (rg_v h 44 9))) 44 2 = p from R5) hc_z
    replace hm_z := rn_aload_n (am_cur_of (i := (0, 1, .aload_n 0, (0, 0, 0), 0)) (by decide +kernel)) g0m hm_z
    replace hm_z := rn_bipush (w := 40) (am_cur_of (i := (1, 2, .bipush 40, (0, 0, 0), 0)) (by decide +kernel)) (by decide) hm_z
    replace hm_z := rn_callV (M' := am_m171) (o := 164) (ar := [.int 40]) (rest := []) (L := lv_args 0 [.ref 164, .int 40]) (am_cur_of (i := (3, 3, .invokevirtual 194, (171, 1715, 3), 0)) (by decide +kernel)) rfl rfl rfl rfl hm_z
    obtain ⟨r442_z, h443_z, q444_z, hm_z⟩ := hm_z
    obtain ⟨rfl, yq444_z⟩ := rp_sgN (fun q => absurd (Eq.trans (Eq.symm kc) q.1) (by decide)) q444_z
    subst yq444_z
    replace hm_z : rn _ _ _ _ [.int 0] _ _ _ := hm_z
    replace hm_z := rn_ifT (am_cur_of (i := (6, 3, .ifCond .eq 44, (28, 0, 0), 0)) (by decide +kernel)) (by decide) hm_z
    replace hm_z := rn_aload_n (am_cur_of (i := (50, 1, .aload_n 0, (0, 0, 0), 0)) (by decide +kernel)) g0m hm_z
    replace hm_z := rn_bipush (w := 14) (am_cur_of (i := (51, 2, .bipush 14, (0, 0, 0), 0)) (by decide +kernel)) (by decide) hm_z
    replace hm_z := rn_callV (M' := am_m174) (o := 164) (ar := [.int 14]) (rest := []) (L := lv_args 0 [.ref 164, .int 14]) (am_cur_of (i := (53, 3, .invokevirtual 306, (174, 1727, 3), 0)) (by decide +kernel)) rfl rfl rfl rfl hm_z
    obtain ⟨r445_z, h446_z, q447_z, hm_z⟩ := hm_z
    obtain ⟨rfl, yq447_z⟩ := rp_kyN (fun q => absurd (Eq.trans (Eq.symm kc) q.1) (by decide)) q447_z
    subst yq447_z
    replace hm_z : rn _ _ _ _ [.int 0] _ _ _ := hm_z
    replace hm_z := rn_ifT (am_cur_of (i := (56, 3, .ifCond .eq 30, (47, 0, 0), 0)) (by decide +kernel)) (by decide) hm_z
    replace hm_z := rn_aload_n (am_cur_of (i := (86, 1, .aload_n 0, (0, 0, 0), 0)) (by decide +kernel)) g0m hm_z
    replace hm_z := rn_callV (M' := am_m176) (o := 164) (ar := []) (rest := []) (L := lv_args 0 [.ref 164]) (am_cur_of (i := (87, 3, .invokevirtual 312, (176, 1735, 3), 0)) (by decide +kernel)) rfl rfl rfl rfl hm_z
    obtain ⟨r448_z, h449_z, q450_z, hm_z⟩ := hm_z
    obtain ⟨rfl, yq450_z⟩ := rp_nm (c := 6) (d := rg_v g 164 9) kc rfl q450_z
    replace yq450_z := yq450_z.symm
    subst yq450_z
    rw [show rp_nmf 6 (rg_v g 164 9) = (-1) from by unfold rp_nmf; rw [if_neg (by decide)]] at hm_z
    replace hm_z : rn _ _ _ _ [.int (-1)] _ _ _ := hm_z
    replace hm_z := rn_istore_n (am_cur_of (i := (90, 1, .istore_n 1, (0, 0, 0), 0)) (by decide +kernel)) hm_z
    obtain ⟨_, s451_z, s452_z, g1m, hm_z⟩ := hm_z
    replace g0m := s451_z 0 _ (by decide) rfl g0m
    clear s451_z s452_z
    replace hm_z := rn_iload_n (am_cur_of (i := (91, 1, .iload_n 1, (0, 0, 0), 0)) (by decide +kernel)) g1m hm_z
    replace hm_z := rn_ifF (am_cur_of (i := (92, 3, .ifCond .ge 17, (60, 0, 0), 0)) (by decide +kernel)) (by decide) hm_z
    replace hm_z := rn_aload_n (am_cur_of (i := (95, 1, .aload_n 0, (0, 0, 0), 0)) (by decide +kernel)) g0m hm_z
    replace hm_z := rn_getI (v := 6) (am_cur_of (i := (96, 3, .getfield 157, (12, 8, 1392), 0)) (by decide +kernel)) (by decide +kernel) kc hm_z
    replace hm_z := rn_iconst (w := 3) (am_cur_of (i := (99, 1, .iconst 3, (0, 0, 0), 0)) (by decide +kernel)) (by decide) hm_z
    replace hm_z := rn_cmpF (am_cur_of (i := (100, 3, .if_icmp .eq 9, (60, 0, 0), 0)) (by decide +kernel)) (by decide) hm_z
    replace hm_z := rn_aload_n (am_cur_of (i := (103, 1, .aload_n 0, (0, 0, 0), 0)) (by decide +kernel)) g0m hm_z
    replace hm_z := rn_iconst (w := 1) (am_cur_of (i := (104, 1, .iconst 1, (0, 0, 0), 0)) (by decide +kernel)) (by decide) hm_z
    replace hm_z := rn_callV (M' := am_m158) (o := 164) (ar := [.int 1]) (rest := []) (L := lv_args 0 [.ref 164, .int 1]) (am_cur_of (i := (105, 3, .invokevirtual 181, (158, 1665, 3), 0)) (by decide +kernel)) rfl rfl rfl rfl hm_z
    obtain ⟨r453_z, h454_z, q455_z, hm_z⟩ := hm_z
    obtain ⟨rfl, yq455_z⟩ := rp_wrong q455_z
    subst yq455_z
    replace hm_z : rn _ _ _ _ [.int 0] _ _ _ := hm_z
    replace hm_z := rn_iret (am_cur_of (i := (108, 1, .ireturn, (0, 0, 0), 0)) (by decide +kernel)) hm_z
    obtain ⟨e456_z, e457_z⟩ := hm_z
    subst e456_z e457_z
    exact (Or.inr ⟨rfl, 1, by decide, K.1, K.2, rfl, R6⟩)
  · have g0_z : am_get (lv_args 0 [.ref 44, .int 0]) 0 = some (.ref 44) := rfl
    have g1_z : am_get (lv_args 0 [.ref 44, .int 0]) 1 = some (.int 0) := rfl
    have g0m : am_get (lv_args 0 [.ref 164]) 0 = some (.ref 164) := rfl
    have Rk := R
    have Zk := Z
    obtain ⟨⟨c1_z, c2_z, c3_z, c4_z, c5_z, c6_z, c7_z, c8_z⟩, ⟨m2_z, m3_z, m4_z, m5_z, m6_z, m7_z, m8_z⟩, R3, R4, R5, R6, R7, R8, R9, R10⟩ := (R : rq T S x p 2 h g)
    obtain ⟨np, op, z1_z, z2_z, z3_z, z4_z, z5_z, z6_z, z7_z, z8_z, z9_z, z10_z⟩ := (Z : rs 2 h g)
    obtain ⟨nk1_z, nk2_z, nk3_z⟩ := A.2.2.2.2.2.1
    replace nk1_z : rg_v h 11 0 = rg_v g 164 44 := nk1_z
    replace nk2_z : 0 ≤ (rg_v h 11 0).toInt := nk2_z
    replace nk3_z : (rg_v h 11 0).toInt ≤ 64 := nk3_z
    replace z8_z : np.toInt ≤ (rg_v h 11 0).toInt + op.toInt := z8_z
    obtain ⟨kn, ekn⟩ : ∃ v, rg_v h 11 0 = v := ⟨_, rfl⟩
    rw [ekn] at nk1_z nk2_z nk3_z z8_z
    have e9_z := rt_c1 (x := kn) (by omega) (by omega)
    replace hc_z := rn_aload_n (am_cur_of (i := (0, 1, .aload_n 0, (0, 0, 0), 0)) (by decide +kernel)) g0_z hc_z
    replace hc_z := rn_getI (v := 1) (am_cur_of (i := (1, 3, .getfield 60, (4, 10, 419), 0)) (by decide +kernel)) (by decide +kernel) ka hc_z
    replace hc_z := rn_bipush (w := 6) (am_cur_of (i := (4, 2, .bipush 6, (0, 0, 0), 0)) (by decide +kernel)) (by decide) hc_z
    replace hc_z := rn_cmpT (am_cur_of (i := (6, 3, .if_icmp .ne 30, (19, 0, 0), 0)) (by decide +kernel)) (by decide) hc_z
    replace hc_z := rn_aload_n (am_cur_of (i := (36, 1, .aload_n 0, (0, 0, 0), 0)) (by decide +kernel)) g0_z hc_z
    replace hc_z := rn_bipush (w := 40) (am_cur_of (i := (37, 2, .bipush 40, (0, 0, 0), 0)) (by decide +kernel)) (by decide) hc_z
    replace hc_z := rn_callV (M' := am_m45) (o := 44) (ar := [.int 40]) (rest := []) (L := lv_args 0 [.ref 44, .int 40]) (am_cur_of (i := (39, 3, .invokevirtual 105, (45, 834, 3), 0)) (by decide +kernel)) rfl rfl rfl rfl hc_z
    obtain ⟨r458_z, h459_z, q460_z, hc_z⟩ := hc_z
    obtain ⟨rfl, yq460_z⟩ := rp_mkN (fun q => absurd (Eq.trans (Eq.symm ka) q.1) (by decide)) q460_z
    subst yq460_z
    replace hc_z : rn _ _ _ _ [.int 0] _ _ _ := hc_z
    replace hc_z := rn_ifT (am_cur_of (i := (42, 3, .ifCond .eq 38, (43, 0, 0), 0)) (by decide +kernel)) (by decide) hc_z
    replace hc_z := rn_aload_n (am_cur_of (i := (80, 1, .aload_n 0, (0, 0, 0), 0)) (by decide +kernel)) g0_z hc_z
    replace hc_z := rn_getI (v := 1) (am_cur_of (i := (81, 3, .getfield 60, (4, 10, 419), 0)) (by decide +kernel)) (by decide +kernel) ka hc_z
    replace hc_z := rn_iconst (w := 4) (am_cur_of (i := (84, 1, .iconst 4, (0, 0, 0), 0)) (by decide +kernel)) (by decide) hc_z
    replace hc_z := rn_cmpT (am_cur_of (i := (85, 3, .if_icmp .ne 40, (64, 0, 0), 0)) (by decide +kernel)) (by decide) hc_z
    replace hc_z := rn_aload_n (am_cur_of (i := (125, 1, .aload_n 0, (0, 0, 0), 0)) (by decide +kernel)) g0_z hc_z
    replace hc_z := rn_getI (v := 1) (am_cur_of (i := (126, 3, .getfield 60, (4, 10, 419), 0)) (by decide +kernel)) (by decide +kernel) ka hc_z
    replace hc_z := rn_iconst (w := 2) (am_cur_of (i := (129, 1, .iconst 2, (0, 0, 0), 0)) (by decide +kernel)) (by decide) hc_z
    replace hc_z := rn_cmpT (am_cur_of (i := (130, 3, .if_icmp .ne 37, (84, 0, 0), 0)) (by decide +kernel)) (by decide) hc_z
    replace hc_z := rn_aload_n (am_cur_of (i := (167, 1, .aload_n 0, (0, 0, 0), 0)) (by decide +kernel)) g0_z hc_z
    replace hc_z := rn_iconst (w := 1) (am_cur_of (i := (168, 1, .iconst 1, (0, 0, 0), 0)) (by decide +kernel)) (by decide) hc_z
    replace hc_z := rn_callV (M' := am_m29) (o := 44) (ar := [.int 1]) (rest := []) (L := lv_args 0 [.ref 44, .int 1]) (am_cur_of (i := (169, 3, .invokevirtual 108, (29, 769, 3), 0)) (by decide +kernel)) rfl rfl rfl rfl hc_z
    obtain ⟨r461_z, h462_z, q463_z, hc_z⟩ := hc_z
    obtain ⟨rfl, yq463_z⟩ := rp_fail R4 q463_z
    subst yq463_z
    replace hc_z : rn _ _ _ _ [] _ _ _ := hc_z
    have K := rs_stick (w := 1) (q := p) (a := 51) (by decide) (by decide) rfl (by decide) rfl (show rg_v (am_up (am_up h 44 1 (.int 1)) 44 2 (.int (rg_v h 44 9))) 44 2 = p from R5) hc_z
    replace hm_z := rn_aload_n (am_cur_of (i := (0, 1, .aload_n 0, (0, 0, 0), 0)) (by decide +kernel)) g0m hm_z
    replace hm_z := rn_bipush (w := 40) (am_cur_of (i := (1, 2, .bipush 40, (0, 0, 0), 0)) (by decide +kernel)) (by decide) hm_z
    replace hm_z := rn_callV (M' := am_m171) (o := 164) (ar := [.int 40]) (rest := []) (L := lv_args 0 [.ref 164, .int 40]) (am_cur_of (i := (3, 3, .invokevirtual 194, (171, 1715, 3), 0)) (by decide +kernel)) rfl rfl rfl rfl hm_z
    obtain ⟨r464_z, h465_z, q466_z, hm_z⟩ := hm_z
    obtain ⟨rfl, yq466_z⟩ := rp_sgN (fun q => absurd (Eq.trans (Eq.symm kd) q.2) (by decide)) q466_z
    subst yq466_z
    replace hm_z : rn _ _ _ _ [.int 0] _ _ _ := hm_z
    replace hm_z := rn_ifT (am_cur_of (i := (6, 3, .ifCond .eq 44, (28, 0, 0), 0)) (by decide +kernel)) (by decide) hm_z
    replace hm_z := rn_aload_n (am_cur_of (i := (50, 1, .aload_n 0, (0, 0, 0), 0)) (by decide +kernel)) g0m hm_z
    replace hm_z := rn_bipush (w := 14) (am_cur_of (i := (51, 2, .bipush 14, (0, 0, 0), 0)) (by decide +kernel)) (by decide) hm_z
    replace hm_z := rn_callV (M' := am_m174) (o := 164) (ar := [.int 14]) (rest := []) (L := lv_args 0 [.ref 164, .int 14]) (am_cur_of (i := (53, 3, .invokevirtual 306, (174, 1727, 3), 0)) (by decide +kernel)) rfl rfl rfl rfl hm_z
    obtain ⟨r467_z, h468_z, q469_z, hm_z⟩ := hm_z
    obtain ⟨rfl, yq469_z⟩ := rp_kyN (fun q => absurd (Eq.trans (Eq.symm kc) q.1) (by decide)) q469_z
    subst yq469_z
    replace hm_z : rn _ _ _ _ [.int 0] _ _ _ := hm_z
    replace hm_z := rn_ifT (am_cur_of (i := (56, 3, .ifCond .eq 30, (47, 0, 0), 0)) (by decide +kernel)) (by decide) hm_z
    replace hm_z := rn_aload_n (am_cur_of (i := (86, 1, .aload_n 0, (0, 0, 0), 0)) (by decide +kernel)) g0m hm_z
    replace hm_z := rn_callV (M' := am_m176) (o := 164) (ar := []) (rest := []) (L := lv_args 0 [.ref 164]) (am_cur_of (i := (87, 3, .invokevirtual 312, (176, 1735, 3), 0)) (by decide +kernel)) rfl rfl rfl rfl hm_z
    obtain ⟨r470_z, h471_z, q472_z, hm_z⟩ := hm_z
    obtain ⟨rfl, yq472_z⟩ := rp_nm (c := 4) (d := 37) kc kd q472_z
    replace yq472_z := yq472_z.symm
    subst yq472_z
    rw [show rp_nmf 4 37 = (-1) from by unfold rp_nmf; rw [if_neg (by decide)]] at hm_z
    replace hm_z : rn _ _ _ _ [.int (-1)] _ _ _ := hm_z
    replace hm_z := rn_istore_n (am_cur_of (i := (90, 1, .istore_n 1, (0, 0, 0), 0)) (by decide +kernel)) hm_z
    obtain ⟨_, s473_z, s474_z, g1m, hm_z⟩ := hm_z
    replace g0m := s473_z 0 _ (by decide) rfl g0m
    clear s473_z s474_z
    replace hm_z := rn_iload_n (am_cur_of (i := (91, 1, .iload_n 1, (0, 0, 0), 0)) (by decide +kernel)) g1m hm_z
    replace hm_z := rn_ifF (am_cur_of (i := (92, 3, .ifCond .ge 17, (60, 0, 0), 0)) (by decide +kernel)) (by decide) hm_z
    replace hm_z := rn_aload_n (am_cur_of (i := (95, 1, .aload_n 0, (0, 0, 0), 0)) (by decide +kernel)) g0m hm_z
    replace hm_z := rn_getI (v := 4) (am_cur_of (i := (96, 3, .getfield 157, (12, 8, 1392), 0)) (by decide +kernel)) (by decide +kernel) kc hm_z
    replace hm_z := rn_iconst (w := 3) (am_cur_of (i := (99, 1, .iconst 3, (0, 0, 0), 0)) (by decide +kernel)) (by decide) hm_z
    replace hm_z := rn_cmpF (am_cur_of (i := (100, 3, .if_icmp .eq 9, (60, 0, 0), 0)) (by decide +kernel)) (by decide) hm_z
    replace hm_z := rn_aload_n (am_cur_of (i := (103, 1, .aload_n 0, (0, 0, 0), 0)) (by decide +kernel)) g0m hm_z
    replace hm_z := rn_iconst (w := 1) (am_cur_of (i := (104, 1, .iconst 1, (0, 0, 0), 0)) (by decide +kernel)) (by decide) hm_z
    replace hm_z := rn_callV (M' := am_m158) (o := 164) (ar := [.int 1]) (rest := []) (L := lv_args 0 [.ref 164, .int 1]) (am_cur_of (i := (105, 3, .invokevirtual 181, (158, 1665, 3), 0)) (by decide +kernel)) rfl rfl rfl rfl hm_z
    obtain ⟨r475_z, h476_z, q477_z, hm_z⟩ := hm_z
    obtain ⟨rfl, yq477_z⟩ := rp_wrong q477_z
    subst yq477_z
    replace hm_z : rn _ _ _ _ [.int 0] _ _ _ := hm_z
    replace hm_z := rn_iret (am_cur_of (i := (108, 1, .ireturn, (0, 0, 0), 0)) (by decide +kernel)) hm_z
    obtain ⟨e478_z, e479_z⟩ := hm_z
    subst e478_z e479_z
    exact (Or.inr ⟨rfl, 1, by decide, K.1, K.2, rfl, R6⟩)
  · have g0_z : am_get (lv_args 0 [.ref 44, .int 0]) 0 = some (.ref 44) := rfl
    have g1_z : am_get (lv_args 0 [.ref 44, .int 0]) 1 = some (.int 0) := rfl
    have g0m : am_get (lv_args 0 [.ref 164]) 0 = some (.ref 164) := rfl
    have Rk := R
    have Zk := Z
    obtain ⟨⟨c1_z, c2_z, c3_z, c4_z, c5_z, c6_z, c7_z, c8_z⟩, ⟨m2_z, m3_z, m4_z, m5_z, m6_z, m7_z, m8_z⟩, R3, R4, R5, R6, R7, R8, R9, R10⟩ := (R : rq T S x p 2 h g)
    obtain ⟨np, op, z1_z, z2_z, z3_z, z4_z, z5_z, z6_z, z7_z, z8_z, z9_z, z10_z⟩ := (Z : rs 2 h g)
    obtain ⟨nk1_z, nk2_z, nk3_z⟩ := A.2.2.2.2.2.1
    replace nk1_z : rg_v h 11 0 = rg_v g 164 44 := nk1_z
    replace nk2_z : 0 ≤ (rg_v h 11 0).toInt := nk2_z
    replace nk3_z : (rg_v h 11 0).toInt ≤ 64 := nk3_z
    replace z8_z : np.toInt ≤ (rg_v h 11 0).toInt + op.toInt := z8_z
    obtain ⟨kn, ekn⟩ : ∃ v, rg_v h 11 0 = v := ⟨_, rfl⟩
    rw [ekn] at nk1_z nk2_z nk3_z z8_z
    have e9_z := rt_c1 (x := kn) (by omega) (by omega)
    replace hc_z := rn_aload_n (am_cur_of (i := (0, 1, .aload_n 0, (0, 0, 0), 0)) (by decide +kernel)) g0_z hc_z
    replace hc_z := rn_getI (v := 2) (am_cur_of (i := (1, 3, .getfield 60, (4, 10, 419), 0)) (by decide +kernel)) (by decide +kernel) ka hc_z
    replace hc_z := rn_bipush (w := 6) (am_cur_of (i := (4, 2, .bipush 6, (0, 0, 0), 0)) (by decide +kernel)) (by decide) hc_z
    replace hc_z := rn_cmpT (am_cur_of (i := (6, 3, .if_icmp .ne 30, (19, 0, 0), 0)) (by decide +kernel)) (by decide) hc_z
    replace hc_z := rn_aload_n (am_cur_of (i := (36, 1, .aload_n 0, (0, 0, 0), 0)) (by decide +kernel)) g0_z hc_z
    replace hc_z := rn_bipush (w := 40) (am_cur_of (i := (37, 2, .bipush 40, (0, 0, 0), 0)) (by decide +kernel)) (by decide) hc_z
    replace hc_z := rn_callV (M' := am_m45) (o := 44) (ar := [.int 40]) (rest := []) (L := lv_args 0 [.ref 44, .int 40]) (am_cur_of (i := (39, 3, .invokevirtual 105, (45, 834, 3), 0)) (by decide +kernel)) rfl rfl rfl rfl hc_z
    obtain ⟨r480_z, h481_z, q482_z, hc_z⟩ := hc_z
    obtain ⟨rfl, yq482_z⟩ := rp_mkN (fun q => absurd (Eq.trans (Eq.symm ka) q.1) (by decide)) q482_z
    subst yq482_z
    replace hc_z : rn _ _ _ _ [.int 0] _ _ _ := hc_z
    replace hc_z := rn_ifT (am_cur_of (i := (42, 3, .ifCond .eq 38, (43, 0, 0), 0)) (by decide +kernel)) (by decide) hc_z
    replace hc_z := rn_aload_n (am_cur_of (i := (80, 1, .aload_n 0, (0, 0, 0), 0)) (by decide +kernel)) g0_z hc_z
    replace hc_z := rn_getI (v := 2) (am_cur_of (i := (81, 3, .getfield 60, (4, 10, 419), 0)) (by decide +kernel)) (by decide +kernel) ka hc_z
    replace hc_z := rn_iconst (w := 4) (am_cur_of (i := (84, 1, .iconst 4, (0, 0, 0), 0)) (by decide +kernel)) (by decide) hc_z
    replace hc_z := rn_cmpT (am_cur_of (i := (85, 3, .if_icmp .ne 40, (64, 0, 0), 0)) (by decide +kernel)) (by decide) hc_z
    replace hc_z := rn_aload_n (am_cur_of (i := (125, 1, .aload_n 0, (0, 0, 0), 0)) (by decide +kernel)) g0_z hc_z
    replace hc_z := rn_getI (v := 2) (am_cur_of (i := (126, 3, .getfield 60, (4, 10, 419), 0)) (by decide +kernel)) (by decide +kernel) ka hc_z
    replace hc_z := rn_iconst (w := 2) (am_cur_of (i := (129, 1, .iconst 2, (0, 0, 0), 0)) (by decide +kernel)) (by decide) hc_z
    replace hc_z := rn_cmpF (am_cur_of (i := (130, 3, .if_icmp .ne 37, (84, 0, 0), 0)) (by decide +kernel)) (by decide) hc_z
    replace hc_z := rn_aload_n (am_cur_of (i := (133, 1, .aload_n 0, (0, 0, 0), 0)) (by decide +kernel)) g0_z hc_z
    replace hc_z := rn_getI (v := rg_v h 44 11) (am_cur_of (i := (134, 3, .getfield 91, (4, 11, 420), 0)) (by decide +kernel)) (by decide +kernel) rfl hc_z
    replace hc_z := rn_bipush (w := 11) (am_cur_of (i := (137, 2, .bipush 11, (0, 0, 0), 0)) (by decide +kernel)) (by decide) hc_z
    replace hc_z := rn_cmp (am_cur_of (i := (139, 3, .if_icmp .lt 28, (84, 0, 0), 0)) (by decide +kernel)) hc_z
    rcases hc_z with ⟨b483_z, hc_z⟩ | ⟨b483_z, hc_z⟩
    · replace b483_z : (rg_v h 44 11).toInt < (11 : Int32).toInt := b483_z
      replace hc_z := rn_aload_n (am_cur_of (i := (167, 1, .aload_n 0, (0, 0, 0), 0)) (by decide +kernel)) g0_z hc_z
      replace hc_z := rn_iconst (w := 1) (am_cur_of (i := (168, 1, .iconst 1, (0, 0, 0), 0)) (by decide +kernel)) (by decide) hc_z
      replace hc_z := rn_callV (M' := am_m29) (o := 44) (ar := [.int 1]) (rest := []) (L := lv_args 0 [.ref 44, .int 1]) (am_cur_of (i := (169, 3, .invokevirtual 108, (29, 769, 3), 0)) (by decide +kernel)) rfl rfl rfl rfl hc_z
      obtain ⟨r484_z, h485_z, q486_z, hc_z⟩ := hc_z
      obtain ⟨rfl, yq486_z⟩ := rp_fail R4 q486_z
      subst yq486_z
      replace hc_z : rn _ _ _ _ [] _ _ _ := hc_z
      have K := rs_stick (w := 1) (q := p) (a := 51) (by decide) (by decide) rfl (by decide) rfl (show rg_v (am_up (am_up h 44 1 (.int 1)) 44 2 (.int (rg_v h 44 9))) 44 2 = p from R5) hc_z
      replace hm_z := rn_aload_n (am_cur_of (i := (0, 1, .aload_n 0, (0, 0, 0), 0)) (by decide +kernel)) g0m hm_z
      replace hm_z := rn_bipush (w := 40) (am_cur_of (i := (1, 2, .bipush 40, (0, 0, 0), 0)) (by decide +kernel)) (by decide) hm_z
      replace hm_z := rn_callV (M' := am_m171) (o := 164) (ar := [.int 40]) (rest := []) (L := lv_args 0 [.ref 164, .int 40]) (am_cur_of (i := (3, 3, .invokevirtual 194, (171, 1715, 3), 0)) (by decide +kernel)) rfl rfl rfl rfl hm_z
      obtain ⟨r487_z, h488_z, q489_z, hm_z⟩ := hm_z
      obtain ⟨rfl, yq489_z⟩ := rp_sgN (fun q => absurd (Eq.trans (Eq.symm kc) q.1) (by decide)) q489_z
      subst yq489_z
      replace hm_z : rn _ _ _ _ [.int 0] _ _ _ := hm_z
      replace hm_z := rn_ifT (am_cur_of (i := (6, 3, .ifCond .eq 44, (28, 0, 0), 0)) (by decide +kernel)) (by decide) hm_z
      replace hm_z := rn_aload_n (am_cur_of (i := (50, 1, .aload_n 0, (0, 0, 0), 0)) (by decide +kernel)) g0m hm_z
      replace hm_z := rn_bipush (w := 14) (am_cur_of (i := (51, 2, .bipush 14, (0, 0, 0), 0)) (by decide +kernel)) (by decide) hm_z
      replace hm_z := rn_callV (M' := am_m174) (o := 164) (ar := [.int 14]) (rest := []) (L := lv_args 0 [.ref 164, .int 14]) (am_cur_of (i := (53, 3, .invokevirtual 306, (174, 1727, 3), 0)) (by decide +kernel)) rfl rfl rfl rfl hm_z
      obtain ⟨r490_z, h491_z, q492_z, hm_z⟩ := hm_z
      obtain ⟨rfl, yq492_z⟩ := rp_kyN (fun q => by have zz := congrArg Int32.toInt q.2; have zy := congrArg Int32.toInt kd; have zx : (14 : Int32).toInt = 14 := (by decide); omega) q492_z
      subst yq492_z
      replace hm_z : rn _ _ _ _ [.int 0] _ _ _ := hm_z
      replace hm_z := rn_ifT (am_cur_of (i := (56, 3, .ifCond .eq 30, (47, 0, 0), 0)) (by decide +kernel)) (by decide) hm_z
      replace hm_z := rn_aload_n (am_cur_of (i := (86, 1, .aload_n 0, (0, 0, 0), 0)) (by decide +kernel)) g0m hm_z
      replace hm_z := rn_callV (M' := am_m176) (o := 164) (ar := []) (rest := []) (L := lv_args 0 [.ref 164]) (am_cur_of (i := (87, 3, .invokevirtual 312, (176, 1735, 3), 0)) (by decide +kernel)) rfl rfl rfl rfl hm_z
      obtain ⟨r493_z, h494_z, q495_z, hm_z⟩ := hm_z
      obtain ⟨rfl, yq495_z⟩ := rp_nm (c := 1) (d := rg_v g 164 9) kc rfl q495_z
      replace yq495_z := yq495_z.symm
      subst yq495_z
      rw [show rp_nmf 1 (rg_v g 164 9) = (-1) from by have zy := congrArg Int32.toInt kd; unfold rp_nmf; rw [if_pos rfl, if_neg (fun q => by have zz := congrArg Int32.toInt q; have zx : (11 : Int32).toInt = 11 := (by decide); omega), if_neg (by omega), if_neg (by omega)]] at hm_z
      replace hm_z : rn _ _ _ _ [.int (-1)] _ _ _ := hm_z
      replace hm_z := rn_istore_n (am_cur_of (i := (90, 1, .istore_n 1, (0, 0, 0), 0)) (by decide +kernel)) hm_z
      obtain ⟨_, s496_z, s497_z, g1m, hm_z⟩ := hm_z
      replace g0m := s496_z 0 _ (by decide) rfl g0m
      clear s496_z s497_z
      replace hm_z := rn_iload_n (am_cur_of (i := (91, 1, .iload_n 1, (0, 0, 0), 0)) (by decide +kernel)) g1m hm_z
      replace hm_z := rn_ifF (am_cur_of (i := (92, 3, .ifCond .ge 17, (60, 0, 0), 0)) (by decide +kernel)) (by decide) hm_z
      replace hm_z := rn_aload_n (am_cur_of (i := (95, 1, .aload_n 0, (0, 0, 0), 0)) (by decide +kernel)) g0m hm_z
      replace hm_z := rn_getI (v := 1) (am_cur_of (i := (96, 3, .getfield 157, (12, 8, 1392), 0)) (by decide +kernel)) (by decide +kernel) kc hm_z
      replace hm_z := rn_iconst (w := 3) (am_cur_of (i := (99, 1, .iconst 3, (0, 0, 0), 0)) (by decide +kernel)) (by decide) hm_z
      replace hm_z := rn_cmpF (am_cur_of (i := (100, 3, .if_icmp .eq 9, (60, 0, 0), 0)) (by decide +kernel)) (by decide) hm_z
      replace hm_z := rn_aload_n (am_cur_of (i := (103, 1, .aload_n 0, (0, 0, 0), 0)) (by decide +kernel)) g0m hm_z
      replace hm_z := rn_iconst (w := 1) (am_cur_of (i := (104, 1, .iconst 1, (0, 0, 0), 0)) (by decide +kernel)) (by decide) hm_z
      replace hm_z := rn_callV (M' := am_m158) (o := 164) (ar := [.int 1]) (rest := []) (L := lv_args 0 [.ref 164, .int 1]) (am_cur_of (i := (105, 3, .invokevirtual 181, (158, 1665, 3), 0)) (by decide +kernel)) rfl rfl rfl rfl hm_z
      obtain ⟨r498_z, h499_z, q500_z, hm_z⟩ := hm_z
      obtain ⟨rfl, yq500_z⟩ := rp_wrong q500_z
      subst yq500_z
      replace hm_z : rn _ _ _ _ [.int 0] _ _ _ := hm_z
      replace hm_z := rn_iret (am_cur_of (i := (108, 1, .ireturn, (0, 0, 0), 0)) (by decide +kernel)) hm_z
      obtain ⟨e501_z, e502_z⟩ := hm_z
      subst e501_z e502_z
      exact (Or.inr ⟨rfl, 1, by decide, K.1, K.2, rfl, R6⟩)
    · replace b483_z : (11 : Int32).toInt ≤ (rg_v h 44 11).toInt := b483_z
      omega
  · have g0_z : am_get (lv_args 0 [.ref 44, .int 0]) 0 = some (.ref 44) := rfl
    have g1_z : am_get (lv_args 0 [.ref 44, .int 0]) 1 = some (.int 0) := rfl
    have g0m : am_get (lv_args 0 [.ref 164]) 0 = some (.ref 164) := rfl
    have Rk := R
    have Zk := Z
    obtain ⟨⟨c1_z, c2_z, c3_z, c4_z, c5_z, c6_z, c7_z, c8_z⟩, ⟨m2_z, m3_z, m4_z, m5_z, m6_z, m7_z, m8_z⟩, R3, R4, R5, R6, R7, R8, R9, R10⟩ := (R : rq T S x p 2 h g)
    obtain ⟨np, op, z1_z, z2_z, z3_z, z4_z, z5_z, z6_z, z7_z, z8_z, z9_z, z10_z⟩ := (Z : rs 2 h g)
    obtain ⟨nk1_z, nk2_z, nk3_z⟩ := A.2.2.2.2.2.1
    replace nk1_z : rg_v h 11 0 = rg_v g 164 44 := nk1_z
    replace nk2_z : 0 ≤ (rg_v h 11 0).toInt := nk2_z
    replace nk3_z : (rg_v h 11 0).toInt ≤ 64 := nk3_z
    replace z8_z : np.toInt ≤ (rg_v h 11 0).toInt + op.toInt := z8_z
    obtain ⟨kn, ekn⟩ : ∃ v, rg_v h 11 0 = v := ⟨_, rfl⟩
    rw [ekn] at nk1_z nk2_z nk3_z z8_z
    have e9_z := rt_c1 (x := kn) (by omega) (by omega)
    replace hc_z := rn_aload_n (am_cur_of (i := (0, 1, .aload_n 0, (0, 0, 0), 0)) (by decide +kernel)) g0_z hc_z
    replace hc_z := rn_getI (v := 2) (am_cur_of (i := (1, 3, .getfield 60, (4, 10, 419), 0)) (by decide +kernel)) (by decide +kernel) ka hc_z
    replace hc_z := rn_bipush (w := 6) (am_cur_of (i := (4, 2, .bipush 6, (0, 0, 0), 0)) (by decide +kernel)) (by decide) hc_z
    replace hc_z := rn_cmpT (am_cur_of (i := (6, 3, .if_icmp .ne 30, (19, 0, 0), 0)) (by decide +kernel)) (by decide) hc_z
    replace hc_z := rn_aload_n (am_cur_of (i := (36, 1, .aload_n 0, (0, 0, 0), 0)) (by decide +kernel)) g0_z hc_z
    replace hc_z := rn_bipush (w := 40) (am_cur_of (i := (37, 2, .bipush 40, (0, 0, 0), 0)) (by decide +kernel)) (by decide) hc_z
    replace hc_z := rn_callV (M' := am_m45) (o := 44) (ar := [.int 40]) (rest := []) (L := lv_args 0 [.ref 44, .int 40]) (am_cur_of (i := (39, 3, .invokevirtual 105, (45, 834, 3), 0)) (by decide +kernel)) rfl rfl rfl rfl hc_z
    obtain ⟨r503_z, h504_z, q505_z, hc_z⟩ := hc_z
    obtain ⟨rfl, yq505_z⟩ := rp_mkN (fun q => absurd (Eq.trans (Eq.symm ka) q.1) (by decide)) q505_z
    subst yq505_z
    replace hc_z : rn _ _ _ _ [.int 0] _ _ _ := hc_z
    replace hc_z := rn_ifT (am_cur_of (i := (42, 3, .ifCond .eq 38, (43, 0, 0), 0)) (by decide +kernel)) (by decide) hc_z
    replace hc_z := rn_aload_n (am_cur_of (i := (80, 1, .aload_n 0, (0, 0, 0), 0)) (by decide +kernel)) g0_z hc_z
    replace hc_z := rn_getI (v := 2) (am_cur_of (i := (81, 3, .getfield 60, (4, 10, 419), 0)) (by decide +kernel)) (by decide +kernel) ka hc_z
    replace hc_z := rn_iconst (w := 4) (am_cur_of (i := (84, 1, .iconst 4, (0, 0, 0), 0)) (by decide +kernel)) (by decide) hc_z
    replace hc_z := rn_cmpT (am_cur_of (i := (85, 3, .if_icmp .ne 40, (64, 0, 0), 0)) (by decide +kernel)) (by decide) hc_z
    replace hc_z := rn_aload_n (am_cur_of (i := (125, 1, .aload_n 0, (0, 0, 0), 0)) (by decide +kernel)) g0_z hc_z
    replace hc_z := rn_getI (v := 2) (am_cur_of (i := (126, 3, .getfield 60, (4, 10, 419), 0)) (by decide +kernel)) (by decide +kernel) ka hc_z
    replace hc_z := rn_iconst (w := 2) (am_cur_of (i := (129, 1, .iconst 2, (0, 0, 0), 0)) (by decide +kernel)) (by decide) hc_z
    replace hc_z := rn_cmpF (am_cur_of (i := (130, 3, .if_icmp .ne 37, (84, 0, 0), 0)) (by decide +kernel)) (by decide) hc_z
    replace hc_z := rn_aload_n (am_cur_of (i := (133, 1, .aload_n 0, (0, 0, 0), 0)) (by decide +kernel)) g0_z hc_z
    replace hc_z := rn_getI (v := 11) (am_cur_of (i := (134, 3, .getfield 91, (4, 11, 420), 0)) (by decide +kernel)) (by decide +kernel) kb hc_z
    replace hc_z := rn_bipush (w := 11) (am_cur_of (i := (137, 2, .bipush 11, (0, 0, 0), 0)) (by decide +kernel)) (by decide) hc_z
    replace hc_z := rn_cmpF (am_cur_of (i := (139, 3, .if_icmp .lt 28, (84, 0, 0), 0)) (by decide +kernel)) (by decide) hc_z
    replace hc_z := rn_aload_n (am_cur_of (i := (142, 1, .aload_n 0, (0, 0, 0), 0)) (by decide +kernel)) g0_z hc_z
    replace hc_z := rn_callV (M' := am_m49) (o := 44) (ar := []) (rest := []) (L := lv_args 0 [.ref 44]) (am_cur_of (i := (143, 3, .invokevirtual 270, (49, 852, 3), 0)) (by decide +kernel)) rfl rfl rfl rfl hc_z
    obtain ⟨r506_z, h507_z, q508_z, hc_z⟩ := hc_z
    rcases rs_ck2 R4 (show h 44 6 = .ref 2 from R3) q508_z with ⟨ge, rfl, eh⟩ | ⟨lt, rfl, eh⟩
    · subst eh
      replace ge : 64 ≤ kn.toInt := by rw [← ekn]; exact ge
      replace hc_z : rn _ _ _ _ [] _ _ _ := hc_z
      have K := rs_stick (w := 2) (q := p) (a := 51) (by decide) (by decide) rfl (by decide) rfl (show rg_v (am_up (am_up h 44 1 (.int 2)) 44 2 (.int (rg_v h 44 9))) 44 2 = p from R5) hc_z
      replace hm_z := rn_aload_n (am_cur_of (i := (0, 1, .aload_n 0, (0, 0, 0), 0)) (by decide +kernel)) g0m hm_z
      replace hm_z := rn_bipush (w := 40) (am_cur_of (i := (1, 2, .bipush 40, (0, 0, 0), 0)) (by decide +kernel)) (by decide) hm_z
      replace hm_z := rn_callV (M' := am_m171) (o := 164) (ar := [.int 40]) (rest := []) (L := lv_args 0 [.ref 164, .int 40]) (am_cur_of (i := (3, 3, .invokevirtual 194, (171, 1715, 3), 0)) (by decide +kernel)) rfl rfl rfl rfl hm_z
      obtain ⟨r509_z, h510_z, q511_z, hm_z⟩ := hm_z
      obtain ⟨rfl, yq511_z⟩ := rp_sgN (fun q => absurd (Eq.trans (Eq.symm kc) q.1) (by decide)) q511_z
      subst yq511_z
      replace hm_z : rn _ _ _ _ [.int 0] _ _ _ := hm_z
      replace hm_z := rn_ifT (am_cur_of (i := (6, 3, .ifCond .eq 44, (28, 0, 0), 0)) (by decide +kernel)) (by decide) hm_z
      replace hm_z := rn_aload_n (am_cur_of (i := (50, 1, .aload_n 0, (0, 0, 0), 0)) (by decide +kernel)) g0m hm_z
      replace hm_z := rn_bipush (w := 14) (am_cur_of (i := (51, 2, .bipush 14, (0, 0, 0), 0)) (by decide +kernel)) (by decide) hm_z
      replace hm_z := rn_callV (M' := am_m174) (o := 164) (ar := [.int 14]) (rest := []) (L := lv_args 0 [.ref 164, .int 14]) (am_cur_of (i := (53, 3, .invokevirtual 306, (174, 1727, 3), 0)) (by decide +kernel)) rfl rfl rfl rfl hm_z
      obtain ⟨r512_z, h513_z, q514_z, hm_z⟩ := hm_z
      obtain ⟨rfl, yq514_z⟩ := rp_kyN (fun q => absurd (Eq.trans (Eq.symm kd) q.2) (by decide)) q514_z
      subst yq514_z
      replace hm_z : rn _ _ _ _ [.int 0] _ _ _ := hm_z
      replace hm_z := rn_ifT (am_cur_of (i := (56, 3, .ifCond .eq 30, (47, 0, 0), 0)) (by decide +kernel)) (by decide) hm_z
      replace hm_z := rn_aload_n (am_cur_of (i := (86, 1, .aload_n 0, (0, 0, 0), 0)) (by decide +kernel)) g0m hm_z
      replace hm_z := rn_callV (M' := am_m176) (o := 164) (ar := []) (rest := []) (L := lv_args 0 [.ref 164]) (am_cur_of (i := (87, 3, .invokevirtual 312, (176, 1735, 3), 0)) (by decide +kernel)) rfl rfl rfl rfl hm_z
      obtain ⟨r515_z, h516_z, q517_z, hm_z⟩ := hm_z
      obtain ⟨rfl, yq517_z⟩ := rp_nm (c := 1) (d := 11) kc kd q517_z
      replace yq517_z := yq517_z.symm
      subst yq517_z
      rw [show rp_nmf 1 11 = 3 from by decide] at hm_z
      replace hm_z : rn _ _ _ _ [.int 3] _ _ _ := hm_z
      replace hm_z := rn_istore_n (am_cur_of (i := (90, 1, .istore_n 1, (0, 0, 0), 0)) (by decide +kernel)) hm_z
      obtain ⟨_, s518_z, s519_z, g1m, hm_z⟩ := hm_z
      replace g0m := s518_z 0 _ (by decide) rfl g0m
      clear s518_z s519_z
      replace hm_z := rn_iload_n (am_cur_of (i := (91, 1, .iload_n 1, (0, 0, 0), 0)) (by decide +kernel)) g1m hm_z
      replace hm_z := rn_ifT (am_cur_of (i := (92, 3, .ifCond .ge 17, (60, 0, 0), 0)) (by decide +kernel)) (by decide) hm_z
      replace hm_z := rn_iload_n (am_cur_of (i := (109, 1, .iload_n 1, (0, 0, 0), 0)) (by decide +kernel)) g1m hm_z
      replace hm_z := rn_ifT (am_cur_of (i := (110, 3, .ifCond .ge 19, (70, 0, 0), 0)) (by decide +kernel)) (by decide) hm_z
      replace hm_z := rn_aload_n (am_cur_of (i := (129, 1, .aload_n 0, (0, 0, 0), 0)) (by decide +kernel)) g0m hm_z
      replace hm_z := rn_callV (M' := am_m175) (o := 164) (ar := []) (rest := []) (L := lv_args 0 [.ref 164]) (am_cur_of (i := (130, 3, .invokevirtual 309, (175, 1731, 3), 0)) (by decide +kernel)) rfl rfl rfl rfl hm_z
      obtain ⟨r520_z, h521_z, q522_z, hm_z⟩ := hm_z
      rcases rs_ic q522_z with ⟨i1_z, rfl, i3_z⟩ | ⟨i1_z, -⟩
      · subst i3_z
        replace hm_z : rn _ _ _ _ [.int 0] _ _ _ := hm_z
        replace hm_z := rn_ifF (am_cur_of (i := (133, 3, .ifCond .ne 5, (75, 0, 0), 0)) (by decide +kernel)) (by decide) hm_z
        replace hm_z := rn_iconst (w := 0) (am_cur_of (i := (136, 1, .iconst 0, (0, 0, 0), 0)) (by decide +kernel)) (by decide) hm_z
        replace hm_z := rn_iret (am_cur_of (i := (137, 1, .ireturn, (0, 0, 0), 0)) (by decide +kernel)) hm_z
        obtain ⟨e523_z, e524_z⟩ := hm_z
        subst e523_z e524_z
        exact (Or.inr ⟨rfl, 2, by decide, K.1, K.2, rfl, R6⟩)
      · exact absurd (Int32.toInt_inj.mp (show (rg_v g 164 44).toInt = (64 : Int32).toInt from by rw [show rg_v g 164 44 = kn from nk1_z.symm, show (64 : Int32).toInt = 64 by decide]; omega)) i1_z
    · subst eh
      replace lt : kn.toInt < 64 := by rw [← ekn]; exact lt
      rw [show rg_v h 11 0 = kn from ekn] at hc_z
      replace hm_z := rn_aload_n (am_cur_of (i := (0, 1, .aload_n 0, (0, 0, 0), 0)) (by decide +kernel)) g0m hm_z
      replace hm_z := rn_bipush (w := 40) (am_cur_of (i := (1, 2, .bipush 40, (0, 0, 0), 0)) (by decide +kernel)) (by decide) hm_z
      replace hm_z := rn_callV (M' := am_m171) (o := 164) (ar := [.int 40]) (rest := []) (L := lv_args 0 [.ref 164, .int 40]) (am_cur_of (i := (3, 3, .invokevirtual 194, (171, 1715, 3), 0)) (by decide +kernel)) rfl rfl rfl rfl hm_z
      obtain ⟨r525_z, h526_z, q527_z, hm_z⟩ := hm_z
      obtain ⟨rfl, yq527_z⟩ := rp_sgN (fun q => absurd (Eq.trans (Eq.symm kc) q.1) (by decide)) q527_z
      subst yq527_z
      replace hm_z : rn _ _ _ _ [.int 0] _ _ _ := hm_z
      replace hm_z := rn_ifT (am_cur_of (i := (6, 3, .ifCond .eq 44, (28, 0, 0), 0)) (by decide +kernel)) (by decide) hm_z
      replace hm_z := rn_aload_n (am_cur_of (i := (50, 1, .aload_n 0, (0, 0, 0), 0)) (by decide +kernel)) g0m hm_z
      replace hm_z := rn_bipush (w := 14) (am_cur_of (i := (51, 2, .bipush 14, (0, 0, 0), 0)) (by decide +kernel)) (by decide) hm_z
      replace hm_z := rn_callV (M' := am_m174) (o := 164) (ar := [.int 14]) (rest := []) (L := lv_args 0 [.ref 164, .int 14]) (am_cur_of (i := (53, 3, .invokevirtual 306, (174, 1727, 3), 0)) (by decide +kernel)) rfl rfl rfl rfl hm_z
      obtain ⟨r528_z, h529_z, q530_z, hm_z⟩ := hm_z
      obtain ⟨rfl, yq530_z⟩ := rp_kyN (fun q => absurd (Eq.trans (Eq.symm kd) q.2) (by decide)) q530_z
      subst yq530_z
      replace hm_z : rn _ _ _ _ [.int 0] _ _ _ := hm_z
      replace hm_z := rn_ifT (am_cur_of (i := (56, 3, .ifCond .eq 30, (47, 0, 0), 0)) (by decide +kernel)) (by decide) hm_z
      replace hm_z := rn_aload_n (am_cur_of (i := (86, 1, .aload_n 0, (0, 0, 0), 0)) (by decide +kernel)) g0m hm_z
      replace hm_z := rn_callV (M' := am_m176) (o := 164) (ar := []) (rest := []) (L := lv_args 0 [.ref 164]) (am_cur_of (i := (87, 3, .invokevirtual 312, (176, 1735, 3), 0)) (by decide +kernel)) rfl rfl rfl rfl hm_z
      obtain ⟨r531_z, h532_z, q533_z, hm_z⟩ := hm_z
      obtain ⟨rfl, yq533_z⟩ := rp_nm (c := 1) (d := 11) kc kd q533_z
      replace yq533_z := yq533_z.symm
      subst yq533_z
      rw [show rp_nmf 1 11 = 3 from by decide] at hm_z
      replace hm_z : rn _ _ _ _ [.int 3] _ _ _ := hm_z
      replace hm_z := rn_istore_n (am_cur_of (i := (90, 1, .istore_n 1, (0, 0, 0), 0)) (by decide +kernel)) hm_z
      obtain ⟨_, s534_z, s535_z, g1m, hm_z⟩ := hm_z
      replace g0m := s534_z 0 _ (by decide) rfl g0m
      clear s534_z s535_z
      replace hm_z := rn_iload_n (am_cur_of (i := (91, 1, .iload_n 1, (0, 0, 0), 0)) (by decide +kernel)) g1m hm_z
      replace hm_z := rn_ifT (am_cur_of (i := (92, 3, .ifCond .ge 17, (60, 0, 0), 0)) (by decide +kernel)) (by decide) hm_z
      replace hm_z := rn_iload_n (am_cur_of (i := (109, 1, .iload_n 1, (0, 0, 0), 0)) (by decide +kernel)) g1m hm_z
      replace hm_z := rn_ifT (am_cur_of (i := (110, 3, .ifCond .ge 19, (70, 0, 0), 0)) (by decide +kernel)) (by decide) hm_z
      replace hm_z := rn_aload_n (am_cur_of (i := (129, 1, .aload_n 0, (0, 0, 0), 0)) (by decide +kernel)) g0m hm_z
      replace hm_z := rn_callV (M' := am_m175) (o := 164) (ar := []) (rest := []) (L := lv_args 0 [.ref 164]) (am_cur_of (i := (130, 3, .invokevirtual 309, (175, 1731, 3), 0)) (by decide +kernel)) rfl rfl rfl rfl hm_z
      obtain ⟨r536_z, h537_z, q538_z, hm_z⟩ := hm_z
      rcases rs_ic q538_z with ⟨i1_z, -⟩ | ⟨i1_z, rfl, i3_z⟩
      · exfalso
        have zz := congrArg Int32.toInt i1_z
        rw [show rg_v g 164 44 = kn from nk1_z.symm, show (64 : Int32).toInt = 64 by decide] at zz
        omega
      · subst i3_z
        rw [show rg_v g 164 44 = kn from nk1_z.symm] at hm_z
        replace hm_z : rn _ _ _ _ [.int 1] _ _ _ := hm_z
        replace hc_z : rn _ _ _ _ [] _ _ _ := hc_z
        replace hc_z := rn_aload_n (am_cur_of (i := (146, 1, .aload_n 0, (0, 0, 0), 0)) (by decide +kernel)) g0_z hc_z
        replace hc_z := rn_getM (x := 2) (am_cur_of (i := (147, 3, .getfield 25, (4, 6, 415), 0)) (by decide +kernel)) (show (am_up h 11 0 (.int (kn + 1))) 44 6 = .ref 2 from R3) hc_z
        replace hc_z := rn_getR (x := 11) (am_cur_of (i := (150, 3, .getfield 242, (1, 19, 316), 0)) (by decide +kernel)) (by decide +kernel) hc_z
        replace hc_z := rn_iconst (w := 1) (am_cur_of (i := (153, 1, .iconst 1, (0, 0, 0), 0)) (by decide +kernel)) (by decide) hc_z
        replace hc_z := rn_aload_n (am_cur_of (i := (154, 1, .aload_n 0, (0, 0, 0), 0)) (by decide +kernel)) g0_z hc_z
        replace hc_z := rn_getI (v := 11) (am_cur_of (i := (155, 3, .getfield 91, (4, 11, 420), 0)) (by decide +kernel)) (by decide +kernel) (show rg_v (am_up h 11 0 (.int (kn + 1))) 44 11 = 11 from kb) hc_z
        replace hc_z := rn_bipush (w := 11) (am_cur_of (i := (158, 2, .bipush 11, (0, 0, 0), 0)) (by decide +kernel)) (by decide) hc_z
        replace hc_z := rn_isub (w := 0) (am_cur_of (i := (160, 1, .isub, (0, 0, 0), 0)) (by decide +kernel)) (by decide) hc_z
        replace hc_z := rn_callV (M' := am_m48) (o := 11) (ar := [.int 0, .int 1]) (rest := []) (L := lv_args 0 [.ref 11, .int 1, .int 0]) (am_cur_of (i := (161, 3, .invokevirtual 276, (48, 845, 3), 0)) (by decide +kernel)) rfl rfl rfl rfl hc_z
        obtain ⟨r539_z, h540_z, q541_z, hc_z⟩ := hc_z
        obtain ⟨rfl, PF⟩ := rs_put2 q541_z
        replace hc_z : rn _ _ _ _ [] _ _ _ := hc_z
        replace hc_z := rn_goto (am_cur_of (i := (164, 3, .goto 8, (87, 0, 0), 0)) (by decide +kernel)) hc_z
        replace hc_z := rn_aload_n (am_cur_of (i := (172, 1, .aload_n 0, (0, 0, 0), 0)) (by decide +kernel)) g0_z hc_z
        replace hc_z := rn_callV (M' := am_m19) (o := 44) (ar := []) (rest := []) (L := lv_args 0 [.ref 44]) (am_cur_of (i := (173, 3, .invokevirtual 57, (19, 727, 3), 0)) (by decide +kernel)) rfl rfl rfl rfl hc_z
        obtain ⟨r542_z, h543_z, q544_z, hc_z⟩ := hc_z
        have vo := rn_void rfl q544_z
        subst vo
        replace hm_z := rn_ifT (am_cur_of (i := (133, 3, .ifCond .ne 5, (75, 0, 0), 0)) (by decide +kernel)) (by decide) hm_z
        replace hm_z := rn_aload_n (am_cur_of (i := (138, 1, .aload_n 0, (0, 0, 0), 0)) (by decide +kernel)) g0m hm_z
        replace hm_z := rn_iload_n (am_cur_of (i := (139, 1, .iload_n 1, (0, 0, 0), 0)) (by decide +kernel)) g1m hm_z
        replace hm_z := rn_ifF (am_cur_of (i := (140, 3, .ifCond .lt 7, (80, 0, 0), 0)) (by decide +kernel)) (by decide) hm_z
        replace hm_z := rn_iconst (w := 1) (am_cur_of (i := (143, 1, .iconst 1, (0, 0, 0), 0)) (by decide +kernel)) (by decide) hm_z
        replace hm_z := rn_goto (am_cur_of (i := (144, 3, .goto 4, (81, 0, 0), 0)) (by decide +kernel)) hm_z
        replace hm_z := rn_iload_n (am_cur_of (i := (148, 1, .iload_n 1, (0, 0, 0), 0)) (by decide +kernel)) g1m hm_z
        replace hm_z := rn_ifF (am_cur_of (i := (149, 3, .ifCond .lt 7, (85, 0, 0), 0)) (by decide +kernel)) (by decide) hm_z
        replace hm_z := rn_iload_n (am_cur_of (i := (152, 1, .iload_n 1, (0, 0, 0), 0)) (by decide +kernel)) g1m hm_z
        replace hm_z := rn_goto (am_cur_of (i := (153, 3, .goto 7, (87, 0, 0), 0)) (by decide +kernel)) hm_z
        replace hm_z := rn_iconst (w := 0) (am_cur_of (i := (160, 1, .iconst 0, (0, 0, 0), 0)) (by decide +kernel)) (by decide) hm_z
        replace hm_z := rn_callV (M' := am_m177) (o := 164) (ar := [.int 0, .int 3, .int 1]) (rest := []) (L := lv_args 0 [.ref 164, .int 1, .int 3, .int 0]) (am_cur_of (i := (161, 3, .invokevirtual 291, (177, 1739, 3), 0)) (by decide +kernel)) rfl rfl rfl rfl hm_z
        obtain ⟨r545_z, h546_z, q547_z, hm_z⟩ := hm_z
        obtain ⟨rfl, GF⟩ := rs_grown q547_z
        replace hm_z : rn _ _ _ _ [] _ _ _ := hm_z
        replace hm_z := rn_aload_n (am_cur_of (i := (164, 1, .aload_n 0, (0, 0, 0), 0)) (by decide +kernel)) g0m hm_z
        replace hm_z := rn_iconst (w := 0) (am_cur_of (i := (165, 1, .iconst 0, (0, 0, 0), 0)) (by decide +kernel)) (by decide) hm_z
        replace hm_z := rn_put (am_cur_of (i := (166, 3, .putfield 315, (12, 45, 1429), 0)) (by decide +kernel)) (by decide +kernel) hm_z
        replace hm_z := rn_aload_n (am_cur_of (i := (169, 1, .aload_n 0, (0, 0, 0), 0)) (by decide +kernel)) g0m hm_z
        replace hm_z := rn_callV (M' := am_m151) (o := 164) (ar := []) (rest := []) (L := lv_args 0 [.ref 164]) (am_cur_of (i := (170, 3, .invokevirtual 191, (151, 1636, 3), 0)) (by decide +kernel)) rfl rfl rfl rfl hm_z
        obtain ⟨r548_z, h549_z, q550_z, hm_z⟩ := hm_z
        have vo := rn_void rfl q550_z
        subst vo
        have FC : ab_Fr (rz_MC2.drop 1) h h540_z := ab_Fr_trans (ab_Fr_up rfl ab_Fr_refl) (ab_Fr_sub (by decide) PF)
        have FC' : ab_Fr rz_MC2 h h540_z := ab_Fr_sub (by decide) FC
        have FM : ab_Fr rz_MM g (am_up h546_z 164 45 (.int 0)) := ab_Fr_up rfl (ab_Fr_trans (ab_Fr_up rfl ab_Fr_refl) (ab_Fr_sub (by decide) GF))
        obtain ⟨-, -, x2_z, p2_z, R2, le2_z, t5_z, t6_z⟩ := pr_tok (rz_q02 (rq_0 Rk) FC' FM) q544_z q550_z
        have A2 := rp_x (by decide) (rz_p2 A FC' FM ((show rg_v h540_z 11 0 = kn + 1 from ((rg_v_fr PF (by decide)).trans (show rg_v (am_up h 11 0 (.int (kn + 1))) 11 0 = kn + 1 from rfl))).trans (show rg_v (am_up h546_z 164 45 (.int 0)) 164 44 = kn + 1 from (show rg_v (am_up h546_z 164 45 (.int 0)) 164 44 = kn + 1 from ((rg_v_fr GF (by decide)).trans (show rg_v (am_up g 164 44 (.int (kn + 1))) 164 44 = kn + 1 from rfl)))).symm) (by rw [show rg_v h540_z 11 0 = kn + 1 from ((rg_v_fr PF (by decide)).trans (show rg_v (am_up h 11 0 (.int (kn + 1))) 11 0 = kn + 1 from rfl))]; omega) (by rw [show rg_v h540_z 11 0 = kn + 1 from ((rg_v_fr PF (by decide)).trans (show rg_v (am_up h 11 0 (.int (kn + 1))) 11 0 = kn + 1 from rfl))]; omega)) (rx_C_f t5_z) (rx_M_f t6_z)
        have B2 := rp_tk (rz_t2 B FC FM) (rg_v_fr t5_z (by decide)) (fun k => rg_v_fr t6_z (rg_v_in (by decide) k)) (rx_M_f t6_z)
        have FC47 : ab_Fr [(44, 14), (44, 15), (11, 1), (11, 2), (12, 0), (13, 0)] h h540_z := ab_Fr_trans (ab_Fr_up rfl ab_Fr_refl) (ab_Fr_sub (by decide) PF)
        have FM184 : ab_Fr [(164, 42), (164, 43), (164, 44), (164, 45), (164, 46), (164, 47), (164, 22), (181, 0), (182, 0), (183, 0), (185, 0)] g (am_up h546_z 164 45 (.int 0)) := ab_Fr_up rfl (ab_Fr_trans (ab_Fr_up rfl ab_Fr_refl) (ab_Fr_sub (by decide) GF))
        have Z2 : rs 2 h540_z (am_up h546_z 164 45 (.int 0)) := rs_keep Zk ((show rg_v h540_z 44 13 = np from ((rg_v_fr PF (by decide)).trans (show rg_v (am_up h 11 0 (.int (kn + 1))) 44 13 = np from z1_z))).trans z1_z.symm) ((show rg_v (am_up h546_z 164 45 (.int 0)) 164 41 = np from (show rg_v (am_up h546_z 164 45 (.int 0)) 164 41 = np from ((rg_v_fr GF (by decide)).trans (show rg_v (am_up g 164 44 (.int (kn + 1))) 164 41 = np from z2_z)))).trans z2_z.symm) ((show rg_v h540_z 44 14 = op from ((rg_v_fr PF (by decide)).trans (show rg_v (am_up h 11 0 (.int (kn + 1))) 44 14 = op from z4_z))).trans z4_z.symm) ((show rg_v (am_up h546_z 164 45 (.int 0)) 164 43 = op from (show rg_v (am_up h546_z 164 45 (.int 0)) 164 43 = op from ((rg_v_fr GF (by decide)).trans (show rg_v (am_up g 164 44 (.int (kn + 1))) 164 43 = op from z5_z)))).trans z5_z.symm) (show (rg_v h 11 0).toInt ≤ (rg_v h540_z 11 0).toInt by rw [(show rg_v h540_z 11 0 = kn + 1 from ((rg_v_fr PF (by decide)).trans (show rg_v (am_up h 11 0 (.int (kn + 1))) 11 0 = kn + 1 from rfl))), ekn]; omega) (fun k => rg_v_fr FC47 (rg_v_in (by decide) k)) (fun k => rg_v_fr FM184 (rg_v_in (by decide) k))
        replace Z2 := rs_fr (by decide) Z2 t5_z t6_z
        have e45_z : rg_v h549_z 164 45 = 0 := (rg_v_fr t6_z (by decide)).trans (show rg_v (am_up h546_z 164 45 (.int 0)) 164 45 = 0 from (show rg_v (am_up h546_z 164 45 (.int 0)) 164 45 = 0 from rfl))
        have e46_z : rg_v h549_z 164 46 = 1 := (rg_v_fr t6_z (by decide)).trans (show rg_v (am_up h546_z 164 45 (.int 0)) 164 46 = 1 from (show rg_v (am_up h546_z 164 45 (.int 0)) 164 46 = 1 from ((rg_v_fr GF (by decide)).trans (show rg_v (am_up g 164 44 (.int (kn + 1))) 164 46 = 1 from w2_z))))
        replace hm_z : rn _ _ _ _ [] _ _ _ := hm_z
        replace hc_z : rn _ _ _ _ [] _ _ _ := hc_z
        replace hc_z := rn_iconst (w := 2) (am_cur_of (i := (176, 1, .iconst 2, (0, 0, 0), 0)) (by decide +kernel)) (by decide) hc_z
        replace hc_z := rn_iret (am_cur_of (i := (177, 1, .ireturn, (0, 0, 0), 0)) (by decide +kernel)) hc_z
        obtain ⟨e551_z, e552_z⟩ := hc_z
        replace hm_z := rn_iconst (w := 1) (am_cur_of (i := (173, 1, .iconst 1, (0, 0, 0), 0)) (by decide +kernel)) (by decide) hm_z
        replace hm_z := rn_iret (am_cur_of (i := (174, 1, .ireturn, (0, 0, 0), 0)) (by decide +kernel)) hm_z
        obtain ⟨e553_z, e554_z⟩ := hm_z
        subst e551_z e552_z e553_z e554_z
        exact Or.inl ⟨_, x2_z, p2_z, rfl, rfl, R2, le2_z, A2, B2, Z2, Or.inr (Or.inr ⟨rfl, e45_z⟩)⟩
  · have g0_z : am_get (lv_args 0 [.ref 44, .int 0]) 0 = some (.ref 44) := rfl
    have g1_z : am_get (lv_args 0 [.ref 44, .int 0]) 1 = some (.int 0) := rfl
    have g0m : am_get (lv_args 0 [.ref 164]) 0 = some (.ref 164) := rfl
    have Rk := R
    have Zk := Z
    obtain ⟨⟨c1_z, c2_z, c3_z, c4_z, c5_z, c6_z, c7_z, c8_z⟩, ⟨m2_z, m3_z, m4_z, m5_z, m6_z, m7_z, m8_z⟩, R3, R4, R5, R6, R7, R8, R9, R10⟩ := (R : rq T S x p 2 h g)
    obtain ⟨np, op, z1_z, z2_z, z3_z, z4_z, z5_z, z6_z, z7_z, z8_z, z9_z, z10_z⟩ := (Z : rs 2 h g)
    obtain ⟨nk1_z, nk2_z, nk3_z⟩ := A.2.2.2.2.2.1
    replace nk1_z : rg_v h 11 0 = rg_v g 164 44 := nk1_z
    replace nk2_z : 0 ≤ (rg_v h 11 0).toInt := nk2_z
    replace nk3_z : (rg_v h 11 0).toInt ≤ 64 := nk3_z
    replace z8_z : np.toInt ≤ (rg_v h 11 0).toInt + op.toInt := z8_z
    obtain ⟨kn, ekn⟩ : ∃ v, rg_v h 11 0 = v := ⟨_, rfl⟩
    rw [ekn] at nk1_z nk2_z nk3_z z8_z
    have e9_z := rt_c1 (x := kn) (by omega) (by omega)
    replace hc_z := rn_aload_n (am_cur_of (i := (0, 1, .aload_n 0, (0, 0, 0), 0)) (by decide +kernel)) g0_z hc_z
    replace hc_z := rn_getI (v := 2) (am_cur_of (i := (1, 3, .getfield 60, (4, 10, 419), 0)) (by decide +kernel)) (by decide +kernel) ka hc_z
    replace hc_z := rn_bipush (w := 6) (am_cur_of (i := (4, 2, .bipush 6, (0, 0, 0), 0)) (by decide +kernel)) (by decide) hc_z
    replace hc_z := rn_cmpT (am_cur_of (i := (6, 3, .if_icmp .ne 30, (19, 0, 0), 0)) (by decide +kernel)) (by decide) hc_z
    replace hc_z := rn_aload_n (am_cur_of (i := (36, 1, .aload_n 0, (0, 0, 0), 0)) (by decide +kernel)) g0_z hc_z
    replace hc_z := rn_bipush (w := 40) (am_cur_of (i := (37, 2, .bipush 40, (0, 0, 0), 0)) (by decide +kernel)) (by decide) hc_z
    replace hc_z := rn_callV (M' := am_m45) (o := 44) (ar := [.int 40]) (rest := []) (L := lv_args 0 [.ref 44, .int 40]) (am_cur_of (i := (39, 3, .invokevirtual 105, (45, 834, 3), 0)) (by decide +kernel)) rfl rfl rfl rfl hc_z
    obtain ⟨r555_z, h556_z, q557_z, hc_z⟩ := hc_z
    obtain ⟨rfl, yq557_z⟩ := rp_mkN (fun q => absurd (Eq.trans (Eq.symm ka) q.1) (by decide)) q557_z
    subst yq557_z
    replace hc_z : rn _ _ _ _ [.int 0] _ _ _ := hc_z
    replace hc_z := rn_ifT (am_cur_of (i := (42, 3, .ifCond .eq 38, (43, 0, 0), 0)) (by decide +kernel)) (by decide) hc_z
    replace hc_z := rn_aload_n (am_cur_of (i := (80, 1, .aload_n 0, (0, 0, 0), 0)) (by decide +kernel)) g0_z hc_z
    replace hc_z := rn_getI (v := 2) (am_cur_of (i := (81, 3, .getfield 60, (4, 10, 419), 0)) (by decide +kernel)) (by decide +kernel) ka hc_z
    replace hc_z := rn_iconst (w := 4) (am_cur_of (i := (84, 1, .iconst 4, (0, 0, 0), 0)) (by decide +kernel)) (by decide) hc_z
    replace hc_z := rn_cmpT (am_cur_of (i := (85, 3, .if_icmp .ne 40, (64, 0, 0), 0)) (by decide +kernel)) (by decide) hc_z
    replace hc_z := rn_aload_n (am_cur_of (i := (125, 1, .aload_n 0, (0, 0, 0), 0)) (by decide +kernel)) g0_z hc_z
    replace hc_z := rn_getI (v := 2) (am_cur_of (i := (126, 3, .getfield 60, (4, 10, 419), 0)) (by decide +kernel)) (by decide +kernel) ka hc_z
    replace hc_z := rn_iconst (w := 2) (am_cur_of (i := (129, 1, .iconst 2, (0, 0, 0), 0)) (by decide +kernel)) (by decide) hc_z
    replace hc_z := rn_cmpF (am_cur_of (i := (130, 3, .if_icmp .ne 37, (84, 0, 0), 0)) (by decide +kernel)) (by decide) hc_z
    replace hc_z := rn_aload_n (am_cur_of (i := (133, 1, .aload_n 0, (0, 0, 0), 0)) (by decide +kernel)) g0_z hc_z
    replace hc_z := rn_getI (v := 12) (am_cur_of (i := (134, 3, .getfield 91, (4, 11, 420), 0)) (by decide +kernel)) (by decide +kernel) kb hc_z
    replace hc_z := rn_bipush (w := 11) (am_cur_of (i := (137, 2, .bipush 11, (0, 0, 0), 0)) (by decide +kernel)) (by decide) hc_z
    replace hc_z := rn_cmpF (am_cur_of (i := (139, 3, .if_icmp .lt 28, (84, 0, 0), 0)) (by decide +kernel)) (by decide) hc_z
    replace hc_z := rn_aload_n (am_cur_of (i := (142, 1, .aload_n 0, (0, 0, 0), 0)) (by decide +kernel)) g0_z hc_z
    replace hc_z := rn_callV (M' := am_m49) (o := 44) (ar := []) (rest := []) (L := lv_args 0 [.ref 44]) (am_cur_of (i := (143, 3, .invokevirtual 270, (49, 852, 3), 0)) (by decide +kernel)) rfl rfl rfl rfl hc_z
    obtain ⟨r558_z, h559_z, q560_z, hc_z⟩ := hc_z
    rcases rs_ck2 R4 (show h 44 6 = .ref 2 from R3) q560_z with ⟨ge, rfl, eh⟩ | ⟨lt, rfl, eh⟩
    · subst eh
      replace ge : 64 ≤ kn.toInt := by rw [← ekn]; exact ge
      replace hc_z : rn _ _ _ _ [] _ _ _ := hc_z
      have K := rs_stick (w := 2) (q := p) (a := 51) (by decide) (by decide) rfl (by decide) rfl (show rg_v (am_up (am_up h 44 1 (.int 2)) 44 2 (.int (rg_v h 44 9))) 44 2 = p from R5) hc_z
      replace hm_z := rn_aload_n (am_cur_of (i := (0, 1, .aload_n 0, (0, 0, 0), 0)) (by decide +kernel)) g0m hm_z
      replace hm_z := rn_bipush (w := 40) (am_cur_of (i := (1, 2, .bipush 40, (0, 0, 0), 0)) (by decide +kernel)) (by decide) hm_z
      replace hm_z := rn_callV (M' := am_m171) (o := 164) (ar := [.int 40]) (rest := []) (L := lv_args 0 [.ref 164, .int 40]) (am_cur_of (i := (3, 3, .invokevirtual 194, (171, 1715, 3), 0)) (by decide +kernel)) rfl rfl rfl rfl hm_z
      obtain ⟨r561_z, h562_z, q563_z, hm_z⟩ := hm_z
      obtain ⟨rfl, yq563_z⟩ := rp_sgN (fun q => absurd (Eq.trans (Eq.symm kc) q.1) (by decide)) q563_z
      subst yq563_z
      replace hm_z : rn _ _ _ _ [.int 0] _ _ _ := hm_z
      replace hm_z := rn_ifT (am_cur_of (i := (6, 3, .ifCond .eq 44, (28, 0, 0), 0)) (by decide +kernel)) (by decide) hm_z
      replace hm_z := rn_aload_n (am_cur_of (i := (50, 1, .aload_n 0, (0, 0, 0), 0)) (by decide +kernel)) g0m hm_z
      replace hm_z := rn_bipush (w := 14) (am_cur_of (i := (51, 2, .bipush 14, (0, 0, 0), 0)) (by decide +kernel)) (by decide) hm_z
      replace hm_z := rn_callV (M' := am_m174) (o := 164) (ar := [.int 14]) (rest := []) (L := lv_args 0 [.ref 164, .int 14]) (am_cur_of (i := (53, 3, .invokevirtual 306, (174, 1727, 3), 0)) (by decide +kernel)) rfl rfl rfl rfl hm_z
      obtain ⟨r564_z, h565_z, q566_z, hm_z⟩ := hm_z
      obtain ⟨rfl, yq566_z⟩ := rp_kyN (fun q => absurd (Eq.trans (Eq.symm kd) q.2) (by decide)) q566_z
      subst yq566_z
      replace hm_z : rn _ _ _ _ [.int 0] _ _ _ := hm_z
      replace hm_z := rn_ifT (am_cur_of (i := (56, 3, .ifCond .eq 30, (47, 0, 0), 0)) (by decide +kernel)) (by decide) hm_z
      replace hm_z := rn_aload_n (am_cur_of (i := (86, 1, .aload_n 0, (0, 0, 0), 0)) (by decide +kernel)) g0m hm_z
      replace hm_z := rn_callV (M' := am_m176) (o := 164) (ar := []) (rest := []) (L := lv_args 0 [.ref 164]) (am_cur_of (i := (87, 3, .invokevirtual 312, (176, 1735, 3), 0)) (by decide +kernel)) rfl rfl rfl rfl hm_z
      obtain ⟨r567_z, h568_z, q569_z, hm_z⟩ := hm_z
      obtain ⟨rfl, yq569_z⟩ := rp_nm (c := 1) (d := 15) kc kd q569_z
      replace yq569_z := yq569_z.symm
      subst yq569_z
      rw [show rp_nmf 1 15 = 0 from by decide] at hm_z
      replace hm_z : rn _ _ _ _ [.int 0] _ _ _ := hm_z
      replace hm_z := rn_istore_n (am_cur_of (i := (90, 1, .istore_n 1, (0, 0, 0), 0)) (by decide +kernel)) hm_z
      obtain ⟨_, s570_z, s571_z, g1m, hm_z⟩ := hm_z
      replace g0m := s570_z 0 _ (by decide) rfl g0m
      clear s570_z s571_z
      replace hm_z := rn_iload_n (am_cur_of (i := (91, 1, .iload_n 1, (0, 0, 0), 0)) (by decide +kernel)) g1m hm_z
      replace hm_z := rn_ifT (am_cur_of (i := (92, 3, .ifCond .ge 17, (60, 0, 0), 0)) (by decide +kernel)) (by decide) hm_z
      replace hm_z := rn_iload_n (am_cur_of (i := (109, 1, .iload_n 1, (0, 0, 0), 0)) (by decide +kernel)) g1m hm_z
      replace hm_z := rn_ifT (am_cur_of (i := (110, 3, .ifCond .ge 19, (70, 0, 0), 0)) (by decide +kernel)) (by decide) hm_z
      replace hm_z := rn_aload_n (am_cur_of (i := (129, 1, .aload_n 0, (0, 0, 0), 0)) (by decide +kernel)) g0m hm_z
      replace hm_z := rn_callV (M' := am_m175) (o := 164) (ar := []) (rest := []) (L := lv_args 0 [.ref 164]) (am_cur_of (i := (130, 3, .invokevirtual 309, (175, 1731, 3), 0)) (by decide +kernel)) rfl rfl rfl rfl hm_z
      obtain ⟨r572_z, h573_z, q574_z, hm_z⟩ := hm_z
      rcases rs_ic q574_z with ⟨i1_z, rfl, i3_z⟩ | ⟨i1_z, -⟩
      · subst i3_z
        replace hm_z : rn _ _ _ _ [.int 0] _ _ _ := hm_z
        replace hm_z := rn_ifF (am_cur_of (i := (133, 3, .ifCond .ne 5, (75, 0, 0), 0)) (by decide +kernel)) (by decide) hm_z
        replace hm_z := rn_iconst (w := 0) (am_cur_of (i := (136, 1, .iconst 0, (0, 0, 0), 0)) (by decide +kernel)) (by decide) hm_z
        replace hm_z := rn_iret (am_cur_of (i := (137, 1, .ireturn, (0, 0, 0), 0)) (by decide +kernel)) hm_z
        obtain ⟨e575_z, e576_z⟩ := hm_z
        subst e575_z e576_z
        exact (Or.inr ⟨rfl, 2, by decide, K.1, K.2, rfl, R6⟩)
      · exact absurd (Int32.toInt_inj.mp (show (rg_v g 164 44).toInt = (64 : Int32).toInt from by rw [show rg_v g 164 44 = kn from nk1_z.symm, show (64 : Int32).toInt = 64 by decide]; omega)) i1_z
    · subst eh
      replace lt : kn.toInt < 64 := by rw [← ekn]; exact lt
      rw [show rg_v h 11 0 = kn from ekn] at hc_z
      replace hm_z := rn_aload_n (am_cur_of (i := (0, 1, .aload_n 0, (0, 0, 0), 0)) (by decide +kernel)) g0m hm_z
      replace hm_z := rn_bipush (w := 40) (am_cur_of (i := (1, 2, .bipush 40, (0, 0, 0), 0)) (by decide +kernel)) (by decide) hm_z
      replace hm_z := rn_callV (M' := am_m171) (o := 164) (ar := [.int 40]) (rest := []) (L := lv_args 0 [.ref 164, .int 40]) (am_cur_of (i := (3, 3, .invokevirtual 194, (171, 1715, 3), 0)) (by decide +kernel)) rfl rfl rfl rfl hm_z
      obtain ⟨r577_z, h578_z, q579_z, hm_z⟩ := hm_z
      obtain ⟨rfl, yq579_z⟩ := rp_sgN (fun q => absurd (Eq.trans (Eq.symm kc) q.1) (by decide)) q579_z
      subst yq579_z
      replace hm_z : rn _ _ _ _ [.int 0] _ _ _ := hm_z
      replace hm_z := rn_ifT (am_cur_of (i := (6, 3, .ifCond .eq 44, (28, 0, 0), 0)) (by decide +kernel)) (by decide) hm_z
      replace hm_z := rn_aload_n (am_cur_of (i := (50, 1, .aload_n 0, (0, 0, 0), 0)) (by decide +kernel)) g0m hm_z
      replace hm_z := rn_bipush (w := 14) (am_cur_of (i := (51, 2, .bipush 14, (0, 0, 0), 0)) (by decide +kernel)) (by decide) hm_z
      replace hm_z := rn_callV (M' := am_m174) (o := 164) (ar := [.int 14]) (rest := []) (L := lv_args 0 [.ref 164, .int 14]) (am_cur_of (i := (53, 3, .invokevirtual 306, (174, 1727, 3), 0)) (by decide +kernel)) rfl rfl rfl rfl hm_z
      obtain ⟨r580_z, h581_z, q582_z, hm_z⟩ := hm_z
      obtain ⟨rfl, yq582_z⟩ := rp_kyN (fun q => absurd (Eq.trans (Eq.symm kd) q.2) (by decide)) q582_z
      subst yq582_z
      replace hm_z : rn _ _ _ _ [.int 0] _ _ _ := hm_z
      replace hm_z := rn_ifT (am_cur_of (i := (56, 3, .ifCond .eq 30, (47, 0, 0), 0)) (by decide +kernel)) (by decide) hm_z
      replace hm_z := rn_aload_n (am_cur_of (i := (86, 1, .aload_n 0, (0, 0, 0), 0)) (by decide +kernel)) g0m hm_z
      replace hm_z := rn_callV (M' := am_m176) (o := 164) (ar := []) (rest := []) (L := lv_args 0 [.ref 164]) (am_cur_of (i := (87, 3, .invokevirtual 312, (176, 1735, 3), 0)) (by decide +kernel)) rfl rfl rfl rfl hm_z
      obtain ⟨r583_z, h584_z, q585_z, hm_z⟩ := hm_z
      obtain ⟨rfl, yq585_z⟩ := rp_nm (c := 1) (d := 15) kc kd q585_z
      replace yq585_z := yq585_z.symm
      subst yq585_z
      rw [show rp_nmf 1 15 = 0 from by decide] at hm_z
      replace hm_z : rn _ _ _ _ [.int 0] _ _ _ := hm_z
      replace hm_z := rn_istore_n (am_cur_of (i := (90, 1, .istore_n 1, (0, 0, 0), 0)) (by decide +kernel)) hm_z
      obtain ⟨_, s586_z, s587_z, g1m, hm_z⟩ := hm_z
      replace g0m := s586_z 0 _ (by decide) rfl g0m
      clear s586_z s587_z
      replace hm_z := rn_iload_n (am_cur_of (i := (91, 1, .iload_n 1, (0, 0, 0), 0)) (by decide +kernel)) g1m hm_z
      replace hm_z := rn_ifT (am_cur_of (i := (92, 3, .ifCond .ge 17, (60, 0, 0), 0)) (by decide +kernel)) (by decide) hm_z
      replace hm_z := rn_iload_n (am_cur_of (i := (109, 1, .iload_n 1, (0, 0, 0), 0)) (by decide +kernel)) g1m hm_z
      replace hm_z := rn_ifT (am_cur_of (i := (110, 3, .ifCond .ge 19, (70, 0, 0), 0)) (by decide +kernel)) (by decide) hm_z
      replace hm_z := rn_aload_n (am_cur_of (i := (129, 1, .aload_n 0, (0, 0, 0), 0)) (by decide +kernel)) g0m hm_z
      replace hm_z := rn_callV (M' := am_m175) (o := 164) (ar := []) (rest := []) (L := lv_args 0 [.ref 164]) (am_cur_of (i := (130, 3, .invokevirtual 309, (175, 1731, 3), 0)) (by decide +kernel)) rfl rfl rfl rfl hm_z
      obtain ⟨r588_z, h589_z, q590_z, hm_z⟩ := hm_z
      rcases rs_ic q590_z with ⟨i1_z, -⟩ | ⟨i1_z, rfl, i3_z⟩
      · exfalso
        have zz := congrArg Int32.toInt i1_z
        rw [show rg_v g 164 44 = kn from nk1_z.symm, show (64 : Int32).toInt = 64 by decide] at zz
        omega
      · subst i3_z
        rw [show rg_v g 164 44 = kn from nk1_z.symm] at hm_z
        replace hm_z : rn _ _ _ _ [.int 1] _ _ _ := hm_z
        replace hc_z : rn _ _ _ _ [] _ _ _ := hc_z
        replace hc_z := rn_aload_n (am_cur_of (i := (146, 1, .aload_n 0, (0, 0, 0), 0)) (by decide +kernel)) g0_z hc_z
        replace hc_z := rn_getM (x := 2) (am_cur_of (i := (147, 3, .getfield 25, (4, 6, 415), 0)) (by decide +kernel)) (show (am_up h 11 0 (.int (kn + 1))) 44 6 = .ref 2 from R3) hc_z
        replace hc_z := rn_getR (x := 11) (am_cur_of (i := (150, 3, .getfield 242, (1, 19, 316), 0)) (by decide +kernel)) (by decide +kernel) hc_z
        replace hc_z := rn_iconst (w := 1) (am_cur_of (i := (153, 1, .iconst 1, (0, 0, 0), 0)) (by decide +kernel)) (by decide) hc_z
        replace hc_z := rn_aload_n (am_cur_of (i := (154, 1, .aload_n 0, (0, 0, 0), 0)) (by decide +kernel)) g0_z hc_z
        replace hc_z := rn_getI (v := 12) (am_cur_of (i := (155, 3, .getfield 91, (4, 11, 420), 0)) (by decide +kernel)) (by decide +kernel) (show rg_v (am_up h 11 0 (.int (kn + 1))) 44 11 = 12 from kb) hc_z
        replace hc_z := rn_bipush (w := 11) (am_cur_of (i := (158, 2, .bipush 11, (0, 0, 0), 0)) (by decide +kernel)) (by decide) hc_z
        replace hc_z := rn_isub (w := 1) (am_cur_of (i := (160, 1, .isub, (0, 0, 0), 0)) (by decide +kernel)) (by decide) hc_z
        replace hc_z := rn_callV (M' := am_m48) (o := 11) (ar := [.int 1, .int 1]) (rest := []) (L := lv_args 0 [.ref 11, .int 1, .int 1]) (am_cur_of (i := (161, 3, .invokevirtual 276, (48, 845, 3), 0)) (by decide +kernel)) rfl rfl rfl rfl hc_z
        obtain ⟨r591_z, h592_z, q593_z, hc_z⟩ := hc_z
        obtain ⟨rfl, PF⟩ := rs_put2 q593_z
        replace hc_z : rn _ _ _ _ [] _ _ _ := hc_z
        replace hc_z := rn_goto (am_cur_of (i := (164, 3, .goto 8, (87, 0, 0), 0)) (by decide +kernel)) hc_z
        replace hc_z := rn_aload_n (am_cur_of (i := (172, 1, .aload_n 0, (0, 0, 0), 0)) (by decide +kernel)) g0_z hc_z
        replace hc_z := rn_callV (M' := am_m19) (o := 44) (ar := []) (rest := []) (L := lv_args 0 [.ref 44]) (am_cur_of (i := (173, 3, .invokevirtual 57, (19, 727, 3), 0)) (by decide +kernel)) rfl rfl rfl rfl hc_z
        obtain ⟨r594_z, h595_z, q596_z, hc_z⟩ := hc_z
        have vo := rn_void rfl q596_z
        subst vo
        replace hm_z := rn_ifT (am_cur_of (i := (133, 3, .ifCond .ne 5, (75, 0, 0), 0)) (by decide +kernel)) (by decide) hm_z
        replace hm_z := rn_aload_n (am_cur_of (i := (138, 1, .aload_n 0, (0, 0, 0), 0)) (by decide +kernel)) g0m hm_z
        replace hm_z := rn_iload_n (am_cur_of (i := (139, 1, .iload_n 1, (0, 0, 0), 0)) (by decide +kernel)) g1m hm_z
        replace hm_z := rn_ifF (am_cur_of (i := (140, 3, .ifCond .lt 7, (80, 0, 0), 0)) (by decide +kernel)) (by decide) hm_z
        replace hm_z := rn_iconst (w := 1) (am_cur_of (i := (143, 1, .iconst 1, (0, 0, 0), 0)) (by decide +kernel)) (by decide) hm_z
        replace hm_z := rn_goto (am_cur_of (i := (144, 3, .goto 4, (81, 0, 0), 0)) (by decide +kernel)) hm_z
        replace hm_z := rn_iload_n (am_cur_of (i := (148, 1, .iload_n 1, (0, 0, 0), 0)) (by decide +kernel)) g1m hm_z
        replace hm_z := rn_ifF (am_cur_of (i := (149, 3, .ifCond .lt 7, (85, 0, 0), 0)) (by decide +kernel)) (by decide) hm_z
        replace hm_z := rn_iload_n (am_cur_of (i := (152, 1, .iload_n 1, (0, 0, 0), 0)) (by decide +kernel)) g1m hm_z
        replace hm_z := rn_goto (am_cur_of (i := (153, 3, .goto 7, (87, 0, 0), 0)) (by decide +kernel)) hm_z
        replace hm_z := rn_iconst (w := 0) (am_cur_of (i := (160, 1, .iconst 0, (0, 0, 0), 0)) (by decide +kernel)) (by decide) hm_z
        replace hm_z := rn_callV (M' := am_m177) (o := 164) (ar := [.int 0, .int 0, .int 1]) (rest := []) (L := lv_args 0 [.ref 164, .int 1, .int 0, .int 0]) (am_cur_of (i := (161, 3, .invokevirtual 291, (177, 1739, 3), 0)) (by decide +kernel)) rfl rfl rfl rfl hm_z
        obtain ⟨r597_z, h598_z, q599_z, hm_z⟩ := hm_z
        obtain ⟨rfl, GF⟩ := rs_grown q599_z
        replace hm_z : rn _ _ _ _ [] _ _ _ := hm_z
        replace hm_z := rn_aload_n (am_cur_of (i := (164, 1, .aload_n 0, (0, 0, 0), 0)) (by decide +kernel)) g0m hm_z
        replace hm_z := rn_iconst (w := 0) (am_cur_of (i := (165, 1, .iconst 0, (0, 0, 0), 0)) (by decide +kernel)) (by decide) hm_z
        replace hm_z := rn_put (am_cur_of (i := (166, 3, .putfield 315, (12, 45, 1429), 0)) (by decide +kernel)) (by decide +kernel) hm_z
        replace hm_z := rn_aload_n (am_cur_of (i := (169, 1, .aload_n 0, (0, 0, 0), 0)) (by decide +kernel)) g0m hm_z
        replace hm_z := rn_callV (M' := am_m151) (o := 164) (ar := []) (rest := []) (L := lv_args 0 [.ref 164]) (am_cur_of (i := (170, 3, .invokevirtual 191, (151, 1636, 3), 0)) (by decide +kernel)) rfl rfl rfl rfl hm_z
        obtain ⟨r600_z, h601_z, q602_z, hm_z⟩ := hm_z
        have vo := rn_void rfl q602_z
        subst vo
        have FC : ab_Fr (rz_MC2.drop 1) h h592_z := ab_Fr_trans (ab_Fr_up rfl ab_Fr_refl) (ab_Fr_sub (by decide) PF)
        have FC' : ab_Fr rz_MC2 h h592_z := ab_Fr_sub (by decide) FC
        have FM : ab_Fr rz_MM g (am_up h598_z 164 45 (.int 0)) := ab_Fr_up rfl (ab_Fr_trans (ab_Fr_up rfl ab_Fr_refl) (ab_Fr_sub (by decide) GF))
        obtain ⟨-, -, x2_z, p2_z, R2, le2_z, t5_z, t6_z⟩ := pr_tok (rz_q02 (rq_0 Rk) FC' FM) q596_z q602_z
        have A2 := rp_x (by decide) (rz_p2 A FC' FM ((show rg_v h592_z 11 0 = kn + 1 from ((rg_v_fr PF (by decide)).trans (show rg_v (am_up h 11 0 (.int (kn + 1))) 11 0 = kn + 1 from rfl))).trans (show rg_v (am_up h598_z 164 45 (.int 0)) 164 44 = kn + 1 from (show rg_v (am_up h598_z 164 45 (.int 0)) 164 44 = kn + 1 from ((rg_v_fr GF (by decide)).trans (show rg_v (am_up g 164 44 (.int (kn + 1))) 164 44 = kn + 1 from rfl)))).symm) (by rw [show rg_v h592_z 11 0 = kn + 1 from ((rg_v_fr PF (by decide)).trans (show rg_v (am_up h 11 0 (.int (kn + 1))) 11 0 = kn + 1 from rfl))]; omega) (by rw [show rg_v h592_z 11 0 = kn + 1 from ((rg_v_fr PF (by decide)).trans (show rg_v (am_up h 11 0 (.int (kn + 1))) 11 0 = kn + 1 from rfl))]; omega)) (rx_C_f t5_z) (rx_M_f t6_z)
        have B2 := rp_tk (rz_t2 B FC FM) (rg_v_fr t5_z (by decide)) (fun k => rg_v_fr t6_z (rg_v_in (by decide) k)) (rx_M_f t6_z)
        have FC47 : ab_Fr [(44, 14), (44, 15), (11, 1), (11, 2), (12, 0), (13, 0)] h h592_z := ab_Fr_trans (ab_Fr_up rfl ab_Fr_refl) (ab_Fr_sub (by decide) PF)
        have FM184 : ab_Fr [(164, 42), (164, 43), (164, 44), (164, 45), (164, 46), (164, 47), (164, 22), (181, 0), (182, 0), (183, 0), (185, 0)] g (am_up h598_z 164 45 (.int 0)) := ab_Fr_up rfl (ab_Fr_trans (ab_Fr_up rfl ab_Fr_refl) (ab_Fr_sub (by decide) GF))
        have Z2 : rs 2 h592_z (am_up h598_z 164 45 (.int 0)) := rs_keep Zk ((show rg_v h592_z 44 13 = np from ((rg_v_fr PF (by decide)).trans (show rg_v (am_up h 11 0 (.int (kn + 1))) 44 13 = np from z1_z))).trans z1_z.symm) ((show rg_v (am_up h598_z 164 45 (.int 0)) 164 41 = np from (show rg_v (am_up h598_z 164 45 (.int 0)) 164 41 = np from ((rg_v_fr GF (by decide)).trans (show rg_v (am_up g 164 44 (.int (kn + 1))) 164 41 = np from z2_z)))).trans z2_z.symm) ((show rg_v h592_z 44 14 = op from ((rg_v_fr PF (by decide)).trans (show rg_v (am_up h 11 0 (.int (kn + 1))) 44 14 = op from z4_z))).trans z4_z.symm) ((show rg_v (am_up h598_z 164 45 (.int 0)) 164 43 = op from (show rg_v (am_up h598_z 164 45 (.int 0)) 164 43 = op from ((rg_v_fr GF (by decide)).trans (show rg_v (am_up g 164 44 (.int (kn + 1))) 164 43 = op from z5_z)))).trans z5_z.symm) (show (rg_v h 11 0).toInt ≤ (rg_v h592_z 11 0).toInt by rw [(show rg_v h592_z 11 0 = kn + 1 from ((rg_v_fr PF (by decide)).trans (show rg_v (am_up h 11 0 (.int (kn + 1))) 11 0 = kn + 1 from rfl))), ekn]; omega) (fun k => rg_v_fr FC47 (rg_v_in (by decide) k)) (fun k => rg_v_fr FM184 (rg_v_in (by decide) k))
        replace Z2 := rs_fr (by decide) Z2 t5_z t6_z
        have e45_z : rg_v h601_z 164 45 = 0 := (rg_v_fr t6_z (by decide)).trans (show rg_v (am_up h598_z 164 45 (.int 0)) 164 45 = 0 from (show rg_v (am_up h598_z 164 45 (.int 0)) 164 45 = 0 from rfl))
        have e46_z : rg_v h601_z 164 46 = 1 := (rg_v_fr t6_z (by decide)).trans (show rg_v (am_up h598_z 164 45 (.int 0)) 164 46 = 1 from (show rg_v (am_up h598_z 164 45 (.int 0)) 164 46 = 1 from ((rg_v_fr GF (by decide)).trans (show rg_v (am_up g 164 44 (.int (kn + 1))) 164 46 = 1 from w2_z))))
        replace hm_z : rn _ _ _ _ [] _ _ _ := hm_z
        replace hc_z : rn _ _ _ _ [] _ _ _ := hc_z
        replace hc_z := rn_iconst (w := 2) (am_cur_of (i := (176, 1, .iconst 2, (0, 0, 0), 0)) (by decide +kernel)) (by decide) hc_z
        replace hc_z := rn_iret (am_cur_of (i := (177, 1, .ireturn, (0, 0, 0), 0)) (by decide +kernel)) hc_z
        obtain ⟨e603_z, e604_z⟩ := hc_z
        replace hm_z := rn_iconst (w := 1) (am_cur_of (i := (173, 1, .iconst 1, (0, 0, 0), 0)) (by decide +kernel)) (by decide) hm_z
        replace hm_z := rn_iret (am_cur_of (i := (174, 1, .ireturn, (0, 0, 0), 0)) (by decide +kernel)) hm_z
        obtain ⟨e605_z, e606_z⟩ := hm_z
        subst e603_z e604_z e605_z e606_z
        exact Or.inl ⟨_, x2_z, p2_z, rfl, rfl, R2, le2_z, A2, B2, Z2, Or.inr (Or.inr ⟨rfl, e45_z⟩)⟩
  · have g0_z : am_get (lv_args 0 [.ref 44, .int 0]) 0 = some (.ref 44) := rfl
    have g1_z : am_get (lv_args 0 [.ref 44, .int 0]) 1 = some (.int 0) := rfl
    have g0m : am_get (lv_args 0 [.ref 164]) 0 = some (.ref 164) := rfl
    have Rk := R
    have Zk := Z
    obtain ⟨⟨c1_z, c2_z, c3_z, c4_z, c5_z, c6_z, c7_z, c8_z⟩, ⟨m2_z, m3_z, m4_z, m5_z, m6_z, m7_z, m8_z⟩, R3, R4, R5, R6, R7, R8, R9, R10⟩ := (R : rq T S x p 2 h g)
    obtain ⟨np, op, z1_z, z2_z, z3_z, z4_z, z5_z, z6_z, z7_z, z8_z, z9_z, z10_z⟩ := (Z : rs 2 h g)
    obtain ⟨nk1_z, nk2_z, nk3_z⟩ := A.2.2.2.2.2.1
    replace nk1_z : rg_v h 11 0 = rg_v g 164 44 := nk1_z
    replace nk2_z : 0 ≤ (rg_v h 11 0).toInt := nk2_z
    replace nk3_z : (rg_v h 11 0).toInt ≤ 64 := nk3_z
    replace z8_z : np.toInt ≤ (rg_v h 11 0).toInt + op.toInt := z8_z
    obtain ⟨kn, ekn⟩ : ∃ v, rg_v h 11 0 = v := ⟨_, rfl⟩
    rw [ekn] at nk1_z nk2_z nk3_z z8_z
    have e9_z := rt_c1 (x := kn) (by omega) (by omega)
    replace hc_z := rn_aload_n (am_cur_of (i := (0, 1, .aload_n 0, (0, 0, 0), 0)) (by decide +kernel)) g0_z hc_z
    replace hc_z := rn_getI (v := 2) (am_cur_of (i := (1, 3, .getfield 60, (4, 10, 419), 0)) (by decide +kernel)) (by decide +kernel) ka hc_z
    replace hc_z := rn_bipush (w := 6) (am_cur_of (i := (4, 2, .bipush 6, (0, 0, 0), 0)) (by decide +kernel)) (by decide) hc_z
    replace hc_z := rn_cmpT (am_cur_of (i := (6, 3, .if_icmp .ne 30, (19, 0, 0), 0)) (by decide +kernel)) (by decide) hc_z
    replace hc_z := rn_aload_n (am_cur_of (i := (36, 1, .aload_n 0, (0, 0, 0), 0)) (by decide +kernel)) g0_z hc_z
    replace hc_z := rn_bipush (w := 40) (am_cur_of (i := (37, 2, .bipush 40, (0, 0, 0), 0)) (by decide +kernel)) (by decide) hc_z
    replace hc_z := rn_callV (M' := am_m45) (o := 44) (ar := [.int 40]) (rest := []) (L := lv_args 0 [.ref 44, .int 40]) (am_cur_of (i := (39, 3, .invokevirtual 105, (45, 834, 3), 0)) (by decide +kernel)) rfl rfl rfl rfl hc_z
    obtain ⟨r607_z, h608_z, q609_z, hc_z⟩ := hc_z
    obtain ⟨rfl, yq609_z⟩ := rp_mkN (fun q => absurd (Eq.trans (Eq.symm ka) q.1) (by decide)) q609_z
    subst yq609_z
    replace hc_z : rn _ _ _ _ [.int 0] _ _ _ := hc_z
    replace hc_z := rn_ifT (am_cur_of (i := (42, 3, .ifCond .eq 38, (43, 0, 0), 0)) (by decide +kernel)) (by decide) hc_z
    replace hc_z := rn_aload_n (am_cur_of (i := (80, 1, .aload_n 0, (0, 0, 0), 0)) (by decide +kernel)) g0_z hc_z
    replace hc_z := rn_getI (v := 2) (am_cur_of (i := (81, 3, .getfield 60, (4, 10, 419), 0)) (by decide +kernel)) (by decide +kernel) ka hc_z
    replace hc_z := rn_iconst (w := 4) (am_cur_of (i := (84, 1, .iconst 4, (0, 0, 0), 0)) (by decide +kernel)) (by decide) hc_z
    replace hc_z := rn_cmpT (am_cur_of (i := (85, 3, .if_icmp .ne 40, (64, 0, 0), 0)) (by decide +kernel)) (by decide) hc_z
    replace hc_z := rn_aload_n (am_cur_of (i := (125, 1, .aload_n 0, (0, 0, 0), 0)) (by decide +kernel)) g0_z hc_z
    replace hc_z := rn_getI (v := 2) (am_cur_of (i := (126, 3, .getfield 60, (4, 10, 419), 0)) (by decide +kernel)) (by decide +kernel) ka hc_z
    replace hc_z := rn_iconst (w := 2) (am_cur_of (i := (129, 1, .iconst 2, (0, 0, 0), 0)) (by decide +kernel)) (by decide) hc_z
    replace hc_z := rn_cmpF (am_cur_of (i := (130, 3, .if_icmp .ne 37, (84, 0, 0), 0)) (by decide +kernel)) (by decide) hc_z
    replace hc_z := rn_aload_n (am_cur_of (i := (133, 1, .aload_n 0, (0, 0, 0), 0)) (by decide +kernel)) g0_z hc_z
    replace hc_z := rn_getI (v := 13) (am_cur_of (i := (134, 3, .getfield 91, (4, 11, 420), 0)) (by decide +kernel)) (by decide +kernel) kb hc_z
    replace hc_z := rn_bipush (w := 11) (am_cur_of (i := (137, 2, .bipush 11, (0, 0, 0), 0)) (by decide +kernel)) (by decide) hc_z
    replace hc_z := rn_cmpF (am_cur_of (i := (139, 3, .if_icmp .lt 28, (84, 0, 0), 0)) (by decide +kernel)) (by decide) hc_z
    replace hc_z := rn_aload_n (am_cur_of (i := (142, 1, .aload_n 0, (0, 0, 0), 0)) (by decide +kernel)) g0_z hc_z
    replace hc_z := rn_callV (M' := am_m49) (o := 44) (ar := []) (rest := []) (L := lv_args 0 [.ref 44]) (am_cur_of (i := (143, 3, .invokevirtual 270, (49, 852, 3), 0)) (by decide +kernel)) rfl rfl rfl rfl hc_z
    obtain ⟨r610_z, h611_z, q612_z, hc_z⟩ := hc_z
    rcases rs_ck2 R4 (show h 44 6 = .ref 2 from R3) q612_z with ⟨ge, rfl, eh⟩ | ⟨lt, rfl, eh⟩
    · subst eh
      replace ge : 64 ≤ kn.toInt := by rw [← ekn]; exact ge
      replace hc_z : rn _ _ _ _ [] _ _ _ := hc_z
      have K := rs_stick (w := 2) (q := p) (a := 51) (by decide) (by decide) rfl (by decide) rfl (show rg_v (am_up (am_up h 44 1 (.int 2)) 44 2 (.int (rg_v h 44 9))) 44 2 = p from R5) hc_z
      replace hm_z := rn_aload_n (am_cur_of (i := (0, 1, .aload_n 0, (0, 0, 0), 0)) (by decide +kernel)) g0m hm_z
      replace hm_z := rn_bipush (w := 40) (am_cur_of (i := (1, 2, .bipush 40, (0, 0, 0), 0)) (by decide +kernel)) (by decide) hm_z
      replace hm_z := rn_callV (M' := am_m171) (o := 164) (ar := [.int 40]) (rest := []) (L := lv_args 0 [.ref 164, .int 40]) (am_cur_of (i := (3, 3, .invokevirtual 194, (171, 1715, 3), 0)) (by decide +kernel)) rfl rfl rfl rfl hm_z
      obtain ⟨r613_z, h614_z, q615_z, hm_z⟩ := hm_z
      obtain ⟨rfl, yq615_z⟩ := rp_sgN (fun q => absurd (Eq.trans (Eq.symm kc) q.1) (by decide)) q615_z
      subst yq615_z
      replace hm_z : rn _ _ _ _ [.int 0] _ _ _ := hm_z
      replace hm_z := rn_ifT (am_cur_of (i := (6, 3, .ifCond .eq 44, (28, 0, 0), 0)) (by decide +kernel)) (by decide) hm_z
      replace hm_z := rn_aload_n (am_cur_of (i := (50, 1, .aload_n 0, (0, 0, 0), 0)) (by decide +kernel)) g0m hm_z
      replace hm_z := rn_bipush (w := 14) (am_cur_of (i := (51, 2, .bipush 14, (0, 0, 0), 0)) (by decide +kernel)) (by decide) hm_z
      replace hm_z := rn_callV (M' := am_m174) (o := 164) (ar := [.int 14]) (rest := []) (L := lv_args 0 [.ref 164, .int 14]) (am_cur_of (i := (53, 3, .invokevirtual 306, (174, 1727, 3), 0)) (by decide +kernel)) rfl rfl rfl rfl hm_z
      obtain ⟨r616_z, h617_z, q618_z, hm_z⟩ := hm_z
      obtain ⟨rfl, yq618_z⟩ := rp_kyN (fun q => absurd (Eq.trans (Eq.symm kd) q.2) (by decide)) q618_z
      subst yq618_z
      replace hm_z : rn _ _ _ _ [.int 0] _ _ _ := hm_z
      replace hm_z := rn_ifT (am_cur_of (i := (56, 3, .ifCond .eq 30, (47, 0, 0), 0)) (by decide +kernel)) (by decide) hm_z
      replace hm_z := rn_aload_n (am_cur_of (i := (86, 1, .aload_n 0, (0, 0, 0), 0)) (by decide +kernel)) g0m hm_z
      replace hm_z := rn_callV (M' := am_m176) (o := 164) (ar := []) (rest := []) (L := lv_args 0 [.ref 164]) (am_cur_of (i := (87, 3, .invokevirtual 312, (176, 1735, 3), 0)) (by decide +kernel)) rfl rfl rfl rfl hm_z
      obtain ⟨r619_z, h620_z, q621_z, hm_z⟩ := hm_z
      obtain ⟨rfl, yq621_z⟩ := rp_nm (c := 1) (d := 16) kc kd q621_z
      replace yq621_z := yq621_z.symm
      subst yq621_z
      rw [show rp_nmf 1 16 = 1 from by decide] at hm_z
      replace hm_z : rn _ _ _ _ [.int 1] _ _ _ := hm_z
      replace hm_z := rn_istore_n (am_cur_of (i := (90, 1, .istore_n 1, (0, 0, 0), 0)) (by decide +kernel)) hm_z
      obtain ⟨_, s622_z, s623_z, g1m, hm_z⟩ := hm_z
      replace g0m := s622_z 0 _ (by decide) rfl g0m
      clear s622_z s623_z
      replace hm_z := rn_iload_n (am_cur_of (i := (91, 1, .iload_n 1, (0, 0, 0), 0)) (by decide +kernel)) g1m hm_z
      replace hm_z := rn_ifT (am_cur_of (i := (92, 3, .ifCond .ge 17, (60, 0, 0), 0)) (by decide +kernel)) (by decide) hm_z
      replace hm_z := rn_iload_n (am_cur_of (i := (109, 1, .iload_n 1, (0, 0, 0), 0)) (by decide +kernel)) g1m hm_z
      replace hm_z := rn_ifT (am_cur_of (i := (110, 3, .ifCond .ge 19, (70, 0, 0), 0)) (by decide +kernel)) (by decide) hm_z
      replace hm_z := rn_aload_n (am_cur_of (i := (129, 1, .aload_n 0, (0, 0, 0), 0)) (by decide +kernel)) g0m hm_z
      replace hm_z := rn_callV (M' := am_m175) (o := 164) (ar := []) (rest := []) (L := lv_args 0 [.ref 164]) (am_cur_of (i := (130, 3, .invokevirtual 309, (175, 1731, 3), 0)) (by decide +kernel)) rfl rfl rfl rfl hm_z
      obtain ⟨r624_z, h625_z, q626_z, hm_z⟩ := hm_z
      rcases rs_ic q626_z with ⟨i1_z, rfl, i3_z⟩ | ⟨i1_z, -⟩
      · subst i3_z
        replace hm_z : rn _ _ _ _ [.int 0] _ _ _ := hm_z
        replace hm_z := rn_ifF (am_cur_of (i := (133, 3, .ifCond .ne 5, (75, 0, 0), 0)) (by decide +kernel)) (by decide) hm_z
        replace hm_z := rn_iconst (w := 0) (am_cur_of (i := (136, 1, .iconst 0, (0, 0, 0), 0)) (by decide +kernel)) (by decide) hm_z
        replace hm_z := rn_iret (am_cur_of (i := (137, 1, .ireturn, (0, 0, 0), 0)) (by decide +kernel)) hm_z
        obtain ⟨e627_z, e628_z⟩ := hm_z
        subst e627_z e628_z
        exact (Or.inr ⟨rfl, 2, by decide, K.1, K.2, rfl, R6⟩)
      · exact absurd (Int32.toInt_inj.mp (show (rg_v g 164 44).toInt = (64 : Int32).toInt from by rw [show rg_v g 164 44 = kn from nk1_z.symm, show (64 : Int32).toInt = 64 by decide]; omega)) i1_z
    · subst eh
      replace lt : kn.toInt < 64 := by rw [← ekn]; exact lt
      rw [show rg_v h 11 0 = kn from ekn] at hc_z
      replace hm_z := rn_aload_n (am_cur_of (i := (0, 1, .aload_n 0, (0, 0, 0), 0)) (by decide +kernel)) g0m hm_z
      replace hm_z := rn_bipush (w := 40) (am_cur_of (i := (1, 2, .bipush 40, (0, 0, 0), 0)) (by decide +kernel)) (by decide) hm_z
      replace hm_z := rn_callV (M' := am_m171) (o := 164) (ar := [.int 40]) (rest := []) (L := lv_args 0 [.ref 164, .int 40]) (am_cur_of (i := (3, 3, .invokevirtual 194, (171, 1715, 3), 0)) (by decide +kernel)) rfl rfl rfl rfl hm_z
      obtain ⟨r629_z, h630_z, q631_z, hm_z⟩ := hm_z
      obtain ⟨rfl, yq631_z⟩ := rp_sgN (fun q => absurd (Eq.trans (Eq.symm kc) q.1) (by decide)) q631_z
      subst yq631_z
      replace hm_z : rn _ _ _ _ [.int 0] _ _ _ := hm_z
      replace hm_z := rn_ifT (am_cur_of (i := (6, 3, .ifCond .eq 44, (28, 0, 0), 0)) (by decide +kernel)) (by decide) hm_z
      replace hm_z := rn_aload_n (am_cur_of (i := (50, 1, .aload_n 0, (0, 0, 0), 0)) (by decide +kernel)) g0m hm_z
      replace hm_z := rn_bipush (w := 14) (am_cur_of (i := (51, 2, .bipush 14, (0, 0, 0), 0)) (by decide +kernel)) (by decide) hm_z
      replace hm_z := rn_callV (M' := am_m174) (o := 164) (ar := [.int 14]) (rest := []) (L := lv_args 0 [.ref 164, .int 14]) (am_cur_of (i := (53, 3, .invokevirtual 306, (174, 1727, 3), 0)) (by decide +kernel)) rfl rfl rfl rfl hm_z
      obtain ⟨r632_z, h633_z, q634_z, hm_z⟩ := hm_z
      obtain ⟨rfl, yq634_z⟩ := rp_kyN (fun q => absurd (Eq.trans (Eq.symm kd) q.2) (by decide)) q634_z
      subst yq634_z
      replace hm_z : rn _ _ _ _ [.int 0] _ _ _ := hm_z
      replace hm_z := rn_ifT (am_cur_of (i := (56, 3, .ifCond .eq 30, (47, 0, 0), 0)) (by decide +kernel)) (by decide) hm_z
      replace hm_z := rn_aload_n (am_cur_of (i := (86, 1, .aload_n 0, (0, 0, 0), 0)) (by decide +kernel)) g0m hm_z
      replace hm_z := rn_callV (M' := am_m176) (o := 164) (ar := []) (rest := []) (L := lv_args 0 [.ref 164]) (am_cur_of (i := (87, 3, .invokevirtual 312, (176, 1735, 3), 0)) (by decide +kernel)) rfl rfl rfl rfl hm_z
      obtain ⟨r635_z, h636_z, q637_z, hm_z⟩ := hm_z
      obtain ⟨rfl, yq637_z⟩ := rp_nm (c := 1) (d := 16) kc kd q637_z
      replace yq637_z := yq637_z.symm
      subst yq637_z
      rw [show rp_nmf 1 16 = 1 from by decide] at hm_z
      replace hm_z : rn _ _ _ _ [.int 1] _ _ _ := hm_z
      replace hm_z := rn_istore_n (am_cur_of (i := (90, 1, .istore_n 1, (0, 0, 0), 0)) (by decide +kernel)) hm_z
      obtain ⟨_, s638_z, s639_z, g1m, hm_z⟩ := hm_z
      replace g0m := s638_z 0 _ (by decide) rfl g0m
      clear s638_z s639_z
      replace hm_z := rn_iload_n (am_cur_of (i := (91, 1, .iload_n 1, (0, 0, 0), 0)) (by decide +kernel)) g1m hm_z
      replace hm_z := rn_ifT (am_cur_of (i := (92, 3, .ifCond .ge 17, (60, 0, 0), 0)) (by decide +kernel)) (by decide) hm_z
      replace hm_z := rn_iload_n (am_cur_of (i := (109, 1, .iload_n 1, (0, 0, 0), 0)) (by decide +kernel)) g1m hm_z
      replace hm_z := rn_ifT (am_cur_of (i := (110, 3, .ifCond .ge 19, (70, 0, 0), 0)) (by decide +kernel)) (by decide) hm_z
      replace hm_z := rn_aload_n (am_cur_of (i := (129, 1, .aload_n 0, (0, 0, 0), 0)) (by decide +kernel)) g0m hm_z
      replace hm_z := rn_callV (M' := am_m175) (o := 164) (ar := []) (rest := []) (L := lv_args 0 [.ref 164]) (am_cur_of (i := (130, 3, .invokevirtual 309, (175, 1731, 3), 0)) (by decide +kernel)) rfl rfl rfl rfl hm_z
      obtain ⟨r640_z, h641_z, q642_z, hm_z⟩ := hm_z
      rcases rs_ic q642_z with ⟨i1_z, -⟩ | ⟨i1_z, rfl, i3_z⟩
      · exfalso
        have zz := congrArg Int32.toInt i1_z
        rw [show rg_v g 164 44 = kn from nk1_z.symm, show (64 : Int32).toInt = 64 by decide] at zz
        omega
      · subst i3_z
        rw [show rg_v g 164 44 = kn from nk1_z.symm] at hm_z
        replace hm_z : rn _ _ _ _ [.int 1] _ _ _ := hm_z
        replace hc_z : rn _ _ _ _ [] _ _ _ := hc_z
        replace hc_z := rn_aload_n (am_cur_of (i := (146, 1, .aload_n 0, (0, 0, 0), 0)) (by decide +kernel)) g0_z hc_z
        replace hc_z := rn_getM (x := 2) (am_cur_of (i := (147, 3, .getfield 25, (4, 6, 415), 0)) (by decide +kernel)) (show (am_up h 11 0 (.int (kn + 1))) 44 6 = .ref 2 from R3) hc_z
        replace hc_z := rn_getR (x := 11) (am_cur_of (i := (150, 3, .getfield 242, (1, 19, 316), 0)) (by decide +kernel)) (by decide +kernel) hc_z
        replace hc_z := rn_iconst (w := 1) (am_cur_of (i := (153, 1, .iconst 1, (0, 0, 0), 0)) (by decide +kernel)) (by decide) hc_z
        replace hc_z := rn_aload_n (am_cur_of (i := (154, 1, .aload_n 0, (0, 0, 0), 0)) (by decide +kernel)) g0_z hc_z
        replace hc_z := rn_getI (v := 13) (am_cur_of (i := (155, 3, .getfield 91, (4, 11, 420), 0)) (by decide +kernel)) (by decide +kernel) (show rg_v (am_up h 11 0 (.int (kn + 1))) 44 11 = 13 from kb) hc_z
        replace hc_z := rn_bipush (w := 11) (am_cur_of (i := (158, 2, .bipush 11, (0, 0, 0), 0)) (by decide +kernel)) (by decide) hc_z
        replace hc_z := rn_isub (w := 2) (am_cur_of (i := (160, 1, .isub, (0, 0, 0), 0)) (by decide +kernel)) (by decide) hc_z
        replace hc_z := rn_callV (M' := am_m48) (o := 11) (ar := [.int 2, .int 1]) (rest := []) (L := lv_args 0 [.ref 11, .int 1, .int 2]) (am_cur_of (i := (161, 3, .invokevirtual 276, (48, 845, 3), 0)) (by decide +kernel)) rfl rfl rfl rfl hc_z
        obtain ⟨r643_z, h644_z, q645_z, hc_z⟩ := hc_z
        obtain ⟨rfl, PF⟩ := rs_put2 q645_z
        replace hc_z : rn _ _ _ _ [] _ _ _ := hc_z
        replace hc_z := rn_goto (am_cur_of (i := (164, 3, .goto 8, (87, 0, 0), 0)) (by decide +kernel)) hc_z
        replace hc_z := rn_aload_n (am_cur_of (i := (172, 1, .aload_n 0, (0, 0, 0), 0)) (by decide +kernel)) g0_z hc_z
        replace hc_z := rn_callV (M' := am_m19) (o := 44) (ar := []) (rest := []) (L := lv_args 0 [.ref 44]) (am_cur_of (i := (173, 3, .invokevirtual 57, (19, 727, 3), 0)) (by decide +kernel)) rfl rfl rfl rfl hc_z
        obtain ⟨r646_z, h647_z, q648_z, hc_z⟩ := hc_z
        have vo := rn_void rfl q648_z
        subst vo
        replace hm_z := rn_ifT (am_cur_of (i := (133, 3, .ifCond .ne 5, (75, 0, 0), 0)) (by decide +kernel)) (by decide) hm_z
        replace hm_z := rn_aload_n (am_cur_of (i := (138, 1, .aload_n 0, (0, 0, 0), 0)) (by decide +kernel)) g0m hm_z
        replace hm_z := rn_iload_n (am_cur_of (i := (139, 1, .iload_n 1, (0, 0, 0), 0)) (by decide +kernel)) g1m hm_z
        replace hm_z := rn_ifF (am_cur_of (i := (140, 3, .ifCond .lt 7, (80, 0, 0), 0)) (by decide +kernel)) (by decide) hm_z
        replace hm_z := rn_iconst (w := 1) (am_cur_of (i := (143, 1, .iconst 1, (0, 0, 0), 0)) (by decide +kernel)) (by decide) hm_z
        replace hm_z := rn_goto (am_cur_of (i := (144, 3, .goto 4, (81, 0, 0), 0)) (by decide +kernel)) hm_z
        replace hm_z := rn_iload_n (am_cur_of (i := (148, 1, .iload_n 1, (0, 0, 0), 0)) (by decide +kernel)) g1m hm_z
        replace hm_z := rn_ifF (am_cur_of (i := (149, 3, .ifCond .lt 7, (85, 0, 0), 0)) (by decide +kernel)) (by decide) hm_z
        replace hm_z := rn_iload_n (am_cur_of (i := (152, 1, .iload_n 1, (0, 0, 0), 0)) (by decide +kernel)) g1m hm_z
        replace hm_z := rn_goto (am_cur_of (i := (153, 3, .goto 7, (87, 0, 0), 0)) (by decide +kernel)) hm_z
        replace hm_z := rn_iconst (w := 0) (am_cur_of (i := (160, 1, .iconst 0, (0, 0, 0), 0)) (by decide +kernel)) (by decide) hm_z
        replace hm_z := rn_callV (M' := am_m177) (o := 164) (ar := [.int 0, .int 1, .int 1]) (rest := []) (L := lv_args 0 [.ref 164, .int 1, .int 1, .int 0]) (am_cur_of (i := (161, 3, .invokevirtual 291, (177, 1739, 3), 0)) (by decide +kernel)) rfl rfl rfl rfl hm_z
        obtain ⟨r649_z, h650_z, q651_z, hm_z⟩ := hm_z
        obtain ⟨rfl, GF⟩ := rs_grown q651_z
        replace hm_z : rn _ _ _ _ [] _ _ _ := hm_z
        replace hm_z := rn_aload_n (am_cur_of (i := (164, 1, .aload_n 0, (0, 0, 0), 0)) (by decide +kernel)) g0m hm_z
        replace hm_z := rn_iconst (w := 0) (am_cur_of (i := (165, 1, .iconst 0, (0, 0, 0), 0)) (by decide +kernel)) (by decide) hm_z
        replace hm_z := rn_put (am_cur_of (i := (166, 3, .putfield 315, (12, 45, 1429), 0)) (by decide +kernel)) (by decide +kernel) hm_z
        replace hm_z := rn_aload_n (am_cur_of (i := (169, 1, .aload_n 0, (0, 0, 0), 0)) (by decide +kernel)) g0m hm_z
        replace hm_z := rn_callV (M' := am_m151) (o := 164) (ar := []) (rest := []) (L := lv_args 0 [.ref 164]) (am_cur_of (i := (170, 3, .invokevirtual 191, (151, 1636, 3), 0)) (by decide +kernel)) rfl rfl rfl rfl hm_z
        obtain ⟨r652_z, h653_z, q654_z, hm_z⟩ := hm_z
        have vo := rn_void rfl q654_z
        subst vo
        have FC : ab_Fr (rz_MC2.drop 1) h h644_z := ab_Fr_trans (ab_Fr_up rfl ab_Fr_refl) (ab_Fr_sub (by decide) PF)
        have FC' : ab_Fr rz_MC2 h h644_z := ab_Fr_sub (by decide) FC
        have FM : ab_Fr rz_MM g (am_up h650_z 164 45 (.int 0)) := ab_Fr_up rfl (ab_Fr_trans (ab_Fr_up rfl ab_Fr_refl) (ab_Fr_sub (by decide) GF))
        obtain ⟨-, -, x2_z, p2_z, R2, le2_z, t5_z, t6_z⟩ := pr_tok (rz_q02 (rq_0 Rk) FC' FM) q648_z q654_z
        have A2 := rp_x (by decide) (rz_p2 A FC' FM ((show rg_v h644_z 11 0 = kn + 1 from ((rg_v_fr PF (by decide)).trans (show rg_v (am_up h 11 0 (.int (kn + 1))) 11 0 = kn + 1 from rfl))).trans (show rg_v (am_up h650_z 164 45 (.int 0)) 164 44 = kn + 1 from (show rg_v (am_up h650_z 164 45 (.int 0)) 164 44 = kn + 1 from ((rg_v_fr GF (by decide)).trans (show rg_v (am_up g 164 44 (.int (kn + 1))) 164 44 = kn + 1 from rfl)))).symm) (by rw [show rg_v h644_z 11 0 = kn + 1 from ((rg_v_fr PF (by decide)).trans (show rg_v (am_up h 11 0 (.int (kn + 1))) 11 0 = kn + 1 from rfl))]; omega) (by rw [show rg_v h644_z 11 0 = kn + 1 from ((rg_v_fr PF (by decide)).trans (show rg_v (am_up h 11 0 (.int (kn + 1))) 11 0 = kn + 1 from rfl))]; omega)) (rx_C_f t5_z) (rx_M_f t6_z)
        have B2 := rp_tk (rz_t2 B FC FM) (rg_v_fr t5_z (by decide)) (fun k => rg_v_fr t6_z (rg_v_in (by decide) k)) (rx_M_f t6_z)
        have FC47 : ab_Fr [(44, 14), (44, 15), (11, 1), (11, 2), (12, 0), (13, 0)] h h644_z := ab_Fr_trans (ab_Fr_up rfl ab_Fr_refl) (ab_Fr_sub (by decide) PF)
        have FM184 : ab_Fr [(164, 42), (164, 43), (164, 44), (164, 45), (164, 46), (164, 47), (164, 22), (181, 0), (182, 0), (183, 0), (185, 0)] g (am_up h650_z 164 45 (.int 0)) := ab_Fr_up rfl (ab_Fr_trans (ab_Fr_up rfl ab_Fr_refl) (ab_Fr_sub (by decide) GF))
        have Z2 : rs 2 h644_z (am_up h650_z 164 45 (.int 0)) := rs_keep Zk ((show rg_v h644_z 44 13 = np from ((rg_v_fr PF (by decide)).trans (show rg_v (am_up h 11 0 (.int (kn + 1))) 44 13 = np from z1_z))).trans z1_z.symm) ((show rg_v (am_up h650_z 164 45 (.int 0)) 164 41 = np from (show rg_v (am_up h650_z 164 45 (.int 0)) 164 41 = np from ((rg_v_fr GF (by decide)).trans (show rg_v (am_up g 164 44 (.int (kn + 1))) 164 41 = np from z2_z)))).trans z2_z.symm) ((show rg_v h644_z 44 14 = op from ((rg_v_fr PF (by decide)).trans (show rg_v (am_up h 11 0 (.int (kn + 1))) 44 14 = op from z4_z))).trans z4_z.symm) ((show rg_v (am_up h650_z 164 45 (.int 0)) 164 43 = op from (show rg_v (am_up h650_z 164 45 (.int 0)) 164 43 = op from ((rg_v_fr GF (by decide)).trans (show rg_v (am_up g 164 44 (.int (kn + 1))) 164 43 = op from z5_z)))).trans z5_z.symm) (show (rg_v h 11 0).toInt ≤ (rg_v h644_z 11 0).toInt by rw [(show rg_v h644_z 11 0 = kn + 1 from ((rg_v_fr PF (by decide)).trans (show rg_v (am_up h 11 0 (.int (kn + 1))) 11 0 = kn + 1 from rfl))), ekn]; omega) (fun k => rg_v_fr FC47 (rg_v_in (by decide) k)) (fun k => rg_v_fr FM184 (rg_v_in (by decide) k))
        replace Z2 := rs_fr (by decide) Z2 t5_z t6_z
        have e45_z : rg_v h653_z 164 45 = 0 := (rg_v_fr t6_z (by decide)).trans (show rg_v (am_up h650_z 164 45 (.int 0)) 164 45 = 0 from (show rg_v (am_up h650_z 164 45 (.int 0)) 164 45 = 0 from rfl))
        have e46_z : rg_v h653_z 164 46 = 1 := (rg_v_fr t6_z (by decide)).trans (show rg_v (am_up h650_z 164 45 (.int 0)) 164 46 = 1 from (show rg_v (am_up h650_z 164 45 (.int 0)) 164 46 = 1 from ((rg_v_fr GF (by decide)).trans (show rg_v (am_up g 164 44 (.int (kn + 1))) 164 46 = 1 from w2_z))))
        replace hm_z : rn _ _ _ _ [] _ _ _ := hm_z
        replace hc_z : rn _ _ _ _ [] _ _ _ := hc_z
        replace hc_z := rn_iconst (w := 2) (am_cur_of (i := (176, 1, .iconst 2, (0, 0, 0), 0)) (by decide +kernel)) (by decide) hc_z
        replace hc_z := rn_iret (am_cur_of (i := (177, 1, .ireturn, (0, 0, 0), 0)) (by decide +kernel)) hc_z
        obtain ⟨e655_z, e656_z⟩ := hc_z
        replace hm_z := rn_iconst (w := 1) (am_cur_of (i := (173, 1, .iconst 1, (0, 0, 0), 0)) (by decide +kernel)) (by decide) hm_z
        replace hm_z := rn_iret (am_cur_of (i := (174, 1, .ireturn, (0, 0, 0), 0)) (by decide +kernel)) hm_z
        obtain ⟨e657_z, e658_z⟩ := hm_z
        subst e655_z e656_z e657_z e658_z
        exact Or.inl ⟨_, x2_z, p2_z, rfl, rfl, R2, le2_z, A2, B2, Z2, Or.inr (Or.inr ⟨rfl, e45_z⟩)⟩
  · have g0_z : am_get (lv_args 0 [.ref 44, .int 0]) 0 = some (.ref 44) := rfl
    have g1_z : am_get (lv_args 0 [.ref 44, .int 0]) 1 = some (.int 0) := rfl
    have g0m : am_get (lv_args 0 [.ref 164]) 0 = some (.ref 164) := rfl
    have Rk := R
    have Zk := Z
    obtain ⟨⟨c1_z, c2_z, c3_z, c4_z, c5_z, c6_z, c7_z, c8_z⟩, ⟨m2_z, m3_z, m4_z, m5_z, m6_z, m7_z, m8_z⟩, R3, R4, R5, R6, R7, R8, R9, R10⟩ := (R : rq T S x p 2 h g)
    obtain ⟨np, op, z1_z, z2_z, z3_z, z4_z, z5_z, z6_z, z7_z, z8_z, z9_z, z10_z⟩ := (Z : rs 2 h g)
    obtain ⟨nk1_z, nk2_z, nk3_z⟩ := A.2.2.2.2.2.1
    replace nk1_z : rg_v h 11 0 = rg_v g 164 44 := nk1_z
    replace nk2_z : 0 ≤ (rg_v h 11 0).toInt := nk2_z
    replace nk3_z : (rg_v h 11 0).toInt ≤ 64 := nk3_z
    replace z8_z : np.toInt ≤ (rg_v h 11 0).toInt + op.toInt := z8_z
    obtain ⟨kn, ekn⟩ : ∃ v, rg_v h 11 0 = v := ⟨_, rfl⟩
    rw [ekn] at nk1_z nk2_z nk3_z z8_z
    have e9_z := rt_c1 (x := kn) (by omega) (by omega)
    replace hc_z := rn_aload_n (am_cur_of (i := (0, 1, .aload_n 0, (0, 0, 0), 0)) (by decide +kernel)) g0_z hc_z
    replace hc_z := rn_getI (v := 2) (am_cur_of (i := (1, 3, .getfield 60, (4, 10, 419), 0)) (by decide +kernel)) (by decide +kernel) ka hc_z
    replace hc_z := rn_bipush (w := 6) (am_cur_of (i := (4, 2, .bipush 6, (0, 0, 0), 0)) (by decide +kernel)) (by decide) hc_z
    replace hc_z := rn_cmpT (am_cur_of (i := (6, 3, .if_icmp .ne 30, (19, 0, 0), 0)) (by decide +kernel)) (by decide) hc_z
    replace hc_z := rn_aload_n (am_cur_of (i := (36, 1, .aload_n 0, (0, 0, 0), 0)) (by decide +kernel)) g0_z hc_z
    replace hc_z := rn_bipush (w := 40) (am_cur_of (i := (37, 2, .bipush 40, (0, 0, 0), 0)) (by decide +kernel)) (by decide) hc_z
    replace hc_z := rn_callV (M' := am_m45) (o := 44) (ar := [.int 40]) (rest := []) (L := lv_args 0 [.ref 44, .int 40]) (am_cur_of (i := (39, 3, .invokevirtual 105, (45, 834, 3), 0)) (by decide +kernel)) rfl rfl rfl rfl hc_z
    obtain ⟨r659_z, h660_z, q661_z, hc_z⟩ := hc_z
    obtain ⟨rfl, yq661_z⟩ := rp_mkN (fun q => absurd (Eq.trans (Eq.symm ka) q.1) (by decide)) q661_z
    subst yq661_z
    replace hc_z : rn _ _ _ _ [.int 0] _ _ _ := hc_z
    replace hc_z := rn_ifT (am_cur_of (i := (42, 3, .ifCond .eq 38, (43, 0, 0), 0)) (by decide +kernel)) (by decide) hc_z
    replace hc_z := rn_aload_n (am_cur_of (i := (80, 1, .aload_n 0, (0, 0, 0), 0)) (by decide +kernel)) g0_z hc_z
    replace hc_z := rn_getI (v := 2) (am_cur_of (i := (81, 3, .getfield 60, (4, 10, 419), 0)) (by decide +kernel)) (by decide +kernel) ka hc_z
    replace hc_z := rn_iconst (w := 4) (am_cur_of (i := (84, 1, .iconst 4, (0, 0, 0), 0)) (by decide +kernel)) (by decide) hc_z
    replace hc_z := rn_cmpT (am_cur_of (i := (85, 3, .if_icmp .ne 40, (64, 0, 0), 0)) (by decide +kernel)) (by decide) hc_z
    replace hc_z := rn_aload_n (am_cur_of (i := (125, 1, .aload_n 0, (0, 0, 0), 0)) (by decide +kernel)) g0_z hc_z
    replace hc_z := rn_getI (v := 2) (am_cur_of (i := (126, 3, .getfield 60, (4, 10, 419), 0)) (by decide +kernel)) (by decide +kernel) ka hc_z
    replace hc_z := rn_iconst (w := 2) (am_cur_of (i := (129, 1, .iconst 2, (0, 0, 0), 0)) (by decide +kernel)) (by decide) hc_z
    replace hc_z := rn_cmpF (am_cur_of (i := (130, 3, .if_icmp .ne 37, (84, 0, 0), 0)) (by decide +kernel)) (by decide) hc_z
    replace hc_z := rn_aload_n (am_cur_of (i := (133, 1, .aload_n 0, (0, 0, 0), 0)) (by decide +kernel)) g0_z hc_z
    replace hc_z := rn_getI (v := 14) (am_cur_of (i := (134, 3, .getfield 91, (4, 11, 420), 0)) (by decide +kernel)) (by decide +kernel) kb hc_z
    replace hc_z := rn_bipush (w := 11) (am_cur_of (i := (137, 2, .bipush 11, (0, 0, 0), 0)) (by decide +kernel)) (by decide) hc_z
    replace hc_z := rn_cmpF (am_cur_of (i := (139, 3, .if_icmp .lt 28, (84, 0, 0), 0)) (by decide +kernel)) (by decide) hc_z
    replace hc_z := rn_aload_n (am_cur_of (i := (142, 1, .aload_n 0, (0, 0, 0), 0)) (by decide +kernel)) g0_z hc_z
    replace hc_z := rn_callV (M' := am_m49) (o := 44) (ar := []) (rest := []) (L := lv_args 0 [.ref 44]) (am_cur_of (i := (143, 3, .invokevirtual 270, (49, 852, 3), 0)) (by decide +kernel)) rfl rfl rfl rfl hc_z
    obtain ⟨r662_z, h663_z, q664_z, hc_z⟩ := hc_z
    rcases rs_ck2 R4 (show h 44 6 = .ref 2 from R3) q664_z with ⟨ge, rfl, eh⟩ | ⟨lt, rfl, eh⟩
    · subst eh
      replace ge : 64 ≤ kn.toInt := by rw [← ekn]; exact ge
      replace hc_z : rn _ _ _ _ [] _ _ _ := hc_z
      have K := rs_stick (w := 2) (q := p) (a := 51) (by decide) (by decide) rfl (by decide) rfl (show rg_v (am_up (am_up h 44 1 (.int 2)) 44 2 (.int (rg_v h 44 9))) 44 2 = p from R5) hc_z
      replace hm_z := rn_aload_n (am_cur_of (i := (0, 1, .aload_n 0, (0, 0, 0), 0)) (by decide +kernel)) g0m hm_z
      replace hm_z := rn_bipush (w := 40) (am_cur_of (i := (1, 2, .bipush 40, (0, 0, 0), 0)) (by decide +kernel)) (by decide) hm_z
      replace hm_z := rn_callV (M' := am_m171) (o := 164) (ar := [.int 40]) (rest := []) (L := lv_args 0 [.ref 164, .int 40]) (am_cur_of (i := (3, 3, .invokevirtual 194, (171, 1715, 3), 0)) (by decide +kernel)) rfl rfl rfl rfl hm_z
      obtain ⟨r665_z, h666_z, q667_z, hm_z⟩ := hm_z
      obtain ⟨rfl, yq667_z⟩ := rp_sgN (fun q => absurd (Eq.trans (Eq.symm kc) q.1) (by decide)) q667_z
      subst yq667_z
      replace hm_z : rn _ _ _ _ [.int 0] _ _ _ := hm_z
      replace hm_z := rn_ifT (am_cur_of (i := (6, 3, .ifCond .eq 44, (28, 0, 0), 0)) (by decide +kernel)) (by decide) hm_z
      replace hm_z := rn_aload_n (am_cur_of (i := (50, 1, .aload_n 0, (0, 0, 0), 0)) (by decide +kernel)) g0m hm_z
      replace hm_z := rn_bipush (w := 14) (am_cur_of (i := (51, 2, .bipush 14, (0, 0, 0), 0)) (by decide +kernel)) (by decide) hm_z
      replace hm_z := rn_callV (M' := am_m174) (o := 164) (ar := [.int 14]) (rest := []) (L := lv_args 0 [.ref 164, .int 14]) (am_cur_of (i := (53, 3, .invokevirtual 306, (174, 1727, 3), 0)) (by decide +kernel)) rfl rfl rfl rfl hm_z
      obtain ⟨r668_z, h669_z, q670_z, hm_z⟩ := hm_z
      obtain ⟨rfl, yq670_z⟩ := rp_kyN (fun q => absurd (Eq.trans (Eq.symm kd) q.2) (by decide)) q670_z
      subst yq670_z
      replace hm_z : rn _ _ _ _ [.int 0] _ _ _ := hm_z
      replace hm_z := rn_ifT (am_cur_of (i := (56, 3, .ifCond .eq 30, (47, 0, 0), 0)) (by decide +kernel)) (by decide) hm_z
      replace hm_z := rn_aload_n (am_cur_of (i := (86, 1, .aload_n 0, (0, 0, 0), 0)) (by decide +kernel)) g0m hm_z
      replace hm_z := rn_callV (M' := am_m176) (o := 164) (ar := []) (rest := []) (L := lv_args 0 [.ref 164]) (am_cur_of (i := (87, 3, .invokevirtual 312, (176, 1735, 3), 0)) (by decide +kernel)) rfl rfl rfl rfl hm_z
      obtain ⟨r671_z, h672_z, q673_z, hm_z⟩ := hm_z
      obtain ⟨rfl, yq673_z⟩ := rp_nm (c := 1) (d := 17) kc kd q673_z
      replace yq673_z := yq673_z.symm
      subst yq673_z
      rw [show rp_nmf 1 17 = 2 from by decide] at hm_z
      replace hm_z : rn _ _ _ _ [.int 2] _ _ _ := hm_z
      replace hm_z := rn_istore_n (am_cur_of (i := (90, 1, .istore_n 1, (0, 0, 0), 0)) (by decide +kernel)) hm_z
      obtain ⟨_, s674_z, s675_z, g1m, hm_z⟩ := hm_z
      replace g0m := s674_z 0 _ (by decide) rfl g0m
      clear s674_z s675_z
      replace hm_z := rn_iload_n (am_cur_of (i := (91, 1, .iload_n 1, (0, 0, 0), 0)) (by decide +kernel)) g1m hm_z
      replace hm_z := rn_ifT (am_cur_of (i := (92, 3, .ifCond .ge 17, (60, 0, 0), 0)) (by decide +kernel)) (by decide) hm_z
      replace hm_z := rn_iload_n (am_cur_of (i := (109, 1, .iload_n 1, (0, 0, 0), 0)) (by decide +kernel)) g1m hm_z
      replace hm_z := rn_ifT (am_cur_of (i := (110, 3, .ifCond .ge 19, (70, 0, 0), 0)) (by decide +kernel)) (by decide) hm_z
      replace hm_z := rn_aload_n (am_cur_of (i := (129, 1, .aload_n 0, (0, 0, 0), 0)) (by decide +kernel)) g0m hm_z
      replace hm_z := rn_callV (M' := am_m175) (o := 164) (ar := []) (rest := []) (L := lv_args 0 [.ref 164]) (am_cur_of (i := (130, 3, .invokevirtual 309, (175, 1731, 3), 0)) (by decide +kernel)) rfl rfl rfl rfl hm_z
      obtain ⟨r676_z, h677_z, q678_z, hm_z⟩ := hm_z
      rcases rs_ic q678_z with ⟨i1_z, rfl, i3_z⟩ | ⟨i1_z, -⟩
      · subst i3_z
        replace hm_z : rn _ _ _ _ [.int 0] _ _ _ := hm_z
        replace hm_z := rn_ifF (am_cur_of (i := (133, 3, .ifCond .ne 5, (75, 0, 0), 0)) (by decide +kernel)) (by decide) hm_z
        replace hm_z := rn_iconst (w := 0) (am_cur_of (i := (136, 1, .iconst 0, (0, 0, 0), 0)) (by decide +kernel)) (by decide) hm_z
        replace hm_z := rn_iret (am_cur_of (i := (137, 1, .ireturn, (0, 0, 0), 0)) (by decide +kernel)) hm_z
        obtain ⟨e679_z, e680_z⟩ := hm_z
        subst e679_z e680_z
        exact (Or.inr ⟨rfl, 2, by decide, K.1, K.2, rfl, R6⟩)
      · exact absurd (Int32.toInt_inj.mp (show (rg_v g 164 44).toInt = (64 : Int32).toInt from by rw [show rg_v g 164 44 = kn from nk1_z.symm, show (64 : Int32).toInt = 64 by decide]; omega)) i1_z
    · subst eh
      replace lt : kn.toInt < 64 := by rw [← ekn]; exact lt
      rw [show rg_v h 11 0 = kn from ekn] at hc_z
      replace hm_z := rn_aload_n (am_cur_of (i := (0, 1, .aload_n 0, (0, 0, 0), 0)) (by decide +kernel)) g0m hm_z
      replace hm_z := rn_bipush (w := 40) (am_cur_of (i := (1, 2, .bipush 40, (0, 0, 0), 0)) (by decide +kernel)) (by decide) hm_z
      replace hm_z := rn_callV (M' := am_m171) (o := 164) (ar := [.int 40]) (rest := []) (L := lv_args 0 [.ref 164, .int 40]) (am_cur_of (i := (3, 3, .invokevirtual 194, (171, 1715, 3), 0)) (by decide +kernel)) rfl rfl rfl rfl hm_z
      obtain ⟨r681_z, h682_z, q683_z, hm_z⟩ := hm_z
      obtain ⟨rfl, yq683_z⟩ := rp_sgN (fun q => absurd (Eq.trans (Eq.symm kc) q.1) (by decide)) q683_z
      subst yq683_z
      replace hm_z : rn _ _ _ _ [.int 0] _ _ _ := hm_z
      replace hm_z := rn_ifT (am_cur_of (i := (6, 3, .ifCond .eq 44, (28, 0, 0), 0)) (by decide +kernel)) (by decide) hm_z
      replace hm_z := rn_aload_n (am_cur_of (i := (50, 1, .aload_n 0, (0, 0, 0), 0)) (by decide +kernel)) g0m hm_z
      replace hm_z := rn_bipush (w := 14) (am_cur_of (i := (51, 2, .bipush 14, (0, 0, 0), 0)) (by decide +kernel)) (by decide) hm_z
      replace hm_z := rn_callV (M' := am_m174) (o := 164) (ar := [.int 14]) (rest := []) (L := lv_args 0 [.ref 164, .int 14]) (am_cur_of (i := (53, 3, .invokevirtual 306, (174, 1727, 3), 0)) (by decide +kernel)) rfl rfl rfl rfl hm_z
      obtain ⟨r684_z, h685_z, q686_z, hm_z⟩ := hm_z
      obtain ⟨rfl, yq686_z⟩ := rp_kyN (fun q => absurd (Eq.trans (Eq.symm kd) q.2) (by decide)) q686_z
      subst yq686_z
      replace hm_z : rn _ _ _ _ [.int 0] _ _ _ := hm_z
      replace hm_z := rn_ifT (am_cur_of (i := (56, 3, .ifCond .eq 30, (47, 0, 0), 0)) (by decide +kernel)) (by decide) hm_z
      replace hm_z := rn_aload_n (am_cur_of (i := (86, 1, .aload_n 0, (0, 0, 0), 0)) (by decide +kernel)) g0m hm_z
      replace hm_z := rn_callV (M' := am_m176) (o := 164) (ar := []) (rest := []) (L := lv_args 0 [.ref 164]) (am_cur_of (i := (87, 3, .invokevirtual 312, (176, 1735, 3), 0)) (by decide +kernel)) rfl rfl rfl rfl hm_z
      obtain ⟨r687_z, h688_z, q689_z, hm_z⟩ := hm_z
      obtain ⟨rfl, yq689_z⟩ := rp_nm (c := 1) (d := 17) kc kd q689_z
      replace yq689_z := yq689_z.symm
      subst yq689_z
      rw [show rp_nmf 1 17 = 2 from by decide] at hm_z
      replace hm_z : rn _ _ _ _ [.int 2] _ _ _ := hm_z
      replace hm_z := rn_istore_n (am_cur_of (i := (90, 1, .istore_n 1, (0, 0, 0), 0)) (by decide +kernel)) hm_z
      obtain ⟨_, s690_z, s691_z, g1m, hm_z⟩ := hm_z
      replace g0m := s690_z 0 _ (by decide) rfl g0m
      clear s690_z s691_z
      replace hm_z := rn_iload_n (am_cur_of (i := (91, 1, .iload_n 1, (0, 0, 0), 0)) (by decide +kernel)) g1m hm_z
      replace hm_z := rn_ifT (am_cur_of (i := (92, 3, .ifCond .ge 17, (60, 0, 0), 0)) (by decide +kernel)) (by decide) hm_z
      replace hm_z := rn_iload_n (am_cur_of (i := (109, 1, .iload_n 1, (0, 0, 0), 0)) (by decide +kernel)) g1m hm_z
      replace hm_z := rn_ifT (am_cur_of (i := (110, 3, .ifCond .ge 19, (70, 0, 0), 0)) (by decide +kernel)) (by decide) hm_z
      replace hm_z := rn_aload_n (am_cur_of (i := (129, 1, .aload_n 0, (0, 0, 0), 0)) (by decide +kernel)) g0m hm_z
      replace hm_z := rn_callV (M' := am_m175) (o := 164) (ar := []) (rest := []) (L := lv_args 0 [.ref 164]) (am_cur_of (i := (130, 3, .invokevirtual 309, (175, 1731, 3), 0)) (by decide +kernel)) rfl rfl rfl rfl hm_z
      obtain ⟨r692_z, h693_z, q694_z, hm_z⟩ := hm_z
      rcases rs_ic q694_z with ⟨i1_z, -⟩ | ⟨i1_z, rfl, i3_z⟩
      · exfalso
        have zz := congrArg Int32.toInt i1_z
        rw [show rg_v g 164 44 = kn from nk1_z.symm, show (64 : Int32).toInt = 64 by decide] at zz
        omega
      · subst i3_z
        rw [show rg_v g 164 44 = kn from nk1_z.symm] at hm_z
        replace hm_z : rn _ _ _ _ [.int 1] _ _ _ := hm_z
        replace hc_z : rn _ _ _ _ [] _ _ _ := hc_z
        replace hc_z := rn_aload_n (am_cur_of (i := (146, 1, .aload_n 0, (0, 0, 0), 0)) (by decide +kernel)) g0_z hc_z
        replace hc_z := rn_getM (x := 2) (am_cur_of (i := (147, 3, .getfield 25, (4, 6, 415), 0)) (by decide +kernel)) (show (am_up h 11 0 (.int (kn + 1))) 44 6 = .ref 2 from R3) hc_z
        replace hc_z := rn_getR (x := 11) (am_cur_of (i := (150, 3, .getfield 242, (1, 19, 316), 0)) (by decide +kernel)) (by decide +kernel) hc_z
        replace hc_z := rn_iconst (w := 1) (am_cur_of (i := (153, 1, .iconst 1, (0, 0, 0), 0)) (by decide +kernel)) (by decide) hc_z
        replace hc_z := rn_aload_n (am_cur_of (i := (154, 1, .aload_n 0, (0, 0, 0), 0)) (by decide +kernel)) g0_z hc_z
        replace hc_z := rn_getI (v := 14) (am_cur_of (i := (155, 3, .getfield 91, (4, 11, 420), 0)) (by decide +kernel)) (by decide +kernel) (show rg_v (am_up h 11 0 (.int (kn + 1))) 44 11 = 14 from kb) hc_z
        replace hc_z := rn_bipush (w := 11) (am_cur_of (i := (158, 2, .bipush 11, (0, 0, 0), 0)) (by decide +kernel)) (by decide) hc_z
        replace hc_z := rn_isub (w := 3) (am_cur_of (i := (160, 1, .isub, (0, 0, 0), 0)) (by decide +kernel)) (by decide) hc_z
        replace hc_z := rn_callV (M' := am_m48) (o := 11) (ar := [.int 3, .int 1]) (rest := []) (L := lv_args 0 [.ref 11, .int 1, .int 3]) (am_cur_of (i := (161, 3, .invokevirtual 276, (48, 845, 3), 0)) (by decide +kernel)) rfl rfl rfl rfl hc_z
        obtain ⟨r695_z, h696_z, q697_z, hc_z⟩ := hc_z
        obtain ⟨rfl, PF⟩ := rs_put2 q697_z
        replace hc_z : rn _ _ _ _ [] _ _ _ := hc_z
        replace hc_z := rn_goto (am_cur_of (i := (164, 3, .goto 8, (87, 0, 0), 0)) (by decide +kernel)) hc_z
        replace hc_z := rn_aload_n (am_cur_of (i := (172, 1, .aload_n 0, (0, 0, 0), 0)) (by decide +kernel)) g0_z hc_z
        replace hc_z := rn_callV (M' := am_m19) (o := 44) (ar := []) (rest := []) (L := lv_args 0 [.ref 44]) (am_cur_of (i := (173, 3, .invokevirtual 57, (19, 727, 3), 0)) (by decide +kernel)) rfl rfl rfl rfl hc_z
        obtain ⟨r698_z, h699_z, q700_z, hc_z⟩ := hc_z
        have vo := rn_void rfl q700_z
        subst vo
        replace hm_z := rn_ifT (am_cur_of (i := (133, 3, .ifCond .ne 5, (75, 0, 0), 0)) (by decide +kernel)) (by decide) hm_z
        replace hm_z := rn_aload_n (am_cur_of (i := (138, 1, .aload_n 0, (0, 0, 0), 0)) (by decide +kernel)) g0m hm_z
        replace hm_z := rn_iload_n (am_cur_of (i := (139, 1, .iload_n 1, (0, 0, 0), 0)) (by decide +kernel)) g1m hm_z
        replace hm_z := rn_ifF (am_cur_of (i := (140, 3, .ifCond .lt 7, (80, 0, 0), 0)) (by decide +kernel)) (by decide) hm_z
        replace hm_z := rn_iconst (w := 1) (am_cur_of (i := (143, 1, .iconst 1, (0, 0, 0), 0)) (by decide +kernel)) (by decide) hm_z
        replace hm_z := rn_goto (am_cur_of (i := (144, 3, .goto 4, (81, 0, 0), 0)) (by decide +kernel)) hm_z
        replace hm_z := rn_iload_n (am_cur_of (i := (148, 1, .iload_n 1, (0, 0, 0), 0)) (by decide +kernel)) g1m hm_z
        replace hm_z := rn_ifF (am_cur_of (i := (149, 3, .ifCond .lt 7, (85, 0, 0), 0)) (by decide +kernel)) (by decide) hm_z
        replace hm_z := rn_iload_n (am_cur_of (i := (152, 1, .iload_n 1, (0, 0, 0), 0)) (by decide +kernel)) g1m hm_z
        replace hm_z := rn_goto (am_cur_of (i := (153, 3, .goto 7, (87, 0, 0), 0)) (by decide +kernel)) hm_z
        replace hm_z := rn_iconst (w := 0) (am_cur_of (i := (160, 1, .iconst 0, (0, 0, 0), 0)) (by decide +kernel)) (by decide) hm_z
        replace hm_z := rn_callV (M' := am_m177) (o := 164) (ar := [.int 0, .int 2, .int 1]) (rest := []) (L := lv_args 0 [.ref 164, .int 1, .int 2, .int 0]) (am_cur_of (i := (161, 3, .invokevirtual 291, (177, 1739, 3), 0)) (by decide +kernel)) rfl rfl rfl rfl hm_z
        obtain ⟨r701_z, h702_z, q703_z, hm_z⟩ := hm_z
        obtain ⟨rfl, GF⟩ := rs_grown q703_z
        replace hm_z : rn _ _ _ _ [] _ _ _ := hm_z
        replace hm_z := rn_aload_n (am_cur_of (i := (164, 1, .aload_n 0, (0, 0, 0), 0)) (by decide +kernel)) g0m hm_z
        replace hm_z := rn_iconst (w := 0) (am_cur_of (i := (165, 1, .iconst 0, (0, 0, 0), 0)) (by decide +kernel)) (by decide) hm_z
        replace hm_z := rn_put (am_cur_of (i := (166, 3, .putfield 315, (12, 45, 1429), 0)) (by decide +kernel)) (by decide +kernel) hm_z
        replace hm_z := rn_aload_n (am_cur_of (i := (169, 1, .aload_n 0, (0, 0, 0), 0)) (by decide +kernel)) g0m hm_z
        replace hm_z := rn_callV (M' := am_m151) (o := 164) (ar := []) (rest := []) (L := lv_args 0 [.ref 164]) (am_cur_of (i := (170, 3, .invokevirtual 191, (151, 1636, 3), 0)) (by decide +kernel)) rfl rfl rfl rfl hm_z
        obtain ⟨r704_z, h705_z, q706_z, hm_z⟩ := hm_z
        have vo := rn_void rfl q706_z
        subst vo
        have FC : ab_Fr (rz_MC2.drop 1) h h696_z := ab_Fr_trans (ab_Fr_up rfl ab_Fr_refl) (ab_Fr_sub (by decide) PF)
        have FC' : ab_Fr rz_MC2 h h696_z := ab_Fr_sub (by decide) FC
        have FM : ab_Fr rz_MM g (am_up h702_z 164 45 (.int 0)) := ab_Fr_up rfl (ab_Fr_trans (ab_Fr_up rfl ab_Fr_refl) (ab_Fr_sub (by decide) GF))
        obtain ⟨-, -, x2_z, p2_z, R2, le2_z, t5_z, t6_z⟩ := pr_tok (rz_q02 (rq_0 Rk) FC' FM) q700_z q706_z
        have A2 := rp_x (by decide) (rz_p2 A FC' FM ((show rg_v h696_z 11 0 = kn + 1 from ((rg_v_fr PF (by decide)).trans (show rg_v (am_up h 11 0 (.int (kn + 1))) 11 0 = kn + 1 from rfl))).trans (show rg_v (am_up h702_z 164 45 (.int 0)) 164 44 = kn + 1 from (show rg_v (am_up h702_z 164 45 (.int 0)) 164 44 = kn + 1 from ((rg_v_fr GF (by decide)).trans (show rg_v (am_up g 164 44 (.int (kn + 1))) 164 44 = kn + 1 from rfl)))).symm) (by rw [show rg_v h696_z 11 0 = kn + 1 from ((rg_v_fr PF (by decide)).trans (show rg_v (am_up h 11 0 (.int (kn + 1))) 11 0 = kn + 1 from rfl))]; omega) (by rw [show rg_v h696_z 11 0 = kn + 1 from ((rg_v_fr PF (by decide)).trans (show rg_v (am_up h 11 0 (.int (kn + 1))) 11 0 = kn + 1 from rfl))]; omega)) (rx_C_f t5_z) (rx_M_f t6_z)
        have B2 := rp_tk (rz_t2 B FC FM) (rg_v_fr t5_z (by decide)) (fun k => rg_v_fr t6_z (rg_v_in (by decide) k)) (rx_M_f t6_z)
        have FC47 : ab_Fr [(44, 14), (44, 15), (11, 1), (11, 2), (12, 0), (13, 0)] h h696_z := ab_Fr_trans (ab_Fr_up rfl ab_Fr_refl) (ab_Fr_sub (by decide) PF)
        have FM184 : ab_Fr [(164, 42), (164, 43), (164, 44), (164, 45), (164, 46), (164, 47), (164, 22), (181, 0), (182, 0), (183, 0), (185, 0)] g (am_up h702_z 164 45 (.int 0)) := ab_Fr_up rfl (ab_Fr_trans (ab_Fr_up rfl ab_Fr_refl) (ab_Fr_sub (by decide) GF))
        have Z2 : rs 2 h696_z (am_up h702_z 164 45 (.int 0)) := rs_keep Zk ((show rg_v h696_z 44 13 = np from ((rg_v_fr PF (by decide)).trans (show rg_v (am_up h 11 0 (.int (kn + 1))) 44 13 = np from z1_z))).trans z1_z.symm) ((show rg_v (am_up h702_z 164 45 (.int 0)) 164 41 = np from (show rg_v (am_up h702_z 164 45 (.int 0)) 164 41 = np from ((rg_v_fr GF (by decide)).trans (show rg_v (am_up g 164 44 (.int (kn + 1))) 164 41 = np from z2_z)))).trans z2_z.symm) ((show rg_v h696_z 44 14 = op from ((rg_v_fr PF (by decide)).trans (show rg_v (am_up h 11 0 (.int (kn + 1))) 44 14 = op from z4_z))).trans z4_z.symm) ((show rg_v (am_up h702_z 164 45 (.int 0)) 164 43 = op from (show rg_v (am_up h702_z 164 45 (.int 0)) 164 43 = op from ((rg_v_fr GF (by decide)).trans (show rg_v (am_up g 164 44 (.int (kn + 1))) 164 43 = op from z5_z)))).trans z5_z.symm) (show (rg_v h 11 0).toInt ≤ (rg_v h696_z 11 0).toInt by rw [(show rg_v h696_z 11 0 = kn + 1 from ((rg_v_fr PF (by decide)).trans (show rg_v (am_up h 11 0 (.int (kn + 1))) 11 0 = kn + 1 from rfl))), ekn]; omega) (fun k => rg_v_fr FC47 (rg_v_in (by decide) k)) (fun k => rg_v_fr FM184 (rg_v_in (by decide) k))
        replace Z2 := rs_fr (by decide) Z2 t5_z t6_z
        have e45_z : rg_v h705_z 164 45 = 0 := (rg_v_fr t6_z (by decide)).trans (show rg_v (am_up h702_z 164 45 (.int 0)) 164 45 = 0 from (show rg_v (am_up h702_z 164 45 (.int 0)) 164 45 = 0 from rfl))
        have e46_z : rg_v h705_z 164 46 = 1 := (rg_v_fr t6_z (by decide)).trans (show rg_v (am_up h702_z 164 45 (.int 0)) 164 46 = 1 from (show rg_v (am_up h702_z 164 45 (.int 0)) 164 46 = 1 from ((rg_v_fr GF (by decide)).trans (show rg_v (am_up g 164 44 (.int (kn + 1))) 164 46 = 1 from w2_z))))
        replace hm_z : rn _ _ _ _ [] _ _ _ := hm_z
        replace hc_z : rn _ _ _ _ [] _ _ _ := hc_z
        replace hc_z := rn_iconst (w := 2) (am_cur_of (i := (176, 1, .iconst 2, (0, 0, 0), 0)) (by decide +kernel)) (by decide) hc_z
        replace hc_z := rn_iret (am_cur_of (i := (177, 1, .ireturn, (0, 0, 0), 0)) (by decide +kernel)) hc_z
        obtain ⟨e707_z, e708_z⟩ := hc_z
        replace hm_z := rn_iconst (w := 1) (am_cur_of (i := (173, 1, .iconst 1, (0, 0, 0), 0)) (by decide +kernel)) (by decide) hm_z
        replace hm_z := rn_iret (am_cur_of (i := (174, 1, .ireturn, (0, 0, 0), 0)) (by decide +kernel)) hm_z
        obtain ⟨e709_z, e710_z⟩ := hm_z
        subst e707_z e708_z e709_z e710_z
        exact Or.inl ⟨_, x2_z, p2_z, rfl, rfl, R2, le2_z, A2, B2, Z2, Or.inr (Or.inr ⟨rfl, e45_z⟩)⟩
  · have g0_z : am_get (lv_args 0 [.ref 44, .int 0]) 0 = some (.ref 44) := rfl
    have g1_z : am_get (lv_args 0 [.ref 44, .int 0]) 1 = some (.int 0) := rfl
    have g0m : am_get (lv_args 0 [.ref 164]) 0 = some (.ref 164) := rfl
    have Rk := R
    have Zk := Z
    obtain ⟨⟨c1_z, c2_z, c3_z, c4_z, c5_z, c6_z, c7_z, c8_z⟩, ⟨m2_z, m3_z, m4_z, m5_z, m6_z, m7_z, m8_z⟩, R3, R4, R5, R6, R7, R8, R9, R10⟩ := (R : rq T S x p 2 h g)
    obtain ⟨np, op, z1_z, z2_z, z3_z, z4_z, z5_z, z6_z, z7_z, z8_z, z9_z, z10_z⟩ := (Z : rs 2 h g)
    obtain ⟨nk1_z, nk2_z, nk3_z⟩ := A.2.2.2.2.2.1
    replace nk1_z : rg_v h 11 0 = rg_v g 164 44 := nk1_z
    replace nk2_z : 0 ≤ (rg_v h 11 0).toInt := nk2_z
    replace nk3_z : (rg_v h 11 0).toInt ≤ 64 := nk3_z
    replace z8_z : np.toInt ≤ (rg_v h 11 0).toInt + op.toInt := z8_z
    obtain ⟨kn, ekn⟩ : ∃ v, rg_v h 11 0 = v := ⟨_, rfl⟩
    rw [ekn] at nk1_z nk2_z nk3_z z8_z
    have e9_z := rt_c1 (x := kn) (by omega) (by omega)
    replace hc_z := rn_aload_n (am_cur_of (i := (0, 1, .aload_n 0, (0, 0, 0), 0)) (by decide +kernel)) g0_z hc_z
    replace hc_z := rn_getI (v := 2) (am_cur_of (i := (1, 3, .getfield 60, (4, 10, 419), 0)) (by decide +kernel)) (by decide +kernel) ka hc_z
    replace hc_z := rn_bipush (w := 6) (am_cur_of (i := (4, 2, .bipush 6, (0, 0, 0), 0)) (by decide +kernel)) (by decide) hc_z
    replace hc_z := rn_cmpT (am_cur_of (i := (6, 3, .if_icmp .ne 30, (19, 0, 0), 0)) (by decide +kernel)) (by decide) hc_z
    replace hc_z := rn_aload_n (am_cur_of (i := (36, 1, .aload_n 0, (0, 0, 0), 0)) (by decide +kernel)) g0_z hc_z
    replace hc_z := rn_bipush (w := 40) (am_cur_of (i := (37, 2, .bipush 40, (0, 0, 0), 0)) (by decide +kernel)) (by decide) hc_z
    replace hc_z := rn_callV (M' := am_m45) (o := 44) (ar := [.int 40]) (rest := []) (L := lv_args 0 [.ref 44, .int 40]) (am_cur_of (i := (39, 3, .invokevirtual 105, (45, 834, 3), 0)) (by decide +kernel)) rfl rfl rfl rfl hc_z
    obtain ⟨r711_z, h712_z, q713_z, hc_z⟩ := hc_z
    obtain ⟨rfl, yq713_z⟩ := rp_mkN (fun q => absurd (Eq.trans (Eq.symm ka) q.1) (by decide)) q713_z
    subst yq713_z
    replace hc_z : rn _ _ _ _ [.int 0] _ _ _ := hc_z
    replace hc_z := rn_ifT (am_cur_of (i := (42, 3, .ifCond .eq 38, (43, 0, 0), 0)) (by decide +kernel)) (by decide) hc_z
    replace hc_z := rn_aload_n (am_cur_of (i := (80, 1, .aload_n 0, (0, 0, 0), 0)) (by decide +kernel)) g0_z hc_z
    replace hc_z := rn_getI (v := 2) (am_cur_of (i := (81, 3, .getfield 60, (4, 10, 419), 0)) (by decide +kernel)) (by decide +kernel) ka hc_z
    replace hc_z := rn_iconst (w := 4) (am_cur_of (i := (84, 1, .iconst 4, (0, 0, 0), 0)) (by decide +kernel)) (by decide) hc_z
    replace hc_z := rn_cmpT (am_cur_of (i := (85, 3, .if_icmp .ne 40, (64, 0, 0), 0)) (by decide +kernel)) (by decide) hc_z
    replace hc_z := rn_aload_n (am_cur_of (i := (125, 1, .aload_n 0, (0, 0, 0), 0)) (by decide +kernel)) g0_z hc_z
    replace hc_z := rn_getI (v := 2) (am_cur_of (i := (126, 3, .getfield 60, (4, 10, 419), 0)) (by decide +kernel)) (by decide +kernel) ka hc_z
    replace hc_z := rn_iconst (w := 2) (am_cur_of (i := (129, 1, .iconst 2, (0, 0, 0), 0)) (by decide +kernel)) (by decide) hc_z
    replace hc_z := rn_cmpF (am_cur_of (i := (130, 3, .if_icmp .ne 37, (84, 0, 0), 0)) (by decide +kernel)) (by decide) hc_z
    replace hc_z := rn_aload_n (am_cur_of (i := (133, 1, .aload_n 0, (0, 0, 0), 0)) (by decide +kernel)) g0_z hc_z
    replace hc_z := rn_getI (v := 15) (am_cur_of (i := (134, 3, .getfield 91, (4, 11, 420), 0)) (by decide +kernel)) (by decide +kernel) kb hc_z
    replace hc_z := rn_bipush (w := 11) (am_cur_of (i := (137, 2, .bipush 11, (0, 0, 0), 0)) (by decide +kernel)) (by decide) hc_z
    replace hc_z := rn_cmpF (am_cur_of (i := (139, 3, .if_icmp .lt 28, (84, 0, 0), 0)) (by decide +kernel)) (by decide) hc_z
    replace hc_z := rn_aload_n (am_cur_of (i := (142, 1, .aload_n 0, (0, 0, 0), 0)) (by decide +kernel)) g0_z hc_z
    replace hc_z := rn_callV (M' := am_m49) (o := 44) (ar := []) (rest := []) (L := lv_args 0 [.ref 44]) (am_cur_of (i := (143, 3, .invokevirtual 270, (49, 852, 3), 0)) (by decide +kernel)) rfl rfl rfl rfl hc_z
    obtain ⟨r714_z, h715_z, q716_z, hc_z⟩ := hc_z
    rcases rs_ck2 R4 (show h 44 6 = .ref 2 from R3) q716_z with ⟨ge, rfl, eh⟩ | ⟨lt, rfl, eh⟩
    · subst eh
      replace ge : 64 ≤ kn.toInt := by rw [← ekn]; exact ge
      replace hc_z : rn _ _ _ _ [] _ _ _ := hc_z
      have K := rs_stick (w := 2) (q := p) (a := 51) (by decide) (by decide) rfl (by decide) rfl (show rg_v (am_up (am_up h 44 1 (.int 2)) 44 2 (.int (rg_v h 44 9))) 44 2 = p from R5) hc_z
      replace hm_z := rn_aload_n (am_cur_of (i := (0, 1, .aload_n 0, (0, 0, 0), 0)) (by decide +kernel)) g0m hm_z
      replace hm_z := rn_bipush (w := 40) (am_cur_of (i := (1, 2, .bipush 40, (0, 0, 0), 0)) (by decide +kernel)) (by decide) hm_z
      replace hm_z := rn_callV (M' := am_m171) (o := 164) (ar := [.int 40]) (rest := []) (L := lv_args 0 [.ref 164, .int 40]) (am_cur_of (i := (3, 3, .invokevirtual 194, (171, 1715, 3), 0)) (by decide +kernel)) rfl rfl rfl rfl hm_z
      obtain ⟨r717_z, h718_z, q719_z, hm_z⟩ := hm_z
      obtain ⟨rfl, yq719_z⟩ := rp_sgN (fun q => absurd (Eq.trans (Eq.symm kc) q.1) (by decide)) q719_z
      subst yq719_z
      replace hm_z : rn _ _ _ _ [.int 0] _ _ _ := hm_z
      replace hm_z := rn_ifT (am_cur_of (i := (6, 3, .ifCond .eq 44, (28, 0, 0), 0)) (by decide +kernel)) (by decide) hm_z
      replace hm_z := rn_aload_n (am_cur_of (i := (50, 1, .aload_n 0, (0, 0, 0), 0)) (by decide +kernel)) g0m hm_z
      replace hm_z := rn_bipush (w := 14) (am_cur_of (i := (51, 2, .bipush 14, (0, 0, 0), 0)) (by decide +kernel)) (by decide) hm_z
      replace hm_z := rn_callV (M' := am_m174) (o := 164) (ar := [.int 14]) (rest := []) (L := lv_args 0 [.ref 164, .int 14]) (am_cur_of (i := (53, 3, .invokevirtual 306, (174, 1727, 3), 0)) (by decide +kernel)) rfl rfl rfl rfl hm_z
      obtain ⟨r720_z, h721_z, q722_z, hm_z⟩ := hm_z
      obtain ⟨rfl, yq722_z⟩ := rp_kyN (fun q => absurd (Eq.trans (Eq.symm kd) q.2) (by decide)) q722_z
      subst yq722_z
      replace hm_z : rn _ _ _ _ [.int 0] _ _ _ := hm_z
      replace hm_z := rn_ifT (am_cur_of (i := (56, 3, .ifCond .eq 30, (47, 0, 0), 0)) (by decide +kernel)) (by decide) hm_z
      replace hm_z := rn_aload_n (am_cur_of (i := (86, 1, .aload_n 0, (0, 0, 0), 0)) (by decide +kernel)) g0m hm_z
      replace hm_z := rn_callV (M' := am_m176) (o := 164) (ar := []) (rest := []) (L := lv_args 0 [.ref 164]) (am_cur_of (i := (87, 3, .invokevirtual 312, (176, 1735, 3), 0)) (by decide +kernel)) rfl rfl rfl rfl hm_z
      obtain ⟨r723_z, h724_z, q725_z, hm_z⟩ := hm_z
      obtain ⟨rfl, yq725_z⟩ := rp_nm (c := 1) (d := 18) kc kd q725_z
      replace yq725_z := yq725_z.symm
      subst yq725_z
      rw [show rp_nmf 1 18 = 4 from by decide] at hm_z
      replace hm_z : rn _ _ _ _ [.int 4] _ _ _ := hm_z
      replace hm_z := rn_istore_n (am_cur_of (i := (90, 1, .istore_n 1, (0, 0, 0), 0)) (by decide +kernel)) hm_z
      obtain ⟨_, s726_z, s727_z, g1m, hm_z⟩ := hm_z
      replace g0m := s726_z 0 _ (by decide) rfl g0m
      clear s726_z s727_z
      replace hm_z := rn_iload_n (am_cur_of (i := (91, 1, .iload_n 1, (0, 0, 0), 0)) (by decide +kernel)) g1m hm_z
      replace hm_z := rn_ifT (am_cur_of (i := (92, 3, .ifCond .ge 17, (60, 0, 0), 0)) (by decide +kernel)) (by decide) hm_z
      replace hm_z := rn_iload_n (am_cur_of (i := (109, 1, .iload_n 1, (0, 0, 0), 0)) (by decide +kernel)) g1m hm_z
      replace hm_z := rn_ifT (am_cur_of (i := (110, 3, .ifCond .ge 19, (70, 0, 0), 0)) (by decide +kernel)) (by decide) hm_z
      replace hm_z := rn_aload_n (am_cur_of (i := (129, 1, .aload_n 0, (0, 0, 0), 0)) (by decide +kernel)) g0m hm_z
      replace hm_z := rn_callV (M' := am_m175) (o := 164) (ar := []) (rest := []) (L := lv_args 0 [.ref 164]) (am_cur_of (i := (130, 3, .invokevirtual 309, (175, 1731, 3), 0)) (by decide +kernel)) rfl rfl rfl rfl hm_z
      obtain ⟨r728_z, h729_z, q730_z, hm_z⟩ := hm_z
      rcases rs_ic q730_z with ⟨i1_z, rfl, i3_z⟩ | ⟨i1_z, -⟩
      · subst i3_z
        replace hm_z : rn _ _ _ _ [.int 0] _ _ _ := hm_z
        replace hm_z := rn_ifF (am_cur_of (i := (133, 3, .ifCond .ne 5, (75, 0, 0), 0)) (by decide +kernel)) (by decide) hm_z
        replace hm_z := rn_iconst (w := 0) (am_cur_of (i := (136, 1, .iconst 0, (0, 0, 0), 0)) (by decide +kernel)) (by decide) hm_z
        replace hm_z := rn_iret (am_cur_of (i := (137, 1, .ireturn, (0, 0, 0), 0)) (by decide +kernel)) hm_z
        obtain ⟨e731_z, e732_z⟩ := hm_z
        subst e731_z e732_z
        exact (Or.inr ⟨rfl, 2, by decide, K.1, K.2, rfl, R6⟩)
      · exact absurd (Int32.toInt_inj.mp (show (rg_v g 164 44).toInt = (64 : Int32).toInt from by rw [show rg_v g 164 44 = kn from nk1_z.symm, show (64 : Int32).toInt = 64 by decide]; omega)) i1_z
    · subst eh
      replace lt : kn.toInt < 64 := by rw [← ekn]; exact lt
      rw [show rg_v h 11 0 = kn from ekn] at hc_z
      replace hm_z := rn_aload_n (am_cur_of (i := (0, 1, .aload_n 0, (0, 0, 0), 0)) (by decide +kernel)) g0m hm_z
      replace hm_z := rn_bipush (w := 40) (am_cur_of (i := (1, 2, .bipush 40, (0, 0, 0), 0)) (by decide +kernel)) (by decide) hm_z
      replace hm_z := rn_callV (M' := am_m171) (o := 164) (ar := [.int 40]) (rest := []) (L := lv_args 0 [.ref 164, .int 40]) (am_cur_of (i := (3, 3, .invokevirtual 194, (171, 1715, 3), 0)) (by decide +kernel)) rfl rfl rfl rfl hm_z
      obtain ⟨r733_z, h734_z, q735_z, hm_z⟩ := hm_z
      obtain ⟨rfl, yq735_z⟩ := rp_sgN (fun q => absurd (Eq.trans (Eq.symm kc) q.1) (by decide)) q735_z
      subst yq735_z
      replace hm_z : rn _ _ _ _ [.int 0] _ _ _ := hm_z
      replace hm_z := rn_ifT (am_cur_of (i := (6, 3, .ifCond .eq 44, (28, 0, 0), 0)) (by decide +kernel)) (by decide) hm_z
      replace hm_z := rn_aload_n (am_cur_of (i := (50, 1, .aload_n 0, (0, 0, 0), 0)) (by decide +kernel)) g0m hm_z
      replace hm_z := rn_bipush (w := 14) (am_cur_of (i := (51, 2, .bipush 14, (0, 0, 0), 0)) (by decide +kernel)) (by decide) hm_z
      replace hm_z := rn_callV (M' := am_m174) (o := 164) (ar := [.int 14]) (rest := []) (L := lv_args 0 [.ref 164, .int 14]) (am_cur_of (i := (53, 3, .invokevirtual 306, (174, 1727, 3), 0)) (by decide +kernel)) rfl rfl rfl rfl hm_z
      obtain ⟨r736_z, h737_z, q738_z, hm_z⟩ := hm_z
      obtain ⟨rfl, yq738_z⟩ := rp_kyN (fun q => absurd (Eq.trans (Eq.symm kd) q.2) (by decide)) q738_z
      subst yq738_z
      replace hm_z : rn _ _ _ _ [.int 0] _ _ _ := hm_z
      replace hm_z := rn_ifT (am_cur_of (i := (56, 3, .ifCond .eq 30, (47, 0, 0), 0)) (by decide +kernel)) (by decide) hm_z
      replace hm_z := rn_aload_n (am_cur_of (i := (86, 1, .aload_n 0, (0, 0, 0), 0)) (by decide +kernel)) g0m hm_z
      replace hm_z := rn_callV (M' := am_m176) (o := 164) (ar := []) (rest := []) (L := lv_args 0 [.ref 164]) (am_cur_of (i := (87, 3, .invokevirtual 312, (176, 1735, 3), 0)) (by decide +kernel)) rfl rfl rfl rfl hm_z
      obtain ⟨r739_z, h740_z, q741_z, hm_z⟩ := hm_z
      obtain ⟨rfl, yq741_z⟩ := rp_nm (c := 1) (d := 18) kc kd q741_z
      replace yq741_z := yq741_z.symm
      subst yq741_z
      rw [show rp_nmf 1 18 = 4 from by decide] at hm_z
      replace hm_z : rn _ _ _ _ [.int 4] _ _ _ := hm_z
      replace hm_z := rn_istore_n (am_cur_of (i := (90, 1, .istore_n 1, (0, 0, 0), 0)) (by decide +kernel)) hm_z
      obtain ⟨_, s742_z, s743_z, g1m, hm_z⟩ := hm_z
      replace g0m := s742_z 0 _ (by decide) rfl g0m
      clear s742_z s743_z
      replace hm_z := rn_iload_n (am_cur_of (i := (91, 1, .iload_n 1, (0, 0, 0), 0)) (by decide +kernel)) g1m hm_z
      replace hm_z := rn_ifT (am_cur_of (i := (92, 3, .ifCond .ge 17, (60, 0, 0), 0)) (by decide +kernel)) (by decide) hm_z
      replace hm_z := rn_iload_n (am_cur_of (i := (109, 1, .iload_n 1, (0, 0, 0), 0)) (by decide +kernel)) g1m hm_z
      replace hm_z := rn_ifT (am_cur_of (i := (110, 3, .ifCond .ge 19, (70, 0, 0), 0)) (by decide +kernel)) (by decide) hm_z
      replace hm_z := rn_aload_n (am_cur_of (i := (129, 1, .aload_n 0, (0, 0, 0), 0)) (by decide +kernel)) g0m hm_z
      replace hm_z := rn_callV (M' := am_m175) (o := 164) (ar := []) (rest := []) (L := lv_args 0 [.ref 164]) (am_cur_of (i := (130, 3, .invokevirtual 309, (175, 1731, 3), 0)) (by decide +kernel)) rfl rfl rfl rfl hm_z
      obtain ⟨r744_z, h745_z, q746_z, hm_z⟩ := hm_z
      rcases rs_ic q746_z with ⟨i1_z, -⟩ | ⟨i1_z, rfl, i3_z⟩
      · exfalso
        have zz := congrArg Int32.toInt i1_z
        rw [show rg_v g 164 44 = kn from nk1_z.symm, show (64 : Int32).toInt = 64 by decide] at zz
        omega
      · subst i3_z
        rw [show rg_v g 164 44 = kn from nk1_z.symm] at hm_z
        replace hm_z : rn _ _ _ _ [.int 1] _ _ _ := hm_z
        replace hc_z : rn _ _ _ _ [] _ _ _ := hc_z
        replace hc_z := rn_aload_n (am_cur_of (i := (146, 1, .aload_n 0, (0, 0, 0), 0)) (by decide +kernel)) g0_z hc_z
        replace hc_z := rn_getM (x := 2) (am_cur_of (i := (147, 3, .getfield 25, (4, 6, 415), 0)) (by decide +kernel)) (show (am_up h 11 0 (.int (kn + 1))) 44 6 = .ref 2 from R3) hc_z
        replace hc_z := rn_getR (x := 11) (am_cur_of (i := (150, 3, .getfield 242, (1, 19, 316), 0)) (by decide +kernel)) (by decide +kernel) hc_z
        replace hc_z := rn_iconst (w := 1) (am_cur_of (i := (153, 1, .iconst 1, (0, 0, 0), 0)) (by decide +kernel)) (by decide) hc_z
        replace hc_z := rn_aload_n (am_cur_of (i := (154, 1, .aload_n 0, (0, 0, 0), 0)) (by decide +kernel)) g0_z hc_z
        replace hc_z := rn_getI (v := 15) (am_cur_of (i := (155, 3, .getfield 91, (4, 11, 420), 0)) (by decide +kernel)) (by decide +kernel) (show rg_v (am_up h 11 0 (.int (kn + 1))) 44 11 = 15 from kb) hc_z
        replace hc_z := rn_bipush (w := 11) (am_cur_of (i := (158, 2, .bipush 11, (0, 0, 0), 0)) (by decide +kernel)) (by decide) hc_z
        replace hc_z := rn_isub (w := 4) (am_cur_of (i := (160, 1, .isub, (0, 0, 0), 0)) (by decide +kernel)) (by decide) hc_z
        replace hc_z := rn_callV (M' := am_m48) (o := 11) (ar := [.int 4, .int 1]) (rest := []) (L := lv_args 0 [.ref 11, .int 1, .int 4]) (am_cur_of (i := (161, 3, .invokevirtual 276, (48, 845, 3), 0)) (by decide +kernel)) rfl rfl rfl rfl hc_z
        obtain ⟨r747_z, h748_z, q749_z, hc_z⟩ := hc_z
        obtain ⟨rfl, PF⟩ := rs_put2 q749_z
        replace hc_z : rn _ _ _ _ [] _ _ _ := hc_z
        replace hc_z := rn_goto (am_cur_of (i := (164, 3, .goto 8, (87, 0, 0), 0)) (by decide +kernel)) hc_z
        replace hc_z := rn_aload_n (am_cur_of (i := (172, 1, .aload_n 0, (0, 0, 0), 0)) (by decide +kernel)) g0_z hc_z
        replace hc_z := rn_callV (M' := am_m19) (o := 44) (ar := []) (rest := []) (L := lv_args 0 [.ref 44]) (am_cur_of (i := (173, 3, .invokevirtual 57, (19, 727, 3), 0)) (by decide +kernel)) rfl rfl rfl rfl hc_z
        obtain ⟨r750_z, h751_z, q752_z, hc_z⟩ := hc_z
        have vo := rn_void rfl q752_z
        subst vo
        replace hm_z := rn_ifT (am_cur_of (i := (133, 3, .ifCond .ne 5, (75, 0, 0), 0)) (by decide +kernel)) (by decide) hm_z
        replace hm_z := rn_aload_n (am_cur_of (i := (138, 1, .aload_n 0, (0, 0, 0), 0)) (by decide +kernel)) g0m hm_z
        replace hm_z := rn_iload_n (am_cur_of (i := (139, 1, .iload_n 1, (0, 0, 0), 0)) (by decide +kernel)) g1m hm_z
        replace hm_z := rn_ifF (am_cur_of (i := (140, 3, .ifCond .lt 7, (80, 0, 0), 0)) (by decide +kernel)) (by decide) hm_z
        replace hm_z := rn_iconst (w := 1) (am_cur_of (i := (143, 1, .iconst 1, (0, 0, 0), 0)) (by decide +kernel)) (by decide) hm_z
        replace hm_z := rn_goto (am_cur_of (i := (144, 3, .goto 4, (81, 0, 0), 0)) (by decide +kernel)) hm_z
        replace hm_z := rn_iload_n (am_cur_of (i := (148, 1, .iload_n 1, (0, 0, 0), 0)) (by decide +kernel)) g1m hm_z
        replace hm_z := rn_ifF (am_cur_of (i := (149, 3, .ifCond .lt 7, (85, 0, 0), 0)) (by decide +kernel)) (by decide) hm_z
        replace hm_z := rn_iload_n (am_cur_of (i := (152, 1, .iload_n 1, (0, 0, 0), 0)) (by decide +kernel)) g1m hm_z
        replace hm_z := rn_goto (am_cur_of (i := (153, 3, .goto 7, (87, 0, 0), 0)) (by decide +kernel)) hm_z
        replace hm_z := rn_iconst (w := 0) (am_cur_of (i := (160, 1, .iconst 0, (0, 0, 0), 0)) (by decide +kernel)) (by decide) hm_z
        replace hm_z := rn_callV (M' := am_m177) (o := 164) (ar := [.int 0, .int 4, .int 1]) (rest := []) (L := lv_args 0 [.ref 164, .int 1, .int 4, .int 0]) (am_cur_of (i := (161, 3, .invokevirtual 291, (177, 1739, 3), 0)) (by decide +kernel)) rfl rfl rfl rfl hm_z
        obtain ⟨r753_z, h754_z, q755_z, hm_z⟩ := hm_z
        obtain ⟨rfl, GF⟩ := rs_grown q755_z
        replace hm_z : rn _ _ _ _ [] _ _ _ := hm_z
        replace hm_z := rn_aload_n (am_cur_of (i := (164, 1, .aload_n 0, (0, 0, 0), 0)) (by decide +kernel)) g0m hm_z
        replace hm_z := rn_iconst (w := 0) (am_cur_of (i := (165, 1, .iconst 0, (0, 0, 0), 0)) (by decide +kernel)) (by decide) hm_z
        replace hm_z := rn_put (am_cur_of (i := (166, 3, .putfield 315, (12, 45, 1429), 0)) (by decide +kernel)) (by decide +kernel) hm_z
        replace hm_z := rn_aload_n (am_cur_of (i := (169, 1, .aload_n 0, (0, 0, 0), 0)) (by decide +kernel)) g0m hm_z
        replace hm_z := rn_callV (M' := am_m151) (o := 164) (ar := []) (rest := []) (L := lv_args 0 [.ref 164]) (am_cur_of (i := (170, 3, .invokevirtual 191, (151, 1636, 3), 0)) (by decide +kernel)) rfl rfl rfl rfl hm_z
        obtain ⟨r756_z, h757_z, q758_z, hm_z⟩ := hm_z
        have vo := rn_void rfl q758_z
        subst vo
        have FC : ab_Fr (rz_MC2.drop 1) h h748_z := ab_Fr_trans (ab_Fr_up rfl ab_Fr_refl) (ab_Fr_sub (by decide) PF)
        have FC' : ab_Fr rz_MC2 h h748_z := ab_Fr_sub (by decide) FC
        have FM : ab_Fr rz_MM g (am_up h754_z 164 45 (.int 0)) := ab_Fr_up rfl (ab_Fr_trans (ab_Fr_up rfl ab_Fr_refl) (ab_Fr_sub (by decide) GF))
        obtain ⟨-, -, x2_z, p2_z, R2, le2_z, t5_z, t6_z⟩ := pr_tok (rz_q02 (rq_0 Rk) FC' FM) q752_z q758_z
        have A2 := rp_x (by decide) (rz_p2 A FC' FM ((show rg_v h748_z 11 0 = kn + 1 from ((rg_v_fr PF (by decide)).trans (show rg_v (am_up h 11 0 (.int (kn + 1))) 11 0 = kn + 1 from rfl))).trans (show rg_v (am_up h754_z 164 45 (.int 0)) 164 44 = kn + 1 from (show rg_v (am_up h754_z 164 45 (.int 0)) 164 44 = kn + 1 from ((rg_v_fr GF (by decide)).trans (show rg_v (am_up g 164 44 (.int (kn + 1))) 164 44 = kn + 1 from rfl)))).symm) (by rw [show rg_v h748_z 11 0 = kn + 1 from ((rg_v_fr PF (by decide)).trans (show rg_v (am_up h 11 0 (.int (kn + 1))) 11 0 = kn + 1 from rfl))]; omega) (by rw [show rg_v h748_z 11 0 = kn + 1 from ((rg_v_fr PF (by decide)).trans (show rg_v (am_up h 11 0 (.int (kn + 1))) 11 0 = kn + 1 from rfl))]; omega)) (rx_C_f t5_z) (rx_M_f t6_z)
        have B2 := rp_tk (rz_t2 B FC FM) (rg_v_fr t5_z (by decide)) (fun k => rg_v_fr t6_z (rg_v_in (by decide) k)) (rx_M_f t6_z)
        have FC47 : ab_Fr [(44, 14), (44, 15), (11, 1), (11, 2), (12, 0), (13, 0)] h h748_z := ab_Fr_trans (ab_Fr_up rfl ab_Fr_refl) (ab_Fr_sub (by decide) PF)
        have FM184 : ab_Fr [(164, 42), (164, 43), (164, 44), (164, 45), (164, 46), (164, 47), (164, 22), (181, 0), (182, 0), (183, 0), (185, 0)] g (am_up h754_z 164 45 (.int 0)) := ab_Fr_up rfl (ab_Fr_trans (ab_Fr_up rfl ab_Fr_refl) (ab_Fr_sub (by decide) GF))
        have Z2 : rs 2 h748_z (am_up h754_z 164 45 (.int 0)) := rs_keep Zk ((show rg_v h748_z 44 13 = np from ((rg_v_fr PF (by decide)).trans (show rg_v (am_up h 11 0 (.int (kn + 1))) 44 13 = np from z1_z))).trans z1_z.symm) ((show rg_v (am_up h754_z 164 45 (.int 0)) 164 41 = np from (show rg_v (am_up h754_z 164 45 (.int 0)) 164 41 = np from ((rg_v_fr GF (by decide)).trans (show rg_v (am_up g 164 44 (.int (kn + 1))) 164 41 = np from z2_z)))).trans z2_z.symm) ((show rg_v h748_z 44 14 = op from ((rg_v_fr PF (by decide)).trans (show rg_v (am_up h 11 0 (.int (kn + 1))) 44 14 = op from z4_z))).trans z4_z.symm) ((show rg_v (am_up h754_z 164 45 (.int 0)) 164 43 = op from (show rg_v (am_up h754_z 164 45 (.int 0)) 164 43 = op from ((rg_v_fr GF (by decide)).trans (show rg_v (am_up g 164 44 (.int (kn + 1))) 164 43 = op from z5_z)))).trans z5_z.symm) (show (rg_v h 11 0).toInt ≤ (rg_v h748_z 11 0).toInt by rw [(show rg_v h748_z 11 0 = kn + 1 from ((rg_v_fr PF (by decide)).trans (show rg_v (am_up h 11 0 (.int (kn + 1))) 11 0 = kn + 1 from rfl))), ekn]; omega) (fun k => rg_v_fr FC47 (rg_v_in (by decide) k)) (fun k => rg_v_fr FM184 (rg_v_in (by decide) k))
        replace Z2 := rs_fr (by decide) Z2 t5_z t6_z
        have e45_z : rg_v h757_z 164 45 = 0 := (rg_v_fr t6_z (by decide)).trans (show rg_v (am_up h754_z 164 45 (.int 0)) 164 45 = 0 from (show rg_v (am_up h754_z 164 45 (.int 0)) 164 45 = 0 from rfl))
        have e46_z : rg_v h757_z 164 46 = 1 := (rg_v_fr t6_z (by decide)).trans (show rg_v (am_up h754_z 164 45 (.int 0)) 164 46 = 1 from (show rg_v (am_up h754_z 164 45 (.int 0)) 164 46 = 1 from ((rg_v_fr GF (by decide)).trans (show rg_v (am_up g 164 44 (.int (kn + 1))) 164 46 = 1 from w2_z))))
        replace hm_z : rn _ _ _ _ [] _ _ _ := hm_z
        replace hc_z : rn _ _ _ _ [] _ _ _ := hc_z
        replace hc_z := rn_iconst (w := 2) (am_cur_of (i := (176, 1, .iconst 2, (0, 0, 0), 0)) (by decide +kernel)) (by decide) hc_z
        replace hc_z := rn_iret (am_cur_of (i := (177, 1, .ireturn, (0, 0, 0), 0)) (by decide +kernel)) hc_z
        obtain ⟨e759_z, e760_z⟩ := hc_z
        replace hm_z := rn_iconst (w := 1) (am_cur_of (i := (173, 1, .iconst 1, (0, 0, 0), 0)) (by decide +kernel)) (by decide) hm_z
        replace hm_z := rn_iret (am_cur_of (i := (174, 1, .ireturn, (0, 0, 0), 0)) (by decide +kernel)) hm_z
        obtain ⟨e761_z, e762_z⟩ := hm_z
        subst e759_z e760_z e761_z e762_z
        exact Or.inl ⟨_, x2_z, p2_z, rfl, rfl, R2, le2_z, A2, B2, Z2, Or.inr (Or.inr ⟨rfl, e45_z⟩)⟩
  · have g0_z : am_get (lv_args 0 [.ref 44, .int 0]) 0 = some (.ref 44) := rfl
    have g1_z : am_get (lv_args 0 [.ref 44, .int 0]) 1 = some (.int 0) := rfl
    have g0m : am_get (lv_args 0 [.ref 164]) 0 = some (.ref 164) := rfl
    have Rk := R
    have Zk := Z
    obtain ⟨⟨c1_z, c2_z, c3_z, c4_z, c5_z, c6_z, c7_z, c8_z⟩, ⟨m2_z, m3_z, m4_z, m5_z, m6_z, m7_z, m8_z⟩, R3, R4, R5, R6, R7, R8, R9, R10⟩ := (R : rq T S x p 2 h g)
    obtain ⟨np, op, z1_z, z2_z, z3_z, z4_z, z5_z, z6_z, z7_z, z8_z, z9_z, z10_z⟩ := (Z : rs 2 h g)
    obtain ⟨nk1_z, nk2_z, nk3_z⟩ := A.2.2.2.2.2.1
    replace nk1_z : rg_v h 11 0 = rg_v g 164 44 := nk1_z
    replace nk2_z : 0 ≤ (rg_v h 11 0).toInt := nk2_z
    replace nk3_z : (rg_v h 11 0).toInt ≤ 64 := nk3_z
    replace z8_z : np.toInt ≤ (rg_v h 11 0).toInt + op.toInt := z8_z
    obtain ⟨kn, ekn⟩ : ∃ v, rg_v h 11 0 = v := ⟨_, rfl⟩
    rw [ekn] at nk1_z nk2_z nk3_z z8_z
    have e9_z := rt_c1 (x := kn) (by omega) (by omega)
    replace hc_z := rn_aload_n (am_cur_of (i := (0, 1, .aload_n 0, (0, 0, 0), 0)) (by decide +kernel)) g0_z hc_z
    replace hc_z := rn_getI (v := 2) (am_cur_of (i := (1, 3, .getfield 60, (4, 10, 419), 0)) (by decide +kernel)) (by decide +kernel) ka hc_z
    replace hc_z := rn_bipush (w := 6) (am_cur_of (i := (4, 2, .bipush 6, (0, 0, 0), 0)) (by decide +kernel)) (by decide) hc_z
    replace hc_z := rn_cmpT (am_cur_of (i := (6, 3, .if_icmp .ne 30, (19, 0, 0), 0)) (by decide +kernel)) (by decide) hc_z
    replace hc_z := rn_aload_n (am_cur_of (i := (36, 1, .aload_n 0, (0, 0, 0), 0)) (by decide +kernel)) g0_z hc_z
    replace hc_z := rn_bipush (w := 40) (am_cur_of (i := (37, 2, .bipush 40, (0, 0, 0), 0)) (by decide +kernel)) (by decide) hc_z
    replace hc_z := rn_callV (M' := am_m45) (o := 44) (ar := [.int 40]) (rest := []) (L := lv_args 0 [.ref 44, .int 40]) (am_cur_of (i := (39, 3, .invokevirtual 105, (45, 834, 3), 0)) (by decide +kernel)) rfl rfl rfl rfl hc_z
    obtain ⟨r763_z, h764_z, q765_z, hc_z⟩ := hc_z
    obtain ⟨rfl, yq765_z⟩ := rp_mkN (fun q => absurd (Eq.trans (Eq.symm ka) q.1) (by decide)) q765_z
    subst yq765_z
    replace hc_z : rn _ _ _ _ [.int 0] _ _ _ := hc_z
    replace hc_z := rn_ifT (am_cur_of (i := (42, 3, .ifCond .eq 38, (43, 0, 0), 0)) (by decide +kernel)) (by decide) hc_z
    replace hc_z := rn_aload_n (am_cur_of (i := (80, 1, .aload_n 0, (0, 0, 0), 0)) (by decide +kernel)) g0_z hc_z
    replace hc_z := rn_getI (v := 2) (am_cur_of (i := (81, 3, .getfield 60, (4, 10, 419), 0)) (by decide +kernel)) (by decide +kernel) ka hc_z
    replace hc_z := rn_iconst (w := 4) (am_cur_of (i := (84, 1, .iconst 4, (0, 0, 0), 0)) (by decide +kernel)) (by decide) hc_z
    replace hc_z := rn_cmpT (am_cur_of (i := (85, 3, .if_icmp .ne 40, (64, 0, 0), 0)) (by decide +kernel)) (by decide) hc_z
    replace hc_z := rn_aload_n (am_cur_of (i := (125, 1, .aload_n 0, (0, 0, 0), 0)) (by decide +kernel)) g0_z hc_z
    replace hc_z := rn_getI (v := 2) (am_cur_of (i := (126, 3, .getfield 60, (4, 10, 419), 0)) (by decide +kernel)) (by decide +kernel) ka hc_z
    replace hc_z := rn_iconst (w := 2) (am_cur_of (i := (129, 1, .iconst 2, (0, 0, 0), 0)) (by decide +kernel)) (by decide) hc_z
    replace hc_z := rn_cmpF (am_cur_of (i := (130, 3, .if_icmp .ne 37, (84, 0, 0), 0)) (by decide +kernel)) (by decide) hc_z
    replace hc_z := rn_aload_n (am_cur_of (i := (133, 1, .aload_n 0, (0, 0, 0), 0)) (by decide +kernel)) g0_z hc_z
    replace hc_z := rn_getI (v := 16) (am_cur_of (i := (134, 3, .getfield 91, (4, 11, 420), 0)) (by decide +kernel)) (by decide +kernel) kb hc_z
    replace hc_z := rn_bipush (w := 11) (am_cur_of (i := (137, 2, .bipush 11, (0, 0, 0), 0)) (by decide +kernel)) (by decide) hc_z
    replace hc_z := rn_cmpF (am_cur_of (i := (139, 3, .if_icmp .lt 28, (84, 0, 0), 0)) (by decide +kernel)) (by decide) hc_z
    replace hc_z := rn_aload_n (am_cur_of (i := (142, 1, .aload_n 0, (0, 0, 0), 0)) (by decide +kernel)) g0_z hc_z
    replace hc_z := rn_callV (M' := am_m49) (o := 44) (ar := []) (rest := []) (L := lv_args 0 [.ref 44]) (am_cur_of (i := (143, 3, .invokevirtual 270, (49, 852, 3), 0)) (by decide +kernel)) rfl rfl rfl rfl hc_z
    obtain ⟨r766_z, h767_z, q768_z, hc_z⟩ := hc_z
    rcases rs_ck2 R4 (show h 44 6 = .ref 2 from R3) q768_z with ⟨ge, rfl, eh⟩ | ⟨lt, rfl, eh⟩
    · subst eh
      replace ge : 64 ≤ kn.toInt := by rw [← ekn]; exact ge
      replace hc_z : rn _ _ _ _ [] _ _ _ := hc_z
      have K := rs_stick (w := 2) (q := p) (a := 51) (by decide) (by decide) rfl (by decide) rfl (show rg_v (am_up (am_up h 44 1 (.int 2)) 44 2 (.int (rg_v h 44 9))) 44 2 = p from R5) hc_z
      replace hm_z := rn_aload_n (am_cur_of (i := (0, 1, .aload_n 0, (0, 0, 0), 0)) (by decide +kernel)) g0m hm_z
      replace hm_z := rn_bipush (w := 40) (am_cur_of (i := (1, 2, .bipush 40, (0, 0, 0), 0)) (by decide +kernel)) (by decide) hm_z
      replace hm_z := rn_callV (M' := am_m171) (o := 164) (ar := [.int 40]) (rest := []) (L := lv_args 0 [.ref 164, .int 40]) (am_cur_of (i := (3, 3, .invokevirtual 194, (171, 1715, 3), 0)) (by decide +kernel)) rfl rfl rfl rfl hm_z
      obtain ⟨r769_z, h770_z, q771_z, hm_z⟩ := hm_z
      obtain ⟨rfl, yq771_z⟩ := rp_sgN (fun q => absurd (Eq.trans (Eq.symm kc) q.1) (by decide)) q771_z
      subst yq771_z
      replace hm_z : rn _ _ _ _ [.int 0] _ _ _ := hm_z
      replace hm_z := rn_ifT (am_cur_of (i := (6, 3, .ifCond .eq 44, (28, 0, 0), 0)) (by decide +kernel)) (by decide) hm_z
      replace hm_z := rn_aload_n (am_cur_of (i := (50, 1, .aload_n 0, (0, 0, 0), 0)) (by decide +kernel)) g0m hm_z
      replace hm_z := rn_bipush (w := 14) (am_cur_of (i := (51, 2, .bipush 14, (0, 0, 0), 0)) (by decide +kernel)) (by decide) hm_z
      replace hm_z := rn_callV (M' := am_m174) (o := 164) (ar := [.int 14]) (rest := []) (L := lv_args 0 [.ref 164, .int 14]) (am_cur_of (i := (53, 3, .invokevirtual 306, (174, 1727, 3), 0)) (by decide +kernel)) rfl rfl rfl rfl hm_z
      obtain ⟨r772_z, h773_z, q774_z, hm_z⟩ := hm_z
      obtain ⟨rfl, yq774_z⟩ := rp_kyN (fun q => absurd (Eq.trans (Eq.symm kd) q.2) (by decide)) q774_z
      subst yq774_z
      replace hm_z : rn _ _ _ _ [.int 0] _ _ _ := hm_z
      replace hm_z := rn_ifT (am_cur_of (i := (56, 3, .ifCond .eq 30, (47, 0, 0), 0)) (by decide +kernel)) (by decide) hm_z
      replace hm_z := rn_aload_n (am_cur_of (i := (86, 1, .aload_n 0, (0, 0, 0), 0)) (by decide +kernel)) g0m hm_z
      replace hm_z := rn_callV (M' := am_m176) (o := 164) (ar := []) (rest := []) (L := lv_args 0 [.ref 164]) (am_cur_of (i := (87, 3, .invokevirtual 312, (176, 1735, 3), 0)) (by decide +kernel)) rfl rfl rfl rfl hm_z
      obtain ⟨r775_z, h776_z, q777_z, hm_z⟩ := hm_z
      obtain ⟨rfl, yq777_z⟩ := rp_nm (c := 1) (d := 19) kc kd q777_z
      replace yq777_z := yq777_z.symm
      subst yq777_z
      rw [show rp_nmf 1 19 = 5 from by decide] at hm_z
      replace hm_z : rn _ _ _ _ [.int 5] _ _ _ := hm_z
      replace hm_z := rn_istore_n (am_cur_of (i := (90, 1, .istore_n 1, (0, 0, 0), 0)) (by decide +kernel)) hm_z
      obtain ⟨_, s778_z, s779_z, g1m, hm_z⟩ := hm_z
      replace g0m := s778_z 0 _ (by decide) rfl g0m
      clear s778_z s779_z
      replace hm_z := rn_iload_n (am_cur_of (i := (91, 1, .iload_n 1, (0, 0, 0), 0)) (by decide +kernel)) g1m hm_z
      replace hm_z := rn_ifT (am_cur_of (i := (92, 3, .ifCond .ge 17, (60, 0, 0), 0)) (by decide +kernel)) (by decide) hm_z
      replace hm_z := rn_iload_n (am_cur_of (i := (109, 1, .iload_n 1, (0, 0, 0), 0)) (by decide +kernel)) g1m hm_z
      replace hm_z := rn_ifT (am_cur_of (i := (110, 3, .ifCond .ge 19, (70, 0, 0), 0)) (by decide +kernel)) (by decide) hm_z
      replace hm_z := rn_aload_n (am_cur_of (i := (129, 1, .aload_n 0, (0, 0, 0), 0)) (by decide +kernel)) g0m hm_z
      replace hm_z := rn_callV (M' := am_m175) (o := 164) (ar := []) (rest := []) (L := lv_args 0 [.ref 164]) (am_cur_of (i := (130, 3, .invokevirtual 309, (175, 1731, 3), 0)) (by decide +kernel)) rfl rfl rfl rfl hm_z
      obtain ⟨r780_z, h781_z, q782_z, hm_z⟩ := hm_z
      rcases rs_ic q782_z with ⟨i1_z, rfl, i3_z⟩ | ⟨i1_z, -⟩
      · subst i3_z
        replace hm_z : rn _ _ _ _ [.int 0] _ _ _ := hm_z
        replace hm_z := rn_ifF (am_cur_of (i := (133, 3, .ifCond .ne 5, (75, 0, 0), 0)) (by decide +kernel)) (by decide) hm_z
        replace hm_z := rn_iconst (w := 0) (am_cur_of (i := (136, 1, .iconst 0, (0, 0, 0), 0)) (by decide +kernel)) (by decide) hm_z
        replace hm_z := rn_iret (am_cur_of (i := (137, 1, .ireturn, (0, 0, 0), 0)) (by decide +kernel)) hm_z
        obtain ⟨e783_z, e784_z⟩ := hm_z
        subst e783_z e784_z
        exact (Or.inr ⟨rfl, 2, by decide, K.1, K.2, rfl, R6⟩)
      · exact absurd (Int32.toInt_inj.mp (show (rg_v g 164 44).toInt = (64 : Int32).toInt from by rw [show rg_v g 164 44 = kn from nk1_z.symm, show (64 : Int32).toInt = 64 by decide]; omega)) i1_z
    · subst eh
      replace lt : kn.toInt < 64 := by rw [← ekn]; exact lt
      rw [show rg_v h 11 0 = kn from ekn] at hc_z
      replace hm_z := rn_aload_n (am_cur_of (i := (0, 1, .aload_n 0, (0, 0, 0), 0)) (by decide +kernel)) g0m hm_z
      replace hm_z := rn_bipush (w := 40) (am_cur_of (i := (1, 2, .bipush 40, (0, 0, 0), 0)) (by decide +kernel)) (by decide) hm_z
      replace hm_z := rn_callV (M' := am_m171) (o := 164) (ar := [.int 40]) (rest := []) (L := lv_args 0 [.ref 164, .int 40]) (am_cur_of (i := (3, 3, .invokevirtual 194, (171, 1715, 3), 0)) (by decide +kernel)) rfl rfl rfl rfl hm_z
      obtain ⟨r785_z, h786_z, q787_z, hm_z⟩ := hm_z
      obtain ⟨rfl, yq787_z⟩ := rp_sgN (fun q => absurd (Eq.trans (Eq.symm kc) q.1) (by decide)) q787_z
      subst yq787_z
      replace hm_z : rn _ _ _ _ [.int 0] _ _ _ := hm_z
      replace hm_z := rn_ifT (am_cur_of (i := (6, 3, .ifCond .eq 44, (28, 0, 0), 0)) (by decide +kernel)) (by decide) hm_z
      replace hm_z := rn_aload_n (am_cur_of (i := (50, 1, .aload_n 0, (0, 0, 0), 0)) (by decide +kernel)) g0m hm_z
      replace hm_z := rn_bipush (w := 14) (am_cur_of (i := (51, 2, .bipush 14, (0, 0, 0), 0)) (by decide +kernel)) (by decide) hm_z
      replace hm_z := rn_callV (M' := am_m174) (o := 164) (ar := [.int 14]) (rest := []) (L := lv_args 0 [.ref 164, .int 14]) (am_cur_of (i := (53, 3, .invokevirtual 306, (174, 1727, 3), 0)) (by decide +kernel)) rfl rfl rfl rfl hm_z
      obtain ⟨r788_z, h789_z, q790_z, hm_z⟩ := hm_z
      obtain ⟨rfl, yq790_z⟩ := rp_kyN (fun q => absurd (Eq.trans (Eq.symm kd) q.2) (by decide)) q790_z
      subst yq790_z
      replace hm_z : rn _ _ _ _ [.int 0] _ _ _ := hm_z
      replace hm_z := rn_ifT (am_cur_of (i := (56, 3, .ifCond .eq 30, (47, 0, 0), 0)) (by decide +kernel)) (by decide) hm_z
      replace hm_z := rn_aload_n (am_cur_of (i := (86, 1, .aload_n 0, (0, 0, 0), 0)) (by decide +kernel)) g0m hm_z
      replace hm_z := rn_callV (M' := am_m176) (o := 164) (ar := []) (rest := []) (L := lv_args 0 [.ref 164]) (am_cur_of (i := (87, 3, .invokevirtual 312, (176, 1735, 3), 0)) (by decide +kernel)) rfl rfl rfl rfl hm_z
      obtain ⟨r791_z, h792_z, q793_z, hm_z⟩ := hm_z
      obtain ⟨rfl, yq793_z⟩ := rp_nm (c := 1) (d := 19) kc kd q793_z
      replace yq793_z := yq793_z.symm
      subst yq793_z
      rw [show rp_nmf 1 19 = 5 from by decide] at hm_z
      replace hm_z : rn _ _ _ _ [.int 5] _ _ _ := hm_z
      replace hm_z := rn_istore_n (am_cur_of (i := (90, 1, .istore_n 1, (0, 0, 0), 0)) (by decide +kernel)) hm_z
      obtain ⟨_, s794_z, s795_z, g1m, hm_z⟩ := hm_z
      replace g0m := s794_z 0 _ (by decide) rfl g0m
      clear s794_z s795_z
      replace hm_z := rn_iload_n (am_cur_of (i := (91, 1, .iload_n 1, (0, 0, 0), 0)) (by decide +kernel)) g1m hm_z
      replace hm_z := rn_ifT (am_cur_of (i := (92, 3, .ifCond .ge 17, (60, 0, 0), 0)) (by decide +kernel)) (by decide) hm_z
      replace hm_z := rn_iload_n (am_cur_of (i := (109, 1, .iload_n 1, (0, 0, 0), 0)) (by decide +kernel)) g1m hm_z
      replace hm_z := rn_ifT (am_cur_of (i := (110, 3, .ifCond .ge 19, (70, 0, 0), 0)) (by decide +kernel)) (by decide) hm_z
      replace hm_z := rn_aload_n (am_cur_of (i := (129, 1, .aload_n 0, (0, 0, 0), 0)) (by decide +kernel)) g0m hm_z
      replace hm_z := rn_callV (M' := am_m175) (o := 164) (ar := []) (rest := []) (L := lv_args 0 [.ref 164]) (am_cur_of (i := (130, 3, .invokevirtual 309, (175, 1731, 3), 0)) (by decide +kernel)) rfl rfl rfl rfl hm_z
      obtain ⟨r796_z, h797_z, q798_z, hm_z⟩ := hm_z
      rcases rs_ic q798_z with ⟨i1_z, -⟩ | ⟨i1_z, rfl, i3_z⟩
      · exfalso
        have zz := congrArg Int32.toInt i1_z
        rw [show rg_v g 164 44 = kn from nk1_z.symm, show (64 : Int32).toInt = 64 by decide] at zz
        omega
      · subst i3_z
        rw [show rg_v g 164 44 = kn from nk1_z.symm] at hm_z
        replace hm_z : rn _ _ _ _ [.int 1] _ _ _ := hm_z
        replace hc_z : rn _ _ _ _ [] _ _ _ := hc_z
        replace hc_z := rn_aload_n (am_cur_of (i := (146, 1, .aload_n 0, (0, 0, 0), 0)) (by decide +kernel)) g0_z hc_z
        replace hc_z := rn_getM (x := 2) (am_cur_of (i := (147, 3, .getfield 25, (4, 6, 415), 0)) (by decide +kernel)) (show (am_up h 11 0 (.int (kn + 1))) 44 6 = .ref 2 from R3) hc_z
        replace hc_z := rn_getR (x := 11) (am_cur_of (i := (150, 3, .getfield 242, (1, 19, 316), 0)) (by decide +kernel)) (by decide +kernel) hc_z
        replace hc_z := rn_iconst (w := 1) (am_cur_of (i := (153, 1, .iconst 1, (0, 0, 0), 0)) (by decide +kernel)) (by decide) hc_z
        replace hc_z := rn_aload_n (am_cur_of (i := (154, 1, .aload_n 0, (0, 0, 0), 0)) (by decide +kernel)) g0_z hc_z
        replace hc_z := rn_getI (v := 16) (am_cur_of (i := (155, 3, .getfield 91, (4, 11, 420), 0)) (by decide +kernel)) (by decide +kernel) (show rg_v (am_up h 11 0 (.int (kn + 1))) 44 11 = 16 from kb) hc_z
        replace hc_z := rn_bipush (w := 11) (am_cur_of (i := (158, 2, .bipush 11, (0, 0, 0), 0)) (by decide +kernel)) (by decide) hc_z
        replace hc_z := rn_isub (w := 5) (am_cur_of (i := (160, 1, .isub, (0, 0, 0), 0)) (by decide +kernel)) (by decide) hc_z
        replace hc_z := rn_callV (M' := am_m48) (o := 11) (ar := [.int 5, .int 1]) (rest := []) (L := lv_args 0 [.ref 11, .int 1, .int 5]) (am_cur_of (i := (161, 3, .invokevirtual 276, (48, 845, 3), 0)) (by decide +kernel)) rfl rfl rfl rfl hc_z
        obtain ⟨r799_z, h800_z, q801_z, hc_z⟩ := hc_z
        obtain ⟨rfl, PF⟩ := rs_put2 q801_z
        replace hc_z : rn _ _ _ _ [] _ _ _ := hc_z
        replace hc_z := rn_goto (am_cur_of (i := (164, 3, .goto 8, (87, 0, 0), 0)) (by decide +kernel)) hc_z
        replace hc_z := rn_aload_n (am_cur_of (i := (172, 1, .aload_n 0, (0, 0, 0), 0)) (by decide +kernel)) g0_z hc_z
        replace hc_z := rn_callV (M' := am_m19) (o := 44) (ar := []) (rest := []) (L := lv_args 0 [.ref 44]) (am_cur_of (i := (173, 3, .invokevirtual 57, (19, 727, 3), 0)) (by decide +kernel)) rfl rfl rfl rfl hc_z
        obtain ⟨r802_z, h803_z, q804_z, hc_z⟩ := hc_z
        have vo := rn_void rfl q804_z
        subst vo
        replace hm_z := rn_ifT (am_cur_of (i := (133, 3, .ifCond .ne 5, (75, 0, 0), 0)) (by decide +kernel)) (by decide) hm_z
        replace hm_z := rn_aload_n (am_cur_of (i := (138, 1, .aload_n 0, (0, 0, 0), 0)) (by decide +kernel)) g0m hm_z
        replace hm_z := rn_iload_n (am_cur_of (i := (139, 1, .iload_n 1, (0, 0, 0), 0)) (by decide +kernel)) g1m hm_z
        replace hm_z := rn_ifF (am_cur_of (i := (140, 3, .ifCond .lt 7, (80, 0, 0), 0)) (by decide +kernel)) (by decide) hm_z
        replace hm_z := rn_iconst (w := 1) (am_cur_of (i := (143, 1, .iconst 1, (0, 0, 0), 0)) (by decide +kernel)) (by decide) hm_z
        replace hm_z := rn_goto (am_cur_of (i := (144, 3, .goto 4, (81, 0, 0), 0)) (by decide +kernel)) hm_z
        replace hm_z := rn_iload_n (am_cur_of (i := (148, 1, .iload_n 1, (0, 0, 0), 0)) (by decide +kernel)) g1m hm_z
        replace hm_z := rn_ifF (am_cur_of (i := (149, 3, .ifCond .lt 7, (85, 0, 0), 0)) (by decide +kernel)) (by decide) hm_z
        replace hm_z := rn_iload_n (am_cur_of (i := (152, 1, .iload_n 1, (0, 0, 0), 0)) (by decide +kernel)) g1m hm_z
        replace hm_z := rn_goto (am_cur_of (i := (153, 3, .goto 7, (87, 0, 0), 0)) (by decide +kernel)) hm_z
        replace hm_z := rn_iconst (w := 0) (am_cur_of (i := (160, 1, .iconst 0, (0, 0, 0), 0)) (by decide +kernel)) (by decide) hm_z
        replace hm_z := rn_callV (M' := am_m177) (o := 164) (ar := [.int 0, .int 5, .int 1]) (rest := []) (L := lv_args 0 [.ref 164, .int 1, .int 5, .int 0]) (am_cur_of (i := (161, 3, .invokevirtual 291, (177, 1739, 3), 0)) (by decide +kernel)) rfl rfl rfl rfl hm_z
        obtain ⟨r805_z, h806_z, q807_z, hm_z⟩ := hm_z
        obtain ⟨rfl, GF⟩ := rs_grown q807_z
        replace hm_z : rn _ _ _ _ [] _ _ _ := hm_z
        replace hm_z := rn_aload_n (am_cur_of (i := (164, 1, .aload_n 0, (0, 0, 0), 0)) (by decide +kernel)) g0m hm_z
        replace hm_z := rn_iconst (w := 0) (am_cur_of (i := (165, 1, .iconst 0, (0, 0, 0), 0)) (by decide +kernel)) (by decide) hm_z
        replace hm_z := rn_put (am_cur_of (i := (166, 3, .putfield 315, (12, 45, 1429), 0)) (by decide +kernel)) (by decide +kernel) hm_z
        replace hm_z := rn_aload_n (am_cur_of (i := (169, 1, .aload_n 0, (0, 0, 0), 0)) (by decide +kernel)) g0m hm_z
        replace hm_z := rn_callV (M' := am_m151) (o := 164) (ar := []) (rest := []) (L := lv_args 0 [.ref 164]) (am_cur_of (i := (170, 3, .invokevirtual 191, (151, 1636, 3), 0)) (by decide +kernel)) rfl rfl rfl rfl hm_z
        obtain ⟨r808_z, h809_z, q810_z, hm_z⟩ := hm_z
        have vo := rn_void rfl q810_z
        subst vo
        have FC : ab_Fr (rz_MC2.drop 1) h h800_z := ab_Fr_trans (ab_Fr_up rfl ab_Fr_refl) (ab_Fr_sub (by decide) PF)
        have FC' : ab_Fr rz_MC2 h h800_z := ab_Fr_sub (by decide) FC
        have FM : ab_Fr rz_MM g (am_up h806_z 164 45 (.int 0)) := ab_Fr_up rfl (ab_Fr_trans (ab_Fr_up rfl ab_Fr_refl) (ab_Fr_sub (by decide) GF))
        obtain ⟨-, -, x2_z, p2_z, R2, le2_z, t5_z, t6_z⟩ := pr_tok (rz_q02 (rq_0 Rk) FC' FM) q804_z q810_z
        have A2 := rp_x (by decide) (rz_p2 A FC' FM ((show rg_v h800_z 11 0 = kn + 1 from ((rg_v_fr PF (by decide)).trans (show rg_v (am_up h 11 0 (.int (kn + 1))) 11 0 = kn + 1 from rfl))).trans (show rg_v (am_up h806_z 164 45 (.int 0)) 164 44 = kn + 1 from (show rg_v (am_up h806_z 164 45 (.int 0)) 164 44 = kn + 1 from ((rg_v_fr GF (by decide)).trans (show rg_v (am_up g 164 44 (.int (kn + 1))) 164 44 = kn + 1 from rfl)))).symm) (by rw [show rg_v h800_z 11 0 = kn + 1 from ((rg_v_fr PF (by decide)).trans (show rg_v (am_up h 11 0 (.int (kn + 1))) 11 0 = kn + 1 from rfl))]; omega) (by rw [show rg_v h800_z 11 0 = kn + 1 from ((rg_v_fr PF (by decide)).trans (show rg_v (am_up h 11 0 (.int (kn + 1))) 11 0 = kn + 1 from rfl))]; omega)) (rx_C_f t5_z) (rx_M_f t6_z)
        have B2 := rp_tk (rz_t2 B FC FM) (rg_v_fr t5_z (by decide)) (fun k => rg_v_fr t6_z (rg_v_in (by decide) k)) (rx_M_f t6_z)
        have FC47 : ab_Fr [(44, 14), (44, 15), (11, 1), (11, 2), (12, 0), (13, 0)] h h800_z := ab_Fr_trans (ab_Fr_up rfl ab_Fr_refl) (ab_Fr_sub (by decide) PF)
        have FM184 : ab_Fr [(164, 42), (164, 43), (164, 44), (164, 45), (164, 46), (164, 47), (164, 22), (181, 0), (182, 0), (183, 0), (185, 0)] g (am_up h806_z 164 45 (.int 0)) := ab_Fr_up rfl (ab_Fr_trans (ab_Fr_up rfl ab_Fr_refl) (ab_Fr_sub (by decide) GF))
        have Z2 : rs 2 h800_z (am_up h806_z 164 45 (.int 0)) := rs_keep Zk ((show rg_v h800_z 44 13 = np from ((rg_v_fr PF (by decide)).trans (show rg_v (am_up h 11 0 (.int (kn + 1))) 44 13 = np from z1_z))).trans z1_z.symm) ((show rg_v (am_up h806_z 164 45 (.int 0)) 164 41 = np from (show rg_v (am_up h806_z 164 45 (.int 0)) 164 41 = np from ((rg_v_fr GF (by decide)).trans (show rg_v (am_up g 164 44 (.int (kn + 1))) 164 41 = np from z2_z)))).trans z2_z.symm) ((show rg_v h800_z 44 14 = op from ((rg_v_fr PF (by decide)).trans (show rg_v (am_up h 11 0 (.int (kn + 1))) 44 14 = op from z4_z))).trans z4_z.symm) ((show rg_v (am_up h806_z 164 45 (.int 0)) 164 43 = op from (show rg_v (am_up h806_z 164 45 (.int 0)) 164 43 = op from ((rg_v_fr GF (by decide)).trans (show rg_v (am_up g 164 44 (.int (kn + 1))) 164 43 = op from z5_z)))).trans z5_z.symm) (show (rg_v h 11 0).toInt ≤ (rg_v h800_z 11 0).toInt by rw [(show rg_v h800_z 11 0 = kn + 1 from ((rg_v_fr PF (by decide)).trans (show rg_v (am_up h 11 0 (.int (kn + 1))) 11 0 = kn + 1 from rfl))), ekn]; omega) (fun k => rg_v_fr FC47 (rg_v_in (by decide) k)) (fun k => rg_v_fr FM184 (rg_v_in (by decide) k))
        replace Z2 := rs_fr (by decide) Z2 t5_z t6_z
        have e45_z : rg_v h809_z 164 45 = 0 := (rg_v_fr t6_z (by decide)).trans (show rg_v (am_up h806_z 164 45 (.int 0)) 164 45 = 0 from (show rg_v (am_up h806_z 164 45 (.int 0)) 164 45 = 0 from rfl))
        have e46_z : rg_v h809_z 164 46 = 1 := (rg_v_fr t6_z (by decide)).trans (show rg_v (am_up h806_z 164 45 (.int 0)) 164 46 = 1 from (show rg_v (am_up h806_z 164 45 (.int 0)) 164 46 = 1 from ((rg_v_fr GF (by decide)).trans (show rg_v (am_up g 164 44 (.int (kn + 1))) 164 46 = 1 from w2_z))))
        replace hm_z : rn _ _ _ _ [] _ _ _ := hm_z
        replace hc_z : rn _ _ _ _ [] _ _ _ := hc_z
        replace hc_z := rn_iconst (w := 2) (am_cur_of (i := (176, 1, .iconst 2, (0, 0, 0), 0)) (by decide +kernel)) (by decide) hc_z
        replace hc_z := rn_iret (am_cur_of (i := (177, 1, .ireturn, (0, 0, 0), 0)) (by decide +kernel)) hc_z
        obtain ⟨e811_z, e812_z⟩ := hc_z
        replace hm_z := rn_iconst (w := 1) (am_cur_of (i := (173, 1, .iconst 1, (0, 0, 0), 0)) (by decide +kernel)) (by decide) hm_z
        replace hm_z := rn_iret (am_cur_of (i := (174, 1, .ireturn, (0, 0, 0), 0)) (by decide +kernel)) hm_z
        obtain ⟨e813_z, e814_z⟩ := hm_z
        subst e811_z e812_z e813_z e814_z
        exact Or.inl ⟨_, x2_z, p2_z, rfl, rfl, R2, le2_z, A2, B2, Z2, Or.inr (Or.inr ⟨rfl, e45_z⟩)⟩
  · have g0_z : am_get (lv_args 0 [.ref 44, .int 0]) 0 = some (.ref 44) := rfl
    have g1_z : am_get (lv_args 0 [.ref 44, .int 0]) 1 = some (.int 0) := rfl
    have g0m : am_get (lv_args 0 [.ref 164]) 0 = some (.ref 164) := rfl
    have Rk := R
    have Zk := Z
    obtain ⟨⟨c1_z, c2_z, c3_z, c4_z, c5_z, c6_z, c7_z, c8_z⟩, ⟨m2_z, m3_z, m4_z, m5_z, m6_z, m7_z, m8_z⟩, R3, R4, R5, R6, R7, R8, R9, R10⟩ := (R : rq T S x p 2 h g)
    obtain ⟨np, op, z1_z, z2_z, z3_z, z4_z, z5_z, z6_z, z7_z, z8_z, z9_z, z10_z⟩ := (Z : rs 2 h g)
    obtain ⟨nk1_z, nk2_z, nk3_z⟩ := A.2.2.2.2.2.1
    replace nk1_z : rg_v h 11 0 = rg_v g 164 44 := nk1_z
    replace nk2_z : 0 ≤ (rg_v h 11 0).toInt := nk2_z
    replace nk3_z : (rg_v h 11 0).toInt ≤ 64 := nk3_z
    replace z8_z : np.toInt ≤ (rg_v h 11 0).toInt + op.toInt := z8_z
    obtain ⟨kn, ekn⟩ : ∃ v, rg_v h 11 0 = v := ⟨_, rfl⟩
    rw [ekn] at nk1_z nk2_z nk3_z z8_z
    have e9_z := rt_c1 (x := kn) (by omega) (by omega)
    replace hc_z := rn_aload_n (am_cur_of (i := (0, 1, .aload_n 0, (0, 0, 0), 0)) (by decide +kernel)) g0_z hc_z
    replace hc_z := rn_getI (v := 3) (am_cur_of (i := (1, 3, .getfield 60, (4, 10, 419), 0)) (by decide +kernel)) (by decide +kernel) ka hc_z
    replace hc_z := rn_bipush (w := 6) (am_cur_of (i := (4, 2, .bipush 6, (0, 0, 0), 0)) (by decide +kernel)) (by decide) hc_z
    replace hc_z := rn_cmpT (am_cur_of (i := (6, 3, .if_icmp .ne 30, (19, 0, 0), 0)) (by decide +kernel)) (by decide) hc_z
    replace hc_z := rn_aload_n (am_cur_of (i := (36, 1, .aload_n 0, (0, 0, 0), 0)) (by decide +kernel)) g0_z hc_z
    replace hc_z := rn_bipush (w := 40) (am_cur_of (i := (37, 2, .bipush 40, (0, 0, 0), 0)) (by decide +kernel)) (by decide) hc_z
    replace hc_z := rn_callV (M' := am_m45) (o := 44) (ar := [.int 40]) (rest := []) (L := lv_args 0 [.ref 44, .int 40]) (am_cur_of (i := (39, 3, .invokevirtual 105, (45, 834, 3), 0)) (by decide +kernel)) rfl rfl rfl rfl hc_z
    obtain ⟨r815_z, h816_z, q817_z, hc_z⟩ := hc_z
    obtain ⟨rfl, yq817_z⟩ := rp_mkN (fun q => absurd (Eq.trans (Eq.symm ka) q.1) (by decide)) q817_z
    subst yq817_z
    replace hc_z : rn _ _ _ _ [.int 0] _ _ _ := hc_z
    replace hc_z := rn_ifT (am_cur_of (i := (42, 3, .ifCond .eq 38, (43, 0, 0), 0)) (by decide +kernel)) (by decide) hc_z
    replace hc_z := rn_aload_n (am_cur_of (i := (80, 1, .aload_n 0, (0, 0, 0), 0)) (by decide +kernel)) g0_z hc_z
    replace hc_z := rn_getI (v := 3) (am_cur_of (i := (81, 3, .getfield 60, (4, 10, 419), 0)) (by decide +kernel)) (by decide +kernel) ka hc_z
    replace hc_z := rn_iconst (w := 4) (am_cur_of (i := (84, 1, .iconst 4, (0, 0, 0), 0)) (by decide +kernel)) (by decide) hc_z
    replace hc_z := rn_cmpT (am_cur_of (i := (85, 3, .if_icmp .ne 40, (64, 0, 0), 0)) (by decide +kernel)) (by decide) hc_z
    replace hc_z := rn_aload_n (am_cur_of (i := (125, 1, .aload_n 0, (0, 0, 0), 0)) (by decide +kernel)) g0_z hc_z
    replace hc_z := rn_getI (v := 3) (am_cur_of (i := (126, 3, .getfield 60, (4, 10, 419), 0)) (by decide +kernel)) (by decide +kernel) ka hc_z
    replace hc_z := rn_iconst (w := 2) (am_cur_of (i := (129, 1, .iconst 2, (0, 0, 0), 0)) (by decide +kernel)) (by decide) hc_z
    replace hc_z := rn_cmpT (am_cur_of (i := (130, 3, .if_icmp .ne 37, (84, 0, 0), 0)) (by decide +kernel)) (by decide) hc_z
    replace hc_z := rn_aload_n (am_cur_of (i := (167, 1, .aload_n 0, (0, 0, 0), 0)) (by decide +kernel)) g0_z hc_z
    replace hc_z := rn_iconst (w := 1) (am_cur_of (i := (168, 1, .iconst 1, (0, 0, 0), 0)) (by decide +kernel)) (by decide) hc_z
    replace hc_z := rn_callV (M' := am_m29) (o := 44) (ar := [.int 1]) (rest := []) (L := lv_args 0 [.ref 44, .int 1]) (am_cur_of (i := (169, 3, .invokevirtual 108, (29, 769, 3), 0)) (by decide +kernel)) rfl rfl rfl rfl hc_z
    obtain ⟨r818_z, h819_z, q820_z, hc_z⟩ := hc_z
    obtain ⟨rfl, yq820_z⟩ := rp_fail R4 q820_z
    subst yq820_z
    replace hc_z : rn _ _ _ _ [] _ _ _ := hc_z
    have K := rs_stick (w := 1) (q := p) (a := 51) (by decide) (by decide) rfl (by decide) rfl (show rg_v (am_up (am_up h 44 1 (.int 1)) 44 2 (.int (rg_v h 44 9))) 44 2 = p from R5) hc_z
    replace hm_z := rn_aload_n (am_cur_of (i := (0, 1, .aload_n 0, (0, 0, 0), 0)) (by decide +kernel)) g0m hm_z
    replace hm_z := rn_bipush (w := 40) (am_cur_of (i := (1, 2, .bipush 40, (0, 0, 0), 0)) (by decide +kernel)) (by decide) hm_z
    replace hm_z := rn_callV (M' := am_m171) (o := 164) (ar := [.int 40]) (rest := []) (L := lv_args 0 [.ref 164, .int 40]) (am_cur_of (i := (3, 3, .invokevirtual 194, (171, 1715, 3), 0)) (by decide +kernel)) rfl rfl rfl rfl hm_z
    obtain ⟨r821_z, h822_z, q823_z, hm_z⟩ := hm_z
    obtain ⟨rfl, yq823_z⟩ := rp_sgN (fun q => absurd (Eq.trans (Eq.symm kc) q.1) (by decide)) q823_z
    subst yq823_z
    replace hm_z : rn _ _ _ _ [.int 0] _ _ _ := hm_z
    replace hm_z := rn_ifT (am_cur_of (i := (6, 3, .ifCond .eq 44, (28, 0, 0), 0)) (by decide +kernel)) (by decide) hm_z
    replace hm_z := rn_aload_n (am_cur_of (i := (50, 1, .aload_n 0, (0, 0, 0), 0)) (by decide +kernel)) g0m hm_z
    replace hm_z := rn_bipush (w := 14) (am_cur_of (i := (51, 2, .bipush 14, (0, 0, 0), 0)) (by decide +kernel)) (by decide) hm_z
    replace hm_z := rn_callV (M' := am_m174) (o := 164) (ar := [.int 14]) (rest := []) (L := lv_args 0 [.ref 164, .int 14]) (am_cur_of (i := (53, 3, .invokevirtual 306, (174, 1727, 3), 0)) (by decide +kernel)) rfl rfl rfl rfl hm_z
    obtain ⟨r824_z, h825_z, q826_z, hm_z⟩ := hm_z
    obtain ⟨rfl, yq826_z⟩ := rp_kyN (fun q => absurd (Eq.trans (Eq.symm kc) q.1) (by decide)) q826_z
    subst yq826_z
    replace hm_z : rn _ _ _ _ [.int 0] _ _ _ := hm_z
    replace hm_z := rn_ifT (am_cur_of (i := (56, 3, .ifCond .eq 30, (47, 0, 0), 0)) (by decide +kernel)) (by decide) hm_z
    replace hm_z := rn_aload_n (am_cur_of (i := (86, 1, .aload_n 0, (0, 0, 0), 0)) (by decide +kernel)) g0m hm_z
    replace hm_z := rn_callV (M' := am_m176) (o := 164) (ar := []) (rest := []) (L := lv_args 0 [.ref 164]) (am_cur_of (i := (87, 3, .invokevirtual 312, (176, 1735, 3), 0)) (by decide +kernel)) rfl rfl rfl rfl hm_z
    obtain ⟨r827_z, h828_z, q829_z, hm_z⟩ := hm_z
    obtain ⟨rfl, yq829_z⟩ := rp_nm (c := 2) (d := rg_v g 164 9) kc rfl q829_z
    replace yq829_z := yq829_z.symm
    subst yq829_z
    rw [show rp_nmf 2 (rg_v g 164 9) = (-1) from by unfold rp_nmf; rw [if_neg (by decide)]] at hm_z
    replace hm_z : rn _ _ _ _ [.int (-1)] _ _ _ := hm_z
    replace hm_z := rn_istore_n (am_cur_of (i := (90, 1, .istore_n 1, (0, 0, 0), 0)) (by decide +kernel)) hm_z
    obtain ⟨_, s830_z, s831_z, g1m, hm_z⟩ := hm_z
    replace g0m := s830_z 0 _ (by decide) rfl g0m
    clear s830_z s831_z
    replace hm_z := rn_iload_n (am_cur_of (i := (91, 1, .iload_n 1, (0, 0, 0), 0)) (by decide +kernel)) g1m hm_z
    replace hm_z := rn_ifF (am_cur_of (i := (92, 3, .ifCond .ge 17, (60, 0, 0), 0)) (by decide +kernel)) (by decide) hm_z
    replace hm_z := rn_aload_n (am_cur_of (i := (95, 1, .aload_n 0, (0, 0, 0), 0)) (by decide +kernel)) g0m hm_z
    replace hm_z := rn_getI (v := 2) (am_cur_of (i := (96, 3, .getfield 157, (12, 8, 1392), 0)) (by decide +kernel)) (by decide +kernel) kc hm_z
    replace hm_z := rn_iconst (w := 3) (am_cur_of (i := (99, 1, .iconst 3, (0, 0, 0), 0)) (by decide +kernel)) (by decide) hm_z
    replace hm_z := rn_cmpF (am_cur_of (i := (100, 3, .if_icmp .eq 9, (60, 0, 0), 0)) (by decide +kernel)) (by decide) hm_z
    replace hm_z := rn_aload_n (am_cur_of (i := (103, 1, .aload_n 0, (0, 0, 0), 0)) (by decide +kernel)) g0m hm_z
    replace hm_z := rn_iconst (w := 1) (am_cur_of (i := (104, 1, .iconst 1, (0, 0, 0), 0)) (by decide +kernel)) (by decide) hm_z
    replace hm_z := rn_callV (M' := am_m158) (o := 164) (ar := [.int 1]) (rest := []) (L := lv_args 0 [.ref 164, .int 1]) (am_cur_of (i := (105, 3, .invokevirtual 181, (158, 1665, 3), 0)) (by decide +kernel)) rfl rfl rfl rfl hm_z
    obtain ⟨r832_z, h833_z, q834_z, hm_z⟩ := hm_z
    obtain ⟨rfl, yq834_z⟩ := rp_wrong q834_z
    subst yq834_z
    replace hm_z : rn _ _ _ _ [.int 0] _ _ _ := hm_z
    replace hm_z := rn_iret (am_cur_of (i := (108, 1, .ireturn, (0, 0, 0), 0)) (by decide +kernel)) hm_z
    obtain ⟨e835_z, e836_z⟩ := hm_z
    subst e835_z e836_z
    exact (Or.inr ⟨rfl, 1, by decide, K.1, K.2, rfl, R6⟩)
  · have g0_z : am_get (lv_args 0 [.ref 44, .int 0]) 0 = some (.ref 44) := rfl
    have g1_z : am_get (lv_args 0 [.ref 44, .int 0]) 1 = some (.int 0) := rfl
    have g0m : am_get (lv_args 0 [.ref 164]) 0 = some (.ref 164) := rfl
    have Rk := R
    have Zk := Z
    obtain ⟨⟨c1_z, c2_z, c3_z, c4_z, c5_z, c6_z, c7_z, c8_z⟩, ⟨m2_z, m3_z, m4_z, m5_z, m6_z, m7_z, m8_z⟩, R3, R4, R5, R6, R7, R8, R9, R10⟩ := (R : rq T S x p 2 h g)
    obtain ⟨np, op, z1_z, z2_z, z3_z, z4_z, z5_z, z6_z, z7_z, z8_z, z9_z, z10_z⟩ := (Z : rs 2 h g)
    obtain ⟨nk1_z, nk2_z, nk3_z⟩ := A.2.2.2.2.2.1
    replace nk1_z : rg_v h 11 0 = rg_v g 164 44 := nk1_z
    replace nk2_z : 0 ≤ (rg_v h 11 0).toInt := nk2_z
    replace nk3_z : (rg_v h 11 0).toInt ≤ 64 := nk3_z
    replace z8_z : np.toInt ≤ (rg_v h 11 0).toInt + op.toInt := z8_z
    obtain ⟨kn, ekn⟩ : ∃ v, rg_v h 11 0 = v := ⟨_, rfl⟩
    rw [ekn] at nk1_z nk2_z nk3_z z8_z
    have e9_z := rt_c1 (x := kn) (by omega) (by omega)
    replace hc_z := rn_aload_n (am_cur_of (i := (0, 1, .aload_n 0, (0, 0, 0), 0)) (by decide +kernel)) g0_z hc_z
    replace hc_z := rn_getI (v := 4) (am_cur_of (i := (1, 3, .getfield 60, (4, 10, 419), 0)) (by decide +kernel)) (by decide +kernel) ka hc_z
    replace hc_z := rn_bipush (w := 6) (am_cur_of (i := (4, 2, .bipush 6, (0, 0, 0), 0)) (by decide +kernel)) (by decide) hc_z
    replace hc_z := rn_cmpT (am_cur_of (i := (6, 3, .if_icmp .ne 30, (19, 0, 0), 0)) (by decide +kernel)) (by decide) hc_z
    replace hc_z := rn_aload_n (am_cur_of (i := (36, 1, .aload_n 0, (0, 0, 0), 0)) (by decide +kernel)) g0_z hc_z
    replace hc_z := rn_bipush (w := 40) (am_cur_of (i := (37, 2, .bipush 40, (0, 0, 0), 0)) (by decide +kernel)) (by decide) hc_z
    replace hc_z := rn_callV (M' := am_m45) (o := 44) (ar := [.int 40]) (rest := []) (L := lv_args 0 [.ref 44, .int 40]) (am_cur_of (i := (39, 3, .invokevirtual 105, (45, 834, 3), 0)) (by decide +kernel)) rfl rfl rfl rfl hc_z
    obtain ⟨r837_z, h838_z, q839_z, hc_z⟩ := hc_z
    obtain ⟨rfl, yq839_z⟩ := rp_mkN (fun q => absurd (Eq.trans (Eq.symm ka) q.1) (by decide)) q839_z
    subst yq839_z
    replace hc_z : rn _ _ _ _ [.int 0] _ _ _ := hc_z
    replace hc_z := rn_ifT (am_cur_of (i := (42, 3, .ifCond .eq 38, (43, 0, 0), 0)) (by decide +kernel)) (by decide) hc_z
    replace hc_z := rn_aload_n (am_cur_of (i := (80, 1, .aload_n 0, (0, 0, 0), 0)) (by decide +kernel)) g0_z hc_z
    replace hc_z := rn_getI (v := 4) (am_cur_of (i := (81, 3, .getfield 60, (4, 10, 419), 0)) (by decide +kernel)) (by decide +kernel) ka hc_z
    replace hc_z := rn_iconst (w := 4) (am_cur_of (i := (84, 1, .iconst 4, (0, 0, 0), 0)) (by decide +kernel)) (by decide) hc_z
    replace hc_z := rn_cmpF (am_cur_of (i := (85, 3, .if_icmp .ne 40, (64, 0, 0), 0)) (by decide +kernel)) (by decide) hc_z
    replace hc_z := rn_aload_n (am_cur_of (i := (88, 1, .aload_n 0, (0, 0, 0), 0)) (by decide +kernel)) g0_z hc_z
    replace hc_z := rn_getI (v := rg_v h 44 11) (am_cur_of (i := (89, 3, .getfield 91, (4, 11, 420), 0)) (by decide +kernel)) (by decide +kernel) rfl hc_z
    replace hc_z := rn_sipush (w := 9999) (am_cur_of (i := (92, 3, .sipush 9999, (0, 0, 0), 0)) (by decide +kernel)) (by decide) hc_z
    replace hc_z := rn_cmp (am_cur_of (i := (95, 3, .if_icmp .le 8, (54, 0, 0), 0)) (by decide +kernel)) hc_z
    rcases hc_z with ⟨b840_z, hc_z⟩ | ⟨b840_z, hc_z⟩
    · replace b840_z : (rg_v h 44 11).toInt ≤ (9999 : Int32).toInt := b840_z
      replace hc_z := rn_aload_n (am_cur_of (i := (103, 1, .aload_n 0, (0, 0, 0), 0)) (by decide +kernel)) g0_z hc_z
      replace hc_z := rn_callV (M' := am_m49) (o := 44) (ar := []) (rest := []) (L := lv_args 0 [.ref 44]) (am_cur_of (i := (104, 3, .invokevirtual 270, (49, 852, 3), 0)) (by decide +kernel)) rfl rfl rfl rfl hc_z
      obtain ⟨r841_z, h842_z, q843_z, hc_z⟩ := hc_z
      rcases rs_ck2 R4 (show h 44 6 = .ref 2 from R3) q843_z with ⟨ge, rfl, eh⟩ | ⟨lt, rfl, eh⟩
      · subst eh
        replace ge : 64 ≤ kn.toInt := by rw [← ekn]; exact ge
        replace hc_z : rn _ _ _ _ [] _ _ _ := hc_z
        have K := rs_stick (w := 2) (q := p) (a := 51) (by decide) (by decide) rfl (by decide) rfl (show rg_v (am_up (am_up h 44 1 (.int 2)) 44 2 (.int (rg_v h 44 9))) 44 2 = p from R5) hc_z
        replace hm_z := rn_aload_n (am_cur_of (i := (0, 1, .aload_n 0, (0, 0, 0), 0)) (by decide +kernel)) g0m hm_z
        replace hm_z := rn_bipush (w := 40) (am_cur_of (i := (1, 2, .bipush 40, (0, 0, 0), 0)) (by decide +kernel)) (by decide) hm_z
        replace hm_z := rn_callV (M' := am_m171) (o := 164) (ar := [.int 40]) (rest := []) (L := lv_args 0 [.ref 164, .int 40]) (am_cur_of (i := (3, 3, .invokevirtual 194, (171, 1715, 3), 0)) (by decide +kernel)) rfl rfl rfl rfl hm_z
        obtain ⟨r844_z, h845_z, q846_z, hm_z⟩ := hm_z
        obtain ⟨rfl, yq846_z⟩ := rp_sgN (fun q => absurd (Eq.trans (Eq.symm kc) q.1) (by decide)) q846_z
        subst yq846_z
        replace hm_z : rn _ _ _ _ [.int 0] _ _ _ := hm_z
        replace hm_z := rn_ifT (am_cur_of (i := (6, 3, .ifCond .eq 44, (28, 0, 0), 0)) (by decide +kernel)) (by decide) hm_z
        replace hm_z := rn_aload_n (am_cur_of (i := (50, 1, .aload_n 0, (0, 0, 0), 0)) (by decide +kernel)) g0m hm_z
        replace hm_z := rn_bipush (w := 14) (am_cur_of (i := (51, 2, .bipush 14, (0, 0, 0), 0)) (by decide +kernel)) (by decide) hm_z
        replace hm_z := rn_callV (M' := am_m174) (o := 164) (ar := [.int 14]) (rest := []) (L := lv_args 0 [.ref 164, .int 14]) (am_cur_of (i := (53, 3, .invokevirtual 306, (174, 1727, 3), 0)) (by decide +kernel)) rfl rfl rfl rfl hm_z
        obtain ⟨r847_z, h848_z, q849_z, hm_z⟩ := hm_z
        obtain ⟨rfl, yq849_z⟩ := rp_kyN (fun q => absurd (Eq.trans (Eq.symm kc) q.1) (by decide)) q849_z
        subst yq849_z
        replace hm_z : rn _ _ _ _ [.int 0] _ _ _ := hm_z
        replace hm_z := rn_ifT (am_cur_of (i := (56, 3, .ifCond .eq 30, (47, 0, 0), 0)) (by decide +kernel)) (by decide) hm_z
        replace hm_z := rn_aload_n (am_cur_of (i := (86, 1, .aload_n 0, (0, 0, 0), 0)) (by decide +kernel)) g0m hm_z
        replace hm_z := rn_callV (M' := am_m176) (o := 164) (ar := []) (rest := []) (L := lv_args 0 [.ref 164]) (am_cur_of (i := (87, 3, .invokevirtual 312, (176, 1735, 3), 0)) (by decide +kernel)) rfl rfl rfl rfl hm_z
        obtain ⟨r850_z, h851_z, q852_z, hm_z⟩ := hm_z
        obtain ⟨rfl, yq852_z⟩ := rp_nm (c := 3) (d := rg_v g 164 9) kc rfl q852_z
        replace yq852_z := yq852_z.symm
        subst yq852_z
        rw [show rp_nmf 3 (rg_v g 164 9) = (-1) from by unfold rp_nmf; rw [if_neg (by decide)]] at hm_z
        replace hm_z : rn _ _ _ _ [.int (-1)] _ _ _ := hm_z
        replace hm_z := rn_istore_n (am_cur_of (i := (90, 1, .istore_n 1, (0, 0, 0), 0)) (by decide +kernel)) hm_z
        obtain ⟨_, s853_z, s854_z, g1m, hm_z⟩ := hm_z
        replace g0m := s853_z 0 _ (by decide) rfl g0m
        clear s853_z s854_z
        replace hm_z := rn_iload_n (am_cur_of (i := (91, 1, .iload_n 1, (0, 0, 0), 0)) (by decide +kernel)) g1m hm_z
        replace hm_z := rn_ifF (am_cur_of (i := (92, 3, .ifCond .ge 17, (60, 0, 0), 0)) (by decide +kernel)) (by decide) hm_z
        replace hm_z := rn_aload_n (am_cur_of (i := (95, 1, .aload_n 0, (0, 0, 0), 0)) (by decide +kernel)) g0m hm_z
        replace hm_z := rn_getI (v := 3) (am_cur_of (i := (96, 3, .getfield 157, (12, 8, 1392), 0)) (by decide +kernel)) (by decide +kernel) kc hm_z
        replace hm_z := rn_iconst (w := 3) (am_cur_of (i := (99, 1, .iconst 3, (0, 0, 0), 0)) (by decide +kernel)) (by decide) hm_z
        replace hm_z := rn_cmpT (am_cur_of (i := (100, 3, .if_icmp .eq 9, (60, 0, 0), 0)) (by decide +kernel)) (by decide) hm_z
        replace hm_z := rn_iload_n (am_cur_of (i := (109, 1, .iload_n 1, (0, 0, 0), 0)) (by decide +kernel)) g1m hm_z
        replace hm_z := rn_ifF (am_cur_of (i := (110, 3, .ifCond .ge 19, (70, 0, 0), 0)) (by decide +kernel)) (by decide) hm_z
        replace hm_z := rn_aload_n (am_cur_of (i := (113, 1, .aload_n 0, (0, 0, 0), 0)) (by decide +kernel)) g0m hm_z
        replace hm_z := rn_getI (v := rg_v g 164 9) (am_cur_of (i := (114, 3, .getfield 168, (12, 9, 1393), 0)) (by decide +kernel)) (by decide +kernel) rfl hm_z
        replace hm_z := rn_sipush (w := 9999) (am_cur_of (i := (117, 3, .sipush 9999, (0, 0, 0), 0)) (by decide +kernel)) (by decide) hm_z
        replace hm_z := rn_cmp (am_cur_of (i := (120, 3, .if_icmp .le 9, (70, 0, 0), 0)) (by decide +kernel)) hm_z
        rcases hm_z with ⟨b855_z, hm_z⟩ | ⟨b855_z, hm_z⟩
        · replace b855_z : (rg_v g 164 9).toInt ≤ (9999 : Int32).toInt := b855_z
          replace hm_z := rn_aload_n (am_cur_of (i := (129, 1, .aload_n 0, (0, 0, 0), 0)) (by decide +kernel)) g0m hm_z
          replace hm_z := rn_callV (M' := am_m175) (o := 164) (ar := []) (rest := []) (L := lv_args 0 [.ref 164]) (am_cur_of (i := (130, 3, .invokevirtual 309, (175, 1731, 3), 0)) (by decide +kernel)) rfl rfl rfl rfl hm_z
          obtain ⟨r856_z, h857_z, q858_z, hm_z⟩ := hm_z
          rcases rs_ic q858_z with ⟨i1_z, rfl, i3_z⟩ | ⟨i1_z, -⟩
          · subst i3_z
            replace hm_z : rn _ _ _ _ [.int 0] _ _ _ := hm_z
            replace hm_z := rn_ifF (am_cur_of (i := (133, 3, .ifCond .ne 5, (75, 0, 0), 0)) (by decide +kernel)) (by decide) hm_z
            replace hm_z := rn_iconst (w := 0) (am_cur_of (i := (136, 1, .iconst 0, (0, 0, 0), 0)) (by decide +kernel)) (by decide) hm_z
            replace hm_z := rn_iret (am_cur_of (i := (137, 1, .ireturn, (0, 0, 0), 0)) (by decide +kernel)) hm_z
            obtain ⟨e859_z, e860_z⟩ := hm_z
            subst e859_z e860_z
            exact (Or.inr ⟨rfl, 2, by decide, K.1, K.2, rfl, R6⟩)
          · exact absurd (Int32.toInt_inj.mp (show (rg_v g 164 44).toInt = (64 : Int32).toInt from by rw [show rg_v g 164 44 = kn from nk1_z.symm, show (64 : Int32).toInt = 64 by decide]; omega)) i1_z
        · replace b855_z : (9999 : Int32).toInt < (rg_v g 164 9).toInt := b855_z
          omega
      · subst eh
        replace lt : kn.toInt < 64 := by rw [← ekn]; exact lt
        rw [show rg_v h 11 0 = kn from ekn] at hc_z
        replace hm_z := rn_aload_n (am_cur_of (i := (0, 1, .aload_n 0, (0, 0, 0), 0)) (by decide +kernel)) g0m hm_z
        replace hm_z := rn_bipush (w := 40) (am_cur_of (i := (1, 2, .bipush 40, (0, 0, 0), 0)) (by decide +kernel)) (by decide) hm_z
        replace hm_z := rn_callV (M' := am_m171) (o := 164) (ar := [.int 40]) (rest := []) (L := lv_args 0 [.ref 164, .int 40]) (am_cur_of (i := (3, 3, .invokevirtual 194, (171, 1715, 3), 0)) (by decide +kernel)) rfl rfl rfl rfl hm_z
        obtain ⟨r861_z, h862_z, q863_z, hm_z⟩ := hm_z
        obtain ⟨rfl, yq863_z⟩ := rp_sgN (fun q => absurd (Eq.trans (Eq.symm kc) q.1) (by decide)) q863_z
        subst yq863_z
        replace hm_z : rn _ _ _ _ [.int 0] _ _ _ := hm_z
        replace hm_z := rn_ifT (am_cur_of (i := (6, 3, .ifCond .eq 44, (28, 0, 0), 0)) (by decide +kernel)) (by decide) hm_z
        replace hm_z := rn_aload_n (am_cur_of (i := (50, 1, .aload_n 0, (0, 0, 0), 0)) (by decide +kernel)) g0m hm_z
        replace hm_z := rn_bipush (w := 14) (am_cur_of (i := (51, 2, .bipush 14, (0, 0, 0), 0)) (by decide +kernel)) (by decide) hm_z
        replace hm_z := rn_callV (M' := am_m174) (o := 164) (ar := [.int 14]) (rest := []) (L := lv_args 0 [.ref 164, .int 14]) (am_cur_of (i := (53, 3, .invokevirtual 306, (174, 1727, 3), 0)) (by decide +kernel)) rfl rfl rfl rfl hm_z
        obtain ⟨r864_z, h865_z, q866_z, hm_z⟩ := hm_z
        obtain ⟨rfl, yq866_z⟩ := rp_kyN (fun q => absurd (Eq.trans (Eq.symm kc) q.1) (by decide)) q866_z
        subst yq866_z
        replace hm_z : rn _ _ _ _ [.int 0] _ _ _ := hm_z
        replace hm_z := rn_ifT (am_cur_of (i := (56, 3, .ifCond .eq 30, (47, 0, 0), 0)) (by decide +kernel)) (by decide) hm_z
        replace hm_z := rn_aload_n (am_cur_of (i := (86, 1, .aload_n 0, (0, 0, 0), 0)) (by decide +kernel)) g0m hm_z
        replace hm_z := rn_callV (M' := am_m176) (o := 164) (ar := []) (rest := []) (L := lv_args 0 [.ref 164]) (am_cur_of (i := (87, 3, .invokevirtual 312, (176, 1735, 3), 0)) (by decide +kernel)) rfl rfl rfl rfl hm_z
        obtain ⟨r867_z, h868_z, q869_z, hm_z⟩ := hm_z
        obtain ⟨rfl, yq869_z⟩ := rp_nm (c := 3) (d := rg_v g 164 9) kc rfl q869_z
        replace yq869_z := yq869_z.symm
        subst yq869_z
        rw [show rp_nmf 3 (rg_v g 164 9) = (-1) from by unfold rp_nmf; rw [if_neg (by decide)]] at hm_z
        replace hm_z : rn _ _ _ _ [.int (-1)] _ _ _ := hm_z
        replace hm_z := rn_istore_n (am_cur_of (i := (90, 1, .istore_n 1, (0, 0, 0), 0)) (by decide +kernel)) hm_z
        obtain ⟨_, s870_z, s871_z, g1m, hm_z⟩ := hm_z
        replace g0m := s870_z 0 _ (by decide) rfl g0m
        clear s870_z s871_z
        replace hm_z := rn_iload_n (am_cur_of (i := (91, 1, .iload_n 1, (0, 0, 0), 0)) (by decide +kernel)) g1m hm_z
        replace hm_z := rn_ifF (am_cur_of (i := (92, 3, .ifCond .ge 17, (60, 0, 0), 0)) (by decide +kernel)) (by decide) hm_z
        replace hm_z := rn_aload_n (am_cur_of (i := (95, 1, .aload_n 0, (0, 0, 0), 0)) (by decide +kernel)) g0m hm_z
        replace hm_z := rn_getI (v := 3) (am_cur_of (i := (96, 3, .getfield 157, (12, 8, 1392), 0)) (by decide +kernel)) (by decide +kernel) kc hm_z
        replace hm_z := rn_iconst (w := 3) (am_cur_of (i := (99, 1, .iconst 3, (0, 0, 0), 0)) (by decide +kernel)) (by decide) hm_z
        replace hm_z := rn_cmpT (am_cur_of (i := (100, 3, .if_icmp .eq 9, (60, 0, 0), 0)) (by decide +kernel)) (by decide) hm_z
        replace hm_z := rn_iload_n (am_cur_of (i := (109, 1, .iload_n 1, (0, 0, 0), 0)) (by decide +kernel)) g1m hm_z
        replace hm_z := rn_ifF (am_cur_of (i := (110, 3, .ifCond .ge 19, (70, 0, 0), 0)) (by decide +kernel)) (by decide) hm_z
        replace hm_z := rn_aload_n (am_cur_of (i := (113, 1, .aload_n 0, (0, 0, 0), 0)) (by decide +kernel)) g0m hm_z
        replace hm_z := rn_getI (v := rg_v g 164 9) (am_cur_of (i := (114, 3, .getfield 168, (12, 9, 1393), 0)) (by decide +kernel)) (by decide +kernel) rfl hm_z
        replace hm_z := rn_sipush (w := 9999) (am_cur_of (i := (117, 3, .sipush 9999, (0, 0, 0), 0)) (by decide +kernel)) (by decide) hm_z
        replace hm_z := rn_cmp (am_cur_of (i := (120, 3, .if_icmp .le 9, (70, 0, 0), 0)) (by decide +kernel)) hm_z
        rcases hm_z with ⟨b872_z, hm_z⟩ | ⟨b872_z, hm_z⟩
        · replace b872_z : (rg_v g 164 9).toInt ≤ (9999 : Int32).toInt := b872_z
          replace hm_z := rn_aload_n (am_cur_of (i := (129, 1, .aload_n 0, (0, 0, 0), 0)) (by decide +kernel)) g0m hm_z
          replace hm_z := rn_callV (M' := am_m175) (o := 164) (ar := []) (rest := []) (L := lv_args 0 [.ref 164]) (am_cur_of (i := (130, 3, .invokevirtual 309, (175, 1731, 3), 0)) (by decide +kernel)) rfl rfl rfl rfl hm_z
          obtain ⟨r873_z, h874_z, q875_z, hm_z⟩ := hm_z
          rcases rs_ic q875_z with ⟨i1_z, -⟩ | ⟨i1_z, rfl, i3_z⟩
          · exfalso
            have zz := congrArg Int32.toInt i1_z
            rw [show rg_v g 164 44 = kn from nk1_z.symm, show (64 : Int32).toInt = 64 by decide] at zz
            omega
          · subst i3_z
            rw [show rg_v g 164 44 = kn from nk1_z.symm] at hm_z
            replace hm_z : rn _ _ _ _ [.int 1] _ _ _ := hm_z
            replace hc_z : rn _ _ _ _ [] _ _ _ := hc_z
            replace hc_z := rn_aload_n (am_cur_of (i := (107, 1, .aload_n 0, (0, 0, 0), 0)) (by decide +kernel)) g0_z hc_z
            replace hc_z := rn_getM (x := 2) (am_cur_of (i := (108, 3, .getfield 25, (4, 6, 415), 0)) (by decide +kernel)) (show (am_up h 11 0 (.int (kn + 1))) 44 6 = .ref 2 from R3) hc_z
            replace hc_z := rn_getR (x := 11) (am_cur_of (i := (111, 3, .getfield 242, (1, 19, 316), 0)) (by decide +kernel)) (by decide +kernel) hc_z
            replace hc_z := rn_iconst (w := 0) (am_cur_of (i := (114, 1, .iconst 0, (0, 0, 0), 0)) (by decide +kernel)) (by decide) hc_z
            replace hc_z := rn_aload_n (am_cur_of (i := (115, 1, .aload_n 0, (0, 0, 0), 0)) (by decide +kernel)) g0_z hc_z
            replace hc_z := rn_getI (v := rg_v h 44 11) (am_cur_of (i := (116, 3, .getfield 91, (4, 11, 420), 0)) (by decide +kernel)) (by decide +kernel) (show rg_v (am_up h 11 0 (.int (kn + 1))) 44 11 = rg_v h 44 11 from rfl) hc_z
            replace hc_z := rn_callV (M' := am_m48) (o := 11) (ar := [.int (rg_v h 44 11), .int 0]) (rest := []) (L := lv_args 0 [.ref 11, .int 0, .int (rg_v h 44 11)]) (am_cur_of (i := (119, 3, .invokevirtual 276, (48, 845, 3), 0)) (by decide +kernel)) rfl rfl rfl rfl hc_z
            obtain ⟨r876_z, h877_z, q878_z, hc_z⟩ := hc_z
            obtain ⟨rfl, PF⟩ := rs_put2 q878_z
            replace hc_z : rn _ _ _ _ [] _ _ _ := hc_z
            replace hc_z := rn_goto (am_cur_of (i := (122, 3, .goto 50, (87, 0, 0), 0)) (by decide +kernel)) hc_z
            replace hc_z := rn_aload_n (am_cur_of (i := (172, 1, .aload_n 0, (0, 0, 0), 0)) (by decide +kernel)) g0_z hc_z
            replace hc_z := rn_callV (M' := am_m19) (o := 44) (ar := []) (rest := []) (L := lv_args 0 [.ref 44]) (am_cur_of (i := (173, 3, .invokevirtual 57, (19, 727, 3), 0)) (by decide +kernel)) rfl rfl rfl rfl hc_z
            obtain ⟨r879_z, h880_z, q881_z, hc_z⟩ := hc_z
            have vo := rn_void rfl q881_z
            subst vo
            replace hm_z := rn_ifT (am_cur_of (i := (133, 3, .ifCond .ne 5, (75, 0, 0), 0)) (by decide +kernel)) (by decide) hm_z
            replace hm_z := rn_aload_n (am_cur_of (i := (138, 1, .aload_n 0, (0, 0, 0), 0)) (by decide +kernel)) g0m hm_z
            replace hm_z := rn_iload_n (am_cur_of (i := (139, 1, .iload_n 1, (0, 0, 0), 0)) (by decide +kernel)) g1m hm_z
            replace hm_z := rn_ifT (am_cur_of (i := (140, 3, .ifCond .lt 7, (80, 0, 0), 0)) (by decide +kernel)) (by decide) hm_z
            replace hm_z := rn_iconst (w := 0) (am_cur_of (i := (147, 1, .iconst 0, (0, 0, 0), 0)) (by decide +kernel)) (by decide) hm_z
            replace hm_z := rn_iload_n (am_cur_of (i := (148, 1, .iload_n 1, (0, 0, 0), 0)) (by decide +kernel)) g1m hm_z
            replace hm_z := rn_ifT (am_cur_of (i := (149, 3, .ifCond .lt 7, (85, 0, 0), 0)) (by decide +kernel)) (by decide) hm_z
            replace hm_z := rn_aload_n (am_cur_of (i := (156, 1, .aload_n 0, (0, 0, 0), 0)) (by decide +kernel)) g0m hm_z
            replace hm_z := rn_getI (v := rg_v g 164 9) (am_cur_of (i := (157, 3, .getfield 168, (12, 9, 1393), 0)) (by decide +kernel)) (by decide +kernel) (show rg_v (am_up g 164 44 (.int (kn + 1))) 164 9 = rg_v g 164 9 from rfl) hm_z
            replace hm_z := rn_iconst (w := 0) (am_cur_of (i := (160, 1, .iconst 0, (0, 0, 0), 0)) (by decide +kernel)) (by decide) hm_z
            replace hm_z := rn_callV (M' := am_m177) (o := 164) (ar := [.int 0, .int (rg_v g 164 9), .int 0]) (rest := []) (L := lv_args 0 [.ref 164, .int 0, .int (rg_v g 164 9), .int 0]) (am_cur_of (i := (161, 3, .invokevirtual 291, (177, 1739, 3), 0)) (by decide +kernel)) rfl rfl rfl rfl hm_z
            obtain ⟨r882_z, h883_z, q884_z, hm_z⟩ := hm_z
            obtain ⟨rfl, GF⟩ := rs_grown q884_z
            replace hm_z : rn _ _ _ _ [] _ _ _ := hm_z
            replace hm_z := rn_aload_n (am_cur_of (i := (164, 1, .aload_n 0, (0, 0, 0), 0)) (by decide +kernel)) g0m hm_z
            replace hm_z := rn_iconst (w := 0) (am_cur_of (i := (165, 1, .iconst 0, (0, 0, 0), 0)) (by decide +kernel)) (by decide) hm_z
            replace hm_z := rn_put (am_cur_of (i := (166, 3, .putfield 315, (12, 45, 1429), 0)) (by decide +kernel)) (by decide +kernel) hm_z
            replace hm_z := rn_aload_n (am_cur_of (i := (169, 1, .aload_n 0, (0, 0, 0), 0)) (by decide +kernel)) g0m hm_z
            replace hm_z := rn_callV (M' := am_m151) (o := 164) (ar := []) (rest := []) (L := lv_args 0 [.ref 164]) (am_cur_of (i := (170, 3, .invokevirtual 191, (151, 1636, 3), 0)) (by decide +kernel)) rfl rfl rfl rfl hm_z
            obtain ⟨r885_z, h886_z, q887_z, hm_z⟩ := hm_z
            have vo := rn_void rfl q887_z
            subst vo
            have FC : ab_Fr (rz_MC2.drop 1) h h877_z := ab_Fr_trans (ab_Fr_up rfl ab_Fr_refl) (ab_Fr_sub (by decide) PF)
            have FC' : ab_Fr rz_MC2 h h877_z := ab_Fr_sub (by decide) FC
            have FM : ab_Fr rz_MM g (am_up h883_z 164 45 (.int 0)) := ab_Fr_up rfl (ab_Fr_trans (ab_Fr_up rfl ab_Fr_refl) (ab_Fr_sub (by decide) GF))
            obtain ⟨-, -, x2_z, p2_z, R2, le2_z, t5_z, t6_z⟩ := pr_tok (rz_q02 (rq_0 Rk) FC' FM) q881_z q887_z
            have A2 := rp_x (by decide) (rz_p2 A FC' FM ((show rg_v h877_z 11 0 = kn + 1 from ((rg_v_fr PF (by decide)).trans (show rg_v (am_up h 11 0 (.int (kn + 1))) 11 0 = kn + 1 from rfl))).trans (show rg_v (am_up h883_z 164 45 (.int 0)) 164 44 = kn + 1 from (show rg_v (am_up h883_z 164 45 (.int 0)) 164 44 = kn + 1 from ((rg_v_fr GF (by decide)).trans (show rg_v (am_up g 164 44 (.int (kn + 1))) 164 44 = kn + 1 from rfl)))).symm) (by rw [show rg_v h877_z 11 0 = kn + 1 from ((rg_v_fr PF (by decide)).trans (show rg_v (am_up h 11 0 (.int (kn + 1))) 11 0 = kn + 1 from rfl))]; omega) (by rw [show rg_v h877_z 11 0 = kn + 1 from ((rg_v_fr PF (by decide)).trans (show rg_v (am_up h 11 0 (.int (kn + 1))) 11 0 = kn + 1 from rfl))]; omega)) (rx_C_f t5_z) (rx_M_f t6_z)
            have B2 := rp_tk (rz_t2 B FC FM) (rg_v_fr t5_z (by decide)) (fun k => rg_v_fr t6_z (rg_v_in (by decide) k)) (rx_M_f t6_z)
            have FC47 : ab_Fr [(44, 14), (44, 15), (11, 1), (11, 2), (12, 0), (13, 0)] h h877_z := ab_Fr_trans (ab_Fr_up rfl ab_Fr_refl) (ab_Fr_sub (by decide) PF)
            have FM184 : ab_Fr [(164, 42), (164, 43), (164, 44), (164, 45), (164, 46), (164, 47), (164, 22), (181, 0), (182, 0), (183, 0), (185, 0)] g (am_up h883_z 164 45 (.int 0)) := ab_Fr_up rfl (ab_Fr_trans (ab_Fr_up rfl ab_Fr_refl) (ab_Fr_sub (by decide) GF))
            have Z2 : rs 2 h877_z (am_up h883_z 164 45 (.int 0)) := rs_keep Zk ((show rg_v h877_z 44 13 = np from ((rg_v_fr PF (by decide)).trans (show rg_v (am_up h 11 0 (.int (kn + 1))) 44 13 = np from z1_z))).trans z1_z.symm) ((show rg_v (am_up h883_z 164 45 (.int 0)) 164 41 = np from (show rg_v (am_up h883_z 164 45 (.int 0)) 164 41 = np from ((rg_v_fr GF (by decide)).trans (show rg_v (am_up g 164 44 (.int (kn + 1))) 164 41 = np from z2_z)))).trans z2_z.symm) ((show rg_v h877_z 44 14 = op from ((rg_v_fr PF (by decide)).trans (show rg_v (am_up h 11 0 (.int (kn + 1))) 44 14 = op from z4_z))).trans z4_z.symm) ((show rg_v (am_up h883_z 164 45 (.int 0)) 164 43 = op from (show rg_v (am_up h883_z 164 45 (.int 0)) 164 43 = op from ((rg_v_fr GF (by decide)).trans (show rg_v (am_up g 164 44 (.int (kn + 1))) 164 43 = op from z5_z)))).trans z5_z.symm) (show (rg_v h 11 0).toInt ≤ (rg_v h877_z 11 0).toInt by rw [(show rg_v h877_z 11 0 = kn + 1 from ((rg_v_fr PF (by decide)).trans (show rg_v (am_up h 11 0 (.int (kn + 1))) 11 0 = kn + 1 from rfl))), ekn]; omega) (fun k => rg_v_fr FC47 (rg_v_in (by decide) k)) (fun k => rg_v_fr FM184 (rg_v_in (by decide) k))
            replace Z2 := rs_fr (by decide) Z2 t5_z t6_z
            have e45_z : rg_v h886_z 164 45 = 0 := (rg_v_fr t6_z (by decide)).trans (show rg_v (am_up h883_z 164 45 (.int 0)) 164 45 = 0 from (show rg_v (am_up h883_z 164 45 (.int 0)) 164 45 = 0 from rfl))
            have e46_z : rg_v h886_z 164 46 = 1 := (rg_v_fr t6_z (by decide)).trans (show rg_v (am_up h883_z 164 45 (.int 0)) 164 46 = 1 from (show rg_v (am_up h883_z 164 45 (.int 0)) 164 46 = 1 from ((rg_v_fr GF (by decide)).trans (show rg_v (am_up g 164 44 (.int (kn + 1))) 164 46 = 1 from w2_z))))
            replace hm_z : rn _ _ _ _ [] _ _ _ := hm_z
            replace hc_z : rn _ _ _ _ [] _ _ _ := hc_z
            replace hc_z := rn_iconst (w := 2) (am_cur_of (i := (176, 1, .iconst 2, (0, 0, 0), 0)) (by decide +kernel)) (by decide) hc_z
            replace hc_z := rn_iret (am_cur_of (i := (177, 1, .ireturn, (0, 0, 0), 0)) (by decide +kernel)) hc_z
            obtain ⟨e888_z, e889_z⟩ := hc_z
            replace hm_z := rn_iconst (w := 1) (am_cur_of (i := (173, 1, .iconst 1, (0, 0, 0), 0)) (by decide +kernel)) (by decide) hm_z
            replace hm_z := rn_iret (am_cur_of (i := (174, 1, .ireturn, (0, 0, 0), 0)) (by decide +kernel)) hm_z
            obtain ⟨e890_z, e891_z⟩ := hm_z
            subst e888_z e889_z e890_z e891_z
            exact Or.inl ⟨_, x2_z, p2_z, rfl, rfl, R2, le2_z, A2, B2, Z2, Or.inr (Or.inr ⟨rfl, e45_z⟩)⟩
        · replace b872_z : (9999 : Int32).toInt < (rg_v g 164 9).toInt := b872_z
          omega
    · replace b840_z : (9999 : Int32).toInt < (rg_v h 44 11).toInt := b840_z
      replace hc_z := rn_aload_n (am_cur_of (i := (98, 1, .aload_n 0, (0, 0, 0), 0)) (by decide +kernel)) g0_z hc_z
      replace hc_z := rn_iconst (w := 2) (am_cur_of (i := (99, 1, .iconst 2, (0, 0, 0), 0)) (by decide +kernel)) (by decide) hc_z
      replace hc_z := rn_callV (M' := am_m29) (o := 44) (ar := [.int 2]) (rest := []) (L := lv_args 0 [.ref 44, .int 2]) (am_cur_of (i := (100, 3, .invokevirtual 108, (29, 769, 3), 0)) (by decide +kernel)) rfl rfl rfl rfl hc_z
      obtain ⟨r892_z, h893_z, q894_z, hc_z⟩ := hc_z
      obtain ⟨rfl, yq894_z⟩ := rp_fail R4 q894_z
      subst yq894_z
      replace hc_z : rn _ _ _ _ [] _ _ _ := hc_z
      have K := rs_stick (w := 2) (q := p) (a := 51) (by decide) (by decide) rfl (by decide) rfl (show rg_v (am_up (am_up h 44 1 (.int 2)) 44 2 (.int (rg_v h 44 9))) 44 2 = p from R5) hc_z
      replace hm_z := rn_aload_n (am_cur_of (i := (0, 1, .aload_n 0, (0, 0, 0), 0)) (by decide +kernel)) g0m hm_z
      replace hm_z := rn_bipush (w := 40) (am_cur_of (i := (1, 2, .bipush 40, (0, 0, 0), 0)) (by decide +kernel)) (by decide) hm_z
      replace hm_z := rn_callV (M' := am_m171) (o := 164) (ar := [.int 40]) (rest := []) (L := lv_args 0 [.ref 164, .int 40]) (am_cur_of (i := (3, 3, .invokevirtual 194, (171, 1715, 3), 0)) (by decide +kernel)) rfl rfl rfl rfl hm_z
      obtain ⟨r895_z, h896_z, q897_z, hm_z⟩ := hm_z
      obtain ⟨rfl, yq897_z⟩ := rp_sgN (fun q => absurd (Eq.trans (Eq.symm kc) q.1) (by decide)) q897_z
      subst yq897_z
      replace hm_z : rn _ _ _ _ [.int 0] _ _ _ := hm_z
      replace hm_z := rn_ifT (am_cur_of (i := (6, 3, .ifCond .eq 44, (28, 0, 0), 0)) (by decide +kernel)) (by decide) hm_z
      replace hm_z := rn_aload_n (am_cur_of (i := (50, 1, .aload_n 0, (0, 0, 0), 0)) (by decide +kernel)) g0m hm_z
      replace hm_z := rn_bipush (w := 14) (am_cur_of (i := (51, 2, .bipush 14, (0, 0, 0), 0)) (by decide +kernel)) (by decide) hm_z
      replace hm_z := rn_callV (M' := am_m174) (o := 164) (ar := [.int 14]) (rest := []) (L := lv_args 0 [.ref 164, .int 14]) (am_cur_of (i := (53, 3, .invokevirtual 306, (174, 1727, 3), 0)) (by decide +kernel)) rfl rfl rfl rfl hm_z
      obtain ⟨r898_z, h899_z, q900_z, hm_z⟩ := hm_z
      obtain ⟨rfl, yq900_z⟩ := rp_kyN (fun q => absurd (Eq.trans (Eq.symm kc) q.1) (by decide)) q900_z
      subst yq900_z
      replace hm_z : rn _ _ _ _ [.int 0] _ _ _ := hm_z
      replace hm_z := rn_ifT (am_cur_of (i := (56, 3, .ifCond .eq 30, (47, 0, 0), 0)) (by decide +kernel)) (by decide) hm_z
      replace hm_z := rn_aload_n (am_cur_of (i := (86, 1, .aload_n 0, (0, 0, 0), 0)) (by decide +kernel)) g0m hm_z
      replace hm_z := rn_callV (M' := am_m176) (o := 164) (ar := []) (rest := []) (L := lv_args 0 [.ref 164]) (am_cur_of (i := (87, 3, .invokevirtual 312, (176, 1735, 3), 0)) (by decide +kernel)) rfl rfl rfl rfl hm_z
      obtain ⟨r901_z, h902_z, q903_z, hm_z⟩ := hm_z
      obtain ⟨rfl, yq903_z⟩ := rp_nm (c := 3) (d := rg_v g 164 9) kc rfl q903_z
      replace yq903_z := yq903_z.symm
      subst yq903_z
      rw [show rp_nmf 3 (rg_v g 164 9) = (-1) from by unfold rp_nmf; rw [if_neg (by decide)]] at hm_z
      replace hm_z : rn _ _ _ _ [.int (-1)] _ _ _ := hm_z
      replace hm_z := rn_istore_n (am_cur_of (i := (90, 1, .istore_n 1, (0, 0, 0), 0)) (by decide +kernel)) hm_z
      obtain ⟨_, s904_z, s905_z, g1m, hm_z⟩ := hm_z
      replace g0m := s904_z 0 _ (by decide) rfl g0m
      clear s904_z s905_z
      replace hm_z := rn_iload_n (am_cur_of (i := (91, 1, .iload_n 1, (0, 0, 0), 0)) (by decide +kernel)) g1m hm_z
      replace hm_z := rn_ifF (am_cur_of (i := (92, 3, .ifCond .ge 17, (60, 0, 0), 0)) (by decide +kernel)) (by decide) hm_z
      replace hm_z := rn_aload_n (am_cur_of (i := (95, 1, .aload_n 0, (0, 0, 0), 0)) (by decide +kernel)) g0m hm_z
      replace hm_z := rn_getI (v := 3) (am_cur_of (i := (96, 3, .getfield 157, (12, 8, 1392), 0)) (by decide +kernel)) (by decide +kernel) kc hm_z
      replace hm_z := rn_iconst (w := 3) (am_cur_of (i := (99, 1, .iconst 3, (0, 0, 0), 0)) (by decide +kernel)) (by decide) hm_z
      replace hm_z := rn_cmpT (am_cur_of (i := (100, 3, .if_icmp .eq 9, (60, 0, 0), 0)) (by decide +kernel)) (by decide) hm_z
      replace hm_z := rn_iload_n (am_cur_of (i := (109, 1, .iload_n 1, (0, 0, 0), 0)) (by decide +kernel)) g1m hm_z
      replace hm_z := rn_ifF (am_cur_of (i := (110, 3, .ifCond .ge 19, (70, 0, 0), 0)) (by decide +kernel)) (by decide) hm_z
      replace hm_z := rn_aload_n (am_cur_of (i := (113, 1, .aload_n 0, (0, 0, 0), 0)) (by decide +kernel)) g0m hm_z
      replace hm_z := rn_getI (v := rg_v g 164 9) (am_cur_of (i := (114, 3, .getfield 168, (12, 9, 1393), 0)) (by decide +kernel)) (by decide +kernel) rfl hm_z
      replace hm_z := rn_sipush (w := 9999) (am_cur_of (i := (117, 3, .sipush 9999, (0, 0, 0), 0)) (by decide +kernel)) (by decide) hm_z
      replace hm_z := rn_cmp (am_cur_of (i := (120, 3, .if_icmp .le 9, (70, 0, 0), 0)) (by decide +kernel)) hm_z
      rcases hm_z with ⟨b906_z, hm_z⟩ | ⟨b906_z, hm_z⟩
      · replace b906_z : (rg_v g 164 9).toInt ≤ (9999 : Int32).toInt := b906_z
        omega
      · replace b906_z : (9999 : Int32).toInt < (rg_v g 164 9).toInt := b906_z
        replace hm_z := rn_aload_n (am_cur_of (i := (123, 1, .aload_n 0, (0, 0, 0), 0)) (by decide +kernel)) g0m hm_z
        replace hm_z := rn_iconst (w := 2) (am_cur_of (i := (124, 1, .iconst 2, (0, 0, 0), 0)) (by decide +kernel)) (by decide) hm_z
        replace hm_z := rn_callV (M' := am_m158) (o := 164) (ar := [.int 2]) (rest := []) (L := lv_args 0 [.ref 164, .int 2]) (am_cur_of (i := (125, 3, .invokevirtual 181, (158, 1665, 3), 0)) (by decide +kernel)) rfl rfl rfl rfl hm_z
        obtain ⟨r907_z, h908_z, q909_z, hm_z⟩ := hm_z
        obtain ⟨rfl, yq909_z⟩ := rp_wrong q909_z
        subst yq909_z
        replace hm_z : rn _ _ _ _ [.int 0] _ _ _ := hm_z
        replace hm_z := rn_iret (am_cur_of (i := (128, 1, .ireturn, (0, 0, 0), 0)) (by decide +kernel)) hm_z
        obtain ⟨e910_z, e911_z⟩ := hm_z
        subst e910_z e911_z
        exact (Or.inr ⟨rfl, 2, by decide, K.1, K.2, rfl, R6⟩)
  · have g0_z : am_get (lv_args 0 [.ref 44, .int 0]) 0 = some (.ref 44) := rfl
    have g1_z : am_get (lv_args 0 [.ref 44, .int 0]) 1 = some (.int 0) := rfl
    have g0m : am_get (lv_args 0 [.ref 164]) 0 = some (.ref 164) := rfl
    have Rk := R
    have Zk := Z
    obtain ⟨⟨c1_z, c2_z, c3_z, c4_z, c5_z, c6_z, c7_z, c8_z⟩, ⟨m2_z, m3_z, m4_z, m5_z, m6_z, m7_z, m8_z⟩, R3, R4, R5, R6, R7, R8, R9, R10⟩ := (R : rq T S x p 2 h g)
    obtain ⟨np, op, z1_z, z2_z, z3_z, z4_z, z5_z, z6_z, z7_z, z8_z, z9_z, z10_z⟩ := (Z : rs 2 h g)
    obtain ⟨nk1_z, nk2_z, nk3_z⟩ := A.2.2.2.2.2.1
    replace nk1_z : rg_v h 11 0 = rg_v g 164 44 := nk1_z
    replace nk2_z : 0 ≤ (rg_v h 11 0).toInt := nk2_z
    replace nk3_z : (rg_v h 11 0).toInt ≤ 64 := nk3_z
    replace z8_z : np.toInt ≤ (rg_v h 11 0).toInt + op.toInt := z8_z
    obtain ⟨kn, ekn⟩ : ∃ v, rg_v h 11 0 = v := ⟨_, rfl⟩
    rw [ekn] at nk1_z nk2_z nk3_z z8_z
    have e9_z := rt_c1 (x := kn) (by omega) (by omega)
    replace hc_z := rn_aload_n (am_cur_of (i := (0, 1, .aload_n 0, (0, 0, 0), 0)) (by decide +kernel)) g0_z hc_z
    replace hc_z := rn_getI (v := 5) (am_cur_of (i := (1, 3, .getfield 60, (4, 10, 419), 0)) (by decide +kernel)) (by decide +kernel) ka hc_z
    replace hc_z := rn_bipush (w := 6) (am_cur_of (i := (4, 2, .bipush 6, (0, 0, 0), 0)) (by decide +kernel)) (by decide) hc_z
    replace hc_z := rn_cmpT (am_cur_of (i := (6, 3, .if_icmp .ne 30, (19, 0, 0), 0)) (by decide +kernel)) (by decide) hc_z
    replace hc_z := rn_aload_n (am_cur_of (i := (36, 1, .aload_n 0, (0, 0, 0), 0)) (by decide +kernel)) g0_z hc_z
    replace hc_z := rn_bipush (w := 40) (am_cur_of (i := (37, 2, .bipush 40, (0, 0, 0), 0)) (by decide +kernel)) (by decide) hc_z
    replace hc_z := rn_callV (M' := am_m45) (o := 44) (ar := [.int 40]) (rest := []) (L := lv_args 0 [.ref 44, .int 40]) (am_cur_of (i := (39, 3, .invokevirtual 105, (45, 834, 3), 0)) (by decide +kernel)) rfl rfl rfl rfl hc_z
    obtain ⟨r912_z, h913_z, q914_z, hc_z⟩ := hc_z
    obtain ⟨rfl, yq914_z⟩ := rp_mkN (fun q => absurd (Eq.trans (Eq.symm kb) q.2) (by decide)) q914_z
    subst yq914_z
    replace hc_z : rn _ _ _ _ [.int 0] _ _ _ := hc_z
    replace hc_z := rn_ifT (am_cur_of (i := (42, 3, .ifCond .eq 38, (43, 0, 0), 0)) (by decide +kernel)) (by decide) hc_z
    replace hc_z := rn_aload_n (am_cur_of (i := (80, 1, .aload_n 0, (0, 0, 0), 0)) (by decide +kernel)) g0_z hc_z
    replace hc_z := rn_getI (v := 5) (am_cur_of (i := (81, 3, .getfield 60, (4, 10, 419), 0)) (by decide +kernel)) (by decide +kernel) ka hc_z
    replace hc_z := rn_iconst (w := 4) (am_cur_of (i := (84, 1, .iconst 4, (0, 0, 0), 0)) (by decide +kernel)) (by decide) hc_z
    replace hc_z := rn_cmpT (am_cur_of (i := (85, 3, .if_icmp .ne 40, (64, 0, 0), 0)) (by decide +kernel)) (by decide) hc_z
    replace hc_z := rn_aload_n (am_cur_of (i := (125, 1, .aload_n 0, (0, 0, 0), 0)) (by decide +kernel)) g0_z hc_z
    replace hc_z := rn_getI (v := 5) (am_cur_of (i := (126, 3, .getfield 60, (4, 10, 419), 0)) (by decide +kernel)) (by decide +kernel) ka hc_z
    replace hc_z := rn_iconst (w := 2) (am_cur_of (i := (129, 1, .iconst 2, (0, 0, 0), 0)) (by decide +kernel)) (by decide) hc_z
    replace hc_z := rn_cmpT (am_cur_of (i := (130, 3, .if_icmp .ne 37, (84, 0, 0), 0)) (by decide +kernel)) (by decide) hc_z
    replace hc_z := rn_aload_n (am_cur_of (i := (167, 1, .aload_n 0, (0, 0, 0), 0)) (by decide +kernel)) g0_z hc_z
    replace hc_z := rn_iconst (w := 1) (am_cur_of (i := (168, 1, .iconst 1, (0, 0, 0), 0)) (by decide +kernel)) (by decide) hc_z
    replace hc_z := rn_callV (M' := am_m29) (o := 44) (ar := [.int 1]) (rest := []) (L := lv_args 0 [.ref 44, .int 1]) (am_cur_of (i := (169, 3, .invokevirtual 108, (29, 769, 3), 0)) (by decide +kernel)) rfl rfl rfl rfl hc_z
    obtain ⟨r915_z, h916_z, q917_z, hc_z⟩ := hc_z
    obtain ⟨rfl, yq917_z⟩ := rp_fail R4 q917_z
    subst yq917_z
    replace hc_z : rn _ _ _ _ [] _ _ _ := hc_z
    have K := rs_stick (w := 1) (q := p) (a := 51) (by decide) (by decide) rfl (by decide) rfl (show rg_v (am_up (am_up h 44 1 (.int 1)) 44 2 (.int (rg_v h 44 9))) 44 2 = p from R5) hc_z
    replace hm_z := rn_aload_n (am_cur_of (i := (0, 1, .aload_n 0, (0, 0, 0), 0)) (by decide +kernel)) g0m hm_z
    replace hm_z := rn_bipush (w := 40) (am_cur_of (i := (1, 2, .bipush 40, (0, 0, 0), 0)) (by decide +kernel)) (by decide) hm_z
    replace hm_z := rn_callV (M' := am_m171) (o := 164) (ar := [.int 40]) (rest := []) (L := lv_args 0 [.ref 164, .int 40]) (am_cur_of (i := (3, 3, .invokevirtual 194, (171, 1715, 3), 0)) (by decide +kernel)) rfl rfl rfl rfl hm_z
    obtain ⟨r918_z, h919_z, q920_z, hm_z⟩ := hm_z
    obtain ⟨rfl, yq920_z⟩ := rp_sgN (fun q => absurd (Eq.trans (Eq.symm kd) q.2) (by decide)) q920_z
    subst yq920_z
    replace hm_z : rn _ _ _ _ [.int 0] _ _ _ := hm_z
    replace hm_z := rn_ifT (am_cur_of (i := (6, 3, .ifCond .eq 44, (28, 0, 0), 0)) (by decide +kernel)) (by decide) hm_z
    replace hm_z := rn_aload_n (am_cur_of (i := (50, 1, .aload_n 0, (0, 0, 0), 0)) (by decide +kernel)) g0m hm_z
    replace hm_z := rn_bipush (w := 14) (am_cur_of (i := (51, 2, .bipush 14, (0, 0, 0), 0)) (by decide +kernel)) (by decide) hm_z
    replace hm_z := rn_callV (M' := am_m174) (o := 164) (ar := [.int 14]) (rest := []) (L := lv_args 0 [.ref 164, .int 14]) (am_cur_of (i := (53, 3, .invokevirtual 306, (174, 1727, 3), 0)) (by decide +kernel)) rfl rfl rfl rfl hm_z
    obtain ⟨r921_z, h922_z, q923_z, hm_z⟩ := hm_z
    obtain ⟨rfl, yq923_z⟩ := rp_kyN (fun q => absurd (Eq.trans (Eq.symm kc) q.1) (by decide)) q923_z
    subst yq923_z
    replace hm_z : rn _ _ _ _ [.int 0] _ _ _ := hm_z
    replace hm_z := rn_ifT (am_cur_of (i := (56, 3, .ifCond .eq 30, (47, 0, 0), 0)) (by decide +kernel)) (by decide) hm_z
    replace hm_z := rn_aload_n (am_cur_of (i := (86, 1, .aload_n 0, (0, 0, 0), 0)) (by decide +kernel)) g0m hm_z
    replace hm_z := rn_callV (M' := am_m176) (o := 164) (ar := []) (rest := []) (L := lv_args 0 [.ref 164]) (am_cur_of (i := (87, 3, .invokevirtual 312, (176, 1735, 3), 0)) (by decide +kernel)) rfl rfl rfl rfl hm_z
    obtain ⟨r924_z, h925_z, q926_z, hm_z⟩ := hm_z
    obtain ⟨rfl, yq926_z⟩ := rp_nm (c := 4) (d := 59) kc kd q926_z
    replace yq926_z := yq926_z.symm
    subst yq926_z
    rw [show rp_nmf 4 59 = (-1) from by unfold rp_nmf; rw [if_neg (by decide)]] at hm_z
    replace hm_z : rn _ _ _ _ [.int (-1)] _ _ _ := hm_z
    replace hm_z := rn_istore_n (am_cur_of (i := (90, 1, .istore_n 1, (0, 0, 0), 0)) (by decide +kernel)) hm_z
    obtain ⟨_, s927_z, s928_z, g1m, hm_z⟩ := hm_z
    replace g0m := s927_z 0 _ (by decide) rfl g0m
    clear s927_z s928_z
    replace hm_z := rn_iload_n (am_cur_of (i := (91, 1, .iload_n 1, (0, 0, 0), 0)) (by decide +kernel)) g1m hm_z
    replace hm_z := rn_ifF (am_cur_of (i := (92, 3, .ifCond .ge 17, (60, 0, 0), 0)) (by decide +kernel)) (by decide) hm_z
    replace hm_z := rn_aload_n (am_cur_of (i := (95, 1, .aload_n 0, (0, 0, 0), 0)) (by decide +kernel)) g0m hm_z
    replace hm_z := rn_getI (v := 4) (am_cur_of (i := (96, 3, .getfield 157, (12, 8, 1392), 0)) (by decide +kernel)) (by decide +kernel) kc hm_z
    replace hm_z := rn_iconst (w := 3) (am_cur_of (i := (99, 1, .iconst 3, (0, 0, 0), 0)) (by decide +kernel)) (by decide) hm_z
    replace hm_z := rn_cmpF (am_cur_of (i := (100, 3, .if_icmp .eq 9, (60, 0, 0), 0)) (by decide +kernel)) (by decide) hm_z
    replace hm_z := rn_aload_n (am_cur_of (i := (103, 1, .aload_n 0, (0, 0, 0), 0)) (by decide +kernel)) g0m hm_z
    replace hm_z := rn_iconst (w := 1) (am_cur_of (i := (104, 1, .iconst 1, (0, 0, 0), 0)) (by decide +kernel)) (by decide) hm_z
    replace hm_z := rn_callV (M' := am_m158) (o := 164) (ar := [.int 1]) (rest := []) (L := lv_args 0 [.ref 164, .int 1]) (am_cur_of (i := (105, 3, .invokevirtual 181, (158, 1665, 3), 0)) (by decide +kernel)) rfl rfl rfl rfl hm_z
    obtain ⟨r929_z, h930_z, q931_z, hm_z⟩ := hm_z
    obtain ⟨rfl, yq931_z⟩ := rp_wrong q931_z
    subst yq931_z
    replace hm_z : rn _ _ _ _ [.int 0] _ _ _ := hm_z
    replace hm_z := rn_iret (am_cur_of (i := (108, 1, .ireturn, (0, 0, 0), 0)) (by decide +kernel)) hm_z
    obtain ⟨e932_z, e933_z⟩ := hm_z
    subst e932_z e933_z
    exact (Or.inr ⟨rfl, 1, by decide, K.1, K.2, rfl, R6⟩)
  · have g0_z : am_get (lv_args 0 [.ref 44, .int 0]) 0 = some (.ref 44) := rfl
    have g1_z : am_get (lv_args 0 [.ref 44, .int 0]) 1 = some (.int 0) := rfl
    have g0m : am_get (lv_args 0 [.ref 164]) 0 = some (.ref 164) := rfl
    have Rk := R
    have Zk := Z
    obtain ⟨⟨c1_z, c2_z, c3_z, c4_z, c5_z, c6_z, c7_z, c8_z⟩, ⟨m2_z, m3_z, m4_z, m5_z, m6_z, m7_z, m8_z⟩, R3, R4, R5, R6, R7, R8, R9, R10⟩ := (R : rq T S x p 2 h g)
    obtain ⟨np, op, z1_z, z2_z, z3_z, z4_z, z5_z, z6_z, z7_z, z8_z, z9_z, z10_z⟩ := (Z : rs 2 h g)
    obtain ⟨nk1_z, nk2_z, nk3_z⟩ := A.2.2.2.2.2.1
    replace nk1_z : rg_v h 11 0 = rg_v g 164 44 := nk1_z
    replace nk2_z : 0 ≤ (rg_v h 11 0).toInt := nk2_z
    replace nk3_z : (rg_v h 11 0).toInt ≤ 64 := nk3_z
    replace z8_z : np.toInt ≤ (rg_v h 11 0).toInt + op.toInt := z8_z
    obtain ⟨kn, ekn⟩ : ∃ v, rg_v h 11 0 = v := ⟨_, rfl⟩
    rw [ekn] at nk1_z nk2_z nk3_z z8_z
    have e9_z := rt_c1 (x := kn) (by omega) (by omega)
    replace hc_z := rn_aload_n (am_cur_of (i := (0, 1, .aload_n 0, (0, 0, 0), 0)) (by decide +kernel)) g0_z hc_z
    replace hc_z := rn_getI (v := 5) (am_cur_of (i := (1, 3, .getfield 60, (4, 10, 419), 0)) (by decide +kernel)) (by decide +kernel) ka hc_z
    replace hc_z := rn_bipush (w := 6) (am_cur_of (i := (4, 2, .bipush 6, (0, 0, 0), 0)) (by decide +kernel)) (by decide) hc_z
    replace hc_z := rn_cmpT (am_cur_of (i := (6, 3, .if_icmp .ne 30, (19, 0, 0), 0)) (by decide +kernel)) (by decide) hc_z
    replace hc_z := rn_aload_n (am_cur_of (i := (36, 1, .aload_n 0, (0, 0, 0), 0)) (by decide +kernel)) g0_z hc_z
    replace hc_z := rn_bipush (w := 40) (am_cur_of (i := (37, 2, .bipush 40, (0, 0, 0), 0)) (by decide +kernel)) (by decide) hc_z
    replace hc_z := rn_callV (M' := am_m45) (o := 44) (ar := [.int 40]) (rest := []) (L := lv_args 0 [.ref 44, .int 40]) (am_cur_of (i := (39, 3, .invokevirtual 105, (45, 834, 3), 0)) (by decide +kernel)) rfl rfl rfl rfl hc_z
    obtain ⟨r934_z, h935_z, q936_z, hc_z⟩ := hc_z
    obtain ⟨rfl, yq936_z⟩ := rp_mkT ka kb q936_z
    subst yq936_z
    replace hc_z : rn _ _ _ _ [.int 1] _ _ _ := hc_z
    replace hc_z := rn_ifF (am_cur_of (i := (42, 3, .ifCond .eq 38, (43, 0, 0), 0)) (by decide +kernel)) (by decide) hc_z
    replace hc_z := rn_aload_n (am_cur_of (i := (45, 1, .aload_n 0, (0, 0, 0), 0)) (by decide +kernel)) g0_z hc_z
    replace hc_z := rn_getI (v := op) (am_cur_of (i := (46, 3, .getfield 254, (4, 14, 423), 0)) (by decide +kernel)) (by decide +kernel) z4_z hc_z
    replace hc_z := rn_bipush (w := 8) (am_cur_of (i := (49, 2, .bipush 8, (0, 0, 0), 0)) (by decide +kernel)) (by decide) hc_z
    replace hc_z := rn_cmp (am_cur_of (i := (51, 3, .if_icmp .lt 8, (30, 0, 0), 0)) (by decide +kernel)) hc_z
    rcases hc_z with ⟨b937_z, hc_z⟩ | ⟨b937_z, hc_z⟩
    · replace b937_z : op.toInt < (8 : Int32).toInt := b937_z
      replace hc_z := rn_aload_n (am_cur_of (i := (59, 1, .aload_n 0, (0, 0, 0), 0)) (by decide +kernel)) g0_z hc_z
      replace hc_z := rn_dup (am_cur_of (i := (60, 1, .dup, (0, 0, 0), 0)) (by decide +kernel)) hc_z
      replace hc_z := rn_getI (v := op) (am_cur_of (i := (61, 3, .getfield 254, (4, 14, 423), 0)) (by decide +kernel)) (by decide +kernel) z4_z hc_z
      replace hc_z := rn_iconst (w := 1) (am_cur_of (i := (64, 1, .iconst 1, (0, 0, 0), 0)) (by decide +kernel)) (by decide) hc_z
      replace hc_z := rn_iadd (w := op + 1) (am_cur_of (i := (65, 1, .iadd, (0, 0, 0), 0)) (by decide +kernel)) rfl hc_z
      replace hc_z := rn_put (am_cur_of (i := (66, 3, .putfield 254, (4, 14, 423), 0)) (by decide +kernel)) (by decide +kernel) hc_z
      replace hc_z := rn_aload_n (am_cur_of (i := (69, 1, .aload_n 0, (0, 0, 0), 0)) (by decide +kernel)) g0_z hc_z
      replace hc_z := rn_iconst (w := 2) (am_cur_of (i := (70, 1, .iconst 2, (0, 0, 0), 0)) (by decide +kernel)) (by decide) hc_z
      replace hc_z := rn_callV (M' := am_m50) (o := 44) (ar := [.int 2]) (rest := []) (L := lv_args 0 [.ref 44, .int 2]) (am_cur_of (i := (71, 3, .invokevirtual 273, (50, 856, 3), 0)) (by decide +kernel)) rfl rfl rfl rfl hc_z
      obtain ⟨r938_z, h939_z, q940_z, hc_z⟩ := hc_z
      obtain ⟨rfl, eh⟩ := rs_hold (np := np) (show rg_v (am_up h 44 14 (.int (op + 1))) 44 13 = np from z1_z) (by omega) q940_z
      subst eh
      replace hc_z : rn _ _ _ _ [] _ _ _ := hc_z
      replace hc_z := rn_aload_n (am_cur_of (i := (74, 1, .aload_n 0, (0, 0, 0), 0)) (by decide +kernel)) g0_z hc_z
      replace hc_z := rn_callV (M' := am_m19) (o := 44) (ar := []) (rest := []) (L := lv_args 0 [.ref 44]) (am_cur_of (i := (75, 3, .invokevirtual 57, (19, 727, 3), 0)) (by decide +kernel)) rfl rfl rfl rfl hc_z
      obtain ⟨r941_z, h942_z, q943_z, hc_z⟩ := hc_z
      have vo := rn_void rfl q943_z
      subst vo
      replace hm_z := rn_aload_n (am_cur_of (i := (0, 1, .aload_n 0, (0, 0, 0), 0)) (by decide +kernel)) g0m hm_z
      replace hm_z := rn_bipush (w := 40) (am_cur_of (i := (1, 2, .bipush 40, (0, 0, 0), 0)) (by decide +kernel)) (by decide) hm_z
      replace hm_z := rn_callV (M' := am_m171) (o := 164) (ar := [.int 40]) (rest := []) (L := lv_args 0 [.ref 164, .int 40]) (am_cur_of (i := (3, 3, .invokevirtual 194, (171, 1715, 3), 0)) (by decide +kernel)) rfl rfl rfl rfl hm_z
      obtain ⟨r944_z, h945_z, q946_z, hm_z⟩ := hm_z
      obtain ⟨rfl, yq946_z⟩ := rp_sgT kc kd q946_z
      subst yq946_z
      replace hm_z : rn _ _ _ _ [.int 1] _ _ _ := hm_z
      replace hm_z := rn_ifF (am_cur_of (i := (6, 3, .ifCond .eq 44, (28, 0, 0), 0)) (by decide +kernel)) (by decide) hm_z
      replace hm_z := rn_aload_n (am_cur_of (i := (9, 1, .aload_n 0, (0, 0, 0), 0)) (by decide +kernel)) g0m hm_z
      replace hm_z := rn_getI (v := op) (am_cur_of (i := (10, 3, .getfield 295, (12, 43, 1427), 0)) (by decide +kernel)) (by decide +kernel) z5_z hm_z
      replace hm_z := rn_bipush (w := 8) (am_cur_of (i := (13, 2, .bipush 8, (0, 0, 0), 0)) (by decide +kernel)) (by decide) hm_z
      replace hm_z := rn_cmp (am_cur_of (i := (15, 3, .if_icmp .ne 9, (12, 0, 0), 0)) (by decide +kernel)) hm_z
      rcases hm_z with ⟨b947_z, hm_z⟩ | ⟨b947_z, hm_z⟩
      · replace b947_z : ¬ op = (8 : Int32) ∧ ¬ op.toInt = (8 : Int32).toInt := b947_z
        replace hm_z := rn_aload_n (am_cur_of (i := (24, 1, .aload_n 0, (0, 0, 0), 0)) (by decide +kernel)) g0m hm_z
        replace hm_z := rn_dup (am_cur_of (i := (25, 1, .dup, (0, 0, 0), 0)) (by decide +kernel)) hm_z
        replace hm_z := rn_getI (v := op) (am_cur_of (i := (26, 3, .getfield 295, (12, 43, 1427), 0)) (by decide +kernel)) (by decide +kernel) z5_z hm_z
        replace hm_z := rn_iconst (w := 1) (am_cur_of (i := (29, 1, .iconst 1, (0, 0, 0), 0)) (by decide +kernel)) (by decide) hm_z
        replace hm_z := rn_iadd (w := op + 1) (am_cur_of (i := (30, 1, .iadd, (0, 0, 0), 0)) (by decide +kernel)) rfl hm_z
        replace hm_z := rn_put (am_cur_of (i := (31, 3, .putfield 295, (12, 43, 1427), 0)) (by decide +kernel)) (by decide +kernel) hm_z
        replace hm_z := rn_aload_n (am_cur_of (i := (34, 1, .aload_n 0, (0, 0, 0), 0)) (by decide +kernel)) g0m hm_z
        replace hm_z := rn_iconst (w := 0) (am_cur_of (i := (35, 1, .iconst 0, (0, 0, 0), 0)) (by decide +kernel)) (by decide) hm_z
        replace hm_z := rn_callV (M' := am_m173) (o := 164) (ar := [.int 0]) (rest := []) (L := lv_args 0 [.ref 164, .int 0]) (am_cur_of (i := (36, 3, .invokevirtual 298, (173, 1723, 3), 0)) (by decide +kernel)) rfl rfl rfl rfl hm_z
        obtain ⟨r948_z, h949_z, q950_z, hm_z⟩ := hm_z
        obtain ⟨rfl, eh⟩ := rs_wf (np := np) (show rg_v (am_up g 164 43 (.int (op + 1))) 164 41 = np from z2_z) q950_z
        subst eh
        replace hm_z : rn _ _ _ _ [] _ _ _ := hm_z
        replace hm_z := rn_aload_n (am_cur_of (i := (39, 1, .aload_n 0, (0, 0, 0), 0)) (by decide +kernel)) g0m hm_z
        replace hm_z := rn_iconst (w := 1) (am_cur_of (i := (40, 1, .iconst 1, (0, 0, 0), 0)) (by decide +kernel)) (by decide) hm_z
        replace hm_z := rn_put (am_cur_of (i := (41, 3, .putfield 302, (12, 46, 1430), 0)) (by decide +kernel)) (by decide +kernel) hm_z
        replace hm_z := rn_aload_n (am_cur_of (i := (44, 1, .aload_n 0, (0, 0, 0), 0)) (by decide +kernel)) g0m hm_z
        replace hm_z := rn_callV (M' := am_m151) (o := 164) (ar := []) (rest := []) (L := lv_args 0 [.ref 164]) (am_cur_of (i := (45, 3, .invokevirtual 191, (151, 1636, 3), 0)) (by decide +kernel)) rfl rfl rfl rfl hm_z
        obtain ⟨r951_z, h952_z, q953_z, hm_z⟩ := hm_z
        have vo := rn_void rfl q953_z
        subst vo
        have FC : ab_Fr (rz_MC2.drop 1) h (am_up (am_up (am_up h 44 14 (.int (op + 1))) 47 np.toNatClampNeg (.int 2)) 44 13 (.int (np + 1))) := ab_Fr_up rfl (ab_Fr_up rfl (ab_Fr_up rfl ab_Fr_refl))
        have FC' : ab_Fr rz_MC2 h (am_up (am_up (am_up h 44 14 (.int (op + 1))) 47 np.toNatClampNeg (.int 2)) 44 13 (.int (np + 1))) := ab_Fr_sub (by decide) FC
        have FM : ab_Fr rz_MM g (am_up (am_up (am_up (am_up g 164 43 (.int (op + 1))) 184 np.toNatClampNeg (.int 0)) 164 41 (.int (np + 1))) 164 46 (.int 1)) := ab_Fr_up rfl (ab_Fr_up rfl (ab_Fr_up rfl (ab_Fr_up rfl ab_Fr_refl)))
        obtain ⟨-, -, x2_z, p2_z, R2, le2_z, t5_z, t6_z⟩ := pr_tok (rz_q02 (rq_0 Rk) FC' FM) q943_z q953_z
        have A2 := rp_x (by decide) (rz_p2 A FC' FM ((show rg_v (am_up (am_up (am_up h 44 14 (.int (op + 1))) 47 np.toNatClampNeg (.int 2)) 44 13 (.int (np + 1))) 11 0 = kn from (show rg_v (am_up (am_up (am_up h 44 14 (.int (op + 1))) 47 np.toNatClampNeg (.int 2)) 44 13 (.int (np + 1))) 11 0 = kn from ekn)).trans (show rg_v (am_up (am_up (am_up (am_up g 164 43 (.int (op + 1))) 184 np.toNatClampNeg (.int 0)) 164 41 (.int (np + 1))) 164 46 (.int 1)) 164 44 = kn from (show rg_v (am_up (am_up (am_up (am_up g 164 43 (.int (op + 1))) 184 np.toNatClampNeg (.int 0)) 164 41 (.int (np + 1))) 164 46 (.int 1)) 164 44 = kn from nk1_z.symm)).symm) (by rw [show rg_v (am_up (am_up (am_up h 44 14 (.int (op + 1))) 47 np.toNatClampNeg (.int 2)) 44 13 (.int (np + 1))) 11 0 = kn from (show rg_v (am_up (am_up (am_up h 44 14 (.int (op + 1))) 47 np.toNatClampNeg (.int 2)) 44 13 (.int (np + 1))) 11 0 = kn from ekn)]; omega) (by rw [show rg_v (am_up (am_up (am_up h 44 14 (.int (op + 1))) 47 np.toNatClampNeg (.int 2)) 44 13 (.int (np + 1))) 11 0 = kn from (show rg_v (am_up (am_up (am_up h 44 14 (.int (op + 1))) 47 np.toNatClampNeg (.int 2)) 44 13 (.int (np + 1))) 11 0 = kn from ekn)]; omega)) (rx_C_f t5_z) (rx_M_f t6_z)
        have B2 := rp_tk (rz_t2 B FC FM) (rg_v_fr t5_z (by decide)) (fun k => rg_v_fr t6_z (rg_v_in (by decide) k)) (rx_M_f t6_z)
        have Z2 : rs 2 (am_up (am_up (am_up h 44 14 (.int (op + 1))) 47 np.toNatClampNeg (.int 2)) 44 13 (.int (np + 1))) (am_up (am_up (am_up (am_up g 164 43 (.int (op + 1))) 184 np.toNatClampNeg (.int 0)) 164 41 (.int (np + 1))) 164 46 (.int 1)) := rs_push (o := 2) (k := 0) (np := np) (op := op) Zk (by unfold rs_o; decide) z1_z z4_z (show rg_v (am_up (am_up (am_up h 44 14 (.int (op + 1))) 47 np.toNatClampNeg (.int 2)) 44 13 (.int (np + 1))) 44 13 = np + 1 from (show rg_v (am_up (am_up (am_up h 44 14 (.int (op + 1))) 47 np.toNatClampNeg (.int 2)) 44 13 (.int (np + 1))) 44 13 = np + 1 from rfl)) (show rg_v (am_up (am_up (am_up (am_up g 164 43 (.int (op + 1))) 184 np.toNatClampNeg (.int 0)) 164 41 (.int (np + 1))) 164 46 (.int 1)) 164 41 = np + 1 from (show rg_v (am_up (am_up (am_up (am_up g 164 43 (.int (op + 1))) 184 np.toNatClampNeg (.int 0)) 164 41 (.int (np + 1))) 164 46 (.int 1)) 164 41 = np + 1 from rfl)) (fun i hi_z => (show rg_v (am_up (am_up (am_up h 44 14 (.int (op + 1))) 47 np.toNatClampNeg (.int 2)) 44 13 (.int (np + 1))) 47 i = rg_v h 47 i from rg_v_other (h := h) (o := 47) (k := np.toNatClampNeg) (v := .int 2) (by omega))) (show rg_v (am_up (am_up (am_up h 44 14 (.int (op + 1))) 47 np.toNatClampNeg (.int 2)) 44 13 (.int (np + 1))) 47 np.toNatClampNeg = 2 from rg_v_self (h := h) (o := 47) (k := np.toNatClampNeg)) (fun i hi_z => (show rg_v (am_up (am_up (am_up (am_up g 164 43 (.int (op + 1))) 184 np.toNatClampNeg (.int 0)) 164 41 (.int (np + 1))) 164 46 (.int 1)) 184 i = rg_v g 184 i from rg_v_other (h := g) (o := 184) (k := np.toNatClampNeg) (v := .int 0) (by omega))) (show rg_v (am_up (am_up (am_up (am_up g 164 43 (.int (op + 1))) 184 np.toNatClampNeg (.int 0)) 164 41 (.int (np + 1))) 164 46 (.int 1)) 184 np.toNatClampNeg = 0 from rg_v_self (h := g) (o := 184) (k := np.toNatClampNeg)) (show (rg_v h 11 0).toInt ≤ 64 by rw [ekn]; exact nk3_z) (Or.inr ⟨rfl, by omega, (show rg_v (am_up (am_up (am_up h 44 14 (.int (op + 1))) 47 np.toNatClampNeg (.int 2)) 44 13 (.int (np + 1))) 44 14 = op + 1 from (show rg_v (am_up (am_up (am_up h 44 14 (.int (op + 1))) 47 np.toNatClampNeg (.int 2)) 44 13 (.int (np + 1))) 44 14 = op + 1 from rfl)), (show rg_v (am_up (am_up (am_up (am_up g 164 43 (.int (op + 1))) 184 np.toNatClampNeg (.int 0)) 164 41 (.int (np + 1))) 164 46 (.int 1)) 164 43 = op + 1 from (show rg_v (am_up (am_up (am_up (am_up g 164 43 (.int (op + 1))) 184 np.toNatClampNeg (.int 0)) 164 41 (.int (np + 1))) 164 46 (.int 1)) 164 43 = op + 1 from rfl)), rfl⟩)
        replace Z2 := rs_fr (by decide) Z2 t5_z t6_z
        have e45_z : rg_v h952_z 164 45 = 1 := (rg_v_fr t6_z (by decide)).trans (show rg_v (am_up (am_up (am_up (am_up g 164 43 (.int (op + 1))) 184 np.toNatClampNeg (.int 0)) 164 41 (.int (np + 1))) 164 46 (.int 1)) 164 45 = 1 from (show rg_v (am_up (am_up (am_up (am_up g 164 43 (.int (op + 1))) 184 np.toNatClampNeg (.int 0)) 164 41 (.int (np + 1))) 164 46 (.int 1)) 164 45 = 1 from w1_z))
        have e46_z : rg_v h952_z 164 46 = 1 := (rg_v_fr t6_z (by decide)).trans (show rg_v (am_up (am_up (am_up (am_up g 164 43 (.int (op + 1))) 184 np.toNatClampNeg (.int 0)) 164 41 (.int (np + 1))) 164 46 (.int 1)) 164 46 = 1 from (show rg_v (am_up (am_up (am_up (am_up g 164 43 (.int (op + 1))) 184 np.toNatClampNeg (.int 0)) 164 41 (.int (np + 1))) 164 46 (.int 1)) 164 46 = 1 from rfl))
        replace hm_z : rn _ _ _ _ [] _ _ _ := hm_z
        replace hc_z : rn _ _ _ _ [] _ _ _ := hc_z
        replace hc_z := rn_iconst (w := 0) (am_cur_of (i := (78, 1, .iconst 0, (0, 0, 0), 0)) (by decide +kernel)) (by decide) hc_z
        replace hc_z := rn_iret (am_cur_of (i := (79, 1, .ireturn, (0, 0, 0), 0)) (by decide +kernel)) hc_z
        obtain ⟨e954_z, e955_z⟩ := hc_z
        replace hm_z := rn_iconst (w := 1) (am_cur_of (i := (48, 1, .iconst 1, (0, 0, 0), 0)) (by decide +kernel)) (by decide) hm_z
        replace hm_z := rn_iret (am_cur_of (i := (49, 1, .ireturn, (0, 0, 0), 0)) (by decide +kernel)) hm_z
        obtain ⟨e956_z, e957_z⟩ := hm_z
        subst e954_z e955_z e956_z e957_z
        exact Or.inl ⟨_, x2_z, p2_z, rfl, rfl, R2, le2_z, A2, B2, Z2, Or.inl ⟨rfl, e45_z, e46_z⟩⟩
      · replace b947_z : op = (8 : Int32) ∧ op.toInt = (8 : Int32).toInt := b947_z
        omega
    · replace b937_z : (8 : Int32).toInt ≤ op.toInt := b937_z
      replace hc_z := rn_aload_n (am_cur_of (i := (54, 1, .aload_n 0, (0, 0, 0), 0)) (by decide +kernel)) g0_z hc_z
      replace hc_z := rn_iconst (w := 2) (am_cur_of (i := (55, 1, .iconst 2, (0, 0, 0), 0)) (by decide +kernel)) (by decide) hc_z
      replace hc_z := rn_callV (M' := am_m29) (o := 44) (ar := [.int 2]) (rest := []) (L := lv_args 0 [.ref 44, .int 2]) (am_cur_of (i := (56, 3, .invokevirtual 108, (29, 769, 3), 0)) (by decide +kernel)) rfl rfl rfl rfl hc_z
      obtain ⟨r958_z, h959_z, q960_z, hc_z⟩ := hc_z
      obtain ⟨rfl, yq960_z⟩ := rp_fail R4 q960_z
      subst yq960_z
      replace hc_z : rn _ _ _ _ [] _ _ _ := hc_z
      have K := rs_stick (w := 2) (q := p) (a := 51) (by decide) (by decide) rfl (by decide) rfl (show rg_v (am_up (am_up h 44 1 (.int 2)) 44 2 (.int (rg_v h 44 9))) 44 2 = p from R5) hc_z
      replace hm_z := rn_aload_n (am_cur_of (i := (0, 1, .aload_n 0, (0, 0, 0), 0)) (by decide +kernel)) g0m hm_z
      replace hm_z := rn_bipush (w := 40) (am_cur_of (i := (1, 2, .bipush 40, (0, 0, 0), 0)) (by decide +kernel)) (by decide) hm_z
      replace hm_z := rn_callV (M' := am_m171) (o := 164) (ar := [.int 40]) (rest := []) (L := lv_args 0 [.ref 164, .int 40]) (am_cur_of (i := (3, 3, .invokevirtual 194, (171, 1715, 3), 0)) (by decide +kernel)) rfl rfl rfl rfl hm_z
      obtain ⟨r961_z, h962_z, q963_z, hm_z⟩ := hm_z
      obtain ⟨rfl, yq963_z⟩ := rp_sgT kc kd q963_z
      subst yq963_z
      replace hm_z : rn _ _ _ _ [.int 1] _ _ _ := hm_z
      replace hm_z := rn_ifF (am_cur_of (i := (6, 3, .ifCond .eq 44, (28, 0, 0), 0)) (by decide +kernel)) (by decide) hm_z
      replace hm_z := rn_aload_n (am_cur_of (i := (9, 1, .aload_n 0, (0, 0, 0), 0)) (by decide +kernel)) g0m hm_z
      replace hm_z := rn_getI (v := op) (am_cur_of (i := (10, 3, .getfield 295, (12, 43, 1427), 0)) (by decide +kernel)) (by decide +kernel) z5_z hm_z
      replace hm_z := rn_bipush (w := 8) (am_cur_of (i := (13, 2, .bipush 8, (0, 0, 0), 0)) (by decide +kernel)) (by decide) hm_z
      replace hm_z := rn_cmp (am_cur_of (i := (15, 3, .if_icmp .ne 9, (12, 0, 0), 0)) (by decide +kernel)) hm_z
      rcases hm_z with ⟨b964_z, hm_z⟩ | ⟨b964_z, hm_z⟩
      · replace b964_z : ¬ op = (8 : Int32) ∧ ¬ op.toInt = (8 : Int32).toInt := b964_z
        omega
      · replace b964_z : op = (8 : Int32) ∧ op.toInt = (8 : Int32).toInt := b964_z
        replace hm_z := rn_aload_n (am_cur_of (i := (18, 1, .aload_n 0, (0, 0, 0), 0)) (by decide +kernel)) g0m hm_z
        replace hm_z := rn_iconst (w := 2) (am_cur_of (i := (19, 1, .iconst 2, (0, 0, 0), 0)) (by decide +kernel)) (by decide) hm_z
        replace hm_z := rn_callV (M' := am_m158) (o := 164) (ar := [.int 2]) (rest := []) (L := lv_args 0 [.ref 164, .int 2]) (am_cur_of (i := (20, 3, .invokevirtual 181, (158, 1665, 3), 0)) (by decide +kernel)) rfl rfl rfl rfl hm_z
        obtain ⟨r965_z, h966_z, q967_z, hm_z⟩ := hm_z
        obtain ⟨rfl, yq967_z⟩ := rp_wrong q967_z
        subst yq967_z
        replace hm_z : rn _ _ _ _ [.int 0] _ _ _ := hm_z
        replace hm_z := rn_iret (am_cur_of (i := (23, 1, .ireturn, (0, 0, 0), 0)) (by decide +kernel)) hm_z
        obtain ⟨e968_z, e969_z⟩ := hm_z
        subst e968_z e969_z
        exact (Or.inr ⟨rfl, 2, by decide, K.1, K.2, rfl, R6⟩)
  · have g0_z : am_get (lv_args 0 [.ref 44, .int 0]) 0 = some (.ref 44) := rfl
    have g1_z : am_get (lv_args 0 [.ref 44, .int 0]) 1 = some (.int 0) := rfl
    have g0m : am_get (lv_args 0 [.ref 164]) 0 = some (.ref 164) := rfl
    have Rk := R
    have Zk := Z
    obtain ⟨⟨c1_z, c2_z, c3_z, c4_z, c5_z, c6_z, c7_z, c8_z⟩, ⟨m2_z, m3_z, m4_z, m5_z, m6_z, m7_z, m8_z⟩, R3, R4, R5, R6, R7, R8, R9, R10⟩ := (R : rq T S x p 2 h g)
    obtain ⟨np, op, z1_z, z2_z, z3_z, z4_z, z5_z, z6_z, z7_z, z8_z, z9_z, z10_z⟩ := (Z : rs 2 h g)
    obtain ⟨nk1_z, nk2_z, nk3_z⟩ := A.2.2.2.2.2.1
    replace nk1_z : rg_v h 11 0 = rg_v g 164 44 := nk1_z
    replace nk2_z : 0 ≤ (rg_v h 11 0).toInt := nk2_z
    replace nk3_z : (rg_v h 11 0).toInt ≤ 64 := nk3_z
    replace z8_z : np.toInt ≤ (rg_v h 11 0).toInt + op.toInt := z8_z
    obtain ⟨kn, ekn⟩ : ∃ v, rg_v h 11 0 = v := ⟨_, rfl⟩
    rw [ekn] at nk1_z nk2_z nk3_z z8_z
    have e9_z := rt_c1 (x := kn) (by omega) (by omega)
    replace hc_z := rn_aload_n (am_cur_of (i := (0, 1, .aload_n 0, (0, 0, 0), 0)) (by decide +kernel)) g0_z hc_z
    replace hc_z := rn_getI (v := 5) (am_cur_of (i := (1, 3, .getfield 60, (4, 10, 419), 0)) (by decide +kernel)) (by decide +kernel) ka hc_z
    replace hc_z := rn_bipush (w := 6) (am_cur_of (i := (4, 2, .bipush 6, (0, 0, 0), 0)) (by decide +kernel)) (by decide) hc_z
    replace hc_z := rn_cmpT (am_cur_of (i := (6, 3, .if_icmp .ne 30, (19, 0, 0), 0)) (by decide +kernel)) (by decide) hc_z
    replace hc_z := rn_aload_n (am_cur_of (i := (36, 1, .aload_n 0, (0, 0, 0), 0)) (by decide +kernel)) g0_z hc_z
    replace hc_z := rn_bipush (w := 40) (am_cur_of (i := (37, 2, .bipush 40, (0, 0, 0), 0)) (by decide +kernel)) (by decide) hc_z
    replace hc_z := rn_callV (M' := am_m45) (o := 44) (ar := [.int 40]) (rest := []) (L := lv_args 0 [.ref 44, .int 40]) (am_cur_of (i := (39, 3, .invokevirtual 105, (45, 834, 3), 0)) (by decide +kernel)) rfl rfl rfl rfl hc_z
    obtain ⟨r970_z, h971_z, q972_z, hc_z⟩ := hc_z
    obtain ⟨rfl, yq972_z⟩ := rp_mkN (fun q => absurd (Eq.trans (Eq.symm kb) q.2) (by decide)) q972_z
    subst yq972_z
    replace hc_z : rn _ _ _ _ [.int 0] _ _ _ := hc_z
    replace hc_z := rn_ifT (am_cur_of (i := (42, 3, .ifCond .eq 38, (43, 0, 0), 0)) (by decide +kernel)) (by decide) hc_z
    replace hc_z := rn_aload_n (am_cur_of (i := (80, 1, .aload_n 0, (0, 0, 0), 0)) (by decide +kernel)) g0_z hc_z
    replace hc_z := rn_getI (v := 5) (am_cur_of (i := (81, 3, .getfield 60, (4, 10, 419), 0)) (by decide +kernel)) (by decide +kernel) ka hc_z
    replace hc_z := rn_iconst (w := 4) (am_cur_of (i := (84, 1, .iconst 4, (0, 0, 0), 0)) (by decide +kernel)) (by decide) hc_z
    replace hc_z := rn_cmpT (am_cur_of (i := (85, 3, .if_icmp .ne 40, (64, 0, 0), 0)) (by decide +kernel)) (by decide) hc_z
    replace hc_z := rn_aload_n (am_cur_of (i := (125, 1, .aload_n 0, (0, 0, 0), 0)) (by decide +kernel)) g0_z hc_z
    replace hc_z := rn_getI (v := 5) (am_cur_of (i := (126, 3, .getfield 60, (4, 10, 419), 0)) (by decide +kernel)) (by decide +kernel) ka hc_z
    replace hc_z := rn_iconst (w := 2) (am_cur_of (i := (129, 1, .iconst 2, (0, 0, 0), 0)) (by decide +kernel)) (by decide) hc_z
    replace hc_z := rn_cmpT (am_cur_of (i := (130, 3, .if_icmp .ne 37, (84, 0, 0), 0)) (by decide +kernel)) (by decide) hc_z
    replace hc_z := rn_aload_n (am_cur_of (i := (167, 1, .aload_n 0, (0, 0, 0), 0)) (by decide +kernel)) g0_z hc_z
    replace hc_z := rn_iconst (w := 1) (am_cur_of (i := (168, 1, .iconst 1, (0, 0, 0), 0)) (by decide +kernel)) (by decide) hc_z
    replace hc_z := rn_callV (M' := am_m29) (o := 44) (ar := [.int 1]) (rest := []) (L := lv_args 0 [.ref 44, .int 1]) (am_cur_of (i := (169, 3, .invokevirtual 108, (29, 769, 3), 0)) (by decide +kernel)) rfl rfl rfl rfl hc_z
    obtain ⟨r973_z, h974_z, q975_z, hc_z⟩ := hc_z
    obtain ⟨rfl, yq975_z⟩ := rp_fail R4 q975_z
    subst yq975_z
    replace hc_z : rn _ _ _ _ [] _ _ _ := hc_z
    have K := rs_stick (w := 1) (q := p) (a := 51) (by decide) (by decide) rfl (by decide) rfl (show rg_v (am_up (am_up h 44 1 (.int 1)) 44 2 (.int (rg_v h 44 9))) 44 2 = p from R5) hc_z
    replace hm_z := rn_aload_n (am_cur_of (i := (0, 1, .aload_n 0, (0, 0, 0), 0)) (by decide +kernel)) g0m hm_z
    replace hm_z := rn_bipush (w := 40) (am_cur_of (i := (1, 2, .bipush 40, (0, 0, 0), 0)) (by decide +kernel)) (by decide) hm_z
    replace hm_z := rn_callV (M' := am_m171) (o := 164) (ar := [.int 40]) (rest := []) (L := lv_args 0 [.ref 164, .int 40]) (am_cur_of (i := (3, 3, .invokevirtual 194, (171, 1715, 3), 0)) (by decide +kernel)) rfl rfl rfl rfl hm_z
    obtain ⟨r976_z, h977_z, q978_z, hm_z⟩ := hm_z
    obtain ⟨rfl, yq978_z⟩ := rp_sgN (fun q => absurd (Eq.trans (Eq.symm kd) q.2) (by decide)) q978_z
    subst yq978_z
    replace hm_z : rn _ _ _ _ [.int 0] _ _ _ := hm_z
    replace hm_z := rn_ifT (am_cur_of (i := (6, 3, .ifCond .eq 44, (28, 0, 0), 0)) (by decide +kernel)) (by decide) hm_z
    replace hm_z := rn_aload_n (am_cur_of (i := (50, 1, .aload_n 0, (0, 0, 0), 0)) (by decide +kernel)) g0m hm_z
    replace hm_z := rn_bipush (w := 14) (am_cur_of (i := (51, 2, .bipush 14, (0, 0, 0), 0)) (by decide +kernel)) (by decide) hm_z
    replace hm_z := rn_callV (M' := am_m174) (o := 164) (ar := [.int 14]) (rest := []) (L := lv_args 0 [.ref 164, .int 14]) (am_cur_of (i := (53, 3, .invokevirtual 306, (174, 1727, 3), 0)) (by decide +kernel)) rfl rfl rfl rfl hm_z
    obtain ⟨r979_z, h980_z, q981_z, hm_z⟩ := hm_z
    obtain ⟨rfl, yq981_z⟩ := rp_kyN (fun q => absurd (Eq.trans (Eq.symm kc) q.1) (by decide)) q981_z
    subst yq981_z
    replace hm_z : rn _ _ _ _ [.int 0] _ _ _ := hm_z
    replace hm_z := rn_ifT (am_cur_of (i := (56, 3, .ifCond .eq 30, (47, 0, 0), 0)) (by decide +kernel)) (by decide) hm_z
    replace hm_z := rn_aload_n (am_cur_of (i := (86, 1, .aload_n 0, (0, 0, 0), 0)) (by decide +kernel)) g0m hm_z
    replace hm_z := rn_callV (M' := am_m176) (o := 164) (ar := []) (rest := []) (L := lv_args 0 [.ref 164]) (am_cur_of (i := (87, 3, .invokevirtual 312, (176, 1735, 3), 0)) (by decide +kernel)) rfl rfl rfl rfl hm_z
    obtain ⟨r982_z, h983_z, q984_z, hm_z⟩ := hm_z
    obtain ⟨rfl, yq984_z⟩ := rp_nm (c := 4) (d := 41) kc kd q984_z
    replace yq984_z := yq984_z.symm
    subst yq984_z
    rw [show rp_nmf 4 41 = (-1) from by unfold rp_nmf; rw [if_neg (by decide)]] at hm_z
    replace hm_z : rn _ _ _ _ [.int (-1)] _ _ _ := hm_z
    replace hm_z := rn_istore_n (am_cur_of (i := (90, 1, .istore_n 1, (0, 0, 0), 0)) (by decide +kernel)) hm_z
    obtain ⟨_, s985_z, s986_z, g1m, hm_z⟩ := hm_z
    replace g0m := s985_z 0 _ (by decide) rfl g0m
    clear s985_z s986_z
    replace hm_z := rn_iload_n (am_cur_of (i := (91, 1, .iload_n 1, (0, 0, 0), 0)) (by decide +kernel)) g1m hm_z
    replace hm_z := rn_ifF (am_cur_of (i := (92, 3, .ifCond .ge 17, (60, 0, 0), 0)) (by decide +kernel)) (by decide) hm_z
    replace hm_z := rn_aload_n (am_cur_of (i := (95, 1, .aload_n 0, (0, 0, 0), 0)) (by decide +kernel)) g0m hm_z
    replace hm_z := rn_getI (v := 4) (am_cur_of (i := (96, 3, .getfield 157, (12, 8, 1392), 0)) (by decide +kernel)) (by decide +kernel) kc hm_z
    replace hm_z := rn_iconst (w := 3) (am_cur_of (i := (99, 1, .iconst 3, (0, 0, 0), 0)) (by decide +kernel)) (by decide) hm_z
    replace hm_z := rn_cmpF (am_cur_of (i := (100, 3, .if_icmp .eq 9, (60, 0, 0), 0)) (by decide +kernel)) (by decide) hm_z
    replace hm_z := rn_aload_n (am_cur_of (i := (103, 1, .aload_n 0, (0, 0, 0), 0)) (by decide +kernel)) g0m hm_z
    replace hm_z := rn_iconst (w := 1) (am_cur_of (i := (104, 1, .iconst 1, (0, 0, 0), 0)) (by decide +kernel)) (by decide) hm_z
    replace hm_z := rn_callV (M' := am_m158) (o := 164) (ar := [.int 1]) (rest := []) (L := lv_args 0 [.ref 164, .int 1]) (am_cur_of (i := (105, 3, .invokevirtual 181, (158, 1665, 3), 0)) (by decide +kernel)) rfl rfl rfl rfl hm_z
    obtain ⟨r987_z, h988_z, q989_z, hm_z⟩ := hm_z
    obtain ⟨rfl, yq989_z⟩ := rp_wrong q989_z
    subst yq989_z
    replace hm_z : rn _ _ _ _ [.int 0] _ _ _ := hm_z
    replace hm_z := rn_iret (am_cur_of (i := (108, 1, .ireturn, (0, 0, 0), 0)) (by decide +kernel)) hm_z
    obtain ⟨e990_z, e991_z⟩ := hm_z
    subst e990_z e991_z
    exact (Or.inr ⟨rfl, 1, by decide, K.1, K.2, rfl, R6⟩)
  · have g0_z : am_get (lv_args 0 [.ref 44, .int 0]) 0 = some (.ref 44) := rfl
    have g1_z : am_get (lv_args 0 [.ref 44, .int 0]) 1 = some (.int 0) := rfl
    have g0m : am_get (lv_args 0 [.ref 164]) 0 = some (.ref 164) := rfl
    have Rk := R
    have Zk := Z
    obtain ⟨⟨c1_z, c2_z, c3_z, c4_z, c5_z, c6_z, c7_z, c8_z⟩, ⟨m2_z, m3_z, m4_z, m5_z, m6_z, m7_z, m8_z⟩, R3, R4, R5, R6, R7, R8, R9, R10⟩ := (R : rq T S x p 2 h g)
    obtain ⟨np, op, z1_z, z2_z, z3_z, z4_z, z5_z, z6_z, z7_z, z8_z, z9_z, z10_z⟩ := (Z : rs 2 h g)
    obtain ⟨nk1_z, nk2_z, nk3_z⟩ := A.2.2.2.2.2.1
    replace nk1_z : rg_v h 11 0 = rg_v g 164 44 := nk1_z
    replace nk2_z : 0 ≤ (rg_v h 11 0).toInt := nk2_z
    replace nk3_z : (rg_v h 11 0).toInt ≤ 64 := nk3_z
    replace z8_z : np.toInt ≤ (rg_v h 11 0).toInt + op.toInt := z8_z
    obtain ⟨kn, ekn⟩ : ∃ v, rg_v h 11 0 = v := ⟨_, rfl⟩
    rw [ekn] at nk1_z nk2_z nk3_z z8_z
    have e9_z := rt_c1 (x := kn) (by omega) (by omega)
    replace hc_z := rn_aload_n (am_cur_of (i := (0, 1, .aload_n 0, (0, 0, 0), 0)) (by decide +kernel)) g0_z hc_z
    replace hc_z := rn_getI (v := 6) (am_cur_of (i := (1, 3, .getfield 60, (4, 10, 419), 0)) (by decide +kernel)) (by decide +kernel) ka hc_z
    replace hc_z := rn_bipush (w := 6) (am_cur_of (i := (4, 2, .bipush 6, (0, 0, 0), 0)) (by decide +kernel)) (by decide) hc_z
    replace hc_z := rn_cmpF (am_cur_of (i := (6, 3, .if_icmp .ne 30, (19, 0, 0), 0)) (by decide +kernel)) (by decide) hc_z
    replace hc_z := rn_aload_n (am_cur_of (i := (9, 1, .aload_n 0, (0, 0, 0), 0)) (by decide +kernel)) g0_z hc_z
    replace hc_z := rn_getI (v := 3) (am_cur_of (i := (10, 3, .getfield 91, (4, 11, 420), 0)) (by decide +kernel)) (by decide +kernel) kb hc_z
    replace hc_z := rn_iconst (w := 5) (am_cur_of (i := (13, 1, .iconst 5, (0, 0, 0), 0)) (by decide +kernel)) (by decide) hc_z
    replace hc_z := rn_cmpT (am_cur_of (i := (14, 3, .if_icmp .ne 22, (19, 0, 0), 0)) (by decide +kernel)) (by decide) hc_z
    replace hc_z := rn_aload_n (am_cur_of (i := (36, 1, .aload_n 0, (0, 0, 0), 0)) (by decide +kernel)) g0_z hc_z
    replace hc_z := rn_bipush (w := 40) (am_cur_of (i := (37, 2, .bipush 40, (0, 0, 0), 0)) (by decide +kernel)) (by decide) hc_z
    replace hc_z := rn_callV (M' := am_m45) (o := 44) (ar := [.int 40]) (rest := []) (L := lv_args 0 [.ref 44, .int 40]) (am_cur_of (i := (39, 3, .invokevirtual 105, (45, 834, 3), 0)) (by decide +kernel)) rfl rfl rfl rfl hc_z
    obtain ⟨r992_z, h993_z, q994_z, hc_z⟩ := hc_z
    obtain ⟨rfl, yq994_z⟩ := rp_mkN (fun q => absurd (Eq.trans (Eq.symm ka) q.1) (by decide)) q994_z
    subst yq994_z
    replace hc_z : rn _ _ _ _ [.int 0] _ _ _ := hc_z
    replace hc_z := rn_ifT (am_cur_of (i := (42, 3, .ifCond .eq 38, (43, 0, 0), 0)) (by decide +kernel)) (by decide) hc_z
    replace hc_z := rn_aload_n (am_cur_of (i := (80, 1, .aload_n 0, (0, 0, 0), 0)) (by decide +kernel)) g0_z hc_z
    replace hc_z := rn_getI (v := 6) (am_cur_of (i := (81, 3, .getfield 60, (4, 10, 419), 0)) (by decide +kernel)) (by decide +kernel) ka hc_z
    replace hc_z := rn_iconst (w := 4) (am_cur_of (i := (84, 1, .iconst 4, (0, 0, 0), 0)) (by decide +kernel)) (by decide) hc_z
    replace hc_z := rn_cmpT (am_cur_of (i := (85, 3, .if_icmp .ne 40, (64, 0, 0), 0)) (by decide +kernel)) (by decide) hc_z
    replace hc_z := rn_aload_n (am_cur_of (i := (125, 1, .aload_n 0, (0, 0, 0), 0)) (by decide +kernel)) g0_z hc_z
    replace hc_z := rn_getI (v := 6) (am_cur_of (i := (126, 3, .getfield 60, (4, 10, 419), 0)) (by decide +kernel)) (by decide +kernel) ka hc_z
    replace hc_z := rn_iconst (w := 2) (am_cur_of (i := (129, 1, .iconst 2, (0, 0, 0), 0)) (by decide +kernel)) (by decide) hc_z
    replace hc_z := rn_cmpT (am_cur_of (i := (130, 3, .if_icmp .ne 37, (84, 0, 0), 0)) (by decide +kernel)) (by decide) hc_z
    replace hc_z := rn_aload_n (am_cur_of (i := (167, 1, .aload_n 0, (0, 0, 0), 0)) (by decide +kernel)) g0_z hc_z
    replace hc_z := rn_iconst (w := 1) (am_cur_of (i := (168, 1, .iconst 1, (0, 0, 0), 0)) (by decide +kernel)) (by decide) hc_z
    replace hc_z := rn_callV (M' := am_m29) (o := 44) (ar := [.int 1]) (rest := []) (L := lv_args 0 [.ref 44, .int 1]) (am_cur_of (i := (169, 3, .invokevirtual 108, (29, 769, 3), 0)) (by decide +kernel)) rfl rfl rfl rfl hc_z
    obtain ⟨r995_z, h996_z, q997_z, hc_z⟩ := hc_z
    obtain ⟨rfl, yq997_z⟩ := rp_fail R4 q997_z
    subst yq997_z
    replace hc_z : rn _ _ _ _ [] _ _ _ := hc_z
    have K := rs_stick (w := 1) (q := p) (a := 51) (by decide) (by decide) rfl (by decide) rfl (show rg_v (am_up (am_up h 44 1 (.int 1)) 44 2 (.int (rg_v h 44 9))) 44 2 = p from R5) hc_z
    replace hm_z := rn_aload_n (am_cur_of (i := (0, 1, .aload_n 0, (0, 0, 0), 0)) (by decide +kernel)) g0m hm_z
    replace hm_z := rn_bipush (w := 40) (am_cur_of (i := (1, 2, .bipush 40, (0, 0, 0), 0)) (by decide +kernel)) (by decide) hm_z
    replace hm_z := rn_callV (M' := am_m171) (o := 164) (ar := [.int 40]) (rest := []) (L := lv_args 0 [.ref 164, .int 40]) (am_cur_of (i := (3, 3, .invokevirtual 194, (171, 1715, 3), 0)) (by decide +kernel)) rfl rfl rfl rfl hm_z
    obtain ⟨r998_z, h999_z, q1000_z, hm_z⟩ := hm_z
    obtain ⟨rfl, yq1000_z⟩ := rp_sgN (fun q => absurd (Eq.trans (Eq.symm kc) q.1) (by decide)) q1000_z
    subst yq1000_z
    replace hm_z : rn _ _ _ _ [.int 0] _ _ _ := hm_z
    replace hm_z := rn_ifT (am_cur_of (i := (6, 3, .ifCond .eq 44, (28, 0, 0), 0)) (by decide +kernel)) (by decide) hm_z
    replace hm_z := rn_aload_n (am_cur_of (i := (50, 1, .aload_n 0, (0, 0, 0), 0)) (by decide +kernel)) g0m hm_z
    replace hm_z := rn_bipush (w := 14) (am_cur_of (i := (51, 2, .bipush 14, (0, 0, 0), 0)) (by decide +kernel)) (by decide) hm_z
    replace hm_z := rn_callV (M' := am_m174) (o := 164) (ar := [.int 14]) (rest := []) (L := lv_args 0 [.ref 164, .int 14]) (am_cur_of (i := (53, 3, .invokevirtual 306, (174, 1727, 3), 0)) (by decide +kernel)) rfl rfl rfl rfl hm_z
    obtain ⟨r1001_z, h1002_z, q1003_z, hm_z⟩ := hm_z
    obtain ⟨rfl, yq1003_z⟩ := rp_kyN (fun q => absurd (Eq.trans (Eq.symm kd) q.2) (by decide)) q1003_z
    subst yq1003_z
    replace hm_z : rn _ _ _ _ [.int 0] _ _ _ := hm_z
    replace hm_z := rn_ifT (am_cur_of (i := (56, 3, .ifCond .eq 30, (47, 0, 0), 0)) (by decide +kernel)) (by decide) hm_z
    replace hm_z := rn_aload_n (am_cur_of (i := (86, 1, .aload_n 0, (0, 0, 0), 0)) (by decide +kernel)) g0m hm_z
    replace hm_z := rn_callV (M' := am_m176) (o := 164) (ar := []) (rest := []) (L := lv_args 0 [.ref 164]) (am_cur_of (i := (87, 3, .invokevirtual 312, (176, 1735, 3), 0)) (by decide +kernel)) rfl rfl rfl rfl hm_z
    obtain ⟨r1004_z, h1005_z, q1006_z, hm_z⟩ := hm_z
    obtain ⟨rfl, yq1006_z⟩ := rp_nm (c := 1) (d := 13) kc kd q1006_z
    replace yq1006_z := yq1006_z.symm
    subst yq1006_z
    rw [show rp_nmf 1 13 = (-1) from by decide] at hm_z
    replace hm_z : rn _ _ _ _ [.int (-1)] _ _ _ := hm_z
    replace hm_z := rn_istore_n (am_cur_of (i := (90, 1, .istore_n 1, (0, 0, 0), 0)) (by decide +kernel)) hm_z
    obtain ⟨_, s1007_z, s1008_z, g1m, hm_z⟩ := hm_z
    replace g0m := s1007_z 0 _ (by decide) rfl g0m
    clear s1007_z s1008_z
    replace hm_z := rn_iload_n (am_cur_of (i := (91, 1, .iload_n 1, (0, 0, 0), 0)) (by decide +kernel)) g1m hm_z
    replace hm_z := rn_ifF (am_cur_of (i := (92, 3, .ifCond .ge 17, (60, 0, 0), 0)) (by decide +kernel)) (by decide) hm_z
    replace hm_z := rn_aload_n (am_cur_of (i := (95, 1, .aload_n 0, (0, 0, 0), 0)) (by decide +kernel)) g0m hm_z
    replace hm_z := rn_getI (v := 1) (am_cur_of (i := (96, 3, .getfield 157, (12, 8, 1392), 0)) (by decide +kernel)) (by decide +kernel) kc hm_z
    replace hm_z := rn_iconst (w := 3) (am_cur_of (i := (99, 1, .iconst 3, (0, 0, 0), 0)) (by decide +kernel)) (by decide) hm_z
    replace hm_z := rn_cmpF (am_cur_of (i := (100, 3, .if_icmp .eq 9, (60, 0, 0), 0)) (by decide +kernel)) (by decide) hm_z
    replace hm_z := rn_aload_n (am_cur_of (i := (103, 1, .aload_n 0, (0, 0, 0), 0)) (by decide +kernel)) g0m hm_z
    replace hm_z := rn_iconst (w := 1) (am_cur_of (i := (104, 1, .iconst 1, (0, 0, 0), 0)) (by decide +kernel)) (by decide) hm_z
    replace hm_z := rn_callV (M' := am_m158) (o := 164) (ar := [.int 1]) (rest := []) (L := lv_args 0 [.ref 164, .int 1]) (am_cur_of (i := (105, 3, .invokevirtual 181, (158, 1665, 3), 0)) (by decide +kernel)) rfl rfl rfl rfl hm_z
    obtain ⟨r1009_z, h1010_z, q1011_z, hm_z⟩ := hm_z
    obtain ⟨rfl, yq1011_z⟩ := rp_wrong q1011_z
    subst yq1011_z
    replace hm_z : rn _ _ _ _ [.int 0] _ _ _ := hm_z
    replace hm_z := rn_iret (am_cur_of (i := (108, 1, .ireturn, (0, 0, 0), 0)) (by decide +kernel)) hm_z
    obtain ⟨e1012_z, e1013_z⟩ := hm_z
    subst e1012_z e1013_z
    exact (Or.inr ⟨rfl, 1, by decide, K.1, K.2, rfl, R6⟩)
  · have g0_z : am_get (lv_args 0 [.ref 44, .int 0]) 0 = some (.ref 44) := rfl
    have g1_z : am_get (lv_args 0 [.ref 44, .int 0]) 1 = some (.int 0) := rfl
    have g0m : am_get (lv_args 0 [.ref 164]) 0 = some (.ref 164) := rfl
    have Rk := R
    have Zk := Z
    obtain ⟨⟨c1_z, c2_z, c3_z, c4_z, c5_z, c6_z, c7_z, c8_z⟩, ⟨m2_z, m3_z, m4_z, m5_z, m6_z, m7_z, m8_z⟩, R3, R4, R5, R6, R7, R8, R9, R10⟩ := (R : rq T S x p 2 h g)
    obtain ⟨np, op, z1_z, z2_z, z3_z, z4_z, z5_z, z6_z, z7_z, z8_z, z9_z, z10_z⟩ := (Z : rs 2 h g)
    obtain ⟨nk1_z, nk2_z, nk3_z⟩ := A.2.2.2.2.2.1
    replace nk1_z : rg_v h 11 0 = rg_v g 164 44 := nk1_z
    replace nk2_z : 0 ≤ (rg_v h 11 0).toInt := nk2_z
    replace nk3_z : (rg_v h 11 0).toInt ≤ 64 := nk3_z
    replace z8_z : np.toInt ≤ (rg_v h 11 0).toInt + op.toInt := z8_z
    obtain ⟨kn, ekn⟩ : ∃ v, rg_v h 11 0 = v := ⟨_, rfl⟩
    rw [ekn] at nk1_z nk2_z nk3_z z8_z
    have e9_z := rt_c1 (x := kn) (by omega) (by omega)
    replace hc_z := rn_aload_n (am_cur_of (i := (0, 1, .aload_n 0, (0, 0, 0), 0)) (by decide +kernel)) g0_z hc_z
    replace hc_z := rn_getI (v := 6) (am_cur_of (i := (1, 3, .getfield 60, (4, 10, 419), 0)) (by decide +kernel)) (by decide +kernel) ka hc_z
    replace hc_z := rn_bipush (w := 6) (am_cur_of (i := (4, 2, .bipush 6, (0, 0, 0), 0)) (by decide +kernel)) (by decide) hc_z
    replace hc_z := rn_cmpF (am_cur_of (i := (6, 3, .if_icmp .ne 30, (19, 0, 0), 0)) (by decide +kernel)) (by decide) hc_z
    replace hc_z := rn_aload_n (am_cur_of (i := (9, 1, .aload_n 0, (0, 0, 0), 0)) (by decide +kernel)) g0_z hc_z
    replace hc_z := rn_getI (v := 4) (am_cur_of (i := (10, 3, .getfield 91, (4, 11, 420), 0)) (by decide +kernel)) (by decide +kernel) kb hc_z
    replace hc_z := rn_iconst (w := 5) (am_cur_of (i := (13, 1, .iconst 5, (0, 0, 0), 0)) (by decide +kernel)) (by decide) hc_z
    replace hc_z := rn_cmpT (am_cur_of (i := (14, 3, .if_icmp .ne 22, (19, 0, 0), 0)) (by decide +kernel)) (by decide) hc_z
    replace hc_z := rn_aload_n (am_cur_of (i := (36, 1, .aload_n 0, (0, 0, 0), 0)) (by decide +kernel)) g0_z hc_z
    replace hc_z := rn_bipush (w := 40) (am_cur_of (i := (37, 2, .bipush 40, (0, 0, 0), 0)) (by decide +kernel)) (by decide) hc_z
    replace hc_z := rn_callV (M' := am_m45) (o := 44) (ar := [.int 40]) (rest := []) (L := lv_args 0 [.ref 44, .int 40]) (am_cur_of (i := (39, 3, .invokevirtual 105, (45, 834, 3), 0)) (by decide +kernel)) rfl rfl rfl rfl hc_z
    obtain ⟨r1014_z, h1015_z, q1016_z, hc_z⟩ := hc_z
    obtain ⟨rfl, yq1016_z⟩ := rp_mkN (fun q => absurd (Eq.trans (Eq.symm ka) q.1) (by decide)) q1016_z
    subst yq1016_z
    replace hc_z : rn _ _ _ _ [.int 0] _ _ _ := hc_z
    replace hc_z := rn_ifT (am_cur_of (i := (42, 3, .ifCond .eq 38, (43, 0, 0), 0)) (by decide +kernel)) (by decide) hc_z
    replace hc_z := rn_aload_n (am_cur_of (i := (80, 1, .aload_n 0, (0, 0, 0), 0)) (by decide +kernel)) g0_z hc_z
    replace hc_z := rn_getI (v := 6) (am_cur_of (i := (81, 3, .getfield 60, (4, 10, 419), 0)) (by decide +kernel)) (by decide +kernel) ka hc_z
    replace hc_z := rn_iconst (w := 4) (am_cur_of (i := (84, 1, .iconst 4, (0, 0, 0), 0)) (by decide +kernel)) (by decide) hc_z
    replace hc_z := rn_cmpT (am_cur_of (i := (85, 3, .if_icmp .ne 40, (64, 0, 0), 0)) (by decide +kernel)) (by decide) hc_z
    replace hc_z := rn_aload_n (am_cur_of (i := (125, 1, .aload_n 0, (0, 0, 0), 0)) (by decide +kernel)) g0_z hc_z
    replace hc_z := rn_getI (v := 6) (am_cur_of (i := (126, 3, .getfield 60, (4, 10, 419), 0)) (by decide +kernel)) (by decide +kernel) ka hc_z
    replace hc_z := rn_iconst (w := 2) (am_cur_of (i := (129, 1, .iconst 2, (0, 0, 0), 0)) (by decide +kernel)) (by decide) hc_z
    replace hc_z := rn_cmpT (am_cur_of (i := (130, 3, .if_icmp .ne 37, (84, 0, 0), 0)) (by decide +kernel)) (by decide) hc_z
    replace hc_z := rn_aload_n (am_cur_of (i := (167, 1, .aload_n 0, (0, 0, 0), 0)) (by decide +kernel)) g0_z hc_z
    replace hc_z := rn_iconst (w := 1) (am_cur_of (i := (168, 1, .iconst 1, (0, 0, 0), 0)) (by decide +kernel)) (by decide) hc_z
    replace hc_z := rn_callV (M' := am_m29) (o := 44) (ar := [.int 1]) (rest := []) (L := lv_args 0 [.ref 44, .int 1]) (am_cur_of (i := (169, 3, .invokevirtual 108, (29, 769, 3), 0)) (by decide +kernel)) rfl rfl rfl rfl hc_z
    obtain ⟨r1017_z, h1018_z, q1019_z, hc_z⟩ := hc_z
    obtain ⟨rfl, yq1019_z⟩ := rp_fail R4 q1019_z
    subst yq1019_z
    replace hc_z : rn _ _ _ _ [] _ _ _ := hc_z
    have K := rs_stick (w := 1) (q := p) (a := 51) (by decide) (by decide) rfl (by decide) rfl (show rg_v (am_up (am_up h 44 1 (.int 1)) 44 2 (.int (rg_v h 44 9))) 44 2 = p from R5) hc_z
    replace hm_z := rn_aload_n (am_cur_of (i := (0, 1, .aload_n 0, (0, 0, 0), 0)) (by decide +kernel)) g0m hm_z
    replace hm_z := rn_bipush (w := 40) (am_cur_of (i := (1, 2, .bipush 40, (0, 0, 0), 0)) (by decide +kernel)) (by decide) hm_z
    replace hm_z := rn_callV (M' := am_m171) (o := 164) (ar := [.int 40]) (rest := []) (L := lv_args 0 [.ref 164, .int 40]) (am_cur_of (i := (3, 3, .invokevirtual 194, (171, 1715, 3), 0)) (by decide +kernel)) rfl rfl rfl rfl hm_z
    obtain ⟨r1020_z, h1021_z, q1022_z, hm_z⟩ := hm_z
    obtain ⟨rfl, yq1022_z⟩ := rp_sgN (fun q => absurd (Eq.trans (Eq.symm kc) q.1) (by decide)) q1022_z
    subst yq1022_z
    replace hm_z : rn _ _ _ _ [.int 0] _ _ _ := hm_z
    replace hm_z := rn_ifT (am_cur_of (i := (6, 3, .ifCond .eq 44, (28, 0, 0), 0)) (by decide +kernel)) (by decide) hm_z
    replace hm_z := rn_aload_n (am_cur_of (i := (50, 1, .aload_n 0, (0, 0, 0), 0)) (by decide +kernel)) g0m hm_z
    replace hm_z := rn_bipush (w := 14) (am_cur_of (i := (51, 2, .bipush 14, (0, 0, 0), 0)) (by decide +kernel)) (by decide) hm_z
    replace hm_z := rn_callV (M' := am_m174) (o := 164) (ar := [.int 14]) (rest := []) (L := lv_args 0 [.ref 164, .int 14]) (am_cur_of (i := (53, 3, .invokevirtual 306, (174, 1727, 3), 0)) (by decide +kernel)) rfl rfl rfl rfl hm_z
    obtain ⟨r1023_z, h1024_z, q1025_z, hm_z⟩ := hm_z
    obtain ⟨rfl, yq1025_z⟩ := rp_kyN (fun q => absurd (Eq.trans (Eq.symm kd) q.2) (by decide)) q1025_z
    subst yq1025_z
    replace hm_z : rn _ _ _ _ [.int 0] _ _ _ := hm_z
    replace hm_z := rn_ifT (am_cur_of (i := (56, 3, .ifCond .eq 30, (47, 0, 0), 0)) (by decide +kernel)) (by decide) hm_z
    replace hm_z := rn_aload_n (am_cur_of (i := (86, 1, .aload_n 0, (0, 0, 0), 0)) (by decide +kernel)) g0m hm_z
    replace hm_z := rn_callV (M' := am_m176) (o := 164) (ar := []) (rest := []) (L := lv_args 0 [.ref 164]) (am_cur_of (i := (87, 3, .invokevirtual 312, (176, 1735, 3), 0)) (by decide +kernel)) rfl rfl rfl rfl hm_z
    obtain ⟨r1026_z, h1027_z, q1028_z, hm_z⟩ := hm_z
    obtain ⟨rfl, yq1028_z⟩ := rp_nm (c := 1) (d := 12) kc kd q1028_z
    replace yq1028_z := yq1028_z.symm
    subst yq1028_z
    rw [show rp_nmf 1 12 = (-1) from by decide] at hm_z
    replace hm_z : rn _ _ _ _ [.int (-1)] _ _ _ := hm_z
    replace hm_z := rn_istore_n (am_cur_of (i := (90, 1, .istore_n 1, (0, 0, 0), 0)) (by decide +kernel)) hm_z
    obtain ⟨_, s1029_z, s1030_z, g1m, hm_z⟩ := hm_z
    replace g0m := s1029_z 0 _ (by decide) rfl g0m
    clear s1029_z s1030_z
    replace hm_z := rn_iload_n (am_cur_of (i := (91, 1, .iload_n 1, (0, 0, 0), 0)) (by decide +kernel)) g1m hm_z
    replace hm_z := rn_ifF (am_cur_of (i := (92, 3, .ifCond .ge 17, (60, 0, 0), 0)) (by decide +kernel)) (by decide) hm_z
    replace hm_z := rn_aload_n (am_cur_of (i := (95, 1, .aload_n 0, (0, 0, 0), 0)) (by decide +kernel)) g0m hm_z
    replace hm_z := rn_getI (v := 1) (am_cur_of (i := (96, 3, .getfield 157, (12, 8, 1392), 0)) (by decide +kernel)) (by decide +kernel) kc hm_z
    replace hm_z := rn_iconst (w := 3) (am_cur_of (i := (99, 1, .iconst 3, (0, 0, 0), 0)) (by decide +kernel)) (by decide) hm_z
    replace hm_z := rn_cmpF (am_cur_of (i := (100, 3, .if_icmp .eq 9, (60, 0, 0), 0)) (by decide +kernel)) (by decide) hm_z
    replace hm_z := rn_aload_n (am_cur_of (i := (103, 1, .aload_n 0, (0, 0, 0), 0)) (by decide +kernel)) g0m hm_z
    replace hm_z := rn_iconst (w := 1) (am_cur_of (i := (104, 1, .iconst 1, (0, 0, 0), 0)) (by decide +kernel)) (by decide) hm_z
    replace hm_z := rn_callV (M' := am_m158) (o := 164) (ar := [.int 1]) (rest := []) (L := lv_args 0 [.ref 164, .int 1]) (am_cur_of (i := (105, 3, .invokevirtual 181, (158, 1665, 3), 0)) (by decide +kernel)) rfl rfl rfl rfl hm_z
    obtain ⟨r1031_z, h1032_z, q1033_z, hm_z⟩ := hm_z
    obtain ⟨rfl, yq1033_z⟩ := rp_wrong q1033_z
    subst yq1033_z
    replace hm_z : rn _ _ _ _ [.int 0] _ _ _ := hm_z
    replace hm_z := rn_iret (am_cur_of (i := (108, 1, .ireturn, (0, 0, 0), 0)) (by decide +kernel)) hm_z
    obtain ⟨e1034_z, e1035_z⟩ := hm_z
    subst e1034_z e1035_z
    exact (Or.inr ⟨rfl, 1, by decide, K.1, K.2, rfl, R6⟩)
  · have g0_z : am_get (lv_args 0 [.ref 44, .int 0]) 0 = some (.ref 44) := rfl
    have g1_z : am_get (lv_args 0 [.ref 44, .int 0]) 1 = some (.int 0) := rfl
    have g0m : am_get (lv_args 0 [.ref 164]) 0 = some (.ref 164) := rfl
    have Rk := R
    have Zk := Z
    obtain ⟨⟨c1_z, c2_z, c3_z, c4_z, c5_z, c6_z, c7_z, c8_z⟩, ⟨m2_z, m3_z, m4_z, m5_z, m6_z, m7_z, m8_z⟩, R3, R4, R5, R6, R7, R8, R9, R10⟩ := (R : rq T S x p 2 h g)
    obtain ⟨np, op, z1_z, z2_z, z3_z, z4_z, z5_z, z6_z, z7_z, z8_z, z9_z, z10_z⟩ := (Z : rs 2 h g)
    obtain ⟨nk1_z, nk2_z, nk3_z⟩ := A.2.2.2.2.2.1
    replace nk1_z : rg_v h 11 0 = rg_v g 164 44 := nk1_z
    replace nk2_z : 0 ≤ (rg_v h 11 0).toInt := nk2_z
    replace nk3_z : (rg_v h 11 0).toInt ≤ 64 := nk3_z
    replace z8_z : np.toInt ≤ (rg_v h 11 0).toInt + op.toInt := z8_z
    obtain ⟨kn, ekn⟩ : ∃ v, rg_v h 11 0 = v := ⟨_, rfl⟩
    rw [ekn] at nk1_z nk2_z nk3_z z8_z
    have e9_z := rt_c1 (x := kn) (by omega) (by omega)
    replace hc_z := rn_aload_n (am_cur_of (i := (0, 1, .aload_n 0, (0, 0, 0), 0)) (by decide +kernel)) g0_z hc_z
    replace hc_z := rn_getI (v := 6) (am_cur_of (i := (1, 3, .getfield 60, (4, 10, 419), 0)) (by decide +kernel)) (by decide +kernel) ka hc_z
    replace hc_z := rn_bipush (w := 6) (am_cur_of (i := (4, 2, .bipush 6, (0, 0, 0), 0)) (by decide +kernel)) (by decide) hc_z
    replace hc_z := rn_cmpF (am_cur_of (i := (6, 3, .if_icmp .ne 30, (19, 0, 0), 0)) (by decide +kernel)) (by decide) hc_z
    replace hc_z := rn_aload_n (am_cur_of (i := (9, 1, .aload_n 0, (0, 0, 0), 0)) (by decide +kernel)) g0_z hc_z
    replace hc_z := rn_getI (v := 5) (am_cur_of (i := (10, 3, .getfield 91, (4, 11, 420), 0)) (by decide +kernel)) (by decide +kernel) kb hc_z
    replace hc_z := rn_iconst (w := 5) (am_cur_of (i := (13, 1, .iconst 5, (0, 0, 0), 0)) (by decide +kernel)) (by decide) hc_z
    replace hc_z := rn_cmpF (am_cur_of (i := (14, 3, .if_icmp .ne 22, (19, 0, 0), 0)) (by decide +kernel)) (by decide) hc_z
    replace hc_z := rn_iload_n (am_cur_of (i := (17, 1, .iload_n 1, (0, 0, 0), 0)) (by decide +kernel)) g1_z hc_z
    replace hc_z := rn_ifF (am_cur_of (i := (18, 3, .ifCond .ne 18, (19, 0, 0), 0)) (by decide +kernel)) (by decide) hc_z
    replace hc_z := rn_aload_n (am_cur_of (i := (21, 1, .aload_n 0, (0, 0, 0), 0)) (by decide +kernel)) g0_z hc_z
    replace hc_z := rn_callV (M' := am_m49) (o := 44) (ar := []) (rest := []) (L := lv_args 0 [.ref 44]) (am_cur_of (i := (22, 3, .invokevirtual 270, (49, 852, 3), 0)) (by decide +kernel)) rfl rfl rfl rfl hc_z
    obtain ⟨r1036_z, h1037_z, q1038_z, hc_z⟩ := hc_z
    rcases rs_ck2 R4 (show h 44 6 = .ref 2 from R3) q1038_z with ⟨ge, rfl, eh⟩ | ⟨lt, rfl, eh⟩
    · subst eh
      replace ge : 64 ≤ kn.toInt := by rw [← ekn]; exact ge
      replace hc_z : rn _ _ _ _ [] _ _ _ := hc_z
      have K := rs_stick (w := 2) (q := p) (a := 51) (by decide) (by decide) rfl (by decide) rfl (show rg_v (am_up (am_up h 44 1 (.int 2)) 44 2 (.int (rg_v h 44 9))) 44 2 = p from R5) hc_z
      replace hm_z := rn_aload_n (am_cur_of (i := (0, 1, .aload_n 0, (0, 0, 0), 0)) (by decide +kernel)) g0m hm_z
      replace hm_z := rn_bipush (w := 40) (am_cur_of (i := (1, 2, .bipush 40, (0, 0, 0), 0)) (by decide +kernel)) (by decide) hm_z
      replace hm_z := rn_callV (M' := am_m171) (o := 164) (ar := [.int 40]) (rest := []) (L := lv_args 0 [.ref 164, .int 40]) (am_cur_of (i := (3, 3, .invokevirtual 194, (171, 1715, 3), 0)) (by decide +kernel)) rfl rfl rfl rfl hm_z
      obtain ⟨r1039_z, h1040_z, q1041_z, hm_z⟩ := hm_z
      obtain ⟨rfl, yq1041_z⟩ := rp_sgN (fun q => absurd (Eq.trans (Eq.symm kc) q.1) (by decide)) q1041_z
      subst yq1041_z
      replace hm_z : rn _ _ _ _ [.int 0] _ _ _ := hm_z
      replace hm_z := rn_ifT (am_cur_of (i := (6, 3, .ifCond .eq 44, (28, 0, 0), 0)) (by decide +kernel)) (by decide) hm_z
      replace hm_z := rn_aload_n (am_cur_of (i := (50, 1, .aload_n 0, (0, 0, 0), 0)) (by decide +kernel)) g0m hm_z
      replace hm_z := rn_bipush (w := 14) (am_cur_of (i := (51, 2, .bipush 14, (0, 0, 0), 0)) (by decide +kernel)) (by decide) hm_z
      replace hm_z := rn_callV (M' := am_m174) (o := 164) (ar := [.int 14]) (rest := []) (L := lv_args 0 [.ref 164, .int 14]) (am_cur_of (i := (53, 3, .invokevirtual 306, (174, 1727, 3), 0)) (by decide +kernel)) rfl rfl rfl rfl hm_z
      obtain ⟨r1042_z, h1043_z, q1044_z, hm_z⟩ := hm_z
      obtain ⟨rfl, yq1044_z⟩ := rp_kyT kc kd q1044_z
      subst yq1044_z
      replace hm_z : rn _ _ _ _ [.int 1] _ _ _ := hm_z
      replace hm_z := rn_ifF (am_cur_of (i := (56, 3, .ifCond .eq 30, (47, 0, 0), 0)) (by decide +kernel)) (by decide) hm_z
      replace hm_z := rn_aload_n (am_cur_of (i := (59, 1, .aload_n 0, (0, 0, 0), 0)) (by decide +kernel)) g0m hm_z
      replace hm_z := rn_getI (v := 1) (am_cur_of (i := (60, 3, .getfield 302, (12, 46, 1430), 0)) (by decide +kernel)) (by decide +kernel) w2_z hm_z
      replace hm_z := rn_ifF (am_cur_of (i := (63, 3, .ifCond .eq 23, (47, 0, 0), 0)) (by decide +kernel)) (by decide) hm_z
      replace hm_z := rn_aload_n (am_cur_of (i := (66, 1, .aload_n 0, (0, 0, 0), 0)) (by decide +kernel)) g0m hm_z
      replace hm_z := rn_callV (M' := am_m175) (o := 164) (ar := []) (rest := []) (L := lv_args 0 [.ref 164]) (am_cur_of (i := (67, 3, .invokevirtual 309, (175, 1731, 3), 0)) (by decide +kernel)) rfl rfl rfl rfl hm_z
      obtain ⟨r1045_z, h1046_z, q1047_z, hm_z⟩ := hm_z
      rcases rs_ic q1047_z with ⟨i1_z, rfl, i3_z⟩ | ⟨i1_z, -⟩
      · subst i3_z
        replace hm_z : rn _ _ _ _ [.int 0] _ _ _ := hm_z
        replace hm_z := rn_ifF (am_cur_of (i := (70, 3, .ifCond .ne 5, (40, 0, 0), 0)) (by decide +kernel)) (by decide) hm_z
        replace hm_z := rn_iconst (w := 0) (am_cur_of (i := (73, 1, .iconst 0, (0, 0, 0), 0)) (by decide +kernel)) (by decide) hm_z
        replace hm_z := rn_iret (am_cur_of (i := (74, 1, .ireturn, (0, 0, 0), 0)) (by decide +kernel)) hm_z
        obtain ⟨e1048_z, e1049_z⟩ := hm_z
        subst e1048_z e1049_z
        exact (Or.inr ⟨rfl, 2, by decide, K.1, K.2, rfl, R6⟩)
      · exact absurd (Int32.toInt_inj.mp (show (rg_v g 164 44).toInt = (64 : Int32).toInt from by rw [show rg_v g 164 44 = kn from nk1_z.symm, show (64 : Int32).toInt = 64 by decide]; omega)) i1_z
    · subst eh
      replace lt : kn.toInt < 64 := by rw [← ekn]; exact lt
      rw [show rg_v h 11 0 = kn from ekn] at hc_z
      replace hm_z := rn_aload_n (am_cur_of (i := (0, 1, .aload_n 0, (0, 0, 0), 0)) (by decide +kernel)) g0m hm_z
      replace hm_z := rn_bipush (w := 40) (am_cur_of (i := (1, 2, .bipush 40, (0, 0, 0), 0)) (by decide +kernel)) (by decide) hm_z
      replace hm_z := rn_callV (M' := am_m171) (o := 164) (ar := [.int 40]) (rest := []) (L := lv_args 0 [.ref 164, .int 40]) (am_cur_of (i := (3, 3, .invokevirtual 194, (171, 1715, 3), 0)) (by decide +kernel)) rfl rfl rfl rfl hm_z
      obtain ⟨r1050_z, h1051_z, q1052_z, hm_z⟩ := hm_z
      obtain ⟨rfl, yq1052_z⟩ := rp_sgN (fun q => absurd (Eq.trans (Eq.symm kc) q.1) (by decide)) q1052_z
      subst yq1052_z
      replace hm_z : rn _ _ _ _ [.int 0] _ _ _ := hm_z
      replace hm_z := rn_ifT (am_cur_of (i := (6, 3, .ifCond .eq 44, (28, 0, 0), 0)) (by decide +kernel)) (by decide) hm_z
      replace hm_z := rn_aload_n (am_cur_of (i := (50, 1, .aload_n 0, (0, 0, 0), 0)) (by decide +kernel)) g0m hm_z
      replace hm_z := rn_bipush (w := 14) (am_cur_of (i := (51, 2, .bipush 14, (0, 0, 0), 0)) (by decide +kernel)) (by decide) hm_z
      replace hm_z := rn_callV (M' := am_m174) (o := 164) (ar := [.int 14]) (rest := []) (L := lv_args 0 [.ref 164, .int 14]) (am_cur_of (i := (53, 3, .invokevirtual 306, (174, 1727, 3), 0)) (by decide +kernel)) rfl rfl rfl rfl hm_z
      obtain ⟨r1053_z, h1054_z, q1055_z, hm_z⟩ := hm_z
      obtain ⟨rfl, yq1055_z⟩ := rp_kyT kc kd q1055_z
      subst yq1055_z
      replace hm_z : rn _ _ _ _ [.int 1] _ _ _ := hm_z
      replace hm_z := rn_ifF (am_cur_of (i := (56, 3, .ifCond .eq 30, (47, 0, 0), 0)) (by decide +kernel)) (by decide) hm_z
      replace hm_z := rn_aload_n (am_cur_of (i := (59, 1, .aload_n 0, (0, 0, 0), 0)) (by decide +kernel)) g0m hm_z
      replace hm_z := rn_getI (v := 1) (am_cur_of (i := (60, 3, .getfield 302, (12, 46, 1430), 0)) (by decide +kernel)) (by decide +kernel) w2_z hm_z
      replace hm_z := rn_ifF (am_cur_of (i := (63, 3, .ifCond .eq 23, (47, 0, 0), 0)) (by decide +kernel)) (by decide) hm_z
      replace hm_z := rn_aload_n (am_cur_of (i := (66, 1, .aload_n 0, (0, 0, 0), 0)) (by decide +kernel)) g0m hm_z
      replace hm_z := rn_callV (M' := am_m175) (o := 164) (ar := []) (rest := []) (L := lv_args 0 [.ref 164]) (am_cur_of (i := (67, 3, .invokevirtual 309, (175, 1731, 3), 0)) (by decide +kernel)) rfl rfl rfl rfl hm_z
      obtain ⟨r1056_z, h1057_z, q1058_z, hm_z⟩ := hm_z
      rcases rs_ic q1058_z with ⟨i1_z, -⟩ | ⟨i1_z, rfl, i3_z⟩
      · exfalso
        have zz := congrArg Int32.toInt i1_z
        rw [show rg_v g 164 44 = kn from nk1_z.symm, show (64 : Int32).toInt = 64 by decide] at zz
        omega
      · subst i3_z
        rw [show rg_v g 164 44 = kn from nk1_z.symm] at hm_z
        replace hm_z : rn _ _ _ _ [.int 1] _ _ _ := hm_z
        replace hc_z : rn _ _ _ _ [] _ _ _ := hc_z
        replace hc_z := rn_aload_n (am_cur_of (i := (25, 1, .aload_n 0, (0, 0, 0), 0)) (by decide +kernel)) g0_z hc_z
        replace hc_z := rn_iconst (w := 5) (am_cur_of (i := (26, 1, .iconst 5, (0, 0, 0), 0)) (by decide +kernel)) (by decide) hc_z
        replace hc_z := rn_callV (M' := am_m50) (o := 44) (ar := [.int 5]) (rest := []) (L := lv_args 0 [.ref 44, .int 5]) (am_cur_of (i := (27, 3, .invokevirtual 273, (50, 856, 3), 0)) (by decide +kernel)) rfl rfl rfl rfl hc_z
        obtain ⟨r1059_z, h1060_z, q1061_z, hc_z⟩ := hc_z
        obtain ⟨rfl, eh⟩ := rs_hold (np := np) (show rg_v (am_up h 11 0 (.int (kn + 1))) 44 13 = np from z1_z) (by omega) q1061_z
        subst eh
        replace hc_z : rn _ _ _ _ [] _ _ _ := hc_z
        replace hc_z := rn_aload_n (am_cur_of (i := (30, 1, .aload_n 0, (0, 0, 0), 0)) (by decide +kernel)) g0_z hc_z
        replace hc_z := rn_callV (M' := am_m19) (o := 44) (ar := []) (rest := []) (L := lv_args 0 [.ref 44]) (am_cur_of (i := (31, 3, .invokevirtual 57, (19, 727, 3), 0)) (by decide +kernel)) rfl rfl rfl rfl hc_z
        obtain ⟨r1062_z, h1063_z, q1064_z, hc_z⟩ := hc_z
        have vo := rn_void rfl q1064_z
        subst vo
        replace hm_z := rn_ifT (am_cur_of (i := (70, 3, .ifCond .ne 5, (40, 0, 0), 0)) (by decide +kernel)) (by decide) hm_z
        replace hm_z := rn_aload_n (am_cur_of (i := (75, 1, .aload_n 0, (0, 0, 0), 0)) (by decide +kernel)) g0m hm_z
        replace hm_z := rn_iconst (w := 2) (am_cur_of (i := (76, 1, .iconst 2, (0, 0, 0), 0)) (by decide +kernel)) (by decide) hm_z
        replace hm_z := rn_callV (M' := am_m173) (o := 164) (ar := [.int 2]) (rest := []) (L := lv_args 0 [.ref 164, .int 2]) (am_cur_of (i := (77, 3, .invokevirtual 298, (173, 1723, 3), 0)) (by decide +kernel)) rfl rfl rfl rfl hm_z
        obtain ⟨r1065_z, h1066_z, q1067_z, hm_z⟩ := hm_z
        obtain ⟨rfl, eh⟩ := rs_wf (np := np) (show rg_v (am_up g 164 44 (.int (kn + 1))) 164 41 = np from z2_z) q1067_z
        subst eh
        replace hm_z : rn _ _ _ _ [] _ _ _ := hm_z
        replace hm_z := rn_aload_n (am_cur_of (i := (80, 1, .aload_n 0, (0, 0, 0), 0)) (by decide +kernel)) g0m hm_z
        replace hm_z := rn_callV (M' := am_m151) (o := 164) (ar := []) (rest := []) (L := lv_args 0 [.ref 164]) (am_cur_of (i := (81, 3, .invokevirtual 191, (151, 1636, 3), 0)) (by decide +kernel)) rfl rfl rfl rfl hm_z
        obtain ⟨r1068_z, h1069_z, q1070_z, hm_z⟩ := hm_z
        have vo := rn_void rfl q1070_z
        subst vo
        have FC : ab_Fr (rz_MC2.drop 1) h (am_up (am_up (am_up h 11 0 (.int (kn + 1))) 47 np.toNatClampNeg (.int 5)) 44 13 (.int (np + 1))) := ab_Fr_up rfl (ab_Fr_up rfl (ab_Fr_up rfl ab_Fr_refl))
        have FC' : ab_Fr rz_MC2 h (am_up (am_up (am_up h 11 0 (.int (kn + 1))) 47 np.toNatClampNeg (.int 5)) 44 13 (.int (np + 1))) := ab_Fr_sub (by decide) FC
        have FM : ab_Fr rz_MM g (am_up (am_up (am_up g 164 44 (.int (kn + 1))) 184 np.toNatClampNeg (.int 2)) 164 41 (.int (np + 1))) := ab_Fr_up rfl (ab_Fr_up rfl (ab_Fr_up rfl ab_Fr_refl))
        obtain ⟨-, -, x2_z, p2_z, R2, le2_z, t5_z, t6_z⟩ := pr_tok (rz_q02 (rq_0 Rk) FC' FM) q1064_z q1070_z
        have A2 := rp_x (by decide) (rz_p2 A FC' FM ((show rg_v (am_up (am_up (am_up h 11 0 (.int (kn + 1))) 47 np.toNatClampNeg (.int 5)) 44 13 (.int (np + 1))) 11 0 = kn + 1 from (show rg_v (am_up (am_up (am_up h 11 0 (.int (kn + 1))) 47 np.toNatClampNeg (.int 5)) 44 13 (.int (np + 1))) 11 0 = kn + 1 from rfl)).trans (show rg_v (am_up (am_up (am_up g 164 44 (.int (kn + 1))) 184 np.toNatClampNeg (.int 2)) 164 41 (.int (np + 1))) 164 44 = kn + 1 from (show rg_v (am_up (am_up (am_up g 164 44 (.int (kn + 1))) 184 np.toNatClampNeg (.int 2)) 164 41 (.int (np + 1))) 164 44 = kn + 1 from rfl)).symm) (by rw [show rg_v (am_up (am_up (am_up h 11 0 (.int (kn + 1))) 47 np.toNatClampNeg (.int 5)) 44 13 (.int (np + 1))) 11 0 = kn + 1 from (show rg_v (am_up (am_up (am_up h 11 0 (.int (kn + 1))) 47 np.toNatClampNeg (.int 5)) 44 13 (.int (np + 1))) 11 0 = kn + 1 from rfl)]; omega) (by rw [show rg_v (am_up (am_up (am_up h 11 0 (.int (kn + 1))) 47 np.toNatClampNeg (.int 5)) 44 13 (.int (np + 1))) 11 0 = kn + 1 from (show rg_v (am_up (am_up (am_up h 11 0 (.int (kn + 1))) 47 np.toNatClampNeg (.int 5)) 44 13 (.int (np + 1))) 11 0 = kn + 1 from rfl)]; omega)) (rx_C_f t5_z) (rx_M_f t6_z)
        have B2 := rp_tk (rz_t2 B FC FM) (rg_v_fr t5_z (by decide)) (fun k => rg_v_fr t6_z (rg_v_in (by decide) k)) (rx_M_f t6_z)
        have Z2 : rs 2 (am_up (am_up (am_up h 11 0 (.int (kn + 1))) 47 np.toNatClampNeg (.int 5)) 44 13 (.int (np + 1))) (am_up (am_up (am_up g 164 44 (.int (kn + 1))) 184 np.toNatClampNeg (.int 2)) 164 41 (.int (np + 1))) := rs_push (o := 5) (k := 2) (np := np) (op := op) Zk (by unfold rs_o; decide) z1_z z4_z (show rg_v (am_up (am_up (am_up h 11 0 (.int (kn + 1))) 47 np.toNatClampNeg (.int 5)) 44 13 (.int (np + 1))) 44 13 = np + 1 from (show rg_v (am_up (am_up (am_up h 11 0 (.int (kn + 1))) 47 np.toNatClampNeg (.int 5)) 44 13 (.int (np + 1))) 44 13 = np + 1 from rfl)) (show rg_v (am_up (am_up (am_up g 164 44 (.int (kn + 1))) 184 np.toNatClampNeg (.int 2)) 164 41 (.int (np + 1))) 164 41 = np + 1 from (show rg_v (am_up (am_up (am_up g 164 44 (.int (kn + 1))) 184 np.toNatClampNeg (.int 2)) 164 41 (.int (np + 1))) 164 41 = np + 1 from rfl)) (fun i hi_z => (show rg_v (am_up (am_up (am_up h 11 0 (.int (kn + 1))) 47 np.toNatClampNeg (.int 5)) 44 13 (.int (np + 1))) 47 i = rg_v h 47 i from rg_v_other (h := h) (o := 47) (k := np.toNatClampNeg) (v := .int 5) (by omega))) (show rg_v (am_up (am_up (am_up h 11 0 (.int (kn + 1))) 47 np.toNatClampNeg (.int 5)) 44 13 (.int (np + 1))) 47 np.toNatClampNeg = 5 from rg_v_self (h := h) (o := 47) (k := np.toNatClampNeg)) (fun i hi_z => (show rg_v (am_up (am_up (am_up g 164 44 (.int (kn + 1))) 184 np.toNatClampNeg (.int 2)) 164 41 (.int (np + 1))) 184 i = rg_v g 184 i from rg_v_other (h := g) (o := 184) (k := np.toNatClampNeg) (v := .int 2) (by omega))) (show rg_v (am_up (am_up (am_up g 164 44 (.int (kn + 1))) 184 np.toNatClampNeg (.int 2)) 164 41 (.int (np + 1))) 184 np.toNatClampNeg = 2 from rg_v_self (h := g) (o := 184) (k := np.toNatClampNeg)) (show (rg_v h 11 0).toInt ≤ 64 by rw [ekn]; exact nk3_z) (Or.inl ⟨by decide, (show rg_v (am_up (am_up (am_up h 11 0 (.int (kn + 1))) 47 np.toNatClampNeg (.int 5)) 44 13 (.int (np + 1))) 44 14 = op from (show rg_v (am_up (am_up (am_up h 11 0 (.int (kn + 1))) 47 np.toNatClampNeg (.int 5)) 44 13 (.int (np + 1))) 44 14 = op from z4_z)), (show rg_v (am_up (am_up (am_up g 164 44 (.int (kn + 1))) 184 np.toNatClampNeg (.int 2)) 164 41 (.int (np + 1))) 164 43 = op from (show rg_v (am_up (am_up (am_up g 164 44 (.int (kn + 1))) 184 np.toNatClampNeg (.int 2)) 164 41 (.int (np + 1))) 164 43 = op from z5_z)), (show (rg_v (am_up (am_up (am_up h 11 0 (.int (kn + 1))) 47 np.toNatClampNeg (.int 5)) 44 13 (.int (np + 1))) 11 0).toInt = (rg_v h 11 0).toInt + 1 by rw [(show rg_v (am_up (am_up (am_up h 11 0 (.int (kn + 1))) 47 np.toNatClampNeg (.int 5)) 44 13 (.int (np + 1))) 11 0 = kn + 1 from (show rg_v (am_up (am_up (am_up h 11 0 (.int (kn + 1))) 47 np.toNatClampNeg (.int 5)) 44 13 (.int (np + 1))) 11 0 = kn + 1 from rfl)), ekn]; exact e9_z)⟩)
        replace Z2 := rs_fr (by decide) Z2 t5_z t6_z
        have e45_z : rg_v h1069_z 164 45 = 1 := (rg_v_fr t6_z (by decide)).trans (show rg_v (am_up (am_up (am_up g 164 44 (.int (kn + 1))) 184 np.toNatClampNeg (.int 2)) 164 41 (.int (np + 1))) 164 45 = 1 from (show rg_v (am_up (am_up (am_up g 164 44 (.int (kn + 1))) 184 np.toNatClampNeg (.int 2)) 164 41 (.int (np + 1))) 164 45 = 1 from w1_z))
        have e46_z : rg_v h1069_z 164 46 = 1 := (rg_v_fr t6_z (by decide)).trans (show rg_v (am_up (am_up (am_up g 164 44 (.int (kn + 1))) 184 np.toNatClampNeg (.int 2)) 164 41 (.int (np + 1))) 164 46 = 1 from (show rg_v (am_up (am_up (am_up g 164 44 (.int (kn + 1))) 184 np.toNatClampNeg (.int 2)) 164 41 (.int (np + 1))) 164 46 = 1 from w2_z))
        replace hm_z : rn _ _ _ _ [] _ _ _ := hm_z
        replace hc_z : rn _ _ _ _ [] _ _ _ := hc_z
        replace hc_z := rn_iconst (w := 0) (am_cur_of (i := (34, 1, .iconst 0, (0, 0, 0), 0)) (by decide +kernel)) (by decide) hc_z
        replace hc_z := rn_iret (am_cur_of (i := (35, 1, .ireturn, (0, 0, 0), 0)) (by decide +kernel)) hc_z
        obtain ⟨e1071_z, e1072_z⟩ := hc_z
        replace hm_z := rn_iconst (w := 1) (am_cur_of (i := (84, 1, .iconst 1, (0, 0, 0), 0)) (by decide +kernel)) (by decide) hm_z
        replace hm_z := rn_iret (am_cur_of (i := (85, 1, .ireturn, (0, 0, 0), 0)) (by decide +kernel)) hm_z
        obtain ⟨e1073_z, e1074_z⟩ := hm_z
        subst e1071_z e1072_z e1073_z e1074_z
        exact Or.inl ⟨_, x2_z, p2_z, rfl, rfl, R2, le2_z, A2, B2, Z2, Or.inl ⟨rfl, e45_z, e46_z⟩⟩
  · have g0_z : am_get (lv_args 0 [.ref 44, .int 0]) 0 = some (.ref 44) := rfl
    have g1_z : am_get (lv_args 0 [.ref 44, .int 0]) 1 = some (.int 0) := rfl
    have g0m : am_get (lv_args 0 [.ref 164]) 0 = some (.ref 164) := rfl
    have Rk := R
    have Zk := Z
    obtain ⟨⟨c1_z, c2_z, c3_z, c4_z, c5_z, c6_z, c7_z, c8_z⟩, ⟨m2_z, m3_z, m4_z, m5_z, m6_z, m7_z, m8_z⟩, R3, R4, R5, R6, R7, R8, R9, R10⟩ := (R : rq T S x p 2 h g)
    obtain ⟨np, op, z1_z, z2_z, z3_z, z4_z, z5_z, z6_z, z7_z, z8_z, z9_z, z10_z⟩ := (Z : rs 2 h g)
    obtain ⟨nk1_z, nk2_z, nk3_z⟩ := A.2.2.2.2.2.1
    replace nk1_z : rg_v h 11 0 = rg_v g 164 44 := nk1_z
    replace nk2_z : 0 ≤ (rg_v h 11 0).toInt := nk2_z
    replace nk3_z : (rg_v h 11 0).toInt ≤ 64 := nk3_z
    replace z8_z : np.toInt ≤ (rg_v h 11 0).toInt + op.toInt := z8_z
    obtain ⟨kn, ekn⟩ : ∃ v, rg_v h 11 0 = v := ⟨_, rfl⟩
    rw [ekn] at nk1_z nk2_z nk3_z z8_z
    have e9_z := rt_c1 (x := kn) (by omega) (by omega)
    replace hc_z := rn_aload_n (am_cur_of (i := (0, 1, .aload_n 0, (0, 0, 0), 0)) (by decide +kernel)) g0_z hc_z
    replace hc_z := rn_getI (v := 6) (am_cur_of (i := (1, 3, .getfield 60, (4, 10, 419), 0)) (by decide +kernel)) (by decide +kernel) ka hc_z
    replace hc_z := rn_bipush (w := 6) (am_cur_of (i := (4, 2, .bipush 6, (0, 0, 0), 0)) (by decide +kernel)) (by decide) hc_z
    replace hc_z := rn_cmpF (am_cur_of (i := (6, 3, .if_icmp .ne 30, (19, 0, 0), 0)) (by decide +kernel)) (by decide) hc_z
    replace hc_z := rn_aload_n (am_cur_of (i := (9, 1, .aload_n 0, (0, 0, 0), 0)) (by decide +kernel)) g0_z hc_z
    replace hc_z := rn_getI (v := 6) (am_cur_of (i := (10, 3, .getfield 91, (4, 11, 420), 0)) (by decide +kernel)) (by decide +kernel) kb hc_z
    replace hc_z := rn_iconst (w := 5) (am_cur_of (i := (13, 1, .iconst 5, (0, 0, 0), 0)) (by decide +kernel)) (by decide) hc_z
    replace hc_z := rn_cmpT (am_cur_of (i := (14, 3, .if_icmp .ne 22, (19, 0, 0), 0)) (by decide +kernel)) (by decide) hc_z
    replace hc_z := rn_aload_n (am_cur_of (i := (36, 1, .aload_n 0, (0, 0, 0), 0)) (by decide +kernel)) g0_z hc_z
    replace hc_z := rn_bipush (w := 40) (am_cur_of (i := (37, 2, .bipush 40, (0, 0, 0), 0)) (by decide +kernel)) (by decide) hc_z
    replace hc_z := rn_callV (M' := am_m45) (o := 44) (ar := [.int 40]) (rest := []) (L := lv_args 0 [.ref 44, .int 40]) (am_cur_of (i := (39, 3, .invokevirtual 105, (45, 834, 3), 0)) (by decide +kernel)) rfl rfl rfl rfl hc_z
    obtain ⟨r1075_z, h1076_z, q1077_z, hc_z⟩ := hc_z
    obtain ⟨rfl, yq1077_z⟩ := rp_mkN (fun q => absurd (Eq.trans (Eq.symm ka) q.1) (by decide)) q1077_z
    subst yq1077_z
    replace hc_z : rn _ _ _ _ [.int 0] _ _ _ := hc_z
    replace hc_z := rn_ifT (am_cur_of (i := (42, 3, .ifCond .eq 38, (43, 0, 0), 0)) (by decide +kernel)) (by decide) hc_z
    replace hc_z := rn_aload_n (am_cur_of (i := (80, 1, .aload_n 0, (0, 0, 0), 0)) (by decide +kernel)) g0_z hc_z
    replace hc_z := rn_getI (v := 6) (am_cur_of (i := (81, 3, .getfield 60, (4, 10, 419), 0)) (by decide +kernel)) (by decide +kernel) ka hc_z
    replace hc_z := rn_iconst (w := 4) (am_cur_of (i := (84, 1, .iconst 4, (0, 0, 0), 0)) (by decide +kernel)) (by decide) hc_z
    replace hc_z := rn_cmpT (am_cur_of (i := (85, 3, .if_icmp .ne 40, (64, 0, 0), 0)) (by decide +kernel)) (by decide) hc_z
    replace hc_z := rn_aload_n (am_cur_of (i := (125, 1, .aload_n 0, (0, 0, 0), 0)) (by decide +kernel)) g0_z hc_z
    replace hc_z := rn_getI (v := 6) (am_cur_of (i := (126, 3, .getfield 60, (4, 10, 419), 0)) (by decide +kernel)) (by decide +kernel) ka hc_z
    replace hc_z := rn_iconst (w := 2) (am_cur_of (i := (129, 1, .iconst 2, (0, 0, 0), 0)) (by decide +kernel)) (by decide) hc_z
    replace hc_z := rn_cmpT (am_cur_of (i := (130, 3, .if_icmp .ne 37, (84, 0, 0), 0)) (by decide +kernel)) (by decide) hc_z
    replace hc_z := rn_aload_n (am_cur_of (i := (167, 1, .aload_n 0, (0, 0, 0), 0)) (by decide +kernel)) g0_z hc_z
    replace hc_z := rn_iconst (w := 1) (am_cur_of (i := (168, 1, .iconst 1, (0, 0, 0), 0)) (by decide +kernel)) (by decide) hc_z
    replace hc_z := rn_callV (M' := am_m29) (o := 44) (ar := [.int 1]) (rest := []) (L := lv_args 0 [.ref 44, .int 1]) (am_cur_of (i := (169, 3, .invokevirtual 108, (29, 769, 3), 0)) (by decide +kernel)) rfl rfl rfl rfl hc_z
    obtain ⟨r1078_z, h1079_z, q1080_z, hc_z⟩ := hc_z
    obtain ⟨rfl, yq1080_z⟩ := rp_fail R4 q1080_z
    subst yq1080_z
    replace hc_z : rn _ _ _ _ [] _ _ _ := hc_z
    have K := rs_stick (w := 1) (q := p) (a := 51) (by decide) (by decide) rfl (by decide) rfl (show rg_v (am_up (am_up h 44 1 (.int 1)) 44 2 (.int (rg_v h 44 9))) 44 2 = p from R5) hc_z
    replace hm_z := rn_aload_n (am_cur_of (i := (0, 1, .aload_n 0, (0, 0, 0), 0)) (by decide +kernel)) g0m hm_z
    replace hm_z := rn_bipush (w := 40) (am_cur_of (i := (1, 2, .bipush 40, (0, 0, 0), 0)) (by decide +kernel)) (by decide) hm_z
    replace hm_z := rn_callV (M' := am_m171) (o := 164) (ar := [.int 40]) (rest := []) (L := lv_args 0 [.ref 164, .int 40]) (am_cur_of (i := (3, 3, .invokevirtual 194, (171, 1715, 3), 0)) (by decide +kernel)) rfl rfl rfl rfl hm_z
    obtain ⟨r1081_z, h1082_z, q1083_z, hm_z⟩ := hm_z
    obtain ⟨rfl, yq1083_z⟩ := rp_sgN (fun q => absurd (Eq.trans (Eq.symm kc) q.1) (by decide)) q1083_z
    subst yq1083_z
    replace hm_z : rn _ _ _ _ [.int 0] _ _ _ := hm_z
    replace hm_z := rn_ifT (am_cur_of (i := (6, 3, .ifCond .eq 44, (28, 0, 0), 0)) (by decide +kernel)) (by decide) hm_z
    replace hm_z := rn_aload_n (am_cur_of (i := (50, 1, .aload_n 0, (0, 0, 0), 0)) (by decide +kernel)) g0m hm_z
    replace hm_z := rn_bipush (w := 14) (am_cur_of (i := (51, 2, .bipush 14, (0, 0, 0), 0)) (by decide +kernel)) (by decide) hm_z
    replace hm_z := rn_callV (M' := am_m174) (o := 164) (ar := [.int 14]) (rest := []) (L := lv_args 0 [.ref 164, .int 14]) (am_cur_of (i := (53, 3, .invokevirtual 306, (174, 1727, 3), 0)) (by decide +kernel)) rfl rfl rfl rfl hm_z
    obtain ⟨r1084_z, h1085_z, q1086_z, hm_z⟩ := hm_z
    obtain ⟨rfl, yq1086_z⟩ := rp_kyN (fun q => absurd (Eq.trans (Eq.symm kc) q.1) (by decide)) q1086_z
    subst yq1086_z
    replace hm_z : rn _ _ _ _ [.int 0] _ _ _ := hm_z
    replace hm_z := rn_ifT (am_cur_of (i := (56, 3, .ifCond .eq 30, (47, 0, 0), 0)) (by decide +kernel)) (by decide) hm_z
    replace hm_z := rn_aload_n (am_cur_of (i := (86, 1, .aload_n 0, (0, 0, 0), 0)) (by decide +kernel)) g0m hm_z
    replace hm_z := rn_callV (M' := am_m176) (o := 164) (ar := []) (rest := []) (L := lv_args 0 [.ref 164]) (am_cur_of (i := (87, 3, .invokevirtual 312, (176, 1735, 3), 0)) (by decide +kernel)) rfl rfl rfl rfl hm_z
    obtain ⟨r1087_z, h1088_z, q1089_z, hm_z⟩ := hm_z
    obtain ⟨rfl, yq1089_z⟩ := rp_nm (c := 5) (d := 0) kc kd q1089_z
    replace yq1089_z := yq1089_z.symm
    subst yq1089_z
    rw [show rp_nmf 5 0 = (-1) from by unfold rp_nmf; rw [if_neg (by decide)]] at hm_z
    replace hm_z : rn _ _ _ _ [.int (-1)] _ _ _ := hm_z
    replace hm_z := rn_istore_n (am_cur_of (i := (90, 1, .istore_n 1, (0, 0, 0), 0)) (by decide +kernel)) hm_z
    obtain ⟨_, s1090_z, s1091_z, g1m, hm_z⟩ := hm_z
    replace g0m := s1090_z 0 _ (by decide) rfl g0m
    clear s1090_z s1091_z
    replace hm_z := rn_iload_n (am_cur_of (i := (91, 1, .iload_n 1, (0, 0, 0), 0)) (by decide +kernel)) g1m hm_z
    replace hm_z := rn_ifF (am_cur_of (i := (92, 3, .ifCond .ge 17, (60, 0, 0), 0)) (by decide +kernel)) (by decide) hm_z
    replace hm_z := rn_aload_n (am_cur_of (i := (95, 1, .aload_n 0, (0, 0, 0), 0)) (by decide +kernel)) g0m hm_z
    replace hm_z := rn_getI (v := 5) (am_cur_of (i := (96, 3, .getfield 157, (12, 8, 1392), 0)) (by decide +kernel)) (by decide +kernel) kc hm_z
    replace hm_z := rn_iconst (w := 3) (am_cur_of (i := (99, 1, .iconst 3, (0, 0, 0), 0)) (by decide +kernel)) (by decide) hm_z
    replace hm_z := rn_cmpF (am_cur_of (i := (100, 3, .if_icmp .eq 9, (60, 0, 0), 0)) (by decide +kernel)) (by decide) hm_z
    replace hm_z := rn_aload_n (am_cur_of (i := (103, 1, .aload_n 0, (0, 0, 0), 0)) (by decide +kernel)) g0m hm_z
    replace hm_z := rn_iconst (w := 1) (am_cur_of (i := (104, 1, .iconst 1, (0, 0, 0), 0)) (by decide +kernel)) (by decide) hm_z
    replace hm_z := rn_callV (M' := am_m158) (o := 164) (ar := [.int 1]) (rest := []) (L := lv_args 0 [.ref 164, .int 1]) (am_cur_of (i := (105, 3, .invokevirtual 181, (158, 1665, 3), 0)) (by decide +kernel)) rfl rfl rfl rfl hm_z
    obtain ⟨r1092_z, h1093_z, q1094_z, hm_z⟩ := hm_z
    obtain ⟨rfl, yq1094_z⟩ := rp_wrong q1094_z
    subst yq1094_z
    replace hm_z : rn _ _ _ _ [.int 0] _ _ _ := hm_z
    replace hm_z := rn_iret (am_cur_of (i := (108, 1, .ireturn, (0, 0, 0), 0)) (by decide +kernel)) hm_z
    obtain ⟨e1095_z, e1096_z⟩ := hm_z
    subst e1095_z e1096_z
    exact (Or.inr ⟨rfl, 1, by decide, K.1, K.2, rfl, R6⟩)
  · have g0_z : am_get (lv_args 0 [.ref 44, .int 0]) 0 = some (.ref 44) := rfl
    have g1_z : am_get (lv_args 0 [.ref 44, .int 0]) 1 = some (.int 0) := rfl
    have g0m : am_get (lv_args 0 [.ref 164]) 0 = some (.ref 164) := rfl
    have Rk := R
    have Zk := Z
    obtain ⟨⟨c1_z, c2_z, c3_z, c4_z, c5_z, c6_z, c7_z, c8_z⟩, ⟨m2_z, m3_z, m4_z, m5_z, m6_z, m7_z, m8_z⟩, R3, R4, R5, R6, R7, R8, R9, R10⟩ := (R : rq T S x p 2 h g)
    obtain ⟨np, op, z1_z, z2_z, z3_z, z4_z, z5_z, z6_z, z7_z, z8_z, z9_z, z10_z⟩ := (Z : rs 2 h g)
    obtain ⟨nk1_z, nk2_z, nk3_z⟩ := A.2.2.2.2.2.1
    replace nk1_z : rg_v h 11 0 = rg_v g 164 44 := nk1_z
    replace nk2_z : 0 ≤ (rg_v h 11 0).toInt := nk2_z
    replace nk3_z : (rg_v h 11 0).toInt ≤ 64 := nk3_z
    replace z8_z : np.toInt ≤ (rg_v h 11 0).toInt + op.toInt := z8_z
    obtain ⟨kn, ekn⟩ : ∃ v, rg_v h 11 0 = v := ⟨_, rfl⟩
    rw [ekn] at nk1_z nk2_z nk3_z z8_z
    have e9_z := rt_c1 (x := kn) (by omega) (by omega)
    replace hc_z := rn_aload_n (am_cur_of (i := (0, 1, .aload_n 0, (0, 0, 0), 0)) (by decide +kernel)) g0_z hc_z
    replace hc_z := rn_getI (v := 6) (am_cur_of (i := (1, 3, .getfield 60, (4, 10, 419), 0)) (by decide +kernel)) (by decide +kernel) ka hc_z
    replace hc_z := rn_bipush (w := 6) (am_cur_of (i := (4, 2, .bipush 6, (0, 0, 0), 0)) (by decide +kernel)) (by decide) hc_z
    replace hc_z := rn_cmpF (am_cur_of (i := (6, 3, .if_icmp .ne 30, (19, 0, 0), 0)) (by decide +kernel)) (by decide) hc_z
    replace hc_z := rn_aload_n (am_cur_of (i := (9, 1, .aload_n 0, (0, 0, 0), 0)) (by decide +kernel)) g0_z hc_z
    replace hc_z := rn_getI (v := 7) (am_cur_of (i := (10, 3, .getfield 91, (4, 11, 420), 0)) (by decide +kernel)) (by decide +kernel) kb hc_z
    replace hc_z := rn_iconst (w := 5) (am_cur_of (i := (13, 1, .iconst 5, (0, 0, 0), 0)) (by decide +kernel)) (by decide) hc_z
    replace hc_z := rn_cmpT (am_cur_of (i := (14, 3, .if_icmp .ne 22, (19, 0, 0), 0)) (by decide +kernel)) (by decide) hc_z
    replace hc_z := rn_aload_n (am_cur_of (i := (36, 1, .aload_n 0, (0, 0, 0), 0)) (by decide +kernel)) g0_z hc_z
    replace hc_z := rn_bipush (w := 40) (am_cur_of (i := (37, 2, .bipush 40, (0, 0, 0), 0)) (by decide +kernel)) (by decide) hc_z
    replace hc_z := rn_callV (M' := am_m45) (o := 44) (ar := [.int 40]) (rest := []) (L := lv_args 0 [.ref 44, .int 40]) (am_cur_of (i := (39, 3, .invokevirtual 105, (45, 834, 3), 0)) (by decide +kernel)) rfl rfl rfl rfl hc_z
    obtain ⟨r1097_z, h1098_z, q1099_z, hc_z⟩ := hc_z
    obtain ⟨rfl, yq1099_z⟩ := rp_mkN (fun q => absurd (Eq.trans (Eq.symm ka) q.1) (by decide)) q1099_z
    subst yq1099_z
    replace hc_z : rn _ _ _ _ [.int 0] _ _ _ := hc_z
    replace hc_z := rn_ifT (am_cur_of (i := (42, 3, .ifCond .eq 38, (43, 0, 0), 0)) (by decide +kernel)) (by decide) hc_z
    replace hc_z := rn_aload_n (am_cur_of (i := (80, 1, .aload_n 0, (0, 0, 0), 0)) (by decide +kernel)) g0_z hc_z
    replace hc_z := rn_getI (v := 6) (am_cur_of (i := (81, 3, .getfield 60, (4, 10, 419), 0)) (by decide +kernel)) (by decide +kernel) ka hc_z
    replace hc_z := rn_iconst (w := 4) (am_cur_of (i := (84, 1, .iconst 4, (0, 0, 0), 0)) (by decide +kernel)) (by decide) hc_z
    replace hc_z := rn_cmpT (am_cur_of (i := (85, 3, .if_icmp .ne 40, (64, 0, 0), 0)) (by decide +kernel)) (by decide) hc_z
    replace hc_z := rn_aload_n (am_cur_of (i := (125, 1, .aload_n 0, (0, 0, 0), 0)) (by decide +kernel)) g0_z hc_z
    replace hc_z := rn_getI (v := 6) (am_cur_of (i := (126, 3, .getfield 60, (4, 10, 419), 0)) (by decide +kernel)) (by decide +kernel) ka hc_z
    replace hc_z := rn_iconst (w := 2) (am_cur_of (i := (129, 1, .iconst 2, (0, 0, 0), 0)) (by decide +kernel)) (by decide) hc_z
    replace hc_z := rn_cmpT (am_cur_of (i := (130, 3, .if_icmp .ne 37, (84, 0, 0), 0)) (by decide +kernel)) (by decide) hc_z
    replace hc_z := rn_aload_n (am_cur_of (i := (167, 1, .aload_n 0, (0, 0, 0), 0)) (by decide +kernel)) g0_z hc_z
    replace hc_z := rn_iconst (w := 1) (am_cur_of (i := (168, 1, .iconst 1, (0, 0, 0), 0)) (by decide +kernel)) (by decide) hc_z
    replace hc_z := rn_callV (M' := am_m29) (o := 44) (ar := [.int 1]) (rest := []) (L := lv_args 0 [.ref 44, .int 1]) (am_cur_of (i := (169, 3, .invokevirtual 108, (29, 769, 3), 0)) (by decide +kernel)) rfl rfl rfl rfl hc_z
    obtain ⟨r1100_z, h1101_z, q1102_z, hc_z⟩ := hc_z
    obtain ⟨rfl, yq1102_z⟩ := rp_fail R4 q1102_z
    subst yq1102_z
    replace hc_z : rn _ _ _ _ [] _ _ _ := hc_z
    have K := rs_stick (w := 1) (q := p) (a := 51) (by decide) (by decide) rfl (by decide) rfl (show rg_v (am_up (am_up h 44 1 (.int 1)) 44 2 (.int (rg_v h 44 9))) 44 2 = p from R5) hc_z
    replace hm_z := rn_aload_n (am_cur_of (i := (0, 1, .aload_n 0, (0, 0, 0), 0)) (by decide +kernel)) g0m hm_z
    replace hm_z := rn_bipush (w := 40) (am_cur_of (i := (1, 2, .bipush 40, (0, 0, 0), 0)) (by decide +kernel)) (by decide) hm_z
    replace hm_z := rn_callV (M' := am_m171) (o := 164) (ar := [.int 40]) (rest := []) (L := lv_args 0 [.ref 164, .int 40]) (am_cur_of (i := (3, 3, .invokevirtual 194, (171, 1715, 3), 0)) (by decide +kernel)) rfl rfl rfl rfl hm_z
    obtain ⟨r1103_z, h1104_z, q1105_z, hm_z⟩ := hm_z
    obtain ⟨rfl, yq1105_z⟩ := rp_sgN (fun q => absurd (Eq.trans (Eq.symm kc) q.1) (by decide)) q1105_z
    subst yq1105_z
    replace hm_z : rn _ _ _ _ [.int 0] _ _ _ := hm_z
    replace hm_z := rn_ifT (am_cur_of (i := (6, 3, .ifCond .eq 44, (28, 0, 0), 0)) (by decide +kernel)) (by decide) hm_z
    replace hm_z := rn_aload_n (am_cur_of (i := (50, 1, .aload_n 0, (0, 0, 0), 0)) (by decide +kernel)) g0m hm_z
    replace hm_z := rn_bipush (w := 14) (am_cur_of (i := (51, 2, .bipush 14, (0, 0, 0), 0)) (by decide +kernel)) (by decide) hm_z
    replace hm_z := rn_callV (M' := am_m174) (o := 164) (ar := [.int 14]) (rest := []) (L := lv_args 0 [.ref 164, .int 14]) (am_cur_of (i := (53, 3, .invokevirtual 306, (174, 1727, 3), 0)) (by decide +kernel)) rfl rfl rfl rfl hm_z
    obtain ⟨r1106_z, h1107_z, q1108_z, hm_z⟩ := hm_z
    obtain ⟨rfl, yq1108_z⟩ := rp_kyN (fun q => absurd (Eq.trans (Eq.symm kc) q.1) (by decide)) q1108_z
    subst yq1108_z
    replace hm_z : rn _ _ _ _ [.int 0] _ _ _ := hm_z
    replace hm_z := rn_ifT (am_cur_of (i := (56, 3, .ifCond .eq 30, (47, 0, 0), 0)) (by decide +kernel)) (by decide) hm_z
    replace hm_z := rn_aload_n (am_cur_of (i := (86, 1, .aload_n 0, (0, 0, 0), 0)) (by decide +kernel)) g0m hm_z
    replace hm_z := rn_callV (M' := am_m176) (o := 164) (ar := []) (rest := []) (L := lv_args 0 [.ref 164]) (am_cur_of (i := (87, 3, .invokevirtual 312, (176, 1735, 3), 0)) (by decide +kernel)) rfl rfl rfl rfl hm_z
    obtain ⟨r1109_z, h1110_z, q1111_z, hm_z⟩ := hm_z
    obtain ⟨rfl, yq1111_z⟩ := rp_nm (c := 5) (d := 1) kc kd q1111_z
    replace yq1111_z := yq1111_z.symm
    subst yq1111_z
    rw [show rp_nmf 5 1 = (-1) from by unfold rp_nmf; rw [if_neg (by decide)]] at hm_z
    replace hm_z : rn _ _ _ _ [.int (-1)] _ _ _ := hm_z
    replace hm_z := rn_istore_n (am_cur_of (i := (90, 1, .istore_n 1, (0, 0, 0), 0)) (by decide +kernel)) hm_z
    obtain ⟨_, s1112_z, s1113_z, g1m, hm_z⟩ := hm_z
    replace g0m := s1112_z 0 _ (by decide) rfl g0m
    clear s1112_z s1113_z
    replace hm_z := rn_iload_n (am_cur_of (i := (91, 1, .iload_n 1, (0, 0, 0), 0)) (by decide +kernel)) g1m hm_z
    replace hm_z := rn_ifF (am_cur_of (i := (92, 3, .ifCond .ge 17, (60, 0, 0), 0)) (by decide +kernel)) (by decide) hm_z
    replace hm_z := rn_aload_n (am_cur_of (i := (95, 1, .aload_n 0, (0, 0, 0), 0)) (by decide +kernel)) g0m hm_z
    replace hm_z := rn_getI (v := 5) (am_cur_of (i := (96, 3, .getfield 157, (12, 8, 1392), 0)) (by decide +kernel)) (by decide +kernel) kc hm_z
    replace hm_z := rn_iconst (w := 3) (am_cur_of (i := (99, 1, .iconst 3, (0, 0, 0), 0)) (by decide +kernel)) (by decide) hm_z
    replace hm_z := rn_cmpF (am_cur_of (i := (100, 3, .if_icmp .eq 9, (60, 0, 0), 0)) (by decide +kernel)) (by decide) hm_z
    replace hm_z := rn_aload_n (am_cur_of (i := (103, 1, .aload_n 0, (0, 0, 0), 0)) (by decide +kernel)) g0m hm_z
    replace hm_z := rn_iconst (w := 1) (am_cur_of (i := (104, 1, .iconst 1, (0, 0, 0), 0)) (by decide +kernel)) (by decide) hm_z
    replace hm_z := rn_callV (M' := am_m158) (o := 164) (ar := [.int 1]) (rest := []) (L := lv_args 0 [.ref 164, .int 1]) (am_cur_of (i := (105, 3, .invokevirtual 181, (158, 1665, 3), 0)) (by decide +kernel)) rfl rfl rfl rfl hm_z
    obtain ⟨r1114_z, h1115_z, q1116_z, hm_z⟩ := hm_z
    obtain ⟨rfl, yq1116_z⟩ := rp_wrong q1116_z
    subst yq1116_z
    replace hm_z : rn _ _ _ _ [.int 0] _ _ _ := hm_z
    replace hm_z := rn_iret (am_cur_of (i := (108, 1, .ireturn, (0, 0, 0), 0)) (by decide +kernel)) hm_z
    obtain ⟨e1117_z, e1118_z⟩ := hm_z
    subst e1117_z e1118_z
    exact (Or.inr ⟨rfl, 1, by decide, K.1, K.2, rfl, R6⟩)
  · have g0_z : am_get (lv_args 0 [.ref 44, .int 0]) 0 = some (.ref 44) := rfl
    have g1_z : am_get (lv_args 0 [.ref 44, .int 0]) 1 = some (.int 0) := rfl
    have g0m : am_get (lv_args 0 [.ref 164]) 0 = some (.ref 164) := rfl
    have Rk := R
    have Zk := Z
    obtain ⟨⟨c1_z, c2_z, c3_z, c4_z, c5_z, c6_z, c7_z, c8_z⟩, ⟨m2_z, m3_z, m4_z, m5_z, m6_z, m7_z, m8_z⟩, R3, R4, R5, R6, R7, R8, R9, R10⟩ := (R : rq T S x p 2 h g)
    obtain ⟨np, op, z1_z, z2_z, z3_z, z4_z, z5_z, z6_z, z7_z, z8_z, z9_z, z10_z⟩ := (Z : rs 2 h g)
    obtain ⟨nk1_z, nk2_z, nk3_z⟩ := A.2.2.2.2.2.1
    replace nk1_z : rg_v h 11 0 = rg_v g 164 44 := nk1_z
    replace nk2_z : 0 ≤ (rg_v h 11 0).toInt := nk2_z
    replace nk3_z : (rg_v h 11 0).toInt ≤ 64 := nk3_z
    replace z8_z : np.toInt ≤ (rg_v h 11 0).toInt + op.toInt := z8_z
    obtain ⟨kn, ekn⟩ : ∃ v, rg_v h 11 0 = v := ⟨_, rfl⟩
    rw [ekn] at nk1_z nk2_z nk3_z z8_z
    have e9_z := rt_c1 (x := kn) (by omega) (by omega)
    replace hc_z := rn_aload_n (am_cur_of (i := (0, 1, .aload_n 0, (0, 0, 0), 0)) (by decide +kernel)) g0_z hc_z
    replace hc_z := rn_getI (v := 6) (am_cur_of (i := (1, 3, .getfield 60, (4, 10, 419), 0)) (by decide +kernel)) (by decide +kernel) ka hc_z
    replace hc_z := rn_bipush (w := 6) (am_cur_of (i := (4, 2, .bipush 6, (0, 0, 0), 0)) (by decide +kernel)) (by decide) hc_z
    replace hc_z := rn_cmpF (am_cur_of (i := (6, 3, .if_icmp .ne 30, (19, 0, 0), 0)) (by decide +kernel)) (by decide) hc_z
    replace hc_z := rn_aload_n (am_cur_of (i := (9, 1, .aload_n 0, (0, 0, 0), 0)) (by decide +kernel)) g0_z hc_z
    replace hc_z := rn_getI (v := 8) (am_cur_of (i := (10, 3, .getfield 91, (4, 11, 420), 0)) (by decide +kernel)) (by decide +kernel) kb hc_z
    replace hc_z := rn_iconst (w := 5) (am_cur_of (i := (13, 1, .iconst 5, (0, 0, 0), 0)) (by decide +kernel)) (by decide) hc_z
    replace hc_z := rn_cmpT (am_cur_of (i := (14, 3, .if_icmp .ne 22, (19, 0, 0), 0)) (by decide +kernel)) (by decide) hc_z
    replace hc_z := rn_aload_n (am_cur_of (i := (36, 1, .aload_n 0, (0, 0, 0), 0)) (by decide +kernel)) g0_z hc_z
    replace hc_z := rn_bipush (w := 40) (am_cur_of (i := (37, 2, .bipush 40, (0, 0, 0), 0)) (by decide +kernel)) (by decide) hc_z
    replace hc_z := rn_callV (M' := am_m45) (o := 44) (ar := [.int 40]) (rest := []) (L := lv_args 0 [.ref 44, .int 40]) (am_cur_of (i := (39, 3, .invokevirtual 105, (45, 834, 3), 0)) (by decide +kernel)) rfl rfl rfl rfl hc_z
    obtain ⟨r1119_z, h1120_z, q1121_z, hc_z⟩ := hc_z
    obtain ⟨rfl, yq1121_z⟩ := rp_mkN (fun q => absurd (Eq.trans (Eq.symm ka) q.1) (by decide)) q1121_z
    subst yq1121_z
    replace hc_z : rn _ _ _ _ [.int 0] _ _ _ := hc_z
    replace hc_z := rn_ifT (am_cur_of (i := (42, 3, .ifCond .eq 38, (43, 0, 0), 0)) (by decide +kernel)) (by decide) hc_z
    replace hc_z := rn_aload_n (am_cur_of (i := (80, 1, .aload_n 0, (0, 0, 0), 0)) (by decide +kernel)) g0_z hc_z
    replace hc_z := rn_getI (v := 6) (am_cur_of (i := (81, 3, .getfield 60, (4, 10, 419), 0)) (by decide +kernel)) (by decide +kernel) ka hc_z
    replace hc_z := rn_iconst (w := 4) (am_cur_of (i := (84, 1, .iconst 4, (0, 0, 0), 0)) (by decide +kernel)) (by decide) hc_z
    replace hc_z := rn_cmpT (am_cur_of (i := (85, 3, .if_icmp .ne 40, (64, 0, 0), 0)) (by decide +kernel)) (by decide) hc_z
    replace hc_z := rn_aload_n (am_cur_of (i := (125, 1, .aload_n 0, (0, 0, 0), 0)) (by decide +kernel)) g0_z hc_z
    replace hc_z := rn_getI (v := 6) (am_cur_of (i := (126, 3, .getfield 60, (4, 10, 419), 0)) (by decide +kernel)) (by decide +kernel) ka hc_z
    replace hc_z := rn_iconst (w := 2) (am_cur_of (i := (129, 1, .iconst 2, (0, 0, 0), 0)) (by decide +kernel)) (by decide) hc_z
    replace hc_z := rn_cmpT (am_cur_of (i := (130, 3, .if_icmp .ne 37, (84, 0, 0), 0)) (by decide +kernel)) (by decide) hc_z
    replace hc_z := rn_aload_n (am_cur_of (i := (167, 1, .aload_n 0, (0, 0, 0), 0)) (by decide +kernel)) g0_z hc_z
    replace hc_z := rn_iconst (w := 1) (am_cur_of (i := (168, 1, .iconst 1, (0, 0, 0), 0)) (by decide +kernel)) (by decide) hc_z
    replace hc_z := rn_callV (M' := am_m29) (o := 44) (ar := [.int 1]) (rest := []) (L := lv_args 0 [.ref 44, .int 1]) (am_cur_of (i := (169, 3, .invokevirtual 108, (29, 769, 3), 0)) (by decide +kernel)) rfl rfl rfl rfl hc_z
    obtain ⟨r1122_z, h1123_z, q1124_z, hc_z⟩ := hc_z
    obtain ⟨rfl, yq1124_z⟩ := rp_fail R4 q1124_z
    subst yq1124_z
    replace hc_z : rn _ _ _ _ [] _ _ _ := hc_z
    have K := rs_stick (w := 1) (q := p) (a := 51) (by decide) (by decide) rfl (by decide) rfl (show rg_v (am_up (am_up h 44 1 (.int 1)) 44 2 (.int (rg_v h 44 9))) 44 2 = p from R5) hc_z
    replace hm_z := rn_aload_n (am_cur_of (i := (0, 1, .aload_n 0, (0, 0, 0), 0)) (by decide +kernel)) g0m hm_z
    replace hm_z := rn_bipush (w := 40) (am_cur_of (i := (1, 2, .bipush 40, (0, 0, 0), 0)) (by decide +kernel)) (by decide) hm_z
    replace hm_z := rn_callV (M' := am_m171) (o := 164) (ar := [.int 40]) (rest := []) (L := lv_args 0 [.ref 164, .int 40]) (am_cur_of (i := (3, 3, .invokevirtual 194, (171, 1715, 3), 0)) (by decide +kernel)) rfl rfl rfl rfl hm_z
    obtain ⟨r1125_z, h1126_z, q1127_z, hm_z⟩ := hm_z
    obtain ⟨rfl, yq1127_z⟩ := rp_sgN (fun q => absurd (Eq.trans (Eq.symm kc) q.1) (by decide)) q1127_z
    subst yq1127_z
    replace hm_z : rn _ _ _ _ [.int 0] _ _ _ := hm_z
    replace hm_z := rn_ifT (am_cur_of (i := (6, 3, .ifCond .eq 44, (28, 0, 0), 0)) (by decide +kernel)) (by decide) hm_z
    replace hm_z := rn_aload_n (am_cur_of (i := (50, 1, .aload_n 0, (0, 0, 0), 0)) (by decide +kernel)) g0m hm_z
    replace hm_z := rn_bipush (w := 14) (am_cur_of (i := (51, 2, .bipush 14, (0, 0, 0), 0)) (by decide +kernel)) (by decide) hm_z
    replace hm_z := rn_callV (M' := am_m174) (o := 164) (ar := [.int 14]) (rest := []) (L := lv_args 0 [.ref 164, .int 14]) (am_cur_of (i := (53, 3, .invokevirtual 306, (174, 1727, 3), 0)) (by decide +kernel)) rfl rfl rfl rfl hm_z
    obtain ⟨r1128_z, h1129_z, q1130_z, hm_z⟩ := hm_z
    obtain ⟨rfl, yq1130_z⟩ := rp_kyN (fun q => absurd (Eq.trans (Eq.symm kc) q.1) (by decide)) q1130_z
    subst yq1130_z
    replace hm_z : rn _ _ _ _ [.int 0] _ _ _ := hm_z
    replace hm_z := rn_ifT (am_cur_of (i := (56, 3, .ifCond .eq 30, (47, 0, 0), 0)) (by decide +kernel)) (by decide) hm_z
    replace hm_z := rn_aload_n (am_cur_of (i := (86, 1, .aload_n 0, (0, 0, 0), 0)) (by decide +kernel)) g0m hm_z
    replace hm_z := rn_callV (M' := am_m176) (o := 164) (ar := []) (rest := []) (L := lv_args 0 [.ref 164]) (am_cur_of (i := (87, 3, .invokevirtual 312, (176, 1735, 3), 0)) (by decide +kernel)) rfl rfl rfl rfl hm_z
    obtain ⟨r1131_z, h1132_z, q1133_z, hm_z⟩ := hm_z
    obtain ⟨rfl, yq1133_z⟩ := rp_nm (c := 5) (d := 2) kc kd q1133_z
    replace yq1133_z := yq1133_z.symm
    subst yq1133_z
    rw [show rp_nmf 5 2 = (-1) from by unfold rp_nmf; rw [if_neg (by decide)]] at hm_z
    replace hm_z : rn _ _ _ _ [.int (-1)] _ _ _ := hm_z
    replace hm_z := rn_istore_n (am_cur_of (i := (90, 1, .istore_n 1, (0, 0, 0), 0)) (by decide +kernel)) hm_z
    obtain ⟨_, s1134_z, s1135_z, g1m, hm_z⟩ := hm_z
    replace g0m := s1134_z 0 _ (by decide) rfl g0m
    clear s1134_z s1135_z
    replace hm_z := rn_iload_n (am_cur_of (i := (91, 1, .iload_n 1, (0, 0, 0), 0)) (by decide +kernel)) g1m hm_z
    replace hm_z := rn_ifF (am_cur_of (i := (92, 3, .ifCond .ge 17, (60, 0, 0), 0)) (by decide +kernel)) (by decide) hm_z
    replace hm_z := rn_aload_n (am_cur_of (i := (95, 1, .aload_n 0, (0, 0, 0), 0)) (by decide +kernel)) g0m hm_z
    replace hm_z := rn_getI (v := 5) (am_cur_of (i := (96, 3, .getfield 157, (12, 8, 1392), 0)) (by decide +kernel)) (by decide +kernel) kc hm_z
    replace hm_z := rn_iconst (w := 3) (am_cur_of (i := (99, 1, .iconst 3, (0, 0, 0), 0)) (by decide +kernel)) (by decide) hm_z
    replace hm_z := rn_cmpF (am_cur_of (i := (100, 3, .if_icmp .eq 9, (60, 0, 0), 0)) (by decide +kernel)) (by decide) hm_z
    replace hm_z := rn_aload_n (am_cur_of (i := (103, 1, .aload_n 0, (0, 0, 0), 0)) (by decide +kernel)) g0m hm_z
    replace hm_z := rn_iconst (w := 1) (am_cur_of (i := (104, 1, .iconst 1, (0, 0, 0), 0)) (by decide +kernel)) (by decide) hm_z
    replace hm_z := rn_callV (M' := am_m158) (o := 164) (ar := [.int 1]) (rest := []) (L := lv_args 0 [.ref 164, .int 1]) (am_cur_of (i := (105, 3, .invokevirtual 181, (158, 1665, 3), 0)) (by decide +kernel)) rfl rfl rfl rfl hm_z
    obtain ⟨r1136_z, h1137_z, q1138_z, hm_z⟩ := hm_z
    obtain ⟨rfl, yq1138_z⟩ := rp_wrong q1138_z
    subst yq1138_z
    replace hm_z : rn _ _ _ _ [.int 0] _ _ _ := hm_z
    replace hm_z := rn_iret (am_cur_of (i := (108, 1, .ireturn, (0, 0, 0), 0)) (by decide +kernel)) hm_z
    obtain ⟨e1139_z, e1140_z⟩ := hm_z
    subst e1139_z e1140_z
    exact (Or.inr ⟨rfl, 1, by decide, K.1, K.2, rfl, R6⟩)
  · have g0_z : am_get (lv_args 0 [.ref 44, .int 0]) 0 = some (.ref 44) := rfl
    have g1_z : am_get (lv_args 0 [.ref 44, .int 0]) 1 = some (.int 0) := rfl
    have g0m : am_get (lv_args 0 [.ref 164]) 0 = some (.ref 164) := rfl
    have Rk := R
    have Zk := Z
    obtain ⟨⟨c1_z, c2_z, c3_z, c4_z, c5_z, c6_z, c7_z, c8_z⟩, ⟨m2_z, m3_z, m4_z, m5_z, m6_z, m7_z, m8_z⟩, R3, R4, R5, R6, R7, R8, R9, R10⟩ := (R : rq T S x p 2 h g)
    obtain ⟨np, op, z1_z, z2_z, z3_z, z4_z, z5_z, z6_z, z7_z, z8_z, z9_z, z10_z⟩ := (Z : rs 2 h g)
    obtain ⟨nk1_z, nk2_z, nk3_z⟩ := A.2.2.2.2.2.1
    replace nk1_z : rg_v h 11 0 = rg_v g 164 44 := nk1_z
    replace nk2_z : 0 ≤ (rg_v h 11 0).toInt := nk2_z
    replace nk3_z : (rg_v h 11 0).toInt ≤ 64 := nk3_z
    replace z8_z : np.toInt ≤ (rg_v h 11 0).toInt + op.toInt := z8_z
    obtain ⟨kn, ekn⟩ : ∃ v, rg_v h 11 0 = v := ⟨_, rfl⟩
    rw [ekn] at nk1_z nk2_z nk3_z z8_z
    have e9_z := rt_c1 (x := kn) (by omega) (by omega)
    replace hc_z := rn_aload_n (am_cur_of (i := (0, 1, .aload_n 0, (0, 0, 0), 0)) (by decide +kernel)) g0_z hc_z
    replace hc_z := rn_getI (v := 6) (am_cur_of (i := (1, 3, .getfield 60, (4, 10, 419), 0)) (by decide +kernel)) (by decide +kernel) ka hc_z
    replace hc_z := rn_bipush (w := 6) (am_cur_of (i := (4, 2, .bipush 6, (0, 0, 0), 0)) (by decide +kernel)) (by decide) hc_z
    replace hc_z := rn_cmpF (am_cur_of (i := (6, 3, .if_icmp .ne 30, (19, 0, 0), 0)) (by decide +kernel)) (by decide) hc_z
    replace hc_z := rn_aload_n (am_cur_of (i := (9, 1, .aload_n 0, (0, 0, 0), 0)) (by decide +kernel)) g0_z hc_z
    replace hc_z := rn_getI (v := 9) (am_cur_of (i := (10, 3, .getfield 91, (4, 11, 420), 0)) (by decide +kernel)) (by decide +kernel) kb hc_z
    replace hc_z := rn_iconst (w := 5) (am_cur_of (i := (13, 1, .iconst 5, (0, 0, 0), 0)) (by decide +kernel)) (by decide) hc_z
    replace hc_z := rn_cmpT (am_cur_of (i := (14, 3, .if_icmp .ne 22, (19, 0, 0), 0)) (by decide +kernel)) (by decide) hc_z
    replace hc_z := rn_aload_n (am_cur_of (i := (36, 1, .aload_n 0, (0, 0, 0), 0)) (by decide +kernel)) g0_z hc_z
    replace hc_z := rn_bipush (w := 40) (am_cur_of (i := (37, 2, .bipush 40, (0, 0, 0), 0)) (by decide +kernel)) (by decide) hc_z
    replace hc_z := rn_callV (M' := am_m45) (o := 44) (ar := [.int 40]) (rest := []) (L := lv_args 0 [.ref 44, .int 40]) (am_cur_of (i := (39, 3, .invokevirtual 105, (45, 834, 3), 0)) (by decide +kernel)) rfl rfl rfl rfl hc_z
    obtain ⟨r1141_z, h1142_z, q1143_z, hc_z⟩ := hc_z
    obtain ⟨rfl, yq1143_z⟩ := rp_mkN (fun q => absurd (Eq.trans (Eq.symm ka) q.1) (by decide)) q1143_z
    subst yq1143_z
    replace hc_z : rn _ _ _ _ [.int 0] _ _ _ := hc_z
    replace hc_z := rn_ifT (am_cur_of (i := (42, 3, .ifCond .eq 38, (43, 0, 0), 0)) (by decide +kernel)) (by decide) hc_z
    replace hc_z := rn_aload_n (am_cur_of (i := (80, 1, .aload_n 0, (0, 0, 0), 0)) (by decide +kernel)) g0_z hc_z
    replace hc_z := rn_getI (v := 6) (am_cur_of (i := (81, 3, .getfield 60, (4, 10, 419), 0)) (by decide +kernel)) (by decide +kernel) ka hc_z
    replace hc_z := rn_iconst (w := 4) (am_cur_of (i := (84, 1, .iconst 4, (0, 0, 0), 0)) (by decide +kernel)) (by decide) hc_z
    replace hc_z := rn_cmpT (am_cur_of (i := (85, 3, .if_icmp .ne 40, (64, 0, 0), 0)) (by decide +kernel)) (by decide) hc_z
    replace hc_z := rn_aload_n (am_cur_of (i := (125, 1, .aload_n 0, (0, 0, 0), 0)) (by decide +kernel)) g0_z hc_z
    replace hc_z := rn_getI (v := 6) (am_cur_of (i := (126, 3, .getfield 60, (4, 10, 419), 0)) (by decide +kernel)) (by decide +kernel) ka hc_z
    replace hc_z := rn_iconst (w := 2) (am_cur_of (i := (129, 1, .iconst 2, (0, 0, 0), 0)) (by decide +kernel)) (by decide) hc_z
    replace hc_z := rn_cmpT (am_cur_of (i := (130, 3, .if_icmp .ne 37, (84, 0, 0), 0)) (by decide +kernel)) (by decide) hc_z
    replace hc_z := rn_aload_n (am_cur_of (i := (167, 1, .aload_n 0, (0, 0, 0), 0)) (by decide +kernel)) g0_z hc_z
    replace hc_z := rn_iconst (w := 1) (am_cur_of (i := (168, 1, .iconst 1, (0, 0, 0), 0)) (by decide +kernel)) (by decide) hc_z
    replace hc_z := rn_callV (M' := am_m29) (o := 44) (ar := [.int 1]) (rest := []) (L := lv_args 0 [.ref 44, .int 1]) (am_cur_of (i := (169, 3, .invokevirtual 108, (29, 769, 3), 0)) (by decide +kernel)) rfl rfl rfl rfl hc_z
    obtain ⟨r1144_z, h1145_z, q1146_z, hc_z⟩ := hc_z
    obtain ⟨rfl, yq1146_z⟩ := rp_fail R4 q1146_z
    subst yq1146_z
    replace hc_z : rn _ _ _ _ [] _ _ _ := hc_z
    have K := rs_stick (w := 1) (q := p) (a := 51) (by decide) (by decide) rfl (by decide) rfl (show rg_v (am_up (am_up h 44 1 (.int 1)) 44 2 (.int (rg_v h 44 9))) 44 2 = p from R5) hc_z
    replace hm_z := rn_aload_n (am_cur_of (i := (0, 1, .aload_n 0, (0, 0, 0), 0)) (by decide +kernel)) g0m hm_z
    replace hm_z := rn_bipush (w := 40) (am_cur_of (i := (1, 2, .bipush 40, (0, 0, 0), 0)) (by decide +kernel)) (by decide) hm_z
    replace hm_z := rn_callV (M' := am_m171) (o := 164) (ar := [.int 40]) (rest := []) (L := lv_args 0 [.ref 164, .int 40]) (am_cur_of (i := (3, 3, .invokevirtual 194, (171, 1715, 3), 0)) (by decide +kernel)) rfl rfl rfl rfl hm_z
    obtain ⟨r1147_z, h1148_z, q1149_z, hm_z⟩ := hm_z
    obtain ⟨rfl, yq1149_z⟩ := rp_sgN (fun q => absurd (Eq.trans (Eq.symm kc) q.1) (by decide)) q1149_z
    subst yq1149_z
    replace hm_z : rn _ _ _ _ [.int 0] _ _ _ := hm_z
    replace hm_z := rn_ifT (am_cur_of (i := (6, 3, .ifCond .eq 44, (28, 0, 0), 0)) (by decide +kernel)) (by decide) hm_z
    replace hm_z := rn_aload_n (am_cur_of (i := (50, 1, .aload_n 0, (0, 0, 0), 0)) (by decide +kernel)) g0m hm_z
    replace hm_z := rn_bipush (w := 14) (am_cur_of (i := (51, 2, .bipush 14, (0, 0, 0), 0)) (by decide +kernel)) (by decide) hm_z
    replace hm_z := rn_callV (M' := am_m174) (o := 164) (ar := [.int 14]) (rest := []) (L := lv_args 0 [.ref 164, .int 14]) (am_cur_of (i := (53, 3, .invokevirtual 306, (174, 1727, 3), 0)) (by decide +kernel)) rfl rfl rfl rfl hm_z
    obtain ⟨r1150_z, h1151_z, q1152_z, hm_z⟩ := hm_z
    obtain ⟨rfl, yq1152_z⟩ := rp_kyN (fun q => absurd (Eq.trans (Eq.symm kc) q.1) (by decide)) q1152_z
    subst yq1152_z
    replace hm_z : rn _ _ _ _ [.int 0] _ _ _ := hm_z
    replace hm_z := rn_ifT (am_cur_of (i := (56, 3, .ifCond .eq 30, (47, 0, 0), 0)) (by decide +kernel)) (by decide) hm_z
    replace hm_z := rn_aload_n (am_cur_of (i := (86, 1, .aload_n 0, (0, 0, 0), 0)) (by decide +kernel)) g0m hm_z
    replace hm_z := rn_callV (M' := am_m176) (o := 164) (ar := []) (rest := []) (L := lv_args 0 [.ref 164]) (am_cur_of (i := (87, 3, .invokevirtual 312, (176, 1735, 3), 0)) (by decide +kernel)) rfl rfl rfl rfl hm_z
    obtain ⟨r1153_z, h1154_z, q1155_z, hm_z⟩ := hm_z
    obtain ⟨rfl, yq1155_z⟩ := rp_nm (c := 5) (d := 3) kc kd q1155_z
    replace yq1155_z := yq1155_z.symm
    subst yq1155_z
    rw [show rp_nmf 5 3 = (-1) from by unfold rp_nmf; rw [if_neg (by decide)]] at hm_z
    replace hm_z : rn _ _ _ _ [.int (-1)] _ _ _ := hm_z
    replace hm_z := rn_istore_n (am_cur_of (i := (90, 1, .istore_n 1, (0, 0, 0), 0)) (by decide +kernel)) hm_z
    obtain ⟨_, s1156_z, s1157_z, g1m, hm_z⟩ := hm_z
    replace g0m := s1156_z 0 _ (by decide) rfl g0m
    clear s1156_z s1157_z
    replace hm_z := rn_iload_n (am_cur_of (i := (91, 1, .iload_n 1, (0, 0, 0), 0)) (by decide +kernel)) g1m hm_z
    replace hm_z := rn_ifF (am_cur_of (i := (92, 3, .ifCond .ge 17, (60, 0, 0), 0)) (by decide +kernel)) (by decide) hm_z
    replace hm_z := rn_aload_n (am_cur_of (i := (95, 1, .aload_n 0, (0, 0, 0), 0)) (by decide +kernel)) g0m hm_z
    replace hm_z := rn_getI (v := 5) (am_cur_of (i := (96, 3, .getfield 157, (12, 8, 1392), 0)) (by decide +kernel)) (by decide +kernel) kc hm_z
    replace hm_z := rn_iconst (w := 3) (am_cur_of (i := (99, 1, .iconst 3, (0, 0, 0), 0)) (by decide +kernel)) (by decide) hm_z
    replace hm_z := rn_cmpF (am_cur_of (i := (100, 3, .if_icmp .eq 9, (60, 0, 0), 0)) (by decide +kernel)) (by decide) hm_z
    replace hm_z := rn_aload_n (am_cur_of (i := (103, 1, .aload_n 0, (0, 0, 0), 0)) (by decide +kernel)) g0m hm_z
    replace hm_z := rn_iconst (w := 1) (am_cur_of (i := (104, 1, .iconst 1, (0, 0, 0), 0)) (by decide +kernel)) (by decide) hm_z
    replace hm_z := rn_callV (M' := am_m158) (o := 164) (ar := [.int 1]) (rest := []) (L := lv_args 0 [.ref 164, .int 1]) (am_cur_of (i := (105, 3, .invokevirtual 181, (158, 1665, 3), 0)) (by decide +kernel)) rfl rfl rfl rfl hm_z
    obtain ⟨r1158_z, h1159_z, q1160_z, hm_z⟩ := hm_z
    obtain ⟨rfl, yq1160_z⟩ := rp_wrong q1160_z
    subst yq1160_z
    replace hm_z : rn _ _ _ _ [.int 0] _ _ _ := hm_z
    replace hm_z := rn_iret (am_cur_of (i := (108, 1, .ireturn, (0, 0, 0), 0)) (by decide +kernel)) hm_z
    obtain ⟨e1161_z, e1162_z⟩ := hm_z
    subst e1161_z e1162_z
    exact (Or.inr ⟨rfl, 1, by decide, K.1, K.2, rfl, R6⟩)
  · have g0_z : am_get (lv_args 0 [.ref 44, .int 0]) 0 = some (.ref 44) := rfl
    have g1_z : am_get (lv_args 0 [.ref 44, .int 0]) 1 = some (.int 0) := rfl
    have g0m : am_get (lv_args 0 [.ref 164]) 0 = some (.ref 164) := rfl
    have Rk := R
    have Zk := Z
    obtain ⟨⟨c1_z, c2_z, c3_z, c4_z, c5_z, c6_z, c7_z, c8_z⟩, ⟨m2_z, m3_z, m4_z, m5_z, m6_z, m7_z, m8_z⟩, R3, R4, R5, R6, R7, R8, R9, R10⟩ := (R : rq T S x p 2 h g)
    obtain ⟨np, op, z1_z, z2_z, z3_z, z4_z, z5_z, z6_z, z7_z, z8_z, z9_z, z10_z⟩ := (Z : rs 2 h g)
    obtain ⟨nk1_z, nk2_z, nk3_z⟩ := A.2.2.2.2.2.1
    replace nk1_z : rg_v h 11 0 = rg_v g 164 44 := nk1_z
    replace nk2_z : 0 ≤ (rg_v h 11 0).toInt := nk2_z
    replace nk3_z : (rg_v h 11 0).toInt ≤ 64 := nk3_z
    replace z8_z : np.toInt ≤ (rg_v h 11 0).toInt + op.toInt := z8_z
    obtain ⟨kn, ekn⟩ : ∃ v, rg_v h 11 0 = v := ⟨_, rfl⟩
    rw [ekn] at nk1_z nk2_z nk3_z z8_z
    have e9_z := rt_c1 (x := kn) (by omega) (by omega)
    replace hc_z := rn_aload_n (am_cur_of (i := (0, 1, .aload_n 0, (0, 0, 0), 0)) (by decide +kernel)) g0_z hc_z
    replace hc_z := rn_getI (v := 6) (am_cur_of (i := (1, 3, .getfield 60, (4, 10, 419), 0)) (by decide +kernel)) (by decide +kernel) ka hc_z
    replace hc_z := rn_bipush (w := 6) (am_cur_of (i := (4, 2, .bipush 6, (0, 0, 0), 0)) (by decide +kernel)) (by decide) hc_z
    replace hc_z := rn_cmpF (am_cur_of (i := (6, 3, .if_icmp .ne 30, (19, 0, 0), 0)) (by decide +kernel)) (by decide) hc_z
    replace hc_z := rn_aload_n (am_cur_of (i := (9, 1, .aload_n 0, (0, 0, 0), 0)) (by decide +kernel)) g0_z hc_z
    replace hc_z := rn_getI (v := 10) (am_cur_of (i := (10, 3, .getfield 91, (4, 11, 420), 0)) (by decide +kernel)) (by decide +kernel) kb hc_z
    replace hc_z := rn_iconst (w := 5) (am_cur_of (i := (13, 1, .iconst 5, (0, 0, 0), 0)) (by decide +kernel)) (by decide) hc_z
    replace hc_z := rn_cmpT (am_cur_of (i := (14, 3, .if_icmp .ne 22, (19, 0, 0), 0)) (by decide +kernel)) (by decide) hc_z
    replace hc_z := rn_aload_n (am_cur_of (i := (36, 1, .aload_n 0, (0, 0, 0), 0)) (by decide +kernel)) g0_z hc_z
    replace hc_z := rn_bipush (w := 40) (am_cur_of (i := (37, 2, .bipush 40, (0, 0, 0), 0)) (by decide +kernel)) (by decide) hc_z
    replace hc_z := rn_callV (M' := am_m45) (o := 44) (ar := [.int 40]) (rest := []) (L := lv_args 0 [.ref 44, .int 40]) (am_cur_of (i := (39, 3, .invokevirtual 105, (45, 834, 3), 0)) (by decide +kernel)) rfl rfl rfl rfl hc_z
    obtain ⟨r1163_z, h1164_z, q1165_z, hc_z⟩ := hc_z
    obtain ⟨rfl, yq1165_z⟩ := rp_mkN (fun q => absurd (Eq.trans (Eq.symm ka) q.1) (by decide)) q1165_z
    subst yq1165_z
    replace hc_z : rn _ _ _ _ [.int 0] _ _ _ := hc_z
    replace hc_z := rn_ifT (am_cur_of (i := (42, 3, .ifCond .eq 38, (43, 0, 0), 0)) (by decide +kernel)) (by decide) hc_z
    replace hc_z := rn_aload_n (am_cur_of (i := (80, 1, .aload_n 0, (0, 0, 0), 0)) (by decide +kernel)) g0_z hc_z
    replace hc_z := rn_getI (v := 6) (am_cur_of (i := (81, 3, .getfield 60, (4, 10, 419), 0)) (by decide +kernel)) (by decide +kernel) ka hc_z
    replace hc_z := rn_iconst (w := 4) (am_cur_of (i := (84, 1, .iconst 4, (0, 0, 0), 0)) (by decide +kernel)) (by decide) hc_z
    replace hc_z := rn_cmpT (am_cur_of (i := (85, 3, .if_icmp .ne 40, (64, 0, 0), 0)) (by decide +kernel)) (by decide) hc_z
    replace hc_z := rn_aload_n (am_cur_of (i := (125, 1, .aload_n 0, (0, 0, 0), 0)) (by decide +kernel)) g0_z hc_z
    replace hc_z := rn_getI (v := 6) (am_cur_of (i := (126, 3, .getfield 60, (4, 10, 419), 0)) (by decide +kernel)) (by decide +kernel) ka hc_z
    replace hc_z := rn_iconst (w := 2) (am_cur_of (i := (129, 1, .iconst 2, (0, 0, 0), 0)) (by decide +kernel)) (by decide) hc_z
    replace hc_z := rn_cmpT (am_cur_of (i := (130, 3, .if_icmp .ne 37, (84, 0, 0), 0)) (by decide +kernel)) (by decide) hc_z
    replace hc_z := rn_aload_n (am_cur_of (i := (167, 1, .aload_n 0, (0, 0, 0), 0)) (by decide +kernel)) g0_z hc_z
    replace hc_z := rn_iconst (w := 1) (am_cur_of (i := (168, 1, .iconst 1, (0, 0, 0), 0)) (by decide +kernel)) (by decide) hc_z
    replace hc_z := rn_callV (M' := am_m29) (o := 44) (ar := [.int 1]) (rest := []) (L := lv_args 0 [.ref 44, .int 1]) (am_cur_of (i := (169, 3, .invokevirtual 108, (29, 769, 3), 0)) (by decide +kernel)) rfl rfl rfl rfl hc_z
    obtain ⟨r1166_z, h1167_z, q1168_z, hc_z⟩ := hc_z
    obtain ⟨rfl, yq1168_z⟩ := rp_fail R4 q1168_z
    subst yq1168_z
    replace hc_z : rn _ _ _ _ [] _ _ _ := hc_z
    have K := rs_stick (w := 1) (q := p) (a := 51) (by decide) (by decide) rfl (by decide) rfl (show rg_v (am_up (am_up h 44 1 (.int 1)) 44 2 (.int (rg_v h 44 9))) 44 2 = p from R5) hc_z
    replace hm_z := rn_aload_n (am_cur_of (i := (0, 1, .aload_n 0, (0, 0, 0), 0)) (by decide +kernel)) g0m hm_z
    replace hm_z := rn_bipush (w := 40) (am_cur_of (i := (1, 2, .bipush 40, (0, 0, 0), 0)) (by decide +kernel)) (by decide) hm_z
    replace hm_z := rn_callV (M' := am_m171) (o := 164) (ar := [.int 40]) (rest := []) (L := lv_args 0 [.ref 164, .int 40]) (am_cur_of (i := (3, 3, .invokevirtual 194, (171, 1715, 3), 0)) (by decide +kernel)) rfl rfl rfl rfl hm_z
    obtain ⟨r1169_z, h1170_z, q1171_z, hm_z⟩ := hm_z
    obtain ⟨rfl, yq1171_z⟩ := rp_sgN (fun q => absurd (Eq.trans (Eq.symm kc) q.1) (by decide)) q1171_z
    subst yq1171_z
    replace hm_z : rn _ _ _ _ [.int 0] _ _ _ := hm_z
    replace hm_z := rn_ifT (am_cur_of (i := (6, 3, .ifCond .eq 44, (28, 0, 0), 0)) (by decide +kernel)) (by decide) hm_z
    replace hm_z := rn_aload_n (am_cur_of (i := (50, 1, .aload_n 0, (0, 0, 0), 0)) (by decide +kernel)) g0m hm_z
    replace hm_z := rn_bipush (w := 14) (am_cur_of (i := (51, 2, .bipush 14, (0, 0, 0), 0)) (by decide +kernel)) (by decide) hm_z
    replace hm_z := rn_callV (M' := am_m174) (o := 164) (ar := [.int 14]) (rest := []) (L := lv_args 0 [.ref 164, .int 14]) (am_cur_of (i := (53, 3, .invokevirtual 306, (174, 1727, 3), 0)) (by decide +kernel)) rfl rfl rfl rfl hm_z
    obtain ⟨r1172_z, h1173_z, q1174_z, hm_z⟩ := hm_z
    obtain ⟨rfl, yq1174_z⟩ := rp_kyN (fun q => absurd (Eq.trans (Eq.symm kc) q.1) (by decide)) q1174_z
    subst yq1174_z
    replace hm_z : rn _ _ _ _ [.int 0] _ _ _ := hm_z
    replace hm_z := rn_ifT (am_cur_of (i := (56, 3, .ifCond .eq 30, (47, 0, 0), 0)) (by decide +kernel)) (by decide) hm_z
    replace hm_z := rn_aload_n (am_cur_of (i := (86, 1, .aload_n 0, (0, 0, 0), 0)) (by decide +kernel)) g0m hm_z
    replace hm_z := rn_callV (M' := am_m176) (o := 164) (ar := []) (rest := []) (L := lv_args 0 [.ref 164]) (am_cur_of (i := (87, 3, .invokevirtual 312, (176, 1735, 3), 0)) (by decide +kernel)) rfl rfl rfl rfl hm_z
    obtain ⟨r1175_z, h1176_z, q1177_z, hm_z⟩ := hm_z
    obtain ⟨rfl, yq1177_z⟩ := rp_nm (c := 5) (d := 4) kc kd q1177_z
    replace yq1177_z := yq1177_z.symm
    subst yq1177_z
    rw [show rp_nmf 5 4 = (-1) from by unfold rp_nmf; rw [if_neg (by decide)]] at hm_z
    replace hm_z : rn _ _ _ _ [.int (-1)] _ _ _ := hm_z
    replace hm_z := rn_istore_n (am_cur_of (i := (90, 1, .istore_n 1, (0, 0, 0), 0)) (by decide +kernel)) hm_z
    obtain ⟨_, s1178_z, s1179_z, g1m, hm_z⟩ := hm_z
    replace g0m := s1178_z 0 _ (by decide) rfl g0m
    clear s1178_z s1179_z
    replace hm_z := rn_iload_n (am_cur_of (i := (91, 1, .iload_n 1, (0, 0, 0), 0)) (by decide +kernel)) g1m hm_z
    replace hm_z := rn_ifF (am_cur_of (i := (92, 3, .ifCond .ge 17, (60, 0, 0), 0)) (by decide +kernel)) (by decide) hm_z
    replace hm_z := rn_aload_n (am_cur_of (i := (95, 1, .aload_n 0, (0, 0, 0), 0)) (by decide +kernel)) g0m hm_z
    replace hm_z := rn_getI (v := 5) (am_cur_of (i := (96, 3, .getfield 157, (12, 8, 1392), 0)) (by decide +kernel)) (by decide +kernel) kc hm_z
    replace hm_z := rn_iconst (w := 3) (am_cur_of (i := (99, 1, .iconst 3, (0, 0, 0), 0)) (by decide +kernel)) (by decide) hm_z
    replace hm_z := rn_cmpF (am_cur_of (i := (100, 3, .if_icmp .eq 9, (60, 0, 0), 0)) (by decide +kernel)) (by decide) hm_z
    replace hm_z := rn_aload_n (am_cur_of (i := (103, 1, .aload_n 0, (0, 0, 0), 0)) (by decide +kernel)) g0m hm_z
    replace hm_z := rn_iconst (w := 1) (am_cur_of (i := (104, 1, .iconst 1, (0, 0, 0), 0)) (by decide +kernel)) (by decide) hm_z
    replace hm_z := rn_callV (M' := am_m158) (o := 164) (ar := [.int 1]) (rest := []) (L := lv_args 0 [.ref 164, .int 1]) (am_cur_of (i := (105, 3, .invokevirtual 181, (158, 1665, 3), 0)) (by decide +kernel)) rfl rfl rfl rfl hm_z
    obtain ⟨r1180_z, h1181_z, q1182_z, hm_z⟩ := hm_z
    obtain ⟨rfl, yq1182_z⟩ := rp_wrong q1182_z
    subst yq1182_z
    replace hm_z : rn _ _ _ _ [.int 0] _ _ _ := hm_z
    replace hm_z := rn_iret (am_cur_of (i := (108, 1, .ireturn, (0, 0, 0), 0)) (by decide +kernel)) hm_z
    obtain ⟨e1183_z, e1184_z⟩ := hm_z
    subst e1183_z e1184_z
    exact (Or.inr ⟨rfl, 1, by decide, K.1, K.2, rfl, R6⟩)
  · have g0_z : am_get (lv_args 0 [.ref 44, .int 0]) 0 = some (.ref 44) := rfl
    have g1_z : am_get (lv_args 0 [.ref 44, .int 0]) 1 = some (.int 0) := rfl
    have g0m : am_get (lv_args 0 [.ref 164]) 0 = some (.ref 164) := rfl
    have Rk := R
    have Zk := Z
    obtain ⟨⟨c1_z, c2_z, c3_z, c4_z, c5_z, c6_z, c7_z, c8_z⟩, ⟨m2_z, m3_z, m4_z, m5_z, m6_z, m7_z, m8_z⟩, R3, R4, R5, R6, R7, R8, R9, R10⟩ := (R : rq T S x p 2 h g)
    obtain ⟨np, op, z1_z, z2_z, z3_z, z4_z, z5_z, z6_z, z7_z, z8_z, z9_z, z10_z⟩ := (Z : rs 2 h g)
    obtain ⟨nk1_z, nk2_z, nk3_z⟩ := A.2.2.2.2.2.1
    replace nk1_z : rg_v h 11 0 = rg_v g 164 44 := nk1_z
    replace nk2_z : 0 ≤ (rg_v h 11 0).toInt := nk2_z
    replace nk3_z : (rg_v h 11 0).toInt ≤ 64 := nk3_z
    replace z8_z : np.toInt ≤ (rg_v h 11 0).toInt + op.toInt := z8_z
    obtain ⟨kn, ekn⟩ : ∃ v, rg_v h 11 0 = v := ⟨_, rfl⟩
    rw [ekn] at nk1_z nk2_z nk3_z z8_z
    have e9_z := rt_c1 (x := kn) (by omega) (by omega)
    replace hc_z := rn_aload_n (am_cur_of (i := (0, 1, .aload_n 0, (0, 0, 0), 0)) (by decide +kernel)) g0_z hc_z
    replace hc_z := rn_getI (v := 6) (am_cur_of (i := (1, 3, .getfield 60, (4, 10, 419), 0)) (by decide +kernel)) (by decide +kernel) ka hc_z
    replace hc_z := rn_bipush (w := 6) (am_cur_of (i := (4, 2, .bipush 6, (0, 0, 0), 0)) (by decide +kernel)) (by decide) hc_z
    replace hc_z := rn_cmpF (am_cur_of (i := (6, 3, .if_icmp .ne 30, (19, 0, 0), 0)) (by decide +kernel)) (by decide) hc_z
    replace hc_z := rn_aload_n (am_cur_of (i := (9, 1, .aload_n 0, (0, 0, 0), 0)) (by decide +kernel)) g0_z hc_z
    replace hc_z := rn_getI (v := 11) (am_cur_of (i := (10, 3, .getfield 91, (4, 11, 420), 0)) (by decide +kernel)) (by decide +kernel) kb hc_z
    replace hc_z := rn_iconst (w := 5) (am_cur_of (i := (13, 1, .iconst 5, (0, 0, 0), 0)) (by decide +kernel)) (by decide) hc_z
    replace hc_z := rn_cmpT (am_cur_of (i := (14, 3, .if_icmp .ne 22, (19, 0, 0), 0)) (by decide +kernel)) (by decide) hc_z
    replace hc_z := rn_aload_n (am_cur_of (i := (36, 1, .aload_n 0, (0, 0, 0), 0)) (by decide +kernel)) g0_z hc_z
    replace hc_z := rn_bipush (w := 40) (am_cur_of (i := (37, 2, .bipush 40, (0, 0, 0), 0)) (by decide +kernel)) (by decide) hc_z
    replace hc_z := rn_callV (M' := am_m45) (o := 44) (ar := [.int 40]) (rest := []) (L := lv_args 0 [.ref 44, .int 40]) (am_cur_of (i := (39, 3, .invokevirtual 105, (45, 834, 3), 0)) (by decide +kernel)) rfl rfl rfl rfl hc_z
    obtain ⟨r1185_z, h1186_z, q1187_z, hc_z⟩ := hc_z
    obtain ⟨rfl, yq1187_z⟩ := rp_mkN (fun q => absurd (Eq.trans (Eq.symm ka) q.1) (by decide)) q1187_z
    subst yq1187_z
    replace hc_z : rn _ _ _ _ [.int 0] _ _ _ := hc_z
    replace hc_z := rn_ifT (am_cur_of (i := (42, 3, .ifCond .eq 38, (43, 0, 0), 0)) (by decide +kernel)) (by decide) hc_z
    replace hc_z := rn_aload_n (am_cur_of (i := (80, 1, .aload_n 0, (0, 0, 0), 0)) (by decide +kernel)) g0_z hc_z
    replace hc_z := rn_getI (v := 6) (am_cur_of (i := (81, 3, .getfield 60, (4, 10, 419), 0)) (by decide +kernel)) (by decide +kernel) ka hc_z
    replace hc_z := rn_iconst (w := 4) (am_cur_of (i := (84, 1, .iconst 4, (0, 0, 0), 0)) (by decide +kernel)) (by decide) hc_z
    replace hc_z := rn_cmpT (am_cur_of (i := (85, 3, .if_icmp .ne 40, (64, 0, 0), 0)) (by decide +kernel)) (by decide) hc_z
    replace hc_z := rn_aload_n (am_cur_of (i := (125, 1, .aload_n 0, (0, 0, 0), 0)) (by decide +kernel)) g0_z hc_z
    replace hc_z := rn_getI (v := 6) (am_cur_of (i := (126, 3, .getfield 60, (4, 10, 419), 0)) (by decide +kernel)) (by decide +kernel) ka hc_z
    replace hc_z := rn_iconst (w := 2) (am_cur_of (i := (129, 1, .iconst 2, (0, 0, 0), 0)) (by decide +kernel)) (by decide) hc_z
    replace hc_z := rn_cmpT (am_cur_of (i := (130, 3, .if_icmp .ne 37, (84, 0, 0), 0)) (by decide +kernel)) (by decide) hc_z
    replace hc_z := rn_aload_n (am_cur_of (i := (167, 1, .aload_n 0, (0, 0, 0), 0)) (by decide +kernel)) g0_z hc_z
    replace hc_z := rn_iconst (w := 1) (am_cur_of (i := (168, 1, .iconst 1, (0, 0, 0), 0)) (by decide +kernel)) (by decide) hc_z
    replace hc_z := rn_callV (M' := am_m29) (o := 44) (ar := [.int 1]) (rest := []) (L := lv_args 0 [.ref 44, .int 1]) (am_cur_of (i := (169, 3, .invokevirtual 108, (29, 769, 3), 0)) (by decide +kernel)) rfl rfl rfl rfl hc_z
    obtain ⟨r1188_z, h1189_z, q1190_z, hc_z⟩ := hc_z
    obtain ⟨rfl, yq1190_z⟩ := rp_fail R4 q1190_z
    subst yq1190_z
    replace hc_z : rn _ _ _ _ [] _ _ _ := hc_z
    have K := rs_stick (w := 1) (q := p) (a := 51) (by decide) (by decide) rfl (by decide) rfl (show rg_v (am_up (am_up h 44 1 (.int 1)) 44 2 (.int (rg_v h 44 9))) 44 2 = p from R5) hc_z
    replace hm_z := rn_aload_n (am_cur_of (i := (0, 1, .aload_n 0, (0, 0, 0), 0)) (by decide +kernel)) g0m hm_z
    replace hm_z := rn_bipush (w := 40) (am_cur_of (i := (1, 2, .bipush 40, (0, 0, 0), 0)) (by decide +kernel)) (by decide) hm_z
    replace hm_z := rn_callV (M' := am_m171) (o := 164) (ar := [.int 40]) (rest := []) (L := lv_args 0 [.ref 164, .int 40]) (am_cur_of (i := (3, 3, .invokevirtual 194, (171, 1715, 3), 0)) (by decide +kernel)) rfl rfl rfl rfl hm_z
    obtain ⟨r1191_z, h1192_z, q1193_z, hm_z⟩ := hm_z
    obtain ⟨rfl, yq1193_z⟩ := rp_sgN (fun q => absurd (Eq.trans (Eq.symm kc) q.1) (by decide)) q1193_z
    subst yq1193_z
    replace hm_z : rn _ _ _ _ [.int 0] _ _ _ := hm_z
    replace hm_z := rn_ifT (am_cur_of (i := (6, 3, .ifCond .eq 44, (28, 0, 0), 0)) (by decide +kernel)) (by decide) hm_z
    replace hm_z := rn_aload_n (am_cur_of (i := (50, 1, .aload_n 0, (0, 0, 0), 0)) (by decide +kernel)) g0m hm_z
    replace hm_z := rn_bipush (w := 14) (am_cur_of (i := (51, 2, .bipush 14, (0, 0, 0), 0)) (by decide +kernel)) (by decide) hm_z
    replace hm_z := rn_callV (M' := am_m174) (o := 164) (ar := [.int 14]) (rest := []) (L := lv_args 0 [.ref 164, .int 14]) (am_cur_of (i := (53, 3, .invokevirtual 306, (174, 1727, 3), 0)) (by decide +kernel)) rfl rfl rfl rfl hm_z
    obtain ⟨r1194_z, h1195_z, q1196_z, hm_z⟩ := hm_z
    obtain ⟨rfl, yq1196_z⟩ := rp_kyN (fun q => absurd (Eq.trans (Eq.symm kc) q.1) (by decide)) q1196_z
    subst yq1196_z
    replace hm_z : rn _ _ _ _ [.int 0] _ _ _ := hm_z
    replace hm_z := rn_ifT (am_cur_of (i := (56, 3, .ifCond .eq 30, (47, 0, 0), 0)) (by decide +kernel)) (by decide) hm_z
    replace hm_z := rn_aload_n (am_cur_of (i := (86, 1, .aload_n 0, (0, 0, 0), 0)) (by decide +kernel)) g0m hm_z
    replace hm_z := rn_callV (M' := am_m176) (o := 164) (ar := []) (rest := []) (L := lv_args 0 [.ref 164]) (am_cur_of (i := (87, 3, .invokevirtual 312, (176, 1735, 3), 0)) (by decide +kernel)) rfl rfl rfl rfl hm_z
    obtain ⟨r1197_z, h1198_z, q1199_z, hm_z⟩ := hm_z
    obtain ⟨rfl, yq1199_z⟩ := rp_nm (c := 5) (d := 5) kc kd q1199_z
    replace yq1199_z := yq1199_z.symm
    subst yq1199_z
    rw [show rp_nmf 5 5 = (-1) from by unfold rp_nmf; rw [if_neg (by decide)]] at hm_z
    replace hm_z : rn _ _ _ _ [.int (-1)] _ _ _ := hm_z
    replace hm_z := rn_istore_n (am_cur_of (i := (90, 1, .istore_n 1, (0, 0, 0), 0)) (by decide +kernel)) hm_z
    obtain ⟨_, s1200_z, s1201_z, g1m, hm_z⟩ := hm_z
    replace g0m := s1200_z 0 _ (by decide) rfl g0m
    clear s1200_z s1201_z
    replace hm_z := rn_iload_n (am_cur_of (i := (91, 1, .iload_n 1, (0, 0, 0), 0)) (by decide +kernel)) g1m hm_z
    replace hm_z := rn_ifF (am_cur_of (i := (92, 3, .ifCond .ge 17, (60, 0, 0), 0)) (by decide +kernel)) (by decide) hm_z
    replace hm_z := rn_aload_n (am_cur_of (i := (95, 1, .aload_n 0, (0, 0, 0), 0)) (by decide +kernel)) g0m hm_z
    replace hm_z := rn_getI (v := 5) (am_cur_of (i := (96, 3, .getfield 157, (12, 8, 1392), 0)) (by decide +kernel)) (by decide +kernel) kc hm_z
    replace hm_z := rn_iconst (w := 3) (am_cur_of (i := (99, 1, .iconst 3, (0, 0, 0), 0)) (by decide +kernel)) (by decide) hm_z
    replace hm_z := rn_cmpF (am_cur_of (i := (100, 3, .if_icmp .eq 9, (60, 0, 0), 0)) (by decide +kernel)) (by decide) hm_z
    replace hm_z := rn_aload_n (am_cur_of (i := (103, 1, .aload_n 0, (0, 0, 0), 0)) (by decide +kernel)) g0m hm_z
    replace hm_z := rn_iconst (w := 1) (am_cur_of (i := (104, 1, .iconst 1, (0, 0, 0), 0)) (by decide +kernel)) (by decide) hm_z
    replace hm_z := rn_callV (M' := am_m158) (o := 164) (ar := [.int 1]) (rest := []) (L := lv_args 0 [.ref 164, .int 1]) (am_cur_of (i := (105, 3, .invokevirtual 181, (158, 1665, 3), 0)) (by decide +kernel)) rfl rfl rfl rfl hm_z
    obtain ⟨r1202_z, h1203_z, q1204_z, hm_z⟩ := hm_z
    obtain ⟨rfl, yq1204_z⟩ := rp_wrong q1204_z
    subst yq1204_z
    replace hm_z : rn _ _ _ _ [.int 0] _ _ _ := hm_z
    replace hm_z := rn_iret (am_cur_of (i := (108, 1, .ireturn, (0, 0, 0), 0)) (by decide +kernel)) hm_z
    obtain ⟨e1205_z, e1206_z⟩ := hm_z
    subst e1205_z e1206_z
    exact (Or.inr ⟨rfl, 1, by decide, K.1, K.2, rfl, R6⟩)
  · have g0_z : am_get (lv_args 0 [.ref 44, .int 0]) 0 = some (.ref 44) := rfl
    have g1_z : am_get (lv_args 0 [.ref 44, .int 0]) 1 = some (.int 0) := rfl
    have g0m : am_get (lv_args 0 [.ref 164]) 0 = some (.ref 164) := rfl
    have Rk := R
    have Zk := Z
    obtain ⟨⟨c1_z, c2_z, c3_z, c4_z, c5_z, c6_z, c7_z, c8_z⟩, ⟨m2_z, m3_z, m4_z, m5_z, m6_z, m7_z, m8_z⟩, R3, R4, R5, R6, R7, R8, R9, R10⟩ := (R : rq T S x p 2 h g)
    obtain ⟨np, op, z1_z, z2_z, z3_z, z4_z, z5_z, z6_z, z7_z, z8_z, z9_z, z10_z⟩ := (Z : rs 2 h g)
    obtain ⟨nk1_z, nk2_z, nk3_z⟩ := A.2.2.2.2.2.1
    replace nk1_z : rg_v h 11 0 = rg_v g 164 44 := nk1_z
    replace nk2_z : 0 ≤ (rg_v h 11 0).toInt := nk2_z
    replace nk3_z : (rg_v h 11 0).toInt ≤ 64 := nk3_z
    replace z8_z : np.toInt ≤ (rg_v h 11 0).toInt + op.toInt := z8_z
    obtain ⟨kn, ekn⟩ : ∃ v, rg_v h 11 0 = v := ⟨_, rfl⟩
    rw [ekn] at nk1_z nk2_z nk3_z z8_z
    have e9_z := rt_c1 (x := kn) (by omega) (by omega)
    replace hc_z := rn_aload_n (am_cur_of (i := (0, 1, .aload_n 0, (0, 0, 0), 0)) (by decide +kernel)) g0_z hc_z
    replace hc_z := rn_getI (v := 6) (am_cur_of (i := (1, 3, .getfield 60, (4, 10, 419), 0)) (by decide +kernel)) (by decide +kernel) ka hc_z
    replace hc_z := rn_bipush (w := 6) (am_cur_of (i := (4, 2, .bipush 6, (0, 0, 0), 0)) (by decide +kernel)) (by decide) hc_z
    replace hc_z := rn_cmpF (am_cur_of (i := (6, 3, .if_icmp .ne 30, (19, 0, 0), 0)) (by decide +kernel)) (by decide) hc_z
    replace hc_z := rn_aload_n (am_cur_of (i := (9, 1, .aload_n 0, (0, 0, 0), 0)) (by decide +kernel)) g0_z hc_z
    replace hc_z := rn_getI (v := 12) (am_cur_of (i := (10, 3, .getfield 91, (4, 11, 420), 0)) (by decide +kernel)) (by decide +kernel) kb hc_z
    replace hc_z := rn_iconst (w := 5) (am_cur_of (i := (13, 1, .iconst 5, (0, 0, 0), 0)) (by decide +kernel)) (by decide) hc_z
    replace hc_z := rn_cmpT (am_cur_of (i := (14, 3, .if_icmp .ne 22, (19, 0, 0), 0)) (by decide +kernel)) (by decide) hc_z
    replace hc_z := rn_aload_n (am_cur_of (i := (36, 1, .aload_n 0, (0, 0, 0), 0)) (by decide +kernel)) g0_z hc_z
    replace hc_z := rn_bipush (w := 40) (am_cur_of (i := (37, 2, .bipush 40, (0, 0, 0), 0)) (by decide +kernel)) (by decide) hc_z
    replace hc_z := rn_callV (M' := am_m45) (o := 44) (ar := [.int 40]) (rest := []) (L := lv_args 0 [.ref 44, .int 40]) (am_cur_of (i := (39, 3, .invokevirtual 105, (45, 834, 3), 0)) (by decide +kernel)) rfl rfl rfl rfl hc_z
    obtain ⟨r1207_z, h1208_z, q1209_z, hc_z⟩ := hc_z
    obtain ⟨rfl, yq1209_z⟩ := rp_mkN (fun q => absurd (Eq.trans (Eq.symm ka) q.1) (by decide)) q1209_z
    subst yq1209_z
    replace hc_z : rn _ _ _ _ [.int 0] _ _ _ := hc_z
    replace hc_z := rn_ifT (am_cur_of (i := (42, 3, .ifCond .eq 38, (43, 0, 0), 0)) (by decide +kernel)) (by decide) hc_z
    replace hc_z := rn_aload_n (am_cur_of (i := (80, 1, .aload_n 0, (0, 0, 0), 0)) (by decide +kernel)) g0_z hc_z
    replace hc_z := rn_getI (v := 6) (am_cur_of (i := (81, 3, .getfield 60, (4, 10, 419), 0)) (by decide +kernel)) (by decide +kernel) ka hc_z
    replace hc_z := rn_iconst (w := 4) (am_cur_of (i := (84, 1, .iconst 4, (0, 0, 0), 0)) (by decide +kernel)) (by decide) hc_z
    replace hc_z := rn_cmpT (am_cur_of (i := (85, 3, .if_icmp .ne 40, (64, 0, 0), 0)) (by decide +kernel)) (by decide) hc_z
    replace hc_z := rn_aload_n (am_cur_of (i := (125, 1, .aload_n 0, (0, 0, 0), 0)) (by decide +kernel)) g0_z hc_z
    replace hc_z := rn_getI (v := 6) (am_cur_of (i := (126, 3, .getfield 60, (4, 10, 419), 0)) (by decide +kernel)) (by decide +kernel) ka hc_z
    replace hc_z := rn_iconst (w := 2) (am_cur_of (i := (129, 1, .iconst 2, (0, 0, 0), 0)) (by decide +kernel)) (by decide) hc_z
    replace hc_z := rn_cmpT (am_cur_of (i := (130, 3, .if_icmp .ne 37, (84, 0, 0), 0)) (by decide +kernel)) (by decide) hc_z
    replace hc_z := rn_aload_n (am_cur_of (i := (167, 1, .aload_n 0, (0, 0, 0), 0)) (by decide +kernel)) g0_z hc_z
    replace hc_z := rn_iconst (w := 1) (am_cur_of (i := (168, 1, .iconst 1, (0, 0, 0), 0)) (by decide +kernel)) (by decide) hc_z
    replace hc_z := rn_callV (M' := am_m29) (o := 44) (ar := [.int 1]) (rest := []) (L := lv_args 0 [.ref 44, .int 1]) (am_cur_of (i := (169, 3, .invokevirtual 108, (29, 769, 3), 0)) (by decide +kernel)) rfl rfl rfl rfl hc_z
    obtain ⟨r1210_z, h1211_z, q1212_z, hc_z⟩ := hc_z
    obtain ⟨rfl, yq1212_z⟩ := rp_fail R4 q1212_z
    subst yq1212_z
    replace hc_z : rn _ _ _ _ [] _ _ _ := hc_z
    have K := rs_stick (w := 1) (q := p) (a := 51) (by decide) (by decide) rfl (by decide) rfl (show rg_v (am_up (am_up h 44 1 (.int 1)) 44 2 (.int (rg_v h 44 9))) 44 2 = p from R5) hc_z
    replace hm_z := rn_aload_n (am_cur_of (i := (0, 1, .aload_n 0, (0, 0, 0), 0)) (by decide +kernel)) g0m hm_z
    replace hm_z := rn_bipush (w := 40) (am_cur_of (i := (1, 2, .bipush 40, (0, 0, 0), 0)) (by decide +kernel)) (by decide) hm_z
    replace hm_z := rn_callV (M' := am_m171) (o := 164) (ar := [.int 40]) (rest := []) (L := lv_args 0 [.ref 164, .int 40]) (am_cur_of (i := (3, 3, .invokevirtual 194, (171, 1715, 3), 0)) (by decide +kernel)) rfl rfl rfl rfl hm_z
    obtain ⟨r1213_z, h1214_z, q1215_z, hm_z⟩ := hm_z
    obtain ⟨rfl, yq1215_z⟩ := rp_sgN (fun q => absurd (Eq.trans (Eq.symm kd) q.2) (by decide)) q1215_z
    subst yq1215_z
    replace hm_z : rn _ _ _ _ [.int 0] _ _ _ := hm_z
    replace hm_z := rn_ifT (am_cur_of (i := (6, 3, .ifCond .eq 44, (28, 0, 0), 0)) (by decide +kernel)) (by decide) hm_z
    replace hm_z := rn_aload_n (am_cur_of (i := (50, 1, .aload_n 0, (0, 0, 0), 0)) (by decide +kernel)) g0m hm_z
    replace hm_z := rn_bipush (w := 14) (am_cur_of (i := (51, 2, .bipush 14, (0, 0, 0), 0)) (by decide +kernel)) (by decide) hm_z
    replace hm_z := rn_callV (M' := am_m174) (o := 164) (ar := [.int 14]) (rest := []) (L := lv_args 0 [.ref 164, .int 14]) (am_cur_of (i := (53, 3, .invokevirtual 306, (174, 1727, 3), 0)) (by decide +kernel)) rfl rfl rfl rfl hm_z
    obtain ⟨r1216_z, h1217_z, q1218_z, hm_z⟩ := hm_z
    obtain ⟨rfl, yq1218_z⟩ := rp_kyN (fun q => absurd (Eq.trans (Eq.symm kc) q.1) (by decide)) q1218_z
    subst yq1218_z
    replace hm_z : rn _ _ _ _ [.int 0] _ _ _ := hm_z
    replace hm_z := rn_ifT (am_cur_of (i := (56, 3, .ifCond .eq 30, (47, 0, 0), 0)) (by decide +kernel)) (by decide) hm_z
    replace hm_z := rn_aload_n (am_cur_of (i := (86, 1, .aload_n 0, (0, 0, 0), 0)) (by decide +kernel)) g0m hm_z
    replace hm_z := rn_callV (M' := am_m176) (o := 164) (ar := []) (rest := []) (L := lv_args 0 [.ref 164]) (am_cur_of (i := (87, 3, .invokevirtual 312, (176, 1735, 3), 0)) (by decide +kernel)) rfl rfl rfl rfl hm_z
    obtain ⟨r1219_z, h1220_z, q1221_z, hm_z⟩ := hm_z
    obtain ⟨rfl, yq1221_z⟩ := rp_nm (c := 4) (d := 43) kc kd q1221_z
    replace yq1221_z := yq1221_z.symm
    subst yq1221_z
    rw [show rp_nmf 4 43 = (-1) from by unfold rp_nmf; rw [if_neg (by decide)]] at hm_z
    replace hm_z : rn _ _ _ _ [.int (-1)] _ _ _ := hm_z
    replace hm_z := rn_istore_n (am_cur_of (i := (90, 1, .istore_n 1, (0, 0, 0), 0)) (by decide +kernel)) hm_z
    obtain ⟨_, s1222_z, s1223_z, g1m, hm_z⟩ := hm_z
    replace g0m := s1222_z 0 _ (by decide) rfl g0m
    clear s1222_z s1223_z
    replace hm_z := rn_iload_n (am_cur_of (i := (91, 1, .iload_n 1, (0, 0, 0), 0)) (by decide +kernel)) g1m hm_z
    replace hm_z := rn_ifF (am_cur_of (i := (92, 3, .ifCond .ge 17, (60, 0, 0), 0)) (by decide +kernel)) (by decide) hm_z
    replace hm_z := rn_aload_n (am_cur_of (i := (95, 1, .aload_n 0, (0, 0, 0), 0)) (by decide +kernel)) g0m hm_z
    replace hm_z := rn_getI (v := 4) (am_cur_of (i := (96, 3, .getfield 157, (12, 8, 1392), 0)) (by decide +kernel)) (by decide +kernel) kc hm_z
    replace hm_z := rn_iconst (w := 3) (am_cur_of (i := (99, 1, .iconst 3, (0, 0, 0), 0)) (by decide +kernel)) (by decide) hm_z
    replace hm_z := rn_cmpF (am_cur_of (i := (100, 3, .if_icmp .eq 9, (60, 0, 0), 0)) (by decide +kernel)) (by decide) hm_z
    replace hm_z := rn_aload_n (am_cur_of (i := (103, 1, .aload_n 0, (0, 0, 0), 0)) (by decide +kernel)) g0m hm_z
    replace hm_z := rn_iconst (w := 1) (am_cur_of (i := (104, 1, .iconst 1, (0, 0, 0), 0)) (by decide +kernel)) (by decide) hm_z
    replace hm_z := rn_callV (M' := am_m158) (o := 164) (ar := [.int 1]) (rest := []) (L := lv_args 0 [.ref 164, .int 1]) (am_cur_of (i := (105, 3, .invokevirtual 181, (158, 1665, 3), 0)) (by decide +kernel)) rfl rfl rfl rfl hm_z
    obtain ⟨r1224_z, h1225_z, q1226_z, hm_z⟩ := hm_z
    obtain ⟨rfl, yq1226_z⟩ := rp_wrong q1226_z
    subst yq1226_z
    replace hm_z : rn _ _ _ _ [.int 0] _ _ _ := hm_z
    replace hm_z := rn_iret (am_cur_of (i := (108, 1, .ireturn, (0, 0, 0), 0)) (by decide +kernel)) hm_z
    obtain ⟨e1227_z, e1228_z⟩ := hm_z
    subst e1227_z e1228_z
    exact (Or.inr ⟨rfl, 1, by decide, K.1, K.2, rfl, R6⟩)
  · have g0_z : am_get (lv_args 0 [.ref 44, .int 0]) 0 = some (.ref 44) := rfl
    have g1_z : am_get (lv_args 0 [.ref 44, .int 0]) 1 = some (.int 0) := rfl
    have g0m : am_get (lv_args 0 [.ref 164]) 0 = some (.ref 164) := rfl
    have Rk := R
    have Zk := Z
    obtain ⟨⟨c1_z, c2_z, c3_z, c4_z, c5_z, c6_z, c7_z, c8_z⟩, ⟨m2_z, m3_z, m4_z, m5_z, m6_z, m7_z, m8_z⟩, R3, R4, R5, R6, R7, R8, R9, R10⟩ := (R : rq T S x p 2 h g)
    obtain ⟨np, op, z1_z, z2_z, z3_z, z4_z, z5_z, z6_z, z7_z, z8_z, z9_z, z10_z⟩ := (Z : rs 2 h g)
    obtain ⟨nk1_z, nk2_z, nk3_z⟩ := A.2.2.2.2.2.1
    replace nk1_z : rg_v h 11 0 = rg_v g 164 44 := nk1_z
    replace nk2_z : 0 ≤ (rg_v h 11 0).toInt := nk2_z
    replace nk3_z : (rg_v h 11 0).toInt ≤ 64 := nk3_z
    replace z8_z : np.toInt ≤ (rg_v h 11 0).toInt + op.toInt := z8_z
    obtain ⟨kn, ekn⟩ : ∃ v, rg_v h 11 0 = v := ⟨_, rfl⟩
    rw [ekn] at nk1_z nk2_z nk3_z z8_z
    have e9_z := rt_c1 (x := kn) (by omega) (by omega)
    replace hc_z := rn_aload_n (am_cur_of (i := (0, 1, .aload_n 0, (0, 0, 0), 0)) (by decide +kernel)) g0_z hc_z
    replace hc_z := rn_getI (v := 6) (am_cur_of (i := (1, 3, .getfield 60, (4, 10, 419), 0)) (by decide +kernel)) (by decide +kernel) ka hc_z
    replace hc_z := rn_bipush (w := 6) (am_cur_of (i := (4, 2, .bipush 6, (0, 0, 0), 0)) (by decide +kernel)) (by decide) hc_z
    replace hc_z := rn_cmpF (am_cur_of (i := (6, 3, .if_icmp .ne 30, (19, 0, 0), 0)) (by decide +kernel)) (by decide) hc_z
    replace hc_z := rn_aload_n (am_cur_of (i := (9, 1, .aload_n 0, (0, 0, 0), 0)) (by decide +kernel)) g0_z hc_z
    replace hc_z := rn_getI (v := 13) (am_cur_of (i := (10, 3, .getfield 91, (4, 11, 420), 0)) (by decide +kernel)) (by decide +kernel) kb hc_z
    replace hc_z := rn_iconst (w := 5) (am_cur_of (i := (13, 1, .iconst 5, (0, 0, 0), 0)) (by decide +kernel)) (by decide) hc_z
    replace hc_z := rn_cmpT (am_cur_of (i := (14, 3, .if_icmp .ne 22, (19, 0, 0), 0)) (by decide +kernel)) (by decide) hc_z
    replace hc_z := rn_aload_n (am_cur_of (i := (36, 1, .aload_n 0, (0, 0, 0), 0)) (by decide +kernel)) g0_z hc_z
    replace hc_z := rn_bipush (w := 40) (am_cur_of (i := (37, 2, .bipush 40, (0, 0, 0), 0)) (by decide +kernel)) (by decide) hc_z
    replace hc_z := rn_callV (M' := am_m45) (o := 44) (ar := [.int 40]) (rest := []) (L := lv_args 0 [.ref 44, .int 40]) (am_cur_of (i := (39, 3, .invokevirtual 105, (45, 834, 3), 0)) (by decide +kernel)) rfl rfl rfl rfl hc_z
    obtain ⟨r1229_z, h1230_z, q1231_z, hc_z⟩ := hc_z
    obtain ⟨rfl, yq1231_z⟩ := rp_mkN (fun q => absurd (Eq.trans (Eq.symm ka) q.1) (by decide)) q1231_z
    subst yq1231_z
    replace hc_z : rn _ _ _ _ [.int 0] _ _ _ := hc_z
    replace hc_z := rn_ifT (am_cur_of (i := (42, 3, .ifCond .eq 38, (43, 0, 0), 0)) (by decide +kernel)) (by decide) hc_z
    replace hc_z := rn_aload_n (am_cur_of (i := (80, 1, .aload_n 0, (0, 0, 0), 0)) (by decide +kernel)) g0_z hc_z
    replace hc_z := rn_getI (v := 6) (am_cur_of (i := (81, 3, .getfield 60, (4, 10, 419), 0)) (by decide +kernel)) (by decide +kernel) ka hc_z
    replace hc_z := rn_iconst (w := 4) (am_cur_of (i := (84, 1, .iconst 4, (0, 0, 0), 0)) (by decide +kernel)) (by decide) hc_z
    replace hc_z := rn_cmpT (am_cur_of (i := (85, 3, .if_icmp .ne 40, (64, 0, 0), 0)) (by decide +kernel)) (by decide) hc_z
    replace hc_z := rn_aload_n (am_cur_of (i := (125, 1, .aload_n 0, (0, 0, 0), 0)) (by decide +kernel)) g0_z hc_z
    replace hc_z := rn_getI (v := 6) (am_cur_of (i := (126, 3, .getfield 60, (4, 10, 419), 0)) (by decide +kernel)) (by decide +kernel) ka hc_z
    replace hc_z := rn_iconst (w := 2) (am_cur_of (i := (129, 1, .iconst 2, (0, 0, 0), 0)) (by decide +kernel)) (by decide) hc_z
    replace hc_z := rn_cmpT (am_cur_of (i := (130, 3, .if_icmp .ne 37, (84, 0, 0), 0)) (by decide +kernel)) (by decide) hc_z
    replace hc_z := rn_aload_n (am_cur_of (i := (167, 1, .aload_n 0, (0, 0, 0), 0)) (by decide +kernel)) g0_z hc_z
    replace hc_z := rn_iconst (w := 1) (am_cur_of (i := (168, 1, .iconst 1, (0, 0, 0), 0)) (by decide +kernel)) (by decide) hc_z
    replace hc_z := rn_callV (M' := am_m29) (o := 44) (ar := [.int 1]) (rest := []) (L := lv_args 0 [.ref 44, .int 1]) (am_cur_of (i := (169, 3, .invokevirtual 108, (29, 769, 3), 0)) (by decide +kernel)) rfl rfl rfl rfl hc_z
    obtain ⟨r1232_z, h1233_z, q1234_z, hc_z⟩ := hc_z
    obtain ⟨rfl, yq1234_z⟩ := rp_fail R4 q1234_z
    subst yq1234_z
    replace hc_z : rn _ _ _ _ [] _ _ _ := hc_z
    have K := rs_stick (w := 1) (q := p) (a := 51) (by decide) (by decide) rfl (by decide) rfl (show rg_v (am_up (am_up h 44 1 (.int 1)) 44 2 (.int (rg_v h 44 9))) 44 2 = p from R5) hc_z
    replace hm_z := rn_aload_n (am_cur_of (i := (0, 1, .aload_n 0, (0, 0, 0), 0)) (by decide +kernel)) g0m hm_z
    replace hm_z := rn_bipush (w := 40) (am_cur_of (i := (1, 2, .bipush 40, (0, 0, 0), 0)) (by decide +kernel)) (by decide) hm_z
    replace hm_z := rn_callV (M' := am_m171) (o := 164) (ar := [.int 40]) (rest := []) (L := lv_args 0 [.ref 164, .int 40]) (am_cur_of (i := (3, 3, .invokevirtual 194, (171, 1715, 3), 0)) (by decide +kernel)) rfl rfl rfl rfl hm_z
    obtain ⟨r1235_z, h1236_z, q1237_z, hm_z⟩ := hm_z
    obtain ⟨rfl, yq1237_z⟩ := rp_sgN (fun q => absurd (Eq.trans (Eq.symm kd) q.2) (by decide)) q1237_z
    subst yq1237_z
    replace hm_z : rn _ _ _ _ [.int 0] _ _ _ := hm_z
    replace hm_z := rn_ifT (am_cur_of (i := (6, 3, .ifCond .eq 44, (28, 0, 0), 0)) (by decide +kernel)) (by decide) hm_z
    replace hm_z := rn_aload_n (am_cur_of (i := (50, 1, .aload_n 0, (0, 0, 0), 0)) (by decide +kernel)) g0m hm_z
    replace hm_z := rn_bipush (w := 14) (am_cur_of (i := (51, 2, .bipush 14, (0, 0, 0), 0)) (by decide +kernel)) (by decide) hm_z
    replace hm_z := rn_callV (M' := am_m174) (o := 164) (ar := [.int 14]) (rest := []) (L := lv_args 0 [.ref 164, .int 14]) (am_cur_of (i := (53, 3, .invokevirtual 306, (174, 1727, 3), 0)) (by decide +kernel)) rfl rfl rfl rfl hm_z
    obtain ⟨r1238_z, h1239_z, q1240_z, hm_z⟩ := hm_z
    obtain ⟨rfl, yq1240_z⟩ := rp_kyN (fun q => absurd (Eq.trans (Eq.symm kc) q.1) (by decide)) q1240_z
    subst yq1240_z
    replace hm_z : rn _ _ _ _ [.int 0] _ _ _ := hm_z
    replace hm_z := rn_ifT (am_cur_of (i := (56, 3, .ifCond .eq 30, (47, 0, 0), 0)) (by decide +kernel)) (by decide) hm_z
    replace hm_z := rn_aload_n (am_cur_of (i := (86, 1, .aload_n 0, (0, 0, 0), 0)) (by decide +kernel)) g0m hm_z
    replace hm_z := rn_callV (M' := am_m176) (o := 164) (ar := []) (rest := []) (L := lv_args 0 [.ref 164]) (am_cur_of (i := (87, 3, .invokevirtual 312, (176, 1735, 3), 0)) (by decide +kernel)) rfl rfl rfl rfl hm_z
    obtain ⟨r1241_z, h1242_z, q1243_z, hm_z⟩ := hm_z
    obtain ⟨rfl, yq1243_z⟩ := rp_nm (c := 4) (d := 45) kc kd q1243_z
    replace yq1243_z := yq1243_z.symm
    subst yq1243_z
    rw [show rp_nmf 4 45 = (-1) from by unfold rp_nmf; rw [if_neg (by decide)]] at hm_z
    replace hm_z : rn _ _ _ _ [.int (-1)] _ _ _ := hm_z
    replace hm_z := rn_istore_n (am_cur_of (i := (90, 1, .istore_n 1, (0, 0, 0), 0)) (by decide +kernel)) hm_z
    obtain ⟨_, s1244_z, s1245_z, g1m, hm_z⟩ := hm_z
    replace g0m := s1244_z 0 _ (by decide) rfl g0m
    clear s1244_z s1245_z
    replace hm_z := rn_iload_n (am_cur_of (i := (91, 1, .iload_n 1, (0, 0, 0), 0)) (by decide +kernel)) g1m hm_z
    replace hm_z := rn_ifF (am_cur_of (i := (92, 3, .ifCond .ge 17, (60, 0, 0), 0)) (by decide +kernel)) (by decide) hm_z
    replace hm_z := rn_aload_n (am_cur_of (i := (95, 1, .aload_n 0, (0, 0, 0), 0)) (by decide +kernel)) g0m hm_z
    replace hm_z := rn_getI (v := 4) (am_cur_of (i := (96, 3, .getfield 157, (12, 8, 1392), 0)) (by decide +kernel)) (by decide +kernel) kc hm_z
    replace hm_z := rn_iconst (w := 3) (am_cur_of (i := (99, 1, .iconst 3, (0, 0, 0), 0)) (by decide +kernel)) (by decide) hm_z
    replace hm_z := rn_cmpF (am_cur_of (i := (100, 3, .if_icmp .eq 9, (60, 0, 0), 0)) (by decide +kernel)) (by decide) hm_z
    replace hm_z := rn_aload_n (am_cur_of (i := (103, 1, .aload_n 0, (0, 0, 0), 0)) (by decide +kernel)) g0m hm_z
    replace hm_z := rn_iconst (w := 1) (am_cur_of (i := (104, 1, .iconst 1, (0, 0, 0), 0)) (by decide +kernel)) (by decide) hm_z
    replace hm_z := rn_callV (M' := am_m158) (o := 164) (ar := [.int 1]) (rest := []) (L := lv_args 0 [.ref 164, .int 1]) (am_cur_of (i := (105, 3, .invokevirtual 181, (158, 1665, 3), 0)) (by decide +kernel)) rfl rfl rfl rfl hm_z
    obtain ⟨r1246_z, h1247_z, q1248_z, hm_z⟩ := hm_z
    obtain ⟨rfl, yq1248_z⟩ := rp_wrong q1248_z
    subst yq1248_z
    replace hm_z : rn _ _ _ _ [.int 0] _ _ _ := hm_z
    replace hm_z := rn_iret (am_cur_of (i := (108, 1, .ireturn, (0, 0, 0), 0)) (by decide +kernel)) hm_z
    obtain ⟨e1249_z, e1250_z⟩ := hm_z
    subst e1249_z e1250_z
    exact (Or.inr ⟨rfl, 1, by decide, K.1, K.2, rfl, R6⟩)
  · have g0_z : am_get (lv_args 0 [.ref 44, .int 0]) 0 = some (.ref 44) := rfl
    have g1_z : am_get (lv_args 0 [.ref 44, .int 0]) 1 = some (.int 0) := rfl
    have g0m : am_get (lv_args 0 [.ref 164]) 0 = some (.ref 164) := rfl
    have Rk := R
    have Zk := Z
    obtain ⟨⟨c1_z, c2_z, c3_z, c4_z, c5_z, c6_z, c7_z, c8_z⟩, ⟨m2_z, m3_z, m4_z, m5_z, m6_z, m7_z, m8_z⟩, R3, R4, R5, R6, R7, R8, R9, R10⟩ := (R : rq T S x p 2 h g)
    obtain ⟨np, op, z1_z, z2_z, z3_z, z4_z, z5_z, z6_z, z7_z, z8_z, z9_z, z10_z⟩ := (Z : rs 2 h g)
    obtain ⟨nk1_z, nk2_z, nk3_z⟩ := A.2.2.2.2.2.1
    replace nk1_z : rg_v h 11 0 = rg_v g 164 44 := nk1_z
    replace nk2_z : 0 ≤ (rg_v h 11 0).toInt := nk2_z
    replace nk3_z : (rg_v h 11 0).toInt ≤ 64 := nk3_z
    replace z8_z : np.toInt ≤ (rg_v h 11 0).toInt + op.toInt := z8_z
    obtain ⟨kn, ekn⟩ : ∃ v, rg_v h 11 0 = v := ⟨_, rfl⟩
    rw [ekn] at nk1_z nk2_z nk3_z z8_z
    have e9_z := rt_c1 (x := kn) (by omega) (by omega)
    replace hc_z := rn_aload_n (am_cur_of (i := (0, 1, .aload_n 0, (0, 0, 0), 0)) (by decide +kernel)) g0_z hc_z
    replace hc_z := rn_getI (v := 6) (am_cur_of (i := (1, 3, .getfield 60, (4, 10, 419), 0)) (by decide +kernel)) (by decide +kernel) ka hc_z
    replace hc_z := rn_bipush (w := 6) (am_cur_of (i := (4, 2, .bipush 6, (0, 0, 0), 0)) (by decide +kernel)) (by decide) hc_z
    replace hc_z := rn_cmpF (am_cur_of (i := (6, 3, .if_icmp .ne 30, (19, 0, 0), 0)) (by decide +kernel)) (by decide) hc_z
    replace hc_z := rn_aload_n (am_cur_of (i := (9, 1, .aload_n 0, (0, 0, 0), 0)) (by decide +kernel)) g0_z hc_z
    replace hc_z := rn_getI (v := 14) (am_cur_of (i := (10, 3, .getfield 91, (4, 11, 420), 0)) (by decide +kernel)) (by decide +kernel) kb hc_z
    replace hc_z := rn_iconst (w := 5) (am_cur_of (i := (13, 1, .iconst 5, (0, 0, 0), 0)) (by decide +kernel)) (by decide) hc_z
    replace hc_z := rn_cmpT (am_cur_of (i := (14, 3, .if_icmp .ne 22, (19, 0, 0), 0)) (by decide +kernel)) (by decide) hc_z
    replace hc_z := rn_aload_n (am_cur_of (i := (36, 1, .aload_n 0, (0, 0, 0), 0)) (by decide +kernel)) g0_z hc_z
    replace hc_z := rn_bipush (w := 40) (am_cur_of (i := (37, 2, .bipush 40, (0, 0, 0), 0)) (by decide +kernel)) (by decide) hc_z
    replace hc_z := rn_callV (M' := am_m45) (o := 44) (ar := [.int 40]) (rest := []) (L := lv_args 0 [.ref 44, .int 40]) (am_cur_of (i := (39, 3, .invokevirtual 105, (45, 834, 3), 0)) (by decide +kernel)) rfl rfl rfl rfl hc_z
    obtain ⟨r1251_z, h1252_z, q1253_z, hc_z⟩ := hc_z
    obtain ⟨rfl, yq1253_z⟩ := rp_mkN (fun q => absurd (Eq.trans (Eq.symm ka) q.1) (by decide)) q1253_z
    subst yq1253_z
    replace hc_z : rn _ _ _ _ [.int 0] _ _ _ := hc_z
    replace hc_z := rn_ifT (am_cur_of (i := (42, 3, .ifCond .eq 38, (43, 0, 0), 0)) (by decide +kernel)) (by decide) hc_z
    replace hc_z := rn_aload_n (am_cur_of (i := (80, 1, .aload_n 0, (0, 0, 0), 0)) (by decide +kernel)) g0_z hc_z
    replace hc_z := rn_getI (v := 6) (am_cur_of (i := (81, 3, .getfield 60, (4, 10, 419), 0)) (by decide +kernel)) (by decide +kernel) ka hc_z
    replace hc_z := rn_iconst (w := 4) (am_cur_of (i := (84, 1, .iconst 4, (0, 0, 0), 0)) (by decide +kernel)) (by decide) hc_z
    replace hc_z := rn_cmpT (am_cur_of (i := (85, 3, .if_icmp .ne 40, (64, 0, 0), 0)) (by decide +kernel)) (by decide) hc_z
    replace hc_z := rn_aload_n (am_cur_of (i := (125, 1, .aload_n 0, (0, 0, 0), 0)) (by decide +kernel)) g0_z hc_z
    replace hc_z := rn_getI (v := 6) (am_cur_of (i := (126, 3, .getfield 60, (4, 10, 419), 0)) (by decide +kernel)) (by decide +kernel) ka hc_z
    replace hc_z := rn_iconst (w := 2) (am_cur_of (i := (129, 1, .iconst 2, (0, 0, 0), 0)) (by decide +kernel)) (by decide) hc_z
    replace hc_z := rn_cmpT (am_cur_of (i := (130, 3, .if_icmp .ne 37, (84, 0, 0), 0)) (by decide +kernel)) (by decide) hc_z
    replace hc_z := rn_aload_n (am_cur_of (i := (167, 1, .aload_n 0, (0, 0, 0), 0)) (by decide +kernel)) g0_z hc_z
    replace hc_z := rn_iconst (w := 1) (am_cur_of (i := (168, 1, .iconst 1, (0, 0, 0), 0)) (by decide +kernel)) (by decide) hc_z
    replace hc_z := rn_callV (M' := am_m29) (o := 44) (ar := [.int 1]) (rest := []) (L := lv_args 0 [.ref 44, .int 1]) (am_cur_of (i := (169, 3, .invokevirtual 108, (29, 769, 3), 0)) (by decide +kernel)) rfl rfl rfl rfl hc_z
    obtain ⟨r1254_z, h1255_z, q1256_z, hc_z⟩ := hc_z
    obtain ⟨rfl, yq1256_z⟩ := rp_fail R4 q1256_z
    subst yq1256_z
    replace hc_z : rn _ _ _ _ [] _ _ _ := hc_z
    have K := rs_stick (w := 1) (q := p) (a := 51) (by decide) (by decide) rfl (by decide) rfl (show rg_v (am_up (am_up h 44 1 (.int 1)) 44 2 (.int (rg_v h 44 9))) 44 2 = p from R5) hc_z
    replace hm_z := rn_aload_n (am_cur_of (i := (0, 1, .aload_n 0, (0, 0, 0), 0)) (by decide +kernel)) g0m hm_z
    replace hm_z := rn_bipush (w := 40) (am_cur_of (i := (1, 2, .bipush 40, (0, 0, 0), 0)) (by decide +kernel)) (by decide) hm_z
    replace hm_z := rn_callV (M' := am_m171) (o := 164) (ar := [.int 40]) (rest := []) (L := lv_args 0 [.ref 164, .int 40]) (am_cur_of (i := (3, 3, .invokevirtual 194, (171, 1715, 3), 0)) (by decide +kernel)) rfl rfl rfl rfl hm_z
    obtain ⟨r1257_z, h1258_z, q1259_z, hm_z⟩ := hm_z
    obtain ⟨rfl, yq1259_z⟩ := rp_sgN (fun q => absurd (Eq.trans (Eq.symm kd) q.2) (by decide)) q1259_z
    subst yq1259_z
    replace hm_z : rn _ _ _ _ [.int 0] _ _ _ := hm_z
    replace hm_z := rn_ifT (am_cur_of (i := (6, 3, .ifCond .eq 44, (28, 0, 0), 0)) (by decide +kernel)) (by decide) hm_z
    replace hm_z := rn_aload_n (am_cur_of (i := (50, 1, .aload_n 0, (0, 0, 0), 0)) (by decide +kernel)) g0m hm_z
    replace hm_z := rn_bipush (w := 14) (am_cur_of (i := (51, 2, .bipush 14, (0, 0, 0), 0)) (by decide +kernel)) (by decide) hm_z
    replace hm_z := rn_callV (M' := am_m174) (o := 164) (ar := [.int 14]) (rest := []) (L := lv_args 0 [.ref 164, .int 14]) (am_cur_of (i := (53, 3, .invokevirtual 306, (174, 1727, 3), 0)) (by decide +kernel)) rfl rfl rfl rfl hm_z
    obtain ⟨r1260_z, h1261_z, q1262_z, hm_z⟩ := hm_z
    obtain ⟨rfl, yq1262_z⟩ := rp_kyN (fun q => absurd (Eq.trans (Eq.symm kc) q.1) (by decide)) q1262_z
    subst yq1262_z
    replace hm_z : rn _ _ _ _ [.int 0] _ _ _ := hm_z
    replace hm_z := rn_ifT (am_cur_of (i := (56, 3, .ifCond .eq 30, (47, 0, 0), 0)) (by decide +kernel)) (by decide) hm_z
    replace hm_z := rn_aload_n (am_cur_of (i := (86, 1, .aload_n 0, (0, 0, 0), 0)) (by decide +kernel)) g0m hm_z
    replace hm_z := rn_callV (M' := am_m176) (o := 164) (ar := []) (rest := []) (L := lv_args 0 [.ref 164]) (am_cur_of (i := (87, 3, .invokevirtual 312, (176, 1735, 3), 0)) (by decide +kernel)) rfl rfl rfl rfl hm_z
    obtain ⟨r1263_z, h1264_z, q1265_z, hm_z⟩ := hm_z
    obtain ⟨rfl, yq1265_z⟩ := rp_nm (c := 4) (d := 42) kc kd q1265_z
    replace yq1265_z := yq1265_z.symm
    subst yq1265_z
    rw [show rp_nmf 4 42 = (-1) from by unfold rp_nmf; rw [if_neg (by decide)]] at hm_z
    replace hm_z : rn _ _ _ _ [.int (-1)] _ _ _ := hm_z
    replace hm_z := rn_istore_n (am_cur_of (i := (90, 1, .istore_n 1, (0, 0, 0), 0)) (by decide +kernel)) hm_z
    obtain ⟨_, s1266_z, s1267_z, g1m, hm_z⟩ := hm_z
    replace g0m := s1266_z 0 _ (by decide) rfl g0m
    clear s1266_z s1267_z
    replace hm_z := rn_iload_n (am_cur_of (i := (91, 1, .iload_n 1, (0, 0, 0), 0)) (by decide +kernel)) g1m hm_z
    replace hm_z := rn_ifF (am_cur_of (i := (92, 3, .ifCond .ge 17, (60, 0, 0), 0)) (by decide +kernel)) (by decide) hm_z
    replace hm_z := rn_aload_n (am_cur_of (i := (95, 1, .aload_n 0, (0, 0, 0), 0)) (by decide +kernel)) g0m hm_z
    replace hm_z := rn_getI (v := 4) (am_cur_of (i := (96, 3, .getfield 157, (12, 8, 1392), 0)) (by decide +kernel)) (by decide +kernel) kc hm_z
    replace hm_z := rn_iconst (w := 3) (am_cur_of (i := (99, 1, .iconst 3, (0, 0, 0), 0)) (by decide +kernel)) (by decide) hm_z
    replace hm_z := rn_cmpF (am_cur_of (i := (100, 3, .if_icmp .eq 9, (60, 0, 0), 0)) (by decide +kernel)) (by decide) hm_z
    replace hm_z := rn_aload_n (am_cur_of (i := (103, 1, .aload_n 0, (0, 0, 0), 0)) (by decide +kernel)) g0m hm_z
    replace hm_z := rn_iconst (w := 1) (am_cur_of (i := (104, 1, .iconst 1, (0, 0, 0), 0)) (by decide +kernel)) (by decide) hm_z
    replace hm_z := rn_callV (M' := am_m158) (o := 164) (ar := [.int 1]) (rest := []) (L := lv_args 0 [.ref 164, .int 1]) (am_cur_of (i := (105, 3, .invokevirtual 181, (158, 1665, 3), 0)) (by decide +kernel)) rfl rfl rfl rfl hm_z
    obtain ⟨r1268_z, h1269_z, q1270_z, hm_z⟩ := hm_z
    obtain ⟨rfl, yq1270_z⟩ := rp_wrong q1270_z
    subst yq1270_z
    replace hm_z : rn _ _ _ _ [.int 0] _ _ _ := hm_z
    replace hm_z := rn_iret (am_cur_of (i := (108, 1, .ireturn, (0, 0, 0), 0)) (by decide +kernel)) hm_z
    obtain ⟨e1271_z, e1272_z⟩ := hm_z
    subst e1271_z e1272_z
    exact (Or.inr ⟨rfl, 1, by decide, K.1, K.2, rfl, R6⟩)
  · have g0_z : am_get (lv_args 0 [.ref 44, .int 0]) 0 = some (.ref 44) := rfl
    have g1_z : am_get (lv_args 0 [.ref 44, .int 0]) 1 = some (.int 0) := rfl
    have g0m : am_get (lv_args 0 [.ref 164]) 0 = some (.ref 164) := rfl
    have Rk := R
    have Zk := Z
    obtain ⟨⟨c1_z, c2_z, c3_z, c4_z, c5_z, c6_z, c7_z, c8_z⟩, ⟨m2_z, m3_z, m4_z, m5_z, m6_z, m7_z, m8_z⟩, R3, R4, R5, R6, R7, R8, R9, R10⟩ := (R : rq T S x p 2 h g)
    obtain ⟨np, op, z1_z, z2_z, z3_z, z4_z, z5_z, z6_z, z7_z, z8_z, z9_z, z10_z⟩ := (Z : rs 2 h g)
    obtain ⟨nk1_z, nk2_z, nk3_z⟩ := A.2.2.2.2.2.1
    replace nk1_z : rg_v h 11 0 = rg_v g 164 44 := nk1_z
    replace nk2_z : 0 ≤ (rg_v h 11 0).toInt := nk2_z
    replace nk3_z : (rg_v h 11 0).toInt ≤ 64 := nk3_z
    replace z8_z : np.toInt ≤ (rg_v h 11 0).toInt + op.toInt := z8_z
    obtain ⟨kn, ekn⟩ : ∃ v, rg_v h 11 0 = v := ⟨_, rfl⟩
    rw [ekn] at nk1_z nk2_z nk3_z z8_z
    have e9_z := rt_c1 (x := kn) (by omega) (by omega)
    replace hc_z := rn_aload_n (am_cur_of (i := (0, 1, .aload_n 0, (0, 0, 0), 0)) (by decide +kernel)) g0_z hc_z
    replace hc_z := rn_getI (v := 6) (am_cur_of (i := (1, 3, .getfield 60, (4, 10, 419), 0)) (by decide +kernel)) (by decide +kernel) ka hc_z
    replace hc_z := rn_bipush (w := 6) (am_cur_of (i := (4, 2, .bipush 6, (0, 0, 0), 0)) (by decide +kernel)) (by decide) hc_z
    replace hc_z := rn_cmpF (am_cur_of (i := (6, 3, .if_icmp .ne 30, (19, 0, 0), 0)) (by decide +kernel)) (by decide) hc_z
    replace hc_z := rn_aload_n (am_cur_of (i := (9, 1, .aload_n 0, (0, 0, 0), 0)) (by decide +kernel)) g0_z hc_z
    replace hc_z := rn_getI (v := 15) (am_cur_of (i := (10, 3, .getfield 91, (4, 11, 420), 0)) (by decide +kernel)) (by decide +kernel) kb hc_z
    replace hc_z := rn_iconst (w := 5) (am_cur_of (i := (13, 1, .iconst 5, (0, 0, 0), 0)) (by decide +kernel)) (by decide) hc_z
    replace hc_z := rn_cmpT (am_cur_of (i := (14, 3, .if_icmp .ne 22, (19, 0, 0), 0)) (by decide +kernel)) (by decide) hc_z
    replace hc_z := rn_aload_n (am_cur_of (i := (36, 1, .aload_n 0, (0, 0, 0), 0)) (by decide +kernel)) g0_z hc_z
    replace hc_z := rn_bipush (w := 40) (am_cur_of (i := (37, 2, .bipush 40, (0, 0, 0), 0)) (by decide +kernel)) (by decide) hc_z
    replace hc_z := rn_callV (M' := am_m45) (o := 44) (ar := [.int 40]) (rest := []) (L := lv_args 0 [.ref 44, .int 40]) (am_cur_of (i := (39, 3, .invokevirtual 105, (45, 834, 3), 0)) (by decide +kernel)) rfl rfl rfl rfl hc_z
    obtain ⟨r1273_z, h1274_z, q1275_z, hc_z⟩ := hc_z
    obtain ⟨rfl, yq1275_z⟩ := rp_mkN (fun q => absurd (Eq.trans (Eq.symm ka) q.1) (by decide)) q1275_z
    subst yq1275_z
    replace hc_z : rn _ _ _ _ [.int 0] _ _ _ := hc_z
    replace hc_z := rn_ifT (am_cur_of (i := (42, 3, .ifCond .eq 38, (43, 0, 0), 0)) (by decide +kernel)) (by decide) hc_z
    replace hc_z := rn_aload_n (am_cur_of (i := (80, 1, .aload_n 0, (0, 0, 0), 0)) (by decide +kernel)) g0_z hc_z
    replace hc_z := rn_getI (v := 6) (am_cur_of (i := (81, 3, .getfield 60, (4, 10, 419), 0)) (by decide +kernel)) (by decide +kernel) ka hc_z
    replace hc_z := rn_iconst (w := 4) (am_cur_of (i := (84, 1, .iconst 4, (0, 0, 0), 0)) (by decide +kernel)) (by decide) hc_z
    replace hc_z := rn_cmpT (am_cur_of (i := (85, 3, .if_icmp .ne 40, (64, 0, 0), 0)) (by decide +kernel)) (by decide) hc_z
    replace hc_z := rn_aload_n (am_cur_of (i := (125, 1, .aload_n 0, (0, 0, 0), 0)) (by decide +kernel)) g0_z hc_z
    replace hc_z := rn_getI (v := 6) (am_cur_of (i := (126, 3, .getfield 60, (4, 10, 419), 0)) (by decide +kernel)) (by decide +kernel) ka hc_z
    replace hc_z := rn_iconst (w := 2) (am_cur_of (i := (129, 1, .iconst 2, (0, 0, 0), 0)) (by decide +kernel)) (by decide) hc_z
    replace hc_z := rn_cmpT (am_cur_of (i := (130, 3, .if_icmp .ne 37, (84, 0, 0), 0)) (by decide +kernel)) (by decide) hc_z
    replace hc_z := rn_aload_n (am_cur_of (i := (167, 1, .aload_n 0, (0, 0, 0), 0)) (by decide +kernel)) g0_z hc_z
    replace hc_z := rn_iconst (w := 1) (am_cur_of (i := (168, 1, .iconst 1, (0, 0, 0), 0)) (by decide +kernel)) (by decide) hc_z
    replace hc_z := rn_callV (M' := am_m29) (o := 44) (ar := [.int 1]) (rest := []) (L := lv_args 0 [.ref 44, .int 1]) (am_cur_of (i := (169, 3, .invokevirtual 108, (29, 769, 3), 0)) (by decide +kernel)) rfl rfl rfl rfl hc_z
    obtain ⟨r1276_z, h1277_z, q1278_z, hc_z⟩ := hc_z
    obtain ⟨rfl, yq1278_z⟩ := rp_fail R4 q1278_z
    subst yq1278_z
    replace hc_z : rn _ _ _ _ [] _ _ _ := hc_z
    have K := rs_stick (w := 1) (q := p) (a := 51) (by decide) (by decide) rfl (by decide) rfl (show rg_v (am_up (am_up h 44 1 (.int 1)) 44 2 (.int (rg_v h 44 9))) 44 2 = p from R5) hc_z
    replace hm_z := rn_aload_n (am_cur_of (i := (0, 1, .aload_n 0, (0, 0, 0), 0)) (by decide +kernel)) g0m hm_z
    replace hm_z := rn_bipush (w := 40) (am_cur_of (i := (1, 2, .bipush 40, (0, 0, 0), 0)) (by decide +kernel)) (by decide) hm_z
    replace hm_z := rn_callV (M' := am_m171) (o := 164) (ar := [.int 40]) (rest := []) (L := lv_args 0 [.ref 164, .int 40]) (am_cur_of (i := (3, 3, .invokevirtual 194, (171, 1715, 3), 0)) (by decide +kernel)) rfl rfl rfl rfl hm_z
    obtain ⟨r1279_z, h1280_z, q1281_z, hm_z⟩ := hm_z
    obtain ⟨rfl, yq1281_z⟩ := rp_sgN (fun q => absurd (Eq.trans (Eq.symm kd) q.2) (by decide)) q1281_z
    subst yq1281_z
    replace hm_z : rn _ _ _ _ [.int 0] _ _ _ := hm_z
    replace hm_z := rn_ifT (am_cur_of (i := (6, 3, .ifCond .eq 44, (28, 0, 0), 0)) (by decide +kernel)) (by decide) hm_z
    replace hm_z := rn_aload_n (am_cur_of (i := (50, 1, .aload_n 0, (0, 0, 0), 0)) (by decide +kernel)) g0m hm_z
    replace hm_z := rn_bipush (w := 14) (am_cur_of (i := (51, 2, .bipush 14, (0, 0, 0), 0)) (by decide +kernel)) (by decide) hm_z
    replace hm_z := rn_callV (M' := am_m174) (o := 164) (ar := [.int 14]) (rest := []) (L := lv_args 0 [.ref 164, .int 14]) (am_cur_of (i := (53, 3, .invokevirtual 306, (174, 1727, 3), 0)) (by decide +kernel)) rfl rfl rfl rfl hm_z
    obtain ⟨r1282_z, h1283_z, q1284_z, hm_z⟩ := hm_z
    obtain ⟨rfl, yq1284_z⟩ := rp_kyN (fun q => absurd (Eq.trans (Eq.symm kc) q.1) (by decide)) q1284_z
    subst yq1284_z
    replace hm_z : rn _ _ _ _ [.int 0] _ _ _ := hm_z
    replace hm_z := rn_ifT (am_cur_of (i := (56, 3, .ifCond .eq 30, (47, 0, 0), 0)) (by decide +kernel)) (by decide) hm_z
    replace hm_z := rn_aload_n (am_cur_of (i := (86, 1, .aload_n 0, (0, 0, 0), 0)) (by decide +kernel)) g0m hm_z
    replace hm_z := rn_callV (M' := am_m176) (o := 164) (ar := []) (rest := []) (L := lv_args 0 [.ref 164]) (am_cur_of (i := (87, 3, .invokevirtual 312, (176, 1735, 3), 0)) (by decide +kernel)) rfl rfl rfl rfl hm_z
    obtain ⟨r1285_z, h1286_z, q1287_z, hm_z⟩ := hm_z
    obtain ⟨rfl, yq1287_z⟩ := rp_nm (c := 4) (d := 47) kc kd q1287_z
    replace yq1287_z := yq1287_z.symm
    subst yq1287_z
    rw [show rp_nmf 4 47 = (-1) from by unfold rp_nmf; rw [if_neg (by decide)]] at hm_z
    replace hm_z : rn _ _ _ _ [.int (-1)] _ _ _ := hm_z
    replace hm_z := rn_istore_n (am_cur_of (i := (90, 1, .istore_n 1, (0, 0, 0), 0)) (by decide +kernel)) hm_z
    obtain ⟨_, s1288_z, s1289_z, g1m, hm_z⟩ := hm_z
    replace g0m := s1288_z 0 _ (by decide) rfl g0m
    clear s1288_z s1289_z
    replace hm_z := rn_iload_n (am_cur_of (i := (91, 1, .iload_n 1, (0, 0, 0), 0)) (by decide +kernel)) g1m hm_z
    replace hm_z := rn_ifF (am_cur_of (i := (92, 3, .ifCond .ge 17, (60, 0, 0), 0)) (by decide +kernel)) (by decide) hm_z
    replace hm_z := rn_aload_n (am_cur_of (i := (95, 1, .aload_n 0, (0, 0, 0), 0)) (by decide +kernel)) g0m hm_z
    replace hm_z := rn_getI (v := 4) (am_cur_of (i := (96, 3, .getfield 157, (12, 8, 1392), 0)) (by decide +kernel)) (by decide +kernel) kc hm_z
    replace hm_z := rn_iconst (w := 3) (am_cur_of (i := (99, 1, .iconst 3, (0, 0, 0), 0)) (by decide +kernel)) (by decide) hm_z
    replace hm_z := rn_cmpF (am_cur_of (i := (100, 3, .if_icmp .eq 9, (60, 0, 0), 0)) (by decide +kernel)) (by decide) hm_z
    replace hm_z := rn_aload_n (am_cur_of (i := (103, 1, .aload_n 0, (0, 0, 0), 0)) (by decide +kernel)) g0m hm_z
    replace hm_z := rn_iconst (w := 1) (am_cur_of (i := (104, 1, .iconst 1, (0, 0, 0), 0)) (by decide +kernel)) (by decide) hm_z
    replace hm_z := rn_callV (M' := am_m158) (o := 164) (ar := [.int 1]) (rest := []) (L := lv_args 0 [.ref 164, .int 1]) (am_cur_of (i := (105, 3, .invokevirtual 181, (158, 1665, 3), 0)) (by decide +kernel)) rfl rfl rfl rfl hm_z
    obtain ⟨r1290_z, h1291_z, q1292_z, hm_z⟩ := hm_z
    obtain ⟨rfl, yq1292_z⟩ := rp_wrong q1292_z
    subst yq1292_z
    replace hm_z : rn _ _ _ _ [.int 0] _ _ _ := hm_z
    replace hm_z := rn_iret (am_cur_of (i := (108, 1, .ireturn, (0, 0, 0), 0)) (by decide +kernel)) hm_z
    obtain ⟨e1293_z, e1294_z⟩ := hm_z
    subst e1293_z e1294_z
    exact (Or.inr ⟨rfl, 1, by decide, K.1, K.2, rfl, R6⟩)
