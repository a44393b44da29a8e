/-! ===== readValue against leafRead, 23, 0 (wip/r/gen99qr.py) ===== -/
theorem rv_val230 {T : Nat → Int32} {S x p : Int32} {n n' : Nat} {h h' g g' : am_H} {r r' : Option Value} (R : rq T S x p 23 h g) (A : rp 23 h g) (B : rp_t h g) (Z : rs 23 h g) (w1_z : rg_v g 164 45 = 1) (w2_z : rg_v g 164 46 = 1) (hc_z : rn n am_m51 0 (lv_args 0 [.ref 44, .int 0]) [] h r h') (hm_z : rn n' am_m172 0 (lv_args 0 [.ref 164]) [] g r' g') : rv_Q T S x p 23 h' g' r r' := by
  have z8_z : (8 : Int32).toInt = 8 := by decide
  have z11_z : (11 : Int32).toInt = 11 := by decide
  have z9999_z : (9999 : Int32).toInt = 9999 := by decide
  rcases tk_cases R.2.2.2.2.2.2.2.2.2 with ⟨ka, kc⟩ | ⟨ka, kc⟩ | ⟨ka, kc, kd⟩ | ⟨ka, kc, kb0_z, kb9_z, kd⟩ | ⟨ka, kc, kb, kd⟩ | ⟨ka, kc, kb, kd⟩ | ⟨ka, kc, kb, kd⟩ | ⟨ka, kc, kb, kd⟩ | ⟨ka, kc, kb, kd⟩ | ⟨ka, kc, kb, kd⟩ | ⟨ka, kc, kd⟩ | ⟨ka, kc, kb0_z, kd0_z, kbd⟩ | ⟨ka, kc, kb, kd⟩ | ⟨ka, kc, kb, kd⟩ | ⟨ka, kc, kb, kd⟩ | ⟨ka, kc, kb, kd⟩ | ⟨ka, kc, kb, kd⟩ | ⟨ka, kc, kb, kd⟩ | ⟨ka, kc, kb, kd⟩ | ⟨ka, kc, kb, kd⟩ | ⟨ka, kc, kb, kd⟩ | ⟨ka, kc, kb, kd⟩ | ⟨ka, kc, kb, kd⟩ | ⟨ka, kc, kb, kd⟩ | ⟨ka, kc, kb, kd⟩ | ⟨ka, kc, kb, kd⟩ | ⟨ka, kc, kb, kd⟩ | ⟨ka, kc, kb, kd⟩
  · have g0_z : am_get (lv_args 0 [.ref 44, .int 0]) 0 = some (.ref 44) := rfl
    have g1_z : am_get (lv_args 0 [.ref 44, .int 0]) 1 = some (.int 0) := rfl
    have g0m : am_get (lv_args 0 [.ref 164]) 0 = some (.ref 164) := rfl
    have Rk := R
    have Zk := Z
    obtain ⟨⟨c1_z, c2_z, c3_z, c4_z, c5_z, c6_z, c7_z, c8_z⟩, ⟨m2_z, m3_z, m4_z, m5_z, m6_z, m7_z, m8_z⟩, R3, R4, R5, R6, R7, R8, R9, R10⟩ := (R : rq T S x p 23 h g)
    obtain ⟨np, op, z1_z, z2_z, z3_z, z4_z, z5_z, z6_z, z7_z, z8_z, z9_z, z10_z⟩ := (Z : rs 23 h g)
    obtain ⟨nk1_z, nk2_z, nk3_z⟩ := A.2.2.2.2.2.1
    replace nk1_z : rg_v h 32 0 = rg_v g 164 44 := nk1_z
    replace nk2_z : 0 ≤ (rg_v h 32 0).toInt := nk2_z
    replace nk3_z : (rg_v h 32 0).toInt ≤ 64 := nk3_z
    replace z8_z : np.toInt ≤ (rg_v h 32 0).toInt + op.toInt := z8_z
    obtain ⟨kn, ekn⟩ : ∃ v, rg_v h 32 0 = v := ⟨_, rfl⟩
    rw [ekn] at nk1_z nk2_z nk3_z z8_z
    have e9_z := rt_c1 (x := kn) (by omega) (by omega)
    replace hc_z := rn_aload_n (am_cur_of (i := (0, 1, .aload_n 0, (0, 0, 0), 0)) (by decide +kernel)) g0_z hc_z
    replace hc_z := rn_getI (v := 0) (am_cur_of (i := (1, 3, .getfield 60, (4, 10, 419), 0)) (by decide +kernel)) (by decide +kernel) ka hc_z
    replace hc_z := rn_bipush (w := 6) (am_cur_of (i := (4, 2, .bipush 6, (0, 0, 0), 0)) (by decide +kernel)) (by decide) hc_z
    replace hc_z := rn_cmpT (am_cur_of (i := (6, 3, .if_icmp .ne 30, (19, 0, 0), 0)) (by decide +kernel)) (by decide) hc_z
    replace hc_z := rn_aload_n (am_cur_of (i := (36, 1, .aload_n 0, (0, 0, 0), 0)) (by decide +kernel)) g0_z hc_z
    replace hc_z := rn_bipush (w := 40) (am_cur_of (i := (37, 2, .bipush 40, (0, 0, 0), 0)) (by decide +kernel)) (by decide) hc_z
    replace hc_z := rn_callV (M' := am_m45) (o := 44) (ar := [.int 40]) (rest := []) (L := lv_args 0 [.ref 44, .int 40]) (am_cur_of (i := (39, 3, .invokevirtual 105, (45, 834, 3), 0)) (by decide +kernel)) rfl rfl rfl rfl hc_z
    obtain ⟨r2159_z, h2160_z, q2161_z, hc_z⟩ := hc_z
    obtain ⟨rfl, yq2161_z⟩ := rp_mkN (fun q => absurd (Eq.trans (Eq.symm ka) q.1) (by decide)) q2161_z
    subst yq2161_z
    replace hc_z : rn _ _ _ _ [.int 0] _ _ _ := hc_z
    replace hc_z := rn_ifT (am_cur_of (i := (42, 3, .ifCond .eq 38, (43, 0, 0), 0)) (by decide +kernel)) (by decide) hc_z
    replace hc_z := rn_aload_n (am_cur_of (i := (80, 1, .aload_n 0, (0, 0, 0), 0)) (by decide +kernel)) g0_z hc_z
    replace hc_z := rn_getI (v := 0) (am_cur_of (i := (81, 3, .getfield 60, (4, 10, 419), 0)) (by decide +kernel)) (by decide +kernel) ka hc_z
    replace hc_z := rn_iconst (w := 4) (am_cur_of (i := (84, 1, .iconst 4, (0, 0, 0), 0)) (by decide +kernel)) (by decide) hc_z
    replace hc_z := rn_cmpT (am_cur_of (i := (85, 3, .if_icmp .ne 40, (64, 0, 0), 0)) (by decide +kernel)) (by decide) hc_z
    replace hc_z := rn_aload_n (am_cur_of (i := (125, 1, .aload_n 0, (0, 0, 0), 0)) (by decide +kernel)) g0_z hc_z
    replace hc_z := rn_getI (v := 0) (am_cur_of (i := (126, 3, .getfield 60, (4, 10, 419), 0)) (by decide +kernel)) (by decide +kernel) ka hc_z
    replace hc_z := rn_iconst (w := 2) (am_cur_of (i := (129, 1, .iconst 2, (0, 0, 0), 0)) (by decide +kernel)) (by decide) hc_z
    replace hc_z := rn_cmpT (am_cur_of (i := (130, 3, .if_icmp .ne 37, (84, 0, 0), 0)) (by decide +kernel)) (by decide) hc_z
    replace hc_z := rn_aload_n (am_cur_of (i := (167, 1, .aload_n 0, (0, 0, 0), 0)) (by decide +kernel)) g0_z hc_z
    replace hc_z := rn_iconst (w := 1) (am_cur_of (i := (168, 1, .iconst 1, (0, 0, 0), 0)) (by decide +kernel)) (by decide) hc_z
    replace hc_z := rn_callV (M' := am_m29) (o := 44) (ar := [.int 1]) (rest := []) (L := lv_args 0 [.ref 44, .int 1]) (am_cur_of (i := (169, 3, .invokevirtual 108, (29, 769, 3), 0)) (by decide +kernel)) rfl rfl rfl rfl hc_z
    obtain ⟨r2162_z, h2163_z, q2164_z, hc_z⟩ := hc_z
    obtain ⟨rfl, yq2164_z⟩ := rp_fail R4 q2164_z
    subst yq2164_z
    replace hc_z : rn _ _ _ _ [] _ _ _ := hc_z
    have K := rs_stick (w := 1) (q := p) (a := 51) (by decide) (by decide) rfl (by decide) rfl (show rg_v (am_up (am_up h 44 1 (.int 1)) 44 2 (.int (rg_v h 44 9))) 44 2 = p from R5) hc_z
    replace hm_z := rn_aload_n (am_cur_of (i := (0, 1, .aload_n 0, (0, 0, 0), 0)) (by decide +kernel)) g0m hm_z
    replace hm_z := rn_bipush (w := 40) (am_cur_of (i := (1, 2, .bipush 40, (0, 0, 0), 0)) (by decide +kernel)) (by decide) hm_z
    replace hm_z := rn_callV (M' := am_m171) (o := 164) (ar := [.int 40]) (rest := []) (L := lv_args 0 [.ref 164, .int 40]) (am_cur_of (i := (3, 3, .invokevirtual 194, (171, 1715, 3), 0)) (by decide +kernel)) rfl rfl rfl rfl hm_z
    obtain ⟨r2165_z, h2166_z, q2167_z, hm_z⟩ := hm_z
    obtain ⟨rfl, yq2167_z⟩ := rp_sgN (fun q => absurd (Eq.trans (Eq.symm kc) q.1) (by decide)) q2167_z
    subst yq2167_z
    replace hm_z : rn _ _ _ _ [.int 0] _ _ _ := hm_z
    replace hm_z := rn_ifT (am_cur_of (i := (6, 3, .ifCond .eq 44, (28, 0, 0), 0)) (by decide +kernel)) (by decide) hm_z
    replace hm_z := rn_aload_n (am_cur_of (i := (50, 1, .aload_n 0, (0, 0, 0), 0)) (by decide +kernel)) g0m hm_z
    replace hm_z := rn_bipush (w := 14) (am_cur_of (i := (51, 2, .bipush 14, (0, 0, 0), 0)) (by decide +kernel)) (by decide) hm_z
    replace hm_z := rn_callV (M' := am_m174) (o := 164) (ar := [.int 14]) (rest := []) (L := lv_args 0 [.ref 164, .int 14]) (am_cur_of (i := (53, 3, .invokevirtual 306, (174, 1727, 3), 0)) (by decide +kernel)) rfl rfl rfl rfl hm_z
    obtain ⟨r2168_z, h2169_z, q2170_z, hm_z⟩ := hm_z
    obtain ⟨rfl, yq2170_z⟩ := rp_kyN (fun q => absurd (Eq.trans (Eq.symm kc) q.1) (by decide)) q2170_z
    subst yq2170_z
    replace hm_z : rn _ _ _ _ [.int 0] _ _ _ := hm_z
    replace hm_z := rn_ifT (am_cur_of (i := (56, 3, .ifCond .eq 30, (47, 0, 0), 0)) (by decide +kernel)) (by decide) hm_z
    replace hm_z := rn_aload_n (am_cur_of (i := (86, 1, .aload_n 0, (0, 0, 0), 0)) (by decide +kernel)) g0m hm_z
    replace hm_z := rn_callV (M' := am_m176) (o := 164) (ar := []) (rest := []) (L := lv_args 0 [.ref 164]) (am_cur_of (i := (87, 3, .invokevirtual 312, (176, 1735, 3), 0)) (by decide +kernel)) rfl rfl rfl rfl hm_z
    obtain ⟨r2171_z, h2172_z, q2173_z, hm_z⟩ := hm_z
    obtain ⟨rfl, yq2173_z⟩ := rp_nm (c := 0) (d := rg_v g 164 9) kc rfl q2173_z
    replace yq2173_z := yq2173_z.symm
    subst yq2173_z
    rw [show rp_nmf 0 (rg_v g 164 9) = (-1) from by unfold rp_nmf; rw [if_neg (by decide)]] at hm_z
    replace hm_z : rn _ _ _ _ [.int (-1)] _ _ _ := hm_z
    replace hm_z := rn_istore_n (am_cur_of (i := (90, 1, .istore_n 1, (0, 0, 0), 0)) (by decide +kernel)) hm_z
    obtain ⟨_, s2174_z, s2175_z, g1m, hm_z⟩ := hm_z
    replace g0m := s2174_z 0 _ (by decide) rfl g0m
    clear s2174_z s2175_z
    replace hm_z := rn_iload_n (am_cur_of (i := (91, 1, .iload_n 1, (0, 0, 0), 0)) (by decide +kernel)) g1m hm_z
    replace hm_z := rn_ifF (am_cur_of (i := (92, 3, .ifCond .ge 17, (60, 0, 0), 0)) (by decide +kernel)) (by decide) hm_z
    replace hm_z := rn_aload_n (am_cur_of (i := (95, 1, .aload_n 0, (0, 0, 0), 0)) (by decide +kernel)) g0m hm_z
    replace hm_z := rn_getI (v := 0) (am_cur_of (i := (96, 3, .getfield 157, (12, 8, 1392), 0)) (by decide +kernel)) (by decide +kernel) kc hm_z
    replace hm_z := rn_iconst (w := 3) (am_cur_of (i := (99, 1, .iconst 3, (0, 0, 0), 0)) (by decide +kernel)) (by decide) hm_z
    replace hm_z := rn_cmpF (am_cur_of (i := (100, 3, .if_icmp .eq 9, (60, 0, 0), 0)) (by decide +kernel)) (by decide) hm_z
    replace hm_z := rn_aload_n (am_cur_of (i := (103, 1, .aload_n 0, (0, 0, 0), 0)) (by decide +kernel)) g0m hm_z
    replace hm_z := rn_iconst (w := 1) (am_cur_of (i := (104, 1, .iconst 1, (0, 0, 0), 0)) (by decide +kernel)) (by decide) hm_z
    replace hm_z := rn_callV (M' := am_m158) (o := 164) (ar := [.int 1]) (rest := []) (L := lv_args 0 [.ref 164, .int 1]) (am_cur_of (i := (105, 3, .invokevirtual 181, (158, 1665, 3), 0)) (by decide +kernel)) rfl rfl rfl rfl hm_z
    obtain ⟨r2176_z, h2177_z, q2178_z, hm_z⟩ := hm_z
    obtain ⟨rfl, yq2178_z⟩ := rp_wrong q2178_z
    subst yq2178_z
    replace hm_z : rn _ _ _ _ [.int 0] _ _ _ := hm_z
    replace hm_z := rn_iret (am_cur_of (i := (108, 1, .ireturn, (0, 0, 0), 0)) (by decide +kernel)) hm_z
    obtain ⟨e2179_z, e2180_z⟩ := hm_z
    subst e2179_z e2180_z
    exact (Or.inr ⟨rfl, 1, by decide, K.1, K.2, rfl, R6⟩)
  · have g0_z : am_get (lv_args 0 [.ref 44, .int 0]) 0 = some (.ref 44) := rfl
    have g1_z : am_get (lv_args 0 [.ref 44, .int 0]) 1 = some (.int 0) := rfl
    have g0m : am_get (lv_args 0 [.ref 164]) 0 = some (.ref 164) := rfl
    have Rk := R
    have Zk := Z
    obtain ⟨⟨c1_z, c2_z, c3_z, c4_z, c5_z, c6_z, c7_z, c8_z⟩, ⟨m2_z, m3_z, m4_z, m5_z, m6_z, m7_z, m8_z⟩, R3, R4, R5, R6, R7, R8, R9, R10⟩ := (R : rq T S x p 23 h g)
    obtain ⟨np, op, z1_z, z2_z, z3_z, z4_z, z5_z, z6_z, z7_z, z8_z, z9_z, z10_z⟩ := (Z : rs 23 h g)
    obtain ⟨nk1_z, nk2_z, nk3_z⟩ := A.2.2.2.2.2.1
    replace nk1_z : rg_v h 32 0 = rg_v g 164 44 := nk1_z
    replace nk2_z : 0 ≤ (rg_v h 32 0).toInt := nk2_z
    replace nk3_z : (rg_v h 32 0).toInt ≤ 64 := nk3_z
    replace z8_z : np.toInt ≤ (rg_v h 32 0).toInt + op.toInt := z8_z
    obtain ⟨kn, ekn⟩ : ∃ v, rg_v h 32 0 = v := ⟨_, rfl⟩
    rw [ekn] at nk1_z nk2_z nk3_z z8_z
    have e9_z := rt_c1 (x := kn) (by omega) (by omega)
    replace hc_z := rn_aload_n (am_cur_of (i := (0, 1, .aload_n 0, (0, 0, 0), 0)) (by decide +kernel)) g0_z hc_z
    replace hc_z := rn_getI (v := 1) (am_cur_of (i := (1, 3, .getfield 60, (4, 10, 419), 0)) (by decide +kernel)) (by decide +kernel) ka hc_z
    replace hc_z := rn_bipush (w := 6) (am_cur_of (i := (4, 2, .bipush 6, (0, 0, 0), 0)) (by decide +kernel)) (by decide) hc_z
    replace hc_z := rn_cmpT (am_cur_of (i := (6, 3, .if_icmp .ne 30, (19, 0, 0), 0)) (by decide +kernel)) (by decide) hc_z
    replace hc_z := rn_aload_n (am_cur_of (i := (36, 1, .aload_n 0, (0, 0, 0), 0)) (by decide +kernel)) g0_z hc_z
    replace hc_z := rn_bipush (w := 40) (am_cur_of (i := (37, 2, .bipush 40, (0, 0, 0), 0)) (by decide +kernel)) (by decide) hc_z
    replace hc_z := rn_callV (M' := am_m45) (o := 44) (ar := [.int 40]) (rest := []) (L := lv_args 0 [.ref 44, .int 40]) (am_cur_of (i := (39, 3, .invokevirtual 105, (45, 834, 3), 0)) (by decide +kernel)) rfl rfl rfl rfl hc_z
    obtain ⟨r2181_z, h2182_z, q2183_z, hc_z⟩ := hc_z
    obtain ⟨rfl, yq2183_z⟩ := rp_mkN (fun q => absurd (Eq.trans (Eq.symm ka) q.1) (by decide)) q2183_z
    subst yq2183_z
    replace hc_z : rn _ _ _ _ [.int 0] _ _ _ := hc_z
    replace hc_z := rn_ifT (am_cur_of (i := (42, 3, .ifCond .eq 38, (43, 0, 0), 0)) (by decide +kernel)) (by decide) hc_z
    replace hc_z := rn_aload_n (am_cur_of (i := (80, 1, .aload_n 0, (0, 0, 0), 0)) (by decide +kernel)) g0_z hc_z
    replace hc_z := rn_getI (v := 1) (am_cur_of (i := (81, 3, .getfield 60, (4, 10, 419), 0)) (by decide +kernel)) (by decide +kernel) ka hc_z
    replace hc_z := rn_iconst (w := 4) (am_cur_of (i := (84, 1, .iconst 4, (0, 0, 0), 0)) (by decide +kernel)) (by decide) hc_z
    replace hc_z := rn_cmpT (am_cur_of (i := (85, 3, .if_icmp .ne 40, (64, 0, 0), 0)) (by decide +kernel)) (by decide) hc_z
    replace hc_z := rn_aload_n (am_cur_of (i := (125, 1, .aload_n 0, (0, 0, 0), 0)) (by decide +kernel)) g0_z hc_z
    replace hc_z := rn_getI (v := 1) (am_cur_of (i := (126, 3, .getfield 60, (4, 10, 419), 0)) (by decide +kernel)) (by decide +kernel) ka hc_z
    replace hc_z := rn_iconst (w := 2) (am_cur_of (i := (129, 1, .iconst 2, (0, 0, 0), 0)) (by decide +kernel)) (by decide) hc_z
    replace hc_z := rn_cmpT (am_cur_of (i := (130, 3, .if_icmp .ne 37, (84, 0, 0), 0)) (by decide +kernel)) (by decide) hc_z
    replace hc_z := rn_aload_n (am_cur_of (i := (167, 1, .aload_n 0, (0, 0, 0), 0)) (by decide +kernel)) g0_z hc_z
    replace hc_z := rn_iconst (w := 1) (am_cur_of (i := (168, 1, .iconst 1, (0, 0, 0), 0)) (by decide +kernel)) (by decide) hc_z
    replace hc_z := rn_callV (M' := am_m29) (o := 44) (ar := [.int 1]) (rest := []) (L := lv_args 0 [.ref 44, .int 1]) (am_cur_of (i := (169, 3, .invokevirtual 108, (29, 769, 3), 0)) (by decide +kernel)) rfl rfl rfl rfl hc_z
    obtain ⟨r2184_z, h2185_z, q2186_z, hc_z⟩ := hc_z
    obtain ⟨rfl, yq2186_z⟩ := rp_fail R4 q2186_z
    subst yq2186_z
    replace hc_z : rn _ _ _ _ [] _ _ _ := hc_z
    have K := rs_stick (w := 1) (q := p) (a := 51) (by decide) (by decide) rfl (by decide) rfl (show rg_v (am_up (am_up h 44 1 (.int 1)) 44 2 (.int (rg_v h 44 9))) 44 2 = p from R5) hc_z
    replace hm_z := rn_aload_n (am_cur_of (i := (0, 1, .aload_n 0, (0, 0, 0), 0)) (by decide +kernel)) g0m hm_z
    replace hm_z := rn_bipush (w := 40) (am_cur_of (i := (1, 2, .bipush 40, (0, 0, 0), 0)) (by decide +kernel)) (by decide) hm_z
    replace hm_z := rn_callV (M' := am_m171) (o := 164) (ar := [.int 40]) (rest := []) (L := lv_args 0 [.ref 164, .int 40]) (am_cur_of (i := (3, 3, .invokevirtual 194, (171, 1715, 3), 0)) (by decide +kernel)) rfl rfl rfl rfl hm_z
    obtain ⟨r2187_z, h2188_z, q2189_z, hm_z⟩ := hm_z
    obtain ⟨rfl, yq2189_z⟩ := rp_sgN (fun q => absurd (Eq.trans (Eq.symm kc) q.1) (by decide)) q2189_z
    subst yq2189_z
    replace hm_z : rn _ _ _ _ [.int 0] _ _ _ := hm_z
    replace hm_z := rn_ifT (am_cur_of (i := (6, 3, .ifCond .eq 44, (28, 0, 0), 0)) (by decide +kernel)) (by decide) hm_z
    replace hm_z := rn_aload_n (am_cur_of (i := (50, 1, .aload_n 0, (0, 0, 0), 0)) (by decide +kernel)) g0m hm_z
    replace hm_z := rn_bipush (w := 14) (am_cur_of (i := (51, 2, .bipush 14, (0, 0, 0), 0)) (by decide +kernel)) (by decide) hm_z
    replace hm_z := rn_callV (M' := am_m174) (o := 164) (ar := [.int 14]) (rest := []) (L := lv_args 0 [.ref 164, .int 14]) (am_cur_of (i := (53, 3, .invokevirtual 306, (174, 1727, 3), 0)) (by decide +kernel)) rfl rfl rfl rfl hm_z
    obtain ⟨r2190_z, h2191_z, q2192_z, hm_z⟩ := hm_z
    obtain ⟨rfl, yq2192_z⟩ := rp_kyN (fun q => absurd (Eq.trans (Eq.symm kc) q.1) (by decide)) q2192_z
    subst yq2192_z
    replace hm_z : rn _ _ _ _ [.int 0] _ _ _ := hm_z
    replace hm_z := rn_ifT (am_cur_of (i := (56, 3, .ifCond .eq 30, (47, 0, 0), 0)) (by decide +kernel)) (by decide) hm_z
    replace hm_z := rn_aload_n (am_cur_of (i := (86, 1, .aload_n 0, (0, 0, 0), 0)) (by decide +kernel)) g0m hm_z
    replace hm_z := rn_callV (M' := am_m176) (o := 164) (ar := []) (rest := []) (L := lv_args 0 [.ref 164]) (am_cur_of (i := (87, 3, .invokevirtual 312, (176, 1735, 3), 0)) (by decide +kernel)) rfl rfl rfl rfl hm_z
    obtain ⟨r2193_z, h2194_z, q2195_z, hm_z⟩ := hm_z
    obtain ⟨rfl, yq2195_z⟩ := rp_nm (c := 6) (d := rg_v g 164 9) kc rfl q2195_z
    replace yq2195_z := yq2195_z.symm
    subst yq2195_z
    rw [show rp_nmf 6 (rg_v g 164 9) = (-1) from by unfold rp_nmf; rw [if_neg (by decide)]] at hm_z
    replace hm_z : rn _ _ _ _ [.int (-1)] _ _ _ := hm_z
    replace hm_z := rn_istore_n (am_cur_of (i := (90, 1, .istore_n 1, (0, 0, 0), 0)) (by decide +kernel)) hm_z
    obtain ⟨_, s2196_z, s2197_z, g1m, hm_z⟩ := hm_z
    replace g0m := s2196_z 0 _ (by decide) rfl g0m
    clear s2196_z s2197_z
    replace hm_z := rn_iload_n (am_cur_of (i := (91, 1, .iload_n 1, (0, 0, 0), 0)) (by decide +kernel)) g1m hm_z
    replace hm_z := rn_ifF (am_cur_of (i := (92, 3, .ifCond .ge 17, (60, 0, 0), 0)) (by decide +kernel)) (by decide) hm_z
    replace hm_z := rn_aload_n (am_cur_of (i := (95, 1, .aload_n 0, (0, 0, 0), 0)) (by decide +kernel)) g0m hm_z
    replace hm_z := rn_getI (v := 6) (am_cur_of (i := (96, 3, .getfield 157, (12, 8, 1392), 0)) (by decide +kernel)) (by decide +kernel) kc hm_z
    replace hm_z := rn_iconst (w := 3) (am_cur_of (i := (99, 1, .iconst 3, (0, 0, 0), 0)) (by decide +kernel)) (by decide) hm_z
    replace hm_z := rn_cmpF (am_cur_of (i := (100, 3, .if_icmp .eq 9, (60, 0, 0), 0)) (by decide +kernel)) (by decide) hm_z
    replace hm_z := rn_aload_n (am_cur_of (i := (103, 1, .aload_n 0, (0, 0, 0), 0)) (by decide +kernel)) g0m hm_z
    replace hm_z := rn_iconst (w := 1) (am_cur_of (i := (104, 1, .iconst 1, (0, 0, 0), 0)) (by decide +kernel)) (by decide) hm_z
    replace hm_z := rn_callV (M' := am_m158) (o := 164) (ar := [.int 1]) (rest := []) (L := lv_args 0 [.ref 164, .int 1]) (am_cur_of (i := (105, 3, .invokevirtual 181, (158, 1665, 3), 0)) (by decide +kernel)) rfl rfl rfl rfl hm_z
    obtain ⟨r2198_z, h2199_z, q2200_z, hm_z⟩ := hm_z
    obtain ⟨rfl, yq2200_z⟩ := rp_wrong q2200_z
    subst yq2200_z
    replace hm_z : rn _ _ _ _ [.int 0] _ _ _ := hm_z
    replace hm_z := rn_iret (am_cur_of (i := (108, 1, .ireturn, (0, 0, 0), 0)) (by decide +kernel)) hm_z
    obtain ⟨e2201_z, e2202_z⟩ := hm_z
    subst e2201_z e2202_z
    exact (Or.inr ⟨rfl, 1, by decide, K.1, K.2, rfl, R6⟩)
  · have g0_z : am_get (lv_args 0 [.ref 44, .int 0]) 0 = some (.ref 44) := rfl
    have g1_z : am_get (lv_args 0 [.ref 44, .int 0]) 1 = some (.int 0) := rfl
    have g0m : am_get (lv_args 0 [.ref 164]) 0 = some (.ref 164) := rfl
    have Rk := R
    have Zk := Z
    obtain ⟨⟨c1_z, c2_z, c3_z, c4_z, c5_z, c6_z, c7_z, c8_z⟩, ⟨m2_z, m3_z, m4_z, m5_z, m6_z, m7_z, m8_z⟩, R3, R4, R5, R6, R7, R8, R9, R10⟩ := (R : rq T S x p 23 h g)
    obtain ⟨np, op, z1_z, z2_z, z3_z, z4_z, z5_z, z6_z, z7_z, z8_z, z9_z, z10_z⟩ := (Z : rs 23 h g)
    obtain ⟨nk1_z, nk2_z, nk3_z⟩ := A.2.2.2.2.2.1
    replace nk1_z : rg_v h 32 0 = rg_v g 164 44 := nk1_z
    replace nk2_z : 0 ≤ (rg_v h 32 0).toInt := nk2_z
    replace nk3_z : (rg_v h 32 0).toInt ≤ 64 := nk3_z
    replace z8_z : np.toInt ≤ (rg_v h 32 0).toInt + op.toInt := z8_z
    obtain ⟨kn, ekn⟩ : ∃ v, rg_v h 32 0 = v := ⟨_, rfl⟩
    rw [ekn] at nk1_z nk2_z nk3_z z8_z
    have e9_z := rt_c1 (x := kn) (by omega) (by omega)
    replace hc_z := rn_aload_n (am_cur_of (i := (0, 1, .aload_n 0, (0, 0, 0), 0)) (by decide +kernel)) g0_z hc_z
    replace hc_z := rn_getI (v := 1) (am_cur_of (i := (1, 3, .getfield 60, (4, 10, 419), 0)) (by decide +kernel)) (by decide +kernel) ka hc_z
    replace hc_z := rn_bipush (w := 6) (am_cur_of (i := (4, 2, .bipush 6, (0, 0, 0), 0)) (by decide +kernel)) (by decide) hc_z
    replace hc_z := rn_cmpT (am_cur_of (i := (6, 3, .if_icmp .ne 30, (19, 0, 0), 0)) (by decide +kernel)) (by decide) hc_z
    replace hc_z := rn_aload_n (am_cur_of (i := (36, 1, .aload_n 0, (0, 0, 0), 0)) (by decide +kernel)) g0_z hc_z
    replace hc_z := rn_bipush (w := 40) (am_cur_of (i := (37, 2, .bipush 40, (0, 0, 0), 0)) (by decide +kernel)) (by decide) hc_z
    replace hc_z := rn_callV (M' := am_m45) (o := 44) (ar := [.int 40]) (rest := []) (L := lv_args 0 [.ref 44, .int 40]) (am_cur_of (i := (39, 3, .invokevirtual 105, (45, 834, 3), 0)) (by decide +kernel)) rfl rfl rfl rfl hc_z
    obtain ⟨r2203_z, h2204_z, q2205_z, hc_z⟩ := hc_z
    obtain ⟨rfl, yq2205_z⟩ := rp_mkN (fun q => absurd (Eq.trans (Eq.symm ka) q.1) (by decide)) q2205_z
    subst yq2205_z
    replace hc_z : rn _ _ _ _ [.int 0] _ _ _ := hc_z
    replace hc_z := rn_ifT (am_cur_of (i := (42, 3, .ifCond .eq 38, (43, 0, 0), 0)) (by decide +kernel)) (by decide) hc_z
    replace hc_z := rn_aload_n (am_cur_of (i := (80, 1, .aload_n 0, (0, 0, 0), 0)) (by decide +kernel)) g0_z hc_z
    replace hc_z := rn_getI (v := 1) (am_cur_of (i := (81, 3, .getfield 60, (4, 10, 419), 0)) (by decide +kernel)) (by decide +kernel) ka hc_z
    replace hc_z := rn_iconst (w := 4) (am_cur_of (i := (84, 1, .iconst 4, (0, 0, 0), 0)) (by decide +kernel)) (by decide) hc_z
    replace hc_z := rn_cmpT (am_cur_of (i := (85, 3, .if_icmp .ne 40, (64, 0, 0), 0)) (by decide +kernel)) (by decide) hc_z
    replace hc_z := rn_aload_n (am_cur_of (i := (125, 1, .aload_n 0, (0, 0, 0), 0)) (by decide +kernel)) g0_z hc_z
    replace hc_z := rn_getI (v := 1) (am_cur_of (i := (126, 3, .getfield 60, (4, 10, 419), 0)) (by decide +kernel)) (by decide +kernel) ka hc_z
    replace hc_z := rn_iconst (w := 2) (am_cur_of (i := (129, 1, .iconst 2, (0, 0, 0), 0)) (by decide +kernel)) (by decide) hc_z
    replace hc_z := rn_cmpT (am_cur_of (i := (130, 3, .if_icmp .ne 37, (84, 0, 0), 0)) (by decide +kernel)) (by decide) hc_z
    replace hc_z := rn_aload_n (am_cur_of (i := (167, 1, .aload_n 0, (0, 0, 0), 0)) (by decide +kernel)) g0_z hc_z
    replace hc_z := rn_iconst (w := 1) (am_cur_of (i := (168, 1, .iconst 1, (0, 0, 0), 0)) (by decide +kernel)) (by decide) hc_z
    replace hc_z := rn_callV (M' := am_m29) (o := 44) (ar := [.int 1]) (rest := []) (L := lv_args 0 [.ref 44, .int 1]) (am_cur_of (i := (169, 3, .invokevirtual 108, (29, 769, 3), 0)) (by decide +kernel)) rfl rfl rfl rfl hc_z
    obtain ⟨r2206_z, h2207_z, q2208_z, hc_z⟩ := hc_z
    obtain ⟨rfl, yq2208_z⟩ := rp_fail R4 q2208_z
    subst yq2208_z
    replace hc_z : rn _ _ _ _ [] _ _ _ := hc_z
    have K := rs_stick (w := 1) (q := p) (a := 51) (by decide) (by decide) rfl (by decide) rfl (show rg_v (am_up (am_up h 44 1 (.int 1)) 44 2 (.int (rg_v h 44 9))) 44 2 = p from R5) hc_z
    replace hm_z := rn_aload_n (am_cur_of (i := (0, 1, .aload_n 0, (0, 0, 0), 0)) (by decide +kernel)) g0m hm_z
    replace hm_z := rn_bipush (w := 40) (am_cur_of (i := (1, 2, .bipush 40, (0, 0, 0), 0)) (by decide +kernel)) (by decide) hm_z
    replace hm_z := rn_callV (M' := am_m171) (o := 164) (ar := [.int 40]) (rest := []) (L := lv_args 0 [.ref 164, .int 40]) (am_cur_of (i := (3, 3, .invokevirtual 194, (171, 1715, 3), 0)) (by decide +kernel)) rfl rfl rfl rfl hm_z
    obtain ⟨r2209_z, h2210_z, q2211_z, hm_z⟩ := hm_z
    obtain ⟨rfl, yq2211_z⟩ := rp_sgN (fun q => absurd (Eq.trans (Eq.symm kd) q.2) (by decide)) q2211_z
    subst yq2211_z
    replace hm_z : rn _ _ _ _ [.int 0] _ _ _ := hm_z
    replace hm_z := rn_ifT (am_cur_of (i := (6, 3, .ifCond .eq 44, (28, 0, 0), 0)) (by decide +kernel)) (by decide) hm_z
    replace hm_z := rn_aload_n (am_cur_of (i := (50, 1, .aload_n 0, (0, 0, 0), 0)) (by decide +kernel)) g0m hm_z
    replace hm_z := rn_bipush (w := 14) (am_cur_of (i := (51, 2, .bipush 14, (0, 0, 0), 0)) (by decide +kernel)) (by decide) hm_z
    replace hm_z := rn_callV (M' := am_m174) (o := 164) (ar := [.int 14]) (rest := []) (L := lv_args 0 [.ref 164, .int 14]) (am_cur_of (i := (53, 3, .invokevirtual 306, (174, 1727, 3), 0)) (by decide +kernel)) rfl rfl rfl rfl hm_z
    obtain ⟨r2212_z, h2213_z, q2214_z, hm_z⟩ := hm_z
    obtain ⟨rfl, yq2214_z⟩ := rp_kyN (fun q => absurd (Eq.trans (Eq.symm kc) q.1) (by decide)) q2214_z
    subst yq2214_z
    replace hm_z : rn _ _ _ _ [.int 0] _ _ _ := hm_z
    replace hm_z := rn_ifT (am_cur_of (i := (56, 3, .ifCond .eq 30, (47, 0, 0), 0)) (by decide +kernel)) (by decide) hm_z
    replace hm_z := rn_aload_n (am_cur_of (i := (86, 1, .aload_n 0, (0, 0, 0), 0)) (by decide +kernel)) g0m hm_z
    replace hm_z := rn_callV (M' := am_m176) (o := 164) (ar := []) (rest := []) (L := lv_args 0 [.ref 164]) (am_cur_of (i := (87, 3, .invokevirtual 312, (176, 1735, 3), 0)) (by decide +kernel)) rfl rfl rfl rfl hm_z
    obtain ⟨r2215_z, h2216_z, q2217_z, hm_z⟩ := hm_z
    obtain ⟨rfl, yq2217_z⟩ := rp_nm (c := 4) (d := 37) kc kd q2217_z
    replace yq2217_z := yq2217_z.symm
    subst yq2217_z
    rw [show rp_nmf 4 37 = (-1) from by unfold rp_nmf; rw [if_neg (by decide)]] at hm_z
    replace hm_z : rn _ _ _ _ [.int (-1)] _ _ _ := hm_z
    replace hm_z := rn_istore_n (am_cur_of (i := (90, 1, .istore_n 1, (0, 0, 0), 0)) (by decide +kernel)) hm_z
    obtain ⟨_, s2218_z, s2219_z, g1m, hm_z⟩ := hm_z
    replace g0m := s2218_z 0 _ (by decide) rfl g0m
    clear s2218_z s2219_z
    replace hm_z := rn_iload_n (am_cur_of (i := (91, 1, .iload_n 1, (0, 0, 0), 0)) (by decide +kernel)) g1m hm_z
    replace hm_z := rn_ifF (am_cur_of (i := (92, 3, .ifCond .ge 17, (60, 0, 0), 0)) (by decide +kernel)) (by decide) hm_z
    replace hm_z := rn_aload_n (am_cur_of (i := (95, 1, .aload_n 0, (0, 0, 0), 0)) (by decide +kernel)) g0m hm_z
    replace hm_z := rn_getI (v := 4) (am_cur_of (i := (96, 3, .getfield 157, (12, 8, 1392), 0)) (by decide +kernel)) (by decide +kernel) kc hm_z
    replace hm_z := rn_iconst (w := 3) (am_cur_of (i := (99, 1, .iconst 3, (0, 0, 0), 0)) (by decide +kernel)) (by decide) hm_z
    replace hm_z := rn_cmpF (am_cur_of (i := (100, 3, .if_icmp .eq 9, (60, 0, 0), 0)) (by decide +kernel)) (by decide) hm_z
    replace hm_z := rn_aload_n (am_cur_of (i := (103, 1, .aload_n 0, (0, 0, 0), 0)) (by decide +kernel)) g0m hm_z
    replace hm_z := rn_iconst (w := 1) (am_cur_of (i := (104, 1, .iconst 1, (0, 0, 0), 0)) (by decide +kernel)) (by decide) hm_z
    replace hm_z := rn_callV (M' := am_m158) (o := 164) (ar := [.int 1]) (rest := []) (L := lv_args 0 [.ref 164, .int 1]) (am_cur_of (i := (105, 3, .invokevirtual 181, (158, 1665, 3), 0)) (by decide +kernel)) rfl rfl rfl rfl hm_z
    obtain ⟨r2220_z, h2221_z, q2222_z, hm_z⟩ := hm_z
    obtain ⟨rfl, yq2222_z⟩ := rp_wrong q2222_z
    subst yq2222_z
    replace hm_z : rn _ _ _ _ [.int 0] _ _ _ := hm_z
    replace hm_z := rn_iret (am_cur_of (i := (108, 1, .ireturn, (0, 0, 0), 0)) (by decide +kernel)) hm_z
    obtain ⟨e2223_z, e2224_z⟩ := hm_z
    subst e2223_z e2224_z
    exact (Or.inr ⟨rfl, 1, by decide, K.1, K.2, rfl, R6⟩)
  · have g0_z : am_get (lv_args 0 [.ref 44, .int 0]) 0 = some (.ref 44) := rfl
    have g1_z : am_get (lv_args 0 [.ref 44, .int 0]) 1 = some (.int 0) := rfl
    have g0m : am_get (lv_args 0 [.ref 164]) 0 = some (.ref 164) := rfl
    have Rk := R
    have Zk := Z
    obtain ⟨⟨c1_z, c2_z, c3_z, c4_z, c5_z, c6_z, c7_z, c8_z⟩, ⟨m2_z, m3_z, m4_z, m5_z, m6_z, m7_z, m8_z⟩, R3, R4, R5, R6, R7, R8, R9, R10⟩ := (R : rq T S x p 23 h g)
    obtain ⟨np, op, z1_z, z2_z, z3_z, z4_z, z5_z, z6_z, z7_z, z8_z, z9_z, z10_z⟩ := (Z : rs 23 h g)
    obtain ⟨nk1_z, nk2_z, nk3_z⟩ := A.2.2.2.2.2.1
    replace nk1_z : rg_v h 32 0 = rg_v g 164 44 := nk1_z
    replace nk2_z : 0 ≤ (rg_v h 32 0).toInt := nk2_z
    replace nk3_z : (rg_v h 32 0).toInt ≤ 64 := nk3_z
    replace z8_z : np.toInt ≤ (rg_v h 32 0).toInt + op.toInt := z8_z
    obtain ⟨kn, ekn⟩ : ∃ v, rg_v h 32 0 = v := ⟨_, rfl⟩
    rw [ekn] at nk1_z nk2_z nk3_z z8_z
    have e9_z := rt_c1 (x := kn) (by omega) (by omega)
    replace hc_z := rn_aload_n (am_cur_of (i := (0, 1, .aload_n 0, (0, 0, 0), 0)) (by decide +kernel)) g0_z hc_z
    replace hc_z := rn_getI (v := 2) (am_cur_of (i := (1, 3, .getfield 60, (4, 10, 419), 0)) (by decide +kernel)) (by decide +kernel) ka hc_z
    replace hc_z := rn_bipush (w := 6) (am_cur_of (i := (4, 2, .bipush 6, (0, 0, 0), 0)) (by decide +kernel)) (by decide) hc_z
    replace hc_z := rn_cmpT (am_cur_of (i := (6, 3, .if_icmp .ne 30, (19, 0, 0), 0)) (by decide +kernel)) (by decide) hc_z
    replace hc_z := rn_aload_n (am_cur_of (i := (36, 1, .aload_n 0, (0, 0, 0), 0)) (by decide +kernel)) g0_z hc_z
    replace hc_z := rn_bipush (w := 40) (am_cur_of (i := (37, 2, .bipush 40, (0, 0, 0), 0)) (by decide +kernel)) (by decide) hc_z
    replace hc_z := rn_callV (M' := am_m45) (o := 44) (ar := [.int 40]) (rest := []) (L := lv_args 0 [.ref 44, .int 40]) (am_cur_of (i := (39, 3, .invokevirtual 105, (45, 834, 3), 0)) (by decide +kernel)) rfl rfl rfl rfl hc_z
    obtain ⟨r2225_z, h2226_z, q2227_z, hc_z⟩ := hc_z
    obtain ⟨rfl, yq2227_z⟩ := rp_mkN (fun q => absurd (Eq.trans (Eq.symm ka) q.1) (by decide)) q2227_z
    subst yq2227_z
    replace hc_z : rn _ _ _ _ [.int 0] _ _ _ := hc_z
    replace hc_z := rn_ifT (am_cur_of (i := (42, 3, .ifCond .eq 38, (43, 0, 0), 0)) (by decide +kernel)) (by decide) hc_z
    replace hc_z := rn_aload_n (am_cur_of (i := (80, 1, .aload_n 0, (0, 0, 0), 0)) (by decide +kernel)) g0_z hc_z
    replace hc_z := rn_getI (v := 2) (am_cur_of (i := (81, 3, .getfield 60, (4, 10, 419), 0)) (by decide +kernel)) (by decide +kernel) ka hc_z
    replace hc_z := rn_iconst (w := 4) (am_cur_of (i := (84, 1, .iconst 4, (0, 0, 0), 0)) (by decide +kernel)) (by decide) hc_z
    replace hc_z := rn_cmpT (am_cur_of (i := (85, 3, .if_icmp .ne 40, (64, 0, 0), 0)) (by decide +kernel)) (by decide) hc_z
    replace hc_z := rn_aload_n (am_cur_of (i := (125, 1, .aload_n 0, (0, 0, 0), 0)) (by decide +kernel)) g0_z hc_z
    replace hc_z := rn_getI (v := 2) (am_cur_of (i := (126, 3, .getfield 60, (4, 10, 419), 0)) (by decide +kernel)) (by decide +kernel) ka hc_z
    replace hc_z := rn_iconst (w := 2) (am_cur_of (i := (129, 1, .iconst 2, (0, 0, 0), 0)) (by decide +kernel)) (by decide) hc_z
    replace hc_z := rn_cmpF (am_cur_of (i := (130, 3, .if_icmp .ne 37, (84, 0, 0), 0)) (by decide +kernel)) (by decide) hc_z
    replace hc_z := rn_aload_n (am_cur_of (i := (133, 1, .aload_n 0, (0, 0, 0), 0)) (by decide +kernel)) g0_z hc_z
    replace hc_z := rn_getI (v := rg_v h 44 11) (am_cur_of (i := (134, 3, .getfield 91, (4, 11, 420), 0)) (by decide +kernel)) (by decide +kernel) rfl hc_z
    replace hc_z := rn_bipush (w := 11) (am_cur_of (i := (137, 2, .bipush 11, (0, 0, 0), 0)) (by decide +kernel)) (by decide) hc_z
    replace hc_z := rn_cmp (am_cur_of (i := (139, 3, .if_icmp .lt 28, (84, 0, 0), 0)) (by decide +kernel)) hc_z
    rcases hc_z with ⟨b2228_z, hc_z⟩ | ⟨b2228_z, hc_z⟩
    · replace b2228_z : (rg_v h 44 11).toInt < (11 : Int32).toInt := b2228_z
      replace hc_z := rn_aload_n (am_cur_of (i := (167, 1, .aload_n 0, (0, 0, 0), 0)) (by decide +kernel)) g0_z hc_z
      replace hc_z := rn_iconst (w := 1) (am_cur_of (i := (168, 1, .iconst 1, (0, 0, 0), 0)) (by decide +kernel)) (by decide) hc_z
      replace hc_z := rn_callV (M' := am_m29) (o := 44) (ar := [.int 1]) (rest := []) (L := lv_args 0 [.ref 44, .int 1]) (am_cur_of (i := (169, 3, .invokevirtual 108, (29, 769, 3), 0)) (by decide +kernel)) rfl rfl rfl rfl hc_z
      obtain ⟨r2229_z, h2230_z, q2231_z, hc_z⟩ := hc_z
      obtain ⟨rfl, yq2231_z⟩ := rp_fail R4 q2231_z
      subst yq2231_z
      replace hc_z : rn _ _ _ _ [] _ _ _ := hc_z
      have K := rs_stick (w := 1) (q := p) (a := 51) (by decide) (by decide) rfl (by decide) rfl (show rg_v (am_up (am_up h 44 1 (.int 1)) 44 2 (.int (rg_v h 44 9))) 44 2 = p from R5) hc_z
      replace hm_z := rn_aload_n (am_cur_of (i := (0, 1, .aload_n 0, (0, 0, 0), 0)) (by decide +kernel)) g0m hm_z
      replace hm_z := rn_bipush (w := 40) (am_cur_of (i := (1, 2, .bipush 40, (0, 0, 0), 0)) (by decide +kernel)) (by decide) hm_z
      replace hm_z := rn_callV (M' := am_m171) (o := 164) (ar := [.int 40]) (rest := []) (L := lv_args 0 [.ref 164, .int 40]) (am_cur_of (i := (3, 3, .invokevirtual 194, (171, 1715, 3), 0)) (by decide +kernel)) rfl rfl rfl rfl hm_z
      obtain ⟨r2232_z, h2233_z, q2234_z, hm_z⟩ := hm_z
      obtain ⟨rfl, yq2234_z⟩ := rp_sgN (fun q => absurd (Eq.trans (Eq.symm kc) q.1) (by decide)) q2234_z
      subst yq2234_z
      replace hm_z : rn _ _ _ _ [.int 0] _ _ _ := hm_z
      replace hm_z := rn_ifT (am_cur_of (i := (6, 3, .ifCond .eq 44, (28, 0, 0), 0)) (by decide +kernel)) (by decide) hm_z
      replace hm_z := rn_aload_n (am_cur_of (i := (50, 1, .aload_n 0, (0, 0, 0), 0)) (by decide +kernel)) g0m hm_z
      replace hm_z := rn_bipush (w := 14) (am_cur_of (i := (51, 2, .bipush 14, (0, 0, 0), 0)) (by decide +kernel)) (by decide) hm_z
      replace hm_z := rn_callV (M' := am_m174) (o := 164) (ar := [.int 14]) (rest := []) (L := lv_args 0 [.ref 164, .int 14]) (am_cur_of (i := (53, 3, .invokevirtual 306, (174, 1727, 3), 0)) (by decide +kernel)) rfl rfl rfl rfl hm_z
      obtain ⟨r2235_z, h2236_z, q2237_z, hm_z⟩ := hm_z
      obtain ⟨rfl, yq2237_z⟩ := rp_kyN (fun q => by have zz := congrArg Int32.toInt q.2; have zy := congrArg Int32.toInt kd; have zx : (14 : Int32).toInt = 14 := (by decide); omega) q2237_z
      subst yq2237_z
      replace hm_z : rn _ _ _ _ [.int 0] _ _ _ := hm_z
      replace hm_z := rn_ifT (am_cur_of (i := (56, 3, .ifCond .eq 30, (47, 0, 0), 0)) (by decide +kernel)) (by decide) hm_z
      replace hm_z := rn_aload_n (am_cur_of (i := (86, 1, .aload_n 0, (0, 0, 0), 0)) (by decide +kernel)) g0m hm_z
      replace hm_z := rn_callV (M' := am_m176) (o := 164) (ar := []) (rest := []) (L := lv_args 0 [.ref 164]) (am_cur_of (i := (87, 3, .invokevirtual 312, (176, 1735, 3), 0)) (by decide +kernel)) rfl rfl rfl rfl hm_z
      obtain ⟨r2238_z, h2239_z, q2240_z, hm_z⟩ := hm_z
      obtain ⟨rfl, yq2240_z⟩ := rp_nm (c := 1) (d := rg_v g 164 9) kc rfl q2240_z
      replace yq2240_z := yq2240_z.symm
      subst yq2240_z
      rw [show rp_nmf 1 (rg_v g 164 9) = (-1) from by have zy := congrArg Int32.toInt kd; unfold rp_nmf; rw [if_pos rfl, if_neg (fun q => by have zz := congrArg Int32.toInt q; have zx : (11 : Int32).toInt = 11 := (by decide); omega), if_neg (by omega), if_neg (by omega)]] at hm_z
      replace hm_z : rn _ _ _ _ [.int (-1)] _ _ _ := hm_z
      replace hm_z := rn_istore_n (am_cur_of (i := (90, 1, .istore_n 1, (0, 0, 0), 0)) (by decide +kernel)) hm_z
      obtain ⟨_, s2241_z, s2242_z, g1m, hm_z⟩ := hm_z
      replace g0m := s2241_z 0 _ (by decide) rfl g0m
      clear s2241_z s2242_z
      replace hm_z := rn_iload_n (am_cur_of (i := (91, 1, .iload_n 1, (0, 0, 0), 0)) (by decide +kernel)) g1m hm_z
      replace hm_z := rn_ifF (am_cur_of (i := (92, 3, .ifCond .ge 17, (60, 0, 0), 0)) (by decide +kernel)) (by decide) hm_z
      replace hm_z := rn_aload_n (am_cur_of (i := (95, 1, .aload_n 0, (0, 0, 0), 0)) (by decide +kernel)) g0m hm_z
      replace hm_z := rn_getI (v := 1) (am_cur_of (i := (96, 3, .getfield 157, (12, 8, 1392), 0)) (by decide +kernel)) (by decide +kernel) kc hm_z
      replace hm_z := rn_iconst (w := 3) (am_cur_of (i := (99, 1, .iconst 3, (0, 0, 0), 0)) (by decide +kernel)) (by decide) hm_z
      replace hm_z := rn_cmpF (am_cur_of (i := (100, 3, .if_icmp .eq 9, (60, 0, 0), 0)) (by decide +kernel)) (by decide) hm_z
      replace hm_z := rn_aload_n (am_cur_of (i := (103, 1, .aload_n 0, (0, 0, 0), 0)) (by decide +kernel)) g0m hm_z
      replace hm_z := rn_iconst (w := 1) (am_cur_of (i := (104, 1, .iconst 1, (0, 0, 0), 0)) (by decide +kernel)) (by decide) hm_z
      replace hm_z := rn_callV (M' := am_m158) (o := 164) (ar := [.int 1]) (rest := []) (L := lv_args 0 [.ref 164, .int 1]) (am_cur_of (i := (105, 3, .invokevirtual 181, (158, 1665, 3), 0)) (by decide +kernel)) rfl rfl rfl rfl hm_z
      obtain ⟨r2243_z, h2244_z, q2245_z, hm_z⟩ := hm_z
      obtain ⟨rfl, yq2245_z⟩ := rp_wrong q2245_z
      subst yq2245_z
      replace hm_z : rn _ _ _ _ [.int 0] _ _ _ := hm_z
      replace hm_z := rn_iret (am_cur_of (i := (108, 1, .ireturn, (0, 0, 0), 0)) (by decide +kernel)) hm_z
      obtain ⟨e2246_z, e2247_z⟩ := hm_z
      subst e2246_z e2247_z
      exact (Or.inr ⟨rfl, 1, by decide, K.1, K.2, rfl, R6⟩)
    · replace b2228_z : (11 : Int32).toInt ≤ (rg_v h 44 11).toInt := b2228_z
      omega
  · have g0_z : am_get (lv_args 0 [.ref 44, .int 0]) 0 = some (.ref 44) := rfl
    have g1_z : am_get (lv_args 0 [.ref 44, .int 0]) 1 = some (.int 0) := rfl
    have g0m : am_get (lv_args 0 [.ref 164]) 0 = some (.ref 164) := rfl
    have Rk := R
    have Zk := Z
    obtain ⟨⟨c1_z, c2_z, c3_z, c4_z, c5_z, c6_z, c7_z, c8_z⟩, ⟨m2_z, m3_z, m4_z, m5_z, m6_z, m7_z, m8_z⟩, R3, R4, R5, R6, R7, R8, R9, R10⟩ := (R : rq T S x p 23 h g)
    obtain ⟨np, op, z1_z, z2_z, z3_z, z4_z, z5_z, z6_z, z7_z, z8_z, z9_z, z10_z⟩ := (Z : rs 23 h g)
    obtain ⟨nk1_z, nk2_z, nk3_z⟩ := A.2.2.2.2.2.1
    replace nk1_z : rg_v h 32 0 = rg_v g 164 44 := nk1_z
    replace nk2_z : 0 ≤ (rg_v h 32 0).toInt := nk2_z
    replace nk3_z : (rg_v h 32 0).toInt ≤ 64 := nk3_z
    replace z8_z : np.toInt ≤ (rg_v h 32 0).toInt + op.toInt := z8_z
    obtain ⟨kn, ekn⟩ : ∃ v, rg_v h 32 0 = v := ⟨_, rfl⟩
    rw [ekn] at nk1_z nk2_z nk3_z z8_z
    have e9_z := rt_c1 (x := kn) (by omega) (by omega)
    replace hc_z := rn_aload_n (am_cur_of (i := (0, 1, .aload_n 0, (0, 0, 0), 0)) (by decide +kernel)) g0_z hc_z
    replace hc_z := rn_getI (v := 2) (am_cur_of (i := (1, 3, .getfield 60, (4, 10, 419), 0)) (by decide +kernel)) (by decide +kernel) ka hc_z
    replace hc_z := rn_bipush (w := 6) (am_cur_of (i := (4, 2, .bipush 6, (0, 0, 0), 0)) (by decide +kernel)) (by decide) hc_z
    replace hc_z := rn_cmpT (am_cur_of (i := (6, 3, .if_icmp .ne 30, (19, 0, 0), 0)) (by decide +kernel)) (by decide) hc_z
    replace hc_z := rn_aload_n (am_cur_of (i := (36, 1, .aload_n 0, (0, 0, 0), 0)) (by decide +kernel)) g0_z hc_z
    replace hc_z := rn_bipush (w := 40) (am_cur_of (i := (37, 2, .bipush 40, (0, 0, 0), 0)) (by decide +kernel)) (by decide) hc_z
    replace hc_z := rn_callV (M' := am_m45) (o := 44) (ar := [.int 40]) (rest := []) (L := lv_args 0 [.ref 44, .int 40]) (am_cur_of (i := (39, 3, .invokevirtual 105, (45, 834, 3), 0)) (by decide +kernel)) rfl rfl rfl rfl hc_z
    obtain ⟨r2248_z, h2249_z, q2250_z, hc_z⟩ := hc_z
    obtain ⟨rfl, yq2250_z⟩ := rp_mkN (fun q => absurd (Eq.trans (Eq.symm ka) q.1) (by decide)) q2250_z
    subst yq2250_z
    replace hc_z : rn _ _ _ _ [.int 0] _ _ _ := hc_z
    replace hc_z := rn_ifT (am_cur_of (i := (42, 3, .ifCond .eq 38, (43, 0, 0), 0)) (by decide +kernel)) (by decide) hc_z
    replace hc_z := rn_aload_n (am_cur_of (i := (80, 1, .aload_n 0, (0, 0, 0), 0)) (by decide +kernel)) g0_z hc_z
    replace hc_z := rn_getI (v := 2) (am_cur_of (i := (81, 3, .getfield 60, (4, 10, 419), 0)) (by decide +kernel)) (by decide +kernel) ka hc_z
    replace hc_z := rn_iconst (w := 4) (am_cur_of (i := (84, 1, .iconst 4, (0, 0, 0), 0)) (by decide +kernel)) (by decide) hc_z
    replace hc_z := rn_cmpT (am_cur_of (i := (85, 3, .if_icmp .ne 40, (64, 0, 0), 0)) (by decide +kernel)) (by decide) hc_z
    replace hc_z := rn_aload_n (am_cur_of (i := (125, 1, .aload_n 0, (0, 0, 0), 0)) (by decide +kernel)) g0_z hc_z
    replace hc_z := rn_getI (v := 2) (am_cur_of (i := (126, 3, .getfield 60, (4, 10, 419), 0)) (by decide +kernel)) (by decide +kernel) ka hc_z
    replace hc_z := rn_iconst (w := 2) (am_cur_of (i := (129, 1, .iconst 2, (0, 0, 0), 0)) (by decide +kernel)) (by decide) hc_z
    replace hc_z := rn_cmpF (am_cur_of (i := (130, 3, .if_icmp .ne 37, (84, 0, 0), 0)) (by decide +kernel)) (by decide) hc_z
    replace hc_z := rn_aload_n (am_cur_of (i := (133, 1, .aload_n 0, (0, 0, 0), 0)) (by decide +kernel)) g0_z hc_z
    replace hc_z := rn_getI (v := 11) (am_cur_of (i := (134, 3, .getfield 91, (4, 11, 420), 0)) (by decide +kernel)) (by decide +kernel) kb hc_z
    replace hc_z := rn_bipush (w := 11) (am_cur_of (i := (137, 2, .bipush 11, (0, 0, 0), 0)) (by decide +kernel)) (by decide) hc_z
    replace hc_z := rn_cmpF (am_cur_of (i := (139, 3, .if_icmp .lt 28, (84, 0, 0), 0)) (by decide +kernel)) (by decide) hc_z
    replace hc_z := rn_aload_n (am_cur_of (i := (142, 1, .aload_n 0, (0, 0, 0), 0)) (by decide +kernel)) g0_z hc_z
    replace hc_z := rn_callV (M' := am_m49) (o := 44) (ar := []) (rest := []) (L := lv_args 0 [.ref 44]) (am_cur_of (i := (143, 3, .invokevirtual 270, (49, 852, 3), 0)) (by decide +kernel)) rfl rfl rfl rfl hc_z
    obtain ⟨r2251_z, h2252_z, q2253_z, hc_z⟩ := hc_z
    rcases rs_ck23 R4 (show h 44 6 = .ref 23 from R3) q2253_z with ⟨ge, rfl, eh⟩ | ⟨lt, rfl, eh⟩
    · subst eh
      replace ge : 64 ≤ kn.toInt := by rw [← ekn]; exact ge
      replace hc_z : rn _ _ _ _ [] _ _ _ := hc_z
      have K := rs_stick (w := 2) (q := p) (a := 51) (by decide) (by decide) rfl (by decide) rfl (show rg_v (am_up (am_up h 44 1 (.int 2)) 44 2 (.int (rg_v h 44 9))) 44 2 = p from R5) hc_z
      replace hm_z := rn_aload_n (am_cur_of (i := (0, 1, .aload_n 0, (0, 0, 0), 0)) (by decide +kernel)) g0m hm_z
      replace hm_z := rn_bipush (w := 40) (am_cur_of (i := (1, 2, .bipush 40, (0, 0, 0), 0)) (by decide +kernel)) (by decide) hm_z
      replace hm_z := rn_callV (M' := am_m171) (o := 164) (ar := [.int 40]) (rest := []) (L := lv_args 0 [.ref 164, .int 40]) (am_cur_of (i := (3, 3, .invokevirtual 194, (171, 1715, 3), 0)) (by decide +kernel)) rfl rfl rfl rfl hm_z
      obtain ⟨r2254_z, h2255_z, q2256_z, hm_z⟩ := hm_z
      obtain ⟨rfl, yq2256_z⟩ := rp_sgN (fun q => absurd (Eq.trans (Eq.symm kc) q.1) (by decide)) q2256_z
      subst yq2256_z
      replace hm_z : rn _ _ _ _ [.int 0] _ _ _ := hm_z
      replace hm_z := rn_ifT (am_cur_of (i := (6, 3, .ifCond .eq 44, (28, 0, 0), 0)) (by decide +kernel)) (by decide) hm_z
      replace hm_z := rn_aload_n (am_cur_of (i := (50, 1, .aload_n 0, (0, 0, 0), 0)) (by decide +kernel)) g0m hm_z
      replace hm_z := rn_bipush (w := 14) (am_cur_of (i := (51, 2, .bipush 14, (0, 0, 0), 0)) (by decide +kernel)) (by decide) hm_z
      replace hm_z := rn_callV (M' := am_m174) (o := 164) (ar := [.int 14]) (rest := []) (L := lv_args 0 [.ref 164, .int 14]) (am_cur_of (i := (53, 3, .invokevirtual 306, (174, 1727, 3), 0)) (by decide +kernel)) rfl rfl rfl rfl hm_z
      obtain ⟨r2257_z, h2258_z, q2259_z, hm_z⟩ := hm_z
      obtain ⟨rfl, yq2259_z⟩ := rp_kyN (fun q => absurd (Eq.trans (Eq.symm kd) q.2) (by decide)) q2259_z
      subst yq2259_z
      replace hm_z : rn _ _ _ _ [.int 0] _ _ _ := hm_z
      replace hm_z := rn_ifT (am_cur_of (i := (56, 3, .ifCond .eq 30, (47, 0, 0), 0)) (by decide +kernel)) (by decide) hm_z
      replace hm_z := rn_aload_n (am_cur_of (i := (86, 1, .aload_n 0, (0, 0, 0), 0)) (by decide +kernel)) g0m hm_z
      replace hm_z := rn_callV (M' := am_m176) (o := 164) (ar := []) (rest := []) (L := lv_args 0 [.ref 164]) (am_cur_of (i := (87, 3, .invokevirtual 312, (176, 1735, 3), 0)) (by decide +kernel)) rfl rfl rfl rfl hm_z
      obtain ⟨r2260_z, h2261_z, q2262_z, hm_z⟩ := hm_z
      obtain ⟨rfl, yq2262_z⟩ := rp_nm (c := 1) (d := 11) kc kd q2262_z
      replace yq2262_z := yq2262_z.symm
      subst yq2262_z
      rw [show rp_nmf 1 11 = 3 from by decide] at hm_z
      replace hm_z : rn _ _ _ _ [.int 3] _ _ _ := hm_z
      replace hm_z := rn_istore_n (am_cur_of (i := (90, 1, .istore_n 1, (0, 0, 0), 0)) (by decide +kernel)) hm_z
      obtain ⟨_, s2263_z, s2264_z, g1m, hm_z⟩ := hm_z
      replace g0m := s2263_z 0 _ (by decide) rfl g0m
      clear s2263_z s2264_z
      replace hm_z := rn_iload_n (am_cur_of (i := (91, 1, .iload_n 1, (0, 0, 0), 0)) (by decide +kernel)) g1m hm_z
      replace hm_z := rn_ifT (am_cur_of (i := (92, 3, .ifCond .ge 17, (60, 0, 0), 0)) (by decide +kernel)) (by decide) hm_z
      replace hm_z := rn_iload_n (am_cur_of (i := (109, 1, .iload_n 1, (0, 0, 0), 0)) (by decide +kernel)) g1m hm_z
      replace hm_z := rn_ifT (am_cur_of (i := (110, 3, .ifCond .ge 19, (70, 0, 0), 0)) (by decide +kernel)) (by decide) hm_z
      replace hm_z := rn_aload_n (am_cur_of (i := (129, 1, .aload_n 0, (0, 0, 0), 0)) (by decide +kernel)) g0m hm_z
      replace hm_z := rn_callV (M' := am_m175) (o := 164) (ar := []) (rest := []) (L := lv_args 0 [.ref 164]) (am_cur_of (i := (130, 3, .invokevirtual 309, (175, 1731, 3), 0)) (by decide +kernel)) rfl rfl rfl rfl hm_z
      obtain ⟨r2265_z, h2266_z, q2267_z, hm_z⟩ := hm_z
      rcases rs_ic q2267_z with ⟨i1_z, rfl, i3_z⟩ | ⟨i1_z, -⟩
      · subst i3_z
        replace hm_z : rn _ _ _ _ [.int 0] _ _ _ := hm_z
        replace hm_z := rn_ifF (am_cur_of (i := (133, 3, .ifCond .ne 5, (75, 0, 0), 0)) (by decide +kernel)) (by decide) hm_z
        replace hm_z := rn_iconst (w := 0) (am_cur_of (i := (136, 1, .iconst 0, (0, 0, 0), 0)) (by decide +kernel)) (by decide) hm_z
        replace hm_z := rn_iret (am_cur_of (i := (137, 1, .ireturn, (0, 0, 0), 0)) (by decide +kernel)) hm_z
        obtain ⟨e2268_z, e2269_z⟩ := hm_z
        subst e2268_z e2269_z
        exact (Or.inr ⟨rfl, 2, by decide, K.1, K.2, rfl, R6⟩)
      · exact absurd (Int32.toInt_inj.mp (show (rg_v g 164 44).toInt = (64 : Int32).toInt from by rw [show rg_v g 164 44 = kn from nk1_z.symm, show (64 : Int32).toInt = 64 by decide]; omega)) i1_z
    · subst eh
      replace lt : kn.toInt < 64 := by rw [← ekn]; exact lt
      rw [show rg_v h 32 0 = kn from ekn] at hc_z
      replace hm_z := rn_aload_n (am_cur_of (i := (0, 1, .aload_n 0, (0, 0, 0), 0)) (by decide +kernel)) g0m hm_z
      replace hm_z := rn_bipush (w := 40) (am_cur_of (i := (1, 2, .bipush 40, (0, 0, 0), 0)) (by decide +kernel)) (by decide) hm_z
      replace hm_z := rn_callV (M' := am_m171) (o := 164) (ar := [.int 40]) (rest := []) (L := lv_args 0 [.ref 164, .int 40]) (am_cur_of (i := (3, 3, .invokevirtual 194, (171, 1715, 3), 0)) (by decide +kernel)) rfl rfl rfl rfl hm_z
      obtain ⟨r2270_z, h2271_z, q2272_z, hm_z⟩ := hm_z
      obtain ⟨rfl, yq2272_z⟩ := rp_sgN (fun q => absurd (Eq.trans (Eq.symm kc) q.1) (by decide)) q2272_z
      subst yq2272_z
      replace hm_z : rn _ _ _ _ [.int 0] _ _ _ := hm_z
      replace hm_z := rn_ifT (am_cur_of (i := (6, 3, .ifCond .eq 44, (28, 0, 0), 0)) (by decide +kernel)) (by decide) hm_z
      replace hm_z := rn_aload_n (am_cur_of (i := (50, 1, .aload_n 0, (0, 0, 0), 0)) (by decide +kernel)) g0m hm_z
      replace hm_z := rn_bipush (w := 14) (am_cur_of (i := (51, 2, .bipush 14, (0, 0, 0), 0)) (by decide +kernel)) (by decide) hm_z
      replace hm_z := rn_callV (M' := am_m174) (o := 164) (ar := [.int 14]) (rest := []) (L := lv_args 0 [.ref 164, .int 14]) (am_cur_of (i := (53, 3, .invokevirtual 306, (174, 1727, 3), 0)) (by decide +kernel)) rfl rfl rfl rfl hm_z
      obtain ⟨r2273_z, h2274_z, q2275_z, hm_z⟩ := hm_z
      obtain ⟨rfl, yq2275_z⟩ := rp_kyN (fun q => absurd (Eq.trans (Eq.symm kd) q.2) (by decide)) q2275_z
      subst yq2275_z
      replace hm_z : rn _ _ _ _ [.int 0] _ _ _ := hm_z
      replace hm_z := rn_ifT (am_cur_of (i := (56, 3, .ifCond .eq 30, (47, 0, 0), 0)) (by decide +kernel)) (by decide) hm_z
      replace hm_z := rn_aload_n (am_cur_of (i := (86, 1, .aload_n 0, (0, 0, 0), 0)) (by decide +kernel)) g0m hm_z
      replace hm_z := rn_callV (M' := am_m176) (o := 164) (ar := []) (rest := []) (L := lv_args 0 [.ref 164]) (am_cur_of (i := (87, 3, .invokevirtual 312, (176, 1735, 3), 0)) (by decide +kernel)) rfl rfl rfl rfl hm_z
      obtain ⟨r2276_z, h2277_z, q2278_z, hm_z⟩ := hm_z
      obtain ⟨rfl, yq2278_z⟩ := rp_nm (c := 1) (d := 11) kc kd q2278_z
      replace yq2278_z := yq2278_z.symm
      subst yq2278_z
      rw [show rp_nmf 1 11 = 3 from by decide] at hm_z
      replace hm_z : rn _ _ _ _ [.int 3] _ _ _ := hm_z
      replace hm_z := rn_istore_n (am_cur_of (i := (90, 1, .istore_n 1, (0, 0, 0), 0)) (by decide +kernel)) hm_z
      obtain ⟨_, s2279_z, s2280_z, g1m, hm_z⟩ := hm_z
      replace g0m := s2279_z 0 _ (by decide) rfl g0m
      clear s2279_z s2280_z
      replace hm_z := rn_iload_n (am_cur_of (i := (91, 1, .iload_n 1, (0, 0, 0), 0)) (by decide +kernel)) g1m hm_z
      replace hm_z := rn_ifT (am_cur_of (i := (92, 3, .ifCond .ge 17, (60, 0, 0), 0)) (by decide +kernel)) (by decide) hm_z
      replace hm_z := rn_iload_n (am_cur_of (i := (109, 1, .iload_n 1, (0, 0, 0), 0)) (by decide +kernel)) g1m hm_z
      replace hm_z := rn_ifT (am_cur_of (i := (110, 3, .ifCond .ge 19, (70, 0, 0), 0)) (by decide +kernel)) (by decide) hm_z
      replace hm_z := rn_aload_n (am_cur_of (i := (129, 1, .aload_n 0, (0, 0, 0), 0)) (by decide +kernel)) g0m hm_z
      replace hm_z := rn_callV (M' := am_m175) (o := 164) (ar := []) (rest := []) (L := lv_args 0 [.ref 164]) (am_cur_of (i := (130, 3, .invokevirtual 309, (175, 1731, 3), 0)) (by decide +kernel)) rfl rfl rfl rfl hm_z
      obtain ⟨r2281_z, h2282_z, q2283_z, hm_z⟩ := hm_z
      rcases rs_ic q2283_z with ⟨i1_z, -⟩ | ⟨i1_z, rfl, i3_z⟩
      · exfalso
        have zz := congrArg Int32.toInt i1_z
        rw [show rg_v g 164 44 = kn from nk1_z.symm, show (64 : Int32).toInt = 64 by decide] at zz
        omega
      · subst i3_z
        rw [show rg_v g 164 44 = kn from nk1_z.symm] at hm_z
        replace hm_z : rn _ _ _ _ [.int 1] _ _ _ := hm_z
        replace hc_z : rn _ _ _ _ [] _ _ _ := hc_z
        replace hc_z := rn_aload_n (am_cur_of (i := (146, 1, .aload_n 0, (0, 0, 0), 0)) (by decide +kernel)) g0_z hc_z
        replace hc_z := rn_getM (x := 23) (am_cur_of (i := (147, 3, .getfield 25, (4, 6, 415), 0)) (by decide +kernel)) (show (am_up h 32 0 (.int (kn + 1))) 44 6 = .ref 23 from R3) hc_z
        replace hc_z := rn_getR (x := 32) (am_cur_of (i := (150, 3, .getfield 242, (1, 19, 316), 0)) (by decide +kernel)) (by decide +kernel) hc_z
        replace hc_z := rn_iconst (w := 1) (am_cur_of (i := (153, 1, .iconst 1, (0, 0, 0), 0)) (by decide +kernel)) (by decide) hc_z
        replace hc_z := rn_aload_n (am_cur_of (i := (154, 1, .aload_n 0, (0, 0, 0), 0)) (by decide +kernel)) g0_z hc_z
        replace hc_z := rn_getI (v := 11) (am_cur_of (i := (155, 3, .getfield 91, (4, 11, 420), 0)) (by decide +kernel)) (by decide +kernel) (show rg_v (am_up h 32 0 (.int (kn + 1))) 44 11 = 11 from kb) hc_z
        replace hc_z := rn_bipush (w := 11) (am_cur_of (i := (158, 2, .bipush 11, (0, 0, 0), 0)) (by decide +kernel)) (by decide) hc_z
        replace hc_z := rn_isub (w := 0) (am_cur_of (i := (160, 1, .isub, (0, 0, 0), 0)) (by decide +kernel)) (by decide) hc_z
        replace hc_z := rn_callV (M' := am_m48) (o := 32) (ar := [.int 0, .int 1]) (rest := []) (L := lv_args 0 [.ref 32, .int 1, .int 0]) (am_cur_of (i := (161, 3, .invokevirtual 276, (48, 845, 3), 0)) (by decide +kernel)) rfl rfl rfl rfl hc_z
        obtain ⟨r2284_z, h2285_z, q2286_z, hc_z⟩ := hc_z
        obtain ⟨rfl, PF⟩ := rs_put23 q2286_z
        replace hc_z : rn _ _ _ _ [] _ _ _ := hc_z
        replace hc_z := rn_goto (am_cur_of (i := (164, 3, .goto 8, (87, 0, 0), 0)) (by decide +kernel)) hc_z
        replace hc_z := rn_aload_n (am_cur_of (i := (172, 1, .aload_n 0, (0, 0, 0), 0)) (by decide +kernel)) g0_z hc_z
        replace hc_z := rn_callV (M' := am_m19) (o := 44) (ar := []) (rest := []) (L := lv_args 0 [.ref 44]) (am_cur_of (i := (173, 3, .invokevirtual 57, (19, 727, 3), 0)) (by decide +kernel)) rfl rfl rfl rfl hc_z
        obtain ⟨r2287_z, h2288_z, q2289_z, hc_z⟩ := hc_z
        have vo := rn_void rfl q2289_z
        subst vo
        replace hm_z := rn_ifT (am_cur_of (i := (133, 3, .ifCond .ne 5, (75, 0, 0), 0)) (by decide +kernel)) (by decide) hm_z
        replace hm_z := rn_aload_n (am_cur_of (i := (138, 1, .aload_n 0, (0, 0, 0), 0)) (by decide +kernel)) g0m hm_z
        replace hm_z := rn_iload_n (am_cur_of (i := (139, 1, .iload_n 1, (0, 0, 0), 0)) (by decide +kernel)) g1m hm_z
        replace hm_z := rn_ifF (am_cur_of (i := (140, 3, .ifCond .lt 7, (80, 0, 0), 0)) (by decide +kernel)) (by decide) hm_z
        replace hm_z := rn_iconst (w := 1) (am_cur_of (i := (143, 1, .iconst 1, (0, 0, 0), 0)) (by decide +kernel)) (by decide) hm_z
        replace hm_z := rn_goto (am_cur_of (i := (144, 3, .goto 4, (81, 0, 0), 0)) (by decide +kernel)) hm_z
        replace hm_z := rn_iload_n (am_cur_of (i := (148, 1, .iload_n 1, (0, 0, 0), 0)) (by decide +kernel)) g1m hm_z
        replace hm_z := rn_ifF (am_cur_of (i := (149, 3, .ifCond .lt 7, (85, 0, 0), 0)) (by decide +kernel)) (by decide) hm_z
        replace hm_z := rn_iload_n (am_cur_of (i := (152, 1, .iload_n 1, (0, 0, 0), 0)) (by decide +kernel)) g1m hm_z
        replace hm_z := rn_goto (am_cur_of (i := (153, 3, .goto 7, (87, 0, 0), 0)) (by decide +kernel)) hm_z
        replace hm_z := rn_iconst (w := 0) (am_cur_of (i := (160, 1, .iconst 0, (0, 0, 0), 0)) (by decide +kernel)) (by decide) hm_z
        replace hm_z := rn_callV (M' := am_m177) (o := 164) (ar := [.int 0, .int 3, .int 1]) (rest := []) (L := lv_args 0 [.ref 164, .int 1, .int 3, .int 0]) (am_cur_of (i := (161, 3, .invokevirtual 291, (177, 1739, 3), 0)) (by decide +kernel)) rfl rfl rfl rfl hm_z
        obtain ⟨r2290_z, h2291_z, q2292_z, hm_z⟩ := hm_z
        obtain ⟨rfl, GF⟩ := rs_grown q2292_z
        replace hm_z : rn _ _ _ _ [] _ _ _ := hm_z
        replace hm_z := rn_aload_n (am_cur_of (i := (164, 1, .aload_n 0, (0, 0, 0), 0)) (by decide +kernel)) g0m hm_z
        replace hm_z := rn_iconst (w := 0) (am_cur_of (i := (165, 1, .iconst 0, (0, 0, 0), 0)) (by decide +kernel)) (by decide) hm_z
        replace hm_z := rn_put (am_cur_of (i := (166, 3, .putfield 315, (12, 45, 1429), 0)) (by decide +kernel)) (by decide +kernel) hm_z
        replace hm_z := rn_aload_n (am_cur_of (i := (169, 1, .aload_n 0, (0, 0, 0), 0)) (by decide +kernel)) g0m hm_z
        replace hm_z := rn_callV (M' := am_m151) (o := 164) (ar := []) (rest := []) (L := lv_args 0 [.ref 164]) (am_cur_of (i := (170, 3, .invokevirtual 191, (151, 1636, 3), 0)) (by decide +kernel)) rfl rfl rfl rfl hm_z
        obtain ⟨r2293_z, h2294_z, q2295_z, hm_z⟩ := hm_z
        have vo := rn_void rfl q2295_z
        subst vo
        have FC : ab_Fr (rz_MC23.drop 1) h h2285_z := ab_Fr_trans (ab_Fr_up rfl ab_Fr_refl) (ab_Fr_sub (by decide) PF)
        have FC' : ab_Fr rz_MC23 h h2285_z := ab_Fr_sub (by decide) FC
        have FM : ab_Fr rz_MM g (am_up h2291_z 164 45 (.int 0)) := ab_Fr_up rfl (ab_Fr_trans (ab_Fr_up rfl ab_Fr_refl) (ab_Fr_sub (by decide) GF))
        obtain ⟨-, -, x2_z, p2_z, R2, le2_z, t5_z, t6_z⟩ := pr_tok (rz_q023 (rq_0 Rk) FC' FM) q2289_z q2295_z
        have A2 := rp_x (by decide) (rz_p23 A FC' FM ((show rg_v h2285_z 32 0 = kn + 1 from ((rg_v_fr PF (by decide)).trans (show rg_v (am_up h 32 0 (.int (kn + 1))) 32 0 = kn + 1 from rfl))).trans (show rg_v (am_up h2291_z 164 45 (.int 0)) 164 44 = kn + 1 from (show rg_v (am_up h2291_z 164 45 (.int 0)) 164 44 = kn + 1 from ((rg_v_fr GF (by decide)).trans (show rg_v (am_up g 164 44 (.int (kn + 1))) 164 44 = kn + 1 from rfl)))).symm) (by rw [show rg_v h2285_z 32 0 = kn + 1 from ((rg_v_fr PF (by decide)).trans (show rg_v (am_up h 32 0 (.int (kn + 1))) 32 0 = kn + 1 from rfl))]; omega) (by rw [show rg_v h2285_z 32 0 = kn + 1 from ((rg_v_fr PF (by decide)).trans (show rg_v (am_up h 32 0 (.int (kn + 1))) 32 0 = kn + 1 from rfl))]; omega)) (rx_C_f t5_z) (rx_M_f t6_z)
        have B2 := rp_tk (rz_t23 B FC FM) (rg_v_fr t5_z (by decide)) (fun k => rg_v_fr t6_z (rg_v_in (by decide) k)) (rx_M_f t6_z)
        have FC47 : ab_Fr [(44, 14), (44, 15), (32, 1), (32, 2), (33, 0), (34, 0)] h h2285_z := ab_Fr_trans (ab_Fr_up rfl ab_Fr_refl) (ab_Fr_sub (by decide) PF)
        have FM184 : ab_Fr [(164, 42), (164, 43), (164, 44), (164, 45), (164, 46), (164, 47), (164, 22), (181, 0), (182, 0), (183, 0), (185, 0)] g (am_up h2291_z 164 45 (.int 0)) := ab_Fr_up rfl (ab_Fr_trans (ab_Fr_up rfl ab_Fr_refl) (ab_Fr_sub (by decide) GF))
        have Z2 : rs 23 h2285_z (am_up h2291_z 164 45 (.int 0)) := rs_keep Zk ((show rg_v h2285_z 44 13 = np from ((rg_v_fr PF (by decide)).trans (show rg_v (am_up h 32 0 (.int (kn + 1))) 44 13 = np from z1_z))).trans z1_z.symm) ((show rg_v (am_up h2291_z 164 45 (.int 0)) 164 41 = np from (show rg_v (am_up h2291_z 164 45 (.int 0)) 164 41 = np from ((rg_v_fr GF (by decide)).trans (show rg_v (am_up g 164 44 (.int (kn + 1))) 164 41 = np from z2_z)))).trans z2_z.symm) ((show rg_v h2285_z 44 14 = op from ((rg_v_fr PF (by decide)).trans (show rg_v (am_up h 32 0 (.int (kn + 1))) 44 14 = op from z4_z))).trans z4_z.symm) ((show rg_v (am_up h2291_z 164 45 (.int 0)) 164 43 = op from (show rg_v (am_up h2291_z 164 45 (.int 0)) 164 43 = op from ((rg_v_fr GF (by decide)).trans (show rg_v (am_up g 164 44 (.int (kn + 1))) 164 43 = op from z5_z)))).trans z5_z.symm) (show (rg_v h 32 0).toInt ≤ (rg_v h2285_z 32 0).toInt by rw [(show rg_v h2285_z 32 0 = kn + 1 from ((rg_v_fr PF (by decide)).trans (show rg_v (am_up h 32 0 (.int (kn + 1))) 32 0 = kn + 1 from rfl))), ekn]; omega) (fun k => rg_v_fr FC47 (rg_v_in (by decide) k)) (fun k => rg_v_fr FM184 (rg_v_in (by decide) k))
        replace Z2 := rs_fr (by decide) Z2 t5_z t6_z
        have e45_z : rg_v h2294_z 164 45 = 0 := (rg_v_fr t6_z (by decide)).trans (show rg_v (am_up h2291_z 164 45 (.int 0)) 164 45 = 0 from (show rg_v (am_up h2291_z 164 45 (.int 0)) 164 45 = 0 from rfl))
        have e46_z : rg_v h2294_z 164 46 = 1 := (rg_v_fr t6_z (by decide)).trans (show rg_v (am_up h2291_z 164 45 (.int 0)) 164 46 = 1 from (show rg_v (am_up h2291_z 164 45 (.int 0)) 164 46 = 1 from ((rg_v_fr GF (by decide)).trans (show rg_v (am_up g 164 44 (.int (kn + 1))) 164 46 = 1 from w2_z))))
        replace hm_z : rn _ _ _ _ [] _ _ _ := hm_z
        replace hc_z : rn _ _ _ _ [] _ _ _ := hc_z
        replace hc_z := rn_iconst (w := 2) (am_cur_of (i := (176, 1, .iconst 2, (0, 0, 0), 0)) (by decide +kernel)) (by decide) hc_z
        replace hc_z := rn_iret (am_cur_of (i := (177, 1, .ireturn, (0, 0, 0), 0)) (by decide +kernel)) hc_z
        obtain ⟨e2296_z, e2297_z⟩ := hc_z
        replace hm_z := rn_iconst (w := 1) (am_cur_of (i := (173, 1, .iconst 1, (0, 0, 0), 0)) (by decide +kernel)) (by decide) hm_z
        replace hm_z := rn_iret (am_cur_of (i := (174, 1, .ireturn, (0, 0, 0), 0)) (by decide +kernel)) hm_z
        obtain ⟨e2298_z, e2299_z⟩ := hm_z
        subst e2296_z e2297_z e2298_z e2299_z
        exact Or.inl ⟨_, x2_z, p2_z, rfl, rfl, R2, le2_z, A2, B2, Z2, Or.inr (Or.inr ⟨rfl, e45_z⟩)⟩
  · have g0_z : am_get (lv_args 0 [.ref 44, .int 0]) 0 = some (.ref 44) := rfl
    have g1_z : am_get (lv_args 0 [.ref 44, .int 0]) 1 = some (.int 0) := rfl
    have g0m : am_get (lv_args 0 [.ref 164]) 0 = some (.ref 164) := rfl
    have Rk := R
    have Zk := Z
    obtain ⟨⟨c1_z, c2_z, c3_z, c4_z, c5_z, c6_z, c7_z, c8_z⟩, ⟨m2_z, m3_z, m4_z, m5_z, m6_z, m7_z, m8_z⟩, R3, R4, R5, R6, R7, R8, R9, R10⟩ := (R : rq T S x p 23 h g)
    obtain ⟨np, op, z1_z, z2_z, z3_z, z4_z, z5_z, z6_z, z7_z, z8_z, z9_z, z10_z⟩ := (Z : rs 23 h g)
    obtain ⟨nk1_z, nk2_z, nk3_z⟩ := A.2.2.2.2.2.1
    replace nk1_z : rg_v h 32 0 = rg_v g 164 44 := nk1_z
    replace nk2_z : 0 ≤ (rg_v h 32 0).toInt := nk2_z
    replace nk3_z : (rg_v h 32 0).toInt ≤ 64 := nk3_z
    replace z8_z : np.toInt ≤ (rg_v h 32 0).toInt + op.toInt := z8_z
    obtain ⟨kn, ekn⟩ : ∃ v, rg_v h 32 0 = v := ⟨_, rfl⟩
    rw [ekn] at nk1_z nk2_z nk3_z z8_z
    have e9_z := rt_c1 (x := kn) (by omega) (by omega)
    replace hc_z := rn_aload_n (am_cur_of (i := (0, 1, .aload_n 0, (0, 0, 0), 0)) (by decide +kernel)) g0_z hc_z
    replace hc_z := rn_getI (v := 2) (am_cur_of (i := (1, 3, .getfield 60, (4, 10, 419), 0)) (by decide +kernel)) (by decide +kernel) ka hc_z
    replace hc_z := rn_bipush (w := 6) (am_cur_of (i := (4, 2, .bipush 6, (0, 0, 0), 0)) (by decide +kernel)) (by decide) hc_z
    replace hc_z := rn_cmpT (am_cur_of (i := (6, 3, .if_icmp .ne 30, (19, 0, 0), 0)) (by decide +kernel)) (by decide) hc_z
    replace hc_z := rn_aload_n (am_cur_of (i := (36, 1, .aload_n 0, (0, 0, 0), 0)) (by decide +kernel)) g0_z hc_z
    replace hc_z := rn_bipush (w := 40) (am_cur_of (i := (37, 2, .bipush 40, (0, 0, 0), 0)) (by decide +kernel)) (by decide) hc_z
    replace hc_z := rn_callV (M' := am_m45) (o := 44) (ar := [.int 40]) (rest := []) (L := lv_args 0 [.ref 44, .int 40]) (am_cur_of (i := (39, 3, .invokevirtual 105, (45, 834, 3), 0)) (by decide +kernel)) rfl rfl rfl rfl hc_z
    obtain ⟨r2300_z, h2301_z, q2302_z, hc_z⟩ := hc_z
    obtain ⟨rfl, yq2302_z⟩ := rp_mkN (fun q => absurd (Eq.trans (Eq.symm ka) q.1) (by decide)) q2302_z
    subst yq2302_z
    replace hc_z : rn _ _ _ _ [.int 0] _ _ _ := hc_z
    replace hc_z := rn_ifT (am_cur_of (i := (42, 3, .ifCond .eq 38, (43, 0, 0), 0)) (by decide +kernel)) (by decide) hc_z
    replace hc_z := rn_aload_n (am_cur_of (i := (80, 1, .aload_n 0, (0, 0, 0), 0)) (by decide +kernel)) g0_z hc_z
    replace hc_z := rn_getI (v := 2) (am_cur_of (i := (81, 3, .getfield 60, (4, 10, 419), 0)) (by decide +kernel)) (by decide +kernel) ka hc_z
    replace hc_z := rn_iconst (w := 4) (am_cur_of (i := (84, 1, .iconst 4, (0, 0, 0), 0)) (by decide +kernel)) (by decide) hc_z
    replace hc_z := rn_cmpT (am_cur_of (i := (85, 3, .if_icmp .ne 40, (64, 0, 0), 0)) (by decide +kernel)) (by decide) hc_z
    replace hc_z := rn_aload_n (am_cur_of (i := (125, 1, .aload_n 0, (0, 0, 0), 0)) (by decide +kernel)) g0_z hc_z
    replace hc_z := rn_getI (v := 2) (am_cur_of (i := (126, 3, .getfield 60, (4, 10, 419), 0)) (by decide +kernel)) (by decide +kernel) ka hc_z
    replace hc_z := rn_iconst (w := 2) (am_cur_of (i := (129, 1, .iconst 2, (0, 0, 0), 0)) (by decide +kernel)) (by decide) hc_z
    replace hc_z := rn_cmpF (am_cur_of (i := (130, 3, .if_icmp .ne 37, (84, 0, 0), 0)) (by decide +kernel)) (by decide) hc_z
    replace hc_z := rn_aload_n (am_cur_of (i := (133, 1, .aload_n 0, (0, 0, 0), 0)) (by decide +kernel)) g0_z hc_z
    replace hc_z := rn_getI (v := 12) (am_cur_of (i := (134, 3, .getfield 91, (4, 11, 420), 0)) (by decide +kernel)) (by decide +kernel) kb hc_z
    replace hc_z := rn_bipush (w := 11) (am_cur_of (i := (137, 2, .bipush 11, (0, 0, 0), 0)) (by decide +kernel)) (by decide) hc_z
    replace hc_z := rn_cmpF (am_cur_of (i := (139, 3, .if_icmp .lt 28, (84, 0, 0), 0)) (by decide +kernel)) (by decide) hc_z
    replace hc_z := rn_aload_n (am_cur_of (i := (142, 1, .aload_n 0, (0, 0, 0), 0)) (by decide +kernel)) g0_z hc_z
    replace hc_z := rn_callV (M' := am_m49) (o := 44) (ar := []) (rest := []) (L := lv_args 0 [.ref 44]) (am_cur_of (i := (143, 3, .invokevirtual 270, (49, 852, 3), 0)) (by decide +kernel)) rfl rfl rfl rfl hc_z
    obtain ⟨r2303_z, h2304_z, q2305_z, hc_z⟩ := hc_z
    rcases rs_ck23 R4 (show h 44 6 = .ref 23 from R3) q2305_z with ⟨ge, rfl, eh⟩ | ⟨lt, rfl, eh⟩
    · subst eh
      replace ge : 64 ≤ kn.toInt := by rw [← ekn]; exact ge
      replace hc_z : rn _ _ _ _ [] _ _ _ := hc_z
      have K := rs_stick (w := 2) (q := p) (a := 51) (by decide) (by decide) rfl (by decide) rfl (show rg_v (am_up (am_up h 44 1 (.int 2)) 44 2 (.int (rg_v h 44 9))) 44 2 = p from R5) hc_z
      replace hm_z := rn_aload_n (am_cur_of (i := (0, 1, .aload_n 0, (0, 0, 0), 0)) (by decide +kernel)) g0m hm_z
      replace hm_z := rn_bipush (w := 40) (am_cur_of (i := (1, 2, .bipush 40, (0, 0, 0), 0)) (by decide +kernel)) (by decide) hm_z
      replace hm_z := rn_callV (M' := am_m171) (o := 164) (ar := [.int 40]) (rest := []) (L := lv_args 0 [.ref 164, .int 40]) (am_cur_of (i := (3, 3, .invokevirtual 194, (171, 1715, 3), 0)) (by decide +kernel)) rfl rfl rfl rfl hm_z
      obtain ⟨r2306_z, h2307_z, q2308_z, hm_z⟩ := hm_z
      obtain ⟨rfl, yq2308_z⟩ := rp_sgN (fun q => absurd (Eq.trans (Eq.symm kc) q.1) (by decide)) q2308_z
      subst yq2308_z
      replace hm_z : rn _ _ _ _ [.int 0] _ _ _ := hm_z
      replace hm_z := rn_ifT (am_cur_of (i := (6, 3, .ifCond .eq 44, (28, 0, 0), 0)) (by decide +kernel)) (by decide) hm_z
      replace hm_z := rn_aload_n (am_cur_of (i := (50, 1, .aload_n 0, (0, 0, 0), 0)) (by decide +kernel)) g0m hm_z
      replace hm_z := rn_bipush (w := 14) (am_cur_of (i := (51, 2, .bipush 14, (0, 0, 0), 0)) (by decide +kernel)) (by decide) hm_z
      replace hm_z := rn_callV (M' := am_m174) (o := 164) (ar := [.int 14]) (rest := []) (L := lv_args 0 [.ref 164, .int 14]) (am_cur_of (i := (53, 3, .invokevirtual 306, (174, 1727, 3), 0)) (by decide +kernel)) rfl rfl rfl rfl hm_z
      obtain ⟨r2309_z, h2310_z, q2311_z, hm_z⟩ := hm_z
      obtain ⟨rfl, yq2311_z⟩ := rp_kyN (fun q => absurd (Eq.trans (Eq.symm kd) q.2) (by decide)) q2311_z
      subst yq2311_z
      replace hm_z : rn _ _ _ _ [.int 0] _ _ _ := hm_z
      replace hm_z := rn_ifT (am_cur_of (i := (56, 3, .ifCond .eq 30, (47, 0, 0), 0)) (by decide +kernel)) (by decide) hm_z
      replace hm_z := rn_aload_n (am_cur_of (i := (86, 1, .aload_n 0, (0, 0, 0), 0)) (by decide +kernel)) g0m hm_z
      replace hm_z := rn_callV (M' := am_m176) (o := 164) (ar := []) (rest := []) (L := lv_args 0 [.ref 164]) (am_cur_of (i := (87, 3, .invokevirtual 312, (176, 1735, 3), 0)) (by decide +kernel)) rfl rfl rfl rfl hm_z
      obtain ⟨r2312_z, h2313_z, q2314_z, hm_z⟩ := hm_z
      obtain ⟨rfl, yq2314_z⟩ := rp_nm (c := 1) (d := 15) kc kd q2314_z
      replace yq2314_z := yq2314_z.symm
      subst yq2314_z
      rw [show rp_nmf 1 15 = 0 from by decide] at hm_z
      replace hm_z : rn _ _ _ _ [.int 0] _ _ _ := hm_z
      replace hm_z := rn_istore_n (am_cur_of (i := (90, 1, .istore_n 1, (0, 0, 0), 0)) (by decide +kernel)) hm_z
      obtain ⟨_, s2315_z, s2316_z, g1m, hm_z⟩ := hm_z
      replace g0m := s2315_z 0 _ (by decide) rfl g0m
      clear s2315_z s2316_z
      replace hm_z := rn_iload_n (am_cur_of (i := (91, 1, .iload_n 1, (0, 0, 0), 0)) (by decide +kernel)) g1m hm_z
      replace hm_z := rn_ifT (am_cur_of (i := (92, 3, .ifCond .ge 17, (60, 0, 0), 0)) (by decide +kernel)) (by decide) hm_z
      replace hm_z := rn_iload_n (am_cur_of (i := (109, 1, .iload_n 1, (0, 0, 0), 0)) (by decide +kernel)) g1m hm_z
      replace hm_z := rn_ifT (am_cur_of (i := (110, 3, .ifCond .ge 19, (70, 0, 0), 0)) (by decide +kernel)) (by decide) hm_z
      replace hm_z := rn_aload_n (am_cur_of (i := (129, 1, .aload_n 0, (0, 0, 0), 0)) (by decide +kernel)) g0m hm_z
      replace hm_z := rn_callV (M' := am_m175) (o := 164) (ar := []) (rest := []) (L := lv_args 0 [.ref 164]) (am_cur_of (i := (130, 3, .invokevirtual 309, (175, 1731, 3), 0)) (by decide +kernel)) rfl rfl rfl rfl hm_z
      obtain ⟨r2317_z, h2318_z, q2319_z, hm_z⟩ := hm_z
      rcases rs_ic q2319_z with ⟨i1_z, rfl, i3_z⟩ | ⟨i1_z, -⟩
      · subst i3_z
        replace hm_z : rn _ _ _ _ [.int 0] _ _ _ := hm_z
        replace hm_z := rn_ifF (am_cur_of (i := (133, 3, .ifCond .ne 5, (75, 0, 0), 0)) (by decide +kernel)) (by decide) hm_z
        replace hm_z := rn_iconst (w := 0) (am_cur_of (i := (136, 1, .iconst 0, (0, 0, 0), 0)) (by decide +kernel)) (by decide) hm_z
        replace hm_z := rn_iret (am_cur_of (i := (137, 1, .ireturn, (0, 0, 0), 0)) (by decide +kernel)) hm_z
        obtain ⟨e2320_z, e2321_z⟩ := hm_z
        subst e2320_z e2321_z
        exact (Or.inr ⟨rfl, 2, by decide, K.1, K.2, rfl, R6⟩)
      · exact absurd (Int32.toInt_inj.mp (show (rg_v g 164 44).toInt = (64 : Int32).toInt from by rw [show rg_v g 164 44 = kn from nk1_z.symm, show (64 : Int32).toInt = 64 by decide]; omega)) i1_z
    · subst eh
      replace lt : kn.toInt < 64 := by rw [← ekn]; exact lt
      rw [show rg_v h 32 0 = kn from ekn] at hc_z
      replace hm_z := rn_aload_n (am_cur_of (i := (0, 1, .aload_n 0, (0, 0, 0), 0)) (by decide +kernel)) g0m hm_z
      replace hm_z := rn_bipush (w := 40) (am_cur_of (i := (1, 2, .bipush 40, (0, 0, 0), 0)) (by decide +kernel)) (by decide) hm_z
      replace hm_z := rn_callV (M' := am_m171) (o := 164) (ar := [.int 40]) (rest := []) (L := lv_args 0 [.ref 164, .int 40]) (am_cur_of (i := (3, 3, .invokevirtual 194, (171, 1715, 3), 0)) (by decide +kernel)) rfl rfl rfl rfl hm_z
      obtain ⟨r2322_z, h2323_z, q2324_z, hm_z⟩ := hm_z
      obtain ⟨rfl, yq2324_z⟩ := rp_sgN (fun q => absurd (Eq.trans (Eq.symm kc) q.1) (by decide)) q2324_z
      subst yq2324_z
      replace hm_z : rn _ _ _ _ [.int 0] _ _ _ := hm_z
      replace hm_z := rn_ifT (am_cur_of (i := (6, 3, .ifCond .eq 44, (28, 0, 0), 0)) (by decide +kernel)) (by decide) hm_z
      replace hm_z := rn_aload_n (am_cur_of (i := (50, 1, .aload_n 0, (0, 0, 0), 0)) (by decide +kernel)) g0m hm_z
      replace hm_z := rn_bipush (w := 14) (am_cur_of (i := (51, 2, .bipush 14, (0, 0, 0), 0)) (by decide +kernel)) (by decide) hm_z
      replace hm_z := rn_callV (M' := am_m174) (o := 164) (ar := [.int 14]) (rest := []) (L := lv_args 0 [.ref 164, .int 14]) (am_cur_of (i := (53, 3, .invokevirtual 306, (174, 1727, 3), 0)) (by decide +kernel)) rfl rfl rfl rfl hm_z
      obtain ⟨r2325_z, h2326_z, q2327_z, hm_z⟩ := hm_z
      obtain ⟨rfl, yq2327_z⟩ := rp_kyN (fun q => absurd (Eq.trans (Eq.symm kd) q.2) (by decide)) q2327_z
      subst yq2327_z
      replace hm_z : rn _ _ _ _ [.int 0] _ _ _ := hm_z
      replace hm_z := rn_ifT (am_cur_of (i := (56, 3, .ifCond .eq 30, (47, 0, 0), 0)) (by decide +kernel)) (by decide) hm_z
      replace hm_z := rn_aload_n (am_cur_of (i := (86, 1, .aload_n 0, (0, 0, 0), 0)) (by decide +kernel)) g0m hm_z
      replace hm_z := rn_callV (M' := am_m176) (o := 164) (ar := []) (rest := []) (L := lv_args 0 [.ref 164]) (am_cur_of (i := (87, 3, .invokevirtual 312, (176, 1735, 3), 0)) (by decide +kernel)) rfl rfl rfl rfl hm_z
      obtain ⟨r2328_z, h2329_z, q2330_z, hm_z⟩ := hm_z
      obtain ⟨rfl, yq2330_z⟩ := rp_nm (c := 1) (d := 15) kc kd q2330_z
      replace yq2330_z := yq2330_z.symm
      subst yq2330_z
      rw [show rp_nmf 1 15 = 0 from by decide] at hm_z
      replace hm_z : rn _ _ _ _ [.int 0] _ _ _ := hm_z
      replace hm_z := rn_istore_n (am_cur_of (i := (90, 1, .istore_n 1, (0, 0, 0), 0)) (by decide +kernel)) hm_z
      obtain ⟨_, s2331_z, s2332_z, g1m, hm_z⟩ := hm_z
      replace g0m := s2331_z 0 _ (by decide) rfl g0m
      clear s2331_z s2332_z
      replace hm_z := rn_iload_n (am_cur_of (i := (91, 1, .iload_n 1, (0, 0, 0), 0)) (by decide +kernel)) g1m hm_z
      replace hm_z := rn_ifT (am_cur_of (i := (92, 3, .ifCond .ge 17, (60, 0, 0), 0)) (by decide +kernel)) (by decide) hm_z
      replace hm_z := rn_iload_n (am_cur_of (i := (109, 1, .iload_n 1, (0, 0, 0), 0)) (by decide +kernel)) g1m hm_z
      replace hm_z := rn_ifT (am_cur_of (i := (110, 3, .ifCond .ge 19, (70, 0, 0), 0)) (by decide +kernel)) (by decide) hm_z
      replace hm_z := rn_aload_n (am_cur_of (i := (129, 1, .aload_n 0, (0, 0, 0), 0)) (by decide +kernel)) g0m hm_z
      replace hm_z := rn_callV (M' := am_m175) (o := 164) (ar := []) (rest := []) (L := lv_args 0 [.ref 164]) (am_cur_of (i := (130, 3, .invokevirtual 309, (175, 1731, 3), 0)) (by decide +kernel)) rfl rfl rfl rfl hm_z
      obtain ⟨r2333_z, h2334_z, q2335_z, hm_z⟩ := hm_z
      rcases rs_ic q2335_z with ⟨i1_z, -⟩ | ⟨i1_z, rfl, i3_z⟩
      · exfalso
        have zz := congrArg Int32.toInt i1_z
        rw [show rg_v g 164 44 = kn from nk1_z.symm, show (64 : Int32).toInt = 64 by decide] at zz
        omega
      · subst i3_z
        rw [show rg_v g 164 44 = kn from nk1_z.symm] at hm_z
        replace hm_z : rn _ _ _ _ [.int 1] _ _ _ := hm_z
        replace hc_z : rn _ _ _ _ [] _ _ _ := hc_z
        replace hc_z := rn_aload_n (am_cur_of (i := (146, 1, .aload_n 0, (0, 0, 0), 0)) (by decide +kernel)) g0_z hc_z
        replace hc_z := rn_getM (x := 23) (am_cur_of (i := (147, 3, .getfield 25, (4, 6, 415), 0)) (by decide +kernel)) (show (am_up h 32 0 (.int (kn + 1))) 44 6 = .ref 23 from R3) hc_z
        replace hc_z := rn_getR (x := 32) (am_cur_of (i := (150, 3, .getfield 242, (1, 19, 316), 0)) (by decide +kernel)) (by decide +kernel) hc_z
        replace hc_z := rn_iconst (w := 1) (am_cur_of (i := (153, 1, .iconst 1, (0, 0, 0), 0)) (by decide +kernel)) (by decide) hc_z
        replace hc_z := rn_aload_n (am_cur_of (i := (154, 1, .aload_n 0, (0, 0, 0), 0)) (by decide +kernel)) g0_z hc_z
        replace hc_z := rn_getI (v := 12) (am_cur_of (i := (155, 3, .getfield 91, (4, 11, 420), 0)) (by decide +kernel)) (by decide +kernel) (show rg_v (am_up h 32 0 (.int (kn + 1))) 44 11 = 12 from kb) hc_z
        replace hc_z := rn_bipush (w := 11) (am_cur_of (i := (158, 2, .bipush 11, (0, 0, 0), 0)) (by decide +kernel)) (by decide) hc_z
        replace hc_z := rn_isub (w := 1) (am_cur_of (i := (160, 1, .isub, (0, 0, 0), 0)) (by decide +kernel)) (by decide) hc_z
        replace hc_z := rn_callV (M' := am_m48) (o := 32) (ar := [.int 1, .int 1]) (rest := []) (L := lv_args 0 [.ref 32, .int 1, .int 1]) (am_cur_of (i := (161, 3, .invokevirtual 276, (48, 845, 3), 0)) (by decide +kernel)) rfl rfl rfl rfl hc_z
        obtain ⟨r2336_z, h2337_z, q2338_z, hc_z⟩ := hc_z
        obtain ⟨rfl, PF⟩ := rs_put23 q2338_z
        replace hc_z : rn _ _ _ _ [] _ _ _ := hc_z
        replace hc_z := rn_goto (am_cur_of (i := (164, 3, .goto 8, (87, 0, 0), 0)) (by decide +kernel)) hc_z
        replace hc_z := rn_aload_n (am_cur_of (i := (172, 1, .aload_n 0, (0, 0, 0), 0)) (by decide +kernel)) g0_z hc_z
        replace hc_z := rn_callV (M' := am_m19) (o := 44) (ar := []) (rest := []) (L := lv_args 0 [.ref 44]) (am_cur_of (i := (173, 3, .invokevirtual 57, (19, 727, 3), 0)) (by decide +kernel)) rfl rfl rfl rfl hc_z
        obtain ⟨r2339_z, h2340_z, q2341_z, hc_z⟩ := hc_z
        have vo := rn_void rfl q2341_z
        subst vo
        replace hm_z := rn_ifT (am_cur_of (i := (133, 3, .ifCond .ne 5, (75, 0, 0), 0)) (by decide +kernel)) (by decide) hm_z
        replace hm_z := rn_aload_n (am_cur_of (i := (138, 1, .aload_n 0, (0, 0, 0), 0)) (by decide +kernel)) g0m hm_z
        replace hm_z := rn_iload_n (am_cur_of (i := (139, 1, .iload_n 1, (0, 0, 0), 0)) (by decide +kernel)) g1m hm_z
        replace hm_z := rn_ifF (am_cur_of (i := (140, 3, .ifCond .lt 7, (80, 0, 0), 0)) (by decide +kernel)) (by decide) hm_z
        replace hm_z := rn_iconst (w := 1) (am_cur_of (i := (143, 1, .iconst 1, (0, 0, 0), 0)) (by decide +kernel)) (by decide) hm_z
        replace hm_z := rn_goto (am_cur_of (i := (144, 3, .goto 4, (81, 0, 0), 0)) (by decide +kernel)) hm_z
        replace hm_z := rn_iload_n (am_cur_of (i := (148, 1, .iload_n 1, (0, 0, 0), 0)) (by decide +kernel)) g1m hm_z
        replace hm_z := rn_ifF (am_cur_of (i := (149, 3, .ifCond .lt 7, (85, 0, 0), 0)) (by decide +kernel)) (by decide) hm_z
        replace hm_z := rn_iload_n (am_cur_of (i := (152, 1, .iload_n 1, (0, 0, 0), 0)) (by decide +kernel)) g1m hm_z
        replace hm_z := rn_goto (am_cur_of (i := (153, 3, .goto 7, (87, 0, 0), 0)) (by decide +kernel)) hm_z
        replace hm_z := rn_iconst (w := 0) (am_cur_of (i := (160, 1, .iconst 0, (0, 0, 0), 0)) (by decide +kernel)) (by decide) hm_z
        replace hm_z := rn_callV (M' := am_m177) (o := 164) (ar := [.int 0, .int 0, .int 1]) (rest := []) (L := lv_args 0 [.ref 164, .int 1, .int 0, .int 0]) (am_cur_of (i := (161, 3, .invokevirtual 291, (177, 1739, 3), 0)) (by decide +kernel)) rfl rfl rfl rfl hm_z
        obtain ⟨r2342_z, h2343_z, q2344_z, hm_z⟩ := hm_z
        obtain ⟨rfl, GF⟩ := rs_grown q2344_z
        replace hm_z : rn _ _ _ _ [] _ _ _ := hm_z
        replace hm_z := rn_aload_n (am_cur_of (i := (164, 1, .aload_n 0, (0, 0, 0), 0)) (by decide +kernel)) g0m hm_z
        replace hm_z := rn_iconst (w := 0) (am_cur_of (i := (165, 1, .iconst 0, (0, 0, 0), 0)) (by decide +kernel)) (by decide) hm_z
        replace hm_z := rn_put (am_cur_of (i := (166, 3, .putfield 315, (12, 45, 1429), 0)) (by decide +kernel)) (by decide +kernel) hm_z
        replace hm_z := rn_aload_n (am_cur_of (i := (169, 1, .aload_n 0, (0, 0, 0), 0)) (by decide +kernel)) g0m hm_z
        replace hm_z := rn_callV (M' := am_m151) (o := 164) (ar := []) (rest := []) (L := lv_args 0 [.ref 164]) (am_cur_of (i := (170, 3, .invokevirtual 191, (151, 1636, 3), 0)) (by decide +kernel)) rfl rfl rfl rfl hm_z
        obtain ⟨r2345_z, h2346_z, q2347_z, hm_z⟩ := hm_z
        have vo := rn_void rfl q2347_z
        subst vo
        have FC : ab_Fr (rz_MC23.drop 1) h h2337_z := ab_Fr_trans (ab_Fr_up rfl ab_Fr_refl) (ab_Fr_sub (by decide) PF)
        have FC' : ab_Fr rz_MC23 h h2337_z := ab_Fr_sub (by decide) FC
        have FM : ab_Fr rz_MM g (am_up h2343_z 164 45 (.int 0)) := ab_Fr_up rfl (ab_Fr_trans (ab_Fr_up rfl ab_Fr_refl) (ab_Fr_sub (by decide) GF))
        obtain ⟨-, -, x2_z, p2_z, R2, le2_z, t5_z, t6_z⟩ := pr_tok (rz_q023 (rq_0 Rk) FC' FM) q2341_z q2347_z
        have A2 := rp_x (by decide) (rz_p23 A FC' FM ((show rg_v h2337_z 32 0 = kn + 1 from ((rg_v_fr PF (by decide)).trans (show rg_v (am_up h 32 0 (.int (kn + 1))) 32 0 = kn + 1 from rfl))).trans (show rg_v (am_up h2343_z 164 45 (.int 0)) 164 44 = kn + 1 from (show rg_v (am_up h2343_z 164 45 (.int 0)) 164 44 = kn + 1 from ((rg_v_fr GF (by decide)).trans (show rg_v (am_up g 164 44 (.int (kn + 1))) 164 44 = kn + 1 from rfl)))).symm) (by rw [show rg_v h2337_z 32 0 = kn + 1 from ((rg_v_fr PF (by decide)).trans (show rg_v (am_up h 32 0 (.int (kn + 1))) 32 0 = kn + 1 from rfl))]; omega) (by rw [show rg_v h2337_z 32 0 = kn + 1 from ((rg_v_fr PF (by decide)).trans (show rg_v (am_up h 32 0 (.int (kn + 1))) 32 0 = kn + 1 from rfl))]; omega)) (rx_C_f t5_z) (rx_M_f t6_z)
        have B2 := rp_tk (rz_t23 B FC FM) (rg_v_fr t5_z (by decide)) (fun k => rg_v_fr t6_z (rg_v_in (by decide) k)) (rx_M_f t6_z)
        have FC47 : ab_Fr [(44, 14), (44, 15), (32, 1), (32, 2), (33, 0), (34, 0)] h h2337_z := ab_Fr_trans (ab_Fr_up rfl ab_Fr_refl) (ab_Fr_sub (by decide) PF)
        have FM184 : ab_Fr [(164, 42), (164, 43), (164, 44), (164, 45), (164, 46), (164, 47), (164, 22), (181, 0), (182, 0), (183, 0), (185, 0)] g (am_up h2343_z 164 45 (.int 0)) := ab_Fr_up rfl (ab_Fr_trans (ab_Fr_up rfl ab_Fr_refl) (ab_Fr_sub (by decide) GF))
        have Z2 : rs 23 h2337_z (am_up h2343_z 164 45 (.int 0)) := rs_keep Zk ((show rg_v h2337_z 44 13 = np from ((rg_v_fr PF (by decide)).trans (show rg_v (am_up h 32 0 (.int (kn + 1))) 44 13 = np from z1_z))).trans z1_z.symm) ((show rg_v (am_up h2343_z 164 45 (.int 0)) 164 41 = np from (show rg_v (am_up h2343_z 164 45 (.int 0)) 164 41 = np from ((rg_v_fr GF (by decide)).trans (show rg_v (am_up g 164 44 (.int (kn + 1))) 164 41 = np from z2_z)))).trans z2_z.symm) ((show rg_v h2337_z 44 14 = op from ((rg_v_fr PF (by decide)).trans (show rg_v (am_up h 32 0 (.int (kn + 1))) 44 14 = op from z4_z))).trans z4_z.symm) ((show rg_v (am_up h2343_z 164 45 (.int 0)) 164 43 = op from (show rg_v (am_up h2343_z 164 45 (.int 0)) 164 43 = op from ((rg_v_fr GF (by decide)).trans (show rg_v (am_up g 164 44 (.int (kn + 1))) 164 43 = op from z5_z)))).trans z5_z.symm) (show (rg_v h 32 0).toInt ≤ (rg_v h2337_z 32 0).toInt by rw [(show rg_v h2337_z 32 0 = kn + 1 from ((rg_v_fr PF (by decide)).trans (show rg_v (am_up h 32 0 (.int (kn + 1))) 32 0 = kn + 1 from rfl))), ekn]; omega) (fun k => rg_v_fr FC47 (rg_v_in (by decide) k)) (fun k => rg_v_fr FM184 (rg_v_in (by decide) k))
        replace Z2 := rs_fr (by decide) Z2 t5_z t6_z
        have e45_z : rg_v h2346_z 164 45 = 0 := (rg_v_fr t6_z (by decide)).trans (show rg_v (am_up h2343_z 164 45 (.int 0)) 164 45 = 0 from (show rg_v (am_up h2343_z 164 45 (.int 0)) 164 45 = 0 from rfl))
        have e46_z : rg_v h2346_z 164 46 = 1 := (rg_v_fr t6_z (by decide)).trans (show rg_v (am_up h2343_z 164 45 (.int 0)) 164 46 = 1 from (show rg_v (am_up h2343_z 164 45 (.int 0)) 164 46 = 1 from ((rg_v_fr GF (by decide)).trans (show rg_v (am_up g 164 44 (.int (kn + 1))) 164 46 = 1 from w2_z))))
        replace hm_z : rn _ _ _ _ [] _ _ _ := hm_z
        replace hc_z : rn _ _ _ _ [] _ _ _ := hc_z
        replace hc_z := rn_iconst (w := 2) (am_cur_of (i := (176, 1, .iconst 2, (0, 0, 0), 0)) (by decide +kernel)) (by decide) hc_z
        replace hc_z := rn_iret (am_cur_of (i := (177, 1, .ireturn, (0, 0, 0), 0)) (by decide +kernel)) hc_z
        obtain ⟨e2348_z, e2349_z⟩ := hc_z
        replace hm_z := rn_iconst (w := 1) (am_cur_of (i := (173, 1, .iconst 1, (0, 0, 0), 0)) (by decide +kernel)) (by decide) hm_z
        replace hm_z := rn_iret (am_cur_of (i := (174, 1, .ireturn, (0, 0, 0), 0)) (by decide +kernel)) hm_z
        obtain ⟨e2350_z, e2351_z⟩ := hm_z
        subst e2348_z e2349_z e2350_z e2351_z
        exact Or.inl ⟨_, x2_z, p2_z, rfl, rfl, R2, le2_z, A2, B2, Z2, Or.inr (Or.inr ⟨rfl, e45_z⟩)⟩
  · have g0_z : am_get (lv_args 0 [.ref 44, .int 0]) 0 = some (.ref 44) := rfl
    have g1_z : am_get (lv_args 0 [.ref 44, .int 0]) 1 = some (.int 0) := rfl
    have g0m : am_get (lv_args 0 [.ref 164]) 0 = some (.ref 164) := rfl
    have Rk := R
    have Zk := Z
    obtain ⟨⟨c1_z, c2_z, c3_z, c4_z, c5_z, c6_z, c7_z, c8_z⟩, ⟨m2_z, m3_z, m4_z, m5_z, m6_z, m7_z, m8_z⟩, R3, R4, R5, R6, R7, R8, R9, R10⟩ := (R : rq T S x p 23 h g)
    obtain ⟨np, op, z1_z, z2_z, z3_z, z4_z, z5_z, z6_z, z7_z, z8_z, z9_z, z10_z⟩ := (Z : rs 23 h g)
    obtain ⟨nk1_z, nk2_z, nk3_z⟩ := A.2.2.2.2.2.1
    replace nk1_z : rg_v h 32 0 = rg_v g 164 44 := nk1_z
    replace nk2_z : 0 ≤ (rg_v h 32 0).toInt := nk2_z
    replace nk3_z : (rg_v h 32 0).toInt ≤ 64 := nk3_z
    replace z8_z : np.toInt ≤ (rg_v h 32 0).toInt + op.toInt := z8_z
    obtain ⟨kn, ekn⟩ : ∃ v, rg_v h 32 0 = v := ⟨_, rfl⟩
    rw [ekn] at nk1_z nk2_z nk3_z z8_z
    have e9_z := rt_c1 (x := kn) (by omega) (by omega)
    replace hc_z := rn_aload_n (am_cur_of (i := (0, 1, .aload_n 0, (0, 0, 0), 0)) (by decide +kernel)) g0_z hc_z
    replace hc_z := rn_getI (v := 2) (am_cur_of (i := (1, 3, .getfield 60, (4, 10, 419), 0)) (by decide +kernel)) (by decide +kernel) ka hc_z
    replace hc_z := rn_bipush (w := 6) (am_cur_of (i := (4, 2, .bipush 6, (0, 0, 0), 0)) (by decide +kernel)) (by decide) hc_z
    replace hc_z := rn_cmpT (am_cur_of (i := (6, 3, .if_icmp .ne 30, (19, 0, 0), 0)) (by decide +kernel)) (by decide) hc_z
    replace hc_z := rn_aload_n (am_cur_of (i := (36, 1, .aload_n 0, (0, 0, 0), 0)) (by decide +kernel)) g0_z hc_z
    replace hc_z := rn_bipush (w := 40) (am_cur_of (i := (37, 2, .bipush 40, (0, 0, 0), 0)) (by decide +kernel)) (by decide) hc_z
    replace hc_z := rn_callV (M' := am_m45) (o := 44) (ar := [.int 40]) (rest := []) (L := lv_args 0 [.ref 44, .int 40]) (am_cur_of (i := (39, 3, .invokevirtual 105, (45, 834, 3), 0)) (by decide +kernel)) rfl rfl rfl rfl hc_z
    obtain ⟨r2352_z, h2353_z, q2354_z, hc_z⟩ := hc_z
    obtain ⟨rfl, yq2354_z⟩ := rp_mkN (fun q => absurd (Eq.trans (Eq.symm ka) q.1) (by decide)) q2354_z
    subst yq2354_z
    replace hc_z : rn _ _ _ _ [.int 0] _ _ _ := hc_z
    replace hc_z := rn_ifT (am_cur_of (i := (42, 3, .ifCond .eq 38, (43, 0, 0), 0)) (by decide +kernel)) (by decide) hc_z
    replace hc_z := rn_aload_n (am_cur_of (i := (80, 1, .aload_n 0, (0, 0, 0), 0)) (by decide +kernel)) g0_z hc_z
    replace hc_z := rn_getI (v := 2) (am_cur_of (i := (81, 3, .getfield 60, (4, 10, 419), 0)) (by decide +kernel)) (by decide +kernel) ka hc_z
    replace hc_z := rn_iconst (w := 4) (am_cur_of (i := (84, 1, .iconst 4, (0, 0, 0), 0)) (by decide +kernel)) (by decide) hc_z
    replace hc_z := rn_cmpT (am_cur_of (i := (85, 3, .if_icmp .ne 40, (64, 0, 0), 0)) (by decide +kernel)) (by decide) hc_z
    replace hc_z := rn_aload_n (am_cur_of (i := (125, 1, .aload_n 0, (0, 0, 0), 0)) (by decide +kernel)) g0_z hc_z
    replace hc_z := rn_getI (v := 2) (am_cur_of (i := (126, 3, .getfield 60, (4, 10, 419), 0)) (by decide +kernel)) (by decide +kernel) ka hc_z
    replace hc_z := rn_iconst (w := 2) (am_cur_of (i := (129, 1, .iconst 2, (0, 0, 0), 0)) (by decide +kernel)) (by decide) hc_z
    replace hc_z := rn_cmpF (am_cur_of (i := (130, 3, .if_icmp .ne 37, (84, 0, 0), 0)) (by decide +kernel)) (by decide) hc_z
    replace hc_z := rn_aload_n (am_cur_of (i := (133, 1, .aload_n 0, (0, 0, 0), 0)) (by decide +kernel)) g0_z hc_z
    replace hc_z := rn_getI (v := 13) (am_cur_of (i := (134, 3, .getfield 91, (4, 11, 420), 0)) (by decide +kernel)) (by decide +kernel) kb hc_z
    replace hc_z := rn_bipush (w := 11) (am_cur_of (i := (137, 2, .bipush 11, (0, 0, 0), 0)) (by decide +kernel)) (by decide) hc_z
    replace hc_z := rn_cmpF (am_cur_of (i := (139, 3, .if_icmp .lt 28, (84, 0, 0), 0)) (by decide +kernel)) (by decide) hc_z
    replace hc_z := rn_aload_n (am_cur_of (i := (142, 1, .aload_n 0, (0, 0, 0), 0)) (by decide +kernel)) g0_z hc_z
    replace hc_z := rn_callV (M' := am_m49) (o := 44) (ar := []) (rest := []) (L := lv_args 0 [.ref 44]) (am_cur_of (i := (143, 3, .invokevirtual 270, (49, 852, 3), 0)) (by decide +kernel)) rfl rfl rfl rfl hc_z
    obtain ⟨r2355_z, h2356_z, q2357_z, hc_z⟩ := hc_z
    rcases rs_ck23 R4 (show h 44 6 = .ref 23 from R3) q2357_z with ⟨ge, rfl, eh⟩ | ⟨lt, rfl, eh⟩
    · subst eh
      replace ge : 64 ≤ kn.toInt := by rw [← ekn]; exact ge
      replace hc_z : rn _ _ _ _ [] _ _ _ := hc_z
      have K := rs_stick (w := 2) (q := p) (a := 51) (by decide) (by decide) rfl (by decide) rfl (show rg_v (am_up (am_up h 44 1 (.int 2)) 44 2 (.int (rg_v h 44 9))) 44 2 = p from R5) hc_z
      replace hm_z := rn_aload_n (am_cur_of (i := (0, 1, .aload_n 0, (0, 0, 0), 0)) (by decide +kernel)) g0m hm_z
      replace hm_z := rn_bipush (w := 40) (am_cur_of (i := (1, 2, .bipush 40, (0, 0, 0), 0)) (by decide +kernel)) (by decide) hm_z
      replace hm_z := rn_callV (M' := am_m171) (o := 164) (ar := [.int 40]) (rest := []) (L := lv_args 0 [.ref 164, .int 40]) (am_cur_of (i := (3, 3, .invokevirtual 194, (171, 1715, 3), 0)) (by decide +kernel)) rfl rfl rfl rfl hm_z
      obtain ⟨r2358_z, h2359_z, q2360_z, hm_z⟩ := hm_z
      obtain ⟨rfl, yq2360_z⟩ := rp_sgN (fun q => absurd (Eq.trans (Eq.symm kc) q.1) (by decide)) q2360_z
      subst yq2360_z
      replace hm_z : rn _ _ _ _ [.int 0] _ _ _ := hm_z
      replace hm_z := rn_ifT (am_cur_of (i := (6, 3, .ifCond .eq 44, (28, 0, 0), 0)) (by decide +kernel)) (by decide) hm_z
      replace hm_z := rn_aload_n (am_cur_of (i := (50, 1, .aload_n 0, (0, 0, 0), 0)) (by decide +kernel)) g0m hm_z
      replace hm_z := rn_bipush (w := 14) (am_cur_of (i := (51, 2, .bipush 14, (0, 0, 0), 0)) (by decide +kernel)) (by decide) hm_z
      replace hm_z := rn_callV (M' := am_m174) (o := 164) (ar := [.int 14]) (rest := []) (L := lv_args 0 [.ref 164, .int 14]) (am_cur_of (i := (53, 3, .invokevirtual 306, (174, 1727, 3), 0)) (by decide +kernel)) rfl rfl rfl rfl hm_z
      obtain ⟨r2361_z, h2362_z, q2363_z, hm_z⟩ := hm_z
      obtain ⟨rfl, yq2363_z⟩ := rp_kyN (fun q => absurd (Eq.trans (Eq.symm kd) q.2) (by decide)) q2363_z
      subst yq2363_z
      replace hm_z : rn _ _ _ _ [.int 0] _ _ _ := hm_z
      replace hm_z := rn_ifT (am_cur_of (i := (56, 3, .ifCond .eq 30, (47, 0, 0), 0)) (by decide +kernel)) (by decide) hm_z
      replace hm_z := rn_aload_n (am_cur_of (i := (86, 1, .aload_n 0, (0, 0, 0), 0)) (by decide +kernel)) g0m hm_z
      replace hm_z := rn_callV (M' := am_m176) (o := 164) (ar := []) (rest := []) (L := lv_args 0 [.ref 164]) (am_cur_of (i := (87, 3, .invokevirtual 312, (176, 1735, 3), 0)) (by decide +kernel)) rfl rfl rfl rfl hm_z
      obtain ⟨r2364_z, h2365_z, q2366_z, hm_z⟩ := hm_z
      obtain ⟨rfl, yq2366_z⟩ := rp_nm (c := 1) (d := 16) kc kd q2366_z
      replace yq2366_z := yq2366_z.symm
      subst yq2366_z
      rw [show rp_nmf 1 16 = 1 from by decide] at hm_z
      replace hm_z : rn _ _ _ _ [.int 1] _ _ _ := hm_z
      replace hm_z := rn_istore_n (am_cur_of (i := (90, 1, .istore_n 1, (0, 0, 0), 0)) (by decide +kernel)) hm_z
      obtain ⟨_, s2367_z, s2368_z, g1m, hm_z⟩ := hm_z
      replace g0m := s2367_z 0 _ (by decide) rfl g0m
      clear s2367_z s2368_z
      replace hm_z := rn_iload_n (am_cur_of (i := (91, 1, .iload_n 1, (0, 0, 0), 0)) (by decide +kernel)) g1m hm_z
      replace hm_z := rn_ifT (am_cur_of (i := (92, 3, .ifCond .ge 17, (60, 0, 0), 0)) (by decide +kernel)) (by decide) hm_z
      replace hm_z := rn_iload_n (am_cur_of (i := (109, 1, .iload_n 1, (0, 0, 0), 0)) (by decide +kernel)) g1m hm_z
      replace hm_z := rn_ifT (am_cur_of (i := (110, 3, .ifCond .ge 19, (70, 0, 0), 0)) (by decide +kernel)) (by decide) hm_z
      replace hm_z := rn_aload_n (am_cur_of (i := (129, 1, .aload_n 0, (0, 0, 0), 0)) (by decide +kernel)) g0m hm_z
      replace hm_z := rn_callV (M' := am_m175) (o := 164) (ar := []) (rest := []) (L := lv_args 0 [.ref 164]) (am_cur_of (i := (130, 3, .invokevirtual 309, (175, 1731, 3), 0)) (by decide +kernel)) rfl rfl rfl rfl hm_z
      obtain ⟨r2369_z, h2370_z, q2371_z, hm_z⟩ := hm_z
      rcases rs_ic q2371_z with ⟨i1_z, rfl, i3_z⟩ | ⟨i1_z, -⟩
      · subst i3_z
        replace hm_z : rn _ _ _ _ [.int 0] _ _ _ := hm_z
        replace hm_z := rn_ifF (am_cur_of (i := (133, 3, .ifCond .ne 5, (75, 0, 0), 0)) (by decide +kernel)) (by decide) hm_z
        replace hm_z := rn_iconst (w := 0) (am_cur_of (i := (136, 1, .iconst 0, (0, 0, 0), 0)) (by decide +kernel)) (by decide) hm_z
        replace hm_z := rn_iret (am_cur_of (i := (137, 1, .ireturn, (0, 0, 0), 0)) (by decide +kernel)) hm_z
        obtain ⟨e2372_z, e2373_z⟩ := hm_z
        subst e2372_z e2373_z
        exact (Or.inr ⟨rfl, 2, by decide, K.1, K.2, rfl, R6⟩)
      · exact absurd (Int32.toInt_inj.mp (show (rg_v g 164 44).toInt = (64 : Int32).toInt from by rw [show rg_v g 164 44 = kn from nk1_z.symm, show (64 : Int32).toInt = 64 by decide]; omega)) i1_z
    · subst eh
      replace lt : kn.toInt < 64 := by rw [← ekn]; exact lt
      rw [show rg_v h 32 0 = kn from ekn] at hc_z
      replace hm_z := rn_aload_n (am_cur_of (i := (0, 1, .aload_n 0, (0, 0, 0), 0)) (by decide +kernel)) g0m hm_z
      replace hm_z := rn_bipush (w := 40) (am_cur_of (i := (1, 2, .bipush 40, (0, 0, 0), 0)) (by decide +kernel)) (by decide) hm_z
      replace hm_z := rn_callV (M' := am_m171) (o := 164) (ar := [.int 40]) (rest := []) (L := lv_args 0 [.ref 164, .int 40]) (am_cur_of (i := (3, 3, .invokevirtual 194, (171, 1715, 3), 0)) (by decide +kernel)) rfl rfl rfl rfl hm_z
      obtain ⟨r2374_z, h2375_z, q2376_z, hm_z⟩ := hm_z
      obtain ⟨rfl, yq2376_z⟩ := rp_sgN (fun q => absurd (Eq.trans (Eq.symm kc) q.1) (by decide)) q2376_z
      subst yq2376_z
      replace hm_z : rn _ _ _ _ [.int 0] _ _ _ := hm_z
      replace hm_z := rn_ifT (am_cur_of (i := (6, 3, .ifCond .eq 44, (28, 0, 0), 0)) (by decide +kernel)) (by decide) hm_z
      replace hm_z := rn_aload_n (am_cur_of (i := (50, 1, .aload_n 0, (0, 0, 0), 0)) (by decide +kernel)) g0m hm_z
      replace hm_z := rn_bipush (w := 14) (am_cur_of (i := (51, 2, .bipush 14, (0, 0, 0), 0)) (by decide +kernel)) (by decide) hm_z
      replace hm_z := rn_callV (M' := am_m174) (o := 164) (ar := [.int 14]) (rest := []) (L := lv_args 0 [.ref 164, .int 14]) (am_cur_of (i := (53, 3, .invokevirtual 306, (174, 1727, 3), 0)) (by decide +kernel)) rfl rfl rfl rfl hm_z
      obtain ⟨r2377_z, h2378_z, q2379_z, hm_z⟩ := hm_z
      obtain ⟨rfl, yq2379_z⟩ := rp_kyN (fun q => absurd (Eq.trans (Eq.symm kd) q.2) (by decide)) q2379_z
      subst yq2379_z
      replace hm_z : rn _ _ _ _ [.int 0] _ _ _ := hm_z
      replace hm_z := rn_ifT (am_cur_of (i := (56, 3, .ifCond .eq 30, (47, 0, 0), 0)) (by decide +kernel)) (by decide) hm_z
      replace hm_z := rn_aload_n (am_cur_of (i := (86, 1, .aload_n 0, (0, 0, 0), 0)) (by decide +kernel)) g0m hm_z
      replace hm_z := rn_callV (M' := am_m176) (o := 164) (ar := []) (rest := []) (L := lv_args 0 [.ref 164]) (am_cur_of (i := (87, 3, .invokevirtual 312, (176, 1735, 3), 0)) (by decide +kernel)) rfl rfl rfl rfl hm_z
      obtain ⟨r2380_z, h2381_z, q2382_z, hm_z⟩ := hm_z
      obtain ⟨rfl, yq2382_z⟩ := rp_nm (c := 1) (d := 16) kc kd q2382_z
      replace yq2382_z := yq2382_z.symm
      subst yq2382_z
      rw [show rp_nmf 1 16 = 1 from by decide] at hm_z
      replace hm_z : rn _ _ _ _ [.int 1] _ _ _ := hm_z
      replace hm_z := rn_istore_n (am_cur_of (i := (90, 1, .istore_n 1, (0, 0, 0), 0)) (by decide +kernel)) hm_z
      obtain ⟨_, s2383_z, s2384_z, g1m, hm_z⟩ := hm_z
      replace g0m := s2383_z 0 _ (by decide) rfl g0m
      clear s2383_z s2384_z
      replace hm_z := rn_iload_n (am_cur_of (i := (91, 1, .iload_n 1, (0, 0, 0), 0)) (by decide +kernel)) g1m hm_z
      replace hm_z := rn_ifT (am_cur_of (i := (92, 3, .ifCond .ge 17, (60, 0, 0), 0)) (by decide +kernel)) (by decide) hm_z
      replace hm_z := rn_iload_n (am_cur_of (i := (109, 1, .iload_n 1, (0, 0, 0), 0)) (by decide +kernel)) g1m hm_z
      replace hm_z := rn_ifT (am_cur_of (i := (110, 3, .ifCond .ge 19, (70, 0, 0), 0)) (by decide +kernel)) (by decide) hm_z
      replace hm_z := rn_aload_n (am_cur_of (i := (129, 1, .aload_n 0, (0, 0, 0), 0)) (by decide +kernel)) g0m hm_z
      replace hm_z := rn_callV (M' := am_m175) (o := 164) (ar := []) (rest := []) (L := lv_args 0 [.ref 164]) (am_cur_of (i := (130, 3, .invokevirtual 309, (175, 1731, 3), 0)) (by decide +kernel)) rfl rfl rfl rfl hm_z
      obtain ⟨r2385_z, h2386_z, q2387_z, hm_z⟩ := hm_z
      rcases rs_ic q2387_z with ⟨i1_z, -⟩ | ⟨i1_z, rfl, i3_z⟩
      · exfalso
        have zz := congrArg Int32.toInt i1_z
        rw [show rg_v g 164 44 = kn from nk1_z.symm, show (64 : Int32).toInt = 64 by decide] at zz
        omega
      · subst i3_z
        rw [show rg_v g 164 44 = kn from nk1_z.symm] at hm_z
        replace hm_z : rn _ _ _ _ [.int 1] _ _ _ := hm_z
        replace hc_z : rn _ _ _ _ [] _ _ _ := hc_z
        replace hc_z := rn_aload_n (am_cur_of (i := (146, 1, .aload_n 0, (0, 0, 0), 0)) (by decide +kernel)) g0_z hc_z
        replace hc_z := rn_getM (x := 23) (am_cur_of (i := (147, 3, .getfield 25, (4, 6, 415), 0)) (by decide +kernel)) (show (am_up h 32 0 (.int (kn + 1))) 44 6 = .ref 23 from R3) hc_z
        replace hc_z := rn_getR (x := 32) (am_cur_of (i := (150, 3, .getfield 242, (1, 19, 316), 0)) (by decide +kernel)) (by decide +kernel) hc_z
        replace hc_z := rn_iconst (w := 1) (am_cur_of (i := (153, 1, .iconst 1, (0, 0, 0), 0)) (by decide +kernel)) (by decide) hc_z
        replace hc_z := rn_aload_n (am_cur_of (i := (154, 1, .aload_n 0, (0, 0, 0), 0)) (by decide +kernel)) g0_z hc_z
        replace hc_z := rn_getI (v := 13) (am_cur_of (i := (155, 3, .getfield 91, (4, 11, 420), 0)) (by decide +kernel)) (by decide +kernel) (show rg_v (am_up h 32 0 (.int (kn + 1))) 44 11 = 13 from kb) hc_z
        replace hc_z := rn_bipush (w := 11) (am_cur_of (i := (158, 2, .bipush 11, (0, 0, 0), 0)) (by decide +kernel)) (by decide) hc_z
        replace hc_z := rn_isub (w := 2) (am_cur_of (i := (160, 1, .isub, (0, 0, 0), 0)) (by decide +kernel)) (by decide) hc_z
        replace hc_z := rn_callV (M' := am_m48) (o := 32) (ar := [.int 2, .int 1]) (rest := []) (L := lv_args 0 [.ref 32, .int 1, .int 2]) (am_cur_of (i := (161, 3, .invokevirtual 276, (48, 845, 3), 0)) (by decide +kernel)) rfl rfl rfl rfl hc_z
        obtain ⟨r2388_z, h2389_z, q2390_z, hc_z⟩ := hc_z
        obtain ⟨rfl, PF⟩ := rs_put23 q2390_z
        replace hc_z : rn _ _ _ _ [] _ _ _ := hc_z
        replace hc_z := rn_goto (am_cur_of (i := (164, 3, .goto 8, (87, 0, 0), 0)) (by decide +kernel)) hc_z
        replace hc_z := rn_aload_n (am_cur_of (i := (172, 1, .aload_n 0, (0, 0, 0), 0)) (by decide +kernel)) g0_z hc_z
        replace hc_z := rn_callV (M' := am_m19) (o := 44) (ar := []) (rest := []) (L := lv_args 0 [.ref 44]) (am_cur_of (i := (173, 3, .invokevirtual 57, (19, 727, 3), 0)) (by decide +kernel)) rfl rfl rfl rfl hc_z
        obtain ⟨r2391_z, h2392_z, q2393_z, hc_z⟩ := hc_z
        have vo := rn_void rfl q2393_z
        subst vo
        replace hm_z := rn_ifT (am_cur_of (i := (133, 3, .ifCond .ne 5, (75, 0, 0), 0)) (by decide +kernel)) (by decide) hm_z
        replace hm_z := rn_aload_n (am_cur_of (i := (138, 1, .aload_n 0, (0, 0, 0), 0)) (by decide +kernel)) g0m hm_z
        replace hm_z := rn_iload_n (am_cur_of (i := (139, 1, .iload_n 1, (0, 0, 0), 0)) (by decide +kernel)) g1m hm_z
        replace hm_z := rn_ifF (am_cur_of (i := (140, 3, .ifCond .lt 7, (80, 0, 0), 0)) (by decide +kernel)) (by decide) hm_z
        replace hm_z := rn_iconst (w := 1) (am_cur_of (i := (143, 1, .iconst 1, (0, 0, 0), 0)) (by decide +kernel)) (by decide) hm_z
        replace hm_z := rn_goto (am_cur_of (i := (144, 3, .goto 4, (81, 0, 0), 0)) (by decide +kernel)) hm_z
        replace hm_z := rn_iload_n (am_cur_of (i := (148, 1, .iload_n 1, (0, 0, 0), 0)) (by decide +kernel)) g1m hm_z
        replace hm_z := rn_ifF (am_cur_of (i := (149, 3, .ifCond .lt 7, (85, 0, 0), 0)) (by decide +kernel)) (by decide) hm_z
        replace hm_z := rn_iload_n (am_cur_of (i := (152, 1, .iload_n 1, (0, 0, 0), 0)) (by decide +kernel)) g1m hm_z
        replace hm_z := rn_goto (am_cur_of (i := (153, 3, .goto 7, (87, 0, 0), 0)) (by decide +kernel)) hm_z
        replace hm_z := rn_iconst (w := 0) (am_cur_of (i := (160, 1, .iconst 0, (0, 0, 0), 0)) (by decide +kernel)) (by decide) hm_z
        replace hm_z := rn_callV (M' := am_m177) (o := 164) (ar := [.int 0, .int 1, .int 1]) (rest := []) (L := lv_args 0 [.ref 164, .int 1, .int 1, .int 0]) (am_cur_of (i := (161, 3, .invokevirtual 291, (177, 1739, 3), 0)) (by decide +kernel)) rfl rfl rfl rfl hm_z
        obtain ⟨r2394_z, h2395_z, q2396_z, hm_z⟩ := hm_z
        obtain ⟨rfl, GF⟩ := rs_grown q2396_z
        replace hm_z : rn _ _ _ _ [] _ _ _ := hm_z
        replace hm_z := rn_aload_n (am_cur_of (i := (164, 1, .aload_n 0, (0, 0, 0), 0)) (by decide +kernel)) g0m hm_z
        replace hm_z := rn_iconst (w := 0) (am_cur_of (i := (165, 1, .iconst 0, (0, 0, 0), 0)) (by decide +kernel)) (by decide) hm_z
        replace hm_z := rn_put (am_cur_of (i := (166, 3, .putfield 315, (12, 45, 1429), 0)) (by decide +kernel)) (by decide +kernel) hm_z
        replace hm_z := rn_aload_n (am_cur_of (i := (169, 1, .aload_n 0, (0, 0, 0), 0)) (by decide +kernel)) g0m hm_z
        replace hm_z := rn_callV (M' := am_m151) (o := 164) (ar := []) (rest := []) (L := lv_args 0 [.ref 164]) (am_cur_of (i := (170, 3, .invokevirtual 191, (151, 1636, 3), 0)) (by decide +kernel)) rfl rfl rfl rfl hm_z
        obtain ⟨r2397_z, h2398_z, q2399_z, hm_z⟩ := hm_z
        have vo := rn_void rfl q2399_z
        subst vo
        have FC : ab_Fr (rz_MC23.drop 1) h h2389_z := ab_Fr_trans (ab_Fr_up rfl ab_Fr_refl) (ab_Fr_sub (by decide) PF)
        have FC' : ab_Fr rz_MC23 h h2389_z := ab_Fr_sub (by decide) FC
        have FM : ab_Fr rz_MM g (am_up h2395_z 164 45 (.int 0)) := ab_Fr_up rfl (ab_Fr_trans (ab_Fr_up rfl ab_Fr_refl) (ab_Fr_sub (by decide) GF))
        obtain ⟨-, -, x2_z, p2_z, R2, le2_z, t5_z, t6_z⟩ := pr_tok (rz_q023 (rq_0 Rk) FC' FM) q2393_z q2399_z
        have A2 := rp_x (by decide) (rz_p23 A FC' FM ((show rg_v h2389_z 32 0 = kn + 1 from ((rg_v_fr PF (by decide)).trans (show rg_v (am_up h 32 0 (.int (kn + 1))) 32 0 = kn + 1 from rfl))).trans (show rg_v (am_up h2395_z 164 45 (.int 0)) 164 44 = kn + 1 from (show rg_v (am_up h2395_z 164 45 (.int 0)) 164 44 = kn + 1 from ((rg_v_fr GF (by decide)).trans (show rg_v (am_up g 164 44 (.int (kn + 1))) 164 44 = kn + 1 from rfl)))).symm) (by rw [show rg_v h2389_z 32 0 = kn + 1 from ((rg_v_fr PF (by decide)).trans (show rg_v (am_up h 32 0 (.int (kn + 1))) 32 0 = kn + 1 from rfl))]; omega) (by rw [show rg_v h2389_z 32 0 = kn + 1 from ((rg_v_fr PF (by decide)).trans (show rg_v (am_up h 32 0 (.int (kn + 1))) 32 0 = kn + 1 from rfl))]; omega)) (rx_C_f t5_z) (rx_M_f t6_z)
        have B2 := rp_tk (rz_t23 B FC FM) (rg_v_fr t5_z (by decide)) (fun k => rg_v_fr t6_z (rg_v_in (by decide) k)) (rx_M_f t6_z)
        have FC47 : ab_Fr [(44, 14), (44, 15), (32, 1), (32, 2), (33, 0), (34, 0)] h h2389_z := ab_Fr_trans (ab_Fr_up rfl ab_Fr_refl) (ab_Fr_sub (by decide) PF)
        have FM184 : ab_Fr [(164, 42), (164, 43), (164, 44), (164, 45), (164, 46), (164, 47), (164, 22), (181, 0), (182, 0), (183, 0), (185, 0)] g (am_up h2395_z 164 45 (.int 0)) := ab_Fr_up rfl (ab_Fr_trans (ab_Fr_up rfl ab_Fr_refl) (ab_Fr_sub (by decide) GF))
        have Z2 : rs 23 h2389_z (am_up h2395_z 164 45 (.int 0)) := rs_keep Zk ((show rg_v h2389_z 44 13 = np from ((rg_v_fr PF (by decide)).trans (show rg_v (am_up h 32 0 (.int (kn + 1))) 44 13 = np from z1_z))).trans z1_z.symm) ((show rg_v (am_up h2395_z 164 45 (.int 0)) 164 41 = np from (show rg_v (am_up h2395_z 164 45 (.int 0)) 164 41 = np from ((rg_v_fr GF (by decide)).trans (show rg_v (am_up g 164 44 (.int (kn + 1))) 164 41 = np from z2_z)))).trans z2_z.symm) ((show rg_v h2389_z 44 14 = op from ((rg_v_fr PF (by decide)).trans (show rg_v (am_up h 32 0 (.int (kn + 1))) 44 14 = op from z4_z))).trans z4_z.symm) ((show rg_v (am_up h2395_z 164 45 (.int 0)) 164 43 = op from (show rg_v (am_up h2395_z 164 45 (.int 0)) 164 43 = op from ((rg_v_fr GF (by decide)).trans (show rg_v (am_up g 164 44 (.int (kn + 1))) 164 43 = op from z5_z)))).trans z5_z.symm) (show (rg_v h 32 0).toInt ≤ (rg_v h2389_z 32 0).toInt by rw [(show rg_v h2389_z 32 0 = kn + 1 from ((rg_v_fr PF (by decide)).trans (show rg_v (am_up h 32 0 (.int (kn + 1))) 32 0 = kn + 1 from rfl))), ekn]; omega) (fun k => rg_v_fr FC47 (rg_v_in (by decide) k)) (fun k => rg_v_fr FM184 (rg_v_in (by decide) k))
        replace Z2 := rs_fr (by decide) Z2 t5_z t6_z
        have e45_z : rg_v h2398_z 164 45 = 0 := (rg_v_fr t6_z (by decide)).trans (show rg_v (am_up h2395_z 164 45 (.int 0)) 164 45 = 0 from (show rg_v (am_up h2395_z 164 45 (.int 0)) 164 45 = 0 from rfl))
        have e46_z : rg_v h2398_z 164 46 = 1 := (rg_v_fr t6_z (by decide)).trans (show rg_v (am_up h2395_z 164 45 (.int 0)) 164 46 = 1 from (show rg_v (am_up h2395_z 164 45 (.int 0)) 164 46 = 1 from ((rg_v_fr GF (by decide)).trans (show rg_v (am_up g 164 44 (.int (kn + 1))) 164 46 = 1 from w2_z))))
        replace hm_z : rn _ _ _ _ [] _ _ _ := hm_z
        replace hc_z : rn _ _ _ _ [] _ _ _ := hc_z
        replace hc_z := rn_iconst (w := 2) (am_cur_of (i := (176, 1, .iconst 2, (0, 0, 0), 0)) (by decide +kernel)) (by decide) hc_z
        replace hc_z := rn_iret (am_cur_of (i := (177, 1, .ireturn, (0, 0, 0), 0)) (by decide +kernel)) hc_z
        obtain ⟨e2400_z, e2401_z⟩ := hc_z
        replace hm_z := rn_iconst (w := 1) (am_cur_of (i := (173, 1, .iconst 1, (0, 0, 0), 0)) (by decide +kernel)) (by decide) hm_z
        replace hm_z := rn_iret (am_cur_of (i := (174, 1, .ireturn, (0, 0, 0), 0)) (by decide +kernel)) hm_z
        obtain ⟨e2402_z, e2403_z⟩ := hm_z
        subst e2400_z e2401_z e2402_z e2403_z
        exact Or.inl ⟨_, x2_z, p2_z, rfl, rfl, R2, le2_z, A2, B2, Z2, Or.inr (Or.inr ⟨rfl, e45_z⟩)⟩
  · have g0_z : am_get (lv_args 0 [.ref 44, .int 0]) 0 = some (.ref 44) := rfl
    have g1_z : am_get (lv_args 0 [.ref 44, .int 0]) 1 = some (.int 0) := rfl
    have g0m : am_get (lv_args 0 [.ref 164]) 0 = some (.ref 164) := rfl
    have Rk := R
    have Zk := Z
    obtain ⟨⟨c1_z, c2_z, c3_z, c4_z, c5_z, c6_z, c7_z, c8_z⟩, ⟨m2_z, m3_z, m4_z, m5_z, m6_z, m7_z, m8_z⟩, R3, R4, R5, R6, R7, R8, R9, R10⟩ := (R : rq T S x p 23 h g)
    obtain ⟨np, op, z1_z, z2_z, z3_z, z4_z, z5_z, z6_z, z7_z, z8_z, z9_z, z10_z⟩ := (Z : rs 23 h g)
    obtain ⟨nk1_z, nk2_z, nk3_z⟩ := A.2.2.2.2.2.1
    replace nk1_z : rg_v h 32 0 = rg_v g 164 44 := nk1_z
    replace nk2_z : 0 ≤ (rg_v h 32 0).toInt := nk2_z
    replace nk3_z : (rg_v h 32 0).toInt ≤ 64 := nk3_z
    replace z8_z : np.toInt ≤ (rg_v h 32 0).toInt + op.toInt := z8_z
    obtain ⟨kn, ekn⟩ : ∃ v, rg_v h 32 0 = v := ⟨_, rfl⟩
    rw [ekn] at nk1_z nk2_z nk3_z z8_z
    have e9_z := rt_c1 (x := kn) (by omega) (by omega)
    replace hc_z := rn_aload_n (am_cur_of (i := (0, 1, .aload_n 0, (0, 0, 0), 0)) (by decide +kernel)) g0_z hc_z
    replace hc_z := rn_getI (v := 2) (am_cur_of (i := (1, 3, .getfield 60, (4, 10, 419), 0)) (by decide +kernel)) (by decide +kernel) ka hc_z
    replace hc_z := rn_bipush (w := 6) (am_cur_of (i := (4, 2, .bipush 6, (0, 0, 0), 0)) (by decide +kernel)) (by decide) hc_z
    replace hc_z := rn_cmpT (am_cur_of (i := (6, 3, .if_icmp .ne 30, (19, 0, 0), 0)) (by decide +kernel)) (by decide) hc_z
    replace hc_z := rn_aload_n (am_cur_of (i := (36, 1, .aload_n 0, (0, 0, 0), 0)) (by decide +kernel)) g0_z hc_z
    replace hc_z := rn_bipush (w := 40) (am_cur_of (i := (37, 2, .bipush 40, (0, 0, 0), 0)) (by decide +kernel)) (by decide) hc_z
    replace hc_z := rn_callV (M' := am_m45) (o := 44) (ar := [.int 40]) (rest := []) (L := lv_args 0 [.ref 44, .int 40]) (am_cur_of (i := (39, 3, .invokevirtual 105, (45, 834, 3), 0)) (by decide +kernel)) rfl rfl rfl rfl hc_z
    obtain ⟨r2404_z, h2405_z, q2406_z, hc_z⟩ := hc_z
    obtain ⟨rfl, yq2406_z⟩ := rp_mkN (fun q => absurd (Eq.trans (Eq.symm ka) q.1) (by decide)) q2406_z
    subst yq2406_z
    replace hc_z : rn _ _ _ _ [.int 0] _ _ _ := hc_z
    replace hc_z := rn_ifT (am_cur_of (i := (42, 3, .ifCond .eq 38, (43, 0, 0), 0)) (by decide +kernel)) (by decide) hc_z
    replace hc_z := rn_aload_n (am_cur_of (i := (80, 1, .aload_n 0, (0, 0, 0), 0)) (by decide +kernel)) g0_z hc_z
    replace hc_z := rn_getI (v := 2) (am_cur_of (i := (81, 3, .getfield 60, (4, 10, 419), 0)) (by decide +kernel)) (by decide +kernel) ka hc_z
    replace hc_z := rn_iconst (w := 4) (am_cur_of (i := (84, 1, .iconst 4, (0, 0, 0), 0)) (by decide +kernel)) (by decide) hc_z
    replace hc_z := rn_cmpT (am_cur_of (i := (85, 3, .if_icmp .ne 40, (64, 0, 0), 0)) (by decide +kernel)) (by decide) hc_z
    replace hc_z := rn_aload_n (am_cur_of (i := (125, 1, .aload_n 0, (0, 0, 0), 0)) (by decide +kernel)) g0_z hc_z
    replace hc_z := rn_getI (v := 2) (am_cur_of (i := (126, 3, .getfield 60, (4, 10, 419), 0)) (by decide +kernel)) (by decide +kernel) ka hc_z
    replace hc_z := rn_iconst (w := 2) (am_cur_of (i := (129, 1, .iconst 2, (0, 0, 0), 0)) (by decide +kernel)) (by decide) hc_z
    replace hc_z := rn_cmpF (am_cur_of (i := (130, 3, .if_icmp .ne 37, (84, 0, 0), 0)) (by decide +kernel)) (by decide) hc_z
    replace hc_z := rn_aload_n (am_cur_of (i := (133, 1, .aload_n 0, (0, 0, 0), 0)) (by decide +kernel)) g0_z hc_z
    replace hc_z := rn_getI (v := 14) (am_cur_of (i := (134, 3, .getfield 91, (4, 11, 420), 0)) (by decide +kernel)) (by decide +kernel) kb hc_z
    replace hc_z := rn_bipush (w := 11) (am_cur_of (i := (137, 2, .bipush 11, (0, 0, 0), 0)) (by decide +kernel)) (by decide) hc_z
    replace hc_z := rn_cmpF (am_cur_of (i := (139, 3, .if_icmp .lt 28, (84, 0, 0), 0)) (by decide +kernel)) (by decide) hc_z
    replace hc_z := rn_aload_n (am_cur_of (i := (142, 1, .aload_n 0, (0, 0, 0), 0)) (by decide +kernel)) g0_z hc_z
    replace hc_z := rn_callV (M' := am_m49) (o := 44) (ar := []) (rest := []) (L := lv_args 0 [.ref 44]) (am_cur_of (i := (143, 3, .invokevirtual 270, (49, 852, 3), 0)) (by decide +kernel)) rfl rfl rfl rfl hc_z
    obtain ⟨r2407_z, h2408_z, q2409_z, hc_z⟩ := hc_z
    rcases rs_ck23 R4 (show h 44 6 = .ref 23 from R3) q2409_z with ⟨ge, rfl, eh⟩ | ⟨lt, rfl, eh⟩
    · subst eh
      replace ge : 64 ≤ kn.toInt := by rw [← ekn]; exact ge
      replace hc_z : rn _ _ _ _ [] _ _ _ := hc_z
      have K := rs_stick (w := 2) (q := p) (a := 51) (by decide) (by decide) rfl (by decide) rfl (show rg_v (am_up (am_up h 44 1 (.int 2)) 44 2 (.int (rg_v h 44 9))) 44 2 = p from R5) hc_z
      replace hm_z := rn_aload_n (am_cur_of (i := (0, 1, .aload_n 0, (0, 0, 0), 0)) (by decide +kernel)) g0m hm_z
      replace hm_z := rn_bipush (w := 40) (am_cur_of (i := (1, 2, .bipush 40, (0, 0, 0), 0)) (by decide +kernel)) (by decide) hm_z
      replace hm_z := rn_callV (M' := am_m171) (o := 164) (ar := [.int 40]) (rest := []) (L := lv_args 0 [.ref 164, .int 40]) (am_cur_of (i := (3, 3, .invokevirtual 194, (171, 1715, 3), 0)) (by decide +kernel)) rfl rfl rfl rfl hm_z
      obtain ⟨r2410_z, h2411_z, q2412_z, hm_z⟩ := hm_z
      obtain ⟨rfl, yq2412_z⟩ := rp_sgN (fun q => absurd (Eq.trans (Eq.symm kc) q.1) (by decide)) q2412_z
      subst yq2412_z
      replace hm_z : rn _ _ _ _ [.int 0] _ _ _ := hm_z
      replace hm_z := rn_ifT (am_cur_of (i := (6, 3, .ifCond .eq 44, (28, 0, 0), 0)) (by decide +kernel)) (by decide) hm_z
      replace hm_z := rn_aload_n (am_cur_of (i := (50, 1, .aload_n 0, (0, 0, 0), 0)) (by decide +kernel)) g0m hm_z
      replace hm_z := rn_bipush (w := 14) (am_cur_of (i := (51, 2, .bipush 14, (0, 0, 0), 0)) (by decide +kernel)) (by decide) hm_z
      replace hm_z := rn_callV (M' := am_m174) (o := 164) (ar := [.int 14]) (rest := []) (L := lv_args 0 [.ref 164, .int 14]) (am_cur_of (i := (53, 3, .invokevirtual 306, (174, 1727, 3), 0)) (by decide +kernel)) rfl rfl rfl rfl hm_z
      obtain ⟨r2413_z, h2414_z, q2415_z, hm_z⟩ := hm_z
      obtain ⟨rfl, yq2415_z⟩ := rp_kyN (fun q => absurd (Eq.trans (Eq.symm kd) q.2) (by decide)) q2415_z
      subst yq2415_z
      replace hm_z : rn _ _ _ _ [.int 0] _ _ _ := hm_z
      replace hm_z := rn_ifT (am_cur_of (i := (56, 3, .ifCond .eq 30, (47, 0, 0), 0)) (by decide +kernel)) (by decide) hm_z
      replace hm_z := rn_aload_n (am_cur_of (i := (86, 1, .aload_n 0, (0, 0, 0), 0)) (by decide +kernel)) g0m hm_z
      replace hm_z := rn_callV (M' := am_m176) (o := 164) (ar := []) (rest := []) (L := lv_args 0 [.ref 164]) (am_cur_of (i := (87, 3, .invokevirtual 312, (176, 1735, 3), 0)) (by decide +kernel)) rfl rfl rfl rfl hm_z
      obtain ⟨r2416_z, h2417_z, q2418_z, hm_z⟩ := hm_z
      obtain ⟨rfl, yq2418_z⟩ := rp_nm (c := 1) (d := 17) kc kd q2418_z
      replace yq2418_z := yq2418_z.symm
      subst yq2418_z
      rw [show rp_nmf 1 17 = 2 from by decide] at hm_z
      replace hm_z : rn _ _ _ _ [.int 2] _ _ _ := hm_z
      replace hm_z := rn_istore_n (am_cur_of (i := (90, 1, .istore_n 1, (0, 0, 0), 0)) (by decide +kernel)) hm_z
      obtain ⟨_, s2419_z, s2420_z, g1m, hm_z⟩ := hm_z
      replace g0m := s2419_z 0 _ (by decide) rfl g0m
      clear s2419_z s2420_z
      replace hm_z := rn_iload_n (am_cur_of (i := (91, 1, .iload_n 1, (0, 0, 0), 0)) (by decide +kernel)) g1m hm_z
      replace hm_z := rn_ifT (am_cur_of (i := (92, 3, .ifCond .ge 17, (60, 0, 0), 0)) (by decide +kernel)) (by decide) hm_z
      replace hm_z := rn_iload_n (am_cur_of (i := (109, 1, .iload_n 1, (0, 0, 0), 0)) (by decide +kernel)) g1m hm_z
      replace hm_z := rn_ifT (am_cur_of (i := (110, 3, .ifCond .ge 19, (70, 0, 0), 0)) (by decide +kernel)) (by decide) hm_z
      replace hm_z := rn_aload_n (am_cur_of (i := (129, 1, .aload_n 0, (0, 0, 0), 0)) (by decide +kernel)) g0m hm_z
      replace hm_z := rn_callV (M' := am_m175) (o := 164) (ar := []) (rest := []) (L := lv_args 0 [.ref 164]) (am_cur_of (i := (130, 3, .invokevirtual 309, (175, 1731, 3), 0)) (by decide +kernel)) rfl rfl rfl rfl hm_z
      obtain ⟨r2421_z, h2422_z, q2423_z, hm_z⟩ := hm_z
      rcases rs_ic q2423_z with ⟨i1_z, rfl, i3_z⟩ | ⟨i1_z, -⟩
      · subst i3_z
        replace hm_z : rn _ _ _ _ [.int 0] _ _ _ := hm_z
        replace hm_z := rn_ifF (am_cur_of (i := (133, 3, .ifCond .ne 5, (75, 0, 0), 0)) (by decide +kernel)) (by decide) hm_z
        replace hm_z := rn_iconst (w := 0) (am_cur_of (i := (136, 1, .iconst 0, (0, 0, 0), 0)) (by decide +kernel)) (by decide) hm_z
        replace hm_z := rn_iret (am_cur_of (i := (137, 1, .ireturn, (0, 0, 0), 0)) (by decide +kernel)) hm_z
        obtain ⟨e2424_z, e2425_z⟩ := hm_z
        subst e2424_z e2425_z
        exact (Or.inr ⟨rfl, 2, by decide, K.1, K.2, rfl, R6⟩)
      · exact absurd (Int32.toInt_inj.mp (show (rg_v g 164 44).toInt = (64 : Int32).toInt from by rw [show rg_v g 164 44 = kn from nk1_z.symm, show (64 : Int32).toInt = 64 by decide]; omega)) i1_z
    · subst eh
      replace lt : kn.toInt < 64 := by rw [← ekn]; exact lt
      rw [show rg_v h 32 0 = kn from ekn] at hc_z
      replace hm_z := rn_aload_n (am_cur_of (i := (0, 1, .aload_n 0, (0, 0, 0), 0)) (by decide +kernel)) g0m hm_z
      replace hm_z := rn_bipush (w := 40) (am_cur_of (i := (1, 2, .bipush 40, (0, 0, 0), 0)) (by decide +kernel)) (by decide) hm_z
      replace hm_z := rn_callV (M' := am_m171) (o := 164) (ar := [.int 40]) (rest := []) (L := lv_args 0 [.ref 164, .int 40]) (am_cur_of (i := (3, 3, .invokevirtual 194, (171, 1715, 3), 0)) (by decide +kernel)) rfl rfl rfl rfl hm_z
      obtain ⟨r2426_z, h2427_z, q2428_z, hm_z⟩ := hm_z
      obtain ⟨rfl, yq2428_z⟩ := rp_sgN (fun q => absurd (Eq.trans (Eq.symm kc) q.1) (by decide)) q2428_z
      subst yq2428_z
      replace hm_z : rn _ _ _ _ [.int 0] _ _ _ := hm_z
      replace hm_z := rn_ifT (am_cur_of (i := (6, 3, .ifCond .eq 44, (28, 0, 0), 0)) (by decide +kernel)) (by decide) hm_z
      replace hm_z := rn_aload_n (am_cur_of (i := (50, 1, .aload_n 0, (0, 0, 0), 0)) (by decide +kernel)) g0m hm_z
      replace hm_z := rn_bipush (w := 14) (am_cur_of (i := (51, 2, .bipush 14, (0, 0, 0), 0)) (by decide +kernel)) (by decide) hm_z
      replace hm_z := rn_callV (M' := am_m174) (o := 164) (ar := [.int 14]) (rest := []) (L := lv_args 0 [.ref 164, .int 14]) (am_cur_of (i := (53, 3, .invokevirtual 306, (174, 1727, 3), 0)) (by decide +kernel)) rfl rfl rfl rfl hm_z
      obtain ⟨r2429_z, h2430_z, q2431_z, hm_z⟩ := hm_z
      obtain ⟨rfl, yq2431_z⟩ := rp_kyN (fun q => absurd (Eq.trans (Eq.symm kd) q.2) (by decide)) q2431_z
      subst yq2431_z
      replace hm_z : rn _ _ _ _ [.int 0] _ _ _ := hm_z
      replace hm_z := rn_ifT (am_cur_of (i := (56, 3, .ifCond .eq 30, (47, 0, 0), 0)) (by decide +kernel)) (by decide) hm_z
      replace hm_z := rn_aload_n (am_cur_of (i := (86, 1, .aload_n 0, (0, 0, 0), 0)) (by decide +kernel)) g0m hm_z
      replace hm_z := rn_callV (M' := am_m176) (o := 164) (ar := []) (rest := []) (L := lv_args 0 [.ref 164]) (am_cur_of (i := (87, 3, .invokevirtual 312, (176, 1735, 3), 0)) (by decide +kernel)) rfl rfl rfl rfl hm_z
      obtain ⟨r2432_z, h2433_z, q2434_z, hm_z⟩ := hm_z
      obtain ⟨rfl, yq2434_z⟩ := rp_nm (c := 1) (d := 17) kc kd q2434_z
      replace yq2434_z := yq2434_z.symm
      subst yq2434_z
      rw [show rp_nmf 1 17 = 2 from by decide] at hm_z
      replace hm_z : rn _ _ _ _ [.int 2] _ _ _ := hm_z
      replace hm_z := rn_istore_n (am_cur_of (i := (90, 1, .istore_n 1, (0, 0, 0), 0)) (by decide +kernel)) hm_z
      obtain ⟨_, s2435_z, s2436_z, g1m, hm_z⟩ := hm_z
      replace g0m := s2435_z 0 _ (by decide) rfl g0m
      clear s2435_z s2436_z
      replace hm_z := rn_iload_n (am_cur_of (i := (91, 1, .iload_n 1, (0, 0, 0), 0)) (by decide +kernel)) g1m hm_z
      replace hm_z := rn_ifT (am_cur_of (i := (92, 3, .ifCond .ge 17, (60, 0, 0), 0)) (by decide +kernel)) (by decide) hm_z
      replace hm_z := rn_iload_n (am_cur_of (i := (109, 1, .iload_n 1, (0, 0, 0), 0)) (by decide +kernel)) g1m hm_z
      replace hm_z := rn_ifT (am_cur_of (i := (110, 3, .ifCond .ge 19, (70, 0, 0), 0)) (by decide +kernel)) (by decide) hm_z
      replace hm_z := rn_aload_n (am_cur_of (i := (129, 1, .aload_n 0, (0, 0, 0), 0)) (by decide +kernel)) g0m hm_z
      replace hm_z := rn_callV (M' := am_m175) (o := 164) (ar := []) (rest := []) (L := lv_args 0 [.ref 164]) (am_cur_of (i := (130, 3, .invokevirtual 309, (175, 1731, 3), 0)) (by decide +kernel)) rfl rfl rfl rfl hm_z
      obtain ⟨r2437_z, h2438_z, q2439_z, hm_z⟩ := hm_z
      rcases rs_ic q2439_z with ⟨i1_z, -⟩ | ⟨i1_z, rfl, i3_z⟩
      · exfalso
        have zz := congrArg Int32.toInt i1_z
        rw [show rg_v g 164 44 = kn from nk1_z.symm, show (64 : Int32).toInt = 64 by decide] at zz
        omega
      · subst i3_z
        rw [show rg_v g 164 44 = kn from nk1_z.symm] at hm_z
        replace hm_z : rn _ _ _ _ [.int 1] _ _ _ := hm_z
        replace hc_z : rn _ _ _ _ [] _ _ _ := hc_z
        replace hc_z := rn_aload_n (am_cur_of (i := (146, 1, .aload_n 0, (0, 0, 0), 0)) (by decide +kernel)) g0_z hc_z
        replace hc_z := rn_getM (x := 23) (am_cur_of (i := (147, 3, .getfield 25, (4, 6, 415), 0)) (by decide +kernel)) (show (am_up h 32 0 (.int (kn + 1))) 44 6 = .ref 23 from R3) hc_z
        replace hc_z := rn_getR (x := 32) (am_cur_of (i := (150, 3, .getfield 242, (1, 19, 316), 0)) (by decide +kernel)) (by decide +kernel) hc_z
        replace hc_z := rn_iconst (w := 1) (am_cur_of (i := (153, 1, .iconst 1, (0, 0, 0), 0)) (by decide +kernel)) (by decide) hc_z
        replace hc_z := rn_aload_n (am_cur_of (i := (154, 1, .aload_n 0, (0, 0, 0), 0)) (by decide +kernel)) g0_z hc_z
        replace hc_z := rn_getI (v := 14) (am_cur_of (i := (155, 3, .getfield 91, (4, 11, 420), 0)) (by decide +kernel)) (by decide +kernel) (show rg_v (am_up h 32 0 (.int (kn + 1))) 44 11 = 14 from kb) hc_z
        replace hc_z := rn_bipush (w := 11) (am_cur_of (i := (158, 2, .bipush 11, (0, 0, 0), 0)) (by decide +kernel)) (by decide) hc_z
        replace hc_z := rn_isub (w := 3) (am_cur_of (i := (160, 1, .isub, (0, 0, 0), 0)) (by decide +kernel)) (by decide) hc_z
        replace hc_z := rn_callV (M' := am_m48) (o := 32) (ar := [.int 3, .int 1]) (rest := []) (L := lv_args 0 [.ref 32, .int 1, .int 3]) (am_cur_of (i := (161, 3, .invokevirtual 276, (48, 845, 3), 0)) (by decide +kernel)) rfl rfl rfl rfl hc_z
        obtain ⟨r2440_z, h2441_z, q2442_z, hc_z⟩ := hc_z
        obtain ⟨rfl, PF⟩ := rs_put23 q2442_z
        replace hc_z : rn _ _ _ _ [] _ _ _ := hc_z
        replace hc_z := rn_goto (am_cur_of (i := (164, 3, .goto 8, (87, 0, 0), 0)) (by decide +kernel)) hc_z
        replace hc_z := rn_aload_n (am_cur_of (i := (172, 1, .aload_n 0, (0, 0, 0), 0)) (by decide +kernel)) g0_z hc_z
        replace hc_z := rn_callV (M' := am_m19) (o := 44) (ar := []) (rest := []) (L := lv_args 0 [.ref 44]) (am_cur_of (i := (173, 3, .invokevirtual 57, (19, 727, 3), 0)) (by decide +kernel)) rfl rfl rfl rfl hc_z
        obtain ⟨r2443_z, h2444_z, q2445_z, hc_z⟩ := hc_z
        have vo := rn_void rfl q2445_z
        subst vo
        replace hm_z := rn_ifT (am_cur_of (i := (133, 3, .ifCond .ne 5, (75, 0, 0), 0)) (by decide +kernel)) (by decide) hm_z
        replace hm_z := rn_aload_n (am_cur_of (i := (138, 1, .aload_n 0, (0, 0, 0), 0)) (by decide +kernel)) g0m hm_z
        replace hm_z := rn_iload_n (am_cur_of (i := (139, 1, .iload_n 1, (0, 0, 0), 0)) (by decide +kernel)) g1m hm_z
        replace hm_z := rn_ifF (am_cur_of (i := (140, 3, .ifCond .lt 7, (80, 0, 0), 0)) (by decide +kernel)) (by decide) hm_z
        replace hm_z := rn_iconst (w := 1) (am_cur_of (i := (143, 1, .iconst 1, (0, 0, 0), 0)) (by decide +kernel)) (by decide) hm_z
        replace hm_z := rn_goto (am_cur_of (i := (144, 3, .goto 4, (81, 0, 0), 0)) (by decide +kernel)) hm_z
        replace hm_z := rn_iload_n (am_cur_of (i := (148, 1, .iload_n 1, (0, 0, 0), 0)) (by decide +kernel)) g1m hm_z
        replace hm_z := rn_ifF (am_cur_of (i := (149, 3, .ifCond .lt 7, (85, 0, 0), 0)) (by decide +kernel)) (by decide) hm_z
        replace hm_z := rn_iload_n (am_cur_of (i := (152, 1, .iload_n 1, (0, 0, 0), 0)) (by decide +kernel)) g1m hm_z
        replace hm_z := rn_goto (am_cur_of (i := (153, 3, .goto 7, (87, 0, 0), 0)) (by decide +kernel)) hm_z
        replace hm_z := rn_iconst (w := 0) (am_cur_of (i := (160, 1, .iconst 0, (0, 0, 0), 0)) (by decide +kernel)) (by decide) hm_z
        replace hm_z := rn_callV (M' := am_m177) (o := 164) (ar := [.int 0, .int 2, .int 1]) (rest := []) (L := lv_args 0 [.ref 164, .int 1, .int 2, .int 0]) (am_cur_of (i := (161, 3, .invokevirtual 291, (177, 1739, 3), 0)) (by decide +kernel)) rfl rfl rfl rfl hm_z
        obtain ⟨r2446_z, h2447_z, q2448_z, hm_z⟩ := hm_z
        obtain ⟨rfl, GF⟩ := rs_grown q2448_z
        replace hm_z : rn _ _ _ _ [] _ _ _ := hm_z
        replace hm_z := rn_aload_n (am_cur_of (i := (164, 1, .aload_n 0, (0, 0, 0), 0)) (by decide +kernel)) g0m hm_z
        replace hm_z := rn_iconst (w := 0) (am_cur_of (i := (165, 1, .iconst 0, (0, 0, 0), 0)) (by decide +kernel)) (by decide) hm_z
        replace hm_z := rn_put (am_cur_of (i := (166, 3, .putfield 315, (12, 45, 1429), 0)) (by decide +kernel)) (by decide +kernel) hm_z
        replace hm_z := rn_aload_n (am_cur_of (i := (169, 1, .aload_n 0, (0, 0, 0), 0)) (by decide +kernel)) g0m hm_z
        replace hm_z := rn_callV (M' := am_m151) (o := 164) (ar := []) (rest := []) (L := lv_args 0 [.ref 164]) (am_cur_of (i := (170, 3, .invokevirtual 191, (151, 1636, 3), 0)) (by decide +kernel)) rfl rfl rfl rfl hm_z
        obtain ⟨r2449_z, h2450_z, q2451_z, hm_z⟩ := hm_z
        have vo := rn_void rfl q2451_z
        subst vo
        have FC : ab_Fr (rz_MC23.drop 1) h h2441_z := ab_Fr_trans (ab_Fr_up rfl ab_Fr_refl) (ab_Fr_sub (by decide) PF)
        have FC' : ab_Fr rz_MC23 h h2441_z := ab_Fr_sub (by decide) FC
        have FM : ab_Fr rz_MM g (am_up h2447_z 164 45 (.int 0)) := ab_Fr_up rfl (ab_Fr_trans (ab_Fr_up rfl ab_Fr_refl) (ab_Fr_sub (by decide) GF))
        obtain ⟨-, -, x2_z, p2_z, R2, le2_z, t5_z, t6_z⟩ := pr_tok (rz_q023 (rq_0 Rk) FC' FM) q2445_z q2451_z
        have A2 := rp_x (by decide) (rz_p23 A FC' FM ((show rg_v h2441_z 32 0 = kn + 1 from ((rg_v_fr PF (by decide)).trans (show rg_v (am_up h 32 0 (.int (kn + 1))) 32 0 = kn + 1 from rfl))).trans (show rg_v (am_up h2447_z 164 45 (.int 0)) 164 44 = kn + 1 from (show rg_v (am_up h2447_z 164 45 (.int 0)) 164 44 = kn + 1 from ((rg_v_fr GF (by decide)).trans (show rg_v (am_up g 164 44 (.int (kn + 1))) 164 44 = kn + 1 from rfl)))).symm) (by rw [show rg_v h2441_z 32 0 = kn + 1 from ((rg_v_fr PF (by decide)).trans (show rg_v (am_up h 32 0 (.int (kn + 1))) 32 0 = kn + 1 from rfl))]; omega) (by rw [show rg_v h2441_z 32 0 = kn + 1 from ((rg_v_fr PF (by decide)).trans (show rg_v (am_up h 32 0 (.int (kn + 1))) 32 0 = kn + 1 from rfl))]; omega)) (rx_C_f t5_z) (rx_M_f t6_z)
        have B2 := rp_tk (rz_t23 B FC FM) (rg_v_fr t5_z (by decide)) (fun k => rg_v_fr t6_z (rg_v_in (by decide) k)) (rx_M_f t6_z)
        have FC47 : ab_Fr [(44, 14), (44, 15), (32, 1), (32, 2), (33, 0), (34, 0)] h h2441_z := ab_Fr_trans (ab_Fr_up rfl ab_Fr_refl) (ab_Fr_sub (by decide) PF)
        have FM184 : ab_Fr [(164, 42), (164, 43), (164, 44), (164, 45), (164, 46), (164, 47), (164, 22), (181, 0), (182, 0), (183, 0), (185, 0)] g (am_up h2447_z 164 45 (.int 0)) := ab_Fr_up rfl (ab_Fr_trans (ab_Fr_up rfl ab_Fr_refl) (ab_Fr_sub (by decide) GF))
        have Z2 : rs 23 h2441_z (am_up h2447_z 164 45 (.int 0)) := rs_keep Zk ((show rg_v h2441_z 44 13 = np from ((rg_v_fr PF (by decide)).trans (show rg_v (am_up h 32 0 (.int (kn + 1))) 44 13 = np from z1_z))).trans z1_z.symm) ((show rg_v (am_up h2447_z 164 45 (.int 0)) 164 41 = np from (show rg_v (am_up h2447_z 164 45 (.int 0)) 164 41 = np from ((rg_v_fr GF (by decide)).trans (show rg_v (am_up g 164 44 (.int (kn + 1))) 164 41 = np from z2_z)))).trans z2_z.symm) ((show rg_v h2441_z 44 14 = op from ((rg_v_fr PF (by decide)).trans (show rg_v (am_up h 32 0 (.int (kn + 1))) 44 14 = op from z4_z))).trans z4_z.symm) ((show rg_v (am_up h2447_z 164 45 (.int 0)) 164 43 = op from (show rg_v (am_up h2447_z 164 45 (.int 0)) 164 43 = op from ((rg_v_fr GF (by decide)).trans (show rg_v (am_up g 164 44 (.int (kn + 1))) 164 43 = op from z5_z)))).trans z5_z.symm) (show (rg_v h 32 0).toInt ≤ (rg_v h2441_z 32 0).toInt by rw [(show rg_v h2441_z 32 0 = kn + 1 from ((rg_v_fr PF (by decide)).trans (show rg_v (am_up h 32 0 (.int (kn + 1))) 32 0 = kn + 1 from rfl))), ekn]; omega) (fun k => rg_v_fr FC47 (rg_v_in (by decide) k)) (fun k => rg_v_fr FM184 (rg_v_in (by decide) k))
        replace Z2 := rs_fr (by decide) Z2 t5_z t6_z
        have e45_z : rg_v h2450_z 164 45 = 0 := (rg_v_fr t6_z (by decide)).trans (show rg_v (am_up h2447_z 164 45 (.int 0)) 164 45 = 0 from (show rg_v (am_up h2447_z 164 45 (.int 0)) 164 45 = 0 from rfl))
        have e46_z : rg_v h2450_z 164 46 = 1 := (rg_v_fr t6_z (by decide)).trans (show rg_v (am_up h2447_z 164 45 (.int 0)) 164 46 = 1 from (show rg_v (am_up h2447_z 164 45 (.int 0)) 164 46 = 1 from ((rg_v_fr GF (by decide)).trans (show rg_v (am_up g 164 44 (.int (kn + 1))) 164 46 = 1 from w2_z))))
        replace hm_z : rn _ _ _ _ [] _ _ _ := hm_z
        replace hc_z : rn _ _ _ _ [] _ _ _ := hc_z
        replace hc_z := rn_iconst (w := 2) (am_cur_of (i := (176, 1, .iconst 2, (0, 0, 0), 0)) (by decide +kernel)) (by decide) hc_z
        replace hc_z := rn_iret (am_cur_of (i := (177, 1, .ireturn, (0, 0, 0), 0)) (by decide +kernel)) hc_z
        obtain ⟨e2452_z, e2453_z⟩ := hc_z
        replace hm_z := rn_iconst (w := 1) (am_cur_of (i := (173, 1, .iconst 1, (0, 0, 0), 0)) (by decide +kernel)) (by decide) hm_z
        replace hm_z := rn_iret (am_cur_of (i := (174, 1, .ireturn, (0, 0, 0), 0)) (by decide +kernel)) hm_z
        obtain ⟨e2454_z, e2455_z⟩ := hm_z
        subst e2452_z e2453_z e2454_z e2455_z
        exact Or.inl ⟨_, x2_z, p2_z, rfl, rfl, R2, le2_z, A2, B2, Z2, Or.inr (Or.inr ⟨rfl, e45_z⟩)⟩
  · have g0_z : am_get (lv_args 0 [.ref 44, .int 0]) 0 = some (.ref 44) := rfl
    have g1_z : am_get (lv_args 0 [.ref 44, .int 0]) 1 = some (.int 0) := rfl
    have g0m : am_get (lv_args 0 [.ref 164]) 0 = some (.ref 164) := rfl
    have Rk := R
    have Zk := Z
    obtain ⟨⟨c1_z, c2_z, c3_z, c4_z, c5_z, c6_z, c7_z, c8_z⟩, ⟨m2_z, m3_z, m4_z, m5_z, m6_z, m7_z, m8_z⟩, R3, R4, R5, R6, R7, R8, R9, R10⟩ := (R : rq T S x p 23 h g)
    obtain ⟨np, op, z1_z, z2_z, z3_z, z4_z, z5_z, z6_z, z7_z, z8_z, z9_z, z10_z⟩ := (Z : rs 23 h g)
    obtain ⟨nk1_z, nk2_z, nk3_z⟩ := A.2.2.2.2.2.1
    replace nk1_z : rg_v h 32 0 = rg_v g 164 44 := nk1_z
    replace nk2_z : 0 ≤ (rg_v h 32 0).toInt := nk2_z
    replace nk3_z : (rg_v h 32 0).toInt ≤ 64 := nk3_z
    replace z8_z : np.toInt ≤ (rg_v h 32 0).toInt + op.toInt := z8_z
    obtain ⟨kn, ekn⟩ : ∃ v, rg_v h 32 0 = v := ⟨_, rfl⟩
    rw [ekn] at nk1_z nk2_z nk3_z z8_z
    have e9_z := rt_c1 (x := kn) (by omega) (by omega)
    replace hc_z := rn_aload_n (am_cur_of (i := (0, 1, .aload_n 0, (0, 0, 0), 0)) (by decide +kernel)) g0_z hc_z
    replace hc_z := rn_getI (v := 2) (am_cur_of (i := (1, 3, .getfield 60, (4, 10, 419), 0)) (by decide +kernel)) (by decide +kernel) ka hc_z
    replace hc_z := rn_bipush (w := 6) (am_cur_of (i := (4, 2, .bipush 6, (0, 0, 0), 0)) (by decide +kernel)) (by decide) hc_z
    replace hc_z := rn_cmpT (am_cur_of (i := (6, 3, .if_icmp .ne 30, (19, 0, 0), 0)) (by decide +kernel)) (by decide) hc_z
    replace hc_z := rn_aload_n (am_cur_of (i := (36, 1, .aload_n 0, (0, 0, 0), 0)) (by decide +kernel)) g0_z hc_z
    replace hc_z := rn_bipush (w := 40) (am_cur_of (i := (37, 2, .bipush 40, (0, 0, 0), 0)) (by decide +kernel)) (by decide) hc_z
    replace hc_z := rn_callV (M' := am_m45) (o := 44) (ar := [.int 40]) (rest := []) (L := lv_args 0 [.ref 44, .int 40]) (am_cur_of (i := (39, 3, .invokevirtual 105, (45, 834, 3), 0)) (by decide +kernel)) rfl rfl rfl rfl hc_z
    obtain ⟨r2456_z, h2457_z, q2458_z, hc_z⟩ := hc_z
    obtain ⟨rfl, yq2458_z⟩ := rp_mkN (fun q => absurd (Eq.trans (Eq.symm ka) q.1) (by decide)) q2458_z
    subst yq2458_z
    replace hc_z : rn _ _ _ _ [.int 0] _ _ _ := hc_z
    replace hc_z := rn_ifT (am_cur_of (i := (42, 3, .ifCond .eq 38, (43, 0, 0), 0)) (by decide +kernel)) (by decide) hc_z
    replace hc_z := rn_aload_n (am_cur_of (i := (80, 1, .aload_n 0, (0, 0, 0), 0)) (by decide +kernel)) g0_z hc_z
    replace hc_z := rn_getI (v := 2) (am_cur_of (i := (81, 3, .getfield 60, (4, 10, 419), 0)) (by decide +kernel)) (by decide +kernel) ka hc_z
    replace hc_z := rn_iconst (w := 4) (am_cur_of (i := (84, 1, .iconst 4, (0, 0, 0), 0)) (by decide +kernel)) (by decide) hc_z
    replace hc_z := rn_cmpT (am_cur_of (i := (85, 3, .if_icmp .ne 40, (64, 0, 0), 0)) (by decide +kernel)) (by decide) hc_z
    replace hc_z := rn_aload_n (am_cur_of (i := (125, 1, .aload_n 0, (0, 0, 0), 0)) (by decide +kernel)) g0_z hc_z
    replace hc_z := rn_getI (v := 2) (am_cur_of (i := (126, 3, .getfield 60, (4, 10, 419), 0)) (by decide +kernel)) (by decide +kernel) ka hc_z
    replace hc_z := rn_iconst (w := 2) (am_cur_of (i := (129, 1, .iconst 2, (0, 0, 0), 0)) (by decide +kernel)) (by decide) hc_z
    replace hc_z := rn_cmpF (am_cur_of (i := (130, 3, .if_icmp .ne 37, (84, 0, 0), 0)) (by decide +kernel)) (by decide) hc_z
    replace hc_z := rn_aload_n (am_cur_of (i := (133, 1, .aload_n 0, (0, 0, 0), 0)) (by decide +kernel)) g0_z hc_z
    replace hc_z := rn_getI (v := 15) (am_cur_of (i := (134, 3, .getfield 91, (4, 11, 420), 0)) (by decide +kernel)) (by decide +kernel) kb hc_z
    replace hc_z := rn_bipush (w := 11) (am_cur_of (i := (137, 2, .bipush 11, (0, 0, 0), 0)) (by decide +kernel)) (by decide) hc_z
    replace hc_z := rn_cmpF (am_cur_of (i := (139, 3, .if_icmp .lt 28, (84, 0, 0), 0)) (by decide +kernel)) (by decide) hc_z
    replace hc_z := rn_aload_n (am_cur_of (i := (142, 1, .aload_n 0, (0, 0, 0), 0)) (by decide +kernel)) g0_z hc_z
    replace hc_z := rn_callV (M' := am_m49) (o := 44) (ar := []) (rest := []) (L := lv_args 0 [.ref 44]) (am_cur_of (i := (143, 3, .invokevirtual 270, (49, 852, 3), 0)) (by decide +kernel)) rfl rfl rfl rfl hc_z
    obtain ⟨r2459_z, h2460_z, q2461_z, hc_z⟩ := hc_z
    rcases rs_ck23 R4 (show h 44 6 = .ref 23 from R3) q2461_z with ⟨ge, rfl, eh⟩ | ⟨lt, rfl, eh⟩
    · subst eh
      replace ge : 64 ≤ kn.toInt := by rw [← ekn]; exact ge
      replace hc_z : rn _ _ _ _ [] _ _ _ := hc_z
      have K := rs_stick (w := 2) (q := p) (a := 51) (by decide) (by decide) rfl (by decide) rfl (show rg_v (am_up (am_up h 44 1 (.int 2)) 44 2 (.int (rg_v h 44 9))) 44 2 = p from R5) hc_z
      replace hm_z := rn_aload_n (am_cur_of (i := (0, 1, .aload_n 0, (0, 0, 0), 0)) (by decide +kernel)) g0m hm_z
      replace hm_z := rn_bipush (w := 40) (am_cur_of (i := (1, 2, .bipush 40, (0, 0, 0), 0)) (by decide +kernel)) (by decide) hm_z
      replace hm_z := rn_callV (M' := am_m171) (o := 164) (ar := [.int 40]) (rest := []) (L := lv_args 0 [.ref 164, .int 40]) (am_cur_of (i := (3, 3, .invokevirtual 194, (171, 1715, 3), 0)) (by decide +kernel)) rfl rfl rfl rfl hm_z
      obtain ⟨r2462_z, h2463_z, q2464_z, hm_z⟩ := hm_z
      obtain ⟨rfl, yq2464_z⟩ := rp_sgN (fun q => absurd (Eq.trans (Eq.symm kc) q.1) (by decide)) q2464_z
      subst yq2464_z
      replace hm_z : rn _ _ _ _ [.int 0] _ _ _ := hm_z
      replace hm_z := rn_ifT (am_cur_of (i := (6, 3, .ifCond .eq 44, (28, 0, 0), 0)) (by decide +kernel)) (by decide) hm_z
      replace hm_z := rn_aload_n (am_cur_of (i := (50, 1, .aload_n 0, (0, 0, 0), 0)) (by decide +kernel)) g0m hm_z
      replace hm_z := rn_bipush (w := 14) (am_cur_of (i := (51, 2, .bipush 14, (0, 0, 0), 0)) (by decide +kernel)) (by decide) hm_z
      replace hm_z := rn_callV (M' := am_m174) (o := 164) (ar := [.int 14]) (rest := []) (L := lv_args 0 [.ref 164, .int 14]) (am_cur_of (i := (53, 3, .invokevirtual 306, (174, 1727, 3), 0)) (by decide +kernel)) rfl rfl rfl rfl hm_z
      obtain ⟨r2465_z, h2466_z, q2467_z, hm_z⟩ := hm_z
      obtain ⟨rfl, yq2467_z⟩ := rp_kyN (fun q => absurd (Eq.trans (Eq.symm kd) q.2) (by decide)) q2467_z
      subst yq2467_z
      replace hm_z : rn _ _ _ _ [.int 0] _ _ _ := hm_z
      replace hm_z := rn_ifT (am_cur_of (i := (56, 3, .ifCond .eq 30, (47, 0, 0), 0)) (by decide +kernel)) (by decide) hm_z
      replace hm_z := rn_aload_n (am_cur_of (i := (86, 1, .aload_n 0, (0, 0, 0), 0)) (by decide +kernel)) g0m hm_z
      replace hm_z := rn_callV (M' := am_m176) (o := 164) (ar := []) (rest := []) (L := lv_args 0 [.ref 164]) (am_cur_of (i := (87, 3, .invokevirtual 312, (176, 1735, 3), 0)) (by decide +kernel)) rfl rfl rfl rfl hm_z
      obtain ⟨r2468_z, h2469_z, q2470_z, hm_z⟩ := hm_z
      obtain ⟨rfl, yq2470_z⟩ := rp_nm (c := 1) (d := 18) kc kd q2470_z
      replace yq2470_z := yq2470_z.symm
      subst yq2470_z
      rw [show rp_nmf 1 18 = 4 from by decide] at hm_z
      replace hm_z : rn _ _ _ _ [.int 4] _ _ _ := hm_z
      replace hm_z := rn_istore_n (am_cur_of (i := (90, 1, .istore_n 1, (0, 0, 0), 0)) (by decide +kernel)) hm_z
      obtain ⟨_, s2471_z, s2472_z, g1m, hm_z⟩ := hm_z
      replace g0m := s2471_z 0 _ (by decide) rfl g0m
      clear s2471_z s2472_z
      replace hm_z := rn_iload_n (am_cur_of (i := (91, 1, .iload_n 1, (0, 0, 0), 0)) (by decide +kernel)) g1m hm_z
      replace hm_z := rn_ifT (am_cur_of (i := (92, 3, .ifCond .ge 17, (60, 0, 0), 0)) (by decide +kernel)) (by decide) hm_z
      replace hm_z := rn_iload_n (am_cur_of (i := (109, 1, .iload_n 1, (0, 0, 0), 0)) (by decide +kernel)) g1m hm_z
      replace hm_z := rn_ifT (am_cur_of (i := (110, 3, .ifCond .ge 19, (70, 0, 0), 0)) (by decide +kernel)) (by decide) hm_z
      replace hm_z := rn_aload_n (am_cur_of (i := (129, 1, .aload_n 0, (0, 0, 0), 0)) (by decide +kernel)) g0m hm_z
      replace hm_z := rn_callV (M' := am_m175) (o := 164) (ar := []) (rest := []) (L := lv_args 0 [.ref 164]) (am_cur_of (i := (130, 3, .invokevirtual 309, (175, 1731, 3), 0)) (by decide +kernel)) rfl rfl rfl rfl hm_z
      obtain ⟨r2473_z, h2474_z, q2475_z, hm_z⟩ := hm_z
      rcases rs_ic q2475_z with ⟨i1_z, rfl, i3_z⟩ | ⟨i1_z, -⟩
      · subst i3_z
        replace hm_z : rn _ _ _ _ [.int 0] _ _ _ := hm_z
        replace hm_z := rn_ifF (am_cur_of (i := (133, 3, .ifCond .ne 5, (75, 0, 0), 0)) (by decide +kernel)) (by decide) hm_z
        replace hm_z := rn_iconst (w := 0) (am_cur_of (i := (136, 1, .iconst 0, (0, 0, 0), 0)) (by decide +kernel)) (by decide) hm_z
        replace hm_z := rn_iret (am_cur_of (i := (137, 1, .ireturn, (0, 0, 0), 0)) (by decide +kernel)) hm_z
        obtain ⟨e2476_z, e2477_z⟩ := hm_z
        subst e2476_z e2477_z
        exact (Or.inr ⟨rfl, 2, by decide, K.1, K.2, rfl, R6⟩)
      · exact absurd (Int32.toInt_inj.mp (show (rg_v g 164 44).toInt = (64 : Int32).toInt from by rw [show rg_v g 164 44 = kn from nk1_z.symm, show (64 : Int32).toInt = 64 by decide]; omega)) i1_z
    · subst eh
      replace lt : kn.toInt < 64 := by rw [← ekn]; exact lt
      rw [show rg_v h 32 0 = kn from ekn] at hc_z
      replace hm_z := rn_aload_n (am_cur_of (i := (0, 1, .aload_n 0, (0, 0, 0), 0)) (by decide +kernel)) g0m hm_z
      replace hm_z := rn_bipush (w := 40) (am_cur_of (i := (1, 2, .bipush 40, (0, 0, 0), 0)) (by decide +kernel)) (by decide) hm_z
      replace hm_z := rn_callV (M' := am_m171) (o := 164) (ar := [.int 40]) (rest := []) (L := lv_args 0 [.ref 164, .int 40]) (am_cur_of (i := (3, 3, .invokevirtual 194, (171, 1715, 3), 0)) (by decide +kernel)) rfl rfl rfl rfl hm_z
      obtain ⟨r2478_z, h2479_z, q2480_z, hm_z⟩ := hm_z
      obtain ⟨rfl, yq2480_z⟩ := rp_sgN (fun q => absurd (Eq.trans (Eq.symm kc) q.1) (by decide)) q2480_z
      subst yq2480_z
      replace hm_z : rn _ _ _ _ [.int 0] _ _ _ := hm_z
      replace hm_z := rn_ifT (am_cur_of (i := (6, 3, .ifCond .eq 44, (28, 0, 0), 0)) (by decide +kernel)) (by decide) hm_z
      replace hm_z := rn_aload_n (am_cur_of (i := (50, 1, .aload_n 0, (0, 0, 0), 0)) (by decide +kernel)) g0m hm_z
      replace hm_z := rn_bipush (w := 14) (am_cur_of (i := (51, 2, .bipush 14, (0, 0, 0), 0)) (by decide +kernel)) (by decide) hm_z
      replace hm_z := rn_callV (M' := am_m174) (o := 164) (ar := [.int 14]) (rest := []) (L := lv_args 0 [.ref 164, .int 14]) (am_cur_of (i := (53, 3, .invokevirtual 306, (174, 1727, 3), 0)) (by decide +kernel)) rfl rfl rfl rfl hm_z
      obtain ⟨r2481_z, h2482_z, q2483_z, hm_z⟩ := hm_z
      obtain ⟨rfl, yq2483_z⟩ := rp_kyN (fun q => absurd (Eq.trans (Eq.symm kd) q.2) (by decide)) q2483_z
      subst yq2483_z
      replace hm_z : rn _ _ _ _ [.int 0] _ _ _ := hm_z
      replace hm_z := rn_ifT (am_cur_of (i := (56, 3, .ifCond .eq 30, (47, 0, 0), 0)) (by decide +kernel)) (by decide) hm_z
      replace hm_z := rn_aload_n (am_cur_of (i := (86, 1, .aload_n 0, (0, 0, 0), 0)) (by decide +kernel)) g0m hm_z
      replace hm_z := rn_callV (M' := am_m176) (o := 164) (ar := []) (rest := []) (L := lv_args 0 [.ref 164]) (am_cur_of (i := (87, 3, .invokevirtual 312, (176, 1735, 3), 0)) (by decide +kernel)) rfl rfl rfl rfl hm_z
      obtain ⟨r2484_z, h2485_z, q2486_z, hm_z⟩ := hm_z
      obtain ⟨rfl, yq2486_z⟩ := rp_nm (c := 1) (d := 18) kc kd q2486_z
      replace yq2486_z := yq2486_z.symm
      subst yq2486_z
      rw [show rp_nmf 1 18 = 4 from by decide] at hm_z
      replace hm_z : rn _ _ _ _ [.int 4] _ _ _ := hm_z
      replace hm_z := rn_istore_n (am_cur_of (i := (90, 1, .istore_n 1, (0, 0, 0), 0)) (by decide +kernel)) hm_z
      obtain ⟨_, s2487_z, s2488_z, g1m, hm_z⟩ := hm_z
      replace g0m := s2487_z 0 _ (by decide) rfl g0m
      clear s2487_z s2488_z
      replace hm_z := rn_iload_n (am_cur_of (i := (91, 1, .iload_n 1, (0, 0, 0), 0)) (by decide +kernel)) g1m hm_z
      replace hm_z := rn_ifT (am_cur_of (i := (92, 3, .ifCond .ge 17, (60, 0, 0), 0)) (by decide +kernel)) (by decide) hm_z
      replace hm_z := rn_iload_n (am_cur_of (i := (109, 1, .iload_n 1, (0, 0, 0), 0)) (by decide +kernel)) g1m hm_z
      replace hm_z := rn_ifT (am_cur_of (i := (110, 3, .ifCond .ge 19, (70, 0, 0), 0)) (by decide +kernel)) (by decide) hm_z
      replace hm_z := rn_aload_n (am_cur_of (i := (129, 1, .aload_n 0, (0, 0, 0), 0)) (by decide +kernel)) g0m hm_z
      replace hm_z := rn_callV (M' := am_m175) (o := 164) (ar := []) (rest := []) (L := lv_args 0 [.ref 164]) (am_cur_of (i := (130, 3, .invokevirtual 309, (175, 1731, 3), 0)) (by decide +kernel)) rfl rfl rfl rfl hm_z
      obtain ⟨r2489_z, h2490_z, q2491_z, hm_z⟩ := hm_z
      rcases rs_ic q2491_z with ⟨i1_z, -⟩ | ⟨i1_z, rfl, i3_z⟩
      · exfalso
        have zz := congrArg Int32.toInt i1_z
        rw [show rg_v g 164 44 = kn from nk1_z.symm, show (64 : Int32).toInt = 64 by decide] at zz
        omega
      · subst i3_z
        rw [show rg_v g 164 44 = kn from nk1_z.symm] at hm_z
        replace hm_z : rn _ _ _ _ [.int 1] _ _ _ := hm_z
        replace hc_z : rn _ _ _ _ [] _ _ _ := hc_z
        replace hc_z := rn_aload_n (am_cur_of (i := (146, 1, .aload_n 0, (0, 0, 0), 0)) (by decide +kernel)) g0_z hc_z
        replace hc_z := rn_getM (x := 23) (am_cur_of (i := (147, 3, .getfield 25, (4, 6, 415), 0)) (by decide +kernel)) (show (am_up h 32 0 (.int (kn + 1))) 44 6 = .ref 23 from R3) hc_z
        replace hc_z := rn_getR (x := 32) (am_cur_of (i := (150, 3, .getfield 242, (1, 19, 316), 0)) (by decide +kernel)) (by decide +kernel) hc_z
        replace hc_z := rn_iconst (w := 1) (am_cur_of (i := (153, 1, .iconst 1, (0, 0, 0), 0)) (by decide +kernel)) (by decide) hc_z
        replace hc_z := rn_aload_n (am_cur_of (i := (154, 1, .aload_n 0, (0, 0, 0), 0)) (by decide +kernel)) g0_z hc_z
        replace hc_z := rn_getI (v := 15) (am_cur_of (i := (155, 3, .getfield 91, (4, 11, 420), 0)) (by decide +kernel)) (by decide +kernel) (show rg_v (am_up h 32 0 (.int (kn + 1))) 44 11 = 15 from kb) hc_z
        replace hc_z := rn_bipush (w := 11) (am_cur_of (i := (158, 2, .bipush 11, (0, 0, 0), 0)) (by decide +kernel)) (by decide) hc_z
        replace hc_z := rn_isub (w := 4) (am_cur_of (i := (160, 1, .isub, (0, 0, 0), 0)) (by decide +kernel)) (by decide) hc_z
        replace hc_z := rn_callV (M' := am_m48) (o := 32) (ar := [.int 4, .int 1]) (rest := []) (L := lv_args 0 [.ref 32, .int 1, .int 4]) (am_cur_of (i := (161, 3, .invokevirtual 276, (48, 845, 3), 0)) (by decide +kernel)) rfl rfl rfl rfl hc_z
        obtain ⟨r2492_z, h2493_z, q2494_z, hc_z⟩ := hc_z
        obtain ⟨rfl, PF⟩ := rs_put23 q2494_z
        replace hc_z : rn _ _ _ _ [] _ _ _ := hc_z
        replace hc_z := rn_goto (am_cur_of (i := (164, 3, .goto 8, (87, 0, 0), 0)) (by decide +kernel)) hc_z
        replace hc_z := rn_aload_n (am_cur_of (i := (172, 1, .aload_n 0, (0, 0, 0), 0)) (by decide +kernel)) g0_z hc_z
        replace hc_z := rn_callV (M' := am_m19) (o := 44) (ar := []) (rest := []) (L := lv_args 0 [.ref 44]) (am_cur_of (i := (173, 3, .invokevirtual 57, (19, 727, 3), 0)) (by decide +kernel)) rfl rfl rfl rfl hc_z
        obtain ⟨r2495_z, h2496_z, q2497_z, hc_z⟩ := hc_z
        have vo := rn_void rfl q2497_z
        subst vo
        replace hm_z := rn_ifT (am_cur_of (i := (133, 3, .ifCond .ne 5, (75, 0, 0), 0)) (by decide +kernel)) (by decide) hm_z
        replace hm_z := rn_aload_n (am_cur_of (i := (138, 1, .aload_n 0, (0, 0, 0), 0)) (by decide +kernel)) g0m hm_z
        replace hm_z := rn_iload_n (am_cur_of (i := (139, 1, .iload_n 1, (0, 0, 0), 0)) (by decide +kernel)) g1m hm_z
        replace hm_z := rn_ifF (am_cur_of (i := (140, 3, .ifCond .lt 7, (80, 0, 0), 0)) (by decide +kernel)) (by decide) hm_z
        replace hm_z := rn_iconst (w := 1) (am_cur_of (i := (143, 1, .iconst 1, (0, 0, 0), 0)) (by decide +kernel)) (by decide) hm_z
        replace hm_z := rn_goto (am_cur_of (i := (144, 3, .goto 4, (81, 0, 0), 0)) (by decide +kernel)) hm_z
        replace hm_z := rn_iload_n (am_cur_of (i := (148, 1, .iload_n 1, (0, 0, 0), 0)) (by decide +kernel)) g1m hm_z
        replace hm_z := rn_ifF (am_cur_of (i := (149, 3, .ifCond .lt 7, (85, 0, 0), 0)) (by decide +kernel)) (by decide) hm_z
        replace hm_z := rn_iload_n (am_cur_of (i := (152, 1, .iload_n 1, (0, 0, 0), 0)) (by decide +kernel)) g1m hm_z
        replace hm_z := rn_goto (am_cur_of (i := (153, 3, .goto 7, (87, 0, 0), 0)) (by decide +kernel)) hm_z
        replace hm_z := rn_iconst (w := 0) (am_cur_of (i := (160, 1, .iconst 0, (0, 0, 0), 0)) (by decide +kernel)) (by decide) hm_z
        replace hm_z := rn_callV (M' := am_m177) (o := 164) (ar := [.int 0, .int 4, .int 1]) (rest := []) (L := lv_args 0 [.ref 164, .int 1, .int 4, .int 0]) (am_cur_of (i := (161, 3, .invokevirtual 291, (177, 1739, 3), 0)) (by decide +kernel)) rfl rfl rfl rfl hm_z
        obtain ⟨r2498_z, h2499_z, q2500_z, hm_z⟩ := hm_z
        obtain ⟨rfl, GF⟩ := rs_grown q2500_z
        replace hm_z : rn _ _ _ _ [] _ _ _ := hm_z
        replace hm_z := rn_aload_n (am_cur_of (i := (164, 1, .aload_n 0, (0, 0, 0), 0)) (by decide +kernel)) g0m hm_z
        replace hm_z := rn_iconst (w := 0) (am_cur_of (i := (165, 1, .iconst 0, (0, 0, 0), 0)) (by decide +kernel)) (by decide) hm_z
        replace hm_z := rn_put (am_cur_of (i := (166, 3, .putfield 315, (12, 45, 1429), 0)) (by decide +kernel)) (by decide +kernel) hm_z
        replace hm_z := rn_aload_n (am_cur_of (i := (169, 1, .aload_n 0, (0, 0, 0), 0)) (by decide +kernel)) g0m hm_z
        replace hm_z := rn_callV (M' := am_m151) (o := 164) (ar := []) (rest := []) (L := lv_args 0 [.ref 164]) (am_cur_of (i := (170, 3, .invokevirtual 191, (151, 1636, 3), 0)) (by decide +kernel)) rfl rfl rfl rfl hm_z
        obtain ⟨r2501_z, h2502_z, q2503_z, hm_z⟩ := hm_z
        have vo := rn_void rfl q2503_z
        subst vo
        have FC : ab_Fr (rz_MC23.drop 1) h h2493_z := ab_Fr_trans (ab_Fr_up rfl ab_Fr_refl) (ab_Fr_sub (by decide) PF)
        have FC' : ab_Fr rz_MC23 h h2493_z := ab_Fr_sub (by decide) FC
        have FM : ab_Fr rz_MM g (am_up h2499_z 164 45 (.int 0)) := ab_Fr_up rfl (ab_Fr_trans (ab_Fr_up rfl ab_Fr_refl) (ab_Fr_sub (by decide) GF))
        obtain ⟨-, -, x2_z, p2_z, R2, le2_z, t5_z, t6_z⟩ := pr_tok (rz_q023 (rq_0 Rk) FC' FM) q2497_z q2503_z
        have A2 := rp_x (by decide) (rz_p23 A FC' FM ((show rg_v h2493_z 32 0 = kn + 1 from ((rg_v_fr PF (by decide)).trans (show rg_v (am_up h 32 0 (.int (kn + 1))) 32 0 = kn + 1 from rfl))).trans (show rg_v (am_up h2499_z 164 45 (.int 0)) 164 44 = kn + 1 from (show rg_v (am_up h2499_z 164 45 (.int 0)) 164 44 = kn + 1 from ((rg_v_fr GF (by decide)).trans (show rg_v (am_up g 164 44 (.int (kn + 1))) 164 44 = kn + 1 from rfl)))).symm) (by rw [show rg_v h2493_z 32 0 = kn + 1 from ((rg_v_fr PF (by decide)).trans (show rg_v (am_up h 32 0 (.int (kn + 1))) 32 0 = kn + 1 from rfl))]; omega) (by rw [show rg_v h2493_z 32 0 = kn + 1 from ((rg_v_fr PF (by decide)).trans (show rg_v (am_up h 32 0 (.int (kn + 1))) 32 0 = kn + 1 from rfl))]; omega)) (rx_C_f t5_z) (rx_M_f t6_z)
        have B2 := rp_tk (rz_t23 B FC FM) (rg_v_fr t5_z (by decide)) (fun k => rg_v_fr t6_z (rg_v_in (by decide) k)) (rx_M_f t6_z)
        have FC47 : ab_Fr [(44, 14), (44, 15), (32, 1), (32, 2), (33, 0), (34, 0)] h h2493_z := ab_Fr_trans (ab_Fr_up rfl ab_Fr_refl) (ab_Fr_sub (by decide) PF)
        have FM184 : ab_Fr [(164, 42), (164, 43), (164, 44), (164, 45), (164, 46), (164, 47), (164, 22), (181, 0), (182, 0), (183, 0), (185, 0)] g (am_up h2499_z 164 45 (.int 0)) := ab_Fr_up rfl (ab_Fr_trans (ab_Fr_up rfl ab_Fr_refl) (ab_Fr_sub (by decide) GF))
        have Z2 : rs 23 h2493_z (am_up h2499_z 164 45 (.int 0)) := rs_keep Zk ((show rg_v h2493_z 44 13 = np from ((rg_v_fr PF (by decide)).trans (show rg_v (am_up h 32 0 (.int (kn + 1))) 44 13 = np from z1_z))).trans z1_z.symm) ((show rg_v (am_up h2499_z 164 45 (.int 0)) 164 41 = np from (show rg_v (am_up h2499_z 164 45 (.int 0)) 164 41 = np from ((rg_v_fr GF (by decide)).trans (show rg_v (am_up g 164 44 (.int (kn + 1))) 164 41 = np from z2_z)))).trans z2_z.symm) ((show rg_v h2493_z 44 14 = op from ((rg_v_fr PF (by decide)).trans (show rg_v (am_up h 32 0 (.int (kn + 1))) 44 14 = op from z4_z))).trans z4_z.symm) ((show rg_v (am_up h2499_z 164 45 (.int 0)) 164 43 = op from (show rg_v (am_up h2499_z 164 45 (.int 0)) 164 43 = op from ((rg_v_fr GF (by decide)).trans (show rg_v (am_up g 164 44 (.int (kn + 1))) 164 43 = op from z5_z)))).trans z5_z.symm) (show (rg_v h 32 0).toInt ≤ (rg_v h2493_z 32 0).toInt by rw [(show rg_v h2493_z 32 0 = kn + 1 from ((rg_v_fr PF (by decide)).trans (show rg_v (am_up h 32 0 (.int (kn + 1))) 32 0 = kn + 1 from rfl))), ekn]; omega) (fun k => rg_v_fr FC47 (rg_v_in (by decide) k)) (fun k => rg_v_fr FM184 (rg_v_in (by decide) k))
        replace Z2 := rs_fr (by decide) Z2 t5_z t6_z
        have e45_z : rg_v h2502_z 164 45 = 0 := (rg_v_fr t6_z (by decide)).trans (show rg_v (am_up h2499_z 164 45 (.int 0)) 164 45 = 0 from (show rg_v (am_up h2499_z 164 45 (.int 0)) 164 45 = 0 from rfl))
        have e46_z : rg_v h2502_z 164 46 = 1 := (rg_v_fr t6_z (by decide)).trans (show rg_v (am_up h2499_z 164 45 (.int 0)) 164 46 = 1 from (show rg_v (am_up h2499_z 164 45 (.int 0)) 164 46 = 1 from ((rg_v_fr GF (by decide)).trans (show rg_v (am_up g 164 44 (.int (kn + 1))) 164 46 = 1 from w2_z))))
        replace hm_z : rn _ _ _ _ [] _ _ _ := hm_z
        replace hc_z : rn _ _ _ _ [] _ _ _ := hc_z
        replace hc_z := rn_iconst (w := 2) (am_cur_of (i := (176, 1, .iconst 2, (0, 0, 0), 0)) (by decide +kernel)) (by decide) hc_z
        replace hc_z := rn_iret (am_cur_of (i := (177, 1, .ireturn, (0, 0, 0), 0)) (by decide +kernel)) hc_z
        obtain ⟨e2504_z, e2505_z⟩ := hc_z
        replace hm_z := rn_iconst (w := 1) (am_cur_of (i := (173, 1, .iconst 1, (0, 0, 0), 0)) (by decide +kernel)) (by decide) hm_z
        replace hm_z := rn_iret (am_cur_of (i := (174, 1, .ireturn, (0, 0, 0), 0)) (by decide +kernel)) hm_z
        obtain ⟨e2506_z, e2507_z⟩ := hm_z
        subst e2504_z e2505_z e2506_z e2507_z
        exact Or.inl ⟨_, x2_z, p2_z, rfl, rfl, R2, le2_z, A2, B2, Z2, Or.inr (Or.inr ⟨rfl, e45_z⟩)⟩
  · have g0_z : am_get (lv_args 0 [.ref 44, .int 0]) 0 = some (.ref 44) := rfl
    have g1_z : am_get (lv_args 0 [.ref 44, .int 0]) 1 = some (.int 0) := rfl
    have g0m : am_get (lv_args 0 [.ref 164]) 0 = some (.ref 164) := rfl
    have Rk := R
    have Zk := Z
    obtain ⟨⟨c1_z, c2_z, c3_z, c4_z, c5_z, c6_z, c7_z, c8_z⟩, ⟨m2_z, m3_z, m4_z, m5_z, m6_z, m7_z, m8_z⟩, R3, R4, R5, R6, R7, R8, R9, R10⟩ := (R : rq T S x p 23 h g)
    obtain ⟨np, op, z1_z, z2_z, z3_z, z4_z, z5_z, z6_z, z7_z, z8_z, z9_z, z10_z⟩ := (Z : rs 23 h g)
    obtain ⟨nk1_z, nk2_z, nk3_z⟩ := A.2.2.2.2.2.1
    replace nk1_z : rg_v h 32 0 = rg_v g 164 44 := nk1_z
    replace nk2_z : 0 ≤ (rg_v h 32 0).toInt := nk2_z
    replace nk3_z : (rg_v h 32 0).toInt ≤ 64 := nk3_z
    replace z8_z : np.toInt ≤ (rg_v h 32 0).toInt + op.toInt := z8_z
    obtain ⟨kn, ekn⟩ : ∃ v, rg_v h 32 0 = v := ⟨_, rfl⟩
    rw [ekn] at nk1_z nk2_z nk3_z z8_z
    have e9_z := rt_c1 (x := kn) (by omega) (by omega)
    replace hc_z := rn_aload_n (am_cur_of (i := (0, 1, .aload_n 0, (0, 0, 0), 0)) (by decide +kernel)) g0_z hc_z
    replace hc_z := rn_getI (v := 2) (am_cur_of (i := (1, 3, .getfield 60, (4, 10, 419), 0)) (by decide +kernel)) (by decide +kernel) ka hc_z
    replace hc_z := rn_bipush (w := 6) (am_cur_of (i := (4, 2, .bipush 6, (0, 0, 0), 0)) (by decide +kernel)) (by decide) hc_z
    replace hc_z := rn_cmpT (am_cur_of (i := (6, 3, .if_icmp .ne 30, (19, 0, 0), 0)) (by decide +kernel)) (by decide) hc_z
    replace hc_z := rn_aload_n (am_cur_of (i := (36, 1, .aload_n 0, (0, 0, 0), 0)) (by decide +kernel)) g0_z hc_z
    replace hc_z := rn_bipush (w := 40) (am_cur_of (i := (37, 2, .bipush 40, (0, 0, 0), 0)) (by decide +kernel)) (by decide) hc_z
    replace hc_z := rn_callV (M' := am_m45) (o := 44) (ar := [.int 40]) (rest := []) (L := lv_args 0 [.ref 44, .int 40]) (am_cur_of (i := (39, 3, .invokevirtual 105, (45, 834, 3), 0)) (by decide +kernel)) rfl rfl rfl rfl hc_z
    obtain ⟨r2508_z, h2509_z, q2510_z, hc_z⟩ := hc_z
    obtain ⟨rfl, yq2510_z⟩ := rp_mkN (fun q => absurd (Eq.trans (Eq.symm ka) q.1) (by decide)) q2510_z
    subst yq2510_z
    replace hc_z : rn _ _ _ _ [.int 0] _ _ _ := hc_z
    replace hc_z := rn_ifT (am_cur_of (i := (42, 3, .ifCond .eq 38, (43, 0, 0), 0)) (by decide +kernel)) (by decide) hc_z
    replace hc_z := rn_aload_n (am_cur_of (i := (80, 1, .aload_n 0, (0, 0, 0), 0)) (by decide +kernel)) g0_z hc_z
    replace hc_z := rn_getI (v := 2) (am_cur_of (i := (81, 3, .getfield 60, (4, 10, 419), 0)) (by decide +kernel)) (by decide +kernel) ka hc_z
    replace hc_z := rn_iconst (w := 4) (am_cur_of (i := (84, 1, .iconst 4, (0, 0, 0), 0)) (by decide +kernel)) (by decide) hc_z
    replace hc_z := rn_cmpT (am_cur_of (i := (85, 3, .if_icmp .ne 40, (64, 0, 0), 0)) (by decide +kernel)) (by decide) hc_z
    replace hc_z := rn_aload_n (am_cur_of (i := (125, 1, .aload_n 0, (0, 0, 0), 0)) (by decide +kernel)) g0_z hc_z
    replace hc_z := rn_getI (v := 2) (am_cur_of (i := (126, 3, .getfield 60, (4, 10, 419), 0)) (by decide +kernel)) (by decide +kernel) ka hc_z
    replace hc_z := rn_iconst (w := 2) (am_cur_of (i := (129, 1, .iconst 2, (0, 0, 0), 0)) (by decide +kernel)) (by decide) hc_z
    replace hc_z := rn_cmpF (am_cur_of (i := (130, 3, .if_icmp .ne 37, (84, 0, 0), 0)) (by decide +kernel)) (by decide) hc_z
    replace hc_z := rn_aload_n (am_cur_of (i := (133, 1, .aload_n 0, (0, 0, 0), 0)) (by decide +kernel)) g0_z hc_z
    replace hc_z := rn_getI (v := 16) (am_cur_of (i := (134, 3, .getfield 91, (4, 11, 420), 0)) (by decide +kernel)) (by decide +kernel) kb hc_z
    replace hc_z := rn_bipush (w := 11) (am_cur_of (i := (137, 2, .bipush 11, (0, 0, 0), 0)) (by decide +kernel)) (by decide) hc_z
    replace hc_z := rn_cmpF (am_cur_of (i := (139, 3, .if_icmp .lt 28, (84, 0, 0), 0)) (by decide +kernel)) (by decide) hc_z
    replace hc_z := rn_aload_n (am_cur_of (i := (142, 1, .aload_n 0, (0, 0, 0), 0)) (by decide +kernel)) g0_z hc_z
    replace hc_z := rn_callV (M' := am_m49) (o := 44) (ar := []) (rest := []) (L := lv_args 0 [.ref 44]) (am_cur_of (i := (143, 3, .invokevirtual 270, (49, 852, 3), 0)) (by decide +kernel)) rfl rfl rfl rfl hc_z
    obtain ⟨r2511_z, h2512_z, q2513_z, hc_z⟩ := hc_z
    rcases rs_ck23 R4 (show h 44 6 = .ref 23 from R3) q2513_z with ⟨ge, rfl, eh⟩ | ⟨lt, rfl, eh⟩
    · subst eh
      replace ge : 64 ≤ kn.toInt := by rw [← ekn]; exact ge
      replace hc_z : rn _ _ _ _ [] _ _ _ := hc_z
      have K := rs_stick (w := 2) (q := p) (a := 51) (by decide) (by decide) rfl (by decide) rfl (show rg_v (am_up (am_up h 44 1 (.int 2)) 44 2 (.int (rg_v h 44 9))) 44 2 = p from R5) hc_z
      replace hm_z := rn_aload_n (am_cur_of (i := (0, 1, .aload_n 0, (0, 0, 0), 0)) (by decide +kernel)) g0m hm_z
      replace hm_z := rn_bipush (w := 40) (am_cur_of (i := (1, 2, .bipush 40, (0, 0, 0), 0)) (by decide +kernel)) (by decide) hm_z
      replace hm_z := rn_callV (M' := am_m171) (o := 164) (ar := [.int 40]) (rest := []) (L := lv_args 0 [.ref 164, .int 40]) (am_cur_of (i := (3, 3, .invokevirtual 194, (171, 1715, 3), 0)) (by decide +kernel)) rfl rfl rfl rfl hm_z
      obtain ⟨r2514_z, h2515_z, q2516_z, hm_z⟩ := hm_z
      obtain ⟨rfl, yq2516_z⟩ := rp_sgN (fun q => absurd (Eq.trans (Eq.symm kc) q.1) (by decide)) q2516_z
      subst yq2516_z
      replace hm_z : rn _ _ _ _ [.int 0] _ _ _ := hm_z
      replace hm_z := rn_ifT (am_cur_of (i := (6, 3, .ifCond .eq 44, (28, 0, 0), 0)) (by decide +kernel)) (by decide) hm_z
      replace hm_z := rn_aload_n (am_cur_of (i := (50, 1, .aload_n 0, (0, 0, 0), 0)) (by decide +kernel)) g0m hm_z
      replace hm_z := rn_bipush (w := 14) (am_cur_of (i := (51, 2, .bipush 14, (0, 0, 0), 0)) (by decide +kernel)) (by decide) hm_z
      replace hm_z := rn_callV (M' := am_m174) (o := 164) (ar := [.int 14]) (rest := []) (L := lv_args 0 [.ref 164, .int 14]) (am_cur_of (i := (53, 3, .invokevirtual 306, (174, 1727, 3), 0)) (by decide +kernel)) rfl rfl rfl rfl hm_z
      obtain ⟨r2517_z, h2518_z, q2519_z, hm_z⟩ := hm_z
      obtain ⟨rfl, yq2519_z⟩ := rp_kyN (fun q => absurd (Eq.trans (Eq.symm kd) q.2) (by decide)) q2519_z
      subst yq2519_z
      replace hm_z : rn _ _ _ _ [.int 0] _ _ _ := hm_z
      replace hm_z := rn_ifT (am_cur_of (i := (56, 3, .ifCond .eq 30, (47, 0, 0), 0)) (by decide +kernel)) (by decide) hm_z
      replace hm_z := rn_aload_n (am_cur_of (i := (86, 1, .aload_n 0, (0, 0, 0), 0)) (by decide +kernel)) g0m hm_z
      replace hm_z := rn_callV (M' := am_m176) (o := 164) (ar := []) (rest := []) (L := lv_args 0 [.ref 164]) (am_cur_of (i := (87, 3, .invokevirtual 312, (176, 1735, 3), 0)) (by decide +kernel)) rfl rfl rfl rfl hm_z
      obtain ⟨r2520_z, h2521_z, q2522_z, hm_z⟩ := hm_z
      obtain ⟨rfl, yq2522_z⟩ := rp_nm (c := 1) (d := 19) kc kd q2522_z
      replace yq2522_z := yq2522_z.symm
      subst yq2522_z
      rw [show rp_nmf 1 19 = 5 from by decide] at hm_z
      replace hm_z : rn _ _ _ _ [.int 5] _ _ _ := hm_z
      replace hm_z := rn_istore_n (am_cur_of (i := (90, 1, .istore_n 1, (0, 0, 0), 0)) (by decide +kernel)) hm_z
      obtain ⟨_, s2523_z, s2524_z, g1m, hm_z⟩ := hm_z
      replace g0m := s2523_z 0 _ (by decide) rfl g0m
      clear s2523_z s2524_z
      replace hm_z := rn_iload_n (am_cur_of (i := (91, 1, .iload_n 1, (0, 0, 0), 0)) (by decide +kernel)) g1m hm_z
      replace hm_z := rn_ifT (am_cur_of (i := (92, 3, .ifCond .ge 17, (60, 0, 0), 0)) (by decide +kernel)) (by decide) hm_z
      replace hm_z := rn_iload_n (am_cur_of (i := (109, 1, .iload_n 1, (0, 0, 0), 0)) (by decide +kernel)) g1m hm_z
      replace hm_z := rn_ifT (am_cur_of (i := (110, 3, .ifCond .ge 19, (70, 0, 0), 0)) (by decide +kernel)) (by decide) hm_z
      replace hm_z := rn_aload_n (am_cur_of (i := (129, 1, .aload_n 0, (0, 0, 0), 0)) (by decide +kernel)) g0m hm_z
      replace hm_z := rn_callV (M' := am_m175) (o := 164) (ar := []) (rest := []) (L := lv_args 0 [.ref 164]) (am_cur_of (i := (130, 3, .invokevirtual 309, (175, 1731, 3), 0)) (by decide +kernel)) rfl rfl rfl rfl hm_z
      obtain ⟨r2525_z, h2526_z, q2527_z, hm_z⟩ := hm_z
      rcases rs_ic q2527_z with ⟨i1_z, rfl, i3_z⟩ | ⟨i1_z, -⟩
      · subst i3_z
        replace hm_z : rn _ _ _ _ [.int 0] _ _ _ := hm_z
        replace hm_z := rn_ifF (am_cur_of (i := (133, 3, .ifCond .ne 5, (75, 0, 0), 0)) (by decide +kernel)) (by decide) hm_z
        replace hm_z := rn_iconst (w := 0) (am_cur_of (i := (136, 1, .iconst 0, (0, 0, 0), 0)) (by decide +kernel)) (by decide) hm_z
        replace hm_z := rn_iret (am_cur_of (i := (137, 1, .ireturn, (0, 0, 0), 0)) (by decide +kernel)) hm_z
        obtain ⟨e2528_z, e2529_z⟩ := hm_z
        subst e2528_z e2529_z
        exact (Or.inr ⟨rfl, 2, by decide, K.1, K.2, rfl, R6⟩)
      · exact absurd (Int32.toInt_inj.mp (show (rg_v g 164 44).toInt = (64 : Int32).toInt from by rw [show rg_v g 164 44 = kn from nk1_z.symm, show (64 : Int32).toInt = 64 by decide]; omega)) i1_z
    · subst eh
      replace lt : kn.toInt < 64 := by rw [← ekn]; exact lt
      rw [show rg_v h 32 0 = kn from ekn] at hc_z
      replace hm_z := rn_aload_n (am_cur_of (i := (0, 1, .aload_n 0, (0, 0, 0), 0)) (by decide +kernel)) g0m hm_z
      replace hm_z := rn_bipush (w := 40) (am_cur_of (i := (1, 2, .bipush 40, (0, 0, 0), 0)) (by decide +kernel)) (by decide) hm_z
      replace hm_z := rn_callV (M' := am_m171) (o := 164) (ar := [.int 40]) (rest := []) (L := lv_args 0 [.ref 164, .int 40]) (am_cur_of (i := (3, 3, .invokevirtual 194, (171, 1715, 3), 0)) (by decide +kernel)) rfl rfl rfl rfl hm_z
      obtain ⟨r2530_z, h2531_z, q2532_z, hm_z⟩ := hm_z
      obtain ⟨rfl, yq2532_z⟩ := rp_sgN (fun q => absurd (Eq.trans (Eq.symm kc) q.1) (by decide)) q2532_z
      subst yq2532_z
      replace hm_z : rn _ _ _ _ [.int 0] _ _ _ := hm_z
      replace hm_z := rn_ifT (am_cur_of (i := (6, 3, .ifCond .eq 44, (28, 0, 0), 0)) (by decide +kernel)) (by decide) hm_z
      replace hm_z := rn_aload_n (am_cur_of (i := (50, 1, .aload_n 0, (0, 0, 0), 0)) (by decide +kernel)) g0m hm_z
      replace hm_z := rn_bipush (w := 14) (am_cur_of (i := (51, 2, .bipush 14, (0, 0, 0), 0)) (by decide +kernel)) (by decide) hm_z
      replace hm_z := rn_callV (M' := am_m174) (o := 164) (ar := [.int 14]) (rest := []) (L := lv_args 0 [.ref 164, .int 14]) (am_cur_of (i := (53, 3, .invokevirtual 306, (174, 1727, 3), 0)) (by decide +kernel)) rfl rfl rfl rfl hm_z
      obtain ⟨r2533_z, h2534_z, q2535_z, hm_z⟩ := hm_z
      obtain ⟨rfl, yq2535_z⟩ := rp_kyN (fun q => absurd (Eq.trans (Eq.symm kd) q.2) (by decide)) q2535_z
      subst yq2535_z
      replace hm_z : rn _ _ _ _ [.int 0] _ _ _ := hm_z
      replace hm_z := rn_ifT (am_cur_of (i := (56, 3, .ifCond .eq 30, (47, 0, 0), 0)) (by decide +kernel)) (by decide) hm_z
      replace hm_z := rn_aload_n (am_cur_of (i := (86, 1, .aload_n 0, (0, 0, 0), 0)) (by decide +kernel)) g0m hm_z
      replace hm_z := rn_callV (M' := am_m176) (o := 164) (ar := []) (rest := []) (L := lv_args 0 [.ref 164]) (am_cur_of (i := (87, 3, .invokevirtual 312, (176, 1735, 3), 0)) (by decide +kernel)) rfl rfl rfl rfl hm_z
      obtain ⟨r2536_z, h2537_z, q2538_z, hm_z⟩ := hm_z
      obtain ⟨rfl, yq2538_z⟩ := rp_nm (c := 1) (d := 19) kc kd q2538_z
      replace yq2538_z := yq2538_z.symm
      subst yq2538_z
      rw [show rp_nmf 1 19 = 5 from by decide] at hm_z
      replace hm_z : rn _ _ _ _ [.int 5] _ _ _ := hm_z
      replace hm_z := rn_istore_n (am_cur_of (i := (90, 1, .istore_n 1, (0, 0, 0), 0)) (by decide +kernel)) hm_z
      obtain ⟨_, s2539_z, s2540_z, g1m, hm_z⟩ := hm_z
      replace g0m := s2539_z 0 _ (by decide) rfl g0m
      clear s2539_z s2540_z
      replace hm_z := rn_iload_n (am_cur_of (i := (91, 1, .iload_n 1, (0, 0, 0), 0)) (by decide +kernel)) g1m hm_z
      replace hm_z := rn_ifT (am_cur_of (i := (92, 3, .ifCond .ge 17, (60, 0, 0), 0)) (by decide +kernel)) (by decide) hm_z
      replace hm_z := rn_iload_n (am_cur_of (i := (109, 1, .iload_n 1, (0, 0, 0), 0)) (by decide +kernel)) g1m hm_z
      replace hm_z := rn_ifT (am_cur_of (i := (110, 3, .ifCond .ge 19, (70, 0, 0), 0)) (by decide +kernel)) (by decide) hm_z
      replace hm_z := rn_aload_n (am_cur_of (i := (129, 1, .aload_n 0, (0, 0, 0), 0)) (by decide +kernel)) g0m hm_z
      replace hm_z := rn_callV (M' := am_m175) (o := 164) (ar := []) (rest := []) (L := lv_args 0 [.ref 164]) (am_cur_of (i := (130, 3, .invokevirtual 309, (175, 1731, 3), 0)) (by decide +kernel)) rfl rfl rfl rfl hm_z
      obtain ⟨r2541_z, h2542_z, q2543_z, hm_z⟩ := hm_z
      rcases rs_ic q2543_z with ⟨i1_z, -⟩ | ⟨i1_z, rfl, i3_z⟩
      · exfalso
        have zz := congrArg Int32.toInt i1_z
        rw [show rg_v g 164 44 = kn from nk1_z.symm, show (64 : Int32).toInt = 64 by decide] at zz
        omega
      · subst i3_z
        rw [show rg_v g 164 44 = kn from nk1_z.symm] at hm_z
        replace hm_z : rn _ _ _ _ [.int 1] _ _ _ := hm_z
        replace hc_z : rn _ _ _ _ [] _ _ _ := hc_z
        replace hc_z := rn_aload_n (am_cur_of (i := (146, 1, .aload_n 0, (0, 0, 0), 0)) (by decide +kernel)) g0_z hc_z
        replace hc_z := rn_getM (x := 23) (am_cur_of (i := (147, 3, .getfield 25, (4, 6, 415), 0)) (by decide +kernel)) (show (am_up h 32 0 (.int (kn + 1))) 44 6 = .ref 23 from R3) hc_z
        replace hc_z := rn_getR (x := 32) (am_cur_of (i := (150, 3, .getfield 242, (1, 19, 316), 0)) (by decide +kernel)) (by decide +kernel) hc_z
        replace hc_z := rn_iconst (w := 1) (am_cur_of (i := (153, 1, .iconst 1, (0, 0, 0), 0)) (by decide +kernel)) (by decide) hc_z
        replace hc_z := rn_aload_n (am_cur_of (i := (154, 1, .aload_n 0, (0, 0, 0), 0)) (by decide +kernel)) g0_z hc_z
        replace hc_z := rn_getI (v := 16) (am_cur_of (i := (155, 3, .getfield 91, (4, 11, 420), 0)) (by decide +kernel)) (by decide +kernel) (show rg_v (am_up h 32 0 (.int (kn + 1))) 44 11 = 16 from kb) hc_z
        replace hc_z := rn_bipush (w := 11) (am_cur_of (i := (158, 2, .bipush 11, (0, 0, 0), 0)) (by decide +kernel)) (by decide) hc_z
        replace hc_z := rn_isub (w := 5) (am_cur_of (i := (160, 1, .isub, (0, 0, 0), 0)) (by decide +kernel)) (by decide) hc_z
        replace hc_z := rn_callV (M' := am_m48) (o := 32) (ar := [.int 5, .int 1]) (rest := []) (L := lv_args 0 [.ref 32, .int 1, .int 5]) (am_cur_of (i := (161, 3, .invokevirtual 276, (48, 845, 3), 0)) (by decide +kernel)) rfl rfl rfl rfl hc_z
        obtain ⟨r2544_z, h2545_z, q2546_z, hc_z⟩ := hc_z
        obtain ⟨rfl, PF⟩ := rs_put23 q2546_z
        replace hc_z : rn _ _ _ _ [] _ _ _ := hc_z
        replace hc_z := rn_goto (am_cur_of (i := (164, 3, .goto 8, (87, 0, 0), 0)) (by decide +kernel)) hc_z
        replace hc_z := rn_aload_n (am_cur_of (i := (172, 1, .aload_n 0, (0, 0, 0), 0)) (by decide +kernel)) g0_z hc_z
        replace hc_z := rn_callV (M' := am_m19) (o := 44) (ar := []) (rest := []) (L := lv_args 0 [.ref 44]) (am_cur_of (i := (173, 3, .invokevirtual 57, (19, 727, 3), 0)) (by decide +kernel)) rfl rfl rfl rfl hc_z
        obtain ⟨r2547_z, h2548_z, q2549_z, hc_z⟩ := hc_z
        have vo := rn_void rfl q2549_z
        subst vo
        replace hm_z := rn_ifT (am_cur_of (i := (133, 3, .ifCond .ne 5, (75, 0, 0), 0)) (by decide +kernel)) (by decide) hm_z
        replace hm_z := rn_aload_n (am_cur_of (i := (138, 1, .aload_n 0, (0, 0, 0), 0)) (by decide +kernel)) g0m hm_z
        replace hm_z := rn_iload_n (am_cur_of (i := (139, 1, .iload_n 1, (0, 0, 0), 0)) (by decide +kernel)) g1m hm_z
        replace hm_z := rn_ifF (am_cur_of (i := (140, 3, .ifCond .lt 7, (80, 0, 0), 0)) (by decide +kernel)) (by decide) hm_z
        replace hm_z := rn_iconst (w := 1) (am_cur_of (i := (143, 1, .iconst 1, (0, 0, 0), 0)) (by decide +kernel)) (by decide) hm_z
        replace hm_z := rn_goto (am_cur_of (i := (144, 3, .goto 4, (81, 0, 0), 0)) (by decide +kernel)) hm_z
        replace hm_z := rn_iload_n (am_cur_of (i := (148, 1, .iload_n 1, (0, 0, 0), 0)) (by decide +kernel)) g1m hm_z
        replace hm_z := rn_ifF (am_cur_of (i := (149, 3, .ifCond .lt 7, (85, 0, 0), 0)) (by decide +kernel)) (by decide) hm_z
        replace hm_z := rn_iload_n (am_cur_of (i := (152, 1, .iload_n 1, (0, 0, 0), 0)) (by decide +kernel)) g1m hm_z
        replace hm_z := rn_goto (am_cur_of (i := (153, 3, .goto 7, (87, 0, 0), 0)) (by decide +kernel)) hm_z
        replace hm_z := rn_iconst (w := 0) (am_cur_of (i := (160, 1, .iconst 0, (0, 0, 0), 0)) (by decide +kernel)) (by decide) hm_z
        replace hm_z := rn_callV (M' := am_m177) (o := 164) (ar := [.int 0, .int 5, .int 1]) (rest := []) (L := lv_args 0 [.ref 164, .int 1, .int 5, .int 0]) (am_cur_of (i := (161, 3, .invokevirtual 291, (177, 1739, 3), 0)) (by decide +kernel)) rfl rfl rfl rfl hm_z
        obtain ⟨r2550_z, h2551_z, q2552_z, hm_z⟩ := hm_z
        obtain ⟨rfl, GF⟩ := rs_grown q2552_z
        replace hm_z : rn _ _ _ _ [] _ _ _ := hm_z
        replace hm_z := rn_aload_n (am_cur_of (i := (164, 1, .aload_n 0, (0, 0, 0), 0)) (by decide +kernel)) g0m hm_z
        replace hm_z := rn_iconst (w := 0) (am_cur_of (i := (165, 1, .iconst 0, (0, 0, 0), 0)) (by decide +kernel)) (by decide) hm_z
        replace hm_z := rn_put (am_cur_of (i := (166, 3, .putfield 315, (12, 45, 1429), 0)) (by decide +kernel)) (by decide +kernel) hm_z
        replace hm_z := rn_aload_n (am_cur_of (i := (169, 1, .aload_n 0, (0, 0, 0), 0)) (by decide +kernel)) g0m hm_z
        replace hm_z := rn_callV (M' := am_m151) (o := 164) (ar := []) (rest := []) (L := lv_args 0 [.ref 164]) (am_cur_of (i := (170, 3, .invokevirtual 191, (151, 1636, 3), 0)) (by decide +kernel)) rfl rfl rfl rfl hm_z
        obtain ⟨r2553_z, h2554_z, q2555_z, hm_z⟩ := hm_z
        have vo := rn_void rfl q2555_z
        subst vo
        have FC : ab_Fr (rz_MC23.drop 1) h h2545_z := ab_Fr_trans (ab_Fr_up rfl ab_Fr_refl) (ab_Fr_sub (by decide) PF)
        have FC' : ab_Fr rz_MC23 h h2545_z := ab_Fr_sub (by decide) FC
        have FM : ab_Fr rz_MM g (am_up h2551_z 164 45 (.int 0)) := ab_Fr_up rfl (ab_Fr_trans (ab_Fr_up rfl ab_Fr_refl) (ab_Fr_sub (by decide) GF))
        obtain ⟨-, -, x2_z, p2_z, R2, le2_z, t5_z, t6_z⟩ := pr_tok (rz_q023 (rq_0 Rk) FC' FM) q2549_z q2555_z
        have A2 := rp_x (by decide) (rz_p23 A FC' FM ((show rg_v h2545_z 32 0 = kn + 1 from ((rg_v_fr PF (by decide)).trans (show rg_v (am_up h 32 0 (.int (kn + 1))) 32 0 = kn + 1 from rfl))).trans (show rg_v (am_up h2551_z 164 45 (.int 0)) 164 44 = kn + 1 from (show rg_v (am_up h2551_z 164 45 (.int 0)) 164 44 = kn + 1 from ((rg_v_fr GF (by decide)).trans (show rg_v (am_up g 164 44 (.int (kn + 1))) 164 44 = kn + 1 from rfl)))).symm) (by rw [show rg_v h2545_z 32 0 = kn + 1 from ((rg_v_fr PF (by decide)).trans (show rg_v (am_up h 32 0 (.int (kn + 1))) 32 0 = kn + 1 from rfl))]; omega) (by rw [show rg_v h2545_z 32 0 = kn + 1 from ((rg_v_fr PF (by decide)).trans (show rg_v (am_up h 32 0 (.int (kn + 1))) 32 0 = kn + 1 from rfl))]; omega)) (rx_C_f t5_z) (rx_M_f t6_z)
        have B2 := rp_tk (rz_t23 B FC FM) (rg_v_fr t5_z (by decide)) (fun k => rg_v_fr t6_z (rg_v_in (by decide) k)) (rx_M_f t6_z)
        have FC47 : ab_Fr [(44, 14), (44, 15), (32, 1), (32, 2), (33, 0), (34, 0)] h h2545_z := ab_Fr_trans (ab_Fr_up rfl ab_Fr_refl) (ab_Fr_sub (by decide) PF)
        have FM184 : ab_Fr [(164, 42), (164, 43), (164, 44), (164, 45), (164, 46), (164, 47), (164, 22), (181, 0), (182, 0), (183, 0), (185, 0)] g (am_up h2551_z 164 45 (.int 0)) := ab_Fr_up rfl (ab_Fr_trans (ab_Fr_up rfl ab_Fr_refl) (ab_Fr_sub (by decide) GF))
        have Z2 : rs 23 h2545_z (am_up h2551_z 164 45 (.int 0)) := rs_keep Zk ((show rg_v h2545_z 44 13 = np from ((rg_v_fr PF (by decide)).trans (show rg_v (am_up h 32 0 (.int (kn + 1))) 44 13 = np from z1_z))).trans z1_z.symm) ((show rg_v (am_up h2551_z 164 45 (.int 0)) 164 41 = np from (show rg_v (am_up h2551_z 164 45 (.int 0)) 164 41 = np from ((rg_v_fr GF (by decide)).trans (show rg_v (am_up g 164 44 (.int (kn + 1))) 164 41 = np from z2_z)))).trans z2_z.symm) ((show rg_v h2545_z 44 14 = op from ((rg_v_fr PF (by decide)).trans (show rg_v (am_up h 32 0 (.int (kn + 1))) 44 14 = op from z4_z))).trans z4_z.symm) ((show rg_v (am_up h2551_z 164 45 (.int 0)) 164 43 = op from (show rg_v (am_up h2551_z 164 45 (.int 0)) 164 43 = op from ((rg_v_fr GF (by decide)).trans (show rg_v (am_up g 164 44 (.int (kn + 1))) 164 43 = op from z5_z)))).trans z5_z.symm) (show (rg_v h 32 0).toInt ≤ (rg_v h2545_z 32 0).toInt by rw [(show rg_v h2545_z 32 0 = kn + 1 from ((rg_v_fr PF (by decide)).trans (show rg_v (am_up h 32 0 (.int (kn + 1))) 32 0 = kn + 1 from rfl))), ekn]; omega) (fun k => rg_v_fr FC47 (rg_v_in (by decide) k)) (fun k => rg_v_fr FM184 (rg_v_in (by decide) k))
        replace Z2 := rs_fr (by decide) Z2 t5_z t6_z
        have e45_z : rg_v h2554_z 164 45 = 0 := (rg_v_fr t6_z (by decide)).trans (show rg_v (am_up h2551_z 164 45 (.int 0)) 164 45 = 0 from (show rg_v (am_up h2551_z 164 45 (.int 0)) 164 45 = 0 from rfl))
        have e46_z : rg_v h2554_z 164 46 = 1 := (rg_v_fr t6_z (by decide)).trans (show rg_v (am_up h2551_z 164 45 (.int 0)) 164 46 = 1 from (show rg_v (am_up h2551_z 164 45 (.int 0)) 164 46 = 1 from ((rg_v_fr GF (by decide)).trans (show rg_v (am_up g 164 44 (.int (kn + 1))) 164 46 = 1 from w2_z))))
        replace hm_z : rn _ _ _ _ [] _ _ _ := hm_z
        replace hc_z : rn _ _ _ _ [] _ _ _ := hc_z
        replace hc_z := rn_iconst (w := 2) (am_cur_of (i := (176, 1, .iconst 2, (0, 0, 0), 0)) (by decide +kernel)) (by decide) hc_z
        replace hc_z := rn_iret (am_cur_of (i := (177, 1, .ireturn, (0, 0, 0), 0)) (by decide +kernel)) hc_z
        obtain ⟨e2556_z, e2557_z⟩ := hc_z
        replace hm_z := rn_iconst (w := 1) (am_cur_of (i := (173, 1, .iconst 1, (0, 0, 0), 0)) (by decide +kernel)) (by decide) hm_z
        replace hm_z := rn_iret (am_cur_of (i := (174, 1, .ireturn, (0, 0, 0), 0)) (by decide +kernel)) hm_z
        obtain ⟨e2558_z, e2559_z⟩ := hm_z
        subst e2556_z e2557_z e2558_z e2559_z
        exact Or.inl ⟨_, x2_z, p2_z, rfl, rfl, R2, le2_z, A2, B2, Z2, Or.inr (Or.inr ⟨rfl, e45_z⟩)⟩
  · have g0_z : am_get (lv_args 0 [.ref 44, .int 0]) 0 = some (.ref 44) := rfl
    have g1_z : am_get (lv_args 0 [.ref 44, .int 0]) 1 = some (.int 0) := rfl
    have g0m : am_get (lv_args 0 [.ref 164]) 0 = some (.ref 164) := rfl
    have Rk := R
    have Zk := Z
    obtain ⟨⟨c1_z, c2_z, c3_z, c4_z, c5_z, c6_z, c7_z, c8_z⟩, ⟨m2_z, m3_z, m4_z, m5_z, m6_z, m7_z, m8_z⟩, R3, R4, R5, R6, R7, R8, R9, R10⟩ := (R : rq T S x p 23 h g)
    obtain ⟨np, op, z1_z, z2_z, z3_z, z4_z, z5_z, z6_z, z7_z, z8_z, z9_z, z10_z⟩ := (Z : rs 23 h g)
    obtain ⟨nk1_z, nk2_z, nk3_z⟩ := A.2.2.2.2.2.1
    replace nk1_z : rg_v h 32 0 = rg_v g 164 44 := nk1_z
    replace nk2_z : 0 ≤ (rg_v h 32 0).toInt := nk2_z
    replace nk3_z : (rg_v h 32 0).toInt ≤ 64 := nk3_z
    replace z8_z : np.toInt ≤ (rg_v h 32 0).toInt + op.toInt := z8_z
    obtain ⟨kn, ekn⟩ : ∃ v, rg_v h 32 0 = v := ⟨_, rfl⟩
    rw [ekn] at nk1_z nk2_z nk3_z z8_z
    have e9_z := rt_c1 (x := kn) (by omega) (by omega)
    replace hc_z := rn_aload_n (am_cur_of (i := (0, 1, .aload_n 0, (0, 0, 0), 0)) (by decide +kernel)) g0_z hc_z
    replace hc_z := rn_getI (v := 3) (am_cur_of (i := (1, 3, .getfield 60, (4, 10, 419), 0)) (by decide +kernel)) (by decide +kernel) ka hc_z
    replace hc_z := rn_bipush (w := 6) (am_cur_of (i := (4, 2, .bipush 6, (0, 0, 0), 0)) (by decide +kernel)) (by decide) hc_z
    replace hc_z := rn_cmpT (am_cur_of (i := (6, 3, .if_icmp .ne 30, (19, 0, 0), 0)) (by decide +kernel)) (by decide) hc_z
    replace hc_z := rn_aload_n (am_cur_of (i := (36, 1, .aload_n 0, (0, 0, 0), 0)) (by decide +kernel)) g0_z hc_z
    replace hc_z := rn_bipush (w := 40) (am_cur_of (i := (37, 2, .bipush 40, (0, 0, 0), 0)) (by decide +kernel)) (by decide) hc_z
    replace hc_z := rn_callV (M' := am_m45) (o := 44) (ar := [.int 40]) (rest := []) (L := lv_args 0 [.ref 44, .int 40]) (am_cur_of (i := (39, 3, .invokevirtual 105, (45, 834, 3), 0)) (by decide +kernel)) rfl rfl rfl rfl hc_z
    obtain ⟨r2560_z, h2561_z, q2562_z, hc_z⟩ := hc_z
    obtain ⟨rfl, yq2562_z⟩ := rp_mkN (fun q => absurd (Eq.trans (Eq.symm ka) q.1) (by decide)) q2562_z
    subst yq2562_z
    replace hc_z : rn _ _ _ _ [.int 0] _ _ _ := hc_z
    replace hc_z := rn_ifT (am_cur_of (i := (42, 3, .ifCond .eq 38, (43, 0, 0), 0)) (by decide +kernel)) (by decide) hc_z
    replace hc_z := rn_aload_n (am_cur_of (i := (80, 1, .aload_n 0, (0, 0, 0), 0)) (by decide +kernel)) g0_z hc_z
    replace hc_z := rn_getI (v := 3) (am_cur_of (i := (81, 3, .getfield 60, (4, 10, 419), 0)) (by decide +kernel)) (by decide +kernel) ka hc_z
    replace hc_z := rn_iconst (w := 4) (am_cur_of (i := (84, 1, .iconst 4, (0, 0, 0), 0)) (by decide +kernel)) (by decide) hc_z
    replace hc_z := rn_cmpT (am_cur_of (i := (85, 3, .if_icmp .ne 40, (64, 0, 0), 0)) (by decide +kernel)) (by decide) hc_z
    replace hc_z := rn_aload_n (am_cur_of (i := (125, 1, .aload_n 0, (0, 0, 0), 0)) (by decide +kernel)) g0_z hc_z
    replace hc_z := rn_getI (v := 3) (am_cur_of (i := (126, 3, .getfield 60, (4, 10, 419), 0)) (by decide +kernel)) (by decide +kernel) ka hc_z
    replace hc_z := rn_iconst (w := 2) (am_cur_of (i := (129, 1, .iconst 2, (0, 0, 0), 0)) (by decide +kernel)) (by decide) hc_z
    replace hc_z := rn_cmpT (am_cur_of (i := (130, 3, .if_icmp .ne 37, (84, 0, 0), 0)) (by decide +kernel)) (by decide) hc_z
    replace hc_z := rn_aload_n (am_cur_of (i := (167, 1, .aload_n 0, (0, 0, 0), 0)) (by decide +kernel)) g0_z hc_z
    replace hc_z := rn_iconst (w := 1) (am_cur_of (i := (168, 1, .iconst 1, (0, 0, 0), 0)) (by decide +kernel)) (by decide) hc_z
    replace hc_z := rn_callV (M' := am_m29) (o := 44) (ar := [.int 1]) (rest := []) (L := lv_args 0 [.ref 44, .int 1]) (am_cur_of (i := (169, 3, .invokevirtual 108, (29, 769, 3), 0)) (by decide +kernel)) rfl rfl rfl rfl hc_z
    obtain ⟨r2563_z, h2564_z, q2565_z, hc_z⟩ := hc_z
    obtain ⟨rfl, yq2565_z⟩ := rp_fail R4 q2565_z
    subst yq2565_z
    replace hc_z : rn _ _ _ _ [] _ _ _ := hc_z
    have K := rs_stick (w := 1) (q := p) (a := 51) (by decide) (by decide) rfl (by decide) rfl (show rg_v (am_up (am_up h 44 1 (.int 1)) 44 2 (.int (rg_v h 44 9))) 44 2 = p from R5) hc_z
    replace hm_z := rn_aload_n (am_cur_of (i := (0, 1, .aload_n 0, (0, 0, 0), 0)) (by decide +kernel)) g0m hm_z
    replace hm_z := rn_bipush (w := 40) (am_cur_of (i := (1, 2, .bipush 40, (0, 0, 0), 0)) (by decide +kernel)) (by decide) hm_z
    replace hm_z := rn_callV (M' := am_m171) (o := 164) (ar := [.int 40]) (rest := []) (L := lv_args 0 [.ref 164, .int 40]) (am_cur_of (i := (3, 3, .invokevirtual 194, (171, 1715, 3), 0)) (by decide +kernel)) rfl rfl rfl rfl hm_z
    obtain ⟨r2566_z, h2567_z, q2568_z, hm_z⟩ := hm_z
    obtain ⟨rfl, yq2568_z⟩ := rp_sgN (fun q => absurd (Eq.trans (Eq.symm kc) q.1) (by decide)) q2568_z
    subst yq2568_z
    replace hm_z : rn _ _ _ _ [.int 0] _ _ _ := hm_z
    replace hm_z := rn_ifT (am_cur_of (i := (6, 3, .ifCond .eq 44, (28, 0, 0), 0)) (by decide +kernel)) (by decide) hm_z
    replace hm_z := rn_aload_n (am_cur_of (i := (50, 1, .aload_n 0, (0, 0, 0), 0)) (by decide +kernel)) g0m hm_z
    replace hm_z := rn_bipush (w := 14) (am_cur_of (i := (51, 2, .bipush 14, (0, 0, 0), 0)) (by decide +kernel)) (by decide) hm_z
    replace hm_z := rn_callV (M' := am_m174) (o := 164) (ar := [.int 14]) (rest := []) (L := lv_args 0 [.ref 164, .int 14]) (am_cur_of (i := (53, 3, .invokevirtual 306, (174, 1727, 3), 0)) (by decide +kernel)) rfl rfl rfl rfl hm_z
    obtain ⟨r2569_z, h2570_z, q2571_z, hm_z⟩ := hm_z
    obtain ⟨rfl, yq2571_z⟩ := rp_kyN (fun q => absurd (Eq.trans (Eq.symm kc) q.1) (by decide)) q2571_z
    subst yq2571_z
    replace hm_z : rn _ _ _ _ [.int 0] _ _ _ := hm_z
    replace hm_z := rn_ifT (am_cur_of (i := (56, 3, .ifCond .eq 30, (47, 0, 0), 0)) (by decide +kernel)) (by decide) hm_z
    replace hm_z := rn_aload_n (am_cur_of (i := (86, 1, .aload_n 0, (0, 0, 0), 0)) (by decide +kernel)) g0m hm_z
    replace hm_z := rn_callV (M' := am_m176) (o := 164) (ar := []) (rest := []) (L := lv_args 0 [.ref 164]) (am_cur_of (i := (87, 3, .invokevirtual 312, (176, 1735, 3), 0)) (by decide +kernel)) rfl rfl rfl rfl hm_z
    obtain ⟨r2572_z, h2573_z, q2574_z, hm_z⟩ := hm_z
    obtain ⟨rfl, yq2574_z⟩ := rp_nm (c := 2) (d := rg_v g 164 9) kc rfl q2574_z
    replace yq2574_z := yq2574_z.symm
    subst yq2574_z
    rw [show rp_nmf 2 (rg_v g 164 9) = (-1) from by unfold rp_nmf; rw [if_neg (by decide)]] at hm_z
    replace hm_z : rn _ _ _ _ [.int (-1)] _ _ _ := hm_z
    replace hm_z := rn_istore_n (am_cur_of (i := (90, 1, .istore_n 1, (0, 0, 0), 0)) (by decide +kernel)) hm_z
    obtain ⟨_, s2575_z, s2576_z, g1m, hm_z⟩ := hm_z
    replace g0m := s2575_z 0 _ (by decide) rfl g0m
    clear s2575_z s2576_z
    replace hm_z := rn_iload_n (am_cur_of (i := (91, 1, .iload_n 1, (0, 0, 0), 0)) (by decide +kernel)) g1m hm_z
    replace hm_z := rn_ifF (am_cur_of (i := (92, 3, .ifCond .ge 17, (60, 0, 0), 0)) (by decide +kernel)) (by decide) hm_z
    replace hm_z := rn_aload_n (am_cur_of (i := (95, 1, .aload_n 0, (0, 0, 0), 0)) (by decide +kernel)) g0m hm_z
    replace hm_z := rn_getI (v := 2) (am_cur_of (i := (96, 3, .getfield 157, (12, 8, 1392), 0)) (by decide +kernel)) (by decide +kernel) kc hm_z
    replace hm_z := rn_iconst (w := 3) (am_cur_of (i := (99, 1, .iconst 3, (0, 0, 0), 0)) (by decide +kernel)) (by decide) hm_z
    replace hm_z := rn_cmpF (am_cur_of (i := (100, 3, .if_icmp .eq 9, (60, 0, 0), 0)) (by decide +kernel)) (by decide) hm_z
    replace hm_z := rn_aload_n (am_cur_of (i := (103, 1, .aload_n 0, (0, 0, 0), 0)) (by decide +kernel)) g0m hm_z
    replace hm_z := rn_iconst (w := 1) (am_cur_of (i := (104, 1, .iconst 1, (0, 0, 0), 0)) (by decide +kernel)) (by decide) hm_z
    replace hm_z := rn_callV (M' := am_m158) (o := 164) (ar := [.int 1]) (rest := []) (L := lv_args 0 [.ref 164, .int 1]) (am_cur_of (i := (105, 3, .invokevirtual 181, (158, 1665, 3), 0)) (by decide +kernel)) rfl rfl rfl rfl hm_z
    obtain ⟨r2577_z, h2578_z, q2579_z, hm_z⟩ := hm_z
    obtain ⟨rfl, yq2579_z⟩ := rp_wrong q2579_z
    subst yq2579_z
    replace hm_z : rn _ _ _ _ [.int 0] _ _ _ := hm_z
    replace hm_z := rn_iret (am_cur_of (i := (108, 1, .ireturn, (0, 0, 0), 0)) (by decide +kernel)) hm_z
    obtain ⟨e2580_z, e2581_z⟩ := hm_z
    subst e2580_z e2581_z
    exact (Or.inr ⟨rfl, 1, by decide, K.1, K.2, rfl, R6⟩)
  · have g0_z : am_get (lv_args 0 [.ref 44, .int 0]) 0 = some (.ref 44) := rfl
    have g1_z : am_get (lv_args 0 [.ref 44, .int 0]) 1 = some (.int 0) := rfl
    have g0m : am_get (lv_args 0 [.ref 164]) 0 = some (.ref 164) := rfl
    have Rk := R
    have Zk := Z
    obtain ⟨⟨c1_z, c2_z, c3_z, c4_z, c5_z, c6_z, c7_z, c8_z⟩, ⟨m2_z, m3_z, m4_z, m5_z, m6_z, m7_z, m8_z⟩, R3, R4, R5, R6, R7, R8, R9, R10⟩ := (R : rq T S x p 23 h g)
    obtain ⟨np, op, z1_z, z2_z, z3_z, z4_z, z5_z, z6_z, z7_z, z8_z, z9_z, z10_z⟩ := (Z : rs 23 h g)
    obtain ⟨nk1_z, nk2_z, nk3_z⟩ := A.2.2.2.2.2.1
    replace nk1_z : rg_v h 32 0 = rg_v g 164 44 := nk1_z
    replace nk2_z : 0 ≤ (rg_v h 32 0).toInt := nk2_z
    replace nk3_z : (rg_v h 32 0).toInt ≤ 64 := nk3_z
    replace z8_z : np.toInt ≤ (rg_v h 32 0).toInt + op.toInt := z8_z
    obtain ⟨kn, ekn⟩ : ∃ v, rg_v h 32 0 = v := ⟨_, rfl⟩
    rw [ekn] at nk1_z nk2_z nk3_z z8_z
    have e9_z := rt_c1 (x := kn) (by omega) (by omega)
    replace hc_z := rn_aload_n (am_cur_of (i := (0, 1, .aload_n 0, (0, 0, 0), 0)) (by decide +kernel)) g0_z hc_z
    replace hc_z := rn_getI (v := 4) (am_cur_of (i := (1, 3, .getfield 60, (4, 10, 419), 0)) (by decide +kernel)) (by decide +kernel) ka hc_z
    replace hc_z := rn_bipush (w := 6) (am_cur_of (i := (4, 2, .bipush 6, (0, 0, 0), 0)) (by decide +kernel)) (by decide) hc_z
    replace hc_z := rn_cmpT (am_cur_of (i := (6, 3, .if_icmp .ne 30, (19, 0, 0), 0)) (by decide +kernel)) (by decide) hc_z
    replace hc_z := rn_aload_n (am_cur_of (i := (36, 1, .aload_n 0, (0, 0, 0), 0)) (by decide +kernel)) g0_z hc_z
    replace hc_z := rn_bipush (w := 40) (am_cur_of (i := (37, 2, .bipush 40, (0, 0, 0), 0)) (by decide +kernel)) (by decide) hc_z
    replace hc_z := rn_callV (M' := am_m45) (o := 44) (ar := [.int 40]) (rest := []) (L := lv_args 0 [.ref 44, .int 40]) (am_cur_of (i := (39, 3, .invokevirtual 105, (45, 834, 3), 0)) (by decide +kernel)) rfl rfl rfl rfl hc_z
    obtain ⟨r2582_z, h2583_z, q2584_z, hc_z⟩ := hc_z
    obtain ⟨rfl, yq2584_z⟩ := rp_mkN (fun q => absurd (Eq.trans (Eq.symm ka) q.1) (by decide)) q2584_z
    subst yq2584_z
    replace hc_z : rn _ _ _ _ [.int 0] _ _ _ := hc_z
    replace hc_z := rn_ifT (am_cur_of (i := (42, 3, .ifCond .eq 38, (43, 0, 0), 0)) (by decide +kernel)) (by decide) hc_z
    replace hc_z := rn_aload_n (am_cur_of (i := (80, 1, .aload_n 0, (0, 0, 0), 0)) (by decide +kernel)) g0_z hc_z
    replace hc_z := rn_getI (v := 4) (am_cur_of (i := (81, 3, .getfield 60, (4, 10, 419), 0)) (by decide +kernel)) (by decide +kernel) ka hc_z
    replace hc_z := rn_iconst (w := 4) (am_cur_of (i := (84, 1, .iconst 4, (0, 0, 0), 0)) (by decide +kernel)) (by decide) hc_z
    replace hc_z := rn_cmpF (am_cur_of (i := (85, 3, .if_icmp .ne 40, (64, 0, 0), 0)) (by decide +kernel)) (by decide) hc_z
    replace hc_z := rn_aload_n (am_cur_of (i := (88, 1, .aload_n 0, (0, 0, 0), 0)) (by decide +kernel)) g0_z hc_z
    replace hc_z := rn_getI (v := rg_v h 44 11) (am_cur_of (i := (89, 3, .getfield 91, (4, 11, 420), 0)) (by decide +kernel)) (by decide +kernel) rfl hc_z
    replace hc_z := rn_sipush (w := 9999) (am_cur_of (i := (92, 3, .sipush 9999, (0, 0, 0), 0)) (by decide +kernel)) (by decide) hc_z
    replace hc_z := rn_cmp (am_cur_of (i := (95, 3, .if_icmp .le 8, (54, 0, 0), 0)) (by decide +kernel)) hc_z
    rcases hc_z with ⟨b2585_z, hc_z⟩ | ⟨b2585_z, hc_z⟩
    · replace b2585_z : (rg_v h 44 11).toInt ≤ (9999 : Int32).toInt := b2585_z
      replace hc_z := rn_aload_n (am_cur_of (i := (103, 1, .aload_n 0, (0, 0, 0), 0)) (by decide +kernel)) g0_z hc_z
      replace hc_z := rn_callV (M' := am_m49) (o := 44) (ar := []) (rest := []) (L := lv_args 0 [.ref 44]) (am_cur_of (i := (104, 3, .invokevirtual 270, (49, 852, 3), 0)) (by decide +kernel)) rfl rfl rfl rfl hc_z
      obtain ⟨r2586_z, h2587_z, q2588_z, hc_z⟩ := hc_z
      rcases rs_ck23 R4 (show h 44 6 = .ref 23 from R3) q2588_z with ⟨ge, rfl, eh⟩ | ⟨lt, rfl, eh⟩
      · subst eh
        replace ge : 64 ≤ kn.toInt := by rw [← ekn]; exact ge
        replace hc_z : rn _ _ _ _ [] _ _ _ := hc_z
        have K := rs_stick (w := 2) (q := p) (a := 51) (by decide) (by decide) rfl (by decide) rfl (show rg_v (am_up (am_up h 44 1 (.int 2)) 44 2 (.int (rg_v h 44 9))) 44 2 = p from R5) hc_z
        replace hm_z := rn_aload_n (am_cur_of (i := (0, 1, .aload_n 0, (0, 0, 0), 0)) (by decide +kernel)) g0m hm_z
        replace hm_z := rn_bipush (w := 40) (am_cur_of (i := (1, 2, .bipush 40, (0, 0, 0), 0)) (by decide +kernel)) (by decide) hm_z
        replace hm_z := rn_callV (M' := am_m171) (o := 164) (ar := [.int 40]) (rest := []) (L := lv_args 0 [.ref 164, .int 40]) (am_cur_of (i := (3, 3, .invokevirtual 194, (171, 1715, 3), 0)) (by decide +kernel)) rfl rfl rfl rfl hm_z
        obtain ⟨r2589_z, h2590_z, q2591_z, hm_z⟩ := hm_z
        obtain ⟨rfl, yq2591_z⟩ := rp_sgN (fun q => absurd (Eq.trans (Eq.symm kc) q.1) (by decide)) q2591_z
        subst yq2591_z
        replace hm_z : rn _ _ _ _ [.int 0] _ _ _ := hm_z
        replace hm_z := rn_ifT (am_cur_of (i := (6, 3, .ifCond .eq 44, (28, 0, 0), 0)) (by decide +kernel)) (by decide) hm_z
        replace hm_z := rn_aload_n (am_cur_of (i := (50, 1, .aload_n 0, (0, 0, 0), 0)) (by decide +kernel)) g0m hm_z
        replace hm_z := rn_bipush (w := 14) (am_cur_of (i := (51, 2, .bipush 14, (0, 0, 0), 0)) (by decide +kernel)) (by decide) hm_z
        replace hm_z := rn_callV (M' := am_m174) (o := 164) (ar := [.int 14]) (rest := []) (L := lv_args 0 [.ref 164, .int 14]) (am_cur_of (i := (53, 3, .invokevirtual 306, (174, 1727, 3), 0)) (by decide +kernel)) rfl rfl rfl rfl hm_z
        obtain ⟨r2592_z, h2593_z, q2594_z, hm_z⟩ := hm_z
        obtain ⟨rfl, yq2594_z⟩ := rp_kyN (fun q => absurd (Eq.trans (Eq.symm kc) q.1) (by decide)) q2594_z
        subst yq2594_z
        replace hm_z : rn _ _ _ _ [.int 0] _ _ _ := hm_z
        replace hm_z := rn_ifT (am_cur_of (i := (56, 3, .ifCond .eq 30, (47, 0, 0), 0)) (by decide +kernel)) (by decide) hm_z
        replace hm_z := rn_aload_n (am_cur_of (i := (86, 1, .aload_n 0, (0, 0, 0), 0)) (by decide +kernel)) g0m hm_z
        replace hm_z := rn_callV (M' := am_m176) (o := 164) (ar := []) (rest := []) (L := lv_args 0 [.ref 164]) (am_cur_of (i := (87, 3, .invokevirtual 312, (176, 1735, 3), 0)) (by decide +kernel)) rfl rfl rfl rfl hm_z
        obtain ⟨r2595_z, h2596_z, q2597_z, hm_z⟩ := hm_z
        obtain ⟨rfl, yq2597_z⟩ := rp_nm (c := 3) (d := rg_v g 164 9) kc rfl q2597_z
        replace yq2597_z := yq2597_z.symm
        subst yq2597_z
        rw [show rp_nmf 3 (rg_v g 164 9) = (-1) from by unfold rp_nmf; rw [if_neg (by decide)]] at hm_z
        replace hm_z : rn _ _ _ _ [.int (-1)] _ _ _ := hm_z
        replace hm_z := rn_istore_n (am_cur_of (i := (90, 1, .istore_n 1, (0, 0, 0), 0)) (by decide +kernel)) hm_z
        obtain ⟨_, s2598_z, s2599_z, g1m, hm_z⟩ := hm_z
        replace g0m := s2598_z 0 _ (by decide) rfl g0m
        clear s2598_z s2599_z
        replace hm_z := rn_iload_n (am_cur_of (i := (91, 1, .iload_n 1, (0, 0, 0), 0)) (by decide +kernel)) g1m hm_z
        replace hm_z := rn_ifF (am_cur_of (i := (92, 3, .ifCond .ge 17, (60, 0, 0), 0)) (by decide +kernel)) (by decide) hm_z
        replace hm_z := rn_aload_n (am_cur_of (i := (95, 1, .aload_n 0, (0, 0, 0), 0)) (by decide +kernel)) g0m hm_z
        replace hm_z := rn_getI (v := 3) (am_cur_of (i := (96, 3, .getfield 157, (12, 8, 1392), 0)) (by decide +kernel)) (by decide +kernel) kc hm_z
        replace hm_z := rn_iconst (w := 3) (am_cur_of (i := (99, 1, .iconst 3, (0, 0, 0), 0)) (by decide +kernel)) (by decide) hm_z
        replace hm_z := rn_cmpT (am_cur_of (i := (100, 3, .if_icmp .eq 9, (60, 0, 0), 0)) (by decide +kernel)) (by decide) hm_z
        replace hm_z := rn_iload_n (am_cur_of (i := (109, 1, .iload_n 1, (0, 0, 0), 0)) (by decide +kernel)) g1m hm_z
        replace hm_z := rn_ifF (am_cur_of (i := (110, 3, .ifCond .ge 19, (70, 0, 0), 0)) (by decide +kernel)) (by decide) hm_z
        replace hm_z := rn_aload_n (am_cur_of (i := (113, 1, .aload_n 0, (0, 0, 0), 0)) (by decide +kernel)) g0m hm_z
        replace hm_z := rn_getI (v := rg_v g 164 9) (am_cur_of (i := (114, 3, .getfield 168, (12, 9, 1393), 0)) (by decide +kernel)) (by decide +kernel) rfl hm_z
        replace hm_z := rn_sipush (w := 9999) (am_cur_of (i := (117, 3, .sipush 9999, (0, 0, 0), 0)) (by decide +kernel)) (by decide) hm_z
        replace hm_z := rn_cmp (am_cur_of (i := (120, 3, .if_icmp .le 9, (70, 0, 0), 0)) (by decide +kernel)) hm_z
        rcases hm_z with ⟨b2600_z, hm_z⟩ | ⟨b2600_z, hm_z⟩
        · replace b2600_z : (rg_v g 164 9).toInt ≤ (9999 : Int32).toInt := b2600_z
          replace hm_z := rn_aload_n (am_cur_of (i := (129, 1, .aload_n 0, (0, 0, 0), 0)) (by decide +kernel)) g0m hm_z
          replace hm_z := rn_callV (M' := am_m175) (o := 164) (ar := []) (rest := []) (L := lv_args 0 [.ref 164]) (am_cur_of (i := (130, 3, .invokevirtual 309, (175, 1731, 3), 0)) (by decide +kernel)) rfl rfl rfl rfl hm_z
          obtain ⟨r2601_z, h2602_z, q2603_z, hm_z⟩ := hm_z
          rcases rs_ic q2603_z with ⟨i1_z, rfl, i3_z⟩ | ⟨i1_z, -⟩
          · subst i3_z
            replace hm_z : rn _ _ _ _ [.int 0] _ _ _ := hm_z
            replace hm_z := rn_ifF (am_cur_of (i := (133, 3, .ifCond .ne 5, (75, 0, 0), 0)) (by decide +kernel)) (by decide) hm_z
            replace hm_z := rn_iconst (w := 0) (am_cur_of (i := (136, 1, .iconst 0, (0, 0, 0), 0)) (by decide +kernel)) (by decide) hm_z
            replace hm_z := rn_iret (am_cur_of (i := (137, 1, .ireturn, (0, 0, 0), 0)) (by decide +kernel)) hm_z
            obtain ⟨e2604_z, e2605_z⟩ := hm_z
            subst e2604_z e2605_z
            exact (Or.inr ⟨rfl, 2, by decide, K.1, K.2, rfl, R6⟩)
          · exact absurd (Int32.toInt_inj.mp (show (rg_v g 164 44).toInt = (64 : Int32).toInt from by rw [show rg_v g 164 44 = kn from nk1_z.symm, show (64 : Int32).toInt = 64 by decide]; omega)) i1_z
        · replace b2600_z : (9999 : Int32).toInt < (rg_v g 164 9).toInt := b2600_z
          omega
      · subst eh
        replace lt : kn.toInt < 64 := by rw [← ekn]; exact lt
        rw [show rg_v h 32 0 = kn from ekn] at hc_z
        replace hm_z := rn_aload_n (am_cur_of (i := (0, 1, .aload_n 0, (0, 0, 0), 0)) (by decide +kernel)) g0m hm_z
        replace hm_z := rn_bipush (w := 40) (am_cur_of (i := (1, 2, .bipush 40, (0, 0, 0), 0)) (by decide +kernel)) (by decide) hm_z
        replace hm_z := rn_callV (M' := am_m171) (o := 164) (ar := [.int 40]) (rest := []) (L := lv_args 0 [.ref 164, .int 40]) (am_cur_of (i := (3, 3, .invokevirtual 194, (171, 1715, 3), 0)) (by decide +kernel)) rfl rfl rfl rfl hm_z
        obtain ⟨r2606_z, h2607_z, q2608_z, hm_z⟩ := hm_z
        obtain ⟨rfl, yq2608_z⟩ := rp_sgN (fun q => absurd (Eq.trans (Eq.symm kc) q.1) (by decide)) q2608_z
        subst yq2608_z
        replace hm_z : rn _ _ _ _ [.int 0] _ _ _ := hm_z
        replace hm_z := rn_ifT (am_cur_of (i := (6, 3, .ifCond .eq 44, (28, 0, 0), 0)) (by decide +kernel)) (by decide) hm_z
        replace hm_z := rn_aload_n (am_cur_of (i := (50, 1, .aload_n 0, (0, 0, 0), 0)) (by decide +kernel)) g0m hm_z
        replace hm_z := rn_bipush (w := 14) (am_cur_of (i := (51, 2, .bipush 14, (0, 0, 0), 0)) (by decide +kernel)) (by decide) hm_z
        replace hm_z := rn_callV (M' := am_m174) (o := 164) (ar := [.int 14]) (rest := []) (L := lv_args 0 [.ref 164, .int 14]) (am_cur_of (i := (53, 3, .invokevirtual 306, (174, 1727, 3), 0)) (by decide +kernel)) rfl rfl rfl rfl hm_z
        obtain ⟨r2609_z, h2610_z, q2611_z, hm_z⟩ := hm_z
        obtain ⟨rfl, yq2611_z⟩ := rp_kyN (fun q => absurd (Eq.trans (Eq.symm kc) q.1) (by decide)) q2611_z
        subst yq2611_z
        replace hm_z : rn _ _ _ _ [.int 0] _ _ _ := hm_z
        replace hm_z := rn_ifT (am_cur_of (i := (56, 3, .ifCond .eq 30, (47, 0, 0), 0)) (by decide +kernel)) (by decide) hm_z
        replace hm_z := rn_aload_n (am_cur_of (i := (86, 1, .aload_n 0, (0, 0, 0), 0)) (by decide +kernel)) g0m hm_z
        replace hm_z := rn_callV (M' := am_m176) (o := 164) (ar := []) (rest := []) (L := lv_args 0 [.ref 164]) (am_cur_of (i := (87, 3, .invokevirtual 312, (176, 1735, 3), 0)) (by decide +kernel)) rfl rfl rfl rfl hm_z
        obtain ⟨r2612_z, h2613_z, q2614_z, hm_z⟩ := hm_z
        obtain ⟨rfl, yq2614_z⟩ := rp_nm (c := 3) (d := rg_v g 164 9) kc rfl q2614_z
        replace yq2614_z := yq2614_z.symm
        subst yq2614_z
        rw [show rp_nmf 3 (rg_v g 164 9) = (-1) from by unfold rp_nmf; rw [if_neg (by decide)]] at hm_z
        replace hm_z : rn _ _ _ _ [.int (-1)] _ _ _ := hm_z
        replace hm_z := rn_istore_n (am_cur_of (i := (90, 1, .istore_n 1, (0, 0, 0), 0)) (by decide +kernel)) hm_z
        obtain ⟨_, s2615_z, s2616_z, g1m, hm_z⟩ := hm_z
        replace g0m := s2615_z 0 _ (by decide) rfl g0m
        clear s2615_z s2616_z
        replace hm_z := rn_iload_n (am_cur_of (i := (91, 1, .iload_n 1, (0, 0, 0), 0)) (by decide +kernel)) g1m hm_z
        replace hm_z := rn_ifF (am_cur_of (i := (92, 3, .ifCond .ge 17, (60, 0, 0), 0)) (by decide +kernel)) (by decide) hm_z
        replace hm_z := rn_aload_n (am_cur_of (i := (95, 1, .aload_n 0, (0, 0, 0), 0)) (by decide +kernel)) g0m hm_z
        replace hm_z := rn_getI (v := 3) (am_cur_of (i := (96, 3, .getfield 157, (12, 8, 1392), 0)) (by decide +kernel)) (by decide +kernel) kc hm_z
        replace hm_z := rn_iconst (w := 3) (am_cur_of (i := (99, 1, .iconst 3, (0, 0, 0), 0)) (by decide +kernel)) (by decide) hm_z
        replace hm_z := rn_cmpT (am_cur_of (i := (100, 3, .if_icmp .eq 9, (60, 0, 0), 0)) (by decide +kernel)) (by decide) hm_z
        replace hm_z := rn_iload_n (am_cur_of (i := (109, 1, .iload_n 1, (0, 0, 0), 0)) (by decide +kernel)) g1m hm_z
        replace hm_z := rn_ifF (am_cur_of (i := (110, 3, .ifCond .ge 19, (70, 0, 0), 0)) (by decide +kernel)) (by decide) hm_z
        replace hm_z := rn_aload_n (am_cur_of (i := (113, 1, .aload_n 0, (0, 0, 0), 0)) (by decide +kernel)) g0m hm_z
        replace hm_z := rn_getI (v := rg_v g 164 9) (am_cur_of (i := (114, 3, .getfield 168, (12, 9, 1393), 0)) (by decide +kernel)) (by decide +kernel) rfl hm_z
        replace hm_z := rn_sipush (w := 9999) (am_cur_of (i := (117, 3, .sipush 9999, (0, 0, 0), 0)) (by decide +kernel)) (by decide) hm_z
        replace hm_z := rn_cmp (am_cur_of (i := (120, 3, .if_icmp .le 9, (70, 0, 0), 0)) (by decide +kernel)) hm_z
        rcases hm_z with ⟨b2617_z, hm_z⟩ | ⟨b2617_z, hm_z⟩
        · replace b2617_z : (rg_v g 164 9).toInt ≤ (9999 : Int32).toInt := b2617_z
          replace hm_z := rn_aload_n (am_cur_of (i := (129, 1, .aload_n 0, (0, 0, 0), 0)) (by decide +kernel)) g0m hm_z
          replace hm_z := rn_callV (M' := am_m175) (o := 164) (ar := []) (rest := []) (L := lv_args 0 [.ref 164]) (am_cur_of (i := (130, 3, .invokevirtual 309, (175, 1731, 3), 0)) (by decide +kernel)) rfl rfl rfl rfl hm_z
          obtain ⟨r2618_z, h2619_z, q2620_z, hm_z⟩ := hm_z
          rcases rs_ic q2620_z with ⟨i1_z, -⟩ | ⟨i1_z, rfl, i3_z⟩
          · exfalso
            have zz := congrArg Int32.toInt i1_z
            rw [show rg_v g 164 44 = kn from nk1_z.symm, show (64 : Int32).toInt = 64 by decide] at zz
            omega
          · subst i3_z
            rw [show rg_v g 164 44 = kn from nk1_z.symm] at hm_z
            replace hm_z : rn _ _ _ _ [.int 1] _ _ _ := hm_z
            replace hc_z : rn _ _ _ _ [] _ _ _ := hc_z
            replace hc_z := rn_aload_n (am_cur_of (i := (107, 1, .aload_n 0, (0, 0, 0), 0)) (by decide +kernel)) g0_z hc_z
            replace hc_z := rn_getM (x := 23) (am_cur_of (i := (108, 3, .getfield 25, (4, 6, 415), 0)) (by decide +kernel)) (show (am_up h 32 0 (.int (kn + 1))) 44 6 = .ref 23 from R3) hc_z
            replace hc_z := rn_getR (x := 32) (am_cur_of (i := (111, 3, .getfield 242, (1, 19, 316), 0)) (by decide +kernel)) (by decide +kernel) hc_z
            replace hc_z := rn_iconst (w := 0) (am_cur_of (i := (114, 1, .iconst 0, (0, 0, 0), 0)) (by decide +kernel)) (by decide) hc_z
            replace hc_z := rn_aload_n (am_cur_of (i := (115, 1, .aload_n 0, (0, 0, 0), 0)) (by decide +kernel)) g0_z hc_z
            replace hc_z := rn_getI (v := rg_v h 44 11) (am_cur_of (i := (116, 3, .getfield 91, (4, 11, 420), 0)) (by decide +kernel)) (by decide +kernel) (show rg_v (am_up h 32 0 (.int (kn + 1))) 44 11 = rg_v h 44 11 from rfl) hc_z
            replace hc_z := rn_callV (M' := am_m48) (o := 32) (ar := [.int (rg_v h 44 11), .int 0]) (rest := []) (L := lv_args 0 [.ref 32, .int 0, .int (rg_v h 44 11)]) (am_cur_of (i := (119, 3, .invokevirtual 276, (48, 845, 3), 0)) (by decide +kernel)) rfl rfl rfl rfl hc_z
            obtain ⟨r2621_z, h2622_z, q2623_z, hc_z⟩ := hc_z
            obtain ⟨rfl, PF⟩ := rs_put23 q2623_z
            replace hc_z : rn _ _ _ _ [] _ _ _ := hc_z
            replace hc_z := rn_goto (am_cur_of (i := (122, 3, .goto 50, (87, 0, 0), 0)) (by decide +kernel)) hc_z
            replace hc_z := rn_aload_n (am_cur_of (i := (172, 1, .aload_n 0, (0, 0, 0), 0)) (by decide +kernel)) g0_z hc_z
            replace hc_z := rn_callV (M' := am_m19) (o := 44) (ar := []) (rest := []) (L := lv_args 0 [.ref 44]) (am_cur_of (i := (173, 3, .invokevirtual 57, (19, 727, 3), 0)) (by decide +kernel)) rfl rfl rfl rfl hc_z
            obtain ⟨r2624_z, h2625_z, q2626_z, hc_z⟩ := hc_z
            have vo := rn_void rfl q2626_z
            subst vo
            replace hm_z := rn_ifT (am_cur_of (i := (133, 3, .ifCond .ne 5, (75, 0, 0), 0)) (by decide +kernel)) (by decide) hm_z
            replace hm_z := rn_aload_n (am_cur_of (i := (138, 1, .aload_n 0, (0, 0, 0), 0)) (by decide +kernel)) g0m hm_z
            replace hm_z := rn_iload_n (am_cur_of (i := (139, 1, .iload_n 1, (0, 0, 0), 0)) (by decide +kernel)) g1m hm_z
            replace hm_z := rn_ifT (am_cur_of (i := (140, 3, .ifCond .lt 7, (80, 0, 0), 0)) (by decide +kernel)) (by decide) hm_z
            replace hm_z := rn_iconst (w := 0) (am_cur_of (i := (147, 1, .iconst 0, (0, 0, 0), 0)) (by decide +kernel)) (by decide) hm_z
            replace hm_z := rn_iload_n (am_cur_of (i := (148, 1, .iload_n 1, (0, 0, 0), 0)) (by decide +kernel)) g1m hm_z
            replace hm_z := rn_ifT (am_cur_of (i := (149, 3, .ifCond .lt 7, (85, 0, 0), 0)) (by decide +kernel)) (by decide) hm_z
            replace hm_z := rn_aload_n (am_cur_of (i := (156, 1, .aload_n 0, (0, 0, 0), 0)) (by decide +kernel)) g0m hm_z
            replace hm_z := rn_getI (v := rg_v g 164 9) (am_cur_of (i := (157, 3, .getfield 168, (12, 9, 1393), 0)) (by decide +kernel)) (by decide +kernel) (show rg_v (am_up g 164 44 (.int (kn + 1))) 164 9 = rg_v g 164 9 from rfl) hm_z
            replace hm_z := rn_iconst (w := 0) (am_cur_of (i := (160, 1, .iconst 0, (0, 0, 0), 0)) (by decide +kernel)) (by decide) hm_z
            replace hm_z := rn_callV (M' := am_m177) (o := 164) (ar := [.int 0, .int (rg_v g 164 9), .int 0]) (rest := []) (L := lv_args 0 [.ref 164, .int 0, .int (rg_v g 164 9), .int 0]) (am_cur_of (i := (161, 3, .invokevirtual 291, (177, 1739, 3), 0)) (by decide +kernel)) rfl rfl rfl rfl hm_z
            obtain ⟨r2627_z, h2628_z, q2629_z, hm_z⟩ := hm_z
            obtain ⟨rfl, GF⟩ := rs_grown q2629_z
            replace hm_z : rn _ _ _ _ [] _ _ _ := hm_z
            replace hm_z := rn_aload_n (am_cur_of (i := (164, 1, .aload_n 0, (0, 0, 0), 0)) (by decide +kernel)) g0m hm_z
            replace hm_z := rn_iconst (w := 0) (am_cur_of (i := (165, 1, .iconst 0, (0, 0, 0), 0)) (by decide +kernel)) (by decide) hm_z
            replace hm_z := rn_put (am_cur_of (i := (166, 3, .putfield 315, (12, 45, 1429), 0)) (by decide +kernel)) (by decide +kernel) hm_z
            replace hm_z := rn_aload_n (am_cur_of (i := (169, 1, .aload_n 0, (0, 0, 0), 0)) (by decide +kernel)) g0m hm_z
            replace hm_z := rn_callV (M' := am_m151) (o := 164) (ar := []) (rest := []) (L := lv_args 0 [.ref 164]) (am_cur_of (i := (170, 3, .invokevirtual 191, (151, 1636, 3), 0)) (by decide +kernel)) rfl rfl rfl rfl hm_z
            obtain ⟨r2630_z, h2631_z, q2632_z, hm_z⟩ := hm_z
            have vo := rn_void rfl q2632_z
            subst vo
            have FC : ab_Fr (rz_MC23.drop 1) h h2622_z := ab_Fr_trans (ab_Fr_up rfl ab_Fr_refl) (ab_Fr_sub (by decide) PF)
            have FC' : ab_Fr rz_MC23 h h2622_z := ab_Fr_sub (by decide) FC
            have FM : ab_Fr rz_MM g (am_up h2628_z 164 45 (.int 0)) := ab_Fr_up rfl (ab_Fr_trans (ab_Fr_up rfl ab_Fr_refl) (ab_Fr_sub (by decide) GF))
            obtain ⟨-, -, x2_z, p2_z, R2, le2_z, t5_z, t6_z⟩ := pr_tok (rz_q023 (rq_0 Rk) FC' FM) q2626_z q2632_z
            have A2 := rp_x (by decide) (rz_p23 A FC' FM ((show rg_v h2622_z 32 0 = kn + 1 from ((rg_v_fr PF (by decide)).trans (show rg_v (am_up h 32 0 (.int (kn + 1))) 32 0 = kn + 1 from rfl))).trans (show rg_v (am_up h2628_z 164 45 (.int 0)) 164 44 = kn + 1 from (show rg_v (am_up h2628_z 164 45 (.int 0)) 164 44 = kn + 1 from ((rg_v_fr GF (by decide)).trans (show rg_v (am_up g 164 44 (.int (kn + 1))) 164 44 = kn + 1 from rfl)))).symm) (by rw [show rg_v h2622_z 32 0 = kn + 1 from ((rg_v_fr PF (by decide)).trans (show rg_v (am_up h 32 0 (.int (kn + 1))) 32 0 = kn + 1 from rfl))]; omega) (by rw [show rg_v h2622_z 32 0 = kn + 1 from ((rg_v_fr PF (by decide)).trans (show rg_v (am_up h 32 0 (.int (kn + 1))) 32 0 = kn + 1 from rfl))]; omega)) (rx_C_f t5_z) (rx_M_f t6_z)
            have B2 := rp_tk (rz_t23 B FC FM) (rg_v_fr t5_z (by decide)) (fun k => rg_v_fr t6_z (rg_v_in (by decide) k)) (rx_M_f t6_z)
            have FC47 : ab_Fr [(44, 14), (44, 15), (32, 1), (32, 2), (33, 0), (34, 0)] h h2622_z := ab_Fr_trans (ab_Fr_up rfl ab_Fr_refl) (ab_Fr_sub (by decide) PF)
            have FM184 : ab_Fr [(164, 42), (164, 43), (164, 44), (164, 45), (164, 46), (164, 47), (164, 22), (181, 0), (182, 0), (183, 0), (185, 0)] g (am_up h2628_z 164 45 (.int 0)) := ab_Fr_up rfl (ab_Fr_trans (ab_Fr_up rfl ab_Fr_refl) (ab_Fr_sub (by decide) GF))
            have Z2 : rs 23 h2622_z (am_up h2628_z 164 45 (.int 0)) := rs_keep Zk ((show rg_v h2622_z 44 13 = np from ((rg_v_fr PF (by decide)).trans (show rg_v (am_up h 32 0 (.int (kn + 1))) 44 13 = np from z1_z))).trans z1_z.symm) ((show rg_v (am_up h2628_z 164 45 (.int 0)) 164 41 = np from (show rg_v (am_up h2628_z 164 45 (.int 0)) 164 41 = np from ((rg_v_fr GF (by decide)).trans (show rg_v (am_up g 164 44 (.int (kn + 1))) 164 41 = np from z2_z)))).trans z2_z.symm) ((show rg_v h2622_z 44 14 = op from ((rg_v_fr PF (by decide)).trans (show rg_v (am_up h 32 0 (.int (kn + 1))) 44 14 = op from z4_z))).trans z4_z.symm) ((show rg_v (am_up h2628_z 164 45 (.int 0)) 164 43 = op from (show rg_v (am_up h2628_z 164 45 (.int 0)) 164 43 = op from ((rg_v_fr GF (by decide)).trans (show rg_v (am_up g 164 44 (.int (kn + 1))) 164 43 = op from z5_z)))).trans z5_z.symm) (show (rg_v h 32 0).toInt ≤ (rg_v h2622_z 32 0).toInt by rw [(show rg_v h2622_z 32 0 = kn + 1 from ((rg_v_fr PF (by decide)).trans (show rg_v (am_up h 32 0 (.int (kn + 1))) 32 0 = kn + 1 from rfl))), ekn]; omega) (fun k => rg_v_fr FC47 (rg_v_in (by decide) k)) (fun k => rg_v_fr FM184 (rg_v_in (by decide) k))
            replace Z2 := rs_fr (by decide) Z2 t5_z t6_z
            have e45_z : rg_v h2631_z 164 45 = 0 := (rg_v_fr t6_z (by decide)).trans (show rg_v (am_up h2628_z 164 45 (.int 0)) 164 45 = 0 from (show rg_v (am_up h2628_z 164 45 (.int 0)) 164 45 = 0 from rfl))
            have e46_z : rg_v h2631_z 164 46 = 1 := (rg_v_fr t6_z (by decide)).trans (show rg_v (am_up h2628_z 164 45 (.int 0)) 164 46 = 1 from (show rg_v (am_up h2628_z 164 45 (.int 0)) 164 46 = 1 from ((rg_v_fr GF (by decide)).trans (show rg_v (am_up g 164 44 (.int (kn + 1))) 164 46 = 1 from w2_z))))
            replace hm_z : rn _ _ _ _ [] _ _ _ := hm_z
            replace hc_z : rn _ _ _ _ [] _ _ _ := hc_z
            replace hc_z := rn_iconst (w := 2) (am_cur_of (i := (176, 1, .iconst 2, (0, 0, 0), 0)) (by decide +kernel)) (by decide) hc_z
            replace hc_z := rn_iret (am_cur_of (i := (177, 1, .ireturn, (0, 0, 0), 0)) (by decide +kernel)) hc_z
            obtain ⟨e2633_z, e2634_z⟩ := hc_z
            replace hm_z := rn_iconst (w := 1) (am_cur_of (i := (173, 1, .iconst 1, (0, 0, 0), 0)) (by decide +kernel)) (by decide) hm_z
            replace hm_z := rn_iret (am_cur_of (i := (174, 1, .ireturn, (0, 0, 0), 0)) (by decide +kernel)) hm_z
            obtain ⟨e2635_z, e2636_z⟩ := hm_z
            subst e2633_z e2634_z e2635_z e2636_z
            exact Or.inl ⟨_, x2_z, p2_z, rfl, rfl, R2, le2_z, A2, B2, Z2, Or.inr (Or.inr ⟨rfl, e45_z⟩)⟩
        · replace b2617_z : (9999 : Int32).toInt < (rg_v g 164 9).toInt := b2617_z
          omega
    · replace b2585_z : (9999 : Int32).toInt < (rg_v h 44 11).toInt := b2585_z
      replace hc_z := rn_aload_n (am_cur_of (i := (98, 1, .aload_n 0, (0, 0, 0), 0)) (by decide +kernel)) g0_z hc_z
      replace hc_z := rn_iconst (w := 2) (am_cur_of (i := (99, 1, .iconst 2, (0, 0, 0), 0)) (by decide +kernel)) (by decide) hc_z
      replace hc_z := rn_callV (M' := am_m29) (o := 44) (ar := [.int 2]) (rest := []) (L := lv_args 0 [.ref 44, .int 2]) (am_cur_of (i := (100, 3, .invokevirtual 108, (29, 769, 3), 0)) (by decide +kernel)) rfl rfl rfl rfl hc_z
      obtain ⟨r2637_z, h2638_z, q2639_z, hc_z⟩ := hc_z
      obtain ⟨rfl, yq2639_z⟩ := rp_fail R4 q2639_z
      subst yq2639_z
      replace hc_z : rn _ _ _ _ [] _ _ _ := hc_z
      have K := rs_stick (w := 2) (q := p) (a := 51) (by decide) (by decide) rfl (by decide) rfl (show rg_v (am_up (am_up h 44 1 (.int 2)) 44 2 (.int (rg_v h 44 9))) 44 2 = p from R5) hc_z
      replace hm_z := rn_aload_n (am_cur_of (i := (0, 1, .aload_n 0, (0, 0, 0), 0)) (by decide +kernel)) g0m hm_z
      replace hm_z := rn_bipush (w := 40) (am_cur_of (i := (1, 2, .bipush 40, (0, 0, 0), 0)) (by decide +kernel)) (by decide) hm_z
      replace hm_z := rn_callV (M' := am_m171) (o := 164) (ar := [.int 40]) (rest := []) (L := lv_args 0 [.ref 164, .int 40]) (am_cur_of (i := (3, 3, .invokevirtual 194, (171, 1715, 3), 0)) (by decide +kernel)) rfl rfl rfl rfl hm_z
      obtain ⟨r2640_z, h2641_z, q2642_z, hm_z⟩ := hm_z
      obtain ⟨rfl, yq2642_z⟩ := rp_sgN (fun q => absurd (Eq.trans (Eq.symm kc) q.1) (by decide)) q2642_z
      subst yq2642_z
      replace hm_z : rn _ _ _ _ [.int 0] _ _ _ := hm_z
      replace hm_z := rn_ifT (am_cur_of (i := (6, 3, .ifCond .eq 44, (28, 0, 0), 0)) (by decide +kernel)) (by decide) hm_z
      replace hm_z := rn_aload_n (am_cur_of (i := (50, 1, .aload_n 0, (0, 0, 0), 0)) (by decide +kernel)) g0m hm_z
      replace hm_z := rn_bipush (w := 14) (am_cur_of (i := (51, 2, .bipush 14, (0, 0, 0), 0)) (by decide +kernel)) (by decide) hm_z
      replace hm_z := rn_callV (M' := am_m174) (o := 164) (ar := [.int 14]) (rest := []) (L := lv_args 0 [.ref 164, .int 14]) (am_cur_of (i := (53, 3, .invokevirtual 306, (174, 1727, 3), 0)) (by decide +kernel)) rfl rfl rfl rfl hm_z
      obtain ⟨r2643_z, h2644_z, q2645_z, hm_z⟩ := hm_z
      obtain ⟨rfl, yq2645_z⟩ := rp_kyN (fun q => absurd (Eq.trans (Eq.symm kc) q.1) (by decide)) q2645_z
      subst yq2645_z
      replace hm_z : rn _ _ _ _ [.int 0] _ _ _ := hm_z
      replace hm_z := rn_ifT (am_cur_of (i := (56, 3, .ifCond .eq 30, (47, 0, 0), 0)) (by decide +kernel)) (by decide) hm_z
      replace hm_z := rn_aload_n (am_cur_of (i := (86, 1, .aload_n 0, (0, 0, 0), 0)) (by decide +kernel)) g0m hm_z
      replace hm_z := rn_callV (M' := am_m176) (o := 164) (ar := []) (rest := []) (L := lv_args 0 [.ref 164]) (am_cur_of (i := (87, 3, .invokevirtual 312, (176, 1735, 3), 0)) (by decide +kernel)) rfl rfl rfl rfl hm_z
      obtain ⟨r2646_z, h2647_z, q2648_z, hm_z⟩ := hm_z
      obtain ⟨rfl, yq2648_z⟩ := rp_nm (c := 3) (d := rg_v g 164 9) kc rfl q2648_z
      replace yq2648_z := yq2648_z.symm
      subst yq2648_z
      rw [show rp_nmf 3 (rg_v g 164 9) = (-1) from by unfold rp_nmf; rw [if_neg (by decide)]] at hm_z
      replace hm_z : rn _ _ _ _ [.int (-1)] _ _ _ := hm_z
      replace hm_z := rn_istore_n (am_cur_of (i := (90, 1, .istore_n 1, (0, 0, 0), 0)) (by decide +kernel)) hm_z
      obtain ⟨_, s2649_z, s2650_z, g1m, hm_z⟩ := hm_z
      replace g0m := s2649_z 0 _ (by decide) rfl g0m
      clear s2649_z s2650_z
      replace hm_z := rn_iload_n (am_cur_of (i := (91, 1, .iload_n 1, (0, 0, 0), 0)) (by decide +kernel)) g1m hm_z
      replace hm_z := rn_ifF (am_cur_of (i := (92, 3, .ifCond .ge 17, (60, 0, 0), 0)) (by decide +kernel)) (by decide) hm_z
      replace hm_z := rn_aload_n (am_cur_of (i := (95, 1, .aload_n 0, (0, 0, 0), 0)) (by decide +kernel)) g0m hm_z
      replace hm_z := rn_getI (v := 3) (am_cur_of (i := (96, 3, .getfield 157, (12, 8, 1392), 0)) (by decide +kernel)) (by decide +kernel) kc hm_z
      replace hm_z := rn_iconst (w := 3) (am_cur_of (i := (99, 1, .iconst 3, (0, 0, 0), 0)) (by decide +kernel)) (by decide) hm_z
      replace hm_z := rn_cmpT (am_cur_of (i := (100, 3, .if_icmp .eq 9, (60, 0, 0), 0)) (by decide +kernel)) (by decide) hm_z
      replace hm_z := rn_iload_n (am_cur_of (i := (109, 1, .iload_n 1, (0, 0, 0), 0)) (by decide +kernel)) g1m hm_z
      replace hm_z := rn_ifF (am_cur_of (i := (110, 3, .ifCond .ge 19, (70, 0, 0), 0)) (by decide +kernel)) (by decide) hm_z
      replace hm_z := rn_aload_n (am_cur_of (i := (113, 1, .aload_n 0, (0, 0, 0), 0)) (by decide +kernel)) g0m hm_z
      replace hm_z := rn_getI (v := rg_v g 164 9) (am_cur_of (i := (114, 3, .getfield 168, (12, 9, 1393), 0)) (by decide +kernel)) (by decide +kernel) rfl hm_z
      replace hm_z := rn_sipush (w := 9999) (am_cur_of (i := (117, 3, .sipush 9999, (0, 0, 0), 0)) (by decide +kernel)) (by decide) hm_z
      replace hm_z := rn_cmp (am_cur_of (i := (120, 3, .if_icmp .le 9, (70, 0, 0), 0)) (by decide +kernel)) hm_z
      rcases hm_z with ⟨b2651_z, hm_z⟩ | ⟨b2651_z, hm_z⟩
      · replace b2651_z : (rg_v g 164 9).toInt ≤ (9999 : Int32).toInt := b2651_z
        omega
      · replace b2651_z : (9999 : Int32).toInt < (rg_v g 164 9).toInt := b2651_z
        replace hm_z := rn_aload_n (am_cur_of (i := (123, 1, .aload_n 0, (0, 0, 0), 0)) (by decide +kernel)) g0m hm_z
        replace hm_z := rn_iconst (w := 2) (am_cur_of (i := (124, 1, .iconst 2, (0, 0, 0), 0)) (by decide +kernel)) (by decide) hm_z
        replace hm_z := rn_callV (M' := am_m158) (o := 164) (ar := [.int 2]) (rest := []) (L := lv_args 0 [.ref 164, .int 2]) (am_cur_of (i := (125, 3, .invokevirtual 181, (158, 1665, 3), 0)) (by decide +kernel)) rfl rfl rfl rfl hm_z
        obtain ⟨r2652_z, h2653_z, q2654_z, hm_z⟩ := hm_z
        obtain ⟨rfl, yq2654_z⟩ := rp_wrong q2654_z
        subst yq2654_z
        replace hm_z : rn _ _ _ _ [.int 0] _ _ _ := hm_z
        replace hm_z := rn_iret (am_cur_of (i := (128, 1, .ireturn, (0, 0, 0), 0)) (by decide +kernel)) hm_z
        obtain ⟨e2655_z, e2656_z⟩ := hm_z
        subst e2655_z e2656_z
        exact (Or.inr ⟨rfl, 2, by decide, K.1, K.2, rfl, R6⟩)
  · have g0_z : am_get (lv_args 0 [.ref 44, .int 0]) 0 = some (.ref 44) := rfl
    have g1_z : am_get (lv_args 0 [.ref 44, .int 0]) 1 = some (.int 0) := rfl
    have g0m : am_get (lv_args 0 [.ref 164]) 0 = some (.ref 164) := rfl
    have Rk := R
    have Zk := Z
    obtain ⟨⟨c1_z, c2_z, c3_z, c4_z, c5_z, c6_z, c7_z, c8_z⟩, ⟨m2_z, m3_z, m4_z, m5_z, m6_z, m7_z, m8_z⟩, R3, R4, R5, R6, R7, R8, R9, R10⟩ := (R : rq T S x p 23 h g)
    obtain ⟨np, op, z1_z, z2_z, z3_z, z4_z, z5_z, z6_z, z7_z, z8_z, z9_z, z10_z⟩ := (Z : rs 23 h g)
    obtain ⟨nk1_z, nk2_z, nk3_z⟩ := A.2.2.2.2.2.1
    replace nk1_z : rg_v h 32 0 = rg_v g 164 44 := nk1_z
    replace nk2_z : 0 ≤ (rg_v h 32 0).toInt := nk2_z
    replace nk3_z : (rg_v h 32 0).toInt ≤ 64 := nk3_z
    replace z8_z : np.toInt ≤ (rg_v h 32 0).toInt + op.toInt := z8_z
    obtain ⟨kn, ekn⟩ : ∃ v, rg_v h 32 0 = v := ⟨_, rfl⟩
    rw [ekn] at nk1_z nk2_z nk3_z z8_z
    have e9_z := rt_c1 (x := kn) (by omega) (by omega)
    replace hc_z := rn_aload_n (am_cur_of (i := (0, 1, .aload_n 0, (0, 0, 0), 0)) (by decide +kernel)) g0_z hc_z
    replace hc_z := rn_getI (v := 5) (am_cur_of (i := (1, 3, .getfield 60, (4, 10, 419), 0)) (by decide +kernel)) (by decide +kernel) ka hc_z
    replace hc_z := rn_bipush (w := 6) (am_cur_of (i := (4, 2, .bipush 6, (0, 0, 0), 0)) (by decide +kernel)) (by decide) hc_z
    replace hc_z := rn_cmpT (am_cur_of (i := (6, 3, .if_icmp .ne 30, (19, 0, 0), 0)) (by decide +kernel)) (by decide) hc_z
    replace hc_z := rn_aload_n (am_cur_of (i := (36, 1, .aload_n 0, (0, 0, 0), 0)) (by decide +kernel)) g0_z hc_z
    replace hc_z := rn_bipush (w := 40) (am_cur_of (i := (37, 2, .bipush 40, (0, 0, 0), 0)) (by decide +kernel)) (by decide) hc_z
    replace hc_z := rn_callV (M' := am_m45) (o := 44) (ar := [.int 40]) (rest := []) (L := lv_args 0 [.ref 44, .int 40]) (am_cur_of (i := (39, 3, .invokevirtual 105, (45, 834, 3), 0)) (by decide +kernel)) rfl rfl rfl rfl hc_z
    obtain ⟨r2657_z, h2658_z, q2659_z, hc_z⟩ := hc_z
    obtain ⟨rfl, yq2659_z⟩ := rp_mkN (fun q => absurd (Eq.trans (Eq.symm kb) q.2) (by decide)) q2659_z
    subst yq2659_z
    replace hc_z : rn _ _ _ _ [.int 0] _ _ _ := hc_z
    replace hc_z := rn_ifT (am_cur_of (i := (42, 3, .ifCond .eq 38, (43, 0, 0), 0)) (by decide +kernel)) (by decide) hc_z
    replace hc_z := rn_aload_n (am_cur_of (i := (80, 1, .aload_n 0, (0, 0, 0), 0)) (by decide +kernel)) g0_z hc_z
    replace hc_z := rn_getI (v := 5) (am_cur_of (i := (81, 3, .getfield 60, (4, 10, 419), 0)) (by decide +kernel)) (by decide +kernel) ka hc_z
    replace hc_z := rn_iconst (w := 4) (am_cur_of (i := (84, 1, .iconst 4, (0, 0, 0), 0)) (by decide +kernel)) (by decide) hc_z
    replace hc_z := rn_cmpT (am_cur_of (i := (85, 3, .if_icmp .ne 40, (64, 0, 0), 0)) (by decide +kernel)) (by decide) hc_z
    replace hc_z := rn_aload_n (am_cur_of (i := (125, 1, .aload_n 0, (0, 0, 0), 0)) (by decide +kernel)) g0_z hc_z
    replace hc_z := rn_getI (v := 5) (am_cur_of (i := (126, 3, .getfield 60, (4, 10, 419), 0)) (by decide +kernel)) (by decide +kernel) ka hc_z
    replace hc_z := rn_iconst (w := 2) (am_cur_of (i := (129, 1, .iconst 2, (0, 0, 0), 0)) (by decide +kernel)) (by decide) hc_z
    replace hc_z := rn_cmpT (am_cur_of (i := (130, 3, .if_icmp .ne 37, (84, 0, 0), 0)) (by decide +kernel)) (by decide) hc_z
    replace hc_z := rn_aload_n (am_cur_of (i := (167, 1, .aload_n 0, (0, 0, 0), 0)) (by decide +kernel)) g0_z hc_z
    replace hc_z := rn_iconst (w := 1) (am_cur_of (i := (168, 1, .iconst 1, (0, 0, 0), 0)) (by decide +kernel)) (by decide) hc_z
    replace hc_z := rn_callV (M' := am_m29) (o := 44) (ar := [.int 1]) (rest := []) (L := lv_args 0 [.ref 44, .int 1]) (am_cur_of (i := (169, 3, .invokevirtual 108, (29, 769, 3), 0)) (by decide +kernel)) rfl rfl rfl rfl hc_z
    obtain ⟨r2660_z, h2661_z, q2662_z, hc_z⟩ := hc_z
    obtain ⟨rfl, yq2662_z⟩ := rp_fail R4 q2662_z
    subst yq2662_z
    replace hc_z : rn _ _ _ _ [] _ _ _ := hc_z
    have K := rs_stick (w := 1) (q := p) (a := 51) (by decide) (by decide) rfl (by decide) rfl (show rg_v (am_up (am_up h 44 1 (.int 1)) 44 2 (.int (rg_v h 44 9))) 44 2 = p from R5) hc_z
    replace hm_z := rn_aload_n (am_cur_of (i := (0, 1, .aload_n 0, (0, 0, 0), 0)) (by decide +kernel)) g0m hm_z
    replace hm_z := rn_bipush (w := 40) (am_cur_of (i := (1, 2, .bipush 40, (0, 0, 0), 0)) (by decide +kernel)) (by decide) hm_z
    replace hm_z := rn_callV (M' := am_m171) (o := 164) (ar := [.int 40]) (rest := []) (L := lv_args 0 [.ref 164, .int 40]) (am_cur_of (i := (3, 3, .invokevirtual 194, (171, 1715, 3), 0)) (by decide +kernel)) rfl rfl rfl rfl hm_z
    obtain ⟨r2663_z, h2664_z, q2665_z, hm_z⟩ := hm_z
    obtain ⟨rfl, yq2665_z⟩ := rp_sgN (fun q => absurd (Eq.trans (Eq.symm kd) q.2) (by decide)) q2665_z
    subst yq2665_z
    replace hm_z : rn _ _ _ _ [.int 0] _ _ _ := hm_z
    replace hm_z := rn_ifT (am_cur_of (i := (6, 3, .ifCond .eq 44, (28, 0, 0), 0)) (by decide +kernel)) (by decide) hm_z
    replace hm_z := rn_aload_n (am_cur_of (i := (50, 1, .aload_n 0, (0, 0, 0), 0)) (by decide +kernel)) g0m hm_z
    replace hm_z := rn_bipush (w := 14) (am_cur_of (i := (51, 2, .bipush 14, (0, 0, 0), 0)) (by decide +kernel)) (by decide) hm_z
    replace hm_z := rn_callV (M' := am_m174) (o := 164) (ar := [.int 14]) (rest := []) (L := lv_args 0 [.ref 164, .int 14]) (am_cur_of (i := (53, 3, .invokevirtual 306, (174, 1727, 3), 0)) (by decide +kernel)) rfl rfl rfl rfl hm_z
    obtain ⟨r2666_z, h2667_z, q2668_z, hm_z⟩ := hm_z
    obtain ⟨rfl, yq2668_z⟩ := rp_kyN (fun q => absurd (Eq.trans (Eq.symm kc) q.1) (by decide)) q2668_z
    subst yq2668_z
    replace hm_z : rn _ _ _ _ [.int 0] _ _ _ := hm_z
    replace hm_z := rn_ifT (am_cur_of (i := (56, 3, .ifCond .eq 30, (47, 0, 0), 0)) (by decide +kernel)) (by decide) hm_z
    replace hm_z := rn_aload_n (am_cur_of (i := (86, 1, .aload_n 0, (0, 0, 0), 0)) (by decide +kernel)) g0m hm_z
    replace hm_z := rn_callV (M' := am_m176) (o := 164) (ar := []) (rest := []) (L := lv_args 0 [.ref 164]) (am_cur_of (i := (87, 3, .invokevirtual 312, (176, 1735, 3), 0)) (by decide +kernel)) rfl rfl rfl rfl hm_z
    obtain ⟨r2669_z, h2670_z, q2671_z, hm_z⟩ := hm_z
    obtain ⟨rfl, yq2671_z⟩ := rp_nm (c := 4) (d := 59) kc kd q2671_z
    replace yq2671_z := yq2671_z.symm
    subst yq2671_z
    rw [show rp_nmf 4 59 = (-1) from by unfold rp_nmf; rw [if_neg (by decide)]] at hm_z
    replace hm_z : rn _ _ _ _ [.int (-1)] _ _ _ := hm_z
    replace hm_z := rn_istore_n (am_cur_of (i := (90, 1, .istore_n 1, (0, 0, 0), 0)) (by decide +kernel)) hm_z
    obtain ⟨_, s2672_z, s2673_z, g1m, hm_z⟩ := hm_z
    replace g0m := s2672_z 0 _ (by decide) rfl g0m
    clear s2672_z s2673_z
    replace hm_z := rn_iload_n (am_cur_of (i := (91, 1, .iload_n 1, (0, 0, 0), 0)) (by decide +kernel)) g1m hm_z
    replace hm_z := rn_ifF (am_cur_of (i := (92, 3, .ifCond .ge 17, (60, 0, 0), 0)) (by decide +kernel)) (by decide) hm_z
    replace hm_z := rn_aload_n (am_cur_of (i := (95, 1, .aload_n 0, (0, 0, 0), 0)) (by decide +kernel)) g0m hm_z
    replace hm_z := rn_getI (v := 4) (am_cur_of (i := (96, 3, .getfield 157, (12, 8, 1392), 0)) (by decide +kernel)) (by decide +kernel) kc hm_z
    replace hm_z := rn_iconst (w := 3) (am_cur_of (i := (99, 1, .iconst 3, (0, 0, 0), 0)) (by decide +kernel)) (by decide) hm_z
    replace hm_z := rn_cmpF (am_cur_of (i := (100, 3, .if_icmp .eq 9, (60, 0, 0), 0)) (by decide +kernel)) (by decide) hm_z
    replace hm_z := rn_aload_n (am_cur_of (i := (103, 1, .aload_n 0, (0, 0, 0), 0)) (by decide +kernel)) g0m hm_z
    replace hm_z := rn_iconst (w := 1) (am_cur_of (i := (104, 1, .iconst 1, (0, 0, 0), 0)) (by decide +kernel)) (by decide) hm_z
    replace hm_z := rn_callV (M' := am_m158) (o := 164) (ar := [.int 1]) (rest := []) (L := lv_args 0 [.ref 164, .int 1]) (am_cur_of (i := (105, 3, .invokevirtual 181, (158, 1665, 3), 0)) (by decide +kernel)) rfl rfl rfl rfl hm_z
    obtain ⟨r2674_z, h2675_z, q2676_z, hm_z⟩ := hm_z
    obtain ⟨rfl, yq2676_z⟩ := rp_wrong q2676_z
    subst yq2676_z
    replace hm_z : rn _ _ _ _ [.int 0] _ _ _ := hm_z
    replace hm_z := rn_iret (am_cur_of (i := (108, 1, .ireturn, (0, 0, 0), 0)) (by decide +kernel)) hm_z
    obtain ⟨e2677_z, e2678_z⟩ := hm_z
    subst e2677_z e2678_z
    exact (Or.inr ⟨rfl, 1, by decide, K.1, K.2, rfl, R6⟩)
  · have g0_z : am_get (lv_args 0 [.ref 44, .int 0]) 0 = some (.ref 44) := rfl
    have g1_z : am_get (lv_args 0 [.ref 44, .int 0]) 1 = some (.int 0) := rfl
    have g0m : am_get (lv_args 0 [.ref 164]) 0 = some (.ref 164) := rfl
    have Rk := R
    have Zk := Z
    obtain ⟨⟨c1_z, c2_z, c3_z, c4_z, c5_z, c6_z, c7_z, c8_z⟩, ⟨m2_z, m3_z, m4_z, m5_z, m6_z, m7_z, m8_z⟩, R3, R4, R5, R6, R7, R8, R9, R10⟩ := (R : rq T S x p 23 h g)
    obtain ⟨np, op, z1_z, z2_z, z3_z, z4_z, z5_z, z6_z, z7_z, z8_z, z9_z, z10_z⟩ := (Z : rs 23 h g)
    obtain ⟨nk1_z, nk2_z, nk3_z⟩ := A.2.2.2.2.2.1
    replace nk1_z : rg_v h 32 0 = rg_v g 164 44 := nk1_z
    replace nk2_z : 0 ≤ (rg_v h 32 0).toInt := nk2_z
    replace nk3_z : (rg_v h 32 0).toInt ≤ 64 := nk3_z
    replace z8_z : np.toInt ≤ (rg_v h 32 0).toInt + op.toInt := z8_z
    obtain ⟨kn, ekn⟩ : ∃ v, rg_v h 32 0 = v := ⟨_, rfl⟩
    rw [ekn] at nk1_z nk2_z nk3_z z8_z
    have e9_z := rt_c1 (x := kn) (by omega) (by omega)
    replace hc_z := rn_aload_n (am_cur_of (i := (0, 1, .aload_n 0, (0, 0, 0), 0)) (by decide +kernel)) g0_z hc_z
    replace hc_z := rn_getI (v := 5) (am_cur_of (i := (1, 3, .getfield 60, (4, 10, 419), 0)) (by decide +kernel)) (by decide +kernel) ka hc_z
    replace hc_z := rn_bipush (w := 6) (am_cur_of (i := (4, 2, .bipush 6, (0, 0, 0), 0)) (by decide +kernel)) (by decide) hc_z
    replace hc_z := rn_cmpT (am_cur_of (i := (6, 3, .if_icmp .ne 30, (19, 0, 0), 0)) (by decide +kernel)) (by decide) hc_z
    replace hc_z := rn_aload_n (am_cur_of (i := (36, 1, .aload_n 0, (0, 0, 0), 0)) (by decide +kernel)) g0_z hc_z
    replace hc_z := rn_bipush (w := 40) (am_cur_of (i := (37, 2, .bipush 40, (0, 0, 0), 0)) (by decide +kernel)) (by decide) hc_z
    replace hc_z := rn_callV (M' := am_m45) (o := 44) (ar := [.int 40]) (rest := []) (L := lv_args 0 [.ref 44, .int 40]) (am_cur_of (i := (39, 3, .invokevirtual 105, (45, 834, 3), 0)) (by decide +kernel)) rfl rfl rfl rfl hc_z
    obtain ⟨r2679_z, h2680_z, q2681_z, hc_z⟩ := hc_z
    obtain ⟨rfl, yq2681_z⟩ := rp_mkT ka kb q2681_z
    subst yq2681_z
    replace hc_z : rn _ _ _ _ [.int 1] _ _ _ := hc_z
    replace hc_z := rn_ifF (am_cur_of (i := (42, 3, .ifCond .eq 38, (43, 0, 0), 0)) (by decide +kernel)) (by decide) hc_z
    replace hc_z := rn_aload_n (am_cur_of (i := (45, 1, .aload_n 0, (0, 0, 0), 0)) (by decide +kernel)) g0_z hc_z
    replace hc_z := rn_getI (v := op) (am_cur_of (i := (46, 3, .getfield 254, (4, 14, 423), 0)) (by decide +kernel)) (by decide +kernel) z4_z hc_z
    replace hc_z := rn_bipush (w := 8) (am_cur_of (i := (49, 2, .bipush 8, (0, 0, 0), 0)) (by decide +kernel)) (by decide) hc_z
    replace hc_z := rn_cmp (am_cur_of (i := (51, 3, .if_icmp .lt 8, (30, 0, 0), 0)) (by decide +kernel)) hc_z
    rcases hc_z with ⟨b2682_z, hc_z⟩ | ⟨b2682_z, hc_z⟩
    · replace b2682_z : op.toInt < (8 : Int32).toInt := b2682_z
      replace hc_z := rn_aload_n (am_cur_of (i := (59, 1, .aload_n 0, (0, 0, 0), 0)) (by decide +kernel)) g0_z hc_z
      replace hc_z := rn_dup (am_cur_of (i := (60, 1, .dup, (0, 0, 0), 0)) (by decide +kernel)) hc_z
      replace hc_z := rn_getI (v := op) (am_cur_of (i := (61, 3, .getfield 254, (4, 14, 423), 0)) (by decide +kernel)) (by decide +kernel) z4_z hc_z
      replace hc_z := rn_iconst (w := 1) (am_cur_of (i := (64, 1, .iconst 1, (0, 0, 0), 0)) (by decide +kernel)) (by decide) hc_z
      replace hc_z := rn_iadd (w := op + 1) (am_cur_of (i := (65, 1, .iadd, (0, 0, 0), 0)) (by decide +kernel)) rfl hc_z
      replace hc_z := rn_put (am_cur_of (i := (66, 3, .putfield 254, (4, 14, 423), 0)) (by decide +kernel)) (by decide +kernel) hc_z
      replace hc_z := rn_aload_n (am_cur_of (i := (69, 1, .aload_n 0, (0, 0, 0), 0)) (by decide +kernel)) g0_z hc_z
      replace hc_z := rn_iconst (w := 2) (am_cur_of (i := (70, 1, .iconst 2, (0, 0, 0), 0)) (by decide +kernel)) (by decide) hc_z
      replace hc_z := rn_callV (M' := am_m50) (o := 44) (ar := [.int 2]) (rest := []) (L := lv_args 0 [.ref 44, .int 2]) (am_cur_of (i := (71, 3, .invokevirtual 273, (50, 856, 3), 0)) (by decide +kernel)) rfl rfl rfl rfl hc_z
      obtain ⟨r2683_z, h2684_z, q2685_z, hc_z⟩ := hc_z
      obtain ⟨rfl, eh⟩ := rs_hold (np := np) (show rg_v (am_up h 44 14 (.int (op + 1))) 44 13 = np from z1_z) (by omega) q2685_z
      subst eh
      replace hc_z : rn _ _ _ _ [] _ _ _ := hc_z
      replace hc_z := rn_aload_n (am_cur_of (i := (74, 1, .aload_n 0, (0, 0, 0), 0)) (by decide +kernel)) g0_z hc_z
      replace hc_z := rn_callV (M' := am_m19) (o := 44) (ar := []) (rest := []) (L := lv_args 0 [.ref 44]) (am_cur_of (i := (75, 3, .invokevirtual 57, (19, 727, 3), 0)) (by decide +kernel)) rfl rfl rfl rfl hc_z
      obtain ⟨r2686_z, h2687_z, q2688_z, hc_z⟩ := hc_z
      have vo := rn_void rfl q2688_z
      subst vo
      replace hm_z := rn_aload_n (am_cur_of (i := (0, 1, .aload_n 0, (0, 0, 0), 0)) (by decide +kernel)) g0m hm_z
      replace hm_z := rn_bipush (w := 40) (am_cur_of (i := (1, 2, .bipush 40, (0, 0, 0), 0)) (by decide +kernel)) (by decide) hm_z
      replace hm_z := rn_callV (M' := am_m171) (o := 164) (ar := [.int 40]) (rest := []) (L := lv_args 0 [.ref 164, .int 40]) (am_cur_of (i := (3, 3, .invokevirtual 194, (171, 1715, 3), 0)) (by decide +kernel)) rfl rfl rfl rfl hm_z
      obtain ⟨r2689_z, h2690_z, q2691_z, hm_z⟩ := hm_z
      obtain ⟨rfl, yq2691_z⟩ := rp_sgT kc kd q2691_z
      subst yq2691_z
      replace hm_z : rn _ _ _ _ [.int 1] _ _ _ := hm_z
      replace hm_z := rn_ifF (am_cur_of (i := (6, 3, .ifCond .eq 44, (28, 0, 0), 0)) (by decide +kernel)) (by decide) hm_z
      replace hm_z := rn_aload_n (am_cur_of (i := (9, 1, .aload_n 0, (0, 0, 0), 0)) (by decide +kernel)) g0m hm_z
      replace hm_z := rn_getI (v := op) (am_cur_of (i := (10, 3, .getfield 295, (12, 43, 1427), 0)) (by decide +kernel)) (by decide +kernel) z5_z hm_z
      replace hm_z := rn_bipush (w := 8) (am_cur_of (i := (13, 2, .bipush 8, (0, 0, 0), 0)) (by decide +kernel)) (by decide) hm_z
      replace hm_z := rn_cmp (am_cur_of (i := (15, 3, .if_icmp .ne 9, (12, 0, 0), 0)) (by decide +kernel)) hm_z
      rcases hm_z with ⟨b2692_z, hm_z⟩ | ⟨b2692_z, hm_z⟩
      · replace b2692_z : ¬ op = (8 : Int32) ∧ ¬ op.toInt = (8 : Int32).toInt := b2692_z
        replace hm_z := rn_aload_n (am_cur_of (i := (24, 1, .aload_n 0, (0, 0, 0), 0)) (by decide +kernel)) g0m hm_z
        replace hm_z := rn_dup (am_cur_of (i := (25, 1, .dup, (0, 0, 0), 0)) (by decide +kernel)) hm_z
        replace hm_z := rn_getI (v := op) (am_cur_of (i := (26, 3, .getfield 295, (12, 43, 1427), 0)) (by decide +kernel)) (by decide +kernel) z5_z hm_z
        replace hm_z := rn_iconst (w := 1) (am_cur_of (i := (29, 1, .iconst 1, (0, 0, 0), 0)) (by decide +kernel)) (by decide) hm_z
        replace hm_z := rn_iadd (w := op + 1) (am_cur_of (i := (30, 1, .iadd, (0, 0, 0), 0)) (by decide +kernel)) rfl hm_z
        replace hm_z := rn_put (am_cur_of (i := (31, 3, .putfield 295, (12, 43, 1427), 0)) (by decide +kernel)) (by decide +kernel) hm_z
        replace hm_z := rn_aload_n (am_cur_of (i := (34, 1, .aload_n 0, (0, 0, 0), 0)) (by decide +kernel)) g0m hm_z
        replace hm_z := rn_iconst (w := 0) (am_cur_of (i := (35, 1, .iconst 0, (0, 0, 0), 0)) (by decide +kernel)) (by decide) hm_z
        replace hm_z := rn_callV (M' := am_m173) (o := 164) (ar := [.int 0]) (rest := []) (L := lv_args 0 [.ref 164, .int 0]) (am_cur_of (i := (36, 3, .invokevirtual 298, (173, 1723, 3), 0)) (by decide +kernel)) rfl rfl rfl rfl hm_z
        obtain ⟨r2693_z, h2694_z, q2695_z, hm_z⟩ := hm_z
        obtain ⟨rfl, eh⟩ := rs_wf (np := np) (show rg_v (am_up g 164 43 (.int (op + 1))) 164 41 = np from z2_z) q2695_z
        subst eh
        replace hm_z : rn _ _ _ _ [] _ _ _ := hm_z
        replace hm_z := rn_aload_n (am_cur_of (i := (39, 1, .aload_n 0, (0, 0, 0), 0)) (by decide +kernel)) g0m hm_z
        replace hm_z := rn_iconst (w := 1) (am_cur_of (i := (40, 1, .iconst 1, (0, 0, 0), 0)) (by decide +kernel)) (by decide) hm_z
        replace hm_z := rn_put (am_cur_of (i := (41, 3, .putfield 302, (12, 46, 1430), 0)) (by decide +kernel)) (by decide +kernel) hm_z
        replace hm_z := rn_aload_n (am_cur_of (i := (44, 1, .aload_n 0, (0, 0, 0), 0)) (by decide +kernel)) g0m hm_z
        replace hm_z := rn_callV (M' := am_m151) (o := 164) (ar := []) (rest := []) (L := lv_args 0 [.ref 164]) (am_cur_of (i := (45, 3, .invokevirtual 191, (151, 1636, 3), 0)) (by decide +kernel)) rfl rfl rfl rfl hm_z
        obtain ⟨r2696_z, h2697_z, q2698_z, hm_z⟩ := hm_z
        have vo := rn_void rfl q2698_z
        subst vo
        have FC : ab_Fr (rz_MC23.drop 1) h (am_up (am_up (am_up h 44 14 (.int (op + 1))) 47 np.toNatClampNeg (.int 2)) 44 13 (.int (np + 1))) := ab_Fr_up rfl (ab_Fr_up rfl (ab_Fr_up rfl ab_Fr_refl))
        have FC' : ab_Fr rz_MC23 h (am_up (am_up (am_up h 44 14 (.int (op + 1))) 47 np.toNatClampNeg (.int 2)) 44 13 (.int (np + 1))) := ab_Fr_sub (by decide) FC
        have FM : ab_Fr rz_MM g (am_up (am_up (am_up (am_up g 164 43 (.int (op + 1))) 184 np.toNatClampNeg (.int 0)) 164 41 (.int (np + 1))) 164 46 (.int 1)) := ab_Fr_up rfl (ab_Fr_up rfl (ab_Fr_up rfl (ab_Fr_up rfl ab_Fr_refl)))
        obtain ⟨-, -, x2_z, p2_z, R2, le2_z, t5_z, t6_z⟩ := pr_tok (rz_q023 (rq_0 Rk) FC' FM) q2688_z q2698_z
        have A2 := rp_x (by decide) (rz_p23 A FC' FM ((show rg_v (am_up (am_up (am_up h 44 14 (.int (op + 1))) 47 np.toNatClampNeg (.int 2)) 44 13 (.int (np + 1))) 32 0 = kn from (show rg_v (am_up (am_up (am_up h 44 14 (.int (op + 1))) 47 np.toNatClampNeg (.int 2)) 44 13 (.int (np + 1))) 32 0 = kn from ekn)).trans (show rg_v (am_up (am_up (am_up (am_up g 164 43 (.int (op + 1))) 184 np.toNatClampNeg (.int 0)) 164 41 (.int (np + 1))) 164 46 (.int 1)) 164 44 = kn from (show rg_v (am_up (am_up (am_up (am_up g 164 43 (.int (op + 1))) 184 np.toNatClampNeg (.int 0)) 164 41 (.int (np + 1))) 164 46 (.int 1)) 164 44 = kn from nk1_z.symm)).symm) (by rw [show rg_v (am_up (am_up (am_up h 44 14 (.int (op + 1))) 47 np.toNatClampNeg (.int 2)) 44 13 (.int (np + 1))) 32 0 = kn from (show rg_v (am_up (am_up (am_up h 44 14 (.int (op + 1))) 47 np.toNatClampNeg (.int 2)) 44 13 (.int (np + 1))) 32 0 = kn from ekn)]; omega) (by rw [show rg_v (am_up (am_up (am_up h 44 14 (.int (op + 1))) 47 np.toNatClampNeg (.int 2)) 44 13 (.int (np + 1))) 32 0 = kn from (show rg_v (am_up (am_up (am_up h 44 14 (.int (op + 1))) 47 np.toNatClampNeg (.int 2)) 44 13 (.int (np + 1))) 32 0 = kn from ekn)]; omega)) (rx_C_f t5_z) (rx_M_f t6_z)
        have B2 := rp_tk (rz_t23 B FC FM) (rg_v_fr t5_z (by decide)) (fun k => rg_v_fr t6_z (rg_v_in (by decide) k)) (rx_M_f t6_z)
        have Z2 : rs 23 (am_up (am_up (am_up h 44 14 (.int (op + 1))) 47 np.toNatClampNeg (.int 2)) 44 13 (.int (np + 1))) (am_up (am_up (am_up (am_up g 164 43 (.int (op + 1))) 184 np.toNatClampNeg (.int 0)) 164 41 (.int (np + 1))) 164 46 (.int 1)) := rs_push (o := 2) (k := 0) (np := np) (op := op) Zk (by unfold rs_o; decide) z1_z z4_z (show rg_v (am_up (am_up (am_up h 44 14 (.int (op + 1))) 47 np.toNatClampNeg (.int 2)) 44 13 (.int (np + 1))) 44 13 = np + 1 from (show rg_v (am_up (am_up (am_up h 44 14 (.int (op + 1))) 47 np.toNatClampNeg (.int 2)) 44 13 (.int (np + 1))) 44 13 = np + 1 from rfl)) (show rg_v (am_up (am_up (am_up (am_up g 164 43 (.int (op + 1))) 184 np.toNatClampNeg (.int 0)) 164 41 (.int (np + 1))) 164 46 (.int 1)) 164 41 = np + 1 from (show rg_v (am_up (am_up (am_up (am_up g 164 43 (.int (op + 1))) 184 np.toNatClampNeg (.int 0)) 164 41 (.int (np + 1))) 164 46 (.int 1)) 164 41 = np + 1 from rfl)) (fun i hi_z => (show rg_v (am_up (am_up (am_up h 44 14 (.int (op + 1))) 47 np.toNatClampNeg (.int 2)) 44 13 (.int (np + 1))) 47 i = rg_v h 47 i from rg_v_other (h := h) (o := 47) (k := np.toNatClampNeg) (v := .int 2) (by omega))) (show rg_v (am_up (am_up (am_up h 44 14 (.int (op + 1))) 47 np.toNatClampNeg (.int 2)) 44 13 (.int (np + 1))) 47 np.toNatClampNeg = 2 from rg_v_self (h := h) (o := 47) (k := np.toNatClampNeg)) (fun i hi_z => (show rg_v (am_up (am_up (am_up (am_up g 164 43 (.int (op + 1))) 184 np.toNatClampNeg (.int 0)) 164 41 (.int (np + 1))) 164 46 (.int 1)) 184 i = rg_v g 184 i from rg_v_other (h := g) (o := 184) (k := np.toNatClampNeg) (v := .int 0) (by omega))) (show rg_v (am_up (am_up (am_up (am_up g 164 43 (.int (op + 1))) 184 np.toNatClampNeg (.int 0)) 164 41 (.int (np + 1))) 164 46 (.int 1)) 184 np.toNatClampNeg = 0 from rg_v_self (h := g) (o := 184) (k := np.toNatClampNeg)) (show (rg_v h 32 0).toInt ≤ 64 by rw [ekn]; exact nk3_z) (Or.inr ⟨rfl, by omega, (show rg_v (am_up (am_up (am_up h 44 14 (.int (op + 1))) 47 np.toNatClampNeg (.int 2)) 44 13 (.int (np + 1))) 44 14 = op + 1 from (show rg_v (am_up (am_up (am_up h 44 14 (.int (op + 1))) 47 np.toNatClampNeg (.int 2)) 44 13 (.int (np + 1))) 44 14 = op + 1 from rfl)), (show rg_v (am_up (am_up (am_up (am_up g 164 43 (.int (op + 1))) 184 np.toNatClampNeg (.int 0)) 164 41 (.int (np + 1))) 164 46 (.int 1)) 164 43 = op + 1 from (show rg_v (am_up (am_up (am_up (am_up g 164 43 (.int (op + 1))) 184 np.toNatClampNeg (.int 0)) 164 41 (.int (np + 1))) 164 46 (.int 1)) 164 43 = op + 1 from rfl)), rfl⟩)
        replace Z2 := rs_fr (by decide) Z2 t5_z t6_z
        have e45_z : rg_v h2697_z 164 45 = 1 := (rg_v_fr t6_z (by decide)).trans (show rg_v (am_up (am_up (am_up (am_up g 164 43 (.int (op + 1))) 184 np.toNatClampNeg (.int 0)) 164 41 (.int (np + 1))) 164 46 (.int 1)) 164 45 = 1 from (show rg_v (am_up (am_up (am_up (am_up g 164 43 (.int (op + 1))) 184 np.toNatClampNeg (.int 0)) 164 41 (.int (np + 1))) 164 46 (.int 1)) 164 45 = 1 from w1_z))
        have e46_z : rg_v h2697_z 164 46 = 1 := (rg_v_fr t6_z (by decide)).trans (show rg_v (am_up (am_up (am_up (am_up g 164 43 (.int (op + 1))) 184 np.toNatClampNeg (.int 0)) 164 41 (.int (np + 1))) 164 46 (.int 1)) 164 46 = 1 from (show rg_v (am_up (am_up (am_up (am_up g 164 43 (.int (op + 1))) 184 np.toNatClampNeg (.int 0)) 164 41 (.int (np + 1))) 164 46 (.int 1)) 164 46 = 1 from rfl))
        replace hm_z : rn _ _ _ _ [] _ _ _ := hm_z
        replace hc_z : rn _ _ _ _ [] _ _ _ := hc_z
        replace hc_z := rn_iconst (w := 0) (am_cur_of (i := (78, 1, .iconst 0, (0, 0, 0), 0)) (by decide +kernel)) (by decide) hc_z
        replace hc_z := rn_iret (am_cur_of (i := (79, 1, .ireturn, (0, 0, 0), 0)) (by decide +kernel)) hc_z
        obtain ⟨e2699_z, e2700_z⟩ := hc_z
        replace hm_z := rn_iconst (w := 1) (am_cur_of (i := (48, 1, .iconst 1, (0, 0, 0), 0)) (by decide +kernel)) (by decide) hm_z
        replace hm_z := rn_iret (am_cur_of (i := (49, 1, .ireturn, (0, 0, 0), 0)) (by decide +kernel)) hm_z
        obtain ⟨e2701_z, e2702_z⟩ := hm_z
        subst e2699_z e2700_z e2701_z e2702_z
        exact Or.inl ⟨_, x2_z, p2_z, rfl, rfl, R2, le2_z, A2, B2, Z2, Or.inl ⟨rfl, e45_z, e46_z⟩⟩
      · replace b2692_z : op = (8 : Int32) ∧ op.toInt = (8 : Int32).toInt := b2692_z
        omega
    · replace b2682_z : (8 : Int32).toInt ≤ op.toInt := b2682_z
      replace hc_z := rn_aload_n (am_cur_of (i := (54, 1, .aload_n 0, (0, 0, 0), 0)) (by decide +kernel)) g0_z hc_z
      replace hc_z := rn_iconst (w := 2) (am_cur_of (i := (55, 1, .iconst 2, (0, 0, 0), 0)) (by decide +kernel)) (by decide) hc_z
      replace hc_z := rn_callV (M' := am_m29) (o := 44) (ar := [.int 2]) (rest := []) (L := lv_args 0 [.ref 44, .int 2]) (am_cur_of (i := (56, 3, .invokevirtual 108, (29, 769, 3), 0)) (by decide +kernel)) rfl rfl rfl rfl hc_z
      obtain ⟨r2703_z, h2704_z, q2705_z, hc_z⟩ := hc_z
      obtain ⟨rfl, yq2705_z⟩ := rp_fail R4 q2705_z
      subst yq2705_z
      replace hc_z : rn _ _ _ _ [] _ _ _ := hc_z
      have K := rs_stick (w := 2) (q := p) (a := 51) (by decide) (by decide) rfl (by decide) rfl (show rg_v (am_up (am_up h 44 1 (.int 2)) 44 2 (.int (rg_v h 44 9))) 44 2 = p from R5) hc_z
      replace hm_z := rn_aload_n (am_cur_of (i := (0, 1, .aload_n 0, (0, 0, 0), 0)) (by decide +kernel)) g0m hm_z
      replace hm_z := rn_bipush (w := 40) (am_cur_of (i := (1, 2, .bipush 40, (0, 0, 0), 0)) (by decide +kernel)) (by decide) hm_z
      replace hm_z := rn_callV (M' := am_m171) (o := 164) (ar := [.int 40]) (rest := []) (L := lv_args 0 [.ref 164, .int 40]) (am_cur_of (i := (3, 3, .invokevirtual 194, (171, 1715, 3), 0)) (by decide +kernel)) rfl rfl rfl rfl hm_z
      obtain ⟨r2706_z, h2707_z, q2708_z, hm_z⟩ := hm_z
      obtain ⟨rfl, yq2708_z⟩ := rp_sgT kc kd q2708_z
      subst yq2708_z
      replace hm_z : rn _ _ _ _ [.int 1] _ _ _ := hm_z
      replace hm_z := rn_ifF (am_cur_of (i := (6, 3, .ifCond .eq 44, (28, 0, 0), 0)) (by decide +kernel)) (by decide) hm_z
      replace hm_z := rn_aload_n (am_cur_of (i := (9, 1, .aload_n 0, (0, 0, 0), 0)) (by decide +kernel)) g0m hm_z
      replace hm_z := rn_getI (v := op) (am_cur_of (i := (10, 3, .getfield 295, (12, 43, 1427), 0)) (by decide +kernel)) (by decide +kernel) z5_z hm_z
      replace hm_z := rn_bipush (w := 8) (am_cur_of (i := (13, 2, .bipush 8, (0, 0, 0), 0)) (by decide +kernel)) (by decide) hm_z
      replace hm_z := rn_cmp (am_cur_of (i := (15, 3, .if_icmp .ne 9, (12, 0, 0), 0)) (by decide +kernel)) hm_z
      rcases hm_z with ⟨b2709_z, hm_z⟩ | ⟨b2709_z, hm_z⟩
      · replace b2709_z : ¬ op = (8 : Int32) ∧ ¬ op.toInt = (8 : Int32).toInt := b2709_z
        omega
      · replace b2709_z : op = (8 : Int32) ∧ op.toInt = (8 : Int32).toInt := b2709_z
        replace hm_z := rn_aload_n (am_cur_of (i := (18, 1, .aload_n 0, (0, 0, 0), 0)) (by decide +kernel)) g0m hm_z
        replace hm_z := rn_iconst (w := 2) (am_cur_of (i := (19, 1, .iconst 2, (0, 0, 0), 0)) (by decide +kernel)) (by decide) hm_z
        replace hm_z := rn_callV (M' := am_m158) (o := 164) (ar := [.int 2]) (rest := []) (L := lv_args 0 [.ref 164, .int 2]) (am_cur_of (i := (20, 3, .invokevirtual 181, (158, 1665, 3), 0)) (by decide +kernel)) rfl rfl rfl rfl hm_z
        obtain ⟨r2710_z, h2711_z, q2712_z, hm_z⟩ := hm_z
        obtain ⟨rfl, yq2712_z⟩ := rp_wrong q2712_z
        subst yq2712_z
        replace hm_z : rn _ _ _ _ [.int 0] _ _ _ := hm_z
        replace hm_z := rn_iret (am_cur_of (i := (23, 1, .ireturn, (0, 0, 0), 0)) (by decide +kernel)) hm_z
        obtain ⟨e2713_z, e2714_z⟩ := hm_z
        subst e2713_z e2714_z
        exact (Or.inr ⟨rfl, 2, by decide, K.1, K.2, rfl, R6⟩)
  · have g0_z : am_get (lv_args 0 [.ref 44, .int 0]) 0 = some (.ref 44) := rfl
    have g1_z : am_get (lv_args 0 [.ref 44, .int 0]) 1 = some (.int 0) := rfl
    have g0m : am_get (lv_args 0 [.ref 164]) 0 = some (.ref 164) := rfl
    have Rk := R
    have Zk := Z
    obtain ⟨⟨c1_z, c2_z, c3_z, c4_z, c5_z, c6_z, c7_z, c8_z⟩, ⟨m2_z, m3_z, m4_z, m5_z, m6_z, m7_z, m8_z⟩, R3, R4, R5, R6, R7, R8, R9, R10⟩ := (R : rq T S x p 23 h g)
    obtain ⟨np, op, z1_z, z2_z, z3_z, z4_z, z5_z, z6_z, z7_z, z8_z, z9_z, z10_z⟩ := (Z : rs 23 h g)
    obtain ⟨nk1_z, nk2_z, nk3_z⟩ := A.2.2.2.2.2.1
    replace nk1_z : rg_v h 32 0 = rg_v g 164 44 := nk1_z
    replace nk2_z : 0 ≤ (rg_v h 32 0).toInt := nk2_z
    replace nk3_z : (rg_v h 32 0).toInt ≤ 64 := nk3_z
    replace z8_z : np.toInt ≤ (rg_v h 32 0).toInt + op.toInt := z8_z
    obtain ⟨kn, ekn⟩ : ∃ v, rg_v h 32 0 = v := ⟨_, rfl⟩
    rw [ekn] at nk1_z nk2_z nk3_z z8_z
    have e9_z := rt_c1 (x := kn) (by omega) (by omega)
    replace hc_z := rn_aload_n (am_cur_of (i := (0, 1, .aload_n 0, (0, 0, 0), 0)) (by decide +kernel)) g0_z hc_z
    replace hc_z := rn_getI (v := 5) (am_cur_of (i := (1, 3, .getfield 60, (4, 10, 419), 0)) (by decide +kernel)) (by decide +kernel) ka hc_z
    replace hc_z := rn_bipush (w := 6) (am_cur_of (i := (4, 2, .bipush 6, (0, 0, 0), 0)) (by decide +kernel)) (by decide) hc_z
    replace hc_z := rn_cmpT (am_cur_of (i := (6, 3, .if_icmp .ne 30, (19, 0, 0), 0)) (by decide +kernel)) (by decide) hc_z
    replace hc_z := rn_aload_n (am_cur_of (i := (36, 1, .aload_n 0, (0, 0, 0), 0)) (by decide +kernel)) g0_z hc_z
    replace hc_z := rn_bipush (w := 40) (am_cur_of (i := (37, 2, .bipush 40, (0, 0, 0), 0)) (by decide +kernel)) (by decide) hc_z
    replace hc_z := rn_callV (M' := am_m45) (o := 44) (ar := [.int 40]) (rest := []) (L := lv_args 0 [.ref 44, .int 40]) (am_cur_of (i := (39, 3, .invokevirtual 105, (45, 834, 3), 0)) (by decide +kernel)) rfl rfl rfl rfl hc_z
    obtain ⟨r2715_z, h2716_z, q2717_z, hc_z⟩ := hc_z
    obtain ⟨rfl, yq2717_z⟩ := rp_mkN (fun q => absurd (Eq.trans (Eq.symm kb) q.2) (by decide)) q2717_z
    subst yq2717_z
    replace hc_z : rn _ _ _ _ [.int 0] _ _ _ := hc_z
    replace hc_z := rn_ifT (am_cur_of (i := (42, 3, .ifCond .eq 38, (43, 0, 0), 0)) (by decide +kernel)) (by decide) hc_z
    replace hc_z := rn_aload_n (am_cur_of (i := (80, 1, .aload_n 0, (0, 0, 0), 0)) (by decide +kernel)) g0_z hc_z
    replace hc_z := rn_getI (v := 5) (am_cur_of (i := (81, 3, .getfield 60, (4, 10, 419), 0)) (by decide +kernel)) (by decide +kernel) ka hc_z
    replace hc_z := rn_iconst (w := 4) (am_cur_of (i := (84, 1, .iconst 4, (0, 0, 0), 0)) (by decide +kernel)) (by decide) hc_z
    replace hc_z := rn_cmpT (am_cur_of (i := (85, 3, .if_icmp .ne 40, (64, 0, 0), 0)) (by decide +kernel)) (by decide) hc_z
    replace hc_z := rn_aload_n (am_cur_of (i := (125, 1, .aload_n 0, (0, 0, 0), 0)) (by decide +kernel)) g0_z hc_z
    replace hc_z := rn_getI (v := 5) (am_cur_of (i := (126, 3, .getfield 60, (4, 10, 419), 0)) (by decide +kernel)) (by decide +kernel) ka hc_z
    replace hc_z := rn_iconst (w := 2) (am_cur_of (i := (129, 1, .iconst 2, (0, 0, 0), 0)) (by decide +kernel)) (by decide) hc_z
    replace hc_z := rn_cmpT (am_cur_of (i := (130, 3, .if_icmp .ne 37, (84, 0, 0), 0)) (by decide +kernel)) (by decide) hc_z
    replace hc_z := rn_aload_n (am_cur_of (i := (167, 1, .aload_n 0, (0, 0, 0), 0)) (by decide +kernel)) g0_z hc_z
    replace hc_z := rn_iconst (w := 1) (am_cur_of (i := (168, 1, .iconst 1, (0, 0, 0), 0)) (by decide +kernel)) (by decide) hc_z
    replace hc_z := rn_callV (M' := am_m29) (o := 44) (ar := [.int 1]) (rest := []) (L := lv_args 0 [.ref 44, .int 1]) (am_cur_of (i := (169, 3, .invokevirtual 108, (29, 769, 3), 0)) (by decide +kernel)) rfl rfl rfl rfl hc_z
    obtain ⟨r2718_z, h2719_z, q2720_z, hc_z⟩ := hc_z
    obtain ⟨rfl, yq2720_z⟩ := rp_fail R4 q2720_z
    subst yq2720_z
    replace hc_z : rn _ _ _ _ [] _ _ _ := hc_z
    have K := rs_stick (w := 1) (q := p) (a := 51) (by decide) (by decide) rfl (by decide) rfl (show rg_v (am_up (am_up h 44 1 (.int 1)) 44 2 (.int (rg_v h 44 9))) 44 2 = p from R5) hc_z
    replace hm_z := rn_aload_n (am_cur_of (i := (0, 1, .aload_n 0, (0, 0, 0), 0)) (by decide +kernel)) g0m hm_z
    replace hm_z := rn_bipush (w := 40) (am_cur_of (i := (1, 2, .bipush 40, (0, 0, 0), 0)) (by decide +kernel)) (by decide) hm_z
    replace hm_z := rn_callV (M' := am_m171) (o := 164) (ar := [.int 40]) (rest := []) (L := lv_args 0 [.ref 164, .int 40]) (am_cur_of (i := (3, 3, .invokevirtual 194, (171, 1715, 3), 0)) (by decide +kernel)) rfl rfl rfl rfl hm_z
    obtain ⟨r2721_z, h2722_z, q2723_z, hm_z⟩ := hm_z
    obtain ⟨rfl, yq2723_z⟩ := rp_sgN (fun q => absurd (Eq.trans (Eq.symm kd) q.2) (by decide)) q2723_z
    subst yq2723_z
    replace hm_z : rn _ _ _ _ [.int 0] _ _ _ := hm_z
    replace hm_z := rn_ifT (am_cur_of (i := (6, 3, .ifCond .eq 44, (28, 0, 0), 0)) (by decide +kernel)) (by decide) hm_z
    replace hm_z := rn_aload_n (am_cur_of (i := (50, 1, .aload_n 0, (0, 0, 0), 0)) (by decide +kernel)) g0m hm_z
    replace hm_z := rn_bipush (w := 14) (am_cur_of (i := (51, 2, .bipush 14, (0, 0, 0), 0)) (by decide +kernel)) (by decide) hm_z
    replace hm_z := rn_callV (M' := am_m174) (o := 164) (ar := [.int 14]) (rest := []) (L := lv_args 0 [.ref 164, .int 14]) (am_cur_of (i := (53, 3, .invokevirtual 306, (174, 1727, 3), 0)) (by decide +kernel)) rfl rfl rfl rfl hm_z
    obtain ⟨r2724_z, h2725_z, q2726_z, hm_z⟩ := hm_z
    obtain ⟨rfl, yq2726_z⟩ := rp_kyN (fun q => absurd (Eq.trans (Eq.symm kc) q.1) (by decide)) q2726_z
    subst yq2726_z
    replace hm_z : rn _ _ _ _ [.int 0] _ _ _ := hm_z
    replace hm_z := rn_ifT (am_cur_of (i := (56, 3, .ifCond .eq 30, (47, 0, 0), 0)) (by decide +kernel)) (by decide) hm_z
    replace hm_z := rn_aload_n (am_cur_of (i := (86, 1, .aload_n 0, (0, 0, 0), 0)) (by decide +kernel)) g0m hm_z
    replace hm_z := rn_callV (M' := am_m176) (o := 164) (ar := []) (rest := []) (L := lv_args 0 [.ref 164]) (am_cur_of (i := (87, 3, .invokevirtual 312, (176, 1735, 3), 0)) (by decide +kernel)) rfl rfl rfl rfl hm_z
    obtain ⟨r2727_z, h2728_z, q2729_z, hm_z⟩ := hm_z
    obtain ⟨rfl, yq2729_z⟩ := rp_nm (c := 4) (d := 41) kc kd q2729_z
    replace yq2729_z := yq2729_z.symm
    subst yq2729_z
    rw [show rp_nmf 4 41 = (-1) from by unfold rp_nmf; rw [if_neg (by decide)]] at hm_z
    replace hm_z : rn _ _ _ _ [.int (-1)] _ _ _ := hm_z
    replace hm_z := rn_istore_n (am_cur_of (i := (90, 1, .istore_n 1, (0, 0, 0), 0)) (by decide +kernel)) hm_z
    obtain ⟨_, s2730_z, s2731_z, g1m, hm_z⟩ := hm_z
    replace g0m := s2730_z 0 _ (by decide) rfl g0m
    clear s2730_z s2731_z
    replace hm_z := rn_iload_n (am_cur_of (i := (91, 1, .iload_n 1, (0, 0, 0), 0)) (by decide +kernel)) g1m hm_z
    replace hm_z := rn_ifF (am_cur_of (i := (92, 3, .ifCond .ge 17, (60, 0, 0), 0)) (by decide +kernel)) (by decide) hm_z
    replace hm_z := rn_aload_n (am_cur_of (i := (95, 1, .aload_n 0, (0, 0, 0), 0)) (by decide +kernel)) g0m hm_z
    replace hm_z := rn_getI (v := 4) (am_cur_of (i := (96, 3, .getfield 157, (12, 8, 1392), 0)) (by decide +kernel)) (by decide +kernel) kc hm_z
    replace hm_z := rn_iconst (w := 3) (am_cur_of (i := (99, 1, .iconst 3, (0, 0, 0), 0)) (by decide +kernel)) (by decide) hm_z
    replace hm_z := rn_cmpF (am_cur_of (i := (100, 3, .if_icmp .eq 9, (60, 0, 0), 0)) (by decide +kernel)) (by decide) hm_z
    replace hm_z := rn_aload_n (am_cur_of (i := (103, 1, .aload_n 0, (0, 0, 0), 0)) (by decide +kernel)) g0m hm_z
    replace hm_z := rn_iconst (w := 1) (am_cur_of (i := (104, 1, .iconst 1, (0, 0, 0), 0)) (by decide +kernel)) (by decide) hm_z
    replace hm_z := rn_callV (M' := am_m158) (o := 164) (ar := [.int 1]) (rest := []) (L := lv_args 0 [.ref 164, .int 1]) (am_cur_of (i := (105, 3, .invokevirtual 181, (158, 1665, 3), 0)) (by decide +kernel)) rfl rfl rfl rfl hm_z
    obtain ⟨r2732_z, h2733_z, q2734_z, hm_z⟩ := hm_z
    obtain ⟨rfl, yq2734_z⟩ := rp_wrong q2734_z
    subst yq2734_z
    replace hm_z : rn _ _ _ _ [.int 0] _ _ _ := hm_z
    replace hm_z := rn_iret (am_cur_of (i := (108, 1, .ireturn, (0, 0, 0), 0)) (by decide +kernel)) hm_z
    obtain ⟨e2735_z, e2736_z⟩ := hm_z
    subst e2735_z e2736_z
    exact (Or.inr ⟨rfl, 1, by decide, K.1, K.2, rfl, R6⟩)
  · have g0_z : am_get (lv_args 0 [.ref 44, .int 0]) 0 = some (.ref 44) := rfl
    have g1_z : am_get (lv_args 0 [.ref 44, .int 0]) 1 = some (.int 0) := rfl
    have g0m : am_get (lv_args 0 [.ref 164]) 0 = some (.ref 164) := rfl
    have Rk := R
    have Zk := Z
    obtain ⟨⟨c1_z, c2_z, c3_z, c4_z, c5_z, c6_z, c7_z, c8_z⟩, ⟨m2_z, m3_z, m4_z, m5_z, m6_z, m7_z, m8_z⟩, R3, R4, R5, R6, R7, R8, R9, R10⟩ := (R : rq T S x p 23 h g)
    obtain ⟨np, op, z1_z, z2_z, z3_z, z4_z, z5_z, z6_z, z7_z, z8_z, z9_z, z10_z⟩ := (Z : rs 23 h g)
    obtain ⟨nk1_z, nk2_z, nk3_z⟩ := A.2.2.2.2.2.1
    replace nk1_z : rg_v h 32 0 = rg_v g 164 44 := nk1_z
    replace nk2_z : 0 ≤ (rg_v h 32 0).toInt := nk2_z
    replace nk3_z : (rg_v h 32 0).toInt ≤ 64 := nk3_z
    replace z8_z : np.toInt ≤ (rg_v h 32 0).toInt + op.toInt := z8_z
    obtain ⟨kn, ekn⟩ : ∃ v, rg_v h 32 0 = v := ⟨_, rfl⟩
    rw [ekn] at nk1_z nk2_z nk3_z z8_z
    have e9_z := rt_c1 (x := kn) (by omega) (by omega)
    replace hc_z := rn_aload_n (am_cur_of (i := (0, 1, .aload_n 0, (0, 0, 0), 0)) (by decide +kernel)) g0_z hc_z
    replace hc_z := rn_getI (v := 6) (am_cur_of (i := (1, 3, .getfield 60, (4, 10, 419), 0)) (by decide +kernel)) (by decide +kernel) ka hc_z
    replace hc_z := rn_bipush (w := 6) (am_cur_of (i := (4, 2, .bipush 6, (0, 0, 0), 0)) (by decide +kernel)) (by decide) hc_z
    replace hc_z := rn_cmpF (am_cur_of (i := (6, 3, .if_icmp .ne 30, (19, 0, 0), 0)) (by decide +kernel)) (by decide) hc_z
    replace hc_z := rn_aload_n (am_cur_of (i := (9, 1, .aload_n 0, (0, 0, 0), 0)) (by decide +kernel)) g0_z hc_z
    replace hc_z := rn_getI (v := 3) (am_cur_of (i := (10, 3, .getfield 91, (4, 11, 420), 0)) (by decide +kernel)) (by decide +kernel) kb hc_z
    replace hc_z := rn_iconst (w := 5) (am_cur_of (i := (13, 1, .iconst 5, (0, 0, 0), 0)) (by decide +kernel)) (by decide) hc_z
    replace hc_z := rn_cmpT (am_cur_of (i := (14, 3, .if_icmp .ne 22, (19, 0, 0), 0)) (by decide +kernel)) (by decide) hc_z
    replace hc_z := rn_aload_n (am_cur_of (i := (36, 1, .aload_n 0, (0, 0, 0), 0)) (by decide +kernel)) g0_z hc_z
    replace hc_z := rn_bipush (w := 40) (am_cur_of (i := (37, 2, .bipush 40, (0, 0, 0), 0)) (by decide +kernel)) (by decide) hc_z
    replace hc_z := rn_callV (M' := am_m45) (o := 44) (ar := [.int 40]) (rest := []) (L := lv_args 0 [.ref 44, .int 40]) (am_cur_of (i := (39, 3, .invokevirtual 105, (45, 834, 3), 0)) (by decide +kernel)) rfl rfl rfl rfl hc_z
    obtain ⟨r2737_z, h2738_z, q2739_z, hc_z⟩ := hc_z
    obtain ⟨rfl, yq2739_z⟩ := rp_mkN (fun q => absurd (Eq.trans (Eq.symm ka) q.1) (by decide)) q2739_z
    subst yq2739_z
    replace hc_z : rn _ _ _ _ [.int 0] _ _ _ := hc_z
    replace hc_z := rn_ifT (am_cur_of (i := (42, 3, .ifCond .eq 38, (43, 0, 0), 0)) (by decide +kernel)) (by decide) hc_z
    replace hc_z := rn_aload_n (am_cur_of (i := (80, 1, .aload_n 0, (0, 0, 0), 0)) (by decide +kernel)) g0_z hc_z
    replace hc_z := rn_getI (v := 6) (am_cur_of (i := (81, 3, .getfield 60, (4, 10, 419), 0)) (by decide +kernel)) (by decide +kernel) ka hc_z
    replace hc_z := rn_iconst (w := 4) (am_cur_of (i := (84, 1, .iconst 4, (0, 0, 0), 0)) (by decide +kernel)) (by decide) hc_z
    replace hc_z := rn_cmpT (am_cur_of (i := (85, 3, .if_icmp .ne 40, (64, 0, 0), 0)) (by decide +kernel)) (by decide) hc_z
    replace hc_z := rn_aload_n (am_cur_of (i := (125, 1, .aload_n 0, (0, 0, 0), 0)) (by decide +kernel)) g0_z hc_z
    replace hc_z := rn_getI (v := 6) (am_cur_of (i := (126, 3, .getfield 60, (4, 10, 419), 0)) (by decide +kernel)) (by decide +kernel) ka hc_z
    replace hc_z := rn_iconst (w := 2) (am_cur_of (i := (129, 1, .iconst 2, (0, 0, 0), 0)) (by decide +kernel)) (by decide) hc_z
    replace hc_z := rn_cmpT (am_cur_of (i := (130, 3, .if_icmp .ne 37, (84, 0, 0), 0)) (by decide +kernel)) (by decide) hc_z
    replace hc_z := rn_aload_n (am_cur_of (i := (167, 1, .aload_n 0, (0, 0, 0), 0)) (by decide +kernel)) g0_z hc_z
    replace hc_z := rn_iconst (w := 1) (am_cur_of (i := (168, 1, .iconst 1, (0, 0, 0), 0)) (by decide +kernel)) (by decide) hc_z
    replace hc_z := rn_callV (M' := am_m29) (o := 44) (ar := [.int 1]) (rest := []) (L := lv_args 0 [.ref 44, .int 1]) (am_cur_of (i := (169, 3, .invokevirtual 108, (29, 769, 3), 0)) (by decide +kernel)) rfl rfl rfl rfl hc_z
    obtain ⟨r2740_z, h2741_z, q2742_z, hc_z⟩ := hc_z
    obtain ⟨rfl, yq2742_z⟩ := rp_fail R4 q2742_z
    subst yq2742_z
    replace hc_z : rn _ _ _ _ [] _ _ _ := hc_z
    have K := rs_stick (w := 1) (q := p) (a := 51) (by decide) (by decide) rfl (by decide) rfl (show rg_v (am_up (am_up h 44 1 (.int 1)) 44 2 (.int (rg_v h 44 9))) 44 2 = p from R5) hc_z
    replace hm_z := rn_aload_n (am_cur_of (i := (0, 1, .aload_n 0, (0, 0, 0), 0)) (by decide +kernel)) g0m hm_z
    replace hm_z := rn_bipush (w := 40) (am_cur_of (i := (1, 2, .bipush 40, (0, 0, 0), 0)) (by decide +kernel)) (by decide) hm_z
    replace hm_z := rn_callV (M' := am_m171) (o := 164) (ar := [.int 40]) (rest := []) (L := lv_args 0 [.ref 164, .int 40]) (am_cur_of (i := (3, 3, .invokevirtual 194, (171, 1715, 3), 0)) (by decide +kernel)) rfl rfl rfl rfl hm_z
    obtain ⟨r2743_z, h2744_z, q2745_z, hm_z⟩ := hm_z
    obtain ⟨rfl, yq2745_z⟩ := rp_sgN (fun q => absurd (Eq.trans (Eq.symm kc) q.1) (by decide)) q2745_z
    subst yq2745_z
    replace hm_z : rn _ _ _ _ [.int 0] _ _ _ := hm_z
    replace hm_z := rn_ifT (am_cur_of (i := (6, 3, .ifCond .eq 44, (28, 0, 0), 0)) (by decide +kernel)) (by decide) hm_z
    replace hm_z := rn_aload_n (am_cur_of (i := (50, 1, .aload_n 0, (0, 0, 0), 0)) (by decide +kernel)) g0m hm_z
    replace hm_z := rn_bipush (w := 14) (am_cur_of (i := (51, 2, .bipush 14, (0, 0, 0), 0)) (by decide +kernel)) (by decide) hm_z
    replace hm_z := rn_callV (M' := am_m174) (o := 164) (ar := [.int 14]) (rest := []) (L := lv_args 0 [.ref 164, .int 14]) (am_cur_of (i := (53, 3, .invokevirtual 306, (174, 1727, 3), 0)) (by decide +kernel)) rfl rfl rfl rfl hm_z
    obtain ⟨r2746_z, h2747_z, q2748_z, hm_z⟩ := hm_z
    obtain ⟨rfl, yq2748_z⟩ := rp_kyN (fun q => absurd (Eq.trans (Eq.symm kd) q.2) (by decide)) q2748_z
    subst yq2748_z
    replace hm_z : rn _ _ _ _ [.int 0] _ _ _ := hm_z
    replace hm_z := rn_ifT (am_cur_of (i := (56, 3, .ifCond .eq 30, (47, 0, 0), 0)) (by decide +kernel)) (by decide) hm_z
    replace hm_z := rn_aload_n (am_cur_of (i := (86, 1, .aload_n 0, (0, 0, 0), 0)) (by decide +kernel)) g0m hm_z
    replace hm_z := rn_callV (M' := am_m176) (o := 164) (ar := []) (rest := []) (L := lv_args 0 [.ref 164]) (am_cur_of (i := (87, 3, .invokevirtual 312, (176, 1735, 3), 0)) (by decide +kernel)) rfl rfl rfl rfl hm_z
    obtain ⟨r2749_z, h2750_z, q2751_z, hm_z⟩ := hm_z
    obtain ⟨rfl, yq2751_z⟩ := rp_nm (c := 1) (d := 13) kc kd q2751_z
    replace yq2751_z := yq2751_z.symm
    subst yq2751_z
    rw [show rp_nmf 1 13 = (-1) from by decide] at hm_z
    replace hm_z : rn _ _ _ _ [.int (-1)] _ _ _ := hm_z
    replace hm_z := rn_istore_n (am_cur_of (i := (90, 1, .istore_n 1, (0, 0, 0), 0)) (by decide +kernel)) hm_z
    obtain ⟨_, s2752_z, s2753_z, g1m, hm_z⟩ := hm_z
    replace g0m := s2752_z 0 _ (by decide) rfl g0m
    clear s2752_z s2753_z
    replace hm_z := rn_iload_n (am_cur_of (i := (91, 1, .iload_n 1, (0, 0, 0), 0)) (by decide +kernel)) g1m hm_z
    replace hm_z := rn_ifF (am_cur_of (i := (92, 3, .ifCond .ge 17, (60, 0, 0), 0)) (by decide +kernel)) (by decide) hm_z
    replace hm_z := rn_aload_n (am_cur_of (i := (95, 1, .aload_n 0, (0, 0, 0), 0)) (by decide +kernel)) g0m hm_z
    replace hm_z := rn_getI (v := 1) (am_cur_of (i := (96, 3, .getfield 157, (12, 8, 1392), 0)) (by decide +kernel)) (by decide +kernel) kc hm_z
    replace hm_z := rn_iconst (w := 3) (am_cur_of (i := (99, 1, .iconst 3, (0, 0, 0), 0)) (by decide +kernel)) (by decide) hm_z
    replace hm_z := rn_cmpF (am_cur_of (i := (100, 3, .if_icmp .eq 9, (60, 0, 0), 0)) (by decide +kernel)) (by decide) hm_z
    replace hm_z := rn_aload_n (am_cur_of (i := (103, 1, .aload_n 0, (0, 0, 0), 0)) (by decide +kernel)) g0m hm_z
    replace hm_z := rn_iconst (w := 1) (am_cur_of (i := (104, 1, .iconst 1, (0, 0, 0), 0)) (by decide +kernel)) (by decide) hm_z
    replace hm_z := rn_callV (M' := am_m158) (o := 164) (ar := [.int 1]) (rest := []) (L := lv_args 0 [.ref 164, .int 1]) (am_cur_of (i := (105, 3, .invokevirtual 181, (158, 1665, 3), 0)) (by decide +kernel)) rfl rfl rfl rfl hm_z
    obtain ⟨r2754_z, h2755_z, q2756_z, hm_z⟩ := hm_z
    obtain ⟨rfl, yq2756_z⟩ := rp_wrong q2756_z
    subst yq2756_z
    replace hm_z : rn _ _ _ _ [.int 0] _ _ _ := hm_z
    replace hm_z := rn_iret (am_cur_of (i := (108, 1, .ireturn, (0, 0, 0), 0)) (by decide +kernel)) hm_z
    obtain ⟨e2757_z, e2758_z⟩ := hm_z
    subst e2757_z e2758_z
    exact (Or.inr ⟨rfl, 1, by decide, K.1, K.2, rfl, R6⟩)
  · have g0_z : am_get (lv_args 0 [.ref 44, .int 0]) 0 = some (.ref 44) := rfl
    have g1_z : am_get (lv_args 0 [.ref 44, .int 0]) 1 = some (.int 0) := rfl
    have g0m : am_get (lv_args 0 [.ref 164]) 0 = some (.ref 164) := rfl
    have Rk := R
    have Zk := Z
    obtain ⟨⟨c1_z, c2_z, c3_z, c4_z, c5_z, c6_z, c7_z, c8_z⟩, ⟨m2_z, m3_z, m4_z, m5_z, m6_z, m7_z, m8_z⟩, R3, R4, R5, R6, R7, R8, R9, R10⟩ := (R : rq T S x p 23 h g)
    obtain ⟨np, op, z1_z, z2_z, z3_z, z4_z, z5_z, z6_z, z7_z, z8_z, z9_z, z10_z⟩ := (Z : rs 23 h g)
    obtain ⟨nk1_z, nk2_z, nk3_z⟩ := A.2.2.2.2.2.1
    replace nk1_z : rg_v h 32 0 = rg_v g 164 44 := nk1_z
    replace nk2_z : 0 ≤ (rg_v h 32 0).toInt := nk2_z
    replace nk3_z : (rg_v h 32 0).toInt ≤ 64 := nk3_z
    replace z8_z : np.toInt ≤ (rg_v h 32 0).toInt + op.toInt := z8_z
    obtain ⟨kn, ekn⟩ : ∃ v, rg_v h 32 0 = v := ⟨_, rfl⟩
    rw [ekn] at nk1_z nk2_z nk3_z z8_z
    have e9_z := rt_c1 (x := kn) (by omega) (by omega)
    replace hc_z := rn_aload_n (am_cur_of (i := (0, 1, .aload_n 0, (0, 0, 0), 0)) (by decide +kernel)) g0_z hc_z
    replace hc_z := rn_getI (v := 6) (am_cur_of (i := (1, 3, .getfield 60, (4, 10, 419), 0)) (by decide +kernel)) (by decide +kernel) ka hc_z
    replace hc_z := rn_bipush (w := 6) (am_cur_of (i := (4, 2, .bipush 6, (0, 0, 0), 0)) (by decide +kernel)) (by decide) hc_z
    replace hc_z := rn_cmpF (am_cur_of (i := (6, 3, .if_icmp .ne 30, (19, 0, 0), 0)) (by decide +kernel)) (by decide) hc_z
    replace hc_z := rn_aload_n (am_cur_of (i := (9, 1, .aload_n 0, (0, 0, 0), 0)) (by decide +kernel)) g0_z hc_z
    replace hc_z := rn_getI (v := 4) (am_cur_of (i := (10, 3, .getfield 91, (4, 11, 420), 0)) (by decide +kernel)) (by decide +kernel) kb hc_z
    replace hc_z := rn_iconst (w := 5) (am_cur_of (i := (13, 1, .iconst 5, (0, 0, 0), 0)) (by decide +kernel)) (by decide) hc_z
    replace hc_z := rn_cmpT (am_cur_of (i := (14, 3, .if_icmp .ne 22, (19, 0, 0), 0)) (by decide +kernel)) (by decide) hc_z
    replace hc_z := rn_aload_n (am_cur_of (i := (36, 1, .aload_n 0, (0, 0, 0), 0)) (by decide +kernel)) g0_z hc_z
    replace hc_z := rn_bipush (w := 40) (am_cur_of (i := (37, 2, .bipush 40, (0, 0, 0), 0)) (by decide +kernel)) (by decide) hc_z
    replace hc_z := rn_callV (M' := am_m45) (o := 44) (ar := [.int 40]) (rest := []) (L := lv_args 0 [.ref 44, .int 40]) (am_cur_of (i := (39, 3, .invokevirtual 105, (45, 834, 3), 0)) (by decide +kernel)) rfl rfl rfl rfl hc_z
    obtain ⟨r2759_z, h2760_z, q2761_z, hc_z⟩ := hc_z
    obtain ⟨rfl, yq2761_z⟩ := rp_mkN (fun q => absurd (Eq.trans (Eq.symm ka) q.1) (by decide)) q2761_z
    subst yq2761_z
    replace hc_z : rn _ _ _ _ [.int 0] _ _ _ := hc_z
    replace hc_z := rn_ifT (am_cur_of (i := (42, 3, .ifCond .eq 38, (43, 0, 0), 0)) (by decide +kernel)) (by decide) hc_z
    replace hc_z := rn_aload_n (am_cur_of (i := (80, 1, .aload_n 0, (0, 0, 0), 0)) (by decide +kernel)) g0_z hc_z
    replace hc_z := rn_getI (v := 6) (am_cur_of (i := (81, 3, .getfield 60, (4, 10, 419), 0)) (by decide +kernel)) (by decide +kernel) ka hc_z
    replace hc_z := rn_iconst (w := 4) (am_cur_of (i := (84, 1, .iconst 4, (0, 0, 0), 0)) (by decide +kernel)) (by decide) hc_z
    replace hc_z := rn_cmpT (am_cur_of (i := (85, 3, .if_icmp .ne 40, (64, 0, 0), 0)) (by decide +kernel)) (by decide) hc_z
    replace hc_z := rn_aload_n (am_cur_of (i := (125, 1, .aload_n 0, (0, 0, 0), 0)) (by decide +kernel)) g0_z hc_z
    replace hc_z := rn_getI (v := 6) (am_cur_of (i := (126, 3, .getfield 60, (4, 10, 419), 0)) (by decide +kernel)) (by decide +kernel) ka hc_z
    replace hc_z := rn_iconst (w := 2) (am_cur_of (i := (129, 1, .iconst 2, (0, 0, 0), 0)) (by decide +kernel)) (by decide) hc_z
    replace hc_z := rn_cmpT (am_cur_of (i := (130, 3, .if_icmp .ne 37, (84, 0, 0), 0)) (by decide +kernel)) (by decide) hc_z
    replace hc_z := rn_aload_n (am_cur_of (i := (167, 1, .aload_n 0, (0, 0, 0), 0)) (by decide +kernel)) g0_z hc_z
    replace hc_z := rn_iconst (w := 1) (am_cur_of (i := (168, 1, .iconst 1, (0, 0, 0), 0)) (by decide +kernel)) (by decide) hc_z
    replace hc_z := rn_callV (M' := am_m29) (o := 44) (ar := [.int 1]) (rest := []) (L := lv_args 0 [.ref 44, .int 1]) (am_cur_of (i := (169, 3, .invokevirtual 108, (29, 769, 3), 0)) (by decide +kernel)) rfl rfl rfl rfl hc_z
    obtain ⟨r2762_z, h2763_z, q2764_z, hc_z⟩ := hc_z
    obtain ⟨rfl, yq2764_z⟩ := rp_fail R4 q2764_z
    subst yq2764_z
    replace hc_z : rn _ _ _ _ [] _ _ _ := hc_z
    have K := rs_stick (w := 1) (q := p) (a := 51) (by decide) (by decide) rfl (by decide) rfl (show rg_v (am_up (am_up h 44 1 (.int 1)) 44 2 (.int (rg_v h 44 9))) 44 2 = p from R5) hc_z
    replace hm_z := rn_aload_n (am_cur_of (i := (0, 1, .aload_n 0, (0, 0, 0), 0)) (by decide +kernel)) g0m hm_z
    replace hm_z := rn_bipush (w := 40) (am_cur_of (i := (1, 2, .bipush 40, (0, 0, 0), 0)) (by decide +kernel)) (by decide) hm_z
    replace hm_z := rn_callV (M' := am_m171) (o := 164) (ar := [.int 40]) (rest := []) (L := lv_args 0 [.ref 164, .int 40]) (am_cur_of (i := (3, 3, .invokevirtual 194, (171, 1715, 3), 0)) (by decide +kernel)) rfl rfl rfl rfl hm_z
    obtain ⟨r2765_z, h2766_z, q2767_z, hm_z⟩ := hm_z
    obtain ⟨rfl, yq2767_z⟩ := rp_sgN (fun q => absurd (Eq.trans (Eq.symm kc) q.1) (by decide)) q2767_z
    subst yq2767_z
    replace hm_z : rn _ _ _ _ [.int 0] _ _ _ := hm_z
    replace hm_z := rn_ifT (am_cur_of (i := (6, 3, .ifCond .eq 44, (28, 0, 0), 0)) (by decide +kernel)) (by decide) hm_z
    replace hm_z := rn_aload_n (am_cur_of (i := (50, 1, .aload_n 0, (0, 0, 0), 0)) (by decide +kernel)) g0m hm_z
    replace hm_z := rn_bipush (w := 14) (am_cur_of (i := (51, 2, .bipush 14, (0, 0, 0), 0)) (by decide +kernel)) (by decide) hm_z
    replace hm_z := rn_callV (M' := am_m174) (o := 164) (ar := [.int 14]) (rest := []) (L := lv_args 0 [.ref 164, .int 14]) (am_cur_of (i := (53, 3, .invokevirtual 306, (174, 1727, 3), 0)) (by decide +kernel)) rfl rfl rfl rfl hm_z
    obtain ⟨r2768_z, h2769_z, q2770_z, hm_z⟩ := hm_z
    obtain ⟨rfl, yq2770_z⟩ := rp_kyN (fun q => absurd (Eq.trans (Eq.symm kd) q.2) (by decide)) q2770_z
    subst yq2770_z
    replace hm_z : rn _ _ _ _ [.int 0] _ _ _ := hm_z
    replace hm_z := rn_ifT (am_cur_of (i := (56, 3, .ifCond .eq 30, (47, 0, 0), 0)) (by decide +kernel)) (by decide) hm_z
    replace hm_z := rn_aload_n (am_cur_of (i := (86, 1, .aload_n 0, (0, 0, 0), 0)) (by decide +kernel)) g0m hm_z
    replace hm_z := rn_callV (M' := am_m176) (o := 164) (ar := []) (rest := []) (L := lv_args 0 [.ref 164]) (am_cur_of (i := (87, 3, .invokevirtual 312, (176, 1735, 3), 0)) (by decide +kernel)) rfl rfl rfl rfl hm_z
    obtain ⟨r2771_z, h2772_z, q2773_z, hm_z⟩ := hm_z
    obtain ⟨rfl, yq2773_z⟩ := rp_nm (c := 1) (d := 12) kc kd q2773_z
    replace yq2773_z := yq2773_z.symm
    subst yq2773_z
    rw [show rp_nmf 1 12 = (-1) from by decide] at hm_z
    replace hm_z : rn _ _ _ _ [.int (-1)] _ _ _ := hm_z
    replace hm_z := rn_istore_n (am_cur_of (i := (90, 1, .istore_n 1, (0, 0, 0), 0)) (by decide +kernel)) hm_z
    obtain ⟨_, s2774_z, s2775_z, g1m, hm_z⟩ := hm_z
    replace g0m := s2774_z 0 _ (by decide) rfl g0m
    clear s2774_z s2775_z
    replace hm_z := rn_iload_n (am_cur_of (i := (91, 1, .iload_n 1, (0, 0, 0), 0)) (by decide +kernel)) g1m hm_z
    replace hm_z := rn_ifF (am_cur_of (i := (92, 3, .ifCond .ge 17, (60, 0, 0), 0)) (by decide +kernel)) (by decide) hm_z
    replace hm_z := rn_aload_n (am_cur_of (i := (95, 1, .aload_n 0, (0, 0, 0), 0)) (by decide +kernel)) g0m hm_z
    replace hm_z := rn_getI (v := 1) (am_cur_of (i := (96, 3, .getfield 157, (12, 8, 1392), 0)) (by decide +kernel)) (by decide +kernel) kc hm_z
    replace hm_z := rn_iconst (w := 3) (am_cur_of (i := (99, 1, .iconst 3, (0, 0, 0), 0)) (by decide +kernel)) (by decide) hm_z
    replace hm_z := rn_cmpF (am_cur_of (i := (100, 3, .if_icmp .eq 9, (60, 0, 0), 0)) (by decide +kernel)) (by decide) hm_z
    replace hm_z := rn_aload_n (am_cur_of (i := (103, 1, .aload_n 0, (0, 0, 0), 0)) (by decide +kernel)) g0m hm_z
    replace hm_z := rn_iconst (w := 1) (am_cur_of (i := (104, 1, .iconst 1, (0, 0, 0), 0)) (by decide +kernel)) (by decide) hm_z
    replace hm_z := rn_callV (M' := am_m158) (o := 164) (ar := [.int 1]) (rest := []) (L := lv_args 0 [.ref 164, .int 1]) (am_cur_of (i := (105, 3, .invokevirtual 181, (158, 1665, 3), 0)) (by decide +kernel)) rfl rfl rfl rfl hm_z
    obtain ⟨r2776_z, h2777_z, q2778_z, hm_z⟩ := hm_z
    obtain ⟨rfl, yq2778_z⟩ := rp_wrong q2778_z
    subst yq2778_z
    replace hm_z : rn _ _ _ _ [.int 0] _ _ _ := hm_z
    replace hm_z := rn_iret (am_cur_of (i := (108, 1, .ireturn, (0, 0, 0), 0)) (by decide +kernel)) hm_z
    obtain ⟨e2779_z, e2780_z⟩ := hm_z
    subst e2779_z e2780_z
    exact (Or.inr ⟨rfl, 1, by decide, K.1, K.2, rfl, R6⟩)
  · have g0_z : am_get (lv_args 0 [.ref 44, .int 0]) 0 = some (.ref 44) := rfl
    have g1_z : am_get (lv_args 0 [.ref 44, .int 0]) 1 = some (.int 0) := rfl
    have g0m : am_get (lv_args 0 [.ref 164]) 0 = some (.ref 164) := rfl
    have Rk := R
    have Zk := Z
    obtain ⟨⟨c1_z, c2_z, c3_z, c4_z, c5_z, c6_z, c7_z, c8_z⟩, ⟨m2_z, m3_z, m4_z, m5_z, m6_z, m7_z, m8_z⟩, R3, R4, R5, R6, R7, R8, R9, R10⟩ := (R : rq T S x p 23 h g)
    obtain ⟨np, op, z1_z, z2_z, z3_z, z4_z, z5_z, z6_z, z7_z, z8_z, z9_z, z10_z⟩ := (Z : rs 23 h g)
    obtain ⟨nk1_z, nk2_z, nk3_z⟩ := A.2.2.2.2.2.1
    replace nk1_z : rg_v h 32 0 = rg_v g 164 44 := nk1_z
    replace nk2_z : 0 ≤ (rg_v h 32 0).toInt := nk2_z
    replace nk3_z : (rg_v h 32 0).toInt ≤ 64 := nk3_z
    replace z8_z : np.toInt ≤ (rg_v h 32 0).toInt + op.toInt := z8_z
    obtain ⟨kn, ekn⟩ : ∃ v, rg_v h 32 0 = v := ⟨_, rfl⟩
    rw [ekn] at nk1_z nk2_z nk3_z z8_z
    have e9_z := rt_c1 (x := kn) (by omega) (by omega)
    replace hc_z := rn_aload_n (am_cur_of (i := (0, 1, .aload_n 0, (0, 0, 0), 0)) (by decide +kernel)) g0_z hc_z
    replace hc_z := rn_getI (v := 6) (am_cur_of (i := (1, 3, .getfield 60, (4, 10, 419), 0)) (by decide +kernel)) (by decide +kernel) ka hc_z
    replace hc_z := rn_bipush (w := 6) (am_cur_of (i := (4, 2, .bipush 6, (0, 0, 0), 0)) (by decide +kernel)) (by decide) hc_z
    replace hc_z := rn_cmpF (am_cur_of (i := (6, 3, .if_icmp .ne 30, (19, 0, 0), 0)) (by decide +kernel)) (by decide) hc_z
    replace hc_z := rn_aload_n (am_cur_of (i := (9, 1, .aload_n 0, (0, 0, 0), 0)) (by decide +kernel)) g0_z hc_z
    replace hc_z := rn_getI (v := 5) (am_cur_of (i := (10, 3, .getfield 91, (4, 11, 420), 0)) (by decide +kernel)) (by decide +kernel) kb hc_z
    replace hc_z := rn_iconst (w := 5) (am_cur_of (i := (13, 1, .iconst 5, (0, 0, 0), 0)) (by decide +kernel)) (by decide) hc_z
    replace hc_z := rn_cmpF (am_cur_of (i := (14, 3, .if_icmp .ne 22, (19, 0, 0), 0)) (by decide +kernel)) (by decide) hc_z
    replace hc_z := rn_iload_n (am_cur_of (i := (17, 1, .iload_n 1, (0, 0, 0), 0)) (by decide +kernel)) g1_z hc_z
    replace hc_z := rn_ifF (am_cur_of (i := (18, 3, .ifCond .ne 18, (19, 0, 0), 0)) (by decide +kernel)) (by decide) hc_z
    replace hc_z := rn_aload_n (am_cur_of (i := (21, 1, .aload_n 0, (0, 0, 0), 0)) (by decide +kernel)) g0_z hc_z
    replace hc_z := rn_callV (M' := am_m49) (o := 44) (ar := []) (rest := []) (L := lv_args 0 [.ref 44]) (am_cur_of (i := (22, 3, .invokevirtual 270, (49, 852, 3), 0)) (by decide +kernel)) rfl rfl rfl rfl hc_z
    obtain ⟨r2781_z, h2782_z, q2783_z, hc_z⟩ := hc_z
    rcases rs_ck23 R4 (show h 44 6 = .ref 23 from R3) q2783_z with ⟨ge, rfl, eh⟩ | ⟨lt, rfl, eh⟩
    · subst eh
      replace ge : 64 ≤ kn.toInt := by rw [← ekn]; exact ge
      replace hc_z : rn _ _ _ _ [] _ _ _ := hc_z
      have K := rs_stick (w := 2) (q := p) (a := 51) (by decide) (by decide) rfl (by decide) rfl (show rg_v (am_up (am_up h 44 1 (.int 2)) 44 2 (.int (rg_v h 44 9))) 44 2 = p from R5) hc_z
      replace hm_z := rn_aload_n (am_cur_of (i := (0, 1, .aload_n 0, (0, 0, 0), 0)) (by decide +kernel)) g0m hm_z
      replace hm_z := rn_bipush (w := 40) (am_cur_of (i := (1, 2, .bipush 40, (0, 0, 0), 0)) (by decide +kernel)) (by decide) hm_z
      replace hm_z := rn_callV (M' := am_m171) (o := 164) (ar := [.int 40]) (rest := []) (L := lv_args 0 [.ref 164, .int 40]) (am_cur_of (i := (3, 3, .invokevirtual 194, (171, 1715, 3), 0)) (by decide +kernel)) rfl rfl rfl rfl hm_z
      obtain ⟨r2784_z, h2785_z, q2786_z, hm_z⟩ := hm_z
      obtain ⟨rfl, yq2786_z⟩ := rp_sgN (fun q => absurd (Eq.trans (Eq.symm kc) q.1) (by decide)) q2786_z
      subst yq2786_z
      replace hm_z : rn _ _ _ _ [.int 0] _ _ _ := hm_z
      replace hm_z := rn_ifT (am_cur_of (i := (6, 3, .ifCond .eq 44, (28, 0, 0), 0)) (by decide +kernel)) (by decide) hm_z
      replace hm_z := rn_aload_n (am_cur_of (i := (50, 1, .aload_n 0, (0, 0, 0), 0)) (by decide +kernel)) g0m hm_z
      replace hm_z := rn_bipush (w := 14) (am_cur_of (i := (51, 2, .bipush 14, (0, 0, 0), 0)) (by decide +kernel)) (by decide) hm_z
      replace hm_z := rn_callV (M' := am_m174) (o := 164) (ar := [.int 14]) (rest := []) (L := lv_args 0 [.ref 164, .int 14]) (am_cur_of (i := (53, 3, .invokevirtual 306, (174, 1727, 3), 0)) (by decide +kernel)) rfl rfl rfl rfl hm_z
      obtain ⟨r2787_z, h2788_z, q2789_z, hm_z⟩ := hm_z
      obtain ⟨rfl, yq2789_z⟩ := rp_kyT kc kd q2789_z
      subst yq2789_z
      replace hm_z : rn _ _ _ _ [.int 1] _ _ _ := hm_z
      replace hm_z := rn_ifF (am_cur_of (i := (56, 3, .ifCond .eq 30, (47, 0, 0), 0)) (by decide +kernel)) (by decide) hm_z
      replace hm_z := rn_aload_n (am_cur_of (i := (59, 1, .aload_n 0, (0, 0, 0), 0)) (by decide +kernel)) g0m hm_z
      replace hm_z := rn_getI (v := 1) (am_cur_of (i := (60, 3, .getfield 302, (12, 46, 1430), 0)) (by decide +kernel)) (by decide +kernel) w2_z hm_z
      replace hm_z := rn_ifF (am_cur_of (i := (63, 3, .ifCond .eq 23, (47, 0, 0), 0)) (by decide +kernel)) (by decide) hm_z
      replace hm_z := rn_aload_n (am_cur_of (i := (66, 1, .aload_n 0, (0, 0, 0), 0)) (by decide +kernel)) g0m hm_z
      replace hm_z := rn_callV (M' := am_m175) (o := 164) (ar := []) (rest := []) (L := lv_args 0 [.ref 164]) (am_cur_of (i := (67, 3, .invokevirtual 309, (175, 1731, 3), 0)) (by decide +kernel)) rfl rfl rfl rfl hm_z
      obtain ⟨r2790_z, h2791_z, q2792_z, hm_z⟩ := hm_z
      rcases rs_ic q2792_z with ⟨i1_z, rfl, i3_z⟩ | ⟨i1_z, -⟩
      · subst i3_z
        replace hm_z : rn _ _ _ _ [.int 0] _ _ _ := hm_z
        replace hm_z := rn_ifF (am_cur_of (i := (70, 3, .ifCond .ne 5, (40, 0, 0), 0)) (by decide +kernel)) (by decide) hm_z
        replace hm_z := rn_iconst (w := 0) (am_cur_of (i := (73, 1, .iconst 0, (0, 0, 0), 0)) (by decide +kernel)) (by decide) hm_z
        replace hm_z := rn_iret (am_cur_of (i := (74, 1, .ireturn, (0, 0, 0), 0)) (by decide +kernel)) hm_z
        obtain ⟨e2793_z, e2794_z⟩ := hm_z
        subst e2793_z e2794_z
        exact (Or.inr ⟨rfl, 2, by decide, K.1, K.2, rfl, R6⟩)
      · exact absurd (Int32.toInt_inj.mp (show (rg_v g 164 44).toInt = (64 : Int32).toInt from by rw [show rg_v g 164 44 = kn from nk1_z.symm, show (64 : Int32).toInt = 64 by decide]; omega)) i1_z
    · subst eh
      replace lt : kn.toInt < 64 := by rw [← ekn]; exact lt
      rw [show rg_v h 32 0 = kn from ekn] at hc_z
      replace hm_z := rn_aload_n (am_cur_of (i := (0, 1, .aload_n 0, (0, 0, 0), 0)) (by decide +kernel)) g0m hm_z
      replace hm_z := rn_bipush (w := 40) (am_cur_of (i := (1, 2, .bipush 40, (0, 0, 0), 0)) (by decide +kernel)) (by decide) hm_z
      replace hm_z := rn_callV (M' := am_m171) (o := 164) (ar := [.int 40]) (rest := []) (L := lv_args 0 [.ref 164, .int 40]) (am_cur_of (i := (3, 3, .invokevirtual 194, (171, 1715, 3), 0)) (by decide +kernel)) rfl rfl rfl rfl hm_z
      obtain ⟨r2795_z, h2796_z, q2797_z, hm_z⟩ := hm_z
      obtain ⟨rfl, yq2797_z⟩ := rp_sgN (fun q => absurd (Eq.trans (Eq.symm kc) q.1) (by decide)) q2797_z
      subst yq2797_z
      replace hm_z : rn _ _ _ _ [.int 0] _ _ _ := hm_z
      replace hm_z := rn_ifT (am_cur_of (i := (6, 3, .ifCond .eq 44, (28, 0, 0), 0)) (by decide +kernel)) (by decide) hm_z
      replace hm_z := rn_aload_n (am_cur_of (i := (50, 1, .aload_n 0, (0, 0, 0), 0)) (by decide +kernel)) g0m hm_z
      replace hm_z := rn_bipush (w := 14) (am_cur_of (i := (51, 2, .bipush 14, (0, 0, 0), 0)) (by decide +kernel)) (by decide) hm_z
      replace hm_z := rn_callV (M' := am_m174) (o := 164) (ar := [.int 14]) (rest := []) (L := lv_args 0 [.ref 164, .int 14]) (am_cur_of (i := (53, 3, .invokevirtual 306, (174, 1727, 3), 0)) (by decide +kernel)) rfl rfl rfl rfl hm_z
      obtain ⟨r2798_z, h2799_z, q2800_z, hm_z⟩ := hm_z
      obtain ⟨rfl, yq2800_z⟩ := rp_kyT kc kd q2800_z
      subst yq2800_z
      replace hm_z : rn _ _ _ _ [.int 1] _ _ _ := hm_z
      replace hm_z := rn_ifF (am_cur_of (i := (56, 3, .ifCond .eq 30, (47, 0, 0), 0)) (by decide +kernel)) (by decide) hm_z
      replace hm_z := rn_aload_n (am_cur_of (i := (59, 1, .aload_n 0, (0, 0, 0), 0)) (by decide +kernel)) g0m hm_z
      replace hm_z := rn_getI (v := 1) (am_cur_of (i := (60, 3, .getfield 302, (12, 46, 1430), 0)) (by decide +kernel)) (by decide +kernel) w2_z hm_z
      replace hm_z := rn_ifF (am_cur_of (i := (63, 3, .ifCond .eq 23, (47, 0, 0), 0)) (by decide +kernel)) (by decide) hm_z
      replace hm_z := rn_aload_n (am_cur_of (i := (66, 1, .aload_n 0, (0, 0, 0), 0)) (by decide +kernel)) g0m hm_z
      replace hm_z := rn_callV (M' := am_m175) (o := 164) (ar := []) (rest := []) (L := lv_args 0 [.ref 164]) (am_cur_of (i := (67, 3, .invokevirtual 309, (175, 1731, 3), 0)) (by decide +kernel)) rfl rfl rfl rfl hm_z
      obtain ⟨r2801_z, h2802_z, q2803_z, hm_z⟩ := hm_z
      rcases rs_ic q2803_z with ⟨i1_z, -⟩ | ⟨i1_z, rfl, i3_z⟩
      · exfalso
        have zz := congrArg Int32.toInt i1_z
        rw [show rg_v g 164 44 = kn from nk1_z.symm, show (64 : Int32).toInt = 64 by decide] at zz
        omega
      · subst i3_z
        rw [show rg_v g 164 44 = kn from nk1_z.symm] at hm_z
        replace hm_z : rn _ _ _ _ [.int 1] _ _ _ := hm_z
        replace hc_z : rn _ _ _ _ [] _ _ _ := hc_z
        replace hc_z := rn_aload_n (am_cur_of (i := (25, 1, .aload_n 0, (0, 0, 0), 0)) (by decide +kernel)) g0_z hc_z
        replace hc_z := rn_iconst (w := 5) (am_cur_of (i := (26, 1, .iconst 5, (0, 0, 0), 0)) (by decide +kernel)) (by decide) hc_z
        replace hc_z := rn_callV (M' := am_m50) (o := 44) (ar := [.int 5]) (rest := []) (L := lv_args 0 [.ref 44, .int 5]) (am_cur_of (i := (27, 3, .invokevirtual 273, (50, 856, 3), 0)) (by decide +kernel)) rfl rfl rfl rfl hc_z
        obtain ⟨r2804_z, h2805_z, q2806_z, hc_z⟩ := hc_z
        obtain ⟨rfl, eh⟩ := rs_hold (np := np) (show rg_v (am_up h 32 0 (.int (kn + 1))) 44 13 = np from z1_z) (by omega) q2806_z
        subst eh
        replace hc_z : rn _ _ _ _ [] _ _ _ := hc_z
        replace hc_z := rn_aload_n (am_cur_of (i := (30, 1, .aload_n 0, (0, 0, 0), 0)) (by decide +kernel)) g0_z hc_z
        replace hc_z := rn_callV (M' := am_m19) (o := 44) (ar := []) (rest := []) (L := lv_args 0 [.ref 44]) (am_cur_of (i := (31, 3, .invokevirtual 57, (19, 727, 3), 0)) (by decide +kernel)) rfl rfl rfl rfl hc_z
        obtain ⟨r2807_z, h2808_z, q2809_z, hc_z⟩ := hc_z
        have vo := rn_void rfl q2809_z
        subst vo
        replace hm_z := rn_ifT (am_cur_of (i := (70, 3, .ifCond .ne 5, (40, 0, 0), 0)) (by decide +kernel)) (by decide) hm_z
        replace hm_z := rn_aload_n (am_cur_of (i := (75, 1, .aload_n 0, (0, 0, 0), 0)) (by decide +kernel)) g0m hm_z
        replace hm_z := rn_iconst (w := 2) (am_cur_of (i := (76, 1, .iconst 2, (0, 0, 0), 0)) (by decide +kernel)) (by decide) hm_z
        replace hm_z := rn_callV (M' := am_m173) (o := 164) (ar := [.int 2]) (rest := []) (L := lv_args 0 [.ref 164, .int 2]) (am_cur_of (i := (77, 3, .invokevirtual 298, (173, 1723, 3), 0)) (by decide +kernel)) rfl rfl rfl rfl hm_z
        obtain ⟨r2810_z, h2811_z, q2812_z, hm_z⟩ := hm_z
        obtain ⟨rfl, eh⟩ := rs_wf (np := np) (show rg_v (am_up g 164 44 (.int (kn + 1))) 164 41 = np from z2_z) q2812_z
        subst eh
        replace hm_z : rn _ _ _ _ [] _ _ _ := hm_z
        replace hm_z := rn_aload_n (am_cur_of (i := (80, 1, .aload_n 0, (0, 0, 0), 0)) (by decide +kernel)) g0m hm_z
        replace hm_z := rn_callV (M' := am_m151) (o := 164) (ar := []) (rest := []) (L := lv_args 0 [.ref 164]) (am_cur_of (i := (81, 3, .invokevirtual 191, (151, 1636, 3), 0)) (by decide +kernel)) rfl rfl rfl rfl hm_z
        obtain ⟨r2813_z, h2814_z, q2815_z, hm_z⟩ := hm_z
        have vo := rn_void rfl q2815_z
        subst vo
        have FC : ab_Fr (rz_MC23.drop 1) h (am_up (am_up (am_up h 32 0 (.int (kn + 1))) 47 np.toNatClampNeg (.int 5)) 44 13 (.int (np + 1))) := ab_Fr_up rfl (ab_Fr_up rfl (ab_Fr_up rfl ab_Fr_refl))
        have FC' : ab_Fr rz_MC23 h (am_up (am_up (am_up h 32 0 (.int (kn + 1))) 47 np.toNatClampNeg (.int 5)) 44 13 (.int (np + 1))) := ab_Fr_sub (by decide) FC
        have FM : ab_Fr rz_MM g (am_up (am_up (am_up g 164 44 (.int (kn + 1))) 184 np.toNatClampNeg (.int 2)) 164 41 (.int (np + 1))) := ab_Fr_up rfl (ab_Fr_up rfl (ab_Fr_up rfl ab_Fr_refl))
        obtain ⟨-, -, x2_z, p2_z, R2, le2_z, t5_z, t6_z⟩ := pr_tok (rz_q023 (rq_0 Rk) FC' FM) q2809_z q2815_z
        have A2 := rp_x (by decide) (rz_p23 A FC' FM ((show rg_v (am_up (am_up (am_up h 32 0 (.int (kn + 1))) 47 np.toNatClampNeg (.int 5)) 44 13 (.int (np + 1))) 32 0 = kn + 1 from (show rg_v (am_up (am_up (am_up h 32 0 (.int (kn + 1))) 47 np.toNatClampNeg (.int 5)) 44 13 (.int (np + 1))) 32 0 = kn + 1 from rfl)).trans (show rg_v (am_up (am_up (am_up g 164 44 (.int (kn + 1))) 184 np.toNatClampNeg (.int 2)) 164 41 (.int (np + 1))) 164 44 = kn + 1 from (show rg_v (am_up (am_up (am_up g 164 44 (.int (kn + 1))) 184 np.toNatClampNeg (.int 2)) 164 41 (.int (np + 1))) 164 44 = kn + 1 from rfl)).symm) (by rw [show rg_v (am_up (am_up (am_up h 32 0 (.int (kn + 1))) 47 np.toNatClampNeg (.int 5)) 44 13 (.int (np + 1))) 32 0 = kn + 1 from (show rg_v (am_up (am_up (am_up h 32 0 (.int (kn + 1))) 47 np.toNatClampNeg (.int 5)) 44 13 (.int (np + 1))) 32 0 = kn + 1 from rfl)]; omega) (by rw [show rg_v (am_up (am_up (am_up h 32 0 (.int (kn + 1))) 47 np.toNatClampNeg (.int 5)) 44 13 (.int (np + 1))) 32 0 = kn + 1 from (show rg_v (am_up (am_up (am_up h 32 0 (.int (kn + 1))) 47 np.toNatClampNeg (.int 5)) 44 13 (.int (np + 1))) 32 0 = kn + 1 from rfl)]; omega)) (rx_C_f t5_z) (rx_M_f t6_z)
        have B2 := rp_tk (rz_t23 B FC FM) (rg_v_fr t5_z (by decide)) (fun k => rg_v_fr t6_z (rg_v_in (by decide) k)) (rx_M_f t6_z)
        have Z2 : rs 23 (am_up (am_up (am_up h 32 0 (.int (kn + 1))) 47 np.toNatClampNeg (.int 5)) 44 13 (.int (np + 1))) (am_up (am_up (am_up g 164 44 (.int (kn + 1))) 184 np.toNatClampNeg (.int 2)) 164 41 (.int (np + 1))) := rs_push (o := 5) (k := 2) (np := np) (op := op) Zk (by unfold rs_o; decide) z1_z z4_z (show rg_v (am_up (am_up (am_up h 32 0 (.int (kn + 1))) 47 np.toNatClampNeg (.int 5)) 44 13 (.int (np + 1))) 44 13 = np + 1 from (show rg_v (am_up (am_up (am_up h 32 0 (.int (kn + 1))) 47 np.toNatClampNeg (.int 5)) 44 13 (.int (np + 1))) 44 13 = np + 1 from rfl)) (show rg_v (am_up (am_up (am_up g 164 44 (.int (kn + 1))) 184 np.toNatClampNeg (.int 2)) 164 41 (.int (np + 1))) 164 41 = np + 1 from (show rg_v (am_up (am_up (am_up g 164 44 (.int (kn + 1))) 184 np.toNatClampNeg (.int 2)) 164 41 (.int (np + 1))) 164 41 = np + 1 from rfl)) (fun i hi_z => (show rg_v (am_up (am_up (am_up h 32 0 (.int (kn + 1))) 47 np.toNatClampNeg (.int 5)) 44 13 (.int (np + 1))) 47 i = rg_v h 47 i from rg_v_other (h := h) (o := 47) (k := np.toNatClampNeg) (v := .int 5) (by omega))) (show rg_v (am_up (am_up (am_up h 32 0 (.int (kn + 1))) 47 np.toNatClampNeg (.int 5)) 44 13 (.int (np + 1))) 47 np.toNatClampNeg = 5 from rg_v_self (h := h) (o := 47) (k := np.toNatClampNeg)) (fun i hi_z => (show rg_v (am_up (am_up (am_up g 164 44 (.int (kn + 1))) 184 np.toNatClampNeg (.int 2)) 164 41 (.int (np + 1))) 184 i = rg_v g 184 i from rg_v_other (h := g) (o := 184) (k := np.toNatClampNeg) (v := .int 2) (by omega))) (show rg_v (am_up (am_up (am_up g 164 44 (.int (kn + 1))) 184 np.toNatClampNeg (.int 2)) 164 41 (.int (np + 1))) 184 np.toNatClampNeg = 2 from rg_v_self (h := g) (o := 184) (k := np.toNatClampNeg)) (show (rg_v h 32 0).toInt ≤ 64 by rw [ekn]; exact nk3_z) (Or.inl ⟨by decide, (show rg_v (am_up (am_up (am_up h 32 0 (.int (kn + 1))) 47 np.toNatClampNeg (.int 5)) 44 13 (.int (np + 1))) 44 14 = op from (show rg_v (am_up (am_up (am_up h 32 0 (.int (kn + 1))) 47 np.toNatClampNeg (.int 5)) 44 13 (.int (np + 1))) 44 14 = op from z4_z)), (show rg_v (am_up (am_up (am_up g 164 44 (.int (kn + 1))) 184 np.toNatClampNeg (.int 2)) 164 41 (.int (np + 1))) 164 43 = op from (show rg_v (am_up (am_up (am_up g 164 44 (.int (kn + 1))) 184 np.toNatClampNeg (.int 2)) 164 41 (.int (np + 1))) 164 43 = op from z5_z)), (show (rg_v (am_up (am_up (am_up h 32 0 (.int (kn + 1))) 47 np.toNatClampNeg (.int 5)) 44 13 (.int (np + 1))) 32 0).toInt = (rg_v h 32 0).toInt + 1 by rw [(show rg_v (am_up (am_up (am_up h 32 0 (.int (kn + 1))) 47 np.toNatClampNeg (.int 5)) 44 13 (.int (np + 1))) 32 0 = kn + 1 from (show rg_v (am_up (am_up (am_up h 32 0 (.int (kn + 1))) 47 np.toNatClampNeg (.int 5)) 44 13 (.int (np + 1))) 32 0 = kn + 1 from rfl)), ekn]; exact e9_z)⟩)
        replace Z2 := rs_fr (by decide) Z2 t5_z t6_z
        have e45_z : rg_v h2814_z 164 45 = 1 := (rg_v_fr t6_z (by decide)).trans (show rg_v (am_up (am_up (am_up g 164 44 (.int (kn + 1))) 184 np.toNatClampNeg (.int 2)) 164 41 (.int (np + 1))) 164 45 = 1 from (show rg_v (am_up (am_up (am_up g 164 44 (.int (kn + 1))) 184 np.toNatClampNeg (.int 2)) 164 41 (.int (np + 1))) 164 45 = 1 from w1_z))
        have e46_z : rg_v h2814_z 164 46 = 1 := (rg_v_fr t6_z (by decide)).trans (show rg_v (am_up (am_up (am_up g 164 44 (.int (kn + 1))) 184 np.toNatClampNeg (.int 2)) 164 41 (.int (np + 1))) 164 46 = 1 from (show rg_v (am_up (am_up (am_up g 164 44 (.int (kn + 1))) 184 np.toNatClampNeg (.int 2)) 164 41 (.int (np + 1))) 164 46 = 1 from w2_z))
        replace hm_z : rn _ _ _ _ [] _ _ _ := hm_z
        replace hc_z : rn _ _ _ _ [] _ _ _ := hc_z
        replace hc_z := rn_iconst (w := 0) (am_cur_of (i := (34, 1, .iconst 0, (0, 0, 0), 0)) (by decide +kernel)) (by decide) hc_z
        replace hc_z := rn_iret (am_cur_of (i := (35, 1, .ireturn, (0, 0, 0), 0)) (by decide +kernel)) hc_z
        obtain ⟨e2816_z, e2817_z⟩ := hc_z
        replace hm_z := rn_iconst (w := 1) (am_cur_of (i := (84, 1, .iconst 1, (0, 0, 0), 0)) (by decide +kernel)) (by decide) hm_z
        replace hm_z := rn_iret (am_cur_of (i := (85, 1, .ireturn, (0, 0, 0), 0)) (by decide +kernel)) hm_z
        obtain ⟨e2818_z, e2819_z⟩ := hm_z
        subst e2816_z e2817_z e2818_z e2819_z
        exact Or.inl ⟨_, x2_z, p2_z, rfl, rfl, R2, le2_z, A2, B2, Z2, Or.inl ⟨rfl, e45_z, e46_z⟩⟩
  · have g0_z : am_get (lv_args 0 [.ref 44, .int 0]) 0 = some (.ref 44) := rfl
    have g1_z : am_get (lv_args 0 [.ref 44, .int 0]) 1 = some (.int 0) := rfl
    have g0m : am_get (lv_args 0 [.ref 164]) 0 = some (.ref 164) := rfl
    have Rk := R
    have Zk := Z
    obtain ⟨⟨c1_z, c2_z, c3_z, c4_z, c5_z, c6_z, c7_z, c8_z⟩, ⟨m2_z, m3_z, m4_z, m5_z, m6_z, m7_z, m8_z⟩, R3, R4, R5, R6, R7, R8, R9, R10⟩ := (R : rq T S x p 23 h g)
    obtain ⟨np, op, z1_z, z2_z, z3_z, z4_z, z5_z, z6_z, z7_z, z8_z, z9_z, z10_z⟩ := (Z : rs 23 h g)
    obtain ⟨nk1_z, nk2_z, nk3_z⟩ := A.2.2.2.2.2.1
    replace nk1_z : rg_v h 32 0 = rg_v g 164 44 := nk1_z
    replace nk2_z : 0 ≤ (rg_v h 32 0).toInt := nk2_z
    replace nk3_z : (rg_v h 32 0).toInt ≤ 64 := nk3_z
    replace z8_z : np.toInt ≤ (rg_v h 32 0).toInt + op.toInt := z8_z
    obtain ⟨kn, ekn⟩ : ∃ v, rg_v h 32 0 = v := ⟨_, rfl⟩
    rw [ekn] at nk1_z nk2_z nk3_z z8_z
    have e9_z := rt_c1 (x := kn) (by omega) (by omega)
    replace hc_z := rn_aload_n (am_cur_of (i := (0, 1, .aload_n 0, (0, 0, 0), 0)) (by decide +kernel)) g0_z hc_z
    replace hc_z := rn_getI (v := 6) (am_cur_of (i := (1, 3, .getfield 60, (4, 10, 419), 0)) (by decide +kernel)) (by decide +kernel) ka hc_z
    replace hc_z := rn_bipush (w := 6) (am_cur_of (i := (4, 2, .bipush 6, (0, 0, 0), 0)) (by decide +kernel)) (by decide) hc_z
    replace hc_z := rn_cmpF (am_cur_of (i := (6, 3, .if_icmp .ne 30, (19, 0, 0), 0)) (by decide +kernel)) (by decide) hc_z
    replace hc_z := rn_aload_n (am_cur_of (i := (9, 1, .aload_n 0, (0, 0, 0), 0)) (by decide +kernel)) g0_z hc_z
    replace hc_z := rn_getI (v := 6) (am_cur_of (i := (10, 3, .getfield 91, (4, 11, 420), 0)) (by decide +kernel)) (by decide +kernel) kb hc_z
    replace hc_z := rn_iconst (w := 5) (am_cur_of (i := (13, 1, .iconst 5, (0, 0, 0), 0)) (by decide +kernel)) (by decide) hc_z
    replace hc_z := rn_cmpT (am_cur_of (i := (14, 3, .if_icmp .ne 22, (19, 0, 0), 0)) (by decide +kernel)) (by decide) hc_z
    replace hc_z := rn_aload_n (am_cur_of (i := (36, 1, .aload_n 0, (0, 0, 0), 0)) (by decide +kernel)) g0_z hc_z
    replace hc_z := rn_bipush (w := 40) (am_cur_of (i := (37, 2, .bipush 40, (0, 0, 0), 0)) (by decide +kernel)) (by decide) hc_z
    replace hc_z := rn_callV (M' := am_m45) (o := 44) (ar := [.int 40]) (rest := []) (L := lv_args 0 [.ref 44, .int 40]) (am_cur_of (i := (39, 3, .invokevirtual 105, (45, 834, 3), 0)) (by decide +kernel)) rfl rfl rfl rfl hc_z
    obtain ⟨r2820_z, h2821_z, q2822_z, hc_z⟩ := hc_z
    obtain ⟨rfl, yq2822_z⟩ := rp_mkN (fun q => absurd (Eq.trans (Eq.symm ka) q.1) (by decide)) q2822_z
    subst yq2822_z
    replace hc_z : rn _ _ _ _ [.int 0] _ _ _ := hc_z
    replace hc_z := rn_ifT (am_cur_of (i := (42, 3, .ifCond .eq 38, (43, 0, 0), 0)) (by decide +kernel)) (by decide) hc_z
    replace hc_z := rn_aload_n (am_cur_of (i := (80, 1, .aload_n 0, (0, 0, 0), 0)) (by decide +kernel)) g0_z hc_z
    replace hc_z := rn_getI (v := 6) (am_cur_of (i := (81, 3, .getfield 60, (4, 10, 419), 0)) (by decide +kernel)) (by decide +kernel) ka hc_z
    replace hc_z := rn_iconst (w := 4) (am_cur_of (i := (84, 1, .iconst 4, (0, 0, 0), 0)) (by decide +kernel)) (by decide) hc_z
    replace hc_z := rn_cmpT (am_cur_of (i := (85, 3, .if_icmp .ne 40, (64, 0, 0), 0)) (by decide +kernel)) (by decide) hc_z
    replace hc_z := rn_aload_n (am_cur_of (i := (125, 1, .aload_n 0, (0, 0, 0), 0)) (by decide +kernel)) g0_z hc_z
    replace hc_z := rn_getI (v := 6) (am_cur_of (i := (126, 3, .getfield 60, (4, 10, 419), 0)) (by decide +kernel)) (by decide +kernel) ka hc_z
    replace hc_z := rn_iconst (w := 2) (am_cur_of (i := (129, 1, .iconst 2, (0, 0, 0), 0)) (by decide +kernel)) (by decide) hc_z
    replace hc_z := rn_cmpT (am_cur_of (i := (130, 3, .if_icmp .ne 37, (84, 0, 0), 0)) (by decide +kernel)) (by decide) hc_z
    replace hc_z := rn_aload_n (am_cur_of (i := (167, 1, .aload_n 0, (0, 0, 0), 0)) (by decide +kernel)) g0_z hc_z
    replace hc_z := rn_iconst (w := 1) (am_cur_of (i := (168, 1, .iconst 1, (0, 0, 0), 0)) (by decide +kernel)) (by decide) hc_z
    replace hc_z := rn_callV (M' := am_m29) (o := 44) (ar := [.int 1]) (rest := []) (L := lv_args 0 [.ref 44, .int 1]) (am_cur_of (i := (169, 3, .invokevirtual 108, (29, 769, 3), 0)) (by decide +kernel)) rfl rfl rfl rfl hc_z
    obtain ⟨r2823_z, h2824_z, q2825_z, hc_z⟩ := hc_z
    obtain ⟨rfl, yq2825_z⟩ := rp_fail R4 q2825_z
    subst yq2825_z
    replace hc_z : rn _ _ _ _ [] _ _ _ := hc_z
    have K := rs_stick (w := 1) (q := p) (a := 51) (by decide) (by decide) rfl (by decide) rfl (show rg_v (am_up (am_up h 44 1 (.int 1)) 44 2 (.int (rg_v h 44 9))) 44 2 = p from R5) hc_z
    replace hm_z := rn_aload_n (am_cur_of (i := (0, 1, .aload_n 0, (0, 0, 0), 0)) (by decide +kernel)) g0m hm_z
    replace hm_z := rn_bipush (w := 40) (am_cur_of (i := (1, 2, .bipush 40, (0, 0, 0), 0)) (by decide +kernel)) (by decide) hm_z
    replace hm_z := rn_callV (M' := am_m171) (o := 164) (ar := [.int 40]) (rest := []) (L := lv_args 0 [.ref 164, .int 40]) (am_cur_of (i := (3, 3, .invokevirtual 194, (171, 1715, 3), 0)) (by decide +kernel)) rfl rfl rfl rfl hm_z
    obtain ⟨r2826_z, h2827_z, q2828_z, hm_z⟩ := hm_z
    obtain ⟨rfl, yq2828_z⟩ := rp_sgN (fun q => absurd (Eq.trans (Eq.symm kc) q.1) (by decide)) q2828_z
    subst yq2828_z
    replace hm_z : rn _ _ _ _ [.int 0] _ _ _ := hm_z
    replace hm_z := rn_ifT (am_cur_of (i := (6, 3, .ifCond .eq 44, (28, 0, 0), 0)) (by decide +kernel)) (by decide) hm_z
    replace hm_z := rn_aload_n (am_cur_of (i := (50, 1, .aload_n 0, (0, 0, 0), 0)) (by decide +kernel)) g0m hm_z
    replace hm_z := rn_bipush (w := 14) (am_cur_of (i := (51, 2, .bipush 14, (0, 0, 0), 0)) (by decide +kernel)) (by decide) hm_z
    replace hm_z := rn_callV (M' := am_m174) (o := 164) (ar := [.int 14]) (rest := []) (L := lv_args 0 [.ref 164, .int 14]) (am_cur_of (i := (53, 3, .invokevirtual 306, (174, 1727, 3), 0)) (by decide +kernel)) rfl rfl rfl rfl hm_z
    obtain ⟨r2829_z, h2830_z, q2831_z, hm_z⟩ := hm_z
    obtain ⟨rfl, yq2831_z⟩ := rp_kyN (fun q => absurd (Eq.trans (Eq.symm kc) q.1) (by decide)) q2831_z
    subst yq2831_z
    replace hm_z : rn _ _ _ _ [.int 0] _ _ _ := hm_z
    replace hm_z := rn_ifT (am_cur_of (i := (56, 3, .ifCond .eq 30, (47, 0, 0), 0)) (by decide +kernel)) (by decide) hm_z
    replace hm_z := rn_aload_n (am_cur_of (i := (86, 1, .aload_n 0, (0, 0, 0), 0)) (by decide +kernel)) g0m hm_z
    replace hm_z := rn_callV (M' := am_m176) (o := 164) (ar := []) (rest := []) (L := lv_args 0 [.ref 164]) (am_cur_of (i := (87, 3, .invokevirtual 312, (176, 1735, 3), 0)) (by decide +kernel)) rfl rfl rfl rfl hm_z
    obtain ⟨r2832_z, h2833_z, q2834_z, hm_z⟩ := hm_z
    obtain ⟨rfl, yq2834_z⟩ := rp_nm (c := 5) (d := 0) kc kd q2834_z
    replace yq2834_z := yq2834_z.symm
    subst yq2834_z
    rw [show rp_nmf 5 0 = (-1) from by unfold rp_nmf; rw [if_neg (by decide)]] at hm_z
    replace hm_z : rn _ _ _ _ [.int (-1)] _ _ _ := hm_z
    replace hm_z := rn_istore_n (am_cur_of (i := (90, 1, .istore_n 1, (0, 0, 0), 0)) (by decide +kernel)) hm_z
    obtain ⟨_, s2835_z, s2836_z, g1m, hm_z⟩ := hm_z
    replace g0m := s2835_z 0 _ (by decide) rfl g0m
    clear s2835_z s2836_z
    replace hm_z := rn_iload_n (am_cur_of (i := (91, 1, .iload_n 1, (0, 0, 0), 0)) (by decide +kernel)) g1m hm_z
    replace hm_z := rn_ifF (am_cur_of (i := (92, 3, .ifCond .ge 17, (60, 0, 0), 0)) (by decide +kernel)) (by decide) hm_z
    replace hm_z := rn_aload_n (am_cur_of (i := (95, 1, .aload_n 0, (0, 0, 0), 0)) (by decide +kernel)) g0m hm_z
    replace hm_z := rn_getI (v := 5) (am_cur_of (i := (96, 3, .getfield 157, (12, 8, 1392), 0)) (by decide +kernel)) (by decide +kernel) kc hm_z
    replace hm_z := rn_iconst (w := 3) (am_cur_of (i := (99, 1, .iconst 3, (0, 0, 0), 0)) (by decide +kernel)) (by decide) hm_z
    replace hm_z := rn_cmpF (am_cur_of (i := (100, 3, .if_icmp .eq 9, (60, 0, 0), 0)) (by decide +kernel)) (by decide) hm_z
    replace hm_z := rn_aload_n (am_cur_of (i := (103, 1, .aload_n 0, (0, 0, 0), 0)) (by decide +kernel)) g0m hm_z
    replace hm_z := rn_iconst (w := 1) (am_cur_of (i := (104, 1, .iconst 1, (0, 0, 0), 0)) (by decide +kernel)) (by decide) hm_z
    replace hm_z := rn_callV (M' := am_m158) (o := 164) (ar := [.int 1]) (rest := []) (L := lv_args 0 [.ref 164, .int 1]) (am_cur_of (i := (105, 3, .invokevirtual 181, (158, 1665, 3), 0)) (by decide +kernel)) rfl rfl rfl rfl hm_z
    obtain ⟨r2837_z, h2838_z, q2839_z, hm_z⟩ := hm_z
    obtain ⟨rfl, yq2839_z⟩ := rp_wrong q2839_z
    subst yq2839_z
    replace hm_z : rn _ _ _ _ [.int 0] _ _ _ := hm_z
    replace hm_z := rn_iret (am_cur_of (i := (108, 1, .ireturn, (0, 0, 0), 0)) (by decide +kernel)) hm_z
    obtain ⟨e2840_z, e2841_z⟩ := hm_z
    subst e2840_z e2841_z
    exact (Or.inr ⟨rfl, 1, by decide, K.1, K.2, rfl, R6⟩)
  · have g0_z : am_get (lv_args 0 [.ref 44, .int 0]) 0 = some (.ref 44) := rfl
    have g1_z : am_get (lv_args 0 [.ref 44, .int 0]) 1 = some (.int 0) := rfl
    have g0m : am_get (lv_args 0 [.ref 164]) 0 = some (.ref 164) := rfl
    have Rk := R
    have Zk := Z
    obtain ⟨⟨c1_z, c2_z, c3_z, c4_z, c5_z, c6_z, c7_z, c8_z⟩, ⟨m2_z, m3_z, m4_z, m5_z, m6_z, m7_z, m8_z⟩, R3, R4, R5, R6, R7, R8, R9, R10⟩ := (R : rq T S x p 23 h g)
    obtain ⟨np, op, z1_z, z2_z, z3_z, z4_z, z5_z, z6_z, z7_z, z8_z, z9_z, z10_z⟩ := (Z : rs 23 h g)
    obtain ⟨nk1_z, nk2_z, nk3_z⟩ := A.2.2.2.2.2.1
    replace nk1_z : rg_v h 32 0 = rg_v g 164 44 := nk1_z
    replace nk2_z : 0 ≤ (rg_v h 32 0).toInt := nk2_z
    replace nk3_z : (rg_v h 32 0).toInt ≤ 64 := nk3_z
    replace z8_z : np.toInt ≤ (rg_v h 32 0).toInt + op.toInt := z8_z
    obtain ⟨kn, ekn⟩ : ∃ v, rg_v h 32 0 = v := ⟨_, rfl⟩
    rw [ekn] at nk1_z nk2_z nk3_z z8_z
    have e9_z := rt_c1 (x := kn) (by omega) (by omega)
    replace hc_z := rn_aload_n (am_cur_of (i := (0, 1, .aload_n 0, (0, 0, 0), 0)) (by decide +kernel)) g0_z hc_z
    replace hc_z := rn_getI (v := 6) (am_cur_of (i := (1, 3, .getfield 60, (4, 10, 419), 0)) (by decide +kernel)) (by decide +kernel) ka hc_z
    replace hc_z := rn_bipush (w := 6) (am_cur_of (i := (4, 2, .bipush 6, (0, 0, 0), 0)) (by decide +kernel)) (by decide) hc_z
    replace hc_z := rn_cmpF (am_cur_of (i := (6, 3, .if_icmp .ne 30, (19, 0, 0), 0)) (by decide +kernel)) (by decide) hc_z
    replace hc_z := rn_aload_n (am_cur_of (i := (9, 1, .aload_n 0, (0, 0, 0), 0)) (by decide +kernel)) g0_z hc_z
    replace hc_z := rn_getI (v := 7) (am_cur_of (i := (10, 3, .getfield 91, (4, 11, 420), 0)) (by decide +kernel)) (by decide +kernel) kb hc_z
    replace hc_z := rn_iconst (w := 5) (am_cur_of (i := (13, 1, .iconst 5, (0, 0, 0), 0)) (by decide +kernel)) (by decide) hc_z
    replace hc_z := rn_cmpT (am_cur_of (i := (14, 3, .if_icmp .ne 22, (19, 0, 0), 0)) (by decide +kernel)) (by decide) hc_z
    replace hc_z := rn_aload_n (am_cur_of (i := (36, 1, .aload_n 0, (0, 0, 0), 0)) (by decide +kernel)) g0_z hc_z
    replace hc_z := rn_bipush (w := 40) (am_cur_of (i := (37, 2, .bipush 40, (0, 0, 0), 0)) (by decide +kernel)) (by decide) hc_z
    replace hc_z := rn_callV (M' := am_m45) (o := 44) (ar := [.int 40]) (rest := []) (L := lv_args 0 [.ref 44, .int 40]) (am_cur_of (i := (39, 3, .invokevirtual 105, (45, 834, 3), 0)) (by decide +kernel)) rfl rfl rfl rfl hc_z
    obtain ⟨r2842_z, h2843_z, q2844_z, hc_z⟩ := hc_z
    obtain ⟨rfl, yq2844_z⟩ := rp_mkN (fun q => absurd (Eq.trans (Eq.symm ka) q.1) (by decide)) q2844_z
    subst yq2844_z
    replace hc_z : rn _ _ _ _ [.int 0] _ _ _ := hc_z
    replace hc_z := rn_ifT (am_cur_of (i := (42, 3, .ifCond .eq 38, (43, 0, 0), 0)) (by decide +kernel)) (by decide) hc_z
    replace hc_z := rn_aload_n (am_cur_of (i := (80, 1, .aload_n 0, (0, 0, 0), 0)) (by decide +kernel)) g0_z hc_z
    replace hc_z := rn_getI (v := 6) (am_cur_of (i := (81, 3, .getfield 60, (4, 10, 419), 0)) (by decide +kernel)) (by decide +kernel) ka hc_z
    replace hc_z := rn_iconst (w := 4) (am_cur_of (i := (84, 1, .iconst 4, (0, 0, 0), 0)) (by decide +kernel)) (by decide) hc_z
    replace hc_z := rn_cmpT (am_cur_of (i := (85, 3, .if_icmp .ne 40, (64, 0, 0), 0)) (by decide +kernel)) (by decide) hc_z
    replace hc_z := rn_aload_n (am_cur_of (i := (125, 1, .aload_n 0, (0, 0, 0), 0)) (by decide +kernel)) g0_z hc_z
    replace hc_z := rn_getI (v := 6) (am_cur_of (i := (126, 3, .getfield 60, (4, 10, 419), 0)) (by decide +kernel)) (by decide +kernel) ka hc_z
    replace hc_z := rn_iconst (w := 2) (am_cur_of (i := (129, 1, .iconst 2, (0, 0, 0), 0)) (by decide +kernel)) (by decide) hc_z
    replace hc_z := rn_cmpT (am_cur_of (i := (130, 3, .if_icmp .ne 37, (84, 0, 0), 0)) (by decide +kernel)) (by decide) hc_z
    replace hc_z := rn_aload_n (am_cur_of (i := (167, 1, .aload_n 0, (0, 0, 0), 0)) (by decide +kernel)) g0_z hc_z
    replace hc_z := rn_iconst (w := 1) (am_cur_of (i := (168, 1, .iconst 1, (0, 0, 0), 0)) (by decide +kernel)) (by decide) hc_z
    replace hc_z := rn_callV (M' := am_m29) (o := 44) (ar := [.int 1]) (rest := []) (L := lv_args 0 [.ref 44, .int 1]) (am_cur_of (i := (169, 3, .invokevirtual 108, (29, 769, 3), 0)) (by decide +kernel)) rfl rfl rfl rfl hc_z
    obtain ⟨r2845_z, h2846_z, q2847_z, hc_z⟩ := hc_z
    obtain ⟨rfl, yq2847_z⟩ := rp_fail R4 q2847_z
    subst yq2847_z
    replace hc_z : rn _ _ _ _ [] _ _ _ := hc_z
    have K := rs_stick (w := 1) (q := p) (a := 51) (by decide) (by decide) rfl (by decide) rfl (show rg_v (am_up (am_up h 44 1 (.int 1)) 44 2 (.int (rg_v h 44 9))) 44 2 = p from R5) hc_z
    replace hm_z := rn_aload_n (am_cur_of (i := (0, 1, .aload_n 0, (0, 0, 0), 0)) (by decide +kernel)) g0m hm_z
    replace hm_z := rn_bipush (w := 40) (am_cur_of (i := (1, 2, .bipush 40, (0, 0, 0), 0)) (by decide +kernel)) (by decide) hm_z
    replace hm_z := rn_callV (M' := am_m171) (o := 164) (ar := [.int 40]) (rest := []) (L := lv_args 0 [.ref 164, .int 40]) (am_cur_of (i := (3, 3, .invokevirtual 194, (171, 1715, 3), 0)) (by decide +kernel)) rfl rfl rfl rfl hm_z
    obtain ⟨r2848_z, h2849_z, q2850_z, hm_z⟩ := hm_z
    obtain ⟨rfl, yq2850_z⟩ := rp_sgN (fun q => absurd (Eq.trans (Eq.symm kc) q.1) (by decide)) q2850_z
    subst yq2850_z
    replace hm_z : rn _ _ _ _ [.int 0] _ _ _ := hm_z
    replace hm_z := rn_ifT (am_cur_of (i := (6, 3, .ifCond .eq 44, (28, 0, 0), 0)) (by decide +kernel)) (by decide) hm_z
    replace hm_z := rn_aload_n (am_cur_of (i := (50, 1, .aload_n 0, (0, 0, 0), 0)) (by decide +kernel)) g0m hm_z
    replace hm_z := rn_bipush (w := 14) (am_cur_of (i := (51, 2, .bipush 14, (0, 0, 0), 0)) (by decide +kernel)) (by decide) hm_z
    replace hm_z := rn_callV (M' := am_m174) (o := 164) (ar := [.int 14]) (rest := []) (L := lv_args 0 [.ref 164, .int 14]) (am_cur_of (i := (53, 3, .invokevirtual 306, (174, 1727, 3), 0)) (by decide +kernel)) rfl rfl rfl rfl hm_z
    obtain ⟨r2851_z, h2852_z, q2853_z, hm_z⟩ := hm_z
    obtain ⟨rfl, yq2853_z⟩ := rp_kyN (fun q => absurd (Eq.trans (Eq.symm kc) q.1) (by decide)) q2853_z
    subst yq2853_z
    replace hm_z : rn _ _ _ _ [.int 0] _ _ _ := hm_z
    replace hm_z := rn_ifT (am_cur_of (i := (56, 3, .ifCond .eq 30, (47, 0, 0), 0)) (by decide +kernel)) (by decide) hm_z
    replace hm_z := rn_aload_n (am_cur_of (i := (86, 1, .aload_n 0, (0, 0, 0), 0)) (by decide +kernel)) g0m hm_z
    replace hm_z := rn_callV (M' := am_m176) (o := 164) (ar := []) (rest := []) (L := lv_args 0 [.ref 164]) (am_cur_of (i := (87, 3, .invokevirtual 312, (176, 1735, 3), 0)) (by decide +kernel)) rfl rfl rfl rfl hm_z
    obtain ⟨r2854_z, h2855_z, q2856_z, hm_z⟩ := hm_z
    obtain ⟨rfl, yq2856_z⟩ := rp_nm (c := 5) (d := 1) kc kd q2856_z
    replace yq2856_z := yq2856_z.symm
    subst yq2856_z
    rw [show rp_nmf 5 1 = (-1) from by unfold rp_nmf; rw [if_neg (by decide)]] at hm_z
    replace hm_z : rn _ _ _ _ [.int (-1)] _ _ _ := hm_z
    replace hm_z := rn_istore_n (am_cur_of (i := (90, 1, .istore_n 1, (0, 0, 0), 0)) (by decide +kernel)) hm_z
    obtain ⟨_, s2857_z, s2858_z, g1m, hm_z⟩ := hm_z
    replace g0m := s2857_z 0 _ (by decide) rfl g0m
    clear s2857_z s2858_z
    replace hm_z := rn_iload_n (am_cur_of (i := (91, 1, .iload_n 1, (0, 0, 0), 0)) (by decide +kernel)) g1m hm_z
    replace hm_z := rn_ifF (am_cur_of (i := (92, 3, .ifCond .ge 17, (60, 0, 0), 0)) (by decide +kernel)) (by decide) hm_z
    replace hm_z := rn_aload_n (am_cur_of (i := (95, 1, .aload_n 0, (0, 0, 0), 0)) (by decide +kernel)) g0m hm_z
    replace hm_z := rn_getI (v := 5) (am_cur_of (i := (96, 3, .getfield 157, (12, 8, 1392), 0)) (by decide +kernel)) (by decide +kernel) kc hm_z
    replace hm_z := rn_iconst (w := 3) (am_cur_of (i := (99, 1, .iconst 3, (0, 0, 0), 0)) (by decide +kernel)) (by decide) hm_z
    replace hm_z := rn_cmpF (am_cur_of (i := (100, 3, .if_icmp .eq 9, (60, 0, 0), 0)) (by decide +kernel)) (by decide) hm_z
    replace hm_z := rn_aload_n (am_cur_of (i := (103, 1, .aload_n 0, (0, 0, 0), 0)) (by decide +kernel)) g0m hm_z
    replace hm_z := rn_iconst (w := 1) (am_cur_of (i := (104, 1, .iconst 1, (0, 0, 0), 0)) (by decide +kernel)) (by decide) hm_z
    replace hm_z := rn_callV (M' := am_m158) (o := 164) (ar := [.int 1]) (rest := []) (L := lv_args 0 [.ref 164, .int 1]) (am_cur_of (i := (105, 3, .invokevirtual 181, (158, 1665, 3), 0)) (by decide +kernel)) rfl rfl rfl rfl hm_z
    obtain ⟨r2859_z, h2860_z, q2861_z, hm_z⟩ := hm_z
    obtain ⟨rfl, yq2861_z⟩ := rp_wrong q2861_z
    subst yq2861_z
    replace hm_z : rn _ _ _ _ [.int 0] _ _ _ := hm_z
    replace hm_z := rn_iret (am_cur_of (i := (108, 1, .ireturn, (0, 0, 0), 0)) (by decide +kernel)) hm_z
    obtain ⟨e2862_z, e2863_z⟩ := hm_z
    subst e2862_z e2863_z
    exact (Or.inr ⟨rfl, 1, by decide, K.1, K.2, rfl, R6⟩)
  · have g0_z : am_get (lv_args 0 [.ref 44, .int 0]) 0 = some (.ref 44) := rfl
    have g1_z : am_get (lv_args 0 [.ref 44, .int 0]) 1 = some (.int 0) := rfl
    have g0m : am_get (lv_args 0 [.ref 164]) 0 = some (.ref 164) := rfl
    have Rk := R
    have Zk := Z
    obtain ⟨⟨c1_z, c2_z, c3_z, c4_z, c5_z, c6_z, c7_z, c8_z⟩, ⟨m2_z, m3_z, m4_z, m5_z, m6_z, m7_z, m8_z⟩, R3, R4, R5, R6, R7, R8, R9, R10⟩ := (R : rq T S x p 23 h g)
    obtain ⟨np, op, z1_z, z2_z, z3_z, z4_z, z5_z, z6_z, z7_z, z8_z, z9_z, z10_z⟩ := (Z : rs 23 h g)
    obtain ⟨nk1_z, nk2_z, nk3_z⟩ := A.2.2.2.2.2.1
    replace nk1_z : rg_v h 32 0 = rg_v g 164 44 := nk1_z
    replace nk2_z : 0 ≤ (rg_v h 32 0).toInt := nk2_z
    replace nk3_z : (rg_v h 32 0).toInt ≤ 64 := nk3_z
    replace z8_z : np.toInt ≤ (rg_v h 32 0).toInt + op.toInt := z8_z
    obtain ⟨kn, ekn⟩ : ∃ v, rg_v h 32 0 = v := ⟨_, rfl⟩
    rw [ekn] at nk1_z nk2_z nk3_z z8_z
    have e9_z := rt_c1 (x := kn) (by omega) (by omega)
    replace hc_z := rn_aload_n (am_cur_of (i := (0, 1, .aload_n 0, (0, 0, 0), 0)) (by decide +kernel)) g0_z hc_z
    replace hc_z := rn_getI (v := 6) (am_cur_of (i := (1, 3, .getfield 60, (4, 10, 419), 0)) (by decide +kernel)) (by decide +kernel) ka hc_z
    replace hc_z := rn_bipush (w := 6) (am_cur_of (i := (4, 2, .bipush 6, (0, 0, 0), 0)) (by decide +kernel)) (by decide) hc_z
    replace hc_z := rn_cmpF (am_cur_of (i := (6, 3, .if_icmp .ne 30, (19, 0, 0), 0)) (by decide +kernel)) (by decide) hc_z
    replace hc_z := rn_aload_n (am_cur_of (i := (9, 1, .aload_n 0, (0, 0, 0), 0)) (by decide +kernel)) g0_z hc_z
    replace hc_z := rn_getI (v := 8) (am_cur_of (i := (10, 3, .getfield 91, (4, 11, 420), 0)) (by decide +kernel)) (by decide +kernel) kb hc_z
    replace hc_z := rn_iconst (w := 5) (am_cur_of (i := (13, 1, .iconst 5, (0, 0, 0), 0)) (by decide +kernel)) (by decide) hc_z
    replace hc_z := rn_cmpT (am_cur_of (i := (14, 3, .if_icmp .ne 22, (19, 0, 0), 0)) (by decide +kernel)) (by decide) hc_z
    replace hc_z := rn_aload_n (am_cur_of (i := (36, 1, .aload_n 0, (0, 0, 0), 0)) (by decide +kernel)) g0_z hc_z
    replace hc_z := rn_bipush (w := 40) (am_cur_of (i := (37, 2, .bipush 40, (0, 0, 0), 0)) (by decide +kernel)) (by decide) hc_z
    replace hc_z := rn_callV (M' := am_m45) (o := 44) (ar := [.int 40]) (rest := []) (L := lv_args 0 [.ref 44, .int 40]) (am_cur_of (i := (39, 3, .invokevirtual 105, (45, 834, 3), 0)) (by decide +kernel)) rfl rfl rfl rfl hc_z
    obtain ⟨r2864_z, h2865_z, q2866_z, hc_z⟩ := hc_z
    obtain ⟨rfl, yq2866_z⟩ := rp_mkN (fun q => absurd (Eq.trans (Eq.symm ka) q.1) (by decide)) q2866_z
    subst yq2866_z
    replace hc_z : rn _ _ _ _ [.int 0] _ _ _ := hc_z
    replace hc_z := rn_ifT (am_cur_of (i := (42, 3, .ifCond .eq 38, (43, 0, 0), 0)) (by decide +kernel)) (by decide) hc_z
    replace hc_z := rn_aload_n (am_cur_of (i := (80, 1, .aload_n 0, (0, 0, 0), 0)) (by decide +kernel)) g0_z hc_z
    replace hc_z := rn_getI (v := 6) (am_cur_of (i := (81, 3, .getfield 60, (4, 10, 419), 0)) (by decide +kernel)) (by decide +kernel) ka hc_z
    replace hc_z := rn_iconst (w := 4) (am_cur_of (i := (84, 1, .iconst 4, (0, 0, 0), 0)) (by decide +kernel)) (by decide) hc_z
    replace hc_z := rn_cmpT (am_cur_of (i := (85, 3, .if_icmp .ne 40, (64, 0, 0), 0)) (by decide +kernel)) (by decide) hc_z
    replace hc_z := rn_aload_n (am_cur_of (i := (125, 1, .aload_n 0, (0, 0, 0), 0)) (by decide +kernel)) g0_z hc_z
    replace hc_z := rn_getI (v := 6) (am_cur_of (i := (126, 3, .getfield 60, (4, 10, 419), 0)) (by decide +kernel)) (by decide +kernel) ka hc_z
    replace hc_z := rn_iconst (w := 2) (am_cur_of (i := (129, 1, .iconst 2, (0, 0, 0), 0)) (by decide +kernel)) (by decide) hc_z
    replace hc_z := rn_cmpT (am_cur_of (i := (130, 3, .if_icmp .ne 37, (84, 0, 0), 0)) (by decide +kernel)) (by decide) hc_z
    replace hc_z := rn_aload_n (am_cur_of (i := (167, 1, .aload_n 0, (0, 0, 0), 0)) (by decide +kernel)) g0_z hc_z
    replace hc_z := rn_iconst (w := 1) (am_cur_of (i := (168, 1, .iconst 1, (0, 0, 0), 0)) (by decide +kernel)) (by decide) hc_z
    replace hc_z := rn_callV (M' := am_m29) (o := 44) (ar := [.int 1]) (rest := []) (L := lv_args 0 [.ref 44, .int 1]) (am_cur_of (i := (169, 3, .invokevirtual 108, (29, 769, 3), 0)) (by decide +kernel)) rfl rfl rfl rfl hc_z
    obtain ⟨r2867_z, h2868_z, q2869_z, hc_z⟩ := hc_z
    obtain ⟨rfl, yq2869_z⟩ := rp_fail R4 q2869_z
    subst yq2869_z
    replace hc_z : rn _ _ _ _ [] _ _ _ := hc_z
    have K := rs_stick (w := 1) (q := p) (a := 51) (by decide) (by decide) rfl (by decide) rfl (show rg_v (am_up (am_up h 44 1 (.int 1)) 44 2 (.int (rg_v h 44 9))) 44 2 = p from R5) hc_z
    replace hm_z := rn_aload_n (am_cur_of (i := (0, 1, .aload_n 0, (0, 0, 0), 0)) (by decide +kernel)) g0m hm_z
    replace hm_z := rn_bipush (w := 40) (am_cur_of (i := (1, 2, .bipush 40, (0, 0, 0), 0)) (by decide +kernel)) (by decide) hm_z
    replace hm_z := rn_callV (M' := am_m171) (o := 164) (ar := [.int 40]) (rest := []) (L := lv_args 0 [.ref 164, .int 40]) (am_cur_of (i := (3, 3, .invokevirtual 194, (171, 1715, 3), 0)) (by decide +kernel)) rfl rfl rfl rfl hm_z
    obtain ⟨r2870_z, h2871_z, q2872_z, hm_z⟩ := hm_z
    obtain ⟨rfl, yq2872_z⟩ := rp_sgN (fun q => absurd (Eq.trans (Eq.symm kc) q.1) (by decide)) q2872_z
    subst yq2872_z
    replace hm_z : rn _ _ _ _ [.int 0] _ _ _ := hm_z
    replace hm_z := rn_ifT (am_cur_of (i := (6, 3, .ifCond .eq 44, (28, 0, 0), 0)) (by decide +kernel)) (by decide) hm_z
    replace hm_z := rn_aload_n (am_cur_of (i := (50, 1, .aload_n 0, (0, 0, 0), 0)) (by decide +kernel)) g0m hm_z
    replace hm_z := rn_bipush (w := 14) (am_cur_of (i := (51, 2, .bipush 14, (0, 0, 0), 0)) (by decide +kernel)) (by decide) hm_z
    replace hm_z := rn_callV (M' := am_m174) (o := 164) (ar := [.int 14]) (rest := []) (L := lv_args 0 [.ref 164, .int 14]) (am_cur_of (i := (53, 3, .invokevirtual 306, (174, 1727, 3), 0)) (by decide +kernel)) rfl rfl rfl rfl hm_z
    obtain ⟨r2873_z, h2874_z, q2875_z, hm_z⟩ := hm_z
    obtain ⟨rfl, yq2875_z⟩ := rp_kyN (fun q => absurd (Eq.trans (Eq.symm kc) q.1) (by decide)) q2875_z
    subst yq2875_z
    replace hm_z : rn _ _ _ _ [.int 0] _ _ _ := hm_z
    replace hm_z := rn_ifT (am_cur_of (i := (56, 3, .ifCond .eq 30, (47, 0, 0), 0)) (by decide +kernel)) (by decide) hm_z
    replace hm_z := rn_aload_n (am_cur_of (i := (86, 1, .aload_n 0, (0, 0, 0), 0)) (by decide +kernel)) g0m hm_z
    replace hm_z := rn_callV (M' := am_m176) (o := 164) (ar := []) (rest := []) (L := lv_args 0 [.ref 164]) (am_cur_of (i := (87, 3, .invokevirtual 312, (176, 1735, 3), 0)) (by decide +kernel)) rfl rfl rfl rfl hm_z
    obtain ⟨r2876_z, h2877_z, q2878_z, hm_z⟩ := hm_z
    obtain ⟨rfl, yq2878_z⟩ := rp_nm (c := 5) (d := 2) kc kd q2878_z
    replace yq2878_z := yq2878_z.symm
    subst yq2878_z
    rw [show rp_nmf 5 2 = (-1) from by unfold rp_nmf; rw [if_neg (by decide)]] at hm_z
    replace hm_z : rn _ _ _ _ [.int (-1)] _ _ _ := hm_z
    replace hm_z := rn_istore_n (am_cur_of (i := (90, 1, .istore_n 1, (0, 0, 0), 0)) (by decide +kernel)) hm_z
    obtain ⟨_, s2879_z, s2880_z, g1m, hm_z⟩ := hm_z
    replace g0m := s2879_z 0 _ (by decide) rfl g0m
    clear s2879_z s2880_z
    replace hm_z := rn_iload_n (am_cur_of (i := (91, 1, .iload_n 1, (0, 0, 0), 0)) (by decide +kernel)) g1m hm_z
    replace hm_z := rn_ifF (am_cur_of (i := (92, 3, .ifCond .ge 17, (60, 0, 0), 0)) (by decide +kernel)) (by decide) hm_z
    replace hm_z := rn_aload_n (am_cur_of (i := (95, 1, .aload_n 0, (0, 0, 0), 0)) (by decide +kernel)) g0m hm_z
    replace hm_z := rn_getI (v := 5) (am_cur_of (i := (96, 3, .getfield 157, (12, 8, 1392), 0)) (by decide +kernel)) (by decide +kernel) kc hm_z
    replace hm_z := rn_iconst (w := 3) (am_cur_of (i := (99, 1, .iconst 3, (0, 0, 0), 0)) (by decide +kernel)) (by decide) hm_z
    replace hm_z := rn_cmpF (am_cur_of (i := (100, 3, .if_icmp .eq 9, (60, 0, 0), 0)) (by decide +kernel)) (by decide) hm_z
    replace hm_z := rn_aload_n (am_cur_of (i := (103, 1, .aload_n 0, (0, 0, 0), 0)) (by decide +kernel)) g0m hm_z
    replace hm_z := rn_iconst (w := 1) (am_cur_of (i := (104, 1, .iconst 1, (0, 0, 0), 0)) (by decide +kernel)) (by decide) hm_z
    replace hm_z := rn_callV (M' := am_m158) (o := 164) (ar := [.int 1]) (rest := []) (L := lv_args 0 [.ref 164, .int 1]) (am_cur_of (i := (105, 3, .invokevirtual 181, (158, 1665, 3), 0)) (by decide +kernel)) rfl rfl rfl rfl hm_z
    obtain ⟨r2881_z, h2882_z, q2883_z, hm_z⟩ := hm_z
    obtain ⟨rfl, yq2883_z⟩ := rp_wrong q2883_z
    subst yq2883_z
    replace hm_z : rn _ _ _ _ [.int 0] _ _ _ := hm_z
    replace hm_z := rn_iret (am_cur_of (i := (108, 1, .ireturn, (0, 0, 0), 0)) (by decide +kernel)) hm_z
    obtain ⟨e2884_z, e2885_z⟩ := hm_z
    subst e2884_z e2885_z
    exact (Or.inr ⟨rfl, 1, by decide, K.1, K.2, rfl, R6⟩)
  · have g0_z : am_get (lv_args 0 [.ref 44, .int 0]) 0 = some (.ref 44) := rfl
    have g1_z : am_get (lv_args 0 [.ref 44, .int 0]) 1 = some (.int 0) := rfl
    have g0m : am_get (lv_args 0 [.ref 164]) 0 = some (.ref 164) := rfl
    have Rk := R
    have Zk := Z
    obtain ⟨⟨c1_z, c2_z, c3_z, c4_z, c5_z, c6_z, c7_z, c8_z⟩, ⟨m2_z, m3_z, m4_z, m5_z, m6_z, m7_z, m8_z⟩, R3, R4, R5, R6, R7, R8, R9, R10⟩ := (R : rq T S x p 23 h g)
    obtain ⟨np, op, z1_z, z2_z, z3_z, z4_z, z5_z, z6_z, z7_z, z8_z, z9_z, z10_z⟩ := (Z : rs 23 h g)
    obtain ⟨nk1_z, nk2_z, nk3_z⟩ := A.2.2.2.2.2.1
    replace nk1_z : rg_v h 32 0 = rg_v g 164 44 := nk1_z
    replace nk2_z : 0 ≤ (rg_v h 32 0).toInt := nk2_z
    replace nk3_z : (rg_v h 32 0).toInt ≤ 64 := nk3_z
    replace z8_z : np.toInt ≤ (rg_v h 32 0).toInt + op.toInt := z8_z
    obtain ⟨kn, ekn⟩ : ∃ v, rg_v h 32 0 = v := ⟨_, rfl⟩
    rw [ekn] at nk1_z nk2_z nk3_z z8_z
    have e9_z := rt_c1 (x := kn) (by omega) (by omega)
    replace hc_z := rn_aload_n (am_cur_of (i := (0, 1, .aload_n 0, (0, 0, 0), 0)) (by decide +kernel)) g0_z hc_z
    replace hc_z := rn_getI (v := 6) (am_cur_of (i := (1, 3, .getfield 60, (4, 10, 419), 0)) (by decide +kernel)) (by decide +kernel) ka hc_z
    replace hc_z := rn_bipush (w := 6) (am_cur_of (i := (4, 2, .bipush 6, (0, 0, 0), 0)) (by decide +kernel)) (by decide) hc_z
    replace hc_z := rn_cmpF (am_cur_of (i := (6, 3, .if_icmp .ne 30, (19, 0, 0), 0)) (by decide +kernel)) (by decide) hc_z
    replace hc_z := rn_aload_n (am_cur_of (i := (9, 1, .aload_n 0, (0, 0, 0), 0)) (by decide +kernel)) g0_z hc_z
    replace hc_z := rn_getI (v := 9) (am_cur_of (i := (10, 3, .getfield 91, (4, 11, 420), 0)) (by decide +kernel)) (by decide +kernel) kb hc_z
    replace hc_z := rn_iconst (w := 5) (am_cur_of (i := (13, 1, .iconst 5, (0, 0, 0), 0)) (by decide +kernel)) (by decide) hc_z
    replace hc_z := rn_cmpT (am_cur_of (i := (14, 3, .if_icmp .ne 22, (19, 0, 0), 0)) (by decide +kernel)) (by decide) hc_z
    replace hc_z := rn_aload_n (am_cur_of (i := (36, 1, .aload_n 0, (0, 0, 0), 0)) (by decide +kernel)) g0_z hc_z
    replace hc_z := rn_bipush (w := 40) (am_cur_of (i := (37, 2, .bipush 40, (0, 0, 0), 0)) (by decide +kernel)) (by decide) hc_z
    replace hc_z := rn_callV (M' := am_m45) (o := 44) (ar := [.int 40]) (rest := []) (L := lv_args 0 [.ref 44, .int 40]) (am_cur_of (i := (39, 3, .invokevirtual 105, (45, 834, 3), 0)) (by decide +kernel)) rfl rfl rfl rfl hc_z
    obtain ⟨r2886_z, h2887_z, q2888_z, hc_z⟩ := hc_z
    obtain ⟨rfl, yq2888_z⟩ := rp_mkN (fun q => absurd (Eq.trans (Eq.symm ka) q.1) (by decide)) q2888_z
    subst yq2888_z
    replace hc_z : rn _ _ _ _ [.int 0] _ _ _ := hc_z
    replace hc_z := rn_ifT (am_cur_of (i := (42, 3, .ifCond .eq 38, (43, 0, 0), 0)) (by decide +kernel)) (by decide) hc_z
    replace hc_z := rn_aload_n (am_cur_of (i := (80, 1, .aload_n 0, (0, 0, 0), 0)) (by decide +kernel)) g0_z hc_z
    replace hc_z := rn_getI (v := 6) (am_cur_of (i := (81, 3, .getfield 60, (4, 10, 419), 0)) (by decide +kernel)) (by decide +kernel) ka hc_z
    replace hc_z := rn_iconst (w := 4) (am_cur_of (i := (84, 1, .iconst 4, (0, 0, 0), 0)) (by decide +kernel)) (by decide) hc_z
    replace hc_z := rn_cmpT (am_cur_of (i := (85, 3, .if_icmp .ne 40, (64, 0, 0), 0)) (by decide +kernel)) (by decide) hc_z
    replace hc_z := rn_aload_n (am_cur_of (i := (125, 1, .aload_n 0, (0, 0, 0), 0)) (by decide +kernel)) g0_z hc_z
    replace hc_z := rn_getI (v := 6) (am_cur_of (i := (126, 3, .getfield 60, (4, 10, 419), 0)) (by decide +kernel)) (by decide +kernel) ka hc_z
    replace hc_z := rn_iconst (w := 2) (am_cur_of (i := (129, 1, .iconst 2, (0, 0, 0), 0)) (by decide +kernel)) (by decide) hc_z
    replace hc_z := rn_cmpT (am_cur_of (i := (130, 3, .if_icmp .ne 37, (84, 0, 0), 0)) (by decide +kernel)) (by decide) hc_z
    replace hc_z := rn_aload_n (am_cur_of (i := (167, 1, .aload_n 0, (0, 0, 0), 0)) (by decide +kernel)) g0_z hc_z
    replace hc_z := rn_iconst (w := 1) (am_cur_of (i := (168, 1, .iconst 1, (0, 0, 0), 0)) (by decide +kernel)) (by decide) hc_z
    replace hc_z := rn_callV (M' := am_m29) (o := 44) (ar := [.int 1]) (rest := []) (L := lv_args 0 [.ref 44, .int 1]) (am_cur_of (i := (169, 3, .invokevirtual 108, (29, 769, 3), 0)) (by decide +kernel)) rfl rfl rfl rfl hc_z
    obtain ⟨r2889_z, h2890_z, q2891_z, hc_z⟩ := hc_z
    obtain ⟨rfl, yq2891_z⟩ := rp_fail R4 q2891_z
    subst yq2891_z
    replace hc_z : rn _ _ _ _ [] _ _ _ := hc_z
    have K := rs_stick (w := 1) (q := p) (a := 51) (by decide) (by decide) rfl (by decide) rfl (show rg_v (am_up (am_up h 44 1 (.int 1)) 44 2 (.int (rg_v h 44 9))) 44 2 = p from R5) hc_z
    replace hm_z := rn_aload_n (am_cur_of (i := (0, 1, .aload_n 0, (0, 0, 0), 0)) (by decide +kernel)) g0m hm_z
    replace hm_z := rn_bipush (w := 40) (am_cur_of (i := (1, 2, .bipush 40, (0, 0, 0), 0)) (by decide +kernel)) (by decide) hm_z
    replace hm_z := rn_callV (M' := am_m171) (o := 164) (ar := [.int 40]) (rest := []) (L := lv_args 0 [.ref 164, .int 40]) (am_cur_of (i := (3, 3, .invokevirtual 194, (171, 1715, 3), 0)) (by decide +kernel)) rfl rfl rfl rfl hm_z
    obtain ⟨r2892_z, h2893_z, q2894_z, hm_z⟩ := hm_z
    obtain ⟨rfl, yq2894_z⟩ := rp_sgN (fun q => absurd (Eq.trans (Eq.symm kc) q.1) (by decide)) q2894_z
    subst yq2894_z
    replace hm_z : rn _ _ _ _ [.int 0] _ _ _ := hm_z
    replace hm_z := rn_ifT (am_cur_of (i := (6, 3, .ifCond .eq 44, (28, 0, 0), 0)) (by decide +kernel)) (by decide) hm_z
    replace hm_z := rn_aload_n (am_cur_of (i := (50, 1, .aload_n 0, (0, 0, 0), 0)) (by decide +kernel)) g0m hm_z
    replace hm_z := rn_bipush (w := 14) (am_cur_of (i := (51, 2, .bipush 14, (0, 0, 0), 0)) (by decide +kernel)) (by decide) hm_z
    replace hm_z := rn_callV (M' := am_m174) (o := 164) (ar := [.int 14]) (rest := []) (L := lv_args 0 [.ref 164, .int 14]) (am_cur_of (i := (53, 3, .invokevirtual 306, (174, 1727, 3), 0)) (by decide +kernel)) rfl rfl rfl rfl hm_z
    obtain ⟨r2895_z, h2896_z, q2897_z, hm_z⟩ := hm_z
    obtain ⟨rfl, yq2897_z⟩ := rp_kyN (fun q => absurd (Eq.trans (Eq.symm kc) q.1) (by decide)) q2897_z
    subst yq2897_z
    replace hm_z : rn _ _ _ _ [.int 0] _ _ _ := hm_z
    replace hm_z := rn_ifT (am_cur_of (i := (56, 3, .ifCond .eq 30, (47, 0, 0), 0)) (by decide +kernel)) (by decide) hm_z
    replace hm_z := rn_aload_n (am_cur_of (i := (86, 1, .aload_n 0, (0, 0, 0), 0)) (by decide +kernel)) g0m hm_z
    replace hm_z := rn_callV (M' := am_m176) (o := 164) (ar := []) (rest := []) (L := lv_args 0 [.ref 164]) (am_cur_of (i := (87, 3, .invokevirtual 312, (176, 1735, 3), 0)) (by decide +kernel)) rfl rfl rfl rfl hm_z
    obtain ⟨r2898_z, h2899_z, q2900_z, hm_z⟩ := hm_z
    obtain ⟨rfl, yq2900_z⟩ := rp_nm (c := 5) (d := 3) kc kd q2900_z
    replace yq2900_z := yq2900_z.symm
    subst yq2900_z
    rw [show rp_nmf 5 3 = (-1) from by unfold rp_nmf; rw [if_neg (by decide)]] at hm_z
    replace hm_z : rn _ _ _ _ [.int (-1)] _ _ _ := hm_z
    replace hm_z := rn_istore_n (am_cur_of (i := (90, 1, .istore_n 1, (0, 0, 0), 0)) (by decide +kernel)) hm_z
    obtain ⟨_, s2901_z, s2902_z, g1m, hm_z⟩ := hm_z
    replace g0m := s2901_z 0 _ (by decide) rfl g0m
    clear s2901_z s2902_z
    replace hm_z := rn_iload_n (am_cur_of (i := (91, 1, .iload_n 1, (0, 0, 0), 0)) (by decide +kernel)) g1m hm_z
    replace hm_z := rn_ifF (am_cur_of (i := (92, 3, .ifCond .ge 17, (60, 0, 0), 0)) (by decide +kernel)) (by decide) hm_z
    replace hm_z := rn_aload_n (am_cur_of (i := (95, 1, .aload_n 0, (0, 0, 0), 0)) (by decide +kernel)) g0m hm_z
    replace hm_z := rn_getI (v := 5) (am_cur_of (i := (96, 3, .getfield 157, (12, 8, 1392), 0)) (by decide +kernel)) (by decide +kernel) kc hm_z
    replace hm_z := rn_iconst (w := 3) (am_cur_of (i := (99, 1, .iconst 3, (0, 0, 0), 0)) (by decide +kernel)) (by decide) hm_z
    replace hm_z := rn_cmpF (am_cur_of (i := (100, 3, .if_icmp .eq 9, (60, 0, 0), 0)) (by decide +kernel)) (by decide) hm_z
    replace hm_z := rn_aload_n (am_cur_of (i := (103, 1, .aload_n 0, (0, 0, 0), 0)) (by decide +kernel)) g0m hm_z
    replace hm_z := rn_iconst (w := 1) (am_cur_of (i := (104, 1, .iconst 1, (0, 0, 0), 0)) (by decide +kernel)) (by decide) hm_z
    replace hm_z := rn_callV (M' := am_m158) (o := 164) (ar := [.int 1]) (rest := []) (L := lv_args 0 [.ref 164, .int 1]) (am_cur_of (i := (105, 3, .invokevirtual 181, (158, 1665, 3), 0)) (by decide +kernel)) rfl rfl rfl rfl hm_z
    obtain ⟨r2903_z, h2904_z, q2905_z, hm_z⟩ := hm_z
    obtain ⟨rfl, yq2905_z⟩ := rp_wrong q2905_z
    subst yq2905_z
    replace hm_z : rn _ _ _ _ [.int 0] _ _ _ := hm_z
    replace hm_z := rn_iret (am_cur_of (i := (108, 1, .ireturn, (0, 0, 0), 0)) (by decide +kernel)) hm_z
    obtain ⟨e2906_z, e2907_z⟩ := hm_z
    subst e2906_z e2907_z
    exact (Or.inr ⟨rfl, 1, by decide, K.1, K.2, rfl, R6⟩)
  · have g0_z : am_get (lv_args 0 [.ref 44, .int 0]) 0 = some (.ref 44) := rfl
    have g1_z : am_get (lv_args 0 [.ref 44, .int 0]) 1 = some (.int 0) := rfl
    have g0m : am_get (lv_args 0 [.ref 164]) 0 = some (.ref 164) := rfl
    have Rk := R
    have Zk := Z
    obtain ⟨⟨c1_z, c2_z, c3_z, c4_z, c5_z, c6_z, c7_z, c8_z⟩, ⟨m2_z, m3_z, m4_z, m5_z, m6_z, m7_z, m8_z⟩, R3, R4, R5, R6, R7, R8, R9, R10⟩ := (R : rq T S x p 23 h g)
    obtain ⟨np, op, z1_z, z2_z, z3_z, z4_z, z5_z, z6_z, z7_z, z8_z, z9_z, z10_z⟩ := (Z : rs 23 h g)
    obtain ⟨nk1_z, nk2_z, nk3_z⟩ := A.2.2.2.2.2.1
    replace nk1_z : rg_v h 32 0 = rg_v g 164 44 := nk1_z
    replace nk2_z : 0 ≤ (rg_v h 32 0).toInt := nk2_z
    replace nk3_z : (rg_v h 32 0).toInt ≤ 64 := nk3_z
    replace z8_z : np.toInt ≤ (rg_v h 32 0).toInt + op.toInt := z8_z
    obtain ⟨kn, ekn⟩ : ∃ v, rg_v h 32 0 = v := ⟨_, rfl⟩
    rw [ekn] at nk1_z nk2_z nk3_z z8_z
    have e9_z := rt_c1 (x := kn) (by omega) (by omega)
    replace hc_z := rn_aload_n (am_cur_of (i := (0, 1, .aload_n 0, (0, 0, 0), 0)) (by decide +kernel)) g0_z hc_z
    replace hc_z := rn_getI (v := 6) (am_cur_of (i := (1, 3, .getfield 60, (4, 10, 419), 0)) (by decide +kernel)) (by decide +kernel) ka hc_z
    replace hc_z := rn_bipush (w := 6) (am_cur_of (i := (4, 2, .bipush 6, (0, 0, 0), 0)) (by decide +kernel)) (by decide) hc_z
    replace hc_z := rn_cmpF (am_cur_of (i := (6, 3, .if_icmp .ne 30, (19, 0, 0), 0)) (by decide +kernel)) (by decide) hc_z
    replace hc_z := rn_aload_n (am_cur_of (i := (9, 1, .aload_n 0, (0, 0, 0), 0)) (by decide +kernel)) g0_z hc_z
    replace hc_z := rn_getI (v := 10) (am_cur_of (i := (10, 3, .getfield 91, (4, 11, 420), 0)) (by decide +kernel)) (by decide +kernel) kb hc_z
    replace hc_z := rn_iconst (w := 5) (am_cur_of (i := (13, 1, .iconst 5, (0, 0, 0), 0)) (by decide +kernel)) (by decide) hc_z
    replace hc_z := rn_cmpT (am_cur_of (i := (14, 3, .if_icmp .ne 22, (19, 0, 0), 0)) (by decide +kernel)) (by decide) hc_z
    replace hc_z := rn_aload_n (am_cur_of (i := (36, 1, .aload_n 0, (0, 0, 0), 0)) (by decide +kernel)) g0_z hc_z
    replace hc_z := rn_bipush (w := 40) (am_cur_of (i := (37, 2, .bipush 40, (0, 0, 0), 0)) (by decide +kernel)) (by decide) hc_z
    replace hc_z := rn_callV (M' := am_m45) (o := 44) (ar := [.int 40]) (rest := []) (L := lv_args 0 [.ref 44, .int 40]) (am_cur_of (i := (39, 3, .invokevirtual 105, (45, 834, 3), 0)) (by decide +kernel)) rfl rfl rfl rfl hc_z
    obtain ⟨r2908_z, h2909_z, q2910_z, hc_z⟩ := hc_z
    obtain ⟨rfl, yq2910_z⟩ := rp_mkN (fun q => absurd (Eq.trans (Eq.symm ka) q.1) (by decide)) q2910_z
    subst yq2910_z
    replace hc_z : rn _ _ _ _ [.int 0] _ _ _ := hc_z
    replace hc_z := rn_ifT (am_cur_of (i := (42, 3, .ifCond .eq 38, (43, 0, 0), 0)) (by decide +kernel)) (by decide) hc_z
    replace hc_z := rn_aload_n (am_cur_of (i := (80, 1, .aload_n 0, (0, 0, 0), 0)) (by decide +kernel)) g0_z hc_z
    replace hc_z := rn_getI (v := 6) (am_cur_of (i := (81, 3, .getfield 60, (4, 10, 419), 0)) (by decide +kernel)) (by decide +kernel) ka hc_z
    replace hc_z := rn_iconst (w := 4) (am_cur_of (i := (84, 1, .iconst 4, (0, 0, 0), 0)) (by decide +kernel)) (by decide) hc_z
    replace hc_z := rn_cmpT (am_cur_of (i := (85, 3, .if_icmp .ne 40, (64, 0, 0), 0)) (by decide +kernel)) (by decide) hc_z
    replace hc_z := rn_aload_n (am_cur_of (i := (125, 1, .aload_n 0, (0, 0, 0), 0)) (by decide +kernel)) g0_z hc_z
    replace hc_z := rn_getI (v := 6) (am_cur_of (i := (126, 3, .getfield 60, (4, 10, 419), 0)) (by decide +kernel)) (by decide +kernel) ka hc_z
    replace hc_z := rn_iconst (w := 2) (am_cur_of (i := (129, 1, .iconst 2, (0, 0, 0), 0)) (by decide +kernel)) (by decide) hc_z
    replace hc_z := rn_cmpT (am_cur_of (i := (130, 3, .if_icmp .ne 37, (84, 0, 0), 0)) (by decide +kernel)) (by decide) hc_z
    replace hc_z := rn_aload_n (am_cur_of (i := (167, 1, .aload_n 0, (0, 0, 0), 0)) (by decide +kernel)) g0_z hc_z
    replace hc_z := rn_iconst (w := 1) (am_cur_of (i := (168, 1, .iconst 1, (0, 0, 0), 0)) (by decide +kernel)) (by decide) hc_z
    replace hc_z := rn_callV (M' := am_m29) (o := 44) (ar := [.int 1]) (rest := []) (L := lv_args 0 [.ref 44, .int 1]) (am_cur_of (i := (169, 3, .invokevirtual 108, (29, 769, 3), 0)) (by decide +kernel)) rfl rfl rfl rfl hc_z
    obtain ⟨r2911_z, h2912_z, q2913_z, hc_z⟩ := hc_z
    obtain ⟨rfl, yq2913_z⟩ := rp_fail R4 q2913_z
    subst yq2913_z
    replace hc_z : rn _ _ _ _ [] _ _ _ := hc_z
    have K := rs_stick (w := 1) (q := p) (a := 51) (by decide) (by decide) rfl (by decide) rfl (show rg_v (am_up (am_up h 44 1 (.int 1)) 44 2 (.int (rg_v h 44 9))) 44 2 = p from R5) hc_z
    replace hm_z := rn_aload_n (am_cur_of (i := (0, 1, .aload_n 0, (0, 0, 0), 0)) (by decide +kernel)) g0m hm_z
    replace hm_z := rn_bipush (w := 40) (am_cur_of (i := (1, 2, .bipush 40, (0, 0, 0), 0)) (by decide +kernel)) (by decide) hm_z
    replace hm_z := rn_callV (M' := am_m171) (o := 164) (ar := [.int 40]) (rest := []) (L := lv_args 0 [.ref 164, .int 40]) (am_cur_of (i := (3, 3, .invokevirtual 194, (171, 1715, 3), 0)) (by decide +kernel)) rfl rfl rfl rfl hm_z
    obtain ⟨r2914_z, h2915_z, q2916_z, hm_z⟩ := hm_z
    obtain ⟨rfl, yq2916_z⟩ := rp_sgN (fun q => absurd (Eq.trans (Eq.symm kc) q.1) (by decide)) q2916_z
    subst yq2916_z
    replace hm_z : rn _ _ _ _ [.int 0] _ _ _ := hm_z
    replace hm_z := rn_ifT (am_cur_of (i := (6, 3, .ifCond .eq 44, (28, 0, 0), 0)) (by decide +kernel)) (by decide) hm_z
    replace hm_z := rn_aload_n (am_cur_of (i := (50, 1, .aload_n 0, (0, 0, 0), 0)) (by decide +kernel)) g0m hm_z
    replace hm_z := rn_bipush (w := 14) (am_cur_of (i := (51, 2, .bipush 14, (0, 0, 0), 0)) (by decide +kernel)) (by decide) hm_z
    replace hm_z := rn_callV (M' := am_m174) (o := 164) (ar := [.int 14]) (rest := []) (L := lv_args 0 [.ref 164, .int 14]) (am_cur_of (i := (53, 3, .invokevirtual 306, (174, 1727, 3), 0)) (by decide +kernel)) rfl rfl rfl rfl hm_z
    obtain ⟨r2917_z, h2918_z, q2919_z, hm_z⟩ := hm_z
    obtain ⟨rfl, yq2919_z⟩ := rp_kyN (fun q => absurd (Eq.trans (Eq.symm kc) q.1) (by decide)) q2919_z
    subst yq2919_z
    replace hm_z : rn _ _ _ _ [.int 0] _ _ _ := hm_z
    replace hm_z := rn_ifT (am_cur_of (i := (56, 3, .ifCond .eq 30, (47, 0, 0), 0)) (by decide +kernel)) (by decide) hm_z
    replace hm_z := rn_aload_n (am_cur_of (i := (86, 1, .aload_n 0, (0, 0, 0), 0)) (by decide +kernel)) g0m hm_z
    replace hm_z := rn_callV (M' := am_m176) (o := 164) (ar := []) (rest := []) (L := lv_args 0 [.ref 164]) (am_cur_of (i := (87, 3, .invokevirtual 312, (176, 1735, 3), 0)) (by decide +kernel)) rfl rfl rfl rfl hm_z
    obtain ⟨r2920_z, h2921_z, q2922_z, hm_z⟩ := hm_z
    obtain ⟨rfl, yq2922_z⟩ := rp_nm (c := 5) (d := 4) kc kd q2922_z
    replace yq2922_z := yq2922_z.symm
    subst yq2922_z
    rw [show rp_nmf 5 4 = (-1) from by unfold rp_nmf; rw [if_neg (by decide)]] at hm_z
    replace hm_z : rn _ _ _ _ [.int (-1)] _ _ _ := hm_z
    replace hm_z := rn_istore_n (am_cur_of (i := (90, 1, .istore_n 1, (0, 0, 0), 0)) (by decide +kernel)) hm_z
    obtain ⟨_, s2923_z, s2924_z, g1m, hm_z⟩ := hm_z
    replace g0m := s2923_z 0 _ (by decide) rfl g0m
    clear s2923_z s2924_z
    replace hm_z := rn_iload_n (am_cur_of (i := (91, 1, .iload_n 1, (0, 0, 0), 0)) (by decide +kernel)) g1m hm_z
    replace hm_z := rn_ifF (am_cur_of (i := (92, 3, .ifCond .ge 17, (60, 0, 0), 0)) (by decide +kernel)) (by decide) hm_z
    replace hm_z := rn_aload_n (am_cur_of (i := (95, 1, .aload_n 0, (0, 0, 0), 0)) (by decide +kernel)) g0m hm_z
    replace hm_z := rn_getI (v := 5) (am_cur_of (i := (96, 3, .getfield 157, (12, 8, 1392), 0)) (by decide +kernel)) (by decide +kernel) kc hm_z
    replace hm_z := rn_iconst (w := 3) (am_cur_of (i := (99, 1, .iconst 3, (0, 0, 0), 0)) (by decide +kernel)) (by decide) hm_z
    replace hm_z := rn_cmpF (am_cur_of (i := (100, 3, .if_icmp .eq 9, (60, 0, 0), 0)) (by decide +kernel)) (by decide) hm_z
    replace hm_z := rn_aload_n (am_cur_of (i := (103, 1, .aload_n 0, (0, 0, 0), 0)) (by decide +kernel)) g0m hm_z
    replace hm_z := rn_iconst (w := 1) (am_cur_of (i := (104, 1, .iconst 1, (0, 0, 0), 0)) (by decide +kernel)) (by decide) hm_z
    replace hm_z := rn_callV (M' := am_m158) (o := 164) (ar := [.int 1]) (rest := []) (L := lv_args 0 [.ref 164, .int 1]) (am_cur_of (i := (105, 3, .invokevirtual 181, (158, 1665, 3), 0)) (by decide +kernel)) rfl rfl rfl rfl hm_z
    obtain ⟨r2925_z, h2926_z, q2927_z, hm_z⟩ := hm_z
    obtain ⟨rfl, yq2927_z⟩ := rp_wrong q2927_z
    subst yq2927_z
    replace hm_z : rn _ _ _ _ [.int 0] _ _ _ := hm_z
    replace hm_z := rn_iret (am_cur_of (i := (108, 1, .ireturn, (0, 0, 0), 0)) (by decide +kernel)) hm_z
    obtain ⟨e2928_z, e2929_z⟩ := hm_z
    subst e2928_z e2929_z
    exact (Or.inr ⟨rfl, 1, by decide, K.1, K.2, rfl, R6⟩)
  · have g0_z : am_get (lv_args 0 [.ref 44, .int 0]) 0 = some (.ref 44) := rfl
    have g1_z : am_get (lv_args 0 [.ref 44, .int 0]) 1 = some (.int 0) := rfl
    have g0m : am_get (lv_args 0 [.ref 164]) 0 = some (.ref 164) := rfl
    have Rk := R
    have Zk := Z
    obtain ⟨⟨c1_z, c2_z, c3_z, c4_z, c5_z, c6_z, c7_z, c8_z⟩, ⟨m2_z, m3_z, m4_z, m5_z, m6_z, m7_z, m8_z⟩, R3, R4, R5, R6, R7, R8, R9, R10⟩ := (R : rq T S x p 23 h g)
    obtain ⟨np, op, z1_z, z2_z, z3_z, z4_z, z5_z, z6_z, z7_z, z8_z, z9_z, z10_z⟩ := (Z : rs 23 h g)
    obtain ⟨nk1_z, nk2_z, nk3_z⟩ := A.2.2.2.2.2.1
    replace nk1_z : rg_v h 32 0 = rg_v g 164 44 := nk1_z
    replace nk2_z : 0 ≤ (rg_v h 32 0).toInt := nk2_z
    replace nk3_z : (rg_v h 32 0).toInt ≤ 64 := nk3_z
    replace z8_z : np.toInt ≤ (rg_v h 32 0).toInt + op.toInt := z8_z
    obtain ⟨kn, ekn⟩ : ∃ v, rg_v h 32 0 = v := ⟨_, rfl⟩
    rw [ekn] at nk1_z nk2_z nk3_z z8_z
    have e9_z := rt_c1 (x := kn) (by omega) (by omega)
    replace hc_z := rn_aload_n (am_cur_of (i := (0, 1, .aload_n 0, (0, 0, 0), 0)) (by decide +kernel)) g0_z hc_z
    replace hc_z := rn_getI (v := 6) (am_cur_of (i := (1, 3, .getfield 60, (4, 10, 419), 0)) (by decide +kernel)) (by decide +kernel) ka hc_z
    replace hc_z := rn_bipush (w := 6) (am_cur_of (i := (4, 2, .bipush 6, (0, 0, 0), 0)) (by decide +kernel)) (by decide) hc_z
    replace hc_z := rn_cmpF (am_cur_of (i := (6, 3, .if_icmp .ne 30, (19, 0, 0), 0)) (by decide +kernel)) (by decide) hc_z
    replace hc_z := rn_aload_n (am_cur_of (i := (9, 1, .aload_n 0, (0, 0, 0), 0)) (by decide +kernel)) g0_z hc_z
    replace hc_z := rn_getI (v := 11) (am_cur_of (i := (10, 3, .getfield 91, (4, 11, 420), 0)) (by decide +kernel)) (by decide +kernel) kb hc_z
    replace hc_z := rn_iconst (w := 5) (am_cur_of (i := (13, 1, .iconst 5, (0, 0, 0), 0)) (by decide +kernel)) (by decide) hc_z
    replace hc_z := rn_cmpT (am_cur_of (i := (14, 3, .if_icmp .ne 22, (19, 0, 0), 0)) (by decide +kernel)) (by decide) hc_z
    replace hc_z := rn_aload_n (am_cur_of (i := (36, 1, .aload_n 0, (0, 0, 0), 0)) (by decide +kernel)) g0_z hc_z
    replace hc_z := rn_bipush (w := 40) (am_cur_of (i := (37, 2, .bipush 40, (0, 0, 0), 0)) (by decide +kernel)) (by decide) hc_z
    replace hc_z := rn_callV (M' := am_m45) (o := 44) (ar := [.int 40]) (rest := []) (L := lv_args 0 [.ref 44, .int 40]) (am_cur_of (i := (39, 3, .invokevirtual 105, (45, 834, 3), 0)) (by decide +kernel)) rfl rfl rfl rfl hc_z
    obtain ⟨r2930_z, h2931_z, q2932_z, hc_z⟩ := hc_z
    obtain ⟨rfl, yq2932_z⟩ := rp_mkN (fun q => absurd (Eq.trans (Eq.symm ka) q.1) (by decide)) q2932_z
    subst yq2932_z
    replace hc_z : rn _ _ _ _ [.int 0] _ _ _ := hc_z
    replace hc_z := rn_ifT (am_cur_of (i := (42, 3, .ifCond .eq 38, (43, 0, 0), 0)) (by decide +kernel)) (by decide) hc_z
    replace hc_z := rn_aload_n (am_cur_of (i := (80, 1, .aload_n 0, (0, 0, 0), 0)) (by decide +kernel)) g0_z hc_z
    replace hc_z := rn_getI (v := 6) (am_cur_of (i := (81, 3, .getfield 60, (4, 10, 419), 0)) (by decide +kernel)) (by decide +kernel) ka hc_z
    replace hc_z := rn_iconst (w := 4) (am_cur_of (i := (84, 1, .iconst 4, (0, 0, 0), 0)) (by decide +kernel)) (by decide) hc_z
    replace hc_z := rn_cmpT (am_cur_of (i := (85, 3, .if_icmp .ne 40, (64, 0, 0), 0)) (by decide +kernel)) (by decide) hc_z
    replace hc_z := rn_aload_n (am_cur_of (i := (125, 1, .aload_n 0, (0, 0, 0), 0)) (by decide +kernel)) g0_z hc_z
    replace hc_z := rn_getI (v := 6) (am_cur_of (i := (126, 3, .getfield 60, (4, 10, 419), 0)) (by decide +kernel)) (by decide +kernel) ka hc_z
    replace hc_z := rn_iconst (w := 2) (am_cur_of (i := (129, 1, .iconst 2, (0, 0, 0), 0)) (by decide +kernel)) (by decide) hc_z
    replace hc_z := rn_cmpT (am_cur_of (i := (130, 3, .if_icmp .ne 37, (84, 0, 0), 0)) (by decide +kernel)) (by decide) hc_z
    replace hc_z := rn_aload_n (am_cur_of (i := (167, 1, .aload_n 0, (0, 0, 0), 0)) (by decide +kernel)) g0_z hc_z
    replace hc_z := rn_iconst (w := 1) (am_cur_of (i := (168, 1, .iconst 1, (0, 0, 0), 0)) (by decide +kernel)) (by decide) hc_z
    replace hc_z := rn_callV (M' := am_m29) (o := 44) (ar := [.int 1]) (rest := []) (L := lv_args 0 [.ref 44, .int 1]) (am_cur_of (i := (169, 3, .invokevirtual 108, (29, 769, 3), 0)) (by decide +kernel)) rfl rfl rfl rfl hc_z
    obtain ⟨r2933_z, h2934_z, q2935_z, hc_z⟩ := hc_z
    obtain ⟨rfl, yq2935_z⟩ := rp_fail R4 q2935_z
    subst yq2935_z
    replace hc_z : rn _ _ _ _ [] _ _ _ := hc_z
    have K := rs_stick (w := 1) (q := p) (a := 51) (by decide) (by decide) rfl (by decide) rfl (show rg_v (am_up (am_up h 44 1 (.int 1)) 44 2 (.int (rg_v h 44 9))) 44 2 = p from R5) hc_z
    replace hm_z := rn_aload_n (am_cur_of (i := (0, 1, .aload_n 0, (0, 0, 0), 0)) (by decide +kernel)) g0m hm_z
    replace hm_z := rn_bipush (w := 40) (am_cur_of (i := (1, 2, .bipush 40, (0, 0, 0), 0)) (by decide +kernel)) (by decide) hm_z
    replace hm_z := rn_callV (M' := am_m171) (o := 164) (ar := [.int 40]) (rest := []) (L := lv_args 0 [.ref 164, .int 40]) (am_cur_of (i := (3, 3, .invokevirtual 194, (171, 1715, 3), 0)) (by decide +kernel)) rfl rfl rfl rfl hm_z
    obtain ⟨r2936_z, h2937_z, q2938_z, hm_z⟩ := hm_z
    obtain ⟨rfl, yq2938_z⟩ := rp_sgN (fun q => absurd (Eq.trans (Eq.symm kc) q.1) (by decide)) q2938_z
    subst yq2938_z
    replace hm_z : rn _ _ _ _ [.int 0] _ _ _ := hm_z
    replace hm_z := rn_ifT (am_cur_of (i := (6, 3, .ifCond .eq 44, (28, 0, 0), 0)) (by decide +kernel)) (by decide) hm_z
    replace hm_z := rn_aload_n (am_cur_of (i := (50, 1, .aload_n 0, (0, 0, 0), 0)) (by decide +kernel)) g0m hm_z
    replace hm_z := rn_bipush (w := 14) (am_cur_of (i := (51, 2, .bipush 14, (0, 0, 0), 0)) (by decide +kernel)) (by decide) hm_z
    replace hm_z := rn_callV (M' := am_m174) (o := 164) (ar := [.int 14]) (rest := []) (L := lv_args 0 [.ref 164, .int 14]) (am_cur_of (i := (53, 3, .invokevirtual 306, (174, 1727, 3), 0)) (by decide +kernel)) rfl rfl rfl rfl hm_z
    obtain ⟨r2939_z, h2940_z, q2941_z, hm_z⟩ := hm_z
    obtain ⟨rfl, yq2941_z⟩ := rp_kyN (fun q => absurd (Eq.trans (Eq.symm kc) q.1) (by decide)) q2941_z
    subst yq2941_z
    replace hm_z : rn _ _ _ _ [.int 0] _ _ _ := hm_z
    replace hm_z := rn_ifT (am_cur_of (i := (56, 3, .ifCond .eq 30, (47, 0, 0), 0)) (by decide +kernel)) (by decide) hm_z
    replace hm_z := rn_aload_n (am_cur_of (i := (86, 1, .aload_n 0, (0, 0, 0), 0)) (by decide +kernel)) g0m hm_z
    replace hm_z := rn_callV (M' := am_m176) (o := 164) (ar := []) (rest := []) (L := lv_args 0 [.ref 164]) (am_cur_of (i := (87, 3, .invokevirtual 312, (176, 1735, 3), 0)) (by decide +kernel)) rfl rfl rfl rfl hm_z
    obtain ⟨r2942_z, h2943_z, q2944_z, hm_z⟩ := hm_z
    obtain ⟨rfl, yq2944_z⟩ := rp_nm (c := 5) (d := 5) kc kd q2944_z
    replace yq2944_z := yq2944_z.symm
    subst yq2944_z
    rw [show rp_nmf 5 5 = (-1) from by unfold rp_nmf; rw [if_neg (by decide)]] at hm_z
    replace hm_z : rn _ _ _ _ [.int (-1)] _ _ _ := hm_z
    replace hm_z := rn_istore_n (am_cur_of (i := (90, 1, .istore_n 1, (0, 0, 0), 0)) (by decide +kernel)) hm_z
    obtain ⟨_, s2945_z, s2946_z, g1m, hm_z⟩ := hm_z
    replace g0m := s2945_z 0 _ (by decide) rfl g0m
    clear s2945_z s2946_z
    replace hm_z := rn_iload_n (am_cur_of (i := (91, 1, .iload_n 1, (0, 0, 0), 0)) (by decide +kernel)) g1m hm_z
    replace hm_z := rn_ifF (am_cur_of (i := (92, 3, .ifCond .ge 17, (60, 0, 0), 0)) (by decide +kernel)) (by decide) hm_z
    replace hm_z := rn_aload_n (am_cur_of (i := (95, 1, .aload_n 0, (0, 0, 0), 0)) (by decide +kernel)) g0m hm_z
    replace hm_z := rn_getI (v := 5) (am_cur_of (i := (96, 3, .getfield 157, (12, 8, 1392), 0)) (by decide +kernel)) (by decide +kernel) kc hm_z
    replace hm_z := rn_iconst (w := 3) (am_cur_of (i := (99, 1, .iconst 3, (0, 0, 0), 0)) (by decide +kernel)) (by decide) hm_z
    replace hm_z := rn_cmpF (am_cur_of (i := (100, 3, .if_icmp .eq 9, (60, 0, 0), 0)) (by decide +kernel)) (by decide) hm_z
    replace hm_z := rn_aload_n (am_cur_of (i := (103, 1, .aload_n 0, (0, 0, 0), 0)) (by decide +kernel)) g0m hm_z
    replace hm_z := rn_iconst (w := 1) (am_cur_of (i := (104, 1, .iconst 1, (0, 0, 0), 0)) (by decide +kernel)) (by decide) hm_z
    replace hm_z := rn_callV (M' := am_m158) (o := 164) (ar := [.int 1]) (rest := []) (L := lv_args 0 [.ref 164, .int 1]) (am_cur_of (i := (105, 3, .invokevirtual 181, (158, 1665, 3), 0)) (by decide +kernel)) rfl rfl rfl rfl hm_z
    obtain ⟨r2947_z, h2948_z, q2949_z, hm_z⟩ := hm_z
    obtain ⟨rfl, yq2949_z⟩ := rp_wrong q2949_z
    subst yq2949_z
    replace hm_z : rn _ _ _ _ [.int 0] _ _ _ := hm_z
    replace hm_z := rn_iret (am_cur_of (i := (108, 1, .ireturn, (0, 0, 0), 0)) (by decide +kernel)) hm_z
    obtain ⟨e2950_z, e2951_z⟩ := hm_z
    subst e2950_z e2951_z
    exact (Or.inr ⟨rfl, 1, by decide, K.1, K.2, rfl, R6⟩)
  · have g0_z : am_get (lv_args 0 [.ref 44, .int 0]) 0 = some (.ref 44) := rfl
    have g1_z : am_get (lv_args 0 [.ref 44, .int 0]) 1 = some (.int 0) := rfl
    have g0m : am_get (lv_args 0 [.ref 164]) 0 = some (.ref 164) := rfl
    have Rk := R
    have Zk := Z
    obtain ⟨⟨c1_z, c2_z, c3_z, c4_z, c5_z, c6_z, c7_z, c8_z⟩, ⟨m2_z, m3_z, m4_z, m5_z, m6_z, m7_z, m8_z⟩, R3, R4, R5, R6, R7, R8, R9, R10⟩ := (R : rq T S x p 23 h g)
    obtain ⟨np, op, z1_z, z2_z, z3_z, z4_z, z5_z, z6_z, z7_z, z8_z, z9_z, z10_z⟩ := (Z : rs 23 h g)
    obtain ⟨nk1_z, nk2_z, nk3_z⟩ := A.2.2.2.2.2.1
    replace nk1_z : rg_v h 32 0 = rg_v g 164 44 := nk1_z
    replace nk2_z : 0 ≤ (rg_v h 32 0).toInt := nk2_z
    replace nk3_z : (rg_v h 32 0).toInt ≤ 64 := nk3_z
    replace z8_z : np.toInt ≤ (rg_v h 32 0).toInt + op.toInt := z8_z
    obtain ⟨kn, ekn⟩ : ∃ v, rg_v h 32 0 = v := ⟨_, rfl⟩
    rw [ekn] at nk1_z nk2_z nk3_z z8_z
    have e9_z := rt_c1 (x := kn) (by omega) (by omega)
    replace hc_z := rn_aload_n (am_cur_of (i := (0, 1, .aload_n 0, (0, 0, 0), 0)) (by decide +kernel)) g0_z hc_z
    replace hc_z := rn_getI (v := 6) (am_cur_of (i := (1, 3, .getfield 60, (4, 10, 419), 0)) (by decide +kernel)) (by decide +kernel) ka hc_z
    replace hc_z := rn_bipush (w := 6) (am_cur_of (i := (4, 2, .bipush 6, (0, 0, 0), 0)) (by decide +kernel)) (by decide) hc_z
    replace hc_z := rn_cmpF (am_cur_of (i := (6, 3, .if_icmp .ne 30, (19, 0, 0), 0)) (by decide +kernel)) (by decide) hc_z
    replace hc_z := rn_aload_n (am_cur_of (i := (9, 1, .aload_n 0, (0, 0, 0), 0)) (by decide +kernel)) g0_z hc_z
    replace hc_z := rn_getI (v := 12) (am_cur_of (i := (10, 3, .getfield 91, (4, 11, 420), 0)) (by decide +kernel)) (by decide +kernel) kb hc_z
    replace hc_z := rn_iconst (w := 5) (am_cur_of (i := (13, 1, .iconst 5, (0, 0, 0), 0)) (by decide +kernel)) (by decide) hc_z
    replace hc_z := rn_cmpT (am_cur_of (i := (14, 3, .if_icmp .ne 22, (19, 0, 0), 0)) (by decide +kernel)) (by decide) hc_z
    replace hc_z := rn_aload_n (am_cur_of (i := (36, 1, .aload_n 0, (0, 0, 0), 0)) (by decide +kernel)) g0_z hc_z
    replace hc_z := rn_bipush (w := 40) (am_cur_of (i := (37, 2, .bipush 40, (0, 0, 0), 0)) (by decide +kernel)) (by decide) hc_z
    replace hc_z := rn_callV (M' := am_m45) (o := 44) (ar := [.int 40]) (rest := []) (L := lv_args 0 [.ref 44, .int 40]) (am_cur_of (i := (39, 3, .invokevirtual 105, (45, 834, 3), 0)) (by decide +kernel)) rfl rfl rfl rfl hc_z
    obtain ⟨r2952_z, h2953_z, q2954_z, hc_z⟩ := hc_z
    obtain ⟨rfl, yq2954_z⟩ := rp_mkN (fun q => absurd (Eq.trans (Eq.symm ka) q.1) (by decide)) q2954_z
    subst yq2954_z
    replace hc_z : rn _ _ _ _ [.int 0] _ _ _ := hc_z
    replace hc_z := rn_ifT (am_cur_of (i := (42, 3, .ifCond .eq 38, (43, 0, 0), 0)) (by decide +kernel)) (by decide) hc_z
    replace hc_z := rn_aload_n (am_cur_of (i := (80, 1, .aload_n 0, (0, 0, 0), 0)) (by decide +kernel)) g0_z hc_z
    replace hc_z := rn_getI (v := 6) (am_cur_of (i := (81, 3, .getfield 60, (4, 10, 419), 0)) (by decide +kernel)) (by decide +kernel) ka hc_z
    replace hc_z := rn_iconst (w := 4) (am_cur_of (i := (84, 1, .iconst 4, (0, 0, 0), 0)) (by decide +kernel)) (by decide) hc_z
    replace hc_z := rn_cmpT (am_cur_of (i := (85, 3, .if_icmp .ne 40, (64, 0, 0), 0)) (by decide +kernel)) (by decide) hc_z
    replace hc_z := rn_aload_n (am_cur_of (i := (125, 1, .aload_n 0, (0, 0, 0), 0)) (by decide +kernel)) g0_z hc_z
    replace hc_z := rn_getI (v := 6) (am_cur_of (i := (126, 3, .getfield 60, (4, 10, 419), 0)) (by decide +kernel)) (by decide +kernel) ka hc_z
    replace hc_z := rn_iconst (w := 2) (am_cur_of (i := (129, 1, .iconst 2, (0, 0, 0), 0)) (by decide +kernel)) (by decide) hc_z
    replace hc_z := rn_cmpT (am_cur_of (i := (130, 3, .if_icmp .ne 37, (84, 0, 0), 0)) (by decide +kernel)) (by decide) hc_z
    replace hc_z := rn_aload_n (am_cur_of (i := (167, 1, .aload_n 0, (0, 0, 0), 0)) (by decide +kernel)) g0_z hc_z
    replace hc_z := rn_iconst (w := 1) (am_cur_of (i := (168, 1, .iconst 1, (0, 0, 0), 0)) (by decide +kernel)) (by decide) hc_z
    replace hc_z := rn_callV (M' := am_m29) (o := 44) (ar := [.int 1]) (rest := []) (L := lv_args 0 [.ref 44, .int 1]) (am_cur_of (i := (169, 3, .invokevirtual 108, (29, 769, 3), 0)) (by decide +kernel)) rfl rfl rfl rfl hc_z
    obtain ⟨r2955_z, h2956_z, q2957_z, hc_z⟩ := hc_z
    obtain ⟨rfl, yq2957_z⟩ := rp_fail R4 q2957_z
    subst yq2957_z
    replace hc_z : rn _ _ _ _ [] _ _ _ := hc_z
    have K := rs_stick (w := 1) (q := p) (a := 51) (by decide) (by decide) rfl (by decide) rfl (show rg_v (am_up (am_up h 44 1 (.int 1)) 44 2 (.int (rg_v h 44 9))) 44 2 = p from R5) hc_z
    replace hm_z := rn_aload_n (am_cur_of (i := (0, 1, .aload_n 0, (0, 0, 0), 0)) (by decide +kernel)) g0m hm_z
    replace hm_z := rn_bipush (w := 40) (am_cur_of (i := (1, 2, .bipush 40, (0, 0, 0), 0)) (by decide +kernel)) (by decide) hm_z
    replace hm_z := rn_callV (M' := am_m171) (o := 164) (ar := [.int 40]) (rest := []) (L := lv_args 0 [.ref 164, .int 40]) (am_cur_of (i := (3, 3, .invokevirtual 194, (171, 1715, 3), 0)) (by decide +kernel)) rfl rfl rfl rfl hm_z
    obtain ⟨r2958_z, h2959_z, q2960_z, hm_z⟩ := hm_z
    obtain ⟨rfl, yq2960_z⟩ := rp_sgN (fun q => absurd (Eq.trans (Eq.symm kd) q.2) (by decide)) q2960_z
    subst yq2960_z
    replace hm_z : rn _ _ _ _ [.int 0] _ _ _ := hm_z
    replace hm_z := rn_ifT (am_cur_of (i := (6, 3, .ifCond .eq 44, (28, 0, 0), 0)) (by decide +kernel)) (by decide) hm_z
    replace hm_z := rn_aload_n (am_cur_of (i := (50, 1, .aload_n 0, (0, 0, 0), 0)) (by decide +kernel)) g0m hm_z
    replace hm_z := rn_bipush (w := 14) (am_cur_of (i := (51, 2, .bipush 14, (0, 0, 0), 0)) (by decide +kernel)) (by decide) hm_z
    replace hm_z := rn_callV (M' := am_m174) (o := 164) (ar := [.int 14]) (rest := []) (L := lv_args 0 [.ref 164, .int 14]) (am_cur_of (i := (53, 3, .invokevirtual 306, (174, 1727, 3), 0)) (by decide +kernel)) rfl rfl rfl rfl hm_z
    obtain ⟨r2961_z, h2962_z, q2963_z, hm_z⟩ := hm_z
    obtain ⟨rfl, yq2963_z⟩ := rp_kyN (fun q => absurd (Eq.trans (Eq.symm kc) q.1) (by decide)) q2963_z
    subst yq2963_z
    replace hm_z : rn _ _ _ _ [.int 0] _ _ _ := hm_z
    replace hm_z := rn_ifT (am_cur_of (i := (56, 3, .ifCond .eq 30, (47, 0, 0), 0)) (by decide +kernel)) (by decide) hm_z
    replace hm_z := rn_aload_n (am_cur_of (i := (86, 1, .aload_n 0, (0, 0, 0), 0)) (by decide +kernel)) g0m hm_z
    replace hm_z := rn_callV (M' := am_m176) (o := 164) (ar := []) (rest := []) (L := lv_args 0 [.ref 164]) (am_cur_of (i := (87, 3, .invokevirtual 312, (176, 1735, 3), 0)) (by decide +kernel)) rfl rfl rfl rfl hm_z
    obtain ⟨r2964_z, h2965_z, q2966_z, hm_z⟩ := hm_z
    obtain ⟨rfl, yq2966_z⟩ := rp_nm (c := 4) (d := 43) kc kd q2966_z
    replace yq2966_z := yq2966_z.symm
    subst yq2966_z
    rw [show rp_nmf 4 43 = (-1) from by unfold rp_nmf; rw [if_neg (by decide)]] at hm_z
    replace hm_z : rn _ _ _ _ [.int (-1)] _ _ _ := hm_z
    replace hm_z := rn_istore_n (am_cur_of (i := (90, 1, .istore_n 1, (0, 0, 0), 0)) (by decide +kernel)) hm_z
    obtain ⟨_, s2967_z, s2968_z, g1m, hm_z⟩ := hm_z
    replace g0m := s2967_z 0 _ (by decide) rfl g0m
    clear s2967_z s2968_z
    replace hm_z := rn_iload_n (am_cur_of (i := (91, 1, .iload_n 1, (0, 0, 0), 0)) (by decide +kernel)) g1m hm_z
    replace hm_z := rn_ifF (am_cur_of (i := (92, 3, .ifCond .ge 17, (60, 0, 0), 0)) (by decide +kernel)) (by decide) hm_z
    replace hm_z := rn_aload_n (am_cur_of (i := (95, 1, .aload_n 0, (0, 0, 0), 0)) (by decide +kernel)) g0m hm_z
    replace hm_z := rn_getI (v := 4) (am_cur_of (i := (96, 3, .getfield 157, (12, 8, 1392), 0)) (by decide +kernel)) (by decide +kernel) kc hm_z
    replace hm_z := rn_iconst (w := 3) (am_cur_of (i := (99, 1, .iconst 3, (0, 0, 0), 0)) (by decide +kernel)) (by decide) hm_z
    replace hm_z := rn_cmpF (am_cur_of (i := (100, 3, .if_icmp .eq 9, (60, 0, 0), 0)) (by decide +kernel)) (by decide) hm_z
    replace hm_z := rn_aload_n (am_cur_of (i := (103, 1, .aload_n 0, (0, 0, 0), 0)) (by decide +kernel)) g0m hm_z
    replace hm_z := rn_iconst (w := 1) (am_cur_of (i := (104, 1, .iconst 1, (0, 0, 0), 0)) (by decide +kernel)) (by decide) hm_z
    replace hm_z := rn_callV (M' := am_m158) (o := 164) (ar := [.int 1]) (rest := []) (L := lv_args 0 [.ref 164, .int 1]) (am_cur_of (i := (105, 3, .invokevirtual 181, (158, 1665, 3), 0)) (by decide +kernel)) rfl rfl rfl rfl hm_z
    obtain ⟨r2969_z, h2970_z, q2971_z, hm_z⟩ := hm_z
    obtain ⟨rfl, yq2971_z⟩ := rp_wrong q2971_z
    subst yq2971_z
    replace hm_z : rn _ _ _ _ [.int 0] _ _ _ := hm_z
    replace hm_z := rn_iret (am_cur_of (i := (108, 1, .ireturn, (0, 0, 0), 0)) (by decide +kernel)) hm_z
    obtain ⟨e2972_z, e2973_z⟩ := hm_z
    subst e2972_z e2973_z
    exact (Or.inr ⟨rfl, 1, by decide, K.1, K.2, rfl, R6⟩)
  · have g0_z : am_get (lv_args 0 [.ref 44, .int 0]) 0 = some (.ref 44) := rfl
    have g1_z : am_get (lv_args 0 [.ref 44, .int 0]) 1 = some (.int 0) := rfl
    have g0m : am_get (lv_args 0 [.ref 164]) 0 = some (.ref 164) := rfl
    have Rk := R
    have Zk := Z
    obtain ⟨⟨c1_z, c2_z, c3_z, c4_z, c5_z, c6_z, c7_z, c8_z⟩, ⟨m2_z, m3_z, m4_z, m5_z, m6_z, m7_z, m8_z⟩, R3, R4, R5, R6, R7, R8, R9, R10⟩ := (R : rq T S x p 23 h g)
    obtain ⟨np, op, z1_z, z2_z, z3_z, z4_z, z5_z, z6_z, z7_z, z8_z, z9_z, z10_z⟩ := (Z : rs 23 h g)
    obtain ⟨nk1_z, nk2_z, nk3_z⟩ := A.2.2.2.2.2.1
    replace nk1_z : rg_v h 32 0 = rg_v g 164 44 := nk1_z
    replace nk2_z : 0 ≤ (rg_v h 32 0).toInt := nk2_z
    replace nk3_z : (rg_v h 32 0).toInt ≤ 64 := nk3_z
    replace z8_z : np.toInt ≤ (rg_v h 32 0).toInt + op.toInt := z8_z
    obtain ⟨kn, ekn⟩ : ∃ v, rg_v h 32 0 = v := ⟨_, rfl⟩
    rw [ekn] at nk1_z nk2_z nk3_z z8_z
    have e9_z := rt_c1 (x := kn) (by omega) (by omega)
    replace hc_z := rn_aload_n (am_cur_of (i := (0, 1, .aload_n 0, (0, 0, 0), 0)) (by decide +kernel)) g0_z hc_z
    replace hc_z := rn_getI (v := 6) (am_cur_of (i := (1, 3, .getfield 60, (4, 10, 419), 0)) (by decide +kernel)) (by decide +kernel) ka hc_z
    replace hc_z := rn_bipush (w := 6) (am_cur_of (i := (4, 2, .bipush 6, (0, 0, 0), 0)) (by decide +kernel)) (by decide) hc_z
    replace hc_z := rn_cmpF (am_cur_of (i := (6, 3, .if_icmp .ne 30, (19, 0, 0), 0)) (by decide +kernel)) (by decide) hc_z
    replace hc_z := rn_aload_n (am_cur_of (i := (9, 1, .aload_n 0, (0, 0, 0), 0)) (by decide +kernel)) g0_z hc_z
    replace hc_z := rn_getI (v := 13) (am_cur_of (i := (10, 3, .getfield 91, (4, 11, 420), 0)) (by decide +kernel)) (by decide +kernel) kb hc_z
    replace hc_z := rn_iconst (w := 5) (am_cur_of (i := (13, 1, .iconst 5, (0, 0, 0), 0)) (by decide +kernel)) (by decide) hc_z
    replace hc_z := rn_cmpT (am_cur_of (i := (14, 3, .if_icmp .ne 22, (19, 0, 0), 0)) (by decide +kernel)) (by decide) hc_z
    replace hc_z := rn_aload_n (am_cur_of (i := (36, 1, .aload_n 0, (0, 0, 0), 0)) (by decide +kernel)) g0_z hc_z
    replace hc_z := rn_bipush (w := 40) (am_cur_of (i := (37, 2, .bipush 40, (0, 0, 0), 0)) (by decide +kernel)) (by decide) hc_z
    replace hc_z := rn_callV (M' := am_m45) (o := 44) (ar := [.int 40]) (rest := []) (L := lv_args 0 [.ref 44, .int 40]) (am_cur_of (i := (39, 3, .invokevirtual 105, (45, 834, 3), 0)) (by decide +kernel)) rfl rfl rfl rfl hc_z
    obtain ⟨r2974_z, h2975_z, q2976_z, hc_z⟩ := hc_z
    obtain ⟨rfl, yq2976_z⟩ := rp_mkN (fun q => absurd (Eq.trans (Eq.symm ka) q.1) (by decide)) q2976_z
    subst yq2976_z
    replace hc_z : rn _ _ _ _ [.int 0] _ _ _ := hc_z
    replace hc_z := rn_ifT (am_cur_of (i := (42, 3, .ifCond .eq 38, (43, 0, 0), 0)) (by decide +kernel)) (by decide) hc_z
    replace hc_z := rn_aload_n (am_cur_of (i := (80, 1, .aload_n 0, (0, 0, 0), 0)) (by decide +kernel)) g0_z hc_z
    replace hc_z := rn_getI (v := 6) (am_cur_of (i := (81, 3, .getfield 60, (4, 10, 419), 0)) (by decide +kernel)) (by decide +kernel) ka hc_z
    replace hc_z := rn_iconst (w := 4) (am_cur_of (i := (84, 1, .iconst 4, (0, 0, 0), 0)) (by decide +kernel)) (by decide) hc_z
    replace hc_z := rn_cmpT (am_cur_of (i := (85, 3, .if_icmp .ne 40, (64, 0, 0), 0)) (by decide +kernel)) (by decide) hc_z
    replace hc_z := rn_aload_n (am_cur_of (i := (125, 1, .aload_n 0, (0, 0, 0), 0)) (by decide +kernel)) g0_z hc_z
    replace hc_z := rn_getI (v := 6) (am_cur_of (i := (126, 3, .getfield 60, (4, 10, 419), 0)) (by decide +kernel)) (by decide +kernel) ka hc_z
    replace hc_z := rn_iconst (w := 2) (am_cur_of (i := (129, 1, .iconst 2, (0, 0, 0), 0)) (by decide +kernel)) (by decide) hc_z
    replace hc_z := rn_cmpT (am_cur_of (i := (130, 3, .if_icmp .ne 37, (84, 0, 0), 0)) (by decide +kernel)) (by decide) hc_z
    replace hc_z := rn_aload_n (am_cur_of (i := (167, 1, .aload_n 0, (0, 0, 0), 0)) (by decide +kernel)) g0_z hc_z
    replace hc_z := rn_iconst (w := 1) (am_cur_of (i := (168, 1, .iconst 1, (0, 0, 0), 0)) (by decide +kernel)) (by decide) hc_z
    replace hc_z := rn_callV (M' := am_m29) (o := 44) (ar := [.int 1]) (rest := []) (L := lv_args 0 [.ref 44, .int 1]) (am_cur_of (i := (169, 3, .invokevirtual 108, (29, 769, 3), 0)) (by decide +kernel)) rfl rfl rfl rfl hc_z
    obtain ⟨r2977_z, h2978_z, q2979_z, hc_z⟩ := hc_z
    obtain ⟨rfl, yq2979_z⟩ := rp_fail R4 q2979_z
    subst yq2979_z
    replace hc_z : rn _ _ _ _ [] _ _ _ := hc_z
    have K := rs_stick (w := 1) (q := p) (a := 51) (by decide) (by decide) rfl (by decide) rfl (show rg_v (am_up (am_up h 44 1 (.int 1)) 44 2 (.int (rg_v h 44 9))) 44 2 = p from R5) hc_z
    replace hm_z := rn_aload_n (am_cur_of (i := (0, 1, .aload_n 0, (0, 0, 0), 0)) (by decide +kernel)) g0m hm_z
    replace hm_z := rn_bipush (w := 40) (am_cur_of (i := (1, 2, .bipush 40, (0, 0, 0), 0)) (by decide +kernel)) (by decide) hm_z
    replace hm_z := rn_callV (M' := am_m171) (o := 164) (ar := [.int 40]) (rest := []) (L := lv_args 0 [.ref 164, .int 40]) (am_cur_of (i := (3, 3, .invokevirtual 194, (171, 1715, 3), 0)) (by decide +kernel)) rfl rfl rfl rfl hm_z
    obtain ⟨r2980_z, h2981_z, q2982_z, hm_z⟩ := hm_z
    obtain ⟨rfl, yq2982_z⟩ := rp_sgN (fun q => absurd (Eq.trans (Eq.symm kd) q.2) (by decide)) q2982_z
    subst yq2982_z
    replace hm_z : rn _ _ _ _ [.int 0] _ _ _ := hm_z
    replace hm_z := rn_ifT (am_cur_of (i := (6, 3, .ifCond .eq 44, (28, 0, 0), 0)) (by decide +kernel)) (by decide) hm_z
    replace hm_z := rn_aload_n (am_cur_of (i := (50, 1, .aload_n 0, (0, 0, 0), 0)) (by decide +kernel)) g0m hm_z
    replace hm_z := rn_bipush (w := 14) (am_cur_of (i := (51, 2, .bipush 14, (0, 0, 0), 0)) (by decide +kernel)) (by decide) hm_z
    replace hm_z := rn_callV (M' := am_m174) (o := 164) (ar := [.int 14]) (rest := []) (L := lv_args 0 [.ref 164, .int 14]) (am_cur_of (i := (53, 3, .invokevirtual 306, (174, 1727, 3), 0)) (by decide +kernel)) rfl rfl rfl rfl hm_z
    obtain ⟨r2983_z, h2984_z, q2985_z, hm_z⟩ := hm_z
    obtain ⟨rfl, yq2985_z⟩ := rp_kyN (fun q => absurd (Eq.trans (Eq.symm kc) q.1) (by decide)) q2985_z
    subst yq2985_z
    replace hm_z : rn _ _ _ _ [.int 0] _ _ _ := hm_z
    replace hm_z := rn_ifT (am_cur_of (i := (56, 3, .ifCond .eq 30, (47, 0, 0), 0)) (by decide +kernel)) (by decide) hm_z
    replace hm_z := rn_aload_n (am_cur_of (i := (86, 1, .aload_n 0, (0, 0, 0), 0)) (by decide +kernel)) g0m hm_z
    replace hm_z := rn_callV (M' := am_m176) (o := 164) (ar := []) (rest := []) (L := lv_args 0 [.ref 164]) (am_cur_of (i := (87, 3, .invokevirtual 312, (176, 1735, 3), 0)) (by decide +kernel)) rfl rfl rfl rfl hm_z
    obtain ⟨r2986_z, h2987_z, q2988_z, hm_z⟩ := hm_z
    obtain ⟨rfl, yq2988_z⟩ := rp_nm (c := 4) (d := 45) kc kd q2988_z
    replace yq2988_z := yq2988_z.symm
    subst yq2988_z
    rw [show rp_nmf 4 45 = (-1) from by unfold rp_nmf; rw [if_neg (by decide)]] at hm_z
    replace hm_z : rn _ _ _ _ [.int (-1)] _ _ _ := hm_z
    replace hm_z := rn_istore_n (am_cur_of (i := (90, 1, .istore_n 1, (0, 0, 0), 0)) (by decide +kernel)) hm_z
    obtain ⟨_, s2989_z, s2990_z, g1m, hm_z⟩ := hm_z
    replace g0m := s2989_z 0 _ (by decide) rfl g0m
    clear s2989_z s2990_z
    replace hm_z := rn_iload_n (am_cur_of (i := (91, 1, .iload_n 1, (0, 0, 0), 0)) (by decide +kernel)) g1m hm_z
    replace hm_z := rn_ifF (am_cur_of (i := (92, 3, .ifCond .ge 17, (60, 0, 0), 0)) (by decide +kernel)) (by decide) hm_z
    replace hm_z := rn_aload_n (am_cur_of (i := (95, 1, .aload_n 0, (0, 0, 0), 0)) (by decide +kernel)) g0m hm_z
    replace hm_z := rn_getI (v := 4) (am_cur_of (i := (96, 3, .getfield 157, (12, 8, 1392), 0)) (by decide +kernel)) (by decide +kernel) kc hm_z
    replace hm_z := rn_iconst (w := 3) (am_cur_of (i := (99, 1, .iconst 3, (0, 0, 0), 0)) (by decide +kernel)) (by decide) hm_z
    replace hm_z := rn_cmpF (am_cur_of (i := (100, 3, .if_icmp .eq 9, (60, 0, 0), 0)) (by decide +kernel)) (by decide) hm_z
    replace hm_z := rn_aload_n (am_cur_of (i := (103, 1, .aload_n 0, (0, 0, 0), 0)) (by decide +kernel)) g0m hm_z
    replace hm_z := rn_iconst (w := 1) (am_cur_of (i := (104, 1, .iconst 1, (0, 0, 0), 0)) (by decide +kernel)) (by decide) hm_z
    replace hm_z := rn_callV (M' := am_m158) (o := 164) (ar := [.int 1]) (rest := []) (L := lv_args 0 [.ref 164, .int 1]) (am_cur_of (i := (105, 3, .invokevirtual 181, (158, 1665, 3), 0)) (by decide +kernel)) rfl rfl rfl rfl hm_z
    obtain ⟨r2991_z, h2992_z, q2993_z, hm_z⟩ := hm_z
    obtain ⟨rfl, yq2993_z⟩ := rp_wrong q2993_z
    subst yq2993_z
    replace hm_z : rn _ _ _ _ [.int 0] _ _ _ := hm_z
    replace hm_z := rn_iret (am_cur_of (i := (108, 1, .ireturn, (0, 0, 0), 0)) (by decide +kernel)) hm_z
    obtain ⟨e2994_z, e2995_z⟩ := hm_z
    subst e2994_z e2995_z
    exact (Or.inr ⟨rfl, 1, by decide, K.1, K.2, rfl, R6⟩)
  · have g0_z : am_get (lv_args 0 [.ref 44, .int 0]) 0 = some (.ref 44) := rfl
    have g1_z : am_get (lv_args 0 [.ref 44, .int 0]) 1 = some (.int 0) := rfl
    have g0m : am_get (lv_args 0 [.ref 164]) 0 = some (.ref 164) := rfl
    have Rk := R
    have Zk := Z
    obtain ⟨⟨c1_z, c2_z, c3_z, c4_z, c5_z, c6_z, c7_z, c8_z⟩, ⟨m2_z, m3_z, m4_z, m5_z, m6_z, m7_z, m8_z⟩, R3, R4, R5, R6, R7, R8, R9, R10⟩ := (R : rq T S x p 23 h g)
    obtain ⟨np, op, z1_z, z2_z, z3_z, z4_z, z5_z, z6_z, z7_z, z8_z, z9_z, z10_z⟩ := (Z : rs 23 h g)
    obtain ⟨nk1_z, nk2_z, nk3_z⟩ := A.2.2.2.2.2.1
    replace nk1_z : rg_v h 32 0 = rg_v g 164 44 := nk1_z
    replace nk2_z : 0 ≤ (rg_v h 32 0).toInt := nk2_z
    replace nk3_z : (rg_v h 32 0).toInt ≤ 64 := nk3_z
    replace z8_z : np.toInt ≤ (rg_v h 32 0).toInt + op.toInt := z8_z
    obtain ⟨kn, ekn⟩ : ∃ v, rg_v h 32 0 = v := ⟨_, rfl⟩
    rw [ekn] at nk1_z nk2_z nk3_z z8_z
    have e9_z := rt_c1 (x := kn) (by omega) (by omega)
    replace hc_z := rn_aload_n (am_cur_of (i := (0, 1, .aload_n 0, (0, 0, 0), 0)) (by decide +kernel)) g0_z hc_z
    replace hc_z := rn_getI (v := 6) (am_cur_of (i := (1, 3, .getfield 60, (4, 10, 419), 0)) (by decide +kernel)) (by decide +kernel) ka hc_z
    replace hc_z := rn_bipush (w := 6) (am_cur_of (i := (4, 2, .bipush 6, (0, 0, 0), 0)) (by decide +kernel)) (by decide) hc_z
    replace hc_z := rn_cmpF (am_cur_of (i := (6, 3, .if_icmp .ne 30, (19, 0, 0), 0)) (by decide +kernel)) (by decide) hc_z
    replace hc_z := rn_aload_n (am_cur_of (i := (9, 1, .aload_n 0, (0, 0, 0), 0)) (by decide +kernel)) g0_z hc_z
    replace hc_z := rn_getI (v := 14) (am_cur_of (i := (10, 3, .getfield 91, (4, 11, 420), 0)) (by decide +kernel)) (by decide +kernel) kb hc_z
    replace hc_z := rn_iconst (w := 5) (am_cur_of (i := (13, 1, .iconst 5, (0, 0, 0), 0)) (by decide +kernel)) (by decide) hc_z
    replace hc_z := rn_cmpT (am_cur_of (i := (14, 3, .if_icmp .ne 22, (19, 0, 0), 0)) (by decide +kernel)) (by decide) hc_z
    replace hc_z := rn_aload_n (am_cur_of (i := (36, 1, .aload_n 0, (0, 0, 0), 0)) (by decide +kernel)) g0_z hc_z
    replace hc_z := rn_bipush (w := 40) (am_cur_of (i := (37, 2, .bipush 40, (0, 0, 0), 0)) (by decide +kernel)) (by decide) hc_z
    replace hc_z := rn_callV (M' := am_m45) (o := 44) (ar := [.int 40]) (rest := []) (L := lv_args 0 [.ref 44, .int 40]) (am_cur_of (i := (39, 3, .invokevirtual 105, (45, 834, 3), 0)) (by decide +kernel)) rfl rfl rfl rfl hc_z
    obtain ⟨r2996_z, h2997_z, q2998_z, hc_z⟩ := hc_z
    obtain ⟨rfl, yq2998_z⟩ := rp_mkN (fun q => absurd (Eq.trans (Eq.symm ka) q.1) (by decide)) q2998_z
    subst yq2998_z
    replace hc_z : rn _ _ _ _ [.int 0] _ _ _ := hc_z
    replace hc_z := rn_ifT (am_cur_of (i := (42, 3, .ifCond .eq 38, (43, 0, 0), 0)) (by decide +kernel)) (by decide) hc_z
    replace hc_z := rn_aload_n (am_cur_of (i := (80, 1, .aload_n 0, (0, 0, 0), 0)) (by decide +kernel)) g0_z hc_z
    replace hc_z := rn_getI (v := 6) (am_cur_of (i := (81, 3, .getfield 60, (4, 10, 419), 0)) (by decide +kernel)) (by decide +kernel) ka hc_z
    replace hc_z := rn_iconst (w := 4) (am_cur_of (i := (84, 1, .iconst 4, (0, 0, 0), 0)) (by decide +kernel)) (by decide) hc_z
    replace hc_z := rn_cmpT (am_cur_of (i := (85, 3, .if_icmp .ne 40, (64, 0, 0), 0)) (by decide +kernel)) (by decide) hc_z
    replace hc_z := rn_aload_n (am_cur_of (i := (125, 1, .aload_n 0, (0, 0, 0), 0)) (by decide +kernel)) g0_z hc_z
    replace hc_z := rn_getI (v := 6) (am_cur_of (i := (126, 3, .getfield 60, (4, 10, 419), 0)) (by decide +kernel)) (by decide +kernel) ka hc_z
    replace hc_z := rn_iconst (w := 2) (am_cur_of (i := (129, 1, .iconst 2, (0, 0, 0), 0)) (by decide +kernel)) (by decide) hc_z
    replace hc_z := rn_cmpT (am_cur_of (i := (130, 3, .if_icmp .ne 37, (84, 0, 0), 0)) (by decide +kernel)) (by decide) hc_z
    replace hc_z := rn_aload_n (am_cur_of (i := (167, 1, .aload_n 0, (0, 0, 0), 0)) (by decide +kernel)) g0_z hc_z
    replace hc_z := rn_iconst (w := 1) (am_cur_of (i := (168, 1, .iconst 1, (0, 0, 0), 0)) (by decide +kernel)) (by decide) hc_z
    replace hc_z := rn_callV (M' := am_m29) (o := 44) (ar := [.int 1]) (rest := []) (L := lv_args 0 [.ref 44, .int 1]) (am_cur_of (i := (169, 3, .invokevirtual 108, (29, 769, 3), 0)) (by decide +kernel)) rfl rfl rfl rfl hc_z
    obtain ⟨r2999_z, h3000_z, q3001_z, hc_z⟩ := hc_z
    obtain ⟨rfl, yq3001_z⟩ := rp_fail R4 q3001_z
    subst yq3001_z
    replace hc_z : rn _ _ _ _ [] _ _ _ := hc_z
    have K := rs_stick (w := 1) (q := p) (a := 51) (by decide) (by decide) rfl (by decide) rfl (show rg_v (am_up (am_up h 44 1 (.int 1)) 44 2 (.int (rg_v h 44 9))) 44 2 = p from R5) hc_z
    replace hm_z := rn_aload_n (am_cur_of (i := (0, 1, .aload_n 0, (0, 0, 0), 0)) (by decide +kernel)) g0m hm_z
    replace hm_z := rn_bipush (w := 40) (am_cur_of (i := (1, 2, .bipush 40, (0, 0, 0), 0)) (by decide +kernel)) (by decide) hm_z
    replace hm_z := rn_callV (M' := am_m171) (o := 164) (ar := [.int 40]) (rest := []) (L := lv_args 0 [.ref 164, .int 40]) (am_cur_of (i := (3, 3, .invokevirtual 194, (171, 1715, 3), 0)) (by decide +kernel)) rfl rfl rfl rfl hm_z
    obtain ⟨r3002_z, h3003_z, q3004_z, hm_z⟩ := hm_z
    obtain ⟨rfl, yq3004_z⟩ := rp_sgN (fun q => absurd (Eq.trans (Eq.symm kd) q.2) (by decide)) q3004_z
    subst yq3004_z
    replace hm_z : rn _ _ _ _ [.int 0] _ _ _ := hm_z
    replace hm_z := rn_ifT (am_cur_of (i := (6, 3, .ifCond .eq 44, (28, 0, 0), 0)) (by decide +kernel)) (by decide) hm_z
    replace hm_z := rn_aload_n (am_cur_of (i := (50, 1, .aload_n 0, (0, 0, 0), 0)) (by decide +kernel)) g0m hm_z
    replace hm_z := rn_bipush (w := 14) (am_cur_of (i := (51, 2, .bipush 14, (0, 0, 0), 0)) (by decide +kernel)) (by decide) hm_z
    replace hm_z := rn_callV (M' := am_m174) (o := 164) (ar := [.int 14]) (rest := []) (L := lv_args 0 [.ref 164, .int 14]) (am_cur_of (i := (53, 3, .invokevirtual 306, (174, 1727, 3), 0)) (by decide +kernel)) rfl rfl rfl rfl hm_z
    obtain ⟨r3005_z, h3006_z, q3007_z, hm_z⟩ := hm_z
    obtain ⟨rfl, yq3007_z⟩ := rp_kyN (fun q => absurd (Eq.trans (Eq.symm kc) q.1) (by decide)) q3007_z
    subst yq3007_z
    replace hm_z : rn _ _ _ _ [.int 0] _ _ _ := hm_z
    replace hm_z := rn_ifT (am_cur_of (i := (56, 3, .ifCond .eq 30, (47, 0, 0), 0)) (by decide +kernel)) (by decide) hm_z
    replace hm_z := rn_aload_n (am_cur_of (i := (86, 1, .aload_n 0, (0, 0, 0), 0)) (by decide +kernel)) g0m hm_z
    replace hm_z := rn_callV (M' := am_m176) (o := 164) (ar := []) (rest := []) (L := lv_args 0 [.ref 164]) (am_cur_of (i := (87, 3, .invokevirtual 312, (176, 1735, 3), 0)) (by decide +kernel)) rfl rfl rfl rfl hm_z
    obtain ⟨r3008_z, h3009_z, q3010_z, hm_z⟩ := hm_z
    obtain ⟨rfl, yq3010_z⟩ := rp_nm (c := 4) (d := 42) kc kd q3010_z
    replace yq3010_z := yq3010_z.symm
    subst yq3010_z
    rw [show rp_nmf 4 42 = (-1) from by unfold rp_nmf; rw [if_neg (by decide)]] at hm_z
    replace hm_z : rn _ _ _ _ [.int (-1)] _ _ _ := hm_z
    replace hm_z := rn_istore_n (am_cur_of (i := (90, 1, .istore_n 1, (0, 0, 0), 0)) (by decide +kernel)) hm_z
    obtain ⟨_, s3011_z, s3012_z, g1m, hm_z⟩ := hm_z
    replace g0m := s3011_z 0 _ (by decide) rfl g0m
    clear s3011_z s3012_z
    replace hm_z := rn_iload_n (am_cur_of (i := (91, 1, .iload_n 1, (0, 0, 0), 0)) (by decide +kernel)) g1m hm_z
    replace hm_z := rn_ifF (am_cur_of (i := (92, 3, .ifCond .ge 17, (60, 0, 0), 0)) (by decide +kernel)) (by decide) hm_z
    replace hm_z := rn_aload_n (am_cur_of (i := (95, 1, .aload_n 0, (0, 0, 0), 0)) (by decide +kernel)) g0m hm_z
    replace hm_z := rn_getI (v := 4) (am_cur_of (i := (96, 3, .getfield 157, (12, 8, 1392), 0)) (by decide +kernel)) (by decide +kernel) kc hm_z
    replace hm_z := rn_iconst (w := 3) (am_cur_of (i := (99, 1, .iconst 3, (0, 0, 0), 0)) (by decide +kernel)) (by decide) hm_z
    replace hm_z := rn_cmpF (am_cur_of (i := (100, 3, .if_icmp .eq 9, (60, 0, 0), 0)) (by decide +kernel)) (by decide) hm_z
    replace hm_z := rn_aload_n (am_cur_of (i := (103, 1, .aload_n 0, (0, 0, 0), 0)) (by decide +kernel)) g0m hm_z
    replace hm_z := rn_iconst (w := 1) (am_cur_of (i := (104, 1, .iconst 1, (0, 0, 0), 0)) (by decide +kernel)) (by decide) hm_z
    replace hm_z := rn_callV (M' := am_m158) (o := 164) (ar := [.int 1]) (rest := []) (L := lv_args 0 [.ref 164, .int 1]) (am_cur_of (i := (105, 3, .invokevirtual 181, (158, 1665, 3), 0)) (by decide +kernel)) rfl rfl rfl rfl hm_z
    obtain ⟨r3013_z, h3014_z, q3015_z, hm_z⟩ := hm_z
    obtain ⟨rfl, yq3015_z⟩ := rp_wrong q3015_z
    subst yq3015_z
    replace hm_z : rn _ _ _ _ [.int 0] _ _ _ := hm_z
    replace hm_z := rn_iret (am_cur_of (i := (108, 1, .ireturn, (0, 0, 0), 0)) (by decide +kernel)) hm_z
    obtain ⟨e3016_z, e3017_z⟩ := hm_z
    subst e3016_z e3017_z
    exact (Or.inr ⟨rfl, 1, by decide, K.1, K.2, rfl, R6⟩)
  · have g0_z : am_get (lv_args 0 [.ref 44, .int 0]) 0 = some (.ref 44) := rfl
    have g1_z : am_get (lv_args 0 [.ref 44, .int 0]) 1 = some (.int 0) := rfl
    have g0m : am_get (lv_args 0 [.ref 164]) 0 = some (.ref 164) := rfl
    have Rk := R
    have Zk := Z
    obtain ⟨⟨c1_z, c2_z, c3_z, c4_z, c5_z, c6_z, c7_z, c8_z⟩, ⟨m2_z, m3_z, m4_z, m5_z, m6_z, m7_z, m8_z⟩, R3, R4, R5, R6, R7, R8, R9, R10⟩ := (R : rq T S x p 23 h g)
    obtain ⟨np, op, z1_z, z2_z, z3_z, z4_z, z5_z, z6_z, z7_z, z8_z, z9_z, z10_z⟩ := (Z : rs 23 h g)
    obtain ⟨nk1_z, nk2_z, nk3_z⟩ := A.2.2.2.2.2.1
    replace nk1_z : rg_v h 32 0 = rg_v g 164 44 := nk1_z
    replace nk2_z : 0 ≤ (rg_v h 32 0).toInt := nk2_z
    replace nk3_z : (rg_v h 32 0).toInt ≤ 64 := nk3_z
    replace z8_z : np.toInt ≤ (rg_v h 32 0).toInt + op.toInt := z8_z
    obtain ⟨kn, ekn⟩ : ∃ v, rg_v h 32 0 = v := ⟨_, rfl⟩
    rw [ekn] at nk1_z nk2_z nk3_z z8_z
    have e9_z := rt_c1 (x := kn) (by omega) (by omega)
    replace hc_z := rn_aload_n (am_cur_of (i := (0, 1, .aload_n 0, (0, 0, 0), 0)) (by decide +kernel)) g0_z hc_z
    replace hc_z := rn_getI (v := 6) (am_cur_of (i := (1, 3, .getfield 60, (4, 10, 419), 0)) (by decide +kernel)) (by decide +kernel) ka hc_z
    replace hc_z := rn_bipush (w := 6) (am_cur_of (i := (4, 2, .bipush 6, (0, 0, 0), 0)) (by decide +kernel)) (by decide) hc_z
    replace hc_z := rn_cmpF (am_cur_of (i := (6, 3, .if_icmp .ne 30, (19, 0, 0), 0)) (by decide +kernel)) (by decide) hc_z
    replace hc_z := rn_aload_n (am_cur_of (i := (9, 1, .aload_n 0, (0, 0, 0), 0)) (by decide +kernel)) g0_z hc_z
    replace hc_z := rn_getI (v := 15) (am_cur_of (i := (10, 3, .getfield 91, (4, 11, 420), 0)) (by decide +kernel)) (by decide +kernel) kb hc_z
    replace hc_z := rn_iconst (w := 5) (am_cur_of (i := (13, 1, .iconst 5, (0, 0, 0), 0)) (by decide +kernel)) (by decide) hc_z
    replace hc_z := rn_cmpT (am_cur_of (i := (14, 3, .if_icmp .ne 22, (19, 0, 0), 0)) (by decide +kernel)) (by decide) hc_z
    replace hc_z := rn_aload_n (am_cur_of (i := (36, 1, .aload_n 0, (0, 0, 0), 0)) (by decide +kernel)) g0_z hc_z
    replace hc_z := rn_bipush (w := 40) (am_cur_of (i := (37, 2, .bipush 40, (0, 0, 0), 0)) (by decide +kernel)) (by decide) hc_z
    replace hc_z := rn_callV (M' := am_m45) (o := 44) (ar := [.int 40]) (rest := []) (L := lv_args 0 [.ref 44, .int 40]) (am_cur_of (i := (39, 3, .invokevirtual 105, (45, 834, 3), 0)) (by decide +kernel)) rfl rfl rfl rfl hc_z
    obtain ⟨r3018_z, h3019_z, q3020_z, hc_z⟩ := hc_z
    obtain ⟨rfl, yq3020_z⟩ := rp_mkN (fun q => absurd (Eq.trans (Eq.symm ka) q.1) (by decide)) q3020_z
    subst yq3020_z
    replace hc_z : rn _ _ _ _ [.int 0] _ _ _ := hc_z
    replace hc_z := rn_ifT (am_cur_of (i := (42, 3, .ifCond .eq 38, (43, 0, 0), 0)) (by decide +kernel)) (by decide) hc_z
    replace hc_z := rn_aload_n (am_cur_of (i := (80, 1, .aload_n 0, (0, 0, 0), 0)) (by decide +kernel)) g0_z hc_z
    replace hc_z := rn_getI (v := 6) (am_cur_of (i := (81, 3, .getfield 60, (4, 10, 419), 0)) (by decide +kernel)) (by decide +kernel) ka hc_z
    replace hc_z := rn_iconst (w := 4) (am_cur_of (i := (84, 1, .iconst 4, (0, 0, 0), 0)) (by decide +kernel)) (by decide) hc_z
    replace hc_z := rn_cmpT (am_cur_of (i := (85, 3, .if_icmp .ne 40, (64, 0, 0), 0)) (by decide +kernel)) (by decide) hc_z
    replace hc_z := rn_aload_n (am_cur_of (i := (125, 1, .aload_n 0, (0, 0, 0), 0)) (by decide +kernel)) g0_z hc_z
    replace hc_z := rn_getI (v := 6) (am_cur_of (i := (126, 3, .getfield 60, (4, 10, 419), 0)) (by decide +kernel)) (by decide +kernel) ka hc_z
    replace hc_z := rn_iconst (w := 2) (am_cur_of (i := (129, 1, .iconst 2, (0, 0, 0), 0)) (by decide +kernel)) (by decide) hc_z
    replace hc_z := rn_cmpT (am_cur_of (i := (130, 3, .if_icmp .ne 37, (84, 0, 0), 0)) (by decide +kernel)) (by decide) hc_z
    replace hc_z := rn_aload_n (am_cur_of (i := (167, 1, .aload_n 0, (0, 0, 0), 0)) (by decide +kernel)) g0_z hc_z
    replace hc_z := rn_iconst (w := 1) (am_cur_of (i := (168, 1, .iconst 1, (0, 0, 0), 0)) (by decide +kernel)) (by decide) hc_z
    replace hc_z := rn_callV (M' := am_m29) (o := 44) (ar := [.int 1]) (rest := []) (L := lv_args 0 [.ref 44, .int 1]) (am_cur_of (i := (169, 3, .invokevirtual 108, (29, 769, 3), 0)) (by decide +kernel)) rfl rfl rfl rfl hc_z
    obtain ⟨r3021_z, h3022_z, q3023_z, hc_z⟩ := hc_z
    obtain ⟨rfl, yq3023_z⟩ := rp_fail R4 q3023_z
    subst yq3023_z
    replace hc_z : rn _ _ _ _ [] _ _ _ := hc_z
    have K := rs_stick (w := 1) (q := p) (a := 51) (by decide) (by decide) rfl (by decide) rfl (show rg_v (am_up (am_up h 44 1 (.int 1)) 44 2 (.int (rg_v h 44 9))) 44 2 = p from R5) hc_z
    replace hm_z := rn_aload_n (am_cur_of (i := (0, 1, .aload_n 0, (0, 0, 0), 0)) (by decide +kernel)) g0m hm_z
    replace hm_z := rn_bipush (w := 40) (am_cur_of (i := (1, 2, .bipush 40, (0, 0, 0), 0)) (by decide +kernel)) (by decide) hm_z
    replace hm_z := rn_callV (M' := am_m171) (o := 164) (ar := [.int 40]) (rest := []) (L := lv_args 0 [.ref 164, .int 40]) (am_cur_of (i := (3, 3, .invokevirtual 194, (171, 1715, 3), 0)) (by decide +kernel)) rfl rfl rfl rfl hm_z
    obtain ⟨r3024_z, h3025_z, q3026_z, hm_z⟩ := hm_z
    obtain ⟨rfl, yq3026_z⟩ := rp_sgN (fun q => absurd (Eq.trans (Eq.symm kd) q.2) (by decide)) q3026_z
    subst yq3026_z
    replace hm_z : rn _ _ _ _ [.int 0] _ _ _ := hm_z
    replace hm_z := rn_ifT (am_cur_of (i := (6, 3, .ifCond .eq 44, (28, 0, 0), 0)) (by decide +kernel)) (by decide) hm_z
    replace hm_z := rn_aload_n (am_cur_of (i := (50, 1, .aload_n 0, (0, 0, 0), 0)) (by decide +kernel)) g0m hm_z
    replace hm_z := rn_bipush (w := 14) (am_cur_of (i := (51, 2, .bipush 14, (0, 0, 0), 0)) (by decide +kernel)) (by decide) hm_z
    replace hm_z := rn_callV (M' := am_m174) (o := 164) (ar := [.int 14]) (rest := []) (L := lv_args 0 [.ref 164, .int 14]) (am_cur_of (i := (53, 3, .invokevirtual 306, (174, 1727, 3), 0)) (by decide +kernel)) rfl rfl rfl rfl hm_z
    obtain ⟨r3027_z, h3028_z, q3029_z, hm_z⟩ := hm_z
    obtain ⟨rfl, yq3029_z⟩ := rp_kyN (fun q => absurd (Eq.trans (Eq.symm kc) q.1) (by decide)) q3029_z
    subst yq3029_z
    replace hm_z : rn _ _ _ _ [.int 0] _ _ _ := hm_z
    replace hm_z := rn_ifT (am_cur_of (i := (56, 3, .ifCond .eq 30, (47, 0, 0), 0)) (by decide +kernel)) (by decide) hm_z
    replace hm_z := rn_aload_n (am_cur_of (i := (86, 1, .aload_n 0, (0, 0, 0), 0)) (by decide +kernel)) g0m hm_z
    replace hm_z := rn_callV (M' := am_m176) (o := 164) (ar := []) (rest := []) (L := lv_args 0 [.ref 164]) (am_cur_of (i := (87, 3, .invokevirtual 312, (176, 1735, 3), 0)) (by decide +kernel)) rfl rfl rfl rfl hm_z
    obtain ⟨r3030_z, h3031_z, q3032_z, hm_z⟩ := hm_z
    obtain ⟨rfl, yq3032_z⟩ := rp_nm (c := 4) (d := 47) kc kd q3032_z
    replace yq3032_z := yq3032_z.symm
    subst yq3032_z
    rw [show rp_nmf 4 47 = (-1) from by unfold rp_nmf; rw [if_neg (by decide)]] at hm_z
    replace hm_z : rn _ _ _ _ [.int (-1)] _ _ _ := hm_z
    replace hm_z := rn_istore_n (am_cur_of (i := (90, 1, .istore_n 1, (0, 0, 0), 0)) (by decide +kernel)) hm_z
    obtain ⟨_, s3033_z, s3034_z, g1m, hm_z⟩ := hm_z
    replace g0m := s3033_z 0 _ (by decide) rfl g0m
    clear s3033_z s3034_z
    replace hm_z := rn_iload_n (am_cur_of (i := (91, 1, .iload_n 1, (0, 0, 0), 0)) (by decide +kernel)) g1m hm_z
    replace hm_z := rn_ifF (am_cur_of (i := (92, 3, .ifCond .ge 17, (60, 0, 0), 0)) (by decide +kernel)) (by decide) hm_z
    replace hm_z := rn_aload_n (am_cur_of (i := (95, 1, .aload_n 0, (0, 0, 0), 0)) (by decide +kernel)) g0m hm_z
    replace hm_z := rn_getI (v := 4) (am_cur_of (i := (96, 3, .getfield 157, (12, 8, 1392), 0)) (by decide +kernel)) (by decide +kernel) kc hm_z
    replace hm_z := rn_iconst (w := 3) (am_cur_of (i := (99, 1, .iconst 3, (0, 0, 0), 0)) (by decide +kernel)) (by decide) hm_z
    replace hm_z := rn_cmpF (am_cur_of (i := (100, 3, .if_icmp .eq 9, (60, 0, 0), 0)) (by decide +kernel)) (by decide) hm_z
    replace hm_z := rn_aload_n (am_cur_of (i := (103, 1, .aload_n 0, (0, 0, 0), 0)) (by decide +kernel)) g0m hm_z
    replace hm_z := rn_iconst (w := 1) (am_cur_of (i := (104, 1, .iconst 1, (0, 0, 0), 0)) (by decide +kernel)) (by decide) hm_z
    replace hm_z := rn_callV (M' := am_m158) (o := 164) (ar := [.int 1]) (rest := []) (L := lv_args 0 [.ref 164, .int 1]) (am_cur_of (i := (105, 3, .invokevirtual 181, (158, 1665, 3), 0)) (by decide +kernel)) rfl rfl rfl rfl hm_z
    obtain ⟨r3035_z, h3036_z, q3037_z, hm_z⟩ := hm_z
    obtain ⟨rfl, yq3037_z⟩ := rp_wrong q3037_z
    subst yq3037_z
    replace hm_z : rn _ _ _ _ [.int 0] _ _ _ := hm_z
    replace hm_z := rn_iret (am_cur_of (i := (108, 1, .ireturn, (0, 0, 0), 0)) (by decide +kernel)) hm_z
    obtain ⟨e3038_z, e3039_z⟩ := hm_z
    subst e3038_z e3039_z
    exact (Or.inr ⟨rfl, 1, by decide, K.1, K.2, rfl, R6⟩)
