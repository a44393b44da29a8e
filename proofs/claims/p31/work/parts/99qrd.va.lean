/-! ===== readValue against leafRead, 23, 1 (wip/r/gen99qr.py) ===== -/
theorem rv_val231 {T : Nat → Int32} {S x p : Int32} {n n' : Nat} {h h' g g' : am_H} {r r' : Option Value} (R : rq T S x p 23 h g) (A : rp 23 h g) (B : rp_t h g) (Z : rs 23 h g) (w1_z : rg_v g 164 45 = 1) (w2_z : rg_v g 164 46 = 0) (hc_z : rn n am_m51 0 (lv_args 0 [.ref 44, .int 1]) [] h r h') (hm_z : rn n' am_m172 0 (lv_args 0 [.ref 164]) [] g r' g') : rv_Q T S x p 23 h' g' r r' := by
  have z8_z : (8 : Int32).toInt = 8 := by decide
  have z11_z : (11 : Int32).toInt = 11 := by decide
  have z9999_z : (9999 : Int32).toInt = 9999 := by decide
  rcases tk_cases R.2.2.2.2.2.2.2.2.2 with ⟨ka, kc⟩ | ⟨ka, kc⟩ | ⟨ka, kc, kd⟩ | ⟨ka, kc, kb0_z, kb9_z, kd⟩ | ⟨ka, kc, kb, kd⟩ | ⟨ka, kc, kb, kd⟩ | ⟨ka, kc, kb, kd⟩ | ⟨ka, kc, kb, kd⟩ | ⟨ka, kc, kb, kd⟩ | ⟨ka, kc, kb, kd⟩ | ⟨ka, kc, kd⟩ | ⟨ka, kc, kb0_z, kd0_z, kbd⟩ | ⟨ka, kc, kb, kd⟩ | ⟨ka, kc, kb, kd⟩ | ⟨ka, kc, kb, kd⟩ | ⟨ka, kc, kb, kd⟩ | ⟨ka, kc, kb, kd⟩ | ⟨ka, kc, kb, kd⟩ | ⟨ka, kc, kb, kd⟩ | ⟨ka, kc, kb, kd⟩ | ⟨ka, kc, kb, kd⟩ | ⟨ka, kc, kb, kd⟩ | ⟨ka, kc, kb, kd⟩ | ⟨ka, kc, kb, kd⟩ | ⟨ka, kc, kb, kd⟩ | ⟨ka, kc, kb, kd⟩ | ⟨ka, kc, kb, kd⟩ | ⟨ka, kc, kb, kd⟩
  · have g0_z : am_get (lv_args 0 [.ref 44, .int 1]) 0 = some (.ref 44) := rfl
    have g1_z : am_get (lv_args 0 [.ref 44, .int 1]) 1 = some (.int 1) := rfl
    have g0m : am_get (lv_args 0 [.ref 164]) 0 = some (.ref 164) := rfl
    have Rk := R
    have Zk := Z
    obtain ⟨⟨c1_z, c2_z, c3_z, c4_z, c5_z, c6_z, c7_z, c8_z⟩, ⟨m2_z, m3_z, m4_z, m5_z, m6_z, m7_z, m8_z⟩, R3, R4, R5, R6, R7, R8, R9, R10⟩ := (R : rq T S x p 23 h g)
    obtain ⟨np, op, z1_z, z2_z, z3_z, z4_z, z5_z, z6_z, z7_z, z8_z, z9_z, z10_z⟩ := (Z : rs 23 h g)
    obtain ⟨nk1_z, nk2_z, nk3_z⟩ := A.2.2.2.2.2.1
    replace nk1_z : rg_v h 32 0 = rg_v g 164 44 := nk1_z
    replace nk2_z : 0 ≤ (rg_v h 32 0).toInt := nk2_z
    replace nk3_z : (rg_v h 32 0).toInt ≤ 64 := nk3_z
    replace z8_z : np.toInt ≤ (rg_v h 32 0).toInt + op.toInt := z8_z
    obtain ⟨kn, ekn⟩ : ∃ v, rg_v h 32 0 = v := ⟨_, rfl⟩
    rw [ekn] at nk1_z nk2_z nk3_z z8_z
    have e9_z := rt_c1 (x := kn) (by omega) (by omega)
    replace hc_z := rn_aload_n (am_cur_of (i := (0, 1, .aload_n 0, (0, 0, 0), 0)) (by decide +kernel)) g0_z hc_z
    replace hc_z := rn_getI (v := 0) (am_cur_of (i := (1, 3, .getfield 60, (4, 10, 419), 0)) (by decide +kernel)) (by decide +kernel) ka hc_z
    replace hc_z := rn_bipush (w := 6) (am_cur_of (i := (4, 2, .bipush 6, (0, 0, 0), 0)) (by decide +kernel)) (by decide) hc_z
    replace hc_z := rn_cmpT (am_cur_of (i := (6, 3, .if_icmp .ne 30, (19, 0, 0), 0)) (by decide +kernel)) (by decide) hc_z
    replace hc_z := rn_aload_n (am_cur_of (i := (36, 1, .aload_n 0, (0, 0, 0), 0)) (by decide +kernel)) g0_z hc_z
    replace hc_z := rn_bipush (w := 40) (am_cur_of (i := (37, 2, .bipush 40, (0, 0, 0), 0)) (by decide +kernel)) (by decide) hc_z
    replace hc_z := rn_callV (M' := am_m45) (o := 44) (ar := [.int 40]) (rest := []) (L := lv_args 0 [.ref 44, .int 40]) (am_cur_of (i := (39, 3, .invokevirtual 105, (45, 834, 3), 0)) (by decide +kernel)) rfl rfl rfl rfl hc_z
    obtain ⟨r3040_z, h3041_z, q3042_z, hc_z⟩ := hc_z
    obtain ⟨rfl, yq3042_z⟩ := rp_mkN (fun q => absurd (Eq.trans (Eq.symm ka) q.1) (by decide)) q3042_z
    subst yq3042_z
    replace hc_z : rn _ _ _ _ [.int 0] _ _ _ := hc_z
    replace hc_z := rn_ifT (am_cur_of (i := (42, 3, .ifCond .eq 38, (43, 0, 0), 0)) (by decide +kernel)) (by decide) hc_z
    replace hc_z := rn_aload_n (am_cur_of (i := (80, 1, .aload_n 0, (0, 0, 0), 0)) (by decide +kernel)) g0_z hc_z
    replace hc_z := rn_getI (v := 0) (am_cur_of (i := (81, 3, .getfield 60, (4, 10, 419), 0)) (by decide +kernel)) (by decide +kernel) ka hc_z
    replace hc_z := rn_iconst (w := 4) (am_cur_of (i := (84, 1, .iconst 4, (0, 0, 0), 0)) (by decide +kernel)) (by decide) hc_z
    replace hc_z := rn_cmpT (am_cur_of (i := (85, 3, .if_icmp .ne 40, (64, 0, 0), 0)) (by decide +kernel)) (by decide) hc_z
    replace hc_z := rn_aload_n (am_cur_of (i := (125, 1, .aload_n 0, (0, 0, 0), 0)) (by decide +kernel)) g0_z hc_z
    replace hc_z := rn_getI (v := 0) (am_cur_of (i := (126, 3, .getfield 60, (4, 10, 419), 0)) (by decide +kernel)) (by decide +kernel) ka hc_z
    replace hc_z := rn_iconst (w := 2) (am_cur_of (i := (129, 1, .iconst 2, (0, 0, 0), 0)) (by decide +kernel)) (by decide) hc_z
    replace hc_z := rn_cmpT (am_cur_of (i := (130, 3, .if_icmp .ne 37, (84, 0, 0), 0)) (by decide +kernel)) (by decide) hc_z
    replace hc_z := rn_aload_n (am_cur_of (i := (167, 1, .aload_n 0, (0, 0, 0), 0)) (by decide +kernel)) g0_z hc_z
    replace hc_z := rn_iconst (w := 1) (am_cur_of (i := (168, 1, .iconst 1, (0, 0, 0), 0)) (by decide +kernel)) (by decide) hc_z
    replace hc_z := rn_callV (M' := am_m29) (o := 44) (ar := [.int 1]) (rest := []) (L := lv_args 0 [.ref 44, .int 1]) (am_cur_of (i := (169, 3, .invokevirtual 108, (29, 769, 3), 0)) (by decide +kernel)) rfl rfl rfl rfl hc_z
    obtain ⟨r3043_z, h3044_z, q3045_z, hc_z⟩ := hc_z
    obtain ⟨rfl, yq3045_z⟩ := rp_fail R4 q3045_z
    subst yq3045_z
    replace hc_z : rn _ _ _ _ [] _ _ _ := hc_z
    have K := rs_stick (w := 1) (q := p) (a := 51) (by decide) (by decide) rfl (by decide) rfl (show rg_v (am_up (am_up h 44 1 (.int 1)) 44 2 (.int (rg_v h 44 9))) 44 2 = p from R5) hc_z
    replace hm_z := rn_aload_n (am_cur_of (i := (0, 1, .aload_n 0, (0, 0, 0), 0)) (by decide +kernel)) g0m hm_z
    replace hm_z := rn_bipush (w := 40) (am_cur_of (i := (1, 2, .bipush 40, (0, 0, 0), 0)) (by decide +kernel)) (by decide) hm_z
    replace hm_z := rn_callV (M' := am_m171) (o := 164) (ar := [.int 40]) (rest := []) (L := lv_args 0 [.ref 164, .int 40]) (am_cur_of (i := (3, 3, .invokevirtual 194, (171, 1715, 3), 0)) (by decide +kernel)) rfl rfl rfl rfl hm_z
    obtain ⟨r3046_z, h3047_z, q3048_z, hm_z⟩ := hm_z
    obtain ⟨rfl, yq3048_z⟩ := rp_sgN (fun q => absurd (Eq.trans (Eq.symm kc) q.1) (by decide)) q3048_z
    subst yq3048_z
    replace hm_z : rn _ _ _ _ [.int 0] _ _ _ := hm_z
    replace hm_z := rn_ifT (am_cur_of (i := (6, 3, .ifCond .eq 44, (28, 0, 0), 0)) (by decide +kernel)) (by decide) hm_z
    replace hm_z := rn_aload_n (am_cur_of (i := (50, 1, .aload_n 0, (0, 0, 0), 0)) (by decide +kernel)) g0m hm_z
    replace hm_z := rn_bipush (w := 14) (am_cur_of (i := (51, 2, .bipush 14, (0, 0, 0), 0)) (by decide +kernel)) (by decide) hm_z
    replace hm_z := rn_callV (M' := am_m174) (o := 164) (ar := [.int 14]) (rest := []) (L := lv_args 0 [.ref 164, .int 14]) (am_cur_of (i := (53, 3, .invokevirtual 306, (174, 1727, 3), 0)) (by decide +kernel)) rfl rfl rfl rfl hm_z
    obtain ⟨r3049_z, h3050_z, q3051_z, hm_z⟩ := hm_z
    obtain ⟨rfl, yq3051_z⟩ := rp_kyN (fun q => absurd (Eq.trans (Eq.symm kc) q.1) (by decide)) q3051_z
    subst yq3051_z
    replace hm_z : rn _ _ _ _ [.int 0] _ _ _ := hm_z
    replace hm_z := rn_ifT (am_cur_of (i := (56, 3, .ifCond .eq 30, (47, 0, 0), 0)) (by decide +kernel)) (by decide) hm_z
    replace hm_z := rn_aload_n (am_cur_of (i := (86, 1, .aload_n 0, (0, 0, 0), 0)) (by decide +kernel)) g0m hm_z
    replace hm_z := rn_callV (M' := am_m176) (o := 164) (ar := []) (rest := []) (L := lv_args 0 [.ref 164]) (am_cur_of (i := (87, 3, .invokevirtual 312, (176, 1735, 3), 0)) (by decide +kernel)) rfl rfl rfl rfl hm_z
    obtain ⟨r3052_z, h3053_z, q3054_z, hm_z⟩ := hm_z
    obtain ⟨rfl, yq3054_z⟩ := rp_nm (c := 0) (d := rg_v g 164 9) kc rfl q3054_z
    replace yq3054_z := yq3054_z.symm
    subst yq3054_z
    rw [show rp_nmf 0 (rg_v g 164 9) = (-1) from by unfold rp_nmf; rw [if_neg (by decide)]] at hm_z
    replace hm_z : rn _ _ _ _ [.int (-1)] _ _ _ := hm_z
    replace hm_z := rn_istore_n (am_cur_of (i := (90, 1, .istore_n 1, (0, 0, 0), 0)) (by decide +kernel)) hm_z
    obtain ⟨_, s3055_z, s3056_z, g1m, hm_z⟩ := hm_z
    replace g0m := s3055_z 0 _ (by decide) rfl g0m
    clear s3055_z s3056_z
    replace hm_z := rn_iload_n (am_cur_of (i := (91, 1, .iload_n 1, (0, 0, 0), 0)) (by decide +kernel)) g1m hm_z
    replace hm_z := rn_ifF (am_cur_of (i := (92, 3, .ifCond .ge 17, (60, 0, 0), 0)) (by decide +kernel)) (by decide) hm_z
    replace hm_z := rn_aload_n (am_cur_of (i := (95, 1, .aload_n 0, (0, 0, 0), 0)) (by decide +kernel)) g0m hm_z
    replace hm_z := rn_getI (v := 0) (am_cur_of (i := (96, 3, .getfield 157, (12, 8, 1392), 0)) (by decide +kernel)) (by decide +kernel) kc hm_z
    replace hm_z := rn_iconst (w := 3) (am_cur_of (i := (99, 1, .iconst 3, (0, 0, 0), 0)) (by decide +kernel)) (by decide) hm_z
    replace hm_z := rn_cmpF (am_cur_of (i := (100, 3, .if_icmp .eq 9, (60, 0, 0), 0)) (by decide +kernel)) (by decide) hm_z
    replace hm_z := rn_aload_n (am_cur_of (i := (103, 1, .aload_n 0, (0, 0, 0), 0)) (by decide +kernel)) g0m hm_z
    replace hm_z := rn_iconst (w := 1) (am_cur_of (i := (104, 1, .iconst 1, (0, 0, 0), 0)) (by decide +kernel)) (by decide) hm_z
    replace hm_z := rn_callV (M' := am_m158) (o := 164) (ar := [.int 1]) (rest := []) (L := lv_args 0 [.ref 164, .int 1]) (am_cur_of (i := (105, 3, .invokevirtual 181, (158, 1665, 3), 0)) (by decide +kernel)) rfl rfl rfl rfl hm_z
    obtain ⟨r3057_z, h3058_z, q3059_z, hm_z⟩ := hm_z
    obtain ⟨rfl, yq3059_z⟩ := rp_wrong q3059_z
    subst yq3059_z
    replace hm_z : rn _ _ _ _ [.int 0] _ _ _ := hm_z
    replace hm_z := rn_iret (am_cur_of (i := (108, 1, .ireturn, (0, 0, 0), 0)) (by decide +kernel)) hm_z
    obtain ⟨e3060_z, e3061_z⟩ := hm_z
    subst e3060_z e3061_z
    exact (Or.inr ⟨rfl, 1, by decide, K.1, K.2, rfl, R6⟩)
  · have g0_z : am_get (lv_args 0 [.ref 44, .int 1]) 0 = some (.ref 44) := rfl
    have g1_z : am_get (lv_args 0 [.ref 44, .int 1]) 1 = some (.int 1) := rfl
    have g0m : am_get (lv_args 0 [.ref 164]) 0 = some (.ref 164) := rfl
    have Rk := R
    have Zk := Z
    obtain ⟨⟨c1_z, c2_z, c3_z, c4_z, c5_z, c6_z, c7_z, c8_z⟩, ⟨m2_z, m3_z, m4_z, m5_z, m6_z, m7_z, m8_z⟩, R3, R4, R5, R6, R7, R8, R9, R10⟩ := (R : rq T S x p 23 h g)
    obtain ⟨np, op, z1_z, z2_z, z3_z, z4_z, z5_z, z6_z, z7_z, z8_z, z9_z, z10_z⟩ := (Z : rs 23 h g)
    obtain ⟨nk1_z, nk2_z, nk3_z⟩ := A.2.2.2.2.2.1
    replace nk1_z : rg_v h 32 0 = rg_v g 164 44 := nk1_z
    replace nk2_z : 0 ≤ (rg_v h 32 0).toInt := nk2_z
    replace nk3_z : (rg_v h 32 0).toInt ≤ 64 := nk3_z
    replace z8_z : np.toInt ≤ (rg_v h 32 0).toInt + op.toInt := z8_z
    obtain ⟨kn, ekn⟩ : ∃ v, rg_v h 32 0 = v := ⟨_, rfl⟩
    rw [ekn] at nk1_z nk2_z nk3_z z8_z
    have e9_z := rt_c1 (x := kn) (by omega) (by omega)
    replace hc_z := rn_aload_n (am_cur_of (i := (0, 1, .aload_n 0, (0, 0, 0), 0)) (by decide +kernel)) g0_z hc_z
    replace hc_z := rn_getI (v := 1) (am_cur_of (i := (1, 3, .getfield 60, (4, 10, 419), 0)) (by decide +kernel)) (by decide +kernel) ka hc_z
    replace hc_z := rn_bipush (w := 6) (am_cur_of (i := (4, 2, .bipush 6, (0, 0, 0), 0)) (by decide +kernel)) (by decide) hc_z
    replace hc_z := rn_cmpT (am_cur_of (i := (6, 3, .if_icmp .ne 30, (19, 0, 0), 0)) (by decide +kernel)) (by decide) hc_z
    replace hc_z := rn_aload_n (am_cur_of (i := (36, 1, .aload_n 0, (0, 0, 0), 0)) (by decide +kernel)) g0_z hc_z
    replace hc_z := rn_bipush (w := 40) (am_cur_of (i := (37, 2, .bipush 40, (0, 0, 0), 0)) (by decide +kernel)) (by decide) hc_z
    replace hc_z := rn_callV (M' := am_m45) (o := 44) (ar := [.int 40]) (rest := []) (L := lv_args 0 [.ref 44, .int 40]) (am_cur_of (i := (39, 3, .invokevirtual 105, (45, 834, 3), 0)) (by decide +kernel)) rfl rfl rfl rfl hc_z
    obtain ⟨r3062_z, h3063_z, q3064_z, hc_z⟩ := hc_z
    obtain ⟨rfl, yq3064_z⟩ := rp_mkN (fun q => absurd (Eq.trans (Eq.symm ka) q.1) (by decide)) q3064_z
    subst yq3064_z
    replace hc_z : rn _ _ _ _ [.int 0] _ _ _ := hc_z
    replace hc_z := rn_ifT (am_cur_of (i := (42, 3, .ifCond .eq 38, (43, 0, 0), 0)) (by decide +kernel)) (by decide) hc_z
    replace hc_z := rn_aload_n (am_cur_of (i := (80, 1, .aload_n 0, (0, 0, 0), 0)) (by decide +kernel)) g0_z hc_z
    replace hc_z := rn_getI (v := 1) (am_cur_of (i := (81, 3, .getfield 60, (4, 10, 419), 0)) (by decide +kernel)) (by decide +kernel) ka hc_z
    replace hc_z := rn_iconst (w := 4) (am_cur_of (i := (84, 1, .iconst 4, (0, 0, 0), 0)) (by decide +kernel)) (by decide) hc_z
    replace hc_z := rn_cmpT (am_cur_of (i := (85, 3, .if_icmp .ne 40, (64, 0, 0), 0)) (by decide +kernel)) (by decide) hc_z
    replace hc_z := rn_aload_n (am_cur_of (i := (125, 1, .aload_n 0, (0, 0, 0), 0)) (by decide +kernel)) g0_z hc_z
    replace hc_z := rn_getI (v := 1) (am_cur_of (i := (126, 3, .getfield 60, (4, 10, 419), 0)) (by decide +kernel)) (by decide +kernel) ka hc_z
    replace hc_z := rn_iconst (w := 2) (am_cur_of (i := (129, 1, .iconst 2, (0, 0, 0), 0)) (by decide +kernel)) (by decide) hc_z
    replace hc_z := rn_cmpT (am_cur_of (i := (130, 3, .if_icmp .ne 37, (84, 0, 0), 0)) (by decide +kernel)) (by decide) hc_z
    replace hc_z := rn_aload_n (am_cur_of (i := (167, 1, .aload_n 0, (0, 0, 0), 0)) (by decide +kernel)) g0_z hc_z
    replace hc_z := rn_iconst (w := 1) (am_cur_of (i := (168, 1, .iconst 1, (0, 0, 0), 0)) (by decide +kernel)) (by decide) hc_z
    replace hc_z := rn_callV (M' := am_m29) (o := 44) (ar := [.int 1]) (rest := []) (L := lv_args 0 [.ref 44, .int 1]) (am_cur_of (i := (169, 3, .invokevirtual 108, (29, 769, 3), 0)) (by decide +kernel)) rfl rfl rfl rfl hc_z
    obtain ⟨r3065_z, h3066_z, q3067_z, hc_z⟩ := hc_z
    obtain ⟨rfl, yq3067_z⟩ := rp_fail R4 q3067_z
    subst yq3067_z
    replace hc_z : rn _ _ _ _ [] _ _ _ := hc_z
    have K := rs_stick (w := 1) (q := p) (a := 51) (by decide) (by decide) rfl (by decide) rfl (show rg_v (am_up (am_up h 44 1 (.int 1)) 44 2 (.int (rg_v h 44 9))) 44 2 = p from R5) hc_z
    replace hm_z := rn_aload_n (am_cur_of (i := (0, 1, .aload_n 0, (0, 0, 0), 0)) (by decide +kernel)) g0m hm_z
    replace hm_z := rn_bipush (w := 40) (am_cur_of (i := (1, 2, .bipush 40, (0, 0, 0), 0)) (by decide +kernel)) (by decide) hm_z
    replace hm_z := rn_callV (M' := am_m171) (o := 164) (ar := [.int 40]) (rest := []) (L := lv_args 0 [.ref 164, .int 40]) (am_cur_of (i := (3, 3, .invokevirtual 194, (171, 1715, 3), 0)) (by decide +kernel)) rfl rfl rfl rfl hm_z
    obtain ⟨r3068_z, h3069_z, q3070_z, hm_z⟩ := hm_z
    obtain ⟨rfl, yq3070_z⟩ := rp_sgN (fun q => absurd (Eq.trans (Eq.symm kc) q.1) (by decide)) q3070_z
    subst yq3070_z
    replace hm_z : rn _ _ _ _ [.int 0] _ _ _ := hm_z
    replace hm_z := rn_ifT (am_cur_of (i := (6, 3, .ifCond .eq 44, (28, 0, 0), 0)) (by decide +kernel)) (by decide) hm_z
    replace hm_z := rn_aload_n (am_cur_of (i := (50, 1, .aload_n 0, (0, 0, 0), 0)) (by decide +kernel)) g0m hm_z
    replace hm_z := rn_bipush (w := 14) (am_cur_of (i := (51, 2, .bipush 14, (0, 0, 0), 0)) (by decide +kernel)) (by decide) hm_z
    replace hm_z := rn_callV (M' := am_m174) (o := 164) (ar := [.int 14]) (rest := []) (L := lv_args 0 [.ref 164, .int 14]) (am_cur_of (i := (53, 3, .invokevirtual 306, (174, 1727, 3), 0)) (by decide +kernel)) rfl rfl rfl rfl hm_z
    obtain ⟨r3071_z, h3072_z, q3073_z, hm_z⟩ := hm_z
    obtain ⟨rfl, yq3073_z⟩ := rp_kyN (fun q => absurd (Eq.trans (Eq.symm kc) q.1) (by decide)) q3073_z
    subst yq3073_z
    replace hm_z : rn _ _ _ _ [.int 0] _ _ _ := hm_z
    replace hm_z := rn_ifT (am_cur_of (i := (56, 3, .ifCond .eq 30, (47, 0, 0), 0)) (by decide +kernel)) (by decide) hm_z
    replace hm_z := rn_aload_n (am_cur_of (i := (86, 1, .aload_n 0, (0, 0, 0), 0)) (by decide +kernel)) g0m hm_z
    replace hm_z := rn_callV (M' := am_m176) (o := 164) (ar := []) (rest := []) (L := lv_args 0 [.ref 164]) (am_cur_of (i := (87, 3, .invokevirtual 312, (176, 1735, 3), 0)) (by decide +kernel)) rfl rfl rfl rfl hm_z
    obtain ⟨r3074_z, h3075_z, q3076_z, hm_z⟩ := hm_z
    obtain ⟨rfl, yq3076_z⟩ := rp_nm (c := 6) (d := rg_v g 164 9) kc rfl q3076_z
    replace yq3076_z := yq3076_z.symm
    subst yq3076_z
    rw [show rp_nmf 6 (rg_v g 164 9) = (-1) from by unfold rp_nmf; rw [if_neg (by decide)]] at hm_z
    replace hm_z : rn _ _ _ _ [.int (-1)] _ _ _ := hm_z
    replace hm_z := rn_istore_n (am_cur_of (i := (90, 1, .istore_n 1, (0, 0, 0), 0)) (by decide +kernel)) hm_z
    obtain ⟨_, s3077_z, s3078_z, g1m, hm_z⟩ := hm_z
    replace g0m := s3077_z 0 _ (by decide) rfl g0m
    clear s3077_z s3078_z
    replace hm_z := rn_iload_n (am_cur_of (i := (91, 1, .iload_n 1, (0, 0, 0), 0)) (by decide +kernel)) g1m hm_z
    replace hm_z := rn_ifF (am_cur_of (i := (92, 3, .ifCond .ge 17, (60, 0, 0), 0)) (by decide +kernel)) (by decide) hm_z
    replace hm_z := rn_aload_n (am_cur_of (i := (95, 1, .aload_n 0, (0, 0, 0), 0)) (by decide +kernel)) g0m hm_z
    replace hm_z := rn_getI (v := 6) (am_cur_of (i := (96, 3, .getfield 157, (12, 8, 1392), 0)) (by decide +kernel)) (by decide +kernel) kc hm_z
    replace hm_z := rn_iconst (w := 3) (am_cur_of (i := (99, 1, .iconst 3, (0, 0, 0), 0)) (by decide +kernel)) (by decide) hm_z
    replace hm_z := rn_cmpF (am_cur_of (i := (100, 3, .if_icmp .eq 9, (60, 0, 0), 0)) (by decide +kernel)) (by decide) hm_z
    replace hm_z := rn_aload_n (am_cur_of (i := (103, 1, .aload_n 0, (0, 0, 0), 0)) (by decide +kernel)) g0m hm_z
    replace hm_z := rn_iconst (w := 1) (am_cur_of (i := (104, 1, .iconst 1, (0, 0, 0), 0)) (by decide +kernel)) (by decide) hm_z
    replace hm_z := rn_callV (M' := am_m158) (o := 164) (ar := [.int 1]) (rest := []) (L := lv_args 0 [.ref 164, .int 1]) (am_cur_of (i := (105, 3, .invokevirtual 181, (158, 1665, 3), 0)) (by decide +kernel)) rfl rfl rfl rfl hm_z
    obtain ⟨r3079_z, h3080_z, q3081_z, hm_z⟩ := hm_z
    obtain ⟨rfl, yq3081_z⟩ := rp_wrong q3081_z
    subst yq3081_z
    replace hm_z : rn _ _ _ _ [.int 0] _ _ _ := hm_z
    replace hm_z := rn_iret (am_cur_of (i := (108, 1, .ireturn, (0, 0, 0), 0)) (by decide +kernel)) hm_z
    obtain ⟨e3082_z, e3083_z⟩ := hm_z
    subst e3082_z e3083_z
    exact (Or.inr ⟨rfl, 1, by decide, K.1, K.2, rfl, R6⟩)
  · have g0_z : am_get (lv_args 0 [.ref 44, .int 1]) 0 = some (.ref 44) := rfl
    have g1_z : am_get (lv_args 0 [.ref 44, .int 1]) 1 = some (.int 1) := rfl
    have g0m : am_get (lv_args 0 [.ref 164]) 0 = some (.ref 164) := rfl
    have Rk := R
    have Zk := Z
    obtain ⟨⟨c1_z, c2_z, c3_z, c4_z, c5_z, c6_z, c7_z, c8_z⟩, ⟨m2_z, m3_z, m4_z, m5_z, m6_z, m7_z, m8_z⟩, R3, R4, R5, R6, R7, R8, R9, R10⟩ := (R : rq T S x p 23 h g)
    obtain ⟨np, op, z1_z, z2_z, z3_z, z4_z, z5_z, z6_z, z7_z, z8_z, z9_z, z10_z⟩ := (Z : rs 23 h g)
    obtain ⟨nk1_z, nk2_z, nk3_z⟩ := A.2.2.2.2.2.1
    replace nk1_z : rg_v h 32 0 = rg_v g 164 44 := nk1_z
    replace nk2_z : 0 ≤ (rg_v h 32 0).toInt := nk2_z
    replace nk3_z : (rg_v h 32 0).toInt ≤ 64 := nk3_z
    replace z8_z : np.toInt ≤ (rg_v h 32 0).toInt + op.toInt := z8_z
    obtain ⟨kn, ekn⟩ : ∃ v, rg_v h 32 0 = v := ⟨_, rfl⟩
    rw [ekn] at nk1_z nk2_z nk3_z z8_z
    have e9_z := rt_c1 (x := kn) (by omega) (by omega)
    replace hc_z := rn_aload_n (am_cur_of (i := (0, 1, .aload_n 0, (0, 0, 0), 0)) (by decide +kernel)) g0_z hc_z
    replace hc_z := rn_getI (v := 1) (am_cur_of (i := (1, 3, .getfield 60, (4, 10, 419), 0)) (by decide +kernel)) (by decide +kernel) ka hc_z
    replace hc_z := rn_bipush (w := 6) (am_cur_of (i := (4, 2, .bipush 6, (0, 0, 0), 0)) (by decide +kernel)) (by decide) hc_z
    replace hc_z := rn_cmpT (am_cur_of (i := (6, 3, .if_icmp .ne 30, (19, 0, 0), 0)) (by decide +kernel)) (by decide) hc_z
    replace hc_z := rn_aload_n (am_cur_of (i := (36, 1, .aload_n 0, (0, 0, 0), 0)) (by decide +kernel)) g0_z hc_z
    replace hc_z := rn_bipush (w := 40) (am_cur_of (i := (37, 2, .bipush 40, (0, 0, 0), 0)) (by decide +kernel)) (by decide) hc_z
    replace hc_z := rn_callV (M' := am_m45) (o := 44) (ar := [.int 40]) (rest := []) (L := lv_args 0 [.ref 44, .int 40]) (am_cur_of (i := (39, 3, .invokevirtual 105, (45, 834, 3), 0)) (by decide +kernel)) rfl rfl rfl rfl hc_z
    obtain ⟨r3084_z, h3085_z, q3086_z, hc_z⟩ := hc_z
    obtain ⟨rfl, yq3086_z⟩ := rp_mkN (fun q => absurd (Eq.trans (Eq.symm ka) q.1) (by decide)) q3086_z
    subst yq3086_z
    replace hc_z : rn _ _ _ _ [.int 0] _ _ _ := hc_z
    replace hc_z := rn_ifT (am_cur_of (i := (42, 3, .ifCond .eq 38, (43, 0, 0), 0)) (by decide +kernel)) (by decide) hc_z
    replace hc_z := rn_aload_n (am_cur_of (i := (80, 1, .aload_n 0, (0, 0, 0), 0)) (by decide +kernel)) g0_z hc_z
    replace hc_z := rn_getI (v := 1) (am_cur_of (i := (81, 3, .getfield 60, (4, 10, 419), 0)) (by decide +kernel)) (by decide +kernel) ka hc_z
    replace hc_z := rn_iconst (w := 4) (am_cur_of (i := (84, 1, .iconst 4, (0, 0, 0), 0)) (by decide +kernel)) (by decide) hc_z
    replace hc_z := rn_cmpT (am_cur_of (i := (85, 3, .if_icmp .ne 40, (64, 0, 0), 0)) (by decide +kernel)) (by decide) hc_z
    replace hc_z := rn_aload_n (am_cur_of (i := (125, 1, .aload_n 0, (0, 0, 0), 0)) (by decide +kernel)) g0_z hc_z
    replace hc_z := rn_getI (v := 1) (am_cur_of (i := (126, 3, .getfield 60, (4, 10, 419), 0)) (by decide +kernel)) (by decide +kernel) ka hc_z
    replace hc_z := rn_iconst (w := 2) (am_cur_of (i := (129, 1, .iconst 2, (0, 0, 0), 0)) (by decide +kernel)) (by decide) hc_z
    replace hc_z := rn_cmpT (am_cur_of (i := (130, 3, .if_icmp .ne 37, (84, 0, 0), 0)) (by decide +kernel)) (by decide) hc_z
    replace hc_z := rn_aload_n (am_cur_of (i := (167, 1, .aload_n 0, (0, 0, 0), 0)) (by decide +kernel)) g0_z hc_z
    replace hc_z := rn_iconst (w := 1) (am_cur_of (i := (168, 1, .iconst 1, (0, 0, 0), 0)) (by decide +kernel)) (by decide) hc_z
    replace hc_z := rn_callV (M' := am_m29) (o := 44) (ar := [.int 1]) (rest := []) (L := lv_args 0 [.ref 44, .int 1]) (am_cur_of (i := (169, 3, .invokevirtual 108, (29, 769, 3), 0)) (by decide +kernel)) rfl rfl rfl rfl hc_z
    obtain ⟨r3087_z, h3088_z, q3089_z, hc_z⟩ := hc_z
    obtain ⟨rfl, yq3089_z⟩ := rp_fail R4 q3089_z
    subst yq3089_z
    replace hc_z : rn _ _ _ _ [] _ _ _ := hc_z
    have K := rs_stick (w := 1) (q := p) (a := 51) (by decide) (by decide) rfl (by decide) rfl (show rg_v (am_up (am_up h 44 1 (.int 1)) 44 2 (.int (rg_v h 44 9))) 44 2 = p from R5) hc_z
    replace hm_z := rn_aload_n (am_cur_of (i := (0, 1, .aload_n 0, (0, 0, 0), 0)) (by decide +kernel)) g0m hm_z
    replace hm_z := rn_bipush (w := 40) (am_cur_of (i := (1, 2, .bipush 40, (0, 0, 0), 0)) (by decide +kernel)) (by decide) hm_z
    replace hm_z := rn_callV (M' := am_m171) (o := 164) (ar := [.int 40]) (rest := []) (L := lv_args 0 [.ref 164, .int 40]) (am_cur_of (i := (3, 3, .invokevirtual 194, (171, 1715, 3), 0)) (by decide +kernel)) rfl rfl rfl rfl hm_z
    obtain ⟨r3090_z, h3091_z, q3092_z, hm_z⟩ := hm_z
    obtain ⟨rfl, yq3092_z⟩ := rp_sgN (fun q => absurd (Eq.trans (Eq.symm kd) q.2) (by decide)) q3092_z
    subst yq3092_z
    replace hm_z : rn _ _ _ _ [.int 0] _ _ _ := hm_z
    replace hm_z := rn_ifT (am_cur_of (i := (6, 3, .ifCond .eq 44, (28, 0, 0), 0)) (by decide +kernel)) (by decide) hm_z
    replace hm_z := rn_aload_n (am_cur_of (i := (50, 1, .aload_n 0, (0, 0, 0), 0)) (by decide +kernel)) g0m hm_z
    replace hm_z := rn_bipush (w := 14) (am_cur_of (i := (51, 2, .bipush 14, (0, 0, 0), 0)) (by decide +kernel)) (by decide) hm_z
    replace hm_z := rn_callV (M' := am_m174) (o := 164) (ar := [.int 14]) (rest := []) (L := lv_args 0 [.ref 164, .int 14]) (am_cur_of (i := (53, 3, .invokevirtual 306, (174, 1727, 3), 0)) (by decide +kernel)) rfl rfl rfl rfl hm_z
    obtain ⟨r3093_z, h3094_z, q3095_z, hm_z⟩ := hm_z
    obtain ⟨rfl, yq3095_z⟩ := rp_kyN (fun q => absurd (Eq.trans (Eq.symm kc) q.1) (by decide)) q3095_z
    subst yq3095_z
    replace hm_z : rn _ _ _ _ [.int 0] _ _ _ := hm_z
    replace hm_z := rn_ifT (am_cur_of (i := (56, 3, .ifCond .eq 30, (47, 0, 0), 0)) (by decide +kernel)) (by decide) hm_z
    replace hm_z := rn_aload_n (am_cur_of (i := (86, 1, .aload_n 0, (0, 0, 0), 0)) (by decide +kernel)) g0m hm_z
    replace hm_z := rn_callV (M' := am_m176) (o := 164) (ar := []) (rest := []) (L := lv_args 0 [.ref 164]) (am_cur_of (i := (87, 3, .invokevirtual 312, (176, 1735, 3), 0)) (by decide +kernel)) rfl rfl rfl rfl hm_z
    obtain ⟨r3096_z, h3097_z, q3098_z, hm_z⟩ := hm_z
    obtain ⟨rfl, yq3098_z⟩ := rp_nm (c := 4) (d := 37) kc kd q3098_z
    replace yq3098_z := yq3098_z.symm
    subst yq3098_z
    rw [show rp_nmf 4 37 = (-1) from by unfold rp_nmf; rw [if_neg (by decide)]] at hm_z
    replace hm_z : rn _ _ _ _ [.int (-1)] _ _ _ := hm_z
    replace hm_z := rn_istore_n (am_cur_of (i := (90, 1, .istore_n 1, (0, 0, 0), 0)) (by decide +kernel)) hm_z
    obtain ⟨_, s3099_z, s3100_z, g1m, hm_z⟩ := hm_z
    replace g0m := s3099_z 0 _ (by decide) rfl g0m
    clear s3099_z s3100_z
    replace hm_z := rn_iload_n (am_cur_of (i := (91, 1, .iload_n 1, (0, 0, 0), 0)) (by decide +kernel)) g1m hm_z
    replace hm_z := rn_ifF (am_cur_of (i := (92, 3, .ifCond .ge 17, (60, 0, 0), 0)) (by decide +kernel)) (by decide) hm_z
    replace hm_z := rn_aload_n (am_cur_of (i := (95, 1, .aload_n 0, (0, 0, 0), 0)) (by decide +kernel)) g0m hm_z
    replace hm_z := rn_getI (v := 4) (am_cur_of (i := (96, 3, .getfield 157, (12, 8, 1392), 0)) (by decide +kernel)) (by decide +kernel) kc hm_z
    replace hm_z := rn_iconst (w := 3) (am_cur_of (i := (99, 1, .iconst 3, (0, 0, 0), 0)) (by decide +kernel)) (by decide) hm_z
    replace hm_z := rn_cmpF (am_cur_of (i := (100, 3, .if_icmp .eq 9, (60, 0, 0), 0)) (by decide +kernel)) (by decide) hm_z
    replace hm_z := rn_aload_n (am_cur_of (i := (103, 1, .aload_n 0, (0, 0, 0), 0)) (by decide +kernel)) g0m hm_z
    replace hm_z := rn_iconst (w := 1) (am_cur_of (i := (104, 1, .iconst 1, (0, 0, 0), 0)) (by decide +kernel)) (by decide) hm_z
    replace hm_z := rn_callV (M' := am_m158) (o := 164) (ar := [.int 1]) (rest := []) (L := lv_args 0 [.ref 164, .int 1]) (am_cur_of (i := (105, 3, .invokevirtual 181, (158, 1665, 3), 0)) (by decide +kernel)) rfl rfl rfl rfl hm_z
    obtain ⟨r3101_z, h3102_z, q3103_z, hm_z⟩ := hm_z
    obtain ⟨rfl, yq3103_z⟩ := rp_wrong q3103_z
    subst yq3103_z
    replace hm_z : rn _ _ _ _ [.int 0] _ _ _ := hm_z
    replace hm_z := rn_iret (am_cur_of (i := (108, 1, .ireturn, (0, 0, 0), 0)) (by decide +kernel)) hm_z
    obtain ⟨e3104_z, e3105_z⟩ := hm_z
    subst e3104_z e3105_z
    exact (Or.inr ⟨rfl, 1, by decide, K.1, K.2, rfl, R6⟩)
  · have g0_z : am_get (lv_args 0 [.ref 44, .int 1]) 0 = some (.ref 44) := rfl
    have g1_z : am_get (lv_args 0 [.ref 44, .int 1]) 1 = some (.int 1) := rfl
    have g0m : am_get (lv_args 0 [.ref 164]) 0 = some (.ref 164) := rfl
    have Rk := R
    have Zk := Z
    obtain ⟨⟨c1_z, c2_z, c3_z, c4_z, c5_z, c6_z, c7_z, c8_z⟩, ⟨m2_z, m3_z, m4_z, m5_z, m6_z, m7_z, m8_z⟩, R3, R4, R5, R6, R7, R8, R9, R10⟩ := (R : rq T S x p 23 h g)
    obtain ⟨np, op, z1_z, z2_z, z3_z, z4_z, z5_z, z6_z, z7_z, z8_z, z9_z, z10_z⟩ := (Z : rs 23 h g)
    obtain ⟨nk1_z, nk2_z, nk3_z⟩ := A.2.2.2.2.2.1
    replace nk1_z : rg_v h 32 0 = rg_v g 164 44 := nk1_z
    replace nk2_z : 0 ≤ (rg_v h 32 0).toInt := nk2_z
    replace nk3_z : (rg_v h 32 0).toInt ≤ 64 := nk3_z
    replace z8_z : np.toInt ≤ (rg_v h 32 0).toInt + op.toInt := z8_z
    obtain ⟨kn, ekn⟩ : ∃ v, rg_v h 32 0 = v := ⟨_, rfl⟩
    rw [ekn] at nk1_z nk2_z nk3_z z8_z
    have e9_z := rt_c1 (x := kn) (by omega) (by omega)
    replace hc_z := rn_aload_n (am_cur_of (i := (0, 1, .aload_n 0, (0, 0, 0), 0)) (by decide +kernel)) g0_z hc_z
    replace hc_z := rn_getI (v := 2) (am_cur_of (i := (1, 3, .getfield 60, (4, 10, 419), 0)) (by decide +kernel)) (by decide +kernel) ka hc_z
    replace hc_z := rn_bipush (w := 6) (am_cur_of (i := (4, 2, .bipush 6, (0, 0, 0), 0)) (by decide +kernel)) (by decide) hc_z
    replace hc_z := rn_cmpT (am_cur_of (i := (6, 3, .if_icmp .ne 30, (19, 0, 0), 0)) (by decide +kernel)) (by decide) hc_z
    replace hc_z := rn_aload_n (am_cur_of (i := (36, 1, .aload_n 0, (0, 0, 0), 0)) (by decide +kernel)) g0_z hc_z
    replace hc_z := rn_bipush (w := 40) (am_cur_of (i := (37, 2, .bipush 40, (0, 0, 0), 0)) (by decide +kernel)) (by decide) hc_z
    replace hc_z := rn_callV (M' := am_m45) (o := 44) (ar := [.int 40]) (rest := []) (L := lv_args 0 [.ref 44, .int 40]) (am_cur_of (i := (39, 3, .invokevirtual 105, (45, 834, 3), 0)) (by decide +kernel)) rfl rfl rfl rfl hc_z
    obtain ⟨r3106_z, h3107_z, q3108_z, hc_z⟩ := hc_z
    obtain ⟨rfl, yq3108_z⟩ := rp_mkN (fun q => absurd (Eq.trans (Eq.symm ka) q.1) (by decide)) q3108_z
    subst yq3108_z
    replace hc_z : rn _ _ _ _ [.int 0] _ _ _ := hc_z
    replace hc_z := rn_ifT (am_cur_of (i := (42, 3, .ifCond .eq 38, (43, 0, 0), 0)) (by decide +kernel)) (by decide) hc_z
    replace hc_z := rn_aload_n (am_cur_of (i := (80, 1, .aload_n 0, (0, 0, 0), 0)) (by decide +kernel)) g0_z hc_z
    replace hc_z := rn_getI (v := 2) (am_cur_of (i := (81, 3, .getfield 60, (4, 10, 419), 0)) (by decide +kernel)) (by decide +kernel) ka hc_z
    replace hc_z := rn_iconst (w := 4) (am_cur_of (i := (84, 1, .iconst 4, (0, 0, 0), 0)) (by decide +kernel)) (by decide) hc_z
    replace hc_z := rn_cmpT (am_cur_of (i := (85, 3, .if_icmp .ne 40, (64, 0, 0), 0)) (by decide +kernel)) (by decide) hc_z
    replace hc_z := rn_aload_n (am_cur_of (i := (125, 1, .aload_n 0, (0, 0, 0), 0)) (by decide +kernel)) g0_z hc_z
    replace hc_z := rn_getI (v := 2) (am_cur_of (i := (126, 3, .getfield 60, (4, 10, 419), 0)) (by decide +kernel)) (by decide +kernel) ka hc_z
    replace hc_z := rn_iconst (w := 2) (am_cur_of (i := (129, 1, .iconst 2, (0, 0, 0), 0)) (by decide +kernel)) (by decide) hc_z
    replace hc_z := rn_cmpF (am_cur_of (i := (130, 3, .if_icmp .ne 37, (84, 0, 0), 0)) (by decide +kernel)) (by decide) hc_z
    replace hc_z := rn_aload_n (am_cur_of (i := (133, 1, .aload_n 0, (0, 0, 0), 0)) (by decide +kernel)) g0_z hc_z
    replace hc_z := rn_getI (v := rg_v h 44 11) (am_cur_of (i := (134, 3, .getfield 91, (4, 11, 420), 0)) (by decide +kernel)) (by decide +kernel) rfl hc_z
    replace hc_z := rn_bipush (w := 11) (am_cur_of (i := (137, 2, .bipush 11, (0, 0, 0), 0)) (by decide +kernel)) (by decide) hc_z
    replace hc_z := rn_cmp (am_cur_of (i := (139, 3, .if_icmp .lt 28, (84, 0, 0), 0)) (by decide +kernel)) hc_z
    rcases hc_z with ⟨b3109_z, hc_z⟩ | ⟨b3109_z, hc_z⟩
    · replace b3109_z : (rg_v h 44 11).toInt < (11 : Int32).toInt := b3109_z
      replace hc_z := rn_aload_n (am_cur_of (i := (167, 1, .aload_n 0, (0, 0, 0), 0)) (by decide +kernel)) g0_z hc_z
      replace hc_z := rn_iconst (w := 1) (am_cur_of (i := (168, 1, .iconst 1, (0, 0, 0), 0)) (by decide +kernel)) (by decide) hc_z
      replace hc_z := rn_callV (M' := am_m29) (o := 44) (ar := [.int 1]) (rest := []) (L := lv_args 0 [.ref 44, .int 1]) (am_cur_of (i := (169, 3, .invokevirtual 108, (29, 769, 3), 0)) (by decide +kernel)) rfl rfl rfl rfl hc_z
      obtain ⟨r3110_z, h3111_z, q3112_z, hc_z⟩ := hc_z
      obtain ⟨rfl, yq3112_z⟩ := rp_fail R4 q3112_z
      subst yq3112_z
      replace hc_z : rn _ _ _ _ [] _ _ _ := hc_z
      have K := rs_stick (w := 1) (q := p) (a := 51) (by decide) (by decide) rfl (by decide) rfl (show rg_v (am_up (am_up h 44 1 (.int 1)) 44 2 (.int (rg_v h 44 9))) 44 2 = p from R5) hc_z
      replace hm_z := rn_aload_n (am_cur_of (i := (0, 1, .aload_n 0, (0, 0, 0), 0)) (by decide +kernel)) g0m hm_z
      replace hm_z := rn_bipush (w := 40) (am_cur_of (i := (1, 2, .bipush 40, (0, 0, 0), 0)) (by decide +kernel)) (by decide) hm_z
      replace hm_z := rn_callV (M' := am_m171) (o := 164) (ar := [.int 40]) (rest := []) (L := lv_args 0 [.ref 164, .int 40]) (am_cur_of (i := (3, 3, .invokevirtual 194, (171, 1715, 3), 0)) (by decide +kernel)) rfl rfl rfl rfl hm_z
      obtain ⟨r3113_z, h3114_z, q3115_z, hm_z⟩ := hm_z
      obtain ⟨rfl, yq3115_z⟩ := rp_sgN (fun q => absurd (Eq.trans (Eq.symm kc) q.1) (by decide)) q3115_z
      subst yq3115_z
      replace hm_z : rn _ _ _ _ [.int 0] _ _ _ := hm_z
      replace hm_z := rn_ifT (am_cur_of (i := (6, 3, .ifCond .eq 44, (28, 0, 0), 0)) (by decide +kernel)) (by decide) hm_z
      replace hm_z := rn_aload_n (am_cur_of (i := (50, 1, .aload_n 0, (0, 0, 0), 0)) (by decide +kernel)) g0m hm_z
      replace hm_z := rn_bipush (w := 14) (am_cur_of (i := (51, 2, .bipush 14, (0, 0, 0), 0)) (by decide +kernel)) (by decide) hm_z
      replace hm_z := rn_callV (M' := am_m174) (o := 164) (ar := [.int 14]) (rest := []) (L := lv_args 0 [.ref 164, .int 14]) (am_cur_of (i := (53, 3, .invokevirtual 306, (174, 1727, 3), 0)) (by decide +kernel)) rfl rfl rfl rfl hm_z
      obtain ⟨r3116_z, h3117_z, q3118_z, hm_z⟩ := hm_z
      obtain ⟨rfl, yq3118_z⟩ := rp_kyN (fun q => by have zz := congrArg Int32.toInt q.2; have zy := congrArg Int32.toInt kd; have zx : (14 : Int32).toInt = 14 := (by decide); omega) q3118_z
      subst yq3118_z
      replace hm_z : rn _ _ _ _ [.int 0] _ _ _ := hm_z
      replace hm_z := rn_ifT (am_cur_of (i := (56, 3, .ifCond .eq 30, (47, 0, 0), 0)) (by decide +kernel)) (by decide) hm_z
      replace hm_z := rn_aload_n (am_cur_of (i := (86, 1, .aload_n 0, (0, 0, 0), 0)) (by decide +kernel)) g0m hm_z
      replace hm_z := rn_callV (M' := am_m176) (o := 164) (ar := []) (rest := []) (L := lv_args 0 [.ref 164]) (am_cur_of (i := (87, 3, .invokevirtual 312, (176, 1735, 3), 0)) (by decide +kernel)) rfl rfl rfl rfl hm_z
      obtain ⟨r3119_z, h3120_z, q3121_z, hm_z⟩ := hm_z
      obtain ⟨rfl, yq3121_z⟩ := rp_nm (c := 1) (d := rg_v g 164 9) kc rfl q3121_z
      replace yq3121_z := yq3121_z.symm
      subst yq3121_z
      rw [show rp_nmf 1 (rg_v g 164 9) = (-1) from by have zy := congrArg Int32.toInt kd; unfold rp_nmf; rw [if_pos rfl, if_neg (fun q => by have zz := congrArg Int32.toInt q; have zx : (11 : Int32).toInt = 11 := (by decide); omega), if_neg (by omega), if_neg (by omega)]] at hm_z
      replace hm_z : rn _ _ _ _ [.int (-1)] _ _ _ := hm_z
      replace hm_z := rn_istore_n (am_cur_of (i := (90, 1, .istore_n 1, (0, 0, 0), 0)) (by decide +kernel)) hm_z
      obtain ⟨_, s3122_z, s3123_z, g1m, hm_z⟩ := hm_z
      replace g0m := s3122_z 0 _ (by decide) rfl g0m
      clear s3122_z s3123_z
      replace hm_z := rn_iload_n (am_cur_of (i := (91, 1, .iload_n 1, (0, 0, 0), 0)) (by decide +kernel)) g1m hm_z
      replace hm_z := rn_ifF (am_cur_of (i := (92, 3, .ifCond .ge 17, (60, 0, 0), 0)) (by decide +kernel)) (by decide) hm_z
      replace hm_z := rn_aload_n (am_cur_of (i := (95, 1, .aload_n 0, (0, 0, 0), 0)) (by decide +kernel)) g0m hm_z
      replace hm_z := rn_getI (v := 1) (am_cur_of (i := (96, 3, .getfield 157, (12, 8, 1392), 0)) (by decide +kernel)) (by decide +kernel) kc hm_z
      replace hm_z := rn_iconst (w := 3) (am_cur_of (i := (99, 1, .iconst 3, (0, 0, 0), 0)) (by decide +kernel)) (by decide) hm_z
      replace hm_z := rn_cmpF (am_cur_of (i := (100, 3, .if_icmp .eq 9, (60, 0, 0), 0)) (by decide +kernel)) (by decide) hm_z
      replace hm_z := rn_aload_n (am_cur_of (i := (103, 1, .aload_n 0, (0, 0, 0), 0)) (by decide +kernel)) g0m hm_z
      replace hm_z := rn_iconst (w := 1) (am_cur_of (i := (104, 1, .iconst 1, (0, 0, 0), 0)) (by decide +kernel)) (by decide) hm_z
      replace hm_z := rn_callV (M' := am_m158) (o := 164) (ar := [.int 1]) (rest := []) (L := lv_args 0 [.ref 164, .int 1]) (am_cur_of (i := (105, 3, .invokevirtual 181, (158, 1665, 3), 0)) (by decide +kernel)) rfl rfl rfl rfl hm_z
      obtain ⟨r3124_z, h3125_z, q3126_z, hm_z⟩ := hm_z
      obtain ⟨rfl, yq3126_z⟩ := rp_wrong q3126_z
      subst yq3126_z
      replace hm_z : rn _ _ _ _ [.int 0] _ _ _ := hm_z
      replace hm_z := rn_iret (am_cur_of (i := (108, 1, .ireturn, (0, 0, 0), 0)) (by decide +kernel)) hm_z
      obtain ⟨e3127_z, e3128_z⟩ := hm_z
      subst e3127_z e3128_z
      exact (Or.inr ⟨rfl, 1, by decide, K.1, K.2, rfl, R6⟩)
    · replace b3109_z : (11 : Int32).toInt ≤ (rg_v h 44 11).toInt := b3109_z
      omega
  · have g0_z : am_get (lv_args 0 [.ref 44, .int 1]) 0 = some (.ref 44) := rfl
    have g1_z : am_get (lv_args 0 [.ref 44, .int 1]) 1 = some (.int 1) := rfl
    have g0m : am_get (lv_args 0 [.ref 164]) 0 = some (.ref 164) := rfl
    have Rk := R
    have Zk := Z
    obtain ⟨⟨c1_z, c2_z, c3_z, c4_z, c5_z, c6_z, c7_z, c8_z⟩, ⟨m2_z, m3_z, m4_z, m5_z, m6_z, m7_z, m8_z⟩, R3, R4, R5, R6, R7, R8, R9, R10⟩ := (R : rq T S x p 23 h g)
    obtain ⟨np, op, z1_z, z2_z, z3_z, z4_z, z5_z, z6_z, z7_z, z8_z, z9_z, z10_z⟩ := (Z : rs 23 h g)
    obtain ⟨nk1_z, nk2_z, nk3_z⟩ := A.2.2.2.2.2.1
    replace nk1_z : rg_v h 32 0 = rg_v g 164 44 := nk1_z
    replace nk2_z : 0 ≤ (rg_v h 32 0).toInt := nk2_z
    replace nk3_z : (rg_v h 32 0).toInt ≤ 64 := nk3_z
    replace z8_z : np.toInt ≤ (rg_v h 32 0).toInt + op.toInt := z8_z
    obtain ⟨kn, ekn⟩ : ∃ v, rg_v h 32 0 = v := ⟨_, rfl⟩
    rw [ekn] at nk1_z nk2_z nk3_z z8_z
    have e9_z := rt_c1 (x := kn) (by omega) (by omega)
    replace hc_z := rn_aload_n (am_cur_of (i := (0, 1, .aload_n 0, (0, 0, 0), 0)) (by decide +kernel)) g0_z hc_z
    replace hc_z := rn_getI (v := 2) (am_cur_of (i := (1, 3, .getfield 60, (4, 10, 419), 0)) (by decide +kernel)) (by decide +kernel) ka hc_z
    replace hc_z := rn_bipush (w := 6) (am_cur_of (i := (4, 2, .bipush 6, (0, 0, 0), 0)) (by decide +kernel)) (by decide) hc_z
    replace hc_z := rn_cmpT (am_cur_of (i := (6, 3, .if_icmp .ne 30, (19, 0, 0), 0)) (by decide +kernel)) (by decide) hc_z
    replace hc_z := rn_aload_n (am_cur_of (i := (36, 1, .aload_n 0, (0, 0, 0), 0)) (by decide +kernel)) g0_z hc_z
    replace hc_z := rn_bipush (w := 40) (am_cur_of (i := (37, 2, .bipush 40, (0, 0, 0), 0)) (by decide +kernel)) (by decide) hc_z
    replace hc_z := rn_callV (M' := am_m45) (o := 44) (ar := [.int 40]) (rest := []) (L := lv_args 0 [.ref 44, .int 40]) (am_cur_of (i := (39, 3, .invokevirtual 105, (45, 834, 3), 0)) (by decide +kernel)) rfl rfl rfl rfl hc_z
    obtain ⟨r3129_z, h3130_z, q3131_z, hc_z⟩ := hc_z
    obtain ⟨rfl, yq3131_z⟩ := rp_mkN (fun q => absurd (Eq.trans (Eq.symm ka) q.1) (by decide)) q3131_z
    subst yq3131_z
    replace hc_z : rn _ _ _ _ [.int 0] _ _ _ := hc_z
    replace hc_z := rn_ifT (am_cur_of (i := (42, 3, .ifCond .eq 38, (43, 0, 0), 0)) (by decide +kernel)) (by decide) hc_z
    replace hc_z := rn_aload_n (am_cur_of (i := (80, 1, .aload_n 0, (0, 0, 0), 0)) (by decide +kernel)) g0_z hc_z
    replace hc_z := rn_getI (v := 2) (am_cur_of (i := (81, 3, .getfield 60, (4, 10, 419), 0)) (by decide +kernel)) (by decide +kernel) ka hc_z
    replace hc_z := rn_iconst (w := 4) (am_cur_of (i := (84, 1, .iconst 4, (0, 0, 0), 0)) (by decide +kernel)) (by decide) hc_z
    replace hc_z := rn_cmpT (am_cur_of (i := (85, 3, .if_icmp .ne 40, (64, 0, 0), 0)) (by decide +kernel)) (by decide) hc_z
    replace hc_z := rn_aload_n (am_cur_of (i := (125, 1, .aload_n 0, (0, 0, 0), 0)) (by decide +kernel)) g0_z hc_z
    replace hc_z := rn_getI (v := 2) (am_cur_of (i := (126, 3, .getfield 60, (4, 10, 419), 0)) (by decide +kernel)) (by decide +kernel) ka hc_z
    replace hc_z := rn_iconst (w := 2) (am_cur_of (i := (129, 1, .iconst 2, (0, 0, 0), 0)) (by decide +kernel)) (by decide) hc_z
    replace hc_z := rn_cmpF (am_cur_of (i := (130, 3, .if_icmp .ne 37, (84, 0, 0), 0)) (by decide +kernel)) (by decide) hc_z
    replace hc_z := rn_aload_n (am_cur_of (i := (133, 1, .aload_n 0, (0, 0, 0), 0)) (by decide +kernel)) g0_z hc_z
    replace hc_z := rn_getI (v := 11) (am_cur_of (i := (134, 3, .getfield 91, (4, 11, 420), 0)) (by decide +kernel)) (by decide +kernel) kb hc_z
    replace hc_z := rn_bipush (w := 11) (am_cur_of (i := (137, 2, .bipush 11, (0, 0, 0), 0)) (by decide +kernel)) (by decide) hc_z
    replace hc_z := rn_cmpF (am_cur_of (i := (139, 3, .if_icmp .lt 28, (84, 0, 0), 0)) (by decide +kernel)) (by decide) hc_z
    replace hc_z := rn_aload_n (am_cur_of (i := (142, 1, .aload_n 0, (0, 0, 0), 0)) (by decide +kernel)) g0_z hc_z
    replace hc_z := rn_callV (M' := am_m49) (o := 44) (ar := []) (rest := []) (L := lv_args 0 [.ref 44]) (am_cur_of (i := (143, 3, .invokevirtual 270, (49, 852, 3), 0)) (by decide +kernel)) rfl rfl rfl rfl hc_z
    obtain ⟨r3132_z, h3133_z, q3134_z, hc_z⟩ := hc_z
    rcases rs_ck23 R4 (show h 44 6 = .ref 23 from R3) q3134_z with ⟨ge, rfl, eh⟩ | ⟨lt, rfl, eh⟩
    · subst eh
      replace ge : 64 ≤ kn.toInt := by rw [← ekn]; exact ge
      replace hc_z : rn _ _ _ _ [] _ _ _ := hc_z
      have K := rs_stick (w := 2) (q := p) (a := 51) (by decide) (by decide) rfl (by decide) rfl (show rg_v (am_up (am_up h 44 1 (.int 2)) 44 2 (.int (rg_v h 44 9))) 44 2 = p from R5) hc_z
      replace hm_z := rn_aload_n (am_cur_of (i := (0, 1, .aload_n 0, (0, 0, 0), 0)) (by decide +kernel)) g0m hm_z
      replace hm_z := rn_bipush (w := 40) (am_cur_of (i := (1, 2, .bipush 40, (0, 0, 0), 0)) (by decide +kernel)) (by decide) hm_z
      replace hm_z := rn_callV (M' := am_m171) (o := 164) (ar := [.int 40]) (rest := []) (L := lv_args 0 [.ref 164, .int 40]) (am_cur_of (i := (3, 3, .invokevirtual 194, (171, 1715, 3), 0)) (by decide +kernel)) rfl rfl rfl rfl hm_z
      obtain ⟨r3135_z, h3136_z, q3137_z, hm_z⟩ := hm_z
      obtain ⟨rfl, yq3137_z⟩ := rp_sgN (fun q => absurd (Eq.trans (Eq.symm kc) q.1) (by decide)) q3137_z
      subst yq3137_z
      replace hm_z : rn _ _ _ _ [.int 0] _ _ _ := hm_z
      replace hm_z := rn_ifT (am_cur_of (i := (6, 3, .ifCond .eq 44, (28, 0, 0), 0)) (by decide +kernel)) (by decide) hm_z
      replace hm_z := rn_aload_n (am_cur_of (i := (50, 1, .aload_n 0, (0, 0, 0), 0)) (by decide +kernel)) g0m hm_z
      replace hm_z := rn_bipush (w := 14) (am_cur_of (i := (51, 2, .bipush 14, (0, 0, 0), 0)) (by decide +kernel)) (by decide) hm_z
      replace hm_z := rn_callV (M' := am_m174) (o := 164) (ar := [.int 14]) (rest := []) (L := lv_args 0 [.ref 164, .int 14]) (am_cur_of (i := (53, 3, .invokevirtual 306, (174, 1727, 3), 0)) (by decide +kernel)) rfl rfl rfl rfl hm_z
      obtain ⟨r3138_z, h3139_z, q3140_z, hm_z⟩ := hm_z
      obtain ⟨rfl, yq3140_z⟩ := rp_kyN (fun q => absurd (Eq.trans (Eq.symm kd) q.2) (by decide)) q3140_z
      subst yq3140_z
      replace hm_z : rn _ _ _ _ [.int 0] _ _ _ := hm_z
      replace hm_z := rn_ifT (am_cur_of (i := (56, 3, .ifCond .eq 30, (47, 0, 0), 0)) (by decide +kernel)) (by decide) hm_z
      replace hm_z := rn_aload_n (am_cur_of (i := (86, 1, .aload_n 0, (0, 0, 0), 0)) (by decide +kernel)) g0m hm_z
      replace hm_z := rn_callV (M' := am_m176) (o := 164) (ar := []) (rest := []) (L := lv_args 0 [.ref 164]) (am_cur_of (i := (87, 3, .invokevirtual 312, (176, 1735, 3), 0)) (by decide +kernel)) rfl rfl rfl rfl hm_z
      obtain ⟨r3141_z, h3142_z, q3143_z, hm_z⟩ := hm_z
      obtain ⟨rfl, yq3143_z⟩ := rp_nm (c := 1) (d := 11) kc kd q3143_z
      replace yq3143_z := yq3143_z.symm
      subst yq3143_z
      rw [show rp_nmf 1 11 = 3 from by decide] at hm_z
      replace hm_z : rn _ _ _ _ [.int 3] _ _ _ := hm_z
      replace hm_z := rn_istore_n (am_cur_of (i := (90, 1, .istore_n 1, (0, 0, 0), 0)) (by decide +kernel)) hm_z
      obtain ⟨_, s3144_z, s3145_z, g1m, hm_z⟩ := hm_z
      replace g0m := s3144_z 0 _ (by decide) rfl g0m
      clear s3144_z s3145_z
      replace hm_z := rn_iload_n (am_cur_of (i := (91, 1, .iload_n 1, (0, 0, 0), 0)) (by decide +kernel)) g1m hm_z
      replace hm_z := rn_ifT (am_cur_of (i := (92, 3, .ifCond .ge 17, (60, 0, 0), 0)) (by decide +kernel)) (by decide) hm_z
      replace hm_z := rn_iload_n (am_cur_of (i := (109, 1, .iload_n 1, (0, 0, 0), 0)) (by decide +kernel)) g1m hm_z
      replace hm_z := rn_ifT (am_cur_of (i := (110, 3, .ifCond .ge 19, (70, 0, 0), 0)) (by decide +kernel)) (by decide) hm_z
      replace hm_z := rn_aload_n (am_cur_of (i := (129, 1, .aload_n 0, (0, 0, 0), 0)) (by decide +kernel)) g0m hm_z
      replace hm_z := rn_callV (M' := am_m175) (o := 164) (ar := []) (rest := []) (L := lv_args 0 [.ref 164]) (am_cur_of (i := (130, 3, .invokevirtual 309, (175, 1731, 3), 0)) (by decide +kernel)) rfl rfl rfl rfl hm_z
      obtain ⟨r3146_z, h3147_z, q3148_z, hm_z⟩ := hm_z
      rcases rs_ic q3148_z with ⟨i1_z, rfl, i3_z⟩ | ⟨i1_z, -⟩
      · subst i3_z
        replace hm_z : rn _ _ _ _ [.int 0] _ _ _ := hm_z
        replace hm_z := rn_ifF (am_cur_of (i := (133, 3, .ifCond .ne 5, (75, 0, 0), 0)) (by decide +kernel)) (by decide) hm_z
        replace hm_z := rn_iconst (w := 0) (am_cur_of (i := (136, 1, .iconst 0, (0, 0, 0), 0)) (by decide +kernel)) (by decide) hm_z
        replace hm_z := rn_iret (am_cur_of (i := (137, 1, .ireturn, (0, 0, 0), 0)) (by decide +kernel)) hm_z
        obtain ⟨e3149_z, e3150_z⟩ := hm_z
        subst e3149_z e3150_z
        exact (Or.inr ⟨rfl, 2, by decide, K.1, K.2, rfl, R6⟩)
      · exact absurd (Int32.toInt_inj.mp (show (rg_v g 164 44).toInt = (64 : Int32).toInt from by rw [show rg_v g 164 44 = kn from nk1_z.symm, show (64 : Int32).toInt = 64 by decide]; omega)) i1_z
    · subst eh
      replace lt : kn.toInt < 64 := by rw [← ekn]; exact lt
      rw [show rg_v h 32 0 = kn from ekn] at hc_z
      replace hm_z := rn_aload_n (am_cur_of (i := (0, 1, .aload_n 0, (0, 0, 0), 0)) (by decide +kernel)) g0m hm_z
      replace hm_z := rn_bipush (w := 40) (am_cur_of (i := (1, 2, .bipush 40, (0, 0, 0), 0)) (by decide +kernel)) (by decide) hm_z
      replace hm_z := rn_callV (M' := am_m171) (o := 164) (ar := [.int 40]) (rest := []) (L := lv_args 0 [.ref 164, .int 40]) (am_cur_of (i := (3, 3, .invokevirtual 194, (171, 1715, 3), 0)) (by decide +kernel)) rfl rfl rfl rfl hm_z
      obtain ⟨r3151_z, h3152_z, q3153_z, hm_z⟩ := hm_z
      obtain ⟨rfl, yq3153_z⟩ := rp_sgN (fun q => absurd (Eq.trans (Eq.symm kc) q.1) (by decide)) q3153_z
      subst yq3153_z
      replace hm_z : rn _ _ _ _ [.int 0] _ _ _ := hm_z
      replace hm_z := rn_ifT (am_cur_of (i := (6, 3, .ifCond .eq 44, (28, 0, 0), 0)) (by decide +kernel)) (by decide) hm_z
      replace hm_z := rn_aload_n (am_cur_of (i := (50, 1, .aload_n 0, (0, 0, 0), 0)) (by decide +kernel)) g0m hm_z
      replace hm_z := rn_bipush (w := 14) (am_cur_of (i := (51, 2, .bipush 14, (0, 0, 0), 0)) (by decide +kernel)) (by decide) hm_z
      replace hm_z := rn_callV (M' := am_m174) (o := 164) (ar := [.int 14]) (rest := []) (L := lv_args 0 [.ref 164, .int 14]) (am_cur_of (i := (53, 3, .invokevirtual 306, (174, 1727, 3), 0)) (by decide +kernel)) rfl rfl rfl rfl hm_z
      obtain ⟨r3154_z, h3155_z, q3156_z, hm_z⟩ := hm_z
      obtain ⟨rfl, yq3156_z⟩ := rp_kyN (fun q => absurd (Eq.trans (Eq.symm kd) q.2) (by decide)) q3156_z
      subst yq3156_z
      replace hm_z : rn _ _ _ _ [.int 0] _ _ _ := hm_z
      replace hm_z := rn_ifT (am_cur_of (i := (56, 3, .ifCond .eq 30, (47, 0, 0), 0)) (by decide +kernel)) (by decide) hm_z
      replace hm_z := rn_aload_n (am_cur_of (i := (86, 1, .aload_n 0, (0, 0, 0), 0)) (by decide +kernel)) g0m hm_z
      replace hm_z := rn_callV (M' := am_m176) (o := 164) (ar := []) (rest := []) (L := lv_args 0 [.ref 164]) (am_cur_of (i := (87, 3, .invokevirtual 312, (176, 1735, 3), 0)) (by decide +kernel)) rfl rfl rfl rfl hm_z
      obtain ⟨r3157_z, h3158_z, q3159_z, hm_z⟩ := hm_z
      obtain ⟨rfl, yq3159_z⟩ := rp_nm (c := 1) (d := 11) kc kd q3159_z
      replace yq3159_z := yq3159_z.symm
      subst yq3159_z
      rw [show rp_nmf 1 11 = 3 from by decide] at hm_z
      replace hm_z : rn _ _ _ _ [.int 3] _ _ _ := hm_z
      replace hm_z := rn_istore_n (am_cur_of (i := (90, 1, .istore_n 1, (0, 0, 0), 0)) (by decide +kernel)) hm_z
      obtain ⟨_, s3160_z, s3161_z, g1m, hm_z⟩ := hm_z
      replace g0m := s3160_z 0 _ (by decide) rfl g0m
      clear s3160_z s3161_z
      replace hm_z := rn_iload_n (am_cur_of (i := (91, 1, .iload_n 1, (0, 0, 0), 0)) (by decide +kernel)) g1m hm_z
      replace hm_z := rn_ifT (am_cur_of (i := (92, 3, .ifCond .ge 17, (60, 0, 0), 0)) (by decide +kernel)) (by decide) hm_z
      replace hm_z := rn_iload_n (am_cur_of (i := (109, 1, .iload_n 1, (0, 0, 0), 0)) (by decide +kernel)) g1m hm_z
      replace hm_z := rn_ifT (am_cur_of (i := (110, 3, .ifCond .ge 19, (70, 0, 0), 0)) (by decide +kernel)) (by decide) hm_z
      replace hm_z := rn_aload_n (am_cur_of (i := (129, 1, .aload_n 0, (0, 0, 0), 0)) (by decide +kernel)) g0m hm_z
      replace hm_z := rn_callV (M' := am_m175) (o := 164) (ar := []) (rest := []) (L := lv_args 0 [.ref 164]) (am_cur_of (i := (130, 3, .invokevirtual 309, (175, 1731, 3), 0)) (by decide +kernel)) rfl rfl rfl rfl hm_z
      obtain ⟨r3162_z, h3163_z, q3164_z, hm_z⟩ := hm_z
      rcases rs_ic q3164_z with ⟨i1_z, -⟩ | ⟨i1_z, rfl, i3_z⟩
      · exfalso
        have zz := congrArg Int32.toInt i1_z
        rw [show rg_v g 164 44 = kn from nk1_z.symm, show (64 : Int32).toInt = 64 by decide] at zz
        omega
      · subst i3_z
        rw [show rg_v g 164 44 = kn from nk1_z.symm] at hm_z
        replace hm_z : rn _ _ _ _ [.int 1] _ _ _ := hm_z
        replace hc_z : rn _ _ _ _ [] _ _ _ := hc_z
        replace hc_z := rn_aload_n (am_cur_of (i := (146, 1, .aload_n 0, (0, 0, 0), 0)) (by decide +kernel)) g0_z hc_z
        replace hc_z := rn_getM (x := 23) (am_cur_of (i := (147, 3, .getfield 25, (4, 6, 415), 0)) (by decide +kernel)) (show (am_up h 32 0 (.int (kn + 1))) 44 6 = .ref 23 from R3) hc_z
        replace hc_z := rn_getR (x := 32) (am_cur_of (i := (150, 3, .getfield 242, (1, 19, 316), 0)) (by decide +kernel)) (by decide +kernel) hc_z
        replace hc_z := rn_iconst (w := 1) (am_cur_of (i := (153, 1, .iconst 1, (0, 0, 0), 0)) (by decide +kernel)) (by decide) hc_z
        replace hc_z := rn_aload_n (am_cur_of (i := (154, 1, .aload_n 0, (0, 0, 0), 0)) (by decide +kernel)) g0_z hc_z
        replace hc_z := rn_getI (v := 11) (am_cur_of (i := (155, 3, .getfield 91, (4, 11, 420), 0)) (by decide +kernel)) (by decide +kernel) (show rg_v (am_up h 32 0 (.int (kn + 1))) 44 11 = 11 from kb) hc_z
        replace hc_z := rn_bipush (w := 11) (am_cur_of (i := (158, 2, .bipush 11, (0, 0, 0), 0)) (by decide +kernel)) (by decide) hc_z
        replace hc_z := rn_isub (w := 0) (am_cur_of (i := (160, 1, .isub, (0, 0, 0), 0)) (by decide +kernel)) (by decide) hc_z
        replace hc_z := rn_callV (M' := am_m48) (o := 32) (ar := [.int 0, .int 1]) (rest := []) (L := lv_args 0 [.ref 32, .int 1, .int 0]) (am_cur_of (i := (161, 3, .invokevirtual 276, (48, 845, 3), 0)) (by decide +kernel)) rfl rfl rfl rfl hc_z
        obtain ⟨r3165_z, h3166_z, q3167_z, hc_z⟩ := hc_z
        obtain ⟨rfl, PF⟩ := rs_put23 q3167_z
        replace hc_z : rn _ _ _ _ [] _ _ _ := hc_z
        replace hc_z := rn_goto (am_cur_of (i := (164, 3, .goto 8, (87, 0, 0), 0)) (by decide +kernel)) hc_z
        replace hc_z := rn_aload_n (am_cur_of (i := (172, 1, .aload_n 0, (0, 0, 0), 0)) (by decide +kernel)) g0_z hc_z
        replace hc_z := rn_callV (M' := am_m19) (o := 44) (ar := []) (rest := []) (L := lv_args 0 [.ref 44]) (am_cur_of (i := (173, 3, .invokevirtual 57, (19, 727, 3), 0)) (by decide +kernel)) rfl rfl rfl rfl hc_z
        obtain ⟨r3168_z, h3169_z, q3170_z, hc_z⟩ := hc_z
        have vo := rn_void rfl q3170_z
        subst vo
        replace hm_z := rn_ifT (am_cur_of (i := (133, 3, .ifCond .ne 5, (75, 0, 0), 0)) (by decide +kernel)) (by decide) hm_z
        replace hm_z := rn_aload_n (am_cur_of (i := (138, 1, .aload_n 0, (0, 0, 0), 0)) (by decide +kernel)) g0m hm_z
        replace hm_z := rn_iload_n (am_cur_of (i := (139, 1, .iload_n 1, (0, 0, 0), 0)) (by decide +kernel)) g1m hm_z
        replace hm_z := rn_ifF (am_cur_of (i := (140, 3, .ifCond .lt 7, (80, 0, 0), 0)) (by decide +kernel)) (by decide) hm_z
        replace hm_z := rn_iconst (w := 1) (am_cur_of (i := (143, 1, .iconst 1, (0, 0, 0), 0)) (by decide +kernel)) (by decide) hm_z
        replace hm_z := rn_goto (am_cur_of (i := (144, 3, .goto 4, (81, 0, 0), 0)) (by decide +kernel)) hm_z
        replace hm_z := rn_iload_n (am_cur_of (i := (148, 1, .iload_n 1, (0, 0, 0), 0)) (by decide +kernel)) g1m hm_z
        replace hm_z := rn_ifF (am_cur_of (i := (149, 3, .ifCond .lt 7, (85, 0, 0), 0)) (by decide +kernel)) (by decide) hm_z
        replace hm_z := rn_iload_n (am_cur_of (i := (152, 1, .iload_n 1, (0, 0, 0), 0)) (by decide +kernel)) g1m hm_z
        replace hm_z := rn_goto (am_cur_of (i := (153, 3, .goto 7, (87, 0, 0), 0)) (by decide +kernel)) hm_z
        replace hm_z := rn_iconst (w := 0) (am_cur_of (i := (160, 1, .iconst 0, (0, 0, 0), 0)) (by decide +kernel)) (by decide) hm_z
        replace hm_z := rn_callV (M' := am_m177) (o := 164) (ar := [.int 0, .int 3, .int 1]) (rest := []) (L := lv_args 0 [.ref 164, .int 1, .int 3, .int 0]) (am_cur_of (i := (161, 3, .invokevirtual 291, (177, 1739, 3), 0)) (by decide +kernel)) rfl rfl rfl rfl hm_z
        obtain ⟨r3171_z, h3172_z, q3173_z, hm_z⟩ := hm_z
        obtain ⟨rfl, GF⟩ := rs_grown q3173_z
        replace hm_z : rn _ _ _ _ [] _ _ _ := hm_z
        replace hm_z := rn_aload_n (am_cur_of (i := (164, 1, .aload_n 0, (0, 0, 0), 0)) (by decide +kernel)) g0m hm_z
        replace hm_z := rn_iconst (w := 0) (am_cur_of (i := (165, 1, .iconst 0, (0, 0, 0), 0)) (by decide +kernel)) (by decide) hm_z
        replace hm_z := rn_put (am_cur_of (i := (166, 3, .putfield 315, (12, 45, 1429), 0)) (by decide +kernel)) (by decide +kernel) hm_z
        replace hm_z := rn_aload_n (am_cur_of (i := (169, 1, .aload_n 0, (0, 0, 0), 0)) (by decide +kernel)) g0m hm_z
        replace hm_z := rn_callV (M' := am_m151) (o := 164) (ar := []) (rest := []) (L := lv_args 0 [.ref 164]) (am_cur_of (i := (170, 3, .invokevirtual 191, (151, 1636, 3), 0)) (by decide +kernel)) rfl rfl rfl rfl hm_z
        obtain ⟨r3174_z, h3175_z, q3176_z, hm_z⟩ := hm_z
        have vo := rn_void rfl q3176_z
        subst vo
        have FC : ab_Fr (rz_MC23.drop 1) h h3166_z := ab_Fr_trans (ab_Fr_up rfl ab_Fr_refl) (ab_Fr_sub (by decide) PF)
        have FC' : ab_Fr rz_MC23 h h3166_z := ab_Fr_sub (by decide) FC
        have FM : ab_Fr rz_MM g (am_up h3172_z 164 45 (.int 0)) := ab_Fr_up rfl (ab_Fr_trans (ab_Fr_up rfl ab_Fr_refl) (ab_Fr_sub (by decide) GF))
        obtain ⟨-, -, x2_z, p2_z, R2, le2_z, t5_z, t6_z⟩ := pr_tok (rz_q023 (rq_0 Rk) FC' FM) q3170_z q3176_z
        have A2 := rp_x (by decide) (rz_p23 A FC' FM ((show rg_v h3166_z 32 0 = kn + 1 from ((rg_v_fr PF (by decide)).trans (show rg_v (am_up h 32 0 (.int (kn + 1))) 32 0 = kn + 1 from rfl))).trans (show rg_v (am_up h3172_z 164 45 (.int 0)) 164 44 = kn + 1 from (show rg_v (am_up h3172_z 164 45 (.int 0)) 164 44 = kn + 1 from ((rg_v_fr GF (by decide)).trans (show rg_v (am_up g 164 44 (.int (kn + 1))) 164 44 = kn + 1 from rfl)))).symm) (by rw [show rg_v h3166_z 32 0 = kn + 1 from ((rg_v_fr PF (by decide)).trans (show rg_v (am_up h 32 0 (.int (kn + 1))) 32 0 = kn + 1 from rfl))]; omega) (by rw [show rg_v h3166_z 32 0 = kn + 1 from ((rg_v_fr PF (by decide)).trans (show rg_v (am_up h 32 0 (.int (kn + 1))) 32 0 = kn + 1 from rfl))]; omega)) (rx_C_f t5_z) (rx_M_f t6_z)
        have B2 := rp_tk (rz_t23 B FC FM) (rg_v_fr t5_z (by decide)) (fun k => rg_v_fr t6_z (rg_v_in (by decide) k)) (rx_M_f t6_z)
        have FC47 : ab_Fr [(44, 14), (44, 15), (32, 1), (32, 2), (33, 0), (34, 0)] h h3166_z := ab_Fr_trans (ab_Fr_up rfl ab_Fr_refl) (ab_Fr_sub (by decide) PF)
        have FM184 : ab_Fr [(164, 42), (164, 43), (164, 44), (164, 45), (164, 46), (164, 47), (164, 22), (181, 0), (182, 0), (183, 0), (185, 0)] g (am_up h3172_z 164 45 (.int 0)) := ab_Fr_up rfl (ab_Fr_trans (ab_Fr_up rfl ab_Fr_refl) (ab_Fr_sub (by decide) GF))
        have Z2 : rs 23 h3166_z (am_up h3172_z 164 45 (.int 0)) := rs_keep Zk ((show rg_v h3166_z 44 13 = np from ((rg_v_fr PF (by decide)).trans (show rg_v (am_up h 32 0 (.int (kn + 1))) 44 13 = np from z1_z))).trans z1_z.symm) ((show rg_v (am_up h3172_z 164 45 (.int 0)) 164 41 = np from (show rg_v (am_up h3172_z 164 45 (.int 0)) 164 41 = np from ((rg_v_fr GF (by decide)).trans (show rg_v (am_up g 164 44 (.int (kn + 1))) 164 41 = np from z2_z)))).trans z2_z.symm) ((show rg_v h3166_z 44 14 = op from ((rg_v_fr PF (by decide)).trans (show rg_v (am_up h 32 0 (.int (kn + 1))) 44 14 = op from z4_z))).trans z4_z.symm) ((show rg_v (am_up h3172_z 164 45 (.int 0)) 164 43 = op from (show rg_v (am_up h3172_z 164 45 (.int 0)) 164 43 = op from ((rg_v_fr GF (by decide)).trans (show rg_v (am_up g 164 44 (.int (kn + 1))) 164 43 = op from z5_z)))).trans z5_z.symm) (show (rg_v h 32 0).toInt ≤ (rg_v h3166_z 32 0).toInt by rw [(show rg_v h3166_z 32 0 = kn + 1 from ((rg_v_fr PF (by decide)).trans (show rg_v (am_up h 32 0 (.int (kn + 1))) 32 0 = kn + 1 from rfl))), ekn]; omega) (fun k => rg_v_fr FC47 (rg_v_in (by decide) k)) (fun k => rg_v_fr FM184 (rg_v_in (by decide) k))
        replace Z2 := rs_fr (by decide) Z2 t5_z t6_z
        have e45_z : rg_v h3175_z 164 45 = 0 := (rg_v_fr t6_z (by decide)).trans (show rg_v (am_up h3172_z 164 45 (.int 0)) 164 45 = 0 from (show rg_v (am_up h3172_z 164 45 (.int 0)) 164 45 = 0 from rfl))
        have e46_z : rg_v h3175_z 164 46 = 0 := (rg_v_fr t6_z (by decide)).trans (show rg_v (am_up h3172_z 164 45 (.int 0)) 164 46 = 0 from (show rg_v (am_up h3172_z 164 45 (.int 0)) 164 46 = 0 from ((rg_v_fr GF (by decide)).trans (show rg_v (am_up g 164 44 (.int (kn + 1))) 164 46 = 0 from w2_z))))
        replace hm_z : rn _ _ _ _ [] _ _ _ := hm_z
        replace hc_z : rn _ _ _ _ [] _ _ _ := hc_z
        replace hc_z := rn_iconst (w := 2) (am_cur_of (i := (176, 1, .iconst 2, (0, 0, 0), 0)) (by decide +kernel)) (by decide) hc_z
        replace hc_z := rn_iret (am_cur_of (i := (177, 1, .ireturn, (0, 0, 0), 0)) (by decide +kernel)) hc_z
        obtain ⟨e3177_z, e3178_z⟩ := hc_z
        replace hm_z := rn_iconst (w := 1) (am_cur_of (i := (173, 1, .iconst 1, (0, 0, 0), 0)) (by decide +kernel)) (by decide) hm_z
        replace hm_z := rn_iret (am_cur_of (i := (174, 1, .ireturn, (0, 0, 0), 0)) (by decide +kernel)) hm_z
        obtain ⟨e3179_z, e3180_z⟩ := hm_z
        subst e3177_z e3178_z e3179_z e3180_z
        exact Or.inl ⟨_, x2_z, p2_z, rfl, rfl, R2, le2_z, A2, B2, Z2, Or.inr (Or.inr ⟨rfl, e45_z⟩)⟩
  · have g0_z : am_get (lv_args 0 [.ref 44, .int 1]) 0 = some (.ref 44) := rfl
    have g1_z : am_get (lv_args 0 [.ref 44, .int 1]) 1 = some (.int 1) := rfl
    have g0m : am_get (lv_args 0 [.ref 164]) 0 = some (.ref 164) := rfl
    have Rk := R
    have Zk := Z
    obtain ⟨⟨c1_z, c2_z, c3_z, c4_z, c5_z, c6_z, c7_z, c8_z⟩, ⟨m2_z, m3_z, m4_z, m5_z, m6_z, m7_z, m8_z⟩, R3, R4, R5, R6, R7, R8, R9, R10⟩ := (R : rq T S x p 23 h g)
    obtain ⟨np, op, z1_z, z2_z, z3_z, z4_z, z5_z, z6_z, z7_z, z8_z, z9_z, z10_z⟩ := (Z : rs 23 h g)
    obtain ⟨nk1_z, nk2_z, nk3_z⟩ := A.2.2.2.2.2.1
    replace nk1_z : rg_v h 32 0 = rg_v g 164 44 := nk1_z
    replace nk2_z : 0 ≤ (rg_v h 32 0).toInt := nk2_z
    replace nk3_z : (rg_v h 32 0).toInt ≤ 64 := nk3_z
    replace z8_z : np.toInt ≤ (rg_v h 32 0).toInt + op.toInt := z8_z
    obtain ⟨kn, ekn⟩ : ∃ v, rg_v h 32 0 = v := ⟨_, rfl⟩
    rw [ekn] at nk1_z nk2_z nk3_z z8_z
    have e9_z := rt_c1 (x := kn) (by omega) (by omega)
    replace hc_z := rn_aload_n (am_cur_of (i := (0, 1, .aload_n 0, (0, 0, 0), 0)) (by decide +kernel)) g0_z hc_z
    replace hc_z := rn_getI (v := 2) (am_cur_of (i := (1, 3, .getfield 60, (4, 10, 419), 0)) (by decide +kernel)) (by decide +kernel) ka hc_z
    replace hc_z := rn_bipush (w := 6) (am_cur_of (i := (4, 2, .bipush 6, (0, 0, 0), 0)) (by decide +kernel)) (by decide) hc_z
    replace hc_z := rn_cmpT (am_cur_of (i := (6, 3, .if_icmp .ne 30, (19, 0, 0), 0)) (by decide +kernel)) (by decide) hc_z
    replace hc_z := rn_aload_n (am_cur_of (i := (36, 1, .aload_n 0, (0, 0, 0), 0)) (by decide +kernel)) g0_z hc_z
    replace hc_z := rn_bipush (w := 40) (am_cur_of (i := (37, 2, .bipush 40, (0, 0, 0), 0)) (by decide +kernel)) (by decide) hc_z
    replace hc_z := rn_callV (M' := am_m45) (o := 44) (ar := [.int 40]) (rest := []) (L := lv_args 0 [.ref 44, .int 40]) (am_cur_of (i := (39, 3, .invokevirtual 105, (45, 834, 3), 0)) (by decide +kernel)) rfl rfl rfl rfl hc_z
    obtain ⟨r3181_z, h3182_z, q3183_z, hc_z⟩ := hc_z
    obtain ⟨rfl, yq3183_z⟩ := rp_mkN (fun q => absurd (Eq.trans (Eq.symm ka) q.1) (by decide)) q3183_z
    subst yq3183_z
    replace hc_z : rn _ _ _ _ [.int 0] _ _ _ := hc_z
    replace hc_z := rn_ifT (am_cur_of (i := (42, 3, .ifCond .eq 38, (43, 0, 0), 0)) (by decide +kernel)) (by decide) hc_z
    replace hc_z := rn_aload_n (am_cur_of (i := (80, 1, .aload_n 0, (0, 0, 0), 0)) (by decide +kernel)) g0_z hc_z
    replace hc_z := rn_getI (v := 2) (am_cur_of (i := (81, 3, .getfield 60, (4, 10, 419), 0)) (by decide +kernel)) (by decide +kernel) ka hc_z
    replace hc_z := rn_iconst (w := 4) (am_cur_of (i := (84, 1, .iconst 4, (0, 0, 0), 0)) (by decide +kernel)) (by decide) hc_z
    replace hc_z := rn_cmpT (am_cur_of (i := (85, 3, .if_icmp .ne 40, (64, 0, 0), 0)) (by decide +kernel)) (by decide) hc_z
    replace hc_z := rn_aload_n (am_cur_of (i := (125, 1, .aload_n 0, (0, 0, 0), 0)) (by decide +kernel)) g0_z hc_z
    replace hc_z := rn_getI (v := 2) (am_cur_of (i := (126, 3, .getfield 60, (4, 10, 419), 0)) (by decide +kernel)) (by decide +kernel) ka hc_z
    replace hc_z := rn_iconst (w := 2) (am_cur_of (i := (129, 1, .iconst 2, (0, 0, 0), 0)) (by decide +kernel)) (by decide) hc_z
    replace hc_z := rn_cmpF (am_cur_of (i := (130, 3, .if_icmp .ne 37, (84, 0, 0), 0)) (by decide +kernel)) (by decide) hc_z
    replace hc_z := rn_aload_n (am_cur_of (i := (133, 1, .aload_n 0, (0, 0, 0), 0)) (by decide +kernel)) g0_z hc_z
    replace hc_z := rn_getI (v := 12) (am_cur_of (i := (134, 3, .getfield 91, (4, 11, 420), 0)) (by decide +kernel)) (by decide +kernel) kb hc_z
    replace hc_z := rn_bipush (w := 11) (am_cur_of (i := (137, 2, .bipush 11, (0, 0, 0), 0)) (by decide +kernel)) (by decide) hc_z
    replace hc_z := rn_cmpF (am_cur_of (i := (139, 3, .if_icmp .lt 28, (84, 0, 0), 0)) (by decide +kernel)) (by decide) hc_z
    replace hc_z := rn_aload_n (am_cur_of (i := (142, 1, .aload_n 0, (0, 0, 0), 0)) (by decide +kernel)) g0_z hc_z
    replace hc_z := rn_callV (M' := am_m49) (o := 44) (ar := []) (rest := []) (L := lv_args 0 [.ref 44]) (am_cur_of (i := (143, 3, .invokevirtual 270, (49, 852, 3), 0)) (by decide +kernel)) rfl rfl rfl rfl hc_z
    obtain ⟨r3184_z, h3185_z, q3186_z, hc_z⟩ := hc_z
    rcases rs_ck23 R4 (show h 44 6 = .ref 23 from R3) q3186_z with ⟨ge, rfl, eh⟩ | ⟨lt, rfl, eh⟩
    · subst eh
      replace ge : 64 ≤ kn.toInt := by rw [← ekn]; exact ge
      replace hc_z : rn _ _ _ _ [] _ _ _ := hc_z
      have K := rs_stick (w := 2) (q := p) (a := 51) (by decide) (by decide) rfl (by decide) rfl (show rg_v (am_up (am_up h 44 1 (.int 2)) 44 2 (.int (rg_v h 44 9))) 44 2 = p from R5) hc_z
      replace hm_z := rn_aload_n (am_cur_of (i := (0, 1, .aload_n 0, (0, 0, 0), 0)) (by decide +kernel)) g0m hm_z
      replace hm_z := rn_bipush (w := 40) (am_cur_of (i := (1, 2, .bipush 40, (0, 0, 0), 0)) (by decide +kernel)) (by decide) hm_z
      replace hm_z := rn_callV (M' := am_m171) (o := 164) (ar := [.int 40]) (rest := []) (L := lv_args 0 [.ref 164, .int 40]) (am_cur_of (i := (3, 3, .invokevirtual 194, (171, 1715, 3), 0)) (by decide +kernel)) rfl rfl rfl rfl hm_z
      obtain ⟨r3187_z, h3188_z, q3189_z, hm_z⟩ := hm_z
      obtain ⟨rfl, yq3189_z⟩ := rp_sgN (fun q => absurd (Eq.trans (Eq.symm kc) q.1) (by decide)) q3189_z
      subst yq3189_z
      replace hm_z : rn _ _ _ _ [.int 0] _ _ _ := hm_z
      replace hm_z := rn_ifT (am_cur_of (i := (6, 3, .ifCond .eq 44, (28, 0, 0), 0)) (by decide +kernel)) (by decide) hm_z
      replace hm_z := rn_aload_n (am_cur_of (i := (50, 1, .aload_n 0, (0, 0, 0), 0)) (by decide +kernel)) g0m hm_z
      replace hm_z := rn_bipush (w := 14) (am_cur_of (i := (51, 2, .bipush 14, (0, 0, 0), 0)) (by decide +kernel)) (by decide) hm_z
      replace hm_z := rn_callV (M' := am_m174) (o := 164) (ar := [.int 14]) (rest := []) (L := lv_args 0 [.ref 164, .int 14]) (am_cur_of (i := (53, 3, .invokevirtual 306, (174, 1727, 3), 0)) (by decide +kernel)) rfl rfl rfl rfl hm_z
      obtain ⟨r3190_z, h3191_z, q3192_z, hm_z⟩ := hm_z
      obtain ⟨rfl, yq3192_z⟩ := rp_kyN (fun q => absurd (Eq.trans (Eq.symm kd) q.2) (by decide)) q3192_z
      subst yq3192_z
      replace hm_z : rn _ _ _ _ [.int 0] _ _ _ := hm_z
      replace hm_z := rn_ifT (am_cur_of (i := (56, 3, .ifCond .eq 30, (47, 0, 0), 0)) (by decide +kernel)) (by decide) hm_z
      replace hm_z := rn_aload_n (am_cur_of (i := (86, 1, .aload_n 0, (0, 0, 0), 0)) (by decide +kernel)) g0m hm_z
      replace hm_z := rn_callV (M' := am_m176) (o := 164) (ar := []) (rest := []) (L := lv_args 0 [.ref 164]) (am_cur_of (i := (87, 3, .invokevirtual 312, (176, 1735, 3), 0)) (by decide +kernel)) rfl rfl rfl rfl hm_z
      obtain ⟨r3193_z, h3194_z, q3195_z, hm_z⟩ := hm_z
      obtain ⟨rfl, yq3195_z⟩ := rp_nm (c := 1) (d := 15) kc kd q3195_z
      replace yq3195_z := yq3195_z.symm
      subst yq3195_z
      rw [show rp_nmf 1 15 = 0 from by decide] at hm_z
      replace hm_z : rn _ _ _ _ [.int 0] _ _ _ := hm_z
      replace hm_z := rn_istore_n (am_cur_of (i := (90, 1, .istore_n 1, (0, 0, 0), 0)) (by decide +kernel)) hm_z
      obtain ⟨_, s3196_z, s3197_z, g1m, hm_z⟩ := hm_z
      replace g0m := s3196_z 0 _ (by decide) rfl g0m
      clear s3196_z s3197_z
      replace hm_z := rn_iload_n (am_cur_of (i := (91, 1, .iload_n 1, (0, 0, 0), 0)) (by decide +kernel)) g1m hm_z
      replace hm_z := rn_ifT (am_cur_of (i := (92, 3, .ifCond .ge 17, (60, 0, 0), 0)) (by decide +kernel)) (by decide) hm_z
      replace hm_z := rn_iload_n (am_cur_of (i := (109, 1, .iload_n 1, (0, 0, 0), 0)) (by decide +kernel)) g1m hm_z
      replace hm_z := rn_ifT (am_cur_of (i := (110, 3, .ifCond .ge 19, (70, 0, 0), 0)) (by decide +kernel)) (by decide) hm_z
      replace hm_z := rn_aload_n (am_cur_of (i := (129, 1, .aload_n 0, (0, 0, 0), 0)) (by decide +kernel)) g0m hm_z
      replace hm_z := rn_callV (M' := am_m175) (o := 164) (ar := []) (rest := []) (L := lv_args 0 [.ref 164]) (am_cur_of (i := (130, 3, .invokevirtual 309, (175, 1731, 3), 0)) (by decide +kernel)) rfl rfl rfl rfl hm_z
      obtain ⟨r3198_z, h3199_z, q3200_z, hm_z⟩ := hm_z
      rcases rs_ic q3200_z with ⟨i1_z, rfl, i3_z⟩ | ⟨i1_z, -⟩
      · subst i3_z
        replace hm_z : rn _ _ _ _ [.int 0] _ _ _ := hm_z
        replace hm_z := rn_ifF (am_cur_of (i := (133, 3, .ifCond .ne 5, (75, 0, 0), 0)) (by decide +kernel)) (by decide) hm_z
        replace hm_z := rn_iconst (w := 0) (am_cur_of (i := (136, 1, .iconst 0, (0, 0, 0), 0)) (by decide +kernel)) (by decide) hm_z
        replace hm_z := rn_iret (am_cur_of (i := (137, 1, .ireturn, (0, 0, 0), 0)) (by decide +kernel)) hm_z
        obtain ⟨e3201_z, e3202_z⟩ := hm_z
        subst e3201_z e3202_z
        exact (Or.inr ⟨rfl, 2, by decide, K.1, K.2, rfl, R6⟩)
      · exact absurd (Int32.toInt_inj.mp (show (rg_v g 164 44).toInt = (64 : Int32).toInt from by rw [show rg_v g 164 44 = kn from nk1_z.symm, show (64 : Int32).toInt = 64 by decide]; omega)) i1_z
    · subst eh
      replace lt : kn.toInt < 64 := by rw [← ekn]; exact lt
      rw [show rg_v h 32 0 = kn from ekn] at hc_z
      replace hm_z := rn_aload_n (am_cur_of (i := (0, 1, .aload_n 0, (0, 0, 0), 0)) (by decide +kernel)) g0m hm_z
      replace hm_z := rn_bipush (w := 40) (am_cur_of (i := (1, 2, .bipush 40, (0, 0, 0), 0)) (by decide +kernel)) (by decide) hm_z
      replace hm_z := rn_callV (M' := am_m171) (o := 164) (ar := [.int 40]) (rest := []) (L := lv_args 0 [.ref 164, .int 40]) (am_cur_of (i := (3, 3, .invokevirtual 194, (171, 1715, 3), 0)) (by decide +kernel)) rfl rfl rfl rfl hm_z
      obtain ⟨r3203_z, h3204_z, q3205_z, hm_z⟩ := hm_z
      obtain ⟨rfl, yq3205_z⟩ := rp_sgN (fun q => absurd (Eq.trans (Eq.symm kc) q.1) (by decide)) q3205_z
      subst yq3205_z
      replace hm_z : rn _ _ _ _ [.int 0] _ _ _ := hm_z
      replace hm_z := rn_ifT (am_cur_of (i := (6, 3, .ifCond .eq 44, (28, 0, 0), 0)) (by decide +kernel)) (by decide) hm_z
      replace hm_z := rn_aload_n (am_cur_of (i := (50, 1, .aload_n 0, (0, 0, 0), 0)) (by decide +kernel)) g0m hm_z
      replace hm_z := rn_bipush (w := 14) (am_cur_of (i := (51, 2, .bipush 14, (0, 0, 0), 0)) (by decide +kernel)) (by decide) hm_z
      replace hm_z := rn_callV (M' := am_m174) (o := 164) (ar := [.int 14]) (rest := []) (L := lv_args 0 [.ref 164, .int 14]) (am_cur_of (i := (53, 3, .invokevirtual 306, (174, 1727, 3), 0)) (by decide +kernel)) rfl rfl rfl rfl hm_z
      obtain ⟨r3206_z, h3207_z, q3208_z, hm_z⟩ := hm_z
      obtain ⟨rfl, yq3208_z⟩ := rp_kyN (fun q => absurd (Eq.trans (Eq.symm kd) q.2) (by decide)) q3208_z
      subst yq3208_z
      replace hm_z : rn _ _ _ _ [.int 0] _ _ _ := hm_z
      replace hm_z := rn_ifT (am_cur_of (i := (56, 3, .ifCond .eq 30, (47, 0, 0), 0)) (by decide +kernel)) (by decide) hm_z
      replace hm_z := rn_aload_n (am_cur_of (i := (86, 1, .aload_n 0, (0, 0, 0), 0)) (by decide +kernel)) g0m hm_z
      replace hm_z := rn_callV (M' := am_m176) (o := 164) (ar := []) (rest := []) (L := lv_args 0 [.ref 164]) (am_cur_of (i := (87, 3, .invokevirtual 312, (176, 1735, 3), 0)) (by decide +kernel)) rfl rfl rfl rfl hm_z
      obtain ⟨r3209_z, h3210_z, q3211_z, hm_z⟩ := hm_z
      obtain ⟨rfl, yq3211_z⟩ := rp_nm (c := 1) (d := 15) kc kd q3211_z
      replace yq3211_z := yq3211_z.symm
      subst yq3211_z
      rw [show rp_nmf 1 15 = 0 from by decide] at hm_z
      replace hm_z : rn _ _ _ _ [.int 0] _ _ _ := hm_z
      replace hm_z := rn_istore_n (am_cur_of (i := (90, 1, .istore_n 1, (0, 0, 0), 0)) (by decide +kernel)) hm_z
      obtain ⟨_, s3212_z, s3213_z, g1m, hm_z⟩ := hm_z
      replace g0m := s3212_z 0 _ (by decide) rfl g0m
      clear s3212_z s3213_z
      replace hm_z := rn_iload_n (am_cur_of (i := (91, 1, .iload_n 1, (0, 0, 0), 0)) (by decide +kernel)) g1m hm_z
      replace hm_z := rn_ifT (am_cur_of (i := (92, 3, .ifCond .ge 17, (60, 0, 0), 0)) (by decide +kernel)) (by decide) hm_z
      replace hm_z := rn_iload_n (am_cur_of (i := (109, 1, .iload_n 1, (0, 0, 0), 0)) (by decide +kernel)) g1m hm_z
      replace hm_z := rn_ifT (am_cur_of (i := (110, 3, .ifCond .ge 19, (70, 0, 0), 0)) (by decide +kernel)) (by decide) hm_z
      replace hm_z := rn_aload_n (am_cur_of (i := (129, 1, .aload_n 0, (0, 0, 0), 0)) (by decide +kernel)) g0m hm_z
      replace hm_z := rn_callV (M' := am_m175) (o := 164) (ar := []) (rest := []) (L := lv_args 0 [.ref 164]) (am_cur_of (i := (130, 3, .invokevirtual 309, (175, 1731, 3), 0)) (by decide +kernel)) rfl rfl rfl rfl hm_z
      obtain ⟨r3214_z, h3215_z, q3216_z, hm_z⟩ := hm_z
      rcases rs_ic q3216_z with ⟨i1_z, -⟩ | ⟨i1_z, rfl, i3_z⟩
      · exfalso
        have zz := congrArg Int32.toInt i1_z
        rw [show rg_v g 164 44 = kn from nk1_z.symm, show (64 : Int32).toInt = 64 by decide] at zz
        omega
      · subst i3_z
        rw [show rg_v g 164 44 = kn from nk1_z.symm] at hm_z
        replace hm_z : rn _ _ _ _ [.int 1] _ _ _ := hm_z
        replace hc_z : rn _ _ _ _ [] _ _ _ := hc_z
        replace hc_z := rn_aload_n (am_cur_of (i := (146, 1, .aload_n 0, (0, 0, 0), 0)) (by decide +kernel)) g0_z hc_z
        replace hc_z := rn_getM (x := 23) (am_cur_of (i := (147, 3, .getfield 25, (4, 6, 415), 0)) (by decide +kernel)) (show (am_up h 32 0 (.int (kn + 1))) 44 6 = .ref 23 from R3) hc_z
        replace hc_z := rn_getR (x := 32) (am_cur_of (i := (150, 3, .getfield 242, (1, 19, 316), 0)) (by decide +kernel)) (by decide +kernel) hc_z
        replace hc_z := rn_iconst (w := 1) (am_cur_of (i := (153, 1, .iconst 1, (0, 0, 0), 0)) (by decide +kernel)) (by decide) hc_z
        replace hc_z := rn_aload_n (am_cur_of (i := (154, 1, .aload_n 0, (0, 0, 0), 0)) (by decide +kernel)) g0_z hc_z
        replace hc_z := rn_getI (v := 12) (am_cur_of (i := (155, 3, .getfield 91, (4, 11, 420), 0)) (by decide +kernel)) (by decide +kernel) (show rg_v (am_up h 32 0 (.int (kn + 1))) 44 11 = 12 from kb) hc_z
        replace hc_z := rn_bipush (w := 11) (am_cur_of (i := (158, 2, .bipush 11, (0, 0, 0), 0)) (by decide +kernel)) (by decide) hc_z
        replace hc_z := rn_isub (w := 1) (am_cur_of (i := (160, 1, .isub, (0, 0, 0), 0)) (by decide +kernel)) (by decide) hc_z
        replace hc_z := rn_callV (M' := am_m48) (o := 32) (ar := [.int 1, .int 1]) (rest := []) (L := lv_args 0 [.ref 32, .int 1, .int 1]) (am_cur_of (i := (161, 3, .invokevirtual 276, (48, 845, 3), 0)) (by decide +kernel)) rfl rfl rfl rfl hc_z
        obtain ⟨r3217_z, h3218_z, q3219_z, hc_z⟩ := hc_z
        obtain ⟨rfl, PF⟩ := rs_put23 q3219_z
        replace hc_z : rn _ _ _ _ [] _ _ _ := hc_z
        replace hc_z := rn_goto (am_cur_of (i := (164, 3, .goto 8, (87, 0, 0), 0)) (by decide +kernel)) hc_z
        replace hc_z := rn_aload_n (am_cur_of (i := (172, 1, .aload_n 0, (0, 0, 0), 0)) (by decide +kernel)) g0_z hc_z
        replace hc_z := rn_callV (M' := am_m19) (o := 44) (ar := []) (rest := []) (L := lv_args 0 [.ref 44]) (am_cur_of (i := (173, 3, .invokevirtual 57, (19, 727, 3), 0)) (by decide +kernel)) rfl rfl rfl rfl hc_z
        obtain ⟨r3220_z, h3221_z, q3222_z, hc_z⟩ := hc_z
        have vo := rn_void rfl q3222_z
        subst vo
        replace hm_z := rn_ifT (am_cur_of (i := (133, 3, .ifCond .ne 5, (75, 0, 0), 0)) (by decide +kernel)) (by decide) hm_z
        replace hm_z := rn_aload_n (am_cur_of (i := (138, 1, .aload_n 0, (0, 0, 0), 0)) (by decide +kernel)) g0m hm_z
        replace hm_z := rn_iload_n (am_cur_of (i := (139, 1, .iload_n 1, (0, 0, 0), 0)) (by decide +kernel)) g1m hm_z
        replace hm_z := rn_ifF (am_cur_of (i := (140, 3, .ifCond .lt 7, (80, 0, 0), 0)) (by decide +kernel)) (by decide) hm_z
        replace hm_z := rn_iconst (w := 1) (am_cur_of (i := (143, 1, .iconst 1, (0, 0, 0), 0)) (by decide +kernel)) (by decide) hm_z
        replace hm_z := rn_goto (am_cur_of (i := (144, 3, .goto 4, (81, 0, 0), 0)) (by decide +kernel)) hm_z
        replace hm_z := rn_iload_n (am_cur_of (i := (148, 1, .iload_n 1, (0, 0, 0), 0)) (by decide +kernel)) g1m hm_z
        replace hm_z := rn_ifF (am_cur_of (i := (149, 3, .ifCond .lt 7, (85, 0, 0), 0)) (by decide +kernel)) (by decide) hm_z
        replace hm_z := rn_iload_n (am_cur_of (i := (152, 1, .iload_n 1, (0, 0, 0), 0)) (by decide +kernel)) g1m hm_z
        replace hm_z := rn_goto (am_cur_of (i := (153, 3, .goto 7, (87, 0, 0), 0)) (by decide +kernel)) hm_z
        replace hm_z := rn_iconst (w := 0) (am_cur_of (i := (160, 1, .iconst 0, (0, 0, 0), 0)) (by decide +kernel)) (by decide) hm_z
        replace hm_z := rn_callV (M' := am_m177) (o := 164) (ar := [.int 0, .int 0, .int 1]) (rest := []) (L := lv_args 0 [.ref 164, .int 1, .int 0, .int 0]) (am_cur_of (i := (161, 3, .invokevirtual 291, (177, 1739, 3), 0)) (by decide +kernel)) rfl rfl rfl rfl hm_z
        obtain ⟨r3223_z, h3224_z, q3225_z, hm_z⟩ := hm_z
        obtain ⟨rfl, GF⟩ := rs_grown q3225_z
        replace hm_z : rn _ _ _ _ [] _ _ _ := hm_z
        replace hm_z := rn_aload_n (am_cur_of (i := (164, 1, .aload_n 0, (0, 0, 0), 0)) (by decide +kernel)) g0m hm_z
        replace hm_z := rn_iconst (w := 0) (am_cur_of (i := (165, 1, .iconst 0, (0, 0, 0), 0)) (by decide +kernel)) (by decide) hm_z
        replace hm_z := rn_put (am_cur_of (i := (166, 3, .putfield 315, (12, 45, 1429), 0)) (by decide +kernel)) (by decide +kernel) hm_z
        replace hm_z := rn_aload_n (am_cur_of (i := (169, 1, .aload_n 0, (0, 0, 0), 0)) (by decide +kernel)) g0m hm_z
        replace hm_z := rn_callV (M' := am_m151) (o := 164) (ar := []) (rest := []) (L := lv_args 0 [.ref 164]) (am_cur_of (i := (170, 3, .invokevirtual 191, (151, 1636, 3), 0)) (by decide +kernel)) rfl rfl rfl rfl hm_z
        obtain ⟨r3226_z, h3227_z, q3228_z, hm_z⟩ := hm_z
        have vo := rn_void rfl q3228_z
        subst vo
        have FC : ab_Fr (rz_MC23.drop 1) h h3218_z := ab_Fr_trans (ab_Fr_up rfl ab_Fr_refl) (ab_Fr_sub (by decide) PF)
        have FC' : ab_Fr rz_MC23 h h3218_z := ab_Fr_sub (by decide) FC
        have FM : ab_Fr rz_MM g (am_up h3224_z 164 45 (.int 0)) := ab_Fr_up rfl (ab_Fr_trans (ab_Fr_up rfl ab_Fr_refl) (ab_Fr_sub (by decide) GF))
        obtain ⟨-, -, x2_z, p2_z, R2, le2_z, t5_z, t6_z⟩ := pr_tok (rz_q023 (rq_0 Rk) FC' FM) q3222_z q3228_z
        have A2 := rp_x (by decide) (rz_p23 A FC' FM ((show rg_v h3218_z 32 0 = kn + 1 from ((rg_v_fr PF (by decide)).trans (show rg_v (am_up h 32 0 (.int (kn + 1))) 32 0 = kn + 1 from rfl))).trans (show rg_v (am_up h3224_z 164 45 (.int 0)) 164 44 = kn + 1 from (show rg_v (am_up h3224_z 164 45 (.int 0)) 164 44 = kn + 1 from ((rg_v_fr GF (by decide)).trans (show rg_v (am_up g 164 44 (.int (kn + 1))) 164 44 = kn + 1 from rfl)))).symm) (by rw [show rg_v h3218_z 32 0 = kn + 1 from ((rg_v_fr PF (by decide)).trans (show rg_v (am_up h 32 0 (.int (kn + 1))) 32 0 = kn + 1 from rfl))]; omega) (by rw [show rg_v h3218_z 32 0 = kn + 1 from ((rg_v_fr PF (by decide)).trans (show rg_v (am_up h 32 0 (.int (kn + 1))) 32 0 = kn + 1 from rfl))]; omega)) (rx_C_f t5_z) (rx_M_f t6_z)
        have B2 := rp_tk (rz_t23 B FC FM) (rg_v_fr t5_z (by decide)) (fun k => rg_v_fr t6_z (rg_v_in (by decide) k)) (rx_M_f t6_z)
        have FC47 : ab_Fr [(44, 14), (44, 15), (32, 1), (32, 2), (33, 0), (34, 0)] h h3218_z := ab_Fr_trans (ab_Fr_up rfl ab_Fr_refl) (ab_Fr_sub (by decide) PF)
        have FM184 : ab_Fr [(164, 42), (164, 43), (164, 44), (164, 45), (164, 46), (164, 47), (164, 22), (181, 0), (182, 0), (183, 0), (185, 0)] g (am_up h3224_z 164 45 (.int 0)) := ab_Fr_up rfl (ab_Fr_trans (ab_Fr_up rfl ab_Fr_refl) (ab_Fr_sub (by decide) GF))
        have Z2 : rs 23 h3218_z (am_up h3224_z 164 45 (.int 0)) := rs_keep Zk ((show rg_v h3218_z 44 13 = np from ((rg_v_fr PF (by decide)).trans (show rg_v (am_up h 32 0 (.int (kn + 1))) 44 13 = np from z1_z))).trans z1_z.symm) ((show rg_v (am_up h3224_z 164 45 (.int 0)) 164 41 = np from (show rg_v (am_up h3224_z 164 45 (.int 0)) 164 41 = np from ((rg_v_fr GF (by decide)).trans (show rg_v (am_up g 164 44 (.int (kn + 1))) 164 41 = np from z2_z)))).trans z2_z.symm) ((show rg_v h3218_z 44 14 = op from ((rg_v_fr PF (by decide)).trans (show rg_v (am_up h 32 0 (.int (kn + 1))) 44 14 = op from z4_z))).trans z4_z.symm) ((show rg_v (am_up h3224_z 164 45 (.int 0)) 164 43 = op from (show rg_v (am_up h3224_z 164 45 (.int 0)) 164 43 = op from ((rg_v_fr GF (by decide)).trans (show rg_v (am_up g 164 44 (.int (kn + 1))) 164 43 = op from z5_z)))).trans z5_z.symm) (show (rg_v h 32 0).toInt ≤ (rg_v h3218_z 32 0).toInt by rw [(show rg_v h3218_z 32 0 = kn + 1 from ((rg_v_fr PF (by decide)).trans (show rg_v (am_up h 32 0 (.int (kn + 1))) 32 0 = kn + 1 from rfl))), ekn]; omega) (fun k => rg_v_fr FC47 (rg_v_in (by decide) k)) (fun k => rg_v_fr FM184 (rg_v_in (by decide) k))
        replace Z2 := rs_fr (by decide) Z2 t5_z t6_z
        have e45_z : rg_v h3227_z 164 45 = 0 := (rg_v_fr t6_z (by decide)).trans (show rg_v (am_up h3224_z 164 45 (.int 0)) 164 45 = 0 from (show rg_v (am_up h3224_z 164 45 (.int 0)) 164 45 = 0 from rfl))
        have e46_z : rg_v h3227_z 164 46 = 0 := (rg_v_fr t6_z (by decide)).trans (show rg_v (am_up h3224_z 164 45 (.int 0)) 164 46 = 0 from (show rg_v (am_up h3224_z 164 45 (.int 0)) 164 46 = 0 from ((rg_v_fr GF (by decide)).trans (show rg_v (am_up g 164 44 (.int (kn + 1))) 164 46 = 0 from w2_z))))
        replace hm_z : rn _ _ _ _ [] _ _ _ := hm_z
        replace hc_z : rn _ _ _ _ [] _ _ _ := hc_z
        replace hc_z := rn_iconst (w := 2) (am_cur_of (i := (176, 1, .iconst 2, (0, 0, 0), 0)) (by decide +kernel)) (by decide) hc_z
        replace hc_z := rn_iret (am_cur_of (i := (177, 1, .ireturn, (0, 0, 0), 0)) (by decide +kernel)) hc_z
        obtain ⟨e3229_z, e3230_z⟩ := hc_z
        replace hm_z := rn_iconst (w := 1) (am_cur_of (i := (173, 1, .iconst 1, (0, 0, 0), 0)) (by decide +kernel)) (by decide) hm_z
        replace hm_z := rn_iret (am_cur_of (i := (174, 1, .ireturn, (0, 0, 0), 0)) (by decide +kernel)) hm_z
        obtain ⟨e3231_z, e3232_z⟩ := hm_z
        subst e3229_z e3230_z e3231_z e3232_z
        exact Or.inl ⟨_, x2_z, p2_z, rfl, rfl, R2, le2_z, A2, B2, Z2, Or.inr (Or.inr ⟨rfl, e45_z⟩)⟩
  · have g0_z : am_get (lv_args 0 [.ref 44, .int 1]) 0 = some (.ref 44) := rfl
    have g1_z : am_get (lv_args 0 [.ref 44, .int 1]) 1 = some (.int 1) := rfl
    have g0m : am_get (lv_args 0 [.ref 164]) 0 = some (.ref 164) := rfl
    have Rk := R
    have Zk := Z
    obtain ⟨⟨c1_z, c2_z, c3_z, c4_z, c5_z, c6_z, c7_z, c8_z⟩, ⟨m2_z, m3_z, m4_z, m5_z, m6_z, m7_z, m8_z⟩, R3, R4, R5, R6, R7, R8, R9, R10⟩ := (R : rq T S x p 23 h g)
    obtain ⟨np, op, z1_z, z2_z, z3_z, z4_z, z5_z, z6_z, z7_z, z8_z, z9_z, z10_z⟩ := (Z : rs 23 h g)
    obtain ⟨nk1_z, nk2_z, nk3_z⟩ := A.2.2.2.2.2.1
    replace nk1_z : rg_v h 32 0 = rg_v g 164 44 := nk1_z
    replace nk2_z : 0 ≤ (rg_v h 32 0).toInt := nk2_z
    replace nk3_z : (rg_v h 32 0).toInt ≤ 64 := nk3_z
    replace z8_z : np.toInt ≤ (rg_v h 32 0).toInt + op.toInt := z8_z
    obtain ⟨kn, ekn⟩ : ∃ v, rg_v h 32 0 = v := ⟨_, rfl⟩
    rw [ekn] at nk1_z nk2_z nk3_z z8_z
    have e9_z := rt_c1 (x := kn) (by omega) (by omega)
    replace hc_z := rn_aload_n (am_cur_of (i := (0, 1, .aload_n 0, (0, 0, 0), 0)) (by decide +kernel)) g0_z hc_z
    replace hc_z := rn_getI (v := 2) (am_cur_of (i := (1, 3, .getfield 60, (4, 10, 419), 0)) (by decide +kernel)) (by decide +kernel) ka hc_z
    replace hc_z := rn_bipush (w := 6) (am_cur_of (i := (4, 2, .bipush 6, (0, 0, 0), 0)) (by decide +kernel)) (by decide) hc_z
    replace hc_z := rn_cmpT (am_cur_of (i := (6, 3, .if_icmp .ne 30, (19, 0, 0), 0)) (by decide +kernel)) (by decide) hc_z
    replace hc_z := rn_aload_n (am_cur_of (i := (36, 1, .aload_n 0, (0, 0, 0), 0)) (by decide +kernel)) g0_z hc_z
    replace hc_z := rn_bipush (w := 40) (am_cur_of (i := (37, 2, .bipush 40, (0, 0, 0), 0)) (by decide +kernel)) (by decide) hc_z
    replace hc_z := rn_callV (M' := am_m45) (o := 44) (ar := [.int 40]) (rest := []) (L := lv_args 0 [.ref 44, .int 40]) (am_cur_of (i := (39, 3, .invokevirtual 105, (45, 834, 3), 0)) (by decide +kernel)) rfl rfl rfl rfl hc_z
    obtain ⟨r3233_z, h3234_z, q3235_z, hc_z⟩ := hc_z
    obtain ⟨rfl, yq3235_z⟩ := rp_mkN (fun q => absurd (Eq.trans (Eq.symm ka) q.1) (by decide)) q3235_z
    subst yq3235_z
    replace hc_z : rn _ _ _ _ [.int 0] _ _ _ := hc_z
    replace hc_z := rn_ifT (am_cur_of (i := (42, 3, .ifCond .eq 38, (43, 0, 0), 0)) (by decide +kernel)) (by decide) hc_z
    replace hc_z := rn_aload_n (am_cur_of (i := (80, 1, .aload_n 0, (0, 0, 0), 0)) (by decide +kernel)) g0_z hc_z
    replace hc_z := rn_getI (v := 2) (am_cur_of (i := (81, 3, .getfield 60, (4, 10, 419), 0)) (by decide +kernel)) (by decide +kernel) ka hc_z
    replace hc_z := rn_iconst (w := 4) (am_cur_of (i := (84, 1, .iconst 4, (0, 0, 0), 0)) (by decide +kernel)) (by decide) hc_z
    replace hc_z := rn_cmpT (am_cur_of (i := (85, 3, .if_icmp .ne 40, (64, 0, 0), 0)) (by decide +kernel)) (by decide) hc_z
    replace hc_z := rn_aload_n (am_cur_of (i := (125, 1, .aload_n 0, (0, 0, 0), 0)) (by decide +kernel)) g0_z hc_z
    replace hc_z := rn_getI (v := 2) (am_cur_of (i := (126, 3, .getfield 60, (4, 10, 419), 0)) (by decide +kernel)) (by decide +kernel) ka hc_z
    replace hc_z := rn_iconst (w := 2) (am_cur_of (i := (129, 1, .iconst 2, (0, 0, 0), 0)) (by decide +kernel)) (by decide) hc_z
    replace hc_z := rn_cmpF (am_cur_of (i := (130, 3, .if_icmp .ne 37, (84, 0, 0), 0)) (by decide +kernel)) (by decide) hc_z
    replace hc_z := rn_aload_n (am_cur_of (i := (133, 1, .aload_n 0, (0, 0, 0), 0)) (by decide +kernel)) g0_z hc_z
    replace hc_z := rn_getI (v := 13) (am_cur_of (i := (134, 3, .getfield 91, (4, 11, 420), 0)) (by decide +kernel)) (by decide +kernel) kb hc_z
    replace hc_z := rn_bipush (w := 11) (am_cur_of (i := (137, 2, .bipush 11, (0, 0, 0), 0)) (by decide +kernel)) (by decide) hc_z
    replace hc_z := rn_cmpF (am_cur_of (i := (139, 3, .if_icmp .lt 28, (84, 0, 0), 0)) (by decide +kernel)) (by decide) hc_z
    replace hc_z := rn_aload_n (am_cur_of (i := (142, 1, .aload_n 0, (0, 0, 0), 0)) (by decide +kernel)) g0_z hc_z
    replace hc_z := rn_callV (M' := am_m49) (o := 44) (ar := []) (rest := []) (L := lv_args 0 [.ref 44]) (am_cur_of (i := (143, 3, .invokevirtual 270, (49, 852, 3), 0)) (by decide +kernel)) rfl rfl rfl rfl hc_z
    obtain ⟨r3236_z, h3237_z, q3238_z, hc_z⟩ := hc_z
    rcases rs_ck23 R4 (show h 44 6 = .ref 23 from R3) q3238_z with ⟨ge, rfl, eh⟩ | ⟨lt, rfl, eh⟩
    · subst eh
      replace ge : 64 ≤ kn.toInt := by rw [← ekn]; exact ge
      replace hc_z : rn _ _ _ _ [] _ _ _ := hc_z
      have K := rs_stick (w := 2) (q := p) (a := 51) (by decide) (by decide) rfl (by decide) rfl (show rg_v (am_up (am_up h 44 1 (.int 2)) 44 2 (.int (rg_v h 44 9))) 44 2 = p from R5) hc_z
      replace hm_z := rn_aload_n (am_cur_of (i := (0, 1, .aload_n 0, (0, 0, 0), 0)) (by decide +kernel)) g0m hm_z
      replace hm_z := rn_bipush (w := 40) (am_cur_of (i := (1, 2, .bipush 40, (0, 0, 0), 0)) (by decide +kernel)) (by decide) hm_z
      replace hm_z := rn_callV (M' := am_m171) (o := 164) (ar := [.int 40]) (rest := []) (L := lv_args 0 [.ref 164, .int 40]) (am_cur_of (i := (3, 3, .invokevirtual 194, (171, 1715, 3), 0)) (by decide +kernel)) rfl rfl rfl rfl hm_z
      obtain ⟨r3239_z, h3240_z, q3241_z, hm_z⟩ := hm_z
      obtain ⟨rfl, yq3241_z⟩ := rp_sgN (fun q => absurd (Eq.trans (Eq.symm kc) q.1) (by decide)) q3241_z
      subst yq3241_z
      replace hm_z : rn _ _ _ _ [.int 0] _ _ _ := hm_z
      replace hm_z := rn_ifT (am_cur_of (i := (6, 3, .ifCond .eq 44, (28, 0, 0), 0)) (by decide +kernel)) (by decide) hm_z
      replace hm_z := rn_aload_n (am_cur_of (i := (50, 1, .aload_n 0, (0, 0, 0), 0)) (by decide +kernel)) g0m hm_z
      replace hm_z := rn_bipush (w := 14) (am_cur_of (i := (51, 2, .bipush 14, (0, 0, 0), 0)) (by decide +kernel)) (by decide) hm_z
      replace hm_z := rn_callV (M' := am_m174) (o := 164) (ar := [.int 14]) (rest := []) (L := lv_args 0 [.ref 164, .int 14]) (am_cur_of (i := (53, 3, .invokevirtual 306, (174, 1727, 3), 0)) (by decide +kernel)) rfl rfl rfl rfl hm_z
      obtain ⟨r3242_z, h3243_z, q3244_z, hm_z⟩ := hm_z
      obtain ⟨rfl, yq3244_z⟩ := rp_kyN (fun q => absurd (Eq.trans (Eq.symm kd) q.2) (by decide)) q3244_z
      subst yq3244_z
      replace hm_z : rn _ _ _ _ [.int 0] _ _ _ := hm_z
      replace hm_z := rn_ifT (am_cur_of (i := (56, 3, .ifCond .eq 30, (47, 0, 0), 0)) (by decide +kernel)) (by decide) hm_z
      replace hm_z := rn_aload_n (am_cur_of (i := (86, 1, .aload_n 0, (0, 0, 0), 0)) (by decide +kernel)) g0m hm_z
      replace hm_z := rn_callV (M' := am_m176) (o := 164) (ar := []) (rest := []) (L := lv_args 0 [.ref 164]) (am_cur_of (i := (87, 3, .invokevirtual 312, (176, 1735, 3), 0)) (by decide +kernel)) rfl rfl rfl rfl hm_z
      obtain ⟨r3245_z, h3246_z, q3247_z, hm_z⟩ := hm_z
      obtain ⟨rfl, yq3247_z⟩ := rp_nm (c := 1) (d := 16) kc kd q3247_z
      replace yq3247_z := yq3247_z.symm
      subst yq3247_z
      rw [show rp_nmf 1 16 = 1 from by decide] at hm_z
      replace hm_z : rn _ _ _ _ [.int 1] _ _ _ := hm_z
      replace hm_z := rn_istore_n (am_cur_of (i := (90, 1, .istore_n 1, (0, 0, 0), 0)) (by decide +kernel)) hm_z
      obtain ⟨_, s3248_z, s3249_z, g1m, hm_z⟩ := hm_z
      replace g0m := s3248_z 0 _ (by decide) rfl g0m
      clear s3248_z s3249_z
      replace hm_z := rn_iload_n (am_cur_of (i := (91, 1, .iload_n 1, (0, 0, 0), 0)) (by decide +kernel)) g1m hm_z
      replace hm_z := rn_ifT (am_cur_of (i := (92, 3, .ifCond .ge 17, (60, 0, 0), 0)) (by decide +kernel)) (by decide) hm_z
      replace hm_z := rn_iload_n (am_cur_of (i := (109, 1, .iload_n 1, (0, 0, 0), 0)) (by decide +kernel)) g1m hm_z
      replace hm_z := rn_ifT (am_cur_of (i := (110, 3, .ifCond .ge 19, (70, 0, 0), 0)) (by decide +kernel)) (by decide) hm_z
      replace hm_z := rn_aload_n (am_cur_of (i := (129, 1, .aload_n 0, (0, 0, 0), 0)) (by decide +kernel)) g0m hm_z
      replace hm_z := rn_callV (M' := am_m175) (o := 164) (ar := []) (rest := []) (L := lv_args 0 [.ref 164]) (am_cur_of (i := (130, 3, .invokevirtual 309, (175, 1731, 3), 0)) (by decide +kernel)) rfl rfl rfl rfl hm_z
      obtain ⟨r3250_z, h3251_z, q3252_z, hm_z⟩ := hm_z
      rcases rs_ic q3252_z with ⟨i1_z, rfl, i3_z⟩ | ⟨i1_z, -⟩
      · subst i3_z
        replace hm_z : rn _ _ _ _ [.int 0] _ _ _ := hm_z
        replace hm_z := rn_ifF (am_cur_of (i := (133, 3, .ifCond .ne 5, (75, 0, 0), 0)) (by decide +kernel)) (by decide) hm_z
        replace hm_z := rn_iconst (w := 0) (am_cur_of (i := (136, 1, .iconst 0, (0, 0, 0), 0)) (by decide +kernel)) (by decide) hm_z
        replace hm_z := rn_iret (am_cur_of (i := (137, 1, .ireturn, (0, 0, 0), 0)) (by decide +kernel)) hm_z
        obtain ⟨e3253_z, e3254_z⟩ := hm_z
        subst e3253_z e3254_z
        exact (Or.inr ⟨rfl, 2, by decide, K.1, K.2, rfl, R6⟩)
      · exact absurd (Int32.toInt_inj.mp (show (rg_v g 164 44).toInt = (64 : Int32).toInt from by rw [show rg_v g 164 44 = kn from nk1_z.symm, show (64 : Int32).toInt = 64 by decide]; omega)) i1_z
    · subst eh
      replace lt : kn.toInt < 64 := by rw [← ekn]; exact lt
      rw [show rg_v h 32 0 = kn from ekn] at hc_z
      replace hm_z := rn_aload_n (am_cur_of (i := (0, 1, .aload_n 0, (0, 0, 0), 0)) (by decide +kernel)) g0m hm_z
      replace hm_z := rn_bipush (w := 40) (am_cur_of (i := (1, 2, .bipush 40, (0, 0, 0), 0)) (by decide +kernel)) (by decide) hm_z
      replace hm_z := rn_callV (M' := am_m171) (o := 164) (ar := [.int 40]) (rest := []) (L := lv_args 0 [.ref 164, .int 40]) (am_cur_of (i := (3, 3, .invokevirtual 194, (171, 1715, 3), 0)) (by decide +kernel)) rfl rfl rfl rfl hm_z
      obtain ⟨r3255_z, h3256_z, q3257_z, hm_z⟩ := hm_z
      obtain ⟨rfl, yq3257_z⟩ := rp_sgN (fun q => absurd (Eq.trans (Eq.symm kc) q.1) (by decide)) q3257_z
      subst yq3257_z
      replace hm_z : rn _ _ _ _ [.int 0] _ _ _ := hm_z
      replace hm_z := rn_ifT (am_cur_of (i := (6, 3, .ifCond .eq 44, (28, 0, 0), 0)) (by decide +kernel)) (by decide) hm_z
      replace hm_z := rn_aload_n (am_cur_of (i := (50, 1, .aload_n 0, (0, 0, 0), 0)) (by decide +kernel)) g0m hm_z
      replace hm_z := rn_bipush (w := 14) (am_cur_of (i := (51, 2, .bipush 14, (0, 0, 0), 0)) (by decide +kernel)) (by decide) hm_z
      replace hm_z := rn_callV (M' := am_m174) (o := 164) (ar := [.int 14]) (rest := []) (L := lv_args 0 [.ref 164, .int 14]) (am_cur_of (i := (53, 3, .invokevirtual 306, (174, 1727, 3), 0)) (by decide +kernel)) rfl rfl rfl rfl hm_z
      obtain ⟨r3258_z, h3259_z, q3260_z, hm_z⟩ := hm_z
      obtain ⟨rfl, yq3260_z⟩ := rp_kyN (fun q => absurd (Eq.trans (Eq.symm kd) q.2) (by decide)) q3260_z
      subst yq3260_z
      replace hm_z : rn _ _ _ _ [.int 0] _ _ _ := hm_z
      replace hm_z := rn_ifT (am_cur_of (i := (56, 3, .ifCond .eq 30, (47, 0, 0), 0)) (by decide +kernel)) (by decide) hm_z
      replace hm_z := rn_aload_n (am_cur_of (i := (86, 1, .aload_n 0, (0, 0, 0), 0)) (by decide +kernel)) g0m hm_z
      replace hm_z := rn_callV (M' := am_m176) (o := 164) (ar := []) (rest := []) (L := lv_args 0 [.ref 164]) (am_cur_of (i := (87, 3, .invokevirtual 312, (176, 1735, 3), 0)) (by decide +kernel)) rfl rfl rfl rfl hm_z
      obtain ⟨r3261_z, h3262_z, q3263_z, hm_z⟩ := hm_z
      obtain ⟨rfl, yq3263_z⟩ := rp_nm (c := 1) (d := 16) kc kd q3263_z
      replace yq3263_z := yq3263_z.symm
      subst yq3263_z
      rw [show rp_nmf 1 16 = 1 from by decide] at hm_z
      replace hm_z : rn _ _ _ _ [.int 1] _ _ _ := hm_z
      replace hm_z := rn_istore_n (am_cur_of (i := (90, 1, .istore_n 1, (0, 0, 0), 0)) (by decide +kernel)) hm_z
      obtain ⟨_, s3264_z, s3265_z, g1m, hm_z⟩ := hm_z
      replace g0m := s3264_z 0 _ (by decide) rfl g0m
      clear s3264_z s3265_z
      replace hm_z := rn_iload_n (am_cur_of (i := (91, 1, .iload_n 1, (0, 0, 0), 0)) (by decide +kernel)) g1m hm_z
      replace hm_z := rn_ifT (am_cur_of (i := (92, 3, .ifCond .ge 17, (60, 0, 0), 0)) (by decide +kernel)) (by decide) hm_z
      replace hm_z := rn_iload_n (am_cur_of (i := (109, 1, .iload_n 1, (0, 0, 0), 0)) (by decide +kernel)) g1m hm_z
      replace hm_z := rn_ifT (am_cur_of (i := (110, 3, .ifCond .ge 19, (70, 0, 0), 0)) (by decide +kernel)) (by decide) hm_z
      replace hm_z := rn_aload_n (am_cur_of (i := (129, 1, .aload_n 0, (0, 0, 0), 0)) (by decide +kernel)) g0m hm_z
      replace hm_z := rn_callV (M' := am_m175) (o := 164) (ar := []) (rest := []) (L := lv_args 0 [.ref 164]) (am_cur_of (i := (130, 3, .invokevirtual 309, (175, 1731, 3), 0)) (by decide +kernel)) rfl rfl rfl rfl hm_z
      obtain ⟨r3266_z, h3267_z, q3268_z, hm_z⟩ := hm_z
      rcases rs_ic q3268_z with ⟨i1_z, -⟩ | ⟨i1_z, rfl, i3_z⟩
      · exfalso
        have zz := congrArg Int32.toInt i1_z
        rw [show rg_v g 164 44 = kn from nk1_z.symm, show (64 : Int32).toInt = 64 by decide] at zz
        omega
      · subst i3_z
        rw [show rg_v g 164 44 = kn from nk1_z.symm] at hm_z
        replace hm_z : rn _ _ _ _ [.int 1] _ _ _ := hm_z
        replace hc_z : rn _ _ _ _ [] _ _ _ := hc_z
        replace hc_z := rn_aload_n (am_cur_of (i := (146, 1, .aload_n 0, (0, 0, 0), 0)) (by decide +kernel)) g0_z hc_z
        replace hc_z := rn_getM (x := 23) (am_cur_of (i := (147, 3, .getfield 25, (4, 6, 415), 0)) (by decide +kernel)) (show (am_up h 32 0 (.int (kn + 1))) 44 6 = .ref 23 from R3) hc_z
        replace hc_z := rn_getR (x := 32) (am_cur_of (i := (150, 3, .getfield 242, (1, 19, 316), 0)) (by decide +kernel)) (by decide +kernel) hc_z
        replace hc_z := rn_iconst (w := 1) (am_cur_of (i := (153, 1, .iconst 1, (0, 0, 0), 0)) (by decide +kernel)) (by decide) hc_z
        replace hc_z := rn_aload_n (am_cur_of (i := (154, 1, .aload_n 0, (0, 0, 0), 0)) (by decide +kernel)) g0_z hc_z
        replace hc_z := rn_getI (v := 13) (am_cur_of (i := (155, 3, .getfield 91, (4, 11, 420), 0)) (by decide +kernel)) (by decide +kernel) (show rg_v (am_up h 32 0 (.int (kn + 1))) 44 11 = 13 from kb) hc_z
        replace hc_z := rn_bipush (w := 11) (am_cur_of (i := (158, 2, .bipush 11, (0, 0, 0), 0)) (by decide +kernel)) (by decide) hc_z
        replace hc_z := rn_isub (w := 2) (am_cur_of (i := (160, 1, .isub, (0, 0, 0), 0)) (by decide +kernel)) (by decide) hc_z
        replace hc_z := rn_callV (M' := am_m48) (o := 32) (ar := [.int 2, .int 1]) (rest := []) (L := lv_args 0 [.ref 32, .int 1, .int 2]) (am_cur_of (i := (161, 3, .invokevirtual 276, (48, 845, 3), 0)) (by decide +kernel)) rfl rfl rfl rfl hc_z
        obtain ⟨r3269_z, h3270_z, q3271_z, hc_z⟩ := hc_z
        obtain ⟨rfl, PF⟩ := rs_put23 q3271_z
        replace hc_z : rn _ _ _ _ [] _ _ _ := hc_z
        replace hc_z := rn_goto (am_cur_of (i := (164, 3, .goto 8, (87, 0, 0), 0)) (by decide +kernel)) hc_z
        replace hc_z := rn_aload_n (am_cur_of (i := (172, 1, .aload_n 0, (0, 0, 0), 0)) (by decide +kernel)) g0_z hc_z
        replace hc_z := rn_callV (M' := am_m19) (o := 44) (ar := []) (rest := []) (L := lv_args 0 [.ref 44]) (am_cur_of (i := (173, 3, .invokevirtual 57, (19, 727, 3), 0)) (by decide +kernel)) rfl rfl rfl rfl hc_z
        obtain ⟨r3272_z, h3273_z, q3274_z, hc_z⟩ := hc_z
        have vo := rn_void rfl q3274_z
        subst vo
        replace hm_z := rn_ifT (am_cur_of (i := (133, 3, .ifCond .ne 5, (75, 0, 0), 0)) (by decide +kernel)) (by decide) hm_z
        replace hm_z := rn_aload_n (am_cur_of (i := (138, 1, .aload_n 0, (0, 0, 0), 0)) (by decide +kernel)) g0m hm_z
        replace hm_z := rn_iload_n (am_cur_of (i := (139, 1, .iload_n 1, (0, 0, 0), 0)) (by decide +kernel)) g1m hm_z
        replace hm_z := rn_ifF (am_cur_of (i := (140, 3, .ifCond .lt 7, (80, 0, 0), 0)) (by decide +kernel)) (by decide) hm_z
        replace hm_z := rn_iconst (w := 1) (am_cur_of (i := (143, 1, .iconst 1, (0, 0, 0), 0)) (by decide +kernel)) (by decide) hm_z
        replace hm_z := rn_goto (am_cur_of (i := (144, 3, .goto 4, (81, 0, 0), 0)) (by decide +kernel)) hm_z
        replace hm_z := rn_iload_n (am_cur_of (i := (148, 1, .iload_n 1, (0, 0, 0), 0)) (by decide +kernel)) g1m hm_z
        replace hm_z := rn_ifF (am_cur_of (i := (149, 3, .ifCond .lt 7, (85, 0, 0), 0)) (by decide +kernel)) (by decide) hm_z
        replace hm_z := rn_iload_n (am_cur_of (i := (152, 1, .iload_n 1, (0, 0, 0), 0)) (by decide +kernel)) g1m hm_z
        replace hm_z := rn_goto (am_cur_of (i := (153, 3, .goto 7, (87, 0, 0), 0)) (by decide +kernel)) hm_z
        replace hm_z := rn_iconst (w := 0) (am_cur_of (i := (160, 1, .iconst 0, (0, 0, 0), 0)) (by decide +kernel)) (by decide) hm_z
        replace hm_z := rn_callV (M' := am_m177) (o := 164) (ar := [.int 0, .int 1, .int 1]) (rest := []) (L := lv_args 0 [.ref 164, .int 1, .int 1, .int 0]) (am_cur_of (i := (161, 3, .invokevirtual 291, (177, 1739, 3), 0)) (by decide +kernel)) rfl rfl rfl rfl hm_z
        obtain ⟨r3275_z, h3276_z, q3277_z, hm_z⟩ := hm_z
        obtain ⟨rfl, GF⟩ := rs_grown q3277_z
        replace hm_z : rn _ _ _ _ [] _ _ _ := hm_z
        replace hm_z := rn_aload_n (am_cur_of (i := (164, 1, .aload_n 0, (0, 0, 0), 0)) (by decide +kernel)) g0m hm_z
        replace hm_z := rn_iconst (w := 0) (am_cur_of (i := (165, 1, .iconst 0, (0, 0, 0), 0)) (by decide +kernel)) (by decide) hm_z
        replace hm_z := rn_put (am_cur_of (i := (166, 3, .putfield 315, (12, 45, 1429), 0)) (by decide +kernel)) (by decide +kernel) hm_z
        replace hm_z := rn_aload_n (am_cur_of (i := (169, 1, .aload_n 0, (0, 0, 0), 0)) (by decide +kernel)) g0m hm_z
        replace hm_z := rn_callV (M' := am_m151) (o := 164) (ar := []) (rest := []) (L := lv_args 0 [.ref 164]) (am_cur_of (i := (170, 3, .invokevirtual 191, (151, 1636, 3), 0)) (by decide +kernel)) rfl rfl rfl rfl hm_z
        obtain ⟨r3278_z, h3279_z, q3280_z, hm_z⟩ := hm_z
        have vo := rn_void rfl q3280_z
        subst vo
        have FC : ab_Fr (rz_MC23.drop 1) h h3270_z := ab_Fr_trans (ab_Fr_up rfl ab_Fr_refl) (ab_Fr_sub (by decide) PF)
        have FC' : ab_Fr rz_MC23 h h3270_z := ab_Fr_sub (by decide) FC
        have FM : ab_Fr rz_MM g (am_up h3276_z 164 45 (.int 0)) := ab_Fr_up rfl (ab_Fr_trans (ab_Fr_up rfl ab_Fr_refl) (ab_Fr_sub (by decide) GF))
        obtain ⟨-, -, x2_z, p2_z, R2, le2_z, t5_z, t6_z⟩ := pr_tok (rz_q023 (rq_0 Rk) FC' FM) q3274_z q3280_z
        have A2 := rp_x (by decide) (rz_p23 A FC' FM ((show rg_v h3270_z 32 0 = kn + 1 from ((rg_v_fr PF (by decide)).trans (show rg_v (am_up h 32 0 (.int (kn + 1))) 32 0 = kn + 1 from rfl))).trans (show rg_v (am_up h3276_z 164 45 (.int 0)) 164 44 = kn + 1 from (show rg_v (am_up h3276_z 164 45 (.int 0)) 164 44 = kn + 1 from ((rg_v_fr GF (by decide)).trans (show rg_v (am_up g 164 44 (.int (kn + 1))) 164 44 = kn + 1 from rfl)))).symm) (by rw [show rg_v h3270_z 32 0 = kn + 1 from ((rg_v_fr PF (by decide)).trans (show rg_v (am_up h 32 0 (.int (kn + 1))) 32 0 = kn + 1 from rfl))]; omega) (by rw [show rg_v h3270_z 32 0 = kn + 1 from ((rg_v_fr PF (by decide)).trans (show rg_v (am_up h 32 0 (.int (kn + 1))) 32 0 = kn + 1 from rfl))]; omega)) (rx_C_f t5_z) (rx_M_f t6_z)
        have B2 := rp_tk (rz_t23 B FC FM) (rg_v_fr t5_z (by decide)) (fun k => rg_v_fr t6_z (rg_v_in (by decide) k)) (rx_M_f t6_z)
        have FC47 : ab_Fr [(44, 14), (44, 15), (32, 1), (32, 2), (33, 0), (34, 0)] h h3270_z := ab_Fr_trans (ab_Fr_up rfl ab_Fr_refl) (ab_Fr_sub (by decide) PF)
        have FM184 : ab_Fr [(164, 42), (164, 43), (164, 44), (164, 45), (164, 46), (164, 47), (164, 22), (181, 0), (182, 0), (183, 0), (185, 0)] g (am_up h3276_z 164 45 (.int 0)) := ab_Fr_up rfl (ab_Fr_trans (ab_Fr_up rfl ab_Fr_refl) (ab_Fr_sub (by decide) GF))
        have Z2 : rs 23 h3270_z (am_up h3276_z 164 45 (.int 0)) := rs_keep Zk ((show rg_v h3270_z 44 13 = np from ((rg_v_fr PF (by decide)).trans (show rg_v (am_up h 32 0 (.int (kn + 1))) 44 13 = np from z1_z))).trans z1_z.symm) ((show rg_v (am_up h3276_z 164 45 (.int 0)) 164 41 = np from (show rg_v (am_up h3276_z 164 45 (.int 0)) 164 41 = np from ((rg_v_fr GF (by decide)).trans (show rg_v (am_up g 164 44 (.int (kn + 1))) 164 41 = np from z2_z)))).trans z2_z.symm) ((show rg_v h3270_z 44 14 = op from ((rg_v_fr PF (by decide)).trans (show rg_v (am_up h 32 0 (.int (kn + 1))) 44 14 = op from z4_z))).trans z4_z.symm) ((show rg_v (am_up h3276_z 164 45 (.int 0)) 164 43 = op from (show rg_v (am_up h3276_z 164 45 (.int 0)) 164 43 = op from ((rg_v_fr GF (by decide)).trans (show rg_v (am_up g 164 44 (.int (kn + 1))) 164 43 = op from z5_z)))).trans z5_z.symm) (show (rg_v h 32 0).toInt ≤ (rg_v h3270_z 32 0).toInt by rw [(show rg_v h3270_z 32 0 = kn + 1 from ((rg_v_fr PF (by decide)).trans (show rg_v (am_up h 32 0 (.int (kn + 1))) 32 0 = kn + 1 from rfl))), ekn]; omega) (fun k => rg_v_fr FC47 (rg_v_in (by decide) k)) (fun k => rg_v_fr FM184 (rg_v_in (by decide) k))
        replace Z2 := rs_fr (by decide) Z2 t5_z t6_z
        have e45_z : rg_v h3279_z 164 45 = 0 := (rg_v_fr t6_z (by decide)).trans (show rg_v (am_up h3276_z 164 45 (.int 0)) 164 45 = 0 from (show rg_v (am_up h3276_z 164 45 (.int 0)) 164 45 = 0 from rfl))
        have e46_z : rg_v h3279_z 164 46 = 0 := (rg_v_fr t6_z (by decide)).trans (show rg_v (am_up h3276_z 164 45 (.int 0)) 164 46 = 0 from (show rg_v (am_up h3276_z 164 45 (.int 0)) 164 46 = 0 from ((rg_v_fr GF (by decide)).trans (show rg_v (am_up g 164 44 (.int (kn + 1))) 164 46 = 0 from w2_z))))
        replace hm_z : rn _ _ _ _ [] _ _ _ := hm_z
        replace hc_z : rn _ _ _ _ [] _ _ _ := hc_z
        replace hc_z := rn_iconst (w := 2) (am_cur_of (i := (176, 1, .iconst 2, (0, 0, 0), 0)) (by decide +kernel)) (by decide) hc_z
        replace hc_z := rn_iret (am_cur_of (i := (177, 1, .ireturn, (0, 0, 0), 0)) (by decide +kernel)) hc_z
        obtain ⟨e3281_z, e3282_z⟩ := hc_z
        replace hm_z := rn_iconst (w := 1) (am_cur_of (i := (173, 1, .iconst 1, (0, 0, 0), 0)) (by decide +kernel)) (by decide) hm_z
        replace hm_z := rn_iret (am_cur_of (i := (174, 1, .ireturn, (0, 0, 0), 0)) (by decide +kernel)) hm_z
        obtain ⟨e3283_z, e3284_z⟩ := hm_z
        subst e3281_z e3282_z e3283_z e3284_z
        exact Or.inl ⟨_, x2_z, p2_z, rfl, rfl, R2, le2_z, A2, B2, Z2, Or.inr (Or.inr ⟨rfl, e45_z⟩)⟩
  · have g0_z : am_get (lv_args 0 [.ref 44, .int 1]) 0 = some (.ref 44) := rfl
    have g1_z : am_get (lv_args 0 [.ref 44, .int 1]) 1 = some (.int 1) := rfl
    have g0m : am_get (lv_args 0 [.ref 164]) 0 = some (.ref 164) := rfl
    have Rk := R
    have Zk := Z
    obtain ⟨⟨c1_z, c2_z, c3_z, c4_z, c5_z, c6_z, c7_z, c8_z⟩, ⟨m2_z, m3_z, m4_z, m5_z, m6_z, m7_z, m8_z⟩, R3, R4, R5, R6, R7, R8, R9, R10⟩ := (R : rq T S x p 23 h g)
    obtain ⟨np, op, z1_z, z2_z, z3_z, z4_z, z5_z, z6_z, z7_z, z8_z, z9_z, z10_z⟩ := (Z : rs 23 h g)
    obtain ⟨nk1_z, nk2_z, nk3_z⟩ := A.2.2.2.2.2.1
    replace nk1_z : rg_v h 32 0 = rg_v g 164 44 := nk1_z
    replace nk2_z : 0 ≤ (rg_v h 32 0).toInt := nk2_z
    replace nk3_z : (rg_v h 32 0).toInt ≤ 64 := nk3_z
    replace z8_z : np.toInt ≤ (rg_v h 32 0).toInt + op.toInt := z8_z
    obtain ⟨kn, ekn⟩ : ∃ v, rg_v h 32 0 = v := ⟨_, rfl⟩
    rw [ekn] at nk1_z nk2_z nk3_z z8_z
    have e9_z := rt_c1 (x := kn) (by omega) (by omega)
    replace hc_z := rn_aload_n (am_cur_of (i := (0, 1, .aload_n 0, (0, 0, 0), 0)) (by decide +kernel)) g0_z hc_z
    replace hc_z := rn_getI (v := 2) (am_cur_of (i := (1, 3, .getfield 60, (4, 10, 419), 0)) (by decide +kernel)) (by decide +kernel) ka hc_z
    replace hc_z := rn_bipush (w := 6) (am_cur_of (i := (4, 2, .bipush 6, (0, 0, 0), 0)) (by decide +kernel)) (by decide) hc_z
    replace hc_z := rn_cmpT (am_cur_of (i := (6, 3, .if_icmp .ne 30, (19, 0, 0), 0)) (by decide +kernel)) (by decide) hc_z
    replace hc_z := rn_aload_n (am_cur_of (i := (36, 1, .aload_n 0, (0, 0, 0), 0)) (by decide +kernel)) g0_z hc_z
    replace hc_z := rn_bipush (w := 40) (am_cur_of (i := (37, 2, .bipush 40, (0, 0, 0), 0)) (by decide +kernel)) (by decide) hc_z
    replace hc_z := rn_callV (M' := am_m45) (o := 44) (ar := [.int 40]) (rest := []) (L := lv_args 0 [.ref 44, .int 40]) (am_cur_of (i := (39, 3, .invokevirtual 105, (45, 834, 3), 0)) (by decide +kernel)) rfl rfl rfl rfl hc_z
    obtain ⟨r3285_z, h3286_z, q3287_z, hc_z⟩ := hc_z
    obtain ⟨rfl, yq3287_z⟩ := rp_mkN (fun q => absurd (Eq.trans (Eq.symm ka) q.1) (by decide)) q3287_z
    subst yq3287_z
    replace hc_z : rn _ _ _ _ [.int 0] _ _ _ := hc_z
    replace hc_z := rn_ifT (am_cur_of (i := (42, 3, .ifCond .eq 38, (43, 0, 0), 0)) (by decide +kernel)) (by decide) hc_z
    replace hc_z := rn_aload_n (am_cur_of (i := (80, 1, .aload_n 0, (0, 0, 0), 0)) (by decide +kernel)) g0_z hc_z
    replace hc_z := rn_getI (v := 2) (am_cur_of (i := (81, 3, .getfield 60, (4, 10, 419), 0)) (by decide +kernel)) (by decide +kernel) ka hc_z
    replace hc_z := rn_iconst (w := 4) (am_cur_of (i := (84, 1, .iconst 4, (0, 0, 0), 0)) (by decide +kernel)) (by decide) hc_z
    replace hc_z := rn_cmpT (am_cur_of (i := (85, 3, .if_icmp .ne 40, (64, 0, 0), 0)) (by decide +kernel)) (by decide) hc_z
    replace hc_z := rn_aload_n (am_cur_of (i := (125, 1, .aload_n 0, (0, 0, 0), 0)) (by decide +kernel)) g0_z hc_z
    replace hc_z := rn_getI (v := 2) (am_cur_of (i := (126, 3, .getfield 60, (4, 10, 419), 0)) (by decide +kernel)) (by decide +kernel) ka hc_z
    replace hc_z := rn_iconst (w := 2) (am_cur_of (i := (129, 1, .iconst 2, (0, 0, 0), 0)) (by decide +kernel)) (by decide) hc_z
    replace hc_z := rn_cmpF (am_cur_of (i := (130, 3, .if_icmp .ne 37, (84, 0, 0), 0)) (by decide +kernel)) (by decide) hc_z
    replace hc_z := rn_aload_n (am_cur_of (i := (133, 1, .aload_n 0, (0, 0, 0), 0)) (by decide +kernel)) g0_z hc_z
    replace hc_z := rn_getI (v := 14) (am_cur_of (i := (134, 3, .getfield 91, (4, 11, 420), 0)) (by decide +kernel)) (by decide +kernel) kb hc_z
    replace hc_z := rn_bipush (w := 11) (am_cur_of (i := (137, 2, .bipush 11, (0, 0, 0), 0)) (by decide +kernel)) (by decide) hc_z
    replace hc_z := rn_cmpF (am_cur_of (i := (139, 3, .if_icmp .lt 28, (84, 0, 0), 0)) (by decide +kernel)) (by decide) hc_z
    replace hc_z := rn_aload_n (am_cur_of (i := (142, 1, .aload_n 0, (0, 0, 0), 0)) (by decide +kernel)) g0_z hc_z
    replace hc_z := rn_callV (M' := am_m49) (o := 44) (ar := []) (rest := []) (L := lv_args 0 [.ref 44]) (am_cur_of (i := (143, 3, .invokevirtual 270, (49, 852, 3), 0)) (by decide +kernel)) rfl rfl rfl rfl hc_z
    obtain ⟨r3288_z, h3289_z, q3290_z, hc_z⟩ := hc_z
    rcases rs_ck23 R4 (show h 44 6 = .ref 23 from R3) q3290_z with ⟨ge, rfl, eh⟩ | ⟨lt, rfl, eh⟩
    · subst eh
      replace ge : 64 ≤ kn.toInt := by rw [← ekn]; exact ge
      replace hc_z : rn _ _ _ _ [] _ _ _ := hc_z
      have K := rs_stick (w := 2) (q := p) (a := 51) (by decide) (by decide) rfl (by decide) rfl (show rg_v (am_up (am_up h 44 1 (.int 2)) 44 2 (.int (rg_v h 44 9))) 44 2 = p from R5) hc_z
      replace hm_z := rn_aload_n (am_cur_of (i := (0, 1, .aload_n 0, (0, 0, 0), 0)) (by decide +kernel)) g0m hm_z
      replace hm_z := rn_bipush (w := 40) (am_cur_of (i := (1, 2, .bipush 40, (0, 0, 0), 0)) (by decide +kernel)) (by decide) hm_z
      replace hm_z := rn_callV (M' := am_m171) (o := 164) (ar := [.int 40]) (rest := []) (L := lv_args 0 [.ref 164, .int 40]) (am_cur_of (i := (3, 3, .invokevirtual 194, (171, 1715, 3), 0)) (by decide +kernel)) rfl rfl rfl rfl hm_z
      obtain ⟨r3291_z, h3292_z, q3293_z, hm_z⟩ := hm_z
      obtain ⟨rfl, yq3293_z⟩ := rp_sgN (fun q => absurd (Eq.trans (Eq.symm kc) q.1) (by decide)) q3293_z
      subst yq3293_z
      replace hm_z : rn _ _ _ _ [.int 0] _ _ _ := hm_z
      replace hm_z := rn_ifT (am_cur_of (i := (6, 3, .ifCond .eq 44, (28, 0, 0), 0)) (by decide +kernel)) (by decide) hm_z
      replace hm_z := rn_aload_n (am_cur_of (i := (50, 1, .aload_n 0, (0, 0, 0), 0)) (by decide +kernel)) g0m hm_z
      replace hm_z := rn_bipush (w := 14) (am_cur_of (i := (51, 2, .bipush 14, (0, 0, 0), 0)) (by decide +kernel)) (by decide) hm_z
      replace hm_z := rn_callV (M' := am_m174) (o := 164) (ar := [.int 14]) (rest := []) (L := lv_args 0 [.ref 164, .int 14]) (am_cur_of (i := (53, 3, .invokevirtual 306, (174, 1727, 3), 0)) (by decide +kernel)) rfl rfl rfl rfl hm_z
      obtain ⟨r3294_z, h3295_z, q3296_z, hm_z⟩ := hm_z
      obtain ⟨rfl, yq3296_z⟩ := rp_kyN (fun q => absurd (Eq.trans (Eq.symm kd) q.2) (by decide)) q3296_z
      subst yq3296_z
      replace hm_z : rn _ _ _ _ [.int 0] _ _ _ := hm_z
      replace hm_z := rn_ifT (am_cur_of (i := (56, 3, .ifCond .eq 30, (47, 0, 0), 0)) (by decide +kernel)) (by decide) hm_z
      replace hm_z := rn_aload_n (am_cur_of (i := (86, 1, .aload_n 0, (0, 0, 0), 0)) (by decide +kernel)) g0m hm_z
      replace hm_z := rn_callV (M' := am_m176) (o := 164) (ar := []) (rest := []) (L := lv_args 0 [.ref 164]) (am_cur_of (i := (87, 3, .invokevirtual 312, (176, 1735, 3), 0)) (by decide +kernel)) rfl rfl rfl rfl hm_z
      obtain ⟨r3297_z, h3298_z, q3299_z, hm_z⟩ := hm_z
      obtain ⟨rfl, yq3299_z⟩ := rp_nm (c := 1) (d := 17) kc kd q3299_z
      replace yq3299_z := yq3299_z.symm
      subst yq3299_z
      rw [show rp_nmf 1 17 = 2 from by decide] at hm_z
      replace hm_z : rn _ _ _ _ [.int 2] _ _ _ := hm_z
      replace hm_z := rn_istore_n (am_cur_of (i := (90, 1, .istore_n 1, (0, 0, 0), 0)) (by decide +kernel)) hm_z
      obtain ⟨_, s3300_z, s3301_z, g1m, hm_z⟩ := hm_z
      replace g0m := s3300_z 0 _ (by decide) rfl g0m
      clear s3300_z s3301_z
      replace hm_z := rn_iload_n (am_cur_of (i := (91, 1, .iload_n 1, (0, 0, 0), 0)) (by decide +kernel)) g1m hm_z
      replace hm_z := rn_ifT (am_cur_of (i := (92, 3, .ifCond .ge 17, (60, 0, 0), 0)) (by decide +kernel)) (by decide) hm_z
      replace hm_z := rn_iload_n (am_cur_of (i := (109, 1, .iload_n 1, (0, 0, 0), 0)) (by decide +kernel)) g1m hm_z
      replace hm_z := rn_ifT (am_cur_of (i := (110, 3, .ifCond .ge 19, (70, 0, 0), 0)) (by decide +kernel)) (by decide) hm_z
      replace hm_z := rn_aload_n (am_cur_of (i := (129, 1, .aload_n 0, (0, 0, 0), 0)) (by decide +kernel)) g0m hm_z
      replace hm_z := rn_callV (M' := am_m175) (o := 164) (ar := []) (rest := []) (L := lv_args 0 [.ref 164]) (am_cur_of (i := (130, 3, .invokevirtual 309, (175, 1731, 3), 0)) (by decide +kernel)) rfl rfl rfl rfl hm_z
      obtain ⟨r3302_z, h3303_z, q3304_z, hm_z⟩ := hm_z
      rcases rs_ic q3304_z with ⟨i1_z, rfl, i3_z⟩ | ⟨i1_z, -⟩
      · subst i3_z
        replace hm_z : rn _ _ _ _ [.int 0] _ _ _ := hm_z
        replace hm_z := rn_ifF (am_cur_of (i := (133, 3, .ifCond .ne 5, (75, 0, 0), 0)) (by decide +kernel)) (by decide) hm_z
        replace hm_z := rn_iconst (w := 0) (am_cur_of (i := (136, 1, .iconst 0, (0, 0, 0), 0)) (by decide +kernel)) (by decide) hm_z
        replace hm_z := rn_iret (am_cur_of (i := (137, 1, .ireturn, (0, 0, 0), 0)) (by decide +kernel)) hm_z
        obtain ⟨e3305_z, e3306_z⟩ := hm_z
        subst e3305_z e3306_z
        exact (Or.inr ⟨rfl, 2, by decide, K.1, K.2, rfl, R6⟩)
      · exact absurd (Int32.toInt_inj.mp (show (rg_v g 164 44).toInt = (64 : Int32).toInt from by rw [show rg_v g 164 44 = kn from nk1_z.symm, show (64 : Int32).toInt = 64 by decide]; omega)) i1_z
    · subst eh
      replace lt : kn.toInt < 64 := by rw [← ekn]; exact lt
      rw [show rg_v h 32 0 = kn from ekn] at hc_z
      replace hm_z := rn_aload_n (am_cur_of (i := (0, 1, .aload_n 0, (0, 0, 0), 0)) (by decide +kernel)) g0m hm_z
      replace hm_z := rn_bipush (w := 40) (am_cur_of (i := (1, 2, .bipush 40, (0, 0, 0), 0)) (by decide +kernel)) (by decide) hm_z
      replace hm_z := rn_callV (M' := am_m171) (o := 164) (ar := [.int 40]) (rest := []) (L := lv_args 0 [.ref 164, .int 40]) (am_cur_of (i := (3, 3, .invokevirtual 194, (171, 1715, 3), 0)) (by decide +kernel)) rfl rfl rfl rfl hm_z
      obtain ⟨r3307_z, h3308_z, q3309_z, hm_z⟩ := hm_z
      obtain ⟨rfl, yq3309_z⟩ := rp_sgN (fun q => absurd (Eq.trans (Eq.symm kc) q.1) (by decide)) q3309_z
      subst yq3309_z
      replace hm_z : rn _ _ _ _ [.int 0] _ _ _ := hm_z
      replace hm_z := rn_ifT (am_cur_of (i := (6, 3, .ifCond .eq 44, (28, 0, 0), 0)) (by decide +kernel)) (by decide) hm_z
      replace hm_z := rn_aload_n (am_cur_of (i := (50, 1, .aload_n 0, (0, 0, 0), 0)) (by decide +kernel)) g0m hm_z
      replace hm_z := rn_bipush (w := 14) (am_cur_of (i := (51, 2, .bipush 14, (0, 0, 0), 0)) (by decide +kernel)) (by decide) hm_z
      replace hm_z := rn_callV (M' := am_m174) (o := 164) (ar := [.int 14]) (rest := []) (L := lv_args 0 [.ref 164, .int 14]) (am_cur_of (i := (53, 3, .invokevirtual 306, (174, 1727, 3), 0)) (by decide +kernel)) rfl rfl rfl rfl hm_z
      obtain ⟨r3310_z, h3311_z, q3312_z, hm_z⟩ := hm_z
      obtain ⟨rfl, yq3312_z⟩ := rp_kyN (fun q => absurd (Eq.trans (Eq.symm kd) q.2) (by decide)) q3312_z
      subst yq3312_z
      replace hm_z : rn _ _ _ _ [.int 0] _ _ _ := hm_z
      replace hm_z := rn_ifT (am_cur_of (i := (56, 3, .ifCond .eq 30, (47, 0, 0), 0)) (by decide +kernel)) (by decide) hm_z
      replace hm_z := rn_aload_n (am_cur_of (i := (86, 1, .aload_n 0, (0, 0, 0), 0)) (by decide +kernel)) g0m hm_z
      replace hm_z := rn_callV (M' := am_m176) (o := 164) (ar := []) (rest := []) (L := lv_args 0 [.ref 164]) (am_cur_of (i := (87, 3, .invokevirtual 312, (176, 1735, 3), 0)) (by decide +kernel)) rfl rfl rfl rfl hm_z
      obtain ⟨r3313_z, h3314_z, q3315_z, hm_z⟩ := hm_z
      obtain ⟨rfl, yq3315_z⟩ := rp_nm (c := 1) (d := 17) kc kd q3315_z
      replace yq3315_z := yq3315_z.symm
      subst yq3315_z
      rw [show rp_nmf 1 17 = 2 from by decide] at hm_z
      replace hm_z : rn _ _ _ _ [.int 2] _ _ _ := hm_z
      replace hm_z := rn_istore_n (am_cur_of (i := (90, 1, .istore_n 1, (0, 0, 0), 0)) (by decide +kernel)) hm_z
      obtain ⟨_, s3316_z, s3317_z, g1m, hm_z⟩ := hm_z
      replace g0m := s3316_z 0 _ (by decide) rfl g0m
      clear s3316_z s3317_z
      replace hm_z := rn_iload_n (am_cur_of (i := (91, 1, .iload_n 1, (0, 0, 0), 0)) (by decide +kernel)) g1m hm_z
      replace hm_z := rn_ifT (am_cur_of (i := (92, 3, .ifCond .ge 17, (60, 0, 0), 0)) (by decide +kernel)) (by decide) hm_z
      replace hm_z := rn_iload_n (am_cur_of (i := (109, 1, .iload_n 1, (0, 0, 0), 0)) (by decide +kernel)) g1m hm_z
      replace hm_z := rn_ifT (am_cur_of (i := (110, 3, .ifCond .ge 19, (70, 0, 0), 0)) (by decide +kernel)) (by decide) hm_z
      replace hm_z := rn_aload_n (am_cur_of (i := (129, 1, .aload_n 0, (0, 0, 0), 0)) (by decide +kernel)) g0m hm_z
      replace hm_z := rn_callV (M' := am_m175) (o := 164) (ar := []) (rest := []) (L := lv_args 0 [.ref 164]) (am_cur_of (i := (130, 3, .invokevirtual 309, (175, 1731, 3), 0)) (by decide +kernel)) rfl rfl rfl rfl hm_z
      obtain ⟨r3318_z, h3319_z, q3320_z, hm_z⟩ := hm_z
      rcases rs_ic q3320_z with ⟨i1_z, -⟩ | ⟨i1_z, rfl, i3_z⟩
      · exfalso
        have zz := congrArg Int32.toInt i1_z
        rw [show rg_v g 164 44 = kn from nk1_z.symm, show (64 : Int32).toInt = 64 by decide] at zz
        omega
      · subst i3_z
        rw [show rg_v g 164 44 = kn from nk1_z.symm] at hm_z
        replace hm_z : rn _ _ _ _ [.int 1] _ _ _ := hm_z
        replace hc_z : rn _ _ _ _ [] _ _ _ := hc_z
        replace hc_z := rn_aload_n (am_cur_of (i := (146, 1, .aload_n 0, (0, 0, 0), 0)) (by decide +kernel)) g0_z hc_z
        replace hc_z := rn_getM (x := 23) (am_cur_of (i := (147, 3, .getfield 25, (4, 6, 415), 0)) (by decide +kernel)) (show (am_up h 32 0 (.int (kn + 1))) 44 6 = .ref 23 from R3) hc_z
        replace hc_z := rn_getR (x := 32) (am_cur_of (i := (150, 3, .getfield 242, (1, 19, 316), 0)) (by decide +kernel)) (by decide +kernel) hc_z
        replace hc_z := rn_iconst (w := 1) (am_cur_of (i := (153, 1, .iconst 1, (0, 0, 0), 0)) (by decide +kernel)) (by decide) hc_z
        replace hc_z := rn_aload_n (am_cur_of (i := (154, 1, .aload_n 0, (0, 0, 0), 0)) (by decide +kernel)) g0_z hc_z
        replace hc_z := rn_getI (v := 14) (am_cur_of (i := (155, 3, .getfield 91, (4, 11, 420), 0)) (by decide +kernel)) (by decide +kernel) (show rg_v (am_up h 32 0 (.int (kn + 1))) 44 11 = 14 from kb) hc_z
        replace hc_z := rn_bipush (w := 11) (am_cur_of (i := (158, 2, .bipush 11, (0, 0, 0), 0)) (by decide +kernel)) (by decide) hc_z
        replace hc_z := rn_isub (w := 3) (am_cur_of (i := (160, 1, .isub, (0, 0, 0), 0)) (by decide +kernel)) (by decide) hc_z
        replace hc_z := rn_callV (M' := am_m48) (o := 32) (ar := [.int 3, .int 1]) (rest := []) (L := lv_args 0 [.ref 32, .int 1, .int 3]) (am_cur_of (i := (161, 3, .invokevirtual 276, (48, 845, 3), 0)) (by decide +kernel)) rfl rfl rfl rfl hc_z
        obtain ⟨r3321_z, h3322_z, q3323_z, hc_z⟩ := hc_z
        obtain ⟨rfl, PF⟩ := rs_put23 q3323_z
        replace hc_z : rn _ _ _ _ [] _ _ _ := hc_z
        replace hc_z := rn_goto (am_cur_of (i := (164, 3, .goto 8, (87, 0, 0), 0)) (by decide +kernel)) hc_z
        replace hc_z := rn_aload_n (am_cur_of (i := (172, 1, .aload_n 0, (0, 0, 0), 0)) (by decide +kernel)) g0_z hc_z
        replace hc_z := rn_callV (M' := am_m19) (o := 44) (ar := []) (rest := []) (L := lv_args 0 [.ref 44]) (am_cur_of (i := (173, 3, .invokevirtual 57, (19, 727, 3), 0)) (by decide +kernel)) rfl rfl rfl rfl hc_z
        obtain ⟨r3324_z, h3325_z, q3326_z, hc_z⟩ := hc_z
        have vo := rn_void rfl q3326_z
        subst vo
        replace hm_z := rn_ifT (am_cur_of (i := (133, 3, .ifCond .ne 5, (75, 0, 0), 0)) (by decide +kernel)) (by decide) hm_z
        replace hm_z := rn_aload_n (am_cur_of (i := (138, 1, .aload_n 0, (0, 0, 0), 0)) (by decide +kernel)) g0m hm_z
        replace hm_z := rn_iload_n (am_cur_of (i := (139, 1, .iload_n 1, (0, 0, 0), 0)) (by decide +kernel)) g1m hm_z
        replace hm_z := rn_ifF (am_cur_of (i := (140, 3, .ifCond .lt 7, (80, 0, 0), 0)) (by decide +kernel)) (by decide) hm_z
        replace hm_z := rn_iconst (w := 1) (am_cur_of (i := (143, 1, .iconst 1, (0, 0, 0), 0)) (by decide +kernel)) (by decide) hm_z
        replace hm_z := rn_goto (am_cur_of (i := (144, 3, .goto 4, (81, 0, 0), 0)) (by decide +kernel)) hm_z
        replace hm_z := rn_iload_n (am_cur_of (i := (148, 1, .iload_n 1, (0, 0, 0), 0)) (by decide +kernel)) g1m hm_z
        replace hm_z := rn_ifF (am_cur_of (i := (149, 3, .ifCond .lt 7, (85, 0, 0), 0)) (by decide +kernel)) (by decide) hm_z
        replace hm_z := rn_iload_n (am_cur_of (i := (152, 1, .iload_n 1, (0, 0, 0), 0)) (by decide +kernel)) g1m hm_z
        replace hm_z := rn_goto (am_cur_of (i := (153, 3, .goto 7, (87, 0, 0), 0)) (by decide +kernel)) hm_z
        replace hm_z := rn_iconst (w := 0) (am_cur_of (i := (160, 1, .iconst 0, (0, 0, 0), 0)) (by decide +kernel)) (by decide) hm_z
        replace hm_z := rn_callV (M' := am_m177) (o := 164) (ar := [.int 0, .int 2, .int 1]) (rest := []) (L := lv_args 0 [.ref 164, .int 1, .int 2, .int 0]) (am_cur_of (i := (161, 3, .invokevirtual 291, (177, 1739, 3), 0)) (by decide +kernel)) rfl rfl rfl rfl hm_z
        obtain ⟨r3327_z, h3328_z, q3329_z, hm_z⟩ := hm_z
        obtain ⟨rfl, GF⟩ := rs_grown q3329_z
        replace hm_z : rn _ _ _ _ [] _ _ _ := hm_z
        replace hm_z := rn_aload_n (am_cur_of (i := (164, 1, .aload_n 0, (0, 0, 0), 0)) (by decide +kernel)) g0m hm_z
        replace hm_z := rn_iconst (w := 0) (am_cur_of (i := (165, 1, .iconst 0, (0, 0, 0), 0)) (by decide +kernel)) (by decide) hm_z
        replace hm_z := rn_put (am_cur_of (i := (166, 3, .putfield 315, (12, 45, 1429), 0)) (by decide +kernel)) (by decide +kernel) hm_z
        replace hm_z := rn_aload_n (am_cur_of (i := (169, 1, .aload_n 0, (0, 0, 0), 0)) (by decide +kernel)) g0m hm_z
        replace hm_z := rn_callV (M' := am_m151) (o := 164) (ar := []) (rest := []) (L := lv_args 0 [.ref 164]) (am_cur_of (i := (170, 3, .invokevirtual 191, (151, 1636, 3), 0)) (by decide +kernel)) rfl rfl rfl rfl hm_z
        obtain ⟨r3330_z, h3331_z, q3332_z, hm_z⟩ := hm_z
        have vo := rn_void rfl q3332_z
        subst vo
        have FC : ab_Fr (rz_MC23.drop 1) h h3322_z := ab_Fr_trans (ab_Fr_up rfl ab_Fr_refl) (ab_Fr_sub (by decide) PF)
        have FC' : ab_Fr rz_MC23 h h3322_z := ab_Fr_sub (by decide) FC
        have FM : ab_Fr rz_MM g (am_up h3328_z 164 45 (.int 0)) := ab_Fr_up rfl (ab_Fr_trans (ab_Fr_up rfl ab_Fr_refl) (ab_Fr_sub (by decide) GF))
        obtain ⟨-, -, x2_z, p2_z, R2, le2_z, t5_z, t6_z⟩ := pr_tok (rz_q023 (rq_0 Rk) FC' FM) q3326_z q3332_z
        have A2 := rp_x (by decide) (rz_p23 A FC' FM ((show rg_v h3322_z 32 0 = kn + 1 from ((rg_v_fr PF (by decide)).trans (show rg_v (am_up h 32 0 (.int (kn + 1))) 32 0 = kn + 1 from rfl))).trans (show rg_v (am_up h3328_z 164 45 (.int 0)) 164 44 = kn + 1 from (show rg_v (am_up h3328_z 164 45 (.int 0)) 164 44 = kn + 1 from ((rg_v_fr GF (by decide)).trans (show rg_v (am_up g 164 44 (.int (kn + 1))) 164 44 = kn + 1 from rfl)))).symm) (by rw [show rg_v h3322_z 32 0 = kn + 1 from ((rg_v_fr PF (by decide)).trans (show rg_v (am_up h 32 0 (.int (kn + 1))) 32 0 = kn + 1 from rfl))]; omega) (by rw [show rg_v h3322_z 32 0 = kn + 1 from ((rg_v_fr PF (by decide)).trans (show rg_v (am_up h 32 0 (.int (kn + 1))) 32 0 = kn + 1 from rfl))]; omega)) (rx_C_f t5_z) (rx_M_f t6_z)
        have B2 := rp_tk (rz_t23 B FC FM) (rg_v_fr t5_z (by decide)) (fun k => rg_v_fr t6_z (rg_v_in (by decide) k)) (rx_M_f t6_z)
        have FC47 : ab_Fr [(44, 14), (44, 15), (32, 1), (32, 2), (33, 0), (34, 0)] h h3322_z := ab_Fr_trans (ab_Fr_up rfl ab_Fr_refl) (ab_Fr_sub (by decide) PF)
        have FM184 : ab_Fr [(164, 42), (164, 43), (164, 44), (164, 45), (164, 46), (164, 47), (164, 22), (181, 0), (182, 0), (183, 0), (185, 0)] g (am_up h3328_z 164 45 (.int 0)) := ab_Fr_up rfl (ab_Fr_trans (ab_Fr_up rfl ab_Fr_refl) (ab_Fr_sub (by decide) GF))
        have Z2 : rs 23 h3322_z (am_up h3328_z 164 45 (.int 0)) := rs_keep Zk ((show rg_v h3322_z 44 13 = np from ((rg_v_fr PF (by decide)).trans (show rg_v (am_up h 32 0 (.int (kn + 1))) 44 13 = np from z1_z))).trans z1_z.symm) ((show rg_v (am_up h3328_z 164 45 (.int 0)) 164 41 = np from (show rg_v (am_up h3328_z 164 45 (.int 0)) 164 41 = np from ((rg_v_fr GF (by decide)).trans (show rg_v (am_up g 164 44 (.int (kn + 1))) 164 41 = np from z2_z)))).trans z2_z.symm) ((show rg_v h3322_z 44 14 = op from ((rg_v_fr PF (by decide)).trans (show rg_v (am_up h 32 0 (.int (kn + 1))) 44 14 = op from z4_z))).trans z4_z.symm) ((show rg_v (am_up h3328_z 164 45 (.int 0)) 164 43 = op from (show rg_v (am_up h3328_z 164 45 (.int 0)) 164 43 = op from ((rg_v_fr GF (by decide)).trans (show rg_v (am_up g 164 44 (.int (kn + 1))) 164 43 = op from z5_z)))).trans z5_z.symm) (show (rg_v h 32 0).toInt ≤ (rg_v h3322_z 32 0).toInt by rw [(show rg_v h3322_z 32 0 = kn + 1 from ((rg_v_fr PF (by decide)).trans (show rg_v (am_up h 32 0 (.int (kn + 1))) 32 0 = kn + 1 from rfl))), ekn]; omega) (fun k => rg_v_fr FC47 (rg_v_in (by decide) k)) (fun k => rg_v_fr FM184 (rg_v_in (by decide) k))
        replace Z2 := rs_fr (by decide) Z2 t5_z t6_z
        have e45_z : rg_v h3331_z 164 45 = 0 := (rg_v_fr t6_z (by decide)).trans (show rg_v (am_up h3328_z 164 45 (.int 0)) 164 45 = 0 from (show rg_v (am_up h3328_z 164 45 (.int 0)) 164 45 = 0 from rfl))
        have e46_z : rg_v h3331_z 164 46 = 0 := (rg_v_fr t6_z (by decide)).trans (show rg_v (am_up h3328_z 164 45 (.int 0)) 164 46 = 0 from (show rg_v (am_up h3328_z 164 45 (.int 0)) 164 46 = 0 from ((rg_v_fr GF (by decide)).trans (show rg_v (am_up g 164 44 (.int (kn + 1))) 164 46 = 0 from w2_z))))
        replace hm_z : rn _ _ _ _ [] _ _ _ := hm_z
        replace hc_z : rn _ _ _ _ [] _ _ _ := hc_z
        replace hc_z := rn_iconst (w := 2) (am_cur_of (i := (176, 1, .iconst 2, (0, 0, 0), 0)) (by decide +kernel)) (by decide) hc_z
        replace hc_z := rn_iret (am_cur_of (i := (177, 1, .ireturn, (0, 0, 0), 0)) (by decide +kernel)) hc_z
        obtain ⟨e3333_z, e3334_z⟩ := hc_z
        replace hm_z := rn_iconst (w := 1) (am_cur_of (i := (173, 1, .iconst 1, (0, 0, 0), 0)) (by decide +kernel)) (by decide) hm_z
        replace hm_z := rn_iret (am_cur_of (i := (174, 1, .ireturn, (0, 0, 0), 0)) (by decide +kernel)) hm_z
        obtain ⟨e3335_z, e3336_z⟩ := hm_z
        subst e3333_z e3334_z e3335_z e3336_z
        exact Or.inl ⟨_, x2_z, p2_z, rfl, rfl, R2, le2_z, A2, B2, Z2, Or.inr (Or.inr ⟨rfl, e45_z⟩)⟩
  · have g0_z : am_get (lv_args 0 [.ref 44, .int 1]) 0 = some (.ref 44) := rfl
    have g1_z : am_get (lv_args 0 [.ref 44, .int 1]) 1 = some (.int 1) := rfl
    have g0m : am_get (lv_args 0 [.ref 164]) 0 = some (.ref 164) := rfl
    have Rk := R
    have Zk := Z
    obtain ⟨⟨c1_z, c2_z, c3_z, c4_z, c5_z, c6_z, c7_z, c8_z⟩, ⟨m2_z, m3_z, m4_z, m5_z, m6_z, m7_z, m8_z⟩, R3, R4, R5, R6, R7, R8, R9, R10⟩ := (R : rq T S x p 23 h g)
    obtain ⟨np, op, z1_z, z2_z, z3_z, z4_z, z5_z, z6_z, z7_z, z8_z, z9_z, z10_z⟩ := (Z : rs 23 h g)
    obtain ⟨nk1_z, nk2_z, nk3_z⟩ := A.2.2.2.2.2.1
    replace nk1_z : rg_v h 32 0 = rg_v g 164 44 := nk1_z
    replace nk2_z : 0 ≤ (rg_v h 32 0).toInt := nk2_z
    replace nk3_z : (rg_v h 32 0).toInt ≤ 64 := nk3_z
    replace z8_z : np.toInt ≤ (rg_v h 32 0).toInt + op.toInt := z8_z
    obtain ⟨kn, ekn⟩ : ∃ v, rg_v h 32 0 = v := ⟨_, rfl⟩
    rw [ekn] at nk1_z nk2_z nk3_z z8_z
    have e9_z := rt_c1 (x := kn) (by omega) (by omega)
    replace hc_z := rn_aload_n (am_cur_of (i := (0, 1, .aload_n 0, (0, 0, 0), 0)) (by decide +kernel)) g0_z hc_z
    replace hc_z := rn_getI (v := 2) (am_cur_of (i := (1, 3, .getfield 60, (4, 10, 419), 0)) (by decide +kernel)) (by decide +kernel) ka hc_z
    replace hc_z := rn_bipush (w := 6) (am_cur_of (i := (4, 2, .bipush 6, (0, 0, 0), 0)) (by decide +kernel)) (by decide) hc_z
    replace hc_z := rn_cmpT (am_cur_of (i := (6, 3, .if_icmp .ne 30, (19, 0, 0), 0)) (by decide +kernel)) (by decide) hc_z
    replace hc_z := rn_aload_n (am_cur_of (i := (36, 1, .aload_n 0, (0, 0, 0), 0)) (by decide +kernel)) g0_z hc_z
    replace hc_z := rn_bipush (w := 40) (am_cur_of (i := (37, 2, .bipush 40, (0, 0, 0), 0)) (by decide +kernel)) (by decide) hc_z
    replace hc_z := rn_callV (M' := am_m45) (o := 44) (ar := [.int 40]) (rest := []) (L := lv_args 0 [.ref 44, .int 40]) (am_cur_of (i := (39, 3, .invokevirtual 105, (45, 834, 3), 0)) (by decide +kernel)) rfl rfl rfl rfl hc_z
    obtain ⟨r3337_z, h3338_z, q3339_z, hc_z⟩ := hc_z
    obtain ⟨rfl, yq3339_z⟩ := rp_mkN (fun q => absurd (Eq.trans (Eq.symm ka) q.1) (by decide)) q3339_z
    subst yq3339_z
    replace hc_z : rn _ _ _ _ [.int 0] _ _ _ := hc_z
    replace hc_z := rn_ifT (am_cur_of (i := (42, 3, .ifCond .eq 38, (43, 0, 0), 0)) (by decide +kernel)) (by decide) hc_z
    replace hc_z := rn_aload_n (am_cur_of (i := (80, 1, .aload_n 0, (0, 0, 0), 0)) (by decide +kernel)) g0_z hc_z
    replace hc_z := rn_getI (v := 2) (am_cur_of (i := (81, 3, .getfield 60, (4, 10, 419), 0)) (by decide +kernel)) (by decide +kernel) ka hc_z
    replace hc_z := rn_iconst (w := 4) (am_cur_of (i := (84, 1, .iconst 4, (0, 0, 0), 0)) (by decide +kernel)) (by decide) hc_z
    replace hc_z := rn_cmpT (am_cur_of (i := (85, 3, .if_icmp .ne 40, (64, 0, 0), 0)) (by decide +kernel)) (by decide) hc_z
    replace hc_z := rn_aload_n (am_cur_of (i := (125, 1, .aload_n 0, (0, 0, 0), 0)) (by decide +kernel)) g0_z hc_z
    replace hc_z := rn_getI (v := 2) (am_cur_of (i := (126, 3, .getfield 60, (4, 10, 419), 0)) (by decide +kernel)) (by decide +kernel) ka hc_z
    replace hc_z := rn_iconst (w := 2) (am_cur_of (i := (129, 1, .iconst 2, (0, 0, 0), 0)) (by decide +kernel)) (by decide) hc_z
    replace hc_z := rn_cmpF (am_cur_of (i := (130, 3, .if_icmp .ne 37, (84, 0, 0), 0)) (by decide +kernel)) (by decide) hc_z
    replace hc_z := rn_aload_n (am_cur_of (i := (133, 1, .aload_n 0, (0, 0, 0), 0)) (by decide +kernel)) g0_z hc_z
    replace hc_z := rn_getI (v := 15) (am_cur_of (i := (134, 3, .getfield 91, (4, 11, 420), 0)) (by decide +kernel)) (by decide +kernel) kb hc_z
    replace hc_z := rn_bipush (w := 11) (am_cur_of (i := (137, 2, .bipush 11, (0, 0, 0), 0)) (by decide +kernel)) (by decide) hc_z
    replace hc_z := rn_cmpF (am_cur_of (i := (139, 3, .if_icmp .lt 28, (84, 0, 0), 0)) (by decide +kernel)) (by decide) hc_z
    replace hc_z := rn_aload_n (am_cur_of (i := (142, 1, .aload_n 0, (0, 0, 0), 0)) (by decide +kernel)) g0_z hc_z
    replace hc_z := rn_callV (M' := am_m49) (o := 44) (ar := []) (rest := []) (L := lv_args 0 [.ref 44]) (am_cur_of (i := (143, 3, .invokevirtual 270, (49, 852, 3), 0)) (by decide +kernel)) rfl rfl rfl rfl hc_z
    obtain ⟨r3340_z, h3341_z, q3342_z, hc_z⟩ := hc_z
    rcases rs_ck23 R4 (show h 44 6 = .ref 23 from R3) q3342_z with ⟨ge, rfl, eh⟩ | ⟨lt, rfl, eh⟩
    · subst eh
      replace ge : 64 ≤ kn.toInt := by rw [← ekn]; exact ge
      replace hc_z : rn _ _ _ _ [] _ _ _ := hc_z
      have K := rs_stick (w := 2) (q := p) (a := 51) (by decide) (by decide) rfl (by decide) rfl (show rg_v (am_up (am_up h 44 1 (.int 2)) 44 2 (.int (rg_v h 44 9))) 44 2 = p from R5) hc_z
      replace hm_z := rn_aload_n (am_cur_of (i := (0, 1, .aload_n 0, (0, 0, 0), 0)) (by decide +kernel)) g0m hm_z
      replace hm_z := rn_bipush (w := 40) (am_cur_of (i := (1, 2, .bipush 40, (0, 0, 0), 0)) (by decide +kernel)) (by decide) hm_z
      replace hm_z := rn_callV (M' := am_m171) (o := 164) (ar := [.int 40]) (rest := []) (L := lv_args 0 [.ref 164, .int 40]) (am_cur_of (i := (3, 3, .invokevirtual 194, (171, 1715, 3), 0)) (by decide +kernel)) rfl rfl rfl rfl hm_z
      obtain ⟨r3343_z, h3344_z, q3345_z, hm_z⟩ := hm_z
      obtain ⟨rfl, yq3345_z⟩ := rp_sgN (fun q => absurd (Eq.trans (Eq.symm kc) q.1) (by decide)) q3345_z
      subst yq3345_z
      replace hm_z : rn _ _ _ _ [.int 0] _ _ _ := hm_z
      replace hm_z := rn_ifT (am_cur_of (i := (6, 3, .ifCond .eq 44, (28, 0, 0), 0)) (by decide +kernel)) (by decide) hm_z
      replace hm_z := rn_aload_n (am_cur_of (i := (50, 1, .aload_n 0, (0, 0, 0), 0)) (by decide +kernel)) g0m hm_z
      replace hm_z := rn_bipush (w := 14) (am_cur_of (i := (51, 2, .bipush 14, (0, 0, 0), 0)) (by decide +kernel)) (by decide) hm_z
      replace hm_z := rn_callV (M' := am_m174) (o := 164) (ar := [.int 14]) (rest := []) (L := lv_args 0 [.ref 164, .int 14]) (am_cur_of (i := (53, 3, .invokevirtual 306, (174, 1727, 3), 0)) (by decide +kernel)) rfl rfl rfl rfl hm_z
      obtain ⟨r3346_z, h3347_z, q3348_z, hm_z⟩ := hm_z
      obtain ⟨rfl, yq3348_z⟩ := rp_kyN (fun q => absurd (Eq.trans (Eq.symm kd) q.2) (by decide)) q3348_z
      subst yq3348_z
      replace hm_z : rn _ _ _ _ [.int 0] _ _ _ := hm_z
      replace hm_z := rn_ifT (am_cur_of (i := (56, 3, .ifCond .eq 30, (47, 0, 0), 0)) (by decide +kernel)) (by decide) hm_z
      replace hm_z := rn_aload_n (am_cur_of (i := (86, 1, .aload_n 0, (0, 0, 0), 0)) (by decide +kernel)) g0m hm_z
      replace hm_z := rn_callV (M' := am_m176) (o := 164) (ar := []) (rest := []) (L := lv_args 0 [.ref 164]) (am_cur_of (i := (87, 3, .invokevirtual 312, (176, 1735, 3), 0)) (by decide +kernel)) rfl rfl rfl rfl hm_z
      obtain ⟨r3349_z, h3350_z, q3351_z, hm_z⟩ := hm_z
      obtain ⟨rfl, yq3351_z⟩ := rp_nm (c := 1) (d := 18) kc kd q3351_z
      replace yq3351_z := yq3351_z.symm
      subst yq3351_z
      rw [show rp_nmf 1 18 = 4 from by decide] at hm_z
      replace hm_z : rn _ _ _ _ [.int 4] _ _ _ := hm_z
      replace hm_z := rn_istore_n (am_cur_of (i := (90, 1, .istore_n 1, (0, 0, 0), 0)) (by decide +kernel)) hm_z
      obtain ⟨_, s3352_z, s3353_z, g1m, hm_z⟩ := hm_z
      replace g0m := s3352_z 0 _ (by decide) rfl g0m
      clear s3352_z s3353_z
      replace hm_z := rn_iload_n (am_cur_of (i := (91, 1, .iload_n 1, (0, 0, 0), 0)) (by decide +kernel)) g1m hm_z
      replace hm_z := rn_ifT (am_cur_of (i := (92, 3, .ifCond .ge 17, (60, 0, 0), 0)) (by decide +kernel)) (by decide) hm_z
      replace hm_z := rn_iload_n (am_cur_of (i := (109, 1, .iload_n 1, (0, 0, 0), 0)) (by decide +kernel)) g1m hm_z
      replace hm_z := rn_ifT (am_cur_of (i := (110, 3, .ifCond .ge 19, (70, 0, 0), 0)) (by decide +kernel)) (by decide) hm_z
      replace hm_z := rn_aload_n (am_cur_of (i := (129, 1, .aload_n 0, (0, 0, 0), 0)) (by decide +kernel)) g0m hm_z
      replace hm_z := rn_callV (M' := am_m175) (o := 164) (ar := []) (rest := []) (L := lv_args 0 [.ref 164]) (am_cur_of (i := (130, 3, .invokevirtual 309, (175, 1731, 3), 0)) (by decide +kernel)) rfl rfl rfl rfl hm_z
      obtain ⟨r3354_z, h3355_z, q3356_z, hm_z⟩ := hm_z
      rcases rs_ic q3356_z with ⟨i1_z, rfl, i3_z⟩ | ⟨i1_z, -⟩
      · subst i3_z
        replace hm_z : rn _ _ _ _ [.int 0] _ _ _ := hm_z
        replace hm_z := rn_ifF (am_cur_of (i := (133, 3, .ifCond .ne 5, (75, 0, 0), 0)) (by decide +kernel)) (by decide) hm_z
        replace hm_z := rn_iconst (w := 0) (am_cur_of (i := (136, 1, .iconst 0, (0, 0, 0), 0)) (by decide +kernel)) (by decide) hm_z
        replace hm_z := rn_iret (am_cur_of (i := (137, 1, .ireturn, (0, 0, 0), 0)) (by decide +kernel)) hm_z
        obtain ⟨e3357_z, e3358_z⟩ := hm_z
        subst e3357_z e3358_z
        exact (Or.inr ⟨rfl, 2, by decide, K.1, K.2, rfl, R6⟩)
      · exact absurd (Int32.toInt_inj.mp (show (rg_v g 164 44).toInt = (64 : Int32).toInt from by rw [show rg_v g 164 44 = kn from nk1_z.symm, show (64 : Int32).toInt = 64 by decide]; omega)) i1_z
    · subst eh
      replace lt : kn.toInt < 64 := by rw [← ekn]; exact lt
      rw [show rg_v h 32 0 = kn from ekn] at hc_z
      replace hm_z := rn_aload_n (am_cur_of (i := (0, 1, .aload_n 0, (0, 0, 0), 0)) (by decide +kernel)) g0m hm_z
      replace hm_z := rn_bipush (w := 40) (am_cur_of (i := (1, 2, .bipush 40, (0, 0, 0), 0)) (by decide +kernel)) (by decide) hm_z
      replace hm_z := rn_callV (M' := am_m171) (o := 164) (ar := [.int 40]) (rest := []) (L := lv_args 0 [.ref 164, .int 40]) (am_cur_of (i := (3, 3, .invokevirtual 194, (171, 1715, 3), 0)) (by decide +kernel)) rfl rfl rfl rfl hm_z
      obtain ⟨r3359_z, h3360_z, q3361_z, hm_z⟩ := hm_z
      obtain ⟨rfl, yq3361_z⟩ := rp_sgN (fun q => absurd (Eq.trans (Eq.symm kc) q.1) (by decide)) q3361_z
      subst yq3361_z
      replace hm_z : rn _ _ _ _ [.int 0] _ _ _ := hm_z
      replace hm_z := rn_ifT (am_cur_of (i := (6, 3, .ifCond .eq 44, (28, 0, 0), 0)) (by decide +kernel)) (by decide) hm_z
      replace hm_z := rn_aload_n (am_cur_of (i := (50, 1, .aload_n 0, (0, 0, 0), 0)) (by decide +kernel)) g0m hm_z
      replace hm_z := rn_bipush (w := 14) (am_cur_of (i := (51, 2, .bipush 14, (0, 0, 0), 0)) (by decide +kernel)) (by decide) hm_z
      replace hm_z := rn_callV (M' := am_m174) (o := 164) (ar := [.int 14]) (rest := []) (L := lv_args 0 [.ref 164, .int 14]) (am_cur_of (i := (53, 3, .invokevirtual 306, (174, 1727, 3), 0)) (by decide +kernel)) rfl rfl rfl rfl hm_z
      obtain ⟨r3362_z, h3363_z, q3364_z, hm_z⟩ := hm_z
      obtain ⟨rfl, yq3364_z⟩ := rp_kyN (fun q => absurd (Eq.trans (Eq.symm kd) q.2) (by decide)) q3364_z
      subst yq3364_z
      replace hm_z : rn _ _ _ _ [.int 0] _ _ _ := hm_z
      replace hm_z := rn_ifT (am_cur_of (i := (56, 3, .ifCond .eq 30, (47, 0, 0), 0)) (by decide +kernel)) (by decide) hm_z
      replace hm_z := rn_aload_n (am_cur_of (i := (86, 1, .aload_n 0, (0, 0, 0), 0)) (by decide +kernel)) g0m hm_z
      replace hm_z := rn_callV (M' := am_m176) (o := 164) (ar := []) (rest := []) (L := lv_args 0 [.ref 164]) (am_cur_of (i := (87, 3, .invokevirtual 312, (176, 1735, 3), 0)) (by decide +kernel)) rfl rfl rfl rfl hm_z
      obtain ⟨r3365_z, h3366_z, q3367_z, hm_z⟩ := hm_z
      obtain ⟨rfl, yq3367_z⟩ := rp_nm (c := 1) (d := 18) kc kd q3367_z
      replace yq3367_z := yq3367_z.symm
      subst yq3367_z
      rw [show rp_nmf 1 18 = 4 from by decide] at hm_z
      replace hm_z : rn _ _ _ _ [.int 4] _ _ _ := hm_z
      replace hm_z := rn_istore_n (am_cur_of (i := (90, 1, .istore_n 1, (0, 0, 0), 0)) (by decide +kernel)) hm_z
      obtain ⟨_, s3368_z, s3369_z, g1m, hm_z⟩ := hm_z
      replace g0m := s3368_z 0 _ (by decide) rfl g0m
      clear s3368_z s3369_z
      replace hm_z := rn_iload_n (am_cur_of (i := (91, 1, .iload_n 1, (0, 0, 0), 0)) (by decide +kernel)) g1m hm_z
      replace hm_z := rn_ifT (am_cur_of (i := (92, 3, .ifCond .ge 17, (60, 0, 0), 0)) (by decide +kernel)) (by decide) hm_z
      replace hm_z := rn_iload_n (am_cur_of (i := (109, 1, .iload_n 1, (0, 0, 0), 0)) (by decide +kernel)) g1m hm_z
      replace hm_z := rn_ifT (am_cur_of (i := (110, 3, .ifCond .ge 19, (70, 0, 0), 0)) (by decide +kernel)) (by decide) hm_z
      replace hm_z := rn_aload_n (am_cur_of (i := (129, 1, .aload_n 0, (0, 0, 0), 0)) (by decide +kernel)) g0m hm_z
      replace hm_z := rn_callV (M' := am_m175) (o := 164) (ar := []) (rest := []) (L := lv_args 0 [.ref 164]) (am_cur_of (i := (130, 3, .invokevirtual 309, (175, 1731, 3), 0)) (by decide +kernel)) rfl rfl rfl rfl hm_z
      obtain ⟨r3370_z, h3371_z, q3372_z, hm_z⟩ := hm_z
      rcases rs_ic q3372_z with ⟨i1_z, -⟩ | ⟨i1_z, rfl, i3_z⟩
      · exfalso
        have zz := congrArg Int32.toInt i1_z
        rw [show rg_v g 164 44 = kn from nk1_z.symm, show (64 : Int32).toInt = 64 by decide] at zz
        omega
      · subst i3_z
        rw [show rg_v g 164 44 = kn from nk1_z.symm] at hm_z
        replace hm_z : rn _ _ _ _ [.int 1] _ _ _ := hm_z
        replace hc_z : rn _ _ _ _ [] _ _ _ := hc_z
        replace hc_z := rn_aload_n (am_cur_of (i := (146, 1, .aload_n 0, (0, 0, 0), 0)) (by decide +kernel)) g0_z hc_z
        replace hc_z := rn_getM (x := 23) (am_cur_of (i := (147, 3, .getfield 25, (4, 6, 415), 0)) (by decide +kernel)) (show (am_up h 32 0 (.int (kn + 1))) 44 6 = .ref 23 from R3) hc_z
        replace hc_z := rn_getR (x := 32) (am_cur_of (i := (150, 3, .getfield 242, (1, 19, 316), 0)) (by decide +kernel)) (by decide +kernel) hc_z
        replace hc_z := rn_iconst (w := 1) (am_cur_of (i := (153, 1, .iconst 1, (0, 0, 0), 0)) (by decide +kernel)) (by decide) hc_z
        replace hc_z := rn_aload_n (am_cur_of (i := (154, 1, .aload_n 0, (0, 0, 0), 0)) (by decide +kernel)) g0_z hc_z
        replace hc_z := rn_getI (v := 15) (am_cur_of (i := (155, 3, .getfield 91, (4, 11, 420), 0)) (by decide +kernel)) (by decide +kernel) (show rg_v (am_up h 32 0 (.int (kn + 1))) 44 11 = 15 from kb) hc_z
        replace hc_z := rn_bipush (w := 11) (am_cur_of (i := (158, 2, .bipush 11, (0, 0, 0), 0)) (by decide +kernel)) (by decide) hc_z
        replace hc_z := rn_isub (w := 4) (am_cur_of (i := (160, 1, .isub, (0, 0, 0), 0)) (by decide +kernel)) (by decide) hc_z
        replace hc_z := rn_callV (M' := am_m48) (o := 32) (ar := [.int 4, .int 1]) (rest := []) (L := lv_args 0 [.ref 32, .int 1, .int 4]) (am_cur_of (i := (161, 3, .invokevirtual 276, (48, 845, 3), 0)) (by decide +kernel)) rfl rfl rfl rfl hc_z
        obtain ⟨r3373_z, h3374_z, q3375_z, hc_z⟩ := hc_z
        obtain ⟨rfl, PF⟩ := rs_put23 q3375_z
        replace hc_z : rn _ _ _ _ [] _ _ _ := hc_z
        replace hc_z := rn_goto (am_cur_of (i := (164, 3, .goto 8, (87, 0, 0), 0)) (by decide +kernel)) hc_z
        replace hc_z := rn_aload_n (am_cur_of (i := (172, 1, .aload_n 0, (0, 0, 0), 0)) (by decide +kernel)) g0_z hc_z
        replace hc_z := rn_callV (M' := am_m19) (o := 44) (ar := []) (rest := []) (L := lv_args 0 [.ref 44]) (am_cur_of (i := (173, 3, .invokevirtual 57, (19, 727, 3), 0)) (by decide +kernel)) rfl rfl rfl rfl hc_z
        obtain ⟨r3376_z, h3377_z, q3378_z, hc_z⟩ := hc_z
        have vo := rn_void rfl q3378_z
        subst vo
        replace hm_z := rn_ifT (am_cur_of (i := (133, 3, .ifCond .ne 5, (75, 0, 0), 0)) (by decide +kernel)) (by decide) hm_z
        replace hm_z := rn_aload_n (am_cur_of (i := (138, 1, .aload_n 0, (0, 0, 0), 0)) (by decide +kernel)) g0m hm_z
        replace hm_z := rn_iload_n (am_cur_of (i := (139, 1, .iload_n 1, (0, 0, 0), 0)) (by decide +kernel)) g1m hm_z
        replace hm_z := rn_ifF (am_cur_of (i := (140, 3, .ifCond .lt 7, (80, 0, 0), 0)) (by decide +kernel)) (by decide) hm_z
        replace hm_z := rn_iconst (w := 1) (am_cur_of (i := (143, 1, .iconst 1, (0, 0, 0), 0)) (by decide +kernel)) (by decide) hm_z
        replace hm_z := rn_goto (am_cur_of (i := (144, 3, .goto 4, (81, 0, 0), 0)) (by decide +kernel)) hm_z
        replace hm_z := rn_iload_n (am_cur_of (i := (148, 1, .iload_n 1, (0, 0, 0), 0)) (by decide +kernel)) g1m hm_z
        replace hm_z := rn_ifF (am_cur_of (i := (149, 3, .ifCond .lt 7, (85, 0, 0), 0)) (by decide +kernel)) (by decide) hm_z
        replace hm_z := rn_iload_n (am_cur_of (i := (152, 1, .iload_n 1, (0, 0, 0), 0)) (by decide +kernel)) g1m hm_z
        replace hm_z := rn_goto (am_cur_of (i := (153, 3, .goto 7, (87, 0, 0), 0)) (by decide +kernel)) hm_z
        replace hm_z := rn_iconst (w := 0) (am_cur_of (i := (160, 1, .iconst 0, (0, 0, 0), 0)) (by decide +kernel)) (by decide) hm_z
        replace hm_z := rn_callV (M' := am_m177) (o := 164) (ar := [.int 0, .int 4, .int 1]) (rest := []) (L := lv_args 0 [.ref 164, .int 1, .int 4, .int 0]) (am_cur_of (i := (161, 3, .invokevirtual 291, (177, 1739, 3), 0)) (by decide +kernel)) rfl rfl rfl rfl hm_z
        obtain ⟨r3379_z, h3380_z, q3381_z, hm_z⟩ := hm_z
        obtain ⟨rfl, GF⟩ := rs_grown q3381_z
        replace hm_z : rn _ _ _ _ [] _ _ _ := hm_z
        replace hm_z := rn_aload_n (am_cur_of (i := (164, 1, .aload_n 0, (0, 0, 0), 0)) (by decide +kernel)) g0m hm_z
        replace hm_z := rn_iconst (w := 0) (am_cur_of (i := (165, 1, .iconst 0, (0, 0, 0), 0)) (by decide +kernel)) (by decide) hm_z
        replace hm_z := rn_put (am_cur_of (i := (166, 3, .putfield 315, (12, 45, 1429), 0)) (by decide +kernel)) (by decide +kernel) hm_z
        replace hm_z := rn_aload_n (am_cur_of (i := (169, 1, .aload_n 0, (0, 0, 0), 0)) (by decide +kernel)) g0m hm_z
        replace hm_z := rn_callV (M' := am_m151) (o := 164) (ar := []) (rest := []) (L := lv_args 0 [.ref 164]) (am_cur_of (i := (170, 3, .invokevirtual 191, (151, 1636, 3), 0)) (by decide +kernel)) rfl rfl rfl rfl hm_z
        obtain ⟨r3382_z, h3383_z, q3384_z, hm_z⟩ := hm_z
        have vo := rn_void rfl q3384_z
        subst vo
        have FC : ab_Fr (rz_MC23.drop 1) h h3374_z := ab_Fr_trans (ab_Fr_up rfl ab_Fr_refl) (ab_Fr_sub (by decide) PF)
        have FC' : ab_Fr rz_MC23 h h3374_z := ab_Fr_sub (by decide) FC
        have FM : ab_Fr rz_MM g (am_up h3380_z 164 45 (.int 0)) := ab_Fr_up rfl (ab_Fr_trans (ab_Fr_up rfl ab_Fr_refl) (ab_Fr_sub (by decide) GF))
        obtain ⟨-, -, x2_z, p2_z, R2, le2_z, t5_z, t6_z⟩ := pr_tok (rz_q023 (rq_0 Rk) FC' FM) q3378_z q3384_z
        have A2 := rp_x (by decide) (rz_p23 A FC' FM ((show rg_v h3374_z 32 0 = kn + 1 from ((rg_v_fr PF (by decide)).trans (show rg_v (am_up h 32 0 (.int (kn + 1))) 32 0 = kn + 1 from rfl))).trans (show rg_v (am_up h3380_z 164 45 (.int 0)) 164 44 = kn + 1 from (show rg_v (am_up h3380_z 164 45 (.int 0)) 164 44 = kn + 1 from ((rg_v_fr GF (by decide)).trans (show rg_v (am_up g 164 44 (.int (kn + 1))) 164 44 = kn + 1 from rfl)))).symm) (by rw [show rg_v h3374_z 32 0 = kn + 1 from ((rg_v_fr PF (by decide)).trans (show rg_v (am_up h 32 0 (.int (kn + 1))) 32 0 = kn + 1 from rfl))]; omega) (by rw [show rg_v h3374_z 32 0 = kn + 1 from ((rg_v_fr PF (by decide)).trans (show rg_v (am_up h 32 0 (.int (kn + 1))) 32 0 = kn + 1 from rfl))]; omega)) (rx_C_f t5_z) (rx_M_f t6_z)
        have B2 := rp_tk (rz_t23 B FC FM) (rg_v_fr t5_z (by decide)) (fun k => rg_v_fr t6_z (rg_v_in (by decide) k)) (rx_M_f t6_z)
        have FC47 : ab_Fr [(44, 14), (44, 15), (32, 1), (32, 2), (33, 0), (34, 0)] h h3374_z := ab_Fr_trans (ab_Fr_up rfl ab_Fr_refl) (ab_Fr_sub (by decide) PF)
        have FM184 : ab_Fr [(164, 42), (164, 43), (164, 44), (164, 45), (164, 46), (164, 47), (164, 22), (181, 0), (182, 0), (183, 0), (185, 0)] g (am_up h3380_z 164 45 (.int 0)) := ab_Fr_up rfl (ab_Fr_trans (ab_Fr_up rfl ab_Fr_refl) (ab_Fr_sub (by decide) GF))
        have Z2 : rs 23 h3374_z (am_up h3380_z 164 45 (.int 0)) := rs_keep Zk ((show rg_v h3374_z 44 13 = np from ((rg_v_fr PF (by decide)).trans (show rg_v (am_up h 32 0 (.int (kn + 1))) 44 13 = np from z1_z))).trans z1_z.symm) ((show rg_v (am_up h3380_z 164 45 (.int 0)) 164 41 = np from (show rg_v (am_up h3380_z 164 45 (.int 0)) 164 41 = np from ((rg_v_fr GF (by decide)).trans (show rg_v (am_up g 164 44 (.int (kn + 1))) 164 41 = np from z2_z)))).trans z2_z.symm) ((show rg_v h3374_z 44 14 = op from ((rg_v_fr PF (by decide)).trans (show rg_v (am_up h 32 0 (.int (kn + 1))) 44 14 = op from z4_z))).trans z4_z.symm) ((show rg_v (am_up h3380_z 164 45 (.int 0)) 164 43 = op from (show rg_v (am_up h3380_z 164 45 (.int 0)) 164 43 = op from ((rg_v_fr GF (by decide)).trans (show rg_v (am_up g 164 44 (.int (kn + 1))) 164 43 = op from z5_z)))).trans z5_z.symm) (show (rg_v h 32 0).toInt ≤ (rg_v h3374_z 32 0).toInt by rw [(show rg_v h3374_z 32 0 = kn + 1 from ((rg_v_fr PF (by decide)).trans (show rg_v (am_up h 32 0 (.int (kn + 1))) 32 0 = kn + 1 from rfl))), ekn]; omega) (fun k => rg_v_fr FC47 (rg_v_in (by decide) k)) (fun k => rg_v_fr FM184 (rg_v_in (by decide) k))
        replace Z2 := rs_fr (by decide) Z2 t5_z t6_z
        have e45_z : rg_v h3383_z 164 45 = 0 := (rg_v_fr t6_z (by decide)).trans (show rg_v (am_up h3380_z 164 45 (.int 0)) 164 45 = 0 from (show rg_v (am_up h3380_z 164 45 (.int 0)) 164 45 = 0 from rfl))
        have e46_z : rg_v h3383_z 164 46 = 0 := (rg_v_fr t6_z (by decide)).trans (show rg_v (am_up h3380_z 164 45 (.int 0)) 164 46 = 0 from (show rg_v (am_up h3380_z 164 45 (.int 0)) 164 46 = 0 from ((rg_v_fr GF (by decide)).trans (show rg_v (am_up g 164 44 (.int (kn + 1))) 164 46 = 0 from w2_z))))
        replace hm_z : rn _ _ _ _ [] _ _ _ := hm_z
        replace hc_z : rn _ _ _ _ [] _ _ _ := hc_z
        replace hc_z := rn_iconst (w := 2) (am_cur_of (i := (176, 1, .iconst 2, (0, 0, 0), 0)) (by decide +kernel)) (by decide) hc_z
        replace hc_z := rn_iret (am_cur_of (i := (177, 1, .ireturn, (0, 0, 0), 0)) (by decide +kernel)) hc_z
        obtain ⟨e3385_z, e3386_z⟩ := hc_z
        replace hm_z := rn_iconst (w := 1) (am_cur_of (i := (173, 1, .iconst 1, (0, 0, 0), 0)) (by decide +kernel)) (by decide) hm_z
        replace hm_z := rn_iret (am_cur_of (i := (174, 1, .ireturn, (0, 0, 0), 0)) (by decide +kernel)) hm_z
        obtain ⟨e3387_z, e3388_z⟩ := hm_z
        subst e3385_z e3386_z e3387_z e3388_z
        exact Or.inl ⟨_, x2_z, p2_z, rfl, rfl, R2, le2_z, A2, B2, Z2, Or.inr (Or.inr ⟨rfl, e45_z⟩)⟩
  · have g0_z : am_get (lv_args 0 [.ref 44, .int 1]) 0 = some (.ref 44) := rfl
    have g1_z : am_get (lv_args 0 [.ref 44, .int 1]) 1 = some (.int 1) := rfl
    have g0m : am_get (lv_args 0 [.ref 164]) 0 = some (.ref 164) := rfl
    have Rk := R
    have Zk := Z
    obtain ⟨⟨c1_z, c2_z, c3_z, c4_z, c5_z, c6_z, c7_z, c8_z⟩, ⟨m2_z, m3_z, m4_z, m5_z, m6_z, m7_z, m8_z⟩, R3, R4, R5, R6, R7, R8, R9, R10⟩ := (R : rq T S x p 23 h g)
    obtain ⟨np, op, z1_z, z2_z, z3_z, z4_z, z5_z, z6_z, z7_z, z8_z, z9_z, z10_z⟩ := (Z : rs 23 h g)
    obtain ⟨nk1_z, nk2_z, nk3_z⟩ := A.2.2.2.2.2.1
    replace nk1_z : rg_v h 32 0 = rg_v g 164 44 := nk1_z
    replace nk2_z : 0 ≤ (rg_v h 32 0).toInt := nk2_z
    replace nk3_z : (rg_v h 32 0).toInt ≤ 64 := nk3_z
    replace z8_z : np.toInt ≤ (rg_v h 32 0).toInt + op.toInt := z8_z
    obtain ⟨kn, ekn⟩ : ∃ v, rg_v h 32 0 = v := ⟨_, rfl⟩
    rw [ekn] at nk1_z nk2_z nk3_z z8_z
    have e9_z := rt_c1 (x := kn) (by omega) (by omega)
    replace hc_z := rn_aload_n (am_cur_of (i := (0, 1, .aload_n 0, (0, 0, 0), 0)) (by decide +kernel)) g0_z hc_z
    replace hc_z := rn_getI (v := 2) (am_cur_of (i := (1, 3, .getfield 60, (4, 10, 419), 0)) (by decide +kernel)) (by decide +kernel) ka hc_z
    replace hc_z := rn_bipush (w := 6) (am_cur_of (i := (4, 2, .bipush 6, (0, 0, 0), 0)) (by decide +kernel)) (by decide) hc_z
    replace hc_z := rn_cmpT (am_cur_of (i := (6, 3, .if_icmp .ne 30, (19, 0, 0), 0)) (by decide +kernel)) (by decide) hc_z
    replace hc_z := rn_aload_n (am_cur_of (i := (36, 1, .aload_n 0, (0, 0, 0), 0)) (by decide +kernel)) g0_z hc_z
    replace hc_z := rn_bipush (w := 40) (am_cur_of (i := (37, 2, .bipush 40, (0, 0, 0), 0)) (by decide +kernel)) (by decide) hc_z
    replace hc_z := rn_callV (M' := am_m45) (o := 44) (ar := [.int 40]) (rest := []) (L := lv_args 0 [.ref 44, .int 40]) (am_cur_of (i := (39, 3, .invokevirtual 105, (45, 834, 3), 0)) (by decide +kernel)) rfl rfl rfl rfl hc_z
    obtain ⟨r3389_z, h3390_z, q3391_z, hc_z⟩ := hc_z
    obtain ⟨rfl, yq3391_z⟩ := rp_mkN (fun q => absurd (Eq.trans (Eq.symm ka) q.1) (by decide)) q3391_z
    subst yq3391_z
    replace hc_z : rn _ _ _ _ [.int 0] _ _ _ := hc_z
    replace hc_z := rn_ifT (am_cur_of (i := (42, 3, .ifCond .eq 38, (43, 0, 0), 0)) (by decide +kernel)) (by decide) hc_z
    replace hc_z := rn_aload_n (am_cur_of (i := (80, 1, .aload_n 0, (0, 0, 0), 0)) (by decide +kernel)) g0_z hc_z
    replace hc_z := rn_getI (v := 2) (am_cur_of (i := (81, 3, .getfield 60, (4, 10, 419), 0)) (by decide +kernel)) (by decide +kernel) ka hc_z
    replace hc_z := rn_iconst (w := 4) (am_cur_of (i := (84, 1, .iconst 4, (0, 0, 0), 0)) (by decide +kernel)) (by decide) hc_z
    replace hc_z := rn_cmpT (am_cur_of (i := (85, 3, .if_icmp .ne 40, (64, 0, 0), 0)) (by decide +kernel)) (by decide) hc_z
    replace hc_z := rn_aload_n (am_cur_of (i := (125, 1, .aload_n 0, (0, 0, 0), 0)) (by decide +kernel)) g0_z hc_z
    replace hc_z := rn_getI (v := 2) (am_cur_of (i := (126, 3, .getfield 60, (4, 10, 419), 0)) (by decide +kernel)) (by decide +kernel) ka hc_z
    replace hc_z := rn_iconst (w := 2) (am_cur_of (i := (129, 1, .iconst 2, (0, 0, 0), 0)) (by decide +kernel)) (by decide) hc_z
    replace hc_z := rn_cmpF (am_cur_of (i := (130, 3, .if_icmp .ne 37, (84, 0, 0), 0)) (by decide +kernel)) (by decide) hc_z
    replace hc_z := rn_aload_n (am_cur_of (i := (133, 1, .aload_n 0, (0, 0, 0), 0)) (by decide +kernel)) g0_z hc_z
    replace hc_z := rn_getI (v := 16) (am_cur_of (i := (134, 3, .getfield 91, (4, 11, 420), 0)) (by decide +kernel)) (by decide +kernel) kb hc_z
    replace hc_z := rn_bipush (w := 11) (am_cur_of (i := (137, 2, .bipush 11, (0, 0, 0), 0)) (by decide +kernel)) (by decide) hc_z
    replace hc_z := rn_cmpF (am_cur_of (i := (139, 3, .if_icmp .lt 28, (84, 0, 0), 0)) (by decide +kernel)) (by decide) hc_z
    replace hc_z := rn_aload_n (am_cur_of (i := (142, 1, .aload_n 0, (0, 0, 0), 0)) (by decide +kernel)) g0_z hc_z
    replace hc_z := rn_callV (M' := am_m49) (o := 44) (ar := []) (rest := []) (L := lv_args 0 [.ref 44]) (am_cur_of (i := (143, 3, .invokevirtual 270, (49, 852, 3), 0)) (by decide +kernel)) rfl rfl rfl rfl hc_z
    obtain ⟨r3392_z, h3393_z, q3394_z, hc_z⟩ := hc_z
    rcases rs_ck23 R4 (show h 44 6 = .ref 23 from R3) q3394_z with ⟨ge, rfl, eh⟩ | ⟨lt, rfl, eh⟩
    · subst eh
      replace ge : 64 ≤ kn.toInt := by rw [← ekn]; exact ge
      replace hc_z : rn _ _ _ _ [] _ _ _ := hc_z
      have K := rs_stick (w := 2) (q := p) (a := 51) (by decide) (by decide) rfl (by decide) rfl (show rg_v (am_up (am_up h 44 1 (.int 2)) 44 2 (.int (rg_v h 44 9))) 44 2 = p from R5) hc_z
      replace hm_z := rn_aload_n (am_cur_of (i := (0, 1, .aload_n 0, (0, 0, 0), 0)) (by decide +kernel)) g0m hm_z
      replace hm_z := rn_bipush (w := 40) (am_cur_of (i := (1, 2, .bipush 40, (0, 0, 0), 0)) (by decide +kernel)) (by decide) hm_z
      replace hm_z := rn_callV (M' := am_m171) (o := 164) (ar := [.int 40]) (rest := []) (L := lv_args 0 [.ref 164, .int 40]) (am_cur_of (i := (3, 3, .invokevirtual 194, (171, 1715, 3), 0)) (by decide +kernel)) rfl rfl rfl rfl hm_z
      obtain ⟨r3395_z, h3396_z, q3397_z, hm_z⟩ := hm_z
      obtain ⟨rfl, yq3397_z⟩ := rp_sgN (fun q => absurd (Eq.trans (Eq.symm kc) q.1) (by decide)) q3397_z
      subst yq3397_z
      replace hm_z : rn _ _ _ _ [.int 0] _ _ _ := hm_z
      replace hm_z := rn_ifT (am_cur_of (i := (6, 3, .ifCond .eq 44, (28, 0, 0), 0)) (by decide +kernel)) (by decide) hm_z
      replace hm_z := rn_aload_n (am_cur_of (i := (50, 1, .aload_n 0, (0, 0, 0), 0)) (by decide +kernel)) g0m hm_z
      replace hm_z := rn_bipush (w := 14) (am_cur_of (i := (51, 2, .bipush 14, (0, 0, 0), 0)) (by decide +kernel)) (by decide) hm_z
      replace hm_z := rn_callV (M' := am_m174) (o := 164) (ar := [.int 14]) (rest := []) (L := lv_args 0 [.ref 164, .int 14]) (am_cur_of (i := (53, 3, .invokevirtual 306, (174, 1727, 3), 0)) (by decide +kernel)) rfl rfl rfl rfl hm_z
      obtain ⟨r3398_z, h3399_z, q3400_z, hm_z⟩ := hm_z
      obtain ⟨rfl, yq3400_z⟩ := rp_kyN (fun q => absurd (Eq.trans (Eq.symm kd) q.2) (by decide)) q3400_z
      subst yq3400_z
      replace hm_z : rn _ _ _ _ [.int 0] _ _ _ := hm_z
      replace hm_z := rn_ifT (am_cur_of (i := (56, 3, .ifCond .eq 30, (47, 0, 0), 0)) (by decide +kernel)) (by decide) hm_z
      replace hm_z := rn_aload_n (am_cur_of (i := (86, 1, .aload_n 0, (0, 0, 0), 0)) (by decide +kernel)) g0m hm_z
      replace hm_z := rn_callV (M' := am_m176) (o := 164) (ar := []) (rest := []) (L := lv_args 0 [.ref 164]) (am_cur_of (i := (87, 3, .invokevirtual 312, (176, 1735, 3), 0)) (by decide +kernel)) rfl rfl rfl rfl hm_z
      obtain ⟨r3401_z, h3402_z, q3403_z, hm_z⟩ := hm_z
      obtain ⟨rfl, yq3403_z⟩ := rp_nm (c := 1) (d := 19) kc kd q3403_z
      replace yq3403_z := yq3403_z.symm
      subst yq3403_z
      rw [show rp_nmf 1 19 = 5 from by decide] at hm_z
      replace hm_z : rn _ _ _ _ [.int 5] _ _ _ := hm_z
      replace hm_z := rn_istore_n (am_cur_of (i := (90, 1, .istore_n 1, (0, 0, 0), 0)) (by decide +kernel)) hm_z
      obtain ⟨_, s3404_z, s3405_z, g1m, hm_z⟩ := hm_z
      replace g0m := s3404_z 0 _ (by decide) rfl g0m
      clear s3404_z s3405_z
      replace hm_z := rn_iload_n (am_cur_of (i := (91, 1, .iload_n 1, (0, 0, 0), 0)) (by decide +kernel)) g1m hm_z
      replace hm_z := rn_ifT (am_cur_of (i := (92, 3, .ifCond .ge 17, (60, 0, 0), 0)) (by decide +kernel)) (by decide) hm_z
      replace hm_z := rn_iload_n (am_cur_of (i := (109, 1, .iload_n 1, (0, 0, 0), 0)) (by decide +kernel)) g1m hm_z
      replace hm_z := rn_ifT (am_cur_of (i := (110, 3, .ifCond .ge 19, (70, 0, 0), 0)) (by decide +kernel)) (by decide) hm_z
      replace hm_z := rn_aload_n (am_cur_of (i := (129, 1, .aload_n 0, (0, 0, 0), 0)) (by decide +kernel)) g0m hm_z
      replace hm_z := rn_callV (M' := am_m175) (o := 164) (ar := []) (rest := []) (L := lv_args 0 [.ref 164]) (am_cur_of (i := (130, 3, .invokevirtual 309, (175, 1731, 3), 0)) (by decide +kernel)) rfl rfl rfl rfl hm_z
      obtain ⟨r3406_z, h3407_z, q3408_z, hm_z⟩ := hm_z
      rcases rs_ic q3408_z with ⟨i1_z, rfl, i3_z⟩ | ⟨i1_z, -⟩
      · subst i3_z
        replace hm_z : rn _ _ _ _ [.int 0] _ _ _ := hm_z
        replace hm_z := rn_ifF (am_cur_of (i := (133, 3, .ifCond .ne 5, (75, 0, 0), 0)) (by decide +kernel)) (by decide) hm_z
        replace hm_z := rn_iconst (w := 0) (am_cur_of (i := (136, 1, .iconst 0, (0, 0, 0), 0)) (by decide +kernel)) (by decide) hm_z
        replace hm_z := rn_iret (am_cur_of (i := (137, 1, .ireturn, (0, 0, 0), 0)) (by decide +kernel)) hm_z
        obtain ⟨e3409_z, e3410_z⟩ := hm_z
        subst e3409_z e3410_z
        exact (Or.inr ⟨rfl, 2, by decide, K.1, K.2, rfl, R6⟩)
      · exact absurd (Int32.toInt_inj.mp (show (rg_v g 164 44).toInt = (64 : Int32).toInt from by rw [show rg_v g 164 44 = kn from nk1_z.symm, show (64 : Int32).toInt = 64 by decide]; omega)) i1_z
    · subst eh
      replace lt : kn.toInt < 64 := by rw [← ekn]; exact lt
      rw [show rg_v h 32 0 = kn from ekn] at hc_z
      replace hm_z := rn_aload_n (am_cur_of (i := (0, 1, .aload_n 0, (0, 0, 0), 0)) (by decide +kernel)) g0m hm_z
      replace hm_z := rn_bipush (w := 40) (am_cur_of (i := (1, 2, .bipush 40, (0, 0, 0), 0)) (by decide +kernel)) (by decide) hm_z
      replace hm_z := rn_callV (M' := am_m171) (o := 164) (ar := [.int 40]) (rest := []) (L := lv_args 0 [.ref 164, .int 40]) (am_cur_of (i := (3, 3, .invokevirtual 194, (171, 1715, 3), 0)) (by decide +kernel)) rfl rfl rfl rfl hm_z
      obtain ⟨r3411_z, h3412_z, q3413_z, hm_z⟩ := hm_z
      obtain ⟨rfl, yq3413_z⟩ := rp_sgN (fun q => absurd (Eq.trans (Eq.symm kc) q.1) (by decide)) q3413_z
      subst yq3413_z
      replace hm_z : rn _ _ _ _ [.int 0] _ _ _ := hm_z
      replace hm_z := rn_ifT (am_cur_of (i := (6, 3, .ifCond .eq 44, (28, 0, 0), 0)) (by decide +kernel)) (by decide) hm_z
      replace hm_z := rn_aload_n (am_cur_of (i := (50, 1, .aload_n 0, (0, 0, 0), 0)) (by decide +kernel)) g0m hm_z
      replace hm_z := rn_bipush (w := 14) (am_cur_of (i := (51, 2, .bipush 14, (0, 0, 0), 0)) (by decide +kernel)) (by decide) hm_z
      replace hm_z := rn_callV (M' := am_m174) (o := 164) (ar := [.int 14]) (rest := []) (L := lv_args 0 [.ref 164, .int 14]) (am_cur_of (i := (53, 3, .invokevirtual 306, (174, 1727, 3), 0)) (by decide +kernel)) rfl rfl rfl rfl hm_z
      obtain ⟨r3414_z, h3415_z, q3416_z, hm_z⟩ := hm_z
      obtain ⟨rfl, yq3416_z⟩ := rp_kyN (fun q => absurd (Eq.trans (Eq.symm kd) q.2) (by decide)) q3416_z
      subst yq3416_z
      replace hm_z : rn _ _ _ _ [.int 0] _ _ _ := hm_z
      replace hm_z := rn_ifT (am_cur_of (i := (56, 3, .ifCond .eq 30, (47, 0, 0), 0)) (by decide +kernel)) (by decide) hm_z
      replace hm_z := rn_aload_n (am_cur_of (i := (86, 1, .aload_n 0, (0, 0, 0), 0)) (by decide +kernel)) g0m hm_z
      replace hm_z := rn_callV (M' := am_m176) (o := 164) (ar := []) (rest := []) (L := lv_args 0 [.ref 164]) (am_cur_of (i := (87, 3, .invokevirtual 312, (176, 1735, 3), 0)) (by decide +kernel)) rfl rfl rfl rfl hm_z
      obtain ⟨r3417_z, h3418_z, q3419_z, hm_z⟩ := hm_z
      obtain ⟨rfl, yq3419_z⟩ := rp_nm (c := 1) (d := 19) kc kd q3419_z
      replace yq3419_z := yq3419_z.symm
      subst yq3419_z
      rw [show rp_nmf 1 19 = 5 from by decide] at hm_z
      replace hm_z : rn _ _ _ _ [.int 5] _ _ _ := hm_z
      replace hm_z := rn_istore_n (am_cur_of (i := (90, 1, .istore_n 1, (0, 0, 0), 0)) (by decide +kernel)) hm_z
      obtain ⟨_, s3420_z, s3421_z, g1m, hm_z⟩ := hm_z
      replace g0m := s3420_z 0 _ (by decide) rfl g0m
      clear s3420_z s3421_z
      replace hm_z := rn_iload_n (am_cur_of (i := (91, 1, .iload_n 1, (0, 0, 0), 0)) (by decide +kernel)) g1m hm_z
      replace hm_z := rn_ifT (am_cur_of (i := (92, 3, .ifCond .ge 17, (60, 0, 0), 0)) (by decide +kernel)) (by decide) hm_z
      replace hm_z := rn_iload_n (am_cur_of (i := (109, 1, .iload_n 1, (0, 0, 0), 0)) (by decide +kernel)) g1m hm_z
      replace hm_z := rn_ifT (am_cur_of (i := (110, 3, .ifCond .ge 19, (70, 0, 0), 0)) (by decide +kernel)) (by decide) hm_z
      replace hm_z := rn_aload_n (am_cur_of (i := (129, 1, .aload_n 0, (0, 0, 0), 0)) (by decide +kernel)) g0m hm_z
      replace hm_z := rn_callV (M' := am_m175) (o := 164) (ar := []) (rest := []) (L := lv_args 0 [.ref 164]) (am_cur_of (i := (130, 3, .invokevirtual 309, (175, 1731, 3), 0)) (by decide +kernel)) rfl rfl rfl rfl hm_z
      obtain ⟨r3422_z, h3423_z, q3424_z, hm_z⟩ := hm_z
      rcases rs_ic q3424_z with ⟨i1_z, -⟩ | ⟨i1_z, rfl, i3_z⟩
      · exfalso
        have zz := congrArg Int32.toInt i1_z
        rw [show rg_v g 164 44 = kn from nk1_z.symm, show (64 : Int32).toInt = 64 by decide] at zz
        omega
      · subst i3_z
        rw [show rg_v g 164 44 = kn from nk1_z.symm] at hm_z
        replace hm_z : rn _ _ _ _ [.int 1] _ _ _ := hm_z
        replace hc_z : rn _ _ _ _ [] _ _ _ := hc_z
        replace hc_z := rn_aload_n (am_cur_of (i := (146, 1, .aload_n 0, (0, 0, 0), 0)) (by decide +kernel)) g0_z hc_z
        replace hc_z := rn_getM (x := 23) (am_cur_of (i := (147, 3, .getfield 25, (4, 6, 415), 0)) (by decide +kernel)) (show (am_up h 32 0 (.int (kn + 1))) 44 6 = .ref 23 from R3) hc_z
        replace hc_z := rn_getR (x := 32) (am_cur_of (i := (150, 3, .getfield 242, (1, 19, 316), 0)) (by decide +kernel)) (by decide +kernel) hc_z
        replace hc_z := rn_iconst (w := 1) (am_cur_of (i := (153, 1, .iconst 1, (0, 0, 0), 0)) (by decide +kernel)) (by decide) hc_z
        replace hc_z := rn_aload_n (am_cur_of (i := (154, 1, .aload_n 0, (0, 0, 0), 0)) (by decide +kernel)) g0_z hc_z
        replace hc_z := rn_getI (v := 16) (am_cur_of (i := (155, 3, .getfield 91, (4, 11, 420), 0)) (by decide +kernel)) (by decide +kernel) (show rg_v (am_up h 32 0 (.int (kn + 1))) 44 11 = 16 from kb) hc_z
        replace hc_z := rn_bipush (w := 11) (am_cur_of (i := (158, 2, .bipush 11, (0, 0, 0), 0)) (by decide +kernel)) (by decide) hc_z
        replace hc_z := rn_isub (w := 5) (am_cur_of (i := (160, 1, .isub, (0, 0, 0), 0)) (by decide +kernel)) (by decide) hc_z
        replace hc_z := rn_callV (M' := am_m48) (o := 32) (ar := [.int 5, .int 1]) (rest := []) (L := lv_args 0 [.ref 32, .int 1, .int 5]) (am_cur_of (i := (161, 3, .invokevirtual 276, (48, 845, 3), 0)) (by decide +kernel)) rfl rfl rfl rfl hc_z
        obtain ⟨r3425_z, h3426_z, q3427_z, hc_z⟩ := hc_z
        obtain ⟨rfl, PF⟩ := rs_put23 q3427_z
        replace hc_z : rn _ _ _ _ [] _ _ _ := hc_z
        replace hc_z := rn_goto (am_cur_of (i := (164, 3, .goto 8, (87, 0, 0), 0)) (by decide +kernel)) hc_z
        replace hc_z := rn_aload_n (am_cur_of (i := (172, 1, .aload_n 0, (0, 0, 0), 0)) (by decide +kernel)) g0_z hc_z
        replace hc_z := rn_callV (M' := am_m19) (o := 44) (ar := []) (rest := []) (L := lv_args 0 [.ref 44]) (am_cur_of (i := (173, 3, .invokevirtual 57, (19, 727, 3), 0)) (by decide +kernel)) rfl rfl rfl rfl hc_z
        obtain ⟨r3428_z, h3429_z, q3430_z, hc_z⟩ := hc_z
        have vo := rn_void rfl q3430_z
        subst vo
        replace hm_z := rn_ifT (am_cur_of (i := (133, 3, .ifCond .ne 5, (75, 0, 0), 0)) (by decide +kernel)) (by decide) hm_z
        replace hm_z := rn_aload_n (am_cur_of (i := (138, 1, .aload_n 0, (0, 0, 0), 0)) (by decide +kernel)) g0m hm_z
        replace hm_z := rn_iload_n (am_cur_of (i := (139, 1, .iload_n 1, (0, 0, 0), 0)) (by decide +kernel)) g1m hm_z
        replace hm_z := rn_ifF (am_cur_of (i := (140, 3, .ifCond .lt 7, (80, 0, 0), 0)) (by decide +kernel)) (by decide) hm_z
        replace hm_z := rn_iconst (w := 1) (am_cur_of (i := (143, 1, .iconst 1, (0, 0, 0), 0)) (by decide +kernel)) (by decide) hm_z
        replace hm_z := rn_goto (am_cur_of (i := (144, 3, .goto 4, (81, 0, 0), 0)) (by decide +kernel)) hm_z
        replace hm_z := rn_iload_n (am_cur_of (i := (148, 1, .iload_n 1, (0, 0, 0), 0)) (by decide +kernel)) g1m hm_z
        replace hm_z := rn_ifF (am_cur_of (i := (149, 3, .ifCond .lt 7, (85, 0, 0), 0)) (by decide +kernel)) (by decide) hm_z
        replace hm_z := rn_iload_n (am_cur_of (i := (152, 1, .iload_n 1, (0, 0, 0), 0)) (by decide +kernel)) g1m hm_z
        replace hm_z := rn_goto (am_cur_of (i := (153, 3, .goto 7, (87, 0, 0), 0)) (by decide +kernel)) hm_z
        replace hm_z := rn_iconst (w := 0) (am_cur_of (i := (160, 1, .iconst 0, (0, 0, 0), 0)) (by decide +kernel)) (by decide) hm_z
        replace hm_z := rn_callV (M' := am_m177) (o := 164) (ar := [.int 0, .int 5, .int 1]) (rest := []) (L := lv_args 0 [.ref 164, .int 1, .int 5, .int 0]) (am_cur_of (i := (161, 3, .invokevirtual 291, (177, 1739, 3), 0)) (by decide +kernel)) rfl rfl rfl rfl hm_z
        obtain ⟨r3431_z, h3432_z, q3433_z, hm_z⟩ := hm_z
        obtain ⟨rfl, GF⟩ := rs_grown q3433_z
        replace hm_z : rn _ _ _ _ [] _ _ _ := hm_z
        replace hm_z := rn_aload_n (am_cur_of (i := (164, 1, .aload_n 0, (0, 0, 0), 0)) (by decide +kernel)) g0m hm_z
        replace hm_z := rn_iconst (w := 0) (am_cur_of (i := (165, 1, .iconst 0, (0, 0, 0), 0)) (by decide +kernel)) (by decide) hm_z
        replace hm_z := rn_put (am_cur_of (i := (166, 3, .putfield 315, (12, 45, 1429), 0)) (by decide +kernel)) (by decide +kernel) hm_z
        replace hm_z := rn_aload_n (am_cur_of (i := (169, 1, .aload_n 0, (0, 0, 0), 0)) (by decide +kernel)) g0m hm_z
        replace hm_z := rn_callV (M' := am_m151) (o := 164) (ar := []) (rest := []) (L := lv_args 0 [.ref 164]) (am_cur_of (i := (170, 3, .invokevirtual 191, (151, 1636, 3), 0)) (by decide +kernel)) rfl rfl rfl rfl hm_z
        obtain ⟨r3434_z, h3435_z, q3436_z, hm_z⟩ := hm_z
        have vo := rn_void rfl q3436_z
        subst vo
        have FC : ab_Fr (rz_MC23.drop 1) h h3426_z := ab_Fr_trans (ab_Fr_up rfl ab_Fr_refl) (ab_Fr_sub (by decide) PF)
        have FC' : ab_Fr rz_MC23 h h3426_z := ab_Fr_sub (by decide) FC
        have FM : ab_Fr rz_MM g (am_up h3432_z 164 45 (.int 0)) := ab_Fr_up rfl (ab_Fr_trans (ab_Fr_up rfl ab_Fr_refl) (ab_Fr_sub (by decide) GF))
        obtain ⟨-, -, x2_z, p2_z, R2, le2_z, t5_z, t6_z⟩ := pr_tok (rz_q023 (rq_0 Rk) FC' FM) q3430_z q3436_z
        have A2 := rp_x (by decide) (rz_p23 A FC' FM ((show rg_v h3426_z 32 0 = kn + 1 from ((rg_v_fr PF (by decide)).trans (show rg_v (am_up h 32 0 (.int (kn + 1))) 32 0 = kn + 1 from rfl))).trans (show rg_v (am_up h3432_z 164 45 (.int 0)) 164 44 = kn + 1 from (show rg_v (am_up h3432_z 164 45 (.int 0)) 164 44 = kn + 1 from ((rg_v_fr GF (by decide)).trans (show rg_v (am_up g 164 44 (.int (kn + 1))) 164 44 = kn + 1 from rfl)))).symm) (by rw [show rg_v h3426_z 32 0 = kn + 1 from ((rg_v_fr PF (by decide)).trans (show rg_v (am_up h 32 0 (.int (kn + 1))) 32 0 = kn + 1 from rfl))]; omega) (by rw [show rg_v h3426_z 32 0 = kn + 1 from ((rg_v_fr PF (by decide)).trans (show rg_v (am_up h 32 0 (.int (kn + 1))) 32 0 = kn + 1 from rfl))]; omega)) (rx_C_f t5_z) (rx_M_f t6_z)
        have B2 := rp_tk (rz_t23 B FC FM) (rg_v_fr t5_z (by decide)) (fun k => rg_v_fr t6_z (rg_v_in (by decide) k)) (rx_M_f t6_z)
        have FC47 : ab_Fr [(44, 14), (44, 15), (32, 1), (32, 2), (33, 0), (34, 0)] h h3426_z := ab_Fr_trans (ab_Fr_up rfl ab_Fr_refl) (ab_Fr_sub (by decide) PF)
        have FM184 : ab_Fr [(164, 42), (164, 43), (164, 44), (164, 45), (164, 46), (164, 47), (164, 22), (181, 0), (182, 0), (183, 0), (185, 0)] g (am_up h3432_z 164 45 (.int 0)) := ab_Fr_up rfl (ab_Fr_trans (ab_Fr_up rfl ab_Fr_refl) (ab_Fr_sub (by decide) GF))
        have Z2 : rs 23 h3426_z (am_up h3432_z 164 45 (.int 0)) := rs_keep Zk ((show rg_v h3426_z 44 13 = np from ((rg_v_fr PF (by decide)).trans (show rg_v (am_up h 32 0 (.int (kn + 1))) 44 13 = np from z1_z))).trans z1_z.symm) ((show rg_v (am_up h3432_z 164 45 (.int 0)) 164 41 = np from (show rg_v (am_up h3432_z 164 45 (.int 0)) 164 41 = np from ((rg_v_fr GF (by decide)).trans (show rg_v (am_up g 164 44 (.int (kn + 1))) 164 41 = np from z2_z)))).trans z2_z.symm) ((show rg_v h3426_z 44 14 = op from ((rg_v_fr PF (by decide)).trans (show rg_v (am_up h 32 0 (.int (kn + 1))) 44 14 = op from z4_z))).trans z4_z.symm) ((show rg_v (am_up h3432_z 164 45 (.int 0)) 164 43 = op from (show rg_v (am_up h3432_z 164 45 (.int 0)) 164 43 = op from ((rg_v_fr GF (by decide)).trans (show rg_v (am_up g 164 44 (.int (kn + 1))) 164 43 = op from z5_z)))).trans z5_z.symm) (show (rg_v h 32 0).toInt ≤ (rg_v h3426_z 32 0).toInt by rw [(show rg_v h3426_z 32 0 = kn + 1 from ((rg_v_fr PF (by decide)).trans (show rg_v (am_up h 32 0 (.int (kn + 1))) 32 0 = kn + 1 from rfl))), ekn]; omega) (fun k => rg_v_fr FC47 (rg_v_in (by decide) k)) (fun k => rg_v_fr FM184 (rg_v_in (by decide) k))
        replace Z2 := rs_fr (by decide) Z2 t5_z t6_z
        have e45_z : rg_v h3435_z 164 45 = 0 := (rg_v_fr t6_z (by decide)).trans (show rg_v (am_up h3432_z 164 45 (.int 0)) 164 45 = 0 from (show rg_v (am_up h3432_z 164 45 (.int 0)) 164 45 = 0 from rfl))
        have e46_z : rg_v h3435_z 164 46 = 0 := (rg_v_fr t6_z (by decide)).trans (show rg_v (am_up h3432_z 164 45 (.int 0)) 164 46 = 0 from (show rg_v (am_up h3432_z 164 45 (.int 0)) 164 46 = 0 from ((rg_v_fr GF (by decide)).trans (show rg_v (am_up g 164 44 (.int (kn + 1))) 164 46 = 0 from w2_z))))
        replace hm_z : rn _ _ _ _ [] _ _ _ := hm_z
        replace hc_z : rn _ _ _ _ [] _ _ _ := hc_z
        replace hc_z := rn_iconst (w := 2) (am_cur_of (i := (176, 1, .iconst 2, (0, 0, 0), 0)) (by decide +kernel)) (by decide) hc_z
        replace hc_z := rn_iret (am_cur_of (i := (177, 1, .ireturn, (0, 0, 0), 0)) (by decide +kernel)) hc_z
        obtain ⟨e3437_z, e3438_z⟩ := hc_z
        replace hm_z := rn_iconst (w := 1) (am_cur_of (i := (173, 1, .iconst 1, (0, 0, 0), 0)) (by decide +kernel)) (by decide) hm_z
        replace hm_z := rn_iret (am_cur_of (i := (174, 1, .ireturn, (0, 0, 0), 0)) (by decide +kernel)) hm_z
        obtain ⟨e3439_z, e3440_z⟩ := hm_z
        subst e3437_z e3438_z e3439_z e3440_z
        exact Or.inl ⟨_, x2_z, p2_z, rfl, rfl, R2, le2_z, A2, B2, Z2, Or.inr (Or.inr ⟨rfl, e45_z⟩)⟩
  · have g0_z : am_get (lv_args 0 [.ref 44, .int 1]) 0 = some (.ref 44) := rfl
    have g1_z : am_get (lv_args 0 [.ref 44, .int 1]) 1 = some (.int 1) := rfl
    have g0m : am_get (lv_args 0 [.ref 164]) 0 = some (.ref 164) := rfl
    have Rk := R
    have Zk := Z
    obtain ⟨⟨c1_z, c2_z, c3_z, c4_z, c5_z, c6_z, c7_z, c8_z⟩, ⟨m2_z, m3_z, m4_z, m5_z, m6_z, m7_z, m8_z⟩, R3, R4, R5, R6, R7, R8, R9, R10⟩ := (R : rq T S x p 23 h g)
    obtain ⟨np, op, z1_z, z2_z, z3_z, z4_z, z5_z, z6_z, z7_z, z8_z, z9_z, z10_z⟩ := (Z : rs 23 h g)
    obtain ⟨nk1_z, nk2_z, nk3_z⟩ := A.2.2.2.2.2.1
    replace nk1_z : rg_v h 32 0 = rg_v g 164 44 := nk1_z
    replace nk2_z : 0 ≤ (rg_v h 32 0).toInt := nk2_z
    replace nk3_z : (rg_v h 32 0).toInt ≤ 64 := nk3_z
    replace z8_z : np.toInt ≤ (rg_v h 32 0).toInt + op.toInt := z8_z
    obtain ⟨kn, ekn⟩ : ∃ v, rg_v h 32 0 = v := ⟨_, rfl⟩
    rw [ekn] at nk1_z nk2_z nk3_z z8_z
    have e9_z := rt_c1 (x := kn) (by omega) (by omega)
    replace hc_z := rn_aload_n (am_cur_of (i := (0, 1, .aload_n 0, (0, 0, 0), 0)) (by decide +kernel)) g0_z hc_z
    replace hc_z := rn_getI (v := 3) (am_cur_of (i := (1, 3, .getfield 60, (4, 10, 419), 0)) (by decide +kernel)) (by decide +kernel) ka hc_z
    replace hc_z := rn_bipush (w := 6) (am_cur_of (i := (4, 2, .bipush 6, (0, 0, 0), 0)) (by decide +kernel)) (by decide) hc_z
    replace hc_z := rn_cmpT (am_cur_of (i := (6, 3, .if_icmp .ne 30, (19, 0, 0), 0)) (by decide +kernel)) (by decide) hc_z
    replace hc_z := rn_aload_n (am_cur_of (i := (36, 1, .aload_n 0, (0, 0, 0), 0)) (by decide +kernel)) g0_z hc_z
    replace hc_z := rn_bipush (w := 40) (am_cur_of (i := (37, 2, .bipush 40, (0, 0, 0), 0)) (by decide +kernel)) (by decide) hc_z
    replace hc_z := rn_callV (M' := am_m45) (o := 44) (ar := [.int 40]) (rest := []) (L := lv_args 0 [.ref 44, .int 40]) (am_cur_of (i := (39, 3, .invokevirtual 105, (45, 834, 3), 0)) (by decide +kernel)) rfl rfl rfl rfl hc_z
    obtain ⟨r3441_z, h3442_z, q3443_z, hc_z⟩ := hc_z
    obtain ⟨rfl, yq3443_z⟩ := rp_mkN (fun q => absurd (Eq.trans (Eq.symm ka) q.1) (by decide)) q3443_z
    subst yq3443_z
    replace hc_z : rn _ _ _ _ [.int 0] _ _ _ := hc_z
    replace hc_z := rn_ifT (am_cur_of (i := (42, 3, .ifCond .eq 38, (43, 0, 0), 0)) (by decide +kernel)) (by decide) hc_z
    replace hc_z := rn_aload_n (am_cur_of (i := (80, 1, .aload_n 0, (0, 0, 0), 0)) (by decide +kernel)) g0_z hc_z
    replace hc_z := rn_getI (v := 3) (am_cur_of (i := (81, 3, .getfield 60, (4, 10, 419), 0)) (by decide +kernel)) (by decide +kernel) ka hc_z
    replace hc_z := rn_iconst (w := 4) (am_cur_of (i := (84, 1, .iconst 4, (0, 0, 0), 0)) (by decide +kernel)) (by decide) hc_z
    replace hc_z := rn_cmpT (am_cur_of (i := (85, 3, .if_icmp .ne 40, (64, 0, 0), 0)) (by decide +kernel)) (by decide) hc_z
    replace hc_z := rn_aload_n (am_cur_of (i := (125, 1, .aload_n 0, (0, 0, 0), 0)) (by decide +kernel)) g0_z hc_z
    replace hc_z := rn_getI (v := 3) (am_cur_of (i := (126, 3, .getfield 60, (4, 10, 419), 0)) (by decide +kernel)) (by decide +kernel) ka hc_z
    replace hc_z := rn_iconst (w := 2) (am_cur_of (i := (129, 1, .iconst 2, (0, 0, 0), 0)) (by decide +kernel)) (by decide) hc_z
    replace hc_z := rn_cmpT (am_cur_of (i := (130, 3, .if_icmp .ne 37, (84, 0, 0), 0)) (by decide +kernel)) (by decide) hc_z
    replace hc_z := rn_aload_n (am_cur_of (i := (167, 1, .aload_n 0, (0, 0, 0), 0)) (by decide +kernel)) g0_z hc_z
    replace hc_z := rn_iconst (w := 1) (am_cur_of (i := (168, 1, .iconst 1, (0, 0, 0), 0)) (by decide +kernel)) (by decide) hc_z
    replace hc_z := rn_callV (M' := am_m29) (o := 44) (ar := [.int 1]) (rest := []) (L := lv_args 0 [.ref 44, .int 1]) (am_cur_of (i := (169, 3, .invokevirtual 108, (29, 769, 3), 0)) (by decide +kernel)) rfl rfl rfl rfl hc_z
    obtain ⟨r3444_z, h3445_z, q3446_z, hc_z⟩ := hc_z
    obtain ⟨rfl, yq3446_z⟩ := rp_fail R4 q3446_z
    subst yq3446_z
    replace hc_z : rn _ _ _ _ [] _ _ _ := hc_z
    have K := rs_stick (w := 1) (q := p) (a := 51) (by decide) (by decide) rfl (by decide) rfl (show rg_v (am_up (am_up h 44 1 (.int 1)) 44 2 (.int (rg_v h 44 9))) 44 2 = p from R5) hc_z
    replace hm_z := rn_aload_n (am_cur_of (i := (0, 1, .aload_n 0, (0, 0, 0), 0)) (by decide +kernel)) g0m hm_z
    replace hm_z := rn_bipush (w := 40) (am_cur_of (i := (1, 2, .bipush 40, (0, 0, 0), 0)) (by decide +kernel)) (by decide) hm_z
    replace hm_z := rn_callV (M' := am_m171) (o := 164) (ar := [.int 40]) (rest := []) (L := lv_args 0 [.ref 164, .int 40]) (am_cur_of (i := (3, 3, .invokevirtual 194, (171, 1715, 3), 0)) (by decide +kernel)) rfl rfl rfl rfl hm_z
    obtain ⟨r3447_z, h3448_z, q3449_z, hm_z⟩ := hm_z
    obtain ⟨rfl, yq3449_z⟩ := rp_sgN (fun q => absurd (Eq.trans (Eq.symm kc) q.1) (by decide)) q3449_z
    subst yq3449_z
    replace hm_z : rn _ _ _ _ [.int 0] _ _ _ := hm_z
    replace hm_z := rn_ifT (am_cur_of (i := (6, 3, .ifCond .eq 44, (28, 0, 0), 0)) (by decide +kernel)) (by decide) hm_z
    replace hm_z := rn_aload_n (am_cur_of (i := (50, 1, .aload_n 0, (0, 0, 0), 0)) (by decide +kernel)) g0m hm_z
    replace hm_z := rn_bipush (w := 14) (am_cur_of (i := (51, 2, .bipush 14, (0, 0, 0), 0)) (by decide +kernel)) (by decide) hm_z
    replace hm_z := rn_callV (M' := am_m174) (o := 164) (ar := [.int 14]) (rest := []) (L := lv_args 0 [.ref 164, .int 14]) (am_cur_of (i := (53, 3, .invokevirtual 306, (174, 1727, 3), 0)) (by decide +kernel)) rfl rfl rfl rfl hm_z
    obtain ⟨r3450_z, h3451_z, q3452_z, hm_z⟩ := hm_z
    obtain ⟨rfl, yq3452_z⟩ := rp_kyN (fun q => absurd (Eq.trans (Eq.symm kc) q.1) (by decide)) q3452_z
    subst yq3452_z
    replace hm_z : rn _ _ _ _ [.int 0] _ _ _ := hm_z
    replace hm_z := rn_ifT (am_cur_of (i := (56, 3, .ifCond .eq 30, (47, 0, 0), 0)) (by decide +kernel)) (by decide) hm_z
    replace hm_z := rn_aload_n (am_cur_of (i := (86, 1, .aload_n 0, (0, 0, 0), 0)) (by decide +kernel)) g0m hm_z
    replace hm_z := rn_callV (M' := am_m176) (o := 164) (ar := []) (rest := []) (L := lv_args 0 [.ref 164]) (am_cur_of (i := (87, 3, .invokevirtual 312, (176, 1735, 3), 0)) (by decide +kernel)) rfl rfl rfl rfl hm_z
    obtain ⟨r3453_z, h3454_z, q3455_z, hm_z⟩ := hm_z
    obtain ⟨rfl, yq3455_z⟩ := rp_nm (c := 2) (d := rg_v g 164 9) kc rfl q3455_z
    replace yq3455_z := yq3455_z.symm
    subst yq3455_z
    rw [show rp_nmf 2 (rg_v g 164 9) = (-1) from by unfold rp_nmf; rw [if_neg (by decide)]] at hm_z
    replace hm_z : rn _ _ _ _ [.int (-1)] _ _ _ := hm_z
    replace hm_z := rn_istore_n (am_cur_of (i := (90, 1, .istore_n 1, (0, 0, 0), 0)) (by decide +kernel)) hm_z
    obtain ⟨_, s3456_z, s3457_z, g1m, hm_z⟩ := hm_z
    replace g0m := s3456_z 0 _ (by decide) rfl g0m
    clear s3456_z s3457_z
    replace hm_z := rn_iload_n (am_cur_of (i := (91, 1, .iload_n 1, (0, 0, 0), 0)) (by decide +kernel)) g1m hm_z
    replace hm_z := rn_ifF (am_cur_of (i := (92, 3, .ifCond .ge 17, (60, 0, 0), 0)) (by decide +kernel)) (by decide) hm_z
    replace hm_z := rn_aload_n (am_cur_of (i := (95, 1, .aload_n 0, (0, 0, 0), 0)) (by decide +kernel)) g0m hm_z
    replace hm_z := rn_getI (v := 2) (am_cur_of (i := (96, 3, .getfield 157, (12, 8, 1392), 0)) (by decide +kernel)) (by decide +kernel) kc hm_z
    replace hm_z := rn_iconst (w := 3) (am_cur_of (i := (99, 1, .iconst 3, (0, 0, 0), 0)) (by decide +kernel)) (by decide) hm_z
    replace hm_z := rn_cmpF (am_cur_of (i := (100, 3, .if_icmp .eq 9, (60, 0, 0), 0)) (by decide +kernel)) (by decide) hm_z
    replace hm_z := rn_aload_n (am_cur_of (i := (103, 1, .aload_n 0, (0, 0, 0), 0)) (by decide +kernel)) g0m hm_z
    replace hm_z := rn_iconst (w := 1) (am_cur_of (i := (104, 1, .iconst 1, (0, 0, 0), 0)) (by decide +kernel)) (by decide) hm_z
    replace hm_z := rn_callV (M' := am_m158) (o := 164) (ar := [.int 1]) (rest := []) (L := lv_args 0 [.ref 164, .int 1]) (am_cur_of (i := (105, 3, .invokevirtual 181, (158, 1665, 3), 0)) (by decide +kernel)) rfl rfl rfl rfl hm_z
    obtain ⟨r3458_z, h3459_z, q3460_z, hm_z⟩ := hm_z
    obtain ⟨rfl, yq3460_z⟩ := rp_wrong q3460_z
    subst yq3460_z
    replace hm_z : rn _ _ _ _ [.int 0] _ _ _ := hm_z
    replace hm_z := rn_iret (am_cur_of (i := (108, 1, .ireturn, (0, 0, 0), 0)) (by decide +kernel)) hm_z
    obtain ⟨e3461_z, e3462_z⟩ := hm_z
    subst e3461_z e3462_z
    exact (Or.inr ⟨rfl, 1, by decide, K.1, K.2, rfl, R6⟩)
  · have g0_z : am_get (lv_args 0 [.ref 44, .int 1]) 0 = some (.ref 44) := rfl
    have g1_z : am_get (lv_args 0 [.ref 44, .int 1]) 1 = some (.int 1) := rfl
    have g0m : am_get (lv_args 0 [.ref 164]) 0 = some (.ref 164) := rfl
    have Rk := R
    have Zk := Z
    obtain ⟨⟨c1_z, c2_z, c3_z, c4_z, c5_z, c6_z, c7_z, c8_z⟩, ⟨m2_z, m3_z, m4_z, m5_z, m6_z, m7_z, m8_z⟩, R3, R4, R5, R6, R7, R8, R9, R10⟩ := (R : rq T S x p 23 h g)
    obtain ⟨np, op, z1_z, z2_z, z3_z, z4_z, z5_z, z6_z, z7_z, z8_z, z9_z, z10_z⟩ := (Z : rs 23 h g)
    obtain ⟨nk1_z, nk2_z, nk3_z⟩ := A.2.2.2.2.2.1
    replace nk1_z : rg_v h 32 0 = rg_v g 164 44 := nk1_z
    replace nk2_z : 0 ≤ (rg_v h 32 0).toInt := nk2_z
    replace nk3_z : (rg_v h 32 0).toInt ≤ 64 := nk3_z
    replace z8_z : np.toInt ≤ (rg_v h 32 0).toInt + op.toInt := z8_z
    obtain ⟨kn, ekn⟩ : ∃ v, rg_v h 32 0 = v := ⟨_, rfl⟩
    rw [ekn] at nk1_z nk2_z nk3_z z8_z
    have e9_z := rt_c1 (x := kn) (by omega) (by omega)
    replace hc_z := rn_aload_n (am_cur_of (i := (0, 1, .aload_n 0, (0, 0, 0), 0)) (by decide +kernel)) g0_z hc_z
    replace hc_z := rn_getI (v := 4) (am_cur_of (i := (1, 3, .getfield 60, (4, 10, 419), 0)) (by decide +kernel)) (by decide +kernel) ka hc_z
    replace hc_z := rn_bipush (w := 6) (am_cur_of (i := (4, 2, .bipush 6, (0, 0, 0), 0)) (by decide +kernel)) (by decide) hc_z
    replace hc_z := rn_cmpT (am_cur_of (i := (6, 3, .if_icmp .ne 30, (19, 0, 0), 0)) (by decide +kernel)) (by decide) hc_z
    replace hc_z := rn_aload_n (am_cur_of (i := (36, 1, .aload_n 0, (0, 0, 0), 0)) (by decide +kernel)) g0_z hc_z
    replace hc_z := rn_bipush (w := 40) (am_cur_of (i := (37, 2, .bipush 40, (0, 0, 0), 0)) (by decide +kernel)) (by decide) hc_z
    replace hc_z := rn_callV (M' := am_m45) (o := 44) (ar := [.int 40]) (rest := []) (L := lv_args 0 [.ref 44, .int 40]) (am_cur_of (i := (39, 3, .invokevirtual 105, (45, 834, 3), 0)) (by decide +kernel)) rfl rfl rfl rfl hc_z
    obtain ⟨r3463_z, h3464_z, q3465_z, hc_z⟩ := hc_z
    obtain ⟨rfl, yq3465_z⟩ := rp_mkN (fun q => absurd (Eq.trans (Eq.symm ka) q.1) (by decide)) q3465_z
    subst yq3465_z
    replace hc_z : rn _ _ _ _ [.int 0] _ _ _ := hc_z
    replace hc_z := rn_ifT (am_cur_of (i := (42, 3, .ifCond .eq 38, (43, 0, 0), 0)) (by decide +kernel)) (by decide) hc_z
    replace hc_z := rn_aload_n (am_cur_of (i := (80, 1, .aload_n 0, (0, 0, 0), 0)) (by decide +kernel)) g0_z hc_z
    replace hc_z := rn_getI (v := 4) (am_cur_of (i := (81, 3, .getfield 60, (4, 10, 419), 0)) (by decide +kernel)) (by decide +kernel) ka hc_z
    replace hc_z := rn_iconst (w := 4) (am_cur_of (i := (84, 1, .iconst 4, (0, 0, 0), 0)) (by decide +kernel)) (by decide) hc_z
    replace hc_z := rn_cmpF (am_cur_of (i := (85, 3, .if_icmp .ne 40, (64, 0, 0), 0)) (by decide +kernel)) (by decide) hc_z
    replace hc_z := rn_aload_n (am_cur_of (i := (88, 1, .aload_n 0, (0, 0, 0), 0)) (by decide +kernel)) g0_z hc_z
    replace hc_z := rn_getI (v := rg_v h 44 11) (am_cur_of (i := (89, 3, .getfield 91, (4, 11, 420), 0)) (by decide +kernel)) (by decide +kernel) rfl hc_z
    replace hc_z := rn_sipush (w := 9999) (am_cur_of (i := (92, 3, .sipush 9999, (0, 0, 0), 0)) (by decide +kernel)) (by decide) hc_z
    replace hc_z := rn_cmp (am_cur_of (i := (95, 3, .if_icmp .le 8, (54, 0, 0), 0)) (by decide +kernel)) hc_z
    rcases hc_z with ⟨b3466_z, hc_z⟩ | ⟨b3466_z, hc_z⟩
    · replace b3466_z : (rg_v h 44 11).toInt ≤ (9999 : Int32).toInt := b3466_z
      replace hc_z := rn_aload_n (am_cur_of (i := (103, 1, .aload_n 0, (0, 0, 0), 0)) (by decide +kernel)) g0_z hc_z
      replace hc_z := rn_callV (M' := am_m49) (o := 44) (ar := []) (rest := []) (L := lv_args 0 [.ref 44]) (am_cur_of (i := (104, 3, .invokevirtual 270, (49, 852, 3), 0)) (by decide +kernel)) rfl rfl rfl rfl hc_z
      obtain ⟨r3467_z, h3468_z, q3469_z, hc_z⟩ := hc_z
      rcases rs_ck23 R4 (show h 44 6 = .ref 23 from R3) q3469_z with ⟨ge, rfl, eh⟩ | ⟨lt, rfl, eh⟩
      · subst eh
        replace ge : 64 ≤ kn.toInt := by rw [← ekn]; exact ge
        replace hc_z : rn _ _ _ _ [] _ _ _ := hc_z
        have K := rs_stick (w := 2) (q := p) (a := 51) (by decide) (by decide) rfl (by decide) rfl (show rg_v (am_up (am_up h 44 1 (.int 2)) 44 2 (.int (rg_v h 44 9))) 44 2 = p from R5) hc_z
        replace hm_z := rn_aload_n (am_cur_of (i := (0, 1, .aload_n 0, (0, 0, 0), 0)) (by decide +kernel)) g0m hm_z
        replace hm_z := rn_bipush (w := 40) (am_cur_of (i := (1, 2, .bipush 40, (0, 0, 0), 0)) (by decide +kernel)) (by decide) hm_z
        replace hm_z := rn_callV (M' := am_m171) (o := 164) (ar := [.int 40]) (rest := []) (L := lv_args 0 [.ref 164, .int 40]) (am_cur_of (i := (3, 3, .invokevirtual 194, (171, 1715, 3), 0)) (by decide +kernel)) rfl rfl rfl rfl hm_z
        obtain ⟨r3470_z, h3471_z, q3472_z, hm_z⟩ := hm_z
        obtain ⟨rfl, yq3472_z⟩ := rp_sgN (fun q => absurd (Eq.trans (Eq.symm kc) q.1) (by decide)) q3472_z
        subst yq3472_z
        replace hm_z : rn _ _ _ _ [.int 0] _ _ _ := hm_z
        replace hm_z := rn_ifT (am_cur_of (i := (6, 3, .ifCond .eq 44, (28, 0, 0), 0)) (by decide +kernel)) (by decide) hm_z
        replace hm_z := rn_aload_n (am_cur_of (i := (50, 1, .aload_n 0, (0, 0, 0), 0)) (by decide +kernel)) g0m hm_z
        replace hm_z := rn_bipush (w := 14) (am_cur_of (i := (51, 2, .bipush 14, (0, 0, 0), 0)) (by decide +kernel)) (by decide) hm_z
        replace hm_z := rn_callV (M' := am_m174) (o := 164) (ar := [.int 14]) (rest := []) (L := lv_args 0 [.ref 164, .int 14]) (am_cur_of (i := (53, 3, .invokevirtual 306, (174, 1727, 3), 0)) (by decide +kernel)) rfl rfl rfl rfl hm_z
        obtain ⟨r3473_z, h3474_z, q3475_z, hm_z⟩ := hm_z
        obtain ⟨rfl, yq3475_z⟩ := rp_kyN (fun q => absurd (Eq.trans (Eq.symm kc) q.1) (by decide)) q3475_z
        subst yq3475_z
        replace hm_z : rn _ _ _ _ [.int 0] _ _ _ := hm_z
        replace hm_z := rn_ifT (am_cur_of (i := (56, 3, .ifCond .eq 30, (47, 0, 0), 0)) (by decide +kernel)) (by decide) hm_z
        replace hm_z := rn_aload_n (am_cur_of (i := (86, 1, .aload_n 0, (0, 0, 0), 0)) (by decide +kernel)) g0m hm_z
        replace hm_z := rn_callV (M' := am_m176) (o := 164) (ar := []) (rest := []) (L := lv_args 0 [.ref 164]) (am_cur_of (i := (87, 3, .invokevirtual 312, (176, 1735, 3), 0)) (by decide +kernel)) rfl rfl rfl rfl hm_z
        obtain ⟨r3476_z, h3477_z, q3478_z, hm_z⟩ := hm_z
        obtain ⟨rfl, yq3478_z⟩ := rp_nm (c := 3) (d := rg_v g 164 9) kc rfl q3478_z
        replace yq3478_z := yq3478_z.symm
        subst yq3478_z
        rw [show rp_nmf 3 (rg_v g 164 9) = (-1) from by unfold rp_nmf; rw [if_neg (by decide)]] at hm_z
        replace hm_z : rn _ _ _ _ [.int (-1)] _ _ _ := hm_z
        replace hm_z := rn_istore_n (am_cur_of (i := (90, 1, .istore_n 1, (0, 0, 0), 0)) (by decide +kernel)) hm_z
        obtain ⟨_, s3479_z, s3480_z, g1m, hm_z⟩ := hm_z
        replace g0m := s3479_z 0 _ (by decide) rfl g0m
        clear s3479_z s3480_z
        replace hm_z := rn_iload_n (am_cur_of (i := (91, 1, .iload_n 1, (0, 0, 0), 0)) (by decide +kernel)) g1m hm_z
        replace hm_z := rn_ifF (am_cur_of (i := (92, 3, .ifCond .ge 17, (60, 0, 0), 0)) (by decide +kernel)) (by decide) hm_z
        replace hm_z := rn_aload_n (am_cur_of (i := (95, 1, .aload_n 0, (0, 0, 0), 0)) (by decide +kernel)) g0m hm_z
        replace hm_z := rn_getI (v := 3) (am_cur_of (i := (96, 3, .getfield 157, (12, 8, 1392), 0)) (by decide +kernel)) (by decide +kernel) kc hm_z
        replace hm_z := rn_iconst (w := 3) (am_cur_of (i := (99, 1, .iconst 3, (0, 0, 0), 0)) (by decide +kernel)) (by decide) hm_z
        replace hm_z := rn_cmpT (am_cur_of (i := (100, 3, .if_icmp .eq 9, (60, 0, 0), 0)) (by decide +kernel)) (by decide) hm_z
        replace hm_z := rn_iload_n (am_cur_of (i := (109, 1, .iload_n 1, (0, 0, 0), 0)) (by decide +kernel)) g1m hm_z
        replace hm_z := rn_ifF (am_cur_of (i := (110, 3, .ifCond .ge 19, (70, 0, 0), 0)) (by decide +kernel)) (by decide) hm_z
        replace hm_z := rn_aload_n (am_cur_of (i := (113, 1, .aload_n 0, (0, 0, 0), 0)) (by decide +kernel)) g0m hm_z
        replace hm_z := rn_getI (v := rg_v g 164 9) (am_cur_of (i := (114, 3, .getfield 168, (12, 9, 1393), 0)) (by decide +kernel)) (by decide +kernel) rfl hm_z
        replace hm_z := rn_sipush (w := 9999) (am_cur_of (i := (117, 3, .sipush 9999, (0, 0, 0), 0)) (by decide +kernel)) (by decide) hm_z
        replace hm_z := rn_cmp (am_cur_of (i := (120, 3, .if_icmp .le 9, (70, 0, 0), 0)) (by decide +kernel)) hm_z
        rcases hm_z with ⟨b3481_z, hm_z⟩ | ⟨b3481_z, hm_z⟩
        · replace b3481_z : (rg_v g 164 9).toInt ≤ (9999 : Int32).toInt := b3481_z
          replace hm_z := rn_aload_n (am_cur_of (i := (129, 1, .aload_n 0, (0, 0, 0), 0)) (by decide +kernel)) g0m hm_z
          replace hm_z := rn_callV (M' := am_m175) (o := 164) (ar := []) (rest := []) (L := lv_args 0 [.ref 164]) (am_cur_of (i := (130, 3, .invokevirtual 309, (175, 1731, 3), 0)) (by decide +kernel)) rfl rfl rfl rfl hm_z
          obtain ⟨r3482_z, h3483_z, q3484_z, hm_z⟩ := hm_z
          rcases rs_ic q3484_z with ⟨i1_z, rfl, i3_z⟩ | ⟨i1_z, -⟩
          · subst i3_z
            replace hm_z : rn _ _ _ _ [.int 0] _ _ _ := hm_z
            replace hm_z := rn_ifF (am_cur_of (i := (133, 3, .ifCond .ne 5, (75, 0, 0), 0)) (by decide +kernel)) (by decide) hm_z
            replace hm_z := rn_iconst (w := 0) (am_cur_of (i := (136, 1, .iconst 0, (0, 0, 0), 0)) (by decide +kernel)) (by decide) hm_z
            replace hm_z := rn_iret (am_cur_of (i := (137, 1, .ireturn, (0, 0, 0), 0)) (by decide +kernel)) hm_z
            obtain ⟨e3485_z, e3486_z⟩ := hm_z
            subst e3485_z e3486_z
            exact (Or.inr ⟨rfl, 2, by decide, K.1, K.2, rfl, R6⟩)
          · exact absurd (Int32.toInt_inj.mp (show (rg_v g 164 44).toInt = (64 : Int32).toInt from by rw [show rg_v g 164 44 = kn from nk1_z.symm, show (64 : Int32).toInt = 64 by decide]; omega)) i1_z
        · replace b3481_z : (9999 : Int32).toInt < (rg_v g 164 9).toInt := b3481_z
          omega
      · subst eh
        replace lt : kn.toInt < 64 := by rw [← ekn]; exact lt
        rw [show rg_v h 32 0 = kn from ekn] at hc_z
        replace hm_z := rn_aload_n (am_cur_of (i := (0, 1, .aload_n 0, (0, 0, 0), 0)) (by decide +kernel)) g0m hm_z
        replace hm_z := rn_bipush (w := 40) (am_cur_of (i := (1, 2, .bipush 40, (0, 0, 0), 0)) (by decide +kernel)) (by decide) hm_z
        replace hm_z := rn_callV (M' := am_m171) (o := 164) (ar := [.int 40]) (rest := []) (L := lv_args 0 [.ref 164, .int 40]) (am_cur_of (i := (3, 3, .invokevirtual 194, (171, 1715, 3), 0)) (by decide +kernel)) rfl rfl rfl rfl hm_z
        obtain ⟨r3487_z, h3488_z, q3489_z, hm_z⟩ := hm_z
        obtain ⟨rfl, yq3489_z⟩ := rp_sgN (fun q => absurd (Eq.trans (Eq.symm kc) q.1) (by decide)) q3489_z
        subst yq3489_z
        replace hm_z : rn _ _ _ _ [.int 0] _ _ _ := hm_z
        replace hm_z := rn_ifT (am_cur_of (i := (6, 3, .ifCond .eq 44, (28, 0, 0), 0)) (by decide +kernel)) (by decide) hm_z
        replace hm_z := rn_aload_n (am_cur_of (i := (50, 1, .aload_n 0, (0, 0, 0), 0)) (by decide +kernel)) g0m hm_z
        replace hm_z := rn_bipush (w := 14) (am_cur_of (i := (51, 2, .bipush 14, (0, 0, 0), 0)) (by decide +kernel)) (by decide) hm_z
        replace hm_z := rn_callV (M' := am_m174) (o := 164) (ar := [.int 14]) (rest := []) (L := lv_args 0 [.ref 164, .int 14]) (am_cur_of (i := (53, 3, .invokevirtual 306, (174, 1727, 3), 0)) (by decide +kernel)) rfl rfl rfl rfl hm_z
        obtain ⟨r3490_z, h3491_z, q3492_z, hm_z⟩ := hm_z
        obtain ⟨rfl, yq3492_z⟩ := rp_kyN (fun q => absurd (Eq.trans (Eq.symm kc) q.1) (by decide)) q3492_z
        subst yq3492_z
        replace hm_z : rn _ _ _ _ [.int 0] _ _ _ := hm_z
        replace hm_z := rn_ifT (am_cur_of (i := (56, 3, .ifCond .eq 30, (47, 0, 0), 0)) (by decide +kernel)) (by decide) hm_z
        replace hm_z := rn_aload_n (am_cur_of (i := (86, 1, .aload_n 0, (0, 0, 0), 0)) (by decide +kernel)) g0m hm_z
        replace hm_z := rn_callV (M' := am_m176) (o := 164) (ar := []) (rest := []) (L := lv_args 0 [.ref 164]) (am_cur_of (i := (87, 3, .invokevirtual 312, (176, 1735, 3), 0)) (by decide +kernel)) rfl rfl rfl rfl hm_z
        obtain ⟨r3493_z, h3494_z, q3495_z, hm_z⟩ := hm_z
        obtain ⟨rfl, yq3495_z⟩ := rp_nm (c := 3) (d := rg_v g 164 9) kc rfl q3495_z
        replace yq3495_z := yq3495_z.symm
        subst yq3495_z
        rw [show rp_nmf 3 (rg_v g 164 9) = (-1) from by unfold rp_nmf; rw [if_neg (by decide)]] at hm_z
        replace hm_z : rn _ _ _ _ [.int (-1)] _ _ _ := hm_z
        replace hm_z := rn_istore_n (am_cur_of (i := (90, 1, .istore_n 1, (0, 0, 0), 0)) (by decide +kernel)) hm_z
        obtain ⟨_, s3496_z, s3497_z, g1m, hm_z⟩ := hm_z
        replace g0m := s3496_z 0 _ (by decide) rfl g0m
        clear s3496_z s3497_z
        replace hm_z := rn_iload_n (am_cur_of (i := (91, 1, .iload_n 1, (0, 0, 0), 0)) (by decide +kernel)) g1m hm_z
        replace hm_z := rn_ifF (am_cur_of (i := (92, 3, .ifCond .ge 17, (60, 0, 0), 0)) (by decide +kernel)) (by decide) hm_z
        replace hm_z := rn_aload_n (am_cur_of (i := (95, 1, .aload_n 0, (0, 0, 0), 0)) (by decide +kernel)) g0m hm_z
        replace hm_z := rn_getI (v := 3) (am_cur_of (i := (96, 3, .getfield 157, (12, 8, 1392), 0)) (by decide +kernel)) (by decide +kernel) kc hm_z
        replace hm_z := rn_iconst (w := 3) (am_cur_of (i := (99, 1, .iconst 3, (0, 0, 0), 0)) (by decide +kernel)) (by decide) hm_z
        replace hm_z := rn_cmpT (am_cur_of (i := (100, 3, .if_icmp .eq 9, (60, 0, 0), 0)) (by decide +kernel)) (by decide) hm_z
        replace hm_z := rn_iload_n (am_cur_of (i := (109, 1, .iload_n 1, (0, 0, 0), 0)) (by decide +kernel)) g1m hm_z
        replace hm_z := rn_ifF (am_cur_of (i := (110, 3, .ifCond .ge 19, (70, 0, 0), 0)) (by decide +kernel)) (by decide) hm_z
        replace hm_z := rn_aload_n (am_cur_of (i := (113, 1, .aload_n 0, (0, 0, 0), 0)) (by decide +kernel)) g0m hm_z
        replace hm_z := rn_getI (v := rg_v g 164 9) (am_cur_of (i := (114, 3, .getfield 168, (12, 9, 1393), 0)) (by decide +kernel)) (by decide +kernel) rfl hm_z
        replace hm_z := rn_sipush (w := 9999) (am_cur_of (i := (117, 3, .sipush 9999, (0, 0, 0), 0)) (by decide +kernel)) (by decide) hm_z
        replace hm_z := rn_cmp (am_cur_of (i := (120, 3, .if_icmp .le 9, (70, 0, 0), 0)) (by decide +kernel)) hm_z
        rcases hm_z with ⟨b3498_z, hm_z⟩ | ⟨b3498_z, hm_z⟩
        · replace b3498_z : (rg_v g 164 9).toInt ≤ (9999 : Int32).toInt := b3498_z
          replace hm_z := rn_aload_n (am_cur_of (i := (129, 1, .aload_n 0, (0, 0, 0), 0)) (by decide +kernel)) g0m hm_z
          replace hm_z := rn_callV (M' := am_m175) (o := 164) (ar := []) (rest := []) (L := lv_args 0 [.ref 164]) (am_cur_of (i := (130, 3, .invokevirtual 309, (175, 1731, 3), 0)) (by decide +kernel)) rfl rfl rfl rfl hm_z
          obtain ⟨r3499_z, h3500_z, q3501_z, hm_z⟩ := hm_z
          rcases rs_ic q3501_z with ⟨i1_z, -⟩ | ⟨i1_z, rfl, i3_z⟩
          · exfalso
            have zz := congrArg Int32.toInt i1_z
            rw [show rg_v g 164 44 = kn from nk1_z.symm, show (64 : Int32).toInt = 64 by decide] at zz
            omega
          · subst i3_z
            rw [show rg_v g 164 44 = kn from nk1_z.symm] at hm_z
            replace hm_z : rn _ _ _ _ [.int 1] _ _ _ := hm_z
            replace hc_z : rn _ _ _ _ [] _ _ _ := hc_z
            replace hc_z := rn_aload_n (am_cur_of (i := (107, 1, .aload_n 0, (0, 0, 0), 0)) (by decide +kernel)) g0_z hc_z
            replace hc_z := rn_getM (x := 23) (am_cur_of (i := (108, 3, .getfield 25, (4, 6, 415), 0)) (by decide +kernel)) (show (am_up h 32 0 (.int (kn + 1))) 44 6 = .ref 23 from R3) hc_z
            replace hc_z := rn_getR (x := 32) (am_cur_of (i := (111, 3, .getfield 242, (1, 19, 316), 0)) (by decide +kernel)) (by decide +kernel) hc_z
            replace hc_z := rn_iconst (w := 0) (am_cur_of (i := (114, 1, .iconst 0, (0, 0, 0), 0)) (by decide +kernel)) (by decide) hc_z
            replace hc_z := rn_aload_n (am_cur_of (i := (115, 1, .aload_n 0, (0, 0, 0), 0)) (by decide +kernel)) g0_z hc_z
            replace hc_z := rn_getI (v := rg_v h 44 11) (am_cur_of (i := (116, 3, .getfield 91, (4, 11, 420), 0)) (by decide +kernel)) (by decide +kernel) (show rg_v (am_up h 32 0 (.int (kn + 1))) 44 11 = rg_v h 44 11 from rfl) hc_z
            replace hc_z := rn_callV (M' := am_m48) (o := 32) (ar := [.int (rg_v h 44 11), .int 0]) (rest := []) (L := lv_args 0 [.ref 32, .int 0, .int (rg_v h 44 11)]) (am_cur_of (i := (119, 3, .invokevirtual 276, (48, 845, 3), 0)) (by decide +kernel)) rfl rfl rfl rfl hc_z
            obtain ⟨r3502_z, h3503_z, q3504_z, hc_z⟩ := hc_z
            obtain ⟨rfl, PF⟩ := rs_put23 q3504_z
            replace hc_z : rn _ _ _ _ [] _ _ _ := hc_z
            replace hc_z := rn_goto (am_cur_of (i := (122, 3, .goto 50, (87, 0, 0), 0)) (by decide +kernel)) hc_z
            replace hc_z := rn_aload_n (am_cur_of (i := (172, 1, .aload_n 0, (0, 0, 0), 0)) (by decide +kernel)) g0_z hc_z
            replace hc_z := rn_callV (M' := am_m19) (o := 44) (ar := []) (rest := []) (L := lv_args 0 [.ref 44]) (am_cur_of (i := (173, 3, .invokevirtual 57, (19, 727, 3), 0)) (by decide +kernel)) rfl rfl rfl rfl hc_z
            obtain ⟨r3505_z, h3506_z, q3507_z, hc_z⟩ := hc_z
            have vo := rn_void rfl q3507_z
            subst vo
            replace hm_z := rn_ifT (am_cur_of (i := (133, 3, .ifCond .ne 5, (75, 0, 0), 0)) (by decide +kernel)) (by decide) hm_z
            replace hm_z := rn_aload_n (am_cur_of (i := (138, 1, .aload_n 0, (0, 0, 0), 0)) (by decide +kernel)) g0m hm_z
            replace hm_z := rn_iload_n (am_cur_of (i := (139, 1, .iload_n 1, (0, 0, 0), 0)) (by decide +kernel)) g1m hm_z
            replace hm_z := rn_ifT (am_cur_of (i := (140, 3, .ifCond .lt 7, (80, 0, 0), 0)) (by decide +kernel)) (by decide) hm_z
            replace hm_z := rn_iconst (w := 0) (am_cur_of (i := (147, 1, .iconst 0, (0, 0, 0), 0)) (by decide +kernel)) (by decide) hm_z
            replace hm_z := rn_iload_n (am_cur_of (i := (148, 1, .iload_n 1, (0, 0, 0), 0)) (by decide +kernel)) g1m hm_z
            replace hm_z := rn_ifT (am_cur_of (i := (149, 3, .ifCond .lt 7, (85, 0, 0), 0)) (by decide +kernel)) (by decide) hm_z
            replace hm_z := rn_aload_n (am_cur_of (i := (156, 1, .aload_n 0, (0, 0, 0), 0)) (by decide +kernel)) g0m hm_z
            replace hm_z := rn_getI (v := rg_v g 164 9) (am_cur_of (i := (157, 3, .getfield 168, (12, 9, 1393), 0)) (by decide +kernel)) (by decide +kernel) (show rg_v (am_up g 164 44 (.int (kn + 1))) 164 9 = rg_v g 164 9 from rfl) hm_z
            replace hm_z := rn_iconst (w := 0) (am_cur_of (i := (160, 1, .iconst 0, (0, 0, 0), 0)) (by decide +kernel)) (by decide) hm_z
            replace hm_z := rn_callV (M' := am_m177) (o := 164) (ar := [.int 0, .int (rg_v g 164 9), .int 0]) (rest := []) (L := lv_args 0 [.ref 164, .int 0, .int (rg_v g 164 9), .int 0]) (am_cur_of (i := (161, 3, .invokevirtual 291, (177, 1739, 3), 0)) (by decide +kernel)) rfl rfl rfl rfl hm_z
            obtain ⟨r3508_z, h3509_z, q3510_z, hm_z⟩ := hm_z
            obtain ⟨rfl, GF⟩ := rs_grown q3510_z
            replace hm_z : rn _ _ _ _ [] _ _ _ := hm_z
            replace hm_z := rn_aload_n (am_cur_of (i := (164, 1, .aload_n 0, (0, 0, 0), 0)) (by decide +kernel)) g0m hm_z
            replace hm_z := rn_iconst (w := 0) (am_cur_of (i := (165, 1, .iconst 0, (0, 0, 0), 0)) (by decide +kernel)) (by decide) hm_z
            replace hm_z := rn_put (am_cur_of (i := (166, 3, .putfield 315, (12, 45, 1429), 0)) (by decide +kernel)) (by decide +kernel) hm_z
            replace hm_z := rn_aload_n (am_cur_of (i := (169, 1, .aload_n 0, (0, 0, 0), 0)) (by decide +kernel)) g0m hm_z
            replace hm_z := rn_callV (M' := am_m151) (o := 164) (ar := []) (rest := []) (L := lv_args 0 [.ref 164]) (am_cur_of (i := (170, 3, .invokevirtual 191, (151, 1636, 3), 0)) (by decide +kernel)) rfl rfl rfl rfl hm_z
            obtain ⟨r3511_z, h3512_z, q3513_z, hm_z⟩ := hm_z
            have vo := rn_void rfl q3513_z
            subst vo
            have FC : ab_Fr (rz_MC23.drop 1) h h3503_z := ab_Fr_trans (ab_Fr_up rfl ab_Fr_refl) (ab_Fr_sub (by decide) PF)
            have FC' : ab_Fr rz_MC23 h h3503_z := ab_Fr_sub (by decide) FC
            have FM : ab_Fr rz_MM g (am_up h3509_z 164 45 (.int 0)) := ab_Fr_up rfl (ab_Fr_trans (ab_Fr_up rfl ab_Fr_refl) (ab_Fr_sub (by decide) GF))
            obtain ⟨-, -, x2_z, p2_z, R2, le2_z, t5_z, t6_z⟩ := pr_tok (rz_q023 (rq_0 Rk) FC' FM) q3507_z q3513_z
            have A2 := rp_x (by decide) (rz_p23 A FC' FM ((show rg_v h3503_z 32 0 = kn + 1 from ((rg_v_fr PF (by decide)).trans (show rg_v (am_up h 32 0 (.int (kn + 1))) 32 0 = kn + 1 from rfl))).trans (show rg_v (am_up h3509_z 164 45 (.int 0)) 164 44 = kn + 1 from (show rg_v (am_up h3509_z 164 45 (.int 0)) 164 44 = kn + 1 from ((rg_v_fr GF (by decide)).trans (show rg_v (am_up g 164 44 (.int (kn + 1))) 164 44 = kn + 1 from rfl)))).symm) (by rw [show rg_v h3503_z 32 0 = kn + 1 from ((rg_v_fr PF (by decide)).trans (show rg_v (am_up h 32 0 (.int (kn + 1))) 32 0 = kn + 1 from rfl))]; omega) (by rw [show rg_v h3503_z 32 0 = kn + 1 from ((rg_v_fr PF (by decide)).trans (show rg_v (am_up h 32 0 (.int (kn + 1))) 32 0 = kn + 1 from rfl))]; omega)) (rx_C_f t5_z) (rx_M_f t6_z)
            have B2 := rp_tk (rz_t23 B FC FM) (rg_v_fr t5_z (by decide)) (fun k => rg_v_fr t6_z (rg_v_in (by decide) k)) (rx_M_f t6_z)
            have FC47 : ab_Fr [(44, 14), (44, 15), (32, 1), (32, 2), (33, 0), (34, 0)] h h3503_z := ab_Fr_trans (ab_Fr_up rfl ab_Fr_refl) (ab_Fr_sub (by decide) PF)
            have FM184 : ab_Fr [(164, 42), (164, 43), (164, 44), (164, 45), (164, 46), (164, 47), (164, 22), (181, 0), (182, 0), (183, 0), (185, 0)] g (am_up h3509_z 164 45 (.int 0)) := ab_Fr_up rfl (ab_Fr_trans (ab_Fr_up rfl ab_Fr_refl) (ab_Fr_sub (by decide) GF))
            have Z2 : rs 23 h3503_z (am_up h3509_z 164 45 (.int 0)) := rs_keep Zk ((show rg_v h3503_z 44 13 = np from ((rg_v_fr PF (by decide)).trans (show rg_v (am_up h 32 0 (.int (kn + 1))) 44 13 = np from z1_z))).trans z1_z.symm) ((show rg_v (am_up h3509_z 164 45 (.int 0)) 164 41 = np from (show rg_v (am_up h3509_z 164 45 (.int 0)) 164 41 = np from ((rg_v_fr GF (by decide)).trans (show rg_v (am_up g 164 44 (.int (kn + 1))) 164 41 = np from z2_z)))).trans z2_z.symm) ((show rg_v h3503_z 44 14 = op from ((rg_v_fr PF (by decide)).trans (show rg_v (am_up h 32 0 (.int (kn + 1))) 44 14 = op from z4_z))).trans z4_z.symm) ((show rg_v (am_up h3509_z 164 45 (.int 0)) 164 43 = op from (show rg_v (am_up h3509_z 164 45 (.int 0)) 164 43 = op from ((rg_v_fr GF (by decide)).trans (show rg_v (am_up g 164 44 (.int (kn + 1))) 164 43 = op from z5_z)))).trans z5_z.symm) (show (rg_v h 32 0).toInt ≤ (rg_v h3503_z 32 0).toInt by rw [(show rg_v h3503_z 32 0 = kn + 1 from ((rg_v_fr PF (by decide)).trans (show rg_v (am_up h 32 0 (.int (kn + 1))) 32 0 = kn + 1 from rfl))), ekn]; omega) (fun k => rg_v_fr FC47 (rg_v_in (by decide) k)) (fun k => rg_v_fr FM184 (rg_v_in (by decide) k))
            replace Z2 := rs_fr (by decide) Z2 t5_z t6_z
            have e45_z : rg_v h3512_z 164 45 = 0 := (rg_v_fr t6_z (by decide)).trans (show rg_v (am_up h3509_z 164 45 (.int 0)) 164 45 = 0 from (show rg_v (am_up h3509_z 164 45 (.int 0)) 164 45 = 0 from rfl))
            have e46_z : rg_v h3512_z 164 46 = 0 := (rg_v_fr t6_z (by decide)).trans (show rg_v (am_up h3509_z 164 45 (.int 0)) 164 46 = 0 from (show rg_v (am_up h3509_z 164 45 (.int 0)) 164 46 = 0 from ((rg_v_fr GF (by decide)).trans (show rg_v (am_up g 164 44 (.int (kn + 1))) 164 46 = 0 from w2_z))))
            replace hm_z : rn _ _ _ _ [] _ _ _ := hm_z
            replace hc_z : rn _ _ _ _ [] _ _ _ := hc_z
            replace hc_z := rn_iconst (w := 2) (am_cur_of (i := (176, 1, .iconst 2, (0, 0, 0), 0)) (by decide +kernel)) (by decide) hc_z
            replace hc_z := rn_iret (am_cur_of (i := (177, 1, .ireturn, (0, 0, 0), 0)) (by decide +kernel)) hc_z
            obtain ⟨e3514_z, e3515_z⟩ := hc_z
            replace hm_z := rn_iconst (w := 1) (am_cur_of (i := (173, 1, .iconst 1, (0, 0, 0), 0)) (by decide +kernel)) (by decide) hm_z
            replace hm_z := rn_iret (am_cur_of (i := (174, 1, .ireturn, (0, 0, 0), 0)) (by decide +kernel)) hm_z
            obtain ⟨e3516_z, e3517_z⟩ := hm_z
            subst e3514_z e3515_z e3516_z e3517_z
            exact Or.inl ⟨_, x2_z, p2_z, rfl, rfl, R2, le2_z, A2, B2, Z2, Or.inr (Or.inr ⟨rfl, e45_z⟩)⟩
        · replace b3498_z : (9999 : Int32).toInt < (rg_v g 164 9).toInt := b3498_z
          omega
    · replace b3466_z : (9999 : Int32).toInt < (rg_v h 44 11).toInt := b3466_z
      replace hc_z := rn_aload_n (am_cur_of (i := (98, 1, .aload_n 0, (0, 0, 0), 0)) (by decide +kernel)) g0_z hc_z
      replace hc_z := rn_iconst (w := 2) (am_cur_of (i := (99, 1, .iconst 2, (0, 0, 0), 0)) (by decide +kernel)) (by decide) hc_z
      replace hc_z := rn_callV (M' := am_m29) (o := 44) (ar := [.int 2]) (rest := []) (L := lv_args 0 [.ref 44, .int 2]) (am_cur_of (i := (100, 3, .invokevirtual 108, (29, 769, 3), 0)) (by decide +kernel)) rfl rfl rfl rfl hc_z
      obtain ⟨r3518_z, h3519_z, q3520_z, hc_z⟩ := hc_z
      obtain ⟨rfl, yq3520_z⟩ := rp_fail R4 q3520_z
      subst yq3520_z
      replace hc_z : rn _ _ _ _ [] _ _ _ := hc_z
      have K := rs_stick (w := 2) (q := p) (a := 51) (by decide) (by decide) rfl (by decide) rfl (show rg_v (am_up (am_up h 44 1 (.int 2)) 44 2 (.int (rg_v h 44 9))) 44 2 = p from R5) hc_z
      replace hm_z := rn_aload_n (am_cur_of (i := (0, 1, .aload_n 0, (0, 0, 0), 0)) (by decide +kernel)) g0m hm_z
      replace hm_z := rn_bipush (w := 40) (am_cur_of (i := (1, 2, .bipush 40, (0, 0, 0), 0)) (by decide +kernel)) (by decide) hm_z
      replace hm_z := rn_callV (M' := am_m171) (o := 164) (ar := [.int 40]) (rest := []) (L := lv_args 0 [.ref 164, .int 40]) (am_cur_of (i := (3, 3, .invokevirtual 194, (171, 1715, 3), 0)) (by decide +kernel)) rfl rfl rfl rfl hm_z
      obtain ⟨r3521_z, h3522_z, q3523_z, hm_z⟩ := hm_z
      obtain ⟨rfl, yq3523_z⟩ := rp_sgN (fun q => absurd (Eq.trans (Eq.symm kc) q.1) (by decide)) q3523_z
      subst yq3523_z
      replace hm_z : rn _ _ _ _ [.int 0] _ _ _ := hm_z
      replace hm_z := rn_ifT (am_cur_of (i := (6, 3, .ifCond .eq 44, (28, 0, 0), 0)) (by decide +kernel)) (by decide) hm_z
      replace hm_z := rn_aload_n (am_cur_of (i := (50, 1, .aload_n 0, (0, 0, 0), 0)) (by decide +kernel)) g0m hm_z
      replace hm_z := rn_bipush (w := 14) (am_cur_of (i := (51, 2, .bipush 14, (0, 0, 0), 0)) (by decide +kernel)) (by decide) hm_z
      replace hm_z := rn_callV (M' := am_m174) (o := 164) (ar := [.int 14]) (rest := []) (L := lv_args 0 [.ref 164, .int 14]) (am_cur_of (i := (53, 3, .invokevirtual 306, (174, 1727, 3), 0)) (by decide +kernel)) rfl rfl rfl rfl hm_z
      obtain ⟨r3524_z, h3525_z, q3526_z, hm_z⟩ := hm_z
      obtain ⟨rfl, yq3526_z⟩ := rp_kyN (fun q => absurd (Eq.trans (Eq.symm kc) q.1) (by decide)) q3526_z
      subst yq3526_z
      replace hm_z : rn _ _ _ _ [.int 0] _ _ _ := hm_z
      replace hm_z := rn_ifT (am_cur_of (i := (56, 3, .ifCond .eq 30, (47, 0, 0), 0)) (by decide +kernel)) (by decide) hm_z
      replace hm_z := rn_aload_n (am_cur_of (i := (86, 1, .aload_n 0, (0, 0, 0), 0)) (by decide +kernel)) g0m hm_z
      replace hm_z := rn_callV (M' := am_m176) (o := 164) (ar := []) (rest := []) (L := lv_args 0 [.ref 164]) (am_cur_of (i := (87, 3, .invokevirtual 312, (176, 1735, 3), 0)) (by decide +kernel)) rfl rfl rfl rfl hm_z
      obtain ⟨r3527_z, h3528_z, q3529_z, hm_z⟩ := hm_z
      obtain ⟨rfl, yq3529_z⟩ := rp_nm (c := 3) (d := rg_v g 164 9) kc rfl q3529_z
      replace yq3529_z := yq3529_z.symm
      subst yq3529_z
      rw [show rp_nmf 3 (rg_v g 164 9) = (-1) from by unfold rp_nmf; rw [if_neg (by decide)]] at hm_z
      replace hm_z : rn _ _ _ _ [.int (-1)] _ _ _ := hm_z
      replace hm_z := rn_istore_n (am_cur_of (i := (90, 1, .istore_n 1, (0, 0, 0), 0)) (by decide +kernel)) hm_z
      obtain ⟨_, s3530_z, s3531_z, g1m, hm_z⟩ := hm_z
      replace g0m := s3530_z 0 _ (by decide) rfl g0m
      clear s3530_z s3531_z
      replace hm_z := rn_iload_n (am_cur_of (i := (91, 1, .iload_n 1, (0, 0, 0), 0)) (by decide +kernel)) g1m hm_z
      replace hm_z := rn_ifF (am_cur_of (i := (92, 3, .ifCond .ge 17, (60, 0, 0), 0)) (by decide +kernel)) (by decide) hm_z
      replace hm_z := rn_aload_n (am_cur_of (i := (95, 1, .aload_n 0, (0, 0, 0), 0)) (by decide +kernel)) g0m hm_z
      replace hm_z := rn_getI (v := 3) (am_cur_of (i := (96, 3, .getfield 157, (12, 8, 1392), 0)) (by decide +kernel)) (by decide +kernel) kc hm_z
      replace hm_z := rn_iconst (w := 3) (am_cur_of (i := (99, 1, .iconst 3, (0, 0, 0), 0)) (by decide +kernel)) (by decide) hm_z
      replace hm_z := rn_cmpT (am_cur_of (i := (100, 3, .if_icmp .eq 9, (60, 0, 0), 0)) (by decide +kernel)) (by decide) hm_z
      replace hm_z := rn_iload_n (am_cur_of (i := (109, 1, .iload_n 1, (0, 0, 0), 0)) (by decide +kernel)) g1m hm_z
      replace hm_z := rn_ifF (am_cur_of (i := (110, 3, .ifCond .ge 19, (70, 0, 0), 0)) (by decide +kernel)) (by decide) hm_z
      replace hm_z := rn_aload_n (am_cur_of (i := (113, 1, .aload_n 0, (0, 0, 0), 0)) (by decide +kernel)) g0m hm_z
      replace hm_z := rn_getI (v := rg_v g 164 9) (am_cur_of (i := (114, 3, .getfield 168, (12, 9, 1393), 0)) (by decide +kernel)) (by decide +kernel) rfl hm_z
      replace hm_z := rn_sipush (w := 9999) (am_cur_of (i := (117, 3, .sipush 9999, (0, 0, 0), 0)) (by decide +kernel)) (by decide) hm_z
      replace hm_z := rn_cmp (am_cur_of (i := (120, 3, .if_icmp .le 9, (70, 0, 0), 0)) (by decide +kernel)) hm_z
      rcases hm_z with ⟨b3532_z, hm_z⟩ | ⟨b3532_z, hm_z⟩
      · replace b3532_z : (rg_v g 164 9).toInt ≤ (9999 : Int32).toInt := b3532_z
        omega
      · replace b3532_z : (9999 : Int32).toInt < (rg_v g 164 9).toInt := b3532_z
        replace hm_z := rn_aload_n (am_cur_of (i := (123, 1, .aload_n 0, (0, 0, 0), 0)) (by decide +kernel)) g0m hm_z
        replace hm_z := rn_iconst (w := 2) (am_cur_of (i := (124, 1, .iconst 2, (0, 0, 0), 0)) (by decide +kernel)) (by decide) hm_z
        replace hm_z := rn_callV (M' := am_m158) (o := 164) (ar := [.int 2]) (rest := []) (L := lv_args 0 [.ref 164, .int 2]) (am_cur_of (i := (125, 3, .invokevirtual 181, (158, 1665, 3), 0)) (by decide +kernel)) rfl rfl rfl rfl hm_z
        obtain ⟨r3533_z, h3534_z, q3535_z, hm_z⟩ := hm_z
        obtain ⟨rfl, yq3535_z⟩ := rp_wrong q3535_z
        subst yq3535_z
        replace hm_z : rn _ _ _ _ [.int 0] _ _ _ := hm_z
        replace hm_z := rn_iret (am_cur_of (i := (128, 1, .ireturn, (0, 0, 0), 0)) (by decide +kernel)) hm_z
        obtain ⟨e3536_z, e3537_z⟩ := hm_z
        subst e3536_z e3537_z
        exact (Or.inr ⟨rfl, 2, by decide, K.1, K.2, rfl, R6⟩)
  · have g0_z : am_get (lv_args 0 [.ref 44, .int 1]) 0 = some (.ref 44) := rfl
    have g1_z : am_get (lv_args 0 [.ref 44, .int 1]) 1 = some (.int 1) := rfl
    have g0m : am_get (lv_args 0 [.ref 164]) 0 = some (.ref 164) := rfl
    have Rk := R
    have Zk := Z
    obtain ⟨⟨c1_z, c2_z, c3_z, c4_z, c5_z, c6_z, c7_z, c8_z⟩, ⟨m2_z, m3_z, m4_z, m5_z, m6_z, m7_z, m8_z⟩, R3, R4, R5, R6, R7, R8, R9, R10⟩ := (R : rq T S x p 23 h g)
    obtain ⟨np, op, z1_z, z2_z, z3_z, z4_z, z5_z, z6_z, z7_z, z8_z, z9_z, z10_z⟩ := (Z : rs 23 h g)
    obtain ⟨nk1_z, nk2_z, nk3_z⟩ := A.2.2.2.2.2.1
    replace nk1_z : rg_v h 32 0 = rg_v g 164 44 := nk1_z
    replace nk2_z : 0 ≤ (rg_v h 32 0).toInt := nk2_z
    replace nk3_z : (rg_v h 32 0).toInt ≤ 64 := nk3_z
    replace z8_z : np.toInt ≤ (rg_v h 32 0).toInt + op.toInt := z8_z
    obtain ⟨kn, ekn⟩ : ∃ v, rg_v h 32 0 = v := ⟨_, rfl⟩
    rw [ekn] at nk1_z nk2_z nk3_z z8_z
    have e9_z := rt_c1 (x := kn) (by omega) (by omega)
    replace hc_z := rn_aload_n (am_cur_of (i := (0, 1, .aload_n 0, (0, 0, 0), 0)) (by decide +kernel)) g0_z hc_z
    replace hc_z := rn_getI (v := 5) (am_cur_of (i := (1, 3, .getfield 60, (4, 10, 419), 0)) (by decide +kernel)) (by decide +kernel) ka hc_z
    replace hc_z := rn_bipush (w := 6) (am_cur_of (i := (4, 2, .bipush 6, (0, 0, 0), 0)) (by decide +kernel)) (by decide) hc_z
    replace hc_z := rn_cmpT (am_cur_of (i := (6, 3, .if_icmp .ne 30, (19, 0, 0), 0)) (by decide +kernel)) (by decide) hc_z
    replace hc_z := rn_aload_n (am_cur_of (i := (36, 1, .aload_n 0, (0, 0, 0), 0)) (by decide +kernel)) g0_z hc_z
    replace hc_z := rn_bipush (w := 40) (am_cur_of (i := (37, 2, .bipush 40, (0, 0, 0), 0)) (by decide +kernel)) (by decide) hc_z
    replace hc_z := rn_callV (M' := am_m45) (o := 44) (ar := [.int 40]) (rest := []) (L := lv_args 0 [.ref 44, .int 40]) (am_cur_of (i := (39, 3, .invokevirtual 105, (45, 834, 3), 0)) (by decide +kernel)) rfl rfl rfl rfl hc_z
    obtain ⟨r3538_z, h3539_z, q3540_z, hc_z⟩ := hc_z
    obtain ⟨rfl, yq3540_z⟩ := rp_mkN (fun q => absurd (Eq.trans (Eq.symm kb) q.2) (by decide)) q3540_z
    subst yq3540_z
    replace hc_z : rn _ _ _ _ [.int 0] _ _ _ := hc_z
    replace hc_z := rn_ifT (am_cur_of (i := (42, 3, .ifCond .eq 38, (43, 0, 0), 0)) (by decide +kernel)) (by decide) hc_z
    replace hc_z := rn_aload_n (am_cur_of (i := (80, 1, .aload_n 0, (0, 0, 0), 0)) (by decide +kernel)) g0_z hc_z
    replace hc_z := rn_getI (v := 5) (am_cur_of (i := (81, 3, .getfield 60, (4, 10, 419), 0)) (by decide +kernel)) (by decide +kernel) ka hc_z
    replace hc_z := rn_iconst (w := 4) (am_cur_of (i := (84, 1, .iconst 4, (0, 0, 0), 0)) (by decide +kernel)) (by decide) hc_z
    replace hc_z := rn_cmpT (am_cur_of (i := (85, 3, .if_icmp .ne 40, (64, 0, 0), 0)) (by decide +kernel)) (by decide) hc_z
    replace hc_z := rn_aload_n (am_cur_of (i := (125, 1, .aload_n 0, (0, 0, 0), 0)) (by decide +kernel)) g0_z hc_z
    replace hc_z := rn_getI (v := 5) (am_cur_of (i := (126, 3, .getfield 60, (4, 10, 419), 0)) (by decide +kernel)) (by decide +kernel) ka hc_z
    replace hc_z := rn_iconst (w := 2) (am_cur_of (i := (129, 1, .iconst 2, (0, 0, 0), 0)) (by decide +kernel)) (by decide) hc_z
    replace hc_z := rn_cmpT (am_cur_of (i := (130, 3, .if_icmp .ne 37, (84, 0, 0), 0)) (by decide +kernel)) (by decide) hc_z
    replace hc_z := rn_aload_n (am_cur_of (i := (167, 1, .aload_n 0, (0, 0, 0), 0)) (by decide +kernel)) g0_z hc_z
    replace hc_z := rn_iconst (w := 1) (am_cur_of (i := (168, 1, .iconst 1, (0, 0, 0), 0)) (by decide +kernel)) (by decide) hc_z
    replace hc_z := rn_callV (M' := am_m29) (o := 44) (ar := [.int 1]) (rest := []) (L := lv_args 0 [.ref 44, .int 1]) (am_cur_of (i := (169, 3, .invokevirtual 108, (29, 769, 3), 0)) (by decide +kernel)) rfl rfl rfl rfl hc_z
    obtain ⟨r3541_z, h3542_z, q3543_z, hc_z⟩ := hc_z
    obtain ⟨rfl, yq3543_z⟩ := rp_fail R4 q3543_z
    subst yq3543_z
    replace hc_z : rn _ _ _ _ [] _ _ _ := hc_z
    have K := rs_stick (w := 1) (q := p) (a := 51) (by decide) (by decide) rfl (by decide) rfl (show rg_v (am_up (am_up h 44 1 (.int 1)) 44 2 (.int (rg_v h 44 9))) 44 2 = p from R5) hc_z
    replace hm_z := rn_aload_n (am_cur_of (i := (0, 1, .aload_n 0, (0, 0, 0), 0)) (by decide +kernel)) g0m hm_z
    replace hm_z := rn_bipush (w := 40) (am_cur_of (i := (1, 2, .bipush 40, (0, 0, 0), 0)) (by decide +kernel)) (by decide) hm_z
    replace hm_z := rn_callV (M' := am_m171) (o := 164) (ar := [.int 40]) (rest := []) (L := lv_args 0 [.ref 164, .int 40]) (am_cur_of (i := (3, 3, .invokevirtual 194, (171, 1715, 3), 0)) (by decide +kernel)) rfl rfl rfl rfl hm_z
    obtain ⟨r3544_z, h3545_z, q3546_z, hm_z⟩ := hm_z
    obtain ⟨rfl, yq3546_z⟩ := rp_sgN (fun q => absurd (Eq.trans (Eq.symm kd) q.2) (by decide)) q3546_z
    subst yq3546_z
    replace hm_z : rn _ _ _ _ [.int 0] _ _ _ := hm_z
    replace hm_z := rn_ifT (am_cur_of (i := (6, 3, .ifCond .eq 44, (28, 0, 0), 0)) (by decide +kernel)) (by decide) hm_z
    replace hm_z := rn_aload_n (am_cur_of (i := (50, 1, .aload_n 0, (0, 0, 0), 0)) (by decide +kernel)) g0m hm_z
    replace hm_z := rn_bipush (w := 14) (am_cur_of (i := (51, 2, .bipush 14, (0, 0, 0), 0)) (by decide +kernel)) (by decide) hm_z
    replace hm_z := rn_callV (M' := am_m174) (o := 164) (ar := [.int 14]) (rest := []) (L := lv_args 0 [.ref 164, .int 14]) (am_cur_of (i := (53, 3, .invokevirtual 306, (174, 1727, 3), 0)) (by decide +kernel)) rfl rfl rfl rfl hm_z
    obtain ⟨r3547_z, h3548_z, q3549_z, hm_z⟩ := hm_z
    obtain ⟨rfl, yq3549_z⟩ := rp_kyN (fun q => absurd (Eq.trans (Eq.symm kc) q.1) (by decide)) q3549_z
    subst yq3549_z
    replace hm_z : rn _ _ _ _ [.int 0] _ _ _ := hm_z
    replace hm_z := rn_ifT (am_cur_of (i := (56, 3, .ifCond .eq 30, (47, 0, 0), 0)) (by decide +kernel)) (by decide) hm_z
    replace hm_z := rn_aload_n (am_cur_of (i := (86, 1, .aload_n 0, (0, 0, 0), 0)) (by decide +kernel)) g0m hm_z
    replace hm_z := rn_callV (M' := am_m176) (o := 164) (ar := []) (rest := []) (L := lv_args 0 [.ref 164]) (am_cur_of (i := (87, 3, .invokevirtual 312, (176, 1735, 3), 0)) (by decide +kernel)) rfl rfl rfl rfl hm_z
    obtain ⟨r3550_z, h3551_z, q3552_z, hm_z⟩ := hm_z
    obtain ⟨rfl, yq3552_z⟩ := rp_nm (c := 4) (d := 59) kc kd q3552_z
    replace yq3552_z := yq3552_z.symm
    subst yq3552_z
    rw [show rp_nmf 4 59 = (-1) from by unfold rp_nmf; rw [if_neg (by decide)]] at hm_z
    replace hm_z : rn _ _ _ _ [.int (-1)] _ _ _ := hm_z
    replace hm_z := rn_istore_n (am_cur_of (i := (90, 1, .istore_n 1, (0, 0, 0), 0)) (by decide +kernel)) hm_z
    obtain ⟨_, s3553_z, s3554_z, g1m, hm_z⟩ := hm_z
    replace g0m := s3553_z 0 _ (by decide) rfl g0m
    clear s3553_z s3554_z
    replace hm_z := rn_iload_n (am_cur_of (i := (91, 1, .iload_n 1, (0, 0, 0), 0)) (by decide +kernel)) g1m hm_z
    replace hm_z := rn_ifF (am_cur_of (i := (92, 3, .ifCond .ge 17, (60, 0, 0), 0)) (by decide +kernel)) (by decide) hm_z
    replace hm_z := rn_aload_n (am_cur_of (i := (95, 1, .aload_n 0, (0, 0, 0), 0)) (by decide +kernel)) g0m hm_z
    replace hm_z := rn_getI (v := 4) (am_cur_of (i := (96, 3, .getfield 157, (12, 8, 1392), 0)) (by decide +kernel)) (by decide +kernel) kc hm_z
    replace hm_z := rn_iconst (w := 3) (am_cur_of (i := (99, 1, .iconst 3, (0, 0, 0), 0)) (by decide +kernel)) (by decide) hm_z
    replace hm_z := rn_cmpF (am_cur_of (i := (100, 3, .if_icmp .eq 9, (60, 0, 0), 0)) (by decide +kernel)) (by decide) hm_z
    replace hm_z := rn_aload_n (am_cur_of (i := (103, 1, .aload_n 0, (0, 0, 0), 0)) (by decide +kernel)) g0m hm_z
    replace hm_z := rn_iconst (w := 1) (am_cur_of (i := (104, 1, .iconst 1, (0, 0, 0), 0)) (by decide +kernel)) (by decide) hm_z
    replace hm_z := rn_callV (M' := am_m158) (o := 164) (ar := [.int 1]) (rest := []) (L := lv_args 0 [.ref 164, .int 1]) (am_cur_of (i := (105, 3, .invokevirtual 181, (158, 1665, 3), 0)) (by decide +kernel)) rfl rfl rfl rfl hm_z
    obtain ⟨r3555_z, h3556_z, q3557_z, hm_z⟩ := hm_z
    obtain ⟨rfl, yq3557_z⟩ := rp_wrong q3557_z
    subst yq3557_z
    replace hm_z : rn _ _ _ _ [.int 0] _ _ _ := hm_z
    replace hm_z := rn_iret (am_cur_of (i := (108, 1, .ireturn, (0, 0, 0), 0)) (by decide +kernel)) hm_z
    obtain ⟨e3558_z, e3559_z⟩ := hm_z
    subst e3558_z e3559_z
    exact (Or.inr ⟨rfl, 1, by decide, K.1, K.2, rfl, R6⟩)
  · have g0_z : am_get (lv_args 0 [.ref 44, .int 1]) 0 = some (.ref 44) := rfl
    have g1_z : am_get (lv_args 0 [.ref 44, .int 1]) 1 = some (.int 1) := rfl
    have g0m : am_get (lv_args 0 [.ref 164]) 0 = some (.ref 164) := rfl
    have Rk := R
    have Zk := Z
    obtain ⟨⟨c1_z, c2_z, c3_z, c4_z, c5_z, c6_z, c7_z, c8_z⟩, ⟨m2_z, m3_z, m4_z, m5_z, m6_z, m7_z, m8_z⟩, R3, R4, R5, R6, R7, R8, R9, R10⟩ := (R : rq T S x p 23 h g)
    obtain ⟨np, op, z1_z, z2_z, z3_z, z4_z, z5_z, z6_z, z7_z, z8_z, z9_z, z10_z⟩ := (Z : rs 23 h g)
    obtain ⟨nk1_z, nk2_z, nk3_z⟩ := A.2.2.2.2.2.1
    replace nk1_z : rg_v h 32 0 = rg_v g 164 44 := nk1_z
    replace nk2_z : 0 ≤ (rg_v h 32 0).toInt := nk2_z
    replace nk3_z : (rg_v h 32 0).toInt ≤ 64 := nk3_z
    replace z8_z : np.toInt ≤ (rg_v h 32 0).toInt + op.toInt := z8_z
    obtain ⟨kn, ekn⟩ : ∃ v, rg_v h 32 0 = v := ⟨_, rfl⟩
    rw [ekn] at nk1_z nk2_z nk3_z z8_z
    have e9_z := rt_c1 (x := kn) (by omega) (by omega)
    replace hc_z := rn_aload_n (am_cur_of (i := (0, 1, .aload_n 0, (0, 0, 0), 0)) (by decide +kernel)) g0_z hc_z
    replace hc_z := rn_getI (v := 5) (am_cur_of (i := (1, 3, .getfield 60, (4, 10, 419), 0)) (by decide +kernel)) (by decide +kernel) ka hc_z
    replace hc_z := rn_bipush (w := 6) (am_cur_of (i := (4, 2, .bipush 6, (0, 0, 0), 0)) (by decide +kernel)) (by decide) hc_z
    replace hc_z := rn_cmpT (am_cur_of (i := (6, 3, .if_icmp .ne 30, (19, 0, 0), 0)) (by decide +kernel)) (by decide) hc_z
    replace hc_z := rn_aload_n (am_cur_of (i := (36, 1, .aload_n 0, (0, 0, 0), 0)) (by decide +kernel)) g0_z hc_z
    replace hc_z := rn_bipush (w := 40) (am_cur_of (i := (37, 2, .bipush 40, (0, 0, 0), 0)) (by decide +kernel)) (by decide) hc_z
    replace hc_z := rn_callV (M' := am_m45) (o := 44) (ar := [.int 40]) (rest := []) (L := lv_args 0 [.ref 44, .int 40]) (am_cur_of (i := (39, 3, .invokevirtual 105, (45, 834, 3), 0)) (by decide +kernel)) rfl rfl rfl rfl hc_z
    obtain ⟨r3560_z, h3561_z, q3562_z, hc_z⟩ := hc_z
    obtain ⟨rfl, yq3562_z⟩ := rp_mkT ka kb q3562_z
    subst yq3562_z
    replace hc_z : rn _ _ _ _ [.int 1] _ _ _ := hc_z
    replace hc_z := rn_ifF (am_cur_of (i := (42, 3, .ifCond .eq 38, (43, 0, 0), 0)) (by decide +kernel)) (by decide) hc_z
    replace hc_z := rn_aload_n (am_cur_of (i := (45, 1, .aload_n 0, (0, 0, 0), 0)) (by decide +kernel)) g0_z hc_z
    replace hc_z := rn_getI (v := op) (am_cur_of (i := (46, 3, .getfield 254, (4, 14, 423), 0)) (by decide +kernel)) (by decide +kernel) z4_z hc_z
    replace hc_z := rn_bipush (w := 8) (am_cur_of (i := (49, 2, .bipush 8, (0, 0, 0), 0)) (by decide +kernel)) (by decide) hc_z
    replace hc_z := rn_cmp (am_cur_of (i := (51, 3, .if_icmp .lt 8, (30, 0, 0), 0)) (by decide +kernel)) hc_z
    rcases hc_z with ⟨b3563_z, hc_z⟩ | ⟨b3563_z, hc_z⟩
    · replace b3563_z : op.toInt < (8 : Int32).toInt := b3563_z
      replace hc_z := rn_aload_n (am_cur_of (i := (59, 1, .aload_n 0, (0, 0, 0), 0)) (by decide +kernel)) g0_z hc_z
      replace hc_z := rn_dup (am_cur_of (i := (60, 1, .dup, (0, 0, 0), 0)) (by decide +kernel)) hc_z
      replace hc_z := rn_getI (v := op) (am_cur_of (i := (61, 3, .getfield 254, (4, 14, 423), 0)) (by decide +kernel)) (by decide +kernel) z4_z hc_z
      replace hc_z := rn_iconst (w := 1) (am_cur_of (i := (64, 1, .iconst 1, (0, 0, 0), 0)) (by decide +kernel)) (by decide) hc_z
      replace hc_z := rn_iadd (w := op + 1) (am_cur_of (i := (65, 1, .iadd, (0, 0, 0), 0)) (by decide +kernel)) rfl hc_z
      replace hc_z := rn_put (am_cur_of (i := (66, 3, .putfield 254, (4, 14, 423), 0)) (by decide +kernel)) (by decide +kernel) hc_z
      replace hc_z := rn_aload_n (am_cur_of (i := (69, 1, .aload_n 0, (0, 0, 0), 0)) (by decide +kernel)) g0_z hc_z
      replace hc_z := rn_iconst (w := 2) (am_cur_of (i := (70, 1, .iconst 2, (0, 0, 0), 0)) (by decide +kernel)) (by decide) hc_z
      replace hc_z := rn_callV (M' := am_m50) (o := 44) (ar := [.int 2]) (rest := []) (L := lv_args 0 [.ref 44, .int 2]) (am_cur_of (i := (71, 3, .invokevirtual 273, (50, 856, 3), 0)) (by decide +kernel)) rfl rfl rfl rfl hc_z
      obtain ⟨r3564_z, h3565_z, q3566_z, hc_z⟩ := hc_z
      obtain ⟨rfl, eh⟩ := rs_hold (np := np) (show rg_v (am_up h 44 14 (.int (op + 1))) 44 13 = np from z1_z) (by omega) q3566_z
      subst eh
      replace hc_z : rn _ _ _ _ [] _ _ _ := hc_z
      replace hc_z := rn_aload_n (am_cur_of (i := (74, 1, .aload_n 0, (0, 0, 0), 0)) (by decide +kernel)) g0_z hc_z
      replace hc_z := rn_callV (M' := am_m19) (o := 44) (ar := []) (rest := []) (L := lv_args 0 [.ref 44]) (am_cur_of (i := (75, 3, .invokevirtual 57, (19, 727, 3), 0)) (by decide +kernel)) rfl rfl rfl rfl hc_z
      obtain ⟨r3567_z, h3568_z, q3569_z, hc_z⟩ := hc_z
      have vo := rn_void rfl q3569_z
      subst vo
      replace hm_z := rn_aload_n (am_cur_of (i := (0, 1, .aload_n 0, (0, 0, 0), 0)) (by decide +kernel)) g0m hm_z
      replace hm_z := rn_bipush (w := 40) (am_cur_of (i := (1, 2, .bipush 40, (0, 0, 0), 0)) (by decide +kernel)) (by decide) hm_z
      replace hm_z := rn_callV (M' := am_m171) (o := 164) (ar := [.int 40]) (rest := []) (L := lv_args 0 [.ref 164, .int 40]) (am_cur_of (i := (3, 3, .invokevirtual 194, (171, 1715, 3), 0)) (by decide +kernel)) rfl rfl rfl rfl hm_z
      obtain ⟨r3570_z, h3571_z, q3572_z, hm_z⟩ := hm_z
      obtain ⟨rfl, yq3572_z⟩ := rp_sgT kc kd q3572_z
      subst yq3572_z
      replace hm_z : rn _ _ _ _ [.int 1] _ _ _ := hm_z
      replace hm_z := rn_ifF (am_cur_of (i := (6, 3, .ifCond .eq 44, (28, 0, 0), 0)) (by decide +kernel)) (by decide) hm_z
      replace hm_z := rn_aload_n (am_cur_of (i := (9, 1, .aload_n 0, (0, 0, 0), 0)) (by decide +kernel)) g0m hm_z
      replace hm_z := rn_getI (v := op) (am_cur_of (i := (10, 3, .getfield 295, (12, 43, 1427), 0)) (by decide +kernel)) (by decide +kernel) z5_z hm_z
      replace hm_z := rn_bipush (w := 8) (am_cur_of (i := (13, 2, .bipush 8, (0, 0, 0), 0)) (by decide +kernel)) (by decide) hm_z
      replace hm_z := rn_cmp (am_cur_of (i := (15, 3, .if_icmp .ne 9, (12, 0, 0), 0)) (by decide +kernel)) hm_z
      rcases hm_z with ⟨b3573_z, hm_z⟩ | ⟨b3573_z, hm_z⟩
      · replace b3573_z : ¬ op = (8 : Int32) ∧ ¬ op.toInt = (8 : Int32).toInt := b3573_z
        replace hm_z := rn_aload_n (am_cur_of (i := (24, 1, .aload_n 0, (0, 0, 0), 0)) (by decide +kernel)) g0m hm_z
        replace hm_z := rn_dup (am_cur_of (i := (25, 1, .dup, (0, 0, 0), 0)) (by decide +kernel)) hm_z
        replace hm_z := rn_getI (v := op) (am_cur_of (i := (26, 3, .getfield 295, (12, 43, 1427), 0)) (by decide +kernel)) (by decide +kernel) z5_z hm_z
        replace hm_z := rn_iconst (w := 1) (am_cur_of (i := (29, 1, .iconst 1, (0, 0, 0), 0)) (by decide +kernel)) (by decide) hm_z
        replace hm_z := rn_iadd (w := op + 1) (am_cur_of (i := (30, 1, .iadd, (0, 0, 0), 0)) (by decide +kernel)) rfl hm_z
        replace hm_z := rn_put (am_cur_of (i := (31, 3, .putfield 295, (12, 43, 1427), 0)) (by decide +kernel)) (by decide +kernel) hm_z
        replace hm_z := rn_aload_n (am_cur_of (i := (34, 1, .aload_n 0, (0, 0, 0), 0)) (by decide +kernel)) g0m hm_z
        replace hm_z := rn_iconst (w := 0) (am_cur_of (i := (35, 1, .iconst 0, (0, 0, 0), 0)) (by decide +kernel)) (by decide) hm_z
        replace hm_z := rn_callV (M' := am_m173) (o := 164) (ar := [.int 0]) (rest := []) (L := lv_args 0 [.ref 164, .int 0]) (am_cur_of (i := (36, 3, .invokevirtual 298, (173, 1723, 3), 0)) (by decide +kernel)) rfl rfl rfl rfl hm_z
        obtain ⟨r3574_z, h3575_z, q3576_z, hm_z⟩ := hm_z
        obtain ⟨rfl, eh⟩ := rs_wf (np := np) (show rg_v (am_up g 164 43 (.int (op + 1))) 164 41 = np from z2_z) q3576_z
        subst eh
        replace hm_z : rn _ _ _ _ [] _ _ _ := hm_z
        replace hm_z := rn_aload_n (am_cur_of (i := (39, 1, .aload_n 0, (0, 0, 0), 0)) (by decide +kernel)) g0m hm_z
        replace hm_z := rn_iconst (w := 1) (am_cur_of (i := (40, 1, .iconst 1, (0, 0, 0), 0)) (by decide +kernel)) (by decide) hm_z
        replace hm_z := rn_put (am_cur_of (i := (41, 3, .putfield 302, (12, 46, 1430), 0)) (by decide +kernel)) (by decide +kernel) hm_z
        replace hm_z := rn_aload_n (am_cur_of (i := (44, 1, .aload_n 0, (0, 0, 0), 0)) (by decide +kernel)) g0m hm_z
        replace hm_z := rn_callV (M' := am_m151) (o := 164) (ar := []) (rest := []) (L := lv_args 0 [.ref 164]) (am_cur_of (i := (45, 3, .invokevirtual 191, (151, 1636, 3), 0)) (by decide +kernel)) rfl rfl rfl rfl hm_z
        obtain ⟨r3577_z, h3578_z, q3579_z, hm_z⟩ := hm_z
        have vo := rn_void rfl q3579_z
        subst vo
        have FC : ab_Fr (rz_MC23.drop 1) h (am_up (am_up (am_up h 44 14 (.int (op + 1))) 47 np.toNatClampNeg (.int 2)) 44 13 (.int (np + 1))) := ab_Fr_up rfl (ab_Fr_up rfl (ab_Fr_up rfl ab_Fr_refl))
        have FC' : ab_Fr rz_MC23 h (am_up (am_up (am_up h 44 14 (.int (op + 1))) 47 np.toNatClampNeg (.int 2)) 44 13 (.int (np + 1))) := ab_Fr_sub (by decide) FC
        have FM : ab_Fr rz_MM g (am_up (am_up (am_up (am_up g 164 43 (.int (op + 1))) 184 np.toNatClampNeg (.int 0)) 164 41 (.int (np + 1))) 164 46 (.int 1)) := ab_Fr_up rfl (ab_Fr_up rfl (ab_Fr_up rfl (ab_Fr_up rfl ab_Fr_refl)))
        obtain ⟨-, -, x2_z, p2_z, R2, le2_z, t5_z, t6_z⟩ := pr_tok (rz_q023 (rq_0 Rk) FC' FM) q3569_z q3579_z
        have A2 := rp_x (by decide) (rz_p23 A FC' FM ((show rg_v (am_up (am_up (am_up h 44 14 (.int (op + 1))) 47 np.toNatClampNeg (.int 2)) 44 13 (.int (np + 1))) 32 0 = kn from (show rg_v (am_up (am_up (am_up h 44 14 (.int (op + 1))) 47 np.toNatClampNeg (.int 2)) 44 13 (.int (np + 1))) 32 0 = kn from ekn)).trans (show rg_v (am_up (am_up (am_up (am_up g 164 43 (.int (op + 1))) 184 np.toNatClampNeg (.int 0)) 164 41 (.int (np + 1))) 164 46 (.int 1)) 164 44 = kn from (show rg_v (am_up (am_up (am_up (am_up g 164 43 (.int (op + 1))) 184 np.toNatClampNeg (.int 0)) 164 41 (.int (np + 1))) 164 46 (.int 1)) 164 44 = kn from nk1_z.symm)).symm) (by rw [show rg_v (am_up (am_up (am_up h 44 14 (.int (op + 1))) 47 np.toNatClampNeg (.int 2)) 44 13 (.int (np + 1))) 32 0 = kn from (show rg_v (am_up (am_up (am_up h 44 14 (.int (op + 1))) 47 np.toNatClampNeg (.int 2)) 44 13 (.int (np + 1))) 32 0 = kn from ekn)]; omega) (by rw [show rg_v (am_up (am_up (am_up h 44 14 (.int (op + 1))) 47 np.toNatClampNeg (.int 2)) 44 13 (.int (np + 1))) 32 0 = kn from (show rg_v (am_up (am_up (am_up h 44 14 (.int (op + 1))) 47 np.toNatClampNeg (.int 2)) 44 13 (.int (np + 1))) 32 0 = kn from ekn)]; omega)) (rx_C_f t5_z) (rx_M_f t6_z)
        have B2 := rp_tk (rz_t23 B FC FM) (rg_v_fr t5_z (by decide)) (fun k => rg_v_fr t6_z (rg_v_in (by decide) k)) (rx_M_f t6_z)
        have Z2 : rs 23 (am_up (am_up (am_up h 44 14 (.int (op + 1))) 47 np.toNatClampNeg (.int 2)) 44 13 (.int (np + 1))) (am_up (am_up (am_up (am_up g 164 43 (.int (op + 1))) 184 np.toNatClampNeg (.int 0)) 164 41 (.int (np + 1))) 164 46 (.int 1)) := rs_push (o := 2) (k := 0) (np := np) (op := op) Zk (by unfold rs_o; decide) z1_z z4_z (show rg_v (am_up (am_up (am_up h 44 14 (.int (op + 1))) 47 np.toNatClampNeg (.int 2)) 44 13 (.int (np + 1))) 44 13 = np + 1 from (show rg_v (am_up (am_up (am_up h 44 14 (.int (op + 1))) 47 np.toNatClampNeg (.int 2)) 44 13 (.int (np + 1))) 44 13 = np + 1 from rfl)) (show rg_v (am_up (am_up (am_up (am_up g 164 43 (.int (op + 1))) 184 np.toNatClampNeg (.int 0)) 164 41 (.int (np + 1))) 164 46 (.int 1)) 164 41 = np + 1 from (show rg_v (am_up (am_up (am_up (am_up g 164 43 (.int (op + 1))) 184 np.toNatClampNeg (.int 0)) 164 41 (.int (np + 1))) 164 46 (.int 1)) 164 41 = np + 1 from rfl)) (fun i hi_z => (show rg_v (am_up (am_up (am_up h 44 14 (.int (op + 1))) 47 np.toNatClampNeg (.int 2)) 44 13 (.int (np + 1))) 47 i = rg_v h 47 i from rg_v_other (h := h) (o := 47) (k := np.toNatClampNeg) (v := .int 2) (by omega))) (show rg_v (am_up (am_up (am_up h 44 14 (.int (op + 1))) 47 np.toNatClampNeg (.int 2)) 44 13 (.int (np + 1))) 47 np.toNatClampNeg = 2 from rg_v_self (h := h) (o := 47) (k := np.toNatClampNeg)) (fun i hi_z => (show rg_v (am_up (am_up (am_up (am_up g 164 43 (.int (op + 1))) 184 np.toNatClampNeg (.int 0)) 164 41 (.int (np + 1))) 164 46 (.int 1)) 184 i = rg_v g 184 i from rg_v_other (h := g) (o := 184) (k := np.toNatClampNeg) (v := .int 0) (by omega))) (show rg_v (am_up (am_up (am_up (am_up g 164 43 (.int (op + 1))) 184 np.toNatClampNeg (.int 0)) 164 41 (.int (np + 1))) 164 46 (.int 1)) 184 np.toNatClampNeg = 0 from rg_v_self (h := g) (o := 184) (k := np.toNatClampNeg)) (show (rg_v h 32 0).toInt ≤ 64 by rw [ekn]; exact nk3_z) (Or.inr ⟨rfl, by omega, (show rg_v (am_up (am_up (am_up h 44 14 (.int (op + 1))) 47 np.toNatClampNeg (.int 2)) 44 13 (.int (np + 1))) 44 14 = op + 1 from (show rg_v (am_up (am_up (am_up h 44 14 (.int (op + 1))) 47 np.toNatClampNeg (.int 2)) 44 13 (.int (np + 1))) 44 14 = op + 1 from rfl)), (show rg_v (am_up (am_up (am_up (am_up g 164 43 (.int (op + 1))) 184 np.toNatClampNeg (.int 0)) 164 41 (.int (np + 1))) 164 46 (.int 1)) 164 43 = op + 1 from (show rg_v (am_up (am_up (am_up (am_up g 164 43 (.int (op + 1))) 184 np.toNatClampNeg (.int 0)) 164 41 (.int (np + 1))) 164 46 (.int 1)) 164 43 = op + 1 from rfl)), rfl⟩)
        replace Z2 := rs_fr (by decide) Z2 t5_z t6_z
        have e45_z : rg_v h3578_z 164 45 = 1 := (rg_v_fr t6_z (by decide)).trans (show rg_v (am_up (am_up (am_up (am_up g 164 43 (.int (op + 1))) 184 np.toNatClampNeg (.int 0)) 164 41 (.int (np + 1))) 164 46 (.int 1)) 164 45 = 1 from (show rg_v (am_up (am_up (am_up (am_up g 164 43 (.int (op + 1))) 184 np.toNatClampNeg (.int 0)) 164 41 (.int (np + 1))) 164 46 (.int 1)) 164 45 = 1 from w1_z))
        have e46_z : rg_v h3578_z 164 46 = 1 := (rg_v_fr t6_z (by decide)).trans (show rg_v (am_up (am_up (am_up (am_up g 164 43 (.int (op + 1))) 184 np.toNatClampNeg (.int 0)) 164 41 (.int (np + 1))) 164 46 (.int 1)) 164 46 = 1 from (show rg_v (am_up (am_up (am_up (am_up g 164 43 (.int (op + 1))) 184 np.toNatClampNeg (.int 0)) 164 41 (.int (np + 1))) 164 46 (.int 1)) 164 46 = 1 from rfl))
        replace hm_z : rn _ _ _ _ [] _ _ _ := hm_z
        replace hc_z : rn _ _ _ _ [] _ _ _ := hc_z
        replace hc_z := rn_iconst (w := 0) (am_cur_of (i := (78, 1, .iconst 0, (0, 0, 0), 0)) (by decide +kernel)) (by decide) hc_z
        replace hc_z := rn_iret (am_cur_of (i := (79, 1, .ireturn, (0, 0, 0), 0)) (by decide +kernel)) hc_z
        obtain ⟨e3580_z, e3581_z⟩ := hc_z
        replace hm_z := rn_iconst (w := 1) (am_cur_of (i := (48, 1, .iconst 1, (0, 0, 0), 0)) (by decide +kernel)) (by decide) hm_z
        replace hm_z := rn_iret (am_cur_of (i := (49, 1, .ireturn, (0, 0, 0), 0)) (by decide +kernel)) hm_z
        obtain ⟨e3582_z, e3583_z⟩ := hm_z
        subst e3580_z e3581_z e3582_z e3583_z
        exact Or.inl ⟨_, x2_z, p2_z, rfl, rfl, R2, le2_z, A2, B2, Z2, Or.inl ⟨rfl, e45_z, e46_z⟩⟩
      · replace b3573_z : op = (8 : Int32) ∧ op.toInt = (8 : Int32).toInt := b3573_z
        omega
    · replace b3563_z : (8 : Int32).toInt ≤ op.toInt := b3563_z
      replace hc_z := rn_aload_n (am_cur_of (i := (54, 1, .aload_n 0, (0, 0, 0), 0)) (by decide +kernel)) g0_z hc_z
      replace hc_z := rn_iconst (w := 2) (am_cur_of (i := (55, 1, .iconst 2, (0, 0, 0), 0)) (by decide +kernel)) (by decide) hc_z
      replace hc_z := rn_callV (M' := am_m29) (o := 44) (ar := [.int 2]) (rest := []) (L := lv_args 0 [.ref 44, .int 2]) (am_cur_of (i := (56, 3, .invokevirtual 108, (29, 769, 3), 0)) (by decide +kernel)) rfl rfl rfl rfl hc_z
      obtain ⟨r3584_z, h3585_z, q3586_z, hc_z⟩ := hc_z
      obtain ⟨rfl, yq3586_z⟩ := rp_fail R4 q3586_z
      subst yq3586_z
      replace hc_z : rn _ _ _ _ [] _ _ _ := hc_z
      have K := rs_stick (w := 2) (q := p) (a := 51) (by decide) (by decide) rfl (by decide) rfl (show rg_v (am_up (am_up h 44 1 (.int 2)) 44 2 (.int (rg_v h 44 9))) 44 2 = p from R5) hc_z
      replace hm_z := rn_aload_n (am_cur_of (i := (0, 1, .aload_n 0, (0, 0, 0), 0)) (by decide +kernel)) g0m hm_z
      replace hm_z := rn_bipush (w := 40) (am_cur_of (i := (1, 2, .bipush 40, (0, 0, 0), 0)) (by decide +kernel)) (by decide) hm_z
      replace hm_z := rn_callV (M' := am_m171) (o := 164) (ar := [.int 40]) (rest := []) (L := lv_args 0 [.ref 164, .int 40]) (am_cur_of (i := (3, 3, .invokevirtual 194, (171, 1715, 3), 0)) (by decide +kernel)) rfl rfl rfl rfl hm_z
      obtain ⟨r3587_z, h3588_z, q3589_z, hm_z⟩ := hm_z
      obtain ⟨rfl, yq3589_z⟩ := rp_sgT kc kd q3589_z
      subst yq3589_z
      replace hm_z : rn _ _ _ _ [.int 1] _ _ _ := hm_z
      replace hm_z := rn_ifF (am_cur_of (i := (6, 3, .ifCond .eq 44, (28, 0, 0), 0)) (by decide +kernel)) (by decide) hm_z
      replace hm_z := rn_aload_n (am_cur_of (i := (9, 1, .aload_n 0, (0, 0, 0), 0)) (by decide +kernel)) g0m hm_z
      replace hm_z := rn_getI (v := op) (am_cur_of (i := (10, 3, .getfield 295, (12, 43, 1427), 0)) (by decide +kernel)) (by decide +kernel) z5_z hm_z
      replace hm_z := rn_bipush (w := 8) (am_cur_of (i := (13, 2, .bipush 8, (0, 0, 0), 0)) (by decide +kernel)) (by decide) hm_z
      replace hm_z := rn_cmp (am_cur_of (i := (15, 3, .if_icmp .ne 9, (12, 0, 0), 0)) (by decide +kernel)) hm_z
      rcases hm_z with ⟨b3590_z, hm_z⟩ | ⟨b3590_z, hm_z⟩
      · replace b3590_z : ¬ op = (8 : Int32) ∧ ¬ op.toInt = (8 : Int32).toInt := b3590_z
        omega
      · replace b3590_z : op = (8 : Int32) ∧ op.toInt = (8 : Int32).toInt := b3590_z
        replace hm_z := rn_aload_n (am_cur_of (i := (18, 1, .aload_n 0, (0, 0, 0), 0)) (by decide +kernel)) g0m hm_z
        replace hm_z := rn_iconst (w := 2) (am_cur_of (i := (19, 1, .iconst 2, (0, 0, 0), 0)) (by decide +kernel)) (by decide) hm_z
        replace hm_z := rn_callV (M' := am_m158) (o := 164) (ar := [.int 2]) (rest := []) (L := lv_args 0 [.ref 164, .int 2]) (am_cur_of (i := (20, 3, .invokevirtual 181, (158, 1665, 3), 0)) (by decide +kernel)) rfl rfl rfl rfl hm_z
        obtain ⟨r3591_z, h3592_z, q3593_z, hm_z⟩ := hm_z
        obtain ⟨rfl, yq3593_z⟩ := rp_wrong q3593_z
        subst yq3593_z
        replace hm_z : rn _ _ _ _ [.int 0] _ _ _ := hm_z
        replace hm_z := rn_iret (am_cur_of (i := (23, 1, .ireturn, (0, 0, 0), 0)) (by decide +kernel)) hm_z
        obtain ⟨e3594_z, e3595_z⟩ := hm_z
        subst e3594_z e3595_z
        exact (Or.inr ⟨rfl, 2, by decide, K.1, K.2, rfl, R6⟩)
  · have g0_z : am_get (lv_args 0 [.ref 44, .int 1]) 0 = some (.ref 44) := rfl
    have g1_z : am_get (lv_args 0 [.ref 44, .int 1]) 1 = some (.int 1) := rfl
    have g0m : am_get (lv_args 0 [.ref 164]) 0 = some (.ref 164) := rfl
    have Rk := R
    have Zk := Z
    obtain ⟨⟨c1_z, c2_z, c3_z, c4_z, c5_z, c6_z, c7_z, c8_z⟩, ⟨m2_z, m3_z, m4_z, m5_z, m6_z, m7_z, m8_z⟩, R3, R4, R5, R6, R7, R8, R9, R10⟩ := (R : rq T S x p 23 h g)
    obtain ⟨np, op, z1_z, z2_z, z3_z, z4_z, z5_z, z6_z, z7_z, z8_z, z9_z, z10_z⟩ := (Z : rs 23 h g)
    obtain ⟨nk1_z, nk2_z, nk3_z⟩ := A.2.2.2.2.2.1
    replace nk1_z : rg_v h 32 0 = rg_v g 164 44 := nk1_z
    replace nk2_z : 0 ≤ (rg_v h 32 0).toInt := nk2_z
    replace nk3_z : (rg_v h 32 0).toInt ≤ 64 := nk3_z
    replace z8_z : np.toInt ≤ (rg_v h 32 0).toInt + op.toInt := z8_z
    obtain ⟨kn, ekn⟩ : ∃ v, rg_v h 32 0 = v := ⟨_, rfl⟩
    rw [ekn] at nk1_z nk2_z nk3_z z8_z
    have e9_z := rt_c1 (x := kn) (by omega) (by omega)
    replace hc_z := rn_aload_n (am_cur_of (i := (0, 1, .aload_n 0, (0, 0, 0), 0)) (by decide +kernel)) g0_z hc_z
    replace hc_z := rn_getI (v := 5) (am_cur_of (i := (1, 3, .getfield 60, (4, 10, 419), 0)) (by decide +kernel)) (by decide +kernel) ka hc_z
    replace hc_z := rn_bipush (w := 6) (am_cur_of (i := (4, 2, .bipush 6, (0, 0, 0), 0)) (by decide +kernel)) (by decide) hc_z
    replace hc_z := rn_cmpT (am_cur_of (i := (6, 3, .if_icmp .ne 30, (19, 0, 0), 0)) (by decide +kernel)) (by decide) hc_z
    replace hc_z := rn_aload_n (am_cur_of (i := (36, 1, .aload_n 0, (0, 0, 0), 0)) (by decide +kernel)) g0_z hc_z
    replace hc_z := rn_bipush (w := 40) (am_cur_of (i := (37, 2, .bipush 40, (0, 0, 0), 0)) (by decide +kernel)) (by decide) hc_z
    replace hc_z := rn_callV (M' := am_m45) (o := 44) (ar := [.int 40]) (rest := []) (L := lv_args 0 [.ref 44, .int 40]) (am_cur_of (i := (39, 3, .invokevirtual 105, (45, 834, 3), 0)) (by decide +kernel)) rfl rfl rfl rfl hc_z
    obtain ⟨r3596_z, h3597_z, q3598_z, hc_z⟩ := hc_z
    obtain ⟨rfl, yq3598_z⟩ := rp_mkN (fun q => absurd (Eq.trans (Eq.symm kb) q.2) (by decide)) q3598_z
    subst yq3598_z
    replace hc_z : rn _ _ _ _ [.int 0] _ _ _ := hc_z
    replace hc_z := rn_ifT (am_cur_of (i := (42, 3, .ifCond .eq 38, (43, 0, 0), 0)) (by decide +kernel)) (by decide) hc_z
    replace hc_z := rn_aload_n (am_cur_of (i := (80, 1, .aload_n 0, (0, 0, 0), 0)) (by decide +kernel)) g0_z hc_z
    replace hc_z := rn_getI (v := 5) (am_cur_of (i := (81, 3, .getfield 60, (4, 10, 419), 0)) (by decide +kernel)) (by decide +kernel) ka hc_z
    replace hc_z := rn_iconst (w := 4) (am_cur_of (i := (84, 1, .iconst 4, (0, 0, 0), 0)) (by decide +kernel)) (by decide) hc_z
    replace hc_z := rn_cmpT (am_cur_of (i := (85, 3, .if_icmp .ne 40, (64, 0, 0), 0)) (by decide +kernel)) (by decide) hc_z
    replace hc_z := rn_aload_n (am_cur_of (i := (125, 1, .aload_n 0, (0, 0, 0), 0)) (by decide +kernel)) g0_z hc_z
    replace hc_z := rn_getI (v := 5) (am_cur_of (i := (126, 3, .getfield 60, (4, 10, 419), 0)) (by decide +kernel)) (by decide +kernel) ka hc_z
    replace hc_z := rn_iconst (w := 2) (am_cur_of (i := (129, 1, .iconst 2, (0, 0, 0), 0)) (by decide +kernel)) (by decide) hc_z
    replace hc_z := rn_cmpT (am_cur_of (i := (130, 3, .if_icmp .ne 37, (84, 0, 0), 0)) (by decide +kernel)) (by decide) hc_z
    replace hc_z := rn_aload_n (am_cur_of (i := (167, 1, .aload_n 0, (0, 0, 0), 0)) (by decide +kernel)) g0_z hc_z
    replace hc_z := rn_iconst (w := 1) (am_cur_of (i := (168, 1, .iconst 1, (0, 0, 0), 0)) (by decide +kernel)) (by decide) hc_z
    replace hc_z := rn_callV (M' := am_m29) (o := 44) (ar := [.int 1]) (rest := []) (L := lv_args 0 [.ref 44, .int 1]) (am_cur_of (i := (169, 3, .invokevirtual 108, (29, 769, 3), 0)) (by decide +kernel)) rfl rfl rfl rfl hc_z
    obtain ⟨r3599_z, h3600_z, q3601_z, hc_z⟩ := hc_z
    obtain ⟨rfl, yq3601_z⟩ := rp_fail R4 q3601_z
    subst yq3601_z
    replace hc_z : rn _ _ _ _ [] _ _ _ := hc_z
    have K := rs_stick (w := 1) (q := p) (a := 51) (by decide) (by decide) rfl (by decide) rfl (show rg_v (am_up (am_up h 44 1 (.int 1)) 44 2 (.int (rg_v h 44 9))) 44 2 = p from R5) hc_z
    replace hm_z := rn_aload_n (am_cur_of (i := (0, 1, .aload_n 0, (0, 0, 0), 0)) (by decide +kernel)) g0m hm_z
    replace hm_z := rn_bipush (w := 40) (am_cur_of (i := (1, 2, .bipush 40, (0, 0, 0), 0)) (by decide +kernel)) (by decide) hm_z
    replace hm_z := rn_callV (M' := am_m171) (o := 164) (ar := [.int 40]) (rest := []) (L := lv_args 0 [.ref 164, .int 40]) (am_cur_of (i := (3, 3, .invokevirtual 194, (171, 1715, 3), 0)) (by decide +kernel)) rfl rfl rfl rfl hm_z
    obtain ⟨r3602_z, h3603_z, q3604_z, hm_z⟩ := hm_z
    obtain ⟨rfl, yq3604_z⟩ := rp_sgN (fun q => absurd (Eq.trans (Eq.symm kd) q.2) (by decide)) q3604_z
    subst yq3604_z
    replace hm_z : rn _ _ _ _ [.int 0] _ _ _ := hm_z
    replace hm_z := rn_ifT (am_cur_of (i := (6, 3, .ifCond .eq 44, (28, 0, 0), 0)) (by decide +kernel)) (by decide) hm_z
    replace hm_z := rn_aload_n (am_cur_of (i := (50, 1, .aload_n 0, (0, 0, 0), 0)) (by decide +kernel)) g0m hm_z
    replace hm_z := rn_bipush (w := 14) (am_cur_of (i := (51, 2, .bipush 14, (0, 0, 0), 0)) (by decide +kernel)) (by decide) hm_z
    replace hm_z := rn_callV (M' := am_m174) (o := 164) (ar := [.int 14]) (rest := []) (L := lv_args 0 [.ref 164, .int 14]) (am_cur_of (i := (53, 3, .invokevirtual 306, (174, 1727, 3), 0)) (by decide +kernel)) rfl rfl rfl rfl hm_z
    obtain ⟨r3605_z, h3606_z, q3607_z, hm_z⟩ := hm_z
    obtain ⟨rfl, yq3607_z⟩ := rp_kyN (fun q => absurd (Eq.trans (Eq.symm kc) q.1) (by decide)) q3607_z
    subst yq3607_z
    replace hm_z : rn _ _ _ _ [.int 0] _ _ _ := hm_z
    replace hm_z := rn_ifT (am_cur_of (i := (56, 3, .ifCond .eq 30, (47, 0, 0), 0)) (by decide +kernel)) (by decide) hm_z
    replace hm_z := rn_aload_n (am_cur_of (i := (86, 1, .aload_n 0, (0, 0, 0), 0)) (by decide +kernel)) g0m hm_z
    replace hm_z := rn_callV (M' := am_m176) (o := 164) (ar := []) (rest := []) (L := lv_args 0 [.ref 164]) (am_cur_of (i := (87, 3, .invokevirtual 312, (176, 1735, 3), 0)) (by decide +kernel)) rfl rfl rfl rfl hm_z
    obtain ⟨r3608_z, h3609_z, q3610_z, hm_z⟩ := hm_z
    obtain ⟨rfl, yq3610_z⟩ := rp_nm (c := 4) (d := 41) kc kd q3610_z
    replace yq3610_z := yq3610_z.symm
    subst yq3610_z
    rw [show rp_nmf 4 41 = (-1) from by unfold rp_nmf; rw [if_neg (by decide)]] at hm_z
    replace hm_z : rn _ _ _ _ [.int (-1)] _ _ _ := hm_z
    replace hm_z := rn_istore_n (am_cur_of (i := (90, 1, .istore_n 1, (0, 0, 0), 0)) (by decide +kernel)) hm_z
    obtain ⟨_, s3611_z, s3612_z, g1m, hm_z⟩ := hm_z
    replace g0m := s3611_z 0 _ (by decide) rfl g0m
    clear s3611_z s3612_z
    replace hm_z := rn_iload_n (am_cur_of (i := (91, 1, .iload_n 1, (0, 0, 0), 0)) (by decide +kernel)) g1m hm_z
    replace hm_z := rn_ifF (am_cur_of (i := (92, 3, .ifCond .ge 17, (60, 0, 0), 0)) (by decide +kernel)) (by decide) hm_z
    replace hm_z := rn_aload_n (am_cur_of (i := (95, 1, .aload_n 0, (0, 0, 0), 0)) (by decide +kernel)) g0m hm_z
    replace hm_z := rn_getI (v := 4) (am_cur_of (i := (96, 3, .getfield 157, (12, 8, 1392), 0)) (by decide +kernel)) (by decide +kernel) kc hm_z
    replace hm_z := rn_iconst (w := 3) (am_cur_of (i := (99, 1, .iconst 3, (0, 0, 0), 0)) (by decide +kernel)) (by decide) hm_z
    replace hm_z := rn_cmpF (am_cur_of (i := (100, 3, .if_icmp .eq 9, (60, 0, 0), 0)) (by decide +kernel)) (by decide) hm_z
    replace hm_z := rn_aload_n (am_cur_of (i := (103, 1, .aload_n 0, (0, 0, 0), 0)) (by decide +kernel)) g0m hm_z
    replace hm_z := rn_iconst (w := 1) (am_cur_of (i := (104, 1, .iconst 1, (0, 0, 0), 0)) (by decide +kernel)) (by decide) hm_z
    replace hm_z := rn_callV (M' := am_m158) (o := 164) (ar := [.int 1]) (rest := []) (L := lv_args 0 [.ref 164, .int 1]) (am_cur_of (i := (105, 3, .invokevirtual 181, (158, 1665, 3), 0)) (by decide +kernel)) rfl rfl rfl rfl hm_z
    obtain ⟨r3613_z, h3614_z, q3615_z, hm_z⟩ := hm_z
    obtain ⟨rfl, yq3615_z⟩ := rp_wrong q3615_z
    subst yq3615_z
    replace hm_z : rn _ _ _ _ [.int 0] _ _ _ := hm_z
    replace hm_z := rn_iret (am_cur_of (i := (108, 1, .ireturn, (0, 0, 0), 0)) (by decide +kernel)) hm_z
    obtain ⟨e3616_z, e3617_z⟩ := hm_z
    subst e3616_z e3617_z
    exact (Or.inr ⟨rfl, 1, by decide, K.1, K.2, rfl, R6⟩)
  · have g0_z : am_get (lv_args 0 [.ref 44, .int 1]) 0 = some (.ref 44) := rfl
    have g1_z : am_get (lv_args 0 [.ref 44, .int 1]) 1 = some (.int 1) := rfl
    have g0m : am_get (lv_args 0 [.ref 164]) 0 = some (.ref 164) := rfl
    have Rk := R
    have Zk := Z
    obtain ⟨⟨c1_z, c2_z, c3_z, c4_z, c5_z, c6_z, c7_z, c8_z⟩, ⟨m2_z, m3_z, m4_z, m5_z, m6_z, m7_z, m8_z⟩, R3, R4, R5, R6, R7, R8, R9, R10⟩ := (R : rq T S x p 23 h g)
    obtain ⟨np, op, z1_z, z2_z, z3_z, z4_z, z5_z, z6_z, z7_z, z8_z, z9_z, z10_z⟩ := (Z : rs 23 h g)
    obtain ⟨nk1_z, nk2_z, nk3_z⟩ := A.2.2.2.2.2.1
    replace nk1_z : rg_v h 32 0 = rg_v g 164 44 := nk1_z
    replace nk2_z : 0 ≤ (rg_v h 32 0).toInt := nk2_z
    replace nk3_z : (rg_v h 32 0).toInt ≤ 64 := nk3_z
    replace z8_z : np.toInt ≤ (rg_v h 32 0).toInt + op.toInt := z8_z
    obtain ⟨kn, ekn⟩ : ∃ v, rg_v h 32 0 = v := ⟨_, rfl⟩
    rw [ekn] at nk1_z nk2_z nk3_z z8_z
    have e9_z := rt_c1 (x := kn) (by omega) (by omega)
    replace hc_z := rn_aload_n (am_cur_of (i := (0, 1, .aload_n 0, (0, 0, 0), 0)) (by decide +kernel)) g0_z hc_z
    replace hc_z := rn_getI (v := 6) (am_cur_of (i := (1, 3, .getfield 60, (4, 10, 419), 0)) (by decide +kernel)) (by decide +kernel) ka hc_z
    replace hc_z := rn_bipush (w := 6) (am_cur_of (i := (4, 2, .bipush 6, (0, 0, 0), 0)) (by decide +kernel)) (by decide) hc_z
    replace hc_z := rn_cmpF (am_cur_of (i := (6, 3, .if_icmp .ne 30, (19, 0, 0), 0)) (by decide +kernel)) (by decide) hc_z
    replace hc_z := rn_aload_n (am_cur_of (i := (9, 1, .aload_n 0, (0, 0, 0), 0)) (by decide +kernel)) g0_z hc_z
    replace hc_z := rn_getI (v := 3) (am_cur_of (i := (10, 3, .getfield 91, (4, 11, 420), 0)) (by decide +kernel)) (by decide +kernel) kb hc_z
    replace hc_z := rn_iconst (w := 5) (am_cur_of (i := (13, 1, .iconst 5, (0, 0, 0), 0)) (by decide +kernel)) (by decide) hc_z
    replace hc_z := rn_cmpT (am_cur_of (i := (14, 3, .if_icmp .ne 22, (19, 0, 0), 0)) (by decide +kernel)) (by decide) hc_z
    replace hc_z := rn_aload_n (am_cur_of (i := (36, 1, .aload_n 0, (0, 0, 0), 0)) (by decide +kernel)) g0_z hc_z
    replace hc_z := rn_bipush (w := 40) (am_cur_of (i := (37, 2, .bipush 40, (0, 0, 0), 0)) (by decide +kernel)) (by decide) hc_z
    replace hc_z := rn_callV (M' := am_m45) (o := 44) (ar := [.int 40]) (rest := []) (L := lv_args 0 [.ref 44, .int 40]) (am_cur_of (i := (39, 3, .invokevirtual 105, (45, 834, 3), 0)) (by decide +kernel)) rfl rfl rfl rfl hc_z
    obtain ⟨r3618_z, h3619_z, q3620_z, hc_z⟩ := hc_z
    obtain ⟨rfl, yq3620_z⟩ := rp_mkN (fun q => absurd (Eq.trans (Eq.symm ka) q.1) (by decide)) q3620_z
    subst yq3620_z
    replace hc_z : rn _ _ _ _ [.int 0] _ _ _ := hc_z
    replace hc_z := rn_ifT (am_cur_of (i := (42, 3, .ifCond .eq 38, (43, 0, 0), 0)) (by decide +kernel)) (by decide) hc_z
    replace hc_z := rn_aload_n (am_cur_of (i := (80, 1, .aload_n 0, (0, 0, 0), 0)) (by decide +kernel)) g0_z hc_z
    replace hc_z := rn_getI (v := 6) (am_cur_of (i := (81, 3, .getfield 60, (4, 10, 419), 0)) (by decide +kernel)) (by decide +kernel) ka hc_z
    replace hc_z := rn_iconst (w := 4) (am_cur_of (i := (84, 1, .iconst 4, (0, 0, 0), 0)) (by decide +kernel)) (by decide) hc_z
    replace hc_z := rn_cmpT (am_cur_of (i := (85, 3, .if_icmp .ne 40, (64, 0, 0), 0)) (by decide +kernel)) (by decide) hc_z
    replace hc_z := rn_aload_n (am_cur_of (i := (125, 1, .aload_n 0, (0, 0, 0), 0)) (by decide +kernel)) g0_z hc_z
    replace hc_z := rn_getI (v := 6) (am_cur_of (i := (126, 3, .getfield 60, (4, 10, 419), 0)) (by decide +kernel)) (by decide +kernel) ka hc_z
    replace hc_z := rn_iconst (w := 2) (am_cur_of (i := (129, 1, .iconst 2, (0, 0, 0), 0)) (by decide +kernel)) (by decide) hc_z
    replace hc_z := rn_cmpT (am_cur_of (i := (130, 3, .if_icmp .ne 37, (84, 0, 0), 0)) (by decide +kernel)) (by decide) hc_z
    replace hc_z := rn_aload_n (am_cur_of (i := (167, 1, .aload_n 0, (0, 0, 0), 0)) (by decide +kernel)) g0_z hc_z
    replace hc_z := rn_iconst (w := 1) (am_cur_of (i := (168, 1, .iconst 1, (0, 0, 0), 0)) (by decide +kernel)) (by decide) hc_z
    replace hc_z := rn_callV (M' := am_m29) (o := 44) (ar := [.int 1]) (rest := []) (L := lv_args 0 [.ref 44, .int 1]) (am_cur_of (i := (169, 3, .invokevirtual 108, (29, 769, 3), 0)) (by decide +kernel)) rfl rfl rfl rfl hc_z
    obtain ⟨r3621_z, h3622_z, q3623_z, hc_z⟩ := hc_z
    obtain ⟨rfl, yq3623_z⟩ := rp_fail R4 q3623_z
    subst yq3623_z
    replace hc_z : rn _ _ _ _ [] _ _ _ := hc_z
    have K := rs_stick (w := 1) (q := p) (a := 51) (by decide) (by decide) rfl (by decide) rfl (show rg_v (am_up (am_up h 44 1 (.int 1)) 44 2 (.int (rg_v h 44 9))) 44 2 = p from R5) hc_z
    replace hm_z := rn_aload_n (am_cur_of (i := (0, 1, .aload_n 0, (0, 0, 0), 0)) (by decide +kernel)) g0m hm_z
    replace hm_z := rn_bipush (w := 40) (am_cur_of (i := (1, 2, .bipush 40, (0, 0, 0), 0)) (by decide +kernel)) (by decide) hm_z
    replace hm_z := rn_callV (M' := am_m171) (o := 164) (ar := [.int 40]) (rest := []) (L := lv_args 0 [.ref 164, .int 40]) (am_cur_of (i := (3, 3, .invokevirtual 194, (171, 1715, 3), 0)) (by decide +kernel)) rfl rfl rfl rfl hm_z
    obtain ⟨r3624_z, h3625_z, q3626_z, hm_z⟩ := hm_z
    obtain ⟨rfl, yq3626_z⟩ := rp_sgN (fun q => absurd (Eq.trans (Eq.symm kc) q.1) (by decide)) q3626_z
    subst yq3626_z
    replace hm_z : rn _ _ _ _ [.int 0] _ _ _ := hm_z
    replace hm_z := rn_ifT (am_cur_of (i := (6, 3, .ifCond .eq 44, (28, 0, 0), 0)) (by decide +kernel)) (by decide) hm_z
    replace hm_z := rn_aload_n (am_cur_of (i := (50, 1, .aload_n 0, (0, 0, 0), 0)) (by decide +kernel)) g0m hm_z
    replace hm_z := rn_bipush (w := 14) (am_cur_of (i := (51, 2, .bipush 14, (0, 0, 0), 0)) (by decide +kernel)) (by decide) hm_z
    replace hm_z := rn_callV (M' := am_m174) (o := 164) (ar := [.int 14]) (rest := []) (L := lv_args 0 [.ref 164, .int 14]) (am_cur_of (i := (53, 3, .invokevirtual 306, (174, 1727, 3), 0)) (by decide +kernel)) rfl rfl rfl rfl hm_z
    obtain ⟨r3627_z, h3628_z, q3629_z, hm_z⟩ := hm_z
    obtain ⟨rfl, yq3629_z⟩ := rp_kyN (fun q => absurd (Eq.trans (Eq.symm kd) q.2) (by decide)) q3629_z
    subst yq3629_z
    replace hm_z : rn _ _ _ _ [.int 0] _ _ _ := hm_z
    replace hm_z := rn_ifT (am_cur_of (i := (56, 3, .ifCond .eq 30, (47, 0, 0), 0)) (by decide +kernel)) (by decide) hm_z
    replace hm_z := rn_aload_n (am_cur_of (i := (86, 1, .aload_n 0, (0, 0, 0), 0)) (by decide +kernel)) g0m hm_z
    replace hm_z := rn_callV (M' := am_m176) (o := 164) (ar := []) (rest := []) (L := lv_args 0 [.ref 164]) (am_cur_of (i := (87, 3, .invokevirtual 312, (176, 1735, 3), 0)) (by decide +kernel)) rfl rfl rfl rfl hm_z
    obtain ⟨r3630_z, h3631_z, q3632_z, hm_z⟩ := hm_z
    obtain ⟨rfl, yq3632_z⟩ := rp_nm (c := 1) (d := 13) kc kd q3632_z
    replace yq3632_z := yq3632_z.symm
    subst yq3632_z
    rw [show rp_nmf 1 13 = (-1) from by decide] at hm_z
    replace hm_z : rn _ _ _ _ [.int (-1)] _ _ _ := hm_z
    replace hm_z := rn_istore_n (am_cur_of (i := (90, 1, .istore_n 1, (0, 0, 0), 0)) (by decide +kernel)) hm_z
    obtain ⟨_, s3633_z, s3634_z, g1m, hm_z⟩ := hm_z
    replace g0m := s3633_z 0 _ (by decide) rfl g0m
    clear s3633_z s3634_z
    replace hm_z := rn_iload_n (am_cur_of (i := (91, 1, .iload_n 1, (0, 0, 0), 0)) (by decide +kernel)) g1m hm_z
    replace hm_z := rn_ifF (am_cur_of (i := (92, 3, .ifCond .ge 17, (60, 0, 0), 0)) (by decide +kernel)) (by decide) hm_z
    replace hm_z := rn_aload_n (am_cur_of (i := (95, 1, .aload_n 0, (0, 0, 0), 0)) (by decide +kernel)) g0m hm_z
    replace hm_z := rn_getI (v := 1) (am_cur_of (i := (96, 3, .getfield 157, (12, 8, 1392), 0)) (by decide +kernel)) (by decide +kernel) kc hm_z
    replace hm_z := rn_iconst (w := 3) (am_cur_of (i := (99, 1, .iconst 3, (0, 0, 0), 0)) (by decide +kernel)) (by decide) hm_z
    replace hm_z := rn_cmpF (am_cur_of (i := (100, 3, .if_icmp .eq 9, (60, 0, 0), 0)) (by decide +kernel)) (by decide) hm_z
    replace hm_z := rn_aload_n (am_cur_of (i := (103, 1, .aload_n 0, (0, 0, 0), 0)) (by decide +kernel)) g0m hm_z
    replace hm_z := rn_iconst (w := 1) (am_cur_of (i := (104, 1, .iconst 1, (0, 0, 0), 0)) (by decide +kernel)) (by decide) hm_z
    replace hm_z := rn_callV (M' := am_m158) (o := 164) (ar := [.int 1]) (rest := []) (L := lv_args 0 [.ref 164, .int 1]) (am_cur_of (i := (105, 3, .invokevirtual 181, (158, 1665, 3), 0)) (by decide +kernel)) rfl rfl rfl rfl hm_z
    obtain ⟨r3635_z, h3636_z, q3637_z, hm_z⟩ := hm_z
    obtain ⟨rfl, yq3637_z⟩ := rp_wrong q3637_z
    subst yq3637_z
    replace hm_z : rn _ _ _ _ [.int 0] _ _ _ := hm_z
    replace hm_z := rn_iret (am_cur_of (i := (108, 1, .ireturn, (0, 0, 0), 0)) (by decide +kernel)) hm_z
    obtain ⟨e3638_z, e3639_z⟩ := hm_z
    subst e3638_z e3639_z
    exact (Or.inr ⟨rfl, 1, by decide, K.1, K.2, rfl, R6⟩)
  · have g0_z : am_get (lv_args 0 [.ref 44, .int 1]) 0 = some (.ref 44) := rfl
    have g1_z : am_get (lv_args 0 [.ref 44, .int 1]) 1 = some (.int 1) := rfl
    have g0m : am_get (lv_args 0 [.ref 164]) 0 = some (.ref 164) := rfl
    have Rk := R
    have Zk := Z
    obtain ⟨⟨c1_z, c2_z, c3_z, c4_z, c5_z, c6_z, c7_z, c8_z⟩, ⟨m2_z, m3_z, m4_z, m5_z, m6_z, m7_z, m8_z⟩, R3, R4, R5, R6, R7, R8, R9, R10⟩ := (R : rq T S x p 23 h g)
    obtain ⟨np, op, z1_z, z2_z, z3_z, z4_z, z5_z, z6_z, z7_z, z8_z, z9_z, z10_z⟩ := (Z : rs 23 h g)
    obtain ⟨nk1_z, nk2_z, nk3_z⟩ := A.2.2.2.2.2.1
    replace nk1_z : rg_v h 32 0 = rg_v g 164 44 := nk1_z
    replace nk2_z : 0 ≤ (rg_v h 32 0).toInt := nk2_z
    replace nk3_z : (rg_v h 32 0).toInt ≤ 64 := nk3_z
    replace z8_z : np.toInt ≤ (rg_v h 32 0).toInt + op.toInt := z8_z
    obtain ⟨kn, ekn⟩ : ∃ v, rg_v h 32 0 = v := ⟨_, rfl⟩
    rw [ekn] at nk1_z nk2_z nk3_z z8_z
    have e9_z := rt_c1 (x := kn) (by omega) (by omega)
    replace hc_z := rn_aload_n (am_cur_of (i := (0, 1, .aload_n 0, (0, 0, 0), 0)) (by decide +kernel)) g0_z hc_z
    replace hc_z := rn_getI (v := 6) (am_cur_of (i := (1, 3, .getfield 60, (4, 10, 419), 0)) (by decide +kernel)) (by decide +kernel) ka hc_z
    replace hc_z := rn_bipush (w := 6) (am_cur_of (i := (4, 2, .bipush 6, (0, 0, 0), 0)) (by decide +kernel)) (by decide) hc_z
    replace hc_z := rn_cmpF (am_cur_of (i := (6, 3, .if_icmp .ne 30, (19, 0, 0), 0)) (by decide +kernel)) (by decide) hc_z
    replace hc_z := rn_aload_n (am_cur_of (i := (9, 1, .aload_n 0, (0, 0, 0), 0)) (by decide +kernel)) g0_z hc_z
    replace hc_z := rn_getI (v := 4) (am_cur_of (i := (10, 3, .getfield 91, (4, 11, 420), 0)) (by decide +kernel)) (by decide +kernel) kb hc_z
    replace hc_z := rn_iconst (w := 5) (am_cur_of (i := (13, 1, .iconst 5, (0, 0, 0), 0)) (by decide +kernel)) (by decide) hc_z
    replace hc_z := rn_cmpT (am_cur_of (i := (14, 3, .if_icmp .ne 22, (19, 0, 0), 0)) (by decide +kernel)) (by decide) hc_z
    replace hc_z := rn_aload_n (am_cur_of (i := (36, 1, .aload_n 0, (0, 0, 0), 0)) (by decide +kernel)) g0_z hc_z
    replace hc_z := rn_bipush (w := 40) (am_cur_of (i := (37, 2, .bipush 40, (0, 0, 0), 0)) (by decide +kernel)) (by decide) hc_z
    replace hc_z := rn_callV (M' := am_m45) (o := 44) (ar := [.int 40]) (rest := []) (L := lv_args 0 [.ref 44, .int 40]) (am_cur_of (i := (39, 3, .invokevirtual 105, (45, 834, 3), 0)) (by decide +kernel)) rfl rfl rfl rfl hc_z
    obtain ⟨r3640_z, h3641_z, q3642_z, hc_z⟩ := hc_z
    obtain ⟨rfl, yq3642_z⟩ := rp_mkN (fun q => absurd (Eq.trans (Eq.symm ka) q.1) (by decide)) q3642_z
    subst yq3642_z
    replace hc_z : rn _ _ _ _ [.int 0] _ _ _ := hc_z
    replace hc_z := rn_ifT (am_cur_of (i := (42, 3, .ifCond .eq 38, (43, 0, 0), 0)) (by decide +kernel)) (by decide) hc_z
    replace hc_z := rn_aload_n (am_cur_of (i := (80, 1, .aload_n 0, (0, 0, 0), 0)) (by decide +kernel)) g0_z hc_z
    replace hc_z := rn_getI (v := 6) (am_cur_of (i := (81, 3, .getfield 60, (4, 10, 419), 0)) (by decide +kernel)) (by decide +kernel) ka hc_z
    replace hc_z := rn_iconst (w := 4) (am_cur_of (i := (84, 1, .iconst 4, (0, 0, 0), 0)) (by decide +kernel)) (by decide) hc_z
    replace hc_z := rn_cmpT (am_cur_of (i := (85, 3, .if_icmp .ne 40, (64, 0, 0), 0)) (by decide +kernel)) (by decide) hc_z
    replace hc_z := rn_aload_n (am_cur_of (i := (125, 1, .aload_n 0, (0, 0, 0), 0)) (by decide +kernel)) g0_z hc_z
    replace hc_z := rn_getI (v := 6) (am_cur_of (i := (126, 3, .getfield 60, (4, 10, 419), 0)) (by decide +kernel)) (by decide +kernel) ka hc_z
    replace hc_z := rn_iconst (w := 2) (am_cur_of (i := (129, 1, .iconst 2, (0, 0, 0), 0)) (by decide +kernel)) (by decide) hc_z
    replace hc_z := rn_cmpT (am_cur_of (i := (130, 3, .if_icmp .ne 37, (84, 0, 0), 0)) (by decide +kernel)) (by decide) hc_z
    replace hc_z := rn_aload_n (am_cur_of (i := (167, 1, .aload_n 0, (0, 0, 0), 0)) (by decide +kernel)) g0_z hc_z
    replace hc_z := rn_iconst (w := 1) (am_cur_of (i := (168, 1, .iconst 1, (0, 0, 0), 0)) (by decide +kernel)) (by decide) hc_z
    replace hc_z := rn_callV (M' := am_m29) (o := 44) (ar := [.int 1]) (rest := []) (L := lv_args 0 [.ref 44, .int 1]) (am_cur_of (i := (169, 3, .invokevirtual 108, (29, 769, 3), 0)) (by decide +kernel)) rfl rfl rfl rfl hc_z
    obtain ⟨r3643_z, h3644_z, q3645_z, hc_z⟩ := hc_z
    obtain ⟨rfl, yq3645_z⟩ := rp_fail R4 q3645_z
    subst yq3645_z
    replace hc_z : rn _ _ _ _ [] _ _ _ := hc_z
    have K := rs_stick (w := 1) (q := p) (a := 51) (by decide) (by decide) rfl (by decide) rfl (show rg_v (am_up (am_up h 44 1 (.int 1)) 44 2 (.int (rg_v h 44 9))) 44 2 = p from R5) hc_z
    replace hm_z := rn_aload_n (am_cur_of (i := (0, 1, .aload_n 0, (0, 0, 0), 0)) (by decide +kernel)) g0m hm_z
    replace hm_z := rn_bipush (w := 40) (am_cur_of (i := (1, 2, .bipush 40, (0, 0, 0), 0)) (by decide +kernel)) (by decide) hm_z
    replace hm_z := rn_callV (M' := am_m171) (o := 164) (ar := [.int 40]) (rest := []) (L := lv_args 0 [.ref 164, .int 40]) (am_cur_of (i := (3, 3, .invokevirtual 194, (171, 1715, 3), 0)) (by decide +kernel)) rfl rfl rfl rfl hm_z
    obtain ⟨r3646_z, h3647_z, q3648_z, hm_z⟩ := hm_z
    obtain ⟨rfl, yq3648_z⟩ := rp_sgN (fun q => absurd (Eq.trans (Eq.symm kc) q.1) (by decide)) q3648_z
    subst yq3648_z
    replace hm_z : rn _ _ _ _ [.int 0] _ _ _ := hm_z
    replace hm_z := rn_ifT (am_cur_of (i := (6, 3, .ifCond .eq 44, (28, 0, 0), 0)) (by decide +kernel)) (by decide) hm_z
    replace hm_z := rn_aload_n (am_cur_of (i := (50, 1, .aload_n 0, (0, 0, 0), 0)) (by decide +kernel)) g0m hm_z
    replace hm_z := rn_bipush (w := 14) (am_cur_of (i := (51, 2, .bipush 14, (0, 0, 0), 0)) (by decide +kernel)) (by decide) hm_z
    replace hm_z := rn_callV (M' := am_m174) (o := 164) (ar := [.int 14]) (rest := []) (L := lv_args 0 [.ref 164, .int 14]) (am_cur_of (i := (53, 3, .invokevirtual 306, (174, 1727, 3), 0)) (by decide +kernel)) rfl rfl rfl rfl hm_z
    obtain ⟨r3649_z, h3650_z, q3651_z, hm_z⟩ := hm_z
    obtain ⟨rfl, yq3651_z⟩ := rp_kyN (fun q => absurd (Eq.trans (Eq.symm kd) q.2) (by decide)) q3651_z
    subst yq3651_z
    replace hm_z : rn _ _ _ _ [.int 0] _ _ _ := hm_z
    replace hm_z := rn_ifT (am_cur_of (i := (56, 3, .ifCond .eq 30, (47, 0, 0), 0)) (by decide +kernel)) (by decide) hm_z
    replace hm_z := rn_aload_n (am_cur_of (i := (86, 1, .aload_n 0, (0, 0, 0), 0)) (by decide +kernel)) g0m hm_z
    replace hm_z := rn_callV (M' := am_m176) (o := 164) (ar := []) (rest := []) (L := lv_args 0 [.ref 164]) (am_cur_of (i := (87, 3, .invokevirtual 312, (176, 1735, 3), 0)) (by decide +kernel)) rfl rfl rfl rfl hm_z
    obtain ⟨r3652_z, h3653_z, q3654_z, hm_z⟩ := hm_z
    obtain ⟨rfl, yq3654_z⟩ := rp_nm (c := 1) (d := 12) kc kd q3654_z
    replace yq3654_z := yq3654_z.symm
    subst yq3654_z
    rw [show rp_nmf 1 12 = (-1) from by decide] at hm_z
    replace hm_z : rn _ _ _ _ [.int (-1)] _ _ _ := hm_z
    replace hm_z := rn_istore_n (am_cur_of (i := (90, 1, .istore_n 1, (0, 0, 0), 0)) (by decide +kernel)) hm_z
    obtain ⟨_, s3655_z, s3656_z, g1m, hm_z⟩ := hm_z
    replace g0m := s3655_z 0 _ (by decide) rfl g0m
    clear s3655_z s3656_z
    replace hm_z := rn_iload_n (am_cur_of (i := (91, 1, .iload_n 1, (0, 0, 0), 0)) (by decide +kernel)) g1m hm_z
    replace hm_z := rn_ifF (am_cur_of (i := (92, 3, .ifCond .ge 17, (60, 0, 0), 0)) (by decide +kernel)) (by decide) hm_z
    replace hm_z := rn_aload_n (am_cur_of (i := (95, 1, .aload_n 0, (0, 0, 0), 0)) (by decide +kernel)) g0m hm_z
    replace hm_z := rn_getI (v := 1) (am_cur_of (i := (96, 3, .getfield 157, (12, 8, 1392), 0)) (by decide +kernel)) (by decide +kernel) kc hm_z
    replace hm_z := rn_iconst (w := 3) (am_cur_of (i := (99, 1, .iconst 3, (0, 0, 0), 0)) (by decide +kernel)) (by decide) hm_z
    replace hm_z := rn_cmpF (am_cur_of (i := (100, 3, .if_icmp .eq 9, (60, 0, 0), 0)) (by decide +kernel)) (by decide) hm_z
    replace hm_z := rn_aload_n (am_cur_of (i := (103, 1, .aload_n 0, (0, 0, 0), 0)) (by decide +kernel)) g0m hm_z
    replace hm_z := rn_iconst (w := 1) (am_cur_of (i := (104, 1, .iconst 1, (0, 0, 0), 0)) (by decide +kernel)) (by decide) hm_z
    replace hm_z := rn_callV (M' := am_m158) (o := 164) (ar := [.int 1]) (rest := []) (L := lv_args 0 [.ref 164, .int 1]) (am_cur_of (i := (105, 3, .invokevirtual 181, (158, 1665, 3), 0)) (by decide +kernel)) rfl rfl rfl rfl hm_z
    obtain ⟨r3657_z, h3658_z, q3659_z, hm_z⟩ := hm_z
    obtain ⟨rfl, yq3659_z⟩ := rp_wrong q3659_z
    subst yq3659_z
    replace hm_z : rn _ _ _ _ [.int 0] _ _ _ := hm_z
    replace hm_z := rn_iret (am_cur_of (i := (108, 1, .ireturn, (0, 0, 0), 0)) (by decide +kernel)) hm_z
    obtain ⟨e3660_z, e3661_z⟩ := hm_z
    subst e3660_z e3661_z
    exact (Or.inr ⟨rfl, 1, by decide, K.1, K.2, rfl, R6⟩)
  · have g0_z : am_get (lv_args 0 [.ref 44, .int 1]) 0 = some (.ref 44) := rfl
    have g1_z : am_get (lv_args 0 [.ref 44, .int 1]) 1 = some (.int 1) := rfl
    have g0m : am_get (lv_args 0 [.ref 164]) 0 = some (.ref 164) := rfl
    have Rk := R
    have Zk := Z
    obtain ⟨⟨c1_z, c2_z, c3_z, c4_z, c5_z, c6_z, c7_z, c8_z⟩, ⟨m2_z, m3_z, m4_z, m5_z, m6_z, m7_z, m8_z⟩, R3, R4, R5, R6, R7, R8, R9, R10⟩ := (R : rq T S x p 23 h g)
    obtain ⟨np, op, z1_z, z2_z, z3_z, z4_z, z5_z, z6_z, z7_z, z8_z, z9_z, z10_z⟩ := (Z : rs 23 h g)
    obtain ⟨nk1_z, nk2_z, nk3_z⟩ := A.2.2.2.2.2.1
    replace nk1_z : rg_v h 32 0 = rg_v g 164 44 := nk1_z
    replace nk2_z : 0 ≤ (rg_v h 32 0).toInt := nk2_z
    replace nk3_z : (rg_v h 32 0).toInt ≤ 64 := nk3_z
    replace z8_z : np.toInt ≤ (rg_v h 32 0).toInt + op.toInt := z8_z
    obtain ⟨kn, ekn⟩ : ∃ v, rg_v h 32 0 = v := ⟨_, rfl⟩
    rw [ekn] at nk1_z nk2_z nk3_z z8_z
    have e9_z := rt_c1 (x := kn) (by omega) (by omega)
    replace hc_z := rn_aload_n (am_cur_of (i := (0, 1, .aload_n 0, (0, 0, 0), 0)) (by decide +kernel)) g0_z hc_z
    replace hc_z := rn_getI (v := 6) (am_cur_of (i := (1, 3, .getfield 60, (4, 10, 419), 0)) (by decide +kernel)) (by decide +kernel) ka hc_z
    replace hc_z := rn_bipush (w := 6) (am_cur_of (i := (4, 2, .bipush 6, (0, 0, 0), 0)) (by decide +kernel)) (by decide) hc_z
    replace hc_z := rn_cmpF (am_cur_of (i := (6, 3, .if_icmp .ne 30, (19, 0, 0), 0)) (by decide +kernel)) (by decide) hc_z
    replace hc_z := rn_aload_n (am_cur_of (i := (9, 1, .aload_n 0, (0, 0, 0), 0)) (by decide +kernel)) g0_z hc_z
    replace hc_z := rn_getI (v := 5) (am_cur_of (i := (10, 3, .getfield 91, (4, 11, 420), 0)) (by decide +kernel)) (by decide +kernel) kb hc_z
    replace hc_z := rn_iconst (w := 5) (am_cur_of (i := (13, 1, .iconst 5, (0, 0, 0), 0)) (by decide +kernel)) (by decide) hc_z
    replace hc_z := rn_cmpF (am_cur_of (i := (14, 3, .if_icmp .ne 22, (19, 0, 0), 0)) (by decide +kernel)) (by decide) hc_z
    replace hc_z := rn_iload_n (am_cur_of (i := (17, 1, .iload_n 1, (0, 0, 0), 0)) (by decide +kernel)) g1_z hc_z
    replace hc_z := rn_ifT (am_cur_of (i := (18, 3, .ifCond .ne 18, (19, 0, 0), 0)) (by decide +kernel)) (by decide) hc_z
    replace hc_z := rn_aload_n (am_cur_of (i := (36, 1, .aload_n 0, (0, 0, 0), 0)) (by decide +kernel)) g0_z hc_z
    replace hc_z := rn_bipush (w := 40) (am_cur_of (i := (37, 2, .bipush 40, (0, 0, 0), 0)) (by decide +kernel)) (by decide) hc_z
    replace hc_z := rn_callV (M' := am_m45) (o := 44) (ar := [.int 40]) (rest := []) (L := lv_args 0 [.ref 44, .int 40]) (am_cur_of (i := (39, 3, .invokevirtual 105, (45, 834, 3), 0)) (by decide +kernel)) rfl rfl rfl rfl hc_z
    obtain ⟨r3662_z, h3663_z, q3664_z, hc_z⟩ := hc_z
    obtain ⟨rfl, yq3664_z⟩ := rp_mkN (fun q => absurd (Eq.trans (Eq.symm ka) q.1) (by decide)) q3664_z
    subst yq3664_z
    replace hc_z : rn _ _ _ _ [.int 0] _ _ _ := hc_z
    replace hc_z := rn_ifT (am_cur_of (i := (42, 3, .ifCond .eq 38, (43, 0, 0), 0)) (by decide +kernel)) (by decide) hc_z
    replace hc_z := rn_aload_n (am_cur_of (i := (80, 1, .aload_n 0, (0, 0, 0), 0)) (by decide +kernel)) g0_z hc_z
    replace hc_z := rn_getI (v := 6) (am_cur_of (i := (81, 3, .getfield 60, (4, 10, 419), 0)) (by decide +kernel)) (by decide +kernel) ka hc_z
    replace hc_z := rn_iconst (w := 4) (am_cur_of (i := (84, 1, .iconst 4, (0, 0, 0), 0)) (by decide +kernel)) (by decide) hc_z
    replace hc_z := rn_cmpT (am_cur_of (i := (85, 3, .if_icmp .ne 40, (64, 0, 0), 0)) (by decide +kernel)) (by decide) hc_z
    replace hc_z := rn_aload_n (am_cur_of (i := (125, 1, .aload_n 0, (0, 0, 0), 0)) (by decide +kernel)) g0_z hc_z
    replace hc_z := rn_getI (v := 6) (am_cur_of (i := (126, 3, .getfield 60, (4, 10, 419), 0)) (by decide +kernel)) (by decide +kernel) ka hc_z
    replace hc_z := rn_iconst (w := 2) (am_cur_of (i := (129, 1, .iconst 2, (0, 0, 0), 0)) (by decide +kernel)) (by decide) hc_z
    replace hc_z := rn_cmpT (am_cur_of (i := (130, 3, .if_icmp .ne 37, (84, 0, 0), 0)) (by decide +kernel)) (by decide) hc_z
    replace hc_z := rn_aload_n (am_cur_of (i := (167, 1, .aload_n 0, (0, 0, 0), 0)) (by decide +kernel)) g0_z hc_z
    replace hc_z := rn_iconst (w := 1) (am_cur_of (i := (168, 1, .iconst 1, (0, 0, 0), 0)) (by decide +kernel)) (by decide) hc_z
    replace hc_z := rn_callV (M' := am_m29) (o := 44) (ar := [.int 1]) (rest := []) (L := lv_args 0 [.ref 44, .int 1]) (am_cur_of (i := (169, 3, .invokevirtual 108, (29, 769, 3), 0)) (by decide +kernel)) rfl rfl rfl rfl hc_z
    obtain ⟨r3665_z, h3666_z, q3667_z, hc_z⟩ := hc_z
    obtain ⟨rfl, yq3667_z⟩ := rp_fail R4 q3667_z
    subst yq3667_z
    replace hc_z : rn _ _ _ _ [] _ _ _ := hc_z
    have K := rs_stick (w := 1) (q := p) (a := 51) (by decide) (by decide) rfl (by decide) rfl (show rg_v (am_up (am_up h 44 1 (.int 1)) 44 2 (.int (rg_v h 44 9))) 44 2 = p from R5) hc_z
    replace hm_z := rn_aload_n (am_cur_of (i := (0, 1, .aload_n 0, (0, 0, 0), 0)) (by decide +kernel)) g0m hm_z
    replace hm_z := rn_bipush (w := 40) (am_cur_of (i := (1, 2, .bipush 40, (0, 0, 0), 0)) (by decide +kernel)) (by decide) hm_z
    replace hm_z := rn_callV (M' := am_m171) (o := 164) (ar := [.int 40]) (rest := []) (L := lv_args 0 [.ref 164, .int 40]) (am_cur_of (i := (3, 3, .invokevirtual 194, (171, 1715, 3), 0)) (by decide +kernel)) rfl rfl rfl rfl hm_z
    obtain ⟨r3668_z, h3669_z, q3670_z, hm_z⟩ := hm_z
    obtain ⟨rfl, yq3670_z⟩ := rp_sgN (fun q => absurd (Eq.trans (Eq.symm kc) q.1) (by decide)) q3670_z
    subst yq3670_z
    replace hm_z : rn _ _ _ _ [.int 0] _ _ _ := hm_z
    replace hm_z := rn_ifT (am_cur_of (i := (6, 3, .ifCond .eq 44, (28, 0, 0), 0)) (by decide +kernel)) (by decide) hm_z
    replace hm_z := rn_aload_n (am_cur_of (i := (50, 1, .aload_n 0, (0, 0, 0), 0)) (by decide +kernel)) g0m hm_z
    replace hm_z := rn_bipush (w := 14) (am_cur_of (i := (51, 2, .bipush 14, (0, 0, 0), 0)) (by decide +kernel)) (by decide) hm_z
    replace hm_z := rn_callV (M' := am_m174) (o := 164) (ar := [.int 14]) (rest := []) (L := lv_args 0 [.ref 164, .int 14]) (am_cur_of (i := (53, 3, .invokevirtual 306, (174, 1727, 3), 0)) (by decide +kernel)) rfl rfl rfl rfl hm_z
    obtain ⟨r3671_z, h3672_z, q3673_z, hm_z⟩ := hm_z
    obtain ⟨rfl, yq3673_z⟩ := rp_kyT kc kd q3673_z
    subst yq3673_z
    replace hm_z : rn _ _ _ _ [.int 1] _ _ _ := hm_z
    replace hm_z := rn_ifF (am_cur_of (i := (56, 3, .ifCond .eq 30, (47, 0, 0), 0)) (by decide +kernel)) (by decide) hm_z
    replace hm_z := rn_aload_n (am_cur_of (i := (59, 1, .aload_n 0, (0, 0, 0), 0)) (by decide +kernel)) g0m hm_z
    replace hm_z := rn_getI (v := 0) (am_cur_of (i := (60, 3, .getfield 302, (12, 46, 1430), 0)) (by decide +kernel)) (by decide +kernel) w2_z hm_z
    replace hm_z := rn_ifT (am_cur_of (i := (63, 3, .ifCond .eq 23, (47, 0, 0), 0)) (by decide +kernel)) (by decide) hm_z
    replace hm_z := rn_aload_n (am_cur_of (i := (86, 1, .aload_n 0, (0, 0, 0), 0)) (by decide +kernel)) g0m hm_z
    replace hm_z := rn_callV (M' := am_m176) (o := 164) (ar := []) (rest := []) (L := lv_args 0 [.ref 164]) (am_cur_of (i := (87, 3, .invokevirtual 312, (176, 1735, 3), 0)) (by decide +kernel)) rfl rfl rfl rfl hm_z
    obtain ⟨r3674_z, h3675_z, q3676_z, hm_z⟩ := hm_z
    obtain ⟨rfl, yq3676_z⟩ := rp_nm (c := 1) (d := 14) kc kd q3676_z
    replace yq3676_z := yq3676_z.symm
    subst yq3676_z
    rw [show rp_nmf 1 14 = (-1) from by decide] at hm_z
    replace hm_z : rn _ _ _ _ [.int (-1)] _ _ _ := hm_z
    replace hm_z := rn_istore_n (am_cur_of (i := (90, 1, .istore_n 1, (0, 0, 0), 0)) (by decide +kernel)) hm_z
    obtain ⟨_, s3677_z, s3678_z, g1m, hm_z⟩ := hm_z
    replace g0m := s3677_z 0 _ (by decide) rfl g0m
    clear s3677_z s3678_z
    replace hm_z := rn_iload_n (am_cur_of (i := (91, 1, .iload_n 1, (0, 0, 0), 0)) (by decide +kernel)) g1m hm_z
    replace hm_z := rn_ifF (am_cur_of (i := (92, 3, .ifCond .ge 17, (60, 0, 0), 0)) (by decide +kernel)) (by decide) hm_z
    replace hm_z := rn_aload_n (am_cur_of (i := (95, 1, .aload_n 0, (0, 0, 0), 0)) (by decide +kernel)) g0m hm_z
    replace hm_z := rn_getI (v := 1) (am_cur_of (i := (96, 3, .getfield 157, (12, 8, 1392), 0)) (by decide +kernel)) (by decide +kernel) kc hm_z
    replace hm_z := rn_iconst (w := 3) (am_cur_of (i := (99, 1, .iconst 3, (0, 0, 0), 0)) (by decide +kernel)) (by decide) hm_z
    replace hm_z := rn_cmpF (am_cur_of (i := (100, 3, .if_icmp .eq 9, (60, 0, 0), 0)) (by decide +kernel)) (by decide) hm_z
    replace hm_z := rn_aload_n (am_cur_of (i := (103, 1, .aload_n 0, (0, 0, 0), 0)) (by decide +kernel)) g0m hm_z
    replace hm_z := rn_iconst (w := 1) (am_cur_of (i := (104, 1, .iconst 1, (0, 0, 0), 0)) (by decide +kernel)) (by decide) hm_z
    replace hm_z := rn_callV (M' := am_m158) (o := 164) (ar := [.int 1]) (rest := []) (L := lv_args 0 [.ref 164, .int 1]) (am_cur_of (i := (105, 3, .invokevirtual 181, (158, 1665, 3), 0)) (by decide +kernel)) rfl rfl rfl rfl hm_z
    obtain ⟨r3679_z, h3680_z, q3681_z, hm_z⟩ := hm_z
    obtain ⟨rfl, yq3681_z⟩ := rp_wrong q3681_z
    subst yq3681_z
    replace hm_z : rn _ _ _ _ [.int 0] _ _ _ := hm_z
    replace hm_z := rn_iret (am_cur_of (i := (108, 1, .ireturn, (0, 0, 0), 0)) (by decide +kernel)) hm_z
    obtain ⟨e3682_z, e3683_z⟩ := hm_z
    subst e3682_z e3683_z
    exact (Or.inr ⟨rfl, 1, by decide, K.1, K.2, rfl, R6⟩)
  · have g0_z : am_get (lv_args 0 [.ref 44, .int 1]) 0 = some (.ref 44) := rfl
    have g1_z : am_get (lv_args 0 [.ref 44, .int 1]) 1 = some (.int 1) := rfl
    have g0m : am_get (lv_args 0 [.ref 164]) 0 = some (.ref 164) := rfl
    have Rk := R
    have Zk := Z
    obtain ⟨⟨c1_z, c2_z, c3_z, c4_z, c5_z, c6_z, c7_z, c8_z⟩, ⟨m2_z, m3_z, m4_z, m5_z, m6_z, m7_z, m8_z⟩, R3, R4, R5, R6, R7, R8, R9, R10⟩ := (R : rq T S x p 23 h g)
    obtain ⟨np, op, z1_z, z2_z, z3_z, z4_z, z5_z, z6_z, z7_z, z8_z, z9_z, z10_z⟩ := (Z : rs 23 h g)
    obtain ⟨nk1_z, nk2_z, nk3_z⟩ := A.2.2.2.2.2.1
    replace nk1_z : rg_v h 32 0 = rg_v g 164 44 := nk1_z
    replace nk2_z : 0 ≤ (rg_v h 32 0).toInt := nk2_z
    replace nk3_z : (rg_v h 32 0).toInt ≤ 64 := nk3_z
    replace z8_z : np.toInt ≤ (rg_v h 32 0).toInt + op.toInt := z8_z
    obtain ⟨kn, ekn⟩ : ∃ v, rg_v h 32 0 = v := ⟨_, rfl⟩
    rw [ekn] at nk1_z nk2_z nk3_z z8_z
    have e9_z := rt_c1 (x := kn) (by omega) (by omega)
    replace hc_z := rn_aload_n (am_cur_of (i := (0, 1, .aload_n 0, (0, 0, 0), 0)) (by decide +kernel)) g0_z hc_z
    replace hc_z := rn_getI (v := 6) (am_cur_of (i := (1, 3, .getfield 60, (4, 10, 419), 0)) (by decide +kernel)) (by decide +kernel) ka hc_z
    replace hc_z := rn_bipush (w := 6) (am_cur_of (i := (4, 2, .bipush 6, (0, 0, 0), 0)) (by decide +kernel)) (by decide) hc_z
    replace hc_z := rn_cmpF (am_cur_of (i := (6, 3, .if_icmp .ne 30, (19, 0, 0), 0)) (by decide +kernel)) (by decide) hc_z
    replace hc_z := rn_aload_n (am_cur_of (i := (9, 1, .aload_n 0, (0, 0, 0), 0)) (by decide +kernel)) g0_z hc_z
    replace hc_z := rn_getI (v := 6) (am_cur_of (i := (10, 3, .getfield 91, (4, 11, 420), 0)) (by decide +kernel)) (by decide +kernel) kb hc_z
    replace hc_z := rn_iconst (w := 5) (am_cur_of (i := (13, 1, .iconst 5, (0, 0, 0), 0)) (by decide +kernel)) (by decide) hc_z
    replace hc_z := rn_cmpT (am_cur_of (i := (14, 3, .if_icmp .ne 22, (19, 0, 0), 0)) (by decide +kernel)) (by decide) hc_z
    replace hc_z := rn_aload_n (am_cur_of (i := (36, 1, .aload_n 0, (0, 0, 0), 0)) (by decide +kernel)) g0_z hc_z
    replace hc_z := rn_bipush (w := 40) (am_cur_of (i := (37, 2, .bipush 40, (0, 0, 0), 0)) (by decide +kernel)) (by decide) hc_z
    replace hc_z := rn_callV (M' := am_m45) (o := 44) (ar := [.int 40]) (rest := []) (L := lv_args 0 [.ref 44, .int 40]) (am_cur_of (i := (39, 3, .invokevirtual 105, (45, 834, 3), 0)) (by decide +kernel)) rfl rfl rfl rfl hc_z
    obtain ⟨r3684_z, h3685_z, q3686_z, hc_z⟩ := hc_z
    obtain ⟨rfl, yq3686_z⟩ := rp_mkN (fun q => absurd (Eq.trans (Eq.symm ka) q.1) (by decide)) q3686_z
    subst yq3686_z
    replace hc_z : rn _ _ _ _ [.int 0] _ _ _ := hc_z
    replace hc_z := rn_ifT (am_cur_of (i := (42, 3, .ifCond .eq 38, (43, 0, 0), 0)) (by decide +kernel)) (by decide) hc_z
    replace hc_z := rn_aload_n (am_cur_of (i := (80, 1, .aload_n 0, (0, 0, 0), 0)) (by decide +kernel)) g0_z hc_z
    replace hc_z := rn_getI (v := 6) (am_cur_of (i := (81, 3, .getfield 60, (4, 10, 419), 0)) (by decide +kernel)) (by decide +kernel) ka hc_z
    replace hc_z := rn_iconst (w := 4) (am_cur_of (i := (84, 1, .iconst 4, (0, 0, 0), 0)) (by decide +kernel)) (by decide) hc_z
    replace hc_z := rn_cmpT (am_cur_of (i := (85, 3, .if_icmp .ne 40, (64, 0, 0), 0)) (by decide +kernel)) (by decide) hc_z
    replace hc_z := rn_aload_n (am_cur_of (i := (125, 1, .aload_n 0, (0, 0, 0), 0)) (by decide +kernel)) g0_z hc_z
    replace hc_z := rn_getI (v := 6) (am_cur_of (i := (126, 3, .getfield 60, (4, 10, 419), 0)) (by decide +kernel)) (by decide +kernel) ka hc_z
    replace hc_z := rn_iconst (w := 2) (am_cur_of (i := (129, 1, .iconst 2, (0, 0, 0), 0)) (by decide +kernel)) (by decide) hc_z
    replace hc_z := rn_cmpT (am_cur_of (i := (130, 3, .if_icmp .ne 37, (84, 0, 0), 0)) (by decide +kernel)) (by decide) hc_z
    replace hc_z := rn_aload_n (am_cur_of (i := (167, 1, .aload_n 0, (0, 0, 0), 0)) (by decide +kernel)) g0_z hc_z
    replace hc_z := rn_iconst (w := 1) (am_cur_of (i := (168, 1, .iconst 1, (0, 0, 0), 0)) (by decide +kernel)) (by decide) hc_z
    replace hc_z := rn_callV (M' := am_m29) (o := 44) (ar := [.int 1]) (rest := []) (L := lv_args 0 [.ref 44, .int 1]) (am_cur_of (i := (169, 3, .invokevirtual 108, (29, 769, 3), 0)) (by decide +kernel)) rfl rfl rfl rfl hc_z
    obtain ⟨r3687_z, h3688_z, q3689_z, hc_z⟩ := hc_z
    obtain ⟨rfl, yq3689_z⟩ := rp_fail R4 q3689_z
    subst yq3689_z
    replace hc_z : rn _ _ _ _ [] _ _ _ := hc_z
    have K := rs_stick (w := 1) (q := p) (a := 51) (by decide) (by decide) rfl (by decide) rfl (show rg_v (am_up (am_up h 44 1 (.int 1)) 44 2 (.int (rg_v h 44 9))) 44 2 = p from R5) hc_z
    replace hm_z := rn_aload_n (am_cur_of (i := (0, 1, .aload_n 0, (0, 0, 0), 0)) (by decide +kernel)) g0m hm_z
    replace hm_z := rn_bipush (w := 40) (am_cur_of (i := (1, 2, .bipush 40, (0, 0, 0), 0)) (by decide +kernel)) (by decide) hm_z
    replace hm_z := rn_callV (M' := am_m171) (o := 164) (ar := [.int 40]) (rest := []) (L := lv_args 0 [.ref 164, .int 40]) (am_cur_of (i := (3, 3, .invokevirtual 194, (171, 1715, 3), 0)) (by decide +kernel)) rfl rfl rfl rfl hm_z
    obtain ⟨r3690_z, h3691_z, q3692_z, hm_z⟩ := hm_z
    obtain ⟨rfl, yq3692_z⟩ := rp_sgN (fun q => absurd (Eq.trans (Eq.symm kc) q.1) (by decide)) q3692_z
    subst yq3692_z
    replace hm_z : rn _ _ _ _ [.int 0] _ _ _ := hm_z
    replace hm_z := rn_ifT (am_cur_of (i := (6, 3, .ifCond .eq 44, (28, 0, 0), 0)) (by decide +kernel)) (by decide) hm_z
    replace hm_z := rn_aload_n (am_cur_of (i := (50, 1, .aload_n 0, (0, 0, 0), 0)) (by decide +kernel)) g0m hm_z
    replace hm_z := rn_bipush (w := 14) (am_cur_of (i := (51, 2, .bipush 14, (0, 0, 0), 0)) (by decide +kernel)) (by decide) hm_z
    replace hm_z := rn_callV (M' := am_m174) (o := 164) (ar := [.int 14]) (rest := []) (L := lv_args 0 [.ref 164, .int 14]) (am_cur_of (i := (53, 3, .invokevirtual 306, (174, 1727, 3), 0)) (by decide +kernel)) rfl rfl rfl rfl hm_z
    obtain ⟨r3693_z, h3694_z, q3695_z, hm_z⟩ := hm_z
    obtain ⟨rfl, yq3695_z⟩ := rp_kyN (fun q => absurd (Eq.trans (Eq.symm kc) q.1) (by decide)) q3695_z
    subst yq3695_z
    replace hm_z : rn _ _ _ _ [.int 0] _ _ _ := hm_z
    replace hm_z := rn_ifT (am_cur_of (i := (56, 3, .ifCond .eq 30, (47, 0, 0), 0)) (by decide +kernel)) (by decide) hm_z
    replace hm_z := rn_aload_n (am_cur_of (i := (86, 1, .aload_n 0, (0, 0, 0), 0)) (by decide +kernel)) g0m hm_z
    replace hm_z := rn_callV (M' := am_m176) (o := 164) (ar := []) (rest := []) (L := lv_args 0 [.ref 164]) (am_cur_of (i := (87, 3, .invokevirtual 312, (176, 1735, 3), 0)) (by decide +kernel)) rfl rfl rfl rfl hm_z
    obtain ⟨r3696_z, h3697_z, q3698_z, hm_z⟩ := hm_z
    obtain ⟨rfl, yq3698_z⟩ := rp_nm (c := 5) (d := 0) kc kd q3698_z
    replace yq3698_z := yq3698_z.symm
    subst yq3698_z
    rw [show rp_nmf 5 0 = (-1) from by unfold rp_nmf; rw [if_neg (by decide)]] at hm_z
    replace hm_z : rn _ _ _ _ [.int (-1)] _ _ _ := hm_z
    replace hm_z := rn_istore_n (am_cur_of (i := (90, 1, .istore_n 1, (0, 0, 0), 0)) (by decide +kernel)) hm_z
    obtain ⟨_, s3699_z, s3700_z, g1m, hm_z⟩ := hm_z
    replace g0m := s3699_z 0 _ (by decide) rfl g0m
    clear s3699_z s3700_z
    replace hm_z := rn_iload_n (am_cur_of (i := (91, 1, .iload_n 1, (0, 0, 0), 0)) (by decide +kernel)) g1m hm_z
    replace hm_z := rn_ifF (am_cur_of (i := (92, 3, .ifCond .ge 17, (60, 0, 0), 0)) (by decide +kernel)) (by decide) hm_z
    replace hm_z := rn_aload_n (am_cur_of (i := (95, 1, .aload_n 0, (0, 0, 0), 0)) (by decide +kernel)) g0m hm_z
    replace hm_z := rn_getI (v := 5) (am_cur_of (i := (96, 3, .getfield 157, (12, 8, 1392), 0)) (by decide +kernel)) (by decide +kernel) kc hm_z
    replace hm_z := rn_iconst (w := 3) (am_cur_of (i := (99, 1, .iconst 3, (0, 0, 0), 0)) (by decide +kernel)) (by decide) hm_z
    replace hm_z := rn_cmpF (am_cur_of (i := (100, 3, .if_icmp .eq 9, (60, 0, 0), 0)) (by decide +kernel)) (by decide) hm_z
    replace hm_z := rn_aload_n (am_cur_of (i := (103, 1, .aload_n 0, (0, 0, 0), 0)) (by decide +kernel)) g0m hm_z
    replace hm_z := rn_iconst (w := 1) (am_cur_of (i := (104, 1, .iconst 1, (0, 0, 0), 0)) (by decide +kernel)) (by decide) hm_z
    replace hm_z := rn_callV (M' := am_m158) (o := 164) (ar := [.int 1]) (rest := []) (L := lv_args 0 [.ref 164, .int 1]) (am_cur_of (i := (105, 3, .invokevirtual 181, (158, 1665, 3), 0)) (by decide +kernel)) rfl rfl rfl rfl hm_z
    obtain ⟨r3701_z, h3702_z, q3703_z, hm_z⟩ := hm_z
    obtain ⟨rfl, yq3703_z⟩ := rp_wrong q3703_z
    subst yq3703_z
    replace hm_z : rn _ _ _ _ [.int 0] _ _ _ := hm_z
    replace hm_z := rn_iret (am_cur_of (i := (108, 1, .ireturn, (0, 0, 0), 0)) (by decide +kernel)) hm_z
    obtain ⟨e3704_z, e3705_z⟩ := hm_z
    subst e3704_z e3705_z
    exact (Or.inr ⟨rfl, 1, by decide, K.1, K.2, rfl, R6⟩)
  · have g0_z : am_get (lv_args 0 [.ref 44, .int 1]) 0 = some (.ref 44) := rfl
    have g1_z : am_get (lv_args 0 [.ref 44, .int 1]) 1 = some (.int 1) := rfl
    have g0m : am_get (lv_args 0 [.ref 164]) 0 = some (.ref 164) := rfl
    have Rk := R
    have Zk := Z
    obtain ⟨⟨c1_z, c2_z, c3_z, c4_z, c5_z, c6_z, c7_z, c8_z⟩, ⟨m2_z, m3_z, m4_z, m5_z, m6_z, m7_z, m8_z⟩, R3, R4, R5, R6, R7, R8, R9, R10⟩ := (R : rq T S x p 23 h g)
    obtain ⟨np, op, z1_z, z2_z, z3_z, z4_z, z5_z, z6_z, z7_z, z8_z, z9_z, z10_z⟩ := (Z : rs 23 h g)
    obtain ⟨nk1_z, nk2_z, nk3_z⟩ := A.2.2.2.2.2.1
    replace nk1_z : rg_v h 32 0 = rg_v g 164 44 := nk1_z
    replace nk2_z : 0 ≤ (rg_v h 32 0).toInt := nk2_z
    replace nk3_z : (rg_v h 32 0).toInt ≤ 64 := nk3_z
    replace z8_z : np.toInt ≤ (rg_v h 32 0).toInt + op.toInt := z8_z
    obtain ⟨kn, ekn⟩ : ∃ v, rg_v h 32 0 = v := ⟨_, rfl⟩
    rw [ekn] at nk1_z nk2_z nk3_z z8_z
    have e9_z := rt_c1 (x := kn) (by omega) (by omega)
    replace hc_z := rn_aload_n (am_cur_of (i := (0, 1, .aload_n 0, (0, 0, 0), 0)) (by decide +kernel)) g0_z hc_z
    replace hc_z := rn_getI (v := 6) (am_cur_of (i := (1, 3, .getfield 60, (4, 10, 419), 0)) (by decide +kernel)) (by decide +kernel) ka hc_z
    replace hc_z := rn_bipush (w := 6) (am_cur_of (i := (4, 2, .bipush 6, (0, 0, 0), 0)) (by decide +kernel)) (by decide) hc_z
    replace hc_z := rn_cmpF (am_cur_of (i := (6, 3, .if_icmp .ne 30, (19, 0, 0), 0)) (by decide +kernel)) (by decide) hc_z
    replace hc_z := rn_aload_n (am_cur_of (i := (9, 1, .aload_n 0, (0, 0, 0), 0)) (by decide +kernel)) g0_z hc_z
    replace hc_z := rn_getI (v := 7) (am_cur_of (i := (10, 3, .getfield 91, (4, 11, 420), 0)) (by decide +kernel)) (by decide +kernel) kb hc_z
    replace hc_z := rn_iconst (w := 5) (am_cur_of (i := (13, 1, .iconst 5, (0, 0, 0), 0)) (by decide +kernel)) (by decide) hc_z
    replace hc_z := rn_cmpT (am_cur_of (i := (14, 3, .if_icmp .ne 22, (19, 0, 0), 0)) (by decide +kernel)) (by decide) hc_z
    replace hc_z := rn_aload_n (am_cur_of (i := (36, 1, .aload_n 0, (0, 0, 0), 0)) (by decide +kernel)) g0_z hc_z
    replace hc_z := rn_bipush (w := 40) (am_cur_of (i := (37, 2, .bipush 40, (0, 0, 0), 0)) (by decide +kernel)) (by decide) hc_z
    replace hc_z := rn_callV (M' := am_m45) (o := 44) (ar := [.int 40]) (rest := []) (L := lv_args 0 [.ref 44, .int 40]) (am_cur_of (i := (39, 3, .invokevirtual 105, (45, 834, 3), 0)) (by decide +kernel)) rfl rfl rfl rfl hc_z
    obtain ⟨r3706_z, h3707_z, q3708_z, hc_z⟩ := hc_z
    obtain ⟨rfl, yq3708_z⟩ := rp_mkN (fun q => absurd (Eq.trans (Eq.symm ka) q.1) (by decide)) q3708_z
    subst yq3708_z
    replace hc_z : rn _ _ _ _ [.int 0] _ _ _ := hc_z
    replace hc_z := rn_ifT (am_cur_of (i := (42, 3, .ifCond .eq 38, (43, 0, 0), 0)) (by decide +kernel)) (by decide) hc_z
    replace hc_z := rn_aload_n (am_cur_of (i := (80, 1, .aload_n 0, (0, 0, 0), 0)) (by decide +kernel)) g0_z hc_z
    replace hc_z := rn_getI (v := 6) (am_cur_of (i := (81, 3, .getfield 60, (4, 10, 419), 0)) (by decide +kernel)) (by decide +kernel) ka hc_z
    replace hc_z := rn_iconst (w := 4) (am_cur_of (i := (84, 1, .iconst 4, (0, 0, 0), 0)) (by decide +kernel)) (by decide) hc_z
    replace hc_z := rn_cmpT (am_cur_of (i := (85, 3, .if_icmp .ne 40, (64, 0, 0), 0)) (by decide +kernel)) (by decide) hc_z
    replace hc_z := rn_aload_n (am_cur_of (i := (125, 1, .aload_n 0, (0, 0, 0), 0)) (by decide +kernel)) g0_z hc_z
    replace hc_z := rn_getI (v := 6) (am_cur_of (i := (126, 3, .getfield 60, (4, 10, 419), 0)) (by decide +kernel)) (by decide +kernel) ka hc_z
    replace hc_z := rn_iconst (w := 2) (am_cur_of (i := (129, 1, .iconst 2, (0, 0, 0), 0)) (by decide +kernel)) (by decide) hc_z
    replace hc_z := rn_cmpT (am_cur_of (i := (130, 3, .if_icmp .ne 37, (84, 0, 0), 0)) (by decide +kernel)) (by decide) hc_z
    replace hc_z := rn_aload_n (am_cur_of (i := (167, 1, .aload_n 0, (0, 0, 0), 0)) (by decide +kernel)) g0_z hc_z
    replace hc_z := rn_iconst (w := 1) (am_cur_of (i := (168, 1, .iconst 1, (0, 0, 0), 0)) (by decide +kernel)) (by decide) hc_z
    replace hc_z := rn_callV (M' := am_m29) (o := 44) (ar := [.int 1]) (rest := []) (L := lv_args 0 [.ref 44, .int 1]) (am_cur_of (i := (169, 3, .invokevirtual 108, (29, 769, 3), 0)) (by decide +kernel)) rfl rfl rfl rfl hc_z
    obtain ⟨r3709_z, h3710_z, q3711_z, hc_z⟩ := hc_z
    obtain ⟨rfl, yq3711_z⟩ := rp_fail R4 q3711_z
    subst yq3711_z
    replace hc_z : rn _ _ _ _ [] _ _ _ := hc_z
    have K := rs_stick (w := 1) (q := p) (a := 51) (by decide) (by decide) rfl (by decide) rfl (show rg_v (am_up (am_up h 44 1 (.int 1)) 44 2 (.int (rg_v h 44 9))) 44 2 = p from R5) hc_z
    replace hm_z := rn_aload_n (am_cur_of (i := (0, 1, .aload_n 0, (0, 0, 0), 0)) (by decide +kernel)) g0m hm_z
    replace hm_z := rn_bipush (w := 40) (am_cur_of (i := (1, 2, .bipush 40, (0, 0, 0), 0)) (by decide +kernel)) (by decide) hm_z
    replace hm_z := rn_callV (M' := am_m171) (o := 164) (ar := [.int 40]) (rest := []) (L := lv_args 0 [.ref 164, .int 40]) (am_cur_of (i := (3, 3, .invokevirtual 194, (171, 1715, 3), 0)) (by decide +kernel)) rfl rfl rfl rfl hm_z
    obtain ⟨r3712_z, h3713_z, q3714_z, hm_z⟩ := hm_z
    obtain ⟨rfl, yq3714_z⟩ := rp_sgN (fun q => absurd (Eq.trans (Eq.symm kc) q.1) (by decide)) q3714_z
    subst yq3714_z
    replace hm_z : rn _ _ _ _ [.int 0] _ _ _ := hm_z
    replace hm_z := rn_ifT (am_cur_of (i := (6, 3, .ifCond .eq 44, (28, 0, 0), 0)) (by decide +kernel)) (by decide) hm_z
    replace hm_z := rn_aload_n (am_cur_of (i := (50, 1, .aload_n 0, (0, 0, 0), 0)) (by decide +kernel)) g0m hm_z
    replace hm_z := rn_bipush (w := 14) (am_cur_of (i := (51, 2, .bipush 14, (0, 0, 0), 0)) (by decide +kernel)) (by decide) hm_z
    replace hm_z := rn_callV (M' := am_m174) (o := 164) (ar := [.int 14]) (rest := []) (L := lv_args 0 [.ref 164, .int 14]) (am_cur_of (i := (53, 3, .invokevirtual 306, (174, 1727, 3), 0)) (by decide +kernel)) rfl rfl rfl rfl hm_z
    obtain ⟨r3715_z, h3716_z, q3717_z, hm_z⟩ := hm_z
    obtain ⟨rfl, yq3717_z⟩ := rp_kyN (fun q => absurd (Eq.trans (Eq.symm kc) q.1) (by decide)) q3717_z
    subst yq3717_z
    replace hm_z : rn _ _ _ _ [.int 0] _ _ _ := hm_z
    replace hm_z := rn_ifT (am_cur_of (i := (56, 3, .ifCond .eq 30, (47, 0, 0), 0)) (by decide +kernel)) (by decide) hm_z
    replace hm_z := rn_aload_n (am_cur_of (i := (86, 1, .aload_n 0, (0, 0, 0), 0)) (by decide +kernel)) g0m hm_z
    replace hm_z := rn_callV (M' := am_m176) (o := 164) (ar := []) (rest := []) (L := lv_args 0 [.ref 164]) (am_cur_of (i := (87, 3, .invokevirtual 312, (176, 1735, 3), 0)) (by decide +kernel)) rfl rfl rfl rfl hm_z
    obtain ⟨r3718_z, h3719_z, q3720_z, hm_z⟩ := hm_z
    obtain ⟨rfl, yq3720_z⟩ := rp_nm (c := 5) (d := 1) kc kd q3720_z
    replace yq3720_z := yq3720_z.symm
    subst yq3720_z
    rw [show rp_nmf 5 1 = (-1) from by unfold rp_nmf; rw [if_neg (by decide)]] at hm_z
    replace hm_z : rn _ _ _ _ [.int (-1)] _ _ _ := hm_z
    replace hm_z := rn_istore_n (am_cur_of (i := (90, 1, .istore_n 1, (0, 0, 0), 0)) (by decide +kernel)) hm_z
    obtain ⟨_, s3721_z, s3722_z, g1m, hm_z⟩ := hm_z
    replace g0m := s3721_z 0 _ (by decide) rfl g0m
    clear s3721_z s3722_z
    replace hm_z := rn_iload_n (am_cur_of (i := (91, 1, .iload_n 1, (0, 0, 0), 0)) (by decide +kernel)) g1m hm_z
    replace hm_z := rn_ifF (am_cur_of (i := (92, 3, .ifCond .ge 17, (60, 0, 0), 0)) (by decide +kernel)) (by decide) hm_z
    replace hm_z := rn_aload_n (am_cur_of (i := (95, 1, .aload_n 0, (0, 0, 0), 0)) (by decide +kernel)) g0m hm_z
    replace hm_z := rn_getI (v := 5) (am_cur_of (i := (96, 3, .getfield 157, (12, 8, 1392), 0)) (by decide +kernel)) (by decide +kernel) kc hm_z
    replace hm_z := rn_iconst (w := 3) (am_cur_of (i := (99, 1, .iconst 3, (0, 0, 0), 0)) (by decide +kernel)) (by decide) hm_z
    replace hm_z := rn_cmpF (am_cur_of (i := (100, 3, .if_icmp .eq 9, (60, 0, 0), 0)) (by decide +kernel)) (by decide) hm_z
    replace hm_z := rn_aload_n (am_cur_of (i := (103, 1, .aload_n 0, (0, 0, 0), 0)) (by decide +kernel)) g0m hm_z
    replace hm_z := rn_iconst (w := 1) (am_cur_of (i := (104, 1, .iconst 1, (0, 0, 0), 0)) (by decide +kernel)) (by decide) hm_z
    replace hm_z := rn_callV (M' := am_m158) (o := 164) (ar := [.int 1]) (rest := []) (L := lv_args 0 [.ref 164, .int 1]) (am_cur_of (i := (105, 3, .invokevirtual 181, (158, 1665, 3), 0)) (by decide +kernel)) rfl rfl rfl rfl hm_z
    obtain ⟨r3723_z, h3724_z, q3725_z, hm_z⟩ := hm_z
    obtain ⟨rfl, yq3725_z⟩ := rp_wrong q3725_z
    subst yq3725_z
    replace hm_z : rn _ _ _ _ [.int 0] _ _ _ := hm_z
    replace hm_z := rn_iret (am_cur_of (i := (108, 1, .ireturn, (0, 0, 0), 0)) (by decide +kernel)) hm_z
    obtain ⟨e3726_z, e3727_z⟩ := hm_z
    subst e3726_z e3727_z
    exact (Or.inr ⟨rfl, 1, by decide, K.1, K.2, rfl, R6⟩)
  · have g0_z : am_get (lv_args 0 [.ref 44, .int 1]) 0 = some (.ref 44) := rfl
    have g1_z : am_get (lv_args 0 [.ref 44, .int 1]) 1 = some (.int 1) := rfl
    have g0m : am_get (lv_args 0 [.ref 164]) 0 = some (.ref 164) := rfl
    have Rk := R
    have Zk := Z
    obtain ⟨⟨c1_z, c2_z, c3_z, c4_z, c5_z, c6_z, c7_z, c8_z⟩, ⟨m2_z, m3_z, m4_z, m5_z, m6_z, m7_z, m8_z⟩, R3, R4, R5, R6, R7, R8, R9, R10⟩ := (R : rq T S x p 23 h g)
    obtain ⟨np, op, z1_z, z2_z, z3_z, z4_z, z5_z, z6_z, z7_z, z8_z, z9_z, z10_z⟩ := (Z : rs 23 h g)
    obtain ⟨nk1_z, nk2_z, nk3_z⟩ := A.2.2.2.2.2.1
    replace nk1_z : rg_v h 32 0 = rg_v g 164 44 := nk1_z
    replace nk2_z : 0 ≤ (rg_v h 32 0).toInt := nk2_z
    replace nk3_z : (rg_v h 32 0).toInt ≤ 64 := nk3_z
    replace z8_z : np.toInt ≤ (rg_v h 32 0).toInt + op.toInt := z8_z
    obtain ⟨kn, ekn⟩ : ∃ v, rg_v h 32 0 = v := ⟨_, rfl⟩
    rw [ekn] at nk1_z nk2_z nk3_z z8_z
    have e9_z := rt_c1 (x := kn) (by omega) (by omega)
    replace hc_z := rn_aload_n (am_cur_of (i := (0, 1, .aload_n 0, (0, 0, 0), 0)) (by decide +kernel)) g0_z hc_z
    replace hc_z := rn_getI (v := 6) (am_cur_of (i := (1, 3, .getfield 60, (4, 10, 419), 0)) (by decide +kernel)) (by decide +kernel) ka hc_z
    replace hc_z := rn_bipush (w := 6) (am_cur_of (i := (4, 2, .bipush 6, (0, 0, 0), 0)) (by decide +kernel)) (by decide) hc_z
    replace hc_z := rn_cmpF (am_cur_of (i := (6, 3, .if_icmp .ne 30, (19, 0, 0), 0)) (by decide +kernel)) (by decide) hc_z
    replace hc_z := rn_aload_n (am_cur_of (i := (9, 1, .aload_n 0, (0, 0, 0), 0)) (by decide +kernel)) g0_z hc_z
    replace hc_z := rn_getI (v := 8) (am_cur_of (i := (10, 3, .getfield 91, (4, 11, 420), 0)) (by decide +kernel)) (by decide +kernel) kb hc_z
    replace hc_z := rn_iconst (w := 5) (am_cur_of (i := (13, 1, .iconst 5, (0, 0, 0), 0)) (by decide +kernel)) (by decide) hc_z
    replace hc_z := rn_cmpT (am_cur_of (i := (14, 3, .if_icmp .ne 22, (19, 0, 0), 0)) (by decide +kernel)) (by decide) hc_z
    replace hc_z := rn_aload_n (am_cur_of (i := (36, 1, .aload_n 0, (0, 0, 0), 0)) (by decide +kernel)) g0_z hc_z
    replace hc_z := rn_bipush (w := 40) (am_cur_of (i := (37, 2, .bipush 40, (0, 0, 0), 0)) (by decide +kernel)) (by decide) hc_z
    replace hc_z := rn_callV (M' := am_m45) (o := 44) (ar := [.int 40]) (rest := []) (L := lv_args 0 [.ref 44, .int 40]) (am_cur_of (i := (39, 3, .invokevirtual 105, (45, 834, 3), 0)) (by decide +kernel)) rfl rfl rfl rfl hc_z
    obtain ⟨r3728_z, h3729_z, q3730_z, hc_z⟩ := hc_z
    obtain ⟨rfl, yq3730_z⟩ := rp_mkN (fun q => absurd (Eq.trans (Eq.symm ka) q.1) (by decide)) q3730_z
    subst yq3730_z
    replace hc_z : rn _ _ _ _ [.int 0] _ _ _ := hc_z
    replace hc_z := rn_ifT (am_cur_of (i := (42, 3, .ifCond .eq 38, (43, 0, 0), 0)) (by decide +kernel)) (by decide) hc_z
    replace hc_z := rn_aload_n (am_cur_of (i := (80, 1, .aload_n 0, (0, 0, 0), 0)) (by decide +kernel)) g0_z hc_z
    replace hc_z := rn_getI (v := 6) (am_cur_of (i := (81, 3, .getfield 60, (4, 10, 419), 0)) (by decide +kernel)) (by decide +kernel) ka hc_z
    replace hc_z := rn_iconst (w := 4) (am_cur_of (i := (84, 1, .iconst 4, (0, 0, 0), 0)) (by decide +kernel)) (by decide) hc_z
    replace hc_z := rn_cmpT (am_cur_of (i := (85, 3, .if_icmp .ne 40, (64, 0, 0), 0)) (by decide +kernel)) (by decide) hc_z
    replace hc_z := rn_aload_n (am_cur_of (i := (125, 1, .aload_n 0, (0, 0, 0), 0)) (by decide +kernel)) g0_z hc_z
    replace hc_z := rn_getI (v := 6) (am_cur_of (i := (126, 3, .getfield 60, (4, 10, 419), 0)) (by decide +kernel)) (by decide +kernel) ka hc_z
    replace hc_z := rn_iconst (w := 2) (am_cur_of (i := (129, 1, .iconst 2, (0, 0, 0), 0)) (by decide +kernel)) (by decide) hc_z
    replace hc_z := rn_cmpT (am_cur_of (i := (130, 3, .if_icmp .ne 37, (84, 0, 0), 0)) (by decide +kernel)) (by decide) hc_z
    replace hc_z := rn_aload_n (am_cur_of (i := (167, 1, .aload_n 0, (0, 0, 0), 0)) (by decide +kernel)) g0_z hc_z
    replace hc_z := rn_iconst (w := 1) (am_cur_of (i := (168, 1, .iconst 1, (0, 0, 0), 0)) (by decide +kernel)) (by decide) hc_z
    replace hc_z := rn_callV (M' := am_m29) (o := 44) (ar := [.int 1]) (rest := []) (L := lv_args 0 [.ref 44, .int 1]) (am_cur_of (i := (169, 3, .invokevirtual 108, (29, 769, 3), 0)) (by decide +kernel)) rfl rfl rfl rfl hc_z
    obtain ⟨r3731_z, h3732_z, q3733_z, hc_z⟩ := hc_z
    obtain ⟨rfl, yq3733_z⟩ := rp_fail R4 q3733_z
    subst yq3733_z
    replace hc_z : rn _ _ _ _ [] _ _ _ := hc_z
    have K := rs_stick (w := 1) (q := p) (a := 51) (by decide) (by decide) rfl (by decide) rfl (show rg_v (am_up (am_up h 44 1 (.int 1)) 44 2 (.int (rg_v h 44 9))) 44 2 = p from R5) hc_z
    replace hm_z := rn_aload_n (am_cur_of (i := (0, 1, .aload_n 0, (0, 0, 0), 0)) (by decide +kernel)) g0m hm_z
    replace hm_z := rn_bipush (w := 40) (am_cur_of (i := (1, 2, .bipush 40, (0, 0, 0), 0)) (by decide +kernel)) (by decide) hm_z
    replace hm_z := rn_callV (M' := am_m171) (o := 164) (ar := [.int 40]) (rest := []) (L := lv_args 0 [.ref 164, .int 40]) (am_cur_of (i := (3, 3, .invokevirtual 194, (171, 1715, 3), 0)) (by decide +kernel)) rfl rfl rfl rfl hm_z
    obtain ⟨r3734_z, h3735_z, q3736_z, hm_z⟩ := hm_z
    obtain ⟨rfl, yq3736_z⟩ := rp_sgN (fun q => absurd (Eq.trans (Eq.symm kc) q.1) (by decide)) q3736_z
    subst yq3736_z
    replace hm_z : rn _ _ _ _ [.int 0] _ _ _ := hm_z
    replace hm_z := rn_ifT (am_cur_of (i := (6, 3, .ifCond .eq 44, (28, 0, 0), 0)) (by decide +kernel)) (by decide) hm_z
    replace hm_z := rn_aload_n (am_cur_of (i := (50, 1, .aload_n 0, (0, 0, 0), 0)) (by decide +kernel)) g0m hm_z
    replace hm_z := rn_bipush (w := 14) (am_cur_of (i := (51, 2, .bipush 14, (0, 0, 0), 0)) (by decide +kernel)) (by decide) hm_z
    replace hm_z := rn_callV (M' := am_m174) (o := 164) (ar := [.int 14]) (rest := []) (L := lv_args 0 [.ref 164, .int 14]) (am_cur_of (i := (53, 3, .invokevirtual 306, (174, 1727, 3), 0)) (by decide +kernel)) rfl rfl rfl rfl hm_z
    obtain ⟨r3737_z, h3738_z, q3739_z, hm_z⟩ := hm_z
    obtain ⟨rfl, yq3739_z⟩ := rp_kyN (fun q => absurd (Eq.trans (Eq.symm kc) q.1) (by decide)) q3739_z
    subst yq3739_z
    replace hm_z : rn _ _ _ _ [.int 0] _ _ _ := hm_z
    replace hm_z := rn_ifT (am_cur_of (i := (56, 3, .ifCond .eq 30, (47, 0, 0), 0)) (by decide +kernel)) (by decide) hm_z
    replace hm_z := rn_aload_n (am_cur_of (i := (86, 1, .aload_n 0, (0, 0, 0), 0)) (by decide +kernel)) g0m hm_z
    replace hm_z := rn_callV (M' := am_m176) (o := 164) (ar := []) (rest := []) (L := lv_args 0 [.ref 164]) (am_cur_of (i := (87, 3, .invokevirtual 312, (176, 1735, 3), 0)) (by decide +kernel)) rfl rfl rfl rfl hm_z
    obtain ⟨r3740_z, h3741_z, q3742_z, hm_z⟩ := hm_z
    obtain ⟨rfl, yq3742_z⟩ := rp_nm (c := 5) (d := 2) kc kd q3742_z
    replace yq3742_z := yq3742_z.symm
    subst yq3742_z
    rw [show rp_nmf 5 2 = (-1) from by unfold rp_nmf; rw [if_neg (by decide)]] at hm_z
    replace hm_z : rn _ _ _ _ [.int (-1)] _ _ _ := hm_z
    replace hm_z := rn_istore_n (am_cur_of (i := (90, 1, .istore_n 1, (0, 0, 0), 0)) (by decide +kernel)) hm_z
    obtain ⟨_, s3743_z, s3744_z, g1m, hm_z⟩ := hm_z
    replace g0m := s3743_z 0 _ (by decide) rfl g0m
    clear s3743_z s3744_z
    replace hm_z := rn_iload_n (am_cur_of (i := (91, 1, .iload_n 1, (0, 0, 0), 0)) (by decide +kernel)) g1m hm_z
    replace hm_z := rn_ifF (am_cur_of (i := (92, 3, .ifCond .ge 17, (60, 0, 0), 0)) (by decide +kernel)) (by decide) hm_z
    replace hm_z := rn_aload_n (am_cur_of (i := (95, 1, .aload_n 0, (0, 0, 0), 0)) (by decide +kernel)) g0m hm_z
    replace hm_z := rn_getI (v := 5) (am_cur_of (i := (96, 3, .getfield 157, (12, 8, 1392), 0)) (by decide +kernel)) (by decide +kernel) kc hm_z
    replace hm_z := rn_iconst (w := 3) (am_cur_of (i := (99, 1, .iconst 3, (0, 0, 0), 0)) (by decide +kernel)) (by decide) hm_z
    replace hm_z := rn_cmpF (am_cur_of (i := (100, 3, .if_icmp .eq 9, (60, 0, 0), 0)) (by decide +kernel)) (by decide) hm_z
    replace hm_z := rn_aload_n (am_cur_of (i := (103, 1, .aload_n 0, (0, 0, 0), 0)) (by decide +kernel)) g0m hm_z
    replace hm_z := rn_iconst (w := 1) (am_cur_of (i := (104, 1, .iconst 1, (0, 0, 0), 0)) (by decide +kernel)) (by decide) hm_z
    replace hm_z := rn_callV (M' := am_m158) (o := 164) (ar := [.int 1]) (rest := []) (L := lv_args 0 [.ref 164, .int 1]) (am_cur_of (i := (105, 3, .invokevirtual 181, (158, 1665, 3), 0)) (by decide +kernel)) rfl rfl rfl rfl hm_z
    obtain ⟨r3745_z, h3746_z, q3747_z, hm_z⟩ := hm_z
    obtain ⟨rfl, yq3747_z⟩ := rp_wrong q3747_z
    subst yq3747_z
    replace hm_z : rn _ _ _ _ [.int 0] _ _ _ := hm_z
    replace hm_z := rn_iret (am_cur_of (i := (108, 1, .ireturn, (0, 0, 0), 0)) (by decide +kernel)) hm_z
    obtain ⟨e3748_z, e3749_z⟩ := hm_z
    subst e3748_z e3749_z
    exact (Or.inr ⟨rfl, 1, by decide, K.1, K.2, rfl, R6⟩)
  · have g0_z : am_get (lv_args 0 [.ref 44, .int 1]) 0 = some (.ref 44) := rfl
    have g1_z : am_get (lv_args 0 [.ref 44, .int 1]) 1 = some (.int 1) := rfl
    have g0m : am_get (lv_args 0 [.ref 164]) 0 = some (.ref 164) := rfl
    have Rk := R
    have Zk := Z
    obtain ⟨⟨c1_z, c2_z, c3_z, c4_z, c5_z, c6_z, c7_z, c8_z⟩, ⟨m2_z, m3_z, m4_z, m5_z, m6_z, m7_z, m8_z⟩, R3, R4, R5, R6, R7, R8, R9, R10⟩ := (R : rq T S x p 23 h g)
    obtain ⟨np, op, z1_z, z2_z, z3_z, z4_z, z5_z, z6_z, z7_z, z8_z, z9_z, z10_z⟩ := (Z : rs 23 h g)
    obtain ⟨nk1_z, nk2_z, nk3_z⟩ := A.2.2.2.2.2.1
    replace nk1_z : rg_v h 32 0 = rg_v g 164 44 := nk1_z
    replace nk2_z : 0 ≤ (rg_v h 32 0).toInt := nk2_z
    replace nk3_z : (rg_v h 32 0).toInt ≤ 64 := nk3_z
    replace z8_z : np.toInt ≤ (rg_v h 32 0).toInt + op.toInt := z8_z
    obtain ⟨kn, ekn⟩ : ∃ v, rg_v h 32 0 = v := ⟨_, rfl⟩
    rw [ekn] at nk1_z nk2_z nk3_z z8_z
    have e9_z := rt_c1 (x := kn) (by omega) (by omega)
    replace hc_z := rn_aload_n (am_cur_of (i := (0, 1, .aload_n 0, (0, 0, 0), 0)) (by decide +kernel)) g0_z hc_z
    replace hc_z := rn_getI (v := 6) (am_cur_of (i := (1, 3, .getfield 60, (4, 10, 419), 0)) (by decide +kernel)) (by decide +kernel) ka hc_z
    replace hc_z := rn_bipush (w := 6) (am_cur_of (i := (4, 2, .bipush 6, (0, 0, 0), 0)) (by decide +kernel)) (by decide) hc_z
    replace hc_z := rn_cmpF (am_cur_of (i := (6, 3, .if_icmp .ne 30, (19, 0, 0), 0)) (by decide +kernel)) (by decide) hc_z
    replace hc_z := rn_aload_n (am_cur_of (i := (9, 1, .aload_n 0, (0, 0, 0), 0)) (by decide +kernel)) g0_z hc_z
    replace hc_z := rn_getI (v := 9) (am_cur_of (i := (10, 3, .getfield 91, (4, 11, 420), 0)) (by decide +kernel)) (by decide +kernel) kb hc_z
    replace hc_z := rn_iconst (w := 5) (am_cur_of (i := (13, 1, .iconst 5, (0, 0, 0), 0)) (by decide +kernel)) (by decide) hc_z
    replace hc_z := rn_cmpT (am_cur_of (i := (14, 3, .if_icmp .ne 22, (19, 0, 0), 0)) (by decide +kernel)) (by decide) hc_z
    replace hc_z := rn_aload_n (am_cur_of (i := (36, 1, .aload_n 0, (0, 0, 0), 0)) (by decide +kernel)) g0_z hc_z
    replace hc_z := rn_bipush (w := 40) (am_cur_of (i := (37, 2, .bipush 40, (0, 0, 0), 0)) (by decide +kernel)) (by decide) hc_z
    replace hc_z := rn_callV (M' := am_m45) (o := 44) (ar := [.int 40]) (rest := []) (L := lv_args 0 [.ref 44, .int 40]) (am_cur_of (i := (39, 3, .invokevirtual 105, (45, 834, 3), 0)) (by decide +kernel)) rfl rfl rfl rfl hc_z
    obtain ⟨r3750_z, h3751_z, q3752_z, hc_z⟩ := hc_z
    obtain ⟨rfl, yq3752_z⟩ := rp_mkN (fun q => absurd (Eq.trans (Eq.symm ka) q.1) (by decide)) q3752_z
    subst yq3752_z
    replace hc_z : rn _ _ _ _ [.int 0] _ _ _ := hc_z
    replace hc_z := rn_ifT (am_cur_of (i := (42, 3, .ifCond .eq 38, (43, 0, 0), 0)) (by decide +kernel)) (by decide) hc_z
    replace hc_z := rn_aload_n (am_cur_of (i := (80, 1, .aload_n 0, (0, 0, 0), 0)) (by decide +kernel)) g0_z hc_z
    replace hc_z := rn_getI (v := 6) (am_cur_of (i := (81, 3, .getfield 60, (4, 10, 419), 0)) (by decide +kernel)) (by decide +kernel) ka hc_z
    replace hc_z := rn_iconst (w := 4) (am_cur_of (i := (84, 1, .iconst 4, (0, 0, 0), 0)) (by decide +kernel)) (by decide) hc_z
    replace hc_z := rn_cmpT (am_cur_of (i := (85, 3, .if_icmp .ne 40, (64, 0, 0), 0)) (by decide +kernel)) (by decide) hc_z
    replace hc_z := rn_aload_n (am_cur_of (i := (125, 1, .aload_n 0, (0, 0, 0), 0)) (by decide +kernel)) g0_z hc_z
    replace hc_z := rn_getI (v := 6) (am_cur_of (i := (126, 3, .getfield 60, (4, 10, 419), 0)) (by decide +kernel)) (by decide +kernel) ka hc_z
    replace hc_z := rn_iconst (w := 2) (am_cur_of (i := (129, 1, .iconst 2, (0, 0, 0), 0)) (by decide +kernel)) (by decide) hc_z
    replace hc_z := rn_cmpT (am_cur_of (i := (130, 3, .if_icmp .ne 37, (84, 0, 0), 0)) (by decide +kernel)) (by decide) hc_z
    replace hc_z := rn_aload_n (am_cur_of (i := (167, 1, .aload_n 0, (0, 0, 0), 0)) (by decide +kernel)) g0_z hc_z
    replace hc_z := rn_iconst (w := 1) (am_cur_of (i := (168, 1, .iconst 1, (0, 0, 0), 0)) (by decide +kernel)) (by decide) hc_z
    replace hc_z := rn_callV (M' := am_m29) (o := 44) (ar := [.int 1]) (rest := []) (L := lv_args 0 [.ref 44, .int 1]) (am_cur_of (i := (169, 3, .invokevirtual 108, (29, 769, 3), 0)) (by decide +kernel)) rfl rfl rfl rfl hc_z
    obtain ⟨r3753_z, h3754_z, q3755_z, hc_z⟩ := hc_z
    obtain ⟨rfl, yq3755_z⟩ := rp_fail R4 q3755_z
    subst yq3755_z
    replace hc_z : rn _ _ _ _ [] _ _ _ := hc_z
    have K := rs_stick (w := 1) (q := p) (a := 51) (by decide) (by decide) rfl (by decide) rfl (show rg_v (am_up (am_up h 44 1 (.int 1)) 44 2 (.int (rg_v h 44 9))) 44 2 = p from R5) hc_z
    replace hm_z := rn_aload_n (am_cur_of (i := (0, 1, .aload_n 0, (0, 0, 0), 0)) (by decide +kernel)) g0m hm_z
    replace hm_z := rn_bipush (w := 40) (am_cur_of (i := (1, 2, .bipush 40, (0, 0, 0), 0)) (by decide +kernel)) (by decide) hm_z
    replace hm_z := rn_callV (M' := am_m171) (o := 164) (ar := [.int 40]) (rest := []) (L := lv_args 0 [.ref 164, .int 40]) (am_cur_of (i := (3, 3, .invokevirtual 194, (171, 1715, 3), 0)) (by decide +kernel)) rfl rfl rfl rfl hm_z
    obtain ⟨r3756_z, h3757_z, q3758_z, hm_z⟩ := hm_z
    obtain ⟨rfl, yq3758_z⟩ := rp_sgN (fun q => absurd (Eq.trans (Eq.symm kc) q.1) (by decide)) q3758_z
    subst yq3758_z
    replace hm_z : rn _ _ _ _ [.int 0] _ _ _ := hm_z
    replace hm_z := rn_ifT (am_cur_of (i := (6, 3, .ifCond .eq 44, (28, 0, 0), 0)) (by decide +kernel)) (by decide) hm_z
    replace hm_z := rn_aload_n (am_cur_of (i := (50, 1, .aload_n 0, (0, 0, 0), 0)) (by decide +kernel)) g0m hm_z
    replace hm_z := rn_bipush (w := 14) (am_cur_of (i := (51, 2, .bipush 14, (0, 0, 0), 0)) (by decide +kernel)) (by decide) hm_z
    replace hm_z := rn_callV (M' := am_m174) (o := 164) (ar := [.int 14]) (rest := []) (L := lv_args 0 [.ref 164, .int 14]) (am_cur_of (i := (53, 3, .invokevirtual 306, (174, 1727, 3), 0)) (by decide +kernel)) rfl rfl rfl rfl hm_z
    obtain ⟨r3759_z, h3760_z, q3761_z, hm_z⟩ := hm_z
    obtain ⟨rfl, yq3761_z⟩ := rp_kyN (fun q => absurd (Eq.trans (Eq.symm kc) q.1) (by decide)) q3761_z
    subst yq3761_z
    replace hm_z : rn _ _ _ _ [.int 0] _ _ _ := hm_z
    replace hm_z := rn_ifT (am_cur_of (i := (56, 3, .ifCond .eq 30, (47, 0, 0), 0)) (by decide +kernel)) (by decide) hm_z
    replace hm_z := rn_aload_n (am_cur_of (i := (86, 1, .aload_n 0, (0, 0, 0), 0)) (by decide +kernel)) g0m hm_z
    replace hm_z := rn_callV (M' := am_m176) (o := 164) (ar := []) (rest := []) (L := lv_args 0 [.ref 164]) (am_cur_of (i := (87, 3, .invokevirtual 312, (176, 1735, 3), 0)) (by decide +kernel)) rfl rfl rfl rfl hm_z
    obtain ⟨r3762_z, h3763_z, q3764_z, hm_z⟩ := hm_z
    obtain ⟨rfl, yq3764_z⟩ := rp_nm (c := 5) (d := 3) kc kd q3764_z
    replace yq3764_z := yq3764_z.symm
    subst yq3764_z
    rw [show rp_nmf 5 3 = (-1) from by unfold rp_nmf; rw [if_neg (by decide)]] at hm_z
    replace hm_z : rn _ _ _ _ [.int (-1)] _ _ _ := hm_z
    replace hm_z := rn_istore_n (am_cur_of (i := (90, 1, .istore_n 1, (0, 0, 0), 0)) (by decide +kernel)) hm_z
    obtain ⟨_, s3765_z, s3766_z, g1m, hm_z⟩ := hm_z
    replace g0m := s3765_z 0 _ (by decide) rfl g0m
    clear s3765_z s3766_z
    replace hm_z := rn_iload_n (am_cur_of (i := (91, 1, .iload_n 1, (0, 0, 0), 0)) (by decide +kernel)) g1m hm_z
    replace hm_z := rn_ifF (am_cur_of (i := (92, 3, .ifCond .ge 17, (60, 0, 0), 0)) (by decide +kernel)) (by decide) hm_z
    replace hm_z := rn_aload_n (am_cur_of (i := (95, 1, .aload_n 0, (0, 0, 0), 0)) (by decide +kernel)) g0m hm_z
    replace hm_z := rn_getI (v := 5) (am_cur_of (i := (96, 3, .getfield 157, (12, 8, 1392), 0)) (by decide +kernel)) (by decide +kernel) kc hm_z
    replace hm_z := rn_iconst (w := 3) (am_cur_of (i := (99, 1, .iconst 3, (0, 0, 0), 0)) (by decide +kernel)) (by decide) hm_z
    replace hm_z := rn_cmpF (am_cur_of (i := (100, 3, .if_icmp .eq 9, (60, 0, 0), 0)) (by decide +kernel)) (by decide) hm_z
    replace hm_z := rn_aload_n (am_cur_of (i := (103, 1, .aload_n 0, (0, 0, 0), 0)) (by decide +kernel)) g0m hm_z
    replace hm_z := rn_iconst (w := 1) (am_cur_of (i := (104, 1, .iconst 1, (0, 0, 0), 0)) (by decide +kernel)) (by decide) hm_z
    replace hm_z := rn_callV (M' := am_m158) (o := 164) (ar := [.int 1]) (rest := []) (L := lv_args 0 [.ref 164, .int 1]) (am_cur_of (i := (105, 3, .invokevirtual 181, (158, 1665, 3), 0)) (by decide +kernel)) rfl rfl rfl rfl hm_z
    obtain ⟨r3767_z, h3768_z, q3769_z, hm_z⟩ := hm_z
    obtain ⟨rfl, yq3769_z⟩ := rp_wrong q3769_z
    subst yq3769_z
    replace hm_z : rn _ _ _ _ [.int 0] _ _ _ := hm_z
    replace hm_z := rn_iret (am_cur_of (i := (108, 1, .ireturn, (0, 0, 0), 0)) (by decide +kernel)) hm_z
    obtain ⟨e3770_z, e3771_z⟩ := hm_z
    subst e3770_z e3771_z
    exact (Or.inr ⟨rfl, 1, by decide, K.1, K.2, rfl, R6⟩)
  · have g0_z : am_get (lv_args 0 [.ref 44, .int 1]) 0 = some (.ref 44) := rfl
    have g1_z : am_get (lv_args 0 [.ref 44, .int 1]) 1 = some (.int 1) := rfl
    have g0m : am_get (lv_args 0 [.ref 164]) 0 = some (.ref 164) := rfl
    have Rk := R
    have Zk := Z
    obtain ⟨⟨c1_z, c2_z, c3_z, c4_z, c5_z, c6_z, c7_z, c8_z⟩, ⟨m2_z, m3_z, m4_z, m5_z, m6_z, m7_z, m8_z⟩, R3, R4, R5, R6, R7, R8, R9, R10⟩ := (R : rq T S x p 23 h g)
    obtain ⟨np, op, z1_z, z2_z, z3_z, z4_z, z5_z, z6_z, z7_z, z8_z, z9_z, z10_z⟩ := (Z : rs 23 h g)
    obtain ⟨nk1_z, nk2_z, nk3_z⟩ := A.2.2.2.2.2.1
    replace nk1_z : rg_v h 32 0 = rg_v g 164 44 := nk1_z
    replace nk2_z : 0 ≤ (rg_v h 32 0).toInt := nk2_z
    replace nk3_z : (rg_v h 32 0).toInt ≤ 64 := nk3_z
    replace z8_z : np.toInt ≤ (rg_v h 32 0).toInt + op.toInt := z8_z
    obtain ⟨kn, ekn⟩ : ∃ v, rg_v h 32 0 = v := ⟨_, rfl⟩
    rw [ekn] at nk1_z nk2_z nk3_z z8_z
    have e9_z := rt_c1 (x := kn) (by omega) (by omega)
    replace hc_z := rn_aload_n (am_cur_of (i := (0, 1, .aload_n 0, (0, 0, 0), 0)) (by decide +kernel)) g0_z hc_z
    replace hc_z := rn_getI (v := 6) (am_cur_of (i := (1, 3, .getfield 60, (4, 10, 419), 0)) (by decide +kernel)) (by decide +kernel) ka hc_z
    replace hc_z := rn_bipush (w := 6) (am_cur_of (i := (4, 2, .bipush 6, (0, 0, 0), 0)) (by decide +kernel)) (by decide) hc_z
    replace hc_z := rn_cmpF (am_cur_of (i := (6, 3, .if_icmp .ne 30, (19, 0, 0), 0)) (by decide +kernel)) (by decide) hc_z
    replace hc_z := rn_aload_n (am_cur_of (i := (9, 1, .aload_n 0, (0, 0, 0), 0)) (by decide +kernel)) g0_z hc_z
    replace hc_z := rn_getI (v := 10) (am_cur_of (i := (10, 3, .getfield 91, (4, 11, 420), 0)) (by decide +kernel)) (by decide +kernel) kb hc_z
    replace hc_z := rn_iconst (w := 5) (am_cur_of (i := (13, 1, .iconst 5, (0, 0, 0), 0)) (by decide +kernel)) (by decide) hc_z
    replace hc_z := rn_cmpT (am_cur_of (i := (14, 3, .if_icmp .ne 22, (19, 0, 0), 0)) (by decide +kernel)) (by decide) hc_z
    replace hc_z := rn_aload_n (am_cur_of (i := (36, 1, .aload_n 0, (0, 0, 0), 0)) (by decide +kernel)) g0_z hc_z
    replace hc_z := rn_bipush (w := 40) (am_cur_of (i := (37, 2, .bipush 40, (0, 0, 0), 0)) (by decide +kernel)) (by decide) hc_z
    replace hc_z := rn_callV (M' := am_m45) (o := 44) (ar := [.int 40]) (rest := []) (L := lv_args 0 [.ref 44, .int 40]) (am_cur_of (i := (39, 3, .invokevirtual 105, (45, 834, 3), 0)) (by decide +kernel)) rfl rfl rfl rfl hc_z
    obtain ⟨r3772_z, h3773_z, q3774_z, hc_z⟩ := hc_z
    obtain ⟨rfl, yq3774_z⟩ := rp_mkN (fun q => absurd (Eq.trans (Eq.symm ka) q.1) (by decide)) q3774_z
    subst yq3774_z
    replace hc_z : rn _ _ _ _ [.int 0] _ _ _ := hc_z
    replace hc_z := rn_ifT (am_cur_of (i := (42, 3, .ifCond .eq 38, (43, 0, 0), 0)) (by decide +kernel)) (by decide) hc_z
    replace hc_z := rn_aload_n (am_cur_of (i := (80, 1, .aload_n 0, (0, 0, 0), 0)) (by decide +kernel)) g0_z hc_z
    replace hc_z := rn_getI (v := 6) (am_cur_of (i := (81, 3, .getfield 60, (4, 10, 419), 0)) (by decide +kernel)) (by decide +kernel) ka hc_z
    replace hc_z := rn_iconst (w := 4) (am_cur_of (i := (84, 1, .iconst 4, (0, 0, 0), 0)) (by decide +kernel)) (by decide) hc_z
    replace hc_z := rn_cmpT (am_cur_of (i := (85, 3, .if_icmp .ne 40, (64, 0, 0), 0)) (by decide +kernel)) (by decide) hc_z
    replace hc_z := rn_aload_n (am_cur_of (i := (125, 1, .aload_n 0, (0, 0, 0), 0)) (by decide +kernel)) g0_z hc_z
    replace hc_z := rn_getI (v := 6) (am_cur_of (i := (126, 3, .getfield 60, (4, 10, 419), 0)) (by decide +kernel)) (by decide +kernel) ka hc_z
    replace hc_z := rn_iconst (w := 2) (am_cur_of (i := (129, 1, .iconst 2, (0, 0, 0), 0)) (by decide +kernel)) (by decide) hc_z
    replace hc_z := rn_cmpT (am_cur_of (i := (130, 3, .if_icmp .ne 37, (84, 0, 0), 0)) (by decide +kernel)) (by decide) hc_z
    replace hc_z := rn_aload_n (am_cur_of (i := (167, 1, .aload_n 0, (0, 0, 0), 0)) (by decide +kernel)) g0_z hc_z
    replace hc_z := rn_iconst (w := 1) (am_cur_of (i := (168, 1, .iconst 1, (0, 0, 0), 0)) (by decide +kernel)) (by decide) hc_z
    replace hc_z := rn_callV (M' := am_m29) (o := 44) (ar := [.int 1]) (rest := []) (L := lv_args 0 [.ref 44, .int 1]) (am_cur_of (i := (169, 3, .invokevirtual 108, (29, 769, 3), 0)) (by decide +kernel)) rfl rfl rfl rfl hc_z
    obtain ⟨r3775_z, h3776_z, q3777_z, hc_z⟩ := hc_z
    obtain ⟨rfl, yq3777_z⟩ := rp_fail R4 q3777_z
    subst yq3777_z
    replace hc_z : rn _ _ _ _ [] _ _ _ := hc_z
    have K := rs_stick (w := 1) (q := p) (a := 51) (by decide) (by decide) rfl (by decide) rfl (show rg_v (am_up (am_up h 44 1 (.int 1)) 44 2 (.int (rg_v h 44 9))) 44 2 = p from R5) hc_z
    replace hm_z := rn_aload_n (am_cur_of (i := (0, 1, .aload_n 0, (0, 0, 0), 0)) (by decide +kernel)) g0m hm_z
    replace hm_z := rn_bipush (w := 40) (am_cur_of (i := (1, 2, .bipush 40, (0, 0, 0), 0)) (by decide +kernel)) (by decide) hm_z
    replace hm_z := rn_callV (M' := am_m171) (o := 164) (ar := [.int 40]) (rest := []) (L := lv_args 0 [.ref 164, .int 40]) (am_cur_of (i := (3, 3, .invokevirtual 194, (171, 1715, 3), 0)) (by decide +kernel)) rfl rfl rfl rfl hm_z
    obtain ⟨r3778_z, h3779_z, q3780_z, hm_z⟩ := hm_z
    obtain ⟨rfl, yq3780_z⟩ := rp_sgN (fun q => absurd (Eq.trans (Eq.symm kc) q.1) (by decide)) q3780_z
    subst yq3780_z
    replace hm_z : rn _ _ _ _ [.int 0] _ _ _ := hm_z
    replace hm_z := rn_ifT (am_cur_of (i := (6, 3, .ifCond .eq 44, (28, 0, 0), 0)) (by decide +kernel)) (by decide) hm_z
    replace hm_z := rn_aload_n (am_cur_of (i := (50, 1, .aload_n 0, (0, 0, 0), 0)) (by decide +kernel)) g0m hm_z
    replace hm_z := rn_bipush (w := 14) (am_cur_of (i := (51, 2, .bipush 14, (0, 0, 0), 0)) (by decide +kernel)) (by decide) hm_z
    replace hm_z := rn_callV (M' := am_m174) (o := 164) (ar := [.int 14]) (rest := []) (L := lv_args 0 [.ref 164, .int 14]) (am_cur_of (i := (53, 3, .invokevirtual 306, (174, 1727, 3), 0)) (by decide +kernel)) rfl rfl rfl rfl hm_z
    obtain ⟨r3781_z, h3782_z, q3783_z, hm_z⟩ := hm_z
    obtain ⟨rfl, yq3783_z⟩ := rp_kyN (fun q => absurd (Eq.trans (Eq.symm kc) q.1) (by decide)) q3783_z
    subst yq3783_z
    replace hm_z : rn _ _ _ _ [.int 0] _ _ _ := hm_z
    replace hm_z := rn_ifT (am_cur_of (i := (56, 3, .ifCond .eq 30, (47, 0, 0), 0)) (by decide +kernel)) (by decide) hm_z
    replace hm_z := rn_aload_n (am_cur_of (i := (86, 1, .aload_n 0, (0, 0, 0), 0)) (by decide +kernel)) g0m hm_z
    replace hm_z := rn_callV (M' := am_m176) (o := 164) (ar := []) (rest := []) (L := lv_args 0 [.ref 164]) (am_cur_of (i := (87, 3, .invokevirtual 312, (176, 1735, 3), 0)) (by decide +kernel)) rfl rfl rfl rfl hm_z
    obtain ⟨r3784_z, h3785_z, q3786_z, hm_z⟩ := hm_z
    obtain ⟨rfl, yq3786_z⟩ := rp_nm (c := 5) (d := 4) kc kd q3786_z
    replace yq3786_z := yq3786_z.symm
    subst yq3786_z
    rw [show rp_nmf 5 4 = (-1) from by unfold rp_nmf; rw [if_neg (by decide)]] at hm_z
    replace hm_z : rn _ _ _ _ [.int (-1)] _ _ _ := hm_z
    replace hm_z := rn_istore_n (am_cur_of (i := (90, 1, .istore_n 1, (0, 0, 0), 0)) (by decide +kernel)) hm_z
    obtain ⟨_, s3787_z, s3788_z, g1m, hm_z⟩ := hm_z
    replace g0m := s3787_z 0 _ (by decide) rfl g0m
    clear s3787_z s3788_z
    replace hm_z := rn_iload_n (am_cur_of (i := (91, 1, .iload_n 1, (0, 0, 0), 0)) (by decide +kernel)) g1m hm_z
    replace hm_z := rn_ifF (am_cur_of (i := (92, 3, .ifCond .ge 17, (60, 0, 0), 0)) (by decide +kernel)) (by decide) hm_z
    replace hm_z := rn_aload_n (am_cur_of (i := (95, 1, .aload_n 0, (0, 0, 0), 0)) (by decide +kernel)) g0m hm_z
    replace hm_z := rn_getI (v := 5) (am_cur_of (i := (96, 3, .getfield 157, (12, 8, 1392), 0)) (by decide +kernel)) (by decide +kernel) kc hm_z
    replace hm_z := rn_iconst (w := 3) (am_cur_of (i := (99, 1, .iconst 3, (0, 0, 0), 0)) (by decide +kernel)) (by decide) hm_z
    replace hm_z := rn_cmpF (am_cur_of (i := (100, 3, .if_icmp .eq 9, (60, 0, 0), 0)) (by decide +kernel)) (by decide) hm_z
    replace hm_z := rn_aload_n (am_cur_of (i := (103, 1, .aload_n 0, (0, 0, 0), 0)) (by decide +kernel)) g0m hm_z
    replace hm_z := rn_iconst (w := 1) (am_cur_of (i := (104, 1, .iconst 1, (0, 0, 0), 0)) (by decide +kernel)) (by decide) hm_z
    replace hm_z := rn_callV (M' := am_m158) (o := 164) (ar := [.int 1]) (rest := []) (L := lv_args 0 [.ref 164, .int 1]) (am_cur_of (i := (105, 3, .invokevirtual 181, (158, 1665, 3), 0)) (by decide +kernel)) rfl rfl rfl rfl hm_z
    obtain ⟨r3789_z, h3790_z, q3791_z, hm_z⟩ := hm_z
    obtain ⟨rfl, yq3791_z⟩ := rp_wrong q3791_z
    subst yq3791_z
    replace hm_z : rn _ _ _ _ [.int 0] _ _ _ := hm_z
    replace hm_z := rn_iret (am_cur_of (i := (108, 1, .ireturn, (0, 0, 0), 0)) (by decide +kernel)) hm_z
    obtain ⟨e3792_z, e3793_z⟩ := hm_z
    subst e3792_z e3793_z
    exact (Or.inr ⟨rfl, 1, by decide, K.1, K.2, rfl, R6⟩)
  · have g0_z : am_get (lv_args 0 [.ref 44, .int 1]) 0 = some (.ref 44) := rfl
    have g1_z : am_get (lv_args 0 [.ref 44, .int 1]) 1 = some (.int 1) := rfl
    have g0m : am_get (lv_args 0 [.ref 164]) 0 = some (.ref 164) := rfl
    have Rk := R
    have Zk := Z
    obtain ⟨⟨c1_z, c2_z, c3_z, c4_z, c5_z, c6_z, c7_z, c8_z⟩, ⟨m2_z, m3_z, m4_z, m5_z, m6_z, m7_z, m8_z⟩, R3, R4, R5, R6, R7, R8, R9, R10⟩ := (R : rq T S x p 23 h g)
    obtain ⟨np, op, z1_z, z2_z, z3_z, z4_z, z5_z, z6_z, z7_z, z8_z, z9_z, z10_z⟩ := (Z : rs 23 h g)
    obtain ⟨nk1_z, nk2_z, nk3_z⟩ := A.2.2.2.2.2.1
    replace nk1_z : rg_v h 32 0 = rg_v g 164 44 := nk1_z
    replace nk2_z : 0 ≤ (rg_v h 32 0).toInt := nk2_z
    replace nk3_z : (rg_v h 32 0).toInt ≤ 64 := nk3_z
    replace z8_z : np.toInt ≤ (rg_v h 32 0).toInt + op.toInt := z8_z
    obtain ⟨kn, ekn⟩ : ∃ v, rg_v h 32 0 = v := ⟨_, rfl⟩
    rw [ekn] at nk1_z nk2_z nk3_z z8_z
    have e9_z := rt_c1 (x := kn) (by omega) (by omega)
    replace hc_z := rn_aload_n (am_cur_of (i := (0, 1, .aload_n 0, (0, 0, 0), 0)) (by decide +kernel)) g0_z hc_z
    replace hc_z := rn_getI (v := 6) (am_cur_of (i := (1, 3, .getfield 60, (4, 10, 419), 0)) (by decide +kernel)) (by decide +kernel) ka hc_z
    replace hc_z := rn_bipush (w := 6) (am_cur_of (i := (4, 2, .bipush 6, (0, 0, 0), 0)) (by decide +kernel)) (by decide) hc_z
    replace hc_z := rn_cmpF (am_cur_of (i := (6, 3, .if_icmp .ne 30, (19, 0, 0), 0)) (by decide +kernel)) (by decide) hc_z
    replace hc_z := rn_aload_n (am_cur_of (i := (9, 1, .aload_n 0, (0, 0, 0), 0)) (by decide +kernel)) g0_z hc_z
    replace hc_z := rn_getI (v := 11) (am_cur_of (i := (10, 3, .getfield 91, (4, 11, 420), 0)) (by decide +kernel)) (by decide +kernel) kb hc_z
    replace hc_z := rn_iconst (w := 5) (am_cur_of (i := (13, 1, .iconst 5, (0, 0, 0), 0)) (by decide +kernel)) (by decide) hc_z
    replace hc_z := rn_cmpT (am_cur_of (i := (14, 3, .if_icmp .ne 22, (19, 0, 0), 0)) (by decide +kernel)) (by decide) hc_z
    replace hc_z := rn_aload_n (am_cur_of (i := (36, 1, .aload_n 0, (0, 0, 0), 0)) (by decide +kernel)) g0_z hc_z
    replace hc_z := rn_bipush (w := 40) (am_cur_of (i := (37, 2, .bipush 40, (0, 0, 0), 0)) (by decide +kernel)) (by decide) hc_z
    replace hc_z := rn_callV (M' := am_m45) (o := 44) (ar := [.int 40]) (rest := []) (L := lv_args 0 [.ref 44, .int 40]) (am_cur_of (i := (39, 3, .invokevirtual 105, (45, 834, 3), 0)) (by decide +kernel)) rfl rfl rfl rfl hc_z
    obtain ⟨r3794_z, h3795_z, q3796_z, hc_z⟩ := hc_z
    obtain ⟨rfl, yq3796_z⟩ := rp_mkN (fun q => absurd (Eq.trans (Eq.symm ka) q.1) (by decide)) q3796_z
    subst yq3796_z
    replace hc_z : rn _ _ _ _ [.int 0] _ _ _ := hc_z
    replace hc_z := rn_ifT (am_cur_of (i := (42, 3, .ifCond .eq 38, (43, 0, 0), 0)) (by decide +kernel)) (by decide) hc_z
    replace hc_z := rn_aload_n (am_cur_of (i := (80, 1, .aload_n 0, (0, 0, 0), 0)) (by decide +kernel)) g0_z hc_z
    replace hc_z := rn_getI (v := 6) (am_cur_of (i := (81, 3, .getfield 60, (4, 10, 419), 0)) (by decide +kernel)) (by decide +kernel) ka hc_z
    replace hc_z := rn_iconst (w := 4) (am_cur_of (i := (84, 1, .iconst 4, (0, 0, 0), 0)) (by decide +kernel)) (by decide) hc_z
    replace hc_z := rn_cmpT (am_cur_of (i := (85, 3, .if_icmp .ne 40, (64, 0, 0), 0)) (by decide +kernel)) (by decide) hc_z
    replace hc_z := rn_aload_n (am_cur_of (i := (125, 1, .aload_n 0, (0, 0, 0), 0)) (by decide +kernel)) g0_z hc_z
    replace hc_z := rn_getI (v := 6) (am_cur_of (i := (126, 3, .getfield 60, (4, 10, 419), 0)) (by decide +kernel)) (by decide +kernel) ka hc_z
    replace hc_z := rn_iconst (w := 2) (am_cur_of (i := (129, 1, .iconst 2, (0, 0, 0), 0)) (by decide +kernel)) (by decide) hc_z
    replace hc_z := rn_cmpT (am_cur_of (i := (130, 3, .if_icmp .ne 37, (84, 0, 0), 0)) (by decide +kernel)) (by decide) hc_z
    replace hc_z := rn_aload_n (am_cur_of (i := (167, 1, .aload_n 0, (0, 0, 0), 0)) (by decide +kernel)) g0_z hc_z
    replace hc_z := rn_iconst (w := 1) (am_cur_of (i := (168, 1, .iconst 1, (0, 0, 0), 0)) (by decide +kernel)) (by decide) hc_z
    replace hc_z := rn_callV (M' := am_m29) (o := 44) (ar := [.int 1]) (rest := []) (L := lv_args 0 [.ref 44, .int 1]) (am_cur_of (i := (169, 3, .invokevirtual 108, (29, 769, 3), 0)) (by decide +kernel)) rfl rfl rfl rfl hc_z
    obtain ⟨r3797_z, h3798_z, q3799_z, hc_z⟩ := hc_z
    obtain ⟨rfl, yq3799_z⟩ := rp_fail R4 q3799_z
    subst yq3799_z
    replace hc_z : rn _ _ _ _ [] _ _ _ := hc_z
    have K := rs_stick (w := 1) (q := p) (a := 51) (by decide) (by decide) rfl (by decide) rfl (show rg_v (am_up (am_up h 44 1 (.int 1)) 44 2 (.int (rg_v h 44 9))) 44 2 = p from R5) hc_z
    replace hm_z := rn_aload_n (am_cur_of (i := (0, 1, .aload_n 0, (0, 0, 0), 0)) (by decide +kernel)) g0m hm_z
    replace hm_z := rn_bipush (w := 40) (am_cur_of (i := (1, 2, .bipush 40, (0, 0, 0), 0)) (by decide +kernel)) (by decide) hm_z
    replace hm_z := rn_callV (M' := am_m171) (o := 164) (ar := [.int 40]) (rest := []) (L := lv_args 0 [.ref 164, .int 40]) (am_cur_of (i := (3, 3, .invokevirtual 194, (171, 1715, 3), 0)) (by decide +kernel)) rfl rfl rfl rfl hm_z
    obtain ⟨r3800_z, h3801_z, q3802_z, hm_z⟩ := hm_z
    obtain ⟨rfl, yq3802_z⟩ := rp_sgN (fun q => absurd (Eq.trans (Eq.symm kc) q.1) (by decide)) q3802_z
    subst yq3802_z
    replace hm_z : rn _ _ _ _ [.int 0] _ _ _ := hm_z
    replace hm_z := rn_ifT (am_cur_of (i := (6, 3, .ifCond .eq 44, (28, 0, 0), 0)) (by decide +kernel)) (by decide) hm_z
    replace hm_z := rn_aload_n (am_cur_of (i := (50, 1, .aload_n 0, (0, 0, 0), 0)) (by decide +kernel)) g0m hm_z
    replace hm_z := rn_bipush (w := 14) (am_cur_of (i := (51, 2, .bipush 14, (0, 0, 0), 0)) (by decide +kernel)) (by decide) hm_z
    replace hm_z := rn_callV (M' := am_m174) (o := 164) (ar := [.int 14]) (rest := []) (L := lv_args 0 [.ref 164, .int 14]) (am_cur_of (i := (53, 3, .invokevirtual 306, (174, 1727, 3), 0)) (by decide +kernel)) rfl rfl rfl rfl hm_z
    obtain ⟨r3803_z, h3804_z, q3805_z, hm_z⟩ := hm_z
    obtain ⟨rfl, yq3805_z⟩ := rp_kyN (fun q => absurd (Eq.trans (Eq.symm kc) q.1) (by decide)) q3805_z
    subst yq3805_z
    replace hm_z : rn _ _ _ _ [.int 0] _ _ _ := hm_z
    replace hm_z := rn_ifT (am_cur_of (i := (56, 3, .ifCond .eq 30, (47, 0, 0), 0)) (by decide +kernel)) (by decide) hm_z
    replace hm_z := rn_aload_n (am_cur_of (i := (86, 1, .aload_n 0, (0, 0, 0), 0)) (by decide +kernel)) g0m hm_z
    replace hm_z := rn_callV (M' := am_m176) (o := 164) (ar := []) (rest := []) (L := lv_args 0 [.ref 164]) (am_cur_of (i := (87, 3, .invokevirtual 312, (176, 1735, 3), 0)) (by decide +kernel)) rfl rfl rfl rfl hm_z
    obtain ⟨r3806_z, h3807_z, q3808_z, hm_z⟩ := hm_z
    obtain ⟨rfl, yq3808_z⟩ := rp_nm (c := 5) (d := 5) kc kd q3808_z
    replace yq3808_z := yq3808_z.symm
    subst yq3808_z
    rw [show rp_nmf 5 5 = (-1) from by unfold rp_nmf; rw [if_neg (by decide)]] at hm_z
    replace hm_z : rn _ _ _ _ [.int (-1)] _ _ _ := hm_z
    replace hm_z := rn_istore_n (am_cur_of (i := (90, 1, .istore_n 1, (0, 0, 0), 0)) (by decide +kernel)) hm_z
    obtain ⟨_, s3809_z, s3810_z, g1m, hm_z⟩ := hm_z
    replace g0m := s3809_z 0 _ (by decide) rfl g0m
    clear s3809_z s3810_z
    replace hm_z := rn_iload_n (am_cur_of (i := (91, 1, .iload_n 1, (0, 0, 0), 0)) (by decide +kernel)) g1m hm_z
    replace hm_z := rn_ifF (am_cur_of (i := (92, 3, .ifCond .ge 17, (60, 0, 0), 0)) (by decide +kernel)) (by decide) hm_z
    replace hm_z := rn_aload_n (am_cur_of (i := (95, 1, .aload_n 0, (0, 0, 0), 0)) (by decide +kernel)) g0m hm_z
    replace hm_z := rn_getI (v := 5) (am_cur_of (i := (96, 3, .getfield 157, (12, 8, 1392), 0)) (by decide +kernel)) (by decide +kernel) kc hm_z
    replace hm_z := rn_iconst (w := 3) (am_cur_of (i := (99, 1, .iconst 3, (0, 0, 0), 0)) (by decide +kernel)) (by decide) hm_z
    replace hm_z := rn_cmpF (am_cur_of (i := (100, 3, .if_icmp .eq 9, (60, 0, 0), 0)) (by decide +kernel)) (by decide) hm_z
    replace hm_z := rn_aload_n (am_cur_of (i := (103, 1, .aload_n 0, (0, 0, 0), 0)) (by decide +kernel)) g0m hm_z
    replace hm_z := rn_iconst (w := 1) (am_cur_of (i := (104, 1, .iconst 1, (0, 0, 0), 0)) (by decide +kernel)) (by decide) hm_z
    replace hm_z := rn_callV (M' := am_m158) (o := 164) (ar := [.int 1]) (rest := []) (L := lv_args 0 [.ref 164, .int 1]) (am_cur_of (i := (105, 3, .invokevirtual 181, (158, 1665, 3), 0)) (by decide +kernel)) rfl rfl rfl rfl hm_z
    obtain ⟨r3811_z, h3812_z, q3813_z, hm_z⟩ := hm_z
    obtain ⟨rfl, yq3813_z⟩ := rp_wrong q3813_z
    subst yq3813_z
    replace hm_z : rn _ _ _ _ [.int 0] _ _ _ := hm_z
    replace hm_z := rn_iret (am_cur_of (i := (108, 1, .ireturn, (0, 0, 0), 0)) (by decide +kernel)) hm_z
    obtain ⟨e3814_z, e3815_z⟩ := hm_z
    subst e3814_z e3815_z
    exact (Or.inr ⟨rfl, 1, by decide, K.1, K.2, rfl, R6⟩)
  · have g0_z : am_get (lv_args 0 [.ref 44, .int 1]) 0 = some (.ref 44) := rfl
    have g1_z : am_get (lv_args 0 [.ref 44, .int 1]) 1 = some (.int 1) := rfl
    have g0m : am_get (lv_args 0 [.ref 164]) 0 = some (.ref 164) := rfl
    have Rk := R
    have Zk := Z
    obtain ⟨⟨c1_z, c2_z, c3_z, c4_z, c5_z, c6_z, c7_z, c8_z⟩, ⟨m2_z, m3_z, m4_z, m5_z, m6_z, m7_z, m8_z⟩, R3, R4, R5, R6, R7, R8, R9, R10⟩ := (R : rq T S x p 23 h g)
    obtain ⟨np, op, z1_z, z2_z, z3_z, z4_z, z5_z, z6_z, z7_z, z8_z, z9_z, z10_z⟩ := (Z : rs 23 h g)
    obtain ⟨nk1_z, nk2_z, nk3_z⟩ := A.2.2.2.2.2.1
    replace nk1_z : rg_v h 32 0 = rg_v g 164 44 := nk1_z
    replace nk2_z : 0 ≤ (rg_v h 32 0).toInt := nk2_z
    replace nk3_z : (rg_v h 32 0).toInt ≤ 64 := nk3_z
    replace z8_z : np.toInt ≤ (rg_v h 32 0).toInt + op.toInt := z8_z
    obtain ⟨kn, ekn⟩ : ∃ v, rg_v h 32 0 = v := ⟨_, rfl⟩
    rw [ekn] at nk1_z nk2_z nk3_z z8_z
    have e9_z := rt_c1 (x := kn) (by omega) (by omega)
    replace hc_z := rn_aload_n (am_cur_of (i := (0, 1, .aload_n 0, (0, 0, 0), 0)) (by decide +kernel)) g0_z hc_z
    replace hc_z := rn_getI (v := 6) (am_cur_of (i := (1, 3, .getfield 60, (4, 10, 419), 0)) (by decide +kernel)) (by decide +kernel) ka hc_z
    replace hc_z := rn_bipush (w := 6) (am_cur_of (i := (4, 2, .bipush 6, (0, 0, 0), 0)) (by decide +kernel)) (by decide) hc_z
    replace hc_z := rn_cmpF (am_cur_of (i := (6, 3, .if_icmp .ne 30, (19, 0, 0), 0)) (by decide +kernel)) (by decide) hc_z
    replace hc_z := rn_aload_n (am_cur_of (i := (9, 1, .aload_n 0, (0, 0, 0), 0)) (by decide +kernel)) g0_z hc_z
    replace hc_z := rn_getI (v := 12) (am_cur_of (i := (10, 3, .getfield 91, (4, 11, 420), 0)) (by decide +kernel)) (by decide +kernel) kb hc_z
    replace hc_z := rn_iconst (w := 5) (am_cur_of (i := (13, 1, .iconst 5, (0, 0, 0), 0)) (by decide +kernel)) (by decide) hc_z
    replace hc_z := rn_cmpT (am_cur_of (i := (14, 3, .if_icmp .ne 22, (19, 0, 0), 0)) (by decide +kernel)) (by decide) hc_z
    replace hc_z := rn_aload_n (am_cur_of (i := (36, 1, .aload_n 0, (0, 0, 0), 0)) (by decide +kernel)) g0_z hc_z
    replace hc_z := rn_bipush (w := 40) (am_cur_of (i := (37, 2, .bipush 40, (0, 0, 0), 0)) (by decide +kernel)) (by decide) hc_z
    replace hc_z := rn_callV (M' := am_m45) (o := 44) (ar := [.int 40]) (rest := []) (L := lv_args 0 [.ref 44, .int 40]) (am_cur_of (i := (39, 3, .invokevirtual 105, (45, 834, 3), 0)) (by decide +kernel)) rfl rfl rfl rfl hc_z
    obtain ⟨r3816_z, h3817_z, q3818_z, hc_z⟩ := hc_z
    obtain ⟨rfl, yq3818_z⟩ := rp_mkN (fun q => absurd (Eq.trans (Eq.symm ka) q.1) (by decide)) q3818_z
    subst yq3818_z
    replace hc_z : rn _ _ _ _ [.int 0] _ _ _ := hc_z
    replace hc_z := rn_ifT (am_cur_of (i := (42, 3, .ifCond .eq 38, (43, 0, 0), 0)) (by decide +kernel)) (by decide) hc_z
    replace hc_z := rn_aload_n (am_cur_of (i := (80, 1, .aload_n 0, (0, 0, 0), 0)) (by decide +kernel)) g0_z hc_z
    replace hc_z := rn_getI (v := 6) (am_cur_of (i := (81, 3, .getfield 60, (4, 10, 419), 0)) (by decide +kernel)) (by decide +kernel) ka hc_z
    replace hc_z := rn_iconst (w := 4) (am_cur_of (i := (84, 1, .iconst 4, (0, 0, 0), 0)) (by decide +kernel)) (by decide) hc_z
    replace hc_z := rn_cmpT (am_cur_of (i := (85, 3, .if_icmp .ne 40, (64, 0, 0), 0)) (by decide +kernel)) (by decide) hc_z
    replace hc_z := rn_aload_n (am_cur_of (i := (125, 1, .aload_n 0, (0, 0, 0), 0)) (by decide +kernel)) g0_z hc_z
    replace hc_z := rn_getI (v := 6) (am_cur_of (i := (126, 3, .getfield 60, (4, 10, 419), 0)) (by decide +kernel)) (by decide +kernel) ka hc_z
    replace hc_z := rn_iconst (w := 2) (am_cur_of (i := (129, 1, .iconst 2, (0, 0, 0), 0)) (by decide +kernel)) (by decide) hc_z
    replace hc_z := rn_cmpT (am_cur_of (i := (130, 3, .if_icmp .ne 37, (84, 0, 0), 0)) (by decide +kernel)) (by decide) hc_z
    replace hc_z := rn_aload_n (am_cur_of (i := (167, 1, .aload_n 0, (0, 0, 0), 0)) (by decide +kernel)) g0_z hc_z
    replace hc_z := rn_iconst (w := 1) (am_cur_of (i := (168, 1, .iconst 1, (0, 0, 0), 0)) (by decide +kernel)) (by decide) hc_z
    replace hc_z := rn_callV (M' := am_m29) (o := 44) (ar := [.int 1]) (rest := []) (L := lv_args 0 [.ref 44, .int 1]) (am_cur_of (i := (169, 3, .invokevirtual 108, (29, 769, 3), 0)) (by decide +kernel)) rfl rfl rfl rfl hc_z
    obtain ⟨r3819_z, h3820_z, q3821_z, hc_z⟩ := hc_z
    obtain ⟨rfl, yq3821_z⟩ := rp_fail R4 q3821_z
    subst yq3821_z
    replace hc_z : rn _ _ _ _ [] _ _ _ := hc_z
    have K := rs_stick (w := 1) (q := p) (a := 51) (by decide) (by decide) rfl (by decide) rfl (show rg_v (am_up (am_up h 44 1 (.int 1)) 44 2 (.int (rg_v h 44 9))) 44 2 = p from R5) hc_z
    replace hm_z := rn_aload_n (am_cur_of (i := (0, 1, .aload_n 0, (0, 0, 0), 0)) (by decide +kernel)) g0m hm_z
    replace hm_z := rn_bipush (w := 40) (am_cur_of (i := (1, 2, .bipush 40, (0, 0, 0), 0)) (by decide +kernel)) (by decide) hm_z
    replace hm_z := rn_callV (M' := am_m171) (o := 164) (ar := [.int 40]) (rest := []) (L := lv_args 0 [.ref 164, .int 40]) (am_cur_of (i := (3, 3, .invokevirtual 194, (171, 1715, 3), 0)) (by decide +kernel)) rfl rfl rfl rfl hm_z
    obtain ⟨r3822_z, h3823_z, q3824_z, hm_z⟩ := hm_z
    obtain ⟨rfl, yq3824_z⟩ := rp_sgN (fun q => absurd (Eq.trans (Eq.symm kd) q.2) (by decide)) q3824_z
    subst yq3824_z
    replace hm_z : rn _ _ _ _ [.int 0] _ _ _ := hm_z
    replace hm_z := rn_ifT (am_cur_of (i := (6, 3, .ifCond .eq 44, (28, 0, 0), 0)) (by decide +kernel)) (by decide) hm_z
    replace hm_z := rn_aload_n (am_cur_of (i := (50, 1, .aload_n 0, (0, 0, 0), 0)) (by decide +kernel)) g0m hm_z
    replace hm_z := rn_bipush (w := 14) (am_cur_of (i := (51, 2, .bipush 14, (0, 0, 0), 0)) (by decide +kernel)) (by decide) hm_z
    replace hm_z := rn_callV (M' := am_m174) (o := 164) (ar := [.int 14]) (rest := []) (L := lv_args 0 [.ref 164, .int 14]) (am_cur_of (i := (53, 3, .invokevirtual 306, (174, 1727, 3), 0)) (by decide +kernel)) rfl rfl rfl rfl hm_z
    obtain ⟨r3825_z, h3826_z, q3827_z, hm_z⟩ := hm_z
    obtain ⟨rfl, yq3827_z⟩ := rp_kyN (fun q => absurd (Eq.trans (Eq.symm kc) q.1) (by decide)) q3827_z
    subst yq3827_z
    replace hm_z : rn _ _ _ _ [.int 0] _ _ _ := hm_z
    replace hm_z := rn_ifT (am_cur_of (i := (56, 3, .ifCond .eq 30, (47, 0, 0), 0)) (by decide +kernel)) (by decide) hm_z
    replace hm_z := rn_aload_n (am_cur_of (i := (86, 1, .aload_n 0, (0, 0, 0), 0)) (by decide +kernel)) g0m hm_z
    replace hm_z := rn_callV (M' := am_m176) (o := 164) (ar := []) (rest := []) (L := lv_args 0 [.ref 164]) (am_cur_of (i := (87, 3, .invokevirtual 312, (176, 1735, 3), 0)) (by decide +kernel)) rfl rfl rfl rfl hm_z
    obtain ⟨r3828_z, h3829_z, q3830_z, hm_z⟩ := hm_z
    obtain ⟨rfl, yq3830_z⟩ := rp_nm (c := 4) (d := 43) kc kd q3830_z
    replace yq3830_z := yq3830_z.symm
    subst yq3830_z
    rw [show rp_nmf 4 43 = (-1) from by unfold rp_nmf; rw [if_neg (by decide)]] at hm_z
    replace hm_z : rn _ _ _ _ [.int (-1)] _ _ _ := hm_z
    replace hm_z := rn_istore_n (am_cur_of (i := (90, 1, .istore_n 1, (0, 0, 0), 0)) (by decide +kernel)) hm_z
    obtain ⟨_, s3831_z, s3832_z, g1m, hm_z⟩ := hm_z
    replace g0m := s3831_z 0 _ (by decide) rfl g0m
    clear s3831_z s3832_z
    replace hm_z := rn_iload_n (am_cur_of (i := (91, 1, .iload_n 1, (0, 0, 0), 0)) (by decide +kernel)) g1m hm_z
    replace hm_z := rn_ifF (am_cur_of (i := (92, 3, .ifCond .ge 17, (60, 0, 0), 0)) (by decide +kernel)) (by decide) hm_z
    replace hm_z := rn_aload_n (am_cur_of (i := (95, 1, .aload_n 0, (0, 0, 0), 0)) (by decide +kernel)) g0m hm_z
    replace hm_z := rn_getI (v := 4) (am_cur_of (i := (96, 3, .getfield 157, (12, 8, 1392), 0)) (by decide +kernel)) (by decide +kernel) kc hm_z
    replace hm_z := rn_iconst (w := 3) (am_cur_of (i := (99, 1, .iconst 3, (0, 0, 0), 0)) (by decide +kernel)) (by decide) hm_z
    replace hm_z := rn_cmpF (am_cur_of (i := (100, 3, .if_icmp .eq 9, (60, 0, 0), 0)) (by decide +kernel)) (by decide) hm_z
    replace hm_z := rn_aload_n (am_cur_of (i := (103, 1, .aload_n 0, (0, 0, 0), 0)) (by decide +kernel)) g0m hm_z
    replace hm_z := rn_iconst (w := 1) (am_cur_of (i := (104, 1, .iconst 1, (0, 0, 0), 0)) (by decide +kernel)) (by decide) hm_z
    replace hm_z := rn_callV (M' := am_m158) (o := 164) (ar := [.int 1]) (rest := []) (L := lv_args 0 [.ref 164, .int 1]) (am_cur_of (i := (105, 3, .invokevirtual 181, (158, 1665, 3), 0)) (by decide +kernel)) rfl rfl rfl rfl hm_z
    obtain ⟨r3833_z, h3834_z, q3835_z, hm_z⟩ := hm_z
    obtain ⟨rfl, yq3835_z⟩ := rp_wrong q3835_z
    subst yq3835_z
    replace hm_z : rn _ _ _ _ [.int 0] _ _ _ := hm_z
    replace hm_z := rn_iret (am_cur_of (i := (108, 1, .ireturn, (0, 0, 0), 0)) (by decide +kernel)) hm_z
    obtain ⟨e3836_z, e3837_z⟩ := hm_z
    subst e3836_z e3837_z
    exact (Or.inr ⟨rfl, 1, by decide, K.1, K.2, rfl, R6⟩)
  · have g0_z : am_get (lv_args 0 [.ref 44, .int 1]) 0 = some (.ref 44) := rfl
    have g1_z : am_get (lv_args 0 [.ref 44, .int 1]) 1 = some (.int 1) := rfl
    have g0m : am_get (lv_args 0 [.ref 164]) 0 = some (.ref 164) := rfl
    have Rk := R
    have Zk := Z
    obtain ⟨⟨c1_z, c2_z, c3_z, c4_z, c5_z, c6_z, c7_z, c8_z⟩, ⟨m2_z, m3_z, m4_z, m5_z, m6_z, m7_z, m8_z⟩, R3, R4, R5, R6, R7, R8, R9, R10⟩ := (R : rq T S x p 23 h g)
    obtain ⟨np, op, z1_z, z2_z, z3_z, z4_z, z5_z, z6_z, z7_z, z8_z, z9_z, z10_z⟩ := (Z : rs 23 h g)
    obtain ⟨nk1_z, nk2_z, nk3_z⟩ := A.2.2.2.2.2.1
    replace nk1_z : rg_v h 32 0 = rg_v g 164 44 := nk1_z
    replace nk2_z : 0 ≤ (rg_v h 32 0).toInt := nk2_z
    replace nk3_z : (rg_v h 32 0).toInt ≤ 64 := nk3_z
    replace z8_z : np.toInt ≤ (rg_v h 32 0).toInt + op.toInt := z8_z
    obtain ⟨kn, ekn⟩ : ∃ v, rg_v h 32 0 = v := ⟨_, rfl⟩
    rw [ekn] at nk1_z nk2_z nk3_z z8_z
    have e9_z := rt_c1 (x := kn) (by omega) (by omega)
    replace hc_z := rn_aload_n (am_cur_of (i := (0, 1, .aload_n 0, (0, 0, 0), 0)) (by decide +kernel)) g0_z hc_z
    replace hc_z := rn_getI (v := 6) (am_cur_of (i := (1, 3, .getfield 60, (4, 10, 419), 0)) (by decide +kernel)) (by decide +kernel) ka hc_z
    replace hc_z := rn_bipush (w := 6) (am_cur_of (i := (4, 2, .bipush 6, (0, 0, 0), 0)) (by decide +kernel)) (by decide) hc_z
    replace hc_z := rn_cmpF (am_cur_of (i := (6, 3, .if_icmp .ne 30, (19, 0, 0), 0)) (by decide +kernel)) (by decide) hc_z
    replace hc_z := rn_aload_n (am_cur_of (i := (9, 1, .aload_n 0, (0, 0, 0), 0)) (by decide +kernel)) g0_z hc_z
    replace hc_z := rn_getI (v := 13) (am_cur_of (i := (10, 3, .getfield 91, (4, 11, 420), 0)) (by decide +kernel)) (by decide +kernel) kb hc_z
    replace hc_z := rn_iconst (w := 5) (am_cur_of (i := (13, 1, .iconst 5, (0, 0, 0), 0)) (by decide +kernel)) (by decide) hc_z
    replace hc_z := rn_cmpT (am_cur_of (i := (14, 3, .if_icmp .ne 22, (19, 0, 0), 0)) (by decide +kernel)) (by decide) hc_z
    replace hc_z := rn_aload_n (am_cur_of (i := (36, 1, .aload_n 0, (0, 0, 0), 0)) (by decide +kernel)) g0_z hc_z
    replace hc_z := rn_bipush (w := 40) (am_cur_of (i := (37, 2, .bipush 40, (0, 0, 0), 0)) (by decide +kernel)) (by decide) hc_z
    replace hc_z := rn_callV (M' := am_m45) (o := 44) (ar := [.int 40]) (rest := []) (L := lv_args 0 [.ref 44, .int 40]) (am_cur_of (i := (39, 3, .invokevirtual 105, (45, 834, 3), 0)) (by decide +kernel)) rfl rfl rfl rfl hc_z
    obtain ⟨r3838_z, h3839_z, q3840_z, hc_z⟩ := hc_z
    obtain ⟨rfl, yq3840_z⟩ := rp_mkN (fun q => absurd (Eq.trans (Eq.symm ka) q.1) (by decide)) q3840_z
    subst yq3840_z
    replace hc_z : rn _ _ _ _ [.int 0] _ _ _ := hc_z
    replace hc_z := rn_ifT (am_cur_of (i := (42, 3, .ifCond .eq 38, (43, 0, 0), 0)) (by decide +kernel)) (by decide) hc_z
    replace hc_z := rn_aload_n (am_cur_of (i := (80, 1, .aload_n 0, (0, 0, 0), 0)) (by decide +kernel)) g0_z hc_z
    replace hc_z := rn_getI (v := 6) (am_cur_of (i := (81, 3, .getfield 60, (4, 10, 419), 0)) (by decide +kernel)) (by decide +kernel) ka hc_z
    replace hc_z := rn_iconst (w := 4) (am_cur_of (i := (84, 1, .iconst 4, (0, 0, 0), 0)) (by decide +kernel)) (by decide) hc_z
    replace hc_z := rn_cmpT (am_cur_of (i := (85, 3, .if_icmp .ne 40, (64, 0, 0), 0)) (by decide +kernel)) (by decide) hc_z
    replace hc_z := rn_aload_n (am_cur_of (i := (125, 1, .aload_n 0, (0, 0, 0), 0)) (by decide +kernel)) g0_z hc_z
    replace hc_z := rn_getI (v := 6) (am_cur_of (i := (126, 3, .getfield 60, (4, 10, 419), 0)) (by decide +kernel)) (by decide +kernel) ka hc_z
    replace hc_z := rn_iconst (w := 2) (am_cur_of (i := (129, 1, .iconst 2, (0, 0, 0), 0)) (by decide +kernel)) (by decide) hc_z
    replace hc_z := rn_cmpT (am_cur_of (i := (130, 3, .if_icmp .ne 37, (84, 0, 0), 0)) (by decide +kernel)) (by decide) hc_z
    replace hc_z := rn_aload_n (am_cur_of (i := (167, 1, .aload_n 0, (0, 0, 0), 0)) (by decide +kernel)) g0_z hc_z
    replace hc_z := rn_iconst (w := 1) (am_cur_of (i := (168, 1, .iconst 1, (0, 0, 0), 0)) (by decide +kernel)) (by decide) hc_z
    replace hc_z := rn_callV (M' := am_m29) (o := 44) (ar := [.int 1]) (rest := []) (L := lv_args 0 [.ref 44, .int 1]) (am_cur_of (i := (169, 3, .invokevirtual 108, (29, 769, 3), 0)) (by decide +kernel)) rfl rfl rfl rfl hc_z
    obtain ⟨r3841_z, h3842_z, q3843_z, hc_z⟩ := hc_z
    obtain ⟨rfl, yq3843_z⟩ := rp_fail R4 q3843_z
    subst yq3843_z
    replace hc_z : rn _ _ _ _ [] _ _ _ := hc_z
    have K := rs_stick (w := 1) (q := p) (a := 51) (by decide) (by decide) rfl (by decide) rfl (show rg_v (am_up (am_up h 44 1 (.int 1)) 44 2 (.int (rg_v h 44 9))) 44 2 = p from R5) hc_z
    replace hm_z := rn_aload_n (am_cur_of (i := (0, 1, .aload_n 0, (0, 0, 0), 0)) (by decide +kernel)) g0m hm_z
    replace hm_z := rn_bipush (w := 40) (am_cur_of (i := (1, 2, .bipush 40, (0, 0, 0), 0)) (by decide +kernel)) (by decide) hm_z
    replace hm_z := rn_callV (M' := am_m171) (o := 164) (ar := [.int 40]) (rest := []) (L := lv_args 0 [.ref 164, .int 40]) (am_cur_of (i := (3, 3, .invokevirtual 194, (171, 1715, 3), 0)) (by decide +kernel)) rfl rfl rfl rfl hm_z
    obtain ⟨r3844_z, h3845_z, q3846_z, hm_z⟩ := hm_z
    obtain ⟨rfl, yq3846_z⟩ := rp_sgN (fun q => absurd (Eq.trans (Eq.symm kd) q.2) (by decide)) q3846_z
    subst yq3846_z
    replace hm_z : rn _ _ _ _ [.int 0] _ _ _ := hm_z
    replace hm_z := rn_ifT (am_cur_of (i := (6, 3, .ifCond .eq 44, (28, 0, 0), 0)) (by decide +kernel)) (by decide) hm_z
    replace hm_z := rn_aload_n (am_cur_of (i := (50, 1, .aload_n 0, (0, 0, 0), 0)) (by decide +kernel)) g0m hm_z
    replace hm_z := rn_bipush (w := 14) (am_cur_of (i := (51, 2, .bipush 14, (0, 0, 0), 0)) (by decide +kernel)) (by decide) hm_z
    replace hm_z := rn_callV (M' := am_m174) (o := 164) (ar := [.int 14]) (rest := []) (L := lv_args 0 [.ref 164, .int 14]) (am_cur_of (i := (53, 3, .invokevirtual 306, (174, 1727, 3), 0)) (by decide +kernel)) rfl rfl rfl rfl hm_z
    obtain ⟨r3847_z, h3848_z, q3849_z, hm_z⟩ := hm_z
    obtain ⟨rfl, yq3849_z⟩ := rp_kyN (fun q => absurd (Eq.trans (Eq.symm kc) q.1) (by decide)) q3849_z
    subst yq3849_z
    replace hm_z : rn _ _ _ _ [.int 0] _ _ _ := hm_z
    replace hm_z := rn_ifT (am_cur_of (i := (56, 3, .ifCond .eq 30, (47, 0, 0), 0)) (by decide +kernel)) (by decide) hm_z
    replace hm_z := rn_aload_n (am_cur_of (i := (86, 1, .aload_n 0, (0, 0, 0), 0)) (by decide +kernel)) g0m hm_z
    replace hm_z := rn_callV (M' := am_m176) (o := 164) (ar := []) (rest := []) (L := lv_args 0 [.ref 164]) (am_cur_of (i := (87, 3, .invokevirtual 312, (176, 1735, 3), 0)) (by decide +kernel)) rfl rfl rfl rfl hm_z
    obtain ⟨r3850_z, h3851_z, q3852_z, hm_z⟩ := hm_z
    obtain ⟨rfl, yq3852_z⟩ := rp_nm (c := 4) (d := 45) kc kd q3852_z
    replace yq3852_z := yq3852_z.symm
    subst yq3852_z
    rw [show rp_nmf 4 45 = (-1) from by unfold rp_nmf; rw [if_neg (by decide)]] at hm_z
    replace hm_z : rn _ _ _ _ [.int (-1)] _ _ _ := hm_z
    replace hm_z := rn_istore_n (am_cur_of (i := (90, 1, .istore_n 1, (0, 0, 0), 0)) (by decide +kernel)) hm_z
    obtain ⟨_, s3853_z, s3854_z, g1m, hm_z⟩ := hm_z
    replace g0m := s3853_z 0 _ (by decide) rfl g0m
    clear s3853_z s3854_z
    replace hm_z := rn_iload_n (am_cur_of (i := (91, 1, .iload_n 1, (0, 0, 0), 0)) (by decide +kernel)) g1m hm_z
    replace hm_z := rn_ifF (am_cur_of (i := (92, 3, .ifCond .ge 17, (60, 0, 0), 0)) (by decide +kernel)) (by decide) hm_z
    replace hm_z := rn_aload_n (am_cur_of (i := (95, 1, .aload_n 0, (0, 0, 0), 0)) (by decide +kernel)) g0m hm_z
    replace hm_z := rn_getI (v := 4) (am_cur_of (i := (96, 3, .getfield 157, (12, 8, 1392), 0)) (by decide +kernel)) (by decide +kernel) kc hm_z
    replace hm_z := rn_iconst (w := 3) (am_cur_of (i := (99, 1, .iconst 3, (0, 0, 0), 0)) (by decide +kernel)) (by decide) hm_z
    replace hm_z := rn_cmpF (am_cur_of (i := (100, 3, .if_icmp .eq 9, (60, 0, 0), 0)) (by decide +kernel)) (by decide) hm_z
    replace hm_z := rn_aload_n (am_cur_of (i := (103, 1, .aload_n 0, (0, 0, 0), 0)) (by decide +kernel)) g0m hm_z
    replace hm_z := rn_iconst (w := 1) (am_cur_of (i := (104, 1, .iconst 1, (0, 0, 0), 0)) (by decide +kernel)) (by decide) hm_z
    replace hm_z := rn_callV (M' := am_m158) (o := 164) (ar := [.int 1]) (rest := []) (L := lv_args 0 [.ref 164, .int 1]) (am_cur_of (i := (105, 3, .invokevirtual 181, (158, 1665, 3), 0)) (by decide +kernel)) rfl rfl rfl rfl hm_z
    obtain ⟨r3855_z, h3856_z, q3857_z, hm_z⟩ := hm_z
    obtain ⟨rfl, yq3857_z⟩ := rp_wrong q3857_z
    subst yq3857_z
    replace hm_z : rn _ _ _ _ [.int 0] _ _ _ := hm_z
    replace hm_z := rn_iret (am_cur_of (i := (108, 1, .ireturn, (0, 0, 0), 0)) (by decide +kernel)) hm_z
    obtain ⟨e3858_z, e3859_z⟩ := hm_z
    subst e3858_z e3859_z
    exact (Or.inr ⟨rfl, 1, by decide, K.1, K.2, rfl, R6⟩)
  · have g0_z : am_get (lv_args 0 [.ref 44, .int 1]) 0 = some (.ref 44) := rfl
    have g1_z : am_get (lv_args 0 [.ref 44, .int 1]) 1 = some (.int 1) := rfl
    have g0m : am_get (lv_args 0 [.ref 164]) 0 = some (.ref 164) := rfl
    have Rk := R
    have Zk := Z
    obtain ⟨⟨c1_z, c2_z, c3_z, c4_z, c5_z, c6_z, c7_z, c8_z⟩, ⟨m2_z, m3_z, m4_z, m5_z, m6_z, m7_z, m8_z⟩, R3, R4, R5, R6, R7, R8, R9, R10⟩ := (R : rq T S x p 23 h g)
    obtain ⟨np, op, z1_z, z2_z, z3_z, z4_z, z5_z, z6_z, z7_z, z8_z, z9_z, z10_z⟩ := (Z : rs 23 h g)
    obtain ⟨nk1_z, nk2_z, nk3_z⟩ := A.2.2.2.2.2.1
    replace nk1_z : rg_v h 32 0 = rg_v g 164 44 := nk1_z
    replace nk2_z : 0 ≤ (rg_v h 32 0).toInt := nk2_z
    replace nk3_z : (rg_v h 32 0).toInt ≤ 64 := nk3_z
    replace z8_z : np.toInt ≤ (rg_v h 32 0).toInt + op.toInt := z8_z
    obtain ⟨kn, ekn⟩ : ∃ v, rg_v h 32 0 = v := ⟨_, rfl⟩
    rw [ekn] at nk1_z nk2_z nk3_z z8_z
    have e9_z := rt_c1 (x := kn) (by omega) (by omega)
    replace hc_z := rn_aload_n (am_cur_of (i := (0, 1, .aload_n 0, (0, 0, 0), 0)) (by decide +kernel)) g0_z hc_z
    replace hc_z := rn_getI (v := 6) (am_cur_of (i := (1, 3, .getfield 60, (4, 10, 419), 0)) (by decide +kernel)) (by decide +kernel) ka hc_z
    replace hc_z := rn_bipush (w := 6) (am_cur_of (i := (4, 2, .bipush 6, (0, 0, 0), 0)) (by decide +kernel)) (by decide) hc_z
    replace hc_z := rn_cmpF (am_cur_of (i := (6, 3, .if_icmp .ne 30, (19, 0, 0), 0)) (by decide +kernel)) (by decide) hc_z
    replace hc_z := rn_aload_n (am_cur_of (i := (9, 1, .aload_n 0, (0, 0, 0), 0)) (by decide +kernel)) g0_z hc_z
    replace hc_z := rn_getI (v := 14) (am_cur_of (i := (10, 3, .getfield 91, (4, 11, 420), 0)) (by decide +kernel)) (by decide +kernel) kb hc_z
    replace hc_z := rn_iconst (w := 5) (am_cur_of (i := (13, 1, .iconst 5, (0, 0, 0), 0)) (by decide +kernel)) (by decide) hc_z
    replace hc_z := rn_cmpT (am_cur_of (i := (14, 3, .if_icmp .ne 22, (19, 0, 0), 0)) (by decide +kernel)) (by decide) hc_z
    replace hc_z := rn_aload_n (am_cur_of (i := (36, 1, .aload_n 0, (0, 0, 0), 0)) (by decide +kernel)) g0_z hc_z
    replace hc_z := rn_bipush (w := 40) (am_cur_of (i := (37, 2, .bipush 40, (0, 0, 0), 0)) (by decide +kernel)) (by decide) hc_z
    replace hc_z := rn_callV (M' := am_m45) (o := 44) (ar := [.int 40]) (rest := []) (L := lv_args 0 [.ref 44, .int 40]) (am_cur_of (i := (39, 3, .invokevirtual 105, (45, 834, 3), 0)) (by decide +kernel)) rfl rfl rfl rfl hc_z
    obtain ⟨r3860_z, h3861_z, q3862_z, hc_z⟩ := hc_z
    obtain ⟨rfl, yq3862_z⟩ := rp_mkN (fun q => absurd (Eq.trans (Eq.symm ka) q.1) (by decide)) q3862_z
    subst yq3862_z
    replace hc_z : rn _ _ _ _ [.int 0] _ _ _ := hc_z
    replace hc_z := rn_ifT (am_cur_of (i := (42, 3, .ifCond .eq 38, (43, 0, 0), 0)) (by decide +kernel)) (by decide) hc_z
    replace hc_z := rn_aload_n (am_cur_of (i := (80, 1, .aload_n 0, (0, 0, 0), 0)) (by decide +kernel)) g0_z hc_z
    replace hc_z := rn_getI (v := 6) (am_cur_of (i := (81, 3, .getfield 60, (4, 10, 419), 0)) (by decide +kernel)) (by decide +kernel) ka hc_z
    replace hc_z := rn_iconst (w := 4) (am_cur_of (i := (84, 1, .iconst 4, (0, 0, 0), 0)) (by decide +kernel)) (by decide) hc_z
    replace hc_z := rn_cmpT (am_cur_of (i := (85, 3, .if_icmp .ne 40, (64, 0, 0), 0)) (by decide +kernel)) (by decide) hc_z
    replace hc_z := rn_aload_n (am_cur_of (i := (125, 1, .aload_n 0, (0, 0, 0), 0)) (by decide +kernel)) g0_z hc_z
    replace hc_z := rn_getI (v := 6) (am_cur_of (i := (126, 3, .getfield 60, (4, 10, 419), 0)) (by decide +kernel)) (by decide +kernel) ka hc_z
    replace hc_z := rn_iconst (w := 2) (am_cur_of (i := (129, 1, .iconst 2, (0, 0, 0), 0)) (by decide +kernel)) (by decide) hc_z
    replace hc_z := rn_cmpT (am_cur_of (i := (130, 3, .if_icmp .ne 37, (84, 0, 0), 0)) (by decide +kernel)) (by decide) hc_z
    replace hc_z := rn_aload_n (am_cur_of (i := (167, 1, .aload_n 0, (0, 0, 0), 0)) (by decide +kernel)) g0_z hc_z
    replace hc_z := rn_iconst (w := 1) (am_cur_of (i := (168, 1, .iconst 1, (0, 0, 0), 0)) (by decide +kernel)) (by decide) hc_z
    replace hc_z := rn_callV (M' := am_m29) (o := 44) (ar := [.int 1]) (rest := []) (L := lv_args 0 [.ref 44, .int 1]) (am_cur_of (i := (169, 3, .invokevirtual 108, (29, 769, 3), 0)) (by decide +kernel)) rfl rfl rfl rfl hc_z
    obtain ⟨r3863_z, h3864_z, q3865_z, hc_z⟩ := hc_z
    obtain ⟨rfl, yq3865_z⟩ := rp_fail R4 q3865_z
    subst yq3865_z
    replace hc_z : rn _ _ _ _ [] _ _ _ := hc_z
    have K := rs_stick (w := 1) (q := p) (a := 51) (by decide) (by decide) rfl (by decide) rfl (show rg_v (am_up (am_up h 44 1 (.int 1)) 44 2 (.int (rg_v h 44 9))) 44 2 = p from R5) hc_z
    replace hm_z := rn_aload_n (am_cur_of (i := (0, 1, .aload_n 0, (0, 0, 0), 0)) (by decide +kernel)) g0m hm_z
    replace hm_z := rn_bipush (w := 40) (am_cur_of (i := (1, 2, .bipush 40, (0, 0, 0), 0)) (by decide +kernel)) (by decide) hm_z
    replace hm_z := rn_callV (M' := am_m171) (o := 164) (ar := [.int 40]) (rest := []) (L := lv_args 0 [.ref 164, .int 40]) (am_cur_of (i := (3, 3, .invokevirtual 194, (171, 1715, 3), 0)) (by decide +kernel)) rfl rfl rfl rfl hm_z
    obtain ⟨r3866_z, h3867_z, q3868_z, hm_z⟩ := hm_z
    obtain ⟨rfl, yq3868_z⟩ := rp_sgN (fun q => absurd (Eq.trans (Eq.symm kd) q.2) (by decide)) q3868_z
    subst yq3868_z
    replace hm_z : rn _ _ _ _ [.int 0] _ _ _ := hm_z
    replace hm_z := rn_ifT (am_cur_of (i := (6, 3, .ifCond .eq 44, (28, 0, 0), 0)) (by decide +kernel)) (by decide) hm_z
    replace hm_z := rn_aload_n (am_cur_of (i := (50, 1, .aload_n 0, (0, 0, 0), 0)) (by decide +kernel)) g0m hm_z
    replace hm_z := rn_bipush (w := 14) (am_cur_of (i := (51, 2, .bipush 14, (0, 0, 0), 0)) (by decide +kernel)) (by decide) hm_z
    replace hm_z := rn_callV (M' := am_m174) (o := 164) (ar := [.int 14]) (rest := []) (L := lv_args 0 [.ref 164, .int 14]) (am_cur_of (i := (53, 3, .invokevirtual 306, (174, 1727, 3), 0)) (by decide +kernel)) rfl rfl rfl rfl hm_z
    obtain ⟨r3869_z, h3870_z, q3871_z, hm_z⟩ := hm_z
    obtain ⟨rfl, yq3871_z⟩ := rp_kyN (fun q => absurd (Eq.trans (Eq.symm kc) q.1) (by decide)) q3871_z
    subst yq3871_z
    replace hm_z : rn _ _ _ _ [.int 0] _ _ _ := hm_z
    replace hm_z := rn_ifT (am_cur_of (i := (56, 3, .ifCond .eq 30, (47, 0, 0), 0)) (by decide +kernel)) (by decide) hm_z
    replace hm_z := rn_aload_n (am_cur_of (i := (86, 1, .aload_n 0, (0, 0, 0), 0)) (by decide +kernel)) g0m hm_z
    replace hm_z := rn_callV (M' := am_m176) (o := 164) (ar := []) (rest := []) (L := lv_args 0 [.ref 164]) (am_cur_of (i := (87, 3, .invokevirtual 312, (176, 1735, 3), 0)) (by decide +kernel)) rfl rfl rfl rfl hm_z
    obtain ⟨r3872_z, h3873_z, q3874_z, hm_z⟩ := hm_z
    obtain ⟨rfl, yq3874_z⟩ := rp_nm (c := 4) (d := 42) kc kd q3874_z
    replace yq3874_z := yq3874_z.symm
    subst yq3874_z
    rw [show rp_nmf 4 42 = (-1) from by unfold rp_nmf; rw [if_neg (by decide)]] at hm_z
    replace hm_z : rn _ _ _ _ [.int (-1)] _ _ _ := hm_z
    replace hm_z := rn_istore_n (am_cur_of (i := (90, 1, .istore_n 1, (0, 0, 0), 0)) (by decide +kernel)) hm_z
    obtain ⟨_, s3875_z, s3876_z, g1m, hm_z⟩ := hm_z
    replace g0m := s3875_z 0 _ (by decide) rfl g0m
    clear s3875_z s3876_z
    replace hm_z := rn_iload_n (am_cur_of (i := (91, 1, .iload_n 1, (0, 0, 0), 0)) (by decide +kernel)) g1m hm_z
    replace hm_z := rn_ifF (am_cur_of (i := (92, 3, .ifCond .ge 17, (60, 0, 0), 0)) (by decide +kernel)) (by decide) hm_z
    replace hm_z := rn_aload_n (am_cur_of (i := (95, 1, .aload_n 0, (0, 0, 0), 0)) (by decide +kernel)) g0m hm_z
    replace hm_z := rn_getI (v := 4) (am_cur_of (i := (96, 3, .getfield 157, (12, 8, 1392), 0)) (by decide +kernel)) (by decide +kernel) kc hm_z
    replace hm_z := rn_iconst (w := 3) (am_cur_of (i := (99, 1, .iconst 3, (0, 0, 0), 0)) (by decide +kernel)) (by decide) hm_z
    replace hm_z := rn_cmpF (am_cur_of (i := (100, 3, .if_icmp .eq 9, (60, 0, 0), 0)) (by decide +kernel)) (by decide) hm_z
    replace hm_z := rn_aload_n (am_cur_of (i := (103, 1, .aload_n 0, (0, 0, 0), 0)) (by decide +kernel)) g0m hm_z
    replace hm_z := rn_iconst (w := 1) (am_cur_of (i := (104, 1, .iconst 1, (0, 0, 0), 0)) (by decide +kernel)) (by decide) hm_z
    replace hm_z := rn_callV (M' := am_m158) (o := 164) (ar := [.int 1]) (rest := []) (L := lv_args 0 [.ref 164, .int 1]) (am_cur_of (i := (105, 3, .invokevirtual 181, (158, 1665, 3), 0)) (by decide +kernel)) rfl rfl rfl rfl hm_z
    obtain ⟨r3877_z, h3878_z, q3879_z, hm_z⟩ := hm_z
    obtain ⟨rfl, yq3879_z⟩ := rp_wrong q3879_z
    subst yq3879_z
    replace hm_z : rn _ _ _ _ [.int 0] _ _ _ := hm_z
    replace hm_z := rn_iret (am_cur_of (i := (108, 1, .ireturn, (0, 0, 0), 0)) (by decide +kernel)) hm_z
    obtain ⟨e3880_z, e3881_z⟩ := hm_z
    subst e3880_z e3881_z
    exact (Or.inr ⟨rfl, 1, by decide, K.1, K.2, rfl, R6⟩)
  · have g0_z : am_get (lv_args 0 [.ref 44, .int 1]) 0 = some (.ref 44) := rfl
    have g1_z : am_get (lv_args 0 [.ref 44, .int 1]) 1 = some (.int 1) := rfl
    have g0m : am_get (lv_args 0 [.ref 164]) 0 = some (.ref 164) := rfl
    have Rk := R
    have Zk := Z
    obtain ⟨⟨c1_z, c2_z, c3_z, c4_z, c5_z, c6_z, c7_z, c8_z⟩, ⟨m2_z, m3_z, m4_z, m5_z, m6_z, m7_z, m8_z⟩, R3, R4, R5, R6, R7, R8, R9, R10⟩ := (R : rq T S x p 23 h g)
    obtain ⟨np, op, z1_z, z2_z, z3_z, z4_z, z5_z, z6_z, z7_z, z8_z, z9_z, z10_z⟩ := (Z : rs 23 h g)
    obtain ⟨nk1_z, nk2_z, nk3_z⟩ := A.2.2.2.2.2.1
    replace nk1_z : rg_v h 32 0 = rg_v g 164 44 := nk1_z
    replace nk2_z : 0 ≤ (rg_v h 32 0).toInt := nk2_z
    replace nk3_z : (rg_v h 32 0).toInt ≤ 64 := nk3_z
    replace z8_z : np.toInt ≤ (rg_v h 32 0).toInt + op.toInt := z8_z
    obtain ⟨kn, ekn⟩ : ∃ v, rg_v h 32 0 = v := ⟨_, rfl⟩
    rw [ekn] at nk1_z nk2_z nk3_z z8_z
    have e9_z := rt_c1 (x := kn) (by omega) (by omega)
    replace hc_z := rn_aload_n (am_cur_of (i := (0, 1, .aload_n 0, (0, 0, 0), 0)) (by decide +kernel)) g0_z hc_z
    replace hc_z := rn_getI (v := 6) (am_cur_of (i := (1, 3, .getfield 60, (4, 10, 419), 0)) (by decide +kernel)) (by decide +kernel) ka hc_z
    replace hc_z := rn_bipush (w := 6) (am_cur_of (i := (4, 2, .bipush 6, (0, 0, 0), 0)) (by decide +kernel)) (by decide) hc_z
    replace hc_z := rn_cmpF (am_cur_of (i := (6, 3, .if_icmp .ne 30, (19, 0, 0), 0)) (by decide +kernel)) (by decide) hc_z
    replace hc_z := rn_aload_n (am_cur_of (i := (9, 1, .aload_n 0, (0, 0, 0), 0)) (by decide +kernel)) g0_z hc_z
    replace hc_z := rn_getI (v := 15) (am_cur_of (i := (10, 3, .getfield 91, (4, 11, 420), 0)) (by decide +kernel)) (by decide +kernel) kb hc_z
    replace hc_z := rn_iconst (w := 5) (am_cur_of (i := (13, 1, .iconst 5, (0, 0, 0), 0)) (by decide +kernel)) (by decide) hc_z
    replace hc_z := rn_cmpT (am_cur_of (i := (14, 3, .if_icmp .ne 22, (19, 0, 0), 0)) (by decide +kernel)) (by decide) hc_z
    replace hc_z := rn_aload_n (am_cur_of (i := (36, 1, .aload_n 0, (0, 0, 0), 0)) (by decide +kernel)) g0_z hc_z
    replace hc_z := rn_bipush (w := 40) (am_cur_of (i := (37, 2, .bipush 40, (0, 0, 0), 0)) (by decide +kernel)) (by decide) hc_z
    replace hc_z := rn_callV (M' := am_m45) (o := 44) (ar := [.int 40]) (rest := []) (L := lv_args 0 [.ref 44, .int 40]) (am_cur_of (i := (39, 3, .invokevirtual 105, (45, 834, 3), 0)) (by decide +kernel)) rfl rfl rfl rfl hc_z
    obtain ⟨r3882_z, h3883_z, q3884_z, hc_z⟩ := hc_z
    obtain ⟨rfl, yq3884_z⟩ := rp_mkN (fun q => absurd (Eq.trans (Eq.symm ka) q.1) (by decide)) q3884_z
    subst yq3884_z
    replace hc_z : rn _ _ _ _ [.int 0] _ _ _ := hc_z
    replace hc_z := rn_ifT (am_cur_of (i := (42, 3, .ifCond .eq 38, (43, 0, 0), 0)) (by decide +kernel)) (by decide) hc_z
    replace hc_z := rn_aload_n (am_cur_of (i := (80, 1, .aload_n 0, (0, 0, 0), 0)) (by decide +kernel)) g0_z hc_z
    replace hc_z := rn_getI (v := 6) (am_cur_of (i := (81, 3, .getfield 60, (4, 10, 419), 0)) (by decide +kernel)) (by decide +kernel) ka hc_z
    replace hc_z := rn_iconst (w := 4) (am_cur_of (i := (84, 1, .iconst 4, (0, 0, 0), 0)) (by decide +kernel)) (by decide) hc_z
    replace hc_z := rn_cmpT (am_cur_of (i := (85, 3, .if_icmp .ne 40, (64, 0, 0), 0)) (by decide +kernel)) (by decide) hc_z
    replace hc_z := rn_aload_n (am_cur_of (i := (125, 1, .aload_n 0, (0, 0, 0), 0)) (by decide +kernel)) g0_z hc_z
    replace hc_z := rn_getI (v := 6) (am_cur_of (i := (126, 3, .getfield 60, (4, 10, 419), 0)) (by decide +kernel)) (by decide +kernel) ka hc_z
    replace hc_z := rn_iconst (w := 2) (am_cur_of (i := (129, 1, .iconst 2, (0, 0, 0), 0)) (by decide +kernel)) (by decide) hc_z
    replace hc_z := rn_cmpT (am_cur_of (i := (130, 3, .if_icmp .ne 37, (84, 0, 0), 0)) (by decide +kernel)) (by decide) hc_z
    replace hc_z := rn_aload_n (am_cur_of (i := (167, 1, .aload_n 0, (0, 0, 0), 0)) (by decide +kernel)) g0_z hc_z
    replace hc_z := rn_iconst (w := 1) (am_cur_of (i := (168, 1, .iconst 1, (0, 0, 0), 0)) (by decide +kernel)) (by decide) hc_z
    replace hc_z := rn_callV (M' := am_m29) (o := 44) (ar := [.int 1]) (rest := []) (L := lv_args 0 [.ref 44, .int 1]) (am_cur_of (i := (169, 3, .invokevirtual 108, (29, 769, 3), 0)) (by decide +kernel)) rfl rfl rfl rfl hc_z
    obtain ⟨r3885_z, h3886_z, q3887_z, hc_z⟩ := hc_z
    obtain ⟨rfl, yq3887_z⟩ := rp_fail R4 q3887_z
    subst yq3887_z
    replace hc_z : rn _ _ _ _ [] _ _ _ := hc_z
    have K := rs_stick (w := 1) (q := p) (a := 51) (by decide) (by decide) rfl (by decide) rfl (show rg_v (am_up (am_up h 44 1 (.int 1)) 44 2 (.int (rg_v h 44 9))) 44 2 = p from R5) hc_z
    replace hm_z := rn_aload_n (am_cur_of (i := (0, 1, .aload_n 0, (0, 0, 0), 0)) (by decide +kernel)) g0m hm_z
    replace hm_z := rn_bipush (w := 40) (am_cur_of (i := (1, 2, .bipush 40, (0, 0, 0), 0)) (by decide +kernel)) (by decide) hm_z
    replace hm_z := rn_callV (M' := am_m171) (o := 164) (ar := [.int 40]) (rest := []) (L := lv_args 0 [.ref 164, .int 40]) (am_cur_of (i := (3, 3, .invokevirtual 194, (171, 1715, 3), 0)) (by decide +kernel)) rfl rfl rfl rfl hm_z
    obtain ⟨r3888_z, h3889_z, q3890_z, hm_z⟩ := hm_z
    obtain ⟨rfl, yq3890_z⟩ := rp_sgN (fun q => absurd (Eq.trans (Eq.symm kd) q.2) (by decide)) q3890_z
    subst yq3890_z
    replace hm_z : rn _ _ _ _ [.int 0] _ _ _ := hm_z
    replace hm_z := rn_ifT (am_cur_of (i := (6, 3, .ifCond .eq 44, (28, 0, 0), 0)) (by decide +kernel)) (by decide) hm_z
    replace hm_z := rn_aload_n (am_cur_of (i := (50, 1, .aload_n 0, (0, 0, 0), 0)) (by decide +kernel)) g0m hm_z
    replace hm_z := rn_bipush (w := 14) (am_cur_of (i := (51, 2, .bipush 14, (0, 0, 0), 0)) (by decide +kernel)) (by decide) hm_z
    replace hm_z := rn_callV (M' := am_m174) (o := 164) (ar := [.int 14]) (rest := []) (L := lv_args 0 [.ref 164, .int 14]) (am_cur_of (i := (53, 3, .invokevirtual 306, (174, 1727, 3), 0)) (by decide +kernel)) rfl rfl rfl rfl hm_z
    obtain ⟨r3891_z, h3892_z, q3893_z, hm_z⟩ := hm_z
    obtain ⟨rfl, yq3893_z⟩ := rp_kyN (fun q => absurd (Eq.trans (Eq.symm kc) q.1) (by decide)) q3893_z
    subst yq3893_z
    replace hm_z : rn _ _ _ _ [.int 0] _ _ _ := hm_z
    replace hm_z := rn_ifT (am_cur_of (i := (56, 3, .ifCond .eq 30, (47, 0, 0), 0)) (by decide +kernel)) (by decide) hm_z
    replace hm_z := rn_aload_n (am_cur_of (i := (86, 1, .aload_n 0, (0, 0, 0), 0)) (by decide +kernel)) g0m hm_z
    replace hm_z := rn_callV (M' := am_m176) (o := 164) (ar := []) (rest := []) (L := lv_args 0 [.ref 164]) (am_cur_of (i := (87, 3, .invokevirtual 312, (176, 1735, 3), 0)) (by decide +kernel)) rfl rfl rfl rfl hm_z
    obtain ⟨r3894_z, h3895_z, q3896_z, hm_z⟩ := hm_z
    obtain ⟨rfl, yq3896_z⟩ := rp_nm (c := 4) (d := 47) kc kd q3896_z
    replace yq3896_z := yq3896_z.symm
    subst yq3896_z
    rw [show rp_nmf 4 47 = (-1) from by unfold rp_nmf; rw [if_neg (by decide)]] at hm_z
    replace hm_z : rn _ _ _ _ [.int (-1)] _ _ _ := hm_z
    replace hm_z := rn_istore_n (am_cur_of (i := (90, 1, .istore_n 1, (0, 0, 0), 0)) (by decide +kernel)) hm_z
    obtain ⟨_, s3897_z, s3898_z, g1m, hm_z⟩ := hm_z
    replace g0m := s3897_z 0 _ (by decide) rfl g0m
    clear s3897_z s3898_z
    replace hm_z := rn_iload_n (am_cur_of (i := (91, 1, .iload_n 1, (0, 0, 0), 0)) (by decide +kernel)) g1m hm_z
    replace hm_z := rn_ifF (am_cur_of (i := (92, 3, .ifCond .ge 17, (60, 0, 0), 0)) (by decide +kernel)) (by decide) hm_z
    replace hm_z := rn_aload_n (am_cur_of (i := (95, 1, .aload_n 0, (0, 0, 0), 0)) (by decide +kernel)) g0m hm_z
    replace hm_z := rn_getI (v := 4) (am_cur_of (i := (96, 3, .getfield 157, (12, 8, 1392), 0)) (by decide +kernel)) (by decide +kernel) kc hm_z
    replace hm_z := rn_iconst (w := 3) (am_cur_of (i := (99, 1, .iconst 3, (0, 0, 0), 0)) (by decide +kernel)) (by decide) hm_z
    replace hm_z := rn_cmpF (am_cur_of (i := (100, 3, .if_icmp .eq 9, (60, 0, 0), 0)) (by decide +kernel)) (by decide) hm_z
    replace hm_z := rn_aload_n (am_cur_of (i := (103, 1, .aload_n 0, (0, 0, 0), 0)) (by decide +kernel)) g0m hm_z
    replace hm_z := rn_iconst (w := 1) (am_cur_of (i := (104, 1, .iconst 1, (0, 0, 0), 0)) (by decide +kernel)) (by decide) hm_z
    replace hm_z := rn_callV (M' := am_m158) (o := 164) (ar := [.int 1]) (rest := []) (L := lv_args 0 [.ref 164, .int 1]) (am_cur_of (i := (105, 3, .invokevirtual 181, (158, 1665, 3), 0)) (by decide +kernel)) rfl rfl rfl rfl hm_z
    obtain ⟨r3899_z, h3900_z, q3901_z, hm_z⟩ := hm_z
    obtain ⟨rfl, yq3901_z⟩ := rp_wrong q3901_z
    subst yq3901_z
    replace hm_z : rn _ _ _ _ [.int 0] _ _ _ := hm_z
    replace hm_z := rn_iret (am_cur_of (i := (108, 1, .ireturn, (0, 0, 0), 0)) (by decide +kernel)) hm_z
    obtain ⟨e3902_z, e3903_z⟩ := hm_z
    subst e3902_z e3903_z
    exact (Or.inr ⟨rfl, 1, by decide, K.1, K.2, rfl, R6⟩)
