/-! ===== readJoin against signs, 2 (wip/r/gen99qu.py) ===== -/
def rj_Q (T : Nat → Int32) (S x p : Int32) (d : Nat) (h g h' g' : am_H) (r r' : Option Value) : Prop := rv_Q T S x p d h' g' r r' ∨ (r = some (.int 3) ∧ h' = h ∧ rg_v h 44 14 = 0 ∧ r' = some (.int 0) ∧ g' = rp_W 1 g)
theorem rj_c0_2 {T : Nat → Int32} {S x p : Int32} {n n' : Nat} {h h' g g' : am_H} {r r' : Option Value} (R : rq T S x p 2 h g) (A : rp 2 h g) (B : rp_t h g) (Z : rs 2 h g) (w0_z : rg_v g 164 45 = 0) (ka : (rg_v h 44 10) = 0) (kc : (rg_v g 164 8) = 0) (hc_z : rn n am_m44 0 (lv_args 0 [.ref 44]) [] h r h') (hm_z : rn n' am_m178 0 (lv_args 0 [.ref 164]) [] g r' g') : rj_Q T S x p 2 h g h' g' r r' := by
  have z0_z : (0 : Int32).toInt = 0 := by decide
  have g0_z : am_get (lv_args 0 [.ref 44]) 0 = some (.ref 44) := rfl
  have g0m : am_get (lv_args 0 [.ref 164]) 0 = some (.ref 164) := rfl
  have Rk := R
  have Zk := Z
  obtain ⟨⟨c1_z, c2_z, c3_z, c4_z, c5_z, c6_z, c7_z, c8_z⟩, ⟨m2_z, m3_z, m4_z, m5_z, m6_z, m7_z, m8_z⟩, R3, R4, R5, R6, R7, R8, R9, R10⟩ := (R : rq T S x p 2 h g)
  obtain ⟨np, op, z1_z, z2_z, z3_z, z4_z, z5_z, z6_z, z7_z, z8_z, z9_z, z10_z⟩ := (Z : rs 2 h g)
  obtain ⟨nk1_z, nk2_z, nk3_z⟩ := A.2.2.2.2.2.1
  replace nk1_z : rg_v h 11 0 = rg_v g 164 44 := nk1_z
  replace nk2_z : 0 ≤ (rg_v h 11 0).toInt := nk2_z
  replace nk3_z : (rg_v h 11 0).toInt ≤ 64 := nk3_z
  replace z8_z : np.toInt ≤ (rg_v h 11 0).toInt + op.toInt := z8_z
  obtain ⟨kn, ekn⟩ : ∃ v, rg_v h 11 0 = v := ⟨_, rfl⟩
  rw [ekn] at nk1_z nk2_z nk3_z z8_z
  have e9_z := rt_c1 (x := kn) (by omega) (by omega)
  replace hc_z := rn_aload_n (am_cur_of (i := (0, 1, .aload_n 0, (0, 0, 0), 0)) (by decide +kernel)) g0_z hc_z
  replace hc_z := rn_bipush (w := 41) (am_cur_of (i := (1, 2, .bipush 41, (0, 0, 0), 0)) (by decide +kernel)) (by decide) hc_z
  replace hc_z := rn_callV (M' := am_m45) (o := 44) (ar := [.int 41]) (rest := []) (L := lv_args 0 [.ref 44, .int 41]) (am_cur_of (i := (3, 3, .invokevirtual 105, (45, 834, 3), 0)) (by decide +kernel)) rfl rfl rfl rfl hc_z
  obtain ⟨r3904_z, h3905_z, q3906_z, hc_z⟩ := hc_z
  obtain ⟨rfl, yq3906_z⟩ := rp_mkN (fun q => absurd (Eq.trans (Eq.symm ka) q.1) (by decide)) q3906_z
  subst yq3906_z
  replace hc_z : rn _ _ _ _ [.int 0] _ _ _ := hc_z
  replace hc_z := rn_ifT (am_cur_of (i := (6, 3, .ifCond .eq 45, (28, 0, 0), 0)) (by decide +kernel)) (by decide) hc_z
  replace hc_z := rn_aload_n (am_cur_of (i := (51, 1, .aload_n 0, (0, 0, 0), 0)) (by decide +kernel)) g0_z hc_z
  replace hc_z := rn_getI (v := 0) (am_cur_of (i := (52, 3, .getfield 60, (4, 10, 419), 0)) (by decide +kernel)) (by decide +kernel) ka hc_z
  replace hc_z := rn_bipush (w := 6) (am_cur_of (i := (55, 2, .bipush 6, (0, 0, 0), 0)) (by decide +kernel)) (by decide) hc_z
  replace hc_z := rn_cmpT (am_cur_of (i := (57, 3, .if_icmp .ne 11, (36, 0, 0), 0)) (by decide +kernel)) (by decide) hc_z
  replace hc_z := rn_aload_n (am_cur_of (i := (68, 1, .aload_n 0, (0, 0, 0), 0)) (by decide +kernel)) g0_z hc_z
  replace hc_z := rn_getI (v := op) (am_cur_of (i := (69, 3, .getfield 254, (4, 14, 423), 0)) (by decide +kernel)) (by decide +kernel) z4_z hc_z
  replace hc_z := rn_if (am_cur_of (i := (72, 3, .ifCond .le 8, (42, 0, 0), 0)) (by decide +kernel)) hc_z
  rcases hc_z with ⟨b3907_z, hc_z⟩ | ⟨b3907_z, hc_z⟩
  · replace b3907_z : op.toInt ≤ (0 : Int32).toInt := b3907_z
    replace hc_z := rn_iconst (w := 3) (am_cur_of (i := (80, 1, .iconst 3, (0, 0, 0), 0)) (by decide +kernel)) (by decide) hc_z
    replace hc_z := rn_iret (am_cur_of (i := (81, 1, .ireturn, (0, 0, 0), 0)) (by decide +kernel)) hc_z
    obtain ⟨e3908_z, e3909_z⟩ := hc_z
    replace hm_z := rn_aload_n (am_cur_of (i := (0, 1, .aload_n 0, (0, 0, 0), 0)) (by decide +kernel)) g0m hm_z
    replace hm_z := rn_bipush (w := 41) (am_cur_of (i := (1, 2, .bipush 41, (0, 0, 0), 0)) (by decide +kernel)) (by decide) hm_z
    replace hm_z := rn_callV (M' := am_m171) (o := 164) (ar := [.int 41]) (rest := []) (L := lv_args 0 [.ref 164, .int 41]) (am_cur_of (i := (3, 3, .invokevirtual 194, (171, 1715, 3), 0)) (by decide +kernel)) rfl rfl rfl rfl hm_z
    obtain ⟨r3910_z, h3911_z, q3912_z, hm_z⟩ := hm_z
    obtain ⟨rfl, yq3912_z⟩ := rp_sgN (fun q => absurd (Eq.trans (Eq.symm kc) q.1) (by decide)) q3912_z
    subst yq3912_z
    replace hm_z : rn _ _ _ _ [.int 0] _ _ _ := hm_z
    replace hm_z := rn_ifT (am_cur_of (i := (6, 3, .ifCond .eq 41, (26, 0, 0), 0)) (by decide +kernel)) (by decide) hm_z
    replace hm_z := rn_aload_n (am_cur_of (i := (47, 1, .aload_n 0, (0, 0, 0), 0)) (by decide +kernel)) g0m hm_z
    replace hm_z := rn_bipush (w := 12) (am_cur_of (i := (48, 2, .bipush 12, (0, 0, 0), 0)) (by decide +kernel)) (by decide) hm_z
    replace hm_z := rn_callV (M' := am_m174) (o := 164) (ar := [.int 12]) (rest := []) (L := lv_args 0 [.ref 164, .int 12]) (am_cur_of (i := (50, 3, .invokevirtual 306, (174, 1727, 3), 0)) (by decide +kernel)) rfl rfl rfl rfl hm_z
    obtain ⟨r3913_z, h3914_z, q3915_z, hm_z⟩ := hm_z
    obtain ⟨rfl, yq3915_z⟩ := rp_kyN (fun q => absurd (Eq.trans (Eq.symm kc) q.1) (by decide)) q3915_z
    subst yq3915_z
    replace hm_z : rn _ _ _ _ [.int 0] _ _ _ := hm_z
    replace hm_z := rn_ifT (am_cur_of (i := (53, 3, .ifCond .eq 7, (32, 0, 0), 0)) (by decide +kernel)) (by decide) hm_z
    replace hm_z := rn_aload_n (am_cur_of (i := (60, 1, .aload_n 0, (0, 0, 0), 0)) (by decide +kernel)) g0m hm_z
    replace hm_z := rn_bipush (w := 13) (am_cur_of (i := (61, 2, .bipush 13, (0, 0, 0), 0)) (by decide +kernel)) (by decide) hm_z
    replace hm_z := rn_callV (M' := am_m174) (o := 164) (ar := [.int 13]) (rest := []) (L := lv_args 0 [.ref 164, .int 13]) (am_cur_of (i := (63, 3, .invokevirtual 306, (174, 1727, 3), 0)) (by decide +kernel)) rfl rfl rfl rfl hm_z
    obtain ⟨r3916_z, h3917_z, q3918_z, hm_z⟩ := hm_z
    obtain ⟨rfl, yq3918_z⟩ := rp_kyN (fun q => absurd (Eq.trans (Eq.symm kc) q.1) (by decide)) q3918_z
    subst yq3918_z
    replace hm_z : rn _ _ _ _ [.int 0] _ _ _ := hm_z
    replace hm_z := rn_ifT (am_cur_of (i := (66, 3, .ifCond .eq 7, (38, 0, 0), 0)) (by decide +kernel)) (by decide) hm_z
    replace hm_z := rn_aload_n (am_cur_of (i := (73, 1, .aload_n 0, (0, 0, 0), 0)) (by decide +kernel)) g0m hm_z
    replace hm_z := rn_getI (v := 0) (am_cur_of (i := (74, 3, .getfield 157, (12, 8, 1392), 0)) (by decide +kernel)) (by decide +kernel) kc hm_z
    replace hm_z := rn_iconst (w := 5) (am_cur_of (i := (77, 1, .iconst 5, (0, 0, 0), 0)) (by decide +kernel)) (by decide) hm_z
    replace hm_z := rn_cmpT (am_cur_of (i := (78, 3, .if_icmp .ne 12, (47, 0, 0), 0)) (by decide +kernel)) (by decide) hm_z
    replace hm_z := rn_aload_n (am_cur_of (i := (90, 1, .aload_n 0, (0, 0, 0), 0)) (by decide +kernel)) g0m hm_z
    replace hm_z := rn_bipush (w := 43) (am_cur_of (i := (91, 2, .bipush 43, (0, 0, 0), 0)) (by decide +kernel)) (by decide) hm_z
    replace hm_z := rn_callV (M' := am_m171) (o := 164) (ar := [.int 43]) (rest := []) (L := lv_args 0 [.ref 164, .int 43]) (am_cur_of (i := (93, 3, .invokevirtual 194, (171, 1715, 3), 0)) (by decide +kernel)) rfl rfl rfl rfl hm_z
    obtain ⟨r3919_z, h3920_z, q3921_z, hm_z⟩ := hm_z
    obtain ⟨rfl, yq3921_z⟩ := rp_sgN (fun q => absurd (Eq.trans (Eq.symm kc) q.1) (by decide)) q3921_z
    subst yq3921_z
    replace hm_z : rn _ _ _ _ [.int 0] _ _ _ := hm_z
    replace hm_z := rn_ifT (am_cur_of (i := (96, 3, .ifCond .eq 8, (53, 0, 0), 0)) (by decide +kernel)) (by decide) hm_z
    replace hm_z := rn_aload_n (am_cur_of (i := (104, 1, .aload_n 0, (0, 0, 0), 0)) (by decide +kernel)) g0m hm_z
    replace hm_z := rn_bipush (w := 45) (am_cur_of (i := (105, 2, .bipush 45, (0, 0, 0), 0)) (by decide +kernel)) (by decide) hm_z
    replace hm_z := rn_callV (M' := am_m171) (o := 164) (ar := [.int 45]) (rest := []) (L := lv_args 0 [.ref 164, .int 45]) (am_cur_of (i := (107, 3, .invokevirtual 194, (171, 1715, 3), 0)) (by decide +kernel)) rfl rfl rfl rfl hm_z
    obtain ⟨r3922_z, h3923_z, q3924_z, hm_z⟩ := hm_z
    obtain ⟨rfl, yq3924_z⟩ := rp_sgN (fun q => absurd (Eq.trans (Eq.symm kc) q.1) (by decide)) q3924_z
    subst yq3924_z
    replace hm_z : rn _ _ _ _ [.int 0] _ _ _ := hm_z
    replace hm_z := rn_ifT (am_cur_of (i := (110, 3, .ifCond .eq 8, (59, 0, 0), 0)) (by decide +kernel)) (by decide) hm_z
    replace hm_z := rn_aload_n (am_cur_of (i := (118, 1, .aload_n 0, (0, 0, 0), 0)) (by decide +kernel)) g0m hm_z
    replace hm_z := rn_bipush (w := 42) (am_cur_of (i := (119, 2, .bipush 42, (0, 0, 0), 0)) (by decide +kernel)) (by decide) hm_z
    replace hm_z := rn_callV (M' := am_m171) (o := 164) (ar := [.int 42]) (rest := []) (L := lv_args 0 [.ref 164, .int 42]) (am_cur_of (i := (121, 3, .invokevirtual 194, (171, 1715, 3), 0)) (by decide +kernel)) rfl rfl rfl rfl hm_z
    obtain ⟨r3925_z, h3926_z, q3927_z, hm_z⟩ := hm_z
    obtain ⟨rfl, yq3927_z⟩ := rp_sgN (fun q => absurd (Eq.trans (Eq.symm kc) q.1) (by decide)) q3927_z
    subst yq3927_z
    replace hm_z : rn _ _ _ _ [.int 0] _ _ _ := hm_z
    replace hm_z := rn_ifT (am_cur_of (i := (124, 3, .ifCond .eq 8, (65, 0, 0), 0)) (by decide +kernel)) (by decide) hm_z
    replace hm_z := rn_aload_n (am_cur_of (i := (132, 1, .aload_n 0, (0, 0, 0), 0)) (by decide +kernel)) g0m hm_z
    replace hm_z := rn_bipush (w := 47) (am_cur_of (i := (133, 2, .bipush 47, (0, 0, 0), 0)) (by decide +kernel)) (by decide) hm_z
    replace hm_z := rn_callV (M' := am_m171) (o := 164) (ar := [.int 47]) (rest := []) (L := lv_args 0 [.ref 164, .int 47]) (am_cur_of (i := (135, 3, .invokevirtual 194, (171, 1715, 3), 0)) (by decide +kernel)) rfl rfl rfl rfl hm_z
    obtain ⟨r3928_z, h3929_z, q3930_z, hm_z⟩ := hm_z
    obtain ⟨rfl, yq3930_z⟩ := rp_sgN (fun q => absurd (Eq.trans (Eq.symm kc) q.1) (by decide)) q3930_z
    subst yq3930_z
    replace hm_z : rn _ _ _ _ [.int 0] _ _ _ := hm_z
    replace hm_z := rn_ifT (am_cur_of (i := (138, 3, .ifCond .eq 8, (71, 0, 0), 0)) (by decide +kernel)) (by decide) hm_z
    replace hm_z := rn_iconst (w := 0) (am_cur_of (i := (146, 1, .iconst 0, (0, 0, 0), 0)) (by decide +kernel)) (by decide) hm_z
    replace hm_z := rn_istore_n (am_cur_of (i := (147, 1, .istore_n 1, (0, 0, 0), 0)) (by decide +kernel)) hm_z
    obtain ⟨_, s3931_z, s3932_z, g1m, hm_z⟩ := hm_z
    replace g0m := s3931_z 0 _ (by decide) rfl g0m
    clear s3931_z s3932_z
    replace hm_z := rn_iload_n (am_cur_of (i := (148, 1, .iload_n 1, (0, 0, 0), 0)) (by decide +kernel)) g1m hm_z
    replace hm_z := rn_ifF (am_cur_of (i := (149, 3, .ifCond .ne 9, (79, 0, 0), 0)) (by decide +kernel)) (by decide) hm_z
    replace hm_z := rn_aload_n (am_cur_of (i := (152, 1, .aload_n 0, (0, 0, 0), 0)) (by decide +kernel)) g0m hm_z
    replace hm_z := rn_iconst (w := 1) (am_cur_of (i := (153, 1, .iconst 1, (0, 0, 0), 0)) (by decide +kernel)) (by decide) hm_z
    replace hm_z := rn_callV (M' := am_m158) (o := 164) (ar := [.int 1]) (rest := []) (L := lv_args 0 [.ref 164, .int 1]) (am_cur_of (i := (154, 3, .invokevirtual 181, (158, 1665, 3), 0)) (by decide +kernel)) rfl rfl rfl rfl hm_z
    obtain ⟨r3933_z, h3934_z, q3935_z, hm_z⟩ := hm_z
    obtain ⟨rfl, yq3935_z⟩ := rp_wrong q3935_z
    subst yq3935_z
    replace hm_z : rn _ _ _ _ [.int 0] _ _ _ := hm_z
    replace hm_z := rn_iret (am_cur_of (i := (157, 1, .ireturn, (0, 0, 0), 0)) (by decide +kernel)) hm_z
    obtain ⟨e3936_z, e3937_z⟩ := hm_z
    subst e3909_z e3937_z
    exact Or.inr ⟨e3908_z, rfl, z4_z.trans (rt_i32 (by rw [show (0 : Int32).toInt = 0 by decide]; omega)), e3936_z, rfl⟩
  · replace b3907_z : (0 : Int32).toInt < op.toInt := b3907_z
    replace hc_z := rn_aload_n (am_cur_of (i := (75, 1, .aload_n 0, (0, 0, 0), 0)) (by decide +kernel)) g0_z hc_z
    replace hc_z := rn_iconst (w := 1) (am_cur_of (i := (76, 1, .iconst 1, (0, 0, 0), 0)) (by decide +kernel)) (by decide) hc_z
    replace hc_z := rn_callV (M' := am_m29) (o := 44) (ar := [.int 1]) (rest := []) (L := lv_args 0 [.ref 44, .int 1]) (am_cur_of (i := (77, 3, .invokevirtual 108, (29, 769, 3), 0)) (by decide +kernel)) rfl rfl rfl rfl hc_z
    obtain ⟨r3938_z, h3939_z, q3940_z, hc_z⟩ := hc_z
    obtain ⟨rfl, yq3940_z⟩ := rp_fail R4 q3940_z
    subst yq3940_z
    replace hc_z : rn _ _ _ _ [] _ _ _ := hc_z
    have K := rs_stick (w := 1) (q := p) (a := 44) (by decide) (by decide) rfl (by decide) rfl (show rg_v (am_up (am_up h 44 1 (.int 1)) 44 2 (.int (rg_v h 44 9))) 44 2 = p from R5) hc_z
    replace hm_z := rn_aload_n (am_cur_of (i := (0, 1, .aload_n 0, (0, 0, 0), 0)) (by decide +kernel)) g0m hm_z
    replace hm_z := rn_bipush (w := 41) (am_cur_of (i := (1, 2, .bipush 41, (0, 0, 0), 0)) (by decide +kernel)) (by decide) hm_z
    replace hm_z := rn_callV (M' := am_m171) (o := 164) (ar := [.int 41]) (rest := []) (L := lv_args 0 [.ref 164, .int 41]) (am_cur_of (i := (3, 3, .invokevirtual 194, (171, 1715, 3), 0)) (by decide +kernel)) rfl rfl rfl rfl hm_z
    obtain ⟨r3941_z, h3942_z, q3943_z, hm_z⟩ := hm_z
    obtain ⟨rfl, yq3943_z⟩ := rp_sgN (fun q => absurd (Eq.trans (Eq.symm kc) q.1) (by decide)) q3943_z
    subst yq3943_z
    replace hm_z : rn _ _ _ _ [.int 0] _ _ _ := hm_z
    replace hm_z := rn_ifT (am_cur_of (i := (6, 3, .ifCond .eq 41, (26, 0, 0), 0)) (by decide +kernel)) (by decide) hm_z
    replace hm_z := rn_aload_n (am_cur_of (i := (47, 1, .aload_n 0, (0, 0, 0), 0)) (by decide +kernel)) g0m hm_z
    replace hm_z := rn_bipush (w := 12) (am_cur_of (i := (48, 2, .bipush 12, (0, 0, 0), 0)) (by decide +kernel)) (by decide) hm_z
    replace hm_z := rn_callV (M' := am_m174) (o := 164) (ar := [.int 12]) (rest := []) (L := lv_args 0 [.ref 164, .int 12]) (am_cur_of (i := (50, 3, .invokevirtual 306, (174, 1727, 3), 0)) (by decide +kernel)) rfl rfl rfl rfl hm_z
    obtain ⟨r3944_z, h3945_z, q3946_z, hm_z⟩ := hm_z
    obtain ⟨rfl, yq3946_z⟩ := rp_kyN (fun q => absurd (Eq.trans (Eq.symm kc) q.1) (by decide)) q3946_z
    subst yq3946_z
    replace hm_z : rn _ _ _ _ [.int 0] _ _ _ := hm_z
    replace hm_z := rn_ifT (am_cur_of (i := (53, 3, .ifCond .eq 7, (32, 0, 0), 0)) (by decide +kernel)) (by decide) hm_z
    replace hm_z := rn_aload_n (am_cur_of (i := (60, 1, .aload_n 0, (0, 0, 0), 0)) (by decide +kernel)) g0m hm_z
    replace hm_z := rn_bipush (w := 13) (am_cur_of (i := (61, 2, .bipush 13, (0, 0, 0), 0)) (by decide +kernel)) (by decide) hm_z
    replace hm_z := rn_callV (M' := am_m174) (o := 164) (ar := [.int 13]) (rest := []) (L := lv_args 0 [.ref 164, .int 13]) (am_cur_of (i := (63, 3, .invokevirtual 306, (174, 1727, 3), 0)) (by decide +kernel)) rfl rfl rfl rfl hm_z
    obtain ⟨r3947_z, h3948_z, q3949_z, hm_z⟩ := hm_z
    obtain ⟨rfl, yq3949_z⟩ := rp_kyN (fun q => absurd (Eq.trans (Eq.symm kc) q.1) (by decide)) q3949_z
    subst yq3949_z
    replace hm_z : rn _ _ _ _ [.int 0] _ _ _ := hm_z
    replace hm_z := rn_ifT (am_cur_of (i := (66, 3, .ifCond .eq 7, (38, 0, 0), 0)) (by decide +kernel)) (by decide) hm_z
    replace hm_z := rn_aload_n (am_cur_of (i := (73, 1, .aload_n 0, (0, 0, 0), 0)) (by decide +kernel)) g0m hm_z
    replace hm_z := rn_getI (v := 0) (am_cur_of (i := (74, 3, .getfield 157, (12, 8, 1392), 0)) (by decide +kernel)) (by decide +kernel) kc hm_z
    replace hm_z := rn_iconst (w := 5) (am_cur_of (i := (77, 1, .iconst 5, (0, 0, 0), 0)) (by decide +kernel)) (by decide) hm_z
    replace hm_z := rn_cmpT (am_cur_of (i := (78, 3, .if_icmp .ne 12, (47, 0, 0), 0)) (by decide +kernel)) (by decide) hm_z
    replace hm_z := rn_aload_n (am_cur_of (i := (90, 1, .aload_n 0, (0, 0, 0), 0)) (by decide +kernel)) g0m hm_z
    replace hm_z := rn_bipush (w := 43) (am_cur_of (i := (91, 2, .bipush 43, (0, 0, 0), 0)) (by decide +kernel)) (by decide) hm_z
    replace hm_z := rn_callV (M' := am_m171) (o := 164) (ar := [.int 43]) (rest := []) (L := lv_args 0 [.ref 164, .int 43]) (am_cur_of (i := (93, 3, .invokevirtual 194, (171, 1715, 3), 0)) (by decide +kernel)) rfl rfl rfl rfl hm_z
    obtain ⟨r3950_z, h3951_z, q3952_z, hm_z⟩ := hm_z
    obtain ⟨rfl, yq3952_z⟩ := rp_sgN (fun q => absurd (Eq.trans (Eq.symm kc) q.1) (by decide)) q3952_z
    subst yq3952_z
    replace hm_z : rn _ _ _ _ [.int 0] _ _ _ := hm_z
    replace hm_z := rn_ifT (am_cur_of (i := (96, 3, .ifCond .eq 8, (53, 0, 0), 0)) (by decide +kernel)) (by decide) hm_z
    replace hm_z := rn_aload_n (am_cur_of (i := (104, 1, .aload_n 0, (0, 0, 0), 0)) (by decide +kernel)) g0m hm_z
    replace hm_z := rn_bipush (w := 45) (am_cur_of (i := (105, 2, .bipush 45, (0, 0, 0), 0)) (by decide +kernel)) (by decide) hm_z
    replace hm_z := rn_callV (M' := am_m171) (o := 164) (ar := [.int 45]) (rest := []) (L := lv_args 0 [.ref 164, .int 45]) (am_cur_of (i := (107, 3, .invokevirtual 194, (171, 1715, 3), 0)) (by decide +kernel)) rfl rfl rfl rfl hm_z
    obtain ⟨r3953_z, h3954_z, q3955_z, hm_z⟩ := hm_z
    obtain ⟨rfl, yq3955_z⟩ := rp_sgN (fun q => absurd (Eq.trans (Eq.symm kc) q.1) (by decide)) q3955_z
    subst yq3955_z
    replace hm_z : rn _ _ _ _ [.int 0] _ _ _ := hm_z
    replace hm_z := rn_ifT (am_cur_of (i := (110, 3, .ifCond .eq 8, (59, 0, 0), 0)) (by decide +kernel)) (by decide) hm_z
    replace hm_z := rn_aload_n (am_cur_of (i := (118, 1, .aload_n 0, (0, 0, 0), 0)) (by decide +kernel)) g0m hm_z
    replace hm_z := rn_bipush (w := 42) (am_cur_of (i := (119, 2, .bipush 42, (0, 0, 0), 0)) (by decide +kernel)) (by decide) hm_z
    replace hm_z := rn_callV (M' := am_m171) (o := 164) (ar := [.int 42]) (rest := []) (L := lv_args 0 [.ref 164, .int 42]) (am_cur_of (i := (121, 3, .invokevirtual 194, (171, 1715, 3), 0)) (by decide +kernel)) rfl rfl rfl rfl hm_z
    obtain ⟨r3956_z, h3957_z, q3958_z, hm_z⟩ := hm_z
    obtain ⟨rfl, yq3958_z⟩ := rp_sgN (fun q => absurd (Eq.trans (Eq.symm kc) q.1) (by decide)) q3958_z
    subst yq3958_z
    replace hm_z : rn _ _ _ _ [.int 0] _ _ _ := hm_z
    replace hm_z := rn_ifT (am_cur_of (i := (124, 3, .ifCond .eq 8, (65, 0, 0), 0)) (by decide +kernel)) (by decide) hm_z
    replace hm_z := rn_aload_n (am_cur_of (i := (132, 1, .aload_n 0, (0, 0, 0), 0)) (by decide +kernel)) g0m hm_z
    replace hm_z := rn_bipush (w := 47) (am_cur_of (i := (133, 2, .bipush 47, (0, 0, 0), 0)) (by decide +kernel)) (by decide) hm_z
    replace hm_z := rn_callV (M' := am_m171) (o := 164) (ar := [.int 47]) (rest := []) (L := lv_args 0 [.ref 164, .int 47]) (am_cur_of (i := (135, 3, .invokevirtual 194, (171, 1715, 3), 0)) (by decide +kernel)) rfl rfl rfl rfl hm_z
    obtain ⟨r3959_z, h3960_z, q3961_z, hm_z⟩ := hm_z
    obtain ⟨rfl, yq3961_z⟩ := rp_sgN (fun q => absurd (Eq.trans (Eq.symm kc) q.1) (by decide)) q3961_z
    subst yq3961_z
    replace hm_z : rn _ _ _ _ [.int 0] _ _ _ := hm_z
    replace hm_z := rn_ifT (am_cur_of (i := (138, 3, .ifCond .eq 8, (71, 0, 0), 0)) (by decide +kernel)) (by decide) hm_z
    replace hm_z := rn_iconst (w := 0) (am_cur_of (i := (146, 1, .iconst 0, (0, 0, 0), 0)) (by decide +kernel)) (by decide) hm_z
    replace hm_z := rn_istore_n (am_cur_of (i := (147, 1, .istore_n 1, (0, 0, 0), 0)) (by decide +kernel)) hm_z
    obtain ⟨_, s3962_z, s3963_z, g1m, hm_z⟩ := hm_z
    replace g0m := s3962_z 0 _ (by decide) rfl g0m
    clear s3962_z s3963_z
    replace hm_z := rn_iload_n (am_cur_of (i := (148, 1, .iload_n 1, (0, 0, 0), 0)) (by decide +kernel)) g1m hm_z
    replace hm_z := rn_ifF (am_cur_of (i := (149, 3, .ifCond .ne 9, (79, 0, 0), 0)) (by decide +kernel)) (by decide) hm_z
    replace hm_z := rn_aload_n (am_cur_of (i := (152, 1, .aload_n 0, (0, 0, 0), 0)) (by decide +kernel)) g0m hm_z
    replace hm_z := rn_iconst (w := 1) (am_cur_of (i := (153, 1, .iconst 1, (0, 0, 0), 0)) (by decide +kernel)) (by decide) hm_z
    replace hm_z := rn_callV (M' := am_m158) (o := 164) (ar := [.int 1]) (rest := []) (L := lv_args 0 [.ref 164, .int 1]) (am_cur_of (i := (154, 3, .invokevirtual 181, (158, 1665, 3), 0)) (by decide +kernel)) rfl rfl rfl rfl hm_z
    obtain ⟨r3964_z, h3965_z, q3966_z, hm_z⟩ := hm_z
    obtain ⟨rfl, yq3966_z⟩ := rp_wrong q3966_z
    subst yq3966_z
    replace hm_z : rn _ _ _ _ [.int 0] _ _ _ := hm_z
    replace hm_z := rn_iret (am_cur_of (i := (157, 1, .ireturn, (0, 0, 0), 0)) (by decide +kernel)) hm_z
    obtain ⟨e3967_z, e3968_z⟩ := hm_z
    subst e3967_z e3968_z
    exact Or.inl (Or.inr ⟨rfl, 1, by decide, K.1, K.2, rfl, R6⟩)
theorem rj_c1_2 {T : Nat → Int32} {S x p : Int32} {n n' : Nat} {h h' g g' : am_H} {r r' : Option Value} (R : rq T S x p 2 h g) (A : rp 2 h g) (B : rp_t h g) (Z : rs 2 h g) (w0_z : rg_v g 164 45 = 0) (ka : (rg_v h 44 10) = 1) (kc : (rg_v g 164 8) = 6) (hc_z : rn n am_m44 0 (lv_args 0 [.ref 44]) [] h r h') (hm_z : rn n' am_m178 0 (lv_args 0 [.ref 164]) [] g r' g') : rj_Q T S x p 2 h g h' g' r r' := by
  have z0_z : (0 : Int32).toInt = 0 := by decide
  have g0_z : am_get (lv_args 0 [.ref 44]) 0 = some (.ref 44) := rfl
  have g0m : am_get (lv_args 0 [.ref 164]) 0 = some (.ref 164) := rfl
  have Rk := R
  have Zk := Z
  obtain ⟨⟨c1_z, c2_z, c3_z, c4_z, c5_z, c6_z, c7_z, c8_z⟩, ⟨m2_z, m3_z, m4_z, m5_z, m6_z, m7_z, m8_z⟩, R3, R4, R5, R6, R7, R8, R9, R10⟩ := (R : rq T S x p 2 h g)
  obtain ⟨np, op, z1_z, z2_z, z3_z, z4_z, z5_z, z6_z, z7_z, z8_z, z9_z, z10_z⟩ := (Z : rs 2 h g)
  obtain ⟨nk1_z, nk2_z, nk3_z⟩ := A.2.2.2.2.2.1
  replace nk1_z : rg_v h 11 0 = rg_v g 164 44 := nk1_z
  replace nk2_z : 0 ≤ (rg_v h 11 0).toInt := nk2_z
  replace nk3_z : (rg_v h 11 0).toInt ≤ 64 := nk3_z
  replace z8_z : np.toInt ≤ (rg_v h 11 0).toInt + op.toInt := z8_z
  obtain ⟨kn, ekn⟩ : ∃ v, rg_v h 11 0 = v := ⟨_, rfl⟩
  rw [ekn] at nk1_z nk2_z nk3_z z8_z
  have e9_z := rt_c1 (x := kn) (by omega) (by omega)
  replace hc_z := rn_aload_n (am_cur_of (i := (0, 1, .aload_n 0, (0, 0, 0), 0)) (by decide +kernel)) g0_z hc_z
  replace hc_z := rn_bipush (w := 41) (am_cur_of (i := (1, 2, .bipush 41, (0, 0, 0), 0)) (by decide +kernel)) (by decide) hc_z
  replace hc_z := rn_callV (M' := am_m45) (o := 44) (ar := [.int 41]) (rest := []) (L := lv_args 0 [.ref 44, .int 41]) (am_cur_of (i := (3, 3, .invokevirtual 105, (45, 834, 3), 0)) (by decide +kernel)) rfl rfl rfl rfl hc_z
  obtain ⟨r3969_z, h3970_z, q3971_z, hc_z⟩ := hc_z
  obtain ⟨rfl, yq3971_z⟩ := rp_mkN (fun q => absurd (Eq.trans (Eq.symm ka) q.1) (by decide)) q3971_z
  subst yq3971_z
  replace hc_z : rn _ _ _ _ [.int 0] _ _ _ := hc_z
  replace hc_z := rn_ifT (am_cur_of (i := (6, 3, .ifCond .eq 45, (28, 0, 0), 0)) (by decide +kernel)) (by decide) hc_z
  replace hc_z := rn_aload_n (am_cur_of (i := (51, 1, .aload_n 0, (0, 0, 0), 0)) (by decide +kernel)) g0_z hc_z
  replace hc_z := rn_getI (v := 1) (am_cur_of (i := (52, 3, .getfield 60, (4, 10, 419), 0)) (by decide +kernel)) (by decide +kernel) ka hc_z
  replace hc_z := rn_bipush (w := 6) (am_cur_of (i := (55, 2, .bipush 6, (0, 0, 0), 0)) (by decide +kernel)) (by decide) hc_z
  replace hc_z := rn_cmpT (am_cur_of (i := (57, 3, .if_icmp .ne 11, (36, 0, 0), 0)) (by decide +kernel)) (by decide) hc_z
  replace hc_z := rn_aload_n (am_cur_of (i := (68, 1, .aload_n 0, (0, 0, 0), 0)) (by decide +kernel)) g0_z hc_z
  replace hc_z := rn_getI (v := op) (am_cur_of (i := (69, 3, .getfield 254, (4, 14, 423), 0)) (by decide +kernel)) (by decide +kernel) z4_z hc_z
  replace hc_z := rn_if (am_cur_of (i := (72, 3, .ifCond .le 8, (42, 0, 0), 0)) (by decide +kernel)) hc_z
  rcases hc_z with ⟨b3972_z, hc_z⟩ | ⟨b3972_z, hc_z⟩
  · replace b3972_z : op.toInt ≤ (0 : Int32).toInt := b3972_z
    replace hc_z := rn_iconst (w := 3) (am_cur_of (i := (80, 1, .iconst 3, (0, 0, 0), 0)) (by decide +kernel)) (by decide) hc_z
    replace hc_z := rn_iret (am_cur_of (i := (81, 1, .ireturn, (0, 0, 0), 0)) (by decide +kernel)) hc_z
    obtain ⟨e3973_z, e3974_z⟩ := hc_z
    replace hm_z := rn_aload_n (am_cur_of (i := (0, 1, .aload_n 0, (0, 0, 0), 0)) (by decide +kernel)) g0m hm_z
    replace hm_z := rn_bipush (w := 41) (am_cur_of (i := (1, 2, .bipush 41, (0, 0, 0), 0)) (by decide +kernel)) (by decide) hm_z
    replace hm_z := rn_callV (M' := am_m171) (o := 164) (ar := [.int 41]) (rest := []) (L := lv_args 0 [.ref 164, .int 41]) (am_cur_of (i := (3, 3, .invokevirtual 194, (171, 1715, 3), 0)) (by decide +kernel)) rfl rfl rfl rfl hm_z
    obtain ⟨r3975_z, h3976_z, q3977_z, hm_z⟩ := hm_z
    obtain ⟨rfl, yq3977_z⟩ := rp_sgN (fun q => absurd (Eq.trans (Eq.symm kc) q.1) (by decide)) q3977_z
    subst yq3977_z
    replace hm_z : rn _ _ _ _ [.int 0] _ _ _ := hm_z
    replace hm_z := rn_ifT (am_cur_of (i := (6, 3, .ifCond .eq 41, (26, 0, 0), 0)) (by decide +kernel)) (by decide) hm_z
    replace hm_z := rn_aload_n (am_cur_of (i := (47, 1, .aload_n 0, (0, 0, 0), 0)) (by decide +kernel)) g0m hm_z
    replace hm_z := rn_bipush (w := 12) (am_cur_of (i := (48, 2, .bipush 12, (0, 0, 0), 0)) (by decide +kernel)) (by decide) hm_z
    replace hm_z := rn_callV (M' := am_m174) (o := 164) (ar := [.int 12]) (rest := []) (L := lv_args 0 [.ref 164, .int 12]) (am_cur_of (i := (50, 3, .invokevirtual 306, (174, 1727, 3), 0)) (by decide +kernel)) rfl rfl rfl rfl hm_z
    obtain ⟨r3978_z, h3979_z, q3980_z, hm_z⟩ := hm_z
    obtain ⟨rfl, yq3980_z⟩ := rp_kyN (fun q => absurd (Eq.trans (Eq.symm kc) q.1) (by decide)) q3980_z
    subst yq3980_z
    replace hm_z : rn _ _ _ _ [.int 0] _ _ _ := hm_z
    replace hm_z := rn_ifT (am_cur_of (i := (53, 3, .ifCond .eq 7, (32, 0, 0), 0)) (by decide +kernel)) (by decide) hm_z
    replace hm_z := rn_aload_n (am_cur_of (i := (60, 1, .aload_n 0, (0, 0, 0), 0)) (by decide +kernel)) g0m hm_z
    replace hm_z := rn_bipush (w := 13) (am_cur_of (i := (61, 2, .bipush 13, (0, 0, 0), 0)) (by decide +kernel)) (by decide) hm_z
    replace hm_z := rn_callV (M' := am_m174) (o := 164) (ar := [.int 13]) (rest := []) (L := lv_args 0 [.ref 164, .int 13]) (am_cur_of (i := (63, 3, .invokevirtual 306, (174, 1727, 3), 0)) (by decide +kernel)) rfl rfl rfl rfl hm_z
    obtain ⟨r3981_z, h3982_z, q3983_z, hm_z⟩ := hm_z
    obtain ⟨rfl, yq3983_z⟩ := rp_kyN (fun q => absurd (Eq.trans (Eq.symm kc) q.1) (by decide)) q3983_z
    subst yq3983_z
    replace hm_z : rn _ _ _ _ [.int 0] _ _ _ := hm_z
    replace hm_z := rn_ifT (am_cur_of (i := (66, 3, .ifCond .eq 7, (38, 0, 0), 0)) (by decide +kernel)) (by decide) hm_z
    replace hm_z := rn_aload_n (am_cur_of (i := (73, 1, .aload_n 0, (0, 0, 0), 0)) (by decide +kernel)) g0m hm_z
    replace hm_z := rn_getI (v := 6) (am_cur_of (i := (74, 3, .getfield 157, (12, 8, 1392), 0)) (by decide +kernel)) (by decide +kernel) kc hm_z
    replace hm_z := rn_iconst (w := 5) (am_cur_of (i := (77, 1, .iconst 5, (0, 0, 0), 0)) (by decide +kernel)) (by decide) hm_z
    replace hm_z := rn_cmpT (am_cur_of (i := (78, 3, .if_icmp .ne 12, (47, 0, 0), 0)) (by decide +kernel)) (by decide) hm_z
    replace hm_z := rn_aload_n (am_cur_of (i := (90, 1, .aload_n 0, (0, 0, 0), 0)) (by decide +kernel)) g0m hm_z
    replace hm_z := rn_bipush (w := 43) (am_cur_of (i := (91, 2, .bipush 43, (0, 0, 0), 0)) (by decide +kernel)) (by decide) hm_z
    replace hm_z := rn_callV (M' := am_m171) (o := 164) (ar := [.int 43]) (rest := []) (L := lv_args 0 [.ref 164, .int 43]) (am_cur_of (i := (93, 3, .invokevirtual 194, (171, 1715, 3), 0)) (by decide +kernel)) rfl rfl rfl rfl hm_z
    obtain ⟨r3984_z, h3985_z, q3986_z, hm_z⟩ := hm_z
    obtain ⟨rfl, yq3986_z⟩ := rp_sgN (fun q => absurd (Eq.trans (Eq.symm kc) q.1) (by decide)) q3986_z
    subst yq3986_z
    replace hm_z : rn _ _ _ _ [.int 0] _ _ _ := hm_z
    replace hm_z := rn_ifT (am_cur_of (i := (96, 3, .ifCond .eq 8, (53, 0, 0), 0)) (by decide +kernel)) (by decide) hm_z
    replace hm_z := rn_aload_n (am_cur_of (i := (104, 1, .aload_n 0, (0, 0, 0), 0)) (by decide +kernel)) g0m hm_z
    replace hm_z := rn_bipush (w := 45) (am_cur_of (i := (105, 2, .bipush 45, (0, 0, 0), 0)) (by decide +kernel)) (by decide) hm_z
    replace hm_z := rn_callV (M' := am_m171) (o := 164) (ar := [.int 45]) (rest := []) (L := lv_args 0 [.ref 164, .int 45]) (am_cur_of (i := (107, 3, .invokevirtual 194, (171, 1715, 3), 0)) (by decide +kernel)) rfl rfl rfl rfl hm_z
    obtain ⟨r3987_z, h3988_z, q3989_z, hm_z⟩ := hm_z
    obtain ⟨rfl, yq3989_z⟩ := rp_sgN (fun q => absurd (Eq.trans (Eq.symm kc) q.1) (by decide)) q3989_z
    subst yq3989_z
    replace hm_z : rn _ _ _ _ [.int 0] _ _ _ := hm_z
    replace hm_z := rn_ifT (am_cur_of (i := (110, 3, .ifCond .eq 8, (59, 0, 0), 0)) (by decide +kernel)) (by decide) hm_z
    replace hm_z := rn_aload_n (am_cur_of (i := (118, 1, .aload_n 0, (0, 0, 0), 0)) (by decide +kernel)) g0m hm_z
    replace hm_z := rn_bipush (w := 42) (am_cur_of (i := (119, 2, .bipush 42, (0, 0, 0), 0)) (by decide +kernel)) (by decide) hm_z
    replace hm_z := rn_callV (M' := am_m171) (o := 164) (ar := [.int 42]) (rest := []) (L := lv_args 0 [.ref 164, .int 42]) (am_cur_of (i := (121, 3, .invokevirtual 194, (171, 1715, 3), 0)) (by decide +kernel)) rfl rfl rfl rfl hm_z
    obtain ⟨r3990_z, h3991_z, q3992_z, hm_z⟩ := hm_z
    obtain ⟨rfl, yq3992_z⟩ := rp_sgN (fun q => absurd (Eq.trans (Eq.symm kc) q.1) (by decide)) q3992_z
    subst yq3992_z
    replace hm_z : rn _ _ _ _ [.int 0] _ _ _ := hm_z
    replace hm_z := rn_ifT (am_cur_of (i := (124, 3, .ifCond .eq 8, (65, 0, 0), 0)) (by decide +kernel)) (by decide) hm_z
    replace hm_z := rn_aload_n (am_cur_of (i := (132, 1, .aload_n 0, (0, 0, 0), 0)) (by decide +kernel)) g0m hm_z
    replace hm_z := rn_bipush (w := 47) (am_cur_of (i := (133, 2, .bipush 47, (0, 0, 0), 0)) (by decide +kernel)) (by decide) hm_z
    replace hm_z := rn_callV (M' := am_m171) (o := 164) (ar := [.int 47]) (rest := []) (L := lv_args 0 [.ref 164, .int 47]) (am_cur_of (i := (135, 3, .invokevirtual 194, (171, 1715, 3), 0)) (by decide +kernel)) rfl rfl rfl rfl hm_z
    obtain ⟨r3993_z, h3994_z, q3995_z, hm_z⟩ := hm_z
    obtain ⟨rfl, yq3995_z⟩ := rp_sgN (fun q => absurd (Eq.trans (Eq.symm kc) q.1) (by decide)) q3995_z
    subst yq3995_z
    replace hm_z : rn _ _ _ _ [.int 0] _ _ _ := hm_z
    replace hm_z := rn_ifT (am_cur_of (i := (138, 3, .ifCond .eq 8, (71, 0, 0), 0)) (by decide +kernel)) (by decide) hm_z
    replace hm_z := rn_iconst (w := 0) (am_cur_of (i := (146, 1, .iconst 0, (0, 0, 0), 0)) (by decide +kernel)) (by decide) hm_z
    replace hm_z := rn_istore_n (am_cur_of (i := (147, 1, .istore_n 1, (0, 0, 0), 0)) (by decide +kernel)) hm_z
    obtain ⟨_, s3996_z, s3997_z, g1m, hm_z⟩ := hm_z
    replace g0m := s3996_z 0 _ (by decide) rfl g0m
    clear s3996_z s3997_z
    replace hm_z := rn_iload_n (am_cur_of (i := (148, 1, .iload_n 1, (0, 0, 0), 0)) (by decide +kernel)) g1m hm_z
    replace hm_z := rn_ifF (am_cur_of (i := (149, 3, .ifCond .ne 9, (79, 0, 0), 0)) (by decide +kernel)) (by decide) hm_z
    replace hm_z := rn_aload_n (am_cur_of (i := (152, 1, .aload_n 0, (0, 0, 0), 0)) (by decide +kernel)) g0m hm_z
    replace hm_z := rn_iconst (w := 1) (am_cur_of (i := (153, 1, .iconst 1, (0, 0, 0), 0)) (by decide +kernel)) (by decide) hm_z
    replace hm_z := rn_callV (M' := am_m158) (o := 164) (ar := [.int 1]) (rest := []) (L := lv_args 0 [.ref 164, .int 1]) (am_cur_of (i := (154, 3, .invokevirtual 181, (158, 1665, 3), 0)) (by decide +kernel)) rfl rfl rfl rfl hm_z
    obtain ⟨r3998_z, h3999_z, q4000_z, hm_z⟩ := hm_z
    obtain ⟨rfl, yq4000_z⟩ := rp_wrong q4000_z
    subst yq4000_z
    replace hm_z : rn _ _ _ _ [.int 0] _ _ _ := hm_z
    replace hm_z := rn_iret (am_cur_of (i := (157, 1, .ireturn, (0, 0, 0), 0)) (by decide +kernel)) hm_z
    obtain ⟨e4001_z, e4002_z⟩ := hm_z
    subst e3974_z e4002_z
    exact Or.inr ⟨e3973_z, rfl, z4_z.trans (rt_i32 (by rw [show (0 : Int32).toInt = 0 by decide]; omega)), e4001_z, rfl⟩
  · replace b3972_z : (0 : Int32).toInt < op.toInt := b3972_z
    replace hc_z := rn_aload_n (am_cur_of (i := (75, 1, .aload_n 0, (0, 0, 0), 0)) (by decide +kernel)) g0_z hc_z
    replace hc_z := rn_iconst (w := 1) (am_cur_of (i := (76, 1, .iconst 1, (0, 0, 0), 0)) (by decide +kernel)) (by decide) hc_z
    replace hc_z := rn_callV (M' := am_m29) (o := 44) (ar := [.int 1]) (rest := []) (L := lv_args 0 [.ref 44, .int 1]) (am_cur_of (i := (77, 3, .invokevirtual 108, (29, 769, 3), 0)) (by decide +kernel)) rfl rfl rfl rfl hc_z
    obtain ⟨r4003_z, h4004_z, q4005_z, hc_z⟩ := hc_z
    obtain ⟨rfl, yq4005_z⟩ := rp_fail R4 q4005_z
    subst yq4005_z
    replace hc_z : rn _ _ _ _ [] _ _ _ := hc_z
    have K := rs_stick (w := 1) (q := p) (a := 44) (by decide) (by decide) rfl (by decide) rfl (show rg_v (am_up (am_up h 44 1 (.int 1)) 44 2 (.int (rg_v h 44 9))) 44 2 = p from R5) hc_z
    replace hm_z := rn_aload_n (am_cur_of (i := (0, 1, .aload_n 0, (0, 0, 0), 0)) (by decide +kernel)) g0m hm_z
    replace hm_z := rn_bipush (w := 41) (am_cur_of (i := (1, 2, .bipush 41, (0, 0, 0), 0)) (by decide +kernel)) (by decide) hm_z
    replace hm_z := rn_callV (M' := am_m171) (o := 164) (ar := [.int 41]) (rest := []) (L := lv_args 0 [.ref 164, .int 41]) (am_cur_of (i := (3, 3, .invokevirtual 194, (171, 1715, 3), 0)) (by decide +kernel)) rfl rfl rfl rfl hm_z
    obtain ⟨r4006_z, h4007_z, q4008_z, hm_z⟩ := hm_z
    obtain ⟨rfl, yq4008_z⟩ := rp_sgN (fun q => absurd (Eq.trans (Eq.symm kc) q.1) (by decide)) q4008_z
    subst yq4008_z
    replace hm_z : rn _ _ _ _ [.int 0] _ _ _ := hm_z
    replace hm_z := rn_ifT (am_cur_of (i := (6, 3, .ifCond .eq 41, (26, 0, 0), 0)) (by decide +kernel)) (by decide) hm_z
    replace hm_z := rn_aload_n (am_cur_of (i := (47, 1, .aload_n 0, (0, 0, 0), 0)) (by decide +kernel)) g0m hm_z
    replace hm_z := rn_bipush (w := 12) (am_cur_of (i := (48, 2, .bipush 12, (0, 0, 0), 0)) (by decide +kernel)) (by decide) hm_z
    replace hm_z := rn_callV (M' := am_m174) (o := 164) (ar := [.int 12]) (rest := []) (L := lv_args 0 [.ref 164, .int 12]) (am_cur_of (i := (50, 3, .invokevirtual 306, (174, 1727, 3), 0)) (by decide +kernel)) rfl rfl rfl rfl hm_z
    obtain ⟨r4009_z, h4010_z, q4011_z, hm_z⟩ := hm_z
    obtain ⟨rfl, yq4011_z⟩ := rp_kyN (fun q => absurd (Eq.trans (Eq.symm kc) q.1) (by decide)) q4011_z
    subst yq4011_z
    replace hm_z : rn _ _ _ _ [.int 0] _ _ _ := hm_z
    replace hm_z := rn_ifT (am_cur_of (i := (53, 3, .ifCond .eq 7, (32, 0, 0), 0)) (by decide +kernel)) (by decide) hm_z
    replace hm_z := rn_aload_n (am_cur_of (i := (60, 1, .aload_n 0, (0, 0, 0), 0)) (by decide +kernel)) g0m hm_z
    replace hm_z := rn_bipush (w := 13) (am_cur_of (i := (61, 2, .bipush 13, (0, 0, 0), 0)) (by decide +kernel)) (by decide) hm_z
    replace hm_z := rn_callV (M' := am_m174) (o := 164) (ar := [.int 13]) (rest := []) (L := lv_args 0 [.ref 164, .int 13]) (am_cur_of (i := (63, 3, .invokevirtual 306, (174, 1727, 3), 0)) (by decide +kernel)) rfl rfl rfl rfl hm_z
    obtain ⟨r4012_z, h4013_z, q4014_z, hm_z⟩ := hm_z
    obtain ⟨rfl, yq4014_z⟩ := rp_kyN (fun q => absurd (Eq.trans (Eq.symm kc) q.1) (by decide)) q4014_z
    subst yq4014_z
    replace hm_z : rn _ _ _ _ [.int 0] _ _ _ := hm_z
    replace hm_z := rn_ifT (am_cur_of (i := (66, 3, .ifCond .eq 7, (38, 0, 0), 0)) (by decide +kernel)) (by decide) hm_z
    replace hm_z := rn_aload_n (am_cur_of (i := (73, 1, .aload_n 0, (0, 0, 0), 0)) (by decide +kernel)) g0m hm_z
    replace hm_z := rn_getI (v := 6) (am_cur_of (i := (74, 3, .getfield 157, (12, 8, 1392), 0)) (by decide +kernel)) (by decide +kernel) kc hm_z
    replace hm_z := rn_iconst (w := 5) (am_cur_of (i := (77, 1, .iconst 5, (0, 0, 0), 0)) (by decide +kernel)) (by decide) hm_z
    replace hm_z := rn_cmpT (am_cur_of (i := (78, 3, .if_icmp .ne 12, (47, 0, 0), 0)) (by decide +kernel)) (by decide) hm_z
    replace hm_z := rn_aload_n (am_cur_of (i := (90, 1, .aload_n 0, (0, 0, 0), 0)) (by decide +kernel)) g0m hm_z
    replace hm_z := rn_bipush (w := 43) (am_cur_of (i := (91, 2, .bipush 43, (0, 0, 0), 0)) (by decide +kernel)) (by decide) hm_z
    replace hm_z := rn_callV (M' := am_m171) (o := 164) (ar := [.int 43]) (rest := []) (L := lv_args 0 [.ref 164, .int 43]) (am_cur_of (i := (93, 3, .invokevirtual 194, (171, 1715, 3), 0)) (by decide +kernel)) rfl rfl rfl rfl hm_z
    obtain ⟨r4015_z, h4016_z, q4017_z, hm_z⟩ := hm_z
    obtain ⟨rfl, yq4017_z⟩ := rp_sgN (fun q => absurd (Eq.trans (Eq.symm kc) q.1) (by decide)) q4017_z
    subst yq4017_z
    replace hm_z : rn _ _ _ _ [.int 0] _ _ _ := hm_z
    replace hm_z := rn_ifT (am_cur_of (i := (96, 3, .ifCond .eq 8, (53, 0, 0), 0)) (by decide +kernel)) (by decide) hm_z
    replace hm_z := rn_aload_n (am_cur_of (i := (104, 1, .aload_n 0, (0, 0, 0), 0)) (by decide +kernel)) g0m hm_z
    replace hm_z := rn_bipush (w := 45) (am_cur_of (i := (105, 2, .bipush 45, (0, 0, 0), 0)) (by decide +kernel)) (by decide) hm_z
    replace hm_z := rn_callV (M' := am_m171) (o := 164) (ar := [.int 45]) (rest := []) (L := lv_args 0 [.ref 164, .int 45]) (am_cur_of (i := (107, 3, .invokevirtual 194, (171, 1715, 3), 0)) (by decide +kernel)) rfl rfl rfl rfl hm_z
    obtain ⟨r4018_z, h4019_z, q4020_z, hm_z⟩ := hm_z
    obtain ⟨rfl, yq4020_z⟩ := rp_sgN (fun q => absurd (Eq.trans (Eq.symm kc) q.1) (by decide)) q4020_z
    subst yq4020_z
    replace hm_z : rn _ _ _ _ [.int 0] _ _ _ := hm_z
    replace hm_z := rn_ifT (am_cur_of (i := (110, 3, .ifCond .eq 8, (59, 0, 0), 0)) (by decide +kernel)) (by decide) hm_z
    replace hm_z := rn_aload_n (am_cur_of (i := (118, 1, .aload_n 0, (0, 0, 0), 0)) (by decide +kernel)) g0m hm_z
    replace hm_z := rn_bipush (w := 42) (am_cur_of (i := (119, 2, .bipush 42, (0, 0, 0), 0)) (by decide +kernel)) (by decide) hm_z
    replace hm_z := rn_callV (M' := am_m171) (o := 164) (ar := [.int 42]) (rest := []) (L := lv_args 0 [.ref 164, .int 42]) (am_cur_of (i := (121, 3, .invokevirtual 194, (171, 1715, 3), 0)) (by decide +kernel)) rfl rfl rfl rfl hm_z
    obtain ⟨r4021_z, h4022_z, q4023_z, hm_z⟩ := hm_z
    obtain ⟨rfl, yq4023_z⟩ := rp_sgN (fun q => absurd (Eq.trans (Eq.symm kc) q.1) (by decide)) q4023_z
    subst yq4023_z
    replace hm_z : rn _ _ _ _ [.int 0] _ _ _ := hm_z
    replace hm_z := rn_ifT (am_cur_of (i := (124, 3, .ifCond .eq 8, (65, 0, 0), 0)) (by decide +kernel)) (by decide) hm_z
    replace hm_z := rn_aload_n (am_cur_of (i := (132, 1, .aload_n 0, (0, 0, 0), 0)) (by decide +kernel)) g0m hm_z
    replace hm_z := rn_bipush (w := 47) (am_cur_of (i := (133, 2, .bipush 47, (0, 0, 0), 0)) (by decide +kernel)) (by decide) hm_z
    replace hm_z := rn_callV (M' := am_m171) (o := 164) (ar := [.int 47]) (rest := []) (L := lv_args 0 [.ref 164, .int 47]) (am_cur_of (i := (135, 3, .invokevirtual 194, (171, 1715, 3), 0)) (by decide +kernel)) rfl rfl rfl rfl hm_z
    obtain ⟨r4024_z, h4025_z, q4026_z, hm_z⟩ := hm_z
    obtain ⟨rfl, yq4026_z⟩ := rp_sgN (fun q => absurd (Eq.trans (Eq.symm kc) q.1) (by decide)) q4026_z
    subst yq4026_z
    replace hm_z : rn _ _ _ _ [.int 0] _ _ _ := hm_z
    replace hm_z := rn_ifT (am_cur_of (i := (138, 3, .ifCond .eq 8, (71, 0, 0), 0)) (by decide +kernel)) (by decide) hm_z
    replace hm_z := rn_iconst (w := 0) (am_cur_of (i := (146, 1, .iconst 0, (0, 0, 0), 0)) (by decide +kernel)) (by decide) hm_z
    replace hm_z := rn_istore_n (am_cur_of (i := (147, 1, .istore_n 1, (0, 0, 0), 0)) (by decide +kernel)) hm_z
    obtain ⟨_, s4027_z, s4028_z, g1m, hm_z⟩ := hm_z
    replace g0m := s4027_z 0 _ (by decide) rfl g0m
    clear s4027_z s4028_z
    replace hm_z := rn_iload_n (am_cur_of (i := (148, 1, .iload_n 1, (0, 0, 0), 0)) (by decide +kernel)) g1m hm_z
    replace hm_z := rn_ifF (am_cur_of (i := (149, 3, .ifCond .ne 9, (79, 0, 0), 0)) (by decide +kernel)) (by decide) hm_z
    replace hm_z := rn_aload_n (am_cur_of (i := (152, 1, .aload_n 0, (0, 0, 0), 0)) (by decide +kernel)) g0m hm_z
    replace hm_z := rn_iconst (w := 1) (am_cur_of (i := (153, 1, .iconst 1, (0, 0, 0), 0)) (by decide +kernel)) (by decide) hm_z
    replace hm_z := rn_callV (M' := am_m158) (o := 164) (ar := [.int 1]) (rest := []) (L := lv_args 0 [.ref 164, .int 1]) (am_cur_of (i := (154, 3, .invokevirtual 181, (158, 1665, 3), 0)) (by decide +kernel)) rfl rfl rfl rfl hm_z
    obtain ⟨r4029_z, h4030_z, q4031_z, hm_z⟩ := hm_z
    obtain ⟨rfl, yq4031_z⟩ := rp_wrong q4031_z
    subst yq4031_z
    replace hm_z : rn _ _ _ _ [.int 0] _ _ _ := hm_z
    replace hm_z := rn_iret (am_cur_of (i := (157, 1, .ireturn, (0, 0, 0), 0)) (by decide +kernel)) hm_z
    obtain ⟨e4032_z, e4033_z⟩ := hm_z
    subst e4032_z e4033_z
    exact Or.inl (Or.inr ⟨rfl, 1, by decide, K.1, K.2, rfl, R6⟩)
theorem rj_c2_2 {T : Nat → Int32} {S x p : Int32} {n n' : Nat} {h h' g g' : am_H} {r r' : Option Value} (R : rq T S x p 2 h g) (A : rp 2 h g) (B : rp_t h g) (Z : rs 2 h g) (w0_z : rg_v g 164 45 = 0) (ka : (rg_v h 44 10) = 1) (kc : (rg_v g 164 8) = 4) (kd : (rg_v g 164 9) = 37) (hc_z : rn n am_m44 0 (lv_args 0 [.ref 44]) [] h r h') (hm_z : rn n' am_m178 0 (lv_args 0 [.ref 164]) [] g r' g') : rj_Q T S x p 2 h g h' g' r r' := by
  have z0_z : (0 : Int32).toInt = 0 := by decide
  have g0_z : am_get (lv_args 0 [.ref 44]) 0 = some (.ref 44) := rfl
  have g0m : am_get (lv_args 0 [.ref 164]) 0 = some (.ref 164) := rfl
  have Rk := R
  have Zk := Z
  obtain ⟨⟨c1_z, c2_z, c3_z, c4_z, c5_z, c6_z, c7_z, c8_z⟩, ⟨m2_z, m3_z, m4_z, m5_z, m6_z, m7_z, m8_z⟩, R3, R4, R5, R6, R7, R8, R9, R10⟩ := (R : rq T S x p 2 h g)
  obtain ⟨np, op, z1_z, z2_z, z3_z, z4_z, z5_z, z6_z, z7_z, z8_z, z9_z, z10_z⟩ := (Z : rs 2 h g)
  obtain ⟨nk1_z, nk2_z, nk3_z⟩ := A.2.2.2.2.2.1
  replace nk1_z : rg_v h 11 0 = rg_v g 164 44 := nk1_z
  replace nk2_z : 0 ≤ (rg_v h 11 0).toInt := nk2_z
  replace nk3_z : (rg_v h 11 0).toInt ≤ 64 := nk3_z
  replace z8_z : np.toInt ≤ (rg_v h 11 0).toInt + op.toInt := z8_z
  obtain ⟨kn, ekn⟩ : ∃ v, rg_v h 11 0 = v := ⟨_, rfl⟩
  rw [ekn] at nk1_z nk2_z nk3_z z8_z
  have e9_z := rt_c1 (x := kn) (by omega) (by omega)
  replace hc_z := rn_aload_n (am_cur_of (i := (0, 1, .aload_n 0, (0, 0, 0), 0)) (by decide +kernel)) g0_z hc_z
  replace hc_z := rn_bipush (w := 41) (am_cur_of (i := (1, 2, .bipush 41, (0, 0, 0), 0)) (by decide +kernel)) (by decide) hc_z
  replace hc_z := rn_callV (M' := am_m45) (o := 44) (ar := [.int 41]) (rest := []) (L := lv_args 0 [.ref 44, .int 41]) (am_cur_of (i := (3, 3, .invokevirtual 105, (45, 834, 3), 0)) (by decide +kernel)) rfl rfl rfl rfl hc_z
  obtain ⟨r4034_z, h4035_z, q4036_z, hc_z⟩ := hc_z
  obtain ⟨rfl, yq4036_z⟩ := rp_mkN (fun q => absurd (Eq.trans (Eq.symm ka) q.1) (by decide)) q4036_z
  subst yq4036_z
  replace hc_z : rn _ _ _ _ [.int 0] _ _ _ := hc_z
  replace hc_z := rn_ifT (am_cur_of (i := (6, 3, .ifCond .eq 45, (28, 0, 0), 0)) (by decide +kernel)) (by decide) hc_z
  replace hc_z := rn_aload_n (am_cur_of (i := (51, 1, .aload_n 0, (0, 0, 0), 0)) (by decide +kernel)) g0_z hc_z
  replace hc_z := rn_getI (v := 1) (am_cur_of (i := (52, 3, .getfield 60, (4, 10, 419), 0)) (by decide +kernel)) (by decide +kernel) ka hc_z
  replace hc_z := rn_bipush (w := 6) (am_cur_of (i := (55, 2, .bipush 6, (0, 0, 0), 0)) (by decide +kernel)) (by decide) hc_z
  replace hc_z := rn_cmpT (am_cur_of (i := (57, 3, .if_icmp .ne 11, (36, 0, 0), 0)) (by decide +kernel)) (by decide) hc_z
  replace hc_z := rn_aload_n (am_cur_of (i := (68, 1, .aload_n 0, (0, 0, 0), 0)) (by decide +kernel)) g0_z hc_z
  replace hc_z := rn_getI (v := op) (am_cur_of (i := (69, 3, .getfield 254, (4, 14, 423), 0)) (by decide +kernel)) (by decide +kernel) z4_z hc_z
  replace hc_z := rn_if (am_cur_of (i := (72, 3, .ifCond .le 8, (42, 0, 0), 0)) (by decide +kernel)) hc_z
  rcases hc_z with ⟨b4037_z, hc_z⟩ | ⟨b4037_z, hc_z⟩
  · replace b4037_z : op.toInt ≤ (0 : Int32).toInt := b4037_z
    replace hc_z := rn_iconst (w := 3) (am_cur_of (i := (80, 1, .iconst 3, (0, 0, 0), 0)) (by decide +kernel)) (by decide) hc_z
    replace hc_z := rn_iret (am_cur_of (i := (81, 1, .ireturn, (0, 0, 0), 0)) (by decide +kernel)) hc_z
    obtain ⟨e4038_z, e4039_z⟩ := hc_z
    replace hm_z := rn_aload_n (am_cur_of (i := (0, 1, .aload_n 0, (0, 0, 0), 0)) (by decide +kernel)) g0m hm_z
    replace hm_z := rn_bipush (w := 41) (am_cur_of (i := (1, 2, .bipush 41, (0, 0, 0), 0)) (by decide +kernel)) (by decide) hm_z
    replace hm_z := rn_callV (M' := am_m171) (o := 164) (ar := [.int 41]) (rest := []) (L := lv_args 0 [.ref 164, .int 41]) (am_cur_of (i := (3, 3, .invokevirtual 194, (171, 1715, 3), 0)) (by decide +kernel)) rfl rfl rfl rfl hm_z
    obtain ⟨r4040_z, h4041_z, q4042_z, hm_z⟩ := hm_z
    obtain ⟨rfl, yq4042_z⟩ := rp_sgN (fun q => absurd (Eq.trans (Eq.symm kd) q.2) (by decide)) q4042_z
    subst yq4042_z
    replace hm_z : rn _ _ _ _ [.int 0] _ _ _ := hm_z
    replace hm_z := rn_ifT (am_cur_of (i := (6, 3, .ifCond .eq 41, (26, 0, 0), 0)) (by decide +kernel)) (by decide) hm_z
    replace hm_z := rn_aload_n (am_cur_of (i := (47, 1, .aload_n 0, (0, 0, 0), 0)) (by decide +kernel)) g0m hm_z
    replace hm_z := rn_bipush (w := 12) (am_cur_of (i := (48, 2, .bipush 12, (0, 0, 0), 0)) (by decide +kernel)) (by decide) hm_z
    replace hm_z := rn_callV (M' := am_m174) (o := 164) (ar := [.int 12]) (rest := []) (L := lv_args 0 [.ref 164, .int 12]) (am_cur_of (i := (50, 3, .invokevirtual 306, (174, 1727, 3), 0)) (by decide +kernel)) rfl rfl rfl rfl hm_z
    obtain ⟨r4043_z, h4044_z, q4045_z, hm_z⟩ := hm_z
    obtain ⟨rfl, yq4045_z⟩ := rp_kyN (fun q => absurd (Eq.trans (Eq.symm kc) q.1) (by decide)) q4045_z
    subst yq4045_z
    replace hm_z : rn _ _ _ _ [.int 0] _ _ _ := hm_z
    replace hm_z := rn_ifT (am_cur_of (i := (53, 3, .ifCond .eq 7, (32, 0, 0), 0)) (by decide +kernel)) (by decide) hm_z
    replace hm_z := rn_aload_n (am_cur_of (i := (60, 1, .aload_n 0, (0, 0, 0), 0)) (by decide +kernel)) g0m hm_z
    replace hm_z := rn_bipush (w := 13) (am_cur_of (i := (61, 2, .bipush 13, (0, 0, 0), 0)) (by decide +kernel)) (by decide) hm_z
    replace hm_z := rn_callV (M' := am_m174) (o := 164) (ar := [.int 13]) (rest := []) (L := lv_args 0 [.ref 164, .int 13]) (am_cur_of (i := (63, 3, .invokevirtual 306, (174, 1727, 3), 0)) (by decide +kernel)) rfl rfl rfl rfl hm_z
    obtain ⟨r4046_z, h4047_z, q4048_z, hm_z⟩ := hm_z
    obtain ⟨rfl, yq4048_z⟩ := rp_kyN (fun q => absurd (Eq.trans (Eq.symm kc) q.1) (by decide)) q4048_z
    subst yq4048_z
    replace hm_z : rn _ _ _ _ [.int 0] _ _ _ := hm_z
    replace hm_z := rn_ifT (am_cur_of (i := (66, 3, .ifCond .eq 7, (38, 0, 0), 0)) (by decide +kernel)) (by decide) hm_z
    replace hm_z := rn_aload_n (am_cur_of (i := (73, 1, .aload_n 0, (0, 0, 0), 0)) (by decide +kernel)) g0m hm_z
    replace hm_z := rn_getI (v := 4) (am_cur_of (i := (74, 3, .getfield 157, (12, 8, 1392), 0)) (by decide +kernel)) (by decide +kernel) kc hm_z
    replace hm_z := rn_iconst (w := 5) (am_cur_of (i := (77, 1, .iconst 5, (0, 0, 0), 0)) (by decide +kernel)) (by decide) hm_z
    replace hm_z := rn_cmpT (am_cur_of (i := (78, 3, .if_icmp .ne 12, (47, 0, 0), 0)) (by decide +kernel)) (by decide) hm_z
    replace hm_z := rn_aload_n (am_cur_of (i := (90, 1, .aload_n 0, (0, 0, 0), 0)) (by decide +kernel)) g0m hm_z
    replace hm_z := rn_bipush (w := 43) (am_cur_of (i := (91, 2, .bipush 43, (0, 0, 0), 0)) (by decide +kernel)) (by decide) hm_z
    replace hm_z := rn_callV (M' := am_m171) (o := 164) (ar := [.int 43]) (rest := []) (L := lv_args 0 [.ref 164, .int 43]) (am_cur_of (i := (93, 3, .invokevirtual 194, (171, 1715, 3), 0)) (by decide +kernel)) rfl rfl rfl rfl hm_z
    obtain ⟨r4049_z, h4050_z, q4051_z, hm_z⟩ := hm_z
    obtain ⟨rfl, yq4051_z⟩ := rp_sgN (fun q => absurd (Eq.trans (Eq.symm kd) q.2) (by decide)) q4051_z
    subst yq4051_z
    replace hm_z : rn _ _ _ _ [.int 0] _ _ _ := hm_z
    replace hm_z := rn_ifT (am_cur_of (i := (96, 3, .ifCond .eq 8, (53, 0, 0), 0)) (by decide +kernel)) (by decide) hm_z
    replace hm_z := rn_aload_n (am_cur_of (i := (104, 1, .aload_n 0, (0, 0, 0), 0)) (by decide +kernel)) g0m hm_z
    replace hm_z := rn_bipush (w := 45) (am_cur_of (i := (105, 2, .bipush 45, (0, 0, 0), 0)) (by decide +kernel)) (by decide) hm_z
    replace hm_z := rn_callV (M' := am_m171) (o := 164) (ar := [.int 45]) (rest := []) (L := lv_args 0 [.ref 164, .int 45]) (am_cur_of (i := (107, 3, .invokevirtual 194, (171, 1715, 3), 0)) (by decide +kernel)) rfl rfl rfl rfl hm_z
    obtain ⟨r4052_z, h4053_z, q4054_z, hm_z⟩ := hm_z
    obtain ⟨rfl, yq4054_z⟩ := rp_sgN (fun q => absurd (Eq.trans (Eq.symm kd) q.2) (by decide)) q4054_z
    subst yq4054_z
    replace hm_z : rn _ _ _ _ [.int 0] _ _ _ := hm_z
    replace hm_z := rn_ifT (am_cur_of (i := (110, 3, .ifCond .eq 8, (59, 0, 0), 0)) (by decide +kernel)) (by decide) hm_z
    replace hm_z := rn_aload_n (am_cur_of (i := (118, 1, .aload_n 0, (0, 0, 0), 0)) (by decide +kernel)) g0m hm_z
    replace hm_z := rn_bipush (w := 42) (am_cur_of (i := (119, 2, .bipush 42, (0, 0, 0), 0)) (by decide +kernel)) (by decide) hm_z
    replace hm_z := rn_callV (M' := am_m171) (o := 164) (ar := [.int 42]) (rest := []) (L := lv_args 0 [.ref 164, .int 42]) (am_cur_of (i := (121, 3, .invokevirtual 194, (171, 1715, 3), 0)) (by decide +kernel)) rfl rfl rfl rfl hm_z
    obtain ⟨r4055_z, h4056_z, q4057_z, hm_z⟩ := hm_z
    obtain ⟨rfl, yq4057_z⟩ := rp_sgN (fun q => absurd (Eq.trans (Eq.symm kd) q.2) (by decide)) q4057_z
    subst yq4057_z
    replace hm_z : rn _ _ _ _ [.int 0] _ _ _ := hm_z
    replace hm_z := rn_ifT (am_cur_of (i := (124, 3, .ifCond .eq 8, (65, 0, 0), 0)) (by decide +kernel)) (by decide) hm_z
    replace hm_z := rn_aload_n (am_cur_of (i := (132, 1, .aload_n 0, (0, 0, 0), 0)) (by decide +kernel)) g0m hm_z
    replace hm_z := rn_bipush (w := 47) (am_cur_of (i := (133, 2, .bipush 47, (0, 0, 0), 0)) (by decide +kernel)) (by decide) hm_z
    replace hm_z := rn_callV (M' := am_m171) (o := 164) (ar := [.int 47]) (rest := []) (L := lv_args 0 [.ref 164, .int 47]) (am_cur_of (i := (135, 3, .invokevirtual 194, (171, 1715, 3), 0)) (by decide +kernel)) rfl rfl rfl rfl hm_z
    obtain ⟨r4058_z, h4059_z, q4060_z, hm_z⟩ := hm_z
    obtain ⟨rfl, yq4060_z⟩ := rp_sgN (fun q => absurd (Eq.trans (Eq.symm kd) q.2) (by decide)) q4060_z
    subst yq4060_z
    replace hm_z : rn _ _ _ _ [.int 0] _ _ _ := hm_z
    replace hm_z := rn_ifT (am_cur_of (i := (138, 3, .ifCond .eq 8, (71, 0, 0), 0)) (by decide +kernel)) (by decide) hm_z
    replace hm_z := rn_iconst (w := 0) (am_cur_of (i := (146, 1, .iconst 0, (0, 0, 0), 0)) (by decide +kernel)) (by decide) hm_z
    replace hm_z := rn_istore_n (am_cur_of (i := (147, 1, .istore_n 1, (0, 0, 0), 0)) (by decide +kernel)) hm_z
    obtain ⟨_, s4061_z, s4062_z, g1m, hm_z⟩ := hm_z
    replace g0m := s4061_z 0 _ (by decide) rfl g0m
    clear s4061_z s4062_z
    replace hm_z := rn_iload_n (am_cur_of (i := (148, 1, .iload_n 1, (0, 0, 0), 0)) (by decide +kernel)) g1m hm_z
    replace hm_z := rn_ifF (am_cur_of (i := (149, 3, .ifCond .ne 9, (79, 0, 0), 0)) (by decide +kernel)) (by decide) hm_z
    replace hm_z := rn_aload_n (am_cur_of (i := (152, 1, .aload_n 0, (0, 0, 0), 0)) (by decide +kernel)) g0m hm_z
    replace hm_z := rn_iconst (w := 1) (am_cur_of (i := (153, 1, .iconst 1, (0, 0, 0), 0)) (by decide +kernel)) (by decide) hm_z
    replace hm_z := rn_callV (M' := am_m158) (o := 164) (ar := [.int 1]) (rest := []) (L := lv_args 0 [.ref 164, .int 1]) (am_cur_of (i := (154, 3, .invokevirtual 181, (158, 1665, 3), 0)) (by decide +kernel)) rfl rfl rfl rfl hm_z
    obtain ⟨r4063_z, h4064_z, q4065_z, hm_z⟩ := hm_z
    obtain ⟨rfl, yq4065_z⟩ := rp_wrong q4065_z
    subst yq4065_z
    replace hm_z : rn _ _ _ _ [.int 0] _ _ _ := hm_z
    replace hm_z := rn_iret (am_cur_of (i := (157, 1, .ireturn, (0, 0, 0), 0)) (by decide +kernel)) hm_z
    obtain ⟨e4066_z, e4067_z⟩ := hm_z
    subst e4039_z e4067_z
    exact Or.inr ⟨e4038_z, rfl, z4_z.trans (rt_i32 (by rw [show (0 : Int32).toInt = 0 by decide]; omega)), e4066_z, rfl⟩
  · replace b4037_z : (0 : Int32).toInt < op.toInt := b4037_z
    replace hc_z := rn_aload_n (am_cur_of (i := (75, 1, .aload_n 0, (0, 0, 0), 0)) (by decide +kernel)) g0_z hc_z
    replace hc_z := rn_iconst (w := 1) (am_cur_of (i := (76, 1, .iconst 1, (0, 0, 0), 0)) (by decide +kernel)) (by decide) hc_z
    replace hc_z := rn_callV (M' := am_m29) (o := 44) (ar := [.int 1]) (rest := []) (L := lv_args 0 [.ref 44, .int 1]) (am_cur_of (i := (77, 3, .invokevirtual 108, (29, 769, 3), 0)) (by decide +kernel)) rfl rfl rfl rfl hc_z
    obtain ⟨r4068_z, h4069_z, q4070_z, hc_z⟩ := hc_z
    obtain ⟨rfl, yq4070_z⟩ := rp_fail R4 q4070_z
    subst yq4070_z
    replace hc_z : rn _ _ _ _ [] _ _ _ := hc_z
    have K := rs_stick (w := 1) (q := p) (a := 44) (by decide) (by decide) rfl (by decide) rfl (show rg_v (am_up (am_up h 44 1 (.int 1)) 44 2 (.int (rg_v h 44 9))) 44 2 = p from R5) hc_z
    replace hm_z := rn_aload_n (am_cur_of (i := (0, 1, .aload_n 0, (0, 0, 0), 0)) (by decide +kernel)) g0m hm_z
    replace hm_z := rn_bipush (w := 41) (am_cur_of (i := (1, 2, .bipush 41, (0, 0, 0), 0)) (by decide +kernel)) (by decide) hm_z
    replace hm_z := rn_callV (M' := am_m171) (o := 164) (ar := [.int 41]) (rest := []) (L := lv_args 0 [.ref 164, .int 41]) (am_cur_of (i := (3, 3, .invokevirtual 194, (171, 1715, 3), 0)) (by decide +kernel)) rfl rfl rfl rfl hm_z
    obtain ⟨r4071_z, h4072_z, q4073_z, hm_z⟩ := hm_z
    obtain ⟨rfl, yq4073_z⟩ := rp_sgN (fun q => absurd (Eq.trans (Eq.symm kd) q.2) (by decide)) q4073_z
    subst yq4073_z
    replace hm_z : rn _ _ _ _ [.int 0] _ _ _ := hm_z
    replace hm_z := rn_ifT (am_cur_of (i := (6, 3, .ifCond .eq 41, (26, 0, 0), 0)) (by decide +kernel)) (by decide) hm_z
    replace hm_z := rn_aload_n (am_cur_of (i := (47, 1, .aload_n 0, (0, 0, 0), 0)) (by decide +kernel)) g0m hm_z
    replace hm_z := rn_bipush (w := 12) (am_cur_of (i := (48, 2, .bipush 12, (0, 0, 0), 0)) (by decide +kernel)) (by decide) hm_z
    replace hm_z := rn_callV (M' := am_m174) (o := 164) (ar := [.int 12]) (rest := []) (L := lv_args 0 [.ref 164, .int 12]) (am_cur_of (i := (50, 3, .invokevirtual 306, (174, 1727, 3), 0)) (by decide +kernel)) rfl rfl rfl rfl hm_z
    obtain ⟨r4074_z, h4075_z, q4076_z, hm_z⟩ := hm_z
    obtain ⟨rfl, yq4076_z⟩ := rp_kyN (fun q => absurd (Eq.trans (Eq.symm kc) q.1) (by decide)) q4076_z
    subst yq4076_z
    replace hm_z : rn _ _ _ _ [.int 0] _ _ _ := hm_z
    replace hm_z := rn_ifT (am_cur_of (i := (53, 3, .ifCond .eq 7, (32, 0, 0), 0)) (by decide +kernel)) (by decide) hm_z
    replace hm_z := rn_aload_n (am_cur_of (i := (60, 1, .aload_n 0, (0, 0, 0), 0)) (by decide +kernel)) g0m hm_z
    replace hm_z := rn_bipush (w := 13) (am_cur_of (i := (61, 2, .bipush 13, (0, 0, 0), 0)) (by decide +kernel)) (by decide) hm_z
    replace hm_z := rn_callV (M' := am_m174) (o := 164) (ar := [.int 13]) (rest := []) (L := lv_args 0 [.ref 164, .int 13]) (am_cur_of (i := (63, 3, .invokevirtual 306, (174, 1727, 3), 0)) (by decide +kernel)) rfl rfl rfl rfl hm_z
    obtain ⟨r4077_z, h4078_z, q4079_z, hm_z⟩ := hm_z
    obtain ⟨rfl, yq4079_z⟩ := rp_kyN (fun q => absurd (Eq.trans (Eq.symm kc) q.1) (by decide)) q4079_z
    subst yq4079_z
    replace hm_z : rn _ _ _ _ [.int 0] _ _ _ := hm_z
    replace hm_z := rn_ifT (am_cur_of (i := (66, 3, .ifCond .eq 7, (38, 0, 0), 0)) (by decide +kernel)) (by decide) hm_z
    replace hm_z := rn_aload_n (am_cur_of (i := (73, 1, .aload_n 0, (0, 0, 0), 0)) (by decide +kernel)) g0m hm_z
    replace hm_z := rn_getI (v := 4) (am_cur_of (i := (74, 3, .getfield 157, (12, 8, 1392), 0)) (by decide +kernel)) (by decide +kernel) kc hm_z
    replace hm_z := rn_iconst (w := 5) (am_cur_of (i := (77, 1, .iconst 5, (0, 0, 0), 0)) (by decide +kernel)) (by decide) hm_z
    replace hm_z := rn_cmpT (am_cur_of (i := (78, 3, .if_icmp .ne 12, (47, 0, 0), 0)) (by decide +kernel)) (by decide) hm_z
    replace hm_z := rn_aload_n (am_cur_of (i := (90, 1, .aload_n 0, (0, 0, 0), 0)) (by decide +kernel)) g0m hm_z
    replace hm_z := rn_bipush (w := 43) (am_cur_of (i := (91, 2, .bipush 43, (0, 0, 0), 0)) (by decide +kernel)) (by decide) hm_z
    replace hm_z := rn_callV (M' := am_m171) (o := 164) (ar := [.int 43]) (rest := []) (L := lv_args 0 [.ref 164, .int 43]) (am_cur_of (i := (93, 3, .invokevirtual 194, (171, 1715, 3), 0)) (by decide +kernel)) rfl rfl rfl rfl hm_z
    obtain ⟨r4080_z, h4081_z, q4082_z, hm_z⟩ := hm_z
    obtain ⟨rfl, yq4082_z⟩ := rp_sgN (fun q => absurd (Eq.trans (Eq.symm kd) q.2) (by decide)) q4082_z
    subst yq4082_z
    replace hm_z : rn _ _ _ _ [.int 0] _ _ _ := hm_z
    replace hm_z := rn_ifT (am_cur_of (i := (96, 3, .ifCond .eq 8, (53, 0, 0), 0)) (by decide +kernel)) (by decide) hm_z
    replace hm_z := rn_aload_n (am_cur_of (i := (104, 1, .aload_n 0, (0, 0, 0), 0)) (by decide +kernel)) g0m hm_z
    replace hm_z := rn_bipush (w := 45) (am_cur_of (i := (105, 2, .bipush 45, (0, 0, 0), 0)) (by decide +kernel)) (by decide) hm_z
    replace hm_z := rn_callV (M' := am_m171) (o := 164) (ar := [.int 45]) (rest := []) (L := lv_args 0 [.ref 164, .int 45]) (am_cur_of (i := (107, 3, .invokevirtual 194, (171, 1715, 3), 0)) (by decide +kernel)) rfl rfl rfl rfl hm_z
    obtain ⟨r4083_z, h4084_z, q4085_z, hm_z⟩ := hm_z
    obtain ⟨rfl, yq4085_z⟩ := rp_sgN (fun q => absurd (Eq.trans (Eq.symm kd) q.2) (by decide)) q4085_z
    subst yq4085_z
    replace hm_z : rn _ _ _ _ [.int 0] _ _ _ := hm_z
    replace hm_z := rn_ifT (am_cur_of (i := (110, 3, .ifCond .eq 8, (59, 0, 0), 0)) (by decide +kernel)) (by decide) hm_z
    replace hm_z := rn_aload_n (am_cur_of (i := (118, 1, .aload_n 0, (0, 0, 0), 0)) (by decide +kernel)) g0m hm_z
    replace hm_z := rn_bipush (w := 42) (am_cur_of (i := (119, 2, .bipush 42, (0, 0, 0), 0)) (by decide +kernel)) (by decide) hm_z
    replace hm_z := rn_callV (M' := am_m171) (o := 164) (ar := [.int 42]) (rest := []) (L := lv_args 0 [.ref 164, .int 42]) (am_cur_of (i := (121, 3, .invokevirtual 194, (171, 1715, 3), 0)) (by decide +kernel)) rfl rfl rfl rfl hm_z
    obtain ⟨r4086_z, h4087_z, q4088_z, hm_z⟩ := hm_z
    obtain ⟨rfl, yq4088_z⟩ := rp_sgN (fun q => absurd (Eq.trans (Eq.symm kd) q.2) (by decide)) q4088_z
    subst yq4088_z
    replace hm_z : rn _ _ _ _ [.int 0] _ _ _ := hm_z
    replace hm_z := rn_ifT (am_cur_of (i := (124, 3, .ifCond .eq 8, (65, 0, 0), 0)) (by decide +kernel)) (by decide) hm_z
    replace hm_z := rn_aload_n (am_cur_of (i := (132, 1, .aload_n 0, (0, 0, 0), 0)) (by decide +kernel)) g0m hm_z
    replace hm_z := rn_bipush (w := 47) (am_cur_of (i := (133, 2, .bipush 47, (0, 0, 0), 0)) (by decide +kernel)) (by decide) hm_z
    replace hm_z := rn_callV (M' := am_m171) (o := 164) (ar := [.int 47]) (rest := []) (L := lv_args 0 [.ref 164, .int 47]) (am_cur_of (i := (135, 3, .invokevirtual 194, (171, 1715, 3), 0)) (by decide +kernel)) rfl rfl rfl rfl hm_z
    obtain ⟨r4089_z, h4090_z, q4091_z, hm_z⟩ := hm_z
    obtain ⟨rfl, yq4091_z⟩ := rp_sgN (fun q => absurd (Eq.trans (Eq.symm kd) q.2) (by decide)) q4091_z
    subst yq4091_z
    replace hm_z : rn _ _ _ _ [.int 0] _ _ _ := hm_z
    replace hm_z := rn_ifT (am_cur_of (i := (138, 3, .ifCond .eq 8, (71, 0, 0), 0)) (by decide +kernel)) (by decide) hm_z
    replace hm_z := rn_iconst (w := 0) (am_cur_of (i := (146, 1, .iconst 0, (0, 0, 0), 0)) (by decide +kernel)) (by decide) hm_z
    replace hm_z := rn_istore_n (am_cur_of (i := (147, 1, .istore_n 1, (0, 0, 0), 0)) (by decide +kernel)) hm_z
    obtain ⟨_, s4092_z, s4093_z, g1m, hm_z⟩ := hm_z
    replace g0m := s4092_z 0 _ (by decide) rfl g0m
    clear s4092_z s4093_z
    replace hm_z := rn_iload_n (am_cur_of (i := (148, 1, .iload_n 1, (0, 0, 0), 0)) (by decide +kernel)) g1m hm_z
    replace hm_z := rn_ifF (am_cur_of (i := (149, 3, .ifCond .ne 9, (79, 0, 0), 0)) (by decide +kernel)) (by decide) hm_z
    replace hm_z := rn_aload_n (am_cur_of (i := (152, 1, .aload_n 0, (0, 0, 0), 0)) (by decide +kernel)) g0m hm_z
    replace hm_z := rn_iconst (w := 1) (am_cur_of (i := (153, 1, .iconst 1, (0, 0, 0), 0)) (by decide +kernel)) (by decide) hm_z
    replace hm_z := rn_callV (M' := am_m158) (o := 164) (ar := [.int 1]) (rest := []) (L := lv_args 0 [.ref 164, .int 1]) (am_cur_of (i := (154, 3, .invokevirtual 181, (158, 1665, 3), 0)) (by decide +kernel)) rfl rfl rfl rfl hm_z
    obtain ⟨r4094_z, h4095_z, q4096_z, hm_z⟩ := hm_z
    obtain ⟨rfl, yq4096_z⟩ := rp_wrong q4096_z
    subst yq4096_z
    replace hm_z : rn _ _ _ _ [.int 0] _ _ _ := hm_z
    replace hm_z := rn_iret (am_cur_of (i := (157, 1, .ireturn, (0, 0, 0), 0)) (by decide +kernel)) hm_z
    obtain ⟨e4097_z, e4098_z⟩ := hm_z
    subst e4097_z e4098_z
    exact Or.inl (Or.inr ⟨rfl, 1, by decide, K.1, K.2, rfl, R6⟩)
theorem rj_c3_2 {T : Nat → Int32} {S x p : Int32} {n n' : Nat} {h h' g g' : am_H} {r r' : Option Value} (R : rq T S x p 2 h g) (A : rp 2 h g) (B : rp_t h g) (Z : rs 2 h g) (w0_z : rg_v g 164 45 = 0) (ka : (rg_v h 44 10) = 2) (kc : (rg_v g 164 8) = 1) (kb0_z : 0 ≤ (rg_v h 44 11).toInt) (kb9_z : (rg_v h 44 11).toInt ≤ 10) (kd : (rg_v g 164 9) = (rg_v h 44 11)) (hc_z : rn n am_m44 0 (lv_args 0 [.ref 44]) [] h r h') (hm_z : rn n' am_m178 0 (lv_args 0 [.ref 164]) [] g r' g') : rj_Q T S x p 2 h g h' g' r r' := by
  have z0_z : (0 : Int32).toInt = 0 := by decide
  have g0_z : am_get (lv_args 0 [.ref 44]) 0 = some (.ref 44) := rfl
  have g0m : am_get (lv_args 0 [.ref 164]) 0 = some (.ref 164) := rfl
  have Rk := R
  have Zk := Z
  obtain ⟨⟨c1_z, c2_z, c3_z, c4_z, c5_z, c6_z, c7_z, c8_z⟩, ⟨m2_z, m3_z, m4_z, m5_z, m6_z, m7_z, m8_z⟩, R3, R4, R5, R6, R7, R8, R9, R10⟩ := (R : rq T S x p 2 h g)
  obtain ⟨np, op, z1_z, z2_z, z3_z, z4_z, z5_z, z6_z, z7_z, z8_z, z9_z, z10_z⟩ := (Z : rs 2 h g)
  obtain ⟨nk1_z, nk2_z, nk3_z⟩ := A.2.2.2.2.2.1
  replace nk1_z : rg_v h 11 0 = rg_v g 164 44 := nk1_z
  replace nk2_z : 0 ≤ (rg_v h 11 0).toInt := nk2_z
  replace nk3_z : (rg_v h 11 0).toInt ≤ 64 := nk3_z
  replace z8_z : np.toInt ≤ (rg_v h 11 0).toInt + op.toInt := z8_z
  obtain ⟨kn, ekn⟩ : ∃ v, rg_v h 11 0 = v := ⟨_, rfl⟩
  rw [ekn] at nk1_z nk2_z nk3_z z8_z
  have e9_z := rt_c1 (x := kn) (by omega) (by omega)
  replace hc_z := rn_aload_n (am_cur_of (i := (0, 1, .aload_n 0, (0, 0, 0), 0)) (by decide +kernel)) g0_z hc_z
  replace hc_z := rn_bipush (w := 41) (am_cur_of (i := (1, 2, .bipush 41, (0, 0, 0), 0)) (by decide +kernel)) (by decide) hc_z
  replace hc_z := rn_callV (M' := am_m45) (o := 44) (ar := [.int 41]) (rest := []) (L := lv_args 0 [.ref 44, .int 41]) (am_cur_of (i := (3, 3, .invokevirtual 105, (45, 834, 3), 0)) (by decide +kernel)) rfl rfl rfl rfl hc_z
  obtain ⟨r4099_z, h4100_z, q4101_z, hc_z⟩ := hc_z
  obtain ⟨rfl, yq4101_z⟩ := rp_mkN (fun q => absurd (Eq.trans (Eq.symm ka) q.1) (by decide)) q4101_z
  subst yq4101_z
  replace hc_z : rn _ _ _ _ [.int 0] _ _ _ := hc_z
  replace hc_z := rn_ifT (am_cur_of (i := (6, 3, .ifCond .eq 45, (28, 0, 0), 0)) (by decide +kernel)) (by decide) hc_z
  replace hc_z := rn_aload_n (am_cur_of (i := (51, 1, .aload_n 0, (0, 0, 0), 0)) (by decide +kernel)) g0_z hc_z
  replace hc_z := rn_getI (v := 2) (am_cur_of (i := (52, 3, .getfield 60, (4, 10, 419), 0)) (by decide +kernel)) (by decide +kernel) ka hc_z
  replace hc_z := rn_bipush (w := 6) (am_cur_of (i := (55, 2, .bipush 6, (0, 0, 0), 0)) (by decide +kernel)) (by decide) hc_z
  replace hc_z := rn_cmpT (am_cur_of (i := (57, 3, .if_icmp .ne 11, (36, 0, 0), 0)) (by decide +kernel)) (by decide) hc_z
  replace hc_z := rn_aload_n (am_cur_of (i := (68, 1, .aload_n 0, (0, 0, 0), 0)) (by decide +kernel)) g0_z hc_z
  replace hc_z := rn_getI (v := op) (am_cur_of (i := (69, 3, .getfield 254, (4, 14, 423), 0)) (by decide +kernel)) (by decide +kernel) z4_z hc_z
  replace hc_z := rn_if (am_cur_of (i := (72, 3, .ifCond .le 8, (42, 0, 0), 0)) (by decide +kernel)) hc_z
  rcases hc_z with ⟨b4102_z, hc_z⟩ | ⟨b4102_z, hc_z⟩
  · replace b4102_z : op.toInt ≤ (0 : Int32).toInt := b4102_z
    replace hc_z := rn_iconst (w := 3) (am_cur_of (i := (80, 1, .iconst 3, (0, 0, 0), 0)) (by decide +kernel)) (by decide) hc_z
    replace hc_z := rn_iret (am_cur_of (i := (81, 1, .ireturn, (0, 0, 0), 0)) (by decide +kernel)) hc_z
    obtain ⟨e4103_z, e4104_z⟩ := hc_z
    replace hm_z := rn_aload_n (am_cur_of (i := (0, 1, .aload_n 0, (0, 0, 0), 0)) (by decide +kernel)) g0m hm_z
    replace hm_z := rn_bipush (w := 41) (am_cur_of (i := (1, 2, .bipush 41, (0, 0, 0), 0)) (by decide +kernel)) (by decide) hm_z
    replace hm_z := rn_callV (M' := am_m171) (o := 164) (ar := [.int 41]) (rest := []) (L := lv_args 0 [.ref 164, .int 41]) (am_cur_of (i := (3, 3, .invokevirtual 194, (171, 1715, 3), 0)) (by decide +kernel)) rfl rfl rfl rfl hm_z
    obtain ⟨r4105_z, h4106_z, q4107_z, hm_z⟩ := hm_z
    obtain ⟨rfl, yq4107_z⟩ := rp_sgN (fun q => absurd (Eq.trans (Eq.symm kc) q.1) (by decide)) q4107_z
    subst yq4107_z
    replace hm_z : rn _ _ _ _ [.int 0] _ _ _ := hm_z
    replace hm_z := rn_ifT (am_cur_of (i := (6, 3, .ifCond .eq 41, (26, 0, 0), 0)) (by decide +kernel)) (by decide) hm_z
    replace hm_z := rn_aload_n (am_cur_of (i := (47, 1, .aload_n 0, (0, 0, 0), 0)) (by decide +kernel)) g0m hm_z
    replace hm_z := rn_bipush (w := 12) (am_cur_of (i := (48, 2, .bipush 12, (0, 0, 0), 0)) (by decide +kernel)) (by decide) hm_z
    replace hm_z := rn_callV (M' := am_m174) (o := 164) (ar := [.int 12]) (rest := []) (L := lv_args 0 [.ref 164, .int 12]) (am_cur_of (i := (50, 3, .invokevirtual 306, (174, 1727, 3), 0)) (by decide +kernel)) rfl rfl rfl rfl hm_z
    obtain ⟨r4108_z, h4109_z, q4110_z, hm_z⟩ := hm_z
    obtain ⟨rfl, yq4110_z⟩ := rp_kyN (fun q => by have zz := congrArg Int32.toInt q.2; have zy := congrArg Int32.toInt kd; have zx : (12 : Int32).toInt = 12 := (by decide); omega) q4110_z
    subst yq4110_z
    replace hm_z : rn _ _ _ _ [.int 0] _ _ _ := hm_z
    replace hm_z := rn_ifT (am_cur_of (i := (53, 3, .ifCond .eq 7, (32, 0, 0), 0)) (by decide +kernel)) (by decide) hm_z
    replace hm_z := rn_aload_n (am_cur_of (i := (60, 1, .aload_n 0, (0, 0, 0), 0)) (by decide +kernel)) g0m hm_z
    replace hm_z := rn_bipush (w := 13) (am_cur_of (i := (61, 2, .bipush 13, (0, 0, 0), 0)) (by decide +kernel)) (by decide) hm_z
    replace hm_z := rn_callV (M' := am_m174) (o := 164) (ar := [.int 13]) (rest := []) (L := lv_args 0 [.ref 164, .int 13]) (am_cur_of (i := (63, 3, .invokevirtual 306, (174, 1727, 3), 0)) (by decide +kernel)) rfl rfl rfl rfl hm_z
    obtain ⟨r4111_z, h4112_z, q4113_z, hm_z⟩ := hm_z
    obtain ⟨rfl, yq4113_z⟩ := rp_kyN (fun q => by have zz := congrArg Int32.toInt q.2; have zy := congrArg Int32.toInt kd; have zx : (13 : Int32).toInt = 13 := (by decide); omega) q4113_z
    subst yq4113_z
    replace hm_z : rn _ _ _ _ [.int 0] _ _ _ := hm_z
    replace hm_z := rn_ifT (am_cur_of (i := (66, 3, .ifCond .eq 7, (38, 0, 0), 0)) (by decide +kernel)) (by decide) hm_z
    replace hm_z := rn_aload_n (am_cur_of (i := (73, 1, .aload_n 0, (0, 0, 0), 0)) (by decide +kernel)) g0m hm_z
    replace hm_z := rn_getI (v := 1) (am_cur_of (i := (74, 3, .getfield 157, (12, 8, 1392), 0)) (by decide +kernel)) (by decide +kernel) kc hm_z
    replace hm_z := rn_iconst (w := 5) (am_cur_of (i := (77, 1, .iconst 5, (0, 0, 0), 0)) (by decide +kernel)) (by decide) hm_z
    replace hm_z := rn_cmpT (am_cur_of (i := (78, 3, .if_icmp .ne 12, (47, 0, 0), 0)) (by decide +kernel)) (by decide) hm_z
    replace hm_z := rn_aload_n (am_cur_of (i := (90, 1, .aload_n 0, (0, 0, 0), 0)) (by decide +kernel)) g0m hm_z
    replace hm_z := rn_bipush (w := 43) (am_cur_of (i := (91, 2, .bipush 43, (0, 0, 0), 0)) (by decide +kernel)) (by decide) hm_z
    replace hm_z := rn_callV (M' := am_m171) (o := 164) (ar := [.int 43]) (rest := []) (L := lv_args 0 [.ref 164, .int 43]) (am_cur_of (i := (93, 3, .invokevirtual 194, (171, 1715, 3), 0)) (by decide +kernel)) rfl rfl rfl rfl hm_z
    obtain ⟨r4114_z, h4115_z, q4116_z, hm_z⟩ := hm_z
    obtain ⟨rfl, yq4116_z⟩ := rp_sgN (fun q => absurd (Eq.trans (Eq.symm kc) q.1) (by decide)) q4116_z
    subst yq4116_z
    replace hm_z : rn _ _ _ _ [.int 0] _ _ _ := hm_z
    replace hm_z := rn_ifT (am_cur_of (i := (96, 3, .ifCond .eq 8, (53, 0, 0), 0)) (by decide +kernel)) (by decide) hm_z
    replace hm_z := rn_aload_n (am_cur_of (i := (104, 1, .aload_n 0, (0, 0, 0), 0)) (by decide +kernel)) g0m hm_z
    replace hm_z := rn_bipush (w := 45) (am_cur_of (i := (105, 2, .bipush 45, (0, 0, 0), 0)) (by decide +kernel)) (by decide) hm_z
    replace hm_z := rn_callV (M' := am_m171) (o := 164) (ar := [.int 45]) (rest := []) (L := lv_args 0 [.ref 164, .int 45]) (am_cur_of (i := (107, 3, .invokevirtual 194, (171, 1715, 3), 0)) (by decide +kernel)) rfl rfl rfl rfl hm_z
    obtain ⟨r4117_z, h4118_z, q4119_z, hm_z⟩ := hm_z
    obtain ⟨rfl, yq4119_z⟩ := rp_sgN (fun q => absurd (Eq.trans (Eq.symm kc) q.1) (by decide)) q4119_z
    subst yq4119_z
    replace hm_z : rn _ _ _ _ [.int 0] _ _ _ := hm_z
    replace hm_z := rn_ifT (am_cur_of (i := (110, 3, .ifCond .eq 8, (59, 0, 0), 0)) (by decide +kernel)) (by decide) hm_z
    replace hm_z := rn_aload_n (am_cur_of (i := (118, 1, .aload_n 0, (0, 0, 0), 0)) (by decide +kernel)) g0m hm_z
    replace hm_z := rn_bipush (w := 42) (am_cur_of (i := (119, 2, .bipush 42, (0, 0, 0), 0)) (by decide +kernel)) (by decide) hm_z
    replace hm_z := rn_callV (M' := am_m171) (o := 164) (ar := [.int 42]) (rest := []) (L := lv_args 0 [.ref 164, .int 42]) (am_cur_of (i := (121, 3, .invokevirtual 194, (171, 1715, 3), 0)) (by decide +kernel)) rfl rfl rfl rfl hm_z
    obtain ⟨r4120_z, h4121_z, q4122_z, hm_z⟩ := hm_z
    obtain ⟨rfl, yq4122_z⟩ := rp_sgN (fun q => absurd (Eq.trans (Eq.symm kc) q.1) (by decide)) q4122_z
    subst yq4122_z
    replace hm_z : rn _ _ _ _ [.int 0] _ _ _ := hm_z
    replace hm_z := rn_ifT (am_cur_of (i := (124, 3, .ifCond .eq 8, (65, 0, 0), 0)) (by decide +kernel)) (by decide) hm_z
    replace hm_z := rn_aload_n (am_cur_of (i := (132, 1, .aload_n 0, (0, 0, 0), 0)) (by decide +kernel)) g0m hm_z
    replace hm_z := rn_bipush (w := 47) (am_cur_of (i := (133, 2, .bipush 47, (0, 0, 0), 0)) (by decide +kernel)) (by decide) hm_z
    replace hm_z := rn_callV (M' := am_m171) (o := 164) (ar := [.int 47]) (rest := []) (L := lv_args 0 [.ref 164, .int 47]) (am_cur_of (i := (135, 3, .invokevirtual 194, (171, 1715, 3), 0)) (by decide +kernel)) rfl rfl rfl rfl hm_z
    obtain ⟨r4123_z, h4124_z, q4125_z, hm_z⟩ := hm_z
    obtain ⟨rfl, yq4125_z⟩ := rp_sgN (fun q => absurd (Eq.trans (Eq.symm kc) q.1) (by decide)) q4125_z
    subst yq4125_z
    replace hm_z : rn _ _ _ _ [.int 0] _ _ _ := hm_z
    replace hm_z := rn_ifT (am_cur_of (i := (138, 3, .ifCond .eq 8, (71, 0, 0), 0)) (by decide +kernel)) (by decide) hm_z
    replace hm_z := rn_iconst (w := 0) (am_cur_of (i := (146, 1, .iconst 0, (0, 0, 0), 0)) (by decide +kernel)) (by decide) hm_z
    replace hm_z := rn_istore_n (am_cur_of (i := (147, 1, .istore_n 1, (0, 0, 0), 0)) (by decide +kernel)) hm_z
    obtain ⟨_, s4126_z, s4127_z, g1m, hm_z⟩ := hm_z
    replace g0m := s4126_z 0 _ (by decide) rfl g0m
    clear s4126_z s4127_z
    replace hm_z := rn_iload_n (am_cur_of (i := (148, 1, .iload_n 1, (0, 0, 0), 0)) (by decide +kernel)) g1m hm_z
    replace hm_z := rn_ifF (am_cur_of (i := (149, 3, .ifCond .ne 9, (79, 0, 0), 0)) (by decide +kernel)) (by decide) hm_z
    replace hm_z := rn_aload_n (am_cur_of (i := (152, 1, .aload_n 0, (0, 0, 0), 0)) (by decide +kernel)) g0m hm_z
    replace hm_z := rn_iconst (w := 1) (am_cur_of (i := (153, 1, .iconst 1, (0, 0, 0), 0)) (by decide +kernel)) (by decide) hm_z
    replace hm_z := rn_callV (M' := am_m158) (o := 164) (ar := [.int 1]) (rest := []) (L := lv_args 0 [.ref 164, .int 1]) (am_cur_of (i := (154, 3, .invokevirtual 181, (158, 1665, 3), 0)) (by decide +kernel)) rfl rfl rfl rfl hm_z
    obtain ⟨r4128_z, h4129_z, q4130_z, hm_z⟩ := hm_z
    obtain ⟨rfl, yq4130_z⟩ := rp_wrong q4130_z
    subst yq4130_z
    replace hm_z : rn _ _ _ _ [.int 0] _ _ _ := hm_z
    replace hm_z := rn_iret (am_cur_of (i := (157, 1, .ireturn, (0, 0, 0), 0)) (by decide +kernel)) hm_z
    obtain ⟨e4131_z, e4132_z⟩ := hm_z
    subst e4104_z e4132_z
    exact Or.inr ⟨e4103_z, rfl, z4_z.trans (rt_i32 (by rw [show (0 : Int32).toInt = 0 by decide]; omega)), e4131_z, rfl⟩
  · replace b4102_z : (0 : Int32).toInt < op.toInt := b4102_z
    replace hc_z := rn_aload_n (am_cur_of (i := (75, 1, .aload_n 0, (0, 0, 0), 0)) (by decide +kernel)) g0_z hc_z
    replace hc_z := rn_iconst (w := 1) (am_cur_of (i := (76, 1, .iconst 1, (0, 0, 0), 0)) (by decide +kernel)) (by decide) hc_z
    replace hc_z := rn_callV (M' := am_m29) (o := 44) (ar := [.int 1]) (rest := []) (L := lv_args 0 [.ref 44, .int 1]) (am_cur_of (i := (77, 3, .invokevirtual 108, (29, 769, 3), 0)) (by decide +kernel)) rfl rfl rfl rfl hc_z
    obtain ⟨r4133_z, h4134_z, q4135_z, hc_z⟩ := hc_z
    obtain ⟨rfl, yq4135_z⟩ := rp_fail R4 q4135_z
    subst yq4135_z
    replace hc_z : rn _ _ _ _ [] _ _ _ := hc_z
    have K := rs_stick (w := 1) (q := p) (a := 44) (by decide) (by decide) rfl (by decide) rfl (show rg_v (am_up (am_up h 44 1 (.int 1)) 44 2 (.int (rg_v h 44 9))) 44 2 = p from R5) hc_z
    replace hm_z := rn_aload_n (am_cur_of (i := (0, 1, .aload_n 0, (0, 0, 0), 0)) (by decide +kernel)) g0m hm_z
    replace hm_z := rn_bipush (w := 41) (am_cur_of (i := (1, 2, .bipush 41, (0, 0, 0), 0)) (by decide +kernel)) (by decide) hm_z
    replace hm_z := rn_callV (M' := am_m171) (o := 164) (ar := [.int 41]) (rest := []) (L := lv_args 0 [.ref 164, .int 41]) (am_cur_of (i := (3, 3, .invokevirtual 194, (171, 1715, 3), 0)) (by decide +kernel)) rfl rfl rfl rfl hm_z
    obtain ⟨r4136_z, h4137_z, q4138_z, hm_z⟩ := hm_z
    obtain ⟨rfl, yq4138_z⟩ := rp_sgN (fun q => absurd (Eq.trans (Eq.symm kc) q.1) (by decide)) q4138_z
    subst yq4138_z
    replace hm_z : rn _ _ _ _ [.int 0] _ _ _ := hm_z
    replace hm_z := rn_ifT (am_cur_of (i := (6, 3, .ifCond .eq 41, (26, 0, 0), 0)) (by decide +kernel)) (by decide) hm_z
    replace hm_z := rn_aload_n (am_cur_of (i := (47, 1, .aload_n 0, (0, 0, 0), 0)) (by decide +kernel)) g0m hm_z
    replace hm_z := rn_bipush (w := 12) (am_cur_of (i := (48, 2, .bipush 12, (0, 0, 0), 0)) (by decide +kernel)) (by decide) hm_z
    replace hm_z := rn_callV (M' := am_m174) (o := 164) (ar := [.int 12]) (rest := []) (L := lv_args 0 [.ref 164, .int 12]) (am_cur_of (i := (50, 3, .invokevirtual 306, (174, 1727, 3), 0)) (by decide +kernel)) rfl rfl rfl rfl hm_z
    obtain ⟨r4139_z, h4140_z, q4141_z, hm_z⟩ := hm_z
    obtain ⟨rfl, yq4141_z⟩ := rp_kyN (fun q => by have zz := congrArg Int32.toInt q.2; have zy := congrArg Int32.toInt kd; have zx : (12 : Int32).toInt = 12 := (by decide); omega) q4141_z
    subst yq4141_z
    replace hm_z : rn _ _ _ _ [.int 0] _ _ _ := hm_z
    replace hm_z := rn_ifT (am_cur_of (i := (53, 3, .ifCond .eq 7, (32, 0, 0), 0)) (by decide +kernel)) (by decide) hm_z
    replace hm_z := rn_aload_n (am_cur_of (i := (60, 1, .aload_n 0, (0, 0, 0), 0)) (by decide +kernel)) g0m hm_z
    replace hm_z := rn_bipush (w := 13) (am_cur_of (i := (61, 2, .bipush 13, (0, 0, 0), 0)) (by decide +kernel)) (by decide) hm_z
    replace hm_z := rn_callV (M' := am_m174) (o := 164) (ar := [.int 13]) (rest := []) (L := lv_args 0 [.ref 164, .int 13]) (am_cur_of (i := (63, 3, .invokevirtual 306, (174, 1727, 3), 0)) (by decide +kernel)) rfl rfl rfl rfl hm_z
    obtain ⟨r4142_z, h4143_z, q4144_z, hm_z⟩ := hm_z
    obtain ⟨rfl, yq4144_z⟩ := rp_kyN (fun q => by have zz := congrArg Int32.toInt q.2; have zy := congrArg Int32.toInt kd; have zx : (13 : Int32).toInt = 13 := (by decide); omega) q4144_z
    subst yq4144_z
    replace hm_z : rn _ _ _ _ [.int 0] _ _ _ := hm_z
    replace hm_z := rn_ifT (am_cur_of (i := (66, 3, .ifCond .eq 7, (38, 0, 0), 0)) (by decide +kernel)) (by decide) hm_z
    replace hm_z := rn_aload_n (am_cur_of (i := (73, 1, .aload_n 0, (0, 0, 0), 0)) (by decide +kernel)) g0m hm_z
    replace hm_z := rn_getI (v := 1) (am_cur_of (i := (74, 3, .getfield 157, (12, 8, 1392), 0)) (by decide +kernel)) (by decide +kernel) kc hm_z
    replace hm_z := rn_iconst (w := 5) (am_cur_of (i := (77, 1, .iconst 5, (0, 0, 0), 0)) (by decide +kernel)) (by decide) hm_z
    replace hm_z := rn_cmpT (am_cur_of (i := (78, 3, .if_icmp .ne 12, (47, 0, 0), 0)) (by decide +kernel)) (by decide) hm_z
    replace hm_z := rn_aload_n (am_cur_of (i := (90, 1, .aload_n 0, (0, 0, 0), 0)) (by decide +kernel)) g0m hm_z
    replace hm_z := rn_bipush (w := 43) (am_cur_of (i := (91, 2, .bipush 43, (0, 0, 0), 0)) (by decide +kernel)) (by decide) hm_z
    replace hm_z := rn_callV (M' := am_m171) (o := 164) (ar := [.int 43]) (rest := []) (L := lv_args 0 [.ref 164, .int 43]) (am_cur_of (i := (93, 3, .invokevirtual 194, (171, 1715, 3), 0)) (by decide +kernel)) rfl rfl rfl rfl hm_z
    obtain ⟨r4145_z, h4146_z, q4147_z, hm_z⟩ := hm_z
    obtain ⟨rfl, yq4147_z⟩ := rp_sgN (fun q => absurd (Eq.trans (Eq.symm kc) q.1) (by decide)) q4147_z
    subst yq4147_z
    replace hm_z : rn _ _ _ _ [.int 0] _ _ _ := hm_z
    replace hm_z := rn_ifT (am_cur_of (i := (96, 3, .ifCond .eq 8, (53, 0, 0), 0)) (by decide +kernel)) (by decide) hm_z
    replace hm_z := rn_aload_n (am_cur_of (i := (104, 1, .aload_n 0, (0, 0, 0), 0)) (by decide +kernel)) g0m hm_z
    replace hm_z := rn_bipush (w := 45) (am_cur_of (i := (105, 2, .bipush 45, (0, 0, 0), 0)) (by decide +kernel)) (by decide) hm_z
    replace hm_z := rn_callV (M' := am_m171) (o := 164) (ar := [.int 45]) (rest := []) (L := lv_args 0 [.ref 164, .int 45]) (am_cur_of (i := (107, 3, .invokevirtual 194, (171, 1715, 3), 0)) (by decide +kernel)) rfl rfl rfl rfl hm_z
    obtain ⟨r4148_z, h4149_z, q4150_z, hm_z⟩ := hm_z
    obtain ⟨rfl, yq4150_z⟩ := rp_sgN (fun q => absurd (Eq.trans (Eq.symm kc) q.1) (by decide)) q4150_z
    subst yq4150_z
    replace hm_z : rn _ _ _ _ [.int 0] _ _ _ := hm_z
    replace hm_z := rn_ifT (am_cur_of (i := (110, 3, .ifCond .eq 8, (59, 0, 0), 0)) (by decide +kernel)) (by decide) hm_z
    replace hm_z := rn_aload_n (am_cur_of (i := (118, 1, .aload_n 0, (0, 0, 0), 0)) (by decide +kernel)) g0m hm_z
    replace hm_z := rn_bipush (w := 42) (am_cur_of (i := (119, 2, .bipush 42, (0, 0, 0), 0)) (by decide +kernel)) (by decide) hm_z
    replace hm_z := rn_callV (M' := am_m171) (o := 164) (ar := [.int 42]) (rest := []) (L := lv_args 0 [.ref 164, .int 42]) (am_cur_of (i := (121, 3, .invokevirtual 194, (171, 1715, 3), 0)) (by decide +kernel)) rfl rfl rfl rfl hm_z
    obtain ⟨r4151_z, h4152_z, q4153_z, hm_z⟩ := hm_z
    obtain ⟨rfl, yq4153_z⟩ := rp_sgN (fun q => absurd (Eq.trans (Eq.symm kc) q.1) (by decide)) q4153_z
    subst yq4153_z
    replace hm_z : rn _ _ _ _ [.int 0] _ _ _ := hm_z
    replace hm_z := rn_ifT (am_cur_of (i := (124, 3, .ifCond .eq 8, (65, 0, 0), 0)) (by decide +kernel)) (by decide) hm_z
    replace hm_z := rn_aload_n (am_cur_of (i := (132, 1, .aload_n 0, (0, 0, 0), 0)) (by decide +kernel)) g0m hm_z
    replace hm_z := rn_bipush (w := 47) (am_cur_of (i := (133, 2, .bipush 47, (0, 0, 0), 0)) (by decide +kernel)) (by decide) hm_z
    replace hm_z := rn_callV (M' := am_m171) (o := 164) (ar := [.int 47]) (rest := []) (L := lv_args 0 [.ref 164, .int 47]) (am_cur_of (i := (135, 3, .invokevirtual 194, (171, 1715, 3), 0)) (by decide +kernel)) rfl rfl rfl rfl hm_z
    obtain ⟨r4154_z, h4155_z, q4156_z, hm_z⟩ := hm_z
    obtain ⟨rfl, yq4156_z⟩ := rp_sgN (fun q => absurd (Eq.trans (Eq.symm kc) q.1) (by decide)) q4156_z
    subst yq4156_z
    replace hm_z : rn _ _ _ _ [.int 0] _ _ _ := hm_z
    replace hm_z := rn_ifT (am_cur_of (i := (138, 3, .ifCond .eq 8, (71, 0, 0), 0)) (by decide +kernel)) (by decide) hm_z
    replace hm_z := rn_iconst (w := 0) (am_cur_of (i := (146, 1, .iconst 0, (0, 0, 0), 0)) (by decide +kernel)) (by decide) hm_z
    replace hm_z := rn_istore_n (am_cur_of (i := (147, 1, .istore_n 1, (0, 0, 0), 0)) (by decide +kernel)) hm_z
    obtain ⟨_, s4157_z, s4158_z, g1m, hm_z⟩ := hm_z
    replace g0m := s4157_z 0 _ (by decide) rfl g0m
    clear s4157_z s4158_z
    replace hm_z := rn_iload_n (am_cur_of (i := (148, 1, .iload_n 1, (0, 0, 0), 0)) (by decide +kernel)) g1m hm_z
    replace hm_z := rn_ifF (am_cur_of (i := (149, 3, .ifCond .ne 9, (79, 0, 0), 0)) (by decide +kernel)) (by decide) hm_z
    replace hm_z := rn_aload_n (am_cur_of (i := (152, 1, .aload_n 0, (0, 0, 0), 0)) (by decide +kernel)) g0m hm_z
    replace hm_z := rn_iconst (w := 1) (am_cur_of (i := (153, 1, .iconst 1, (0, 0, 0), 0)) (by decide +kernel)) (by decide) hm_z
    replace hm_z := rn_callV (M' := am_m158) (o := 164) (ar := [.int 1]) (rest := []) (L := lv_args 0 [.ref 164, .int 1]) (am_cur_of (i := (154, 3, .invokevirtual 181, (158, 1665, 3), 0)) (by decide +kernel)) rfl rfl rfl rfl hm_z
    obtain ⟨r4159_z, h4160_z, q4161_z, hm_z⟩ := hm_z
    obtain ⟨rfl, yq4161_z⟩ := rp_wrong q4161_z
    subst yq4161_z
    replace hm_z : rn _ _ _ _ [.int 0] _ _ _ := hm_z
    replace hm_z := rn_iret (am_cur_of (i := (157, 1, .ireturn, (0, 0, 0), 0)) (by decide +kernel)) hm_z
    obtain ⟨e4162_z, e4163_z⟩ := hm_z
    subst e4162_z e4163_z
    exact Or.inl (Or.inr ⟨rfl, 1, by decide, K.1, K.2, rfl, R6⟩)
theorem rj_c4_2 {T : Nat → Int32} {S x p : Int32} {n n' : Nat} {h h' g g' : am_H} {r r' : Option Value} (R : rq T S x p 2 h g) (A : rp 2 h g) (B : rp_t h g) (Z : rs 2 h g) (w0_z : rg_v g 164 45 = 0) (ka : (rg_v h 44 10) = 2) (kc : (rg_v g 164 8) = 1) (kb : (rg_v h 44 11) = 11) (kd : (rg_v g 164 9) = 11) (hc_z : rn n am_m44 0 (lv_args 0 [.ref 44]) [] h r h') (hm_z : rn n' am_m178 0 (lv_args 0 [.ref 164]) [] g r' g') : rj_Q T S x p 2 h g h' g' r r' := by
  have z0_z : (0 : Int32).toInt = 0 := by decide
  have g0_z : am_get (lv_args 0 [.ref 44]) 0 = some (.ref 44) := rfl
  have g0m : am_get (lv_args 0 [.ref 164]) 0 = some (.ref 164) := rfl
  have Rk := R
  have Zk := Z
  obtain ⟨⟨c1_z, c2_z, c3_z, c4_z, c5_z, c6_z, c7_z, c8_z⟩, ⟨m2_z, m3_z, m4_z, m5_z, m6_z, m7_z, m8_z⟩, R3, R4, R5, R6, R7, R8, R9, R10⟩ := (R : rq T S x p 2 h g)
  obtain ⟨np, op, z1_z, z2_z, z3_z, z4_z, z5_z, z6_z, z7_z, z8_z, z9_z, z10_z⟩ := (Z : rs 2 h g)
  obtain ⟨nk1_z, nk2_z, nk3_z⟩ := A.2.2.2.2.2.1
  replace nk1_z : rg_v h 11 0 = rg_v g 164 44 := nk1_z
  replace nk2_z : 0 ≤ (rg_v h 11 0).toInt := nk2_z
  replace nk3_z : (rg_v h 11 0).toInt ≤ 64 := nk3_z
  replace z8_z : np.toInt ≤ (rg_v h 11 0).toInt + op.toInt := z8_z
  obtain ⟨kn, ekn⟩ : ∃ v, rg_v h 11 0 = v := ⟨_, rfl⟩
  rw [ekn] at nk1_z nk2_z nk3_z z8_z
  have e9_z := rt_c1 (x := kn) (by omega) (by omega)
  replace hc_z := rn_aload_n (am_cur_of (i := (0, 1, .aload_n 0, (0, 0, 0), 0)) (by decide +kernel)) g0_z hc_z
  replace hc_z := rn_bipush (w := 41) (am_cur_of (i := (1, 2, .bipush 41, (0, 0, 0), 0)) (by decide +kernel)) (by decide) hc_z
  replace hc_z := rn_callV (M' := am_m45) (o := 44) (ar := [.int 41]) (rest := []) (L := lv_args 0 [.ref 44, .int 41]) (am_cur_of (i := (3, 3, .invokevirtual 105, (45, 834, 3), 0)) (by decide +kernel)) rfl rfl rfl rfl hc_z
  obtain ⟨r4164_z, h4165_z, q4166_z, hc_z⟩ := hc_z
  obtain ⟨rfl, yq4166_z⟩ := rp_mkN (fun q => absurd (Eq.trans (Eq.symm ka) q.1) (by decide)) q4166_z
  subst yq4166_z
  replace hc_z : rn _ _ _ _ [.int 0] _ _ _ := hc_z
  replace hc_z := rn_ifT (am_cur_of (i := (6, 3, .ifCond .eq 45, (28, 0, 0), 0)) (by decide +kernel)) (by decide) hc_z
  replace hc_z := rn_aload_n (am_cur_of (i := (51, 1, .aload_n 0, (0, 0, 0), 0)) (by decide +kernel)) g0_z hc_z
  replace hc_z := rn_getI (v := 2) (am_cur_of (i := (52, 3, .getfield 60, (4, 10, 419), 0)) (by decide +kernel)) (by decide +kernel) ka hc_z
  replace hc_z := rn_bipush (w := 6) (am_cur_of (i := (55, 2, .bipush 6, (0, 0, 0), 0)) (by decide +kernel)) (by decide) hc_z
  replace hc_z := rn_cmpT (am_cur_of (i := (57, 3, .if_icmp .ne 11, (36, 0, 0), 0)) (by decide +kernel)) (by decide) hc_z
  replace hc_z := rn_aload_n (am_cur_of (i := (68, 1, .aload_n 0, (0, 0, 0), 0)) (by decide +kernel)) g0_z hc_z
  replace hc_z := rn_getI (v := op) (am_cur_of (i := (69, 3, .getfield 254, (4, 14, 423), 0)) (by decide +kernel)) (by decide +kernel) z4_z hc_z
  replace hc_z := rn_if (am_cur_of (i := (72, 3, .ifCond .le 8, (42, 0, 0), 0)) (by decide +kernel)) hc_z
  rcases hc_z with ⟨b4167_z, hc_z⟩ | ⟨b4167_z, hc_z⟩
  · replace b4167_z : op.toInt ≤ (0 : Int32).toInt := b4167_z
    replace hc_z := rn_iconst (w := 3) (am_cur_of (i := (80, 1, .iconst 3, (0, 0, 0), 0)) (by decide +kernel)) (by decide) hc_z
    replace hc_z := rn_iret (am_cur_of (i := (81, 1, .ireturn, (0, 0, 0), 0)) (by decide +kernel)) hc_z
    obtain ⟨e4168_z, e4169_z⟩ := hc_z
    replace hm_z := rn_aload_n (am_cur_of (i := (0, 1, .aload_n 0, (0, 0, 0), 0)) (by decide +kernel)) g0m hm_z
    replace hm_z := rn_bipush (w := 41) (am_cur_of (i := (1, 2, .bipush 41, (0, 0, 0), 0)) (by decide +kernel)) (by decide) hm_z
    replace hm_z := rn_callV (M' := am_m171) (o := 164) (ar := [.int 41]) (rest := []) (L := lv_args 0 [.ref 164, .int 41]) (am_cur_of (i := (3, 3, .invokevirtual 194, (171, 1715, 3), 0)) (by decide +kernel)) rfl rfl rfl rfl hm_z
    obtain ⟨r4170_z, h4171_z, q4172_z, hm_z⟩ := hm_z
    obtain ⟨rfl, yq4172_z⟩ := rp_sgN (fun q => absurd (Eq.trans (Eq.symm kc) q.1) (by decide)) q4172_z
    subst yq4172_z
    replace hm_z : rn _ _ _ _ [.int 0] _ _ _ := hm_z
    replace hm_z := rn_ifT (am_cur_of (i := (6, 3, .ifCond .eq 41, (26, 0, 0), 0)) (by decide +kernel)) (by decide) hm_z
    replace hm_z := rn_aload_n (am_cur_of (i := (47, 1, .aload_n 0, (0, 0, 0), 0)) (by decide +kernel)) g0m hm_z
    replace hm_z := rn_bipush (w := 12) (am_cur_of (i := (48, 2, .bipush 12, (0, 0, 0), 0)) (by decide +kernel)) (by decide) hm_z
    replace hm_z := rn_callV (M' := am_m174) (o := 164) (ar := [.int 12]) (rest := []) (L := lv_args 0 [.ref 164, .int 12]) (am_cur_of (i := (50, 3, .invokevirtual 306, (174, 1727, 3), 0)) (by decide +kernel)) rfl rfl rfl rfl hm_z
    obtain ⟨r4173_z, h4174_z, q4175_z, hm_z⟩ := hm_z
    obtain ⟨rfl, yq4175_z⟩ := rp_kyN (fun q => absurd (Eq.trans (Eq.symm kd) q.2) (by decide)) q4175_z
    subst yq4175_z
    replace hm_z : rn _ _ _ _ [.int 0] _ _ _ := hm_z
    replace hm_z := rn_ifT (am_cur_of (i := (53, 3, .ifCond .eq 7, (32, 0, 0), 0)) (by decide +kernel)) (by decide) hm_z
    replace hm_z := rn_aload_n (am_cur_of (i := (60, 1, .aload_n 0, (0, 0, 0), 0)) (by decide +kernel)) g0m hm_z
    replace hm_z := rn_bipush (w := 13) (am_cur_of (i := (61, 2, .bipush 13, (0, 0, 0), 0)) (by decide +kernel)) (by decide) hm_z
    replace hm_z := rn_callV (M' := am_m174) (o := 164) (ar := [.int 13]) (rest := []) (L := lv_args 0 [.ref 164, .int 13]) (am_cur_of (i := (63, 3, .invokevirtual 306, (174, 1727, 3), 0)) (by decide +kernel)) rfl rfl rfl rfl hm_z
    obtain ⟨r4176_z, h4177_z, q4178_z, hm_z⟩ := hm_z
    obtain ⟨rfl, yq4178_z⟩ := rp_kyN (fun q => absurd (Eq.trans (Eq.symm kd) q.2) (by decide)) q4178_z
    subst yq4178_z
    replace hm_z : rn _ _ _ _ [.int 0] _ _ _ := hm_z
    replace hm_z := rn_ifT (am_cur_of (i := (66, 3, .ifCond .eq 7, (38, 0, 0), 0)) (by decide +kernel)) (by decide) hm_z
    replace hm_z := rn_aload_n (am_cur_of (i := (73, 1, .aload_n 0, (0, 0, 0), 0)) (by decide +kernel)) g0m hm_z
    replace hm_z := rn_getI (v := 1) (am_cur_of (i := (74, 3, .getfield 157, (12, 8, 1392), 0)) (by decide +kernel)) (by decide +kernel) kc hm_z
    replace hm_z := rn_iconst (w := 5) (am_cur_of (i := (77, 1, .iconst 5, (0, 0, 0), 0)) (by decide +kernel)) (by decide) hm_z
    replace hm_z := rn_cmpT (am_cur_of (i := (78, 3, .if_icmp .ne 12, (47, 0, 0), 0)) (by decide +kernel)) (by decide) hm_z
    replace hm_z := rn_aload_n (am_cur_of (i := (90, 1, .aload_n 0, (0, 0, 0), 0)) (by decide +kernel)) g0m hm_z
    replace hm_z := rn_bipush (w := 43) (am_cur_of (i := (91, 2, .bipush 43, (0, 0, 0), 0)) (by decide +kernel)) (by decide) hm_z
    replace hm_z := rn_callV (M' := am_m171) (o := 164) (ar := [.int 43]) (rest := []) (L := lv_args 0 [.ref 164, .int 43]) (am_cur_of (i := (93, 3, .invokevirtual 194, (171, 1715, 3), 0)) (by decide +kernel)) rfl rfl rfl rfl hm_z
    obtain ⟨r4179_z, h4180_z, q4181_z, hm_z⟩ := hm_z
    obtain ⟨rfl, yq4181_z⟩ := rp_sgN (fun q => absurd (Eq.trans (Eq.symm kc) q.1) (by decide)) q4181_z
    subst yq4181_z
    replace hm_z : rn _ _ _ _ [.int 0] _ _ _ := hm_z
    replace hm_z := rn_ifT (am_cur_of (i := (96, 3, .ifCond .eq 8, (53, 0, 0), 0)) (by decide +kernel)) (by decide) hm_z
    replace hm_z := rn_aload_n (am_cur_of (i := (104, 1, .aload_n 0, (0, 0, 0), 0)) (by decide +kernel)) g0m hm_z
    replace hm_z := rn_bipush (w := 45) (am_cur_of (i := (105, 2, .bipush 45, (0, 0, 0), 0)) (by decide +kernel)) (by decide) hm_z
    replace hm_z := rn_callV (M' := am_m171) (o := 164) (ar := [.int 45]) (rest := []) (L := lv_args 0 [.ref 164, .int 45]) (am_cur_of (i := (107, 3, .invokevirtual 194, (171, 1715, 3), 0)) (by decide +kernel)) rfl rfl rfl rfl hm_z
    obtain ⟨r4182_z, h4183_z, q4184_z, hm_z⟩ := hm_z
    obtain ⟨rfl, yq4184_z⟩ := rp_sgN (fun q => absurd (Eq.trans (Eq.symm kc) q.1) (by decide)) q4184_z
    subst yq4184_z
    replace hm_z : rn _ _ _ _ [.int 0] _ _ _ := hm_z
    replace hm_z := rn_ifT (am_cur_of (i := (110, 3, .ifCond .eq 8, (59, 0, 0), 0)) (by decide +kernel)) (by decide) hm_z
    replace hm_z := rn_aload_n (am_cur_of (i := (118, 1, .aload_n 0, (0, 0, 0), 0)) (by decide +kernel)) g0m hm_z
    replace hm_z := rn_bipush (w := 42) (am_cur_of (i := (119, 2, .bipush 42, (0, 0, 0), 0)) (by decide +kernel)) (by decide) hm_z
    replace hm_z := rn_callV (M' := am_m171) (o := 164) (ar := [.int 42]) (rest := []) (L := lv_args 0 [.ref 164, .int 42]) (am_cur_of (i := (121, 3, .invokevirtual 194, (171, 1715, 3), 0)) (by decide +kernel)) rfl rfl rfl rfl hm_z
    obtain ⟨r4185_z, h4186_z, q4187_z, hm_z⟩ := hm_z
    obtain ⟨rfl, yq4187_z⟩ := rp_sgN (fun q => absurd (Eq.trans (Eq.symm kc) q.1) (by decide)) q4187_z
    subst yq4187_z
    replace hm_z : rn _ _ _ _ [.int 0] _ _ _ := hm_z
    replace hm_z := rn_ifT (am_cur_of (i := (124, 3, .ifCond .eq 8, (65, 0, 0), 0)) (by decide +kernel)) (by decide) hm_z
    replace hm_z := rn_aload_n (am_cur_of (i := (132, 1, .aload_n 0, (0, 0, 0), 0)) (by decide +kernel)) g0m hm_z
    replace hm_z := rn_bipush (w := 47) (am_cur_of (i := (133, 2, .bipush 47, (0, 0, 0), 0)) (by decide +kernel)) (by decide) hm_z
    replace hm_z := rn_callV (M' := am_m171) (o := 164) (ar := [.int 47]) (rest := []) (L := lv_args 0 [.ref 164, .int 47]) (am_cur_of (i := (135, 3, .invokevirtual 194, (171, 1715, 3), 0)) (by decide +kernel)) rfl rfl rfl rfl hm_z
    obtain ⟨r4188_z, h4189_z, q4190_z, hm_z⟩ := hm_z
    obtain ⟨rfl, yq4190_z⟩ := rp_sgN (fun q => absurd (Eq.trans (Eq.symm kc) q.1) (by decide)) q4190_z
    subst yq4190_z
    replace hm_z : rn _ _ _ _ [.int 0] _ _ _ := hm_z
    replace hm_z := rn_ifT (am_cur_of (i := (138, 3, .ifCond .eq 8, (71, 0, 0), 0)) (by decide +kernel)) (by decide) hm_z
    replace hm_z := rn_iconst (w := 0) (am_cur_of (i := (146, 1, .iconst 0, (0, 0, 0), 0)) (by decide +kernel)) (by decide) hm_z
    replace hm_z := rn_istore_n (am_cur_of (i := (147, 1, .istore_n 1, (0, 0, 0), 0)) (by decide +kernel)) hm_z
    obtain ⟨_, s4191_z, s4192_z, g1m, hm_z⟩ := hm_z
    replace g0m := s4191_z 0 _ (by decide) rfl g0m
    clear s4191_z s4192_z
    replace hm_z := rn_iload_n (am_cur_of (i := (148, 1, .iload_n 1, (0, 0, 0), 0)) (by decide +kernel)) g1m hm_z
    replace hm_z := rn_ifF (am_cur_of (i := (149, 3, .ifCond .ne 9, (79, 0, 0), 0)) (by decide +kernel)) (by decide) hm_z
    replace hm_z := rn_aload_n (am_cur_of (i := (152, 1, .aload_n 0, (0, 0, 0), 0)) (by decide +kernel)) g0m hm_z
    replace hm_z := rn_iconst (w := 1) (am_cur_of (i := (153, 1, .iconst 1, (0, 0, 0), 0)) (by decide +kernel)) (by decide) hm_z
    replace hm_z := rn_callV (M' := am_m158) (o := 164) (ar := [.int 1]) (rest := []) (L := lv_args 0 [.ref 164, .int 1]) (am_cur_of (i := (154, 3, .invokevirtual 181, (158, 1665, 3), 0)) (by decide +kernel)) rfl rfl rfl rfl hm_z
    obtain ⟨r4193_z, h4194_z, q4195_z, hm_z⟩ := hm_z
    obtain ⟨rfl, yq4195_z⟩ := rp_wrong q4195_z
    subst yq4195_z
    replace hm_z : rn _ _ _ _ [.int 0] _ _ _ := hm_z
    replace hm_z := rn_iret (am_cur_of (i := (157, 1, .ireturn, (0, 0, 0), 0)) (by decide +kernel)) hm_z
    obtain ⟨e4196_z, e4197_z⟩ := hm_z
    subst e4169_z e4197_z
    exact Or.inr ⟨e4168_z, rfl, z4_z.trans (rt_i32 (by rw [show (0 : Int32).toInt = 0 by decide]; omega)), e4196_z, rfl⟩
  · replace b4167_z : (0 : Int32).toInt < op.toInt := b4167_z
    replace hc_z := rn_aload_n (am_cur_of (i := (75, 1, .aload_n 0, (0, 0, 0), 0)) (by decide +kernel)) g0_z hc_z
    replace hc_z := rn_iconst (w := 1) (am_cur_of (i := (76, 1, .iconst 1, (0, 0, 0), 0)) (by decide +kernel)) (by decide) hc_z
    replace hc_z := rn_callV (M' := am_m29) (o := 44) (ar := [.int 1]) (rest := []) (L := lv_args 0 [.ref 44, .int 1]) (am_cur_of (i := (77, 3, .invokevirtual 108, (29, 769, 3), 0)) (by decide +kernel)) rfl rfl rfl rfl hc_z
    obtain ⟨r4198_z, h4199_z, q4200_z, hc_z⟩ := hc_z
    obtain ⟨rfl, yq4200_z⟩ := rp_fail R4 q4200_z
    subst yq4200_z
    replace hc_z : rn _ _ _ _ [] _ _ _ := hc_z
    have K := rs_stick (w := 1) (q := p) (a := 44) (by decide) (by decide) rfl (by decide) rfl (show rg_v (am_up (am_up h 44 1 (.int 1)) 44 2 (.int (rg_v h 44 9))) 44 2 = p from R5) hc_z
    replace hm_z := rn_aload_n (am_cur_of (i := (0, 1, .aload_n 0, (0, 0, 0), 0)) (by decide +kernel)) g0m hm_z
    replace hm_z := rn_bipush (w := 41) (am_cur_of (i := (1, 2, .bipush 41, (0, 0, 0), 0)) (by decide +kernel)) (by decide) hm_z
    replace hm_z := rn_callV (M' := am_m171) (o := 164) (ar := [.int 41]) (rest := []) (L := lv_args 0 [.ref 164, .int 41]) (am_cur_of (i := (3, 3, .invokevirtual 194, (171, 1715, 3), 0)) (by decide +kernel)) rfl rfl rfl rfl hm_z
    obtain ⟨r4201_z, h4202_z, q4203_z, hm_z⟩ := hm_z
    obtain ⟨rfl, yq4203_z⟩ := rp_sgN (fun q => absurd (Eq.trans (Eq.symm kc) q.1) (by decide)) q4203_z
    subst yq4203_z
    replace hm_z : rn _ _ _ _ [.int 0] _ _ _ := hm_z
    replace hm_z := rn_ifT (am_cur_of (i := (6, 3, .ifCond .eq 41, (26, 0, 0), 0)) (by decide +kernel)) (by decide) hm_z
    replace hm_z := rn_aload_n (am_cur_of (i := (47, 1, .aload_n 0, (0, 0, 0), 0)) (by decide +kernel)) g0m hm_z
    replace hm_z := rn_bipush (w := 12) (am_cur_of (i := (48, 2, .bipush 12, (0, 0, 0), 0)) (by decide +kernel)) (by decide) hm_z
    replace hm_z := rn_callV (M' := am_m174) (o := 164) (ar := [.int 12]) (rest := []) (L := lv_args 0 [.ref 164, .int 12]) (am_cur_of (i := (50, 3, .invokevirtual 306, (174, 1727, 3), 0)) (by decide +kernel)) rfl rfl rfl rfl hm_z
    obtain ⟨r4204_z, h4205_z, q4206_z, hm_z⟩ := hm_z
    obtain ⟨rfl, yq4206_z⟩ := rp_kyN (fun q => absurd (Eq.trans (Eq.symm kd) q.2) (by decide)) q4206_z
    subst yq4206_z
    replace hm_z : rn _ _ _ _ [.int 0] _ _ _ := hm_z
    replace hm_z := rn_ifT (am_cur_of (i := (53, 3, .ifCond .eq 7, (32, 0, 0), 0)) (by decide +kernel)) (by decide) hm_z
    replace hm_z := rn_aload_n (am_cur_of (i := (60, 1, .aload_n 0, (0, 0, 0), 0)) (by decide +kernel)) g0m hm_z
    replace hm_z := rn_bipush (w := 13) (am_cur_of (i := (61, 2, .bipush 13, (0, 0, 0), 0)) (by decide +kernel)) (by decide) hm_z
    replace hm_z := rn_callV (M' := am_m174) (o := 164) (ar := [.int 13]) (rest := []) (L := lv_args 0 [.ref 164, .int 13]) (am_cur_of (i := (63, 3, .invokevirtual 306, (174, 1727, 3), 0)) (by decide +kernel)) rfl rfl rfl rfl hm_z
    obtain ⟨r4207_z, h4208_z, q4209_z, hm_z⟩ := hm_z
    obtain ⟨rfl, yq4209_z⟩ := rp_kyN (fun q => absurd (Eq.trans (Eq.symm kd) q.2) (by decide)) q4209_z
    subst yq4209_z
    replace hm_z : rn _ _ _ _ [.int 0] _ _ _ := hm_z
    replace hm_z := rn_ifT (am_cur_of (i := (66, 3, .ifCond .eq 7, (38, 0, 0), 0)) (by decide +kernel)) (by decide) hm_z
    replace hm_z := rn_aload_n (am_cur_of (i := (73, 1, .aload_n 0, (0, 0, 0), 0)) (by decide +kernel)) g0m hm_z
    replace hm_z := rn_getI (v := 1) (am_cur_of (i := (74, 3, .getfield 157, (12, 8, 1392), 0)) (by decide +kernel)) (by decide +kernel) kc hm_z
    replace hm_z := rn_iconst (w := 5) (am_cur_of (i := (77, 1, .iconst 5, (0, 0, 0), 0)) (by decide +kernel)) (by decide) hm_z
    replace hm_z := rn_cmpT (am_cur_of (i := (78, 3, .if_icmp .ne 12, (47, 0, 0), 0)) (by decide +kernel)) (by decide) hm_z
    replace hm_z := rn_aload_n (am_cur_of (i := (90, 1, .aload_n 0, (0, 0, 0), 0)) (by decide +kernel)) g0m hm_z
    replace hm_z := rn_bipush (w := 43) (am_cur_of (i := (91, 2, .bipush 43, (0, 0, 0), 0)) (by decide +kernel)) (by decide) hm_z
    replace hm_z := rn_callV (M' := am_m171) (o := 164) (ar := [.int 43]) (rest := []) (L := lv_args 0 [.ref 164, .int 43]) (am_cur_of (i := (93, 3, .invokevirtual 194, (171, 1715, 3), 0)) (by decide +kernel)) rfl rfl rfl rfl hm_z
    obtain ⟨r4210_z, h4211_z, q4212_z, hm_z⟩ := hm_z
    obtain ⟨rfl, yq4212_z⟩ := rp_sgN (fun q => absurd (Eq.trans (Eq.symm kc) q.1) (by decide)) q4212_z
    subst yq4212_z
    replace hm_z : rn _ _ _ _ [.int 0] _ _ _ := hm_z
    replace hm_z := rn_ifT (am_cur_of (i := (96, 3, .ifCond .eq 8, (53, 0, 0), 0)) (by decide +kernel)) (by decide) hm_z
    replace hm_z := rn_aload_n (am_cur_of (i := (104, 1, .aload_n 0, (0, 0, 0), 0)) (by decide +kernel)) g0m hm_z
    replace hm_z := rn_bipush (w := 45) (am_cur_of (i := (105, 2, .bipush 45, (0, 0, 0), 0)) (by decide +kernel)) (by decide) hm_z
    replace hm_z := rn_callV (M' := am_m171) (o := 164) (ar := [.int 45]) (rest := []) (L := lv_args 0 [.ref 164, .int 45]) (am_cur_of (i := (107, 3, .invokevirtual 194, (171, 1715, 3), 0)) (by decide +kernel)) rfl rfl rfl rfl hm_z
    obtain ⟨r4213_z, h4214_z, q4215_z, hm_z⟩ := hm_z
    obtain ⟨rfl, yq4215_z⟩ := rp_sgN (fun q => absurd (Eq.trans (Eq.symm kc) q.1) (by decide)) q4215_z
    subst yq4215_z
    replace hm_z : rn _ _ _ _ [.int 0] _ _ _ := hm_z
    replace hm_z := rn_ifT (am_cur_of (i := (110, 3, .ifCond .eq 8, (59, 0, 0), 0)) (by decide +kernel)) (by decide) hm_z
    replace hm_z := rn_aload_n (am_cur_of (i := (118, 1, .aload_n 0, (0, 0, 0), 0)) (by decide +kernel)) g0m hm_z
    replace hm_z := rn_bipush (w := 42) (am_cur_of (i := (119, 2, .bipush 42, (0, 0, 0), 0)) (by decide +kernel)) (by decide) hm_z
    replace hm_z := rn_callV (M' := am_m171) (o := 164) (ar := [.int 42]) (rest := []) (L := lv_args 0 [.ref 164, .int 42]) (am_cur_of (i := (121, 3, .invokevirtual 194, (171, 1715, 3), 0)) (by decide +kernel)) rfl rfl rfl rfl hm_z
    obtain ⟨r4216_z, h4217_z, q4218_z, hm_z⟩ := hm_z
    obtain ⟨rfl, yq4218_z⟩ := rp_sgN (fun q => absurd (Eq.trans (Eq.symm kc) q.1) (by decide)) q4218_z
    subst yq4218_z
    replace hm_z : rn _ _ _ _ [.int 0] _ _ _ := hm_z
    replace hm_z := rn_ifT (am_cur_of (i := (124, 3, .ifCond .eq 8, (65, 0, 0), 0)) (by decide +kernel)) (by decide) hm_z
    replace hm_z := rn_aload_n (am_cur_of (i := (132, 1, .aload_n 0, (0, 0, 0), 0)) (by decide +kernel)) g0m hm_z
    replace hm_z := rn_bipush (w := 47) (am_cur_of (i := (133, 2, .bipush 47, (0, 0, 0), 0)) (by decide +kernel)) (by decide) hm_z
    replace hm_z := rn_callV (M' := am_m171) (o := 164) (ar := [.int 47]) (rest := []) (L := lv_args 0 [.ref 164, .int 47]) (am_cur_of (i := (135, 3, .invokevirtual 194, (171, 1715, 3), 0)) (by decide +kernel)) rfl rfl rfl rfl hm_z
    obtain ⟨r4219_z, h4220_z, q4221_z, hm_z⟩ := hm_z
    obtain ⟨rfl, yq4221_z⟩ := rp_sgN (fun q => absurd (Eq.trans (Eq.symm kc) q.1) (by decide)) q4221_z
    subst yq4221_z
    replace hm_z : rn _ _ _ _ [.int 0] _ _ _ := hm_z
    replace hm_z := rn_ifT (am_cur_of (i := (138, 3, .ifCond .eq 8, (71, 0, 0), 0)) (by decide +kernel)) (by decide) hm_z
    replace hm_z := rn_iconst (w := 0) (am_cur_of (i := (146, 1, .iconst 0, (0, 0, 0), 0)) (by decide +kernel)) (by decide) hm_z
    replace hm_z := rn_istore_n (am_cur_of (i := (147, 1, .istore_n 1, (0, 0, 0), 0)) (by decide +kernel)) hm_z
    obtain ⟨_, s4222_z, s4223_z, g1m, hm_z⟩ := hm_z
    replace g0m := s4222_z 0 _ (by decide) rfl g0m
    clear s4222_z s4223_z
    replace hm_z := rn_iload_n (am_cur_of (i := (148, 1, .iload_n 1, (0, 0, 0), 0)) (by decide +kernel)) g1m hm_z
    replace hm_z := rn_ifF (am_cur_of (i := (149, 3, .ifCond .ne 9, (79, 0, 0), 0)) (by decide +kernel)) (by decide) hm_z
    replace hm_z := rn_aload_n (am_cur_of (i := (152, 1, .aload_n 0, (0, 0, 0), 0)) (by decide +kernel)) g0m hm_z
    replace hm_z := rn_iconst (w := 1) (am_cur_of (i := (153, 1, .iconst 1, (0, 0, 0), 0)) (by decide +kernel)) (by decide) hm_z
    replace hm_z := rn_callV (M' := am_m158) (o := 164) (ar := [.int 1]) (rest := []) (L := lv_args 0 [.ref 164, .int 1]) (am_cur_of (i := (154, 3, .invokevirtual 181, (158, 1665, 3), 0)) (by decide +kernel)) rfl rfl rfl rfl hm_z
    obtain ⟨r4224_z, h4225_z, q4226_z, hm_z⟩ := hm_z
    obtain ⟨rfl, yq4226_z⟩ := rp_wrong q4226_z
    subst yq4226_z
    replace hm_z : rn _ _ _ _ [.int 0] _ _ _ := hm_z
    replace hm_z := rn_iret (am_cur_of (i := (157, 1, .ireturn, (0, 0, 0), 0)) (by decide +kernel)) hm_z
    obtain ⟨e4227_z, e4228_z⟩ := hm_z
    subst e4227_z e4228_z
    exact Or.inl (Or.inr ⟨rfl, 1, by decide, K.1, K.2, rfl, R6⟩)
theorem rj_c5_2 {T : Nat → Int32} {S x p : Int32} {n n' : Nat} {h h' g g' : am_H} {r r' : Option Value} (R : rq T S x p 2 h g) (A : rp 2 h g) (B : rp_t h g) (Z : rs 2 h g) (w0_z : rg_v g 164 45 = 0) (ka : (rg_v h 44 10) = 2) (kc : (rg_v g 164 8) = 1) (kb : (rg_v h 44 11) = 12) (kd : (rg_v g 164 9) = 15) (hc_z : rn n am_m44 0 (lv_args 0 [.ref 44]) [] h r h') (hm_z : rn n' am_m178 0 (lv_args 0 [.ref 164]) [] g r' g') : rj_Q T S x p 2 h g h' g' r r' := by
  have z0_z : (0 : Int32).toInt = 0 := by decide
  have g0_z : am_get (lv_args 0 [.ref 44]) 0 = some (.ref 44) := rfl
  have g0m : am_get (lv_args 0 [.ref 164]) 0 = some (.ref 164) := rfl
  have Rk := R
  have Zk := Z
  obtain ⟨⟨c1_z, c2_z, c3_z, c4_z, c5_z, c6_z, c7_z, c8_z⟩, ⟨m2_z, m3_z, m4_z, m5_z, m6_z, m7_z, m8_z⟩, R3, R4, R5, R6, R7, R8, R9, R10⟩ := (R : rq T S x p 2 h g)
  obtain ⟨np, op, z1_z, z2_z, z3_z, z4_z, z5_z, z6_z, z7_z, z8_z, z9_z, z10_z⟩ := (Z : rs 2 h g)
  obtain ⟨nk1_z, nk2_z, nk3_z⟩ := A.2.2.2.2.2.1
  replace nk1_z : rg_v h 11 0 = rg_v g 164 44 := nk1_z
  replace nk2_z : 0 ≤ (rg_v h 11 0).toInt := nk2_z
  replace nk3_z : (rg_v h 11 0).toInt ≤ 64 := nk3_z
  replace z8_z : np.toInt ≤ (rg_v h 11 0).toInt + op.toInt := z8_z
  obtain ⟨kn, ekn⟩ : ∃ v, rg_v h 11 0 = v := ⟨_, rfl⟩
  rw [ekn] at nk1_z nk2_z nk3_z z8_z
  have e9_z := rt_c1 (x := kn) (by omega) (by omega)
  replace hc_z := rn_aload_n (am_cur_of (i := (0, 1, .aload_n 0, (0, 0, 0), 0)) (by decide +kernel)) g0_z hc_z
  replace hc_z := rn_bipush (w := 41) (am_cur_of (i := (1, 2, .bipush 41, (0, 0, 0), 0)) (by decide +kernel)) (by decide) hc_z
  replace hc_z := rn_callV (M' := am_m45) (o := 44) (ar := [.int 41]) (rest := []) (L := lv_args 0 [.ref 44, .int 41]) (am_cur_of (i := (3, 3, .invokevirtual 105, (45, 834, 3), 0)) (by decide +kernel)) rfl rfl rfl rfl hc_z
  obtain ⟨r4229_z, h4230_z, q4231_z, hc_z⟩ := hc_z
  obtain ⟨rfl, yq4231_z⟩ := rp_mkN (fun q => absurd (Eq.trans (Eq.symm ka) q.1) (by decide)) q4231_z
  subst yq4231_z
  replace hc_z : rn _ _ _ _ [.int 0] _ _ _ := hc_z
  replace hc_z := rn_ifT (am_cur_of (i := (6, 3, .ifCond .eq 45, (28, 0, 0), 0)) (by decide +kernel)) (by decide) hc_z
  replace hc_z := rn_aload_n (am_cur_of (i := (51, 1, .aload_n 0, (0, 0, 0), 0)) (by decide +kernel)) g0_z hc_z
  replace hc_z := rn_getI (v := 2) (am_cur_of (i := (52, 3, .getfield 60, (4, 10, 419), 0)) (by decide +kernel)) (by decide +kernel) ka hc_z
  replace hc_z := rn_bipush (w := 6) (am_cur_of (i := (55, 2, .bipush 6, (0, 0, 0), 0)) (by decide +kernel)) (by decide) hc_z
  replace hc_z := rn_cmpT (am_cur_of (i := (57, 3, .if_icmp .ne 11, (36, 0, 0), 0)) (by decide +kernel)) (by decide) hc_z
  replace hc_z := rn_aload_n (am_cur_of (i := (68, 1, .aload_n 0, (0, 0, 0), 0)) (by decide +kernel)) g0_z hc_z
  replace hc_z := rn_getI (v := op) (am_cur_of (i := (69, 3, .getfield 254, (4, 14, 423), 0)) (by decide +kernel)) (by decide +kernel) z4_z hc_z
  replace hc_z := rn_if (am_cur_of (i := (72, 3, .ifCond .le 8, (42, 0, 0), 0)) (by decide +kernel)) hc_z
  rcases hc_z with ⟨b4232_z, hc_z⟩ | ⟨b4232_z, hc_z⟩
  · replace b4232_z : op.toInt ≤ (0 : Int32).toInt := b4232_z
    replace hc_z := rn_iconst (w := 3) (am_cur_of (i := (80, 1, .iconst 3, (0, 0, 0), 0)) (by decide +kernel)) (by decide) hc_z
    replace hc_z := rn_iret (am_cur_of (i := (81, 1, .ireturn, (0, 0, 0), 0)) (by decide +kernel)) hc_z
    obtain ⟨e4233_z, e4234_z⟩ := hc_z
    replace hm_z := rn_aload_n (am_cur_of (i := (0, 1, .aload_n 0, (0, 0, 0), 0)) (by decide +kernel)) g0m hm_z
    replace hm_z := rn_bipush (w := 41) (am_cur_of (i := (1, 2, .bipush 41, (0, 0, 0), 0)) (by decide +kernel)) (by decide) hm_z
    replace hm_z := rn_callV (M' := am_m171) (o := 164) (ar := [.int 41]) (rest := []) (L := lv_args 0 [.ref 164, .int 41]) (am_cur_of (i := (3, 3, .invokevirtual 194, (171, 1715, 3), 0)) (by decide +kernel)) rfl rfl rfl rfl hm_z
    obtain ⟨r4235_z, h4236_z, q4237_z, hm_z⟩ := hm_z
    obtain ⟨rfl, yq4237_z⟩ := rp_sgN (fun q => absurd (Eq.trans (Eq.symm kc) q.1) (by decide)) q4237_z
    subst yq4237_z
    replace hm_z : rn _ _ _ _ [.int 0] _ _ _ := hm_z
    replace hm_z := rn_ifT (am_cur_of (i := (6, 3, .ifCond .eq 41, (26, 0, 0), 0)) (by decide +kernel)) (by decide) hm_z
    replace hm_z := rn_aload_n (am_cur_of (i := (47, 1, .aload_n 0, (0, 0, 0), 0)) (by decide +kernel)) g0m hm_z
    replace hm_z := rn_bipush (w := 12) (am_cur_of (i := (48, 2, .bipush 12, (0, 0, 0), 0)) (by decide +kernel)) (by decide) hm_z
    replace hm_z := rn_callV (M' := am_m174) (o := 164) (ar := [.int 12]) (rest := []) (L := lv_args 0 [.ref 164, .int 12]) (am_cur_of (i := (50, 3, .invokevirtual 306, (174, 1727, 3), 0)) (by decide +kernel)) rfl rfl rfl rfl hm_z
    obtain ⟨r4238_z, h4239_z, q4240_z, hm_z⟩ := hm_z
    obtain ⟨rfl, yq4240_z⟩ := rp_kyN (fun q => absurd (Eq.trans (Eq.symm kd) q.2) (by decide)) q4240_z
    subst yq4240_z
    replace hm_z : rn _ _ _ _ [.int 0] _ _ _ := hm_z
    replace hm_z := rn_ifT (am_cur_of (i := (53, 3, .ifCond .eq 7, (32, 0, 0), 0)) (by decide +kernel)) (by decide) hm_z
    replace hm_z := rn_aload_n (am_cur_of (i := (60, 1, .aload_n 0, (0, 0, 0), 0)) (by decide +kernel)) g0m hm_z
    replace hm_z := rn_bipush (w := 13) (am_cur_of (i := (61, 2, .bipush 13, (0, 0, 0), 0)) (by decide +kernel)) (by decide) hm_z
    replace hm_z := rn_callV (M' := am_m174) (o := 164) (ar := [.int 13]) (rest := []) (L := lv_args 0 [.ref 164, .int 13]) (am_cur_of (i := (63, 3, .invokevirtual 306, (174, 1727, 3), 0)) (by decide +kernel)) rfl rfl rfl rfl hm_z
    obtain ⟨r4241_z, h4242_z, q4243_z, hm_z⟩ := hm_z
    obtain ⟨rfl, yq4243_z⟩ := rp_kyN (fun q => absurd (Eq.trans (Eq.symm kd) q.2) (by decide)) q4243_z
    subst yq4243_z
    replace hm_z : rn _ _ _ _ [.int 0] _ _ _ := hm_z
    replace hm_z := rn_ifT (am_cur_of (i := (66, 3, .ifCond .eq 7, (38, 0, 0), 0)) (by decide +kernel)) (by decide) hm_z
    replace hm_z := rn_aload_n (am_cur_of (i := (73, 1, .aload_n 0, (0, 0, 0), 0)) (by decide +kernel)) g0m hm_z
    replace hm_z := rn_getI (v := 1) (am_cur_of (i := (74, 3, .getfield 157, (12, 8, 1392), 0)) (by decide +kernel)) (by decide +kernel) kc hm_z
    replace hm_z := rn_iconst (w := 5) (am_cur_of (i := (77, 1, .iconst 5, (0, 0, 0), 0)) (by decide +kernel)) (by decide) hm_z
    replace hm_z := rn_cmpT (am_cur_of (i := (78, 3, .if_icmp .ne 12, (47, 0, 0), 0)) (by decide +kernel)) (by decide) hm_z
    replace hm_z := rn_aload_n (am_cur_of (i := (90, 1, .aload_n 0, (0, 0, 0), 0)) (by decide +kernel)) g0m hm_z
    replace hm_z := rn_bipush (w := 43) (am_cur_of (i := (91, 2, .bipush 43, (0, 0, 0), 0)) (by decide +kernel)) (by decide) hm_z
    replace hm_z := rn_callV (M' := am_m171) (o := 164) (ar := [.int 43]) (rest := []) (L := lv_args 0 [.ref 164, .int 43]) (am_cur_of (i := (93, 3, .invokevirtual 194, (171, 1715, 3), 0)) (by decide +kernel)) rfl rfl rfl rfl hm_z
    obtain ⟨r4244_z, h4245_z, q4246_z, hm_z⟩ := hm_z
    obtain ⟨rfl, yq4246_z⟩ := rp_sgN (fun q => absurd (Eq.trans (Eq.symm kc) q.1) (by decide)) q4246_z
    subst yq4246_z
    replace hm_z : rn _ _ _ _ [.int 0] _ _ _ := hm_z
    replace hm_z := rn_ifT (am_cur_of (i := (96, 3, .ifCond .eq 8, (53, 0, 0), 0)) (by decide +kernel)) (by decide) hm_z
    replace hm_z := rn_aload_n (am_cur_of (i := (104, 1, .aload_n 0, (0, 0, 0), 0)) (by decide +kernel)) g0m hm_z
    replace hm_z := rn_bipush (w := 45) (am_cur_of (i := (105, 2, .bipush 45, (0, 0, 0), 0)) (by decide +kernel)) (by decide) hm_z
    replace hm_z := rn_callV (M' := am_m171) (o := 164) (ar := [.int 45]) (rest := []) (L := lv_args 0 [.ref 164, .int 45]) (am_cur_of (i := (107, 3, .invokevirtual 194, (171, 1715, 3), 0)) (by decide +kernel)) rfl rfl rfl rfl hm_z
    obtain ⟨r4247_z, h4248_z, q4249_z, hm_z⟩ := hm_z
    obtain ⟨rfl, yq4249_z⟩ := rp_sgN (fun q => absurd (Eq.trans (Eq.symm kc) q.1) (by decide)) q4249_z
    subst yq4249_z
    replace hm_z : rn _ _ _ _ [.int 0] _ _ _ := hm_z
    replace hm_z := rn_ifT (am_cur_of (i := (110, 3, .ifCond .eq 8, (59, 0, 0), 0)) (by decide +kernel)) (by decide) hm_z
    replace hm_z := rn_aload_n (am_cur_of (i := (118, 1, .aload_n 0, (0, 0, 0), 0)) (by decide +kernel)) g0m hm_z
    replace hm_z := rn_bipush (w := 42) (am_cur_of (i := (119, 2, .bipush 42, (0, 0, 0), 0)) (by decide +kernel)) (by decide) hm_z
    replace hm_z := rn_callV (M' := am_m171) (o := 164) (ar := [.int 42]) (rest := []) (L := lv_args 0 [.ref 164, .int 42]) (am_cur_of (i := (121, 3, .invokevirtual 194, (171, 1715, 3), 0)) (by decide +kernel)) rfl rfl rfl rfl hm_z
    obtain ⟨r4250_z, h4251_z, q4252_z, hm_z⟩ := hm_z
    obtain ⟨rfl, yq4252_z⟩ := rp_sgN (fun q => absurd (Eq.trans (Eq.symm kc) q.1) (by decide)) q4252_z
    subst yq4252_z
    replace hm_z : rn _ _ _ _ [.int 0] _ _ _ := hm_z
    replace hm_z := rn_ifT (am_cur_of (i := (124, 3, .ifCond .eq 8, (65, 0, 0), 0)) (by decide +kernel)) (by decide) hm_z
    replace hm_z := rn_aload_n (am_cur_of (i := (132, 1, .aload_n 0, (0, 0, 0), 0)) (by decide +kernel)) g0m hm_z
    replace hm_z := rn_bipush (w := 47) (am_cur_of (i := (133, 2, .bipush 47, (0, 0, 0), 0)) (by decide +kernel)) (by decide) hm_z
    replace hm_z := rn_callV (M' := am_m171) (o := 164) (ar := [.int 47]) (rest := []) (L := lv_args 0 [.ref 164, .int 47]) (am_cur_of (i := (135, 3, .invokevirtual 194, (171, 1715, 3), 0)) (by decide +kernel)) rfl rfl rfl rfl hm_z
    obtain ⟨r4253_z, h4254_z, q4255_z, hm_z⟩ := hm_z
    obtain ⟨rfl, yq4255_z⟩ := rp_sgN (fun q => absurd (Eq.trans (Eq.symm kc) q.1) (by decide)) q4255_z
    subst yq4255_z
    replace hm_z : rn _ _ _ _ [.int 0] _ _ _ := hm_z
    replace hm_z := rn_ifT (am_cur_of (i := (138, 3, .ifCond .eq 8, (71, 0, 0), 0)) (by decide +kernel)) (by decide) hm_z
    replace hm_z := rn_iconst (w := 0) (am_cur_of (i := (146, 1, .iconst 0, (0, 0, 0), 0)) (by decide +kernel)) (by decide) hm_z
    replace hm_z := rn_istore_n (am_cur_of (i := (147, 1, .istore_n 1, (0, 0, 0), 0)) (by decide +kernel)) hm_z
    obtain ⟨_, s4256_z, s4257_z, g1m, hm_z⟩ := hm_z
    replace g0m := s4256_z 0 _ (by decide) rfl g0m
    clear s4256_z s4257_z
    replace hm_z := rn_iload_n (am_cur_of (i := (148, 1, .iload_n 1, (0, 0, 0), 0)) (by decide +kernel)) g1m hm_z
    replace hm_z := rn_ifF (am_cur_of (i := (149, 3, .ifCond .ne 9, (79, 0, 0), 0)) (by decide +kernel)) (by decide) hm_z
    replace hm_z := rn_aload_n (am_cur_of (i := (152, 1, .aload_n 0, (0, 0, 0), 0)) (by decide +kernel)) g0m hm_z
    replace hm_z := rn_iconst (w := 1) (am_cur_of (i := (153, 1, .iconst 1, (0, 0, 0), 0)) (by decide +kernel)) (by decide) hm_z
    replace hm_z := rn_callV (M' := am_m158) (o := 164) (ar := [.int 1]) (rest := []) (L := lv_args 0 [.ref 164, .int 1]) (am_cur_of (i := (154, 3, .invokevirtual 181, (158, 1665, 3), 0)) (by decide +kernel)) rfl rfl rfl rfl hm_z
    obtain ⟨r4258_z, h4259_z, q4260_z, hm_z⟩ := hm_z
    obtain ⟨rfl, yq4260_z⟩ := rp_wrong q4260_z
    subst yq4260_z
    replace hm_z : rn _ _ _ _ [.int 0] _ _ _ := hm_z
    replace hm_z := rn_iret (am_cur_of (i := (157, 1, .ireturn, (0, 0, 0), 0)) (by decide +kernel)) hm_z
    obtain ⟨e4261_z, e4262_z⟩ := hm_z
    subst e4234_z e4262_z
    exact Or.inr ⟨e4233_z, rfl, z4_z.trans (rt_i32 (by rw [show (0 : Int32).toInt = 0 by decide]; omega)), e4261_z, rfl⟩
  · replace b4232_z : (0 : Int32).toInt < op.toInt := b4232_z
    replace hc_z := rn_aload_n (am_cur_of (i := (75, 1, .aload_n 0, (0, 0, 0), 0)) (by decide +kernel)) g0_z hc_z
    replace hc_z := rn_iconst (w := 1) (am_cur_of (i := (76, 1, .iconst 1, (0, 0, 0), 0)) (by decide +kernel)) (by decide) hc_z
    replace hc_z := rn_callV (M' := am_m29) (o := 44) (ar := [.int 1]) (rest := []) (L := lv_args 0 [.ref 44, .int 1]) (am_cur_of (i := (77, 3, .invokevirtual 108, (29, 769, 3), 0)) (by decide +kernel)) rfl rfl rfl rfl hc_z
    obtain ⟨r4263_z, h4264_z, q4265_z, hc_z⟩ := hc_z
    obtain ⟨rfl, yq4265_z⟩ := rp_fail R4 q4265_z
    subst yq4265_z
    replace hc_z : rn _ _ _ _ [] _ _ _ := hc_z
    have K := rs_stick (w := 1) (q := p) (a := 44) (by decide) (by decide) rfl (by decide) rfl (show rg_v (am_up (am_up h 44 1 (.int 1)) 44 2 (.int (rg_v h 44 9))) 44 2 = p from R5) hc_z
    replace hm_z := rn_aload_n (am_cur_of (i := (0, 1, .aload_n 0, (0, 0, 0), 0)) (by decide +kernel)) g0m hm_z
    replace hm_z := rn_bipush (w := 41) (am_cur_of (i := (1, 2, .bipush 41, (0, 0, 0), 0)) (by decide +kernel)) (by decide) hm_z
    replace hm_z := rn_callV (M' := am_m171) (o := 164) (ar := [.int 41]) (rest := []) (L := lv_args 0 [.ref 164, .int 41]) (am_cur_of (i := (3, 3, .invokevirtual 194, (171, 1715, 3), 0)) (by decide +kernel)) rfl rfl rfl rfl hm_z
    obtain ⟨r4266_z, h4267_z, q4268_z, hm_z⟩ := hm_z
    obtain ⟨rfl, yq4268_z⟩ := rp_sgN (fun q => absurd (Eq.trans (Eq.symm kc) q.1) (by decide)) q4268_z
    subst yq4268_z
    replace hm_z : rn _ _ _ _ [.int 0] _ _ _ := hm_z
    replace hm_z := rn_ifT (am_cur_of (i := (6, 3, .ifCond .eq 41, (26, 0, 0), 0)) (by decide +kernel)) (by decide) hm_z
    replace hm_z := rn_aload_n (am_cur_of (i := (47, 1, .aload_n 0, (0, 0, 0), 0)) (by decide +kernel)) g0m hm_z
    replace hm_z := rn_bipush (w := 12) (am_cur_of (i := (48, 2, .bipush 12, (0, 0, 0), 0)) (by decide +kernel)) (by decide) hm_z
    replace hm_z := rn_callV (M' := am_m174) (o := 164) (ar := [.int 12]) (rest := []) (L := lv_args 0 [.ref 164, .int 12]) (am_cur_of (i := (50, 3, .invokevirtual 306, (174, 1727, 3), 0)) (by decide +kernel)) rfl rfl rfl rfl hm_z
    obtain ⟨r4269_z, h4270_z, q4271_z, hm_z⟩ := hm_z
    obtain ⟨rfl, yq4271_z⟩ := rp_kyN (fun q => absurd (Eq.trans (Eq.symm kd) q.2) (by decide)) q4271_z
    subst yq4271_z
    replace hm_z : rn _ _ _ _ [.int 0] _ _ _ := hm_z
    replace hm_z := rn_ifT (am_cur_of (i := (53, 3, .ifCond .eq 7, (32, 0, 0), 0)) (by decide +kernel)) (by decide) hm_z
    replace hm_z := rn_aload_n (am_cur_of (i := (60, 1, .aload_n 0, (0, 0, 0), 0)) (by decide +kernel)) g0m hm_z
    replace hm_z := rn_bipush (w := 13) (am_cur_of (i := (61, 2, .bipush 13, (0, 0, 0), 0)) (by decide +kernel)) (by decide) hm_z
    replace hm_z := rn_callV (M' := am_m174) (o := 164) (ar := [.int 13]) (rest := []) (L := lv_args 0 [.ref 164, .int 13]) (am_cur_of (i := (63, 3, .invokevirtual 306, (174, 1727, 3), 0)) (by decide +kernel)) rfl rfl rfl rfl hm_z
    obtain ⟨r4272_z, h4273_z, q4274_z, hm_z⟩ := hm_z
    obtain ⟨rfl, yq4274_z⟩ := rp_kyN (fun q => absurd (Eq.trans (Eq.symm kd) q.2) (by decide)) q4274_z
    subst yq4274_z
    replace hm_z : rn _ _ _ _ [.int 0] _ _ _ := hm_z
    replace hm_z := rn_ifT (am_cur_of (i := (66, 3, .ifCond .eq 7, (38, 0, 0), 0)) (by decide +kernel)) (by decide) hm_z
    replace hm_z := rn_aload_n (am_cur_of (i := (73, 1, .aload_n 0, (0, 0, 0), 0)) (by decide +kernel)) g0m hm_z
    replace hm_z := rn_getI (v := 1) (am_cur_of (i := (74, 3, .getfield 157, (12, 8, 1392), 0)) (by decide +kernel)) (by decide +kernel) kc hm_z
    replace hm_z := rn_iconst (w := 5) (am_cur_of (i := (77, 1, .iconst 5, (0, 0, 0), 0)) (by decide +kernel)) (by decide) hm_z
    replace hm_z := rn_cmpT (am_cur_of (i := (78, 3, .if_icmp .ne 12, (47, 0, 0), 0)) (by decide +kernel)) (by decide) hm_z
    replace hm_z := rn_aload_n (am_cur_of (i := (90, 1, .aload_n 0, (0, 0, 0), 0)) (by decide +kernel)) g0m hm_z
    replace hm_z := rn_bipush (w := 43) (am_cur_of (i := (91, 2, .bipush 43, (0, 0, 0), 0)) (by decide +kernel)) (by decide) hm_z
    replace hm_z := rn_callV (M' := am_m171) (o := 164) (ar := [.int 43]) (rest := []) (L := lv_args 0 [.ref 164, .int 43]) (am_cur_of (i := (93, 3, .invokevirtual 194, (171, 1715, 3), 0)) (by decide +kernel)) rfl rfl rfl rfl hm_z
    obtain ⟨r4275_z, h4276_z, q4277_z, hm_z⟩ := hm_z
    obtain ⟨rfl, yq4277_z⟩ := rp_sgN (fun q => absurd (Eq.trans (Eq.symm kc) q.1) (by decide)) q4277_z
    subst yq4277_z
    replace hm_z : rn _ _ _ _ [.int 0] _ _ _ := hm_z
    replace hm_z := rn_ifT (am_cur_of (i := (96, 3, .ifCond .eq 8, (53, 0, 0), 0)) (by decide +kernel)) (by decide) hm_z
    replace hm_z := rn_aload_n (am_cur_of (i := (104, 1, .aload_n 0, (0, 0, 0), 0)) (by decide +kernel)) g0m hm_z
    replace hm_z := rn_bipush (w := 45) (am_cur_of (i := (105, 2, .bipush 45, (0, 0, 0), 0)) (by decide +kernel)) (by decide) hm_z
    replace hm_z := rn_callV (M' := am_m171) (o := 164) (ar := [.int 45]) (rest := []) (L := lv_args 0 [.ref 164, .int 45]) (am_cur_of (i := (107, 3, .invokevirtual 194, (171, 1715, 3), 0)) (by decide +kernel)) rfl rfl rfl rfl hm_z
    obtain ⟨r4278_z, h4279_z, q4280_z, hm_z⟩ := hm_z
    obtain ⟨rfl, yq4280_z⟩ := rp_sgN (fun q => absurd (Eq.trans (Eq.symm kc) q.1) (by decide)) q4280_z
    subst yq4280_z
    replace hm_z : rn _ _ _ _ [.int 0] _ _ _ := hm_z
    replace hm_z := rn_ifT (am_cur_of (i := (110, 3, .ifCond .eq 8, (59, 0, 0), 0)) (by decide +kernel)) (by decide) hm_z
    replace hm_z := rn_aload_n (am_cur_of (i := (118, 1, .aload_n 0, (0, 0, 0), 0)) (by decide +kernel)) g0m hm_z
    replace hm_z := rn_bipush (w := 42) (am_cur_of (i := (119, 2, .bipush 42, (0, 0, 0), 0)) (by decide +kernel)) (by decide) hm_z
    replace hm_z := rn_callV (M' := am_m171) (o := 164) (ar := [.int 42]) (rest := []) (L := lv_args 0 [.ref 164, .int 42]) (am_cur_of (i := (121, 3, .invokevirtual 194, (171, 1715, 3), 0)) (by decide +kernel)) rfl rfl rfl rfl hm_z
    obtain ⟨r4281_z, h4282_z, q4283_z, hm_z⟩ := hm_z
    obtain ⟨rfl, yq4283_z⟩ := rp_sgN (fun q => absurd (Eq.trans (Eq.symm kc) q.1) (by decide)) q4283_z
    subst yq4283_z
    replace hm_z : rn _ _ _ _ [.int 0] _ _ _ := hm_z
    replace hm_z := rn_ifT (am_cur_of (i := (124, 3, .ifCond .eq 8, (65, 0, 0), 0)) (by decide +kernel)) (by decide) hm_z
    replace hm_z := rn_aload_n (am_cur_of (i := (132, 1, .aload_n 0, (0, 0, 0), 0)) (by decide +kernel)) g0m hm_z
    replace hm_z := rn_bipush (w := 47) (am_cur_of (i := (133, 2, .bipush 47, (0, 0, 0), 0)) (by decide +kernel)) (by decide) hm_z
    replace hm_z := rn_callV (M' := am_m171) (o := 164) (ar := [.int 47]) (rest := []) (L := lv_args 0 [.ref 164, .int 47]) (am_cur_of (i := (135, 3, .invokevirtual 194, (171, 1715, 3), 0)) (by decide +kernel)) rfl rfl rfl rfl hm_z
    obtain ⟨r4284_z, h4285_z, q4286_z, hm_z⟩ := hm_z
    obtain ⟨rfl, yq4286_z⟩ := rp_sgN (fun q => absurd (Eq.trans (Eq.symm kc) q.1) (by decide)) q4286_z
    subst yq4286_z
    replace hm_z : rn _ _ _ _ [.int 0] _ _ _ := hm_z
    replace hm_z := rn_ifT (am_cur_of (i := (138, 3, .ifCond .eq 8, (71, 0, 0), 0)) (by decide +kernel)) (by decide) hm_z
    replace hm_z := rn_iconst (w := 0) (am_cur_of (i := (146, 1, .iconst 0, (0, 0, 0), 0)) (by decide +kernel)) (by decide) hm_z
    replace hm_z := rn_istore_n (am_cur_of (i := (147, 1, .istore_n 1, (0, 0, 0), 0)) (by decide +kernel)) hm_z
    obtain ⟨_, s4287_z, s4288_z, g1m, hm_z⟩ := hm_z
    replace g0m := s4287_z 0 _ (by decide) rfl g0m
    clear s4287_z s4288_z
    replace hm_z := rn_iload_n (am_cur_of (i := (148, 1, .iload_n 1, (0, 0, 0), 0)) (by decide +kernel)) g1m hm_z
    replace hm_z := rn_ifF (am_cur_of (i := (149, 3, .ifCond .ne 9, (79, 0, 0), 0)) (by decide +kernel)) (by decide) hm_z
    replace hm_z := rn_aload_n (am_cur_of (i := (152, 1, .aload_n 0, (0, 0, 0), 0)) (by decide +kernel)) g0m hm_z
    replace hm_z := rn_iconst (w := 1) (am_cur_of (i := (153, 1, .iconst 1, (0, 0, 0), 0)) (by decide +kernel)) (by decide) hm_z
    replace hm_z := rn_callV (M' := am_m158) (o := 164) (ar := [.int 1]) (rest := []) (L := lv_args 0 [.ref 164, .int 1]) (am_cur_of (i := (154, 3, .invokevirtual 181, (158, 1665, 3), 0)) (by decide +kernel)) rfl rfl rfl rfl hm_z
    obtain ⟨r4289_z, h4290_z, q4291_z, hm_z⟩ := hm_z
    obtain ⟨rfl, yq4291_z⟩ := rp_wrong q4291_z
    subst yq4291_z
    replace hm_z : rn _ _ _ _ [.int 0] _ _ _ := hm_z
    replace hm_z := rn_iret (am_cur_of (i := (157, 1, .ireturn, (0, 0, 0), 0)) (by decide +kernel)) hm_z
    obtain ⟨e4292_z, e4293_z⟩ := hm_z
    subst e4292_z e4293_z
    exact Or.inl (Or.inr ⟨rfl, 1, by decide, K.1, K.2, rfl, R6⟩)
theorem rj_c6_2 {T : Nat → Int32} {S x p : Int32} {n n' : Nat} {h h' g g' : am_H} {r r' : Option Value} (R : rq T S x p 2 h g) (A : rp 2 h g) (B : rp_t h g) (Z : rs 2 h g) (w0_z : rg_v g 164 45 = 0) (ka : (rg_v h 44 10) = 2) (kc : (rg_v g 164 8) = 1) (kb : (rg_v h 44 11) = 13) (kd : (rg_v g 164 9) = 16) (hc_z : rn n am_m44 0 (lv_args 0 [.ref 44]) [] h r h') (hm_z : rn n' am_m178 0 (lv_args 0 [.ref 164]) [] g r' g') : rj_Q T S x p 2 h g h' g' r r' := by
  have z0_z : (0 : Int32).toInt = 0 := by decide
  have g0_z : am_get (lv_args 0 [.ref 44]) 0 = some (.ref 44) := rfl
  have g0m : am_get (lv_args 0 [.ref 164]) 0 = some (.ref 164) := rfl
  have Rk := R
  have Zk := Z
  obtain ⟨⟨c1_z, c2_z, c3_z, c4_z, c5_z, c6_z, c7_z, c8_z⟩, ⟨m2_z, m3_z, m4_z, m5_z, m6_z, m7_z, m8_z⟩, R3, R4, R5, R6, R7, R8, R9, R10⟩ := (R : rq T S x p 2 h g)
  obtain ⟨np, op, z1_z, z2_z, z3_z, z4_z, z5_z, z6_z, z7_z, z8_z, z9_z, z10_z⟩ := (Z : rs 2 h g)
  obtain ⟨nk1_z, nk2_z, nk3_z⟩ := A.2.2.2.2.2.1
  replace nk1_z : rg_v h 11 0 = rg_v g 164 44 := nk1_z
  replace nk2_z : 0 ≤ (rg_v h 11 0).toInt := nk2_z
  replace nk3_z : (rg_v h 11 0).toInt ≤ 64 := nk3_z
  replace z8_z : np.toInt ≤ (rg_v h 11 0).toInt + op.toInt := z8_z
  obtain ⟨kn, ekn⟩ : ∃ v, rg_v h 11 0 = v := ⟨_, rfl⟩
  rw [ekn] at nk1_z nk2_z nk3_z z8_z
  have e9_z := rt_c1 (x := kn) (by omega) (by omega)
  replace hc_z := rn_aload_n (am_cur_of (i := (0, 1, .aload_n 0, (0, 0, 0), 0)) (by decide +kernel)) g0_z hc_z
  replace hc_z := rn_bipush (w := 41) (am_cur_of (i := (1, 2, .bipush 41, (0, 0, 0), 0)) (by decide +kernel)) (by decide) hc_z
  replace hc_z := rn_callV (M' := am_m45) (o := 44) (ar := [.int 41]) (rest := []) (L := lv_args 0 [.ref 44, .int 41]) (am_cur_of (i := (3, 3, .invokevirtual 105, (45, 834, 3), 0)) (by decide +kernel)) rfl rfl rfl rfl hc_z
  obtain ⟨r4294_z, h4295_z, q4296_z, hc_z⟩ := hc_z
  obtain ⟨rfl, yq4296_z⟩ := rp_mkN (fun q => absurd (Eq.trans (Eq.symm ka) q.1) (by decide)) q4296_z
  subst yq4296_z
  replace hc_z : rn _ _ _ _ [.int 0] _ _ _ := hc_z
  replace hc_z := rn_ifT (am_cur_of (i := (6, 3, .ifCond .eq 45, (28, 0, 0), 0)) (by decide +kernel)) (by decide) hc_z
  replace hc_z := rn_aload_n (am_cur_of (i := (51, 1, .aload_n 0, (0, 0, 0), 0)) (by decide +kernel)) g0_z hc_z
  replace hc_z := rn_getI (v := 2) (am_cur_of (i := (52, 3, .getfield 60, (4, 10, 419), 0)) (by decide +kernel)) (by decide +kernel) ka hc_z
  replace hc_z := rn_bipush (w := 6) (am_cur_of (i := (55, 2, .bipush 6, (0, 0, 0), 0)) (by decide +kernel)) (by decide) hc_z
  replace hc_z := rn_cmpT (am_cur_of (i := (57, 3, .if_icmp .ne 11, (36, 0, 0), 0)) (by decide +kernel)) (by decide) hc_z
  replace hc_z := rn_aload_n (am_cur_of (i := (68, 1, .aload_n 0, (0, 0, 0), 0)) (by decide +kernel)) g0_z hc_z
  replace hc_z := rn_getI (v := op) (am_cur_of (i := (69, 3, .getfield 254, (4, 14, 423), 0)) (by decide +kernel)) (by decide +kernel) z4_z hc_z
  replace hc_z := rn_if (am_cur_of (i := (72, 3, .ifCond .le 8, (42, 0, 0), 0)) (by decide +kernel)) hc_z
  rcases hc_z with ⟨b4297_z, hc_z⟩ | ⟨b4297_z, hc_z⟩
  · replace b4297_z : op.toInt ≤ (0 : Int32).toInt := b4297_z
    replace hc_z := rn_iconst (w := 3) (am_cur_of (i := (80, 1, .iconst 3, (0, 0, 0), 0)) (by decide +kernel)) (by decide) hc_z
    replace hc_z := rn_iret (am_cur_of (i := (81, 1, .ireturn, (0, 0, 0), 0)) (by decide +kernel)) hc_z
    obtain ⟨e4298_z, e4299_z⟩ := hc_z
    replace hm_z := rn_aload_n (am_cur_of (i := (0, 1, .aload_n 0, (0, 0, 0), 0)) (by decide +kernel)) g0m hm_z
    replace hm_z := rn_bipush (w := 41) (am_cur_of (i := (1, 2, .bipush 41, (0, 0, 0), 0)) (by decide +kernel)) (by decide) hm_z
    replace hm_z := rn_callV (M' := am_m171) (o := 164) (ar := [.int 41]) (rest := []) (L := lv_args 0 [.ref 164, .int 41]) (am_cur_of (i := (3, 3, .invokevirtual 194, (171, 1715, 3), 0)) (by decide +kernel)) rfl rfl rfl rfl hm_z
    obtain ⟨r4300_z, h4301_z, q4302_z, hm_z⟩ := hm_z
    obtain ⟨rfl, yq4302_z⟩ := rp_sgN (fun q => absurd (Eq.trans (Eq.symm kc) q.1) (by decide)) q4302_z
    subst yq4302_z
    replace hm_z : rn _ _ _ _ [.int 0] _ _ _ := hm_z
    replace hm_z := rn_ifT (am_cur_of (i := (6, 3, .ifCond .eq 41, (26, 0, 0), 0)) (by decide +kernel)) (by decide) hm_z
    replace hm_z := rn_aload_n (am_cur_of (i := (47, 1, .aload_n 0, (0, 0, 0), 0)) (by decide +kernel)) g0m hm_z
    replace hm_z := rn_bipush (w := 12) (am_cur_of (i := (48, 2, .bipush 12, (0, 0, 0), 0)) (by decide +kernel)) (by decide) hm_z
    replace hm_z := rn_callV (M' := am_m174) (o := 164) (ar := [.int 12]) (rest := []) (L := lv_args 0 [.ref 164, .int 12]) (am_cur_of (i := (50, 3, .invokevirtual 306, (174, 1727, 3), 0)) (by decide +kernel)) rfl rfl rfl rfl hm_z
    obtain ⟨r4303_z, h4304_z, q4305_z, hm_z⟩ := hm_z
    obtain ⟨rfl, yq4305_z⟩ := rp_kyN (fun q => absurd (Eq.trans (Eq.symm kd) q.2) (by decide)) q4305_z
    subst yq4305_z
    replace hm_z : rn _ _ _ _ [.int 0] _ _ _ := hm_z
    replace hm_z := rn_ifT (am_cur_of (i := (53, 3, .ifCond .eq 7, (32, 0, 0), 0)) (by decide +kernel)) (by decide) hm_z
    replace hm_z := rn_aload_n (am_cur_of (i := (60, 1, .aload_n 0, (0, 0, 0), 0)) (by decide +kernel)) g0m hm_z
    replace hm_z := rn_bipush (w := 13) (am_cur_of (i := (61, 2, .bipush 13, (0, 0, 0), 0)) (by decide +kernel)) (by decide) hm_z
    replace hm_z := rn_callV (M' := am_m174) (o := 164) (ar := [.int 13]) (rest := []) (L := lv_args 0 [.ref 164, .int 13]) (am_cur_of (i := (63, 3, .invokevirtual 306, (174, 1727, 3), 0)) (by decide +kernel)) rfl rfl rfl rfl hm_z
    obtain ⟨r4306_z, h4307_z, q4308_z, hm_z⟩ := hm_z
    obtain ⟨rfl, yq4308_z⟩ := rp_kyN (fun q => absurd (Eq.trans (Eq.symm kd) q.2) (by decide)) q4308_z
    subst yq4308_z
    replace hm_z : rn _ _ _ _ [.int 0] _ _ _ := hm_z
    replace hm_z := rn_ifT (am_cur_of (i := (66, 3, .ifCond .eq 7, (38, 0, 0), 0)) (by decide +kernel)) (by decide) hm_z
    replace hm_z := rn_aload_n (am_cur_of (i := (73, 1, .aload_n 0, (0, 0, 0), 0)) (by decide +kernel)) g0m hm_z
    replace hm_z := rn_getI (v := 1) (am_cur_of (i := (74, 3, .getfield 157, (12, 8, 1392), 0)) (by decide +kernel)) (by decide +kernel) kc hm_z
    replace hm_z := rn_iconst (w := 5) (am_cur_of (i := (77, 1, .iconst 5, (0, 0, 0), 0)) (by decide +kernel)) (by decide) hm_z
    replace hm_z := rn_cmpT (am_cur_of (i := (78, 3, .if_icmp .ne 12, (47, 0, 0), 0)) (by decide +kernel)) (by decide) hm_z
    replace hm_z := rn_aload_n (am_cur_of (i := (90, 1, .aload_n 0, (0, 0, 0), 0)) (by decide +kernel)) g0m hm_z
    replace hm_z := rn_bipush (w := 43) (am_cur_of (i := (91, 2, .bipush 43, (0, 0, 0), 0)) (by decide +kernel)) (by decide) hm_z
    replace hm_z := rn_callV (M' := am_m171) (o := 164) (ar := [.int 43]) (rest := []) (L := lv_args 0 [.ref 164, .int 43]) (am_cur_of (i := (93, 3, .invokevirtual 194, (171, 1715, 3), 0)) (by decide +kernel)) rfl rfl rfl rfl hm_z
    obtain ⟨r4309_z, h4310_z, q4311_z, hm_z⟩ := hm_z
    obtain ⟨rfl, yq4311_z⟩ := rp_sgN (fun q => absurd (Eq.trans (Eq.symm kc) q.1) (by decide)) q4311_z
    subst yq4311_z
    replace hm_z : rn _ _ _ _ [.int 0] _ _ _ := hm_z
    replace hm_z := rn_ifT (am_cur_of (i := (96, 3, .ifCond .eq 8, (53, 0, 0), 0)) (by decide +kernel)) (by decide) hm_z
    replace hm_z := rn_aload_n (am_cur_of (i := (104, 1, .aload_n 0, (0, 0, 0), 0)) (by decide +kernel)) g0m hm_z
    replace hm_z := rn_bipush (w := 45) (am_cur_of (i := (105, 2, .bipush 45, (0, 0, 0), 0)) (by decide +kernel)) (by decide) hm_z
    replace hm_z := rn_callV (M' := am_m171) (o := 164) (ar := [.int 45]) (rest := []) (L := lv_args 0 [.ref 164, .int 45]) (am_cur_of (i := (107, 3, .invokevirtual 194, (171, 1715, 3), 0)) (by decide +kernel)) rfl rfl rfl rfl hm_z
    obtain ⟨r4312_z, h4313_z, q4314_z, hm_z⟩ := hm_z
    obtain ⟨rfl, yq4314_z⟩ := rp_sgN (fun q => absurd (Eq.trans (Eq.symm kc) q.1) (by decide)) q4314_z
    subst yq4314_z
    replace hm_z : rn _ _ _ _ [.int 0] _ _ _ := hm_z
    replace hm_z := rn_ifT (am_cur_of (i := (110, 3, .ifCond .eq 8, (59, 0, 0), 0)) (by decide +kernel)) (by decide) hm_z
    replace hm_z := rn_aload_n (am_cur_of (i := (118, 1, .aload_n 0, (0, 0, 0), 0)) (by decide +kernel)) g0m hm_z
    replace hm_z := rn_bipush (w := 42) (am_cur_of (i := (119, 2, .bipush 42, (0, 0, 0), 0)) (by decide +kernel)) (by decide) hm_z
    replace hm_z := rn_callV (M' := am_m171) (o := 164) (ar := [.int 42]) (rest := []) (L := lv_args 0 [.ref 164, .int 42]) (am_cur_of (i := (121, 3, .invokevirtual 194, (171, 1715, 3), 0)) (by decide +kernel)) rfl rfl rfl rfl hm_z
    obtain ⟨r4315_z, h4316_z, q4317_z, hm_z⟩ := hm_z
    obtain ⟨rfl, yq4317_z⟩ := rp_sgN (fun q => absurd (Eq.trans (Eq.symm kc) q.1) (by decide)) q4317_z
    subst yq4317_z
    replace hm_z : rn _ _ _ _ [.int 0] _ _ _ := hm_z
    replace hm_z := rn_ifT (am_cur_of (i := (124, 3, .ifCond .eq 8, (65, 0, 0), 0)) (by decide +kernel)) (by decide) hm_z
    replace hm_z := rn_aload_n (am_cur_of (i := (132, 1, .aload_n 0, (0, 0, 0), 0)) (by decide +kernel)) g0m hm_z
    replace hm_z := rn_bipush (w := 47) (am_cur_of (i := (133, 2, .bipush 47, (0, 0, 0), 0)) (by decide +kernel)) (by decide) hm_z
    replace hm_z := rn_callV (M' := am_m171) (o := 164) (ar := [.int 47]) (rest := []) (L := lv_args 0 [.ref 164, .int 47]) (am_cur_of (i := (135, 3, .invokevirtual 194, (171, 1715, 3), 0)) (by decide +kernel)) rfl rfl rfl rfl hm_z
    obtain ⟨r4318_z, h4319_z, q4320_z, hm_z⟩ := hm_z
    obtain ⟨rfl, yq4320_z⟩ := rp_sgN (fun q => absurd (Eq.trans (Eq.symm kc) q.1) (by decide)) q4320_z
    subst yq4320_z
    replace hm_z : rn _ _ _ _ [.int 0] _ _ _ := hm_z
    replace hm_z := rn_ifT (am_cur_of (i := (138, 3, .ifCond .eq 8, (71, 0, 0), 0)) (by decide +kernel)) (by decide) hm_z
    replace hm_z := rn_iconst (w := 0) (am_cur_of (i := (146, 1, .iconst 0, (0, 0, 0), 0)) (by decide +kernel)) (by decide) hm_z
    replace hm_z := rn_istore_n (am_cur_of (i := (147, 1, .istore_n 1, (0, 0, 0), 0)) (by decide +kernel)) hm_z
    obtain ⟨_, s4321_z, s4322_z, g1m, hm_z⟩ := hm_z
    replace g0m := s4321_z 0 _ (by decide) rfl g0m
    clear s4321_z s4322_z
    replace hm_z := rn_iload_n (am_cur_of (i := (148, 1, .iload_n 1, (0, 0, 0), 0)) (by decide +kernel)) g1m hm_z
    replace hm_z := rn_ifF (am_cur_of (i := (149, 3, .ifCond .ne 9, (79, 0, 0), 0)) (by decide +kernel)) (by decide) hm_z
    replace hm_z := rn_aload_n (am_cur_of (i := (152, 1, .aload_n 0, (0, 0, 0), 0)) (by decide +kernel)) g0m hm_z
    replace hm_z := rn_iconst (w := 1) (am_cur_of (i := (153, 1, .iconst 1, (0, 0, 0), 0)) (by decide +kernel)) (by decide) hm_z
    replace hm_z := rn_callV (M' := am_m158) (o := 164) (ar := [.int 1]) (rest := []) (L := lv_args 0 [.ref 164, .int 1]) (am_cur_of (i := (154, 3, .invokevirtual 181, (158, 1665, 3), 0)) (by decide +kernel)) rfl rfl rfl rfl hm_z
    obtain ⟨r4323_z, h4324_z, q4325_z, hm_z⟩ := hm_z
    obtain ⟨rfl, yq4325_z⟩ := rp_wrong q4325_z
    subst yq4325_z
    replace hm_z : rn _ _ _ _ [.int 0] _ _ _ := hm_z
    replace hm_z := rn_iret (am_cur_of (i := (157, 1, .ireturn, (0, 0, 0), 0)) (by decide +kernel)) hm_z
    obtain ⟨e4326_z, e4327_z⟩ := hm_z
    subst e4299_z e4327_z
    exact Or.inr ⟨e4298_z, rfl, z4_z.trans (rt_i32 (by rw [show (0 : Int32).toInt = 0 by decide]; omega)), e4326_z, rfl⟩
  · replace b4297_z : (0 : Int32).toInt < op.toInt := b4297_z
    replace hc_z := rn_aload_n (am_cur_of (i := (75, 1, .aload_n 0, (0, 0, 0), 0)) (by decide +kernel)) g0_z hc_z
    replace hc_z := rn_iconst (w := 1) (am_cur_of (i := (76, 1, .iconst 1, (0, 0, 0), 0)) (by decide +kernel)) (by decide) hc_z
    replace hc_z := rn_callV (M' := am_m29) (o := 44) (ar := [.int 1]) (rest := []) (L := lv_args 0 [.ref 44, .int 1]) (am_cur_of (i := (77, 3, .invokevirtual 108, (29, 769, 3), 0)) (by decide +kernel)) rfl rfl rfl rfl hc_z
    obtain ⟨r4328_z, h4329_z, q4330_z, hc_z⟩ := hc_z
    obtain ⟨rfl, yq4330_z⟩ := rp_fail R4 q4330_z
    subst yq4330_z
    replace hc_z : rn _ _ _ _ [] _ _ _ := hc_z
    have K := rs_stick (w := 1) (q := p) (a := 44) (by decide) (by decide) rfl (by decide) rfl (show rg_v (am_up (am_up h 44 1 (.int 1)) 44 2 (.int (rg_v h 44 9))) 44 2 = p from R5) hc_z
    replace hm_z := rn_aload_n (am_cur_of (i := (0, 1, .aload_n 0, (0, 0, 0), 0)) (by decide +kernel)) g0m hm_z
    replace hm_z := rn_bipush (w := 41) (am_cur_of (i := (1, 2, .bipush 41, (0, 0, 0), 0)) (by decide +kernel)) (by decide) hm_z
    replace hm_z := rn_callV (M' := am_m171) (o := 164) (ar := [.int 41]) (rest := []) (L := lv_args 0 [.ref 164, .int 41]) (am_cur_of (i := (3, 3, .invokevirtual 194, (171, 1715, 3), 0)) (by decide +kernel)) rfl rfl rfl rfl hm_z
    obtain ⟨r4331_z, h4332_z, q4333_z, hm_z⟩ := hm_z
    obtain ⟨rfl, yq4333_z⟩ := rp_sgN (fun q => absurd (Eq.trans (Eq.symm kc) q.1) (by decide)) q4333_z
    subst yq4333_z
    replace hm_z : rn _ _ _ _ [.int 0] _ _ _ := hm_z
    replace hm_z := rn_ifT (am_cur_of (i := (6, 3, .ifCond .eq 41, (26, 0, 0), 0)) (by decide +kernel)) (by decide) hm_z
    replace hm_z := rn_aload_n (am_cur_of (i := (47, 1, .aload_n 0, (0, 0, 0), 0)) (by decide +kernel)) g0m hm_z
    replace hm_z := rn_bipush (w := 12) (am_cur_of (i := (48, 2, .bipush 12, (0, 0, 0), 0)) (by decide +kernel)) (by decide) hm_z
    replace hm_z := rn_callV (M' := am_m174) (o := 164) (ar := [.int 12]) (rest := []) (L := lv_args 0 [.ref 164, .int 12]) (am_cur_of (i := (50, 3, .invokevirtual 306, (174, 1727, 3), 0)) (by decide +kernel)) rfl rfl rfl rfl hm_z
    obtain ⟨r4334_z, h4335_z, q4336_z, hm_z⟩ := hm_z
    obtain ⟨rfl, yq4336_z⟩ := rp_kyN (fun q => absurd (Eq.trans (Eq.symm kd) q.2) (by decide)) q4336_z
    subst yq4336_z
    replace hm_z : rn _ _ _ _ [.int 0] _ _ _ := hm_z
    replace hm_z := rn_ifT (am_cur_of (i := (53, 3, .ifCond .eq 7, (32, 0, 0), 0)) (by decide +kernel)) (by decide) hm_z
    replace hm_z := rn_aload_n (am_cur_of (i := (60, 1, .aload_n 0, (0, 0, 0), 0)) (by decide +kernel)) g0m hm_z
    replace hm_z := rn_bipush (w := 13) (am_cur_of (i := (61, 2, .bipush 13, (0, 0, 0), 0)) (by decide +kernel)) (by decide) hm_z
    replace hm_z := rn_callV (M' := am_m174) (o := 164) (ar := [.int 13]) (rest := []) (L := lv_args 0 [.ref 164, .int 13]) (am_cur_of (i := (63, 3, .invokevirtual 306, (174, 1727, 3), 0)) (by decide +kernel)) rfl rfl rfl rfl hm_z
    obtain ⟨r4337_z, h4338_z, q4339_z, hm_z⟩ := hm_z
    obtain ⟨rfl, yq4339_z⟩ := rp_kyN (fun q => absurd (Eq.trans (Eq.symm kd) q.2) (by decide)) q4339_z
    subst yq4339_z
    replace hm_z : rn _ _ _ _ [.int 0] _ _ _ := hm_z
    replace hm_z := rn_ifT (am_cur_of (i := (66, 3, .ifCond .eq 7, (38, 0, 0), 0)) (by decide +kernel)) (by decide) hm_z
    replace hm_z := rn_aload_n (am_cur_of (i := (73, 1, .aload_n 0, (0, 0, 0), 0)) (by decide +kernel)) g0m hm_z
    replace hm_z := rn_getI (v := 1) (am_cur_of (i := (74, 3, .getfield 157, (12, 8, 1392), 0)) (by decide +kernel)) (by decide +kernel) kc hm_z
    replace hm_z := rn_iconst (w := 5) (am_cur_of (i := (77, 1, .iconst 5, (0, 0, 0), 0)) (by decide +kernel)) (by decide) hm_z
    replace hm_z := rn_cmpT (am_cur_of (i := (78, 3, .if_icmp .ne 12, (47, 0, 0), 0)) (by decide +kernel)) (by decide) hm_z
    replace hm_z := rn_aload_n (am_cur_of (i := (90, 1, .aload_n 0, (0, 0, 0), 0)) (by decide +kernel)) g0m hm_z
    replace hm_z := rn_bipush (w := 43) (am_cur_of (i := (91, 2, .bipush 43, (0, 0, 0), 0)) (by decide +kernel)) (by decide) hm_z
    replace hm_z := rn_callV (M' := am_m171) (o := 164) (ar := [.int 43]) (rest := []) (L := lv_args 0 [.ref 164, .int 43]) (am_cur_of (i := (93, 3, .invokevirtual 194, (171, 1715, 3), 0)) (by decide +kernel)) rfl rfl rfl rfl hm_z
    obtain ⟨r4340_z, h4341_z, q4342_z, hm_z⟩ := hm_z
    obtain ⟨rfl, yq4342_z⟩ := rp_sgN (fun q => absurd (Eq.trans (Eq.symm kc) q.1) (by decide)) q4342_z
    subst yq4342_z
    replace hm_z : rn _ _ _ _ [.int 0] _ _ _ := hm_z
    replace hm_z := rn_ifT (am_cur_of (i := (96, 3, .ifCond .eq 8, (53, 0, 0), 0)) (by decide +kernel)) (by decide) hm_z
    replace hm_z := rn_aload_n (am_cur_of (i := (104, 1, .aload_n 0, (0, 0, 0), 0)) (by decide +kernel)) g0m hm_z
    replace hm_z := rn_bipush (w := 45) (am_cur_of (i := (105, 2, .bipush 45, (0, 0, 0), 0)) (by decide +kernel)) (by decide) hm_z
    replace hm_z := rn_callV (M' := am_m171) (o := 164) (ar := [.int 45]) (rest := []) (L := lv_args 0 [.ref 164, .int 45]) (am_cur_of (i := (107, 3, .invokevirtual 194, (171, 1715, 3), 0)) (by decide +kernel)) rfl rfl rfl rfl hm_z
    obtain ⟨r4343_z, h4344_z, q4345_z, hm_z⟩ := hm_z
    obtain ⟨rfl, yq4345_z⟩ := rp_sgN (fun q => absurd (Eq.trans (Eq.symm kc) q.1) (by decide)) q4345_z
    subst yq4345_z
    replace hm_z : rn _ _ _ _ [.int 0] _ _ _ := hm_z
    replace hm_z := rn_ifT (am_cur_of (i := (110, 3, .ifCond .eq 8, (59, 0, 0), 0)) (by decide +kernel)) (by decide) hm_z
    replace hm_z := rn_aload_n (am_cur_of (i := (118, 1, .aload_n 0, (0, 0, 0), 0)) (by decide +kernel)) g0m hm_z
    replace hm_z := rn_bipush (w := 42) (am_cur_of (i := (119, 2, .bipush 42, (0, 0, 0), 0)) (by decide +kernel)) (by decide) hm_z
    replace hm_z := rn_callV (M' := am_m171) (o := 164) (ar := [.int 42]) (rest := []) (L := lv_args 0 [.ref 164, .int 42]) (am_cur_of (i := (121, 3, .invokevirtual 194, (171, 1715, 3), 0)) (by decide +kernel)) rfl rfl rfl rfl hm_z
    obtain ⟨r4346_z, h4347_z, q4348_z, hm_z⟩ := hm_z
    obtain ⟨rfl, yq4348_z⟩ := rp_sgN (fun q => absurd (Eq.trans (Eq.symm kc) q.1) (by decide)) q4348_z
    subst yq4348_z
    replace hm_z : rn _ _ _ _ [.int 0] _ _ _ := hm_z
    replace hm_z := rn_ifT (am_cur_of (i := (124, 3, .ifCond .eq 8, (65, 0, 0), 0)) (by decide +kernel)) (by decide) hm_z
    replace hm_z := rn_aload_n (am_cur_of (i := (132, 1, .aload_n 0, (0, 0, 0), 0)) (by decide +kernel)) g0m hm_z
    replace hm_z := rn_bipush (w := 47) (am_cur_of (i := (133, 2, .bipush 47, (0, 0, 0), 0)) (by decide +kernel)) (by decide) hm_z
    replace hm_z := rn_callV (M' := am_m171) (o := 164) (ar := [.int 47]) (rest := []) (L := lv_args 0 [.ref 164, .int 47]) (am_cur_of (i := (135, 3, .invokevirtual 194, (171, 1715, 3), 0)) (by decide +kernel)) rfl rfl rfl rfl hm_z
    obtain ⟨r4349_z, h4350_z, q4351_z, hm_z⟩ := hm_z
    obtain ⟨rfl, yq4351_z⟩ := rp_sgN (fun q => absurd (Eq.trans (Eq.symm kc) q.1) (by decide)) q4351_z
    subst yq4351_z
    replace hm_z : rn _ _ _ _ [.int 0] _ _ _ := hm_z
    replace hm_z := rn_ifT (am_cur_of (i := (138, 3, .ifCond .eq 8, (71, 0, 0), 0)) (by decide +kernel)) (by decide) hm_z
    replace hm_z := rn_iconst (w := 0) (am_cur_of (i := (146, 1, .iconst 0, (0, 0, 0), 0)) (by decide +kernel)) (by decide) hm_z
    replace hm_z := rn_istore_n (am_cur_of (i := (147, 1, .istore_n 1, (0, 0, 0), 0)) (by decide +kernel)) hm_z
    obtain ⟨_, s4352_z, s4353_z, g1m, hm_z⟩ := hm_z
    replace g0m := s4352_z 0 _ (by decide) rfl g0m
    clear s4352_z s4353_z
    replace hm_z := rn_iload_n (am_cur_of (i := (148, 1, .iload_n 1, (0, 0, 0), 0)) (by decide +kernel)) g1m hm_z
    replace hm_z := rn_ifF (am_cur_of (i := (149, 3, .ifCond .ne 9, (79, 0, 0), 0)) (by decide +kernel)) (by decide) hm_z
    replace hm_z := rn_aload_n (am_cur_of (i := (152, 1, .aload_n 0, (0, 0, 0), 0)) (by decide +kernel)) g0m hm_z
    replace hm_z := rn_iconst (w := 1) (am_cur_of (i := (153, 1, .iconst 1, (0, 0, 0), 0)) (by decide +kernel)) (by decide) hm_z
    replace hm_z := rn_callV (M' := am_m158) (o := 164) (ar := [.int 1]) (rest := []) (L := lv_args 0 [.ref 164, .int 1]) (am_cur_of (i := (154, 3, .invokevirtual 181, (158, 1665, 3), 0)) (by decide +kernel)) rfl rfl rfl rfl hm_z
    obtain ⟨r4354_z, h4355_z, q4356_z, hm_z⟩ := hm_z
    obtain ⟨rfl, yq4356_z⟩ := rp_wrong q4356_z
    subst yq4356_z
    replace hm_z : rn _ _ _ _ [.int 0] _ _ _ := hm_z
    replace hm_z := rn_iret (am_cur_of (i := (157, 1, .ireturn, (0, 0, 0), 0)) (by decide +kernel)) hm_z
    obtain ⟨e4357_z, e4358_z⟩ := hm_z
    subst e4357_z e4358_z
    exact Or.inl (Or.inr ⟨rfl, 1, by decide, K.1, K.2, rfl, R6⟩)
theorem rj_c7_2 {T : Nat → Int32} {S x p : Int32} {n n' : Nat} {h h' g g' : am_H} {r r' : Option Value} (R : rq T S x p 2 h g) (A : rp 2 h g) (B : rp_t h g) (Z : rs 2 h g) (w0_z : rg_v g 164 45 = 0) (ka : (rg_v h 44 10) = 2) (kc : (rg_v g 164 8) = 1) (kb : (rg_v h 44 11) = 14) (kd : (rg_v g 164 9) = 17) (hc_z : rn n am_m44 0 (lv_args 0 [.ref 44]) [] h r h') (hm_z : rn n' am_m178 0 (lv_args 0 [.ref 164]) [] g r' g') : rj_Q T S x p 2 h g h' g' r r' := by
  have z0_z : (0 : Int32).toInt = 0 := by decide
  have g0_z : am_get (lv_args 0 [.ref 44]) 0 = some (.ref 44) := rfl
  have g0m : am_get (lv_args 0 [.ref 164]) 0 = some (.ref 164) := rfl
  have Rk := R
  have Zk := Z
  obtain ⟨⟨c1_z, c2_z, c3_z, c4_z, c5_z, c6_z, c7_z, c8_z⟩, ⟨m2_z, m3_z, m4_z, m5_z, m6_z, m7_z, m8_z⟩, R3, R4, R5, R6, R7, R8, R9, R10⟩ := (R : rq T S x p 2 h g)
  obtain ⟨np, op, z1_z, z2_z, z3_z, z4_z, z5_z, z6_z, z7_z, z8_z, z9_z, z10_z⟩ := (Z : rs 2 h g)
  obtain ⟨nk1_z, nk2_z, nk3_z⟩ := A.2.2.2.2.2.1
  replace nk1_z : rg_v h 11 0 = rg_v g 164 44 := nk1_z
  replace nk2_z : 0 ≤ (rg_v h 11 0).toInt := nk2_z
  replace nk3_z : (rg_v h 11 0).toInt ≤ 64 := nk3_z
  replace z8_z : np.toInt ≤ (rg_v h 11 0).toInt + op.toInt := z8_z
  obtain ⟨kn, ekn⟩ : ∃ v, rg_v h 11 0 = v := ⟨_, rfl⟩
  rw [ekn] at nk1_z nk2_z nk3_z z8_z
  have e9_z := rt_c1 (x := kn) (by omega) (by omega)
  replace hc_z := rn_aload_n (am_cur_of (i := (0, 1, .aload_n 0, (0, 0, 0), 0)) (by decide +kernel)) g0_z hc_z
  replace hc_z := rn_bipush (w := 41) (am_cur_of (i := (1, 2, .bipush 41, (0, 0, 0), 0)) (by decide +kernel)) (by decide) hc_z
  replace hc_z := rn_callV (M' := am_m45) (o := 44) (ar := [.int 41]) (rest := []) (L := lv_args 0 [.ref 44, .int 41]) (am_cur_of (i := (3, 3, .invokevirtual 105, (45, 834, 3), 0)) (by decide +kernel)) rfl rfl rfl rfl hc_z
  obtain ⟨r4359_z, h4360_z, q4361_z, hc_z⟩ := hc_z
  obtain ⟨rfl, yq4361_z⟩ := rp_mkN (fun q => absurd (Eq.trans (Eq.symm ka) q.1) (by decide)) q4361_z
  subst yq4361_z
  replace hc_z : rn _ _ _ _ [.int 0] _ _ _ := hc_z
  replace hc_z := rn_ifT (am_cur_of (i := (6, 3, .ifCond .eq 45, (28, 0, 0), 0)) (by decide +kernel)) (by decide) hc_z
  replace hc_z := rn_aload_n (am_cur_of (i := (51, 1, .aload_n 0, (0, 0, 0), 0)) (by decide +kernel)) g0_z hc_z
  replace hc_z := rn_getI (v := 2) (am_cur_of (i := (52, 3, .getfield 60, (4, 10, 419), 0)) (by decide +kernel)) (by decide +kernel) ka hc_z
  replace hc_z := rn_bipush (w := 6) (am_cur_of (i := (55, 2, .bipush 6, (0, 0, 0), 0)) (by decide +kernel)) (by decide) hc_z
  replace hc_z := rn_cmpT (am_cur_of (i := (57, 3, .if_icmp .ne 11, (36, 0, 0), 0)) (by decide +kernel)) (by decide) hc_z
  replace hc_z := rn_aload_n (am_cur_of (i := (68, 1, .aload_n 0, (0, 0, 0), 0)) (by decide +kernel)) g0_z hc_z
  replace hc_z := rn_getI (v := op) (am_cur_of (i := (69, 3, .getfield 254, (4, 14, 423), 0)) (by decide +kernel)) (by decide +kernel) z4_z hc_z
  replace hc_z := rn_if (am_cur_of (i := (72, 3, .ifCond .le 8, (42, 0, 0), 0)) (by decide +kernel)) hc_z
  rcases hc_z with ⟨b4362_z, hc_z⟩ | ⟨b4362_z, hc_z⟩
  · replace b4362_z : op.toInt ≤ (0 : Int32).toInt := b4362_z
    replace hc_z := rn_iconst (w := 3) (am_cur_of (i := (80, 1, .iconst 3, (0, 0, 0), 0)) (by decide +kernel)) (by decide) hc_z
    replace hc_z := rn_iret (am_cur_of (i := (81, 1, .ireturn, (0, 0, 0), 0)) (by decide +kernel)) hc_z
    obtain ⟨e4363_z, e4364_z⟩ := hc_z
    replace hm_z := rn_aload_n (am_cur_of (i := (0, 1, .aload_n 0, (0, 0, 0), 0)) (by decide +kernel)) g0m hm_z
    replace hm_z := rn_bipush (w := 41) (am_cur_of (i := (1, 2, .bipush 41, (0, 0, 0), 0)) (by decide +kernel)) (by decide) hm_z
    replace hm_z := rn_callV (M' := am_m171) (o := 164) (ar := [.int 41]) (rest := []) (L := lv_args 0 [.ref 164, .int 41]) (am_cur_of (i := (3, 3, .invokevirtual 194, (171, 1715, 3), 0)) (by decide +kernel)) rfl rfl rfl rfl hm_z
    obtain ⟨r4365_z, h4366_z, q4367_z, hm_z⟩ := hm_z
    obtain ⟨rfl, yq4367_z⟩ := rp_sgN (fun q => absurd (Eq.trans (Eq.symm kc) q.1) (by decide)) q4367_z
    subst yq4367_z
    replace hm_z : rn _ _ _ _ [.int 0] _ _ _ := hm_z
    replace hm_z := rn_ifT (am_cur_of (i := (6, 3, .ifCond .eq 41, (26, 0, 0), 0)) (by decide +kernel)) (by decide) hm_z
    replace hm_z := rn_aload_n (am_cur_of (i := (47, 1, .aload_n 0, (0, 0, 0), 0)) (by decide +kernel)) g0m hm_z
    replace hm_z := rn_bipush (w := 12) (am_cur_of (i := (48, 2, .bipush 12, (0, 0, 0), 0)) (by decide +kernel)) (by decide) hm_z
    replace hm_z := rn_callV (M' := am_m174) (o := 164) (ar := [.int 12]) (rest := []) (L := lv_args 0 [.ref 164, .int 12]) (am_cur_of (i := (50, 3, .invokevirtual 306, (174, 1727, 3), 0)) (by decide +kernel)) rfl rfl rfl rfl hm_z
    obtain ⟨r4368_z, h4369_z, q4370_z, hm_z⟩ := hm_z
    obtain ⟨rfl, yq4370_z⟩ := rp_kyN (fun q => absurd (Eq.trans (Eq.symm kd) q.2) (by decide)) q4370_z
    subst yq4370_z
    replace hm_z : rn _ _ _ _ [.int 0] _ _ _ := hm_z
    replace hm_z := rn_ifT (am_cur_of (i := (53, 3, .ifCond .eq 7, (32, 0, 0), 0)) (by decide +kernel)) (by decide) hm_z
    replace hm_z := rn_aload_n (am_cur_of (i := (60, 1, .aload_n 0, (0, 0, 0), 0)) (by decide +kernel)) g0m hm_z
    replace hm_z := rn_bipush (w := 13) (am_cur_of (i := (61, 2, .bipush 13, (0, 0, 0), 0)) (by decide +kernel)) (by decide) hm_z
    replace hm_z := rn_callV (M' := am_m174) (o := 164) (ar := [.int 13]) (rest := []) (L := lv_args 0 [.ref 164, .int 13]) (am_cur_of (i := (63, 3, .invokevirtual 306, (174, 1727, 3), 0)) (by decide +kernel)) rfl rfl rfl rfl hm_z
    obtain ⟨r4371_z, h4372_z, q4373_z, hm_z⟩ := hm_z
    obtain ⟨rfl, yq4373_z⟩ := rp_kyN (fun q => absurd (Eq.trans (Eq.symm kd) q.2) (by decide)) q4373_z
    subst yq4373_z
    replace hm_z : rn _ _ _ _ [.int 0] _ _ _ := hm_z
    replace hm_z := rn_ifT (am_cur_of (i := (66, 3, .ifCond .eq 7, (38, 0, 0), 0)) (by decide +kernel)) (by decide) hm_z
    replace hm_z := rn_aload_n (am_cur_of (i := (73, 1, .aload_n 0, (0, 0, 0), 0)) (by decide +kernel)) g0m hm_z
    replace hm_z := rn_getI (v := 1) (am_cur_of (i := (74, 3, .getfield 157, (12, 8, 1392), 0)) (by decide +kernel)) (by decide +kernel) kc hm_z
    replace hm_z := rn_iconst (w := 5) (am_cur_of (i := (77, 1, .iconst 5, (0, 0, 0), 0)) (by decide +kernel)) (by decide) hm_z
    replace hm_z := rn_cmpT (am_cur_of (i := (78, 3, .if_icmp .ne 12, (47, 0, 0), 0)) (by decide +kernel)) (by decide) hm_z
    replace hm_z := rn_aload_n (am_cur_of (i := (90, 1, .aload_n 0, (0, 0, 0), 0)) (by decide +kernel)) g0m hm_z
    replace hm_z := rn_bipush (w := 43) (am_cur_of (i := (91, 2, .bipush 43, (0, 0, 0), 0)) (by decide +kernel)) (by decide) hm_z
    replace hm_z := rn_callV (M' := am_m171) (o := 164) (ar := [.int 43]) (rest := []) (L := lv_args 0 [.ref 164, .int 43]) (am_cur_of (i := (93, 3, .invokevirtual 194, (171, 1715, 3), 0)) (by decide +kernel)) rfl rfl rfl rfl hm_z
    obtain ⟨r4374_z, h4375_z, q4376_z, hm_z⟩ := hm_z
    obtain ⟨rfl, yq4376_z⟩ := rp_sgN (fun q => absurd (Eq.trans (Eq.symm kc) q.1) (by decide)) q4376_z
    subst yq4376_z
    replace hm_z : rn _ _ _ _ [.int 0] _ _ _ := hm_z
    replace hm_z := rn_ifT (am_cur_of (i := (96, 3, .ifCond .eq 8, (53, 0, 0), 0)) (by decide +kernel)) (by decide) hm_z
    replace hm_z := rn_aload_n (am_cur_of (i := (104, 1, .aload_n 0, (0, 0, 0), 0)) (by decide +kernel)) g0m hm_z
    replace hm_z := rn_bipush (w := 45) (am_cur_of (i := (105, 2, .bipush 45, (0, 0, 0), 0)) (by decide +kernel)) (by decide) hm_z
    replace hm_z := rn_callV (M' := am_m171) (o := 164) (ar := [.int 45]) (rest := []) (L := lv_args 0 [.ref 164, .int 45]) (am_cur_of (i := (107, 3, .invokevirtual 194, (171, 1715, 3), 0)) (by decide +kernel)) rfl rfl rfl rfl hm_z
    obtain ⟨r4377_z, h4378_z, q4379_z, hm_z⟩ := hm_z
    obtain ⟨rfl, yq4379_z⟩ := rp_sgN (fun q => absurd (Eq.trans (Eq.symm kc) q.1) (by decide)) q4379_z
    subst yq4379_z
    replace hm_z : rn _ _ _ _ [.int 0] _ _ _ := hm_z
    replace hm_z := rn_ifT (am_cur_of (i := (110, 3, .ifCond .eq 8, (59, 0, 0), 0)) (by decide +kernel)) (by decide) hm_z
    replace hm_z := rn_aload_n (am_cur_of (i := (118, 1, .aload_n 0, (0, 0, 0), 0)) (by decide +kernel)) g0m hm_z
    replace hm_z := rn_bipush (w := 42) (am_cur_of (i := (119, 2, .bipush 42, (0, 0, 0), 0)) (by decide +kernel)) (by decide) hm_z
    replace hm_z := rn_callV (M' := am_m171) (o := 164) (ar := [.int 42]) (rest := []) (L := lv_args 0 [.ref 164, .int 42]) (am_cur_of (i := (121, 3, .invokevirtual 194, (171, 1715, 3), 0)) (by decide +kernel)) rfl rfl rfl rfl hm_z
    obtain ⟨r4380_z, h4381_z, q4382_z, hm_z⟩ := hm_z
    obtain ⟨rfl, yq4382_z⟩ := rp_sgN (fun q => absurd (Eq.trans (Eq.symm kc) q.1) (by decide)) q4382_z
    subst yq4382_z
    replace hm_z : rn _ _ _ _ [.int 0] _ _ _ := hm_z
    replace hm_z := rn_ifT (am_cur_of (i := (124, 3, .ifCond .eq 8, (65, 0, 0), 0)) (by decide +kernel)) (by decide) hm_z
    replace hm_z := rn_aload_n (am_cur_of (i := (132, 1, .aload_n 0, (0, 0, 0), 0)) (by decide +kernel)) g0m hm_z
    replace hm_z := rn_bipush (w := 47) (am_cur_of (i := (133, 2, .bipush 47, (0, 0, 0), 0)) (by decide +kernel)) (by decide) hm_z
    replace hm_z := rn_callV (M' := am_m171) (o := 164) (ar := [.int 47]) (rest := []) (L := lv_args 0 [.ref 164, .int 47]) (am_cur_of (i := (135, 3, .invokevirtual 194, (171, 1715, 3), 0)) (by decide +kernel)) rfl rfl rfl rfl hm_z
    obtain ⟨r4383_z, h4384_z, q4385_z, hm_z⟩ := hm_z
    obtain ⟨rfl, yq4385_z⟩ := rp_sgN (fun q => absurd (Eq.trans (Eq.symm kc) q.1) (by decide)) q4385_z
    subst yq4385_z
    replace hm_z : rn _ _ _ _ [.int 0] _ _ _ := hm_z
    replace hm_z := rn_ifT (am_cur_of (i := (138, 3, .ifCond .eq 8, (71, 0, 0), 0)) (by decide +kernel)) (by decide) hm_z
    replace hm_z := rn_iconst (w := 0) (am_cur_of (i := (146, 1, .iconst 0, (0, 0, 0), 0)) (by decide +kernel)) (by decide) hm_z
    replace hm_z := rn_istore_n (am_cur_of (i := (147, 1, .istore_n 1, (0, 0, 0), 0)) (by decide +kernel)) hm_z
    obtain ⟨_, s4386_z, s4387_z, g1m, hm_z⟩ := hm_z
    replace g0m := s4386_z 0 _ (by decide) rfl g0m
    clear s4386_z s4387_z
    replace hm_z := rn_iload_n (am_cur_of (i := (148, 1, .iload_n 1, (0, 0, 0), 0)) (by decide +kernel)) g1m hm_z
    replace hm_z := rn_ifF (am_cur_of (i := (149, 3, .ifCond .ne 9, (79, 0, 0), 0)) (by decide +kernel)) (by decide) hm_z
    replace hm_z := rn_aload_n (am_cur_of (i := (152, 1, .aload_n 0, (0, 0, 0), 0)) (by decide +kernel)) g0m hm_z
    replace hm_z := rn_iconst (w := 1) (am_cur_of (i := (153, 1, .iconst 1, (0, 0, 0), 0)) (by decide +kernel)) (by decide) hm_z
    replace hm_z := rn_callV (M' := am_m158) (o := 164) (ar := [.int 1]) (rest := []) (L := lv_args 0 [.ref 164, .int 1]) (am_cur_of (i := (154, 3, .invokevirtual 181, (158, 1665, 3), 0)) (by decide +kernel)) rfl rfl rfl rfl hm_z
    obtain ⟨r4388_z, h4389_z, q4390_z, hm_z⟩ := hm_z
    obtain ⟨rfl, yq4390_z⟩ := rp_wrong q4390_z
    subst yq4390_z
    replace hm_z : rn _ _ _ _ [.int 0] _ _ _ := hm_z
    replace hm_z := rn_iret (am_cur_of (i := (157, 1, .ireturn, (0, 0, 0), 0)) (by decide +kernel)) hm_z
    obtain ⟨e4391_z, e4392_z⟩ := hm_z
    subst e4364_z e4392_z
    exact Or.inr ⟨e4363_z, rfl, z4_z.trans (rt_i32 (by rw [show (0 : Int32).toInt = 0 by decide]; omega)), e4391_z, rfl⟩
  · replace b4362_z : (0 : Int32).toInt < op.toInt := b4362_z
    replace hc_z := rn_aload_n (am_cur_of (i := (75, 1, .aload_n 0, (0, 0, 0), 0)) (by decide +kernel)) g0_z hc_z
    replace hc_z := rn_iconst (w := 1) (am_cur_of (i := (76, 1, .iconst 1, (0, 0, 0), 0)) (by decide +kernel)) (by decide) hc_z
    replace hc_z := rn_callV (M' := am_m29) (o := 44) (ar := [.int 1]) (rest := []) (L := lv_args 0 [.ref 44, .int 1]) (am_cur_of (i := (77, 3, .invokevirtual 108, (29, 769, 3), 0)) (by decide +kernel)) rfl rfl rfl rfl hc_z
    obtain ⟨r4393_z, h4394_z, q4395_z, hc_z⟩ := hc_z
    obtain ⟨rfl, yq4395_z⟩ := rp_fail R4 q4395_z
    subst yq4395_z
    replace hc_z : rn _ _ _ _ [] _ _ _ := hc_z
    have K := rs_stick (w := 1) (q := p) (a := 44) (by decide) (by decide) rfl (by decide) rfl (show rg_v (am_up (am_up h 44 1 (.int 1)) 44 2 (.int (rg_v h 44 9))) 44 2 = p from R5) hc_z
    replace hm_z := rn_aload_n (am_cur_of (i := (0, 1, .aload_n 0, (0, 0, 0), 0)) (by decide +kernel)) g0m hm_z
    replace hm_z := rn_bipush (w := 41) (am_cur_of (i := (1, 2, .bipush 41, (0, 0, 0), 0)) (by decide +kernel)) (by decide) hm_z
    replace hm_z := rn_callV (M' := am_m171) (o := 164) (ar := [.int 41]) (rest := []) (L := lv_args 0 [.ref 164, .int 41]) (am_cur_of (i := (3, 3, .invokevirtual 194, (171, 1715, 3), 0)) (by decide +kernel)) rfl rfl rfl rfl hm_z
    obtain ⟨r4396_z, h4397_z, q4398_z, hm_z⟩ := hm_z
    obtain ⟨rfl, yq4398_z⟩ := rp_sgN (fun q => absurd (Eq.trans (Eq.symm kc) q.1) (by decide)) q4398_z
    subst yq4398_z
    replace hm_z : rn _ _ _ _ [.int 0] _ _ _ := hm_z
    replace hm_z := rn_ifT (am_cur_of (i := (6, 3, .ifCond .eq 41, (26, 0, 0), 0)) (by decide +kernel)) (by decide) hm_z
    replace hm_z := rn_aload_n (am_cur_of (i := (47, 1, .aload_n 0, (0, 0, 0), 0)) (by decide +kernel)) g0m hm_z
    replace hm_z := rn_bipush (w := 12) (am_cur_of (i := (48, 2, .bipush 12, (0, 0, 0), 0)) (by decide +kernel)) (by decide) hm_z
    replace hm_z := rn_callV (M' := am_m174) (o := 164) (ar := [.int 12]) (rest := []) (L := lv_args 0 [.ref 164, .int 12]) (am_cur_of (i := (50, 3, .invokevirtual 306, (174, 1727, 3), 0)) (by decide +kernel)) rfl rfl rfl rfl hm_z
    obtain ⟨r4399_z, h4400_z, q4401_z, hm_z⟩ := hm_z
    obtain ⟨rfl, yq4401_z⟩ := rp_kyN (fun q => absurd (Eq.trans (Eq.symm kd) q.2) (by decide)) q4401_z
    subst yq4401_z
    replace hm_z : rn _ _ _ _ [.int 0] _ _ _ := hm_z
    replace hm_z := rn_ifT (am_cur_of (i := (53, 3, .ifCond .eq 7, (32, 0, 0), 0)) (by decide +kernel)) (by decide) hm_z
    replace hm_z := rn_aload_n (am_cur_of (i := (60, 1, .aload_n 0, (0, 0, 0), 0)) (by decide +kernel)) g0m hm_z
    replace hm_z := rn_bipush (w := 13) (am_cur_of (i := (61, 2, .bipush 13, (0, 0, 0), 0)) (by decide +kernel)) (by decide) hm_z
    replace hm_z := rn_callV (M' := am_m174) (o := 164) (ar := [.int 13]) (rest := []) (L := lv_args 0 [.ref 164, .int 13]) (am_cur_of (i := (63, 3, .invokevirtual 306, (174, 1727, 3), 0)) (by decide +kernel)) rfl rfl rfl rfl hm_z
    obtain ⟨r4402_z, h4403_z, q4404_z, hm_z⟩ := hm_z
    obtain ⟨rfl, yq4404_z⟩ := rp_kyN (fun q => absurd (Eq.trans (Eq.symm kd) q.2) (by decide)) q4404_z
    subst yq4404_z
    replace hm_z : rn _ _ _ _ [.int 0] _ _ _ := hm_z
    replace hm_z := rn_ifT (am_cur_of (i := (66, 3, .ifCond .eq 7, (38, 0, 0), 0)) (by decide +kernel)) (by decide) hm_z
    replace hm_z := rn_aload_n (am_cur_of (i := (73, 1, .aload_n 0, (0, 0, 0), 0)) (by decide +kernel)) g0m hm_z
    replace hm_z := rn_getI (v := 1) (am_cur_of (i := (74, 3, .getfield 157, (12, 8, 1392), 0)) (by decide +kernel)) (by decide +kernel) kc hm_z
    replace hm_z := rn_iconst (w := 5) (am_cur_of (i := (77, 1, .iconst 5, (0, 0, 0), 0)) (by decide +kernel)) (by decide) hm_z
    replace hm_z := rn_cmpT (am_cur_of (i := (78, 3, .if_icmp .ne 12, (47, 0, 0), 0)) (by decide +kernel)) (by decide) hm_z
    replace hm_z := rn_aload_n (am_cur_of (i := (90, 1, .aload_n 0, (0, 0, 0), 0)) (by decide +kernel)) g0m hm_z
    replace hm_z := rn_bipush (w := 43) (am_cur_of (i := (91, 2, .bipush 43, (0, 0, 0), 0)) (by decide +kernel)) (by decide) hm_z
    replace hm_z := rn_callV (M' := am_m171) (o := 164) (ar := [.int 43]) (rest := []) (L := lv_args 0 [.ref 164, .int 43]) (am_cur_of (i := (93, 3, .invokevirtual 194, (171, 1715, 3), 0)) (by decide +kernel)) rfl rfl rfl rfl hm_z
    obtain ⟨r4405_z, h4406_z, q4407_z, hm_z⟩ := hm_z
    obtain ⟨rfl, yq4407_z⟩ := rp_sgN (fun q => absurd (Eq.trans (Eq.symm kc) q.1) (by decide)) q4407_z
    subst yq4407_z
    replace hm_z : rn _ _ _ _ [.int 0] _ _ _ := hm_z
    replace hm_z := rn_ifT (am_cur_of (i := (96, 3, .ifCond .eq 8, (53, 0, 0), 0)) (by decide +kernel)) (by decide) hm_z
    replace hm_z := rn_aload_n (am_cur_of (i := (104, 1, .aload_n 0, (0, 0, 0), 0)) (by decide +kernel)) g0m hm_z
    replace hm_z := rn_bipush (w := 45) (am_cur_of (i := (105, 2, .bipush 45, (0, 0, 0), 0)) (by decide +kernel)) (by decide) hm_z
    replace hm_z := rn_callV (M' := am_m171) (o := 164) (ar := [.int 45]) (rest := []) (L := lv_args 0 [.ref 164, .int 45]) (am_cur_of (i := (107, 3, .invokevirtual 194, (171, 1715, 3), 0)) (by decide +kernel)) rfl rfl rfl rfl hm_z
    obtain ⟨r4408_z, h4409_z, q4410_z, hm_z⟩ := hm_z
    obtain ⟨rfl, yq4410_z⟩ := rp_sgN (fun q => absurd (Eq.trans (Eq.symm kc) q.1) (by decide)) q4410_z
    subst yq4410_z
    replace hm_z : rn _ _ _ _ [.int 0] _ _ _ := hm_z
    replace hm_z := rn_ifT (am_cur_of (i := (110, 3, .ifCond .eq 8, (59, 0, 0), 0)) (by decide +kernel)) (by decide) hm_z
    replace hm_z := rn_aload_n (am_cur_of (i := (118, 1, .aload_n 0, (0, 0, 0), 0)) (by decide +kernel)) g0m hm_z
    replace hm_z := rn_bipush (w := 42) (am_cur_of (i := (119, 2, .bipush 42, (0, 0, 0), 0)) (by decide +kernel)) (by decide) hm_z
    replace hm_z := rn_callV (M' := am_m171) (o := 164) (ar := [.int 42]) (rest := []) (L := lv_args 0 [.ref 164, .int 42]) (am_cur_of (i := (121, 3, .invokevirtual 194, (171, 1715, 3), 0)) (by decide +kernel)) rfl rfl rfl rfl hm_z
    obtain ⟨r4411_z, h4412_z, q4413_z, hm_z⟩ := hm_z
    obtain ⟨rfl, yq4413_z⟩ := rp_sgN (fun q => absurd (Eq.trans (Eq.symm kc) q.1) (by decide)) q4413_z
    subst yq4413_z
    replace hm_z : rn _ _ _ _ [.int 0] _ _ _ := hm_z
    replace hm_z := rn_ifT (am_cur_of (i := (124, 3, .ifCond .eq 8, (65, 0, 0), 0)) (by decide +kernel)) (by decide) hm_z
    replace hm_z := rn_aload_n (am_cur_of (i := (132, 1, .aload_n 0, (0, 0, 0), 0)) (by decide +kernel)) g0m hm_z
    replace hm_z := rn_bipush (w := 47) (am_cur_of (i := (133, 2, .bipush 47, (0, 0, 0), 0)) (by decide +kernel)) (by decide) hm_z
    replace hm_z := rn_callV (M' := am_m171) (o := 164) (ar := [.int 47]) (rest := []) (L := lv_args 0 [.ref 164, .int 47]) (am_cur_of (i := (135, 3, .invokevirtual 194, (171, 1715, 3), 0)) (by decide +kernel)) rfl rfl rfl rfl hm_z
    obtain ⟨r4414_z, h4415_z, q4416_z, hm_z⟩ := hm_z
    obtain ⟨rfl, yq4416_z⟩ := rp_sgN (fun q => absurd (Eq.trans (Eq.symm kc) q.1) (by decide)) q4416_z
    subst yq4416_z
    replace hm_z : rn _ _ _ _ [.int 0] _ _ _ := hm_z
    replace hm_z := rn_ifT (am_cur_of (i := (138, 3, .ifCond .eq 8, (71, 0, 0), 0)) (by decide +kernel)) (by decide) hm_z
    replace hm_z := rn_iconst (w := 0) (am_cur_of (i := (146, 1, .iconst 0, (0, 0, 0), 0)) (by decide +kernel)) (by decide) hm_z
    replace hm_z := rn_istore_n (am_cur_of (i := (147, 1, .istore_n 1, (0, 0, 0), 0)) (by decide +kernel)) hm_z
    obtain ⟨_, s4417_z, s4418_z, g1m, hm_z⟩ := hm_z
    replace g0m := s4417_z 0 _ (by decide) rfl g0m
    clear s4417_z s4418_z
    replace hm_z := rn_iload_n (am_cur_of (i := (148, 1, .iload_n 1, (0, 0, 0), 0)) (by decide +kernel)) g1m hm_z
    replace hm_z := rn_ifF (am_cur_of (i := (149, 3, .ifCond .ne 9, (79, 0, 0), 0)) (by decide +kernel)) (by decide) hm_z
    replace hm_z := rn_aload_n (am_cur_of (i := (152, 1, .aload_n 0, (0, 0, 0), 0)) (by decide +kernel)) g0m hm_z
    replace hm_z := rn_iconst (w := 1) (am_cur_of (i := (153, 1, .iconst 1, (0, 0, 0), 0)) (by decide +kernel)) (by decide) hm_z
    replace hm_z := rn_callV (M' := am_m158) (o := 164) (ar := [.int 1]) (rest := []) (L := lv_args 0 [.ref 164, .int 1]) (am_cur_of (i := (154, 3, .invokevirtual 181, (158, 1665, 3), 0)) (by decide +kernel)) rfl rfl rfl rfl hm_z
    obtain ⟨r4419_z, h4420_z, q4421_z, hm_z⟩ := hm_z
    obtain ⟨rfl, yq4421_z⟩ := rp_wrong q4421_z
    subst yq4421_z
    replace hm_z : rn _ _ _ _ [.int 0] _ _ _ := hm_z
    replace hm_z := rn_iret (am_cur_of (i := (157, 1, .ireturn, (0, 0, 0), 0)) (by decide +kernel)) hm_z
    obtain ⟨e4422_z, e4423_z⟩ := hm_z
    subst e4422_z e4423_z
    exact Or.inl (Or.inr ⟨rfl, 1, by decide, K.1, K.2, rfl, R6⟩)
theorem rj_c8_2 {T : Nat → Int32} {S x p : Int32} {n n' : Nat} {h h' g g' : am_H} {r r' : Option Value} (R : rq T S x p 2 h g) (A : rp 2 h g) (B : rp_t h g) (Z : rs 2 h g) (w0_z : rg_v g 164 45 = 0) (ka : (rg_v h 44 10) = 2) (kc : (rg_v g 164 8) = 1) (kb : (rg_v h 44 11) = 15) (kd : (rg_v g 164 9) = 18) (hc_z : rn n am_m44 0 (lv_args 0 [.ref 44]) [] h r h') (hm_z : rn n' am_m178 0 (lv_args 0 [.ref 164]) [] g r' g') : rj_Q T S x p 2 h g h' g' r r' := by
  have z0_z : (0 : Int32).toInt = 0 := by decide
  have g0_z : am_get (lv_args 0 [.ref 44]) 0 = some (.ref 44) := rfl
  have g0m : am_get (lv_args 0 [.ref 164]) 0 = some (.ref 164) := rfl
  have Rk := R
  have Zk := Z
  obtain ⟨⟨c1_z, c2_z, c3_z, c4_z, c5_z, c6_z, c7_z, c8_z⟩, ⟨m2_z, m3_z, m4_z, m5_z, m6_z, m7_z, m8_z⟩, R3, R4, R5, R6, R7, R8, R9, R10⟩ := (R : rq T S x p 2 h g)
  obtain ⟨np, op, z1_z, z2_z, z3_z, z4_z, z5_z, z6_z, z7_z, z8_z, z9_z, z10_z⟩ := (Z : rs 2 h g)
  obtain ⟨nk1_z, nk2_z, nk3_z⟩ := A.2.2.2.2.2.1
  replace nk1_z : rg_v h 11 0 = rg_v g 164 44 := nk1_z
  replace nk2_z : 0 ≤ (rg_v h 11 0).toInt := nk2_z
  replace nk3_z : (rg_v h 11 0).toInt ≤ 64 := nk3_z
  replace z8_z : np.toInt ≤ (rg_v h 11 0).toInt + op.toInt := z8_z
  obtain ⟨kn, ekn⟩ : ∃ v, rg_v h 11 0 = v := ⟨_, rfl⟩
  rw [ekn] at nk1_z nk2_z nk3_z z8_z
  have e9_z := rt_c1 (x := kn) (by omega) (by omega)
  replace hc_z := rn_aload_n (am_cur_of (i := (0, 1, .aload_n 0, (0, 0, 0), 0)) (by decide +kernel)) g0_z hc_z
  replace hc_z := rn_bipush (w := 41) (am_cur_of (i := (1, 2, .bipush 41, (0, 0, 0), 0)) (by decide +kernel)) (by decide) hc_z
  replace hc_z := rn_callV (M' := am_m45) (o := 44) (ar := [.int 41]) (rest := []) (L := lv_args 0 [.ref 44, .int 41]) (am_cur_of (i := (3, 3, .invokevirtual 105, (45, 834, 3), 0)) (by decide +kernel)) rfl rfl rfl rfl hc_z
  obtain ⟨r4424_z, h4425_z, q4426_z, hc_z⟩ := hc_z
  obtain ⟨rfl, yq4426_z⟩ := rp_mkN (fun q => absurd (Eq.trans (Eq.symm ka) q.1) (by decide)) q4426_z
  subst yq4426_z
  replace hc_z : rn _ _ _ _ [.int 0] _ _ _ := hc_z
  replace hc_z := rn_ifT (am_cur_of (i := (6, 3, .ifCond .eq 45, (28, 0, 0), 0)) (by decide +kernel)) (by decide) hc_z
  replace hc_z := rn_aload_n (am_cur_of (i := (51, 1, .aload_n 0, (0, 0, 0), 0)) (by decide +kernel)) g0_z hc_z
  replace hc_z := rn_getI (v := 2) (am_cur_of (i := (52, 3, .getfield 60, (4, 10, 419), 0)) (by decide +kernel)) (by decide +kernel) ka hc_z
  replace hc_z := rn_bipush (w := 6) (am_cur_of (i := (55, 2, .bipush 6, (0, 0, 0), 0)) (by decide +kernel)) (by decide) hc_z
  replace hc_z := rn_cmpT (am_cur_of (i := (57, 3, .if_icmp .ne 11, (36, 0, 0), 0)) (by decide +kernel)) (by decide) hc_z
  replace hc_z := rn_aload_n (am_cur_of (i := (68, 1, .aload_n 0, (0, 0, 0), 0)) (by decide +kernel)) g0_z hc_z
  replace hc_z := rn_getI (v := op) (am_cur_of (i := (69, 3, .getfield 254, (4, 14, 423), 0)) (by decide +kernel)) (by decide +kernel) z4_z hc_z
  replace hc_z := rn_if (am_cur_of (i := (72, 3, .ifCond .le 8, (42, 0, 0), 0)) (by decide +kernel)) hc_z
  rcases hc_z with ⟨b4427_z, hc_z⟩ | ⟨b4427_z, hc_z⟩
  · replace b4427_z : op.toInt ≤ (0 : Int32).toInt := b4427_z
    replace hc_z := rn_iconst (w := 3) (am_cur_of (i := (80, 1, .iconst 3, (0, 0, 0), 0)) (by decide +kernel)) (by decide) hc_z
    replace hc_z := rn_iret (am_cur_of (i := (81, 1, .ireturn, (0, 0, 0), 0)) (by decide +kernel)) hc_z
    obtain ⟨e4428_z, e4429_z⟩ := hc_z
    replace hm_z := rn_aload_n (am_cur_of (i := (0, 1, .aload_n 0, (0, 0, 0), 0)) (by decide +kernel)) g0m hm_z
    replace hm_z := rn_bipush (w := 41) (am_cur_of (i := (1, 2, .bipush 41, (0, 0, 0), 0)) (by decide +kernel)) (by decide) hm_z
    replace hm_z := rn_callV (M' := am_m171) (o := 164) (ar := [.int 41]) (rest := []) (L := lv_args 0 [.ref 164, .int 41]) (am_cur_of (i := (3, 3, .invokevirtual 194, (171, 1715, 3), 0)) (by decide +kernel)) rfl rfl rfl rfl hm_z
    obtain ⟨r4430_z, h4431_z, q4432_z, hm_z⟩ := hm_z
    obtain ⟨rfl, yq4432_z⟩ := rp_sgN (fun q => absurd (Eq.trans (Eq.symm kc) q.1) (by decide)) q4432_z
    subst yq4432_z
    replace hm_z : rn _ _ _ _ [.int 0] _ _ _ := hm_z
    replace hm_z := rn_ifT (am_cur_of (i := (6, 3, .ifCond .eq 41, (26, 0, 0), 0)) (by decide +kernel)) (by decide) hm_z
    replace hm_z := rn_aload_n (am_cur_of (i := (47, 1, .aload_n 0, (0, 0, 0), 0)) (by decide +kernel)) g0m hm_z
    replace hm_z := rn_bipush (w := 12) (am_cur_of (i := (48, 2, .bipush 12, (0, 0, 0), 0)) (by decide +kernel)) (by decide) hm_z
    replace hm_z := rn_callV (M' := am_m174) (o := 164) (ar := [.int 12]) (rest := []) (L := lv_args 0 [.ref 164, .int 12]) (am_cur_of (i := (50, 3, .invokevirtual 306, (174, 1727, 3), 0)) (by decide +kernel)) rfl rfl rfl rfl hm_z
    obtain ⟨r4433_z, h4434_z, q4435_z, hm_z⟩ := hm_z
    obtain ⟨rfl, yq4435_z⟩ := rp_kyN (fun q => absurd (Eq.trans (Eq.symm kd) q.2) (by decide)) q4435_z
    subst yq4435_z
    replace hm_z : rn _ _ _ _ [.int 0] _ _ _ := hm_z
    replace hm_z := rn_ifT (am_cur_of (i := (53, 3, .ifCond .eq 7, (32, 0, 0), 0)) (by decide +kernel)) (by decide) hm_z
    replace hm_z := rn_aload_n (am_cur_of (i := (60, 1, .aload_n 0, (0, 0, 0), 0)) (by decide +kernel)) g0m hm_z
    replace hm_z := rn_bipush (w := 13) (am_cur_of (i := (61, 2, .bipush 13, (0, 0, 0), 0)) (by decide +kernel)) (by decide) hm_z
    replace hm_z := rn_callV (M' := am_m174) (o := 164) (ar := [.int 13]) (rest := []) (L := lv_args 0 [.ref 164, .int 13]) (am_cur_of (i := (63, 3, .invokevirtual 306, (174, 1727, 3), 0)) (by decide +kernel)) rfl rfl rfl rfl hm_z
    obtain ⟨r4436_z, h4437_z, q4438_z, hm_z⟩ := hm_z
    obtain ⟨rfl, yq4438_z⟩ := rp_kyN (fun q => absurd (Eq.trans (Eq.symm kd) q.2) (by decide)) q4438_z
    subst yq4438_z
    replace hm_z : rn _ _ _ _ [.int 0] _ _ _ := hm_z
    replace hm_z := rn_ifT (am_cur_of (i := (66, 3, .ifCond .eq 7, (38, 0, 0), 0)) (by decide +kernel)) (by decide) hm_z
    replace hm_z := rn_aload_n (am_cur_of (i := (73, 1, .aload_n 0, (0, 0, 0), 0)) (by decide +kernel)) g0m hm_z
    replace hm_z := rn_getI (v := 1) (am_cur_of (i := (74, 3, .getfield 157, (12, 8, 1392), 0)) (by decide +kernel)) (by decide +kernel) kc hm_z
    replace hm_z := rn_iconst (w := 5) (am_cur_of (i := (77, 1, .iconst 5, (0, 0, 0), 0)) (by decide +kernel)) (by decide) hm_z
    replace hm_z := rn_cmpT (am_cur_of (i := (78, 3, .if_icmp .ne 12, (47, 0, 0), 0)) (by decide +kernel)) (by decide) hm_z
    replace hm_z := rn_aload_n (am_cur_of (i := (90, 1, .aload_n 0, (0, 0, 0), 0)) (by decide +kernel)) g0m hm_z
    replace hm_z := rn_bipush (w := 43) (am_cur_of (i := (91, 2, .bipush 43, (0, 0, 0), 0)) (by decide +kernel)) (by decide) hm_z
    replace hm_z := rn_callV (M' := am_m171) (o := 164) (ar := [.int 43]) (rest := []) (L := lv_args 0 [.ref 164, .int 43]) (am_cur_of (i := (93, 3, .invokevirtual 194, (171, 1715, 3), 0)) (by decide +kernel)) rfl rfl rfl rfl hm_z
    obtain ⟨r4439_z, h4440_z, q4441_z, hm_z⟩ := hm_z
    obtain ⟨rfl, yq4441_z⟩ := rp_sgN (fun q => absurd (Eq.trans (Eq.symm kc) q.1) (by decide)) q4441_z
    subst yq4441_z
    replace hm_z : rn _ _ _ _ [.int 0] _ _ _ := hm_z
    replace hm_z := rn_ifT (am_cur_of (i := (96, 3, .ifCond .eq 8, (53, 0, 0), 0)) (by decide +kernel)) (by decide) hm_z
    replace hm_z := rn_aload_n (am_cur_of (i := (104, 1, .aload_n 0, (0, 0, 0), 0)) (by decide +kernel)) g0m hm_z
    replace hm_z := rn_bipush (w := 45) (am_cur_of (i := (105, 2, .bipush 45, (0, 0, 0), 0)) (by decide +kernel)) (by decide) hm_z
    replace hm_z := rn_callV (M' := am_m171) (o := 164) (ar := [.int 45]) (rest := []) (L := lv_args 0 [.ref 164, .int 45]) (am_cur_of (i := (107, 3, .invokevirtual 194, (171, 1715, 3), 0)) (by decide +kernel)) rfl rfl rfl rfl hm_z
    obtain ⟨r4442_z, h4443_z, q4444_z, hm_z⟩ := hm_z
    obtain ⟨rfl, yq4444_z⟩ := rp_sgN (fun q => absurd (Eq.trans (Eq.symm kc) q.1) (by decide)) q4444_z
    subst yq4444_z
    replace hm_z : rn _ _ _ _ [.int 0] _ _ _ := hm_z
    replace hm_z := rn_ifT (am_cur_of (i := (110, 3, .ifCond .eq 8, (59, 0, 0), 0)) (by decide +kernel)) (by decide) hm_z
    replace hm_z := rn_aload_n (am_cur_of (i := (118, 1, .aload_n 0, (0, 0, 0), 0)) (by decide +kernel)) g0m hm_z
    replace hm_z := rn_bipush (w := 42) (am_cur_of (i := (119, 2, .bipush 42, (0, 0, 0), 0)) (by decide +kernel)) (by decide) hm_z
    replace hm_z := rn_callV (M' := am_m171) (o := 164) (ar := [.int 42]) (rest := []) (L := lv_args 0 [.ref 164, .int 42]) (am_cur_of (i := (121, 3, .invokevirtual 194, (171, 1715, 3), 0)) (by decide +kernel)) rfl rfl rfl rfl hm_z
    obtain ⟨r4445_z, h4446_z, q4447_z, hm_z⟩ := hm_z
    obtain ⟨rfl, yq4447_z⟩ := rp_sgN (fun q => absurd (Eq.trans (Eq.symm kc) q.1) (by decide)) q4447_z
    subst yq4447_z
    replace hm_z : rn _ _ _ _ [.int 0] _ _ _ := hm_z
    replace hm_z := rn_ifT (am_cur_of (i := (124, 3, .ifCond .eq 8, (65, 0, 0), 0)) (by decide +kernel)) (by decide) hm_z
    replace hm_z := rn_aload_n (am_cur_of (i := (132, 1, .aload_n 0, (0, 0, 0), 0)) (by decide +kernel)) g0m hm_z
    replace hm_z := rn_bipush (w := 47) (am_cur_of (i := (133, 2, .bipush 47, (0, 0, 0), 0)) (by decide +kernel)) (by decide) hm_z
    replace hm_z := rn_callV (M' := am_m171) (o := 164) (ar := [.int 47]) (rest := []) (L := lv_args 0 [.ref 164, .int 47]) (am_cur_of (i := (135, 3, .invokevirtual 194, (171, 1715, 3), 0)) (by decide +kernel)) rfl rfl rfl rfl hm_z
    obtain ⟨r4448_z, h4449_z, q4450_z, hm_z⟩ := hm_z
    obtain ⟨rfl, yq4450_z⟩ := rp_sgN (fun q => absurd (Eq.trans (Eq.symm kc) q.1) (by decide)) q4450_z
    subst yq4450_z
    replace hm_z : rn _ _ _ _ [.int 0] _ _ _ := hm_z
    replace hm_z := rn_ifT (am_cur_of (i := (138, 3, .ifCond .eq 8, (71, 0, 0), 0)) (by decide +kernel)) (by decide) hm_z
    replace hm_z := rn_iconst (w := 0) (am_cur_of (i := (146, 1, .iconst 0, (0, 0, 0), 0)) (by decide +kernel)) (by decide) hm_z
    replace hm_z := rn_istore_n (am_cur_of (i := (147, 1, .istore_n 1, (0, 0, 0), 0)) (by decide +kernel)) hm_z
    obtain ⟨_, s4451_z, s4452_z, g1m, hm_z⟩ := hm_z
    replace g0m := s4451_z 0 _ (by decide) rfl g0m
    clear s4451_z s4452_z
    replace hm_z := rn_iload_n (am_cur_of (i := (148, 1, .iload_n 1, (0, 0, 0), 0)) (by decide +kernel)) g1m hm_z
    replace hm_z := rn_ifF (am_cur_of (i := (149, 3, .ifCond .ne 9, (79, 0, 0), 0)) (by decide +kernel)) (by decide) hm_z
    replace hm_z := rn_aload_n (am_cur_of (i := (152, 1, .aload_n 0, (0, 0, 0), 0)) (by decide +kernel)) g0m hm_z
    replace hm_z := rn_iconst (w := 1) (am_cur_of (i := (153, 1, .iconst 1, (0, 0, 0), 0)) (by decide +kernel)) (by decide) hm_z
    replace hm_z := rn_callV (M' := am_m158) (o := 164) (ar := [.int 1]) (rest := []) (L := lv_args 0 [.ref 164, .int 1]) (am_cur_of (i := (154, 3, .invokevirtual 181, (158, 1665, 3), 0)) (by decide +kernel)) rfl rfl rfl rfl hm_z
    obtain ⟨r4453_z, h4454_z, q4455_z, hm_z⟩ := hm_z
    obtain ⟨rfl, yq4455_z⟩ := rp_wrong q4455_z
    subst yq4455_z
    replace hm_z : rn _ _ _ _ [.int 0] _ _ _ := hm_z
    replace hm_z := rn_iret (am_cur_of (i := (157, 1, .ireturn, (0, 0, 0), 0)) (by decide +kernel)) hm_z
    obtain ⟨e4456_z, e4457_z⟩ := hm_z
    subst e4429_z e4457_z
    exact Or.inr ⟨e4428_z, rfl, z4_z.trans (rt_i32 (by rw [show (0 : Int32).toInt = 0 by decide]; omega)), e4456_z, rfl⟩
  · replace b4427_z : (0 : Int32).toInt < op.toInt := b4427_z
    replace hc_z := rn_aload_n (am_cur_of (i := (75, 1, .aload_n 0, (0, 0, 0), 0)) (by decide +kernel)) g0_z hc_z
    replace hc_z := rn_iconst (w := 1) (am_cur_of (i := (76, 1, .iconst 1, (0, 0, 0), 0)) (by decide +kernel)) (by decide) hc_z
    replace hc_z := rn_callV (M' := am_m29) (o := 44) (ar := [.int 1]) (rest := []) (L := lv_args 0 [.ref 44, .int 1]) (am_cur_of (i := (77, 3, .invokevirtual 108, (29, 769, 3), 0)) (by decide +kernel)) rfl rfl rfl rfl hc_z
    obtain ⟨r4458_z, h4459_z, q4460_z, hc_z⟩ := hc_z
    obtain ⟨rfl, yq4460_z⟩ := rp_fail R4 q4460_z
    subst yq4460_z
    replace hc_z : rn _ _ _ _ [] _ _ _ := hc_z
    have K := rs_stick (w := 1) (q := p) (a := 44) (by decide) (by decide) rfl (by decide) rfl (show rg_v (am_up (am_up h 44 1 (.int 1)) 44 2 (.int (rg_v h 44 9))) 44 2 = p from R5) hc_z
    replace hm_z := rn_aload_n (am_cur_of (i := (0, 1, .aload_n 0, (0, 0, 0), 0)) (by decide +kernel)) g0m hm_z
    replace hm_z := rn_bipush (w := 41) (am_cur_of (i := (1, 2, .bipush 41, (0, 0, 0), 0)) (by decide +kernel)) (by decide) hm_z
    replace hm_z := rn_callV (M' := am_m171) (o := 164) (ar := [.int 41]) (rest := []) (L := lv_args 0 [.ref 164, .int 41]) (am_cur_of (i := (3, 3, .invokevirtual 194, (171, 1715, 3), 0)) (by decide +kernel)) rfl rfl rfl rfl hm_z
    obtain ⟨r4461_z, h4462_z, q4463_z, hm_z⟩ := hm_z
    obtain ⟨rfl, yq4463_z⟩ := rp_sgN (fun q => absurd (Eq.trans (Eq.symm kc) q.1) (by decide)) q4463_z
    subst yq4463_z
    replace hm_z : rn _ _ _ _ [.int 0] _ _ _ := hm_z
    replace hm_z := rn_ifT (am_cur_of (i := (6, 3, .ifCond .eq 41, (26, 0, 0), 0)) (by decide +kernel)) (by decide) hm_z
    replace hm_z := rn_aload_n (am_cur_of (i := (47, 1, .aload_n 0, (0, 0, 0), 0)) (by decide +kernel)) g0m hm_z
    replace hm_z := rn_bipush (w := 12) (am_cur_of (i := (48, 2, .bipush 12, (0, 0, 0), 0)) (by decide +kernel)) (by decide) hm_z
    replace hm_z := rn_callV (M' := am_m174) (o := 164) (ar := [.int 12]) (rest := []) (L := lv_args 0 [.ref 164, .int 12]) (am_cur_of (i := (50, 3, .invokevirtual 306, (174, 1727, 3), 0)) (by decide +kernel)) rfl rfl rfl rfl hm_z
    obtain ⟨r4464_z, h4465_z, q4466_z, hm_z⟩ := hm_z
    obtain ⟨rfl, yq4466_z⟩ := rp_kyN (fun q => absurd (Eq.trans (Eq.symm kd) q.2) (by decide)) q4466_z
    subst yq4466_z
    replace hm_z : rn _ _ _ _ [.int 0] _ _ _ := hm_z
    replace hm_z := rn_ifT (am_cur_of (i := (53, 3, .ifCond .eq 7, (32, 0, 0), 0)) (by decide +kernel)) (by decide) hm_z
    replace hm_z := rn_aload_n (am_cur_of (i := (60, 1, .aload_n 0, (0, 0, 0), 0)) (by decide +kernel)) g0m hm_z
    replace hm_z := rn_bipush (w := 13) (am_cur_of (i := (61, 2, .bipush 13, (0, 0, 0), 0)) (by decide +kernel)) (by decide) hm_z
    replace hm_z := rn_callV (M' := am_m174) (o := 164) (ar := [.int 13]) (rest := []) (L := lv_args 0 [.ref 164, .int 13]) (am_cur_of (i := (63, 3, .invokevirtual 306, (174, 1727, 3), 0)) (by decide +kernel)) rfl rfl rfl rfl hm_z
    obtain ⟨r4467_z, h4468_z, q4469_z, hm_z⟩ := hm_z
    obtain ⟨rfl, yq4469_z⟩ := rp_kyN (fun q => absurd (Eq.trans (Eq.symm kd) q.2) (by decide)) q4469_z
    subst yq4469_z
    replace hm_z : rn _ _ _ _ [.int 0] _ _ _ := hm_z
    replace hm_z := rn_ifT (am_cur_of (i := (66, 3, .ifCond .eq 7, (38, 0, 0), 0)) (by decide +kernel)) (by decide) hm_z
    replace hm_z := rn_aload_n (am_cur_of (i := (73, 1, .aload_n 0, (0, 0, 0), 0)) (by decide +kernel)) g0m hm_z
    replace hm_z := rn_getI (v := 1) (am_cur_of (i := (74, 3, .getfield 157, (12, 8, 1392), 0)) (by decide +kernel)) (by decide +kernel) kc hm_z
    replace hm_z := rn_iconst (w := 5) (am_cur_of (i := (77, 1, .iconst 5, (0, 0, 0), 0)) (by decide +kernel)) (by decide) hm_z
    replace hm_z := rn_cmpT (am_cur_of (i := (78, 3, .if_icmp .ne 12, (47, 0, 0), 0)) (by decide +kernel)) (by decide) hm_z
    replace hm_z := rn_aload_n (am_cur_of (i := (90, 1, .aload_n 0, (0, 0, 0), 0)) (by decide +kernel)) g0m hm_z
    replace hm_z := rn_bipush (w := 43) (am_cur_of (i := (91, 2, .bipush 43, (0, 0, 0), 0)) (by decide +kernel)) (by decide) hm_z
    replace hm_z := rn_callV (M' := am_m171) (o := 164) (ar := [.int 43]) (rest := []) (L := lv_args 0 [.ref 164, .int 43]) (am_cur_of (i := (93, 3, .invokevirtual 194, (171, 1715, 3), 0)) (by decide +kernel)) rfl rfl rfl rfl hm_z
    obtain ⟨r4470_z, h4471_z, q4472_z, hm_z⟩ := hm_z
    obtain ⟨rfl, yq4472_z⟩ := rp_sgN (fun q => absurd (Eq.trans (Eq.symm kc) q.1) (by decide)) q4472_z
    subst yq4472_z
    replace hm_z : rn _ _ _ _ [.int 0] _ _ _ := hm_z
    replace hm_z := rn_ifT (am_cur_of (i := (96, 3, .ifCond .eq 8, (53, 0, 0), 0)) (by decide +kernel)) (by decide) hm_z
    replace hm_z := rn_aload_n (am_cur_of (i := (104, 1, .aload_n 0, (0, 0, 0), 0)) (by decide +kernel)) g0m hm_z
    replace hm_z := rn_bipush (w := 45) (am_cur_of (i := (105, 2, .bipush 45, (0, 0, 0), 0)) (by decide +kernel)) (by decide) hm_z
    replace hm_z := rn_callV (M' := am_m171) (o := 164) (ar := [.int 45]) (rest := []) (L := lv_args 0 [.ref 164, .int 45]) (am_cur_of (i := (107, 3, .invokevirtual 194, (171, 1715, 3), 0)) (by decide +kernel)) rfl rfl rfl rfl hm_z
    obtain ⟨r4473_z, h4474_z, q4475_z, hm_z⟩ := hm_z
    obtain ⟨rfl, yq4475_z⟩ := rp_sgN (fun q => absurd (Eq.trans (Eq.symm kc) q.1) (by decide)) q4475_z
    subst yq4475_z
    replace hm_z : rn _ _ _ _ [.int 0] _ _ _ := hm_z
    replace hm_z := rn_ifT (am_cur_of (i := (110, 3, .ifCond .eq 8, (59, 0, 0), 0)) (by decide +kernel)) (by decide) hm_z
    replace hm_z := rn_aload_n (am_cur_of (i := (118, 1, .aload_n 0, (0, 0, 0), 0)) (by decide +kernel)) g0m hm_z
    replace hm_z := rn_bipush (w := 42) (am_cur_of (i := (119, 2, .bipush 42, (0, 0, 0), 0)) (by decide +kernel)) (by decide) hm_z
    replace hm_z := rn_callV (M' := am_m171) (o := 164) (ar := [.int 42]) (rest := []) (L := lv_args 0 [.ref 164, .int 42]) (am_cur_of (i := (121, 3, .invokevirtual 194, (171, 1715, 3), 0)) (by decide +kernel)) rfl rfl rfl rfl hm_z
    obtain ⟨r4476_z, h4477_z, q4478_z, hm_z⟩ := hm_z
    obtain ⟨rfl, yq4478_z⟩ := rp_sgN (fun q => absurd (Eq.trans (Eq.symm kc) q.1) (by decide)) q4478_z
    subst yq4478_z
    replace hm_z : rn _ _ _ _ [.int 0] _ _ _ := hm_z
    replace hm_z := rn_ifT (am_cur_of (i := (124, 3, .ifCond .eq 8, (65, 0, 0), 0)) (by decide +kernel)) (by decide) hm_z
    replace hm_z := rn_aload_n (am_cur_of (i := (132, 1, .aload_n 0, (0, 0, 0), 0)) (by decide +kernel)) g0m hm_z
    replace hm_z := rn_bipush (w := 47) (am_cur_of (i := (133, 2, .bipush 47, (0, 0, 0), 0)) (by decide +kernel)) (by decide) hm_z
    replace hm_z := rn_callV (M' := am_m171) (o := 164) (ar := [.int 47]) (rest := []) (L := lv_args 0 [.ref 164, .int 47]) (am_cur_of (i := (135, 3, .invokevirtual 194, (171, 1715, 3), 0)) (by decide +kernel)) rfl rfl rfl rfl hm_z
    obtain ⟨r4479_z, h4480_z, q4481_z, hm_z⟩ := hm_z
    obtain ⟨rfl, yq4481_z⟩ := rp_sgN (fun q => absurd (Eq.trans (Eq.symm kc) q.1) (by decide)) q4481_z
    subst yq4481_z
    replace hm_z : rn _ _ _ _ [.int 0] _ _ _ := hm_z
    replace hm_z := rn_ifT (am_cur_of (i := (138, 3, .ifCond .eq 8, (71, 0, 0), 0)) (by decide +kernel)) (by decide) hm_z
    replace hm_z := rn_iconst (w := 0) (am_cur_of (i := (146, 1, .iconst 0, (0, 0, 0), 0)) (by decide +kernel)) (by decide) hm_z
    replace hm_z := rn_istore_n (am_cur_of (i := (147, 1, .istore_n 1, (0, 0, 0), 0)) (by decide +kernel)) hm_z
    obtain ⟨_, s4482_z, s4483_z, g1m, hm_z⟩ := hm_z
    replace g0m := s4482_z 0 _ (by decide) rfl g0m
    clear s4482_z s4483_z
    replace hm_z := rn_iload_n (am_cur_of (i := (148, 1, .iload_n 1, (0, 0, 0), 0)) (by decide +kernel)) g1m hm_z
    replace hm_z := rn_ifF (am_cur_of (i := (149, 3, .ifCond .ne 9, (79, 0, 0), 0)) (by decide +kernel)) (by decide) hm_z
    replace hm_z := rn_aload_n (am_cur_of (i := (152, 1, .aload_n 0, (0, 0, 0), 0)) (by decide +kernel)) g0m hm_z
    replace hm_z := rn_iconst (w := 1) (am_cur_of (i := (153, 1, .iconst 1, (0, 0, 0), 0)) (by decide +kernel)) (by decide) hm_z
    replace hm_z := rn_callV (M' := am_m158) (o := 164) (ar := [.int 1]) (rest := []) (L := lv_args 0 [.ref 164, .int 1]) (am_cur_of (i := (154, 3, .invokevirtual 181, (158, 1665, 3), 0)) (by decide +kernel)) rfl rfl rfl rfl hm_z
    obtain ⟨r4484_z, h4485_z, q4486_z, hm_z⟩ := hm_z
    obtain ⟨rfl, yq4486_z⟩ := rp_wrong q4486_z
    subst yq4486_z
    replace hm_z : rn _ _ _ _ [.int 0] _ _ _ := hm_z
    replace hm_z := rn_iret (am_cur_of (i := (157, 1, .ireturn, (0, 0, 0), 0)) (by decide +kernel)) hm_z
    obtain ⟨e4487_z, e4488_z⟩ := hm_z
    subst e4487_z e4488_z
    exact Or.inl (Or.inr ⟨rfl, 1, by decide, K.1, K.2, rfl, R6⟩)
theorem rj_c9_2 {T : Nat → Int32} {S x p : Int32} {n n' : Nat} {h h' g g' : am_H} {r r' : Option Value} (R : rq T S x p 2 h g) (A : rp 2 h g) (B : rp_t h g) (Z : rs 2 h g) (w0_z : rg_v g 164 45 = 0) (ka : (rg_v h 44 10) = 2) (kc : (rg_v g 164 8) = 1) (kb : (rg_v h 44 11) = 16) (kd : (rg_v g 164 9) = 19) (hc_z : rn n am_m44 0 (lv_args 0 [.ref 44]) [] h r h') (hm_z : rn n' am_m178 0 (lv_args 0 [.ref 164]) [] g r' g') : rj_Q T S x p 2 h g h' g' r r' := by
  have z0_z : (0 : Int32).toInt = 0 := by decide
  have g0_z : am_get (lv_args 0 [.ref 44]) 0 = some (.ref 44) := rfl
  have g0m : am_get (lv_args 0 [.ref 164]) 0 = some (.ref 164) := rfl
  have Rk := R
  have Zk := Z
  obtain ⟨⟨c1_z, c2_z, c3_z, c4_z, c5_z, c6_z, c7_z, c8_z⟩, ⟨m2_z, m3_z, m4_z, m5_z, m6_z, m7_z, m8_z⟩, R3, R4, R5, R6, R7, R8, R9, R10⟩ := (R : rq T S x p 2 h g)
  obtain ⟨np, op, z1_z, z2_z, z3_z, z4_z, z5_z, z6_z, z7_z, z8_z, z9_z, z10_z⟩ := (Z : rs 2 h g)
  obtain ⟨nk1_z, nk2_z, nk3_z⟩ := A.2.2.2.2.2.1
  replace nk1_z : rg_v h 11 0 = rg_v g 164 44 := nk1_z
  replace nk2_z : 0 ≤ (rg_v h 11 0).toInt := nk2_z
  replace nk3_z : (rg_v h 11 0).toInt ≤ 64 := nk3_z
  replace z8_z : np.toInt ≤ (rg_v h 11 0).toInt + op.toInt := z8_z
  obtain ⟨kn, ekn⟩ : ∃ v, rg_v h 11 0 = v := ⟨_, rfl⟩
  rw [ekn] at nk1_z nk2_z nk3_z z8_z
  have e9_z := rt_c1 (x := kn) (by omega) (by omega)
  replace hc_z := rn_aload_n (am_cur_of (i := (0, 1, .aload_n 0, (0, 0, 0), 0)) (by decide +kernel)) g0_z hc_z
  replace hc_z := rn_bipush (w := 41) (am_cur_of (i := (1, 2, .bipush 41, (0, 0, 0), 0)) (by decide +kernel)) (by decide) hc_z
  replace hc_z := rn_callV (M' := am_m45) (o := 44) (ar := [.int 41]) (rest := []) (L := lv_args 0 [.ref 44, .int 41]) (am_cur_of (i := (3, 3, .invokevirtual 105, (45, 834, 3), 0)) (by decide +kernel)) rfl rfl rfl rfl hc_z
  obtain ⟨r4489_z, h4490_z, q4491_z, hc_z⟩ := hc_z
  obtain ⟨rfl, yq4491_z⟩ := rp_mkN (fun q => absurd (Eq.trans (Eq.symm ka) q.1) (by decide)) q4491_z
  subst yq4491_z
  replace hc_z : rn _ _ _ _ [.int 0] _ _ _ := hc_z
  replace hc_z := rn_ifT (am_cur_of (i := (6, 3, .ifCond .eq 45, (28, 0, 0), 0)) (by decide +kernel)) (by decide) hc_z
  replace hc_z := rn_aload_n (am_cur_of (i := (51, 1, .aload_n 0, (0, 0, 0), 0)) (by decide +kernel)) g0_z hc_z
  replace hc_z := rn_getI (v := 2) (am_cur_of (i := (52, 3, .getfield 60, (4, 10, 419), 0)) (by decide +kernel)) (by decide +kernel) ka hc_z
  replace hc_z := rn_bipush (w := 6) (am_cur_of (i := (55, 2, .bipush 6, (0, 0, 0), 0)) (by decide +kernel)) (by decide) hc_z
  replace hc_z := rn_cmpT (am_cur_of (i := (57, 3, .if_icmp .ne 11, (36, 0, 0), 0)) (by decide +kernel)) (by decide) hc_z
  replace hc_z := rn_aload_n (am_cur_of (i := (68, 1, .aload_n 0, (0, 0, 0), 0)) (by decide +kernel)) g0_z hc_z
  replace hc_z := rn_getI (v := op) (am_cur_of (i := (69, 3, .getfield 254, (4, 14, 423), 0)) (by decide +kernel)) (by decide +kernel) z4_z hc_z
  replace hc_z := rn_if (am_cur_of (i := (72, 3, .ifCond .le 8, (42, 0, 0), 0)) (by decide +kernel)) hc_z
  rcases hc_z with ⟨b4492_z, hc_z⟩ | ⟨b4492_z, hc_z⟩
  · replace b4492_z : op.toInt ≤ (0 : Int32).toInt := b4492_z
    replace hc_z := rn_iconst (w := 3) (am_cur_of (i := (80, 1, .iconst 3, (0, 0, 0), 0)) (by decide +kernel)) (by decide) hc_z
    replace hc_z := rn_iret (am_cur_of (i := (81, 1, .ireturn, (0, 0, 0), 0)) (by decide +kernel)) hc_z
    obtain ⟨e4493_z, e4494_z⟩ := hc_z
    replace hm_z := rn_aload_n (am_cur_of (i := (0, 1, .aload_n 0, (0, 0, 0), 0)) (by decide +kernel)) g0m hm_z
    replace hm_z := rn_bipush (w := 41) (am_cur_of (i := (1, 2, .bipush 41, (0, 0, 0), 0)) (by decide +kernel)) (by decide) hm_z
    replace hm_z := rn_callV (M' := am_m171) (o := 164) (ar := [.int 41]) (rest := []) (L := lv_args 0 [.ref 164, .int 41]) (am_cur_of (i := (3, 3, .invokevirtual 194, (171, 1715, 3), 0)) (by decide +kernel)) rfl rfl rfl rfl hm_z
    obtain ⟨r4495_z, h4496_z, q4497_z, hm_z⟩ := hm_z
    obtain ⟨rfl, yq4497_z⟩ := rp_sgN (fun q => absurd (Eq.trans (Eq.symm kc) q.1) (by decide)) q4497_z
    subst yq4497_z
    replace hm_z : rn _ _ _ _ [.int 0] _ _ _ := hm_z
    replace hm_z := rn_ifT (am_cur_of (i := (6, 3, .ifCond .eq 41, (26, 0, 0), 0)) (by decide +kernel)) (by decide) hm_z
    replace hm_z := rn_aload_n (am_cur_of (i := (47, 1, .aload_n 0, (0, 0, 0), 0)) (by decide +kernel)) g0m hm_z
    replace hm_z := rn_bipush (w := 12) (am_cur_of (i := (48, 2, .bipush 12, (0, 0, 0), 0)) (by decide +kernel)) (by decide) hm_z
    replace hm_z := rn_callV (M' := am_m174) (o := 164) (ar := [.int 12]) (rest := []) (L := lv_args 0 [.ref 164, .int 12]) (am_cur_of (i := (50, 3, .invokevirtual 306, (174, 1727, 3), 0)) (by decide +kernel)) rfl rfl rfl rfl hm_z
    obtain ⟨r4498_z, h4499_z, q4500_z, hm_z⟩ := hm_z
    obtain ⟨rfl, yq4500_z⟩ := rp_kyN (fun q => absurd (Eq.trans (Eq.symm kd) q.2) (by decide)) q4500_z
    subst yq4500_z
    replace hm_z : rn _ _ _ _ [.int 0] _ _ _ := hm_z
    replace hm_z := rn_ifT (am_cur_of (i := (53, 3, .ifCond .eq 7, (32, 0, 0), 0)) (by decide +kernel)) (by decide) hm_z
    replace hm_z := rn_aload_n (am_cur_of (i := (60, 1, .aload_n 0, (0, 0, 0), 0)) (by decide +kernel)) g0m hm_z
    replace hm_z := rn_bipush (w := 13) (am_cur_of (i := (61, 2, .bipush 13, (0, 0, 0), 0)) (by decide +kernel)) (by decide) hm_z
    replace hm_z := rn_callV (M' := am_m174) (o := 164) (ar := [.int 13]) (rest := []) (L := lv_args 0 [.ref 164, .int 13]) (am_cur_of (i := (63, 3, .invokevirtual 306, (174, 1727, 3), 0)) (by decide +kernel)) rfl rfl rfl rfl hm_z
    obtain ⟨r4501_z, h4502_z, q4503_z, hm_z⟩ := hm_z
    obtain ⟨rfl, yq4503_z⟩ := rp_kyN (fun q => absurd (Eq.trans (Eq.symm kd) q.2) (by decide)) q4503_z
    subst yq4503_z
    replace hm_z : rn _ _ _ _ [.int 0] _ _ _ := hm_z
    replace hm_z := rn_ifT (am_cur_of (i := (66, 3, .ifCond .eq 7, (38, 0, 0), 0)) (by decide +kernel)) (by decide) hm_z
    replace hm_z := rn_aload_n (am_cur_of (i := (73, 1, .aload_n 0, (0, 0, 0), 0)) (by decide +kernel)) g0m hm_z
    replace hm_z := rn_getI (v := 1) (am_cur_of (i := (74, 3, .getfield 157, (12, 8, 1392), 0)) (by decide +kernel)) (by decide +kernel) kc hm_z
    replace hm_z := rn_iconst (w := 5) (am_cur_of (i := (77, 1, .iconst 5, (0, 0, 0), 0)) (by decide +kernel)) (by decide) hm_z
    replace hm_z := rn_cmpT (am_cur_of (i := (78, 3, .if_icmp .ne 12, (47, 0, 0), 0)) (by decide +kernel)) (by decide) hm_z
    replace hm_z := rn_aload_n (am_cur_of (i := (90, 1, .aload_n 0, (0, 0, 0), 0)) (by decide +kernel)) g0m hm_z
    replace hm_z := rn_bipush (w := 43) (am_cur_of (i := (91, 2, .bipush 43, (0, 0, 0), 0)) (by decide +kernel)) (by decide) hm_z
    replace hm_z := rn_callV (M' := am_m171) (o := 164) (ar := [.int 43]) (rest := []) (L := lv_args 0 [.ref 164, .int 43]) (am_cur_of (i := (93, 3, .invokevirtual 194, (171, 1715, 3), 0)) (by decide +kernel)) rfl rfl rfl rfl hm_z
    obtain ⟨r4504_z, h4505_z, q4506_z, hm_z⟩ := hm_z
    obtain ⟨rfl, yq4506_z⟩ := rp_sgN (fun q => absurd (Eq.trans (Eq.symm kc) q.1) (by decide)) q4506_z
    subst yq4506_z
    replace hm_z : rn _ _ _ _ [.int 0] _ _ _ := hm_z
    replace hm_z := rn_ifT (am_cur_of (i := (96, 3, .ifCond .eq 8, (53, 0, 0), 0)) (by decide +kernel)) (by decide) hm_z
    replace hm_z := rn_aload_n (am_cur_of (i := (104, 1, .aload_n 0, (0, 0, 0), 0)) (by decide +kernel)) g0m hm_z
    replace hm_z := rn_bipush (w := 45) (am_cur_of (i := (105, 2, .bipush 45, (0, 0, 0), 0)) (by decide +kernel)) (by decide) hm_z
    replace hm_z := rn_callV (M' := am_m171) (o := 164) (ar := [.int 45]) (rest := []) (L := lv_args 0 [.ref 164, .int 45]) (am_cur_of (i := (107, 3, .invokevirtual 194, (171, 1715, 3), 0)) (by decide +kernel)) rfl rfl rfl rfl hm_z
    obtain ⟨r4507_z, h4508_z, q4509_z, hm_z⟩ := hm_z
    obtain ⟨rfl, yq4509_z⟩ := rp_sgN (fun q => absurd (Eq.trans (Eq.symm kc) q.1) (by decide)) q4509_z
    subst yq4509_z
    replace hm_z : rn _ _ _ _ [.int 0] _ _ _ := hm_z
    replace hm_z := rn_ifT (am_cur_of (i := (110, 3, .ifCond .eq 8, (59, 0, 0), 0)) (by decide +kernel)) (by decide) hm_z
    replace hm_z := rn_aload_n (am_cur_of (i := (118, 1, .aload_n 0, (0, 0, 0), 0)) (by decide +kernel)) g0m hm_z
    replace hm_z := rn_bipush (w := 42) (am_cur_of (i := (119, 2, .bipush 42, (0, 0, 0), 0)) (by decide +kernel)) (by decide) hm_z
    replace hm_z := rn_callV (M' := am_m171) (o := 164) (ar := [.int 42]) (rest := []) (L := lv_args 0 [.ref 164, .int 42]) (am_cur_of (i := (121, 3, .invokevirtual 194, (171, 1715, 3), 0)) (by decide +kernel)) rfl rfl rfl rfl hm_z
    obtain ⟨r4510_z, h4511_z, q4512_z, hm_z⟩ := hm_z
    obtain ⟨rfl, yq4512_z⟩ := rp_sgN (fun q => absurd (Eq.trans (Eq.symm kc) q.1) (by decide)) q4512_z
    subst yq4512_z
    replace hm_z : rn _ _ _ _ [.int 0] _ _ _ := hm_z
    replace hm_z := rn_ifT (am_cur_of (i := (124, 3, .ifCond .eq 8, (65, 0, 0), 0)) (by decide +kernel)) (by decide) hm_z
    replace hm_z := rn_aload_n (am_cur_of (i := (132, 1, .aload_n 0, (0, 0, 0), 0)) (by decide +kernel)) g0m hm_z
    replace hm_z := rn_bipush (w := 47) (am_cur_of (i := (133, 2, .bipush 47, (0, 0, 0), 0)) (by decide +kernel)) (by decide) hm_z
    replace hm_z := rn_callV (M' := am_m171) (o := 164) (ar := [.int 47]) (rest := []) (L := lv_args 0 [.ref 164, .int 47]) (am_cur_of (i := (135, 3, .invokevirtual 194, (171, 1715, 3), 0)) (by decide +kernel)) rfl rfl rfl rfl hm_z
    obtain ⟨r4513_z, h4514_z, q4515_z, hm_z⟩ := hm_z
    obtain ⟨rfl, yq4515_z⟩ := rp_sgN (fun q => absurd (Eq.trans (Eq.symm kc) q.1) (by decide)) q4515_z
    subst yq4515_z
    replace hm_z : rn _ _ _ _ [.int 0] _ _ _ := hm_z
    replace hm_z := rn_ifT (am_cur_of (i := (138, 3, .ifCond .eq 8, (71, 0, 0), 0)) (by decide +kernel)) (by decide) hm_z
    replace hm_z := rn_iconst (w := 0) (am_cur_of (i := (146, 1, .iconst 0, (0, 0, 0), 0)) (by decide +kernel)) (by decide) hm_z
    replace hm_z := rn_istore_n (am_cur_of (i := (147, 1, .istore_n 1, (0, 0, 0), 0)) (by decide +kernel)) hm_z
    obtain ⟨_, s4516_z, s4517_z, g1m, hm_z⟩ := hm_z
    replace g0m := s4516_z 0 _ (by decide) rfl g0m
    clear s4516_z s4517_z
    replace hm_z := rn_iload_n (am_cur_of (i := (148, 1, .iload_n 1, (0, 0, 0), 0)) (by decide +kernel)) g1m hm_z
    replace hm_z := rn_ifF (am_cur_of (i := (149, 3, .ifCond .ne 9, (79, 0, 0), 0)) (by decide +kernel)) (by decide) hm_z
    replace hm_z := rn_aload_n (am_cur_of (i := (152, 1, .aload_n 0, (0, 0, 0), 0)) (by decide +kernel)) g0m hm_z
    replace hm_z := rn_iconst (w := 1) (am_cur_of (i := (153, 1, .iconst 1, (0, 0, 0), 0)) (by decide +kernel)) (by decide) hm_z
    replace hm_z := rn_callV (M' := am_m158) (o := 164) (ar := [.int 1]) (rest := []) (L := lv_args 0 [.ref 164, .int 1]) (am_cur_of (i := (154, 3, .invokevirtual 181, (158, 1665, 3), 0)) (by decide +kernel)) rfl rfl rfl rfl hm_z
    obtain ⟨r4518_z, h4519_z, q4520_z, hm_z⟩ := hm_z
    obtain ⟨rfl, yq4520_z⟩ := rp_wrong q4520_z
    subst yq4520_z
    replace hm_z : rn _ _ _ _ [.int 0] _ _ _ := hm_z
    replace hm_z := rn_iret (am_cur_of (i := (157, 1, .ireturn, (0, 0, 0), 0)) (by decide +kernel)) hm_z
    obtain ⟨e4521_z, e4522_z⟩ := hm_z
    subst e4494_z e4522_z
    exact Or.inr ⟨e4493_z, rfl, z4_z.trans (rt_i32 (by rw [show (0 : Int32).toInt = 0 by decide]; omega)), e4521_z, rfl⟩
  · replace b4492_z : (0 : Int32).toInt < op.toInt := b4492_z
    replace hc_z := rn_aload_n (am_cur_of (i := (75, 1, .aload_n 0, (0, 0, 0), 0)) (by decide +kernel)) g0_z hc_z
    replace hc_z := rn_iconst (w := 1) (am_cur_of (i := (76, 1, .iconst 1, (0, 0, 0), 0)) (by decide +kernel)) (by decide) hc_z
    replace hc_z := rn_callV (M' := am_m29) (o := 44) (ar := [.int 1]) (rest := []) (L := lv_args 0 [.ref 44, .int 1]) (am_cur_of (i := (77, 3, .invokevirtual 108, (29, 769, 3), 0)) (by decide +kernel)) rfl rfl rfl rfl hc_z
    obtain ⟨r4523_z, h4524_z, q4525_z, hc_z⟩ := hc_z
    obtain ⟨rfl, yq4525_z⟩ := rp_fail R4 q4525_z
    subst yq4525_z
    replace hc_z : rn _ _ _ _ [] _ _ _ := hc_z
    have K := rs_stick (w := 1) (q := p) (a := 44) (by decide) (by decide) rfl (by decide) rfl (show rg_v (am_up (am_up h 44 1 (.int 1)) 44 2 (.int (rg_v h 44 9))) 44 2 = p from R5) hc_z
    replace hm_z := rn_aload_n (am_cur_of (i := (0, 1, .aload_n 0, (0, 0, 0), 0)) (by decide +kernel)) g0m hm_z
    replace hm_z := rn_bipush (w := 41) (am_cur_of (i := (1, 2, .bipush 41, (0, 0, 0), 0)) (by decide +kernel)) (by decide) hm_z
    replace hm_z := rn_callV (M' := am_m171) (o := 164) (ar := [.int 41]) (rest := []) (L := lv_args 0 [.ref 164, .int 41]) (am_cur_of (i := (3, 3, .invokevirtual 194, (171, 1715, 3), 0)) (by decide +kernel)) rfl rfl rfl rfl hm_z
    obtain ⟨r4526_z, h4527_z, q4528_z, hm_z⟩ := hm_z
    obtain ⟨rfl, yq4528_z⟩ := rp_sgN (fun q => absurd (Eq.trans (Eq.symm kc) q.1) (by decide)) q4528_z
    subst yq4528_z
    replace hm_z : rn _ _ _ _ [.int 0] _ _ _ := hm_z
    replace hm_z := rn_ifT (am_cur_of (i := (6, 3, .ifCond .eq 41, (26, 0, 0), 0)) (by decide +kernel)) (by decide) hm_z
    replace hm_z := rn_aload_n (am_cur_of (i := (47, 1, .aload_n 0, (0, 0, 0), 0)) (by decide +kernel)) g0m hm_z
    replace hm_z := rn_bipush (w := 12) (am_cur_of (i := (48, 2, .bipush 12, (0, 0, 0), 0)) (by decide +kernel)) (by decide) hm_z
    replace hm_z := rn_callV (M' := am_m174) (o := 164) (ar := [.int 12]) (rest := []) (L := lv_args 0 [.ref 164, .int 12]) (am_cur_of (i := (50, 3, .invokevirtual 306, (174, 1727, 3), 0)) (by decide +kernel)) rfl rfl rfl rfl hm_z
    obtain ⟨r4529_z, h4530_z, q4531_z, hm_z⟩ := hm_z
    obtain ⟨rfl, yq4531_z⟩ := rp_kyN (fun q => absurd (Eq.trans (Eq.symm kd) q.2) (by decide)) q4531_z
    subst yq4531_z
    replace hm_z : rn _ _ _ _ [.int 0] _ _ _ := hm_z
    replace hm_z := rn_ifT (am_cur_of (i := (53, 3, .ifCond .eq 7, (32, 0, 0), 0)) (by decide +kernel)) (by decide) hm_z
    replace hm_z := rn_aload_n (am_cur_of (i := (60, 1, .aload_n 0, (0, 0, 0), 0)) (by decide +kernel)) g0m hm_z
    replace hm_z := rn_bipush (w := 13) (am_cur_of (i := (61, 2, .bipush 13, (0, 0, 0), 0)) (by decide +kernel)) (by decide) hm_z
    replace hm_z := rn_callV (M' := am_m174) (o := 164) (ar := [.int 13]) (rest := []) (L := lv_args 0 [.ref 164, .int 13]) (am_cur_of (i := (63, 3, .invokevirtual 306, (174, 1727, 3), 0)) (by decide +kernel)) rfl rfl rfl rfl hm_z
    obtain ⟨r4532_z, h4533_z, q4534_z, hm_z⟩ := hm_z
    obtain ⟨rfl, yq4534_z⟩ := rp_kyN (fun q => absurd (Eq.trans (Eq.symm kd) q.2) (by decide)) q4534_z
    subst yq4534_z
    replace hm_z : rn _ _ _ _ [.int 0] _ _ _ := hm_z
    replace hm_z := rn_ifT (am_cur_of (i := (66, 3, .ifCond .eq 7, (38, 0, 0), 0)) (by decide +kernel)) (by decide) hm_z
    replace hm_z := rn_aload_n (am_cur_of (i := (73, 1, .aload_n 0, (0, 0, 0), 0)) (by decide +kernel)) g0m hm_z
    replace hm_z := rn_getI (v := 1) (am_cur_of (i := (74, 3, .getfield 157, (12, 8, 1392), 0)) (by decide +kernel)) (by decide +kernel) kc hm_z
    replace hm_z := rn_iconst (w := 5) (am_cur_of (i := (77, 1, .iconst 5, (0, 0, 0), 0)) (by decide +kernel)) (by decide) hm_z
    replace hm_z := rn_cmpT (am_cur_of (i := (78, 3, .if_icmp .ne 12, (47, 0, 0), 0)) (by decide +kernel)) (by decide) hm_z
    replace hm_z := rn_aload_n (am_cur_of (i := (90, 1, .aload_n 0, (0, 0, 0), 0)) (by decide +kernel)) g0m hm_z
    replace hm_z := rn_bipush (w := 43) (am_cur_of (i := (91, 2, .bipush 43, (0, 0, 0), 0)) (by decide +kernel)) (by decide) hm_z
    replace hm_z := rn_callV (M' := am_m171) (o := 164) (ar := [.int 43]) (rest := []) (L := lv_args 0 [.ref 164, .int 43]) (am_cur_of (i := (93, 3, .invokevirtual 194, (171, 1715, 3), 0)) (by decide +kernel)) rfl rfl rfl rfl hm_z
    obtain ⟨r4535_z, h4536_z, q4537_z, hm_z⟩ := hm_z
    obtain ⟨rfl, yq4537_z⟩ := rp_sgN (fun q => absurd (Eq.trans (Eq.symm kc) q.1) (by decide)) q4537_z
    subst yq4537_z
    replace hm_z : rn _ _ _ _ [.int 0] _ _ _ := hm_z
    replace hm_z := rn_ifT (am_cur_of (i := (96, 3, .ifCond .eq 8, (53, 0, 0), 0)) (by decide +kernel)) (by decide) hm_z
    replace hm_z := rn_aload_n (am_cur_of (i := (104, 1, .aload_n 0, (0, 0, 0), 0)) (by decide +kernel)) g0m hm_z
    replace hm_z := rn_bipush (w := 45) (am_cur_of (i := (105, 2, .bipush 45, (0, 0, 0), 0)) (by decide +kernel)) (by decide) hm_z
    replace hm_z := rn_callV (M' := am_m171) (o := 164) (ar := [.int 45]) (rest := []) (L := lv_args 0 [.ref 164, .int 45]) (am_cur_of (i := (107, 3, .invokevirtual 194, (171, 1715, 3), 0)) (by decide +kernel)) rfl rfl rfl rfl hm_z
    obtain ⟨r4538_z, h4539_z, q4540_z, hm_z⟩ := hm_z
    obtain ⟨rfl, yq4540_z⟩ := rp_sgN (fun q => absurd (Eq.trans (Eq.symm kc) q.1) (by decide)) q4540_z
    subst yq4540_z
    replace hm_z : rn _ _ _ _ [.int 0] _ _ _ := hm_z
    replace hm_z := rn_ifT (am_cur_of (i := (110, 3, .ifCond .eq 8, (59, 0, 0), 0)) (by decide +kernel)) (by decide) hm_z
    replace hm_z := rn_aload_n (am_cur_of (i := (118, 1, .aload_n 0, (0, 0, 0), 0)) (by decide +kernel)) g0m hm_z
    replace hm_z := rn_bipush (w := 42) (am_cur_of (i := (119, 2, .bipush 42, (0, 0, 0), 0)) (by decide +kernel)) (by decide) hm_z
    replace hm_z := rn_callV (M' := am_m171) (o := 164) (ar := [.int 42]) (rest := []) (L := lv_args 0 [.ref 164, .int 42]) (am_cur_of (i := (121, 3, .invokevirtual 194, (171, 1715, 3), 0)) (by decide +kernel)) rfl rfl rfl rfl hm_z
    obtain ⟨r4541_z, h4542_z, q4543_z, hm_z⟩ := hm_z
    obtain ⟨rfl, yq4543_z⟩ := rp_sgN (fun q => absurd (Eq.trans (Eq.symm kc) q.1) (by decide)) q4543_z
    subst yq4543_z
    replace hm_z : rn _ _ _ _ [.int 0] _ _ _ := hm_z
    replace hm_z := rn_ifT (am_cur_of (i := (124, 3, .ifCond .eq 8, (65, 0, 0), 0)) (by decide +kernel)) (by decide) hm_z
    replace hm_z := rn_aload_n (am_cur_of (i := (132, 1, .aload_n 0, (0, 0, 0), 0)) (by decide +kernel)) g0m hm_z
    replace hm_z := rn_bipush (w := 47) (am_cur_of (i := (133, 2, .bipush 47, (0, 0, 0), 0)) (by decide +kernel)) (by decide) hm_z
    replace hm_z := rn_callV (M' := am_m171) (o := 164) (ar := [.int 47]) (rest := []) (L := lv_args 0 [.ref 164, .int 47]) (am_cur_of (i := (135, 3, .invokevirtual 194, (171, 1715, 3), 0)) (by decide +kernel)) rfl rfl rfl rfl hm_z
    obtain ⟨r4544_z, h4545_z, q4546_z, hm_z⟩ := hm_z
    obtain ⟨rfl, yq4546_z⟩ := rp_sgN (fun q => absurd (Eq.trans (Eq.symm kc) q.1) (by decide)) q4546_z
    subst yq4546_z
    replace hm_z : rn _ _ _ _ [.int 0] _ _ _ := hm_z
    replace hm_z := rn_ifT (am_cur_of (i := (138, 3, .ifCond .eq 8, (71, 0, 0), 0)) (by decide +kernel)) (by decide) hm_z
    replace hm_z := rn_iconst (w := 0) (am_cur_of (i := (146, 1, .iconst 0, (0, 0, 0), 0)) (by decide +kernel)) (by decide) hm_z
    replace hm_z := rn_istore_n (am_cur_of (i := (147, 1, .istore_n 1, (0, 0, 0), 0)) (by decide +kernel)) hm_z
    obtain ⟨_, s4547_z, s4548_z, g1m, hm_z⟩ := hm_z
    replace g0m := s4547_z 0 _ (by decide) rfl g0m
    clear s4547_z s4548_z
    replace hm_z := rn_iload_n (am_cur_of (i := (148, 1, .iload_n 1, (0, 0, 0), 0)) (by decide +kernel)) g1m hm_z
    replace hm_z := rn_ifF (am_cur_of (i := (149, 3, .ifCond .ne 9, (79, 0, 0), 0)) (by decide +kernel)) (by decide) hm_z
    replace hm_z := rn_aload_n (am_cur_of (i := (152, 1, .aload_n 0, (0, 0, 0), 0)) (by decide +kernel)) g0m hm_z
    replace hm_z := rn_iconst (w := 1) (am_cur_of (i := (153, 1, .iconst 1, (0, 0, 0), 0)) (by decide +kernel)) (by decide) hm_z
    replace hm_z := rn_callV (M' := am_m158) (o := 164) (ar := [.int 1]) (rest := []) (L := lv_args 0 [.ref 164, .int 1]) (am_cur_of (i := (154, 3, .invokevirtual 181, (158, 1665, 3), 0)) (by decide +kernel)) rfl rfl rfl rfl hm_z
    obtain ⟨r4549_z, h4550_z, q4551_z, hm_z⟩ := hm_z
    obtain ⟨rfl, yq4551_z⟩ := rp_wrong q4551_z
    subst yq4551_z
    replace hm_z : rn _ _ _ _ [.int 0] _ _ _ := hm_z
    replace hm_z := rn_iret (am_cur_of (i := (157, 1, .ireturn, (0, 0, 0), 0)) (by decide +kernel)) hm_z
    obtain ⟨e4552_z, e4553_z⟩ := hm_z
    subst e4552_z e4553_z
    exact Or.inl (Or.inr ⟨rfl, 1, by decide, K.1, K.2, rfl, R6⟩)
theorem rj_c10_2 {T : Nat → Int32} {S x p : Int32} {n n' : Nat} {h h' g g' : am_H} {r r' : Option Value} (R : rq T S x p 2 h g) (A : rp 2 h g) (B : rp_t h g) (Z : rs 2 h g) (w0_z : rg_v g 164 45 = 0) (ka : (rg_v h 44 10) = 3) (kc : (rg_v g 164 8) = 2) (kd : (rg_v g 164 9) = (rg_v h 44 11)) (hc_z : rn n am_m44 0 (lv_args 0 [.ref 44]) [] h r h') (hm_z : rn n' am_m178 0 (lv_args 0 [.ref 164]) [] g r' g') : rj_Q T S x p 2 h g h' g' r r' := by
  have z0_z : (0 : Int32).toInt = 0 := by decide
  have g0_z : am_get (lv_args 0 [.ref 44]) 0 = some (.ref 44) := rfl
  have g0m : am_get (lv_args 0 [.ref 164]) 0 = some (.ref 164) := rfl
  have Rk := R
  have Zk := Z
  obtain ⟨⟨c1_z, c2_z, c3_z, c4_z, c5_z, c6_z, c7_z, c8_z⟩, ⟨m2_z, m3_z, m4_z, m5_z, m6_z, m7_z, m8_z⟩, R3, R4, R5, R6, R7, R8, R9, R10⟩ := (R : rq T S x p 2 h g)
  obtain ⟨np, op, z1_z, z2_z, z3_z, z4_z, z5_z, z6_z, z7_z, z8_z, z9_z, z10_z⟩ := (Z : rs 2 h g)
  obtain ⟨nk1_z, nk2_z, nk3_z⟩ := A.2.2.2.2.2.1
  replace nk1_z : rg_v h 11 0 = rg_v g 164 44 := nk1_z
  replace nk2_z : 0 ≤ (rg_v h 11 0).toInt := nk2_z
  replace nk3_z : (rg_v h 11 0).toInt ≤ 64 := nk3_z
  replace z8_z : np.toInt ≤ (rg_v h 11 0).toInt + op.toInt := z8_z
  obtain ⟨kn, ekn⟩ : ∃ v, rg_v h 11 0 = v := ⟨_, rfl⟩
  rw [ekn] at nk1_z nk2_z nk3_z z8_z
  have e9_z := rt_c1 (x := kn) (by omega) (by omega)
  replace hc_z := rn_aload_n (am_cur_of (i := (0, 1, .aload_n 0, (0, 0, 0), 0)) (by decide +kernel)) g0_z hc_z
  replace hc_z := rn_bipush (w := 41) (am_cur_of (i := (1, 2, .bipush 41, (0, 0, 0), 0)) (by decide +kernel)) (by decide) hc_z
  replace hc_z := rn_callV (M' := am_m45) (o := 44) (ar := [.int 41]) (rest := []) (L := lv_args 0 [.ref 44, .int 41]) (am_cur_of (i := (3, 3, .invokevirtual 105, (45, 834, 3), 0)) (by decide +kernel)) rfl rfl rfl rfl hc_z
  obtain ⟨r4554_z, h4555_z, q4556_z, hc_z⟩ := hc_z
  obtain ⟨rfl, yq4556_z⟩ := rp_mkN (fun q => absurd (Eq.trans (Eq.symm ka) q.1) (by decide)) q4556_z
  subst yq4556_z
  replace hc_z : rn _ _ _ _ [.int 0] _ _ _ := hc_z
  replace hc_z := rn_ifT (am_cur_of (i := (6, 3, .ifCond .eq 45, (28, 0, 0), 0)) (by decide +kernel)) (by decide) hc_z
  replace hc_z := rn_aload_n (am_cur_of (i := (51, 1, .aload_n 0, (0, 0, 0), 0)) (by decide +kernel)) g0_z hc_z
  replace hc_z := rn_getI (v := 3) (am_cur_of (i := (52, 3, .getfield 60, (4, 10, 419), 0)) (by decide +kernel)) (by decide +kernel) ka hc_z
  replace hc_z := rn_bipush (w := 6) (am_cur_of (i := (55, 2, .bipush 6, (0, 0, 0), 0)) (by decide +kernel)) (by decide) hc_z
  replace hc_z := rn_cmpT (am_cur_of (i := (57, 3, .if_icmp .ne 11, (36, 0, 0), 0)) (by decide +kernel)) (by decide) hc_z
  replace hc_z := rn_aload_n (am_cur_of (i := (68, 1, .aload_n 0, (0, 0, 0), 0)) (by decide +kernel)) g0_z hc_z
  replace hc_z := rn_getI (v := op) (am_cur_of (i := (69, 3, .getfield 254, (4, 14, 423), 0)) (by decide +kernel)) (by decide +kernel) z4_z hc_z
  replace hc_z := rn_if (am_cur_of (i := (72, 3, .ifCond .le 8, (42, 0, 0), 0)) (by decide +kernel)) hc_z
  rcases hc_z with ⟨b4557_z, hc_z⟩ | ⟨b4557_z, hc_z⟩
  · replace b4557_z : op.toInt ≤ (0 : Int32).toInt := b4557_z
    replace hc_z := rn_iconst (w := 3) (am_cur_of (i := (80, 1, .iconst 3, (0, 0, 0), 0)) (by decide +kernel)) (by decide) hc_z
    replace hc_z := rn_iret (am_cur_of (i := (81, 1, .ireturn, (0, 0, 0), 0)) (by decide +kernel)) hc_z
    obtain ⟨e4558_z, e4559_z⟩ := hc_z
    replace hm_z := rn_aload_n (am_cur_of (i := (0, 1, .aload_n 0, (0, 0, 0), 0)) (by decide +kernel)) g0m hm_z
    replace hm_z := rn_bipush (w := 41) (am_cur_of (i := (1, 2, .bipush 41, (0, 0, 0), 0)) (by decide +kernel)) (by decide) hm_z
    replace hm_z := rn_callV (M' := am_m171) (o := 164) (ar := [.int 41]) (rest := []) (L := lv_args 0 [.ref 164, .int 41]) (am_cur_of (i := (3, 3, .invokevirtual 194, (171, 1715, 3), 0)) (by decide +kernel)) rfl rfl rfl rfl hm_z
    obtain ⟨r4560_z, h4561_z, q4562_z, hm_z⟩ := hm_z
    obtain ⟨rfl, yq4562_z⟩ := rp_sgN (fun q => absurd (Eq.trans (Eq.symm kc) q.1) (by decide)) q4562_z
    subst yq4562_z
    replace hm_z : rn _ _ _ _ [.int 0] _ _ _ := hm_z
    replace hm_z := rn_ifT (am_cur_of (i := (6, 3, .ifCond .eq 41, (26, 0, 0), 0)) (by decide +kernel)) (by decide) hm_z
    replace hm_z := rn_aload_n (am_cur_of (i := (47, 1, .aload_n 0, (0, 0, 0), 0)) (by decide +kernel)) g0m hm_z
    replace hm_z := rn_bipush (w := 12) (am_cur_of (i := (48, 2, .bipush 12, (0, 0, 0), 0)) (by decide +kernel)) (by decide) hm_z
    replace hm_z := rn_callV (M' := am_m174) (o := 164) (ar := [.int 12]) (rest := []) (L := lv_args 0 [.ref 164, .int 12]) (am_cur_of (i := (50, 3, .invokevirtual 306, (174, 1727, 3), 0)) (by decide +kernel)) rfl rfl rfl rfl hm_z
    obtain ⟨r4563_z, h4564_z, q4565_z, hm_z⟩ := hm_z
    obtain ⟨rfl, yq4565_z⟩ := rp_kyN (fun q => absurd (Eq.trans (Eq.symm kc) q.1) (by decide)) q4565_z
    subst yq4565_z
    replace hm_z : rn _ _ _ _ [.int 0] _ _ _ := hm_z
    replace hm_z := rn_ifT (am_cur_of (i := (53, 3, .ifCond .eq 7, (32, 0, 0), 0)) (by decide +kernel)) (by decide) hm_z
    replace hm_z := rn_aload_n (am_cur_of (i := (60, 1, .aload_n 0, (0, 0, 0), 0)) (by decide +kernel)) g0m hm_z
    replace hm_z := rn_bipush (w := 13) (am_cur_of (i := (61, 2, .bipush 13, (0, 0, 0), 0)) (by decide +kernel)) (by decide) hm_z
    replace hm_z := rn_callV (M' := am_m174) (o := 164) (ar := [.int 13]) (rest := []) (L := lv_args 0 [.ref 164, .int 13]) (am_cur_of (i := (63, 3, .invokevirtual 306, (174, 1727, 3), 0)) (by decide +kernel)) rfl rfl rfl rfl hm_z
    obtain ⟨r4566_z, h4567_z, q4568_z, hm_z⟩ := hm_z
    obtain ⟨rfl, yq4568_z⟩ := rp_kyN (fun q => absurd (Eq.trans (Eq.symm kc) q.1) (by decide)) q4568_z
    subst yq4568_z
    replace hm_z : rn _ _ _ _ [.int 0] _ _ _ := hm_z
    replace hm_z := rn_ifT (am_cur_of (i := (66, 3, .ifCond .eq 7, (38, 0, 0), 0)) (by decide +kernel)) (by decide) hm_z
    replace hm_z := rn_aload_n (am_cur_of (i := (73, 1, .aload_n 0, (0, 0, 0), 0)) (by decide +kernel)) g0m hm_z
    replace hm_z := rn_getI (v := 2) (am_cur_of (i := (74, 3, .getfield 157, (12, 8, 1392), 0)) (by decide +kernel)) (by decide +kernel) kc hm_z
    replace hm_z := rn_iconst (w := 5) (am_cur_of (i := (77, 1, .iconst 5, (0, 0, 0), 0)) (by decide +kernel)) (by decide) hm_z
    replace hm_z := rn_cmpT (am_cur_of (i := (78, 3, .if_icmp .ne 12, (47, 0, 0), 0)) (by decide +kernel)) (by decide) hm_z
    replace hm_z := rn_aload_n (am_cur_of (i := (90, 1, .aload_n 0, (0, 0, 0), 0)) (by decide +kernel)) g0m hm_z
    replace hm_z := rn_bipush (w := 43) (am_cur_of (i := (91, 2, .bipush 43, (0, 0, 0), 0)) (by decide +kernel)) (by decide) hm_z
    replace hm_z := rn_callV (M' := am_m171) (o := 164) (ar := [.int 43]) (rest := []) (L := lv_args 0 [.ref 164, .int 43]) (am_cur_of (i := (93, 3, .invokevirtual 194, (171, 1715, 3), 0)) (by decide +kernel)) rfl rfl rfl rfl hm_z
    obtain ⟨r4569_z, h4570_z, q4571_z, hm_z⟩ := hm_z
    obtain ⟨rfl, yq4571_z⟩ := rp_sgN (fun q => absurd (Eq.trans (Eq.symm kc) q.1) (by decide)) q4571_z
    subst yq4571_z
    replace hm_z : rn _ _ _ _ [.int 0] _ _ _ := hm_z
    replace hm_z := rn_ifT (am_cur_of (i := (96, 3, .ifCond .eq 8, (53, 0, 0), 0)) (by decide +kernel)) (by decide) hm_z
    replace hm_z := rn_aload_n (am_cur_of (i := (104, 1, .aload_n 0, (0, 0, 0), 0)) (by decide +kernel)) g0m hm_z
    replace hm_z := rn_bipush (w := 45) (am_cur_of (i := (105, 2, .bipush 45, (0, 0, 0), 0)) (by decide +kernel)) (by decide) hm_z
    replace hm_z := rn_callV (M' := am_m171) (o := 164) (ar := [.int 45]) (rest := []) (L := lv_args 0 [.ref 164, .int 45]) (am_cur_of (i := (107, 3, .invokevirtual 194, (171, 1715, 3), 0)) (by decide +kernel)) rfl rfl rfl rfl hm_z
    obtain ⟨r4572_z, h4573_z, q4574_z, hm_z⟩ := hm_z
    obtain ⟨rfl, yq4574_z⟩ := rp_sgN (fun q => absurd (Eq.trans (Eq.symm kc) q.1) (by decide)) q4574_z
    subst yq4574_z
    replace hm_z : rn _ _ _ _ [.int 0] _ _ _ := hm_z
    replace hm_z := rn_ifT (am_cur_of (i := (110, 3, .ifCond .eq 8, (59, 0, 0), 0)) (by decide +kernel)) (by decide) hm_z
    replace hm_z := rn_aload_n (am_cur_of (i := (118, 1, .aload_n 0, (0, 0, 0), 0)) (by decide +kernel)) g0m hm_z
    replace hm_z := rn_bipush (w := 42) (am_cur_of (i := (119, 2, .bipush 42, (0, 0, 0), 0)) (by decide +kernel)) (by decide) hm_z
    replace hm_z := rn_callV (M' := am_m171) (o := 164) (ar := [.int 42]) (rest := []) (L := lv_args 0 [.ref 164, .int 42]) (am_cur_of (i := (121, 3, .invokevirtual 194, (171, 1715, 3), 0)) (by decide +kernel)) rfl rfl rfl rfl hm_z
    obtain ⟨r4575_z, h4576_z, q4577_z, hm_z⟩ := hm_z
    obtain ⟨rfl, yq4577_z⟩ := rp_sgN (fun q => absurd (Eq.trans (Eq.symm kc) q.1) (by decide)) q4577_z
    subst yq4577_z
    replace hm_z : rn _ _ _ _ [.int 0] _ _ _ := hm_z
    replace hm_z := rn_ifT (am_cur_of (i := (124, 3, .ifCond .eq 8, (65, 0, 0), 0)) (by decide +kernel)) (by decide) hm_z
    replace hm_z := rn_aload_n (am_cur_of (i := (132, 1, .aload_n 0, (0, 0, 0), 0)) (by decide +kernel)) g0m hm_z
    replace hm_z := rn_bipush (w := 47) (am_cur_of (i := (133, 2, .bipush 47, (0, 0, 0), 0)) (by decide +kernel)) (by decide) hm_z
    replace hm_z := rn_callV (M' := am_m171) (o := 164) (ar := [.int 47]) (rest := []) (L := lv_args 0 [.ref 164, .int 47]) (am_cur_of (i := (135, 3, .invokevirtual 194, (171, 1715, 3), 0)) (by decide +kernel)) rfl rfl rfl rfl hm_z
    obtain ⟨r4578_z, h4579_z, q4580_z, hm_z⟩ := hm_z
    obtain ⟨rfl, yq4580_z⟩ := rp_sgN (fun q => absurd (Eq.trans (Eq.symm kc) q.1) (by decide)) q4580_z
    subst yq4580_z
    replace hm_z : rn _ _ _ _ [.int 0] _ _ _ := hm_z
    replace hm_z := rn_ifT (am_cur_of (i := (138, 3, .ifCond .eq 8, (71, 0, 0), 0)) (by decide +kernel)) (by decide) hm_z
    replace hm_z := rn_iconst (w := 0) (am_cur_of (i := (146, 1, .iconst 0, (0, 0, 0), 0)) (by decide +kernel)) (by decide) hm_z
    replace hm_z := rn_istore_n (am_cur_of (i := (147, 1, .istore_n 1, (0, 0, 0), 0)) (by decide +kernel)) hm_z
    obtain ⟨_, s4581_z, s4582_z, g1m, hm_z⟩ := hm_z
    replace g0m := s4581_z 0 _ (by decide) rfl g0m
    clear s4581_z s4582_z
    replace hm_z := rn_iload_n (am_cur_of (i := (148, 1, .iload_n 1, (0, 0, 0), 0)) (by decide +kernel)) g1m hm_z
    replace hm_z := rn_ifF (am_cur_of (i := (149, 3, .ifCond .ne 9, (79, 0, 0), 0)) (by decide +kernel)) (by decide) hm_z
    replace hm_z := rn_aload_n (am_cur_of (i := (152, 1, .aload_n 0, (0, 0, 0), 0)) (by decide +kernel)) g0m hm_z
    replace hm_z := rn_iconst (w := 1) (am_cur_of (i := (153, 1, .iconst 1, (0, 0, 0), 0)) (by decide +kernel)) (by decide) hm_z
    replace hm_z := rn_callV (M' := am_m158) (o := 164) (ar := [.int 1]) (rest := []) (L := lv_args 0 [.ref 164, .int 1]) (am_cur_of (i := (154, 3, .invokevirtual 181, (158, 1665, 3), 0)) (by decide +kernel)) rfl rfl rfl rfl hm_z
    obtain ⟨r4583_z, h4584_z, q4585_z, hm_z⟩ := hm_z
    obtain ⟨rfl, yq4585_z⟩ := rp_wrong q4585_z
    subst yq4585_z
    replace hm_z : rn _ _ _ _ [.int 0] _ _ _ := hm_z
    replace hm_z := rn_iret (am_cur_of (i := (157, 1, .ireturn, (0, 0, 0), 0)) (by decide +kernel)) hm_z
    obtain ⟨e4586_z, e4587_z⟩ := hm_z
    subst e4559_z e4587_z
    exact Or.inr ⟨e4558_z, rfl, z4_z.trans (rt_i32 (by rw [show (0 : Int32).toInt = 0 by decide]; omega)), e4586_z, rfl⟩
  · replace b4557_z : (0 : Int32).toInt < op.toInt := b4557_z
    replace hc_z := rn_aload_n (am_cur_of (i := (75, 1, .aload_n 0, (0, 0, 0), 0)) (by decide +kernel)) g0_z hc_z
    replace hc_z := rn_iconst (w := 1) (am_cur_of (i := (76, 1, .iconst 1, (0, 0, 0), 0)) (by decide +kernel)) (by decide) hc_z
    replace hc_z := rn_callV (M' := am_m29) (o := 44) (ar := [.int 1]) (rest := []) (L := lv_args 0 [.ref 44, .int 1]) (am_cur_of (i := (77, 3, .invokevirtual 108, (29, 769, 3), 0)) (by decide +kernel)) rfl rfl rfl rfl hc_z
    obtain ⟨r4588_z, h4589_z, q4590_z, hc_z⟩ := hc_z
    obtain ⟨rfl, yq4590_z⟩ := rp_fail R4 q4590_z
    subst yq4590_z
    replace hc_z : rn _ _ _ _ [] _ _ _ := hc_z
    have K := rs_stick (w := 1) (q := p) (a := 44) (by decide) (by decide) rfl (by decide) rfl (show rg_v (am_up (am_up h 44 1 (.int 1)) 44 2 (.int (rg_v h 44 9))) 44 2 = p from R5) hc_z
    replace hm_z := rn_aload_n (am_cur_of (i := (0, 1, .aload_n 0, (0, 0, 0), 0)) (by decide +kernel)) g0m hm_z
    replace hm_z := rn_bipush (w := 41) (am_cur_of (i := (1, 2, .bipush 41, (0, 0, 0), 0)) (by decide +kernel)) (by decide) hm_z
    replace hm_z := rn_callV (M' := am_m171) (o := 164) (ar := [.int 41]) (rest := []) (L := lv_args 0 [.ref 164, .int 41]) (am_cur_of (i := (3, 3, .invokevirtual 194, (171, 1715, 3), 0)) (by decide +kernel)) rfl rfl rfl rfl hm_z
    obtain ⟨r4591_z, h4592_z, q4593_z, hm_z⟩ := hm_z
    obtain ⟨rfl, yq4593_z⟩ := rp_sgN (fun q => absurd (Eq.trans (Eq.symm kc) q.1) (by decide)) q4593_z
    subst yq4593_z
    replace hm_z : rn _ _ _ _ [.int 0] _ _ _ := hm_z
    replace hm_z := rn_ifT (am_cur_of (i := (6, 3, .ifCond .eq 41, (26, 0, 0), 0)) (by decide +kernel)) (by decide) hm_z
    replace hm_z := rn_aload_n (am_cur_of (i := (47, 1, .aload_n 0, (0, 0, 0), 0)) (by decide +kernel)) g0m hm_z
    replace hm_z := rn_bipush (w := 12) (am_cur_of (i := (48, 2, .bipush 12, (0, 0, 0), 0)) (by decide +kernel)) (by decide) hm_z
    replace hm_z := rn_callV (M' := am_m174) (o := 164) (ar := [.int 12]) (rest := []) (L := lv_args 0 [.ref 164, .int 12]) (am_cur_of (i := (50, 3, .invokevirtual 306, (174, 1727, 3), 0)) (by decide +kernel)) rfl rfl rfl rfl hm_z
    obtain ⟨r4594_z, h4595_z, q4596_z, hm_z⟩ := hm_z
    obtain ⟨rfl, yq4596_z⟩ := rp_kyN (fun q => absurd (Eq.trans (Eq.symm kc) q.1) (by decide)) q4596_z
    subst yq4596_z
    replace hm_z : rn _ _ _ _ [.int 0] _ _ _ := hm_z
    replace hm_z := rn_ifT (am_cur_of (i := (53, 3, .ifCond .eq 7, (32, 0, 0), 0)) (by decide +kernel)) (by decide) hm_z
    replace hm_z := rn_aload_n (am_cur_of (i := (60, 1, .aload_n 0, (0, 0, 0), 0)) (by decide +kernel)) g0m hm_z
    replace hm_z := rn_bipush (w := 13) (am_cur_of (i := (61, 2, .bipush 13, (0, 0, 0), 0)) (by decide +kernel)) (by decide) hm_z
    replace hm_z := rn_callV (M' := am_m174) (o := 164) (ar := [.int 13]) (rest := []) (L := lv_args 0 [.ref 164, .int 13]) (am_cur_of (i := (63, 3, .invokevirtual 306, (174, 1727, 3), 0)) (by decide +kernel)) rfl rfl rfl rfl hm_z
    obtain ⟨r4597_z, h4598_z, q4599_z, hm_z⟩ := hm_z
    obtain ⟨rfl, yq4599_z⟩ := rp_kyN (fun q => absurd (Eq.trans (Eq.symm kc) q.1) (by decide)) q4599_z
    subst yq4599_z
    replace hm_z : rn _ _ _ _ [.int 0] _ _ _ := hm_z
    replace hm_z := rn_ifT (am_cur_of (i := (66, 3, .ifCond .eq 7, (38, 0, 0), 0)) (by decide +kernel)) (by decide) hm_z
    replace hm_z := rn_aload_n (am_cur_of (i := (73, 1, .aload_n 0, (0, 0, 0), 0)) (by decide +kernel)) g0m hm_z
    replace hm_z := rn_getI (v := 2) (am_cur_of (i := (74, 3, .getfield 157, (12, 8, 1392), 0)) (by decide +kernel)) (by decide +kernel) kc hm_z
    replace hm_z := rn_iconst (w := 5) (am_cur_of (i := (77, 1, .iconst 5, (0, 0, 0), 0)) (by decide +kernel)) (by decide) hm_z
    replace hm_z := rn_cmpT (am_cur_of (i := (78, 3, .if_icmp .ne 12, (47, 0, 0), 0)) (by decide +kernel)) (by decide) hm_z
    replace hm_z := rn_aload_n (am_cur_of (i := (90, 1, .aload_n 0, (0, 0, 0), 0)) (by decide +kernel)) g0m hm_z
    replace hm_z := rn_bipush (w := 43) (am_cur_of (i := (91, 2, .bipush 43, (0, 0, 0), 0)) (by decide +kernel)) (by decide) hm_z
    replace hm_z := rn_callV (M' := am_m171) (o := 164) (ar := [.int 43]) (rest := []) (L := lv_args 0 [.ref 164, .int 43]) (am_cur_of (i := (93, 3, .invokevirtual 194, (171, 1715, 3), 0)) (by decide +kernel)) rfl rfl rfl rfl hm_z
    obtain ⟨r4600_z, h4601_z, q4602_z, hm_z⟩ := hm_z
    obtain ⟨rfl, yq4602_z⟩ := rp_sgN (fun q => absurd (Eq.trans (Eq.symm kc) q.1) (by decide)) q4602_z
    subst yq4602_z
    replace hm_z : rn _ _ _ _ [.int 0] _ _ _ := hm_z
    replace hm_z := rn_ifT (am_cur_of (i := (96, 3, .ifCond .eq 8, (53, 0, 0), 0)) (by decide +kernel)) (by decide) hm_z
    replace hm_z := rn_aload_n (am_cur_of (i := (104, 1, .aload_n 0, (0, 0, 0), 0)) (by decide +kernel)) g0m hm_z
    replace hm_z := rn_bipush (w := 45) (am_cur_of (i := (105, 2, .bipush 45, (0, 0, 0), 0)) (by decide +kernel)) (by decide) hm_z
    replace hm_z := rn_callV (M' := am_m171) (o := 164) (ar := [.int 45]) (rest := []) (L := lv_args 0 [.ref 164, .int 45]) (am_cur_of (i := (107, 3, .invokevirtual 194, (171, 1715, 3), 0)) (by decide +kernel)) rfl rfl rfl rfl hm_z
    obtain ⟨r4603_z, h4604_z, q4605_z, hm_z⟩ := hm_z
    obtain ⟨rfl, yq4605_z⟩ := rp_sgN (fun q => absurd (Eq.trans (Eq.symm kc) q.1) (by decide)) q4605_z
    subst yq4605_z
    replace hm_z : rn _ _ _ _ [.int 0] _ _ _ := hm_z
    replace hm_z := rn_ifT (am_cur_of (i := (110, 3, .ifCond .eq 8, (59, 0, 0), 0)) (by decide +kernel)) (by decide) hm_z
    replace hm_z := rn_aload_n (am_cur_of (i := (118, 1, .aload_n 0, (0, 0, 0), 0)) (by decide +kernel)) g0m hm_z
    replace hm_z := rn_bipush (w := 42) (am_cur_of (i := (119, 2, .bipush 42, (0, 0, 0), 0)) (by decide +kernel)) (by decide) hm_z
    replace hm_z := rn_callV (M' := am_m171) (o := 164) (ar := [.int 42]) (rest := []) (L := lv_args 0 [.ref 164, .int 42]) (am_cur_of (i := (121, 3, .invokevirtual 194, (171, 1715, 3), 0)) (by decide +kernel)) rfl rfl rfl rfl hm_z
    obtain ⟨r4606_z, h4607_z, q4608_z, hm_z⟩ := hm_z
    obtain ⟨rfl, yq4608_z⟩ := rp_sgN (fun q => absurd (Eq.trans (Eq.symm kc) q.1) (by decide)) q4608_z
    subst yq4608_z
    replace hm_z : rn _ _ _ _ [.int 0] _ _ _ := hm_z
    replace hm_z := rn_ifT (am_cur_of (i := (124, 3, .ifCond .eq 8, (65, 0, 0), 0)) (by decide +kernel)) (by decide) hm_z
    replace hm_z := rn_aload_n (am_cur_of (i := (132, 1, .aload_n 0, (0, 0, 0), 0)) (by decide +kernel)) g0m hm_z
    replace hm_z := rn_bipush (w := 47) (am_cur_of (i := (133, 2, .bipush 47, (0, 0, 0), 0)) (by decide +kernel)) (by decide) hm_z
    replace hm_z := rn_callV (M' := am_m171) (o := 164) (ar := [.int 47]) (rest := []) (L := lv_args 0 [.ref 164, .int 47]) (am_cur_of (i := (135, 3, .invokevirtual 194, (171, 1715, 3), 0)) (by decide +kernel)) rfl rfl rfl rfl hm_z
    obtain ⟨r4609_z, h4610_z, q4611_z, hm_z⟩ := hm_z
    obtain ⟨rfl, yq4611_z⟩ := rp_sgN (fun q => absurd (Eq.trans (Eq.symm kc) q.1) (by decide)) q4611_z
    subst yq4611_z
    replace hm_z : rn _ _ _ _ [.int 0] _ _ _ := hm_z
    replace hm_z := rn_ifT (am_cur_of (i := (138, 3, .ifCond .eq 8, (71, 0, 0), 0)) (by decide +kernel)) (by decide) hm_z
    replace hm_z := rn_iconst (w := 0) (am_cur_of (i := (146, 1, .iconst 0, (0, 0, 0), 0)) (by decide +kernel)) (by decide) hm_z
    replace hm_z := rn_istore_n (am_cur_of (i := (147, 1, .istore_n 1, (0, 0, 0), 0)) (by decide +kernel)) hm_z
    obtain ⟨_, s4612_z, s4613_z, g1m, hm_z⟩ := hm_z
    replace g0m := s4612_z 0 _ (by decide) rfl g0m
    clear s4612_z s4613_z
    replace hm_z := rn_iload_n (am_cur_of (i := (148, 1, .iload_n 1, (0, 0, 0), 0)) (by decide +kernel)) g1m hm_z
    replace hm_z := rn_ifF (am_cur_of (i := (149, 3, .ifCond .ne 9, (79, 0, 0), 0)) (by decide +kernel)) (by decide) hm_z
    replace hm_z := rn_aload_n (am_cur_of (i := (152, 1, .aload_n 0, (0, 0, 0), 0)) (by decide +kernel)) g0m hm_z
    replace hm_z := rn_iconst (w := 1) (am_cur_of (i := (153, 1, .iconst 1, (0, 0, 0), 0)) (by decide +kernel)) (by decide) hm_z
    replace hm_z := rn_callV (M' := am_m158) (o := 164) (ar := [.int 1]) (rest := []) (L := lv_args 0 [.ref 164, .int 1]) (am_cur_of (i := (154, 3, .invokevirtual 181, (158, 1665, 3), 0)) (by decide +kernel)) rfl rfl rfl rfl hm_z
    obtain ⟨r4614_z, h4615_z, q4616_z, hm_z⟩ := hm_z
    obtain ⟨rfl, yq4616_z⟩ := rp_wrong q4616_z
    subst yq4616_z
    replace hm_z : rn _ _ _ _ [.int 0] _ _ _ := hm_z
    replace hm_z := rn_iret (am_cur_of (i := (157, 1, .ireturn, (0, 0, 0), 0)) (by decide +kernel)) hm_z
    obtain ⟨e4617_z, e4618_z⟩ := hm_z
    subst e4617_z e4618_z
    exact Or.inl (Or.inr ⟨rfl, 1, by decide, K.1, K.2, rfl, R6⟩)
theorem rj_c11_2 {T : Nat → Int32} {S x p : Int32} {n n' : Nat} {h h' g g' : am_H} {r r' : Option Value} (R : rq T S x p 2 h g) (A : rp 2 h g) (B : rp_t h g) (Z : rs 2 h g) (w0_z : rg_v g 164 45 = 0) (ka : (rg_v h 44 10) = 4) (kc : (rg_v g 164 8) = 3) (kb0_z : 0 ≤ (rg_v h 44 11).toInt) (kd0_z : 0 ≤ (rg_v g 164 9).toInt) (kbd : ((rg_v h 44 11).toInt = (rg_v g 164 9).toInt ∨ (99999 < (rg_v h 44 11).toInt ∧ 99999 < (rg_v g 164 9).toInt))) (hc_z : rn n am_m44 0 (lv_args 0 [.ref 44]) [] h r h') (hm_z : rn n' am_m178 0 (lv_args 0 [.ref 164]) [] g r' g') : rj_Q T S x p 2 h g h' g' r r' := by
  have z0_z : (0 : Int32).toInt = 0 := by decide
  have g0_z : am_get (lv_args 0 [.ref 44]) 0 = some (.ref 44) := rfl
  have g0m : am_get (lv_args 0 [.ref 164]) 0 = some (.ref 164) := rfl
  have Rk := R
  have Zk := Z
  obtain ⟨⟨c1_z, c2_z, c3_z, c4_z, c5_z, c6_z, c7_z, c8_z⟩, ⟨m2_z, m3_z, m4_z, m5_z, m6_z, m7_z, m8_z⟩, R3, R4, R5, R6, R7, R8, R9, R10⟩ := (R : rq T S x p 2 h g)
  obtain ⟨np, op, z1_z, z2_z, z3_z, z4_z, z5_z, z6_z, z7_z, z8_z, z9_z, z10_z⟩ := (Z : rs 2 h g)
  obtain ⟨nk1_z, nk2_z, nk3_z⟩ := A.2.2.2.2.2.1
  replace nk1_z : rg_v h 11 0 = rg_v g 164 44 := nk1_z
  replace nk2_z : 0 ≤ (rg_v h 11 0).toInt := nk2_z
  replace nk3_z : (rg_v h 11 0).toInt ≤ 64 := nk3_z
  replace z8_z : np.toInt ≤ (rg_v h 11 0).toInt + op.toInt := z8_z
  obtain ⟨kn, ekn⟩ : ∃ v, rg_v h 11 0 = v := ⟨_, rfl⟩
  rw [ekn] at nk1_z nk2_z nk3_z z8_z
  have e9_z := rt_c1 (x := kn) (by omega) (by omega)
  replace hc_z := rn_aload_n (am_cur_of (i := (0, 1, .aload_n 0, (0, 0, 0), 0)) (by decide +kernel)) g0_z hc_z
  replace hc_z := rn_bipush (w := 41) (am_cur_of (i := (1, 2, .bipush 41, (0, 0, 0), 0)) (by decide +kernel)) (by decide) hc_z
  replace hc_z := rn_callV (M' := am_m45) (o := 44) (ar := [.int 41]) (rest := []) (L := lv_args 0 [.ref 44, .int 41]) (am_cur_of (i := (3, 3, .invokevirtual 105, (45, 834, 3), 0)) (by decide +kernel)) rfl rfl rfl rfl hc_z
  obtain ⟨r4619_z, h4620_z, q4621_z, hc_z⟩ := hc_z
  obtain ⟨rfl, yq4621_z⟩ := rp_mkN (fun q => absurd (Eq.trans (Eq.symm ka) q.1) (by decide)) q4621_z
  subst yq4621_z
  replace hc_z : rn _ _ _ _ [.int 0] _ _ _ := hc_z
  replace hc_z := rn_ifT (am_cur_of (i := (6, 3, .ifCond .eq 45, (28, 0, 0), 0)) (by decide +kernel)) (by decide) hc_z
  replace hc_z := rn_aload_n (am_cur_of (i := (51, 1, .aload_n 0, (0, 0, 0), 0)) (by decide +kernel)) g0_z hc_z
  replace hc_z := rn_getI (v := 4) (am_cur_of (i := (52, 3, .getfield 60, (4, 10, 419), 0)) (by decide +kernel)) (by decide +kernel) ka hc_z
  replace hc_z := rn_bipush (w := 6) (am_cur_of (i := (55, 2, .bipush 6, (0, 0, 0), 0)) (by decide +kernel)) (by decide) hc_z
  replace hc_z := rn_cmpT (am_cur_of (i := (57, 3, .if_icmp .ne 11, (36, 0, 0), 0)) (by decide +kernel)) (by decide) hc_z
  replace hc_z := rn_aload_n (am_cur_of (i := (68, 1, .aload_n 0, (0, 0, 0), 0)) (by decide +kernel)) g0_z hc_z
  replace hc_z := rn_getI (v := op) (am_cur_of (i := (69, 3, .getfield 254, (4, 14, 423), 0)) (by decide +kernel)) (by decide +kernel) z4_z hc_z
  replace hc_z := rn_if (am_cur_of (i := (72, 3, .ifCond .le 8, (42, 0, 0), 0)) (by decide +kernel)) hc_z
  rcases hc_z with ⟨b4622_z, hc_z⟩ | ⟨b4622_z, hc_z⟩
  · replace b4622_z : op.toInt ≤ (0 : Int32).toInt := b4622_z
    replace hc_z := rn_iconst (w := 3) (am_cur_of (i := (80, 1, .iconst 3, (0, 0, 0), 0)) (by decide +kernel)) (by decide) hc_z
    replace hc_z := rn_iret (am_cur_of (i := (81, 1, .ireturn, (0, 0, 0), 0)) (by decide +kernel)) hc_z
    obtain ⟨e4623_z, e4624_z⟩ := hc_z
    replace hm_z := rn_aload_n (am_cur_of (i := (0, 1, .aload_n 0, (0, 0, 0), 0)) (by decide +kernel)) g0m hm_z
    replace hm_z := rn_bipush (w := 41) (am_cur_of (i := (1, 2, .bipush 41, (0, 0, 0), 0)) (by decide +kernel)) (by decide) hm_z
    replace hm_z := rn_callV (M' := am_m171) (o := 164) (ar := [.int 41]) (rest := []) (L := lv_args 0 [.ref 164, .int 41]) (am_cur_of (i := (3, 3, .invokevirtual 194, (171, 1715, 3), 0)) (by decide +kernel)) rfl rfl rfl rfl hm_z
    obtain ⟨r4625_z, h4626_z, q4627_z, hm_z⟩ := hm_z
    obtain ⟨rfl, yq4627_z⟩ := rp_sgN (fun q => absurd (Eq.trans (Eq.symm kc) q.1) (by decide)) q4627_z
    subst yq4627_z
    replace hm_z : rn _ _ _ _ [.int 0] _ _ _ := hm_z
    replace hm_z := rn_ifT (am_cur_of (i := (6, 3, .ifCond .eq 41, (26, 0, 0), 0)) (by decide +kernel)) (by decide) hm_z
    replace hm_z := rn_aload_n (am_cur_of (i := (47, 1, .aload_n 0, (0, 0, 0), 0)) (by decide +kernel)) g0m hm_z
    replace hm_z := rn_bipush (w := 12) (am_cur_of (i := (48, 2, .bipush 12, (0, 0, 0), 0)) (by decide +kernel)) (by decide) hm_z
    replace hm_z := rn_callV (M' := am_m174) (o := 164) (ar := [.int 12]) (rest := []) (L := lv_args 0 [.ref 164, .int 12]) (am_cur_of (i := (50, 3, .invokevirtual 306, (174, 1727, 3), 0)) (by decide +kernel)) rfl rfl rfl rfl hm_z
    obtain ⟨r4628_z, h4629_z, q4630_z, hm_z⟩ := hm_z
    obtain ⟨rfl, yq4630_z⟩ := rp_kyN (fun q => absurd (Eq.trans (Eq.symm kc) q.1) (by decide)) q4630_z
    subst yq4630_z
    replace hm_z : rn _ _ _ _ [.int 0] _ _ _ := hm_z
    replace hm_z := rn_ifT (am_cur_of (i := (53, 3, .ifCond .eq 7, (32, 0, 0), 0)) (by decide +kernel)) (by decide) hm_z
    replace hm_z := rn_aload_n (am_cur_of (i := (60, 1, .aload_n 0, (0, 0, 0), 0)) (by decide +kernel)) g0m hm_z
    replace hm_z := rn_bipush (w := 13) (am_cur_of (i := (61, 2, .bipush 13, (0, 0, 0), 0)) (by decide +kernel)) (by decide) hm_z
    replace hm_z := rn_callV (M' := am_m174) (o := 164) (ar := [.int 13]) (rest := []) (L := lv_args 0 [.ref 164, .int 13]) (am_cur_of (i := (63, 3, .invokevirtual 306, (174, 1727, 3), 0)) (by decide +kernel)) rfl rfl rfl rfl hm_z
    obtain ⟨r4631_z, h4632_z, q4633_z, hm_z⟩ := hm_z
    obtain ⟨rfl, yq4633_z⟩ := rp_kyN (fun q => absurd (Eq.trans (Eq.symm kc) q.1) (by decide)) q4633_z
    subst yq4633_z
    replace hm_z : rn _ _ _ _ [.int 0] _ _ _ := hm_z
    replace hm_z := rn_ifT (am_cur_of (i := (66, 3, .ifCond .eq 7, (38, 0, 0), 0)) (by decide +kernel)) (by decide) hm_z
    replace hm_z := rn_aload_n (am_cur_of (i := (73, 1, .aload_n 0, (0, 0, 0), 0)) (by decide +kernel)) g0m hm_z
    replace hm_z := rn_getI (v := 3) (am_cur_of (i := (74, 3, .getfield 157, (12, 8, 1392), 0)) (by decide +kernel)) (by decide +kernel) kc hm_z
    replace hm_z := rn_iconst (w := 5) (am_cur_of (i := (77, 1, .iconst 5, (0, 0, 0), 0)) (by decide +kernel)) (by decide) hm_z
    replace hm_z := rn_cmpT (am_cur_of (i := (78, 3, .if_icmp .ne 12, (47, 0, 0), 0)) (by decide +kernel)) (by decide) hm_z
    replace hm_z := rn_aload_n (am_cur_of (i := (90, 1, .aload_n 0, (0, 0, 0), 0)) (by decide +kernel)) g0m hm_z
    replace hm_z := rn_bipush (w := 43) (am_cur_of (i := (91, 2, .bipush 43, (0, 0, 0), 0)) (by decide +kernel)) (by decide) hm_z
    replace hm_z := rn_callV (M' := am_m171) (o := 164) (ar := [.int 43]) (rest := []) (L := lv_args 0 [.ref 164, .int 43]) (am_cur_of (i := (93, 3, .invokevirtual 194, (171, 1715, 3), 0)) (by decide +kernel)) rfl rfl rfl rfl hm_z
    obtain ⟨r4634_z, h4635_z, q4636_z, hm_z⟩ := hm_z
    obtain ⟨rfl, yq4636_z⟩ := rp_sgN (fun q => absurd (Eq.trans (Eq.symm kc) q.1) (by decide)) q4636_z
    subst yq4636_z
    replace hm_z : rn _ _ _ _ [.int 0] _ _ _ := hm_z
    replace hm_z := rn_ifT (am_cur_of (i := (96, 3, .ifCond .eq 8, (53, 0, 0), 0)) (by decide +kernel)) (by decide) hm_z
    replace hm_z := rn_aload_n (am_cur_of (i := (104, 1, .aload_n 0, (0, 0, 0), 0)) (by decide +kernel)) g0m hm_z
    replace hm_z := rn_bipush (w := 45) (am_cur_of (i := (105, 2, .bipush 45, (0, 0, 0), 0)) (by decide +kernel)) (by decide) hm_z
    replace hm_z := rn_callV (M' := am_m171) (o := 164) (ar := [.int 45]) (rest := []) (L := lv_args 0 [.ref 164, .int 45]) (am_cur_of (i := (107, 3, .invokevirtual 194, (171, 1715, 3), 0)) (by decide +kernel)) rfl rfl rfl rfl hm_z
    obtain ⟨r4637_z, h4638_z, q4639_z, hm_z⟩ := hm_z
    obtain ⟨rfl, yq4639_z⟩ := rp_sgN (fun q => absurd (Eq.trans (Eq.symm kc) q.1) (by decide)) q4639_z
    subst yq4639_z
    replace hm_z : rn _ _ _ _ [.int 0] _ _ _ := hm_z
    replace hm_z := rn_ifT (am_cur_of (i := (110, 3, .ifCond .eq 8, (59, 0, 0), 0)) (by decide +kernel)) (by decide) hm_z
    replace hm_z := rn_aload_n (am_cur_of (i := (118, 1, .aload_n 0, (0, 0, 0), 0)) (by decide +kernel)) g0m hm_z
    replace hm_z := rn_bipush (w := 42) (am_cur_of (i := (119, 2, .bipush 42, (0, 0, 0), 0)) (by decide +kernel)) (by decide) hm_z
    replace hm_z := rn_callV (M' := am_m171) (o := 164) (ar := [.int 42]) (rest := []) (L := lv_args 0 [.ref 164, .int 42]) (am_cur_of (i := (121, 3, .invokevirtual 194, (171, 1715, 3), 0)) (by decide +kernel)) rfl rfl rfl rfl hm_z
    obtain ⟨r4640_z, h4641_z, q4642_z, hm_z⟩ := hm_z
    obtain ⟨rfl, yq4642_z⟩ := rp_sgN (fun q => absurd (Eq.trans (Eq.symm kc) q.1) (by decide)) q4642_z
    subst yq4642_z
    replace hm_z : rn _ _ _ _ [.int 0] _ _ _ := hm_z
    replace hm_z := rn_ifT (am_cur_of (i := (124, 3, .ifCond .eq 8, (65, 0, 0), 0)) (by decide +kernel)) (by decide) hm_z
    replace hm_z := rn_aload_n (am_cur_of (i := (132, 1, .aload_n 0, (0, 0, 0), 0)) (by decide +kernel)) g0m hm_z
    replace hm_z := rn_bipush (w := 47) (am_cur_of (i := (133, 2, .bipush 47, (0, 0, 0), 0)) (by decide +kernel)) (by decide) hm_z
    replace hm_z := rn_callV (M' := am_m171) (o := 164) (ar := [.int 47]) (rest := []) (L := lv_args 0 [.ref 164, .int 47]) (am_cur_of (i := (135, 3, .invokevirtual 194, (171, 1715, 3), 0)) (by decide +kernel)) rfl rfl rfl rfl hm_z
    obtain ⟨r4643_z, h4644_z, q4645_z, hm_z⟩ := hm_z
    obtain ⟨rfl, yq4645_z⟩ := rp_sgN (fun q => absurd (Eq.trans (Eq.symm kc) q.1) (by decide)) q4645_z
    subst yq4645_z
    replace hm_z : rn _ _ _ _ [.int 0] _ _ _ := hm_z
    replace hm_z := rn_ifT (am_cur_of (i := (138, 3, .ifCond .eq 8, (71, 0, 0), 0)) (by decide +kernel)) (by decide) hm_z
    replace hm_z := rn_iconst (w := 0) (am_cur_of (i := (146, 1, .iconst 0, (0, 0, 0), 0)) (by decide +kernel)) (by decide) hm_z
    replace hm_z := rn_istore_n (am_cur_of (i := (147, 1, .istore_n 1, (0, 0, 0), 0)) (by decide +kernel)) hm_z
    obtain ⟨_, s4646_z, s4647_z, g1m, hm_z⟩ := hm_z
    replace g0m := s4646_z 0 _ (by decide) rfl g0m
    clear s4646_z s4647_z
    replace hm_z := rn_iload_n (am_cur_of (i := (148, 1, .iload_n 1, (0, 0, 0), 0)) (by decide +kernel)) g1m hm_z
    replace hm_z := rn_ifF (am_cur_of (i := (149, 3, .ifCond .ne 9, (79, 0, 0), 0)) (by decide +kernel)) (by decide) hm_z
    replace hm_z := rn_aload_n (am_cur_of (i := (152, 1, .aload_n 0, (0, 0, 0), 0)) (by decide +kernel)) g0m hm_z
    replace hm_z := rn_iconst (w := 1) (am_cur_of (i := (153, 1, .iconst 1, (0, 0, 0), 0)) (by decide +kernel)) (by decide) hm_z
    replace hm_z := rn_callV (M' := am_m158) (o := 164) (ar := [.int 1]) (rest := []) (L := lv_args 0 [.ref 164, .int 1]) (am_cur_of (i := (154, 3, .invokevirtual 181, (158, 1665, 3), 0)) (by decide +kernel)) rfl rfl rfl rfl hm_z
    obtain ⟨r4648_z, h4649_z, q4650_z, hm_z⟩ := hm_z
    obtain ⟨rfl, yq4650_z⟩ := rp_wrong q4650_z
    subst yq4650_z
    replace hm_z : rn _ _ _ _ [.int 0] _ _ _ := hm_z
    replace hm_z := rn_iret (am_cur_of (i := (157, 1, .ireturn, (0, 0, 0), 0)) (by decide +kernel)) hm_z
    obtain ⟨e4651_z, e4652_z⟩ := hm_z
    subst e4624_z e4652_z
    exact Or.inr ⟨e4623_z, rfl, z4_z.trans (rt_i32 (by rw [show (0 : Int32).toInt = 0 by decide]; omega)), e4651_z, rfl⟩
  · replace b4622_z : (0 : Int32).toInt < op.toInt := b4622_z
    replace hc_z := rn_aload_n (am_cur_of (i := (75, 1, .aload_n 0, (0, 0, 0), 0)) (by decide +kernel)) g0_z hc_z
    replace hc_z := rn_iconst (w := 1) (am_cur_of (i := (76, 1, .iconst 1, (0, 0, 0), 0)) (by decide +kernel)) (by decide) hc_z
    replace hc_z := rn_callV (M' := am_m29) (o := 44) (ar := [.int 1]) (rest := []) (L := lv_args 0 [.ref 44, .int 1]) (am_cur_of (i := (77, 3, .invokevirtual 108, (29, 769, 3), 0)) (by decide +kernel)) rfl rfl rfl rfl hc_z
    obtain ⟨r4653_z, h4654_z, q4655_z, hc_z⟩ := hc_z
    obtain ⟨rfl, yq4655_z⟩ := rp_fail R4 q4655_z
    subst yq4655_z
    replace hc_z : rn _ _ _ _ [] _ _ _ := hc_z
    have K := rs_stick (w := 1) (q := p) (a := 44) (by decide) (by decide) rfl (by decide) rfl (show rg_v (am_up (am_up h 44 1 (.int 1)) 44 2 (.int (rg_v h 44 9))) 44 2 = p from R5) hc_z
    replace hm_z := rn_aload_n (am_cur_of (i := (0, 1, .aload_n 0, (0, 0, 0), 0)) (by decide +kernel)) g0m hm_z
    replace hm_z := rn_bipush (w := 41) (am_cur_of (i := (1, 2, .bipush 41, (0, 0, 0), 0)) (by decide +kernel)) (by decide) hm_z
    replace hm_z := rn_callV (M' := am_m171) (o := 164) (ar := [.int 41]) (rest := []) (L := lv_args 0 [.ref 164, .int 41]) (am_cur_of (i := (3, 3, .invokevirtual 194, (171, 1715, 3), 0)) (by decide +kernel)) rfl rfl rfl rfl hm_z
    obtain ⟨r4656_z, h4657_z, q4658_z, hm_z⟩ := hm_z
    obtain ⟨rfl, yq4658_z⟩ := rp_sgN (fun q => absurd (Eq.trans (Eq.symm kc) q.1) (by decide)) q4658_z
    subst yq4658_z
    replace hm_z : rn _ _ _ _ [.int 0] _ _ _ := hm_z
    replace hm_z := rn_ifT (am_cur_of (i := (6, 3, .ifCond .eq 41, (26, 0, 0), 0)) (by decide +kernel)) (by decide) hm_z
    replace hm_z := rn_aload_n (am_cur_of (i := (47, 1, .aload_n 0, (0, 0, 0), 0)) (by decide +kernel)) g0m hm_z
    replace hm_z := rn_bipush (w := 12) (am_cur_of (i := (48, 2, .bipush 12, (0, 0, 0), 0)) (by decide +kernel)) (by decide) hm_z
    replace hm_z := rn_callV (M' := am_m174) (o := 164) (ar := [.int 12]) (rest := []) (L := lv_args 0 [.ref 164, .int 12]) (am_cur_of (i := (50, 3, .invokevirtual 306, (174, 1727, 3), 0)) (by decide +kernel)) rfl rfl rfl rfl hm_z
    obtain ⟨r4659_z, h4660_z, q4661_z, hm_z⟩ := hm_z
    obtain ⟨rfl, yq4661_z⟩ := rp_kyN (fun q => absurd (Eq.trans (Eq.symm kc) q.1) (by decide)) q4661_z
    subst yq4661_z
    replace hm_z : rn _ _ _ _ [.int 0] _ _ _ := hm_z
    replace hm_z := rn_ifT (am_cur_of (i := (53, 3, .ifCond .eq 7, (32, 0, 0), 0)) (by decide +kernel)) (by decide) hm_z
    replace hm_z := rn_aload_n (am_cur_of (i := (60, 1, .aload_n 0, (0, 0, 0), 0)) (by decide +kernel)) g0m hm_z
    replace hm_z := rn_bipush (w := 13) (am_cur_of (i := (61, 2, .bipush 13, (0, 0, 0), 0)) (by decide +kernel)) (by decide) hm_z
    replace hm_z := rn_callV (M' := am_m174) (o := 164) (ar := [.int 13]) (rest := []) (L := lv_args 0 [.ref 164, .int 13]) (am_cur_of (i := (63, 3, .invokevirtual 306, (174, 1727, 3), 0)) (by decide +kernel)) rfl rfl rfl rfl hm_z
    obtain ⟨r4662_z, h4663_z, q4664_z, hm_z⟩ := hm_z
    obtain ⟨rfl, yq4664_z⟩ := rp_kyN (fun q => absurd (Eq.trans (Eq.symm kc) q.1) (by decide)) q4664_z
    subst yq4664_z
    replace hm_z : rn _ _ _ _ [.int 0] _ _ _ := hm_z
    replace hm_z := rn_ifT (am_cur_of (i := (66, 3, .ifCond .eq 7, (38, 0, 0), 0)) (by decide +kernel)) (by decide) hm_z
    replace hm_z := rn_aload_n (am_cur_of (i := (73, 1, .aload_n 0, (0, 0, 0), 0)) (by decide +kernel)) g0m hm_z
    replace hm_z := rn_getI (v := 3) (am_cur_of (i := (74, 3, .getfield 157, (12, 8, 1392), 0)) (by decide +kernel)) (by decide +kernel) kc hm_z
    replace hm_z := rn_iconst (w := 5) (am_cur_of (i := (77, 1, .iconst 5, (0, 0, 0), 0)) (by decide +kernel)) (by decide) hm_z
    replace hm_z := rn_cmpT (am_cur_of (i := (78, 3, .if_icmp .ne 12, (47, 0, 0), 0)) (by decide +kernel)) (by decide) hm_z
    replace hm_z := rn_aload_n (am_cur_of (i := (90, 1, .aload_n 0, (0, 0, 0), 0)) (by decide +kernel)) g0m hm_z
    replace hm_z := rn_bipush (w := 43) (am_cur_of (i := (91, 2, .bipush 43, (0, 0, 0), 0)) (by decide +kernel)) (by decide) hm_z
    replace hm_z := rn_callV (M' := am_m171) (o := 164) (ar := [.int 43]) (rest := []) (L := lv_args 0 [.ref 164, .int 43]) (am_cur_of (i := (93, 3, .invokevirtual 194, (171, 1715, 3), 0)) (by decide +kernel)) rfl rfl rfl rfl hm_z
    obtain ⟨r4665_z, h4666_z, q4667_z, hm_z⟩ := hm_z
    obtain ⟨rfl, yq4667_z⟩ := rp_sgN (fun q => absurd (Eq.trans (Eq.symm kc) q.1) (by decide)) q4667_z
    subst yq4667_z
    replace hm_z : rn _ _ _ _ [.int 0] _ _ _ := hm_z
    replace hm_z := rn_ifT (am_cur_of (i := (96, 3, .ifCond .eq 8, (53, 0, 0), 0)) (by decide +kernel)) (by decide) hm_z
    replace hm_z := rn_aload_n (am_cur_of (i := (104, 1, .aload_n 0, (0, 0, 0), 0)) (by decide +kernel)) g0m hm_z
    replace hm_z := rn_bipush (w := 45) (am_cur_of (i := (105, 2, .bipush 45, (0, 0, 0), 0)) (by decide +kernel)) (by decide) hm_z
    replace hm_z := rn_callV (M' := am_m171) (o := 164) (ar := [.int 45]) (rest := []) (L := lv_args 0 [.ref 164, .int 45]) (am_cur_of (i := (107, 3, .invokevirtual 194, (171, 1715, 3), 0)) (by decide +kernel)) rfl rfl rfl rfl hm_z
    obtain ⟨r4668_z, h4669_z, q4670_z, hm_z⟩ := hm_z
    obtain ⟨rfl, yq4670_z⟩ := rp_sgN (fun q => absurd (Eq.trans (Eq.symm kc) q.1) (by decide)) q4670_z
    subst yq4670_z
    replace hm_z : rn _ _ _ _ [.int 0] _ _ _ := hm_z
    replace hm_z := rn_ifT (am_cur_of (i := (110, 3, .ifCond .eq 8, (59, 0, 0), 0)) (by decide +kernel)) (by decide) hm_z
    replace hm_z := rn_aload_n (am_cur_of (i := (118, 1, .aload_n 0, (0, 0, 0), 0)) (by decide +kernel)) g0m hm_z
    replace hm_z := rn_bipush (w := 42) (am_cur_of (i := (119, 2, .bipush 42, (0, 0, 0), 0)) (by decide +kernel)) (by decide) hm_z
    replace hm_z := rn_callV (M' := am_m171) (o := 164) (ar := [.int 42]) (rest := []) (L := lv_args 0 [.ref 164, .int 42]) (am_cur_of (i := (121, 3, .invokevirtual 194, (171, 1715, 3), 0)) (by decide +kernel)) rfl rfl rfl rfl hm_z
    obtain ⟨r4671_z, h4672_z, q4673_z, hm_z⟩ := hm_z
    obtain ⟨rfl, yq4673_z⟩ := rp_sgN (fun q => absurd (Eq.trans (Eq.symm kc) q.1) (by decide)) q4673_z
    subst yq4673_z
    replace hm_z : rn _ _ _ _ [.int 0] _ _ _ := hm_z
    replace hm_z := rn_ifT (am_cur_of (i := (124, 3, .ifCond .eq 8, (65, 0, 0), 0)) (by decide +kernel)) (by decide) hm_z
    replace hm_z := rn_aload_n (am_cur_of (i := (132, 1, .aload_n 0, (0, 0, 0), 0)) (by decide +kernel)) g0m hm_z
    replace hm_z := rn_bipush (w := 47) (am_cur_of (i := (133, 2, .bipush 47, (0, 0, 0), 0)) (by decide +kernel)) (by decide) hm_z
    replace hm_z := rn_callV (M' := am_m171) (o := 164) (ar := [.int 47]) (rest := []) (L := lv_args 0 [.ref 164, .int 47]) (am_cur_of (i := (135, 3, .invokevirtual 194, (171, 1715, 3), 0)) (by decide +kernel)) rfl rfl rfl rfl hm_z
    obtain ⟨r4674_z, h4675_z, q4676_z, hm_z⟩ := hm_z
    obtain ⟨rfl, yq4676_z⟩ := rp_sgN (fun q => absurd (Eq.trans (Eq.symm kc) q.1) (by decide)) q4676_z
    subst yq4676_z
    replace hm_z : rn _ _ _ _ [.int 0] _ _ _ := hm_z
    replace hm_z := rn_ifT (am_cur_of (i := (138, 3, .ifCond .eq 8, (71, 0, 0), 0)) (by decide +kernel)) (by decide) hm_z
    replace hm_z := rn_iconst (w := 0) (am_cur_of (i := (146, 1, .iconst 0, (0, 0, 0), 0)) (by decide +kernel)) (by decide) hm_z
    replace hm_z := rn_istore_n (am_cur_of (i := (147, 1, .istore_n 1, (0, 0, 0), 0)) (by decide +kernel)) hm_z
    obtain ⟨_, s4677_z, s4678_z, g1m, hm_z⟩ := hm_z
    replace g0m := s4677_z 0 _ (by decide) rfl g0m
    clear s4677_z s4678_z
    replace hm_z := rn_iload_n (am_cur_of (i := (148, 1, .iload_n 1, (0, 0, 0), 0)) (by decide +kernel)) g1m hm_z
    replace hm_z := rn_ifF (am_cur_of (i := (149, 3, .ifCond .ne 9, (79, 0, 0), 0)) (by decide +kernel)) (by decide) hm_z
    replace hm_z := rn_aload_n (am_cur_of (i := (152, 1, .aload_n 0, (0, 0, 0), 0)) (by decide +kernel)) g0m hm_z
    replace hm_z := rn_iconst (w := 1) (am_cur_of (i := (153, 1, .iconst 1, (0, 0, 0), 0)) (by decide +kernel)) (by decide) hm_z
    replace hm_z := rn_callV (M' := am_m158) (o := 164) (ar := [.int 1]) (rest := []) (L := lv_args 0 [.ref 164, .int 1]) (am_cur_of (i := (154, 3, .invokevirtual 181, (158, 1665, 3), 0)) (by decide +kernel)) rfl rfl rfl rfl hm_z
    obtain ⟨r4679_z, h4680_z, q4681_z, hm_z⟩ := hm_z
    obtain ⟨rfl, yq4681_z⟩ := rp_wrong q4681_z
    subst yq4681_z
    replace hm_z : rn _ _ _ _ [.int 0] _ _ _ := hm_z
    replace hm_z := rn_iret (am_cur_of (i := (157, 1, .ireturn, (0, 0, 0), 0)) (by decide +kernel)) hm_z
    obtain ⟨e4682_z, e4683_z⟩ := hm_z
    subst e4682_z e4683_z
    exact Or.inl (Or.inr ⟨rfl, 1, by decide, K.1, K.2, rfl, R6⟩)
theorem rj_c12_2 {T : Nat → Int32} {S x p : Int32} {n n' : Nat} {h h' g g' : am_H} {r r' : Option Value} (R : rq T S x p 2 h g) (A : rp 2 h g) (B : rp_t h g) (Z : rs 2 h g) (w0_z : rg_v g 164 45 = 0) (ka : (rg_v h 44 10) = 5) (kc : (rg_v g 164 8) = 4) (kb : (rg_v h 44 11) = 59) (kd : (rg_v g 164 9) = 59) (hc_z : rn n am_m44 0 (lv_args 0 [.ref 44]) [] h r h') (hm_z : rn n' am_m178 0 (lv_args 0 [.ref 164]) [] g r' g') : rj_Q T S x p 2 h g h' g' r r' := by
  have z0_z : (0 : Int32).toInt = 0 := by decide
  have g0_z : am_get (lv_args 0 [.ref 44]) 0 = some (.ref 44) := rfl
  have g0m : am_get (lv_args 0 [.ref 164]) 0 = some (.ref 164) := rfl
  have Rk := R
  have Zk := Z
  obtain ⟨⟨c1_z, c2_z, c3_z, c4_z, c5_z, c6_z, c7_z, c8_z⟩, ⟨m2_z, m3_z, m4_z, m5_z, m6_z, m7_z, m8_z⟩, R3, R4, R5, R6, R7, R8, R9, R10⟩ := (R : rq T S x p 2 h g)
  obtain ⟨np, op, z1_z, z2_z, z3_z, z4_z, z5_z, z6_z, z7_z, z8_z, z9_z, z10_z⟩ := (Z : rs 2 h g)
  obtain ⟨nk1_z, nk2_z, nk3_z⟩ := A.2.2.2.2.2.1
  replace nk1_z : rg_v h 11 0 = rg_v g 164 44 := nk1_z
  replace nk2_z : 0 ≤ (rg_v h 11 0).toInt := nk2_z
  replace nk3_z : (rg_v h 11 0).toInt ≤ 64 := nk3_z
  replace z8_z : np.toInt ≤ (rg_v h 11 0).toInt + op.toInt := z8_z
  obtain ⟨kn, ekn⟩ : ∃ v, rg_v h 11 0 = v := ⟨_, rfl⟩
  rw [ekn] at nk1_z nk2_z nk3_z z8_z
  have e9_z := rt_c1 (x := kn) (by omega) (by omega)
  replace hc_z := rn_aload_n (am_cur_of (i := (0, 1, .aload_n 0, (0, 0, 0), 0)) (by decide +kernel)) g0_z hc_z
  replace hc_z := rn_bipush (w := 41) (am_cur_of (i := (1, 2, .bipush 41, (0, 0, 0), 0)) (by decide +kernel)) (by decide) hc_z
  replace hc_z := rn_callV (M' := am_m45) (o := 44) (ar := [.int 41]) (rest := []) (L := lv_args 0 [.ref 44, .int 41]) (am_cur_of (i := (3, 3, .invokevirtual 105, (45, 834, 3), 0)) (by decide +kernel)) rfl rfl rfl rfl hc_z
  obtain ⟨r4684_z, h4685_z, q4686_z, hc_z⟩ := hc_z
  obtain ⟨rfl, yq4686_z⟩ := rp_mkN (fun q => absurd (Eq.trans (Eq.symm kb) q.2) (by decide)) q4686_z
  subst yq4686_z
  replace hc_z : rn _ _ _ _ [.int 0] _ _ _ := hc_z
  replace hc_z := rn_ifT (am_cur_of (i := (6, 3, .ifCond .eq 45, (28, 0, 0), 0)) (by decide +kernel)) (by decide) hc_z
  replace hc_z := rn_aload_n (am_cur_of (i := (51, 1, .aload_n 0, (0, 0, 0), 0)) (by decide +kernel)) g0_z hc_z
  replace hc_z := rn_getI (v := 5) (am_cur_of (i := (52, 3, .getfield 60, (4, 10, 419), 0)) (by decide +kernel)) (by decide +kernel) ka hc_z
  replace hc_z := rn_bipush (w := 6) (am_cur_of (i := (55, 2, .bipush 6, (0, 0, 0), 0)) (by decide +kernel)) (by decide) hc_z
  replace hc_z := rn_cmpT (am_cur_of (i := (57, 3, .if_icmp .ne 11, (36, 0, 0), 0)) (by decide +kernel)) (by decide) hc_z
  replace hc_z := rn_aload_n (am_cur_of (i := (68, 1, .aload_n 0, (0, 0, 0), 0)) (by decide +kernel)) g0_z hc_z
  replace hc_z := rn_getI (v := op) (am_cur_of (i := (69, 3, .getfield 254, (4, 14, 423), 0)) (by decide +kernel)) (by decide +kernel) z4_z hc_z
  replace hc_z := rn_if (am_cur_of (i := (72, 3, .ifCond .le 8, (42, 0, 0), 0)) (by decide +kernel)) hc_z
  rcases hc_z with ⟨b4687_z, hc_z⟩ | ⟨b4687_z, hc_z⟩
  · replace b4687_z : op.toInt ≤ (0 : Int32).toInt := b4687_z
    replace hc_z := rn_iconst (w := 3) (am_cur_of (i := (80, 1, .iconst 3, (0, 0, 0), 0)) (by decide +kernel)) (by decide) hc_z
    replace hc_z := rn_iret (am_cur_of (i := (81, 1, .ireturn, (0, 0, 0), 0)) (by decide +kernel)) hc_z
    obtain ⟨e4688_z, e4689_z⟩ := hc_z
    replace hm_z := rn_aload_n (am_cur_of (i := (0, 1, .aload_n 0, (0, 0, 0), 0)) (by decide +kernel)) g0m hm_z
    replace hm_z := rn_bipush (w := 41) (am_cur_of (i := (1, 2, .bipush 41, (0, 0, 0), 0)) (by decide +kernel)) (by decide) hm_z
    replace hm_z := rn_callV (M' := am_m171) (o := 164) (ar := [.int 41]) (rest := []) (L := lv_args 0 [.ref 164, .int 41]) (am_cur_of (i := (3, 3, .invokevirtual 194, (171, 1715, 3), 0)) (by decide +kernel)) rfl rfl rfl rfl hm_z
    obtain ⟨r4690_z, h4691_z, q4692_z, hm_z⟩ := hm_z
    obtain ⟨rfl, yq4692_z⟩ := rp_sgN (fun q => absurd (Eq.trans (Eq.symm kd) q.2) (by decide)) q4692_z
    subst yq4692_z
    replace hm_z : rn _ _ _ _ [.int 0] _ _ _ := hm_z
    replace hm_z := rn_ifT (am_cur_of (i := (6, 3, .ifCond .eq 41, (26, 0, 0), 0)) (by decide +kernel)) (by decide) hm_z
    replace hm_z := rn_aload_n (am_cur_of (i := (47, 1, .aload_n 0, (0, 0, 0), 0)) (by decide +kernel)) g0m hm_z
    replace hm_z := rn_bipush (w := 12) (am_cur_of (i := (48, 2, .bipush 12, (0, 0, 0), 0)) (by decide +kernel)) (by decide) hm_z
    replace hm_z := rn_callV (M' := am_m174) (o := 164) (ar := [.int 12]) (rest := []) (L := lv_args 0 [.ref 164, .int 12]) (am_cur_of (i := (50, 3, .invokevirtual 306, (174, 1727, 3), 0)) (by decide +kernel)) rfl rfl rfl rfl hm_z
    obtain ⟨r4693_z, h4694_z, q4695_z, hm_z⟩ := hm_z
    obtain ⟨rfl, yq4695_z⟩ := rp_kyN (fun q => absurd (Eq.trans (Eq.symm kc) q.1) (by decide)) q4695_z
    subst yq4695_z
    replace hm_z : rn _ _ _ _ [.int 0] _ _ _ := hm_z
    replace hm_z := rn_ifT (am_cur_of (i := (53, 3, .ifCond .eq 7, (32, 0, 0), 0)) (by decide +kernel)) (by decide) hm_z
    replace hm_z := rn_aload_n (am_cur_of (i := (60, 1, .aload_n 0, (0, 0, 0), 0)) (by decide +kernel)) g0m hm_z
    replace hm_z := rn_bipush (w := 13) (am_cur_of (i := (61, 2, .bipush 13, (0, 0, 0), 0)) (by decide +kernel)) (by decide) hm_z
    replace hm_z := rn_callV (M' := am_m174) (o := 164) (ar := [.int 13]) (rest := []) (L := lv_args 0 [.ref 164, .int 13]) (am_cur_of (i := (63, 3, .invokevirtual 306, (174, 1727, 3), 0)) (by decide +kernel)) rfl rfl rfl rfl hm_z
    obtain ⟨r4696_z, h4697_z, q4698_z, hm_z⟩ := hm_z
    obtain ⟨rfl, yq4698_z⟩ := rp_kyN (fun q => absurd (Eq.trans (Eq.symm kc) q.1) (by decide)) q4698_z
    subst yq4698_z
    replace hm_z : rn _ _ _ _ [.int 0] _ _ _ := hm_z
    replace hm_z := rn_ifT (am_cur_of (i := (66, 3, .ifCond .eq 7, (38, 0, 0), 0)) (by decide +kernel)) (by decide) hm_z
    replace hm_z := rn_aload_n (am_cur_of (i := (73, 1, .aload_n 0, (0, 0, 0), 0)) (by decide +kernel)) g0m hm_z
    replace hm_z := rn_getI (v := 4) (am_cur_of (i := (74, 3, .getfield 157, (12, 8, 1392), 0)) (by decide +kernel)) (by decide +kernel) kc hm_z
    replace hm_z := rn_iconst (w := 5) (am_cur_of (i := (77, 1, .iconst 5, (0, 0, 0), 0)) (by decide +kernel)) (by decide) hm_z
    replace hm_z := rn_cmpT (am_cur_of (i := (78, 3, .if_icmp .ne 12, (47, 0, 0), 0)) (by decide +kernel)) (by decide) hm_z
    replace hm_z := rn_aload_n (am_cur_of (i := (90, 1, .aload_n 0, (0, 0, 0), 0)) (by decide +kernel)) g0m hm_z
    replace hm_z := rn_bipush (w := 43) (am_cur_of (i := (91, 2, .bipush 43, (0, 0, 0), 0)) (by decide +kernel)) (by decide) hm_z
    replace hm_z := rn_callV (M' := am_m171) (o := 164) (ar := [.int 43]) (rest := []) (L := lv_args 0 [.ref 164, .int 43]) (am_cur_of (i := (93, 3, .invokevirtual 194, (171, 1715, 3), 0)) (by decide +kernel)) rfl rfl rfl rfl hm_z
    obtain ⟨r4699_z, h4700_z, q4701_z, hm_z⟩ := hm_z
    obtain ⟨rfl, yq4701_z⟩ := rp_sgN (fun q => absurd (Eq.trans (Eq.symm kd) q.2) (by decide)) q4701_z
    subst yq4701_z
    replace hm_z : rn _ _ _ _ [.int 0] _ _ _ := hm_z
    replace hm_z := rn_ifT (am_cur_of (i := (96, 3, .ifCond .eq 8, (53, 0, 0), 0)) (by decide +kernel)) (by decide) hm_z
    replace hm_z := rn_aload_n (am_cur_of (i := (104, 1, .aload_n 0, (0, 0, 0), 0)) (by decide +kernel)) g0m hm_z
    replace hm_z := rn_bipush (w := 45) (am_cur_of (i := (105, 2, .bipush 45, (0, 0, 0), 0)) (by decide +kernel)) (by decide) hm_z
    replace hm_z := rn_callV (M' := am_m171) (o := 164) (ar := [.int 45]) (rest := []) (L := lv_args 0 [.ref 164, .int 45]) (am_cur_of (i := (107, 3, .invokevirtual 194, (171, 1715, 3), 0)) (by decide +kernel)) rfl rfl rfl rfl hm_z
    obtain ⟨r4702_z, h4703_z, q4704_z, hm_z⟩ := hm_z
    obtain ⟨rfl, yq4704_z⟩ := rp_sgN (fun q => absurd (Eq.trans (Eq.symm kd) q.2) (by decide)) q4704_z
    subst yq4704_z
    replace hm_z : rn _ _ _ _ [.int 0] _ _ _ := hm_z
    replace hm_z := rn_ifT (am_cur_of (i := (110, 3, .ifCond .eq 8, (59, 0, 0), 0)) (by decide +kernel)) (by decide) hm_z
    replace hm_z := rn_aload_n (am_cur_of (i := (118, 1, .aload_n 0, (0, 0, 0), 0)) (by decide +kernel)) g0m hm_z
    replace hm_z := rn_bipush (w := 42) (am_cur_of (i := (119, 2, .bipush 42, (0, 0, 0), 0)) (by decide +kernel)) (by decide) hm_z
    replace hm_z := rn_callV (M' := am_m171) (o := 164) (ar := [.int 42]) (rest := []) (L := lv_args 0 [.ref 164, .int 42]) (am_cur_of (i := (121, 3, .invokevirtual 194, (171, 1715, 3), 0)) (by decide +kernel)) rfl rfl rfl rfl hm_z
    obtain ⟨r4705_z, h4706_z, q4707_z, hm_z⟩ := hm_z
    obtain ⟨rfl, yq4707_z⟩ := rp_sgN (fun q => absurd (Eq.trans (Eq.symm kd) q.2) (by decide)) q4707_z
    subst yq4707_z
    replace hm_z : rn _ _ _ _ [.int 0] _ _ _ := hm_z
    replace hm_z := rn_ifT (am_cur_of (i := (124, 3, .ifCond .eq 8, (65, 0, 0), 0)) (by decide +kernel)) (by decide) hm_z
    replace hm_z := rn_aload_n (am_cur_of (i := (132, 1, .aload_n 0, (0, 0, 0), 0)) (by decide +kernel)) g0m hm_z
    replace hm_z := rn_bipush (w := 47) (am_cur_of (i := (133, 2, .bipush 47, (0, 0, 0), 0)) (by decide +kernel)) (by decide) hm_z
    replace hm_z := rn_callV (M' := am_m171) (o := 164) (ar := [.int 47]) (rest := []) (L := lv_args 0 [.ref 164, .int 47]) (am_cur_of (i := (135, 3, .invokevirtual 194, (171, 1715, 3), 0)) (by decide +kernel)) rfl rfl rfl rfl hm_z
    obtain ⟨r4708_z, h4709_z, q4710_z, hm_z⟩ := hm_z
    obtain ⟨rfl, yq4710_z⟩ := rp_sgN (fun q => absurd (Eq.trans (Eq.symm kd) q.2) (by decide)) q4710_z
    subst yq4710_z
    replace hm_z : rn _ _ _ _ [.int 0] _ _ _ := hm_z
    replace hm_z := rn_ifT (am_cur_of (i := (138, 3, .ifCond .eq 8, (71, 0, 0), 0)) (by decide +kernel)) (by decide) hm_z
    replace hm_z := rn_iconst (w := 0) (am_cur_of (i := (146, 1, .iconst 0, (0, 0, 0), 0)) (by decide +kernel)) (by decide) hm_z
    replace hm_z := rn_istore_n (am_cur_of (i := (147, 1, .istore_n 1, (0, 0, 0), 0)) (by decide +kernel)) hm_z
    obtain ⟨_, s4711_z, s4712_z, g1m, hm_z⟩ := hm_z
    replace g0m := s4711_z 0 _ (by decide) rfl g0m
    clear s4711_z s4712_z
    replace hm_z := rn_iload_n (am_cur_of (i := (148, 1, .iload_n 1, (0, 0, 0), 0)) (by decide +kernel)) g1m hm_z
    replace hm_z := rn_ifF (am_cur_of (i := (149, 3, .ifCond .ne 9, (79, 0, 0), 0)) (by decide +kernel)) (by decide) hm_z
    replace hm_z := rn_aload_n (am_cur_of (i := (152, 1, .aload_n 0, (0, 0, 0), 0)) (by decide +kernel)) g0m hm_z
    replace hm_z := rn_iconst (w := 1) (am_cur_of (i := (153, 1, .iconst 1, (0, 0, 0), 0)) (by decide +kernel)) (by decide) hm_z
    replace hm_z := rn_callV (M' := am_m158) (o := 164) (ar := [.int 1]) (rest := []) (L := lv_args 0 [.ref 164, .int 1]) (am_cur_of (i := (154, 3, .invokevirtual 181, (158, 1665, 3), 0)) (by decide +kernel)) rfl rfl rfl rfl hm_z
    obtain ⟨r4713_z, h4714_z, q4715_z, hm_z⟩ := hm_z
    obtain ⟨rfl, yq4715_z⟩ := rp_wrong q4715_z
    subst yq4715_z
    replace hm_z : rn _ _ _ _ [.int 0] _ _ _ := hm_z
    replace hm_z := rn_iret (am_cur_of (i := (157, 1, .ireturn, (0, 0, 0), 0)) (by decide +kernel)) hm_z
    obtain ⟨e4716_z, e4717_z⟩ := hm_z
    subst e4689_z e4717_z
    exact Or.inr ⟨e4688_z, rfl, z4_z.trans (rt_i32 (by rw [show (0 : Int32).toInt = 0 by decide]; omega)), e4716_z, rfl⟩
  · replace b4687_z : (0 : Int32).toInt < op.toInt := b4687_z
    replace hc_z := rn_aload_n (am_cur_of (i := (75, 1, .aload_n 0, (0, 0, 0), 0)) (by decide +kernel)) g0_z hc_z
    replace hc_z := rn_iconst (w := 1) (am_cur_of (i := (76, 1, .iconst 1, (0, 0, 0), 0)) (by decide +kernel)) (by decide) hc_z
    replace hc_z := rn_callV (M' := am_m29) (o := 44) (ar := [.int 1]) (rest := []) (L := lv_args 0 [.ref 44, .int 1]) (am_cur_of (i := (77, 3, .invokevirtual 108, (29, 769, 3), 0)) (by decide +kernel)) rfl rfl rfl rfl hc_z
    obtain ⟨r4718_z, h4719_z, q4720_z, hc_z⟩ := hc_z
    obtain ⟨rfl, yq4720_z⟩ := rp_fail R4 q4720_z
    subst yq4720_z
    replace hc_z : rn _ _ _ _ [] _ _ _ := hc_z
    have K := rs_stick (w := 1) (q := p) (a := 44) (by decide) (by decide) rfl (by decide) rfl (show rg_v (am_up (am_up h 44 1 (.int 1)) 44 2 (.int (rg_v h 44 9))) 44 2 = p from R5) hc_z
    replace hm_z := rn_aload_n (am_cur_of (i := (0, 1, .aload_n 0, (0, 0, 0), 0)) (by decide +kernel)) g0m hm_z
    replace hm_z := rn_bipush (w := 41) (am_cur_of (i := (1, 2, .bipush 41, (0, 0, 0), 0)) (by decide +kernel)) (by decide) hm_z
    replace hm_z := rn_callV (M' := am_m171) (o := 164) (ar := [.int 41]) (rest := []) (L := lv_args 0 [.ref 164, .int 41]) (am_cur_of (i := (3, 3, .invokevirtual 194, (171, 1715, 3), 0)) (by decide +kernel)) rfl rfl rfl rfl hm_z
    obtain ⟨r4721_z, h4722_z, q4723_z, hm_z⟩ := hm_z
    obtain ⟨rfl, yq4723_z⟩ := rp_sgN (fun q => absurd (Eq.trans (Eq.symm kd) q.2) (by decide)) q4723_z
    subst yq4723_z
    replace hm_z : rn _ _ _ _ [.int 0] _ _ _ := hm_z
    replace hm_z := rn_ifT (am_cur_of (i := (6, 3, .ifCond .eq 41, (26, 0, 0), 0)) (by decide +kernel)) (by decide) hm_z
    replace hm_z := rn_aload_n (am_cur_of (i := (47, 1, .aload_n 0, (0, 0, 0), 0)) (by decide +kernel)) g0m hm_z
    replace hm_z := rn_bipush (w := 12) (am_cur_of (i := (48, 2, .bipush 12, (0, 0, 0), 0)) (by decide +kernel)) (by decide) hm_z
    replace hm_z := rn_callV (M' := am_m174) (o := 164) (ar := [.int 12]) (rest := []) (L := lv_args 0 [.ref 164, .int 12]) (am_cur_of (i := (50, 3, .invokevirtual 306, (174, 1727, 3), 0)) (by decide +kernel)) rfl rfl rfl rfl hm_z
    obtain ⟨r4724_z, h4725_z, q4726_z, hm_z⟩ := hm_z
    obtain ⟨rfl, yq4726_z⟩ := rp_kyN (fun q => absurd (Eq.trans (Eq.symm kc) q.1) (by decide)) q4726_z
    subst yq4726_z
    replace hm_z : rn _ _ _ _ [.int 0] _ _ _ := hm_z
    replace hm_z := rn_ifT (am_cur_of (i := (53, 3, .ifCond .eq 7, (32, 0, 0), 0)) (by decide +kernel)) (by decide) hm_z
    replace hm_z := rn_aload_n (am_cur_of (i := (60, 1, .aload_n 0, (0, 0, 0), 0)) (by decide +kernel)) g0m hm_z
    replace hm_z := rn_bipush (w := 13) (am_cur_of (i := (61, 2, .bipush 13, (0, 0, 0), 0)) (by decide +kernel)) (by decide) hm_z
    replace hm_z := rn_callV (M' := am_m174) (o := 164) (ar := [.int 13]) (rest := []) (L := lv_args 0 [.ref 164, .int 13]) (am_cur_of (i := (63, 3, .invokevirtual 306, (174, 1727, 3), 0)) (by decide +kernel)) rfl rfl rfl rfl hm_z
    obtain ⟨r4727_z, h4728_z, q4729_z, hm_z⟩ := hm_z
    obtain ⟨rfl, yq4729_z⟩ := rp_kyN (fun q => absurd (Eq.trans (Eq.symm kc) q.1) (by decide)) q4729_z
    subst yq4729_z
    replace hm_z : rn _ _ _ _ [.int 0] _ _ _ := hm_z
    replace hm_z := rn_ifT (am_cur_of (i := (66, 3, .ifCond .eq 7, (38, 0, 0), 0)) (by decide +kernel)) (by decide) hm_z
    replace hm_z := rn_aload_n (am_cur_of (i := (73, 1, .aload_n 0, (0, 0, 0), 0)) (by decide +kernel)) g0m hm_z
    replace hm_z := rn_getI (v := 4) (am_cur_of (i := (74, 3, .getfield 157, (12, 8, 1392), 0)) (by decide +kernel)) (by decide +kernel) kc hm_z
    replace hm_z := rn_iconst (w := 5) (am_cur_of (i := (77, 1, .iconst 5, (0, 0, 0), 0)) (by decide +kernel)) (by decide) hm_z
    replace hm_z := rn_cmpT (am_cur_of (i := (78, 3, .if_icmp .ne 12, (47, 0, 0), 0)) (by decide +kernel)) (by decide) hm_z
    replace hm_z := rn_aload_n (am_cur_of (i := (90, 1, .aload_n 0, (0, 0, 0), 0)) (by decide +kernel)) g0m hm_z
    replace hm_z := rn_bipush (w := 43) (am_cur_of (i := (91, 2, .bipush 43, (0, 0, 0), 0)) (by decide +kernel)) (by decide) hm_z
    replace hm_z := rn_callV (M' := am_m171) (o := 164) (ar := [.int 43]) (rest := []) (L := lv_args 0 [.ref 164, .int 43]) (am_cur_of (i := (93, 3, .invokevirtual 194, (171, 1715, 3), 0)) (by decide +kernel)) rfl rfl rfl rfl hm_z
    obtain ⟨r4730_z, h4731_z, q4732_z, hm_z⟩ := hm_z
    obtain ⟨rfl, yq4732_z⟩ := rp_sgN (fun q => absurd (Eq.trans (Eq.symm kd) q.2) (by decide)) q4732_z
    subst yq4732_z
    replace hm_z : rn _ _ _ _ [.int 0] _ _ _ := hm_z
    replace hm_z := rn_ifT (am_cur_of (i := (96, 3, .ifCond .eq 8, (53, 0, 0), 0)) (by decide +kernel)) (by decide) hm_z
    replace hm_z := rn_aload_n (am_cur_of (i := (104, 1, .aload_n 0, (0, 0, 0), 0)) (by decide +kernel)) g0m hm_z
    replace hm_z := rn_bipush (w := 45) (am_cur_of (i := (105, 2, .bipush 45, (0, 0, 0), 0)) (by decide +kernel)) (by decide) hm_z
    replace hm_z := rn_callV (M' := am_m171) (o := 164) (ar := [.int 45]) (rest := []) (L := lv_args 0 [.ref 164, .int 45]) (am_cur_of (i := (107, 3, .invokevirtual 194, (171, 1715, 3), 0)) (by decide +kernel)) rfl rfl rfl rfl hm_z
    obtain ⟨r4733_z, h4734_z, q4735_z, hm_z⟩ := hm_z
    obtain ⟨rfl, yq4735_z⟩ := rp_sgN (fun q => absurd (Eq.trans (Eq.symm kd) q.2) (by decide)) q4735_z
    subst yq4735_z
    replace hm_z : rn _ _ _ _ [.int 0] _ _ _ := hm_z
    replace hm_z := rn_ifT (am_cur_of (i := (110, 3, .ifCond .eq 8, (59, 0, 0), 0)) (by decide +kernel)) (by decide) hm_z
    replace hm_z := rn_aload_n (am_cur_of (i := (118, 1, .aload_n 0, (0, 0, 0), 0)) (by decide +kernel)) g0m hm_z
    replace hm_z := rn_bipush (w := 42) (am_cur_of (i := (119, 2, .bipush 42, (0, 0, 0), 0)) (by decide +kernel)) (by decide) hm_z
    replace hm_z := rn_callV (M' := am_m171) (o := 164) (ar := [.int 42]) (rest := []) (L := lv_args 0 [.ref 164, .int 42]) (am_cur_of (i := (121, 3, .invokevirtual 194, (171, 1715, 3), 0)) (by decide +kernel)) rfl rfl rfl rfl hm_z
    obtain ⟨r4736_z, h4737_z, q4738_z, hm_z⟩ := hm_z
    obtain ⟨rfl, yq4738_z⟩ := rp_sgN (fun q => absurd (Eq.trans (Eq.symm kd) q.2) (by decide)) q4738_z
    subst yq4738_z
    replace hm_z : rn _ _ _ _ [.int 0] _ _ _ := hm_z
    replace hm_z := rn_ifT (am_cur_of (i := (124, 3, .ifCond .eq 8, (65, 0, 0), 0)) (by decide +kernel)) (by decide) hm_z
    replace hm_z := rn_aload_n (am_cur_of (i := (132, 1, .aload_n 0, (0, 0, 0), 0)) (by decide +kernel)) g0m hm_z
    replace hm_z := rn_bipush (w := 47) (am_cur_of (i := (133, 2, .bipush 47, (0, 0, 0), 0)) (by decide +kernel)) (by decide) hm_z
    replace hm_z := rn_callV (M' := am_m171) (o := 164) (ar := [.int 47]) (rest := []) (L := lv_args 0 [.ref 164, .int 47]) (am_cur_of (i := (135, 3, .invokevirtual 194, (171, 1715, 3), 0)) (by decide +kernel)) rfl rfl rfl rfl hm_z
    obtain ⟨r4739_z, h4740_z, q4741_z, hm_z⟩ := hm_z
    obtain ⟨rfl, yq4741_z⟩ := rp_sgN (fun q => absurd (Eq.trans (Eq.symm kd) q.2) (by decide)) q4741_z
    subst yq4741_z
    replace hm_z : rn _ _ _ _ [.int 0] _ _ _ := hm_z
    replace hm_z := rn_ifT (am_cur_of (i := (138, 3, .ifCond .eq 8, (71, 0, 0), 0)) (by decide +kernel)) (by decide) hm_z
    replace hm_z := rn_iconst (w := 0) (am_cur_of (i := (146, 1, .iconst 0, (0, 0, 0), 0)) (by decide +kernel)) (by decide) hm_z
    replace hm_z := rn_istore_n (am_cur_of (i := (147, 1, .istore_n 1, (0, 0, 0), 0)) (by decide +kernel)) hm_z
    obtain ⟨_, s4742_z, s4743_z, g1m, hm_z⟩ := hm_z
    replace g0m := s4742_z 0 _ (by decide) rfl g0m
    clear s4742_z s4743_z
    replace hm_z := rn_iload_n (am_cur_of (i := (148, 1, .iload_n 1, (0, 0, 0), 0)) (by decide +kernel)) g1m hm_z
    replace hm_z := rn_ifF (am_cur_of (i := (149, 3, .ifCond .ne 9, (79, 0, 0), 0)) (by decide +kernel)) (by decide) hm_z
    replace hm_z := rn_aload_n (am_cur_of (i := (152, 1, .aload_n 0, (0, 0, 0), 0)) (by decide +kernel)) g0m hm_z
    replace hm_z := rn_iconst (w := 1) (am_cur_of (i := (153, 1, .iconst 1, (0, 0, 0), 0)) (by decide +kernel)) (by decide) hm_z
    replace hm_z := rn_callV (M' := am_m158) (o := 164) (ar := [.int 1]) (rest := []) (L := lv_args 0 [.ref 164, .int 1]) (am_cur_of (i := (154, 3, .invokevirtual 181, (158, 1665, 3), 0)) (by decide +kernel)) rfl rfl rfl rfl hm_z
    obtain ⟨r4744_z, h4745_z, q4746_z, hm_z⟩ := hm_z
    obtain ⟨rfl, yq4746_z⟩ := rp_wrong q4746_z
    subst yq4746_z
    replace hm_z : rn _ _ _ _ [.int 0] _ _ _ := hm_z
    replace hm_z := rn_iret (am_cur_of (i := (157, 1, .ireturn, (0, 0, 0), 0)) (by decide +kernel)) hm_z
    obtain ⟨e4747_z, e4748_z⟩ := hm_z
    subst e4747_z e4748_z
    exact Or.inl (Or.inr ⟨rfl, 1, by decide, K.1, K.2, rfl, R6⟩)
theorem rj_c13_2 {T : Nat → Int32} {S x p : Int32} {n n' : Nat} {h h' g g' : am_H} {r r' : Option Value} (R : rq T S x p 2 h g) (A : rp 2 h g) (B : rp_t h g) (Z : rs 2 h g) (w0_z : rg_v g 164 45 = 0) (ka : (rg_v h 44 10) = 5) (kc : (rg_v g 164 8) = 4) (kb : (rg_v h 44 11) = 40) (kd : (rg_v g 164 9) = 40) (hc_z : rn n am_m44 0 (lv_args 0 [.ref 44]) [] h r h') (hm_z : rn n' am_m178 0 (lv_args 0 [.ref 164]) [] g r' g') : rj_Q T S x p 2 h g h' g' r r' := by
  have z0_z : (0 : Int32).toInt = 0 := by decide
  have g0_z : am_get (lv_args 0 [.ref 44]) 0 = some (.ref 44) := rfl
  have g0m : am_get (lv_args 0 [.ref 164]) 0 = some (.ref 164) := rfl
  have Rk := R
  have Zk := Z
  obtain ⟨⟨c1_z, c2_z, c3_z, c4_z, c5_z, c6_z, c7_z, c8_z⟩, ⟨m2_z, m3_z, m4_z, m5_z, m6_z, m7_z, m8_z⟩, R3, R4, R5, R6, R7, R8, R9, R10⟩ := (R : rq T S x p 2 h g)
  obtain ⟨np, op, z1_z, z2_z, z3_z, z4_z, z5_z, z6_z, z7_z, z8_z, z9_z, z10_z⟩ := (Z : rs 2 h g)
  obtain ⟨nk1_z, nk2_z, nk3_z⟩ := A.2.2.2.2.2.1
  replace nk1_z : rg_v h 11 0 = rg_v g 164 44 := nk1_z
  replace nk2_z : 0 ≤ (rg_v h 11 0).toInt := nk2_z
  replace nk3_z : (rg_v h 11 0).toInt ≤ 64 := nk3_z
  replace z8_z : np.toInt ≤ (rg_v h 11 0).toInt + op.toInt := z8_z
  obtain ⟨kn, ekn⟩ : ∃ v, rg_v h 11 0 = v := ⟨_, rfl⟩
  rw [ekn] at nk1_z nk2_z nk3_z z8_z
  have e9_z := rt_c1 (x := kn) (by omega) (by omega)
  replace hc_z := rn_aload_n (am_cur_of (i := (0, 1, .aload_n 0, (0, 0, 0), 0)) (by decide +kernel)) g0_z hc_z
  replace hc_z := rn_bipush (w := 41) (am_cur_of (i := (1, 2, .bipush 41, (0, 0, 0), 0)) (by decide +kernel)) (by decide) hc_z
  replace hc_z := rn_callV (M' := am_m45) (o := 44) (ar := [.int 41]) (rest := []) (L := lv_args 0 [.ref 44, .int 41]) (am_cur_of (i := (3, 3, .invokevirtual 105, (45, 834, 3), 0)) (by decide +kernel)) rfl rfl rfl rfl hc_z
  obtain ⟨r4749_z, h4750_z, q4751_z, hc_z⟩ := hc_z
  obtain ⟨rfl, yq4751_z⟩ := rp_mkN (fun q => absurd (Eq.trans (Eq.symm kb) q.2) (by decide)) q4751_z
  subst yq4751_z
  replace hc_z : rn _ _ _ _ [.int 0] _ _ _ := hc_z
  replace hc_z := rn_ifT (am_cur_of (i := (6, 3, .ifCond .eq 45, (28, 0, 0), 0)) (by decide +kernel)) (by decide) hc_z
  replace hc_z := rn_aload_n (am_cur_of (i := (51, 1, .aload_n 0, (0, 0, 0), 0)) (by decide +kernel)) g0_z hc_z
  replace hc_z := rn_getI (v := 5) (am_cur_of (i := (52, 3, .getfield 60, (4, 10, 419), 0)) (by decide +kernel)) (by decide +kernel) ka hc_z
  replace hc_z := rn_bipush (w := 6) (am_cur_of (i := (55, 2, .bipush 6, (0, 0, 0), 0)) (by decide +kernel)) (by decide) hc_z
  replace hc_z := rn_cmpT (am_cur_of (i := (57, 3, .if_icmp .ne 11, (36, 0, 0), 0)) (by decide +kernel)) (by decide) hc_z
  replace hc_z := rn_aload_n (am_cur_of (i := (68, 1, .aload_n 0, (0, 0, 0), 0)) (by decide +kernel)) g0_z hc_z
  replace hc_z := rn_getI (v := op) (am_cur_of (i := (69, 3, .getfield 254, (4, 14, 423), 0)) (by decide +kernel)) (by decide +kernel) z4_z hc_z
  replace hc_z := rn_if (am_cur_of (i := (72, 3, .ifCond .le 8, (42, 0, 0), 0)) (by decide +kernel)) hc_z
  rcases hc_z with ⟨b4752_z, hc_z⟩ | ⟨b4752_z, hc_z⟩
  · replace b4752_z : op.toInt ≤ (0 : Int32).toInt := b4752_z
    replace hc_z := rn_iconst (w := 3) (am_cur_of (i := (80, 1, .iconst 3, (0, 0, 0), 0)) (by decide +kernel)) (by decide) hc_z
    replace hc_z := rn_iret (am_cur_of (i := (81, 1, .ireturn, (0, 0, 0), 0)) (by decide +kernel)) hc_z
    obtain ⟨e4753_z, e4754_z⟩ := hc_z
    replace hm_z := rn_aload_n (am_cur_of (i := (0, 1, .aload_n 0, (0, 0, 0), 0)) (by decide +kernel)) g0m hm_z
    replace hm_z := rn_bipush (w := 41) (am_cur_of (i := (1, 2, .bipush 41, (0, 0, 0), 0)) (by decide +kernel)) (by decide) hm_z
    replace hm_z := rn_callV (M' := am_m171) (o := 164) (ar := [.int 41]) (rest := []) (L := lv_args 0 [.ref 164, .int 41]) (am_cur_of (i := (3, 3, .invokevirtual 194, (171, 1715, 3), 0)) (by decide +kernel)) rfl rfl rfl rfl hm_z
    obtain ⟨r4755_z, h4756_z, q4757_z, hm_z⟩ := hm_z
    obtain ⟨rfl, yq4757_z⟩ := rp_sgN (fun q => absurd (Eq.trans (Eq.symm kd) q.2) (by decide)) q4757_z
    subst yq4757_z
    replace hm_z : rn _ _ _ _ [.int 0] _ _ _ := hm_z
    replace hm_z := rn_ifT (am_cur_of (i := (6, 3, .ifCond .eq 41, (26, 0, 0), 0)) (by decide +kernel)) (by decide) hm_z
    replace hm_z := rn_aload_n (am_cur_of (i := (47, 1, .aload_n 0, (0, 0, 0), 0)) (by decide +kernel)) g0m hm_z
    replace hm_z := rn_bipush (w := 12) (am_cur_of (i := (48, 2, .bipush 12, (0, 0, 0), 0)) (by decide +kernel)) (by decide) hm_z
    replace hm_z := rn_callV (M' := am_m174) (o := 164) (ar := [.int 12]) (rest := []) (L := lv_args 0 [.ref 164, .int 12]) (am_cur_of (i := (50, 3, .invokevirtual 306, (174, 1727, 3), 0)) (by decide +kernel)) rfl rfl rfl rfl hm_z
    obtain ⟨r4758_z, h4759_z, q4760_z, hm_z⟩ := hm_z
    obtain ⟨rfl, yq4760_z⟩ := rp_kyN (fun q => absurd (Eq.trans (Eq.symm kc) q.1) (by decide)) q4760_z
    subst yq4760_z
    replace hm_z : rn _ _ _ _ [.int 0] _ _ _ := hm_z
    replace hm_z := rn_ifT (am_cur_of (i := (53, 3, .ifCond .eq 7, (32, 0, 0), 0)) (by decide +kernel)) (by decide) hm_z
    replace hm_z := rn_aload_n (am_cur_of (i := (60, 1, .aload_n 0, (0, 0, 0), 0)) (by decide +kernel)) g0m hm_z
    replace hm_z := rn_bipush (w := 13) (am_cur_of (i := (61, 2, .bipush 13, (0, 0, 0), 0)) (by decide +kernel)) (by decide) hm_z
    replace hm_z := rn_callV (M' := am_m174) (o := 164) (ar := [.int 13]) (rest := []) (L := lv_args 0 [.ref 164, .int 13]) (am_cur_of (i := (63, 3, .invokevirtual 306, (174, 1727, 3), 0)) (by decide +kernel)) rfl rfl rfl rfl hm_z
    obtain ⟨r4761_z, h4762_z, q4763_z, hm_z⟩ := hm_z
    obtain ⟨rfl, yq4763_z⟩ := rp_kyN (fun q => absurd (Eq.trans (Eq.symm kc) q.1) (by decide)) q4763_z
    subst yq4763_z
    replace hm_z : rn _ _ _ _ [.int 0] _ _ _ := hm_z
    replace hm_z := rn_ifT (am_cur_of (i := (66, 3, .ifCond .eq 7, (38, 0, 0), 0)) (by decide +kernel)) (by decide) hm_z
    replace hm_z := rn_aload_n (am_cur_of (i := (73, 1, .aload_n 0, (0, 0, 0), 0)) (by decide +kernel)) g0m hm_z
    replace hm_z := rn_getI (v := 4) (am_cur_of (i := (74, 3, .getfield 157, (12, 8, 1392), 0)) (by decide +kernel)) (by decide +kernel) kc hm_z
    replace hm_z := rn_iconst (w := 5) (am_cur_of (i := (77, 1, .iconst 5, (0, 0, 0), 0)) (by decide +kernel)) (by decide) hm_z
    replace hm_z := rn_cmpT (am_cur_of (i := (78, 3, .if_icmp .ne 12, (47, 0, 0), 0)) (by decide +kernel)) (by decide) hm_z
    replace hm_z := rn_aload_n (am_cur_of (i := (90, 1, .aload_n 0, (0, 0, 0), 0)) (by decide +kernel)) g0m hm_z
    replace hm_z := rn_bipush (w := 43) (am_cur_of (i := (91, 2, .bipush 43, (0, 0, 0), 0)) (by decide +kernel)) (by decide) hm_z
    replace hm_z := rn_callV (M' := am_m171) (o := 164) (ar := [.int 43]) (rest := []) (L := lv_args 0 [.ref 164, .int 43]) (am_cur_of (i := (93, 3, .invokevirtual 194, (171, 1715, 3), 0)) (by decide +kernel)) rfl rfl rfl rfl hm_z
    obtain ⟨r4764_z, h4765_z, q4766_z, hm_z⟩ := hm_z
    obtain ⟨rfl, yq4766_z⟩ := rp_sgN (fun q => absurd (Eq.trans (Eq.symm kd) q.2) (by decide)) q4766_z
    subst yq4766_z
    replace hm_z : rn _ _ _ _ [.int 0] _ _ _ := hm_z
    replace hm_z := rn_ifT (am_cur_of (i := (96, 3, .ifCond .eq 8, (53, 0, 0), 0)) (by decide +kernel)) (by decide) hm_z
    replace hm_z := rn_aload_n (am_cur_of (i := (104, 1, .aload_n 0, (0, 0, 0), 0)) (by decide +kernel)) g0m hm_z
    replace hm_z := rn_bipush (w := 45) (am_cur_of (i := (105, 2, .bipush 45, (0, 0, 0), 0)) (by decide +kernel)) (by decide) hm_z
    replace hm_z := rn_callV (M' := am_m171) (o := 164) (ar := [.int 45]) (rest := []) (L := lv_args 0 [.ref 164, .int 45]) (am_cur_of (i := (107, 3, .invokevirtual 194, (171, 1715, 3), 0)) (by decide +kernel)) rfl rfl rfl rfl hm_z
    obtain ⟨r4767_z, h4768_z, q4769_z, hm_z⟩ := hm_z
    obtain ⟨rfl, yq4769_z⟩ := rp_sgN (fun q => absurd (Eq.trans (Eq.symm kd) q.2) (by decide)) q4769_z
    subst yq4769_z
    replace hm_z : rn _ _ _ _ [.int 0] _ _ _ := hm_z
    replace hm_z := rn_ifT (am_cur_of (i := (110, 3, .ifCond .eq 8, (59, 0, 0), 0)) (by decide +kernel)) (by decide) hm_z
    replace hm_z := rn_aload_n (am_cur_of (i := (118, 1, .aload_n 0, (0, 0, 0), 0)) (by decide +kernel)) g0m hm_z
    replace hm_z := rn_bipush (w := 42) (am_cur_of (i := (119, 2, .bipush 42, (0, 0, 0), 0)) (by decide +kernel)) (by decide) hm_z
    replace hm_z := rn_callV (M' := am_m171) (o := 164) (ar := [.int 42]) (rest := []) (L := lv_args 0 [.ref 164, .int 42]) (am_cur_of (i := (121, 3, .invokevirtual 194, (171, 1715, 3), 0)) (by decide +kernel)) rfl rfl rfl rfl hm_z
    obtain ⟨r4770_z, h4771_z, q4772_z, hm_z⟩ := hm_z
    obtain ⟨rfl, yq4772_z⟩ := rp_sgN (fun q => absurd (Eq.trans (Eq.symm kd) q.2) (by decide)) q4772_z
    subst yq4772_z
    replace hm_z : rn _ _ _ _ [.int 0] _ _ _ := hm_z
    replace hm_z := rn_ifT (am_cur_of (i := (124, 3, .ifCond .eq 8, (65, 0, 0), 0)) (by decide +kernel)) (by decide) hm_z
    replace hm_z := rn_aload_n (am_cur_of (i := (132, 1, .aload_n 0, (0, 0, 0), 0)) (by decide +kernel)) g0m hm_z
    replace hm_z := rn_bipush (w := 47) (am_cur_of (i := (133, 2, .bipush 47, (0, 0, 0), 0)) (by decide +kernel)) (by decide) hm_z
    replace hm_z := rn_callV (M' := am_m171) (o := 164) (ar := [.int 47]) (rest := []) (L := lv_args 0 [.ref 164, .int 47]) (am_cur_of (i := (135, 3, .invokevirtual 194, (171, 1715, 3), 0)) (by decide +kernel)) rfl rfl rfl rfl hm_z
    obtain ⟨r4773_z, h4774_z, q4775_z, hm_z⟩ := hm_z
    obtain ⟨rfl, yq4775_z⟩ := rp_sgN (fun q => absurd (Eq.trans (Eq.symm kd) q.2) (by decide)) q4775_z
    subst yq4775_z
    replace hm_z : rn _ _ _ _ [.int 0] _ _ _ := hm_z
    replace hm_z := rn_ifT (am_cur_of (i := (138, 3, .ifCond .eq 8, (71, 0, 0), 0)) (by decide +kernel)) (by decide) hm_z
    replace hm_z := rn_iconst (w := 0) (am_cur_of (i := (146, 1, .iconst 0, (0, 0, 0), 0)) (by decide +kernel)) (by decide) hm_z
    replace hm_z := rn_istore_n (am_cur_of (i := (147, 1, .istore_n 1, (0, 0, 0), 0)) (by decide +kernel)) hm_z
    obtain ⟨_, s4776_z, s4777_z, g1m, hm_z⟩ := hm_z
    replace g0m := s4776_z 0 _ (by decide) rfl g0m
    clear s4776_z s4777_z
    replace hm_z := rn_iload_n (am_cur_of (i := (148, 1, .iload_n 1, (0, 0, 0), 0)) (by decide +kernel)) g1m hm_z
    replace hm_z := rn_ifF (am_cur_of (i := (149, 3, .ifCond .ne 9, (79, 0, 0), 0)) (by decide +kernel)) (by decide) hm_z
    replace hm_z := rn_aload_n (am_cur_of (i := (152, 1, .aload_n 0, (0, 0, 0), 0)) (by decide +kernel)) g0m hm_z
    replace hm_z := rn_iconst (w := 1) (am_cur_of (i := (153, 1, .iconst 1, (0, 0, 0), 0)) (by decide +kernel)) (by decide) hm_z
    replace hm_z := rn_callV (M' := am_m158) (o := 164) (ar := [.int 1]) (rest := []) (L := lv_args 0 [.ref 164, .int 1]) (am_cur_of (i := (154, 3, .invokevirtual 181, (158, 1665, 3), 0)) (by decide +kernel)) rfl rfl rfl rfl hm_z
    obtain ⟨r4778_z, h4779_z, q4780_z, hm_z⟩ := hm_z
    obtain ⟨rfl, yq4780_z⟩ := rp_wrong q4780_z
    subst yq4780_z
    replace hm_z : rn _ _ _ _ [.int 0] _ _ _ := hm_z
    replace hm_z := rn_iret (am_cur_of (i := (157, 1, .ireturn, (0, 0, 0), 0)) (by decide +kernel)) hm_z
    obtain ⟨e4781_z, e4782_z⟩ := hm_z
    subst e4754_z e4782_z
    exact Or.inr ⟨e4753_z, rfl, z4_z.trans (rt_i32 (by rw [show (0 : Int32).toInt = 0 by decide]; omega)), e4781_z, rfl⟩
  · replace b4752_z : (0 : Int32).toInt < op.toInt := b4752_z
    replace hc_z := rn_aload_n (am_cur_of (i := (75, 1, .aload_n 0, (0, 0, 0), 0)) (by decide +kernel)) g0_z hc_z
    replace hc_z := rn_iconst (w := 1) (am_cur_of (i := (76, 1, .iconst 1, (0, 0, 0), 0)) (by decide +kernel)) (by decide) hc_z
    replace hc_z := rn_callV (M' := am_m29) (o := 44) (ar := [.int 1]) (rest := []) (L := lv_args 0 [.ref 44, .int 1]) (am_cur_of (i := (77, 3, .invokevirtual 108, (29, 769, 3), 0)) (by decide +kernel)) rfl rfl rfl rfl hc_z
    obtain ⟨r4783_z, h4784_z, q4785_z, hc_z⟩ := hc_z
    obtain ⟨rfl, yq4785_z⟩ := rp_fail R4 q4785_z
    subst yq4785_z
    replace hc_z : rn _ _ _ _ [] _ _ _ := hc_z
    have K := rs_stick (w := 1) (q := p) (a := 44) (by decide) (by decide) rfl (by decide) rfl (show rg_v (am_up (am_up h 44 1 (.int 1)) 44 2 (.int (rg_v h 44 9))) 44 2 = p from R5) hc_z
    replace hm_z := rn_aload_n (am_cur_of (i := (0, 1, .aload_n 0, (0, 0, 0), 0)) (by decide +kernel)) g0m hm_z
    replace hm_z := rn_bipush (w := 41) (am_cur_of (i := (1, 2, .bipush 41, (0, 0, 0), 0)) (by decide +kernel)) (by decide) hm_z
    replace hm_z := rn_callV (M' := am_m171) (o := 164) (ar := [.int 41]) (rest := []) (L := lv_args 0 [.ref 164, .int 41]) (am_cur_of (i := (3, 3, .invokevirtual 194, (171, 1715, 3), 0)) (by decide +kernel)) rfl rfl rfl rfl hm_z
    obtain ⟨r4786_z, h4787_z, q4788_z, hm_z⟩ := hm_z
    obtain ⟨rfl, yq4788_z⟩ := rp_sgN (fun q => absurd (Eq.trans (Eq.symm kd) q.2) (by decide)) q4788_z
    subst yq4788_z
    replace hm_z : rn _ _ _ _ [.int 0] _ _ _ := hm_z
    replace hm_z := rn_ifT (am_cur_of (i := (6, 3, .ifCond .eq 41, (26, 0, 0), 0)) (by decide +kernel)) (by decide) hm_z
    replace hm_z := rn_aload_n (am_cur_of (i := (47, 1, .aload_n 0, (0, 0, 0), 0)) (by decide +kernel)) g0m hm_z
    replace hm_z := rn_bipush (w := 12) (am_cur_of (i := (48, 2, .bipush 12, (0, 0, 0), 0)) (by decide +kernel)) (by decide) hm_z
    replace hm_z := rn_callV (M' := am_m174) (o := 164) (ar := [.int 12]) (rest := []) (L := lv_args 0 [.ref 164, .int 12]) (am_cur_of (i := (50, 3, .invokevirtual 306, (174, 1727, 3), 0)) (by decide +kernel)) rfl rfl rfl rfl hm_z
    obtain ⟨r4789_z, h4790_z, q4791_z, hm_z⟩ := hm_z
    obtain ⟨rfl, yq4791_z⟩ := rp_kyN (fun q => absurd (Eq.trans (Eq.symm kc) q.1) (by decide)) q4791_z
    subst yq4791_z
    replace hm_z : rn _ _ _ _ [.int 0] _ _ _ := hm_z
    replace hm_z := rn_ifT (am_cur_of (i := (53, 3, .ifCond .eq 7, (32, 0, 0), 0)) (by decide +kernel)) (by decide) hm_z
    replace hm_z := rn_aload_n (am_cur_of (i := (60, 1, .aload_n 0, (0, 0, 0), 0)) (by decide +kernel)) g0m hm_z
    replace hm_z := rn_bipush (w := 13) (am_cur_of (i := (61, 2, .bipush 13, (0, 0, 0), 0)) (by decide +kernel)) (by decide) hm_z
    replace hm_z := rn_callV (M' := am_m174) (o := 164) (ar := [.int 13]) (rest := []) (L := lv_args 0 [.ref 164, .int 13]) (am_cur_of (i := (63, 3, .invokevirtual 306, (174, 1727, 3), 0)) (by decide +kernel)) rfl rfl rfl rfl hm_z
    obtain ⟨r4792_z, h4793_z, q4794_z, hm_z⟩ := hm_z
    obtain ⟨rfl, yq4794_z⟩ := rp_kyN (fun q => absurd (Eq.trans (Eq.symm kc) q.1) (by decide)) q4794_z
    subst yq4794_z
    replace hm_z : rn _ _ _ _ [.int 0] _ _ _ := hm_z
    replace hm_z := rn_ifT (am_cur_of (i := (66, 3, .ifCond .eq 7, (38, 0, 0), 0)) (by decide +kernel)) (by decide) hm_z
    replace hm_z := rn_aload_n (am_cur_of (i := (73, 1, .aload_n 0, (0, 0, 0), 0)) (by decide +kernel)) g0m hm_z
    replace hm_z := rn_getI (v := 4) (am_cur_of (i := (74, 3, .getfield 157, (12, 8, 1392), 0)) (by decide +kernel)) (by decide +kernel) kc hm_z
    replace hm_z := rn_iconst (w := 5) (am_cur_of (i := (77, 1, .iconst 5, (0, 0, 0), 0)) (by decide +kernel)) (by decide) hm_z
    replace hm_z := rn_cmpT (am_cur_of (i := (78, 3, .if_icmp .ne 12, (47, 0, 0), 0)) (by decide +kernel)) (by decide) hm_z
    replace hm_z := rn_aload_n (am_cur_of (i := (90, 1, .aload_n 0, (0, 0, 0), 0)) (by decide +kernel)) g0m hm_z
    replace hm_z := rn_bipush (w := 43) (am_cur_of (i := (91, 2, .bipush 43, (0, 0, 0), 0)) (by decide +kernel)) (by decide) hm_z
    replace hm_z := rn_callV (M' := am_m171) (o := 164) (ar := [.int 43]) (rest := []) (L := lv_args 0 [.ref 164, .int 43]) (am_cur_of (i := (93, 3, .invokevirtual 194, (171, 1715, 3), 0)) (by decide +kernel)) rfl rfl rfl rfl hm_z
    obtain ⟨r4795_z, h4796_z, q4797_z, hm_z⟩ := hm_z
    obtain ⟨rfl, yq4797_z⟩ := rp_sgN (fun q => absurd (Eq.trans (Eq.symm kd) q.2) (by decide)) q4797_z
    subst yq4797_z
    replace hm_z : rn _ _ _ _ [.int 0] _ _ _ := hm_z
    replace hm_z := rn_ifT (am_cur_of (i := (96, 3, .ifCond .eq 8, (53, 0, 0), 0)) (by decide +kernel)) (by decide) hm_z
    replace hm_z := rn_aload_n (am_cur_of (i := (104, 1, .aload_n 0, (0, 0, 0), 0)) (by decide +kernel)) g0m hm_z
    replace hm_z := rn_bipush (w := 45) (am_cur_of (i := (105, 2, .bipush 45, (0, 0, 0), 0)) (by decide +kernel)) (by decide) hm_z
    replace hm_z := rn_callV (M' := am_m171) (o := 164) (ar := [.int 45]) (rest := []) (L := lv_args 0 [.ref 164, .int 45]) (am_cur_of (i := (107, 3, .invokevirtual 194, (171, 1715, 3), 0)) (by decide +kernel)) rfl rfl rfl rfl hm_z
    obtain ⟨r4798_z, h4799_z, q4800_z, hm_z⟩ := hm_z
    obtain ⟨rfl, yq4800_z⟩ := rp_sgN (fun q => absurd (Eq.trans (Eq.symm kd) q.2) (by decide)) q4800_z
    subst yq4800_z
    replace hm_z : rn _ _ _ _ [.int 0] _ _ _ := hm_z
    replace hm_z := rn_ifT (am_cur_of (i := (110, 3, .ifCond .eq 8, (59, 0, 0), 0)) (by decide +kernel)) (by decide) hm_z
    replace hm_z := rn_aload_n (am_cur_of (i := (118, 1, .aload_n 0, (0, 0, 0), 0)) (by decide +kernel)) g0m hm_z
    replace hm_z := rn_bipush (w := 42) (am_cur_of (i := (119, 2, .bipush 42, (0, 0, 0), 0)) (by decide +kernel)) (by decide) hm_z
    replace hm_z := rn_callV (M' := am_m171) (o := 164) (ar := [.int 42]) (rest := []) (L := lv_args 0 [.ref 164, .int 42]) (am_cur_of (i := (121, 3, .invokevirtual 194, (171, 1715, 3), 0)) (by decide +kernel)) rfl rfl rfl rfl hm_z
    obtain ⟨r4801_z, h4802_z, q4803_z, hm_z⟩ := hm_z
    obtain ⟨rfl, yq4803_z⟩ := rp_sgN (fun q => absurd (Eq.trans (Eq.symm kd) q.2) (by decide)) q4803_z
    subst yq4803_z
    replace hm_z : rn _ _ _ _ [.int 0] _ _ _ := hm_z
    replace hm_z := rn_ifT (am_cur_of (i := (124, 3, .ifCond .eq 8, (65, 0, 0), 0)) (by decide +kernel)) (by decide) hm_z
    replace hm_z := rn_aload_n (am_cur_of (i := (132, 1, .aload_n 0, (0, 0, 0), 0)) (by decide +kernel)) g0m hm_z
    replace hm_z := rn_bipush (w := 47) (am_cur_of (i := (133, 2, .bipush 47, (0, 0, 0), 0)) (by decide +kernel)) (by decide) hm_z
    replace hm_z := rn_callV (M' := am_m171) (o := 164) (ar := [.int 47]) (rest := []) (L := lv_args 0 [.ref 164, .int 47]) (am_cur_of (i := (135, 3, .invokevirtual 194, (171, 1715, 3), 0)) (by decide +kernel)) rfl rfl rfl rfl hm_z
    obtain ⟨r4804_z, h4805_z, q4806_z, hm_z⟩ := hm_z
    obtain ⟨rfl, yq4806_z⟩ := rp_sgN (fun q => absurd (Eq.trans (Eq.symm kd) q.2) (by decide)) q4806_z
    subst yq4806_z
    replace hm_z : rn _ _ _ _ [.int 0] _ _ _ := hm_z
    replace hm_z := rn_ifT (am_cur_of (i := (138, 3, .ifCond .eq 8, (71, 0, 0), 0)) (by decide +kernel)) (by decide) hm_z
    replace hm_z := rn_iconst (w := 0) (am_cur_of (i := (146, 1, .iconst 0, (0, 0, 0), 0)) (by decide +kernel)) (by decide) hm_z
    replace hm_z := rn_istore_n (am_cur_of (i := (147, 1, .istore_n 1, (0, 0, 0), 0)) (by decide +kernel)) hm_z
    obtain ⟨_, s4807_z, s4808_z, g1m, hm_z⟩ := hm_z
    replace g0m := s4807_z 0 _ (by decide) rfl g0m
    clear s4807_z s4808_z
    replace hm_z := rn_iload_n (am_cur_of (i := (148, 1, .iload_n 1, (0, 0, 0), 0)) (by decide +kernel)) g1m hm_z
    replace hm_z := rn_ifF (am_cur_of (i := (149, 3, .ifCond .ne 9, (79, 0, 0), 0)) (by decide +kernel)) (by decide) hm_z
    replace hm_z := rn_aload_n (am_cur_of (i := (152, 1, .aload_n 0, (0, 0, 0), 0)) (by decide +kernel)) g0m hm_z
    replace hm_z := rn_iconst (w := 1) (am_cur_of (i := (153, 1, .iconst 1, (0, 0, 0), 0)) (by decide +kernel)) (by decide) hm_z
    replace hm_z := rn_callV (M' := am_m158) (o := 164) (ar := [.int 1]) (rest := []) (L := lv_args 0 [.ref 164, .int 1]) (am_cur_of (i := (154, 3, .invokevirtual 181, (158, 1665, 3), 0)) (by decide +kernel)) rfl rfl rfl rfl hm_z
    obtain ⟨r4809_z, h4810_z, q4811_z, hm_z⟩ := hm_z
    obtain ⟨rfl, yq4811_z⟩ := rp_wrong q4811_z
    subst yq4811_z
    replace hm_z : rn _ _ _ _ [.int 0] _ _ _ := hm_z
    replace hm_z := rn_iret (am_cur_of (i := (157, 1, .ireturn, (0, 0, 0), 0)) (by decide +kernel)) hm_z
    obtain ⟨e4812_z, e4813_z⟩ := hm_z
    subst e4812_z e4813_z
    exact Or.inl (Or.inr ⟨rfl, 1, by decide, K.1, K.2, rfl, R6⟩)
theorem rj_c14_2 {T : Nat → Int32} {S x p : Int32} {n n' : Nat} {h h' g g' : am_H} {r r' : Option Value} (R : rq T S x p 2 h g) (A : rp 2 h g) (B : rp_t h g) (Z : rs 2 h g) (w0_z : rg_v g 164 45 = 0) (ka : (rg_v h 44 10) = 5) (kc : (rg_v g 164 8) = 4) (kb : (rg_v h 44 11) = 41) (kd : (rg_v g 164 9) = 41) (hc_z : rn n am_m44 0 (lv_args 0 [.ref 44]) [] h r h') (hm_z : rn n' am_m178 0 (lv_args 0 [.ref 164]) [] g r' g') : rj_Q T S x p 2 h g h' g' r r' := by
  have z0_z : (0 : Int32).toInt = 0 := by decide
  have g0_z : am_get (lv_args 0 [.ref 44]) 0 = some (.ref 44) := rfl
  have g0m : am_get (lv_args 0 [.ref 164]) 0 = some (.ref 164) := rfl
  have Rk := R
  have Zk := Z
  obtain ⟨⟨c1_z, c2_z, c3_z, c4_z, c5_z, c6_z, c7_z, c8_z⟩, ⟨m2_z, m3_z, m4_z, m5_z, m6_z, m7_z, m8_z⟩, R3, R4, R5, R6, R7, R8, R9, R10⟩ := (R : rq T S x p 2 h g)
  obtain ⟨np, op, z1_z, z2_z, z3_z, z4_z, z5_z, z6_z, z7_z, z8_z, z9_z, z10_z⟩ := (Z : rs 2 h g)
  obtain ⟨nk1_z, nk2_z, nk3_z⟩ := A.2.2.2.2.2.1
  replace nk1_z : rg_v h 11 0 = rg_v g 164 44 := nk1_z
  replace nk2_z : 0 ≤ (rg_v h 11 0).toInt := nk2_z
  replace nk3_z : (rg_v h 11 0).toInt ≤ 64 := nk3_z
  replace z8_z : np.toInt ≤ (rg_v h 11 0).toInt + op.toInt := z8_z
  obtain ⟨kn, ekn⟩ : ∃ v, rg_v h 11 0 = v := ⟨_, rfl⟩
  rw [ekn] at nk1_z nk2_z nk3_z z8_z
  have e9_z := rt_c1 (x := kn) (by omega) (by omega)
  replace hc_z := rn_aload_n (am_cur_of (i := (0, 1, .aload_n 0, (0, 0, 0), 0)) (by decide +kernel)) g0_z hc_z
  replace hc_z := rn_bipush (w := 41) (am_cur_of (i := (1, 2, .bipush 41, (0, 0, 0), 0)) (by decide +kernel)) (by decide) hc_z
  replace hc_z := rn_callV (M' := am_m45) (o := 44) (ar := [.int 41]) (rest := []) (L := lv_args 0 [.ref 44, .int 41]) (am_cur_of (i := (3, 3, .invokevirtual 105, (45, 834, 3), 0)) (by decide +kernel)) rfl rfl rfl rfl hc_z
  obtain ⟨r4814_z, h4815_z, q4816_z, hc_z⟩ := hc_z
  obtain ⟨rfl, yq4816_z⟩ := rp_mkT ka kb q4816_z
  subst yq4816_z
  replace hc_z : rn _ _ _ _ [.int 1] _ _ _ := hc_z
  replace hc_z := rn_ifF (am_cur_of (i := (6, 3, .ifCond .eq 45, (28, 0, 0), 0)) (by decide +kernel)) (by decide) hc_z
  replace hc_z := rn_aload_n (am_cur_of (i := (9, 1, .aload_n 0, (0, 0, 0), 0)) (by decide +kernel)) g0_z hc_z
  replace hc_z := rn_getI (v := op) (am_cur_of (i := (10, 3, .getfield 254, (4, 14, 423), 0)) (by decide +kernel)) (by decide +kernel) z4_z hc_z
  replace hc_z := rn_if (am_cur_of (i := (13, 3, .ifCond .le 38, (28, 0, 0), 0)) (by decide +kernel)) hc_z
  rcases hc_z with ⟨b4817_z, hc_z⟩ | ⟨b4817_z, hc_z⟩
  · replace b4817_z : op.toInt ≤ (0 : Int32).toInt := b4817_z
    replace hc_z := rn_aload_n (am_cur_of (i := (51, 1, .aload_n 0, (0, 0, 0), 0)) (by decide +kernel)) g0_z hc_z
    replace hc_z := rn_getI (v := 5) (am_cur_of (i := (52, 3, .getfield 60, (4, 10, 419), 0)) (by decide +kernel)) (by decide +kernel) ka hc_z
    replace hc_z := rn_bipush (w := 6) (am_cur_of (i := (55, 2, .bipush 6, (0, 0, 0), 0)) (by decide +kernel)) (by decide) hc_z
    replace hc_z := rn_cmpT (am_cur_of (i := (57, 3, .if_icmp .ne 11, (36, 0, 0), 0)) (by decide +kernel)) (by decide) hc_z
    replace hc_z := rn_aload_n (am_cur_of (i := (68, 1, .aload_n 0, (0, 0, 0), 0)) (by decide +kernel)) g0_z hc_z
    replace hc_z := rn_getI (v := op) (am_cur_of (i := (69, 3, .getfield 254, (4, 14, 423), 0)) (by decide +kernel)) (by decide +kernel) z4_z hc_z
    replace hc_z := rn_if (am_cur_of (i := (72, 3, .ifCond .le 8, (42, 0, 0), 0)) (by decide +kernel)) hc_z
    rcases hc_z with ⟨b4818_z, hc_z⟩ | ⟨b4818_z, hc_z⟩
    · replace b4818_z : op.toInt ≤ (0 : Int32).toInt := b4818_z
      replace hc_z := rn_iconst (w := 3) (am_cur_of (i := (80, 1, .iconst 3, (0, 0, 0), 0)) (by decide +kernel)) (by decide) hc_z
      replace hc_z := rn_iret (am_cur_of (i := (81, 1, .ireturn, (0, 0, 0), 0)) (by decide +kernel)) hc_z
      obtain ⟨e4819_z, e4820_z⟩ := hc_z
      replace hm_z := rn_aload_n (am_cur_of (i := (0, 1, .aload_n 0, (0, 0, 0), 0)) (by decide +kernel)) g0m hm_z
      replace hm_z := rn_bipush (w := 41) (am_cur_of (i := (1, 2, .bipush 41, (0, 0, 0), 0)) (by decide +kernel)) (by decide) hm_z
      replace hm_z := rn_callV (M' := am_m171) (o := 164) (ar := [.int 41]) (rest := []) (L := lv_args 0 [.ref 164, .int 41]) (am_cur_of (i := (3, 3, .invokevirtual 194, (171, 1715, 3), 0)) (by decide +kernel)) rfl rfl rfl rfl hm_z
      obtain ⟨r4821_z, h4822_z, q4823_z, hm_z⟩ := hm_z
      obtain ⟨rfl, yq4823_z⟩ := rp_sgT kc kd q4823_z
      subst yq4823_z
      replace hm_z : rn _ _ _ _ [.int 1] _ _ _ := hm_z
      replace hm_z := rn_ifF (am_cur_of (i := (6, 3, .ifCond .eq 41, (26, 0, 0), 0)) (by decide +kernel)) (by decide) hm_z
      replace hm_z := rn_aload_n (am_cur_of (i := (9, 1, .aload_n 0, (0, 0, 0), 0)) (by decide +kernel)) g0m hm_z
      replace hm_z := rn_getI (v := op) (am_cur_of (i := (10, 3, .getfield 295, (12, 43, 1427), 0)) (by decide +kernel)) (by decide +kernel) z5_z hm_z
      replace hm_z := rn_if (am_cur_of (i := (13, 3, .ifCond .le 34, (26, 0, 0), 0)) (by decide +kernel)) hm_z
      rcases hm_z with ⟨b4824_z, hm_z⟩ | ⟨b4824_z, hm_z⟩
      · replace b4824_z : op.toInt ≤ (0 : Int32).toInt := b4824_z
        replace hm_z := rn_aload_n (am_cur_of (i := (47, 1, .aload_n 0, (0, 0, 0), 0)) (by decide +kernel)) g0m hm_z
        replace hm_z := rn_bipush (w := 12) (am_cur_of (i := (48, 2, .bipush 12, (0, 0, 0), 0)) (by decide +kernel)) (by decide) hm_z
        replace hm_z := rn_callV (M' := am_m174) (o := 164) (ar := [.int 12]) (rest := []) (L := lv_args 0 [.ref 164, .int 12]) (am_cur_of (i := (50, 3, .invokevirtual 306, (174, 1727, 3), 0)) (by decide +kernel)) rfl rfl rfl rfl hm_z
        obtain ⟨r4825_z, h4826_z, q4827_z, hm_z⟩ := hm_z
        obtain ⟨rfl, yq4827_z⟩ := rp_kyN (fun q => absurd (Eq.trans (Eq.symm kc) q.1) (by decide)) q4827_z
        subst yq4827_z
        replace hm_z : rn _ _ _ _ [.int 0] _ _ _ := hm_z
        replace hm_z := rn_ifT (am_cur_of (i := (53, 3, .ifCond .eq 7, (32, 0, 0), 0)) (by decide +kernel)) (by decide) hm_z
        replace hm_z := rn_aload_n (am_cur_of (i := (60, 1, .aload_n 0, (0, 0, 0), 0)) (by decide +kernel)) g0m hm_z
        replace hm_z := rn_bipush (w := 13) (am_cur_of (i := (61, 2, .bipush 13, (0, 0, 0), 0)) (by decide +kernel)) (by decide) hm_z
        replace hm_z := rn_callV (M' := am_m174) (o := 164) (ar := [.int 13]) (rest := []) (L := lv_args 0 [.ref 164, .int 13]) (am_cur_of (i := (63, 3, .invokevirtual 306, (174, 1727, 3), 0)) (by decide +kernel)) rfl rfl rfl rfl hm_z
        obtain ⟨r4828_z, h4829_z, q4830_z, hm_z⟩ := hm_z
        obtain ⟨rfl, yq4830_z⟩ := rp_kyN (fun q => absurd (Eq.trans (Eq.symm kc) q.1) (by decide)) q4830_z
        subst yq4830_z
        replace hm_z : rn _ _ _ _ [.int 0] _ _ _ := hm_z
        replace hm_z := rn_ifT (am_cur_of (i := (66, 3, .ifCond .eq 7, (38, 0, 0), 0)) (by decide +kernel)) (by decide) hm_z
        replace hm_z := rn_aload_n (am_cur_of (i := (73, 1, .aload_n 0, (0, 0, 0), 0)) (by decide +kernel)) g0m hm_z
        replace hm_z := rn_getI (v := 4) (am_cur_of (i := (74, 3, .getfield 157, (12, 8, 1392), 0)) (by decide +kernel)) (by decide +kernel) kc hm_z
        replace hm_z := rn_iconst (w := 5) (am_cur_of (i := (77, 1, .iconst 5, (0, 0, 0), 0)) (by decide +kernel)) (by decide) hm_z
        replace hm_z := rn_cmpT (am_cur_of (i := (78, 3, .if_icmp .ne 12, (47, 0, 0), 0)) (by decide +kernel)) (by decide) hm_z
        replace hm_z := rn_aload_n (am_cur_of (i := (90, 1, .aload_n 0, (0, 0, 0), 0)) (by decide +kernel)) g0m hm_z
        replace hm_z := rn_bipush (w := 43) (am_cur_of (i := (91, 2, .bipush 43, (0, 0, 0), 0)) (by decide +kernel)) (by decide) hm_z
        replace hm_z := rn_callV (M' := am_m171) (o := 164) (ar := [.int 43]) (rest := []) (L := lv_args 0 [.ref 164, .int 43]) (am_cur_of (i := (93, 3, .invokevirtual 194, (171, 1715, 3), 0)) (by decide +kernel)) rfl rfl rfl rfl hm_z
        obtain ⟨r4831_z, h4832_z, q4833_z, hm_z⟩ := hm_z
        obtain ⟨rfl, yq4833_z⟩ := rp_sgN (fun q => absurd (Eq.trans (Eq.symm kd) q.2) (by decide)) q4833_z
        subst yq4833_z
        replace hm_z : rn _ _ _ _ [.int 0] _ _ _ := hm_z
        replace hm_z := rn_ifT (am_cur_of (i := (96, 3, .ifCond .eq 8, (53, 0, 0), 0)) (by decide +kernel)) (by decide) hm_z
        replace hm_z := rn_aload_n (am_cur_of (i := (104, 1, .aload_n 0, (0, 0, 0), 0)) (by decide +kernel)) g0m hm_z
        replace hm_z := rn_bipush (w := 45) (am_cur_of (i := (105, 2, .bipush 45, (0, 0, 0), 0)) (by decide +kernel)) (by decide) hm_z
        replace hm_z := rn_callV (M' := am_m171) (o := 164) (ar := [.int 45]) (rest := []) (L := lv_args 0 [.ref 164, .int 45]) (am_cur_of (i := (107, 3, .invokevirtual 194, (171, 1715, 3), 0)) (by decide +kernel)) rfl rfl rfl rfl hm_z
        obtain ⟨r4834_z, h4835_z, q4836_z, hm_z⟩ := hm_z
        obtain ⟨rfl, yq4836_z⟩ := rp_sgN (fun q => absurd (Eq.trans (Eq.symm kd) q.2) (by decide)) q4836_z
        subst yq4836_z
        replace hm_z : rn _ _ _ _ [.int 0] _ _ _ := hm_z
        replace hm_z := rn_ifT (am_cur_of (i := (110, 3, .ifCond .eq 8, (59, 0, 0), 0)) (by decide +kernel)) (by decide) hm_z
        replace hm_z := rn_aload_n (am_cur_of (i := (118, 1, .aload_n 0, (0, 0, 0), 0)) (by decide +kernel)) g0m hm_z
        replace hm_z := rn_bipush (w := 42) (am_cur_of (i := (119, 2, .bipush 42, (0, 0, 0), 0)) (by decide +kernel)) (by decide) hm_z
        replace hm_z := rn_callV (M' := am_m171) (o := 164) (ar := [.int 42]) (rest := []) (L := lv_args 0 [.ref 164, .int 42]) (am_cur_of (i := (121, 3, .invokevirtual 194, (171, 1715, 3), 0)) (by decide +kernel)) rfl rfl rfl rfl hm_z
        obtain ⟨r4837_z, h4838_z, q4839_z, hm_z⟩ := hm_z
        obtain ⟨rfl, yq4839_z⟩ := rp_sgN (fun q => absurd (Eq.trans (Eq.symm kd) q.2) (by decide)) q4839_z
        subst yq4839_z
        replace hm_z : rn _ _ _ _ [.int 0] _ _ _ := hm_z
        replace hm_z := rn_ifT (am_cur_of (i := (124, 3, .ifCond .eq 8, (65, 0, 0), 0)) (by decide +kernel)) (by decide) hm_z
        replace hm_z := rn_aload_n (am_cur_of (i := (132, 1, .aload_n 0, (0, 0, 0), 0)) (by decide +kernel)) g0m hm_z
        replace hm_z := rn_bipush (w := 47) (am_cur_of (i := (133, 2, .bipush 47, (0, 0, 0), 0)) (by decide +kernel)) (by decide) hm_z
        replace hm_z := rn_callV (M' := am_m171) (o := 164) (ar := [.int 47]) (rest := []) (L := lv_args 0 [.ref 164, .int 47]) (am_cur_of (i := (135, 3, .invokevirtual 194, (171, 1715, 3), 0)) (by decide +kernel)) rfl rfl rfl rfl hm_z
        obtain ⟨r4840_z, h4841_z, q4842_z, hm_z⟩ := hm_z
        obtain ⟨rfl, yq4842_z⟩ := rp_sgN (fun q => absurd (Eq.trans (Eq.symm kd) q.2) (by decide)) q4842_z
        subst yq4842_z
        replace hm_z : rn _ _ _ _ [.int 0] _ _ _ := hm_z
        replace hm_z := rn_ifT (am_cur_of (i := (138, 3, .ifCond .eq 8, (71, 0, 0), 0)) (by decide +kernel)) (by decide) hm_z
        replace hm_z := rn_iconst (w := 0) (am_cur_of (i := (146, 1, .iconst 0, (0, 0, 0), 0)) (by decide +kernel)) (by decide) hm_z
        replace hm_z := rn_istore_n (am_cur_of (i := (147, 1, .istore_n 1, (0, 0, 0), 0)) (by decide +kernel)) hm_z
        obtain ⟨_, s4843_z, s4844_z, g1m, hm_z⟩ := hm_z
        replace g0m := s4843_z 0 _ (by decide) rfl g0m
        clear s4843_z s4844_z
        replace hm_z := rn_iload_n (am_cur_of (i := (148, 1, .iload_n 1, (0, 0, 0), 0)) (by decide +kernel)) g1m hm_z
        replace hm_z := rn_ifF (am_cur_of (i := (149, 3, .ifCond .ne 9, (79, 0, 0), 0)) (by decide +kernel)) (by decide) hm_z
        replace hm_z := rn_aload_n (am_cur_of (i := (152, 1, .aload_n 0, (0, 0, 0), 0)) (by decide +kernel)) g0m hm_z
        replace hm_z := rn_iconst (w := 1) (am_cur_of (i := (153, 1, .iconst 1, (0, 0, 0), 0)) (by decide +kernel)) (by decide) hm_z
        replace hm_z := rn_callV (M' := am_m158) (o := 164) (ar := [.int 1]) (rest := []) (L := lv_args 0 [.ref 164, .int 1]) (am_cur_of (i := (154, 3, .invokevirtual 181, (158, 1665, 3), 0)) (by decide +kernel)) rfl rfl rfl rfl hm_z
        obtain ⟨r4845_z, h4846_z, q4847_z, hm_z⟩ := hm_z
        obtain ⟨rfl, yq4847_z⟩ := rp_wrong q4847_z
        subst yq4847_z
        replace hm_z : rn _ _ _ _ [.int 0] _ _ _ := hm_z
        replace hm_z := rn_iret (am_cur_of (i := (157, 1, .ireturn, (0, 0, 0), 0)) (by decide +kernel)) hm_z
        obtain ⟨e4848_z, e4849_z⟩ := hm_z
        subst e4820_z e4849_z
        exact Or.inr ⟨e4819_z, rfl, z4_z.trans (rt_i32 (by rw [show (0 : Int32).toInt = 0 by decide]; omega)), e4848_z, rfl⟩
      · replace b4824_z : (0 : Int32).toInt < op.toInt := b4824_z
        omega
    · replace b4818_z : (0 : Int32).toInt < op.toInt := b4818_z
      omega
  · replace b4817_z : (0 : Int32).toInt < op.toInt := b4817_z
    replace hc_z := rn_aload_n (am_cur_of (i := (16, 1, .aload_n 0, (0, 0, 0), 0)) (by decide +kernel)) g0_z hc_z
    replace hc_z := rn_iconst (w := 3) (am_cur_of (i := (17, 1, .iconst 3, (0, 0, 0), 0)) (by decide +kernel)) (by decide) hc_z
    replace hc_z := rn_callV (M' := am_m46) (o := 44) (ar := [.int 3]) (rest := []) (L := lv_args 0 [.ref 44, .int 3]) (am_cur_of (i := (18, 3, .invokevirtual 264, (46, 838, 3), 0)) (by decide +kernel)) rfl rfl rfl rfl hc_z
    obtain ⟨r4850_z, h4851_z, q4852_z, hc_z⟩ := hc_z
    replace hm_z := rn_aload_n (am_cur_of (i := (0, 1, .aload_n 0, (0, 0, 0), 0)) (by decide +kernel)) g0m hm_z
    replace hm_z := rn_bipush (w := 41) (am_cur_of (i := (1, 2, .bipush 41, (0, 0, 0), 0)) (by decide +kernel)) (by decide) hm_z
    replace hm_z := rn_callV (M' := am_m171) (o := 164) (ar := [.int 41]) (rest := []) (L := lv_args 0 [.ref 164, .int 41]) (am_cur_of (i := (3, 3, .invokevirtual 194, (171, 1715, 3), 0)) (by decide +kernel)) rfl rfl rfl rfl hm_z
    obtain ⟨r4853_z, h4854_z, q4855_z, hm_z⟩ := hm_z
    obtain ⟨rfl, yq4855_z⟩ := rp_sgT kc kd q4855_z
    subst yq4855_z
    replace hm_z : rn _ _ _ _ [.int 1] _ _ _ := hm_z
    replace hm_z := rn_ifF (am_cur_of (i := (6, 3, .ifCond .eq 41, (26, 0, 0), 0)) (by decide +kernel)) (by decide) hm_z
    replace hm_z := rn_aload_n (am_cur_of (i := (9, 1, .aload_n 0, (0, 0, 0), 0)) (by decide +kernel)) g0m hm_z
    replace hm_z := rn_getI (v := op) (am_cur_of (i := (10, 3, .getfield 295, (12, 43, 1427), 0)) (by decide +kernel)) (by decide +kernel) z5_z hm_z
    replace hm_z := rn_if (am_cur_of (i := (13, 3, .ifCond .le 34, (26, 0, 0), 0)) (by decide +kernel)) hm_z
    rcases hm_z with ⟨b4856_z, hm_z⟩ | ⟨b4856_z, hm_z⟩
    · replace b4856_z : op.toInt ≤ (0 : Int32).toInt := b4856_z
      omega
    · replace b4856_z : (0 : Int32).toInt < op.toInt := b4856_z
      replace hm_z := rn_aload_n (am_cur_of (i := (16, 1, .aload_n 0, (0, 0, 0), 0)) (by decide +kernel)) g0m hm_z
      replace hm_z := rn_iconst (w := 1) (am_cur_of (i := (17, 1, .iconst 1, (0, 0, 0), 0)) (by decide +kernel)) (by decide) hm_z
      replace hm_z := rn_callV (M' := am_m179) (o := 164) (ar := [.int 1]) (rest := []) (L := lv_args 0 [.ref 164, .int 1]) (am_cur_of (i := (18, 3, .invokevirtual 318, (179, 1747, 3), 0)) (by decide +kernel)) rfl rfl rfl rfl hm_z
      obtain ⟨r4857_z, h4858_z, q4859_z, hm_z⟩ := hm_z
      have oo : 1 ≤ (rg_v h 44 14).toInt := by rw [z4_z]; omega
      obtain ⟨rfl, rfl, FC, FM, R, A, B, Z, nq, e13_z, hst⟩ := rz_set2 rs_l3 (by decide) Rk A B Zk q4852_z q4859_z
      have Zq := Z
      obtain ⟨np, op, z1_z, z2_z, z3_z, z4_z, z5_z, z6_z, z7_z, z8_z, z9_z, z10_z⟩ := Zq
      obtain rfl : np = nq := z1_z.symm.trans e13_z
      replace hm_z : rn _ _ _ _ [] _ _ _ := hm_z
      replace hc_z : rn _ _ _ _ [] _ _ _ := hc_z
      have cn := rt_cl z3_z
      have o1_z : 1 ≤ op.toInt := by rw [← z4_z, rg_v_fr FC (by decide)]; exact oo
      have n1_z : 1 ≤ np.toInt := by
        by_cases q : np.toInt = 0
        · rw [show np.toNatClampNeg = 0 by omega] at z10_z
          have z11_z : ((0 : Nat) : Int) = op.toInt := z10_z
          omega
        · omega
      have top : rg_v h4858_z 184 (np.toNatClampNeg - 1) = 0 := by
        rcases hst with q | q
        · omega
        · exact rs_o2 (z9_z (np.toNatClampNeg - 1) (by omega)) q
      exact Or.inl (rj_p2 R A B Z ((rg_v_fr FM (by decide)).trans w0_z) z1_z n1_z top z4_z o1_z g0_z g0m hc_z hm_z)
theorem rj_c15_2 {T : Nat → Int32} {S x p : Int32} {n n' : Nat} {h h' g g' : am_H} {r r' : Option Value} (R : rq T S x p 2 h g) (A : rp 2 h g) (B : rp_t h g) (Z : rs 2 h g) (w0_z : rg_v g 164 45 = 0) (ka : (rg_v h 44 10) = 6) (kc : (rg_v g 164 8) = 1) (kb : (rg_v h 44 11) = 3) (kd : (rg_v g 164 9) = 13) (hc_z : rn n am_m44 0 (lv_args 0 [.ref 44]) [] h r h') (hm_z : rn n' am_m178 0 (lv_args 0 [.ref 164]) [] g r' g') : rj_Q T S x p 2 h g h' g' r r' := by
  have g0_z : am_get (lv_args 0 [.ref 44]) 0 = some (.ref 44) := rfl
  have g0m : am_get (lv_args 0 [.ref 164]) 0 = some (.ref 164) := rfl
  have Rk := R
  have Zk := Z
  obtain ⟨⟨c1_z, c2_z, c3_z, c4_z, c5_z, c6_z, c7_z, c8_z⟩, ⟨m2_z, m3_z, m4_z, m5_z, m6_z, m7_z, m8_z⟩, R3, R4, R5, R6, R7, R8, R9, R10⟩ := (R : rq T S x p 2 h g)
  obtain ⟨np, op, z1_z, z2_z, z3_z, z4_z, z5_z, z6_z, z7_z, z8_z, z9_z, z10_z⟩ := (Z : rs 2 h g)
  obtain ⟨nk1_z, nk2_z, nk3_z⟩ := A.2.2.2.2.2.1
  replace nk1_z : rg_v h 11 0 = rg_v g 164 44 := nk1_z
  replace nk2_z : 0 ≤ (rg_v h 11 0).toInt := nk2_z
  replace nk3_z : (rg_v h 11 0).toInt ≤ 64 := nk3_z
  replace z8_z : np.toInt ≤ (rg_v h 11 0).toInt + op.toInt := z8_z
  obtain ⟨kn, ekn⟩ : ∃ v, rg_v h 11 0 = v := ⟨_, rfl⟩
  rw [ekn] at nk1_z nk2_z nk3_z z8_z
  have e9_z := rt_c1 (x := kn) (by omega) (by omega)
  replace hc_z := rn_aload_n (am_cur_of (i := (0, 1, .aload_n 0, (0, 0, 0), 0)) (by decide +kernel)) g0_z hc_z
  replace hc_z := rn_bipush (w := 41) (am_cur_of (i := (1, 2, .bipush 41, (0, 0, 0), 0)) (by decide +kernel)) (by decide) hc_z
  replace hc_z := rn_callV (M' := am_m45) (o := 44) (ar := [.int 41]) (rest := []) (L := lv_args 0 [.ref 44, .int 41]) (am_cur_of (i := (3, 3, .invokevirtual 105, (45, 834, 3), 0)) (by decide +kernel)) rfl rfl rfl rfl hc_z
  obtain ⟨r4860_z, h4861_z, q4862_z, hc_z⟩ := hc_z
  obtain ⟨rfl, yq4862_z⟩ := rp_mkN (fun q => absurd (Eq.trans (Eq.symm ka) q.1) (by decide)) q4862_z
  subst yq4862_z
  replace hc_z : rn _ _ _ _ [.int 0] _ _ _ := hc_z
  replace hc_z := rn_ifT (am_cur_of (i := (6, 3, .ifCond .eq 45, (28, 0, 0), 0)) (by decide +kernel)) (by decide) hc_z
  replace hc_z := rn_aload_n (am_cur_of (i := (51, 1, .aload_n 0, (0, 0, 0), 0)) (by decide +kernel)) g0_z hc_z
  replace hc_z := rn_getI (v := 6) (am_cur_of (i := (52, 3, .getfield 60, (4, 10, 419), 0)) (by decide +kernel)) (by decide +kernel) ka hc_z
  replace hc_z := rn_bipush (w := 6) (am_cur_of (i := (55, 2, .bipush 6, (0, 0, 0), 0)) (by decide +kernel)) (by decide) hc_z
  replace hc_z := rn_cmpF (am_cur_of (i := (57, 3, .if_icmp .ne 11, (36, 0, 0), 0)) (by decide +kernel)) (by decide) hc_z
  replace hc_z := rn_aload_n (am_cur_of (i := (60, 1, .aload_n 0, (0, 0, 0), 0)) (by decide +kernel)) g0_z hc_z
  replace hc_z := rn_getI (v := 3) (am_cur_of (i := (61, 3, .getfield 91, (4, 11, 420), 0)) (by decide +kernel)) (by decide +kernel) kb hc_z
  replace hc_z := rn_iconst (w := 5) (am_cur_of (i := (64, 1, .iconst 5, (0, 0, 0), 0)) (by decide +kernel)) (by decide) hc_z
  replace hc_z := rn_cmpT (am_cur_of (i := (65, 3, .if_icmp .ne 17, (44, 0, 0), 0)) (by decide +kernel)) (by decide) hc_z
  replace hc_z := rn_aload_n (am_cur_of (i := (82, 1, .aload_n 0, (0, 0, 0), 0)) (by decide +kernel)) g0_z hc_z
  replace hc_z := rn_getI (v := 3) (am_cur_of (i := (83, 3, .getfield 91, (4, 11, 420), 0)) (by decide +kernel)) (by decide +kernel) kb hc_z
  replace hc_z := rn_istore_n (am_cur_of (i := (86, 1, .istore_n 1, (0, 0, 0), 0)) (by decide +kernel)) hc_z
  obtain ⟨_, s4863_z, s4864_z, g1_z, hc_z⟩ := hc_z
  replace g0_z := s4863_z 0 _ (by decide) rfl g0_z
  clear s4863_z s4864_z
  replace hc_z := rn_iload_n (am_cur_of (i := (87, 1, .iload_n 1, (0, 0, 0), 0)) (by decide +kernel)) g1_z hc_z
  replace hc_z := rn_callS (M' := am_m47) (ar := [.int 3]) (rest := []) (L := lv_args 0 [.int 3]) (am_cur_of (i := (88, 3, .invokestatic 283, (47, 842, 3), 0)) (by decide +kernel)) rfl rfl rfl rfl hc_z
  obtain ⟨r4865_z, h4866_z, q4867_z, hc_z⟩ := hc_z
  obtain ⟨rfl, yq4867_z⟩ := rs_rankC q4867_z
  replace yq4867_z := yq4867_z.symm
  subst yq4867_z
  rw [show rk_C 3 = 3 by decide] at hc_z
  replace hc_z : rn _ _ _ _ [.int 3] _ _ _ := hc_z
  replace hc_z := rn_bipush (w := 6) (am_cur_of (i := (91, 2, .bipush 6, (0, 0, 0), 0)) (by decide +kernel)) (by decide) hc_z
  replace hc_z := rn_callS (M' := am_m47) (ar := [.int 6]) (rest := [.int 3]) (L := lv_args 0 [.int 6]) (am_cur_of (i := (93, 3, .invokestatic 283, (47, 842, 3), 0)) (by decide +kernel)) rfl rfl rfl rfl hc_z
  obtain ⟨r4868_z, h4869_z, q4870_z, hc_z⟩ := hc_z
  obtain ⟨rfl, yq4870_z⟩ := rs_rankC q4870_z
  replace yq4870_z := yq4870_z.symm
  subst yq4870_z
  rw [show rk_C 6 = 6 by decide] at hc_z
  replace hc_z : rn _ _ _ _ [.int 6, .int 3] _ _ _ := hc_z
  replace hc_z := rn_cmpT (am_cur_of (i := (96, 3, .if_icmp .ne 46, (73, 0, 0), 0)) (by decide +kernel)) (by decide) hc_z
  replace hc_z := rn_aload_n (am_cur_of (i := (142, 1, .aload_n 0, (0, 0, 0), 0)) (by decide +kernel)) g0_z hc_z
  replace hc_z := rn_iload_n (am_cur_of (i := (143, 1, .iload_n 1, (0, 0, 0), 0)) (by decide +kernel)) g1_z hc_z
  replace hc_z := rn_callV (M' := am_m46) (o := 44) (ar := [.int 3]) (rest := []) (L := lv_args 0 [.ref 44, .int 3]) (am_cur_of (i := (144, 3, .invokevirtual 264, (46, 838, 3), 0)) (by decide +kernel)) rfl rfl rfl rfl hc_z
  obtain ⟨r4871_z, h4872_z, q4873_z, hc_z⟩ := hc_z
  replace hm_z := rn_aload_n (am_cur_of (i := (0, 1, .aload_n 0, (0, 0, 0), 0)) (by decide +kernel)) g0m hm_z
  replace hm_z := rn_bipush (w := 41) (am_cur_of (i := (1, 2, .bipush 41, (0, 0, 0), 0)) (by decide +kernel)) (by decide) hm_z
  replace hm_z := rn_callV (M' := am_m171) (o := 164) (ar := [.int 41]) (rest := []) (L := lv_args 0 [.ref 164, .int 41]) (am_cur_of (i := (3, 3, .invokevirtual 194, (171, 1715, 3), 0)) (by decide +kernel)) rfl rfl rfl rfl hm_z
  obtain ⟨r4874_z, h4875_z, q4876_z, hm_z⟩ := hm_z
  obtain ⟨rfl, yq4876_z⟩ := rp_sgN (fun q => absurd (Eq.trans (Eq.symm kc) q.1) (by decide)) q4876_z
  subst yq4876_z
  replace hm_z : rn _ _ _ _ [.int 0] _ _ _ := hm_z
  replace hm_z := rn_ifT (am_cur_of (i := (6, 3, .ifCond .eq 41, (26, 0, 0), 0)) (by decide +kernel)) (by decide) hm_z
  replace hm_z := rn_aload_n (am_cur_of (i := (47, 1, .aload_n 0, (0, 0, 0), 0)) (by decide +kernel)) g0m hm_z
  replace hm_z := rn_bipush (w := 12) (am_cur_of (i := (48, 2, .bipush 12, (0, 0, 0), 0)) (by decide +kernel)) (by decide) hm_z
  replace hm_z := rn_callV (M' := am_m174) (o := 164) (ar := [.int 12]) (rest := []) (L := lv_args 0 [.ref 164, .int 12]) (am_cur_of (i := (50, 3, .invokevirtual 306, (174, 1727, 3), 0)) (by decide +kernel)) rfl rfl rfl rfl hm_z
  obtain ⟨r4877_z, h4878_z, q4879_z, hm_z⟩ := hm_z
  obtain ⟨rfl, yq4879_z⟩ := rp_kyN (fun q => absurd (Eq.trans (Eq.symm kd) q.2) (by decide)) q4879_z
  subst yq4879_z
  replace hm_z : rn _ _ _ _ [.int 0] _ _ _ := hm_z
  replace hm_z := rn_ifT (am_cur_of (i := (53, 3, .ifCond .eq 7, (32, 0, 0), 0)) (by decide +kernel)) (by decide) hm_z
  replace hm_z := rn_aload_n (am_cur_of (i := (60, 1, .aload_n 0, (0, 0, 0), 0)) (by decide +kernel)) g0m hm_z
  replace hm_z := rn_bipush (w := 13) (am_cur_of (i := (61, 2, .bipush 13, (0, 0, 0), 0)) (by decide +kernel)) (by decide) hm_z
  replace hm_z := rn_callV (M' := am_m174) (o := 164) (ar := [.int 13]) (rest := []) (L := lv_args 0 [.ref 164, .int 13]) (am_cur_of (i := (63, 3, .invokevirtual 306, (174, 1727, 3), 0)) (by decide +kernel)) rfl rfl rfl rfl hm_z
  obtain ⟨r4880_z, h4881_z, q4882_z, hm_z⟩ := hm_z
  obtain ⟨rfl, yq4882_z⟩ := rp_kyT kc kd q4882_z
  subst yq4882_z
  replace hm_z : rn _ _ _ _ [.int 1] _ _ _ := hm_z
  replace hm_z := rn_ifF (am_cur_of (i := (66, 3, .ifCond .eq 7, (38, 0, 0), 0)) (by decide +kernel)) (by decide) hm_z
  replace hm_z := rn_iconst (w := 4) (am_cur_of (i := (69, 1, .iconst 4, (0, 0, 0), 0)) (by decide +kernel)) (by decide) hm_z
  replace hm_z := rn_goto (am_cur_of (i := (70, 3, .goto 77, (72, 0, 0), 0)) (by decide +kernel)) hm_z
  replace hm_z := rn_istore_n (am_cur_of (i := (147, 1, .istore_n 1, (0, 0, 0), 0)) (by decide +kernel)) hm_z
  obtain ⟨_, s4883_z, s4884_z, g1m, hm_z⟩ := hm_z
  replace g0m := s4883_z 0 _ (by decide) rfl g0m
  clear s4883_z s4884_z
  replace hm_z := rn_iload_n (am_cur_of (i := (148, 1, .iload_n 1, (0, 0, 0), 0)) (by decide +kernel)) g1m hm_z
  replace hm_z := rn_ifT (am_cur_of (i := (149, 3, .ifCond .ne 9, (79, 0, 0), 0)) (by decide +kernel)) (by decide) hm_z
  replace hm_z := rn_aload_n (am_cur_of (i := (158, 1, .aload_n 0, (0, 0, 0), 0)) (by decide +kernel)) g0m hm_z
  replace hm_z := rn_iload_n (am_cur_of (i := (159, 1, .iload_n 1, (0, 0, 0), 0)) (by decide +kernel)) g1m hm_z
  replace hm_z := rn_callS (M' := am_m180) (ar := [.int 4]) (rest := [.ref 164]) (L := lv_args 0 [.int 4]) (am_cur_of (i := (160, 3, .invokestatic 283, (180, 1751, 3), 0)) (by decide +kernel)) rfl rfl rfl rfl hm_z
  obtain ⟨r4885_z, h4886_z, q4887_z, hm_z⟩ := hm_z
  obtain ⟨rfl, yq4887_z⟩ := rs_rankM q4887_z
  replace yq4887_z := yq4887_z.symm
  subst yq4887_z
  rw [show rk_M 4 = 1 by decide] at hm_z
  replace hm_z : rn _ _ _ _ [.int 1, .ref 164] _ _ _ := hm_z
  replace hm_z := rn_iconst (w := 4) (am_cur_of (i := (163, 1, .iconst 4, (0, 0, 0), 0)) (by decide +kernel)) (by decide) hm_z
  replace hm_z := rn_cmpT (am_cur_of (i := (164, 3, .if_icmp .ne 7, (86, 0, 0), 0)) (by decide +kernel)) (by decide) hm_z
  replace hm_z := rn_iload_n (am_cur_of (i := (171, 1, .iload_n 1, (0, 0, 0), 0)) (by decide +kernel)) g1m hm_z
  replace hm_z := rn_callS (M' := am_m180) (ar := [.int 4]) (rest := [.ref 164]) (L := lv_args 0 [.int 4]) (am_cur_of (i := (172, 3, .invokestatic 283, (180, 1751, 3), 0)) (by decide +kernel)) rfl rfl rfl rfl hm_z
  obtain ⟨r4888_z, h4889_z, q4890_z, hm_z⟩ := hm_z
  obtain ⟨rfl, yq4890_z⟩ := rs_rankM q4890_z
  replace yq4890_z := yq4890_z.symm
  subst yq4890_z
  rw [show rk_M 4 = 1 by decide] at hm_z
  replace hm_z : rn _ _ _ _ [.int 1, .ref 164] _ _ _ := hm_z
  replace hm_z := rn_callV (M' := am_m179) (o := 164) (ar := [.int 1]) (rest := []) (L := lv_args 0 [.ref 164, .int 1]) (am_cur_of (i := (175, 3, .invokevirtual 318, (179, 1747, 3), 0)) (by decide +kernel)) rfl rfl rfl rfl hm_z
  obtain ⟨r4891_z, h4892_z, q4893_z, hm_z⟩ := hm_z
  obtain ⟨rfl, rfl, FC, FM, R, A, B, Z, nq, e13_z, hst⟩ := rz_set2 (show rs_l 3 1 from by have q := rs_lo (c := 3) (k := 4) (by unfold rs_o; decide); rw [show rk_M 4 = 1 by decide] at q; exact q) (by decide) Rk A B Zk q4873_z q4893_z
  have Zq := Z
  obtain ⟨np, op, z1_z, z2_z, z3_z, z4_z, z5_z, z6_z, z7_z, z8_z, z9_z, z10_z⟩ := Zq
  obtain rfl : np = nq := z1_z.symm.trans e13_z
  replace hm_z : rn _ _ _ _ [] _ _ _ := hm_z
  replace hc_z : rn _ _ _ _ [] _ _ _ := hc_z
  have cn := rt_cl z3_z
  have zz1_z : (1 : Int32).toInt = 1 := by decide
  have n31_z := (ab_32 np).2
  have y1_z := ab_isub (x := np) (y := 1) (by omega) (by omega)
  replace hm_z := rn_iload_n (am_cur_of (i := (178, 1, .iload_n 1, (0, 0, 0), 0)) (by decide +kernel)) g1m hm_z
  replace hm_z := rn_callS (M' := am_m180) (ar := [.int 4]) (rest := []) (L := lv_args 0 [.int 4]) (am_cur_of (i := (179, 3, .invokestatic 283, (180, 1751, 3), 0)) (by decide +kernel)) rfl rfl rfl rfl hm_z
  obtain ⟨r4894_z, h4895_z, q4896_z, hm_z⟩ := hm_z
  obtain ⟨rfl, yq4896_z⟩ := rs_rankM q4896_z
  replace yq4896_z := yq4896_z.symm
  subst yq4896_z
  rw [show rk_M 4 = 1 by decide] at hm_z
  replace hm_z : rn _ _ _ _ [.int 1] _ _ _ := hm_z
  replace hm_z := rn_iconst (w := 4) (am_cur_of (i := (182, 1, .iconst 4, (0, 0, 0), 0)) (by decide +kernel)) (by decide) hm_z
  replace hm_z := rn_cmpT (am_cur_of (i := (183, 3, .if_icmp .ne 34, (110, 0, 0), 0)) (by decide +kernel)) (by decide) hm_z
  exact Or.inl (rj_t3_2 R A B Z g0_z g1_z g0m g1m hc_z hm_z)
theorem rj_c16_2 {T : Nat → Int32} {S x p : Int32} {n n' : Nat} {h h' g g' : am_H} {r r' : Option Value} (R : rq T S x p 2 h g) (A : rp 2 h g) (B : rp_t h g) (Z : rs 2 h g) (w0_z : rg_v g 164 45 = 0) (ka : (rg_v h 44 10) = 6) (kc : (rg_v g 164 8) = 1) (kb : (rg_v h 44 11) = 4) (kd : (rg_v g 164 9) = 12) (hc_z : rn n am_m44 0 (lv_args 0 [.ref 44]) [] h r h') (hm_z : rn n' am_m178 0 (lv_args 0 [.ref 164]) [] g r' g') : rj_Q T S x p 2 h g h' g' r r' := by
  have g0_z : am_get (lv_args 0 [.ref 44]) 0 = some (.ref 44) := rfl
  have g0m : am_get (lv_args 0 [.ref 164]) 0 = some (.ref 164) := rfl
  have Rk := R
  have Zk := Z
  obtain ⟨⟨c1_z, c2_z, c3_z, c4_z, c5_z, c6_z, c7_z, c8_z⟩, ⟨m2_z, m3_z, m4_z, m5_z, m6_z, m7_z, m8_z⟩, R3, R4, R5, R6, R7, R8, R9, R10⟩ := (R : rq T S x p 2 h g)
  obtain ⟨np, op, z1_z, z2_z, z3_z, z4_z, z5_z, z6_z, z7_z, z8_z, z9_z, z10_z⟩ := (Z : rs 2 h g)
  obtain ⟨nk1_z, nk2_z, nk3_z⟩ := A.2.2.2.2.2.1
  replace nk1_z : rg_v h 11 0 = rg_v g 164 44 := nk1_z
  replace nk2_z : 0 ≤ (rg_v h 11 0).toInt := nk2_z
  replace nk3_z : (rg_v h 11 0).toInt ≤ 64 := nk3_z
  replace z8_z : np.toInt ≤ (rg_v h 11 0).toInt + op.toInt := z8_z
  obtain ⟨kn, ekn⟩ : ∃ v, rg_v h 11 0 = v := ⟨_, rfl⟩
  rw [ekn] at nk1_z nk2_z nk3_z z8_z
  have e9_z := rt_c1 (x := kn) (by omega) (by omega)
  replace hc_z := rn_aload_n (am_cur_of (i := (0, 1, .aload_n 0, (0, 0, 0), 0)) (by decide +kernel)) g0_z hc_z
  replace hc_z := rn_bipush (w := 41) (am_cur_of (i := (1, 2, .bipush 41, (0, 0, 0), 0)) (by decide +kernel)) (by decide) hc_z
  replace hc_z := rn_callV (M' := am_m45) (o := 44) (ar := [.int 41]) (rest := []) (L := lv_args 0 [.ref 44, .int 41]) (am_cur_of (i := (3, 3, .invokevirtual 105, (45, 834, 3), 0)) (by decide +kernel)) rfl rfl rfl rfl hc_z
  obtain ⟨r4897_z, h4898_z, q4899_z, hc_z⟩ := hc_z
  obtain ⟨rfl, yq4899_z⟩ := rp_mkN (fun q => absurd (Eq.trans (Eq.symm ka) q.1) (by decide)) q4899_z
  subst yq4899_z
  replace hc_z : rn _ _ _ _ [.int 0] _ _ _ := hc_z
  replace hc_z := rn_ifT (am_cur_of (i := (6, 3, .ifCond .eq 45, (28, 0, 0), 0)) (by decide +kernel)) (by decide) hc_z
  replace hc_z := rn_aload_n (am_cur_of (i := (51, 1, .aload_n 0, (0, 0, 0), 0)) (by decide +kernel)) g0_z hc_z
  replace hc_z := rn_getI (v := 6) (am_cur_of (i := (52, 3, .getfield 60, (4, 10, 419), 0)) (by decide +kernel)) (by decide +kernel) ka hc_z
  replace hc_z := rn_bipush (w := 6) (am_cur_of (i := (55, 2, .bipush 6, (0, 0, 0), 0)) (by decide +kernel)) (by decide) hc_z
  replace hc_z := rn_cmpF (am_cur_of (i := (57, 3, .if_icmp .ne 11, (36, 0, 0), 0)) (by decide +kernel)) (by decide) hc_z
  replace hc_z := rn_aload_n (am_cur_of (i := (60, 1, .aload_n 0, (0, 0, 0), 0)) (by decide +kernel)) g0_z hc_z
  replace hc_z := rn_getI (v := 4) (am_cur_of (i := (61, 3, .getfield 91, (4, 11, 420), 0)) (by decide +kernel)) (by decide +kernel) kb hc_z
  replace hc_z := rn_iconst (w := 5) (am_cur_of (i := (64, 1, .iconst 5, (0, 0, 0), 0)) (by decide +kernel)) (by decide) hc_z
  replace hc_z := rn_cmpT (am_cur_of (i := (65, 3, .if_icmp .ne 17, (44, 0, 0), 0)) (by decide +kernel)) (by decide) hc_z
  replace hc_z := rn_aload_n (am_cur_of (i := (82, 1, .aload_n 0, (0, 0, 0), 0)) (by decide +kernel)) g0_z hc_z
  replace hc_z := rn_getI (v := 4) (am_cur_of (i := (83, 3, .getfield 91, (4, 11, 420), 0)) (by decide +kernel)) (by decide +kernel) kb hc_z
  replace hc_z := rn_istore_n (am_cur_of (i := (86, 1, .istore_n 1, (0, 0, 0), 0)) (by decide +kernel)) hc_z
  obtain ⟨_, s4900_z, s4901_z, g1_z, hc_z⟩ := hc_z
  replace g0_z := s4900_z 0 _ (by decide) rfl g0_z
  clear s4900_z s4901_z
  replace hc_z := rn_iload_n (am_cur_of (i := (87, 1, .iload_n 1, (0, 0, 0), 0)) (by decide +kernel)) g1_z hc_z
  replace hc_z := rn_callS (M' := am_m47) (ar := [.int 4]) (rest := []) (L := lv_args 0 [.int 4]) (am_cur_of (i := (88, 3, .invokestatic 283, (47, 842, 3), 0)) (by decide +kernel)) rfl rfl rfl rfl hc_z
  obtain ⟨r4902_z, h4903_z, q4904_z, hc_z⟩ := hc_z
  obtain ⟨rfl, yq4904_z⟩ := rs_rankC q4904_z
  replace yq4904_z := yq4904_z.symm
  subst yq4904_z
  rw [show rk_C 4 = 4 by decide] at hc_z
  replace hc_z : rn _ _ _ _ [.int 4] _ _ _ := hc_z
  replace hc_z := rn_bipush (w := 6) (am_cur_of (i := (91, 2, .bipush 6, (0, 0, 0), 0)) (by decide +kernel)) (by decide) hc_z
  replace hc_z := rn_callS (M' := am_m47) (ar := [.int 6]) (rest := [.int 4]) (L := lv_args 0 [.int 6]) (am_cur_of (i := (93, 3, .invokestatic 283, (47, 842, 3), 0)) (by decide +kernel)) rfl rfl rfl rfl hc_z
  obtain ⟨r4905_z, h4906_z, q4907_z, hc_z⟩ := hc_z
  obtain ⟨rfl, yq4907_z⟩ := rs_rankC q4907_z
  replace yq4907_z := yq4907_z.symm
  subst yq4907_z
  rw [show rk_C 6 = 6 by decide] at hc_z
  replace hc_z : rn _ _ _ _ [.int 6, .int 4] _ _ _ := hc_z
  replace hc_z := rn_cmpT (am_cur_of (i := (96, 3, .if_icmp .ne 46, (73, 0, 0), 0)) (by decide +kernel)) (by decide) hc_z
  replace hc_z := rn_aload_n (am_cur_of (i := (142, 1, .aload_n 0, (0, 0, 0), 0)) (by decide +kernel)) g0_z hc_z
  replace hc_z := rn_iload_n (am_cur_of (i := (143, 1, .iload_n 1, (0, 0, 0), 0)) (by decide +kernel)) g1_z hc_z
  replace hc_z := rn_callV (M' := am_m46) (o := 44) (ar := [.int 4]) (rest := []) (L := lv_args 0 [.ref 44, .int 4]) (am_cur_of (i := (144, 3, .invokevirtual 264, (46, 838, 3), 0)) (by decide +kernel)) rfl rfl rfl rfl hc_z
  obtain ⟨r4908_z, h4909_z, q4910_z, hc_z⟩ := hc_z
  replace hm_z := rn_aload_n (am_cur_of (i := (0, 1, .aload_n 0, (0, 0, 0), 0)) (by decide +kernel)) g0m hm_z
  replace hm_z := rn_bipush (w := 41) (am_cur_of (i := (1, 2, .bipush 41, (0, 0, 0), 0)) (by decide +kernel)) (by decide) hm_z
  replace hm_z := rn_callV (M' := am_m171) (o := 164) (ar := [.int 41]) (rest := []) (L := lv_args 0 [.ref 164, .int 41]) (am_cur_of (i := (3, 3, .invokevirtual 194, (171, 1715, 3), 0)) (by decide +kernel)) rfl rfl rfl rfl hm_z
  obtain ⟨r4911_z, h4912_z, q4913_z, hm_z⟩ := hm_z
  obtain ⟨rfl, yq4913_z⟩ := rp_sgN (fun q => absurd (Eq.trans (Eq.symm kc) q.1) (by decide)) q4913_z
  subst yq4913_z
  replace hm_z : rn _ _ _ _ [.int 0] _ _ _ := hm_z
  replace hm_z := rn_ifT (am_cur_of (i := (6, 3, .ifCond .eq 41, (26, 0, 0), 0)) (by decide +kernel)) (by decide) hm_z
  replace hm_z := rn_aload_n (am_cur_of (i := (47, 1, .aload_n 0, (0, 0, 0), 0)) (by decide +kernel)) g0m hm_z
  replace hm_z := rn_bipush (w := 12) (am_cur_of (i := (48, 2, .bipush 12, (0, 0, 0), 0)) (by decide +kernel)) (by decide) hm_z
  replace hm_z := rn_callV (M' := am_m174) (o := 164) (ar := [.int 12]) (rest := []) (L := lv_args 0 [.ref 164, .int 12]) (am_cur_of (i := (50, 3, .invokevirtual 306, (174, 1727, 3), 0)) (by decide +kernel)) rfl rfl rfl rfl hm_z
  obtain ⟨r4914_z, h4915_z, q4916_z, hm_z⟩ := hm_z
  obtain ⟨rfl, yq4916_z⟩ := rp_kyT kc kd q4916_z
  subst yq4916_z
  replace hm_z : rn _ _ _ _ [.int 1] _ _ _ := hm_z
  replace hm_z := rn_ifF (am_cur_of (i := (53, 3, .ifCond .eq 7, (32, 0, 0), 0)) (by decide +kernel)) (by decide) hm_z
  replace hm_z := rn_iconst (w := 3) (am_cur_of (i := (56, 1, .iconst 3, (0, 0, 0), 0)) (by decide +kernel)) (by decide) hm_z
  replace hm_z := rn_goto (am_cur_of (i := (57, 3, .goto 90, (72, 0, 0), 0)) (by decide +kernel)) hm_z
  replace hm_z := rn_istore_n (am_cur_of (i := (147, 1, .istore_n 1, (0, 0, 0), 0)) (by decide +kernel)) hm_z
  obtain ⟨_, s4917_z, s4918_z, g1m, hm_z⟩ := hm_z
  replace g0m := s4917_z 0 _ (by decide) rfl g0m
  clear s4917_z s4918_z
  replace hm_z := rn_iload_n (am_cur_of (i := (148, 1, .iload_n 1, (0, 0, 0), 0)) (by decide +kernel)) g1m hm_z
  replace hm_z := rn_ifT (am_cur_of (i := (149, 3, .ifCond .ne 9, (79, 0, 0), 0)) (by decide +kernel)) (by decide) hm_z
  replace hm_z := rn_aload_n (am_cur_of (i := (158, 1, .aload_n 0, (0, 0, 0), 0)) (by decide +kernel)) g0m hm_z
  replace hm_z := rn_iload_n (am_cur_of (i := (159, 1, .iload_n 1, (0, 0, 0), 0)) (by decide +kernel)) g1m hm_z
  replace hm_z := rn_callS (M' := am_m180) (ar := [.int 3]) (rest := [.ref 164]) (L := lv_args 0 [.int 3]) (am_cur_of (i := (160, 3, .invokestatic 283, (180, 1751, 3), 0)) (by decide +kernel)) rfl rfl rfl rfl hm_z
  obtain ⟨r4919_z, h4920_z, q4921_z, hm_z⟩ := hm_z
  obtain ⟨rfl, yq4921_z⟩ := rs_rankM q4921_z
  replace yq4921_z := yq4921_z.symm
  subst yq4921_z
  rw [show rk_M 3 = 2 by decide] at hm_z
  replace hm_z : rn _ _ _ _ [.int 2, .ref 164] _ _ _ := hm_z
  replace hm_z := rn_iconst (w := 4) (am_cur_of (i := (163, 1, .iconst 4, (0, 0, 0), 0)) (by decide +kernel)) (by decide) hm_z
  replace hm_z := rn_cmpT (am_cur_of (i := (164, 3, .if_icmp .ne 7, (86, 0, 0), 0)) (by decide +kernel)) (by decide) hm_z
  replace hm_z := rn_iload_n (am_cur_of (i := (171, 1, .iload_n 1, (0, 0, 0), 0)) (by decide +kernel)) g1m hm_z
  replace hm_z := rn_callS (M' := am_m180) (ar := [.int 3]) (rest := [.ref 164]) (L := lv_args 0 [.int 3]) (am_cur_of (i := (172, 3, .invokestatic 283, (180, 1751, 3), 0)) (by decide +kernel)) rfl rfl rfl rfl hm_z
  obtain ⟨r4922_z, h4923_z, q4924_z, hm_z⟩ := hm_z
  obtain ⟨rfl, yq4924_z⟩ := rs_rankM q4924_z
  replace yq4924_z := yq4924_z.symm
  subst yq4924_z
  rw [show rk_M 3 = 2 by decide] at hm_z
  replace hm_z : rn _ _ _ _ [.int 2, .ref 164] _ _ _ := hm_z
  replace hm_z := rn_callV (M' := am_m179) (o := 164) (ar := [.int 2]) (rest := []) (L := lv_args 0 [.ref 164, .int 2]) (am_cur_of (i := (175, 3, .invokevirtual 318, (179, 1747, 3), 0)) (by decide +kernel)) rfl rfl rfl rfl hm_z
  obtain ⟨r4925_z, h4926_z, q4927_z, hm_z⟩ := hm_z
  obtain ⟨rfl, rfl, FC, FM, R, A, B, Z, nq, e13_z, hst⟩ := rz_set2 (show rs_l 4 2 from by have q := rs_lo (c := 4) (k := 3) (by unfold rs_o; decide); rw [show rk_M 3 = 2 by decide] at q; exact q) (by decide) Rk A B Zk q4910_z q4927_z
  have Zq := Z
  obtain ⟨np, op, z1_z, z2_z, z3_z, z4_z, z5_z, z6_z, z7_z, z8_z, z9_z, z10_z⟩ := Zq
  obtain rfl : np = nq := z1_z.symm.trans e13_z
  replace hm_z : rn _ _ _ _ [] _ _ _ := hm_z
  replace hc_z : rn _ _ _ _ [] _ _ _ := hc_z
  have cn := rt_cl z3_z
  have zz1_z : (1 : Int32).toInt = 1 := by decide
  have n31_z := (ab_32 np).2
  have y1_z := ab_isub (x := np) (y := 1) (by omega) (by omega)
  replace hm_z := rn_iload_n (am_cur_of (i := (178, 1, .iload_n 1, (0, 0, 0), 0)) (by decide +kernel)) g1m hm_z
  replace hm_z := rn_callS (M' := am_m180) (ar := [.int 3]) (rest := []) (L := lv_args 0 [.int 3]) (am_cur_of (i := (179, 3, .invokestatic 283, (180, 1751, 3), 0)) (by decide +kernel)) rfl rfl rfl rfl hm_z
  obtain ⟨r4928_z, h4929_z, q4930_z, hm_z⟩ := hm_z
  obtain ⟨rfl, yq4930_z⟩ := rs_rankM q4930_z
  replace yq4930_z := yq4930_z.symm
  subst yq4930_z
  rw [show rk_M 3 = 2 by decide] at hm_z
  replace hm_z : rn _ _ _ _ [.int 2] _ _ _ := hm_z
  replace hm_z := rn_iconst (w := 4) (am_cur_of (i := (182, 1, .iconst 4, (0, 0, 0), 0)) (by decide +kernel)) (by decide) hm_z
  replace hm_z := rn_cmpT (am_cur_of (i := (183, 3, .if_icmp .ne 34, (110, 0, 0), 0)) (by decide +kernel)) (by decide) hm_z
  exact Or.inl (rj_t4_2 R A B Z g0_z g1_z g0m g1m hc_z hm_z)
theorem rj_c17_2 {T : Nat → Int32} {S x p : Int32} {n n' : Nat} {h h' g g' : am_H} {r r' : Option Value} (R : rq T S x p 2 h g) (A : rp 2 h g) (B : rp_t h g) (Z : rs 2 h g) (w0_z : rg_v g 164 45 = 0) (ka : (rg_v h 44 10) = 6) (kc : (rg_v g 164 8) = 1) (kb : (rg_v h 44 11) = 5) (kd : (rg_v g 164 9) = 14) (hc_z : rn n am_m44 0 (lv_args 0 [.ref 44]) [] h r h') (hm_z : rn n' am_m178 0 (lv_args 0 [.ref 164]) [] g r' g') : rj_Q T S x p 2 h g h' g' r r' := by
  have z0_z : (0 : Int32).toInt = 0 := by decide
  have g0_z : am_get (lv_args 0 [.ref 44]) 0 = some (.ref 44) := rfl
  have g0m : am_get (lv_args 0 [.ref 164]) 0 = some (.ref 164) := rfl
  have Rk := R
  have Zk := Z
  obtain ⟨⟨c1_z, c2_z, c3_z, c4_z, c5_z, c6_z, c7_z, c8_z⟩, ⟨m2_z, m3_z, m4_z, m5_z, m6_z, m7_z, m8_z⟩, R3, R4, R5, R6, R7, R8, R9, R10⟩ := (R : rq T S x p 2 h g)
  obtain ⟨np, op, z1_z, z2_z, z3_z, z4_z, z5_z, z6_z, z7_z, z8_z, z9_z, z10_z⟩ := (Z : rs 2 h g)
  obtain ⟨nk1_z, nk2_z, nk3_z⟩ := A.2.2.2.2.2.1
  replace nk1_z : rg_v h 11 0 = rg_v g 164 44 := nk1_z
  replace nk2_z : 0 ≤ (rg_v h 11 0).toInt := nk2_z
  replace nk3_z : (rg_v h 11 0).toInt ≤ 64 := nk3_z
  replace z8_z : np.toInt ≤ (rg_v h 11 0).toInt + op.toInt := z8_z
  obtain ⟨kn, ekn⟩ : ∃ v, rg_v h 11 0 = v := ⟨_, rfl⟩
  rw [ekn] at nk1_z nk2_z nk3_z z8_z
  have e9_z := rt_c1 (x := kn) (by omega) (by omega)
  replace hc_z := rn_aload_n (am_cur_of (i := (0, 1, .aload_n 0, (0, 0, 0), 0)) (by decide +kernel)) g0_z hc_z
  replace hc_z := rn_bipush (w := 41) (am_cur_of (i := (1, 2, .bipush 41, (0, 0, 0), 0)) (by decide +kernel)) (by decide) hc_z
  replace hc_z := rn_callV (M' := am_m45) (o := 44) (ar := [.int 41]) (rest := []) (L := lv_args 0 [.ref 44, .int 41]) (am_cur_of (i := (3, 3, .invokevirtual 105, (45, 834, 3), 0)) (by decide +kernel)) rfl rfl rfl rfl hc_z
  obtain ⟨r4931_z, h4932_z, q4933_z, hc_z⟩ := hc_z
  obtain ⟨rfl, yq4933_z⟩ := rp_mkN (fun q => absurd (Eq.trans (Eq.symm ka) q.1) (by decide)) q4933_z
  subst yq4933_z
  replace hc_z : rn _ _ _ _ [.int 0] _ _ _ := hc_z
  replace hc_z := rn_ifT (am_cur_of (i := (6, 3, .ifCond .eq 45, (28, 0, 0), 0)) (by decide +kernel)) (by decide) hc_z
  replace hc_z := rn_aload_n (am_cur_of (i := (51, 1, .aload_n 0, (0, 0, 0), 0)) (by decide +kernel)) g0_z hc_z
  replace hc_z := rn_getI (v := 6) (am_cur_of (i := (52, 3, .getfield 60, (4, 10, 419), 0)) (by decide +kernel)) (by decide +kernel) ka hc_z
  replace hc_z := rn_bipush (w := 6) (am_cur_of (i := (55, 2, .bipush 6, (0, 0, 0), 0)) (by decide +kernel)) (by decide) hc_z
  replace hc_z := rn_cmpF (am_cur_of (i := (57, 3, .if_icmp .ne 11, (36, 0, 0), 0)) (by decide +kernel)) (by decide) hc_z
  replace hc_z := rn_aload_n (am_cur_of (i := (60, 1, .aload_n 0, (0, 0, 0), 0)) (by decide +kernel)) g0_z hc_z
  replace hc_z := rn_getI (v := 5) (am_cur_of (i := (61, 3, .getfield 91, (4, 11, 420), 0)) (by decide +kernel)) (by decide +kernel) kb hc_z
  replace hc_z := rn_iconst (w := 5) (am_cur_of (i := (64, 1, .iconst 5, (0, 0, 0), 0)) (by decide +kernel)) (by decide) hc_z
  replace hc_z := rn_cmpF (am_cur_of (i := (65, 3, .if_icmp .ne 17, (44, 0, 0), 0)) (by decide +kernel)) (by decide) hc_z
  replace hc_z := rn_aload_n (am_cur_of (i := (68, 1, .aload_n 0, (0, 0, 0), 0)) (by decide +kernel)) g0_z hc_z
  replace hc_z := rn_getI (v := op) (am_cur_of (i := (69, 3, .getfield 254, (4, 14, 423), 0)) (by decide +kernel)) (by decide +kernel) z4_z hc_z
  replace hc_z := rn_if (am_cur_of (i := (72, 3, .ifCond .le 8, (42, 0, 0), 0)) (by decide +kernel)) hc_z
  rcases hc_z with ⟨b4934_z, hc_z⟩ | ⟨b4934_z, hc_z⟩
  · replace b4934_z : op.toInt ≤ (0 : Int32).toInt := b4934_z
    replace hc_z := rn_iconst (w := 3) (am_cur_of (i := (80, 1, .iconst 3, (0, 0, 0), 0)) (by decide +kernel)) (by decide) hc_z
    replace hc_z := rn_iret (am_cur_of (i := (81, 1, .ireturn, (0, 0, 0), 0)) (by decide +kernel)) hc_z
    obtain ⟨e4935_z, e4936_z⟩ := hc_z
    replace hm_z := rn_aload_n (am_cur_of (i := (0, 1, .aload_n 0, (0, 0, 0), 0)) (by decide +kernel)) g0m hm_z
    replace hm_z := rn_bipush (w := 41) (am_cur_of (i := (1, 2, .bipush 41, (0, 0, 0), 0)) (by decide +kernel)) (by decide) hm_z
    replace hm_z := rn_callV (M' := am_m171) (o := 164) (ar := [.int 41]) (rest := []) (L := lv_args 0 [.ref 164, .int 41]) (am_cur_of (i := (3, 3, .invokevirtual 194, (171, 1715, 3), 0)) (by decide +kernel)) rfl rfl rfl rfl hm_z
    obtain ⟨r4937_z, h4938_z, q4939_z, hm_z⟩ := hm_z
    obtain ⟨rfl, yq4939_z⟩ := rp_sgN (fun q => absurd (Eq.trans (Eq.symm kc) q.1) (by decide)) q4939_z
    subst yq4939_z
    replace hm_z : rn _ _ _ _ [.int 0] _ _ _ := hm_z
    replace hm_z := rn_ifT (am_cur_of (i := (6, 3, .ifCond .eq 41, (26, 0, 0), 0)) (by decide +kernel)) (by decide) hm_z
    replace hm_z := rn_aload_n (am_cur_of (i := (47, 1, .aload_n 0, (0, 0, 0), 0)) (by decide +kernel)) g0m hm_z
    replace hm_z := rn_bipush (w := 12) (am_cur_of (i := (48, 2, .bipush 12, (0, 0, 0), 0)) (by decide +kernel)) (by decide) hm_z
    replace hm_z := rn_callV (M' := am_m174) (o := 164) (ar := [.int 12]) (rest := []) (L := lv_args 0 [.ref 164, .int 12]) (am_cur_of (i := (50, 3, .invokevirtual 306, (174, 1727, 3), 0)) (by decide +kernel)) rfl rfl rfl rfl hm_z
    obtain ⟨r4940_z, h4941_z, q4942_z, hm_z⟩ := hm_z
    obtain ⟨rfl, yq4942_z⟩ := rp_kyN (fun q => absurd (Eq.trans (Eq.symm kd) q.2) (by decide)) q4942_z
    subst yq4942_z
    replace hm_z : rn _ _ _ _ [.int 0] _ _ _ := hm_z
    replace hm_z := rn_ifT (am_cur_of (i := (53, 3, .ifCond .eq 7, (32, 0, 0), 0)) (by decide +kernel)) (by decide) hm_z
    replace hm_z := rn_aload_n (am_cur_of (i := (60, 1, .aload_n 0, (0, 0, 0), 0)) (by decide +kernel)) g0m hm_z
    replace hm_z := rn_bipush (w := 13) (am_cur_of (i := (61, 2, .bipush 13, (0, 0, 0), 0)) (by decide +kernel)) (by decide) hm_z
    replace hm_z := rn_callV (M' := am_m174) (o := 164) (ar := [.int 13]) (rest := []) (L := lv_args 0 [.ref 164, .int 13]) (am_cur_of (i := (63, 3, .invokevirtual 306, (174, 1727, 3), 0)) (by decide +kernel)) rfl rfl rfl rfl hm_z
    obtain ⟨r4943_z, h4944_z, q4945_z, hm_z⟩ := hm_z
    obtain ⟨rfl, yq4945_z⟩ := rp_kyN (fun q => absurd (Eq.trans (Eq.symm kd) q.2) (by decide)) q4945_z
    subst yq4945_z
    replace hm_z : rn _ _ _ _ [.int 0] _ _ _ := hm_z
    replace hm_z := rn_ifT (am_cur_of (i := (66, 3, .ifCond .eq 7, (38, 0, 0), 0)) (by decide +kernel)) (by decide) hm_z
    replace hm_z := rn_aload_n (am_cur_of (i := (73, 1, .aload_n 0, (0, 0, 0), 0)) (by decide +kernel)) g0m hm_z
    replace hm_z := rn_getI (v := 1) (am_cur_of (i := (74, 3, .getfield 157, (12, 8, 1392), 0)) (by decide +kernel)) (by decide +kernel) kc hm_z
    replace hm_z := rn_iconst (w := 5) (am_cur_of (i := (77, 1, .iconst 5, (0, 0, 0), 0)) (by decide +kernel)) (by decide) hm_z
    replace hm_z := rn_cmpT (am_cur_of (i := (78, 3, .if_icmp .ne 12, (47, 0, 0), 0)) (by decide +kernel)) (by decide) hm_z
    replace hm_z := rn_aload_n (am_cur_of (i := (90, 1, .aload_n 0, (0, 0, 0), 0)) (by decide +kernel)) g0m hm_z
    replace hm_z := rn_bipush (w := 43) (am_cur_of (i := (91, 2, .bipush 43, (0, 0, 0), 0)) (by decide +kernel)) (by decide) hm_z
    replace hm_z := rn_callV (M' := am_m171) (o := 164) (ar := [.int 43]) (rest := []) (L := lv_args 0 [.ref 164, .int 43]) (am_cur_of (i := (93, 3, .invokevirtual 194, (171, 1715, 3), 0)) (by decide +kernel)) rfl rfl rfl rfl hm_z
    obtain ⟨r4946_z, h4947_z, q4948_z, hm_z⟩ := hm_z
    obtain ⟨rfl, yq4948_z⟩ := rp_sgN (fun q => absurd (Eq.trans (Eq.symm kc) q.1) (by decide)) q4948_z
    subst yq4948_z
    replace hm_z : rn _ _ _ _ [.int 0] _ _ _ := hm_z
    replace hm_z := rn_ifT (am_cur_of (i := (96, 3, .ifCond .eq 8, (53, 0, 0), 0)) (by decide +kernel)) (by decide) hm_z
    replace hm_z := rn_aload_n (am_cur_of (i := (104, 1, .aload_n 0, (0, 0, 0), 0)) (by decide +kernel)) g0m hm_z
    replace hm_z := rn_bipush (w := 45) (am_cur_of (i := (105, 2, .bipush 45, (0, 0, 0), 0)) (by decide +kernel)) (by decide) hm_z
    replace hm_z := rn_callV (M' := am_m171) (o := 164) (ar := [.int 45]) (rest := []) (L := lv_args 0 [.ref 164, .int 45]) (am_cur_of (i := (107, 3, .invokevirtual 194, (171, 1715, 3), 0)) (by decide +kernel)) rfl rfl rfl rfl hm_z
    obtain ⟨r4949_z, h4950_z, q4951_z, hm_z⟩ := hm_z
    obtain ⟨rfl, yq4951_z⟩ := rp_sgN (fun q => absurd (Eq.trans (Eq.symm kc) q.1) (by decide)) q4951_z
    subst yq4951_z
    replace hm_z : rn _ _ _ _ [.int 0] _ _ _ := hm_z
    replace hm_z := rn_ifT (am_cur_of (i := (110, 3, .ifCond .eq 8, (59, 0, 0), 0)) (by decide +kernel)) (by decide) hm_z
    replace hm_z := rn_aload_n (am_cur_of (i := (118, 1, .aload_n 0, (0, 0, 0), 0)) (by decide +kernel)) g0m hm_z
    replace hm_z := rn_bipush (w := 42) (am_cur_of (i := (119, 2, .bipush 42, (0, 0, 0), 0)) (by decide +kernel)) (by decide) hm_z
    replace hm_z := rn_callV (M' := am_m171) (o := 164) (ar := [.int 42]) (rest := []) (L := lv_args 0 [.ref 164, .int 42]) (am_cur_of (i := (121, 3, .invokevirtual 194, (171, 1715, 3), 0)) (by decide +kernel)) rfl rfl rfl rfl hm_z
    obtain ⟨r4952_z, h4953_z, q4954_z, hm_z⟩ := hm_z
    obtain ⟨rfl, yq4954_z⟩ := rp_sgN (fun q => absurd (Eq.trans (Eq.symm kc) q.1) (by decide)) q4954_z
    subst yq4954_z
    replace hm_z : rn _ _ _ _ [.int 0] _ _ _ := hm_z
    replace hm_z := rn_ifT (am_cur_of (i := (124, 3, .ifCond .eq 8, (65, 0, 0), 0)) (by decide +kernel)) (by decide) hm_z
    replace hm_z := rn_aload_n (am_cur_of (i := (132, 1, .aload_n 0, (0, 0, 0), 0)) (by decide +kernel)) g0m hm_z
    replace hm_z := rn_bipush (w := 47) (am_cur_of (i := (133, 2, .bipush 47, (0, 0, 0), 0)) (by decide +kernel)) (by decide) hm_z
    replace hm_z := rn_callV (M' := am_m171) (o := 164) (ar := [.int 47]) (rest := []) (L := lv_args 0 [.ref 164, .int 47]) (am_cur_of (i := (135, 3, .invokevirtual 194, (171, 1715, 3), 0)) (by decide +kernel)) rfl rfl rfl rfl hm_z
    obtain ⟨r4955_z, h4956_z, q4957_z, hm_z⟩ := hm_z
    obtain ⟨rfl, yq4957_z⟩ := rp_sgN (fun q => absurd (Eq.trans (Eq.symm kc) q.1) (by decide)) q4957_z
    subst yq4957_z
    replace hm_z : rn _ _ _ _ [.int 0] _ _ _ := hm_z
    replace hm_z := rn_ifT (am_cur_of (i := (138, 3, .ifCond .eq 8, (71, 0, 0), 0)) (by decide +kernel)) (by decide) hm_z
    replace hm_z := rn_iconst (w := 0) (am_cur_of (i := (146, 1, .iconst 0, (0, 0, 0), 0)) (by decide +kernel)) (by decide) hm_z
    replace hm_z := rn_istore_n (am_cur_of (i := (147, 1, .istore_n 1, (0, 0, 0), 0)) (by decide +kernel)) hm_z
    obtain ⟨_, s4958_z, s4959_z, g1m, hm_z⟩ := hm_z
    replace g0m := s4958_z 0 _ (by decide) rfl g0m
    clear s4958_z s4959_z
    replace hm_z := rn_iload_n (am_cur_of (i := (148, 1, .iload_n 1, (0, 0, 0), 0)) (by decide +kernel)) g1m hm_z
    replace hm_z := rn_ifF (am_cur_of (i := (149, 3, .ifCond .ne 9, (79, 0, 0), 0)) (by decide +kernel)) (by decide) hm_z
    replace hm_z := rn_aload_n (am_cur_of (i := (152, 1, .aload_n 0, (0, 0, 0), 0)) (by decide +kernel)) g0m hm_z
    replace hm_z := rn_iconst (w := 1) (am_cur_of (i := (153, 1, .iconst 1, (0, 0, 0), 0)) (by decide +kernel)) (by decide) hm_z
    replace hm_z := rn_callV (M' := am_m158) (o := 164) (ar := [.int 1]) (rest := []) (L := lv_args 0 [.ref 164, .int 1]) (am_cur_of (i := (154, 3, .invokevirtual 181, (158, 1665, 3), 0)) (by decide +kernel)) rfl rfl rfl rfl hm_z
    obtain ⟨r4960_z, h4961_z, q4962_z, hm_z⟩ := hm_z
    obtain ⟨rfl, yq4962_z⟩ := rp_wrong q4962_z
    subst yq4962_z
    replace hm_z : rn _ _ _ _ [.int 0] _ _ _ := hm_z
    replace hm_z := rn_iret (am_cur_of (i := (157, 1, .ireturn, (0, 0, 0), 0)) (by decide +kernel)) hm_z
    obtain ⟨e4963_z, e4964_z⟩ := hm_z
    subst e4936_z e4964_z
    exact Or.inr ⟨e4935_z, rfl, z4_z.trans (rt_i32 (by rw [show (0 : Int32).toInt = 0 by decide]; omega)), e4963_z, rfl⟩
  · replace b4934_z : (0 : Int32).toInt < op.toInt := b4934_z
    replace hc_z := rn_aload_n (am_cur_of (i := (75, 1, .aload_n 0, (0, 0, 0), 0)) (by decide +kernel)) g0_z hc_z
    replace hc_z := rn_iconst (w := 1) (am_cur_of (i := (76, 1, .iconst 1, (0, 0, 0), 0)) (by decide +kernel)) (by decide) hc_z
    replace hc_z := rn_callV (M' := am_m29) (o := 44) (ar := [.int 1]) (rest := []) (L := lv_args 0 [.ref 44, .int 1]) (am_cur_of (i := (77, 3, .invokevirtual 108, (29, 769, 3), 0)) (by decide +kernel)) rfl rfl rfl rfl hc_z
    obtain ⟨r4965_z, h4966_z, q4967_z, hc_z⟩ := hc_z
    obtain ⟨rfl, yq4967_z⟩ := rp_fail R4 q4967_z
    subst yq4967_z
    replace hc_z : rn _ _ _ _ [] _ _ _ := hc_z
    have K := rs_stick (w := 1) (q := p) (a := 44) (by decide) (by decide) rfl (by decide) rfl (show rg_v (am_up (am_up h 44 1 (.int 1)) 44 2 (.int (rg_v h 44 9))) 44 2 = p from R5) hc_z
    replace hm_z := rn_aload_n (am_cur_of (i := (0, 1, .aload_n 0, (0, 0, 0), 0)) (by decide +kernel)) g0m hm_z
    replace hm_z := rn_bipush (w := 41) (am_cur_of (i := (1, 2, .bipush 41, (0, 0, 0), 0)) (by decide +kernel)) (by decide) hm_z
    replace hm_z := rn_callV (M' := am_m171) (o := 164) (ar := [.int 41]) (rest := []) (L := lv_args 0 [.ref 164, .int 41]) (am_cur_of (i := (3, 3, .invokevirtual 194, (171, 1715, 3), 0)) (by decide +kernel)) rfl rfl rfl rfl hm_z
    obtain ⟨r4968_z, h4969_z, q4970_z, hm_z⟩ := hm_z
    obtain ⟨rfl, yq4970_z⟩ := rp_sgN (fun q => absurd (Eq.trans (Eq.symm kc) q.1) (by decide)) q4970_z
    subst yq4970_z
    replace hm_z : rn _ _ _ _ [.int 0] _ _ _ := hm_z
    replace hm_z := rn_ifT (am_cur_of (i := (6, 3, .ifCond .eq 41, (26, 0, 0), 0)) (by decide +kernel)) (by decide) hm_z
    replace hm_z := rn_aload_n (am_cur_of (i := (47, 1, .aload_n 0, (0, 0, 0), 0)) (by decide +kernel)) g0m hm_z
    replace hm_z := rn_bipush (w := 12) (am_cur_of (i := (48, 2, .bipush 12, (0, 0, 0), 0)) (by decide +kernel)) (by decide) hm_z
    replace hm_z := rn_callV (M' := am_m174) (o := 164) (ar := [.int 12]) (rest := []) (L := lv_args 0 [.ref 164, .int 12]) (am_cur_of (i := (50, 3, .invokevirtual 306, (174, 1727, 3), 0)) (by decide +kernel)) rfl rfl rfl rfl hm_z
    obtain ⟨r4971_z, h4972_z, q4973_z, hm_z⟩ := hm_z
    obtain ⟨rfl, yq4973_z⟩ := rp_kyN (fun q => absurd (Eq.trans (Eq.symm kd) q.2) (by decide)) q4973_z
    subst yq4973_z
    replace hm_z : rn _ _ _ _ [.int 0] _ _ _ := hm_z
    replace hm_z := rn_ifT (am_cur_of (i := (53, 3, .ifCond .eq 7, (32, 0, 0), 0)) (by decide +kernel)) (by decide) hm_z
    replace hm_z := rn_aload_n (am_cur_of (i := (60, 1, .aload_n 0, (0, 0, 0), 0)) (by decide +kernel)) g0m hm_z
    replace hm_z := rn_bipush (w := 13) (am_cur_of (i := (61, 2, .bipush 13, (0, 0, 0), 0)) (by decide +kernel)) (by decide) hm_z
    replace hm_z := rn_callV (M' := am_m174) (o := 164) (ar := [.int 13]) (rest := []) (L := lv_args 0 [.ref 164, .int 13]) (am_cur_of (i := (63, 3, .invokevirtual 306, (174, 1727, 3), 0)) (by decide +kernel)) rfl rfl rfl rfl hm_z
    obtain ⟨r4974_z, h4975_z, q4976_z, hm_z⟩ := hm_z
    obtain ⟨rfl, yq4976_z⟩ := rp_kyN (fun q => absurd (Eq.trans (Eq.symm kd) q.2) (by decide)) q4976_z
    subst yq4976_z
    replace hm_z : rn _ _ _ _ [.int 0] _ _ _ := hm_z
    replace hm_z := rn_ifT (am_cur_of (i := (66, 3, .ifCond .eq 7, (38, 0, 0), 0)) (by decide +kernel)) (by decide) hm_z
    replace hm_z := rn_aload_n (am_cur_of (i := (73, 1, .aload_n 0, (0, 0, 0), 0)) (by decide +kernel)) g0m hm_z
    replace hm_z := rn_getI (v := 1) (am_cur_of (i := (74, 3, .getfield 157, (12, 8, 1392), 0)) (by decide +kernel)) (by decide +kernel) kc hm_z
    replace hm_z := rn_iconst (w := 5) (am_cur_of (i := (77, 1, .iconst 5, (0, 0, 0), 0)) (by decide +kernel)) (by decide) hm_z
    replace hm_z := rn_cmpT (am_cur_of (i := (78, 3, .if_icmp .ne 12, (47, 0, 0), 0)) (by decide +kernel)) (by decide) hm_z
    replace hm_z := rn_aload_n (am_cur_of (i := (90, 1, .aload_n 0, (0, 0, 0), 0)) (by decide +kernel)) g0m hm_z
    replace hm_z := rn_bipush (w := 43) (am_cur_of (i := (91, 2, .bipush 43, (0, 0, 0), 0)) (by decide +kernel)) (by decide) hm_z
    replace hm_z := rn_callV (M' := am_m171) (o := 164) (ar := [.int 43]) (rest := []) (L := lv_args 0 [.ref 164, .int 43]) (am_cur_of (i := (93, 3, .invokevirtual 194, (171, 1715, 3), 0)) (by decide +kernel)) rfl rfl rfl rfl hm_z
    obtain ⟨r4977_z, h4978_z, q4979_z, hm_z⟩ := hm_z
    obtain ⟨rfl, yq4979_z⟩ := rp_sgN (fun q => absurd (Eq.trans (Eq.symm kc) q.1) (by decide)) q4979_z
    subst yq4979_z
    replace hm_z : rn _ _ _ _ [.int 0] _ _ _ := hm_z
    replace hm_z := rn_ifT (am_cur_of (i := (96, 3, .ifCond .eq 8, (53, 0, 0), 0)) (by decide +kernel)) (by decide) hm_z
    replace hm_z := rn_aload_n (am_cur_of (i := (104, 1, .aload_n 0, (0, 0, 0), 0)) (by decide +kernel)) g0m hm_z
    replace hm_z := rn_bipush (w := 45) (am_cur_of (i := (105, 2, .bipush 45, (0, 0, 0), 0)) (by decide +kernel)) (by decide) hm_z
    replace hm_z := rn_callV (M' := am_m171) (o := 164) (ar := [.int 45]) (rest := []) (L := lv_args 0 [.ref 164, .int 45]) (am_cur_of (i := (107, 3, .invokevirtual 194, (171, 1715, 3), 0)) (by decide +kernel)) rfl rfl rfl rfl hm_z
    obtain ⟨r4980_z, h4981_z, q4982_z, hm_z⟩ := hm_z
    obtain ⟨rfl, yq4982_z⟩ := rp_sgN (fun q => absurd (Eq.trans (Eq.symm kc) q.1) (by decide)) q4982_z
    subst yq4982_z
    replace hm_z : rn _ _ _ _ [.int 0] _ _ _ := hm_z
    replace hm_z := rn_ifT (am_cur_of (i := (110, 3, .ifCond .eq 8, (59, 0, 0), 0)) (by decide +kernel)) (by decide) hm_z
    replace hm_z := rn_aload_n (am_cur_of (i := (118, 1, .aload_n 0, (0, 0, 0), 0)) (by decide +kernel)) g0m hm_z
    replace hm_z := rn_bipush (w := 42) (am_cur_of (i := (119, 2, .bipush 42, (0, 0, 0), 0)) (by decide +kernel)) (by decide) hm_z
    replace hm_z := rn_callV (M' := am_m171) (o := 164) (ar := [.int 42]) (rest := []) (L := lv_args 0 [.ref 164, .int 42]) (am_cur_of (i := (121, 3, .invokevirtual 194, (171, 1715, 3), 0)) (by decide +kernel)) rfl rfl rfl rfl hm_z
    obtain ⟨r4983_z, h4984_z, q4985_z, hm_z⟩ := hm_z
    obtain ⟨rfl, yq4985_z⟩ := rp_sgN (fun q => absurd (Eq.trans (Eq.symm kc) q.1) (by decide)) q4985_z
    subst yq4985_z
    replace hm_z : rn _ _ _ _ [.int 0] _ _ _ := hm_z
    replace hm_z := rn_ifT (am_cur_of (i := (124, 3, .ifCond .eq 8, (65, 0, 0), 0)) (by decide +kernel)) (by decide) hm_z
    replace hm_z := rn_aload_n (am_cur_of (i := (132, 1, .aload_n 0, (0, 0, 0), 0)) (by decide +kernel)) g0m hm_z
    replace hm_z := rn_bipush (w := 47) (am_cur_of (i := (133, 2, .bipush 47, (0, 0, 0), 0)) (by decide +kernel)) (by decide) hm_z
    replace hm_z := rn_callV (M' := am_m171) (o := 164) (ar := [.int 47]) (rest := []) (L := lv_args 0 [.ref 164, .int 47]) (am_cur_of (i := (135, 3, .invokevirtual 194, (171, 1715, 3), 0)) (by decide +kernel)) rfl rfl rfl rfl hm_z
    obtain ⟨r4986_z, h4987_z, q4988_z, hm_z⟩ := hm_z
    obtain ⟨rfl, yq4988_z⟩ := rp_sgN (fun q => absurd (Eq.trans (Eq.symm kc) q.1) (by decide)) q4988_z
    subst yq4988_z
    replace hm_z : rn _ _ _ _ [.int 0] _ _ _ := hm_z
    replace hm_z := rn_ifT (am_cur_of (i := (138, 3, .ifCond .eq 8, (71, 0, 0), 0)) (by decide +kernel)) (by decide) hm_z
    replace hm_z := rn_iconst (w := 0) (am_cur_of (i := (146, 1, .iconst 0, (0, 0, 0), 0)) (by decide +kernel)) (by decide) hm_z
    replace hm_z := rn_istore_n (am_cur_of (i := (147, 1, .istore_n 1, (0, 0, 0), 0)) (by decide +kernel)) hm_z
    obtain ⟨_, s4989_z, s4990_z, g1m, hm_z⟩ := hm_z
    replace g0m := s4989_z 0 _ (by decide) rfl g0m
    clear s4989_z s4990_z
    replace hm_z := rn_iload_n (am_cur_of (i := (148, 1, .iload_n 1, (0, 0, 0), 0)) (by decide +kernel)) g1m hm_z
    replace hm_z := rn_ifF (am_cur_of (i := (149, 3, .ifCond .ne 9, (79, 0, 0), 0)) (by decide +kernel)) (by decide) hm_z
    replace hm_z := rn_aload_n (am_cur_of (i := (152, 1, .aload_n 0, (0, 0, 0), 0)) (by decide +kernel)) g0m hm_z
    replace hm_z := rn_iconst (w := 1) (am_cur_of (i := (153, 1, .iconst 1, (0, 0, 0), 0)) (by decide +kernel)) (by decide) hm_z
    replace hm_z := rn_callV (M' := am_m158) (o := 164) (ar := [.int 1]) (rest := []) (L := lv_args 0 [.ref 164, .int 1]) (am_cur_of (i := (154, 3, .invokevirtual 181, (158, 1665, 3), 0)) (by decide +kernel)) rfl rfl rfl rfl hm_z
    obtain ⟨r4991_z, h4992_z, q4993_z, hm_z⟩ := hm_z
    obtain ⟨rfl, yq4993_z⟩ := rp_wrong q4993_z
    subst yq4993_z
    replace hm_z : rn _ _ _ _ [.int 0] _ _ _ := hm_z
    replace hm_z := rn_iret (am_cur_of (i := (157, 1, .ireturn, (0, 0, 0), 0)) (by decide +kernel)) hm_z
    obtain ⟨e4994_z, e4995_z⟩ := hm_z
    subst e4994_z e4995_z
    exact Or.inl (Or.inr ⟨rfl, 1, by decide, K.1, K.2, rfl, R6⟩)
theorem rj_c18_2 {T : Nat → Int32} {S x p : Int32} {n n' : Nat} {h h' g g' : am_H} {r r' : Option Value} (R : rq T S x p 2 h g) (A : rp 2 h g) (B : rp_t h g) (Z : rs 2 h g) (w0_z : rg_v g 164 45 = 0) (ka : (rg_v h 44 10) = 6) (kc : (rg_v g 164 8) = 5) (kb : (rg_v h 44 11) = 6) (kd : (rg_v g 164 9) = 0) (hc_z : rn n am_m44 0 (lv_args 0 [.ref 44]) [] h r h') (hm_z : rn n' am_m178 0 (lv_args 0 [.ref 164]) [] g r' g') : rj_Q T S x p 2 h g h' g' r r' := by
  have z0_z : (0 : Int32).toInt = 0 := by decide
  have z4_z : (4 : Int32).toInt = 4 := by decide
  have z6_z : (6 : Int32).toInt = 6 := by decide
  have g0_z : am_get (lv_args 0 [.ref 44]) 0 = some (.ref 44) := rfl
  have g0m : am_get (lv_args 0 [.ref 164]) 0 = some (.ref 164) := rfl
  have Rk := R
  have Zk := Z
  obtain ⟨⟨c1_z, c2_z, c3_z, c4_z, c5_z, c6_z, c7_z, c8_z⟩, ⟨m2_z, m3_z, m4_z, m5_z, m6_z, m7_z, m8_z⟩, R3, R4, R5, R6, R7, R8, R9, R10⟩ := (R : rq T S x p 2 h g)
  obtain ⟨np, op, z1_z, z2_z, z3_z, z4_z, z5_z, z6_z, z7_z, z8_z, z9_z, z10_z⟩ := (Z : rs 2 h g)
  obtain ⟨nk1_z, nk2_z, nk3_z⟩ := A.2.2.2.2.2.1
  replace nk1_z : rg_v h 11 0 = rg_v g 164 44 := nk1_z
  replace nk2_z : 0 ≤ (rg_v h 11 0).toInt := nk2_z
  replace nk3_z : (rg_v h 11 0).toInt ≤ 64 := nk3_z
  replace z8_z : np.toInt ≤ (rg_v h 11 0).toInt + op.toInt := z8_z
  obtain ⟨kn, ekn⟩ : ∃ v, rg_v h 11 0 = v := ⟨_, rfl⟩
  rw [ekn] at nk1_z nk2_z nk3_z z8_z
  have e9_z := rt_c1 (x := kn) (by omega) (by omega)
  replace hc_z := rn_aload_n (am_cur_of (i := (0, 1, .aload_n 0, (0, 0, 0), 0)) (by decide +kernel)) g0_z hc_z
  replace hc_z := rn_bipush (w := 41) (am_cur_of (i := (1, 2, .bipush 41, (0, 0, 0), 0)) (by decide +kernel)) (by decide) hc_z
  replace hc_z := rn_callV (M' := am_m45) (o := 44) (ar := [.int 41]) (rest := []) (L := lv_args 0 [.ref 44, .int 41]) (am_cur_of (i := (3, 3, .invokevirtual 105, (45, 834, 3), 0)) (by decide +kernel)) rfl rfl rfl rfl hc_z
  obtain ⟨r4996_z, h4997_z, q4998_z, hc_z⟩ := hc_z
  obtain ⟨rfl, yq4998_z⟩ := rp_mkN (fun q => absurd (Eq.trans (Eq.symm ka) q.1) (by decide)) q4998_z
  subst yq4998_z
  replace hc_z : rn _ _ _ _ [.int 0] _ _ _ := hc_z
  replace hc_z := rn_ifT (am_cur_of (i := (6, 3, .ifCond .eq 45, (28, 0, 0), 0)) (by decide +kernel)) (by decide) hc_z
  replace hc_z := rn_aload_n (am_cur_of (i := (51, 1, .aload_n 0, (0, 0, 0), 0)) (by decide +kernel)) g0_z hc_z
  replace hc_z := rn_getI (v := 6) (am_cur_of (i := (52, 3, .getfield 60, (4, 10, 419), 0)) (by decide +kernel)) (by decide +kernel) ka hc_z
  replace hc_z := rn_bipush (w := 6) (am_cur_of (i := (55, 2, .bipush 6, (0, 0, 0), 0)) (by decide +kernel)) (by decide) hc_z
  replace hc_z := rn_cmpF (am_cur_of (i := (57, 3, .if_icmp .ne 11, (36, 0, 0), 0)) (by decide +kernel)) (by decide) hc_z
  replace hc_z := rn_aload_n (am_cur_of (i := (60, 1, .aload_n 0, (0, 0, 0), 0)) (by decide +kernel)) g0_z hc_z
  replace hc_z := rn_getI (v := 6) (am_cur_of (i := (61, 3, .getfield 91, (4, 11, 420), 0)) (by decide +kernel)) (by decide +kernel) kb hc_z
  replace hc_z := rn_iconst (w := 5) (am_cur_of (i := (64, 1, .iconst 5, (0, 0, 0), 0)) (by decide +kernel)) (by decide) hc_z
  replace hc_z := rn_cmpT (am_cur_of (i := (65, 3, .if_icmp .ne 17, (44, 0, 0), 0)) (by decide +kernel)) (by decide) hc_z
  replace hc_z := rn_aload_n (am_cur_of (i := (82, 1, .aload_n 0, (0, 0, 0), 0)) (by decide +kernel)) g0_z hc_z
  replace hc_z := rn_getI (v := 6) (am_cur_of (i := (83, 3, .getfield 91, (4, 11, 420), 0)) (by decide +kernel)) (by decide +kernel) kb hc_z
  replace hc_z := rn_istore_n (am_cur_of (i := (86, 1, .istore_n 1, (0, 0, 0), 0)) (by decide +kernel)) hc_z
  obtain ⟨_, s4999_z, s5000_z, g1_z, hc_z⟩ := hc_z
  replace g0_z := s4999_z 0 _ (by decide) rfl g0_z
  clear s4999_z s5000_z
  replace hc_z := rn_iload_n (am_cur_of (i := (87, 1, .iload_n 1, (0, 0, 0), 0)) (by decide +kernel)) g1_z hc_z
  replace hc_z := rn_callS (M' := am_m47) (ar := [.int 6]) (rest := []) (L := lv_args 0 [.int 6]) (am_cur_of (i := (88, 3, .invokestatic 283, (47, 842, 3), 0)) (by decide +kernel)) rfl rfl rfl rfl hc_z
  obtain ⟨r5001_z, h5002_z, q5003_z, hc_z⟩ := hc_z
  obtain ⟨rfl, yq5003_z⟩ := rs_rankC q5003_z
  replace yq5003_z := yq5003_z.symm
  subst yq5003_z
  rw [show rk_C 6 = 6 by decide] at hc_z
  replace hc_z : rn _ _ _ _ [.int 6] _ _ _ := hc_z
  replace hc_z := rn_bipush (w := 6) (am_cur_of (i := (91, 2, .bipush 6, (0, 0, 0), 0)) (by decide +kernel)) (by decide) hc_z
  replace hc_z := rn_callS (M' := am_m47) (ar := [.int 6]) (rest := [.int 6]) (L := lv_args 0 [.int 6]) (am_cur_of (i := (93, 3, .invokestatic 283, (47, 842, 3), 0)) (by decide +kernel)) rfl rfl rfl rfl hc_z
  obtain ⟨r5004_z, h5005_z, q5006_z, hc_z⟩ := hc_z
  obtain ⟨rfl, yq5006_z⟩ := rs_rankC q5006_z
  replace yq5006_z := yq5006_z.symm
  subst yq5006_z
  rw [show rk_C 6 = 6 by decide] at hc_z
  replace hc_z : rn _ _ _ _ [.int 6, .int 6] _ _ _ := hc_z
  replace hc_z := rn_cmpF (am_cur_of (i := (96, 3, .if_icmp .ne 46, (73, 0, 0), 0)) (by decide +kernel)) (by decide) hc_z
  replace hc_z := rn_aload_n (am_cur_of (i := (99, 1, .aload_n 0, (0, 0, 0), 0)) (by decide +kernel)) g0_z hc_z
  replace hc_z := rn_bipush (w := 12) (am_cur_of (i := (100, 2, .bipush 12, (0, 0, 0), 0)) (by decide +kernel)) (by decide) hc_z
  replace hc_z := rn_callV (M' := am_m46) (o := 44) (ar := [.int 12]) (rest := []) (L := lv_args 0 [.ref 44, .int 12]) (am_cur_of (i := (102, 3, .invokevirtual 264, (46, 838, 3), 0)) (by decide +kernel)) rfl rfl rfl rfl hc_z
  obtain ⟨r5007_z, h5008_z, q5009_z, hc_z⟩ := hc_z
  replace hm_z := rn_aload_n (am_cur_of (i := (0, 1, .aload_n 0, (0, 0, 0), 0)) (by decide +kernel)) g0m hm_z
  replace hm_z := rn_bipush (w := 41) (am_cur_of (i := (1, 2, .bipush 41, (0, 0, 0), 0)) (by decide +kernel)) (by decide) hm_z
  replace hm_z := rn_callV (M' := am_m171) (o := 164) (ar := [.int 41]) (rest := []) (L := lv_args 0 [.ref 164, .int 41]) (am_cur_of (i := (3, 3, .invokevirtual 194, (171, 1715, 3), 0)) (by decide +kernel)) rfl rfl rfl rfl hm_z
  obtain ⟨r5010_z, h5011_z, q5012_z, hm_z⟩ := hm_z
  obtain ⟨rfl, yq5012_z⟩ := rp_sgN (fun q => absurd (Eq.trans (Eq.symm kc) q.1) (by decide)) q5012_z
  subst yq5012_z
  replace hm_z : rn _ _ _ _ [.int 0] _ _ _ := hm_z
  replace hm_z := rn_ifT (am_cur_of (i := (6, 3, .ifCond .eq 41, (26, 0, 0), 0)) (by decide +kernel)) (by decide) hm_z
  replace hm_z := rn_aload_n (am_cur_of (i := (47, 1, .aload_n 0, (0, 0, 0), 0)) (by decide +kernel)) g0m hm_z
  replace hm_z := rn_bipush (w := 12) (am_cur_of (i := (48, 2, .bipush 12, (0, 0, 0), 0)) (by decide +kernel)) (by decide) hm_z
  replace hm_z := rn_callV (M' := am_m174) (o := 164) (ar := [.int 12]) (rest := []) (L := lv_args 0 [.ref 164, .int 12]) (am_cur_of (i := (50, 3, .invokevirtual 306, (174, 1727, 3), 0)) (by decide +kernel)) rfl rfl rfl rfl hm_z
  obtain ⟨r5013_z, h5014_z, q5015_z, hm_z⟩ := hm_z
  obtain ⟨rfl, yq5015_z⟩ := rp_kyN (fun q => absurd (Eq.trans (Eq.symm kc) q.1) (by decide)) q5015_z
  subst yq5015_z
  replace hm_z : rn _ _ _ _ [.int 0] _ _ _ := hm_z
  replace hm_z := rn_ifT (am_cur_of (i := (53, 3, .ifCond .eq 7, (32, 0, 0), 0)) (by decide +kernel)) (by decide) hm_z
  replace hm_z := rn_aload_n (am_cur_of (i := (60, 1, .aload_n 0, (0, 0, 0), 0)) (by decide +kernel)) g0m hm_z
  replace hm_z := rn_bipush (w := 13) (am_cur_of (i := (61, 2, .bipush 13, (0, 0, 0), 0)) (by decide +kernel)) (by decide) hm_z
  replace hm_z := rn_callV (M' := am_m174) (o := 164) (ar := [.int 13]) (rest := []) (L := lv_args 0 [.ref 164, .int 13]) (am_cur_of (i := (63, 3, .invokevirtual 306, (174, 1727, 3), 0)) (by decide +kernel)) rfl rfl rfl rfl hm_z
  obtain ⟨r5016_z, h5017_z, q5018_z, hm_z⟩ := hm_z
  obtain ⟨rfl, yq5018_z⟩ := rp_kyN (fun q => absurd (Eq.trans (Eq.symm kc) q.1) (by decide)) q5018_z
  subst yq5018_z
  replace hm_z : rn _ _ _ _ [.int 0] _ _ _ := hm_z
  replace hm_z := rn_ifT (am_cur_of (i := (66, 3, .ifCond .eq 7, (38, 0, 0), 0)) (by decide +kernel)) (by decide) hm_z
  replace hm_z := rn_aload_n (am_cur_of (i := (73, 1, .aload_n 0, (0, 0, 0), 0)) (by decide +kernel)) g0m hm_z
  replace hm_z := rn_getI (v := 5) (am_cur_of (i := (74, 3, .getfield 157, (12, 8, 1392), 0)) (by decide +kernel)) (by decide +kernel) kc hm_z
  replace hm_z := rn_iconst (w := 5) (am_cur_of (i := (77, 1, .iconst 5, (0, 0, 0), 0)) (by decide +kernel)) (by decide) hm_z
  replace hm_z := rn_cmpF (am_cur_of (i := (78, 3, .if_icmp .ne 12, (47, 0, 0), 0)) (by decide +kernel)) (by decide) hm_z
  replace hm_z := rn_iconst (w := 5) (am_cur_of (i := (81, 1, .iconst 5, (0, 0, 0), 0)) (by decide +kernel)) (by decide) hm_z
  replace hm_z := rn_aload_n (am_cur_of (i := (82, 1, .aload_n 0, (0, 0, 0), 0)) (by decide +kernel)) g0m hm_z
  replace hm_z := rn_getI (v := 0) (am_cur_of (i := (83, 3, .getfield 168, (12, 9, 1393), 0)) (by decide +kernel)) (by decide +kernel) kd hm_z
  replace hm_z := rn_iadd (w := 5) (am_cur_of (i := (86, 1, .iadd, (0, 0, 0), 0)) (by decide +kernel)) (by decide) hm_z
  replace hm_z := rn_goto (am_cur_of (i := (87, 3, .goto 60, (72, 0, 0), 0)) (by decide +kernel)) hm_z
  replace hm_z := rn_istore_n (am_cur_of (i := (147, 1, .istore_n 1, (0, 0, 0), 0)) (by decide +kernel)) hm_z
  obtain ⟨_, s5019_z, s5020_z, g1m, hm_z⟩ := hm_z
  replace g0m := s5019_z 0 _ (by decide) rfl g0m
  clear s5019_z s5020_z
  replace hm_z := rn_iload_n (am_cur_of (i := (148, 1, .iload_n 1, (0, 0, 0), 0)) (by decide +kernel)) g1m hm_z
  replace hm_z := rn_ifT (am_cur_of (i := (149, 3, .ifCond .ne 9, (79, 0, 0), 0)) (by decide +kernel)) (by decide) hm_z
  replace hm_z := rn_aload_n (am_cur_of (i := (158, 1, .aload_n 0, (0, 0, 0), 0)) (by decide +kernel)) g0m hm_z
  replace hm_z := rn_iload_n (am_cur_of (i := (159, 1, .iload_n 1, (0, 0, 0), 0)) (by decide +kernel)) g1m hm_z
  replace hm_z := rn_callS (M' := am_m180) (ar := [.int 5]) (rest := [.ref 164]) (L := lv_args 0 [.int 5]) (am_cur_of (i := (160, 3, .invokestatic 283, (180, 1751, 3), 0)) (by decide +kernel)) rfl rfl rfl rfl hm_z
  obtain ⟨r5021_z, h5022_z, q5023_z, hm_z⟩ := hm_z
  obtain ⟨rfl, yq5023_z⟩ := rs_rankM q5023_z
  replace yq5023_z := yq5023_z.symm
  subst yq5023_z
  rw [show rk_M 5 = 4 by decide] at hm_z
  replace hm_z : rn _ _ _ _ [.int 4, .ref 164] _ _ _ := hm_z
  replace hm_z := rn_iconst (w := 4) (am_cur_of (i := (163, 1, .iconst 4, (0, 0, 0), 0)) (by decide +kernel)) (by decide) hm_z
  replace hm_z := rn_cmpF (am_cur_of (i := (164, 3, .if_icmp .ne 7, (86, 0, 0), 0)) (by decide +kernel)) (by decide) hm_z
  replace hm_z := rn_iconst (w := 5) (am_cur_of (i := (167, 1, .iconst 5, (0, 0, 0), 0)) (by decide +kernel)) (by decide) hm_z
  replace hm_z := rn_goto (am_cur_of (i := (168, 3, .goto 7, (88, 0, 0), 0)) (by decide +kernel)) hm_z
  replace hm_z := rn_callV (M' := am_m179) (o := 164) (ar := [.int 5]) (rest := []) (L := lv_args 0 [.ref 164, .int 5]) (am_cur_of (i := (175, 3, .invokevirtual 318, (179, 1747, 3), 0)) (by decide +kernel)) rfl rfl rfl rfl hm_z
  obtain ⟨r5024_z, h5025_z, q5026_z, hm_z⟩ := hm_z
  obtain ⟨rfl, rfl, FC, FM, R, A, B, Z, nq, e13_z, hst⟩ := rz_set2 rs_l12 (by decide) Rk A B Zk q5009_z q5026_z
  have Zq := Z
  obtain ⟨np, op, z1_z, z2_z, z3_z, z4_z, z5_z, z6_z, z7_z, z8_z, z9_z, z10_z⟩ := Zq
  obtain rfl : np = nq := z1_z.symm.trans e13_z
  replace hm_z : rn _ _ _ _ [] _ _ _ := hm_z
  replace hc_z : rn _ _ _ _ [] _ _ _ := hc_z
  have cn := rt_cl z3_z
  have zz1_z : (1 : Int32).toInt = 1 := by decide
  have n31_z := (ab_32 np).2
  have y1_z := ab_isub (x := np) (y := 1) (by omega) (by omega)
  replace hc_z := rn_aload_n (am_cur_of (i := (105, 1, .aload_n 0, (0, 0, 0), 0)) (by decide +kernel)) g0_z hc_z
  replace hc_z := rn_getI (v := np) (am_cur_of (i := (106, 3, .getfield 251, (4, 13, 422), 0)) (by decide +kernel)) (by decide +kernel) z1_z hc_z
  replace hc_z := rn_if (am_cur_of (i := (109, 3, .ifCond .le 38, (76, 0, 0), 0)) (by decide +kernel)) hc_z
  rcases hc_z with ⟨b5027_z, hc_z⟩ | ⟨b5027_z, hc_z⟩
  · replace b5027_z : np.toInt ≤ (0 : Int32).toInt := b5027_z
    replace hm_z := rn_iload_n (am_cur_of (i := (178, 1, .iload_n 1, (0, 0, 0), 0)) (by decide +kernel)) g1m hm_z
    replace hm_z := rn_callS (M' := am_m180) (ar := [.int 5]) (rest := []) (L := lv_args 0 [.int 5]) (am_cur_of (i := (179, 3, .invokestatic 283, (180, 1751, 3), 0)) (by decide +kernel)) rfl rfl rfl rfl hm_z
    obtain ⟨r5028_z, h5029_z, q5030_z, hm_z⟩ := hm_z
    obtain ⟨rfl, yq5030_z⟩ := rs_rankM q5030_z
    replace yq5030_z := yq5030_z.symm
    subst yq5030_z
    rw [show rk_M 5 = 4 by decide] at hm_z
    replace hm_z : rn _ _ _ _ [.int 4] _ _ _ := hm_z
    replace hm_z := rn_iconst (w := 4) (am_cur_of (i := (182, 1, .iconst 4, (0, 0, 0), 0)) (by decide +kernel)) (by decide) hm_z
    replace hm_z := rn_cmpF (am_cur_of (i := (183, 3, .if_icmp .ne 34, (110, 0, 0), 0)) (by decide +kernel)) (by decide) hm_z
    replace hm_z := rn_aload_n (am_cur_of (i := (186, 1, .aload_n 0, (0, 0, 0), 0)) (by decide +kernel)) g0m hm_z
    replace hm_z := rn_getI (v := np) (am_cur_of (i := (187, 3, .getfield 280, (12, 41, 1425), 0)) (by decide +kernel)) (by decide +kernel) z2_z hm_z
    replace hm_z := rn_if (am_cur_of (i := (190, 3, .ifCond .le 27, (110, 0, 0), 0)) (by decide +kernel)) hm_z
    rcases hm_z with ⟨b5031_z, hm_z⟩ | ⟨b5031_z, hm_z⟩
    · replace b5031_z : np.toInt ≤ (0 : Int32).toInt := b5031_z
      exact Or.inl (rj_t6_2 R A B Z g0_z g1_z g0m g1m hc_z hm_z)
    · replace b5031_z : (0 : Int32).toInt < np.toInt := b5031_z
      omega
  · replace b5027_z : (0 : Int32).toInt < np.toInt := b5027_z
    replace hc_z := rn_aload_n (am_cur_of (i := (112, 1, .aload_n 0, (0, 0, 0), 0)) (by decide +kernel)) g0_z hc_z
    replace hc_z := rn_getR (x := 47) (am_cur_of (i := (113, 3, .getfield 22, (4, 12, 421), 0)) (by decide +kernel)) (by decide +kernel) hc_z
    replace hc_z := rn_aload_n (am_cur_of (i := (116, 1, .aload_n 0, (0, 0, 0), 0)) (by decide +kernel)) g0_z hc_z
    replace hc_z := rn_getI (v := np) (am_cur_of (i := (117, 3, .getfield 251, (4, 13, 422), 0)) (by decide +kernel)) (by decide +kernel) z1_z hc_z
    replace hc_z := rn_iconst (w := 1) (am_cur_of (i := (120, 1, .iconst 1, (0, 0, 0), 0)) (by decide +kernel)) (by decide) hc_z
    replace hc_z := rn_isub (w := np - 1) (am_cur_of (i := (121, 1, .isub, (0, 0, 0), 0)) (by decide +kernel)) rfl hc_z
    replace hc_z := rn_iaload (N := 72) (q := (np - 1).toNatClampNeg) (v := rg_v h5008_z 47 (np.toNatClampNeg - 1)) (am_cur_of (i := (122, 1, .iaload, (0, 0, 0), 0)) (by decide +kernel)) (by decide +kernel) rfl (by rw [show (np - 1).toNatClampNeg = np.toNatClampNeg - 1 by have := rt_cl (x := np - 1) (by omega); omega]) hc_z
    obtain ⟨p5032_z, hc_z⟩ := hc_z
    replace hc_z := rn_callS (M' := am_m47) (ar := [.int (rg_v h5008_z 47 (np.toNatClampNeg - 1))]) (rest := []) (L := lv_args 0 [.int (rg_v h5008_z 47 (np.toNatClampNeg - 1))]) (am_cur_of (i := (123, 3, .invokestatic 283, (47, 842, 3), 0)) (by decide +kernel)) rfl rfl rfl rfl hc_z
    obtain ⟨r5033_z, h5034_z, q5035_z, hc_z⟩ := hc_z
    obtain ⟨rfl, yq5035_z⟩ := rs_rankC q5035_z
    replace yq5035_z := yq5035_z.symm
    subst yq5035_z
    replace hc_z : rn _ _ _ _ [.int (rk_C (rg_v h5008_z 47 (np.toNatClampNeg - 1)))] _ _ _ := hc_z
    replace hc_z := rn_bipush (w := 6) (am_cur_of (i := (126, 2, .bipush 6, (0, 0, 0), 0)) (by decide +kernel)) (by decide) hc_z
    replace hc_z := rn_callS (M' := am_m47) (ar := [.int 6]) (rest := [.int (rk_C (rg_v h5008_z 47 (np.toNatClampNeg - 1)))]) (L := lv_args 0 [.int 6]) (am_cur_of (i := (128, 3, .invokestatic 283, (47, 842, 3), 0)) (by decide +kernel)) rfl rfl rfl rfl hc_z
    obtain ⟨r5036_z, h5037_z, q5038_z, hc_z⟩ := hc_z
    obtain ⟨rfl, yq5038_z⟩ := rs_rankC q5038_z
    replace yq5038_z := yq5038_z.symm
    subst yq5038_z
    rw [show rk_C 6 = 6 by decide] at hc_z
    replace hc_z : rn _ _ _ _ [.int 6, .int (rk_C (rg_v h5008_z 47 (np.toNatClampNeg - 1)))] _ _ _ := hc_z
    replace hc_z := rn_cmp (am_cur_of (i := (131, 3, .if_icmp .ne 16, (76, 0, 0), 0)) (by decide +kernel)) hc_z
    rcases hc_z with ⟨b5039_z, hc_z⟩ | ⟨b5039_z, hc_z⟩
    · replace b5039_z : ¬ (rk_C (rg_v h5008_z 47 (np.toNatClampNeg - 1))) = (6 : Int32) ∧ ¬ (rk_C (rg_v h5008_z 47 (np.toNatClampNeg - 1))).toInt = (6 : Int32).toInt := b5039_z
      replace hm_z := rn_iload_n (am_cur_of (i := (178, 1, .iload_n 1, (0, 0, 0), 0)) (by decide +kernel)) g1m hm_z
      replace hm_z := rn_callS (M' := am_m180) (ar := [.int 5]) (rest := []) (L := lv_args 0 [.int 5]) (am_cur_of (i := (179, 3, .invokestatic 283, (180, 1751, 3), 0)) (by decide +kernel)) rfl rfl rfl rfl hm_z
      obtain ⟨r5040_z, h5041_z, q5042_z, hm_z⟩ := hm_z
      obtain ⟨rfl, yq5042_z⟩ := rs_rankM q5042_z
      replace yq5042_z := yq5042_z.symm
      subst yq5042_z
      rw [show rk_M 5 = 4 by decide] at hm_z
      replace hm_z : rn _ _ _ _ [.int 4] _ _ _ := hm_z
      replace hm_z := rn_iconst (w := 4) (am_cur_of (i := (182, 1, .iconst 4, (0, 0, 0), 0)) (by decide +kernel)) (by decide) hm_z
      replace hm_z := rn_cmpF (am_cur_of (i := (183, 3, .if_icmp .ne 34, (110, 0, 0), 0)) (by decide +kernel)) (by decide) hm_z
      replace hm_z := rn_aload_n (am_cur_of (i := (186, 1, .aload_n 0, (0, 0, 0), 0)) (by decide +kernel)) g0m hm_z
      replace hm_z := rn_getI (v := np) (am_cur_of (i := (187, 3, .getfield 280, (12, 41, 1425), 0)) (by decide +kernel)) (by decide +kernel) z2_z hm_z
      replace hm_z := rn_if (am_cur_of (i := (190, 3, .ifCond .le 27, (110, 0, 0), 0)) (by decide +kernel)) hm_z
      rcases hm_z with ⟨b5043_z, hm_z⟩ | ⟨b5043_z, hm_z⟩
      · replace b5043_z : np.toInt ≤ (0 : Int32).toInt := b5043_z
        omega
      · replace b5043_z : (0 : Int32).toInt < np.toInt := b5043_z
        replace hm_z := rn_aload_n (am_cur_of (i := (193, 1, .aload_n 0, (0, 0, 0), 0)) (by decide +kernel)) g0m hm_z
        replace hm_z := rn_getR (x := 184) (am_cur_of (i := (194, 3, .getfield 72, (12, 39, 1423), 0)) (by decide +kernel)) (by decide +kernel) hm_z
        replace hm_z := rn_aload_n (am_cur_of (i := (197, 1, .aload_n 0, (0, 0, 0), 0)) (by decide +kernel)) g0m hm_z
        replace hm_z := rn_getI (v := np) (am_cur_of (i := (198, 3, .getfield 280, (12, 41, 1425), 0)) (by decide +kernel)) (by decide +kernel) z2_z hm_z
        replace hm_z := rn_iconst (w := 1) (am_cur_of (i := (201, 1, .iconst 1, (0, 0, 0), 0)) (by decide +kernel)) (by decide) hm_z
        replace hm_z := rn_isub (w := np - 1) (am_cur_of (i := (202, 1, .isub, (0, 0, 0), 0)) (by decide +kernel)) rfl hm_z
        replace hm_z := rn_iaload (N := 96) (q := (np - 1).toNatClampNeg) (v := rg_v h5025_z 184 (np.toNatClampNeg - 1)) (am_cur_of (i := (203, 1, .iaload, (0, 0, 0), 0)) (by decide +kernel)) (by decide +kernel) rfl (by rw [show (np - 1).toNatClampNeg = np.toNatClampNeg - 1 by have := rt_cl (x := np - 1) (by omega); omega]) hm_z
        obtain ⟨p5044_z, hm_z⟩ := hm_z
        replace hm_z := rn_callS (M' := am_m180) (ar := [.int (rg_v h5025_z 184 (np.toNatClampNeg - 1))]) (rest := []) (L := lv_args 0 [.int (rg_v h5025_z 184 (np.toNatClampNeg - 1))]) (am_cur_of (i := (204, 3, .invokestatic 283, (180, 1751, 3), 0)) (by decide +kernel)) rfl rfl rfl rfl hm_z
        obtain ⟨r5045_z, h5046_z, q5047_z, hm_z⟩ := hm_z
        obtain ⟨rfl, yq5047_z⟩ := rs_rankM q5047_z
        replace yq5047_z := yq5047_z.symm
        subst yq5047_z
        replace hm_z : rn _ _ _ _ [.int (rk_M (rg_v h5025_z 184 (np.toNatClampNeg - 1)))] _ _ _ := hm_z
        replace hm_z := rn_iconst (w := 4) (am_cur_of (i := (207, 1, .iconst 4, (0, 0, 0), 0)) (by decide +kernel)) (by decide) hm_z
        replace hm_z := rn_cmp (am_cur_of (i := (208, 3, .if_icmp .ne 9, (110, 0, 0), 0)) (by decide +kernel)) hm_z
        rcases hm_z with ⟨b5048_z, hm_z⟩ | ⟨b5048_z, hm_z⟩
        · replace b5048_z : ¬ (rk_M (rg_v h5025_z 184 (np.toNatClampNeg - 1))) = (4 : Int32) ∧ ¬ (rk_M (rg_v h5025_z 184 (np.toNatClampNeg - 1))).toInt = (4 : Int32).toInt := b5048_z
          exact Or.inl (rj_t6_2 R A B Z g0_z g1_z g0m g1m hc_z hm_z)
        · replace b5048_z : (rk_M (rg_v h5025_z 184 (np.toNatClampNeg - 1))) = (4 : Int32) ∧ (rk_M (rg_v h5025_z 184 (np.toNatClampNeg - 1))).toInt = (4 : Int32).toInt := b5048_z
          exact absurd b5048_z.2 (fun q4_z => b5039_z.2 ((rs_o64 (z9_z (np.toNatClampNeg - 1) (by omega))).mpr (q4_z.trans (by decide))))
    · replace b5039_z : (rk_C (rg_v h5008_z 47 (np.toNatClampNeg - 1))) = (6 : Int32) ∧ (rk_C (rg_v h5008_z 47 (np.toNatClampNeg - 1))).toInt = (6 : Int32).toInt := b5039_z
      replace hc_z := rn_aload_n (am_cur_of (i := (134, 1, .aload_n 0, (0, 0, 0), 0)) (by decide +kernel)) g0_z hc_z
      replace hc_z := rn_iconst (w := 1) (am_cur_of (i := (135, 1, .iconst 1, (0, 0, 0), 0)) (by decide +kernel)) (by decide) hc_z
      replace hc_z := rn_callV (M' := am_m29) (o := 44) (ar := [.int 1]) (rest := []) (L := lv_args 0 [.ref 44, .int 1]) (am_cur_of (i := (136, 3, .invokevirtual 108, (29, 769, 3), 0)) (by decide +kernel)) rfl rfl rfl rfl hc_z
      obtain ⟨r5049_z, h5050_z, q5051_z, hc_z⟩ := hc_z
      obtain ⟨rfl, yq5051_z⟩ := rp_fail R.2.2.2.1 q5051_z
      subst yq5051_z
      replace hc_z : rn _ _ _ _ [] _ _ _ := hc_z
      have K := rs_stick (w := 1) (q := p) (a := 44) (by decide) (by decide) rfl (by decide) rfl (show rg_v (am_up (am_up h5008_z 44 1 (.int 1)) 44 2 (.int (rg_v h5008_z 44 9))) 44 2 = p from R.2.2.2.2.1) hc_z
      replace hm_z := rn_iload_n (am_cur_of (i := (178, 1, .iload_n 1, (0, 0, 0), 0)) (by decide +kernel)) g1m hm_z
      replace hm_z := rn_callS (M' := am_m180) (ar := [.int 5]) (rest := []) (L := lv_args 0 [.int 5]) (am_cur_of (i := (179, 3, .invokestatic 283, (180, 1751, 3), 0)) (by decide +kernel)) rfl rfl rfl rfl hm_z
      obtain ⟨r5052_z, h5053_z, q5054_z, hm_z⟩ := hm_z
      obtain ⟨rfl, yq5054_z⟩ := rs_rankM q5054_z
      replace yq5054_z := yq5054_z.symm
      subst yq5054_z
      rw [show rk_M 5 = 4 by decide] at hm_z
      replace hm_z : rn _ _ _ _ [.int 4] _ _ _ := hm_z
      replace hm_z := rn_iconst (w := 4) (am_cur_of (i := (182, 1, .iconst 4, (0, 0, 0), 0)) (by decide +kernel)) (by decide) hm_z
      replace hm_z := rn_cmpF (am_cur_of (i := (183, 3, .if_icmp .ne 34, (110, 0, 0), 0)) (by decide +kernel)) (by decide) hm_z
      replace hm_z := rn_aload_n (am_cur_of (i := (186, 1, .aload_n 0, (0, 0, 0), 0)) (by decide +kernel)) g0m hm_z
      replace hm_z := rn_getI (v := np) (am_cur_of (i := (187, 3, .getfield 280, (12, 41, 1425), 0)) (by decide +kernel)) (by decide +kernel) z2_z hm_z
      replace hm_z := rn_if (am_cur_of (i := (190, 3, .ifCond .le 27, (110, 0, 0), 0)) (by decide +kernel)) hm_z
      rcases hm_z with ⟨b5055_z, hm_z⟩ | ⟨b5055_z, hm_z⟩
      · replace b5055_z : np.toInt ≤ (0 : Int32).toInt := b5055_z
        omega
      · replace b5055_z : (0 : Int32).toInt < np.toInt := b5055_z
        replace hm_z := rn_aload_n (am_cur_of (i := (193, 1, .aload_n 0, (0, 0, 0), 0)) (by decide +kernel)) g0m hm_z
        replace hm_z := rn_getR (x := 184) (am_cur_of (i := (194, 3, .getfield 72, (12, 39, 1423), 0)) (by decide +kernel)) (by decide +kernel) hm_z
        replace hm_z := rn_aload_n (am_cur_of (i := (197, 1, .aload_n 0, (0, 0, 0), 0)) (by decide +kernel)) g0m hm_z
        replace hm_z := rn_getI (v := np) (am_cur_of (i := (198, 3, .getfield 280, (12, 41, 1425), 0)) (by decide +kernel)) (by decide +kernel) z2_z hm_z
        replace hm_z := rn_iconst (w := 1) (am_cur_of (i := (201, 1, .iconst 1, (0, 0, 0), 0)) (by decide +kernel)) (by decide) hm_z
        replace hm_z := rn_isub (w := np - 1) (am_cur_of (i := (202, 1, .isub, (0, 0, 0), 0)) (by decide +kernel)) rfl hm_z
        replace hm_z := rn_iaload (N := 96) (q := (np - 1).toNatClampNeg) (v := rg_v h5025_z 184 (np.toNatClampNeg - 1)) (am_cur_of (i := (203, 1, .iaload, (0, 0, 0), 0)) (by decide +kernel)) (by decide +kernel) rfl (by rw [show (np - 1).toNatClampNeg = np.toNatClampNeg - 1 by have := rt_cl (x := np - 1) (by omega); omega]) hm_z
        obtain ⟨p5056_z, hm_z⟩ := hm_z
        replace hm_z := rn_callS (M' := am_m180) (ar := [.int (rg_v h5025_z 184 (np.toNatClampNeg - 1))]) (rest := []) (L := lv_args 0 [.int (rg_v h5025_z 184 (np.toNatClampNeg - 1))]) (am_cur_of (i := (204, 3, .invokestatic 283, (180, 1751, 3), 0)) (by decide +kernel)) rfl rfl rfl rfl hm_z
        obtain ⟨r5057_z, h5058_z, q5059_z, hm_z⟩ := hm_z
        obtain ⟨rfl, yq5059_z⟩ := rs_rankM q5059_z
        replace yq5059_z := yq5059_z.symm
        subst yq5059_z
        replace hm_z : rn _ _ _ _ [.int (rk_M (rg_v h5025_z 184 (np.toNatClampNeg - 1)))] _ _ _ := hm_z
        replace hm_z := rn_iconst (w := 4) (am_cur_of (i := (207, 1, .iconst 4, (0, 0, 0), 0)) (by decide +kernel)) (by decide) hm_z
        replace hm_z := rn_cmp (am_cur_of (i := (208, 3, .if_icmp .ne 9, (110, 0, 0), 0)) (by decide +kernel)) hm_z
        rcases hm_z with ⟨b5060_z, hm_z⟩ | ⟨b5060_z, hm_z⟩
        · replace b5060_z : ¬ (rk_M (rg_v h5025_z 184 (np.toNatClampNeg - 1))) = (4 : Int32) ∧ ¬ (rk_M (rg_v h5025_z 184 (np.toNatClampNeg - 1))).toInt = (4 : Int32).toInt := b5060_z
          exact absurd ((rs_o64 (z9_z (np.toNatClampNeg - 1) (by omega))).mp (b5039_z.2.trans (by decide))) (fun q4_z => b5060_z.2 (q4_z.trans (by decide)))
        · replace b5060_z : (rk_M (rg_v h5025_z 184 (np.toNatClampNeg - 1))) = (4 : Int32) ∧ (rk_M (rg_v h5025_z 184 (np.toNatClampNeg - 1))).toInt = (4 : Int32).toInt := b5060_z
          replace hm_z := rn_aload_n (am_cur_of (i := (211, 1, .aload_n 0, (0, 0, 0), 0)) (by decide +kernel)) g0m hm_z
          replace hm_z := rn_iconst (w := 1) (am_cur_of (i := (212, 1, .iconst 1, (0, 0, 0), 0)) (by decide +kernel)) (by decide) hm_z
          replace hm_z := rn_callV (M' := am_m158) (o := 164) (ar := [.int 1]) (rest := []) (L := lv_args 0 [.ref 164, .int 1]) (am_cur_of (i := (213, 3, .invokevirtual 181, (158, 1665, 3), 0)) (by decide +kernel)) rfl rfl rfl rfl hm_z
          obtain ⟨r5061_z, h5062_z, q5063_z, hm_z⟩ := hm_z
          obtain ⟨rfl, yq5063_z⟩ := rp_wrong q5063_z
          subst yq5063_z
          replace hm_z : rn _ _ _ _ [.int 0] _ _ _ := hm_z
          replace hm_z := rn_iret (am_cur_of (i := (216, 1, .ireturn, (0, 0, 0), 0)) (by decide +kernel)) hm_z
          obtain ⟨e5064_z, e5065_z⟩ := hm_z
          subst e5064_z e5065_z
          exact Or.inl (Or.inr ⟨rfl, 1, by decide, K.1, K.2, rfl, R.2.2.2.2.2.1⟩)
theorem rj_c19_2 {T : Nat → Int32} {S x p : Int32} {n n' : Nat} {h h' g g' : am_H} {r r' : Option Value} (R : rq T S x p 2 h g) (A : rp 2 h g) (B : rp_t h g) (Z : rs 2 h g) (w0_z : rg_v g 164 45 = 0) (ka : (rg_v h 44 10) = 6) (kc : (rg_v g 164 8) = 5) (kb : (rg_v h 44 11) = 7) (kd : (rg_v g 164 9) = 1) (hc_z : rn n am_m44 0 (lv_args 0 [.ref 44]) [] h r h') (hm_z : rn n' am_m178 0 (lv_args 0 [.ref 164]) [] g r' g') : rj_Q T S x p 2 h g h' g' r r' := by
  have z0_z : (0 : Int32).toInt = 0 := by decide
  have z4_z : (4 : Int32).toInt = 4 := by decide
  have z6_z : (6 : Int32).toInt = 6 := by decide
  have g0_z : am_get (lv_args 0 [.ref 44]) 0 = some (.ref 44) := rfl
  have g0m : am_get (lv_args 0 [.ref 164]) 0 = some (.ref 164) := rfl
  have Rk := R
  have Zk := Z
  obtain ⟨⟨c1_z, c2_z, c3_z, c4_z, c5_z, c6_z, c7_z, c8_z⟩, ⟨m2_z, m3_z, m4_z, m5_z, m6_z, m7_z, m8_z⟩, R3, R4, R5, R6, R7, R8, R9, R10⟩ := (R : rq T S x p 2 h g)
  obtain ⟨np, op, z1_z, z2_z, z3_z, z4_z, z5_z, z6_z, z7_z, z8_z, z9_z, z10_z⟩ := (Z : rs 2 h g)
  obtain ⟨nk1_z, nk2_z, nk3_z⟩ := A.2.2.2.2.2.1
  replace nk1_z : rg_v h 11 0 = rg_v g 164 44 := nk1_z
  replace nk2_z : 0 ≤ (rg_v h 11 0).toInt := nk2_z
  replace nk3_z : (rg_v h 11 0).toInt ≤ 64 := nk3_z
  replace z8_z : np.toInt ≤ (rg_v h 11 0).toInt + op.toInt := z8_z
  obtain ⟨kn, ekn⟩ : ∃ v, rg_v h 11 0 = v := ⟨_, rfl⟩
  rw [ekn] at nk1_z nk2_z nk3_z z8_z
  have e9_z := rt_c1 (x := kn) (by omega) (by omega)
  replace hc_z := rn_aload_n (am_cur_of (i := (0, 1, .aload_n 0, (0, 0, 0), 0)) (by decide +kernel)) g0_z hc_z
  replace hc_z := rn_bipush (w := 41) (am_cur_of (i := (1, 2, .bipush 41, (0, 0, 0), 0)) (by decide +kernel)) (by decide) hc_z
  replace hc_z := rn_callV (M' := am_m45) (o := 44) (ar := [.int 41]) (rest := []) (L := lv_args 0 [.ref 44, .int 41]) (am_cur_of (i := (3, 3, .invokevirtual 105, (45, 834, 3), 0)) (by decide +kernel)) rfl rfl rfl rfl hc_z
  obtain ⟨r5066_z, h5067_z, q5068_z, hc_z⟩ := hc_z
  obtain ⟨rfl, yq5068_z⟩ := rp_mkN (fun q => absurd (Eq.trans (Eq.symm ka) q.1) (by decide)) q5068_z
  subst yq5068_z
  replace hc_z : rn _ _ _ _ [.int 0] _ _ _ := hc_z
  replace hc_z := rn_ifT (am_cur_of (i := (6, 3, .ifCond .eq 45, (28, 0, 0), 0)) (by decide +kernel)) (by decide) hc_z
  replace hc_z := rn_aload_n (am_cur_of (i := (51, 1, .aload_n 0, (0, 0, 0), 0)) (by decide +kernel)) g0_z hc_z
  replace hc_z := rn_getI (v := 6) (am_cur_of (i := (52, 3, .getfield 60, (4, 10, 419), 0)) (by decide +kernel)) (by decide +kernel) ka hc_z
  replace hc_z := rn_bipush (w := 6) (am_cur_of (i := (55, 2, .bipush 6, (0, 0, 0), 0)) (by decide +kernel)) (by decide) hc_z
  replace hc_z := rn_cmpF (am_cur_of (i := (57, 3, .if_icmp .ne 11, (36, 0, 0), 0)) (by decide +kernel)) (by decide) hc_z
  replace hc_z := rn_aload_n (am_cur_of (i := (60, 1, .aload_n 0, (0, 0, 0), 0)) (by decide +kernel)) g0_z hc_z
  replace hc_z := rn_getI (v := 7) (am_cur_of (i := (61, 3, .getfield 91, (4, 11, 420), 0)) (by decide +kernel)) (by decide +kernel) kb hc_z
  replace hc_z := rn_iconst (w := 5) (am_cur_of (i := (64, 1, .iconst 5, (0, 0, 0), 0)) (by decide +kernel)) (by decide) hc_z
  replace hc_z := rn_cmpT (am_cur_of (i := (65, 3, .if_icmp .ne 17, (44, 0, 0), 0)) (by decide +kernel)) (by decide) hc_z
  replace hc_z := rn_aload_n (am_cur_of (i := (82, 1, .aload_n 0, (0, 0, 0), 0)) (by decide +kernel)) g0_z hc_z
  replace hc_z := rn_getI (v := 7) (am_cur_of (i := (83, 3, .getfield 91, (4, 11, 420), 0)) (by decide +kernel)) (by decide +kernel) kb hc_z
  replace hc_z := rn_istore_n (am_cur_of (i := (86, 1, .istore_n 1, (0, 0, 0), 0)) (by decide +kernel)) hc_z
  obtain ⟨_, s5069_z, s5070_z, g1_z, hc_z⟩ := hc_z
  replace g0_z := s5069_z 0 _ (by decide) rfl g0_z
  clear s5069_z s5070_z
  replace hc_z := rn_iload_n (am_cur_of (i := (87, 1, .iload_n 1, (0, 0, 0), 0)) (by decide +kernel)) g1_z hc_z
  replace hc_z := rn_callS (M' := am_m47) (ar := [.int 7]) (rest := []) (L := lv_args 0 [.int 7]) (am_cur_of (i := (88, 3, .invokestatic 283, (47, 842, 3), 0)) (by decide +kernel)) rfl rfl rfl rfl hc_z
  obtain ⟨r5071_z, h5072_z, q5073_z, hc_z⟩ := hc_z
  obtain ⟨rfl, yq5073_z⟩ := rs_rankC q5073_z
  replace yq5073_z := yq5073_z.symm
  subst yq5073_z
  rw [show rk_C 7 = 6 by decide] at hc_z
  replace hc_z : rn _ _ _ _ [.int 6] _ _ _ := hc_z
  replace hc_z := rn_bipush (w := 6) (am_cur_of (i := (91, 2, .bipush 6, (0, 0, 0), 0)) (by decide +kernel)) (by decide) hc_z
  replace hc_z := rn_callS (M' := am_m47) (ar := [.int 6]) (rest := [.int 6]) (L := lv_args 0 [.int 6]) (am_cur_of (i := (93, 3, .invokestatic 283, (47, 842, 3), 0)) (by decide +kernel)) rfl rfl rfl rfl hc_z
  obtain ⟨r5074_z, h5075_z, q5076_z, hc_z⟩ := hc_z
  obtain ⟨rfl, yq5076_z⟩ := rs_rankC q5076_z
  replace yq5076_z := yq5076_z.symm
  subst yq5076_z
  rw [show rk_C 6 = 6 by decide] at hc_z
  replace hc_z : rn _ _ _ _ [.int 6, .int 6] _ _ _ := hc_z
  replace hc_z := rn_cmpF (am_cur_of (i := (96, 3, .if_icmp .ne 46, (73, 0, 0), 0)) (by decide +kernel)) (by decide) hc_z
  replace hc_z := rn_aload_n (am_cur_of (i := (99, 1, .aload_n 0, (0, 0, 0), 0)) (by decide +kernel)) g0_z hc_z
  replace hc_z := rn_bipush (w := 12) (am_cur_of (i := (100, 2, .bipush 12, (0, 0, 0), 0)) (by decide +kernel)) (by decide) hc_z
  replace hc_z := rn_callV (M' := am_m46) (o := 44) (ar := [.int 12]) (rest := []) (L := lv_args 0 [.ref 44, .int 12]) (am_cur_of (i := (102, 3, .invokevirtual 264, (46, 838, 3), 0)) (by decide +kernel)) rfl rfl rfl rfl hc_z
  obtain ⟨r5077_z, h5078_z, q5079_z, hc_z⟩ := hc_z
  replace hm_z := rn_aload_n (am_cur_of (i := (0, 1, .aload_n 0, (0, 0, 0), 0)) (by decide +kernel)) g0m hm_z
  replace hm_z := rn_bipush (w := 41) (am_cur_of (i := (1, 2, .bipush 41, (0, 0, 0), 0)) (by decide +kernel)) (by decide) hm_z
  replace hm_z := rn_callV (M' := am_m171) (o := 164) (ar := [.int 41]) (rest := []) (L := lv_args 0 [.ref 164, .int 41]) (am_cur_of (i := (3, 3, .invokevirtual 194, (171, 1715, 3), 0)) (by decide +kernel)) rfl rfl rfl rfl hm_z
  obtain ⟨r5080_z, h5081_z, q5082_z, hm_z⟩ := hm_z
  obtain ⟨rfl, yq5082_z⟩ := rp_sgN (fun q => absurd (Eq.trans (Eq.symm kc) q.1) (by decide)) q5082_z
  subst yq5082_z
  replace hm_z : rn _ _ _ _ [.int 0] _ _ _ := hm_z
  replace hm_z := rn_ifT (am_cur_of (i := (6, 3, .ifCond .eq 41, (26, 0, 0), 0)) (by decide +kernel)) (by decide) hm_z
  replace hm_z := rn_aload_n (am_cur_of (i := (47, 1, .aload_n 0, (0, 0, 0), 0)) (by decide +kernel)) g0m hm_z
  replace hm_z := rn_bipush (w := 12) (am_cur_of (i := (48, 2, .bipush 12, (0, 0, 0), 0)) (by decide +kernel)) (by decide) hm_z
  replace hm_z := rn_callV (M' := am_m174) (o := 164) (ar := [.int 12]) (rest := []) (L := lv_args 0 [.ref 164, .int 12]) (am_cur_of (i := (50, 3, .invokevirtual 306, (174, 1727, 3), 0)) (by decide +kernel)) rfl rfl rfl rfl hm_z
  obtain ⟨r5083_z, h5084_z, q5085_z, hm_z⟩ := hm_z
  obtain ⟨rfl, yq5085_z⟩ := rp_kyN (fun q => absurd (Eq.trans (Eq.symm kc) q.1) (by decide)) q5085_z
  subst yq5085_z
  replace hm_z : rn _ _ _ _ [.int 0] _ _ _ := hm_z
  replace hm_z := rn_ifT (am_cur_of (i := (53, 3, .ifCond .eq 7, (32, 0, 0), 0)) (by decide +kernel)) (by decide) hm_z
  replace hm_z := rn_aload_n (am_cur_of (i := (60, 1, .aload_n 0, (0, 0, 0), 0)) (by decide +kernel)) g0m hm_z
  replace hm_z := rn_bipush (w := 13) (am_cur_of (i := (61, 2, .bipush 13, (0, 0, 0), 0)) (by decide +kernel)) (by decide) hm_z
  replace hm_z := rn_callV (M' := am_m174) (o := 164) (ar := [.int 13]) (rest := []) (L := lv_args 0 [.ref 164, .int 13]) (am_cur_of (i := (63, 3, .invokevirtual 306, (174, 1727, 3), 0)) (by decide +kernel)) rfl rfl rfl rfl hm_z
  obtain ⟨r5086_z, h5087_z, q5088_z, hm_z⟩ := hm_z
  obtain ⟨rfl, yq5088_z⟩ := rp_kyN (fun q => absurd (Eq.trans (Eq.symm kc) q.1) (by decide)) q5088_z
  subst yq5088_z
  replace hm_z : rn _ _ _ _ [.int 0] _ _ _ := hm_z
  replace hm_z := rn_ifT (am_cur_of (i := (66, 3, .ifCond .eq 7, (38, 0, 0), 0)) (by decide +kernel)) (by decide) hm_z
  replace hm_z := rn_aload_n (am_cur_of (i := (73, 1, .aload_n 0, (0, 0, 0), 0)) (by decide +kernel)) g0m hm_z
  replace hm_z := rn_getI (v := 5) (am_cur_of (i := (74, 3, .getfield 157, (12, 8, 1392), 0)) (by decide +kernel)) (by decide +kernel) kc hm_z
  replace hm_z := rn_iconst (w := 5) (am_cur_of (i := (77, 1, .iconst 5, (0, 0, 0), 0)) (by decide +kernel)) (by decide) hm_z
  replace hm_z := rn_cmpF (am_cur_of (i := (78, 3, .if_icmp .ne 12, (47, 0, 0), 0)) (by decide +kernel)) (by decide) hm_z
  replace hm_z := rn_iconst (w := 5) (am_cur_of (i := (81, 1, .iconst 5, (0, 0, 0), 0)) (by decide +kernel)) (by decide) hm_z
  replace hm_z := rn_aload_n (am_cur_of (i := (82, 1, .aload_n 0, (0, 0, 0), 0)) (by decide +kernel)) g0m hm_z
  replace hm_z := rn_getI (v := 1) (am_cur_of (i := (83, 3, .getfield 168, (12, 9, 1393), 0)) (by decide +kernel)) (by decide +kernel) kd hm_z
  replace hm_z := rn_iadd (w := 6) (am_cur_of (i := (86, 1, .iadd, (0, 0, 0), 0)) (by decide +kernel)) (by decide) hm_z
  replace hm_z := rn_goto (am_cur_of (i := (87, 3, .goto 60, (72, 0, 0), 0)) (by decide +kernel)) hm_z
  replace hm_z := rn_istore_n (am_cur_of (i := (147, 1, .istore_n 1, (0, 0, 0), 0)) (by decide +kernel)) hm_z
  obtain ⟨_, s5089_z, s5090_z, g1m, hm_z⟩ := hm_z
  replace g0m := s5089_z 0 _ (by decide) rfl g0m
  clear s5089_z s5090_z
  replace hm_z := rn_iload_n (am_cur_of (i := (148, 1, .iload_n 1, (0, 0, 0), 0)) (by decide +kernel)) g1m hm_z
  replace hm_z := rn_ifT (am_cur_of (i := (149, 3, .ifCond .ne 9, (79, 0, 0), 0)) (by decide +kernel)) (by decide) hm_z
  replace hm_z := rn_aload_n (am_cur_of (i := (158, 1, .aload_n 0, (0, 0, 0), 0)) (by decide +kernel)) g0m hm_z
  replace hm_z := rn_iload_n (am_cur_of (i := (159, 1, .iload_n 1, (0, 0, 0), 0)) (by decide +kernel)) g1m hm_z
  replace hm_z := rn_callS (M' := am_m180) (ar := [.int 6]) (rest := [.ref 164]) (L := lv_args 0 [.int 6]) (am_cur_of (i := (160, 3, .invokestatic 283, (180, 1751, 3), 0)) (by decide +kernel)) rfl rfl rfl rfl hm_z
  obtain ⟨r5091_z, h5092_z, q5093_z, hm_z⟩ := hm_z
  obtain ⟨rfl, yq5093_z⟩ := rs_rankM q5093_z
  replace yq5093_z := yq5093_z.symm
  subst yq5093_z
  rw [show rk_M 6 = 4 by decide] at hm_z
  replace hm_z : rn _ _ _ _ [.int 4, .ref 164] _ _ _ := hm_z
  replace hm_z := rn_iconst (w := 4) (am_cur_of (i := (163, 1, .iconst 4, (0, 0, 0), 0)) (by decide +kernel)) (by decide) hm_z
  replace hm_z := rn_cmpF (am_cur_of (i := (164, 3, .if_icmp .ne 7, (86, 0, 0), 0)) (by decide +kernel)) (by decide) hm_z
  replace hm_z := rn_iconst (w := 5) (am_cur_of (i := (167, 1, .iconst 5, (0, 0, 0), 0)) (by decide +kernel)) (by decide) hm_z
  replace hm_z := rn_goto (am_cur_of (i := (168, 3, .goto 7, (88, 0, 0), 0)) (by decide +kernel)) hm_z
  replace hm_z := rn_callV (M' := am_m179) (o := 164) (ar := [.int 5]) (rest := []) (L := lv_args 0 [.ref 164, .int 5]) (am_cur_of (i := (175, 3, .invokevirtual 318, (179, 1747, 3), 0)) (by decide +kernel)) rfl rfl rfl rfl hm_z
  obtain ⟨r5094_z, h5095_z, q5096_z, hm_z⟩ := hm_z
  obtain ⟨rfl, rfl, FC, FM, R, A, B, Z, nq, e13_z, hst⟩ := rz_set2 rs_l12 (by decide) Rk A B Zk q5079_z q5096_z
  have Zq := Z
  obtain ⟨np, op, z1_z, z2_z, z3_z, z4_z, z5_z, z6_z, z7_z, z8_z, z9_z, z10_z⟩ := Zq
  obtain rfl : np = nq := z1_z.symm.trans e13_z
  replace hm_z : rn _ _ _ _ [] _ _ _ := hm_z
  replace hc_z : rn _ _ _ _ [] _ _ _ := hc_z
  have cn := rt_cl z3_z
  have zz1_z : (1 : Int32).toInt = 1 := by decide
  have n31_z := (ab_32 np).2
  have y1_z := ab_isub (x := np) (y := 1) (by omega) (by omega)
  replace hc_z := rn_aload_n (am_cur_of (i := (105, 1, .aload_n 0, (0, 0, 0), 0)) (by decide +kernel)) g0_z hc_z
  replace hc_z := rn_getI (v := np) (am_cur_of (i := (106, 3, .getfield 251, (4, 13, 422), 0)) (by decide +kernel)) (by decide +kernel) z1_z hc_z
  replace hc_z := rn_if (am_cur_of (i := (109, 3, .ifCond .le 38, (76, 0, 0), 0)) (by decide +kernel)) hc_z
  rcases hc_z with ⟨b5097_z, hc_z⟩ | ⟨b5097_z, hc_z⟩
  · replace b5097_z : np.toInt ≤ (0 : Int32).toInt := b5097_z
    replace hm_z := rn_iload_n (am_cur_of (i := (178, 1, .iload_n 1, (0, 0, 0), 0)) (by decide +kernel)) g1m hm_z
    replace hm_z := rn_callS (M' := am_m180) (ar := [.int 6]) (rest := []) (L := lv_args 0 [.int 6]) (am_cur_of (i := (179, 3, .invokestatic 283, (180, 1751, 3), 0)) (by decide +kernel)) rfl rfl rfl rfl hm_z
    obtain ⟨r5098_z, h5099_z, q5100_z, hm_z⟩ := hm_z
    obtain ⟨rfl, yq5100_z⟩ := rs_rankM q5100_z
    replace yq5100_z := yq5100_z.symm
    subst yq5100_z
    rw [show rk_M 6 = 4 by decide] at hm_z
    replace hm_z : rn _ _ _ _ [.int 4] _ _ _ := hm_z
    replace hm_z := rn_iconst (w := 4) (am_cur_of (i := (182, 1, .iconst 4, (0, 0, 0), 0)) (by decide +kernel)) (by decide) hm_z
    replace hm_z := rn_cmpF (am_cur_of (i := (183, 3, .if_icmp .ne 34, (110, 0, 0), 0)) (by decide +kernel)) (by decide) hm_z
    replace hm_z := rn_aload_n (am_cur_of (i := (186, 1, .aload_n 0, (0, 0, 0), 0)) (by decide +kernel)) g0m hm_z
    replace hm_z := rn_getI (v := np) (am_cur_of (i := (187, 3, .getfield 280, (12, 41, 1425), 0)) (by decide +kernel)) (by decide +kernel) z2_z hm_z
    replace hm_z := rn_if (am_cur_of (i := (190, 3, .ifCond .le 27, (110, 0, 0), 0)) (by decide +kernel)) hm_z
    rcases hm_z with ⟨b5101_z, hm_z⟩ | ⟨b5101_z, hm_z⟩
    · replace b5101_z : np.toInt ≤ (0 : Int32).toInt := b5101_z
      exact Or.inl (rj_t7_2 R A B Z g0_z g1_z g0m g1m hc_z hm_z)
    · replace b5101_z : (0 : Int32).toInt < np.toInt := b5101_z
      omega
  · replace b5097_z : (0 : Int32).toInt < np.toInt := b5097_z
    replace hc_z := rn_aload_n (am_cur_of (i := (112, 1, .aload_n 0, (0, 0, 0), 0)) (by decide +kernel)) g0_z hc_z
    replace hc_z := rn_getR (x := 47) (am_cur_of (i := (113, 3, .getfield 22, (4, 12, 421), 0)) (by decide +kernel)) (by decide +kernel) hc_z
    replace hc_z := rn_aload_n (am_cur_of (i := (116, 1, .aload_n 0, (0, 0, 0), 0)) (by decide +kernel)) g0_z hc_z
    replace hc_z := rn_getI (v := np) (am_cur_of (i := (117, 3, .getfield 251, (4, 13, 422), 0)) (by decide +kernel)) (by decide +kernel) z1_z hc_z
    replace hc_z := rn_iconst (w := 1) (am_cur_of (i := (120, 1, .iconst 1, (0, 0, 0), 0)) (by decide +kernel)) (by decide) hc_z
    replace hc_z := rn_isub (w := np - 1) (am_cur_of (i := (121, 1, .isub, (0, 0, 0), 0)) (by decide +kernel)) rfl hc_z
    replace hc_z := rn_iaload (N := 72) (q := (np - 1).toNatClampNeg) (v := rg_v h5078_z 47 (np.toNatClampNeg - 1)) (am_cur_of (i := (122, 1, .iaload, (0, 0, 0), 0)) (by decide +kernel)) (by decide +kernel) rfl (by rw [show (np - 1).toNatClampNeg = np.toNatClampNeg - 1 by have := rt_cl (x := np - 1) (by omega); omega]) hc_z
    obtain ⟨p5102_z, hc_z⟩ := hc_z
    replace hc_z := rn_callS (M' := am_m47) (ar := [.int (rg_v h5078_z 47 (np.toNatClampNeg - 1))]) (rest := []) (L := lv_args 0 [.int (rg_v h5078_z 47 (np.toNatClampNeg - 1))]) (am_cur_of (i := (123, 3, .invokestatic 283, (47, 842, 3), 0)) (by decide +kernel)) rfl rfl rfl rfl hc_z
    obtain ⟨r5103_z, h5104_z, q5105_z, hc_z⟩ := hc_z
    obtain ⟨rfl, yq5105_z⟩ := rs_rankC q5105_z
    replace yq5105_z := yq5105_z.symm
    subst yq5105_z
    replace hc_z : rn _ _ _ _ [.int (rk_C (rg_v h5078_z 47 (np.toNatClampNeg - 1)))] _ _ _ := hc_z
    replace hc_z := rn_bipush (w := 6) (am_cur_of (i := (126, 2, .bipush 6, (0, 0, 0), 0)) (by decide +kernel)) (by decide) hc_z
    replace hc_z := rn_callS (M' := am_m47) (ar := [.int 6]) (rest := [.int (rk_C (rg_v h5078_z 47 (np.toNatClampNeg - 1)))]) (L := lv_args 0 [.int 6]) (am_cur_of (i := (128, 3, .invokestatic 283, (47, 842, 3), 0)) (by decide +kernel)) rfl rfl rfl rfl hc_z
    obtain ⟨r5106_z, h5107_z, q5108_z, hc_z⟩ := hc_z
    obtain ⟨rfl, yq5108_z⟩ := rs_rankC q5108_z
    replace yq5108_z := yq5108_z.symm
    subst yq5108_z
    rw [show rk_C 6 = 6 by decide] at hc_z
    replace hc_z : rn _ _ _ _ [.int 6, .int (rk_C (rg_v h5078_z 47 (np.toNatClampNeg - 1)))] _ _ _ := hc_z
    replace hc_z := rn_cmp (am_cur_of (i := (131, 3, .if_icmp .ne 16, (76, 0, 0), 0)) (by decide +kernel)) hc_z
    rcases hc_z with ⟨b5109_z, hc_z⟩ | ⟨b5109_z, hc_z⟩
    · replace b5109_z : ¬ (rk_C (rg_v h5078_z 47 (np.toNatClampNeg - 1))) = (6 : Int32) ∧ ¬ (rk_C (rg_v h5078_z 47 (np.toNatClampNeg - 1))).toInt = (6 : Int32).toInt := b5109_z
      replace hm_z := rn_iload_n (am_cur_of (i := (178, 1, .iload_n 1, (0, 0, 0), 0)) (by decide +kernel)) g1m hm_z
      replace hm_z := rn_callS (M' := am_m180) (ar := [.int 6]) (rest := []) (L := lv_args 0 [.int 6]) (am_cur_of (i := (179, 3, .invokestatic 283, (180, 1751, 3), 0)) (by decide +kernel)) rfl rfl rfl rfl hm_z
      obtain ⟨r5110_z, h5111_z, q5112_z, hm_z⟩ := hm_z
      obtain ⟨rfl, yq5112_z⟩ := rs_rankM q5112_z
      replace yq5112_z := yq5112_z.symm
      subst yq5112_z
      rw [show rk_M 6 = 4 by decide] at hm_z
      replace hm_z : rn _ _ _ _ [.int 4] _ _ _ := hm_z
      replace hm_z := rn_iconst (w := 4) (am_cur_of (i := (182, 1, .iconst 4, (0, 0, 0), 0)) (by decide +kernel)) (by decide) hm_z
      replace hm_z := rn_cmpF (am_cur_of (i := (183, 3, .if_icmp .ne 34, (110, 0, 0), 0)) (by decide +kernel)) (by decide) hm_z
      replace hm_z := rn_aload_n (am_cur_of (i := (186, 1, .aload_n 0, (0, 0, 0), 0)) (by decide +kernel)) g0m hm_z
      replace hm_z := rn_getI (v := np) (am_cur_of (i := (187, 3, .getfield 280, (12, 41, 1425), 0)) (by decide +kernel)) (by decide +kernel) z2_z hm_z
      replace hm_z := rn_if (am_cur_of (i := (190, 3, .ifCond .le 27, (110, 0, 0), 0)) (by decide +kernel)) hm_z
      rcases hm_z with ⟨b5113_z, hm_z⟩ | ⟨b5113_z, hm_z⟩
      · replace b5113_z : np.toInt ≤ (0 : Int32).toInt := b5113_z
        omega
      · replace b5113_z : (0 : Int32).toInt < np.toInt := b5113_z
        replace hm_z := rn_aload_n (am_cur_of (i := (193, 1, .aload_n 0, (0, 0, 0), 0)) (by decide +kernel)) g0m hm_z
        replace hm_z := rn_getR (x := 184) (am_cur_of (i := (194, 3, .getfield 72, (12, 39, 1423), 0)) (by decide +kernel)) (by decide +kernel) hm_z
        replace hm_z := rn_aload_n (am_cur_of (i := (197, 1, .aload_n 0, (0, 0, 0), 0)) (by decide +kernel)) g0m hm_z
        replace hm_z := rn_getI (v := np) (am_cur_of (i := (198, 3, .getfield 280, (12, 41, 1425), 0)) (by decide +kernel)) (by decide +kernel) z2_z hm_z
        replace hm_z := rn_iconst (w := 1) (am_cur_of (i := (201, 1, .iconst 1, (0, 0, 0), 0)) (by decide +kernel)) (by decide) hm_z
        replace hm_z := rn_isub (w := np - 1) (am_cur_of (i := (202, 1, .isub, (0, 0, 0), 0)) (by decide +kernel)) rfl hm_z
        replace hm_z := rn_iaload (N := 96) (q := (np - 1).toNatClampNeg) (v := rg_v h5095_z 184 (np.toNatClampNeg - 1)) (am_cur_of (i := (203, 1, .iaload, (0, 0, 0), 0)) (by decide +kernel)) (by decide +kernel) rfl (by rw [show (np - 1).toNatClampNeg = np.toNatClampNeg - 1 by have := rt_cl (x := np - 1) (by omega); omega]) hm_z
        obtain ⟨p5114_z, hm_z⟩ := hm_z
        replace hm_z := rn_callS (M' := am_m180) (ar := [.int (rg_v h5095_z 184 (np.toNatClampNeg - 1))]) (rest := []) (L := lv_args 0 [.int (rg_v h5095_z 184 (np.toNatClampNeg - 1))]) (am_cur_of (i := (204, 3, .invokestatic 283, (180, 1751, 3), 0)) (by decide +kernel)) rfl rfl rfl rfl hm_z
        obtain ⟨r5115_z, h5116_z, q5117_z, hm_z⟩ := hm_z
        obtain ⟨rfl, yq5117_z⟩ := rs_rankM q5117_z
        replace yq5117_z := yq5117_z.symm
        subst yq5117_z
        replace hm_z : rn _ _ _ _ [.int (rk_M (rg_v h5095_z 184 (np.toNatClampNeg - 1)))] _ _ _ := hm_z
        replace hm_z := rn_iconst (w := 4) (am_cur_of (i := (207, 1, .iconst 4, (0, 0, 0), 0)) (by decide +kernel)) (by decide) hm_z
        replace hm_z := rn_cmp (am_cur_of (i := (208, 3, .if_icmp .ne 9, (110, 0, 0), 0)) (by decide +kernel)) hm_z
        rcases hm_z with ⟨b5118_z, hm_z⟩ | ⟨b5118_z, hm_z⟩
        · replace b5118_z : ¬ (rk_M (rg_v h5095_z 184 (np.toNatClampNeg - 1))) = (4 : Int32) ∧ ¬ (rk_M (rg_v h5095_z 184 (np.toNatClampNeg - 1))).toInt = (4 : Int32).toInt := b5118_z
          exact Or.inl (rj_t7_2 R A B Z g0_z g1_z g0m g1m hc_z hm_z)
        · replace b5118_z : (rk_M (rg_v h5095_z 184 (np.toNatClampNeg - 1))) = (4 : Int32) ∧ (rk_M (rg_v h5095_z 184 (np.toNatClampNeg - 1))).toInt = (4 : Int32).toInt := b5118_z
          exact absurd b5118_z.2 (fun q4_z => b5109_z.2 ((rs_o64 (z9_z (np.toNatClampNeg - 1) (by omega))).mpr (q4_z.trans (by decide))))
    · replace b5109_z : (rk_C (rg_v h5078_z 47 (np.toNatClampNeg - 1))) = (6 : Int32) ∧ (rk_C (rg_v h5078_z 47 (np.toNatClampNeg - 1))).toInt = (6 : Int32).toInt := b5109_z
      replace hc_z := rn_aload_n (am_cur_of (i := (134, 1, .aload_n 0, (0, 0, 0), 0)) (by decide +kernel)) g0_z hc_z
      replace hc_z := rn_iconst (w := 1) (am_cur_of (i := (135, 1, .iconst 1, (0, 0, 0), 0)) (by decide +kernel)) (by decide) hc_z
      replace hc_z := rn_callV (M' := am_m29) (o := 44) (ar := [.int 1]) (rest := []) (L := lv_args 0 [.ref 44, .int 1]) (am_cur_of (i := (136, 3, .invokevirtual 108, (29, 769, 3), 0)) (by decide +kernel)) rfl rfl rfl rfl hc_z
      obtain ⟨r5119_z, h5120_z, q5121_z, hc_z⟩ := hc_z
      obtain ⟨rfl, yq5121_z⟩ := rp_fail R.2.2.2.1 q5121_z
      subst yq5121_z
      replace hc_z : rn _ _ _ _ [] _ _ _ := hc_z
      have K := rs_stick (w := 1) (q := p) (a := 44) (by decide) (by decide) rfl (by decide) rfl (show rg_v (am_up (am_up h5078_z 44 1 (.int 1)) 44 2 (.int (rg_v h5078_z 44 9))) 44 2 = p from R.2.2.2.2.1) hc_z
      replace hm_z := rn_iload_n (am_cur_of (i := (178, 1, .iload_n 1, (0, 0, 0), 0)) (by decide +kernel)) g1m hm_z
      replace hm_z := rn_callS (M' := am_m180) (ar := [.int 6]) (rest := []) (L := lv_args 0 [.int 6]) (am_cur_of (i := (179, 3, .invokestatic 283, (180, 1751, 3), 0)) (by decide +kernel)) rfl rfl rfl rfl hm_z
      obtain ⟨r5122_z, h5123_z, q5124_z, hm_z⟩ := hm_z
      obtain ⟨rfl, yq5124_z⟩ := rs_rankM q5124_z
      replace yq5124_z := yq5124_z.symm
      subst yq5124_z
      rw [show rk_M 6 = 4 by decide] at hm_z
      replace hm_z : rn _ _ _ _ [.int 4] _ _ _ := hm_z
      replace hm_z := rn_iconst (w := 4) (am_cur_of (i := (182, 1, .iconst 4, (0, 0, 0), 0)) (by decide +kernel)) (by decide) hm_z
      replace hm_z := rn_cmpF (am_cur_of (i := (183, 3, .if_icmp .ne 34, (110, 0, 0), 0)) (by decide +kernel)) (by decide) hm_z
      replace hm_z := rn_aload_n (am_cur_of (i := (186, 1, .aload_n 0, (0, 0, 0), 0)) (by decide +kernel)) g0m hm_z
      replace hm_z := rn_getI (v := np) (am_cur_of (i := (187, 3, .getfield 280, (12, 41, 1425), 0)) (by decide +kernel)) (by decide +kernel) z2_z hm_z
      replace hm_z := rn_if (am_cur_of (i := (190, 3, .ifCond .le 27, (110, 0, 0), 0)) (by decide +kernel)) hm_z
      rcases hm_z with ⟨b5125_z, hm_z⟩ | ⟨b5125_z, hm_z⟩
      · replace b5125_z : np.toInt ≤ (0 : Int32).toInt := b5125_z
        omega
      · replace b5125_z : (0 : Int32).toInt < np.toInt := b5125_z
        replace hm_z := rn_aload_n (am_cur_of (i := (193, 1, .aload_n 0, (0, 0, 0), 0)) (by decide +kernel)) g0m hm_z
        replace hm_z := rn_getR (x := 184) (am_cur_of (i := (194, 3, .getfield 72, (12, 39, 1423), 0)) (by decide +kernel)) (by decide +kernel) hm_z
        replace hm_z := rn_aload_n (am_cur_of (i := (197, 1, .aload_n 0, (0, 0, 0), 0)) (by decide +kernel)) g0m hm_z
        replace hm_z := rn_getI (v := np) (am_cur_of (i := (198, 3, .getfield 280, (12, 41, 1425), 0)) (by decide +kernel)) (by decide +kernel) z2_z hm_z
        replace hm_z := rn_iconst (w := 1) (am_cur_of (i := (201, 1, .iconst 1, (0, 0, 0), 0)) (by decide +kernel)) (by decide) hm_z
        replace hm_z := rn_isub (w := np - 1) (am_cur_of (i := (202, 1, .isub, (0, 0, 0), 0)) (by decide +kernel)) rfl hm_z
        replace hm_z := rn_iaload (N := 96) (q := (np - 1).toNatClampNeg) (v := rg_v h5095_z 184 (np.toNatClampNeg - 1)) (am_cur_of (i := (203, 1, .iaload, (0, 0, 0), 0)) (by decide +kernel)) (by decide +kernel) rfl (by rw [show (np - 1).toNatClampNeg = np.toNatClampNeg - 1 by have := rt_cl (x := np - 1) (by omega); omega]) hm_z
        obtain ⟨p5126_z, hm_z⟩ := hm_z
        replace hm_z := rn_callS (M' := am_m180) (ar := [.int (rg_v h5095_z 184 (np.toNatClampNeg - 1))]) (rest := []) (L := lv_args 0 [.int (rg_v h5095_z 184 (np.toNatClampNeg - 1))]) (am_cur_of (i := (204, 3, .invokestatic 283, (180, 1751, 3), 0)) (by decide +kernel)) rfl rfl rfl rfl hm_z
        obtain ⟨r5127_z, h5128_z, q5129_z, hm_z⟩ := hm_z
        obtain ⟨rfl, yq5129_z⟩ := rs_rankM q5129_z
        replace yq5129_z := yq5129_z.symm
        subst yq5129_z
        replace hm_z : rn _ _ _ _ [.int (rk_M (rg_v h5095_z 184 (np.toNatClampNeg - 1)))] _ _ _ := hm_z
        replace hm_z := rn_iconst (w := 4) (am_cur_of (i := (207, 1, .iconst 4, (0, 0, 0), 0)) (by decide +kernel)) (by decide) hm_z
        replace hm_z := rn_cmp (am_cur_of (i := (208, 3, .if_icmp .ne 9, (110, 0, 0), 0)) (by decide +kernel)) hm_z
        rcases hm_z with ⟨b5130_z, hm_z⟩ | ⟨b5130_z, hm_z⟩
        · replace b5130_z : ¬ (rk_M (rg_v h5095_z 184 (np.toNatClampNeg - 1))) = (4 : Int32) ∧ ¬ (rk_M (rg_v h5095_z 184 (np.toNatClampNeg - 1))).toInt = (4 : Int32).toInt := b5130_z
          exact absurd ((rs_o64 (z9_z (np.toNatClampNeg - 1) (by omega))).mp (b5109_z.2.trans (by decide))) (fun q4_z => b5130_z.2 (q4_z.trans (by decide)))
        · replace b5130_z : (rk_M (rg_v h5095_z 184 (np.toNatClampNeg - 1))) = (4 : Int32) ∧ (rk_M (rg_v h5095_z 184 (np.toNatClampNeg - 1))).toInt = (4 : Int32).toInt := b5130_z
          replace hm_z := rn_aload_n (am_cur_of (i := (211, 1, .aload_n 0, (0, 0, 0), 0)) (by decide +kernel)) g0m hm_z
          replace hm_z := rn_iconst (w := 1) (am_cur_of (i := (212, 1, .iconst 1, (0, 0, 0), 0)) (by decide +kernel)) (by decide) hm_z
          replace hm_z := rn_callV (M' := am_m158) (o := 164) (ar := [.int 1]) (rest := []) (L := lv_args 0 [.ref 164, .int 1]) (am_cur_of (i := (213, 3, .invokevirtual 181, (158, 1665, 3), 0)) (by decide +kernel)) rfl rfl rfl rfl hm_z
          obtain ⟨r5131_z, h5132_z, q5133_z, hm_z⟩ := hm_z
          obtain ⟨rfl, yq5133_z⟩ := rp_wrong q5133_z
          subst yq5133_z
          replace hm_z : rn _ _ _ _ [.int 0] _ _ _ := hm_z
          replace hm_z := rn_iret (am_cur_of (i := (216, 1, .ireturn, (0, 0, 0), 0)) (by decide +kernel)) hm_z
          obtain ⟨e5134_z, e5135_z⟩ := hm_z
          subst e5134_z e5135_z
          exact Or.inl (Or.inr ⟨rfl, 1, by decide, K.1, K.2, rfl, R.2.2.2.2.2.1⟩)
theorem rj_c20_2 {T : Nat → Int32} {S x p : Int32} {n n' : Nat} {h h' g g' : am_H} {r r' : Option Value} (R : rq T S x p 2 h g) (A : rp 2 h g) (B : rp_t h g) (Z : rs 2 h g) (w0_z : rg_v g 164 45 = 0) (ka : (rg_v h 44 10) = 6) (kc : (rg_v g 164 8) = 5) (kb : (rg_v h 44 11) = 8) (kd : (rg_v g 164 9) = 2) (hc_z : rn n am_m44 0 (lv_args 0 [.ref 44]) [] h r h') (hm_z : rn n' am_m178 0 (lv_args 0 [.ref 164]) [] g r' g') : rj_Q T S x p 2 h g h' g' r r' := by
  have z0_z : (0 : Int32).toInt = 0 := by decide
  have z4_z : (4 : Int32).toInt = 4 := by decide
  have z6_z : (6 : Int32).toInt = 6 := by decide
  have g0_z : am_get (lv_args 0 [.ref 44]) 0 = some (.ref 44) := rfl
  have g0m : am_get (lv_args 0 [.ref 164]) 0 = some (.ref 164) := rfl
  have Rk := R
  have Zk := Z
  obtain ⟨⟨c1_z, c2_z, c3_z, c4_z, c5_z, c6_z, c7_z, c8_z⟩, ⟨m2_z, m3_z, m4_z, m5_z, m6_z, m7_z, m8_z⟩, R3, R4, R5, R6, R7, R8, R9, R10⟩ := (R : rq T S x p 2 h g)
  obtain ⟨np, op, z1_z, z2_z, z3_z, z4_z, z5_z, z6_z, z7_z, z8_z, z9_z, z10_z⟩ := (Z : rs 2 h g)
  obtain ⟨nk1_z, nk2_z, nk3_z⟩ := A.2.2.2.2.2.1
  replace nk1_z : rg_v h 11 0 = rg_v g 164 44 := nk1_z
  replace nk2_z : 0 ≤ (rg_v h 11 0).toInt := nk2_z
  replace nk3_z : (rg_v h 11 0).toInt ≤ 64 := nk3_z
  replace z8_z : np.toInt ≤ (rg_v h 11 0).toInt + op.toInt := z8_z
  obtain ⟨kn, ekn⟩ : ∃ v, rg_v h 11 0 = v := ⟨_, rfl⟩
  rw [ekn] at nk1_z nk2_z nk3_z z8_z
  have e9_z := rt_c1 (x := kn) (by omega) (by omega)
  replace hc_z := rn_aload_n (am_cur_of (i := (0, 1, .aload_n 0, (0, 0, 0), 0)) (by decide +kernel)) g0_z hc_z
  replace hc_z := rn_bipush (w := 41) (am_cur_of (i := (1, 2, .bipush 41, (0, 0, 0), 0)) (by decide +kernel)) (by decide) hc_z
  replace hc_z := rn_callV (M' := am_m45) (o := 44) (ar := [.int 41]) (rest := []) (L := lv_args 0 [.ref 44, .int 41]) (am_cur_of (i := (3, 3, .invokevirtual 105, (45, 834, 3), 0)) (by decide +kernel)) rfl rfl rfl rfl hc_z
  obtain ⟨r5136_z, h5137_z, q5138_z, hc_z⟩ := hc_z
  obtain ⟨rfl, yq5138_z⟩ := rp_mkN (fun q => absurd (Eq.trans (Eq.symm ka) q.1) (by decide)) q5138_z
  subst yq5138_z
  replace hc_z : rn _ _ _ _ [.int 0] _ _ _ := hc_z
  replace hc_z := rn_ifT (am_cur_of (i := (6, 3, .ifCond .eq 45, (28, 0, 0), 0)) (by decide +kernel)) (by decide) hc_z
  replace hc_z := rn_aload_n (am_cur_of (i := (51, 1, .aload_n 0, (0, 0, 0), 0)) (by decide +kernel)) g0_z hc_z
  replace hc_z := rn_getI (v := 6) (am_cur_of (i := (52, 3, .getfield 60, (4, 10, 419), 0)) (by decide +kernel)) (by decide +kernel) ka hc_z
  replace hc_z := rn_bipush (w := 6) (am_cur_of (i := (55, 2, .bipush 6, (0, 0, 0), 0)) (by decide +kernel)) (by decide) hc_z
  replace hc_z := rn_cmpF (am_cur_of (i := (57, 3, .if_icmp .ne 11, (36, 0, 0), 0)) (by decide +kernel)) (by decide) hc_z
  replace hc_z := rn_aload_n (am_cur_of (i := (60, 1, .aload_n 0, (0, 0, 0), 0)) (by decide +kernel)) g0_z hc_z
  replace hc_z := rn_getI (v := 8) (am_cur_of (i := (61, 3, .getfield 91, (4, 11, 420), 0)) (by decide +kernel)) (by decide +kernel) kb hc_z
  replace hc_z := rn_iconst (w := 5) (am_cur_of (i := (64, 1, .iconst 5, (0, 0, 0), 0)) (by decide +kernel)) (by decide) hc_z
  replace hc_z := rn_cmpT (am_cur_of (i := (65, 3, .if_icmp .ne 17, (44, 0, 0), 0)) (by decide +kernel)) (by decide) hc_z
  replace hc_z := rn_aload_n (am_cur_of (i := (82, 1, .aload_n 0, (0, 0, 0), 0)) (by decide +kernel)) g0_z hc_z
  replace hc_z := rn_getI (v := 8) (am_cur_of (i := (83, 3, .getfield 91, (4, 11, 420), 0)) (by decide +kernel)) (by decide +kernel) kb hc_z
  replace hc_z := rn_istore_n (am_cur_of (i := (86, 1, .istore_n 1, (0, 0, 0), 0)) (by decide +kernel)) hc_z
  obtain ⟨_, s5139_z, s5140_z, g1_z, hc_z⟩ := hc_z
  replace g0_z := s5139_z 0 _ (by decide) rfl g0_z
  clear s5139_z s5140_z
  replace hc_z := rn_iload_n (am_cur_of (i := (87, 1, .iload_n 1, (0, 0, 0), 0)) (by decide +kernel)) g1_z hc_z
  replace hc_z := rn_callS (M' := am_m47) (ar := [.int 8]) (rest := []) (L := lv_args 0 [.int 8]) (am_cur_of (i := (88, 3, .invokestatic 283, (47, 842, 3), 0)) (by decide +kernel)) rfl rfl rfl rfl hc_z
  obtain ⟨r5141_z, h5142_z, q5143_z, hc_z⟩ := hc_z
  obtain ⟨rfl, yq5143_z⟩ := rs_rankC q5143_z
  replace yq5143_z := yq5143_z.symm
  subst yq5143_z
  rw [show rk_C 8 = 6 by decide] at hc_z
  replace hc_z : rn _ _ _ _ [.int 6] _ _ _ := hc_z
  replace hc_z := rn_bipush (w := 6) (am_cur_of (i := (91, 2, .bipush 6, (0, 0, 0), 0)) (by decide +kernel)) (by decide) hc_z
  replace hc_z := rn_callS (M' := am_m47) (ar := [.int 6]) (rest := [.int 6]) (L := lv_args 0 [.int 6]) (am_cur_of (i := (93, 3, .invokestatic 283, (47, 842, 3), 0)) (by decide +kernel)) rfl rfl rfl rfl hc_z
  obtain ⟨r5144_z, h5145_z, q5146_z, hc_z⟩ := hc_z
  obtain ⟨rfl, yq5146_z⟩ := rs_rankC q5146_z
  replace yq5146_z := yq5146_z.symm
  subst yq5146_z
  rw [show rk_C 6 = 6 by decide] at hc_z
  replace hc_z : rn _ _ _ _ [.int 6, .int 6] _ _ _ := hc_z
  replace hc_z := rn_cmpF (am_cur_of (i := (96, 3, .if_icmp .ne 46, (73, 0, 0), 0)) (by decide +kernel)) (by decide) hc_z
  replace hc_z := rn_aload_n (am_cur_of (i := (99, 1, .aload_n 0, (0, 0, 0), 0)) (by decide +kernel)) g0_z hc_z
  replace hc_z := rn_bipush (w := 12) (am_cur_of (i := (100, 2, .bipush 12, (0, 0, 0), 0)) (by decide +kernel)) (by decide) hc_z
  replace hc_z := rn_callV (M' := am_m46) (o := 44) (ar := [.int 12]) (rest := []) (L := lv_args 0 [.ref 44, .int 12]) (am_cur_of (i := (102, 3, .invokevirtual 264, (46, 838, 3), 0)) (by decide +kernel)) rfl rfl rfl rfl hc_z
  obtain ⟨r5147_z, h5148_z, q5149_z, hc_z⟩ := hc_z
  replace hm_z := rn_aload_n (am_cur_of (i := (0, 1, .aload_n 0, (0, 0, 0), 0)) (by decide +kernel)) g0m hm_z
  replace hm_z := rn_bipush (w := 41) (am_cur_of (i := (1, 2, .bipush 41, (0, 0, 0), 0)) (by decide +kernel)) (by decide) hm_z
  replace hm_z := rn_callV (M' := am_m171) (o := 164) (ar := [.int 41]) (rest := []) (L := lv_args 0 [.ref 164, .int 41]) (am_cur_of (i := (3, 3, .invokevirtual 194, (171, 1715, 3), 0)) (by decide +kernel)) rfl rfl rfl rfl hm_z
  obtain ⟨r5150_z, h5151_z, q5152_z, hm_z⟩ := hm_z
  obtain ⟨rfl, yq5152_z⟩ := rp_sgN (fun q => absurd (Eq.trans (Eq.symm kc) q.1) (by decide)) q5152_z
  subst yq5152_z
  replace hm_z : rn _ _ _ _ [.int 0] _ _ _ := hm_z
  replace hm_z := rn_ifT (am_cur_of (i := (6, 3, .ifCond .eq 41, (26, 0, 0), 0)) (by decide +kernel)) (by decide) hm_z
  replace hm_z := rn_aload_n (am_cur_of (i := (47, 1, .aload_n 0, (0, 0, 0), 0)) (by decide +kernel)) g0m hm_z
  replace hm_z := rn_bipush (w := 12) (am_cur_of (i := (48, 2, .bipush 12, (0, 0, 0), 0)) (by decide +kernel)) (by decide) hm_z
  replace hm_z := rn_callV (M' := am_m174) (o := 164) (ar := [.int 12]) (rest := []) (L := lv_args 0 [.ref 164, .int 12]) (am_cur_of (i := (50, 3, .invokevirtual 306, (174, 1727, 3), 0)) (by decide +kernel)) rfl rfl rfl rfl hm_z
  obtain ⟨r5153_z, h5154_z, q5155_z, hm_z⟩ := hm_z
  obtain ⟨rfl, yq5155_z⟩ := rp_kyN (fun q => absurd (Eq.trans (Eq.symm kc) q.1) (by decide)) q5155_z
  subst yq5155_z
  replace hm_z : rn _ _ _ _ [.int 0] _ _ _ := hm_z
  replace hm_z := rn_ifT (am_cur_of (i := (53, 3, .ifCond .eq 7, (32, 0, 0), 0)) (by decide +kernel)) (by decide) hm_z
  replace hm_z := rn_aload_n (am_cur_of (i := (60, 1, .aload_n 0, (0, 0, 0), 0)) (by decide +kernel)) g0m hm_z
  replace hm_z := rn_bipush (w := 13) (am_cur_of (i := (61, 2, .bipush 13, (0, 0, 0), 0)) (by decide +kernel)) (by decide) hm_z
  replace hm_z := rn_callV (M' := am_m174) (o := 164) (ar := [.int 13]) (rest := []) (L := lv_args 0 [.ref 164, .int 13]) (am_cur_of (i := (63, 3, .invokevirtual 306, (174, 1727, 3), 0)) (by decide +kernel)) rfl rfl rfl rfl hm_z
  obtain ⟨r5156_z, h5157_z, q5158_z, hm_z⟩ := hm_z
  obtain ⟨rfl, yq5158_z⟩ := rp_kyN (fun q => absurd (Eq.trans (Eq.symm kc) q.1) (by decide)) q5158_z
  subst yq5158_z
  replace hm_z : rn _ _ _ _ [.int 0] _ _ _ := hm_z
  replace hm_z := rn_ifT (am_cur_of (i := (66, 3, .ifCond .eq 7, (38, 0, 0), 0)) (by decide +kernel)) (by decide) hm_z
  replace hm_z := rn_aload_n (am_cur_of (i := (73, 1, .aload_n 0, (0, 0, 0), 0)) (by decide +kernel)) g0m hm_z
  replace hm_z := rn_getI (v := 5) (am_cur_of (i := (74, 3, .getfield 157, (12, 8, 1392), 0)) (by decide +kernel)) (by decide +kernel) kc hm_z
  replace hm_z := rn_iconst (w := 5) (am_cur_of (i := (77, 1, .iconst 5, (0, 0, 0), 0)) (by decide +kernel)) (by decide) hm_z
  replace hm_z := rn_cmpF (am_cur_of (i := (78, 3, .if_icmp .ne 12, (47, 0, 0), 0)) (by decide +kernel)) (by decide) hm_z
  replace hm_z := rn_iconst (w := 5) (am_cur_of (i := (81, 1, .iconst 5, (0, 0, 0), 0)) (by decide +kernel)) (by decide) hm_z
  replace hm_z := rn_aload_n (am_cur_of (i := (82, 1, .aload_n 0, (0, 0, 0), 0)) (by decide +kernel)) g0m hm_z
  replace hm_z := rn_getI (v := 2) (am_cur_of (i := (83, 3, .getfield 168, (12, 9, 1393), 0)) (by decide +kernel)) (by decide +kernel) kd hm_z
  replace hm_z := rn_iadd (w := 7) (am_cur_of (i := (86, 1, .iadd, (0, 0, 0), 0)) (by decide +kernel)) (by decide) hm_z
  replace hm_z := rn_goto (am_cur_of (i := (87, 3, .goto 60, (72, 0, 0), 0)) (by decide +kernel)) hm_z
  replace hm_z := rn_istore_n (am_cur_of (i := (147, 1, .istore_n 1, (0, 0, 0), 0)) (by decide +kernel)) hm_z
  obtain ⟨_, s5159_z, s5160_z, g1m, hm_z⟩ := hm_z
  replace g0m := s5159_z 0 _ (by decide) rfl g0m
  clear s5159_z s5160_z
  replace hm_z := rn_iload_n (am_cur_of (i := (148, 1, .iload_n 1, (0, 0, 0), 0)) (by decide +kernel)) g1m hm_z
  replace hm_z := rn_ifT (am_cur_of (i := (149, 3, .ifCond .ne 9, (79, 0, 0), 0)) (by decide +kernel)) (by decide) hm_z
  replace hm_z := rn_aload_n (am_cur_of (i := (158, 1, .aload_n 0, (0, 0, 0), 0)) (by decide +kernel)) g0m hm_z
  replace hm_z := rn_iload_n (am_cur_of (i := (159, 1, .iload_n 1, (0, 0, 0), 0)) (by decide +kernel)) g1m hm_z
  replace hm_z := rn_callS (M' := am_m180) (ar := [.int 7]) (rest := [.ref 164]) (L := lv_args 0 [.int 7]) (am_cur_of (i := (160, 3, .invokestatic 283, (180, 1751, 3), 0)) (by decide +kernel)) rfl rfl rfl rfl hm_z
  obtain ⟨r5161_z, h5162_z, q5163_z, hm_z⟩ := hm_z
  obtain ⟨rfl, yq5163_z⟩ := rs_rankM q5163_z
  replace yq5163_z := yq5163_z.symm
  subst yq5163_z
  rw [show rk_M 7 = 4 by decide] at hm_z
  replace hm_z : rn _ _ _ _ [.int 4, .ref 164] _ _ _ := hm_z
  replace hm_z := rn_iconst (w := 4) (am_cur_of (i := (163, 1, .iconst 4, (0, 0, 0), 0)) (by decide +kernel)) (by decide) hm_z
  replace hm_z := rn_cmpF (am_cur_of (i := (164, 3, .if_icmp .ne 7, (86, 0, 0), 0)) (by decide +kernel)) (by decide) hm_z
  replace hm_z := rn_iconst (w := 5) (am_cur_of (i := (167, 1, .iconst 5, (0, 0, 0), 0)) (by decide +kernel)) (by decide) hm_z
  replace hm_z := rn_goto (am_cur_of (i := (168, 3, .goto 7, (88, 0, 0), 0)) (by decide +kernel)) hm_z
  replace hm_z := rn_callV (M' := am_m179) (o := 164) (ar := [.int 5]) (rest := []) (L := lv_args 0 [.ref 164, .int 5]) (am_cur_of (i := (175, 3, .invokevirtual 318, (179, 1747, 3), 0)) (by decide +kernel)) rfl rfl rfl rfl hm_z
  obtain ⟨r5164_z, h5165_z, q5166_z, hm_z⟩ := hm_z
  obtain ⟨rfl, rfl, FC, FM, R, A, B, Z, nq, e13_z, hst⟩ := rz_set2 rs_l12 (by decide) Rk A B Zk q5149_z q5166_z
  have Zq := Z
  obtain ⟨np, op, z1_z, z2_z, z3_z, z4_z, z5_z, z6_z, z7_z, z8_z, z9_z, z10_z⟩ := Zq
  obtain rfl : np = nq := z1_z.symm.trans e13_z
  replace hm_z : rn _ _ _ _ [] _ _ _ := hm_z
  replace hc_z : rn _ _ _ _ [] _ _ _ := hc_z
  have cn := rt_cl z3_z
  have zz1_z : (1 : Int32).toInt = 1 := by decide
  have n31_z := (ab_32 np).2
  have y1_z := ab_isub (x := np) (y := 1) (by omega) (by omega)
  replace hc_z := rn_aload_n (am_cur_of (i := (105, 1, .aload_n 0, (0, 0, 0), 0)) (by decide +kernel)) g0_z hc_z
  replace hc_z := rn_getI (v := np) (am_cur_of (i := (106, 3, .getfield 251, (4, 13, 422), 0)) (by decide +kernel)) (by decide +kernel) z1_z hc_z
  replace hc_z := rn_if (am_cur_of (i := (109, 3, .ifCond .le 38, (76, 0, 0), 0)) (by decide +kernel)) hc_z
  rcases hc_z with ⟨b5167_z, hc_z⟩ | ⟨b5167_z, hc_z⟩
  · replace b5167_z : np.toInt ≤ (0 : Int32).toInt := b5167_z
    replace hm_z := rn_iload_n (am_cur_of (i := (178, 1, .iload_n 1, (0, 0, 0), 0)) (by decide +kernel)) g1m hm_z
    replace hm_z := rn_callS (M' := am_m180) (ar := [.int 7]) (rest := []) (L := lv_args 0 [.int 7]) (am_cur_of (i := (179, 3, .invokestatic 283, (180, 1751, 3), 0)) (by decide +kernel)) rfl rfl rfl rfl hm_z
    obtain ⟨r5168_z, h5169_z, q5170_z, hm_z⟩ := hm_z
    obtain ⟨rfl, yq5170_z⟩ := rs_rankM q5170_z
    replace yq5170_z := yq5170_z.symm
    subst yq5170_z
    rw [show rk_M 7 = 4 by decide] at hm_z
    replace hm_z : rn _ _ _ _ [.int 4] _ _ _ := hm_z
    replace hm_z := rn_iconst (w := 4) (am_cur_of (i := (182, 1, .iconst 4, (0, 0, 0), 0)) (by decide +kernel)) (by decide) hm_z
    replace hm_z := rn_cmpF (am_cur_of (i := (183, 3, .if_icmp .ne 34, (110, 0, 0), 0)) (by decide +kernel)) (by decide) hm_z
    replace hm_z := rn_aload_n (am_cur_of (i := (186, 1, .aload_n 0, (0, 0, 0), 0)) (by decide +kernel)) g0m hm_z
    replace hm_z := rn_getI (v := np) (am_cur_of (i := (187, 3, .getfield 280, (12, 41, 1425), 0)) (by decide +kernel)) (by decide +kernel) z2_z hm_z
    replace hm_z := rn_if (am_cur_of (i := (190, 3, .ifCond .le 27, (110, 0, 0), 0)) (by decide +kernel)) hm_z
    rcases hm_z with ⟨b5171_z, hm_z⟩ | ⟨b5171_z, hm_z⟩
    · replace b5171_z : np.toInt ≤ (0 : Int32).toInt := b5171_z
      exact Or.inl (rj_t8_2 R A B Z g0_z g1_z g0m g1m hc_z hm_z)
    · replace b5171_z : (0 : Int32).toInt < np.toInt := b5171_z
      omega
  · replace b5167_z : (0 : Int32).toInt < np.toInt := b5167_z
    replace hc_z := rn_aload_n (am_cur_of (i := (112, 1, .aload_n 0, (0, 0, 0), 0)) (by decide +kernel)) g0_z hc_z
    replace hc_z := rn_getR (x := 47) (am_cur_of (i := (113, 3, .getfield 22, (4, 12, 421), 0)) (by decide +kernel)) (by decide +kernel) hc_z
    replace hc_z := rn_aload_n (am_cur_of (i := (116, 1, .aload_n 0, (0, 0, 0), 0)) (by decide +kernel)) g0_z hc_z
    replace hc_z := rn_getI (v := np) (am_cur_of (i := (117, 3, .getfield 251, (4, 13, 422), 0)) (by decide +kernel)) (by decide +kernel) z1_z hc_z
    replace hc_z := rn_iconst (w := 1) (am_cur_of (i := (120, 1, .iconst 1, (0, 0, 0), 0)) (by decide +kernel)) (by decide) hc_z
    replace hc_z := rn_isub (w := np - 1) (am_cur_of (i := (121, 1, .isub, (0, 0, 0), 0)) (by decide +kernel)) rfl hc_z
    replace hc_z := rn_iaload (N := 72) (q := (np - 1).toNatClampNeg) (v := rg_v h5148_z 47 (np.toNatClampNeg - 1)) (am_cur_of (i := (122, 1, .iaload, (0, 0, 0), 0)) (by decide +kernel)) (by decide +kernel) rfl (by rw [show (np - 1).toNatClampNeg = np.toNatClampNeg - 1 by have := rt_cl (x := np - 1) (by omega); omega]) hc_z
    obtain ⟨p5172_z, hc_z⟩ := hc_z
    replace hc_z := rn_callS (M' := am_m47) (ar := [.int (rg_v h5148_z 47 (np.toNatClampNeg - 1))]) (rest := []) (L := lv_args 0 [.int (rg_v h5148_z 47 (np.toNatClampNeg - 1))]) (am_cur_of (i := (123, 3, .invokestatic 283, (47, 842, 3), 0)) (by decide +kernel)) rfl rfl rfl rfl hc_z
    obtain ⟨r5173_z, h5174_z, q5175_z, hc_z⟩ := hc_z
    obtain ⟨rfl, yq5175_z⟩ := rs_rankC q5175_z
    replace yq5175_z := yq5175_z.symm
    subst yq5175_z
    replace hc_z : rn _ _ _ _ [.int (rk_C (rg_v h5148_z 47 (np.toNatClampNeg - 1)))] _ _ _ := hc_z
    replace hc_z := rn_bipush (w := 6) (am_cur_of (i := (126, 2, .bipush 6, (0, 0, 0), 0)) (by decide +kernel)) (by decide) hc_z
    replace hc_z := rn_callS (M' := am_m47) (ar := [.int 6]) (rest := [.int (rk_C (rg_v h5148_z 47 (np.toNatClampNeg - 1)))]) (L := lv_args 0 [.int 6]) (am_cur_of (i := (128, 3, .invokestatic 283, (47, 842, 3), 0)) (by decide +kernel)) rfl rfl rfl rfl hc_z
    obtain ⟨r5176_z, h5177_z, q5178_z, hc_z⟩ := hc_z
    obtain ⟨rfl, yq5178_z⟩ := rs_rankC q5178_z
    replace yq5178_z := yq5178_z.symm
    subst yq5178_z
    rw [show rk_C 6 = 6 by decide] at hc_z
    replace hc_z : rn _ _ _ _ [.int 6, .int (rk_C (rg_v h5148_z 47 (np.toNatClampNeg - 1)))] _ _ _ := hc_z
    replace hc_z := rn_cmp (am_cur_of (i := (131, 3, .if_icmp .ne 16, (76, 0, 0), 0)) (by decide +kernel)) hc_z
    rcases hc_z with ⟨b5179_z, hc_z⟩ | ⟨b5179_z, hc_z⟩
    · replace b5179_z : ¬ (rk_C (rg_v h5148_z 47 (np.toNatClampNeg - 1))) = (6 : Int32) ∧ ¬ (rk_C (rg_v h5148_z 47 (np.toNatClampNeg - 1))).toInt = (6 : Int32).toInt := b5179_z
      replace hm_z := rn_iload_n (am_cur_of (i := (178, 1, .iload_n 1, (0, 0, 0), 0)) (by decide +kernel)) g1m hm_z
      replace hm_z := rn_callS (M' := am_m180) (ar := [.int 7]) (rest := []) (L := lv_args 0 [.int 7]) (am_cur_of (i := (179, 3, .invokestatic 283, (180, 1751, 3), 0)) (by decide +kernel)) rfl rfl rfl rfl hm_z
      obtain ⟨r5180_z, h5181_z, q5182_z, hm_z⟩ := hm_z
      obtain ⟨rfl, yq5182_z⟩ := rs_rankM q5182_z
      replace yq5182_z := yq5182_z.symm
      subst yq5182_z
      rw [show rk_M 7 = 4 by decide] at hm_z
      replace hm_z : rn _ _ _ _ [.int 4] _ _ _ := hm_z
      replace hm_z := rn_iconst (w := 4) (am_cur_of (i := (182, 1, .iconst 4, (0, 0, 0), 0)) (by decide +kernel)) (by decide) hm_z
      replace hm_z := rn_cmpF (am_cur_of (i := (183, 3, .if_icmp .ne 34, (110, 0, 0), 0)) (by decide +kernel)) (by decide) hm_z
      replace hm_z := rn_aload_n (am_cur_of (i := (186, 1, .aload_n 0, (0, 0, 0), 0)) (by decide +kernel)) g0m hm_z
      replace hm_z := rn_getI (v := np) (am_cur_of (i := (187, 3, .getfield 280, (12, 41, 1425), 0)) (by decide +kernel)) (by decide +kernel) z2_z hm_z
      replace hm_z := rn_if (am_cur_of (i := (190, 3, .ifCond .le 27, (110, 0, 0), 0)) (by decide +kernel)) hm_z
      rcases hm_z with ⟨b5183_z, hm_z⟩ | ⟨b5183_z, hm_z⟩
      · replace b5183_z : np.toInt ≤ (0 : Int32).toInt := b5183_z
        omega
      · replace b5183_z : (0 : Int32).toInt < np.toInt := b5183_z
        replace hm_z := rn_aload_n (am_cur_of (i := (193, 1, .aload_n 0, (0, 0, 0), 0)) (by decide +kernel)) g0m hm_z
        replace hm_z := rn_getR (x := 184) (am_cur_of (i := (194, 3, .getfield 72, (12, 39, 1423), 0)) (by decide +kernel)) (by decide +kernel) hm_z
        replace hm_z := rn_aload_n (am_cur_of (i := (197, 1, .aload_n 0, (0, 0, 0), 0)) (by decide +kernel)) g0m hm_z
        replace hm_z := rn_getI (v := np) (am_cur_of (i := (198, 3, .getfield 280, (12, 41, 1425), 0)) (by decide +kernel)) (by decide +kernel) z2_z hm_z
        replace hm_z := rn_iconst (w := 1) (am_cur_of (i := (201, 1, .iconst 1, (0, 0, 0), 0)) (by decide +kernel)) (by decide) hm_z
        replace hm_z := rn_isub (w := np - 1) (am_cur_of (i := (202, 1, .isub, (0, 0, 0), 0)) (by decide +kernel)) rfl hm_z
        replace hm_z := rn_iaload (N := 96) (q := (np - 1).toNatClampNeg) (v := rg_v h5165_z 184 (np.toNatClampNeg - 1)) (am_cur_of (i := (203, 1, .iaload, (0, 0, 0), 0)) (by decide +kernel)) (by decide +kernel) rfl (by rw [show (np - 1).toNatClampNeg = np.toNatClampNeg - 1 by have := rt_cl (x := np - 1) (by omega); omega]) hm_z
        obtain ⟨p5184_z, hm_z⟩ := hm_z
        replace hm_z := rn_callS (M' := am_m180) (ar := [.int (rg_v h5165_z 184 (np.toNatClampNeg - 1))]) (rest := []) (L := lv_args 0 [.int (rg_v h5165_z 184 (np.toNatClampNeg - 1))]) (am_cur_of (i := (204, 3, .invokestatic 283, (180, 1751, 3), 0)) (by decide +kernel)) rfl rfl rfl rfl hm_z
        obtain ⟨r5185_z, h5186_z, q5187_z, hm_z⟩ := hm_z
        obtain ⟨rfl, yq5187_z⟩ := rs_rankM q5187_z
        replace yq5187_z := yq5187_z.symm
        subst yq5187_z
        replace hm_z : rn _ _ _ _ [.int (rk_M (rg_v h5165_z 184 (np.toNatClampNeg - 1)))] _ _ _ := hm_z
        replace hm_z := rn_iconst (w := 4) (am_cur_of (i := (207, 1, .iconst 4, (0, 0, 0), 0)) (by decide +kernel)) (by decide) hm_z
        replace hm_z := rn_cmp (am_cur_of (i := (208, 3, .if_icmp .ne 9, (110, 0, 0), 0)) (by decide +kernel)) hm_z
        rcases hm_z with ⟨b5188_z, hm_z⟩ | ⟨b5188_z, hm_z⟩
        · replace b5188_z : ¬ (rk_M (rg_v h5165_z 184 (np.toNatClampNeg - 1))) = (4 : Int32) ∧ ¬ (rk_M (rg_v h5165_z 184 (np.toNatClampNeg - 1))).toInt = (4 : Int32).toInt := b5188_z
          exact Or.inl (rj_t8_2 R A B Z g0_z g1_z g0m g1m hc_z hm_z)
        · replace b5188_z : (rk_M (rg_v h5165_z 184 (np.toNatClampNeg - 1))) = (4 : Int32) ∧ (rk_M (rg_v h5165_z 184 (np.toNatClampNeg - 1))).toInt = (4 : Int32).toInt := b5188_z
          exact absurd b5188_z.2 (fun q4_z => b5179_z.2 ((rs_o64 (z9_z (np.toNatClampNeg - 1) (by omega))).mpr (q4_z.trans (by decide))))
    · replace b5179_z : (rk_C (rg_v h5148_z 47 (np.toNatClampNeg - 1))) = (6 : Int32) ∧ (rk_C (rg_v h5148_z 47 (np.toNatClampNeg - 1))).toInt = (6 : Int32).toInt := b5179_z
      replace hc_z := rn_aload_n (am_cur_of (i := (134, 1, .aload_n 0, (0, 0, 0), 0)) (by decide +kernel)) g0_z hc_z
      replace hc_z := rn_iconst (w := 1) (am_cur_of (i := (135, 1, .iconst 1, (0, 0, 0), 0)) (by decide +kernel)) (by decide) hc_z
      replace hc_z := rn_callV (M' := am_m29) (o := 44) (ar := [.int 1]) (rest := []) (L := lv_args 0 [.ref 44, .int 1]) (am_cur_of (i := (136, 3, .invokevirtual 108, (29, 769, 3), 0)) (by decide +kernel)) rfl rfl rfl rfl hc_z
      obtain ⟨r5189_z, h5190_z, q5191_z, hc_z⟩ := hc_z
      obtain ⟨rfl, yq5191_z⟩ := rp_fail R.2.2.2.1 q5191_z
      subst yq5191_z
      replace hc_z : rn _ _ _ _ [] _ _ _ := hc_z
      have K := rs_stick (w := 1) (q := p) (a := 44) (by decide) (by decide) rfl (by decide) rfl (show rg_v (am_up (am_up h5148_z 44 1 (.int 1)) 44 2 (.int (rg_v h5148_z 44 9))) 44 2 = p from R.2.2.2.2.1) hc_z
      replace hm_z := rn_iload_n (am_cur_of (i := (178, 1, .iload_n 1, (0, 0, 0), 0)) (by decide +kernel)) g1m hm_z
      replace hm_z := rn_callS (M' := am_m180) (ar := [.int 7]) (rest := []) (L := lv_args 0 [.int 7]) (am_cur_of (i := (179, 3, .invokestatic 283, (180, 1751, 3), 0)) (by decide +kernel)) rfl rfl rfl rfl hm_z
      obtain ⟨r5192_z, h5193_z, q5194_z, hm_z⟩ := hm_z
      obtain ⟨rfl, yq5194_z⟩ := rs_rankM q5194_z
      replace yq5194_z := yq5194_z.symm
      subst yq5194_z
      rw [show rk_M 7 = 4 by decide] at hm_z
      replace hm_z : rn _ _ _ _ [.int 4] _ _ _ := hm_z
      replace hm_z := rn_iconst (w := 4) (am_cur_of (i := (182, 1, .iconst 4, (0, 0, 0), 0)) (by decide +kernel)) (by decide) hm_z
      replace hm_z := rn_cmpF (am_cur_of (i := (183, 3, .if_icmp .ne 34, (110, 0, 0), 0)) (by decide +kernel)) (by decide) hm_z
      replace hm_z := rn_aload_n (am_cur_of (i := (186, 1, .aload_n 0, (0, 0, 0), 0)) (by decide +kernel)) g0m hm_z
      replace hm_z := rn_getI (v := np) (am_cur_of (i := (187, 3, .getfield 280, (12, 41, 1425), 0)) (by decide +kernel)) (by decide +kernel) z2_z hm_z
      replace hm_z := rn_if (am_cur_of (i := (190, 3, .ifCond .le 27, (110, 0, 0), 0)) (by decide +kernel)) hm_z
      rcases hm_z with ⟨b5195_z, hm_z⟩ | ⟨b5195_z, hm_z⟩
      · replace b5195_z : np.toInt ≤ (0 : Int32).toInt := b5195_z
        omega
      · replace b5195_z : (0 : Int32).toInt < np.toInt := b5195_z
        replace hm_z := rn_aload_n (am_cur_of (i := (193, 1, .aload_n 0, (0, 0, 0), 0)) (by decide +kernel)) g0m hm_z
        replace hm_z := rn_getR (x := 184) (am_cur_of (i := (194, 3, .getfield 72, (12, 39, 1423), 0)) (by decide +kernel)) (by decide +kernel) hm_z
        replace hm_z := rn_aload_n (am_cur_of (i := (197, 1, .aload_n 0, (0, 0, 0), 0)) (by decide +kernel)) g0m hm_z
        replace hm_z := rn_getI (v := np) (am_cur_of (i := (198, 3, .getfield 280, (12, 41, 1425), 0)) (by decide +kernel)) (by decide +kernel) z2_z hm_z
        replace hm_z := rn_iconst (w := 1) (am_cur_of (i := (201, 1, .iconst 1, (0, 0, 0), 0)) (by decide +kernel)) (by decide) hm_z
        replace hm_z := rn_isub (w := np - 1) (am_cur_of (i := (202, 1, .isub, (0, 0, 0), 0)) (by decide +kernel)) rfl hm_z
        replace hm_z := rn_iaload (N := 96) (q := (np - 1).toNatClampNeg) (v := rg_v h5165_z 184 (np.toNatClampNeg - 1)) (am_cur_of (i := (203, 1, .iaload, (0, 0, 0), 0)) (by decide +kernel)) (by decide +kernel) rfl (by rw [show (np - 1).toNatClampNeg = np.toNatClampNeg - 1 by have := rt_cl (x := np - 1) (by omega); omega]) hm_z
        obtain ⟨p5196_z, hm_z⟩ := hm_z
        replace hm_z := rn_callS (M' := am_m180) (ar := [.int (rg_v h5165_z 184 (np.toNatClampNeg - 1))]) (rest := []) (L := lv_args 0 [.int (rg_v h5165_z 184 (np.toNatClampNeg - 1))]) (am_cur_of (i := (204, 3, .invokestatic 283, (180, 1751, 3), 0)) (by decide +kernel)) rfl rfl rfl rfl hm_z
        obtain ⟨r5197_z, h5198_z, q5199_z, hm_z⟩ := hm_z
        obtain ⟨rfl, yq5199_z⟩ := rs_rankM q5199_z
        replace yq5199_z := yq5199_z.symm
        subst yq5199_z
        replace hm_z : rn _ _ _ _ [.int (rk_M (rg_v h5165_z 184 (np.toNatClampNeg - 1)))] _ _ _ := hm_z
        replace hm_z := rn_iconst (w := 4) (am_cur_of (i := (207, 1, .iconst 4, (0, 0, 0), 0)) (by decide +kernel)) (by decide) hm_z
        replace hm_z := rn_cmp (am_cur_of (i := (208, 3, .if_icmp .ne 9, (110, 0, 0), 0)) (by decide +kernel)) hm_z
        rcases hm_z with ⟨b5200_z, hm_z⟩ | ⟨b5200_z, hm_z⟩
        · replace b5200_z : ¬ (rk_M (rg_v h5165_z 184 (np.toNatClampNeg - 1))) = (4 : Int32) ∧ ¬ (rk_M (rg_v h5165_z 184 (np.toNatClampNeg - 1))).toInt = (4 : Int32).toInt := b5200_z
          exact absurd ((rs_o64 (z9_z (np.toNatClampNeg - 1) (by omega))).mp (b5179_z.2.trans (by decide))) (fun q4_z => b5200_z.2 (q4_z.trans (by decide)))
        · replace b5200_z : (rk_M (rg_v h5165_z 184 (np.toNatClampNeg - 1))) = (4 : Int32) ∧ (rk_M (rg_v h5165_z 184 (np.toNatClampNeg - 1))).toInt = (4 : Int32).toInt := b5200_z
          replace hm_z := rn_aload_n (am_cur_of (i := (211, 1, .aload_n 0, (0, 0, 0), 0)) (by decide +kernel)) g0m hm_z
          replace hm_z := rn_iconst (w := 1) (am_cur_of (i := (212, 1, .iconst 1, (0, 0, 0), 0)) (by decide +kernel)) (by decide) hm_z
          replace hm_z := rn_callV (M' := am_m158) (o := 164) (ar := [.int 1]) (rest := []) (L := lv_args 0 [.ref 164, .int 1]) (am_cur_of (i := (213, 3, .invokevirtual 181, (158, 1665, 3), 0)) (by decide +kernel)) rfl rfl rfl rfl hm_z
          obtain ⟨r5201_z, h5202_z, q5203_z, hm_z⟩ := hm_z
          obtain ⟨rfl, yq5203_z⟩ := rp_wrong q5203_z
          subst yq5203_z
          replace hm_z : rn _ _ _ _ [.int 0] _ _ _ := hm_z
          replace hm_z := rn_iret (am_cur_of (i := (216, 1, .ireturn, (0, 0, 0), 0)) (by decide +kernel)) hm_z
          obtain ⟨e5204_z, e5205_z⟩ := hm_z
          subst e5204_z e5205_z
          exact Or.inl (Or.inr ⟨rfl, 1, by decide, K.1, K.2, rfl, R.2.2.2.2.2.1⟩)
theorem rj_c21_2 {T : Nat → Int32} {S x p : Int32} {n n' : Nat} {h h' g g' : am_H} {r r' : Option Value} (R : rq T S x p 2 h g) (A : rp 2 h g) (B : rp_t h g) (Z : rs 2 h g) (w0_z : rg_v g 164 45 = 0) (ka : (rg_v h 44 10) = 6) (kc : (rg_v g 164 8) = 5) (kb : (rg_v h 44 11) = 9) (kd : (rg_v g 164 9) = 3) (hc_z : rn n am_m44 0 (lv_args 0 [.ref 44]) [] h r h') (hm_z : rn n' am_m178 0 (lv_args 0 [.ref 164]) [] g r' g') : rj_Q T S x p 2 h g h' g' r r' := by
  have z0_z : (0 : Int32).toInt = 0 := by decide
  have z4_z : (4 : Int32).toInt = 4 := by decide
  have z6_z : (6 : Int32).toInt = 6 := by decide
  have g0_z : am_get (lv_args 0 [.ref 44]) 0 = some (.ref 44) := rfl
  have g0m : am_get (lv_args 0 [.ref 164]) 0 = some (.ref 164) := rfl
  have Rk := R
  have Zk := Z
  obtain ⟨⟨c1_z, c2_z, c3_z, c4_z, c5_z, c6_z, c7_z, c8_z⟩, ⟨m2_z, m3_z, m4_z, m5_z, m6_z, m7_z, m8_z⟩, R3, R4, R5, R6, R7, R8, R9, R10⟩ := (R : rq T S x p 2 h g)
  obtain ⟨np, op, z1_z, z2_z, z3_z, z4_z, z5_z, z6_z, z7_z, z8_z, z9_z, z10_z⟩ := (Z : rs 2 h g)
  obtain ⟨nk1_z, nk2_z, nk3_z⟩ := A.2.2.2.2.2.1
  replace nk1_z : rg_v h 11 0 = rg_v g 164 44 := nk1_z
  replace nk2_z : 0 ≤ (rg_v h 11 0).toInt := nk2_z
  replace nk3_z : (rg_v h 11 0).toInt ≤ 64 := nk3_z
  replace z8_z : np.toInt ≤ (rg_v h 11 0).toInt + op.toInt := z8_z
  obtain ⟨kn, ekn⟩ : ∃ v, rg_v h 11 0 = v := ⟨_, rfl⟩
  rw [ekn] at nk1_z nk2_z nk3_z z8_z
  have e9_z := rt_c1 (x := kn) (by omega) (by omega)
  replace hc_z := rn_aload_n (am_cur_of (i := (0, 1, .aload_n 0, (0, 0, 0), 0)) (by decide +kernel)) g0_z hc_z
  replace hc_z := rn_bipush (w := 41) (am_cur_of (i := (1, 2, .bipush 41, (0, 0, 0), 0)) (by decide +kernel)) (by decide) hc_z
  replace hc_z := rn_callV (M' := am_m45) (o := 44) (ar := [.int 41]) (rest := []) (L := lv_args 0 [.ref 44, .int 41]) (am_cur_of (i := (3, 3, .invokevirtual 105, (45, 834, 3), 0)) (by decide +kernel)) rfl rfl rfl rfl hc_z
  obtain ⟨r5206_z, h5207_z, q5208_z, hc_z⟩ := hc_z
  obtain ⟨rfl, yq5208_z⟩ := rp_mkN (fun q => absurd (Eq.trans (Eq.symm ka) q.1) (by decide)) q5208_z
  subst yq5208_z
  replace hc_z : rn _ _ _ _ [.int 0] _ _ _ := hc_z
  replace hc_z := rn_ifT (am_cur_of (i := (6, 3, .ifCond .eq 45, (28, 0, 0), 0)) (by decide +kernel)) (by decide) hc_z
  replace hc_z := rn_aload_n (am_cur_of (i := (51, 1, .aload_n 0, (0, 0, 0), 0)) (by decide +kernel)) g0_z hc_z
  replace hc_z := rn_getI (v := 6) (am_cur_of (i := (52, 3, .getfield 60, (4, 10, 419), 0)) (by decide +kernel)) (by decide +kernel) ka hc_z
  replace hc_z := rn_bipush (w := 6) (am_cur_of (i := (55, 2, .bipush 6, (0, 0, 0), 0)) (by decide +kernel)) (by decide) hc_z
  replace hc_z := rn_cmpF (am_cur_of (i := (57, 3, .if_icmp .ne 11, (36, 0, 0), 0)) (by decide +kernel)) (by decide) hc_z
  replace hc_z := rn_aload_n (am_cur_of (i := (60, 1, .aload_n 0, (0, 0, 0), 0)) (by decide +kernel)) g0_z hc_z
  replace hc_z := rn_getI (v := 9) (am_cur_of (i := (61, 3, .getfield 91, (4, 11, 420), 0)) (by decide +kernel)) (by decide +kernel) kb hc_z
  replace hc_z := rn_iconst (w := 5) (am_cur_of (i := (64, 1, .iconst 5, (0, 0, 0), 0)) (by decide +kernel)) (by decide) hc_z
  replace hc_z := rn_cmpT (am_cur_of (i := (65, 3, .if_icmp .ne 17, (44, 0, 0), 0)) (by decide +kernel)) (by decide) hc_z
  replace hc_z := rn_aload_n (am_cur_of (i := (82, 1, .aload_n 0, (0, 0, 0), 0)) (by decide +kernel)) g0_z hc_z
  replace hc_z := rn_getI (v := 9) (am_cur_of (i := (83, 3, .getfield 91, (4, 11, 420), 0)) (by decide +kernel)) (by decide +kernel) kb hc_z
  replace hc_z := rn_istore_n (am_cur_of (i := (86, 1, .istore_n 1, (0, 0, 0), 0)) (by decide +kernel)) hc_z
  obtain ⟨_, s5209_z, s5210_z, g1_z, hc_z⟩ := hc_z
  replace g0_z := s5209_z 0 _ (by decide) rfl g0_z
  clear s5209_z s5210_z
  replace hc_z := rn_iload_n (am_cur_of (i := (87, 1, .iload_n 1, (0, 0, 0), 0)) (by decide +kernel)) g1_z hc_z
  replace hc_z := rn_callS (M' := am_m47) (ar := [.int 9]) (rest := []) (L := lv_args 0 [.int 9]) (am_cur_of (i := (88, 3, .invokestatic 283, (47, 842, 3), 0)) (by decide +kernel)) rfl rfl rfl rfl hc_z
  obtain ⟨r5211_z, h5212_z, q5213_z, hc_z⟩ := hc_z
  obtain ⟨rfl, yq5213_z⟩ := rs_rankC q5213_z
  replace yq5213_z := yq5213_z.symm
  subst yq5213_z
  rw [show rk_C 9 = 6 by decide] at hc_z
  replace hc_z : rn _ _ _ _ [.int 6] _ _ _ := hc_z
  replace hc_z := rn_bipush (w := 6) (am_cur_of (i := (91, 2, .bipush 6, (0, 0, 0), 0)) (by decide +kernel)) (by decide) hc_z
  replace hc_z := rn_callS (M' := am_m47) (ar := [.int 6]) (rest := [.int 6]) (L := lv_args 0 [.int 6]) (am_cur_of (i := (93, 3, .invokestatic 283, (47, 842, 3), 0)) (by decide +kernel)) rfl rfl rfl rfl hc_z
  obtain ⟨r5214_z, h5215_z, q5216_z, hc_z⟩ := hc_z
  obtain ⟨rfl, yq5216_z⟩ := rs_rankC q5216_z
  replace yq5216_z := yq5216_z.symm
  subst yq5216_z
  rw [show rk_C 6 = 6 by decide] at hc_z
  replace hc_z : rn _ _ _ _ [.int 6, .int 6] _ _ _ := hc_z
  replace hc_z := rn_cmpF (am_cur_of (i := (96, 3, .if_icmp .ne 46, (73, 0, 0), 0)) (by decide +kernel)) (by decide) hc_z
  replace hc_z := rn_aload_n (am_cur_of (i := (99, 1, .aload_n 0, (0, 0, 0), 0)) (by decide +kernel)) g0_z hc_z
  replace hc_z := rn_bipush (w := 12) (am_cur_of (i := (100, 2, .bipush 12, (0, 0, 0), 0)) (by decide +kernel)) (by decide) hc_z
  replace hc_z := rn_callV (M' := am_m46) (o := 44) (ar := [.int 12]) (rest := []) (L := lv_args 0 [.ref 44, .int 12]) (am_cur_of (i := (102, 3, .invokevirtual 264, (46, 838, 3), 0)) (by decide +kernel)) rfl rfl rfl rfl hc_z
  obtain ⟨r5217_z, h5218_z, q5219_z, hc_z⟩ := hc_z
  replace hm_z := rn_aload_n (am_cur_of (i := (0, 1, .aload_n 0, (0, 0, 0), 0)) (by decide +kernel)) g0m hm_z
  replace hm_z := rn_bipush (w := 41) (am_cur_of (i := (1, 2, .bipush 41, (0, 0, 0), 0)) (by decide +kernel)) (by decide) hm_z
  replace hm_z := rn_callV (M' := am_m171) (o := 164) (ar := [.int 41]) (rest := []) (L := lv_args 0 [.ref 164, .int 41]) (am_cur_of (i := (3, 3, .invokevirtual 194, (171, 1715, 3), 0)) (by decide +kernel)) rfl rfl rfl rfl hm_z
  obtain ⟨r5220_z, h5221_z, q5222_z, hm_z⟩ := hm_z
  obtain ⟨rfl, yq5222_z⟩ := rp_sgN (fun q => absurd (Eq.trans (Eq.symm kc) q.1) (by decide)) q5222_z
  subst yq5222_z
  replace hm_z : rn _ _ _ _ [.int 0] _ _ _ := hm_z
  replace hm_z := rn_ifT (am_cur_of (i := (6, 3, .ifCond .eq 41, (26, 0, 0), 0)) (by decide +kernel)) (by decide) hm_z
  replace hm_z := rn_aload_n (am_cur_of (i := (47, 1, .aload_n 0, (0, 0, 0), 0)) (by decide +kernel)) g0m hm_z
  replace hm_z := rn_bipush (w := 12) (am_cur_of (i := (48, 2, .bipush 12, (0, 0, 0), 0)) (by decide +kernel)) (by decide) hm_z
  replace hm_z := rn_callV (M' := am_m174) (o := 164) (ar := [.int 12]) (rest := []) (L := lv_args 0 [.ref 164, .int 12]) (am_cur_of (i := (50, 3, .invokevirtual 306, (174, 1727, 3), 0)) (by decide +kernel)) rfl rfl rfl rfl hm_z
  obtain ⟨r5223_z, h5224_z, q5225_z, hm_z⟩ := hm_z
  obtain ⟨rfl, yq5225_z⟩ := rp_kyN (fun q => absurd (Eq.trans (Eq.symm kc) q.1) (by decide)) q5225_z
  subst yq5225_z
  replace hm_z : rn _ _ _ _ [.int 0] _ _ _ := hm_z
  replace hm_z := rn_ifT (am_cur_of (i := (53, 3, .ifCond .eq 7, (32, 0, 0), 0)) (by decide +kernel)) (by decide) hm_z
  replace hm_z := rn_aload_n (am_cur_of (i := (60, 1, .aload_n 0, (0, 0, 0), 0)) (by decide +kernel)) g0m hm_z
  replace hm_z := rn_bipush (w := 13) (am_cur_of (i := (61, 2, .bipush 13, (0, 0, 0), 0)) (by decide +kernel)) (by decide) hm_z
  replace hm_z := rn_callV (M' := am_m174) (o := 164) (ar := [.int 13]) (rest := []) (L := lv_args 0 [.ref 164, .int 13]) (am_cur_of (i := (63, 3, .invokevirtual 306, (174, 1727, 3), 0)) (by decide +kernel)) rfl rfl rfl rfl hm_z
  obtain ⟨r5226_z, h5227_z, q5228_z, hm_z⟩ := hm_z
  obtain ⟨rfl, yq5228_z⟩ := rp_kyN (fun q => absurd (Eq.trans (Eq.symm kc) q.1) (by decide)) q5228_z
  subst yq5228_z
  replace hm_z : rn _ _ _ _ [.int 0] _ _ _ := hm_z
  replace hm_z := rn_ifT (am_cur_of (i := (66, 3, .ifCond .eq 7, (38, 0, 0), 0)) (by decide +kernel)) (by decide) hm_z
  replace hm_z := rn_aload_n (am_cur_of (i := (73, 1, .aload_n 0, (0, 0, 0), 0)) (by decide +kernel)) g0m hm_z
  replace hm_z := rn_getI (v := 5) (am_cur_of (i := (74, 3, .getfield 157, (12, 8, 1392), 0)) (by decide +kernel)) (by decide +kernel) kc hm_z
  replace hm_z := rn_iconst (w := 5) (am_cur_of (i := (77, 1, .iconst 5, (0, 0, 0), 0)) (by decide +kernel)) (by decide) hm_z
  replace hm_z := rn_cmpF (am_cur_of (i := (78, 3, .if_icmp .ne 12, (47, 0, 0), 0)) (by decide +kernel)) (by decide) hm_z
  replace hm_z := rn_iconst (w := 5) (am_cur_of (i := (81, 1, .iconst 5, (0, 0, 0), 0)) (by decide +kernel)) (by decide) hm_z
  replace hm_z := rn_aload_n (am_cur_of (i := (82, 1, .aload_n 0, (0, 0, 0), 0)) (by decide +kernel)) g0m hm_z
  replace hm_z := rn_getI (v := 3) (am_cur_of (i := (83, 3, .getfield 168, (12, 9, 1393), 0)) (by decide +kernel)) (by decide +kernel) kd hm_z
  replace hm_z := rn_iadd (w := 8) (am_cur_of (i := (86, 1, .iadd, (0, 0, 0), 0)) (by decide +kernel)) (by decide) hm_z
  replace hm_z := rn_goto (am_cur_of (i := (87, 3, .goto 60, (72, 0, 0), 0)) (by decide +kernel)) hm_z
  replace hm_z := rn_istore_n (am_cur_of (i := (147, 1, .istore_n 1, (0, 0, 0), 0)) (by decide +kernel)) hm_z
  obtain ⟨_, s5229_z, s5230_z, g1m, hm_z⟩ := hm_z
  replace g0m := s5229_z 0 _ (by decide) rfl g0m
  clear s5229_z s5230_z
  replace hm_z := rn_iload_n (am_cur_of (i := (148, 1, .iload_n 1, (0, 0, 0), 0)) (by decide +kernel)) g1m hm_z
  replace hm_z := rn_ifT (am_cur_of (i := (149, 3, .ifCond .ne 9, (79, 0, 0), 0)) (by decide +kernel)) (by decide) hm_z
  replace hm_z := rn_aload_n (am_cur_of (i := (158, 1, .aload_n 0, (0, 0, 0), 0)) (by decide +kernel)) g0m hm_z
  replace hm_z := rn_iload_n (am_cur_of (i := (159, 1, .iload_n 1, (0, 0, 0), 0)) (by decide +kernel)) g1m hm_z
  replace hm_z := rn_callS (M' := am_m180) (ar := [.int 8]) (rest := [.ref 164]) (L := lv_args 0 [.int 8]) (am_cur_of (i := (160, 3, .invokestatic 283, (180, 1751, 3), 0)) (by decide +kernel)) rfl rfl rfl rfl hm_z
  obtain ⟨r5231_z, h5232_z, q5233_z, hm_z⟩ := hm_z
  obtain ⟨rfl, yq5233_z⟩ := rs_rankM q5233_z
  replace yq5233_z := yq5233_z.symm
  subst yq5233_z
  rw [show rk_M 8 = 4 by decide] at hm_z
  replace hm_z : rn _ _ _ _ [.int 4, .ref 164] _ _ _ := hm_z
  replace hm_z := rn_iconst (w := 4) (am_cur_of (i := (163, 1, .iconst 4, (0, 0, 0), 0)) (by decide +kernel)) (by decide) hm_z
  replace hm_z := rn_cmpF (am_cur_of (i := (164, 3, .if_icmp .ne 7, (86, 0, 0), 0)) (by decide +kernel)) (by decide) hm_z
  replace hm_z := rn_iconst (w := 5) (am_cur_of (i := (167, 1, .iconst 5, (0, 0, 0), 0)) (by decide +kernel)) (by decide) hm_z
  replace hm_z := rn_goto (am_cur_of (i := (168, 3, .goto 7, (88, 0, 0), 0)) (by decide +kernel)) hm_z
  replace hm_z := rn_callV (M' := am_m179) (o := 164) (ar := [.int 5]) (rest := []) (L := lv_args 0 [.ref 164, .int 5]) (am_cur_of (i := (175, 3, .invokevirtual 318, (179, 1747, 3), 0)) (by decide +kernel)) rfl rfl rfl rfl hm_z
  obtain ⟨r5234_z, h5235_z, q5236_z, hm_z⟩ := hm_z
  obtain ⟨rfl, rfl, FC, FM, R, A, B, Z, nq, e13_z, hst⟩ := rz_set2 rs_l12 (by decide) Rk A B Zk q5219_z q5236_z
  have Zq := Z
  obtain ⟨np, op, z1_z, z2_z, z3_z, z4_z, z5_z, z6_z, z7_z, z8_z, z9_z, z10_z⟩ := Zq
  obtain rfl : np = nq := z1_z.symm.trans e13_z
  replace hm_z : rn _ _ _ _ [] _ _ _ := hm_z
  replace hc_z : rn _ _ _ _ [] _ _ _ := hc_z
  have cn := rt_cl z3_z
  have zz1_z : (1 : Int32).toInt = 1 := by decide
  have n31_z := (ab_32 np).2
  have y1_z := ab_isub (x := np) (y := 1) (by omega) (by omega)
  replace hc_z := rn_aload_n (am_cur_of (i := (105, 1, .aload_n 0, (0, 0, 0), 0)) (by decide +kernel)) g0_z hc_z
  replace hc_z := rn_getI (v := np) (am_cur_of (i := (106, 3, .getfield 251, (4, 13, 422), 0)) (by decide +kernel)) (by decide +kernel) z1_z hc_z
  replace hc_z := rn_if (am_cur_of (i := (109, 3, .ifCond .le 38, (76, 0, 0), 0)) (by decide +kernel)) hc_z
  rcases hc_z with ⟨b5237_z, hc_z⟩ | ⟨b5237_z, hc_z⟩
  · replace b5237_z : np.toInt ≤ (0 : Int32).toInt := b5237_z
    replace hm_z := rn_iload_n (am_cur_of (i := (178, 1, .iload_n 1, (0, 0, 0), 0)) (by decide +kernel)) g1m hm_z
    replace hm_z := rn_callS (M' := am_m180) (ar := [.int 8]) (rest := []) (L := lv_args 0 [.int 8]) (am_cur_of (i := (179, 3, .invokestatic 283, (180, 1751, 3), 0)) (by decide +kernel)) rfl rfl rfl rfl hm_z
    obtain ⟨r5238_z, h5239_z, q5240_z, hm_z⟩ := hm_z
    obtain ⟨rfl, yq5240_z⟩ := rs_rankM q5240_z
    replace yq5240_z := yq5240_z.symm
    subst yq5240_z
    rw [show rk_M 8 = 4 by decide] at hm_z
    replace hm_z : rn _ _ _ _ [.int 4] _ _ _ := hm_z
    replace hm_z := rn_iconst (w := 4) (am_cur_of (i := (182, 1, .iconst 4, (0, 0, 0), 0)) (by decide +kernel)) (by decide) hm_z
    replace hm_z := rn_cmpF (am_cur_of (i := (183, 3, .if_icmp .ne 34, (110, 0, 0), 0)) (by decide +kernel)) (by decide) hm_z
    replace hm_z := rn_aload_n (am_cur_of (i := (186, 1, .aload_n 0, (0, 0, 0), 0)) (by decide +kernel)) g0m hm_z
    replace hm_z := rn_getI (v := np) (am_cur_of (i := (187, 3, .getfield 280, (12, 41, 1425), 0)) (by decide +kernel)) (by decide +kernel) z2_z hm_z
    replace hm_z := rn_if (am_cur_of (i := (190, 3, .ifCond .le 27, (110, 0, 0), 0)) (by decide +kernel)) hm_z
    rcases hm_z with ⟨b5241_z, hm_z⟩ | ⟨b5241_z, hm_z⟩
    · replace b5241_z : np.toInt ≤ (0 : Int32).toInt := b5241_z
      exact Or.inl (rj_t9_2 R A B Z g0_z g1_z g0m g1m hc_z hm_z)
    · replace b5241_z : (0 : Int32).toInt < np.toInt := b5241_z
      omega
  · replace b5237_z : (0 : Int32).toInt < np.toInt := b5237_z
    replace hc_z := rn_aload_n (am_cur_of (i := (112, 1, .aload_n 0, (0, 0, 0), 0)) (by decide +kernel)) g0_z hc_z
    replace hc_z := rn_getR (x := 47) (am_cur_of (i := (113, 3, .getfield 22, (4, 12, 421), 0)) (by decide +kernel)) (by decide +kernel) hc_z
    replace hc_z := rn_aload_n (am_cur_of (i := (116, 1, .aload_n 0, (0, 0, 0), 0)) (by decide +kernel)) g0_z hc_z
    replace hc_z := rn_getI (v := np) (am_cur_of (i := (117, 3, .getfield 251, (4, 13, 422), 0)) (by decide +kernel)) (by decide +kernel) z1_z hc_z
    replace hc_z := rn_iconst (w := 1) (am_cur_of (i := (120, 1, .iconst 1, (0, 0, 0), 0)) (by decide +kernel)) (by decide) hc_z
    replace hc_z := rn_isub (w := np - 1) (am_cur_of (i := (121, 1, .isub, (0, 0, 0), 0)) (by decide +kernel)) rfl hc_z
    replace hc_z := rn_iaload (N := 72) (q := (np - 1).toNatClampNeg) (v := rg_v h5218_z 47 (np.toNatClampNeg - 1)) (am_cur_of (i := (122, 1, .iaload, (0, 0, 0), 0)) (by decide +kernel)) (by decide +kernel) rfl (by rw [show (np - 1).toNatClampNeg = np.toNatClampNeg - 1 by have := rt_cl (x := np - 1) (by omega); omega]) hc_z
    obtain ⟨p5242_z, hc_z⟩ := hc_z
    replace hc_z := rn_callS (M' := am_m47) (ar := [.int (rg_v h5218_z 47 (np.toNatClampNeg - 1))]) (rest := []) (L := lv_args 0 [.int (rg_v h5218_z 47 (np.toNatClampNeg - 1))]) (am_cur_of (i := (123, 3, .invokestatic 283, (47, 842, 3), 0)) (by decide +kernel)) rfl rfl rfl rfl hc_z
    obtain ⟨r5243_z, h5244_z, q5245_z, hc_z⟩ := hc_z
    obtain ⟨rfl, yq5245_z⟩ := rs_rankC q5245_z
    replace yq5245_z := yq5245_z.symm
    subst yq5245_z
    replace hc_z : rn _ _ _ _ [.int (rk_C (rg_v h5218_z 47 (np.toNatClampNeg - 1)))] _ _ _ := hc_z
    replace hc_z := rn_bipush (w := 6) (am_cur_of (i := (126, 2, .bipush 6, (0, 0, 0), 0)) (by decide +kernel)) (by decide) hc_z
    replace hc_z := rn_callS (M' := am_m47) (ar := [.int 6]) (rest := [.int (rk_C (rg_v h5218_z 47 (np.toNatClampNeg - 1)))]) (L := lv_args 0 [.int 6]) (am_cur_of (i := (128, 3, .invokestatic 283, (47, 842, 3), 0)) (by decide +kernel)) rfl rfl rfl rfl hc_z
    obtain ⟨r5246_z, h5247_z, q5248_z, hc_z⟩ := hc_z
    obtain ⟨rfl, yq5248_z⟩ := rs_rankC q5248_z
    replace yq5248_z := yq5248_z.symm
    subst yq5248_z
    rw [show rk_C 6 = 6 by decide] at hc_z
    replace hc_z : rn _ _ _ _ [.int 6, .int (rk_C (rg_v h5218_z 47 (np.toNatClampNeg - 1)))] _ _ _ := hc_z
    replace hc_z := rn_cmp (am_cur_of (i := (131, 3, .if_icmp .ne 16, (76, 0, 0), 0)) (by decide +kernel)) hc_z
    rcases hc_z with ⟨b5249_z, hc_z⟩ | ⟨b5249_z, hc_z⟩
    · replace b5249_z : ¬ (rk_C (rg_v h5218_z 47 (np.toNatClampNeg - 1))) = (6 : Int32) ∧ ¬ (rk_C (rg_v h5218_z 47 (np.toNatClampNeg - 1))).toInt = (6 : Int32).toInt := b5249_z
      replace hm_z := rn_iload_n (am_cur_of (i := (178, 1, .iload_n 1, (0, 0, 0), 0)) (by decide +kernel)) g1m hm_z
      replace hm_z := rn_callS (M' := am_m180) (ar := [.int 8]) (rest := []) (L := lv_args 0 [.int 8]) (am_cur_of (i := (179, 3, .invokestatic 283, (180, 1751, 3), 0)) (by decide +kernel)) rfl rfl rfl rfl hm_z
      obtain ⟨r5250_z, h5251_z, q5252_z, hm_z⟩ := hm_z
      obtain ⟨rfl, yq5252_z⟩ := rs_rankM q5252_z
      replace yq5252_z := yq5252_z.symm
      subst yq5252_z
      rw [show rk_M 8 = 4 by decide] at hm_z
      replace hm_z : rn _ _ _ _ [.int 4] _ _ _ := hm_z
      replace hm_z := rn_iconst (w := 4) (am_cur_of (i := (182, 1, .iconst 4, (0, 0, 0), 0)) (by decide +kernel)) (by decide) hm_z
      replace hm_z := rn_cmpF (am_cur_of (i := (183, 3, .if_icmp .ne 34, (110, 0, 0), 0)) (by decide +kernel)) (by decide) hm_z
      replace hm_z := rn_aload_n (am_cur_of (i := (186, 1, .aload_n 0, (0, 0, 0), 0)) (by decide +kernel)) g0m hm_z
      replace hm_z := rn_getI (v := np) (am_cur_of (i := (187, 3, .getfield 280, (12, 41, 1425), 0)) (by decide +kernel)) (by decide +kernel) z2_z hm_z
      replace hm_z := rn_if (am_cur_of (i := (190, 3, .ifCond .le 27, (110, 0, 0), 0)) (by decide +kernel)) hm_z
      rcases hm_z with ⟨b5253_z, hm_z⟩ | ⟨b5253_z, hm_z⟩
      · replace b5253_z : np.toInt ≤ (0 : Int32).toInt := b5253_z
        omega
      · replace b5253_z : (0 : Int32).toInt < np.toInt := b5253_z
        replace hm_z := rn_aload_n (am_cur_of (i := (193, 1, .aload_n 0, (0, 0, 0), 0)) (by decide +kernel)) g0m hm_z
        replace hm_z := rn_getR (x := 184) (am_cur_of (i := (194, 3, .getfield 72, (12, 39, 1423), 0)) (by decide +kernel)) (by decide +kernel) hm_z
        replace hm_z := rn_aload_n (am_cur_of (i := (197, 1, .aload_n 0, (0, 0, 0), 0)) (by decide +kernel)) g0m hm_z
        replace hm_z := rn_getI (v := np) (am_cur_of (i := (198, 3, .getfield 280, (12, 41, 1425), 0)) (by decide +kernel)) (by decide +kernel) z2_z hm_z
        replace hm_z := rn_iconst (w := 1) (am_cur_of (i := (201, 1, .iconst 1, (0, 0, 0), 0)) (by decide +kernel)) (by decide) hm_z
        replace hm_z := rn_isub (w := np - 1) (am_cur_of (i := (202, 1, .isub, (0, 0, 0), 0)) (by decide +kernel)) rfl hm_z
        replace hm_z := rn_iaload (N := 96) (q := (np - 1).toNatClampNeg) (v := rg_v h5235_z 184 (np.toNatClampNeg - 1)) (am_cur_of (i := (203, 1, .iaload, (0, 0, 0), 0)) (by decide +kernel)) (by decide +kernel) rfl (by rw [show (np - 1).toNatClampNeg = np.toNatClampNeg - 1 by have := rt_cl (x := np - 1) (by omega); omega]) hm_z
        obtain ⟨p5254_z, hm_z⟩ := hm_z
        replace hm_z := rn_callS (M' := am_m180) (ar := [.int (rg_v h5235_z 184 (np.toNatClampNeg - 1))]) (rest := []) (L := lv_args 0 [.int (rg_v h5235_z 184 (np.toNatClampNeg - 1))]) (am_cur_of (i := (204, 3, .invokestatic 283, (180, 1751, 3), 0)) (by decide +kernel)) rfl rfl rfl rfl hm_z
        obtain ⟨r5255_z, h5256_z, q5257_z, hm_z⟩ := hm_z
        obtain ⟨rfl, yq5257_z⟩ := rs_rankM q5257_z
        replace yq5257_z := yq5257_z.symm
        subst yq5257_z
        replace hm_z : rn _ _ _ _ [.int (rk_M (rg_v h5235_z 184 (np.toNatClampNeg - 1)))] _ _ _ := hm_z
        replace hm_z := rn_iconst (w := 4) (am_cur_of (i := (207, 1, .iconst 4, (0, 0, 0), 0)) (by decide +kernel)) (by decide) hm_z
        replace hm_z := rn_cmp (am_cur_of (i := (208, 3, .if_icmp .ne 9, (110, 0, 0), 0)) (by decide +kernel)) hm_z
        rcases hm_z with ⟨b5258_z, hm_z⟩ | ⟨b5258_z, hm_z⟩
        · replace b5258_z : ¬ (rk_M (rg_v h5235_z 184 (np.toNatClampNeg - 1))) = (4 : Int32) ∧ ¬ (rk_M (rg_v h5235_z 184 (np.toNatClampNeg - 1))).toInt = (4 : Int32).toInt := b5258_z
          exact Or.inl (rj_t9_2 R A B Z g0_z g1_z g0m g1m hc_z hm_z)
        · replace b5258_z : (rk_M (rg_v h5235_z 184 (np.toNatClampNeg - 1))) = (4 : Int32) ∧ (rk_M (rg_v h5235_z 184 (np.toNatClampNeg - 1))).toInt = (4 : Int32).toInt := b5258_z
          exact absurd b5258_z.2 (fun q4_z => b5249_z.2 ((rs_o64 (z9_z (np.toNatClampNeg - 1) (by omega))).mpr (q4_z.trans (by decide))))
    · replace b5249_z : (rk_C (rg_v h5218_z 47 (np.toNatClampNeg - 1))) = (6 : Int32) ∧ (rk_C (rg_v h5218_z 47 (np.toNatClampNeg - 1))).toInt = (6 : Int32).toInt := b5249_z
      replace hc_z := rn_aload_n (am_cur_of (i := (134, 1, .aload_n 0, (0, 0, 0), 0)) (by decide +kernel)) g0_z hc_z
      replace hc_z := rn_iconst (w := 1) (am_cur_of (i := (135, 1, .iconst 1, (0, 0, 0), 0)) (by decide +kernel)) (by decide) hc_z
      replace hc_z := rn_callV (M' := am_m29) (o := 44) (ar := [.int 1]) (rest := []) (L := lv_args 0 [.ref 44, .int 1]) (am_cur_of (i := (136, 3, .invokevirtual 108, (29, 769, 3), 0)) (by decide +kernel)) rfl rfl rfl rfl hc_z
      obtain ⟨r5259_z, h5260_z, q5261_z, hc_z⟩ := hc_z
      obtain ⟨rfl, yq5261_z⟩ := rp_fail R.2.2.2.1 q5261_z
      subst yq5261_z
      replace hc_z : rn _ _ _ _ [] _ _ _ := hc_z
      have K := rs_stick (w := 1) (q := p) (a := 44) (by decide) (by decide) rfl (by decide) rfl (show rg_v (am_up (am_up h5218_z 44 1 (.int 1)) 44 2 (.int (rg_v h5218_z 44 9))) 44 2 = p from R.2.2.2.2.1) hc_z
      replace hm_z := rn_iload_n (am_cur_of (i := (178, 1, .iload_n 1, (0, 0, 0), 0)) (by decide +kernel)) g1m hm_z
      replace hm_z := rn_callS (M' := am_m180) (ar := [.int 8]) (rest := []) (L := lv_args 0 [.int 8]) (am_cur_of (i := (179, 3, .invokestatic 283, (180, 1751, 3), 0)) (by decide +kernel)) rfl rfl rfl rfl hm_z
      obtain ⟨r5262_z, h5263_z, q5264_z, hm_z⟩ := hm_z
      obtain ⟨rfl, yq5264_z⟩ := rs_rankM q5264_z
      replace yq5264_z := yq5264_z.symm
      subst yq5264_z
      rw [show rk_M 8 = 4 by decide] at hm_z
      replace hm_z : rn _ _ _ _ [.int 4] _ _ _ := hm_z
      replace hm_z := rn_iconst (w := 4) (am_cur_of (i := (182, 1, .iconst 4, (0, 0, 0), 0)) (by decide +kernel)) (by decide) hm_z
      replace hm_z := rn_cmpF (am_cur_of (i := (183, 3, .if_icmp .ne 34, (110, 0, 0), 0)) (by decide +kernel)) (by decide) hm_z
      replace hm_z := rn_aload_n (am_cur_of (i := (186, 1, .aload_n 0, (0, 0, 0), 0)) (by decide +kernel)) g0m hm_z
      replace hm_z := rn_getI (v := np) (am_cur_of (i := (187, 3, .getfield 280, (12, 41, 1425), 0)) (by decide +kernel)) (by decide +kernel) z2_z hm_z
      replace hm_z := rn_if (am_cur_of (i := (190, 3, .ifCond .le 27, (110, 0, 0), 0)) (by decide +kernel)) hm_z
      rcases hm_z with ⟨b5265_z, hm_z⟩ | ⟨b5265_z, hm_z⟩
      · replace b5265_z : np.toInt ≤ (0 : Int32).toInt := b5265_z
        omega
      · replace b5265_z : (0 : Int32).toInt < np.toInt := b5265_z
        replace hm_z := rn_aload_n (am_cur_of (i := (193, 1, .aload_n 0, (0, 0, 0), 0)) (by decide +kernel)) g0m hm_z
        replace hm_z := rn_getR (x := 184) (am_cur_of (i := (194, 3, .getfield 72, (12, 39, 1423), 0)) (by decide +kernel)) (by decide +kernel) hm_z
        replace hm_z := rn_aload_n (am_cur_of (i := (197, 1, .aload_n 0, (0, 0, 0), 0)) (by decide +kernel)) g0m hm_z
        replace hm_z := rn_getI (v := np) (am_cur_of (i := (198, 3, .getfield 280, (12, 41, 1425), 0)) (by decide +kernel)) (by decide +kernel) z2_z hm_z
        replace hm_z := rn_iconst (w := 1) (am_cur_of (i := (201, 1, .iconst 1, (0, 0, 0), 0)) (by decide +kernel)) (by decide) hm_z
        replace hm_z := rn_isub (w := np - 1) (am_cur_of (i := (202, 1, .isub, (0, 0, 0), 0)) (by decide +kernel)) rfl hm_z
        replace hm_z := rn_iaload (N := 96) (q := (np - 1).toNatClampNeg) (v := rg_v h5235_z 184 (np.toNatClampNeg - 1)) (am_cur_of (i := (203, 1, .iaload, (0, 0, 0), 0)) (by decide +kernel)) (by decide +kernel) rfl (by rw [show (np - 1).toNatClampNeg = np.toNatClampNeg - 1 by have := rt_cl (x := np - 1) (by omega); omega]) hm_z
        obtain ⟨p5266_z, hm_z⟩ := hm_z
        replace hm_z := rn_callS (M' := am_m180) (ar := [.int (rg_v h5235_z 184 (np.toNatClampNeg - 1))]) (rest := []) (L := lv_args 0 [.int (rg_v h5235_z 184 (np.toNatClampNeg - 1))]) (am_cur_of (i := (204, 3, .invokestatic 283, (180, 1751, 3), 0)) (by decide +kernel)) rfl rfl rfl rfl hm_z
        obtain ⟨r5267_z, h5268_z, q5269_z, hm_z⟩ := hm_z
        obtain ⟨rfl, yq5269_z⟩ := rs_rankM q5269_z
        replace yq5269_z := yq5269_z.symm
        subst yq5269_z
        replace hm_z : rn _ _ _ _ [.int (rk_M (rg_v h5235_z 184 (np.toNatClampNeg - 1)))] _ _ _ := hm_z
        replace hm_z := rn_iconst (w := 4) (am_cur_of (i := (207, 1, .iconst 4, (0, 0, 0), 0)) (by decide +kernel)) (by decide) hm_z
        replace hm_z := rn_cmp (am_cur_of (i := (208, 3, .if_icmp .ne 9, (110, 0, 0), 0)) (by decide +kernel)) hm_z
        rcases hm_z with ⟨b5270_z, hm_z⟩ | ⟨b5270_z, hm_z⟩
        · replace b5270_z : ¬ (rk_M (rg_v h5235_z 184 (np.toNatClampNeg - 1))) = (4 : Int32) ∧ ¬ (rk_M (rg_v h5235_z 184 (np.toNatClampNeg - 1))).toInt = (4 : Int32).toInt := b5270_z
          exact absurd ((rs_o64 (z9_z (np.toNatClampNeg - 1) (by omega))).mp (b5249_z.2.trans (by decide))) (fun q4_z => b5270_z.2 (q4_z.trans (by decide)))
        · replace b5270_z : (rk_M (rg_v h5235_z 184 (np.toNatClampNeg - 1))) = (4 : Int32) ∧ (rk_M (rg_v h5235_z 184 (np.toNatClampNeg - 1))).toInt = (4 : Int32).toInt := b5270_z
          replace hm_z := rn_aload_n (am_cur_of (i := (211, 1, .aload_n 0, (0, 0, 0), 0)) (by decide +kernel)) g0m hm_z
          replace hm_z := rn_iconst (w := 1) (am_cur_of (i := (212, 1, .iconst 1, (0, 0, 0), 0)) (by decide +kernel)) (by decide) hm_z
          replace hm_z := rn_callV (M' := am_m158) (o := 164) (ar := [.int 1]) (rest := []) (L := lv_args 0 [.ref 164, .int 1]) (am_cur_of (i := (213, 3, .invokevirtual 181, (158, 1665, 3), 0)) (by decide +kernel)) rfl rfl rfl rfl hm_z
          obtain ⟨r5271_z, h5272_z, q5273_z, hm_z⟩ := hm_z
          obtain ⟨rfl, yq5273_z⟩ := rp_wrong q5273_z
          subst yq5273_z
          replace hm_z : rn _ _ _ _ [.int 0] _ _ _ := hm_z
          replace hm_z := rn_iret (am_cur_of (i := (216, 1, .ireturn, (0, 0, 0), 0)) (by decide +kernel)) hm_z
          obtain ⟨e5274_z, e5275_z⟩ := hm_z
          subst e5274_z e5275_z
          exact Or.inl (Or.inr ⟨rfl, 1, by decide, K.1, K.2, rfl, R.2.2.2.2.2.1⟩)
theorem rj_c22_2 {T : Nat → Int32} {S x p : Int32} {n n' : Nat} {h h' g g' : am_H} {r r' : Option Value} (R : rq T S x p 2 h g) (A : rp 2 h g) (B : rp_t h g) (Z : rs 2 h g) (w0_z : rg_v g 164 45 = 0) (ka : (rg_v h 44 10) = 6) (kc : (rg_v g 164 8) = 5) (kb : (rg_v h 44 11) = 10) (kd : (rg_v g 164 9) = 4) (hc_z : rn n am_m44 0 (lv_args 0 [.ref 44]) [] h r h') (hm_z : rn n' am_m178 0 (lv_args 0 [.ref 164]) [] g r' g') : rj_Q T S x p 2 h g h' g' r r' := by
  have z0_z : (0 : Int32).toInt = 0 := by decide
  have z4_z : (4 : Int32).toInt = 4 := by decide
  have z6_z : (6 : Int32).toInt = 6 := by decide
  have g0_z : am_get (lv_args 0 [.ref 44]) 0 = some (.ref 44) := rfl
  have g0m : am_get (lv_args 0 [.ref 164]) 0 = some (.ref 164) := rfl
  have Rk := R
  have Zk := Z
  obtain ⟨⟨c1_z, c2_z, c3_z, c4_z, c5_z, c6_z, c7_z, c8_z⟩, ⟨m2_z, m3_z, m4_z, m5_z, m6_z, m7_z, m8_z⟩, R3, R4, R5, R6, R7, R8, R9, R10⟩ := (R : rq T S x p 2 h g)
  obtain ⟨np, op, z1_z, z2_z, z3_z, z4_z, z5_z, z6_z, z7_z, z8_z, z9_z, z10_z⟩ := (Z : rs 2 h g)
  obtain ⟨nk1_z, nk2_z, nk3_z⟩ := A.2.2.2.2.2.1
  replace nk1_z : rg_v h 11 0 = rg_v g 164 44 := nk1_z
  replace nk2_z : 0 ≤ (rg_v h 11 0).toInt := nk2_z
  replace nk3_z : (rg_v h 11 0).toInt ≤ 64 := nk3_z
  replace z8_z : np.toInt ≤ (rg_v h 11 0).toInt + op.toInt := z8_z
  obtain ⟨kn, ekn⟩ : ∃ v, rg_v h 11 0 = v := ⟨_, rfl⟩
  rw [ekn] at nk1_z nk2_z nk3_z z8_z
  have e9_z := rt_c1 (x := kn) (by omega) (by omega)
  replace hc_z := rn_aload_n (am_cur_of (i := (0, 1, .aload_n 0, (0, 0, 0), 0)) (by decide +kernel)) g0_z hc_z
  replace hc_z := rn_bipush (w := 41) (am_cur_of (i := (1, 2, .bipush 41, (0, 0, 0), 0)) (by decide +kernel)) (by decide) hc_z
  replace hc_z := rn_callV (M' := am_m45) (o := 44) (ar := [.int 41]) (rest := []) (L := lv_args 0 [.ref 44, .int 41]) (am_cur_of (i := (3, 3, .invokevirtual 105, (45, 834, 3), 0)) (by decide +kernel)) rfl rfl rfl rfl hc_z
  obtain ⟨r5276_z, h5277_z, q5278_z, hc_z⟩ := hc_z
  obtain ⟨rfl, yq5278_z⟩ := rp_mkN (fun q => absurd (Eq.trans (Eq.symm ka) q.1) (by decide)) q5278_z
  subst yq5278_z
  replace hc_z : rn _ _ _ _ [.int 0] _ _ _ := hc_z
  replace hc_z := rn_ifT (am_cur_of (i := (6, 3, .ifCond .eq 45, (28, 0, 0), 0)) (by decide +kernel)) (by decide) hc_z
  replace hc_z := rn_aload_n (am_cur_of (i := (51, 1, .aload_n 0, (0, 0, 0), 0)) (by decide +kernel)) g0_z hc_z
  replace hc_z := rn_getI (v := 6) (am_cur_of (i := (52, 3, .getfield 60, (4, 10, 419), 0)) (by decide +kernel)) (by decide +kernel) ka hc_z
  replace hc_z := rn_bipush (w := 6) (am_cur_of (i := (55, 2, .bipush 6, (0, 0, 0), 0)) (by decide +kernel)) (by decide) hc_z
  replace hc_z := rn_cmpF (am_cur_of (i := (57, 3, .if_icmp .ne 11, (36, 0, 0), 0)) (by decide +kernel)) (by decide) hc_z
  replace hc_z := rn_aload_n (am_cur_of (i := (60, 1, .aload_n 0, (0, 0, 0), 0)) (by decide +kernel)) g0_z hc_z
  replace hc_z := rn_getI (v := 10) (am_cur_of (i := (61, 3, .getfield 91, (4, 11, 420), 0)) (by decide +kernel)) (by decide +kernel) kb hc_z
  replace hc_z := rn_iconst (w := 5) (am_cur_of (i := (64, 1, .iconst 5, (0, 0, 0), 0)) (by decide +kernel)) (by decide) hc_z
  replace hc_z := rn_cmpT (am_cur_of (i := (65, 3, .if_icmp .ne 17, (44, 0, 0), 0)) (by decide +kernel)) (by decide) hc_z
  replace hc_z := rn_aload_n (am_cur_of (i := (82, 1, .aload_n 0, (0, 0, 0), 0)) (by decide +kernel)) g0_z hc_z
  replace hc_z := rn_getI (v := 10) (am_cur_of (i := (83, 3, .getfield 91, (4, 11, 420), 0)) (by decide +kernel)) (by decide +kernel) kb hc_z
  replace hc_z := rn_istore_n (am_cur_of (i := (86, 1, .istore_n 1, (0, 0, 0), 0)) (by decide +kernel)) hc_z
  obtain ⟨_, s5279_z, s5280_z, g1_z, hc_z⟩ := hc_z
  replace g0_z := s5279_z 0 _ (by decide) rfl g0_z
  clear s5279_z s5280_z
  replace hc_z := rn_iload_n (am_cur_of (i := (87, 1, .iload_n 1, (0, 0, 0), 0)) (by decide +kernel)) g1_z hc_z
  replace hc_z := rn_callS (M' := am_m47) (ar := [.int 10]) (rest := []) (L := lv_args 0 [.int 10]) (am_cur_of (i := (88, 3, .invokestatic 283, (47, 842, 3), 0)) (by decide +kernel)) rfl rfl rfl rfl hc_z
  obtain ⟨r5281_z, h5282_z, q5283_z, hc_z⟩ := hc_z
  obtain ⟨rfl, yq5283_z⟩ := rs_rankC q5283_z
  replace yq5283_z := yq5283_z.symm
  subst yq5283_z
  rw [show rk_C 10 = 6 by decide] at hc_z
  replace hc_z : rn _ _ _ _ [.int 6] _ _ _ := hc_z
  replace hc_z := rn_bipush (w := 6) (am_cur_of (i := (91, 2, .bipush 6, (0, 0, 0), 0)) (by decide +kernel)) (by decide) hc_z
  replace hc_z := rn_callS (M' := am_m47) (ar := [.int 6]) (rest := [.int 6]) (L := lv_args 0 [.int 6]) (am_cur_of (i := (93, 3, .invokestatic 283, (47, 842, 3), 0)) (by decide +kernel)) rfl rfl rfl rfl hc_z
  obtain ⟨r5284_z, h5285_z, q5286_z, hc_z⟩ := hc_z
  obtain ⟨rfl, yq5286_z⟩ := rs_rankC q5286_z
  replace yq5286_z := yq5286_z.symm
  subst yq5286_z
  rw [show rk_C 6 = 6 by decide] at hc_z
  replace hc_z : rn _ _ _ _ [.int 6, .int 6] _ _ _ := hc_z
  replace hc_z := rn_cmpF (am_cur_of (i := (96, 3, .if_icmp .ne 46, (73, 0, 0), 0)) (by decide +kernel)) (by decide) hc_z
  replace hc_z := rn_aload_n (am_cur_of (i := (99, 1, .aload_n 0, (0, 0, 0), 0)) (by decide +kernel)) g0_z hc_z
  replace hc_z := rn_bipush (w := 12) (am_cur_of (i := (100, 2, .bipush 12, (0, 0, 0), 0)) (by decide +kernel)) (by decide) hc_z
  replace hc_z := rn_callV (M' := am_m46) (o := 44) (ar := [.int 12]) (rest := []) (L := lv_args 0 [.ref 44, .int 12]) (am_cur_of (i := (102, 3, .invokevirtual 264, (46, 838, 3), 0)) (by decide +kernel)) rfl rfl rfl rfl hc_z
  obtain ⟨r5287_z, h5288_z, q5289_z, hc_z⟩ := hc_z
  replace hm_z := rn_aload_n (am_cur_of (i := (0, 1, .aload_n 0, (0, 0, 0), 0)) (by decide +kernel)) g0m hm_z
  replace hm_z := rn_bipush (w := 41) (am_cur_of (i := (1, 2, .bipush 41, (0, 0, 0), 0)) (by decide +kernel)) (by decide) hm_z
  replace hm_z := rn_callV (M' := am_m171) (o := 164) (ar := [.int 41]) (rest := []) (L := lv_args 0 [.ref 164, .int 41]) (am_cur_of (i := (3, 3, .invokevirtual 194, (171, 1715, 3), 0)) (by decide +kernel)) rfl rfl rfl rfl hm_z
  obtain ⟨r5290_z, h5291_z, q5292_z, hm_z⟩ := hm_z
  obtain ⟨rfl, yq5292_z⟩ := rp_sgN (fun q => absurd (Eq.trans (Eq.symm kc) q.1) (by decide)) q5292_z
  subst yq5292_z
  replace hm_z : rn _ _ _ _ [.int 0] _ _ _ := hm_z
  replace hm_z := rn_ifT (am_cur_of (i := (6, 3, .ifCond .eq 41, (26, 0, 0), 0)) (by decide +kernel)) (by decide) hm_z
  replace hm_z := rn_aload_n (am_cur_of (i := (47, 1, .aload_n 0, (0, 0, 0), 0)) (by decide +kernel)) g0m hm_z
  replace hm_z := rn_bipush (w := 12) (am_cur_of (i := (48, 2, .bipush 12, (0, 0, 0), 0)) (by decide +kernel)) (by decide) hm_z
  replace hm_z := rn_callV (M' := am_m174) (o := 164) (ar := [.int 12]) (rest := []) (L := lv_args 0 [.ref 164, .int 12]) (am_cur_of (i := (50, 3, .invokevirtual 306, (174, 1727, 3), 0)) (by decide +kernel)) rfl rfl rfl rfl hm_z
  obtain ⟨r5293_z, h5294_z, q5295_z, hm_z⟩ := hm_z
  obtain ⟨rfl, yq5295_z⟩ := rp_kyN (fun q => absurd (Eq.trans (Eq.symm kc) q.1) (by decide)) q5295_z
  subst yq5295_z
  replace hm_z : rn _ _ _ _ [.int 0] _ _ _ := hm_z
  replace hm_z := rn_ifT (am_cur_of (i := (53, 3, .ifCond .eq 7, (32, 0, 0), 0)) (by decide +kernel)) (by decide) hm_z
  replace hm_z := rn_aload_n (am_cur_of (i := (60, 1, .aload_n 0, (0, 0, 0), 0)) (by decide +kernel)) g0m hm_z
  replace hm_z := rn_bipush (w := 13) (am_cur_of (i := (61, 2, .bipush 13, (0, 0, 0), 0)) (by decide +kernel)) (by decide) hm_z
  replace hm_z := rn_callV (M' := am_m174) (o := 164) (ar := [.int 13]) (rest := []) (L := lv_args 0 [.ref 164, .int 13]) (am_cur_of (i := (63, 3, .invokevirtual 306, (174, 1727, 3), 0)) (by decide +kernel)) rfl rfl rfl rfl hm_z
  obtain ⟨r5296_z, h5297_z, q5298_z, hm_z⟩ := hm_z
  obtain ⟨rfl, yq5298_z⟩ := rp_kyN (fun q => absurd (Eq.trans (Eq.symm kc) q.1) (by decide)) q5298_z
  subst yq5298_z
  replace hm_z : rn _ _ _ _ [.int 0] _ _ _ := hm_z
  replace hm_z := rn_ifT (am_cur_of (i := (66, 3, .ifCond .eq 7, (38, 0, 0), 0)) (by decide +kernel)) (by decide) hm_z
  replace hm_z := rn_aload_n (am_cur_of (i := (73, 1, .aload_n 0, (0, 0, 0), 0)) (by decide +kernel)) g0m hm_z
  replace hm_z := rn_getI (v := 5) (am_cur_of (i := (74, 3, .getfield 157, (12, 8, 1392), 0)) (by decide +kernel)) (by decide +kernel) kc hm_z
  replace hm_z := rn_iconst (w := 5) (am_cur_of (i := (77, 1, .iconst 5, (0, 0, 0), 0)) (by decide +kernel)) (by decide) hm_z
  replace hm_z := rn_cmpF (am_cur_of (i := (78, 3, .if_icmp .ne 12, (47, 0, 0), 0)) (by decide +kernel)) (by decide) hm_z
  replace hm_z := rn_iconst (w := 5) (am_cur_of (i := (81, 1, .iconst 5, (0, 0, 0), 0)) (by decide +kernel)) (by decide) hm_z
  replace hm_z := rn_aload_n (am_cur_of (i := (82, 1, .aload_n 0, (0, 0, 0), 0)) (by decide +kernel)) g0m hm_z
  replace hm_z := rn_getI (v := 4) (am_cur_of (i := (83, 3, .getfield 168, (12, 9, 1393), 0)) (by decide +kernel)) (by decide +kernel) kd hm_z
  replace hm_z := rn_iadd (w := 9) (am_cur_of (i := (86, 1, .iadd, (0, 0, 0), 0)) (by decide +kernel)) (by decide) hm_z
  replace hm_z := rn_goto (am_cur_of (i := (87, 3, .goto 60, (72, 0, 0), 0)) (by decide +kernel)) hm_z
  replace hm_z := rn_istore_n (am_cur_of (i := (147, 1, .istore_n 1, (0, 0, 0), 0)) (by decide +kernel)) hm_z
  obtain ⟨_, s5299_z, s5300_z, g1m, hm_z⟩ := hm_z
  replace g0m := s5299_z 0 _ (by decide) rfl g0m
  clear s5299_z s5300_z
  replace hm_z := rn_iload_n (am_cur_of (i := (148, 1, .iload_n 1, (0, 0, 0), 0)) (by decide +kernel)) g1m hm_z
  replace hm_z := rn_ifT (am_cur_of (i := (149, 3, .ifCond .ne 9, (79, 0, 0), 0)) (by decide +kernel)) (by decide) hm_z
  replace hm_z := rn_aload_n (am_cur_of (i := (158, 1, .aload_n 0, (0, 0, 0), 0)) (by decide +kernel)) g0m hm_z
  replace hm_z := rn_iload_n (am_cur_of (i := (159, 1, .iload_n 1, (0, 0, 0), 0)) (by decide +kernel)) g1m hm_z
  replace hm_z := rn_callS (M' := am_m180) (ar := [.int 9]) (rest := [.ref 164]) (L := lv_args 0 [.int 9]) (am_cur_of (i := (160, 3, .invokestatic 283, (180, 1751, 3), 0)) (by decide +kernel)) rfl rfl rfl rfl hm_z
  obtain ⟨r5301_z, h5302_z, q5303_z, hm_z⟩ := hm_z
  obtain ⟨rfl, yq5303_z⟩ := rs_rankM q5303_z
  replace yq5303_z := yq5303_z.symm
  subst yq5303_z
  rw [show rk_M 9 = 4 by decide] at hm_z
  replace hm_z : rn _ _ _ _ [.int 4, .ref 164] _ _ _ := hm_z
  replace hm_z := rn_iconst (w := 4) (am_cur_of (i := (163, 1, .iconst 4, (0, 0, 0), 0)) (by decide +kernel)) (by decide) hm_z
  replace hm_z := rn_cmpF (am_cur_of (i := (164, 3, .if_icmp .ne 7, (86, 0, 0), 0)) (by decide +kernel)) (by decide) hm_z
  replace hm_z := rn_iconst (w := 5) (am_cur_of (i := (167, 1, .iconst 5, (0, 0, 0), 0)) (by decide +kernel)) (by decide) hm_z
  replace hm_z := rn_goto (am_cur_of (i := (168, 3, .goto 7, (88, 0, 0), 0)) (by decide +kernel)) hm_z
  replace hm_z := rn_callV (M' := am_m179) (o := 164) (ar := [.int 5]) (rest := []) (L := lv_args 0 [.ref 164, .int 5]) (am_cur_of (i := (175, 3, .invokevirtual 318, (179, 1747, 3), 0)) (by decide +kernel)) rfl rfl rfl rfl hm_z
  obtain ⟨r5304_z, h5305_z, q5306_z, hm_z⟩ := hm_z
  obtain ⟨rfl, rfl, FC, FM, R, A, B, Z, nq, e13_z, hst⟩ := rz_set2 rs_l12 (by decide) Rk A B Zk q5289_z q5306_z
  have Zq := Z
  obtain ⟨np, op, z1_z, z2_z, z3_z, z4_z, z5_z, z6_z, z7_z, z8_z, z9_z, z10_z⟩ := Zq
  obtain rfl : np = nq := z1_z.symm.trans e13_z
  replace hm_z : rn _ _ _ _ [] _ _ _ := hm_z
  replace hc_z : rn _ _ _ _ [] _ _ _ := hc_z
  have cn := rt_cl z3_z
  have zz1_z : (1 : Int32).toInt = 1 := by decide
  have n31_z := (ab_32 np).2
  have y1_z := ab_isub (x := np) (y := 1) (by omega) (by omega)
  replace hc_z := rn_aload_n (am_cur_of (i := (105, 1, .aload_n 0, (0, 0, 0), 0)) (by decide +kernel)) g0_z hc_z
  replace hc_z := rn_getI (v := np) (am_cur_of (i := (106, 3, .getfield 251, (4, 13, 422), 0)) (by decide +kernel)) (by decide +kernel) z1_z hc_z
  replace hc_z := rn_if (am_cur_of (i := (109, 3, .ifCond .le 38, (76, 0, 0), 0)) (by decide +kernel)) hc_z
  rcases hc_z with ⟨b5307_z, hc_z⟩ | ⟨b5307_z, hc_z⟩
  · replace b5307_z : np.toInt ≤ (0 : Int32).toInt := b5307_z
    replace hm_z := rn_iload_n (am_cur_of (i := (178, 1, .iload_n 1, (0, 0, 0), 0)) (by decide +kernel)) g1m hm_z
    replace hm_z := rn_callS (M' := am_m180) (ar := [.int 9]) (rest := []) (L := lv_args 0 [.int 9]) (am_cur_of (i := (179, 3, .invokestatic 283, (180, 1751, 3), 0)) (by decide +kernel)) rfl rfl rfl rfl hm_z
    obtain ⟨r5308_z, h5309_z, q5310_z, hm_z⟩ := hm_z
    obtain ⟨rfl, yq5310_z⟩ := rs_rankM q5310_z
    replace yq5310_z := yq5310_z.symm
    subst yq5310_z
    rw [show rk_M 9 = 4 by decide] at hm_z
    replace hm_z : rn _ _ _ _ [.int 4] _ _ _ := hm_z
    replace hm_z := rn_iconst (w := 4) (am_cur_of (i := (182, 1, .iconst 4, (0, 0, 0), 0)) (by decide +kernel)) (by decide) hm_z
    replace hm_z := rn_cmpF (am_cur_of (i := (183, 3, .if_icmp .ne 34, (110, 0, 0), 0)) (by decide +kernel)) (by decide) hm_z
    replace hm_z := rn_aload_n (am_cur_of (i := (186, 1, .aload_n 0, (0, 0, 0), 0)) (by decide +kernel)) g0m hm_z
    replace hm_z := rn_getI (v := np) (am_cur_of (i := (187, 3, .getfield 280, (12, 41, 1425), 0)) (by decide +kernel)) (by decide +kernel) z2_z hm_z
    replace hm_z := rn_if (am_cur_of (i := (190, 3, .ifCond .le 27, (110, 0, 0), 0)) (by decide +kernel)) hm_z
    rcases hm_z with ⟨b5311_z, hm_z⟩ | ⟨b5311_z, hm_z⟩
    · replace b5311_z : np.toInt ≤ (0 : Int32).toInt := b5311_z
      exact Or.inl (rj_t10_2 R A B Z g0_z g1_z g0m g1m hc_z hm_z)
    · replace b5311_z : (0 : Int32).toInt < np.toInt := b5311_z
      omega
  · replace b5307_z : (0 : Int32).toInt < np.toInt := b5307_z
    replace hc_z := rn_aload_n (am_cur_of (i := (112, 1, .aload_n 0, (0, 0, 0), 0)) (by decide +kernel)) g0_z hc_z
    replace hc_z := rn_getR (x := 47) (am_cur_of (i := (113, 3, .getfield 22, (4, 12, 421), 0)) (by decide +kernel)) (by decide +kernel) hc_z
    replace hc_z := rn_aload_n (am_cur_of (i := (116, 1, .aload_n 0, (0, 0, 0), 0)) (by decide +kernel)) g0_z hc_z
    replace hc_z := rn_getI (v := np) (am_cur_of (i := (117, 3, .getfield 251, (4, 13, 422), 0)) (by decide +kernel)) (by decide +kernel) z1_z hc_z
    replace hc_z := rn_iconst (w := 1) (am_cur_of (i := (120, 1, .iconst 1, (0, 0, 0), 0)) (by decide +kernel)) (by decide) hc_z
    replace hc_z := rn_isub (w := np - 1) (am_cur_of (i := (121, 1, .isub, (0, 0, 0), 0)) (by decide +kernel)) rfl hc_z
    replace hc_z := rn_iaload (N := 72) (q := (np - 1).toNatClampNeg) (v := rg_v h5288_z 47 (np.toNatClampNeg - 1)) (am_cur_of (i := (122, 1, .iaload, (0, 0, 0), 0)) (by decide +kernel)) (by decide +kernel) rfl (by rw [show (np - 1).toNatClampNeg = np.toNatClampNeg - 1 by have := rt_cl (x := np - 1) (by omega); omega]) hc_z
    obtain ⟨p5312_z, hc_z⟩ := hc_z
    replace hc_z := rn_callS (M' := am_m47) (ar := [.int (rg_v h5288_z 47 (np.toNatClampNeg - 1))]) (rest := []) (L := lv_args 0 [.int (rg_v h5288_z 47 (np.toNatClampNeg - 1))]) (am_cur_of (i := (123, 3, .invokestatic 283, (47, 842, 3), 0)) (by decide +kernel)) rfl rfl rfl rfl hc_z
    obtain ⟨r5313_z, h5314_z, q5315_z, hc_z⟩ := hc_z
    obtain ⟨rfl, yq5315_z⟩ := rs_rankC q5315_z
    replace yq5315_z := yq5315_z.symm
    subst yq5315_z
    replace hc_z : rn _ _ _ _ [.int (rk_C (rg_v h5288_z 47 (np.toNatClampNeg - 1)))] _ _ _ := hc_z
    replace hc_z := rn_bipush (w := 6) (am_cur_of (i := (126, 2, .bipush 6, (0, 0, 0), 0)) (by decide +kernel)) (by decide) hc_z
    replace hc_z := rn_callS (M' := am_m47) (ar := [.int 6]) (rest := [.int (rk_C (rg_v h5288_z 47 (np.toNatClampNeg - 1)))]) (L := lv_args 0 [.int 6]) (am_cur_of (i := (128, 3, .invokestatic 283, (47, 842, 3), 0)) (by decide +kernel)) rfl rfl rfl rfl hc_z
    obtain ⟨r5316_z, h5317_z, q5318_z, hc_z⟩ := hc_z
    obtain ⟨rfl, yq5318_z⟩ := rs_rankC q5318_z
    replace yq5318_z := yq5318_z.symm
    subst yq5318_z
    rw [show rk_C 6 = 6 by decide] at hc_z
    replace hc_z : rn _ _ _ _ [.int 6, .int (rk_C (rg_v h5288_z 47 (np.toNatClampNeg - 1)))] _ _ _ := hc_z
    replace hc_z := rn_cmp (am_cur_of (i := (131, 3, .if_icmp .ne 16, (76, 0, 0), 0)) (by decide +kernel)) hc_z
    rcases hc_z with ⟨b5319_z, hc_z⟩ | ⟨b5319_z, hc_z⟩
    · replace b5319_z : ¬ (rk_C (rg_v h5288_z 47 (np.toNatClampNeg - 1))) = (6 : Int32) ∧ ¬ (rk_C (rg_v h5288_z 47 (np.toNatClampNeg - 1))).toInt = (6 : Int32).toInt := b5319_z
      replace hm_z := rn_iload_n (am_cur_of (i := (178, 1, .iload_n 1, (0, 0, 0), 0)) (by decide +kernel)) g1m hm_z
      replace hm_z := rn_callS (M' := am_m180) (ar := [.int 9]) (rest := []) (L := lv_args 0 [.int 9]) (am_cur_of (i := (179, 3, .invokestatic 283, (180, 1751, 3), 0)) (by decide +kernel)) rfl rfl rfl rfl hm_z
      obtain ⟨r5320_z, h5321_z, q5322_z, hm_z⟩ := hm_z
      obtain ⟨rfl, yq5322_z⟩ := rs_rankM q5322_z
      replace yq5322_z := yq5322_z.symm
      subst yq5322_z
      rw [show rk_M 9 = 4 by decide] at hm_z
      replace hm_z : rn _ _ _ _ [.int 4] _ _ _ := hm_z
      replace hm_z := rn_iconst (w := 4) (am_cur_of (i := (182, 1, .iconst 4, (0, 0, 0), 0)) (by decide +kernel)) (by decide) hm_z
      replace hm_z := rn_cmpF (am_cur_of (i := (183, 3, .if_icmp .ne 34, (110, 0, 0), 0)) (by decide +kernel)) (by decide) hm_z
      replace hm_z := rn_aload_n (am_cur_of (i := (186, 1, .aload_n 0, (0, 0, 0), 0)) (by decide +kernel)) g0m hm_z
      replace hm_z := rn_getI (v := np) (am_cur_of (i := (187, 3, .getfield 280, (12, 41, 1425), 0)) (by decide +kernel)) (by decide +kernel) z2_z hm_z
      replace hm_z := rn_if (am_cur_of (i := (190, 3, .ifCond .le 27, (110, 0, 0), 0)) (by decide +kernel)) hm_z
      rcases hm_z with ⟨b5323_z, hm_z⟩ | ⟨b5323_z, hm_z⟩
      · replace b5323_z : np.toInt ≤ (0 : Int32).toInt := b5323_z
        omega
      · replace b5323_z : (0 : Int32).toInt < np.toInt := b5323_z
        replace hm_z := rn_aload_n (am_cur_of (i := (193, 1, .aload_n 0, (0, 0, 0), 0)) (by decide +kernel)) g0m hm_z
        replace hm_z := rn_getR (x := 184) (am_cur_of (i := (194, 3, .getfield 72, (12, 39, 1423), 0)) (by decide +kernel)) (by decide +kernel) hm_z
        replace hm_z := rn_aload_n (am_cur_of (i := (197, 1, .aload_n 0, (0, 0, 0), 0)) (by decide +kernel)) g0m hm_z
        replace hm_z := rn_getI (v := np) (am_cur_of (i := (198, 3, .getfield 280, (12, 41, 1425), 0)) (by decide +kernel)) (by decide +kernel) z2_z hm_z
        replace hm_z := rn_iconst (w := 1) (am_cur_of (i := (201, 1, .iconst 1, (0, 0, 0), 0)) (by decide +kernel)) (by decide) hm_z
        replace hm_z := rn_isub (w := np - 1) (am_cur_of (i := (202, 1, .isub, (0, 0, 0), 0)) (by decide +kernel)) rfl hm_z
        replace hm_z := rn_iaload (N := 96) (q := (np - 1).toNatClampNeg) (v := rg_v h5305_z 184 (np.toNatClampNeg - 1)) (am_cur_of (i := (203, 1, .iaload, (0, 0, 0), 0)) (by decide +kernel)) (by decide +kernel) rfl (by rw [show (np - 1).toNatClampNeg = np.toNatClampNeg - 1 by have := rt_cl (x := np - 1) (by omega); omega]) hm_z
        obtain ⟨p5324_z, hm_z⟩ := hm_z
        replace hm_z := rn_callS (M' := am_m180) (ar := [.int (rg_v h5305_z 184 (np.toNatClampNeg - 1))]) (rest := []) (L := lv_args 0 [.int (rg_v h5305_z 184 (np.toNatClampNeg - 1))]) (am_cur_of (i := (204, 3, .invokestatic 283, (180, 1751, 3), 0)) (by decide +kernel)) rfl rfl rfl rfl hm_z
        obtain ⟨r5325_z, h5326_z, q5327_z, hm_z⟩ := hm_z
        obtain ⟨rfl, yq5327_z⟩ := rs_rankM q5327_z
        replace yq5327_z := yq5327_z.symm
        subst yq5327_z
        replace hm_z : rn _ _ _ _ [.int (rk_M (rg_v h5305_z 184 (np.toNatClampNeg - 1)))] _ _ _ := hm_z
        replace hm_z := rn_iconst (w := 4) (am_cur_of (i := (207, 1, .iconst 4, (0, 0, 0), 0)) (by decide +kernel)) (by decide) hm_z
        replace hm_z := rn_cmp (am_cur_of (i := (208, 3, .if_icmp .ne 9, (110, 0, 0), 0)) (by decide +kernel)) hm_z
        rcases hm_z with ⟨b5328_z, hm_z⟩ | ⟨b5328_z, hm_z⟩
        · replace b5328_z : ¬ (rk_M (rg_v h5305_z 184 (np.toNatClampNeg - 1))) = (4 : Int32) ∧ ¬ (rk_M (rg_v h5305_z 184 (np.toNatClampNeg - 1))).toInt = (4 : Int32).toInt := b5328_z
          exact Or.inl (rj_t10_2 R A B Z g0_z g1_z g0m g1m hc_z hm_z)
        · replace b5328_z : (rk_M (rg_v h5305_z 184 (np.toNatClampNeg - 1))) = (4 : Int32) ∧ (rk_M (rg_v h5305_z 184 (np.toNatClampNeg - 1))).toInt = (4 : Int32).toInt := b5328_z
          exact absurd b5328_z.2 (fun q4_z => b5319_z.2 ((rs_o64 (z9_z (np.toNatClampNeg - 1) (by omega))).mpr (q4_z.trans (by decide))))
    · replace b5319_z : (rk_C (rg_v h5288_z 47 (np.toNatClampNeg - 1))) = (6 : Int32) ∧ (rk_C (rg_v h5288_z 47 (np.toNatClampNeg - 1))).toInt = (6 : Int32).toInt := b5319_z
      replace hc_z := rn_aload_n (am_cur_of (i := (134, 1, .aload_n 0, (0, 0, 0), 0)) (by decide +kernel)) g0_z hc_z
      replace hc_z := rn_iconst (w := 1) (am_cur_of (i := (135, 1, .iconst 1, (0, 0, 0), 0)) (by decide +kernel)) (by decide) hc_z
      replace hc_z := rn_callV (M' := am_m29) (o := 44) (ar := [.int 1]) (rest := []) (L := lv_args 0 [.ref 44, .int 1]) (am_cur_of (i := (136, 3, .invokevirtual 108, (29, 769, 3), 0)) (by decide +kernel)) rfl rfl rfl rfl hc_z
      obtain ⟨r5329_z, h5330_z, q5331_z, hc_z⟩ := hc_z
      obtain ⟨rfl, yq5331_z⟩ := rp_fail R.2.2.2.1 q5331_z
      subst yq5331_z
      replace hc_z : rn _ _ _ _ [] _ _ _ := hc_z
      have K := rs_stick (w := 1) (q := p) (a := 44) (by decide) (by decide) rfl (by decide) rfl (show rg_v (am_up (am_up h5288_z 44 1 (.int 1)) 44 2 (.int (rg_v h5288_z 44 9))) 44 2 = p from R.2.2.2.2.1) hc_z
      replace hm_z := rn_iload_n (am_cur_of (i := (178, 1, .iload_n 1, (0, 0, 0), 0)) (by decide +kernel)) g1m hm_z
      replace hm_z := rn_callS (M' := am_m180) (ar := [.int 9]) (rest := []) (L := lv_args 0 [.int 9]) (am_cur_of (i := (179, 3, .invokestatic 283, (180, 1751, 3), 0)) (by decide +kernel)) rfl rfl rfl rfl hm_z
      obtain ⟨r5332_z, h5333_z, q5334_z, hm_z⟩ := hm_z
      obtain ⟨rfl, yq5334_z⟩ := rs_rankM q5334_z
      replace yq5334_z := yq5334_z.symm
      subst yq5334_z
      rw [show rk_M 9 = 4 by decide] at hm_z
      replace hm_z : rn _ _ _ _ [.int 4] _ _ _ := hm_z
      replace hm_z := rn_iconst (w := 4) (am_cur_of (i := (182, 1, .iconst 4, (0, 0, 0), 0)) (by decide +kernel)) (by decide) hm_z
      replace hm_z := rn_cmpF (am_cur_of (i := (183, 3, .if_icmp .ne 34, (110, 0, 0), 0)) (by decide +kernel)) (by decide) hm_z
      replace hm_z := rn_aload_n (am_cur_of (i := (186, 1, .aload_n 0, (0, 0, 0), 0)) (by decide +kernel)) g0m hm_z
      replace hm_z := rn_getI (v := np) (am_cur_of (i := (187, 3, .getfield 280, (12, 41, 1425), 0)) (by decide +kernel)) (by decide +kernel) z2_z hm_z
      replace hm_z := rn_if (am_cur_of (i := (190, 3, .ifCond .le 27, (110, 0, 0), 0)) (by decide +kernel)) hm_z
      rcases hm_z with ⟨b5335_z, hm_z⟩ | ⟨b5335_z, hm_z⟩
      · replace b5335_z : np.toInt ≤ (0 : Int32).toInt := b5335_z
        omega
      · replace b5335_z : (0 : Int32).toInt < np.toInt := b5335_z
        replace hm_z := rn_aload_n (am_cur_of (i := (193, 1, .aload_n 0, (0, 0, 0), 0)) (by decide +kernel)) g0m hm_z
        replace hm_z := rn_getR (x := 184) (am_cur_of (i := (194, 3, .getfield 72, (12, 39, 1423), 0)) (by decide +kernel)) (by decide +kernel) hm_z
        replace hm_z := rn_aload_n (am_cur_of (i := (197, 1, .aload_n 0, (0, 0, 0), 0)) (by decide +kernel)) g0m hm_z
        replace hm_z := rn_getI (v := np) (am_cur_of (i := (198, 3, .getfield 280, (12, 41, 1425), 0)) (by decide +kernel)) (by decide +kernel) z2_z hm_z
        replace hm_z := rn_iconst (w := 1) (am_cur_of (i := (201, 1, .iconst 1, (0, 0, 0), 0)) (by decide +kernel)) (by decide) hm_z
        replace hm_z := rn_isub (w := np - 1) (am_cur_of (i := (202, 1, .isub, (0, 0, 0), 0)) (by decide +kernel)) rfl hm_z
        replace hm_z := rn_iaload (N := 96) (q := (np - 1).toNatClampNeg) (v := rg_v h5305_z 184 (np.toNatClampNeg - 1)) (am_cur_of (i := (203, 1, .iaload, (0, 0, 0), 0)) (by decide +kernel)) (by decide +kernel) rfl (by rw [show (np - 1).toNatClampNeg = np.toNatClampNeg - 1 by have := rt_cl (x := np - 1) (by omega); omega]) hm_z
        obtain ⟨p5336_z, hm_z⟩ := hm_z
        replace hm_z := rn_callS (M' := am_m180) (ar := [.int (rg_v h5305_z 184 (np.toNatClampNeg - 1))]) (rest := []) (L := lv_args 0 [.int (rg_v h5305_z 184 (np.toNatClampNeg - 1))]) (am_cur_of (i := (204, 3, .invokestatic 283, (180, 1751, 3), 0)) (by decide +kernel)) rfl rfl rfl rfl hm_z
        obtain ⟨r5337_z, h5338_z, q5339_z, hm_z⟩ := hm_z
        obtain ⟨rfl, yq5339_z⟩ := rs_rankM q5339_z
        replace yq5339_z := yq5339_z.symm
        subst yq5339_z
        replace hm_z : rn _ _ _ _ [.int (rk_M (rg_v h5305_z 184 (np.toNatClampNeg - 1)))] _ _ _ := hm_z
        replace hm_z := rn_iconst (w := 4) (am_cur_of (i := (207, 1, .iconst 4, (0, 0, 0), 0)) (by decide +kernel)) (by decide) hm_z
        replace hm_z := rn_cmp (am_cur_of (i := (208, 3, .if_icmp .ne 9, (110, 0, 0), 0)) (by decide +kernel)) hm_z
        rcases hm_z with ⟨b5340_z, hm_z⟩ | ⟨b5340_z, hm_z⟩
        · replace b5340_z : ¬ (rk_M (rg_v h5305_z 184 (np.toNatClampNeg - 1))) = (4 : Int32) ∧ ¬ (rk_M (rg_v h5305_z 184 (np.toNatClampNeg - 1))).toInt = (4 : Int32).toInt := b5340_z
          exact absurd ((rs_o64 (z9_z (np.toNatClampNeg - 1) (by omega))).mp (b5319_z.2.trans (by decide))) (fun q4_z => b5340_z.2 (q4_z.trans (by decide)))
        · replace b5340_z : (rk_M (rg_v h5305_z 184 (np.toNatClampNeg - 1))) = (4 : Int32) ∧ (rk_M (rg_v h5305_z 184 (np.toNatClampNeg - 1))).toInt = (4 : Int32).toInt := b5340_z
          replace hm_z := rn_aload_n (am_cur_of (i := (211, 1, .aload_n 0, (0, 0, 0), 0)) (by decide +kernel)) g0m hm_z
          replace hm_z := rn_iconst (w := 1) (am_cur_of (i := (212, 1, .iconst 1, (0, 0, 0), 0)) (by decide +kernel)) (by decide) hm_z
          replace hm_z := rn_callV (M' := am_m158) (o := 164) (ar := [.int 1]) (rest := []) (L := lv_args 0 [.ref 164, .int 1]) (am_cur_of (i := (213, 3, .invokevirtual 181, (158, 1665, 3), 0)) (by decide +kernel)) rfl rfl rfl rfl hm_z
          obtain ⟨r5341_z, h5342_z, q5343_z, hm_z⟩ := hm_z
          obtain ⟨rfl, yq5343_z⟩ := rp_wrong q5343_z
          subst yq5343_z
          replace hm_z : rn _ _ _ _ [.int 0] _ _ _ := hm_z
          replace hm_z := rn_iret (am_cur_of (i := (216, 1, .ireturn, (0, 0, 0), 0)) (by decide +kernel)) hm_z
          obtain ⟨e5344_z, e5345_z⟩ := hm_z
          subst e5344_z e5345_z
          exact Or.inl (Or.inr ⟨rfl, 1, by decide, K.1, K.2, rfl, R.2.2.2.2.2.1⟩)
theorem rj_c23_2 {T : Nat → Int32} {S x p : Int32} {n n' : Nat} {h h' g g' : am_H} {r r' : Option Value} (R : rq T S x p 2 h g) (A : rp 2 h g) (B : rp_t h g) (Z : rs 2 h g) (w0_z : rg_v g 164 45 = 0) (ka : (rg_v h 44 10) = 6) (kc : (rg_v g 164 8) = 5) (kb : (rg_v h 44 11) = 11) (kd : (rg_v g 164 9) = 5) (hc_z : rn n am_m44 0 (lv_args 0 [.ref 44]) [] h r h') (hm_z : rn n' am_m178 0 (lv_args 0 [.ref 164]) [] g r' g') : rj_Q T S x p 2 h g h' g' r r' := by
  have z0_z : (0 : Int32).toInt = 0 := by decide
  have z4_z : (4 : Int32).toInt = 4 := by decide
  have z6_z : (6 : Int32).toInt = 6 := by decide
  have g0_z : am_get (lv_args 0 [.ref 44]) 0 = some (.ref 44) := rfl
  have g0m : am_get (lv_args 0 [.ref 164]) 0 = some (.ref 164) := rfl
  have Rk := R
  have Zk := Z
  obtain ⟨⟨c1_z, c2_z, c3_z, c4_z, c5_z, c6_z, c7_z, c8_z⟩, ⟨m2_z, m3_z, m4_z, m5_z, m6_z, m7_z, m8_z⟩, R3, R4, R5, R6, R7, R8, R9, R10⟩ := (R : rq T S x p 2 h g)
  obtain ⟨np, op, z1_z, z2_z, z3_z, z4_z, z5_z, z6_z, z7_z, z8_z, z9_z, z10_z⟩ := (Z : rs 2 h g)
  obtain ⟨nk1_z, nk2_z, nk3_z⟩ := A.2.2.2.2.2.1
  replace nk1_z : rg_v h 11 0 = rg_v g 164 44 := nk1_z
  replace nk2_z : 0 ≤ (rg_v h 11 0).toInt := nk2_z
  replace nk3_z : (rg_v h 11 0).toInt ≤ 64 := nk3_z
  replace z8_z : np.toInt ≤ (rg_v h 11 0).toInt + op.toInt := z8_z
  obtain ⟨kn, ekn⟩ : ∃ v, rg_v h 11 0 = v := ⟨_, rfl⟩
  rw [ekn] at nk1_z nk2_z nk3_z z8_z
  have e9_z := rt_c1 (x := kn) (by omega) (by omega)
  replace hc_z := rn_aload_n (am_cur_of (i := (0, 1, .aload_n 0, (0, 0, 0), 0)) (by decide +kernel)) g0_z hc_z
  replace hc_z := rn_bipush (w := 41) (am_cur_of (i := (1, 2, .bipush 41, (0, 0, 0), 0)) (by decide +kernel)) (by decide) hc_z
  replace hc_z := rn_callV (M' := am_m45) (o := 44) (ar := [.int 41]) (rest := []) (L := lv_args 0 [.ref 44, .int 41]) (am_cur_of (i := (3, 3, .invokevirtual 105, (45, 834, 3), 0)) (by decide +kernel)) rfl rfl rfl rfl hc_z
  obtain ⟨r5346_z, h5347_z, q5348_z, hc_z⟩ := hc_z
  obtain ⟨rfl, yq5348_z⟩ := rp_mkN (fun q => absurd (Eq.trans (Eq.symm ka) q.1) (by decide)) q5348_z
  subst yq5348_z
  replace hc_z : rn _ _ _ _ [.int 0] _ _ _ := hc_z
  replace hc_z := rn_ifT (am_cur_of (i := (6, 3, .ifCond .eq 45, (28, 0, 0), 0)) (by decide +kernel)) (by decide) hc_z
  replace hc_z := rn_aload_n (am_cur_of (i := (51, 1, .aload_n 0, (0, 0, 0), 0)) (by decide +kernel)) g0_z hc_z
  replace hc_z := rn_getI (v := 6) (am_cur_of (i := (52, 3, .getfield 60, (4, 10, 419), 0)) (by decide +kernel)) (by decide +kernel) ka hc_z
  replace hc_z := rn_bipush (w := 6) (am_cur_of (i := (55, 2, .bipush 6, (0, 0, 0), 0)) (by decide +kernel)) (by decide) hc_z
  replace hc_z := rn_cmpF (am_cur_of (i := (57, 3, .if_icmp .ne 11, (36, 0, 0), 0)) (by decide +kernel)) (by decide) hc_z
  replace hc_z := rn_aload_n (am_cur_of (i := (60, 1, .aload_n 0, (0, 0, 0), 0)) (by decide +kernel)) g0_z hc_z
  replace hc_z := rn_getI (v := 11) (am_cur_of (i := (61, 3, .getfield 91, (4, 11, 420), 0)) (by decide +kernel)) (by decide +kernel) kb hc_z
  replace hc_z := rn_iconst (w := 5) (am_cur_of (i := (64, 1, .iconst 5, (0, 0, 0), 0)) (by decide +kernel)) (by decide) hc_z
  replace hc_z := rn_cmpT (am_cur_of (i := (65, 3, .if_icmp .ne 17, (44, 0, 0), 0)) (by decide +kernel)) (by decide) hc_z
  replace hc_z := rn_aload_n (am_cur_of (i := (82, 1, .aload_n 0, (0, 0, 0), 0)) (by decide +kernel)) g0_z hc_z
  replace hc_z := rn_getI (v := 11) (am_cur_of (i := (83, 3, .getfield 91, (4, 11, 420), 0)) (by decide +kernel)) (by decide +kernel) kb hc_z
  replace hc_z := rn_istore_n (am_cur_of (i := (86, 1, .istore_n 1, (0, 0, 0), 0)) (by decide +kernel)) hc_z
  obtain ⟨_, s5349_z, s5350_z, g1_z, hc_z⟩ := hc_z
  replace g0_z := s5349_z 0 _ (by decide) rfl g0_z
  clear s5349_z s5350_z
  replace hc_z := rn_iload_n (am_cur_of (i := (87, 1, .iload_n 1, (0, 0, 0), 0)) (by decide +kernel)) g1_z hc_z
  replace hc_z := rn_callS (M' := am_m47) (ar := [.int 11]) (rest := []) (L := lv_args 0 [.int 11]) (am_cur_of (i := (88, 3, .invokestatic 283, (47, 842, 3), 0)) (by decide +kernel)) rfl rfl rfl rfl hc_z
  obtain ⟨r5351_z, h5352_z, q5353_z, hc_z⟩ := hc_z
  obtain ⟨rfl, yq5353_z⟩ := rs_rankC q5353_z
  replace yq5353_z := yq5353_z.symm
  subst yq5353_z
  rw [show rk_C 11 = 6 by decide] at hc_z
  replace hc_z : rn _ _ _ _ [.int 6] _ _ _ := hc_z
  replace hc_z := rn_bipush (w := 6) (am_cur_of (i := (91, 2, .bipush 6, (0, 0, 0), 0)) (by decide +kernel)) (by decide) hc_z
  replace hc_z := rn_callS (M' := am_m47) (ar := [.int 6]) (rest := [.int 6]) (L := lv_args 0 [.int 6]) (am_cur_of (i := (93, 3, .invokestatic 283, (47, 842, 3), 0)) (by decide +kernel)) rfl rfl rfl rfl hc_z
  obtain ⟨r5354_z, h5355_z, q5356_z, hc_z⟩ := hc_z
  obtain ⟨rfl, yq5356_z⟩ := rs_rankC q5356_z
  replace yq5356_z := yq5356_z.symm
  subst yq5356_z
  rw [show rk_C 6 = 6 by decide] at hc_z
  replace hc_z : rn _ _ _ _ [.int 6, .int 6] _ _ _ := hc_z
  replace hc_z := rn_cmpF (am_cur_of (i := (96, 3, .if_icmp .ne 46, (73, 0, 0), 0)) (by decide +kernel)) (by decide) hc_z
  replace hc_z := rn_aload_n (am_cur_of (i := (99, 1, .aload_n 0, (0, 0, 0), 0)) (by decide +kernel)) g0_z hc_z
  replace hc_z := rn_bipush (w := 12) (am_cur_of (i := (100, 2, .bipush 12, (0, 0, 0), 0)) (by decide +kernel)) (by decide) hc_z
  replace hc_z := rn_callV (M' := am_m46) (o := 44) (ar := [.int 12]) (rest := []) (L := lv_args 0 [.ref 44, .int 12]) (am_cur_of (i := (102, 3, .invokevirtual 264, (46, 838, 3), 0)) (by decide +kernel)) rfl rfl rfl rfl hc_z
  obtain ⟨r5357_z, h5358_z, q5359_z, hc_z⟩ := hc_z
  replace hm_z := rn_aload_n (am_cur_of (i := (0, 1, .aload_n 0, (0, 0, 0), 0)) (by decide +kernel)) g0m hm_z
  replace hm_z := rn_bipush (w := 41) (am_cur_of (i := (1, 2, .bipush 41, (0, 0, 0), 0)) (by decide +kernel)) (by decide) hm_z
  replace hm_z := rn_callV (M' := am_m171) (o := 164) (ar := [.int 41]) (rest := []) (L := lv_args 0 [.ref 164, .int 41]) (am_cur_of (i := (3, 3, .invokevirtual 194, (171, 1715, 3), 0)) (by decide +kernel)) rfl rfl rfl rfl hm_z
  obtain ⟨r5360_z, h5361_z, q5362_z, hm_z⟩ := hm_z
  obtain ⟨rfl, yq5362_z⟩ := rp_sgN (fun q => absurd (Eq.trans (Eq.symm kc) q.1) (by decide)) q5362_z
  subst yq5362_z
  replace hm_z : rn _ _ _ _ [.int 0] _ _ _ := hm_z
  replace hm_z := rn_ifT (am_cur_of (i := (6, 3, .ifCond .eq 41, (26, 0, 0), 0)) (by decide +kernel)) (by decide) hm_z
  replace hm_z := rn_aload_n (am_cur_of (i := (47, 1, .aload_n 0, (0, 0, 0), 0)) (by decide +kernel)) g0m hm_z
  replace hm_z := rn_bipush (w := 12) (am_cur_of (i := (48, 2, .bipush 12, (0, 0, 0), 0)) (by decide +kernel)) (by decide) hm_z
  replace hm_z := rn_callV (M' := am_m174) (o := 164) (ar := [.int 12]) (rest := []) (L := lv_args 0 [.ref 164, .int 12]) (am_cur_of (i := (50, 3, .invokevirtual 306, (174, 1727, 3), 0)) (by decide +kernel)) rfl rfl rfl rfl hm_z
  obtain ⟨r5363_z, h5364_z, q5365_z, hm_z⟩ := hm_z
  obtain ⟨rfl, yq5365_z⟩ := rp_kyN (fun q => absurd (Eq.trans (Eq.symm kc) q.1) (by decide)) q5365_z
  subst yq5365_z
  replace hm_z : rn _ _ _ _ [.int 0] _ _ _ := hm_z
  replace hm_z := rn_ifT (am_cur_of (i := (53, 3, .ifCond .eq 7, (32, 0, 0), 0)) (by decide +kernel)) (by decide) hm_z
  replace hm_z := rn_aload_n (am_cur_of (i := (60, 1, .aload_n 0, (0, 0, 0), 0)) (by decide +kernel)) g0m hm_z
  replace hm_z := rn_bipush (w := 13) (am_cur_of (i := (61, 2, .bipush 13, (0, 0, 0), 0)) (by decide +kernel)) (by decide) hm_z
  replace hm_z := rn_callV (M' := am_m174) (o := 164) (ar := [.int 13]) (rest := []) (L := lv_args 0 [.ref 164, .int 13]) (am_cur_of (i := (63, 3, .invokevirtual 306, (174, 1727, 3), 0)) (by decide +kernel)) rfl rfl rfl rfl hm_z
  obtain ⟨r5366_z, h5367_z, q5368_z, hm_z⟩ := hm_z
  obtain ⟨rfl, yq5368_z⟩ := rp_kyN (fun q => absurd (Eq.trans (Eq.symm kc) q.1) (by decide)) q5368_z
  subst yq5368_z
  replace hm_z : rn _ _ _ _ [.int 0] _ _ _ := hm_z
  replace hm_z := rn_ifT (am_cur_of (i := (66, 3, .ifCond .eq 7, (38, 0, 0), 0)) (by decide +kernel)) (by decide) hm_z
  replace hm_z := rn_aload_n (am_cur_of (i := (73, 1, .aload_n 0, (0, 0, 0), 0)) (by decide +kernel)) g0m hm_z
  replace hm_z := rn_getI (v := 5) (am_cur_of (i := (74, 3, .getfield 157, (12, 8, 1392), 0)) (by decide +kernel)) (by decide +kernel) kc hm_z
  replace hm_z := rn_iconst (w := 5) (am_cur_of (i := (77, 1, .iconst 5, (0, 0, 0), 0)) (by decide +kernel)) (by decide) hm_z
  replace hm_z := rn_cmpF (am_cur_of (i := (78, 3, .if_icmp .ne 12, (47, 0, 0), 0)) (by decide +kernel)) (by decide) hm_z
  replace hm_z := rn_iconst (w := 5) (am_cur_of (i := (81, 1, .iconst 5, (0, 0, 0), 0)) (by decide +kernel)) (by decide) hm_z
  replace hm_z := rn_aload_n (am_cur_of (i := (82, 1, .aload_n 0, (0, 0, 0), 0)) (by decide +kernel)) g0m hm_z
  replace hm_z := rn_getI (v := 5) (am_cur_of (i := (83, 3, .getfield 168, (12, 9, 1393), 0)) (by decide +kernel)) (by decide +kernel) kd hm_z
  replace hm_z := rn_iadd (w := 10) (am_cur_of (i := (86, 1, .iadd, (0, 0, 0), 0)) (by decide +kernel)) (by decide) hm_z
  replace hm_z := rn_goto (am_cur_of (i := (87, 3, .goto 60, (72, 0, 0), 0)) (by decide +kernel)) hm_z
  replace hm_z := rn_istore_n (am_cur_of (i := (147, 1, .istore_n 1, (0, 0, 0), 0)) (by decide +kernel)) hm_z
  obtain ⟨_, s5369_z, s5370_z, g1m, hm_z⟩ := hm_z
  replace g0m := s5369_z 0 _ (by decide) rfl g0m
  clear s5369_z s5370_z
  replace hm_z := rn_iload_n (am_cur_of (i := (148, 1, .iload_n 1, (0, 0, 0), 0)) (by decide +kernel)) g1m hm_z
  replace hm_z := rn_ifT (am_cur_of (i := (149, 3, .ifCond .ne 9, (79, 0, 0), 0)) (by decide +kernel)) (by decide) hm_z
  replace hm_z := rn_aload_n (am_cur_of (i := (158, 1, .aload_n 0, (0, 0, 0), 0)) (by decide +kernel)) g0m hm_z
  replace hm_z := rn_iload_n (am_cur_of (i := (159, 1, .iload_n 1, (0, 0, 0), 0)) (by decide +kernel)) g1m hm_z
  replace hm_z := rn_callS (M' := am_m180) (ar := [.int 10]) (rest := [.ref 164]) (L := lv_args 0 [.int 10]) (am_cur_of (i := (160, 3, .invokestatic 283, (180, 1751, 3), 0)) (by decide +kernel)) rfl rfl rfl rfl hm_z
  obtain ⟨r5371_z, h5372_z, q5373_z, hm_z⟩ := hm_z
  obtain ⟨rfl, yq5373_z⟩ := rs_rankM q5373_z
  replace yq5373_z := yq5373_z.symm
  subst yq5373_z
  rw [show rk_M 10 = 4 by decide] at hm_z
  replace hm_z : rn _ _ _ _ [.int 4, .ref 164] _ _ _ := hm_z
  replace hm_z := rn_iconst (w := 4) (am_cur_of (i := (163, 1, .iconst 4, (0, 0, 0), 0)) (by decide +kernel)) (by decide) hm_z
  replace hm_z := rn_cmpF (am_cur_of (i := (164, 3, .if_icmp .ne 7, (86, 0, 0), 0)) (by decide +kernel)) (by decide) hm_z
  replace hm_z := rn_iconst (w := 5) (am_cur_of (i := (167, 1, .iconst 5, (0, 0, 0), 0)) (by decide +kernel)) (by decide) hm_z
  replace hm_z := rn_goto (am_cur_of (i := (168, 3, .goto 7, (88, 0, 0), 0)) (by decide +kernel)) hm_z
  replace hm_z := rn_callV (M' := am_m179) (o := 164) (ar := [.int 5]) (rest := []) (L := lv_args 0 [.ref 164, .int 5]) (am_cur_of (i := (175, 3, .invokevirtual 318, (179, 1747, 3), 0)) (by decide +kernel)) rfl rfl rfl rfl hm_z
  obtain ⟨r5374_z, h5375_z, q5376_z, hm_z⟩ := hm_z
  obtain ⟨rfl, rfl, FC, FM, R, A, B, Z, nq, e13_z, hst⟩ := rz_set2 rs_l12 (by decide) Rk A B Zk q5359_z q5376_z
  have Zq := Z
  obtain ⟨np, op, z1_z, z2_z, z3_z, z4_z, z5_z, z6_z, z7_z, z8_z, z9_z, z10_z⟩ := Zq
  obtain rfl : np = nq := z1_z.symm.trans e13_z
  replace hm_z : rn _ _ _ _ [] _ _ _ := hm_z
  replace hc_z : rn _ _ _ _ [] _ _ _ := hc_z
  have cn := rt_cl z3_z
  have zz1_z : (1 : Int32).toInt = 1 := by decide
  have n31_z := (ab_32 np).2
  have y1_z := ab_isub (x := np) (y := 1) (by omega) (by omega)
  replace hc_z := rn_aload_n (am_cur_of (i := (105, 1, .aload_n 0, (0, 0, 0), 0)) (by decide +kernel)) g0_z hc_z
  replace hc_z := rn_getI (v := np) (am_cur_of (i := (106, 3, .getfield 251, (4, 13, 422), 0)) (by decide +kernel)) (by decide +kernel) z1_z hc_z
  replace hc_z := rn_if (am_cur_of (i := (109, 3, .ifCond .le 38, (76, 0, 0), 0)) (by decide +kernel)) hc_z
  rcases hc_z with ⟨b5377_z, hc_z⟩ | ⟨b5377_z, hc_z⟩
  · replace b5377_z : np.toInt ≤ (0 : Int32).toInt := b5377_z
    replace hm_z := rn_iload_n (am_cur_of (i := (178, 1, .iload_n 1, (0, 0, 0), 0)) (by decide +kernel)) g1m hm_z
    replace hm_z := rn_callS (M' := am_m180) (ar := [.int 10]) (rest := []) (L := lv_args 0 [.int 10]) (am_cur_of (i := (179, 3, .invokestatic 283, (180, 1751, 3), 0)) (by decide +kernel)) rfl rfl rfl rfl hm_z
    obtain ⟨r5378_z, h5379_z, q5380_z, hm_z⟩ := hm_z
    obtain ⟨rfl, yq5380_z⟩ := rs_rankM q5380_z
    replace yq5380_z := yq5380_z.symm
    subst yq5380_z
    rw [show rk_M 10 = 4 by decide] at hm_z
    replace hm_z : rn _ _ _ _ [.int 4] _ _ _ := hm_z
    replace hm_z := rn_iconst (w := 4) (am_cur_of (i := (182, 1, .iconst 4, (0, 0, 0), 0)) (by decide +kernel)) (by decide) hm_z
    replace hm_z := rn_cmpF (am_cur_of (i := (183, 3, .if_icmp .ne 34, (110, 0, 0), 0)) (by decide +kernel)) (by decide) hm_z
    replace hm_z := rn_aload_n (am_cur_of (i := (186, 1, .aload_n 0, (0, 0, 0), 0)) (by decide +kernel)) g0m hm_z
    replace hm_z := rn_getI (v := np) (am_cur_of (i := (187, 3, .getfield 280, (12, 41, 1425), 0)) (by decide +kernel)) (by decide +kernel) z2_z hm_z
    replace hm_z := rn_if (am_cur_of (i := (190, 3, .ifCond .le 27, (110, 0, 0), 0)) (by decide +kernel)) hm_z
    rcases hm_z with ⟨b5381_z, hm_z⟩ | ⟨b5381_z, hm_z⟩
    · replace b5381_z : np.toInt ≤ (0 : Int32).toInt := b5381_z
      exact Or.inl (rj_t11_2 R A B Z g0_z g1_z g0m g1m hc_z hm_z)
    · replace b5381_z : (0 : Int32).toInt < np.toInt := b5381_z
      omega
  · replace b5377_z : (0 : Int32).toInt < np.toInt := b5377_z
    replace hc_z := rn_aload_n (am_cur_of (i := (112, 1, .aload_n 0, (0, 0, 0), 0)) (by decide +kernel)) g0_z hc_z
    replace hc_z := rn_getR (x := 47) (am_cur_of (i := (113, 3, .getfield 22, (4, 12, 421), 0)) (by decide +kernel)) (by decide +kernel) hc_z
    replace hc_z := rn_aload_n (am_cur_of (i := (116, 1, .aload_n 0, (0, 0, 0), 0)) (by decide +kernel)) g0_z hc_z
    replace hc_z := rn_getI (v := np) (am_cur_of (i := (117, 3, .getfield 251, (4, 13, 422), 0)) (by decide +kernel)) (by decide +kernel) z1_z hc_z
    replace hc_z := rn_iconst (w := 1) (am_cur_of (i := (120, 1, .iconst 1, (0, 0, 0), 0)) (by decide +kernel)) (by decide) hc_z
    replace hc_z := rn_isub (w := np - 1) (am_cur_of (i := (121, 1, .isub, (0, 0, 0), 0)) (by decide +kernel)) rfl hc_z
    replace hc_z := rn_iaload (N := 72) (q := (np - 1).toNatClampNeg) (v := rg_v h5358_z 47 (np.toNatClampNeg - 1)) (am_cur_of (i := (122, 1, .iaload, (0, 0, 0), 0)) (by decide +kernel)) (by decide +kernel) rfl (by rw [show (np - 1).toNatClampNeg = np.toNatClampNeg - 1 by have := rt_cl (x := np - 1) (by omega); omega]) hc_z
    obtain ⟨p5382_z, hc_z⟩ := hc_z
    replace hc_z := rn_callS (M' := am_m47) (ar := [.int (rg_v h5358_z 47 (np.toNatClampNeg - 1))]) (rest := []) (L := lv_args 0 [.int (rg_v h5358_z 47 (np.toNatClampNeg - 1))]) (am_cur_of (i := (123, 3, .invokestatic 283, (47, 842, 3), 0)) (by decide +kernel)) rfl rfl rfl rfl hc_z
    obtain ⟨r5383_z, h5384_z, q5385_z, hc_z⟩ := hc_z
    obtain ⟨rfl, yq5385_z⟩ := rs_rankC q5385_z
    replace yq5385_z := yq5385_z.symm
    subst yq5385_z
    replace hc_z : rn _ _ _ _ [.int (rk_C (rg_v h5358_z 47 (np.toNatClampNeg - 1)))] _ _ _ := hc_z
    replace hc_z := rn_bipush (w := 6) (am_cur_of (i := (126, 2, .bipush 6, (0, 0, 0), 0)) (by decide +kernel)) (by decide) hc_z
    replace hc_z := rn_callS (M' := am_m47) (ar := [.int 6]) (rest := [.int (rk_C (rg_v h5358_z 47 (np.toNatClampNeg - 1)))]) (L := lv_args 0 [.int 6]) (am_cur_of (i := (128, 3, .invokestatic 283, (47, 842, 3), 0)) (by decide +kernel)) rfl rfl rfl rfl hc_z
    obtain ⟨r5386_z, h5387_z, q5388_z, hc_z⟩ := hc_z
    obtain ⟨rfl, yq5388_z⟩ := rs_rankC q5388_z
    replace yq5388_z := yq5388_z.symm
    subst yq5388_z
    rw [show rk_C 6 = 6 by decide] at hc_z
    replace hc_z : rn _ _ _ _ [.int 6, .int (rk_C (rg_v h5358_z 47 (np.toNatClampNeg - 1)))] _ _ _ := hc_z
    replace hc_z := rn_cmp (am_cur_of (i := (131, 3, .if_icmp .ne 16, (76, 0, 0), 0)) (by decide +kernel)) hc_z
    rcases hc_z with ⟨b5389_z, hc_z⟩ | ⟨b5389_z, hc_z⟩
    · replace b5389_z : ¬ (rk_C (rg_v h5358_z 47 (np.toNatClampNeg - 1))) = (6 : Int32) ∧ ¬ (rk_C (rg_v h5358_z 47 (np.toNatClampNeg - 1))).toInt = (6 : Int32).toInt := b5389_z
      replace hm_z := rn_iload_n (am_cur_of (i := (178, 1, .iload_n 1, (0, 0, 0), 0)) (by decide +kernel)) g1m hm_z
      replace hm_z := rn_callS (M' := am_m180) (ar := [.int 10]) (rest := []) (L := lv_args 0 [.int 10]) (am_cur_of (i := (179, 3, .invokestatic 283, (180, 1751, 3), 0)) (by decide +kernel)) rfl rfl rfl rfl hm_z
      obtain ⟨r5390_z, h5391_z, q5392_z, hm_z⟩ := hm_z
      obtain ⟨rfl, yq5392_z⟩ := rs_rankM q5392_z
      replace yq5392_z := yq5392_z.symm
      subst yq5392_z
      rw [show rk_M 10 = 4 by decide] at hm_z
      replace hm_z : rn _ _ _ _ [.int 4] _ _ _ := hm_z
      replace hm_z := rn_iconst (w := 4) (am_cur_of (i := (182, 1, .iconst 4, (0, 0, 0), 0)) (by decide +kernel)) (by decide) hm_z
      replace hm_z := rn_cmpF (am_cur_of (i := (183, 3, .if_icmp .ne 34, (110, 0, 0), 0)) (by decide +kernel)) (by decide) hm_z
      replace hm_z := rn_aload_n (am_cur_of (i := (186, 1, .aload_n 0, (0, 0, 0), 0)) (by decide +kernel)) g0m hm_z
      replace hm_z := rn_getI (v := np) (am_cur_of (i := (187, 3, .getfield 280, (12, 41, 1425), 0)) (by decide +kernel)) (by decide +kernel) z2_z hm_z
      replace hm_z := rn_if (am_cur_of (i := (190, 3, .ifCond .le 27, (110, 0, 0), 0)) (by decide +kernel)) hm_z
      rcases hm_z with ⟨b5393_z, hm_z⟩ | ⟨b5393_z, hm_z⟩
      · replace b5393_z : np.toInt ≤ (0 : Int32).toInt := b5393_z
        omega
      · replace b5393_z : (0 : Int32).toInt < np.toInt := b5393_z
        replace hm_z := rn_aload_n (am_cur_of (i := (193, 1, .aload_n 0, (0, 0, 0), 0)) (by decide +kernel)) g0m hm_z
        replace hm_z := rn_getR (x := 184) (am_cur_of (i := (194, 3, .getfield 72, (12, 39, 1423), 0)) (by decide +kernel)) (by decide +kernel) hm_z
        replace hm_z := rn_aload_n (am_cur_of (i := (197, 1, .aload_n 0, (0, 0, 0), 0)) (by decide +kernel)) g0m hm_z
        replace hm_z := rn_getI (v := np) (am_cur_of (i := (198, 3, .getfield 280, (12, 41, 1425), 0)) (by decide +kernel)) (by decide +kernel) z2_z hm_z
        replace hm_z := rn_iconst (w := 1) (am_cur_of (i := (201, 1, .iconst 1, (0, 0, 0), 0)) (by decide +kernel)) (by decide) hm_z
        replace hm_z := rn_isub (w := np - 1) (am_cur_of (i := (202, 1, .isub, (0, 0, 0), 0)) (by decide +kernel)) rfl hm_z
        replace hm_z := rn_iaload (N := 96) (q := (np - 1).toNatClampNeg) (v := rg_v h5375_z 184 (np.toNatClampNeg - 1)) (am_cur_of (i := (203, 1, .iaload, (0, 0, 0), 0)) (by decide +kernel)) (by decide +kernel) rfl (by rw [show (np - 1).toNatClampNeg = np.toNatClampNeg - 1 by have := rt_cl (x := np - 1) (by omega); omega]) hm_z
        obtain ⟨p5394_z, hm_z⟩ := hm_z
        replace hm_z := rn_callS (M' := am_m180) (ar := [.int (rg_v h5375_z 184 (np.toNatClampNeg - 1))]) (rest := []) (L := lv_args 0 [.int (rg_v h5375_z 184 (np.toNatClampNeg - 1))]) (am_cur_of (i := (204, 3, .invokestatic 283, (180, 1751, 3), 0)) (by decide +kernel)) rfl rfl rfl rfl hm_z
        obtain ⟨r5395_z, h5396_z, q5397_z, hm_z⟩ := hm_z
        obtain ⟨rfl, yq5397_z⟩ := rs_rankM q5397_z
        replace yq5397_z := yq5397_z.symm
        subst yq5397_z
        replace hm_z : rn _ _ _ _ [.int (rk_M (rg_v h5375_z 184 (np.toNatClampNeg - 1)))] _ _ _ := hm_z
        replace hm_z := rn_iconst (w := 4) (am_cur_of (i := (207, 1, .iconst 4, (0, 0, 0), 0)) (by decide +kernel)) (by decide) hm_z
        replace hm_z := rn_cmp (am_cur_of (i := (208, 3, .if_icmp .ne 9, (110, 0, 0), 0)) (by decide +kernel)) hm_z
        rcases hm_z with ⟨b5398_z, hm_z⟩ | ⟨b5398_z, hm_z⟩
        · replace b5398_z : ¬ (rk_M (rg_v h5375_z 184 (np.toNatClampNeg - 1))) = (4 : Int32) ∧ ¬ (rk_M (rg_v h5375_z 184 (np.toNatClampNeg - 1))).toInt = (4 : Int32).toInt := b5398_z
          exact Or.inl (rj_t11_2 R A B Z g0_z g1_z g0m g1m hc_z hm_z)
        · replace b5398_z : (rk_M (rg_v h5375_z 184 (np.toNatClampNeg - 1))) = (4 : Int32) ∧ (rk_M (rg_v h5375_z 184 (np.toNatClampNeg - 1))).toInt = (4 : Int32).toInt := b5398_z
          exact absurd b5398_z.2 (fun q4_z => b5389_z.2 ((rs_o64 (z9_z (np.toNatClampNeg - 1) (by omega))).mpr (q4_z.trans (by decide))))
    · replace b5389_z : (rk_C (rg_v h5358_z 47 (np.toNatClampNeg - 1))) = (6 : Int32) ∧ (rk_C (rg_v h5358_z 47 (np.toNatClampNeg - 1))).toInt = (6 : Int32).toInt := b5389_z
      replace hc_z := rn_aload_n (am_cur_of (i := (134, 1, .aload_n 0, (0, 0, 0), 0)) (by decide +kernel)) g0_z hc_z
      replace hc_z := rn_iconst (w := 1) (am_cur_of (i := (135, 1, .iconst 1, (0, 0, 0), 0)) (by decide +kernel)) (by decide) hc_z
      replace hc_z := rn_callV (M' := am_m29) (o := 44) (ar := [.int 1]) (rest := []) (L := lv_args 0 [.ref 44, .int 1]) (am_cur_of (i := (136, 3, .invokevirtual 108, (29, 769, 3), 0)) (by decide +kernel)) rfl rfl rfl rfl hc_z
      obtain ⟨r5399_z, h5400_z, q5401_z, hc_z⟩ := hc_z
      obtain ⟨rfl, yq5401_z⟩ := rp_fail R.2.2.2.1 q5401_z
      subst yq5401_z
      replace hc_z : rn _ _ _ _ [] _ _ _ := hc_z
      have K := rs_stick (w := 1) (q := p) (a := 44) (by decide) (by decide) rfl (by decide) rfl (show rg_v (am_up (am_up h5358_z 44 1 (.int 1)) 44 2 (.int (rg_v h5358_z 44 9))) 44 2 = p from R.2.2.2.2.1) hc_z
      replace hm_z := rn_iload_n (am_cur_of (i := (178, 1, .iload_n 1, (0, 0, 0), 0)) (by decide +kernel)) g1m hm_z
      replace hm_z := rn_callS (M' := am_m180) (ar := [.int 10]) (rest := []) (L := lv_args 0 [.int 10]) (am_cur_of (i := (179, 3, .invokestatic 283, (180, 1751, 3), 0)) (by decide +kernel)) rfl rfl rfl rfl hm_z
      obtain ⟨r5402_z, h5403_z, q5404_z, hm_z⟩ := hm_z
      obtain ⟨rfl, yq5404_z⟩ := rs_rankM q5404_z
      replace yq5404_z := yq5404_z.symm
      subst yq5404_z
      rw [show rk_M 10 = 4 by decide] at hm_z
      replace hm_z : rn _ _ _ _ [.int 4] _ _ _ := hm_z
      replace hm_z := rn_iconst (w := 4) (am_cur_of (i := (182, 1, .iconst 4, (0, 0, 0), 0)) (by decide +kernel)) (by decide) hm_z
      replace hm_z := rn_cmpF (am_cur_of (i := (183, 3, .if_icmp .ne 34, (110, 0, 0), 0)) (by decide +kernel)) (by decide) hm_z
      replace hm_z := rn_aload_n (am_cur_of (i := (186, 1, .aload_n 0, (0, 0, 0), 0)) (by decide +kernel)) g0m hm_z
      replace hm_z := rn_getI (v := np) (am_cur_of (i := (187, 3, .getfield 280, (12, 41, 1425), 0)) (by decide +kernel)) (by decide +kernel) z2_z hm_z
      replace hm_z := rn_if (am_cur_of (i := (190, 3, .ifCond .le 27, (110, 0, 0), 0)) (by decide +kernel)) hm_z
      rcases hm_z with ⟨b5405_z, hm_z⟩ | ⟨b5405_z, hm_z⟩
      · replace b5405_z : np.toInt ≤ (0 : Int32).toInt := b5405_z
        omega
      · replace b5405_z : (0 : Int32).toInt < np.toInt := b5405_z
        replace hm_z := rn_aload_n (am_cur_of (i := (193, 1, .aload_n 0, (0, 0, 0), 0)) (by decide +kernel)) g0m hm_z
        replace hm_z := rn_getR (x := 184) (am_cur_of (i := (194, 3, .getfield 72, (12, 39, 1423), 0)) (by decide +kernel)) (by decide +kernel) hm_z
        replace hm_z := rn_aload_n (am_cur_of (i := (197, 1, .aload_n 0, (0, 0, 0), 0)) (by decide +kernel)) g0m hm_z
        replace hm_z := rn_getI (v := np) (am_cur_of (i := (198, 3, .getfield 280, (12, 41, 1425), 0)) (by decide +kernel)) (by decide +kernel) z2_z hm_z
        replace hm_z := rn_iconst (w := 1) (am_cur_of (i := (201, 1, .iconst 1, (0, 0, 0), 0)) (by decide +kernel)) (by decide) hm_z
        replace hm_z := rn_isub (w := np - 1) (am_cur_of (i := (202, 1, .isub, (0, 0, 0), 0)) (by decide +kernel)) rfl hm_z
        replace hm_z := rn_iaload (N := 96) (q := (np - 1).toNatClampNeg) (v := rg_v h5375_z 184 (np.toNatClampNeg - 1)) (am_cur_of (i := (203, 1, .iaload, (0, 0, 0), 0)) (by decide +kernel)) (by decide +kernel) rfl (by rw [show (np - 1).toNatClampNeg = np.toNatClampNeg - 1 by have := rt_cl (x := np - 1) (by omega); omega]) hm_z
        obtain ⟨p5406_z, hm_z⟩ := hm_z
        replace hm_z := rn_callS (M' := am_m180) (ar := [.int (rg_v h5375_z 184 (np.toNatClampNeg - 1))]) (rest := []) (L := lv_args 0 [.int (rg_v h5375_z 184 (np.toNatClampNeg - 1))]) (am_cur_of (i := (204, 3, .invokestatic 283, (180, 1751, 3), 0)) (by decide +kernel)) rfl rfl rfl rfl hm_z
        obtain ⟨r5407_z, h5408_z, q5409_z, hm_z⟩ := hm_z
        obtain ⟨rfl, yq5409_z⟩ := rs_rankM q5409_z
        replace yq5409_z := yq5409_z.symm
        subst yq5409_z
        replace hm_z : rn _ _ _ _ [.int (rk_M (rg_v h5375_z 184 (np.toNatClampNeg - 1)))] _ _ _ := hm_z
        replace hm_z := rn_iconst (w := 4) (am_cur_of (i := (207, 1, .iconst 4, (0, 0, 0), 0)) (by decide +kernel)) (by decide) hm_z
        replace hm_z := rn_cmp (am_cur_of (i := (208, 3, .if_icmp .ne 9, (110, 0, 0), 0)) (by decide +kernel)) hm_z
        rcases hm_z with ⟨b5410_z, hm_z⟩ | ⟨b5410_z, hm_z⟩
        · replace b5410_z : ¬ (rk_M (rg_v h5375_z 184 (np.toNatClampNeg - 1))) = (4 : Int32) ∧ ¬ (rk_M (rg_v h5375_z 184 (np.toNatClampNeg - 1))).toInt = (4 : Int32).toInt := b5410_z
          exact absurd ((rs_o64 (z9_z (np.toNatClampNeg - 1) (by omega))).mp (b5389_z.2.trans (by decide))) (fun q4_z => b5410_z.2 (q4_z.trans (by decide)))
        · replace b5410_z : (rk_M (rg_v h5375_z 184 (np.toNatClampNeg - 1))) = (4 : Int32) ∧ (rk_M (rg_v h5375_z 184 (np.toNatClampNeg - 1))).toInt = (4 : Int32).toInt := b5410_z
          replace hm_z := rn_aload_n (am_cur_of (i := (211, 1, .aload_n 0, (0, 0, 0), 0)) (by decide +kernel)) g0m hm_z
          replace hm_z := rn_iconst (w := 1) (am_cur_of (i := (212, 1, .iconst 1, (0, 0, 0), 0)) (by decide +kernel)) (by decide) hm_z
          replace hm_z := rn_callV (M' := am_m158) (o := 164) (ar := [.int 1]) (rest := []) (L := lv_args 0 [.ref 164, .int 1]) (am_cur_of (i := (213, 3, .invokevirtual 181, (158, 1665, 3), 0)) (by decide +kernel)) rfl rfl rfl rfl hm_z
          obtain ⟨r5411_z, h5412_z, q5413_z, hm_z⟩ := hm_z
          obtain ⟨rfl, yq5413_z⟩ := rp_wrong q5413_z
          subst yq5413_z
          replace hm_z : rn _ _ _ _ [.int 0] _ _ _ := hm_z
          replace hm_z := rn_iret (am_cur_of (i := (216, 1, .ireturn, (0, 0, 0), 0)) (by decide +kernel)) hm_z
          obtain ⟨e5414_z, e5415_z⟩ := hm_z
          subst e5414_z e5415_z
          exact Or.inl (Or.inr ⟨rfl, 1, by decide, K.1, K.2, rfl, R.2.2.2.2.2.1⟩)
theorem rj_c24_2 {T : Nat → Int32} {S x p : Int32} {n n' : Nat} {h h' g g' : am_H} {r r' : Option Value} (R : rq T S x p 2 h g) (A : rp 2 h g) (B : rp_t h g) (Z : rs 2 h g) (w0_z : rg_v g 164 45 = 0) (ka : (rg_v h 44 10) = 6) (kc : (rg_v g 164 8) = 4) (kb : (rg_v h 44 11) = 12) (kd : (rg_v g 164 9) = 43) (hc_z : rn n am_m44 0 (lv_args 0 [.ref 44]) [] h r h') (hm_z : rn n' am_m178 0 (lv_args 0 [.ref 164]) [] g r' g') : rj_Q T S x p 2 h g h' g' r r' := by
  have g0_z : am_get (lv_args 0 [.ref 44]) 0 = some (.ref 44) := rfl
  have g0m : am_get (lv_args 0 [.ref 164]) 0 = some (.ref 164) := rfl
  have Rk := R
  have Zk := Z
  obtain ⟨⟨c1_z, c2_z, c3_z, c4_z, c5_z, c6_z, c7_z, c8_z⟩, ⟨m2_z, m3_z, m4_z, m5_z, m6_z, m7_z, m8_z⟩, R3, R4, R5, R6, R7, R8, R9, R10⟩ := (R : rq T S x p 2 h g)
  obtain ⟨np, op, z1_z, z2_z, z3_z, z4_z, z5_z, z6_z, z7_z, z8_z, z9_z, z10_z⟩ := (Z : rs 2 h g)
  obtain ⟨nk1_z, nk2_z, nk3_z⟩ := A.2.2.2.2.2.1
  replace nk1_z : rg_v h 11 0 = rg_v g 164 44 := nk1_z
  replace nk2_z : 0 ≤ (rg_v h 11 0).toInt := nk2_z
  replace nk3_z : (rg_v h 11 0).toInt ≤ 64 := nk3_z
  replace z8_z : np.toInt ≤ (rg_v h 11 0).toInt + op.toInt := z8_z
  obtain ⟨kn, ekn⟩ : ∃ v, rg_v h 11 0 = v := ⟨_, rfl⟩
  rw [ekn] at nk1_z nk2_z nk3_z z8_z
  have e9_z := rt_c1 (x := kn) (by omega) (by omega)
  replace hc_z := rn_aload_n (am_cur_of (i := (0, 1, .aload_n 0, (0, 0, 0), 0)) (by decide +kernel)) g0_z hc_z
  replace hc_z := rn_bipush (w := 41) (am_cur_of (i := (1, 2, .bipush 41, (0, 0, 0), 0)) (by decide +kernel)) (by decide) hc_z
  replace hc_z := rn_callV (M' := am_m45) (o := 44) (ar := [.int 41]) (rest := []) (L := lv_args 0 [.ref 44, .int 41]) (am_cur_of (i := (3, 3, .invokevirtual 105, (45, 834, 3), 0)) (by decide +kernel)) rfl rfl rfl rfl hc_z
  obtain ⟨r5416_z, h5417_z, q5418_z, hc_z⟩ := hc_z
  obtain ⟨rfl, yq5418_z⟩ := rp_mkN (fun q => absurd (Eq.trans (Eq.symm ka) q.1) (by decide)) q5418_z
  subst yq5418_z
  replace hc_z : rn _ _ _ _ [.int 0] _ _ _ := hc_z
  replace hc_z := rn_ifT (am_cur_of (i := (6, 3, .ifCond .eq 45, (28, 0, 0), 0)) (by decide +kernel)) (by decide) hc_z
  replace hc_z := rn_aload_n (am_cur_of (i := (51, 1, .aload_n 0, (0, 0, 0), 0)) (by decide +kernel)) g0_z hc_z
  replace hc_z := rn_getI (v := 6) (am_cur_of (i := (52, 3, .getfield 60, (4, 10, 419), 0)) (by decide +kernel)) (by decide +kernel) ka hc_z
  replace hc_z := rn_bipush (w := 6) (am_cur_of (i := (55, 2, .bipush 6, (0, 0, 0), 0)) (by decide +kernel)) (by decide) hc_z
  replace hc_z := rn_cmpF (am_cur_of (i := (57, 3, .if_icmp .ne 11, (36, 0, 0), 0)) (by decide +kernel)) (by decide) hc_z
  replace hc_z := rn_aload_n (am_cur_of (i := (60, 1, .aload_n 0, (0, 0, 0), 0)) (by decide +kernel)) g0_z hc_z
  replace hc_z := rn_getI (v := 12) (am_cur_of (i := (61, 3, .getfield 91, (4, 11, 420), 0)) (by decide +kernel)) (by decide +kernel) kb hc_z
  replace hc_z := rn_iconst (w := 5) (am_cur_of (i := (64, 1, .iconst 5, (0, 0, 0), 0)) (by decide +kernel)) (by decide) hc_z
  replace hc_z := rn_cmpT (am_cur_of (i := (65, 3, .if_icmp .ne 17, (44, 0, 0), 0)) (by decide +kernel)) (by decide) hc_z
  replace hc_z := rn_aload_n (am_cur_of (i := (82, 1, .aload_n 0, (0, 0, 0), 0)) (by decide +kernel)) g0_z hc_z
  replace hc_z := rn_getI (v := 12) (am_cur_of (i := (83, 3, .getfield 91, (4, 11, 420), 0)) (by decide +kernel)) (by decide +kernel) kb hc_z
  replace hc_z := rn_istore_n (am_cur_of (i := (86, 1, .istore_n 1, (0, 0, 0), 0)) (by decide +kernel)) hc_z
  obtain ⟨_, s5419_z, s5420_z, g1_z, hc_z⟩ := hc_z
  replace g0_z := s5419_z 0 _ (by decide) rfl g0_z
  clear s5419_z s5420_z
  replace hc_z := rn_iload_n (am_cur_of (i := (87, 1, .iload_n 1, (0, 0, 0), 0)) (by decide +kernel)) g1_z hc_z
  replace hc_z := rn_callS (M' := am_m47) (ar := [.int 12]) (rest := []) (L := lv_args 0 [.int 12]) (am_cur_of (i := (88, 3, .invokestatic 283, (47, 842, 3), 0)) (by decide +kernel)) rfl rfl rfl rfl hc_z
  obtain ⟨r5421_z, h5422_z, q5423_z, hc_z⟩ := hc_z
  obtain ⟨rfl, yq5423_z⟩ := rs_rankC q5423_z
  replace yq5423_z := yq5423_z.symm
  subst yq5423_z
  rw [show rk_C 12 = 12 by decide] at hc_z
  replace hc_z : rn _ _ _ _ [.int 12] _ _ _ := hc_z
  replace hc_z := rn_bipush (w := 6) (am_cur_of (i := (91, 2, .bipush 6, (0, 0, 0), 0)) (by decide +kernel)) (by decide) hc_z
  replace hc_z := rn_callS (M' := am_m47) (ar := [.int 6]) (rest := [.int 12]) (L := lv_args 0 [.int 6]) (am_cur_of (i := (93, 3, .invokestatic 283, (47, 842, 3), 0)) (by decide +kernel)) rfl rfl rfl rfl hc_z
  obtain ⟨r5424_z, h5425_z, q5426_z, hc_z⟩ := hc_z
  obtain ⟨rfl, yq5426_z⟩ := rs_rankC q5426_z
  replace yq5426_z := yq5426_z.symm
  subst yq5426_z
  rw [show rk_C 6 = 6 by decide] at hc_z
  replace hc_z : rn _ _ _ _ [.int 6, .int 12] _ _ _ := hc_z
  replace hc_z := rn_cmpT (am_cur_of (i := (96, 3, .if_icmp .ne 46, (73, 0, 0), 0)) (by decide +kernel)) (by decide) hc_z
  replace hc_z := rn_aload_n (am_cur_of (i := (142, 1, .aload_n 0, (0, 0, 0), 0)) (by decide +kernel)) g0_z hc_z
  replace hc_z := rn_iload_n (am_cur_of (i := (143, 1, .iload_n 1, (0, 0, 0), 0)) (by decide +kernel)) g1_z hc_z
  replace hc_z := rn_callV (M' := am_m46) (o := 44) (ar := [.int 12]) (rest := []) (L := lv_args 0 [.ref 44, .int 12]) (am_cur_of (i := (144, 3, .invokevirtual 264, (46, 838, 3), 0)) (by decide +kernel)) rfl rfl rfl rfl hc_z
  obtain ⟨r5427_z, h5428_z, q5429_z, hc_z⟩ := hc_z
  replace hm_z := rn_aload_n (am_cur_of (i := (0, 1, .aload_n 0, (0, 0, 0), 0)) (by decide +kernel)) g0m hm_z
  replace hm_z := rn_bipush (w := 41) (am_cur_of (i := (1, 2, .bipush 41, (0, 0, 0), 0)) (by decide +kernel)) (by decide) hm_z
  replace hm_z := rn_callV (M' := am_m171) (o := 164) (ar := [.int 41]) (rest := []) (L := lv_args 0 [.ref 164, .int 41]) (am_cur_of (i := (3, 3, .invokevirtual 194, (171, 1715, 3), 0)) (by decide +kernel)) rfl rfl rfl rfl hm_z
  obtain ⟨r5430_z, h5431_z, q5432_z, hm_z⟩ := hm_z
  obtain ⟨rfl, yq5432_z⟩ := rp_sgN (fun q => absurd (Eq.trans (Eq.symm kd) q.2) (by decide)) q5432_z
  subst yq5432_z
  replace hm_z : rn _ _ _ _ [.int 0] _ _ _ := hm_z
  replace hm_z := rn_ifT (am_cur_of (i := (6, 3, .ifCond .eq 41, (26, 0, 0), 0)) (by decide +kernel)) (by decide) hm_z
  replace hm_z := rn_aload_n (am_cur_of (i := (47, 1, .aload_n 0, (0, 0, 0), 0)) (by decide +kernel)) g0m hm_z
  replace hm_z := rn_bipush (w := 12) (am_cur_of (i := (48, 2, .bipush 12, (0, 0, 0), 0)) (by decide +kernel)) (by decide) hm_z
  replace hm_z := rn_callV (M' := am_m174) (o := 164) (ar := [.int 12]) (rest := []) (L := lv_args 0 [.ref 164, .int 12]) (am_cur_of (i := (50, 3, .invokevirtual 306, (174, 1727, 3), 0)) (by decide +kernel)) rfl rfl rfl rfl hm_z
  obtain ⟨r5433_z, h5434_z, q5435_z, hm_z⟩ := hm_z
  obtain ⟨rfl, yq5435_z⟩ := rp_kyN (fun q => absurd (Eq.trans (Eq.symm kc) q.1) (by decide)) q5435_z
  subst yq5435_z
  replace hm_z : rn _ _ _ _ [.int 0] _ _ _ := hm_z
  replace hm_z := rn_ifT (am_cur_of (i := (53, 3, .ifCond .eq 7, (32, 0, 0), 0)) (by decide +kernel)) (by decide) hm_z
  replace hm_z := rn_aload_n (am_cur_of (i := (60, 1, .aload_n 0, (0, 0, 0), 0)) (by decide +kernel)) g0m hm_z
  replace hm_z := rn_bipush (w := 13) (am_cur_of (i := (61, 2, .bipush 13, (0, 0, 0), 0)) (by decide +kernel)) (by decide) hm_z
  replace hm_z := rn_callV (M' := am_m174) (o := 164) (ar := [.int 13]) (rest := []) (L := lv_args 0 [.ref 164, .int 13]) (am_cur_of (i := (63, 3, .invokevirtual 306, (174, 1727, 3), 0)) (by decide +kernel)) rfl rfl rfl rfl hm_z
  obtain ⟨r5436_z, h5437_z, q5438_z, hm_z⟩ := hm_z
  obtain ⟨rfl, yq5438_z⟩ := rp_kyN (fun q => absurd (Eq.trans (Eq.symm kc) q.1) (by decide)) q5438_z
  subst yq5438_z
  replace hm_z : rn _ _ _ _ [.int 0] _ _ _ := hm_z
  replace hm_z := rn_ifT (am_cur_of (i := (66, 3, .ifCond .eq 7, (38, 0, 0), 0)) (by decide +kernel)) (by decide) hm_z
  replace hm_z := rn_aload_n (am_cur_of (i := (73, 1, .aload_n 0, (0, 0, 0), 0)) (by decide +kernel)) g0m hm_z
  replace hm_z := rn_getI (v := 4) (am_cur_of (i := (74, 3, .getfield 157, (12, 8, 1392), 0)) (by decide +kernel)) (by decide +kernel) kc hm_z
  replace hm_z := rn_iconst (w := 5) (am_cur_of (i := (77, 1, .iconst 5, (0, 0, 0), 0)) (by decide +kernel)) (by decide) hm_z
  replace hm_z := rn_cmpT (am_cur_of (i := (78, 3, .if_icmp .ne 12, (47, 0, 0), 0)) (by decide +kernel)) (by decide) hm_z
  replace hm_z := rn_aload_n (am_cur_of (i := (90, 1, .aload_n 0, (0, 0, 0), 0)) (by decide +kernel)) g0m hm_z
  replace hm_z := rn_bipush (w := 43) (am_cur_of (i := (91, 2, .bipush 43, (0, 0, 0), 0)) (by decide +kernel)) (by decide) hm_z
  replace hm_z := rn_callV (M' := am_m171) (o := 164) (ar := [.int 43]) (rest := []) (L := lv_args 0 [.ref 164, .int 43]) (am_cur_of (i := (93, 3, .invokevirtual 194, (171, 1715, 3), 0)) (by decide +kernel)) rfl rfl rfl rfl hm_z
  obtain ⟨r5439_z, h5440_z, q5441_z, hm_z⟩ := hm_z
  obtain ⟨rfl, yq5441_z⟩ := rp_sgT kc kd q5441_z
  subst yq5441_z
  replace hm_z : rn _ _ _ _ [.int 1] _ _ _ := hm_z
  replace hm_z := rn_ifF (am_cur_of (i := (96, 3, .ifCond .eq 8, (53, 0, 0), 0)) (by decide +kernel)) (by decide) hm_z
  replace hm_z := rn_bipush (w := 11) (am_cur_of (i := (99, 2, .bipush 11, (0, 0, 0), 0)) (by decide +kernel)) (by decide) hm_z
  replace hm_z := rn_goto (am_cur_of (i := (101, 3, .goto 46, (72, 0, 0), 0)) (by decide +kernel)) hm_z
  replace hm_z := rn_istore_n (am_cur_of (i := (147, 1, .istore_n 1, (0, 0, 0), 0)) (by decide +kernel)) hm_z
  obtain ⟨_, s5442_z, s5443_z, g1m, hm_z⟩ := hm_z
  replace g0m := s5442_z 0 _ (by decide) rfl g0m
  clear s5442_z s5443_z
  replace hm_z := rn_iload_n (am_cur_of (i := (148, 1, .iload_n 1, (0, 0, 0), 0)) (by decide +kernel)) g1m hm_z
  replace hm_z := rn_ifT (am_cur_of (i := (149, 3, .ifCond .ne 9, (79, 0, 0), 0)) (by decide +kernel)) (by decide) hm_z
  replace hm_z := rn_aload_n (am_cur_of (i := (158, 1, .aload_n 0, (0, 0, 0), 0)) (by decide +kernel)) g0m hm_z
  replace hm_z := rn_iload_n (am_cur_of (i := (159, 1, .iload_n 1, (0, 0, 0), 0)) (by decide +kernel)) g1m hm_z
  replace hm_z := rn_callS (M' := am_m180) (ar := [.int 11]) (rest := [.ref 164]) (L := lv_args 0 [.int 11]) (am_cur_of (i := (160, 3, .invokestatic 283, (180, 1751, 3), 0)) (by decide +kernel)) rfl rfl rfl rfl hm_z
  obtain ⟨r5444_z, h5445_z, q5446_z, hm_z⟩ := hm_z
  obtain ⟨rfl, yq5446_z⟩ := rs_rankM q5446_z
  replace yq5446_z := yq5446_z.symm
  subst yq5446_z
  rw [show rk_M 11 = 5 by decide] at hm_z
  replace hm_z : rn _ _ _ _ [.int 5, .ref 164] _ _ _ := hm_z
  replace hm_z := rn_iconst (w := 4) (am_cur_of (i := (163, 1, .iconst 4, (0, 0, 0), 0)) (by decide +kernel)) (by decide) hm_z
  replace hm_z := rn_cmpT (am_cur_of (i := (164, 3, .if_icmp .ne 7, (86, 0, 0), 0)) (by decide +kernel)) (by decide) hm_z
  replace hm_z := rn_iload_n (am_cur_of (i := (171, 1, .iload_n 1, (0, 0, 0), 0)) (by decide +kernel)) g1m hm_z
  replace hm_z := rn_callS (M' := am_m180) (ar := [.int 11]) (rest := [.ref 164]) (L := lv_args 0 [.int 11]) (am_cur_of (i := (172, 3, .invokestatic 283, (180, 1751, 3), 0)) (by decide +kernel)) rfl rfl rfl rfl hm_z
  obtain ⟨r5447_z, h5448_z, q5449_z, hm_z⟩ := hm_z
  obtain ⟨rfl, yq5449_z⟩ := rs_rankM q5449_z
  replace yq5449_z := yq5449_z.symm
  subst yq5449_z
  rw [show rk_M 11 = 5 by decide] at hm_z
  replace hm_z : rn _ _ _ _ [.int 5, .ref 164] _ _ _ := hm_z
  replace hm_z := rn_callV (M' := am_m179) (o := 164) (ar := [.int 5]) (rest := []) (L := lv_args 0 [.ref 164, .int 5]) (am_cur_of (i := (175, 3, .invokevirtual 318, (179, 1747, 3), 0)) (by decide +kernel)) rfl rfl rfl rfl hm_z
  obtain ⟨r5450_z, h5451_z, q5452_z, hm_z⟩ := hm_z
  obtain ⟨rfl, rfl, FC, FM, R, A, B, Z, nq, e13_z, hst⟩ := rz_set2 (show rs_l 12 5 from by have q := rs_lo (c := 12) (k := 11) (by unfold rs_o; decide); rw [show rk_M 11 = 5 by decide] at q; exact q) (by decide) Rk A B Zk q5429_z q5452_z
  have Zq := Z
  obtain ⟨np, op, z1_z, z2_z, z3_z, z4_z, z5_z, z6_z, z7_z, z8_z, z9_z, z10_z⟩ := Zq
  obtain rfl : np = nq := z1_z.symm.trans e13_z
  replace hm_z : rn _ _ _ _ [] _ _ _ := hm_z
  replace hc_z : rn _ _ _ _ [] _ _ _ := hc_z
  have cn := rt_cl z3_z
  have zz1_z : (1 : Int32).toInt = 1 := by decide
  have n31_z := (ab_32 np).2
  have y1_z := ab_isub (x := np) (y := 1) (by omega) (by omega)
  replace hm_z := rn_iload_n (am_cur_of (i := (178, 1, .iload_n 1, (0, 0, 0), 0)) (by decide +kernel)) g1m hm_z
  replace hm_z := rn_callS (M' := am_m180) (ar := [.int 11]) (rest := []) (L := lv_args 0 [.int 11]) (am_cur_of (i := (179, 3, .invokestatic 283, (180, 1751, 3), 0)) (by decide +kernel)) rfl rfl rfl rfl hm_z
  obtain ⟨r5453_z, h5454_z, q5455_z, hm_z⟩ := hm_z
  obtain ⟨rfl, yq5455_z⟩ := rs_rankM q5455_z
  replace yq5455_z := yq5455_z.symm
  subst yq5455_z
  rw [show rk_M 11 = 5 by decide] at hm_z
  replace hm_z : rn _ _ _ _ [.int 5] _ _ _ := hm_z
  replace hm_z := rn_iconst (w := 4) (am_cur_of (i := (182, 1, .iconst 4, (0, 0, 0), 0)) (by decide +kernel)) (by decide) hm_z
  replace hm_z := rn_cmpT (am_cur_of (i := (183, 3, .if_icmp .ne 34, (110, 0, 0), 0)) (by decide +kernel)) (by decide) hm_z
  exact Or.inl (rj_t12_2 R A B Z g0_z g1_z g0m g1m hc_z hm_z)
theorem rj_c25_2 {T : Nat → Int32} {S x p : Int32} {n n' : Nat} {h h' g g' : am_H} {r r' : Option Value} (R : rq T S x p 2 h g) (A : rp 2 h g) (B : rp_t h g) (Z : rs 2 h g) (w0_z : rg_v g 164 45 = 0) (ka : (rg_v h 44 10) = 6) (kc : (rg_v g 164 8) = 4) (kb : (rg_v h 44 11) = 13) (kd : (rg_v g 164 9) = 45) (hc_z : rn n am_m44 0 (lv_args 0 [.ref 44]) [] h r h') (hm_z : rn n' am_m178 0 (lv_args 0 [.ref 164]) [] g r' g') : rj_Q T S x p 2 h g h' g' r r' := by
  have g0_z : am_get (lv_args 0 [.ref 44]) 0 = some (.ref 44) := rfl
  have g0m : am_get (lv_args 0 [.ref 164]) 0 = some (.ref 164) := rfl
  have Rk := R
  have Zk := Z
  obtain ⟨⟨c1_z, c2_z, c3_z, c4_z, c5_z, c6_z, c7_z, c8_z⟩, ⟨m2_z, m3_z, m4_z, m5_z, m6_z, m7_z, m8_z⟩, R3, R4, R5, R6, R7, R8, R9, R10⟩ := (R : rq T S x p 2 h g)
  obtain ⟨np, op, z1_z, z2_z, z3_z, z4_z, z5_z, z6_z, z7_z, z8_z, z9_z, z10_z⟩ := (Z : rs 2 h g)
  obtain ⟨nk1_z, nk2_z, nk3_z⟩ := A.2.2.2.2.2.1
  replace nk1_z : rg_v h 11 0 = rg_v g 164 44 := nk1_z
  replace nk2_z : 0 ≤ (rg_v h 11 0).toInt := nk2_z
  replace nk3_z : (rg_v h 11 0).toInt ≤ 64 := nk3_z
  replace z8_z : np.toInt ≤ (rg_v h 11 0).toInt + op.toInt := z8_z
  obtain ⟨kn, ekn⟩ : ∃ v, rg_v h 11 0 = v := ⟨_, rfl⟩
  rw [ekn] at nk1_z nk2_z nk3_z z8_z
  have e9_z := rt_c1 (x := kn) (by omega) (by omega)
  replace hc_z := rn_aload_n (am_cur_of (i := (0, 1, .aload_n 0, (0, 0, 0), 0)) (by decide +kernel)) g0_z hc_z
  replace hc_z := rn_bipush (w := 41) (am_cur_of (i := (1, 2, .bipush 41, (0, 0, 0), 0)) (by decide +kernel)) (by decide) hc_z
  replace hc_z := rn_callV (M' := am_m45) (o := 44) (ar := [.int 41]) (rest := []) (L := lv_args 0 [.ref 44, .int 41]) (am_cur_of (i := (3, 3, .invokevirtual 105, (45, 834, 3), 0)) (by decide +kernel)) rfl rfl rfl rfl hc_z
  obtain ⟨r5456_z, h5457_z, q5458_z, hc_z⟩ := hc_z
  obtain ⟨rfl, yq5458_z⟩ := rp_mkN (fun q => absurd (Eq.trans (Eq.symm ka) q.1) (by decide)) q5458_z
  subst yq5458_z
  replace hc_z : rn _ _ _ _ [.int 0] _ _ _ := hc_z
  replace hc_z := rn_ifT (am_cur_of (i := (6, 3, .ifCond .eq 45, (28, 0, 0), 0)) (by decide +kernel)) (by decide) hc_z
  replace hc_z := rn_aload_n (am_cur_of (i := (51, 1, .aload_n 0, (0, 0, 0), 0)) (by decide +kernel)) g0_z hc_z
  replace hc_z := rn_getI (v := 6) (am_cur_of (i := (52, 3, .getfield 60, (4, 10, 419), 0)) (by decide +kernel)) (by decide +kernel) ka hc_z
  replace hc_z := rn_bipush (w := 6) (am_cur_of (i := (55, 2, .bipush 6, (0, 0, 0), 0)) (by decide +kernel)) (by decide) hc_z
  replace hc_z := rn_cmpF (am_cur_of (i := (57, 3, .if_icmp .ne 11, (36, 0, 0), 0)) (by decide +kernel)) (by decide) hc_z
  replace hc_z := rn_aload_n (am_cur_of (i := (60, 1, .aload_n 0, (0, 0, 0), 0)) (by decide +kernel)) g0_z hc_z
  replace hc_z := rn_getI (v := 13) (am_cur_of (i := (61, 3, .getfield 91, (4, 11, 420), 0)) (by decide +kernel)) (by decide +kernel) kb hc_z
  replace hc_z := rn_iconst (w := 5) (am_cur_of (i := (64, 1, .iconst 5, (0, 0, 0), 0)) (by decide +kernel)) (by decide) hc_z
  replace hc_z := rn_cmpT (am_cur_of (i := (65, 3, .if_icmp .ne 17, (44, 0, 0), 0)) (by decide +kernel)) (by decide) hc_z
  replace hc_z := rn_aload_n (am_cur_of (i := (82, 1, .aload_n 0, (0, 0, 0), 0)) (by decide +kernel)) g0_z hc_z
  replace hc_z := rn_getI (v := 13) (am_cur_of (i := (83, 3, .getfield 91, (4, 11, 420), 0)) (by decide +kernel)) (by decide +kernel) kb hc_z
  replace hc_z := rn_istore_n (am_cur_of (i := (86, 1, .istore_n 1, (0, 0, 0), 0)) (by decide +kernel)) hc_z
  obtain ⟨_, s5459_z, s5460_z, g1_z, hc_z⟩ := hc_z
  replace g0_z := s5459_z 0 _ (by decide) rfl g0_z
  clear s5459_z s5460_z
  replace hc_z := rn_iload_n (am_cur_of (i := (87, 1, .iload_n 1, (0, 0, 0), 0)) (by decide +kernel)) g1_z hc_z
  replace hc_z := rn_callS (M' := am_m47) (ar := [.int 13]) (rest := []) (L := lv_args 0 [.int 13]) (am_cur_of (i := (88, 3, .invokestatic 283, (47, 842, 3), 0)) (by decide +kernel)) rfl rfl rfl rfl hc_z
  obtain ⟨r5461_z, h5462_z, q5463_z, hc_z⟩ := hc_z
  obtain ⟨rfl, yq5463_z⟩ := rs_rankC q5463_z
  replace yq5463_z := yq5463_z.symm
  subst yq5463_z
  rw [show rk_C 13 = 12 by decide] at hc_z
  replace hc_z : rn _ _ _ _ [.int 12] _ _ _ := hc_z
  replace hc_z := rn_bipush (w := 6) (am_cur_of (i := (91, 2, .bipush 6, (0, 0, 0), 0)) (by decide +kernel)) (by decide) hc_z
  replace hc_z := rn_callS (M' := am_m47) (ar := [.int 6]) (rest := [.int 12]) (L := lv_args 0 [.int 6]) (am_cur_of (i := (93, 3, .invokestatic 283, (47, 842, 3), 0)) (by decide +kernel)) rfl rfl rfl rfl hc_z
  obtain ⟨r5464_z, h5465_z, q5466_z, hc_z⟩ := hc_z
  obtain ⟨rfl, yq5466_z⟩ := rs_rankC q5466_z
  replace yq5466_z := yq5466_z.symm
  subst yq5466_z
  rw [show rk_C 6 = 6 by decide] at hc_z
  replace hc_z : rn _ _ _ _ [.int 6, .int 12] _ _ _ := hc_z
  replace hc_z := rn_cmpT (am_cur_of (i := (96, 3, .if_icmp .ne 46, (73, 0, 0), 0)) (by decide +kernel)) (by decide) hc_z
  replace hc_z := rn_aload_n (am_cur_of (i := (142, 1, .aload_n 0, (0, 0, 0), 0)) (by decide +kernel)) g0_z hc_z
  replace hc_z := rn_iload_n (am_cur_of (i := (143, 1, .iload_n 1, (0, 0, 0), 0)) (by decide +kernel)) g1_z hc_z
  replace hc_z := rn_callV (M' := am_m46) (o := 44) (ar := [.int 13]) (rest := []) (L := lv_args 0 [.ref 44, .int 13]) (am_cur_of (i := (144, 3, .invokevirtual 264, (46, 838, 3), 0)) (by decide +kernel)) rfl rfl rfl rfl hc_z
  obtain ⟨r5467_z, h5468_z, q5469_z, hc_z⟩ := hc_z
  replace hm_z := rn_aload_n (am_cur_of (i := (0, 1, .aload_n 0, (0, 0, 0), 0)) (by decide +kernel)) g0m hm_z
  replace hm_z := rn_bipush (w := 41) (am_cur_of (i := (1, 2, .bipush 41, (0, 0, 0), 0)) (by decide +kernel)) (by decide) hm_z
  replace hm_z := rn_callV (M' := am_m171) (o := 164) (ar := [.int 41]) (rest := []) (L := lv_args 0 [.ref 164, .int 41]) (am_cur_of (i := (3, 3, .invokevirtual 194, (171, 1715, 3), 0)) (by decide +kernel)) rfl rfl rfl rfl hm_z
  obtain ⟨r5470_z, h5471_z, q5472_z, hm_z⟩ := hm_z
  obtain ⟨rfl, yq5472_z⟩ := rp_sgN (fun q => absurd (Eq.trans (Eq.symm kd) q.2) (by decide)) q5472_z
  subst yq5472_z
  replace hm_z : rn _ _ _ _ [.int 0] _ _ _ := hm_z
  replace hm_z := rn_ifT (am_cur_of (i := (6, 3, .ifCond .eq 41, (26, 0, 0), 0)) (by decide +kernel)) (by decide) hm_z
  replace hm_z := rn_aload_n (am_cur_of (i := (47, 1, .aload_n 0, (0, 0, 0), 0)) (by decide +kernel)) g0m hm_z
  replace hm_z := rn_bipush (w := 12) (am_cur_of (i := (48, 2, .bipush 12, (0, 0, 0), 0)) (by decide +kernel)) (by decide) hm_z
  replace hm_z := rn_callV (M' := am_m174) (o := 164) (ar := [.int 12]) (rest := []) (L := lv_args 0 [.ref 164, .int 12]) (am_cur_of (i := (50, 3, .invokevirtual 306, (174, 1727, 3), 0)) (by decide +kernel)) rfl rfl rfl rfl hm_z
  obtain ⟨r5473_z, h5474_z, q5475_z, hm_z⟩ := hm_z
  obtain ⟨rfl, yq5475_z⟩ := rp_kyN (fun q => absurd (Eq.trans (Eq.symm kc) q.1) (by decide)) q5475_z
  subst yq5475_z
  replace hm_z : rn _ _ _ _ [.int 0] _ _ _ := hm_z
  replace hm_z := rn_ifT (am_cur_of (i := (53, 3, .ifCond .eq 7, (32, 0, 0), 0)) (by decide +kernel)) (by decide) hm_z
  replace hm_z := rn_aload_n (am_cur_of (i := (60, 1, .aload_n 0, (0, 0, 0), 0)) (by decide +kernel)) g0m hm_z
  replace hm_z := rn_bipush (w := 13) (am_cur_of (i := (61, 2, .bipush 13, (0, 0, 0), 0)) (by decide +kernel)) (by decide) hm_z
  replace hm_z := rn_callV (M' := am_m174) (o := 164) (ar := [.int 13]) (rest := []) (L := lv_args 0 [.ref 164, .int 13]) (am_cur_of (i := (63, 3, .invokevirtual 306, (174, 1727, 3), 0)) (by decide +kernel)) rfl rfl rfl rfl hm_z
  obtain ⟨r5476_z, h5477_z, q5478_z, hm_z⟩ := hm_z
  obtain ⟨rfl, yq5478_z⟩ := rp_kyN (fun q => absurd (Eq.trans (Eq.symm kc) q.1) (by decide)) q5478_z
  subst yq5478_z
  replace hm_z : rn _ _ _ _ [.int 0] _ _ _ := hm_z
  replace hm_z := rn_ifT (am_cur_of (i := (66, 3, .ifCond .eq 7, (38, 0, 0), 0)) (by decide +kernel)) (by decide) hm_z
  replace hm_z := rn_aload_n (am_cur_of (i := (73, 1, .aload_n 0, (0, 0, 0), 0)) (by decide +kernel)) g0m hm_z
  replace hm_z := rn_getI (v := 4) (am_cur_of (i := (74, 3, .getfield 157, (12, 8, 1392), 0)) (by decide +kernel)) (by decide +kernel) kc hm_z
  replace hm_z := rn_iconst (w := 5) (am_cur_of (i := (77, 1, .iconst 5, (0, 0, 0), 0)) (by decide +kernel)) (by decide) hm_z
  replace hm_z := rn_cmpT (am_cur_of (i := (78, 3, .if_icmp .ne 12, (47, 0, 0), 0)) (by decide +kernel)) (by decide) hm_z
  replace hm_z := rn_aload_n (am_cur_of (i := (90, 1, .aload_n 0, (0, 0, 0), 0)) (by decide +kernel)) g0m hm_z
  replace hm_z := rn_bipush (w := 43) (am_cur_of (i := (91, 2, .bipush 43, (0, 0, 0), 0)) (by decide +kernel)) (by decide) hm_z
  replace hm_z := rn_callV (M' := am_m171) (o := 164) (ar := [.int 43]) (rest := []) (L := lv_args 0 [.ref 164, .int 43]) (am_cur_of (i := (93, 3, .invokevirtual 194, (171, 1715, 3), 0)) (by decide +kernel)) rfl rfl rfl rfl hm_z
  obtain ⟨r5479_z, h5480_z, q5481_z, hm_z⟩ := hm_z
  obtain ⟨rfl, yq5481_z⟩ := rp_sgN (fun q => absurd (Eq.trans (Eq.symm kd) q.2) (by decide)) q5481_z
  subst yq5481_z
  replace hm_z : rn _ _ _ _ [.int 0] _ _ _ := hm_z
  replace hm_z := rn_ifT (am_cur_of (i := (96, 3, .ifCond .eq 8, (53, 0, 0), 0)) (by decide +kernel)) (by decide) hm_z
  replace hm_z := rn_aload_n (am_cur_of (i := (104, 1, .aload_n 0, (0, 0, 0), 0)) (by decide +kernel)) g0m hm_z
  replace hm_z := rn_bipush (w := 45) (am_cur_of (i := (105, 2, .bipush 45, (0, 0, 0), 0)) (by decide +kernel)) (by decide) hm_z
  replace hm_z := rn_callV (M' := am_m171) (o := 164) (ar := [.int 45]) (rest := []) (L := lv_args 0 [.ref 164, .int 45]) (am_cur_of (i := (107, 3, .invokevirtual 194, (171, 1715, 3), 0)) (by decide +kernel)) rfl rfl rfl rfl hm_z
  obtain ⟨r5482_z, h5483_z, q5484_z, hm_z⟩ := hm_z
  obtain ⟨rfl, yq5484_z⟩ := rp_sgT kc kd q5484_z
  subst yq5484_z
  replace hm_z : rn _ _ _ _ [.int 1] _ _ _ := hm_z
  replace hm_z := rn_ifF (am_cur_of (i := (110, 3, .ifCond .eq 8, (59, 0, 0), 0)) (by decide +kernel)) (by decide) hm_z
  replace hm_z := rn_bipush (w := 12) (am_cur_of (i := (113, 2, .bipush 12, (0, 0, 0), 0)) (by decide +kernel)) (by decide) hm_z
  replace hm_z := rn_goto (am_cur_of (i := (115, 3, .goto 32, (72, 0, 0), 0)) (by decide +kernel)) hm_z
  replace hm_z := rn_istore_n (am_cur_of (i := (147, 1, .istore_n 1, (0, 0, 0), 0)) (by decide +kernel)) hm_z
  obtain ⟨_, s5485_z, s5486_z, g1m, hm_z⟩ := hm_z
  replace g0m := s5485_z 0 _ (by decide) rfl g0m
  clear s5485_z s5486_z
  replace hm_z := rn_iload_n (am_cur_of (i := (148, 1, .iload_n 1, (0, 0, 0), 0)) (by decide +kernel)) g1m hm_z
  replace hm_z := rn_ifT (am_cur_of (i := (149, 3, .ifCond .ne 9, (79, 0, 0), 0)) (by decide +kernel)) (by decide) hm_z
  replace hm_z := rn_aload_n (am_cur_of (i := (158, 1, .aload_n 0, (0, 0, 0), 0)) (by decide +kernel)) g0m hm_z
  replace hm_z := rn_iload_n (am_cur_of (i := (159, 1, .iload_n 1, (0, 0, 0), 0)) (by decide +kernel)) g1m hm_z
  replace hm_z := rn_callS (M' := am_m180) (ar := [.int 12]) (rest := [.ref 164]) (L := lv_args 0 [.int 12]) (am_cur_of (i := (160, 3, .invokestatic 283, (180, 1751, 3), 0)) (by decide +kernel)) rfl rfl rfl rfl hm_z
  obtain ⟨r5487_z, h5488_z, q5489_z, hm_z⟩ := hm_z
  obtain ⟨rfl, yq5489_z⟩ := rs_rankM q5489_z
  replace yq5489_z := yq5489_z.symm
  subst yq5489_z
  rw [show rk_M 12 = 5 by decide] at hm_z
  replace hm_z : rn _ _ _ _ [.int 5, .ref 164] _ _ _ := hm_z
  replace hm_z := rn_iconst (w := 4) (am_cur_of (i := (163, 1, .iconst 4, (0, 0, 0), 0)) (by decide +kernel)) (by decide) hm_z
  replace hm_z := rn_cmpT (am_cur_of (i := (164, 3, .if_icmp .ne 7, (86, 0, 0), 0)) (by decide +kernel)) (by decide) hm_z
  replace hm_z := rn_iload_n (am_cur_of (i := (171, 1, .iload_n 1, (0, 0, 0), 0)) (by decide +kernel)) g1m hm_z
  replace hm_z := rn_callS (M' := am_m180) (ar := [.int 12]) (rest := [.ref 164]) (L := lv_args 0 [.int 12]) (am_cur_of (i := (172, 3, .invokestatic 283, (180, 1751, 3), 0)) (by decide +kernel)) rfl rfl rfl rfl hm_z
  obtain ⟨r5490_z, h5491_z, q5492_z, hm_z⟩ := hm_z
  obtain ⟨rfl, yq5492_z⟩ := rs_rankM q5492_z
  replace yq5492_z := yq5492_z.symm
  subst yq5492_z
  rw [show rk_M 12 = 5 by decide] at hm_z
  replace hm_z : rn _ _ _ _ [.int 5, .ref 164] _ _ _ := hm_z
  replace hm_z := rn_callV (M' := am_m179) (o := 164) (ar := [.int 5]) (rest := []) (L := lv_args 0 [.ref 164, .int 5]) (am_cur_of (i := (175, 3, .invokevirtual 318, (179, 1747, 3), 0)) (by decide +kernel)) rfl rfl rfl rfl hm_z
  obtain ⟨r5493_z, h5494_z, q5495_z, hm_z⟩ := hm_z
  obtain ⟨rfl, rfl, FC, FM, R, A, B, Z, nq, e13_z, hst⟩ := rz_set2 (show rs_l 13 5 from by have q := rs_lo (c := 13) (k := 12) (by unfold rs_o; decide); rw [show rk_M 12 = 5 by decide] at q; exact q) (by decide) Rk A B Zk q5469_z q5495_z
  have Zq := Z
  obtain ⟨np, op, z1_z, z2_z, z3_z, z4_z, z5_z, z6_z, z7_z, z8_z, z9_z, z10_z⟩ := Zq
  obtain rfl : np = nq := z1_z.symm.trans e13_z
  replace hm_z : rn _ _ _ _ [] _ _ _ := hm_z
  replace hc_z : rn _ _ _ _ [] _ _ _ := hc_z
  have cn := rt_cl z3_z
  have zz1_z : (1 : Int32).toInt = 1 := by decide
  have n31_z := (ab_32 np).2
  have y1_z := ab_isub (x := np) (y := 1) (by omega) (by omega)
  replace hm_z := rn_iload_n (am_cur_of (i := (178, 1, .iload_n 1, (0, 0, 0), 0)) (by decide +kernel)) g1m hm_z
  replace hm_z := rn_callS (M' := am_m180) (ar := [.int 12]) (rest := []) (L := lv_args 0 [.int 12]) (am_cur_of (i := (179, 3, .invokestatic 283, (180, 1751, 3), 0)) (by decide +kernel)) rfl rfl rfl rfl hm_z
  obtain ⟨r5496_z, h5497_z, q5498_z, hm_z⟩ := hm_z
  obtain ⟨rfl, yq5498_z⟩ := rs_rankM q5498_z
  replace yq5498_z := yq5498_z.symm
  subst yq5498_z
  rw [show rk_M 12 = 5 by decide] at hm_z
  replace hm_z : rn _ _ _ _ [.int 5] _ _ _ := hm_z
  replace hm_z := rn_iconst (w := 4) (am_cur_of (i := (182, 1, .iconst 4, (0, 0, 0), 0)) (by decide +kernel)) (by decide) hm_z
  replace hm_z := rn_cmpT (am_cur_of (i := (183, 3, .if_icmp .ne 34, (110, 0, 0), 0)) (by decide +kernel)) (by decide) hm_z
  exact Or.inl (rj_t13_2 R A B Z g0_z g1_z g0m g1m hc_z hm_z)
theorem rj_c26_2 {T : Nat → Int32} {S x p : Int32} {n n' : Nat} {h h' g g' : am_H} {r r' : Option Value} (R : rq T S x p 2 h g) (A : rp 2 h g) (B : rp_t h g) (Z : rs 2 h g) (w0_z : rg_v g 164 45 = 0) (ka : (rg_v h 44 10) = 6) (kc : (rg_v g 164 8) = 4) (kb : (rg_v h 44 11) = 14) (kd : (rg_v g 164 9) = 42) (hc_z : rn n am_m44 0 (lv_args 0 [.ref 44]) [] h r h') (hm_z : rn n' am_m178 0 (lv_args 0 [.ref 164]) [] g r' g') : rj_Q T S x p 2 h g h' g' r r' := by
  have g0_z : am_get (lv_args 0 [.ref 44]) 0 = some (.ref 44) := rfl
  have g0m : am_get (lv_args 0 [.ref 164]) 0 = some (.ref 164) := rfl
  have Rk := R
  have Zk := Z
  obtain ⟨⟨c1_z, c2_z, c3_z, c4_z, c5_z, c6_z, c7_z, c8_z⟩, ⟨m2_z, m3_z, m4_z, m5_z, m6_z, m7_z, m8_z⟩, R3, R4, R5, R6, R7, R8, R9, R10⟩ := (R : rq T S x p 2 h g)
  obtain ⟨np, op, z1_z, z2_z, z3_z, z4_z, z5_z, z6_z, z7_z, z8_z, z9_z, z10_z⟩ := (Z : rs 2 h g)
  obtain ⟨nk1_z, nk2_z, nk3_z⟩ := A.2.2.2.2.2.1
  replace nk1_z : rg_v h 11 0 = rg_v g 164 44 := nk1_z
  replace nk2_z : 0 ≤ (rg_v h 11 0).toInt := nk2_z
  replace nk3_z : (rg_v h 11 0).toInt ≤ 64 := nk3_z
  replace z8_z : np.toInt ≤ (rg_v h 11 0).toInt + op.toInt := z8_z
  obtain ⟨kn, ekn⟩ : ∃ v, rg_v h 11 0 = v := ⟨_, rfl⟩
  rw [ekn] at nk1_z nk2_z nk3_z z8_z
  have e9_z := rt_c1 (x := kn) (by omega) (by omega)
  replace hc_z := rn_aload_n (am_cur_of (i := (0, 1, .aload_n 0, (0, 0, 0), 0)) (by decide +kernel)) g0_z hc_z
  replace hc_z := rn_bipush (w := 41) (am_cur_of (i := (1, 2, .bipush 41, (0, 0, 0), 0)) (by decide +kernel)) (by decide) hc_z
  replace hc_z := rn_callV (M' := am_m45) (o := 44) (ar := [.int 41]) (rest := []) (L := lv_args 0 [.ref 44, .int 41]) (am_cur_of (i := (3, 3, .invokevirtual 105, (45, 834, 3), 0)) (by decide +kernel)) rfl rfl rfl rfl hc_z
  obtain ⟨r5499_z, h5500_z, q5501_z, hc_z⟩ := hc_z
  obtain ⟨rfl, yq5501_z⟩ := rp_mkN (fun q => absurd (Eq.trans (Eq.symm ka) q.1) (by decide)) q5501_z
  subst yq5501_z
  replace hc_z : rn _ _ _ _ [.int 0] _ _ _ := hc_z
  replace hc_z := rn_ifT (am_cur_of (i := (6, 3, .ifCond .eq 45, (28, 0, 0), 0)) (by decide +kernel)) (by decide) hc_z
  replace hc_z := rn_aload_n (am_cur_of (i := (51, 1, .aload_n 0, (0, 0, 0), 0)) (by decide +kernel)) g0_z hc_z
  replace hc_z := rn_getI (v := 6) (am_cur_of (i := (52, 3, .getfield 60, (4, 10, 419), 0)) (by decide +kernel)) (by decide +kernel) ka hc_z
  replace hc_z := rn_bipush (w := 6) (am_cur_of (i := (55, 2, .bipush 6, (0, 0, 0), 0)) (by decide +kernel)) (by decide) hc_z
  replace hc_z := rn_cmpF (am_cur_of (i := (57, 3, .if_icmp .ne 11, (36, 0, 0), 0)) (by decide +kernel)) (by decide) hc_z
  replace hc_z := rn_aload_n (am_cur_of (i := (60, 1, .aload_n 0, (0, 0, 0), 0)) (by decide +kernel)) g0_z hc_z
  replace hc_z := rn_getI (v := 14) (am_cur_of (i := (61, 3, .getfield 91, (4, 11, 420), 0)) (by decide +kernel)) (by decide +kernel) kb hc_z
  replace hc_z := rn_iconst (w := 5) (am_cur_of (i := (64, 1, .iconst 5, (0, 0, 0), 0)) (by decide +kernel)) (by decide) hc_z
  replace hc_z := rn_cmpT (am_cur_of (i := (65, 3, .if_icmp .ne 17, (44, 0, 0), 0)) (by decide +kernel)) (by decide) hc_z
  replace hc_z := rn_aload_n (am_cur_of (i := (82, 1, .aload_n 0, (0, 0, 0), 0)) (by decide +kernel)) g0_z hc_z
  replace hc_z := rn_getI (v := 14) (am_cur_of (i := (83, 3, .getfield 91, (4, 11, 420), 0)) (by decide +kernel)) (by decide +kernel) kb hc_z
  replace hc_z := rn_istore_n (am_cur_of (i := (86, 1, .istore_n 1, (0, 0, 0), 0)) (by decide +kernel)) hc_z
  obtain ⟨_, s5502_z, s5503_z, g1_z, hc_z⟩ := hc_z
  replace g0_z := s5502_z 0 _ (by decide) rfl g0_z
  clear s5502_z s5503_z
  replace hc_z := rn_iload_n (am_cur_of (i := (87, 1, .iload_n 1, (0, 0, 0), 0)) (by decide +kernel)) g1_z hc_z
  replace hc_z := rn_callS (M' := am_m47) (ar := [.int 14]) (rest := []) (L := lv_args 0 [.int 14]) (am_cur_of (i := (88, 3, .invokestatic 283, (47, 842, 3), 0)) (by decide +kernel)) rfl rfl rfl rfl hc_z
  obtain ⟨r5504_z, h5505_z, q5506_z, hc_z⟩ := hc_z
  obtain ⟨rfl, yq5506_z⟩ := rs_rankC q5506_z
  replace yq5506_z := yq5506_z.symm
  subst yq5506_z
  rw [show rk_C 14 = 14 by decide] at hc_z
  replace hc_z : rn _ _ _ _ [.int 14] _ _ _ := hc_z
  replace hc_z := rn_bipush (w := 6) (am_cur_of (i := (91, 2, .bipush 6, (0, 0, 0), 0)) (by decide +kernel)) (by decide) hc_z
  replace hc_z := rn_callS (M' := am_m47) (ar := [.int 6]) (rest := [.int 14]) (L := lv_args 0 [.int 6]) (am_cur_of (i := (93, 3, .invokestatic 283, (47, 842, 3), 0)) (by decide +kernel)) rfl rfl rfl rfl hc_z
  obtain ⟨r5507_z, h5508_z, q5509_z, hc_z⟩ := hc_z
  obtain ⟨rfl, yq5509_z⟩ := rs_rankC q5509_z
  replace yq5509_z := yq5509_z.symm
  subst yq5509_z
  rw [show rk_C 6 = 6 by decide] at hc_z
  replace hc_z : rn _ _ _ _ [.int 6, .int 14] _ _ _ := hc_z
  replace hc_z := rn_cmpT (am_cur_of (i := (96, 3, .if_icmp .ne 46, (73, 0, 0), 0)) (by decide +kernel)) (by decide) hc_z
  replace hc_z := rn_aload_n (am_cur_of (i := (142, 1, .aload_n 0, (0, 0, 0), 0)) (by decide +kernel)) g0_z hc_z
  replace hc_z := rn_iload_n (am_cur_of (i := (143, 1, .iload_n 1, (0, 0, 0), 0)) (by decide +kernel)) g1_z hc_z
  replace hc_z := rn_callV (M' := am_m46) (o := 44) (ar := [.int 14]) (rest := []) (L := lv_args 0 [.ref 44, .int 14]) (am_cur_of (i := (144, 3, .invokevirtual 264, (46, 838, 3), 0)) (by decide +kernel)) rfl rfl rfl rfl hc_z
  obtain ⟨r5510_z, h5511_z, q5512_z, hc_z⟩ := hc_z
  replace hm_z := rn_aload_n (am_cur_of (i := (0, 1, .aload_n 0, (0, 0, 0), 0)) (by decide +kernel)) g0m hm_z
  replace hm_z := rn_bipush (w := 41) (am_cur_of (i := (1, 2, .bipush 41, (0, 0, 0), 0)) (by decide +kernel)) (by decide) hm_z
  replace hm_z := rn_callV (M' := am_m171) (o := 164) (ar := [.int 41]) (rest := []) (L := lv_args 0 [.ref 164, .int 41]) (am_cur_of (i := (3, 3, .invokevirtual 194, (171, 1715, 3), 0)) (by decide +kernel)) rfl rfl rfl rfl hm_z
  obtain ⟨r5513_z, h5514_z, q5515_z, hm_z⟩ := hm_z
  obtain ⟨rfl, yq5515_z⟩ := rp_sgN (fun q => absurd (Eq.trans (Eq.symm kd) q.2) (by decide)) q5515_z
  subst yq5515_z
  replace hm_z : rn _ _ _ _ [.int 0] _ _ _ := hm_z
  replace hm_z := rn_ifT (am_cur_of (i := (6, 3, .ifCond .eq 41, (26, 0, 0), 0)) (by decide +kernel)) (by decide) hm_z
  replace hm_z := rn_aload_n (am_cur_of (i := (47, 1, .aload_n 0, (0, 0, 0), 0)) (by decide +kernel)) g0m hm_z
  replace hm_z := rn_bipush (w := 12) (am_cur_of (i := (48, 2, .bipush 12, (0, 0, 0), 0)) (by decide +kernel)) (by decide) hm_z
  replace hm_z := rn_callV (M' := am_m174) (o := 164) (ar := [.int 12]) (rest := []) (L := lv_args 0 [.ref 164, .int 12]) (am_cur_of (i := (50, 3, .invokevirtual 306, (174, 1727, 3), 0)) (by decide +kernel)) rfl rfl rfl rfl hm_z
  obtain ⟨r5516_z, h5517_z, q5518_z, hm_z⟩ := hm_z
  obtain ⟨rfl, yq5518_z⟩ := rp_kyN (fun q => absurd (Eq.trans (Eq.symm kc) q.1) (by decide)) q5518_z
  subst yq5518_z
  replace hm_z : rn _ _ _ _ [.int 0] _ _ _ := hm_z
  replace hm_z := rn_ifT (am_cur_of (i := (53, 3, .ifCond .eq 7, (32, 0, 0), 0)) (by decide +kernel)) (by decide) hm_z
  replace hm_z := rn_aload_n (am_cur_of (i := (60, 1, .aload_n 0, (0, 0, 0), 0)) (by decide +kernel)) g0m hm_z
  replace hm_z := rn_bipush (w := 13) (am_cur_of (i := (61, 2, .bipush 13, (0, 0, 0), 0)) (by decide +kernel)) (by decide) hm_z
  replace hm_z := rn_callV (M' := am_m174) (o := 164) (ar := [.int 13]) (rest := []) (L := lv_args 0 [.ref 164, .int 13]) (am_cur_of (i := (63, 3, .invokevirtual 306, (174, 1727, 3), 0)) (by decide +kernel)) rfl rfl rfl rfl hm_z
  obtain ⟨r5519_z, h5520_z, q5521_z, hm_z⟩ := hm_z
  obtain ⟨rfl, yq5521_z⟩ := rp_kyN (fun q => absurd (Eq.trans (Eq.symm kc) q.1) (by decide)) q5521_z
  subst yq5521_z
  replace hm_z : rn _ _ _ _ [.int 0] _ _ _ := hm_z
  replace hm_z := rn_ifT (am_cur_of (i := (66, 3, .ifCond .eq 7, (38, 0, 0), 0)) (by decide +kernel)) (by decide) hm_z
  replace hm_z := rn_aload_n (am_cur_of (i := (73, 1, .aload_n 0, (0, 0, 0), 0)) (by decide +kernel)) g0m hm_z
  replace hm_z := rn_getI (v := 4) (am_cur_of (i := (74, 3, .getfield 157, (12, 8, 1392), 0)) (by decide +kernel)) (by decide +kernel) kc hm_z
  replace hm_z := rn_iconst (w := 5) (am_cur_of (i := (77, 1, .iconst 5, (0, 0, 0), 0)) (by decide +kernel)) (by decide) hm_z
  replace hm_z := rn_cmpT (am_cur_of (i := (78, 3, .if_icmp .ne 12, (47, 0, 0), 0)) (by decide +kernel)) (by decide) hm_z
  replace hm_z := rn_aload_n (am_cur_of (i := (90, 1, .aload_n 0, (0, 0, 0), 0)) (by decide +kernel)) g0m hm_z
  replace hm_z := rn_bipush (w := 43) (am_cur_of (i := (91, 2, .bipush 43, (0, 0, 0), 0)) (by decide +kernel)) (by decide) hm_z
  replace hm_z := rn_callV (M' := am_m171) (o := 164) (ar := [.int 43]) (rest := []) (L := lv_args 0 [.ref 164, .int 43]) (am_cur_of (i := (93, 3, .invokevirtual 194, (171, 1715, 3), 0)) (by decide +kernel)) rfl rfl rfl rfl hm_z
  obtain ⟨r5522_z, h5523_z, q5524_z, hm_z⟩ := hm_z
  obtain ⟨rfl, yq5524_z⟩ := rp_sgN (fun q => absurd (Eq.trans (Eq.symm kd) q.2) (by decide)) q5524_z
  subst yq5524_z
  replace hm_z : rn _ _ _ _ [.int 0] _ _ _ := hm_z
  replace hm_z := rn_ifT (am_cur_of (i := (96, 3, .ifCond .eq 8, (53, 0, 0), 0)) (by decide +kernel)) (by decide) hm_z
  replace hm_z := rn_aload_n (am_cur_of (i := (104, 1, .aload_n 0, (0, 0, 0), 0)) (by decide +kernel)) g0m hm_z
  replace hm_z := rn_bipush (w := 45) (am_cur_of (i := (105, 2, .bipush 45, (0, 0, 0), 0)) (by decide +kernel)) (by decide) hm_z
  replace hm_z := rn_callV (M' := am_m171) (o := 164) (ar := [.int 45]) (rest := []) (L := lv_args 0 [.ref 164, .int 45]) (am_cur_of (i := (107, 3, .invokevirtual 194, (171, 1715, 3), 0)) (by decide +kernel)) rfl rfl rfl rfl hm_z
  obtain ⟨r5525_z, h5526_z, q5527_z, hm_z⟩ := hm_z
  obtain ⟨rfl, yq5527_z⟩ := rp_sgN (fun q => absurd (Eq.trans (Eq.symm kd) q.2) (by decide)) q5527_z
  subst yq5527_z
  replace hm_z : rn _ _ _ _ [.int 0] _ _ _ := hm_z
  replace hm_z := rn_ifT (am_cur_of (i := (110, 3, .ifCond .eq 8, (59, 0, 0), 0)) (by decide +kernel)) (by decide) hm_z
  replace hm_z := rn_aload_n (am_cur_of (i := (118, 1, .aload_n 0, (0, 0, 0), 0)) (by decide +kernel)) g0m hm_z
  replace hm_z := rn_bipush (w := 42) (am_cur_of (i := (119, 2, .bipush 42, (0, 0, 0), 0)) (by decide +kernel)) (by decide) hm_z
  replace hm_z := rn_callV (M' := am_m171) (o := 164) (ar := [.int 42]) (rest := []) (L := lv_args 0 [.ref 164, .int 42]) (am_cur_of (i := (121, 3, .invokevirtual 194, (171, 1715, 3), 0)) (by decide +kernel)) rfl rfl rfl rfl hm_z
  obtain ⟨r5528_z, h5529_z, q5530_z, hm_z⟩ := hm_z
  obtain ⟨rfl, yq5530_z⟩ := rp_sgT kc kd q5530_z
  subst yq5530_z
  replace hm_z : rn _ _ _ _ [.int 1] _ _ _ := hm_z
  replace hm_z := rn_ifF (am_cur_of (i := (124, 3, .ifCond .eq 8, (65, 0, 0), 0)) (by decide +kernel)) (by decide) hm_z
  replace hm_z := rn_bipush (w := 13) (am_cur_of (i := (127, 2, .bipush 13, (0, 0, 0), 0)) (by decide +kernel)) (by decide) hm_z
  replace hm_z := rn_goto (am_cur_of (i := (129, 3, .goto 18, (72, 0, 0), 0)) (by decide +kernel)) hm_z
  replace hm_z := rn_istore_n (am_cur_of (i := (147, 1, .istore_n 1, (0, 0, 0), 0)) (by decide +kernel)) hm_z
  obtain ⟨_, s5531_z, s5532_z, g1m, hm_z⟩ := hm_z
  replace g0m := s5531_z 0 _ (by decide) rfl g0m
  clear s5531_z s5532_z
  replace hm_z := rn_iload_n (am_cur_of (i := (148, 1, .iload_n 1, (0, 0, 0), 0)) (by decide +kernel)) g1m hm_z
  replace hm_z := rn_ifT (am_cur_of (i := (149, 3, .ifCond .ne 9, (79, 0, 0), 0)) (by decide +kernel)) (by decide) hm_z
  replace hm_z := rn_aload_n (am_cur_of (i := (158, 1, .aload_n 0, (0, 0, 0), 0)) (by decide +kernel)) g0m hm_z
  replace hm_z := rn_iload_n (am_cur_of (i := (159, 1, .iload_n 1, (0, 0, 0), 0)) (by decide +kernel)) g1m hm_z
  replace hm_z := rn_callS (M' := am_m180) (ar := [.int 13]) (rest := [.ref 164]) (L := lv_args 0 [.int 13]) (am_cur_of (i := (160, 3, .invokestatic 283, (180, 1751, 3), 0)) (by decide +kernel)) rfl rfl rfl rfl hm_z
  obtain ⟨r5533_z, h5534_z, q5535_z, hm_z⟩ := hm_z
  obtain ⟨rfl, yq5535_z⟩ := rs_rankM q5535_z
  replace yq5535_z := yq5535_z.symm
  subst yq5535_z
  rw [show rk_M 13 = 6 by decide] at hm_z
  replace hm_z : rn _ _ _ _ [.int 6, .ref 164] _ _ _ := hm_z
  replace hm_z := rn_iconst (w := 4) (am_cur_of (i := (163, 1, .iconst 4, (0, 0, 0), 0)) (by decide +kernel)) (by decide) hm_z
  replace hm_z := rn_cmpT (am_cur_of (i := (164, 3, .if_icmp .ne 7, (86, 0, 0), 0)) (by decide +kernel)) (by decide) hm_z
  replace hm_z := rn_iload_n (am_cur_of (i := (171, 1, .iload_n 1, (0, 0, 0), 0)) (by decide +kernel)) g1m hm_z
  replace hm_z := rn_callS (M' := am_m180) (ar := [.int 13]) (rest := [.ref 164]) (L := lv_args 0 [.int 13]) (am_cur_of (i := (172, 3, .invokestatic 283, (180, 1751, 3), 0)) (by decide +kernel)) rfl rfl rfl rfl hm_z
  obtain ⟨r5536_z, h5537_z, q5538_z, hm_z⟩ := hm_z
  obtain ⟨rfl, yq5538_z⟩ := rs_rankM q5538_z
  replace yq5538_z := yq5538_z.symm
  subst yq5538_z
  rw [show rk_M 13 = 6 by decide] at hm_z
  replace hm_z : rn _ _ _ _ [.int 6, .ref 164] _ _ _ := hm_z
  replace hm_z := rn_callV (M' := am_m179) (o := 164) (ar := [.int 6]) (rest := []) (L := lv_args 0 [.ref 164, .int 6]) (am_cur_of (i := (175, 3, .invokevirtual 318, (179, 1747, 3), 0)) (by decide +kernel)) rfl rfl rfl rfl hm_z
  obtain ⟨r5539_z, h5540_z, q5541_z, hm_z⟩ := hm_z
  obtain ⟨rfl, rfl, FC, FM, R, A, B, Z, nq, e13_z, hst⟩ := rz_set2 (show rs_l 14 6 from by have q := rs_lo (c := 14) (k := 13) (by unfold rs_o; decide); rw [show rk_M 13 = 6 by decide] at q; exact q) (by decide) Rk A B Zk q5512_z q5541_z
  have Zq := Z
  obtain ⟨np, op, z1_z, z2_z, z3_z, z4_z, z5_z, z6_z, z7_z, z8_z, z9_z, z10_z⟩ := Zq
  obtain rfl : np = nq := z1_z.symm.trans e13_z
  replace hm_z : rn _ _ _ _ [] _ _ _ := hm_z
  replace hc_z : rn _ _ _ _ [] _ _ _ := hc_z
  have cn := rt_cl z3_z
  have zz1_z : (1 : Int32).toInt = 1 := by decide
  have n31_z := (ab_32 np).2
  have y1_z := ab_isub (x := np) (y := 1) (by omega) (by omega)
  replace hm_z := rn_iload_n (am_cur_of (i := (178, 1, .iload_n 1, (0, 0, 0), 0)) (by decide +kernel)) g1m hm_z
  replace hm_z := rn_callS (M' := am_m180) (ar := [.int 13]) (rest := []) (L := lv_args 0 [.int 13]) (am_cur_of (i := (179, 3, .invokestatic 283, (180, 1751, 3), 0)) (by decide +kernel)) rfl rfl rfl rfl hm_z
  obtain ⟨r5542_z, h5543_z, q5544_z, hm_z⟩ := hm_z
  obtain ⟨rfl, yq5544_z⟩ := rs_rankM q5544_z
  replace yq5544_z := yq5544_z.symm
  subst yq5544_z
  rw [show rk_M 13 = 6 by decide] at hm_z
  replace hm_z : rn _ _ _ _ [.int 6] _ _ _ := hm_z
  replace hm_z := rn_iconst (w := 4) (am_cur_of (i := (182, 1, .iconst 4, (0, 0, 0), 0)) (by decide +kernel)) (by decide) hm_z
  replace hm_z := rn_cmpT (am_cur_of (i := (183, 3, .if_icmp .ne 34, (110, 0, 0), 0)) (by decide +kernel)) (by decide) hm_z
  exact Or.inl (rj_t14_2 R A B Z g0_z g1_z g0m g1m hc_z hm_z)
theorem rj_c27_2 {T : Nat → Int32} {S x p : Int32} {n n' : Nat} {h h' g g' : am_H} {r r' : Option Value} (R : rq T S x p 2 h g) (A : rp 2 h g) (B : rp_t h g) (Z : rs 2 h g) (w0_z : rg_v g 164 45 = 0) (ka : (rg_v h 44 10) = 6) (kc : (rg_v g 164 8) = 4) (kb : (rg_v h 44 11) = 15) (kd : (rg_v g 164 9) = 47) (hc_z : rn n am_m44 0 (lv_args 0 [.ref 44]) [] h r h') (hm_z : rn n' am_m178 0 (lv_args 0 [.ref 164]) [] g r' g') : rj_Q T S x p 2 h g h' g' r r' := by
  have g0_z : am_get (lv_args 0 [.ref 44]) 0 = some (.ref 44) := rfl
  have g0m : am_get (lv_args 0 [.ref 164]) 0 = some (.ref 164) := rfl
  have Rk := R
  have Zk := Z
  obtain ⟨⟨c1_z, c2_z, c3_z, c4_z, c5_z, c6_z, c7_z, c8_z⟩, ⟨m2_z, m3_z, m4_z, m5_z, m6_z, m7_z, m8_z⟩, R3, R4, R5, R6, R7, R8, R9, R10⟩ := (R : rq T S x p 2 h g)
  obtain ⟨np, op, z1_z, z2_z, z3_z, z4_z, z5_z, z6_z, z7_z, z8_z, z9_z, z10_z⟩ := (Z : rs 2 h g)
  obtain ⟨nk1_z, nk2_z, nk3_z⟩ := A.2.2.2.2.2.1
  replace nk1_z : rg_v h 11 0 = rg_v g 164 44 := nk1_z
  replace nk2_z : 0 ≤ (rg_v h 11 0).toInt := nk2_z
  replace nk3_z : (rg_v h 11 0).toInt ≤ 64 := nk3_z
  replace z8_z : np.toInt ≤ (rg_v h 11 0).toInt + op.toInt := z8_z
  obtain ⟨kn, ekn⟩ : ∃ v, rg_v h 11 0 = v := ⟨_, rfl⟩
  rw [ekn] at nk1_z nk2_z nk3_z z8_z
  have e9_z := rt_c1 (x := kn) (by omega) (by omega)
  replace hc_z := rn_aload_n (am_cur_of (i := (0, 1, .aload_n 0, (0, 0, 0), 0)) (by decide +kernel)) g0_z hc_z
  replace hc_z := rn_bipush (w := 41) (am_cur_of (i := (1, 2, .bipush 41, (0, 0, 0), 0)) (by decide +kernel)) (by decide) hc_z
  replace hc_z := rn_callV (M' := am_m45) (o := 44) (ar := [.int 41]) (rest := []) (L := lv_args 0 [.ref 44, .int 41]) (am_cur_of (i := (3, 3, .invokevirtual 105, (45, 834, 3), 0)) (by decide +kernel)) rfl rfl rfl rfl hc_z
  obtain ⟨r5545_z, h5546_z, q5547_z, hc_z⟩ := hc_z
  obtain ⟨rfl, yq5547_z⟩ := rp_mkN (fun q => absurd (Eq.trans (Eq.symm ka) q.1) (by decide)) q5547_z
  subst yq5547_z
  replace hc_z : rn _ _ _ _ [.int 0] _ _ _ := hc_z
  replace hc_z := rn_ifT (am_cur_of (i := (6, 3, .ifCond .eq 45, (28, 0, 0), 0)) (by decide +kernel)) (by decide) hc_z
  replace hc_z := rn_aload_n (am_cur_of (i := (51, 1, .aload_n 0, (0, 0, 0), 0)) (by decide +kernel)) g0_z hc_z
  replace hc_z := rn_getI (v := 6) (am_cur_of (i := (52, 3, .getfield 60, (4, 10, 419), 0)) (by decide +kernel)) (by decide +kernel) ka hc_z
  replace hc_z := rn_bipush (w := 6) (am_cur_of (i := (55, 2, .bipush 6, (0, 0, 0), 0)) (by decide +kernel)) (by decide) hc_z
  replace hc_z := rn_cmpF (am_cur_of (i := (57, 3, .if_icmp .ne 11, (36, 0, 0), 0)) (by decide +kernel)) (by decide) hc_z
  replace hc_z := rn_aload_n (am_cur_of (i := (60, 1, .aload_n 0, (0, 0, 0), 0)) (by decide +kernel)) g0_z hc_z
  replace hc_z := rn_getI (v := 15) (am_cur_of (i := (61, 3, .getfield 91, (4, 11, 420), 0)) (by decide +kernel)) (by decide +kernel) kb hc_z
  replace hc_z := rn_iconst (w := 5) (am_cur_of (i := (64, 1, .iconst 5, (0, 0, 0), 0)) (by decide +kernel)) (by decide) hc_z
  replace hc_z := rn_cmpT (am_cur_of (i := (65, 3, .if_icmp .ne 17, (44, 0, 0), 0)) (by decide +kernel)) (by decide) hc_z
  replace hc_z := rn_aload_n (am_cur_of (i := (82, 1, .aload_n 0, (0, 0, 0), 0)) (by decide +kernel)) g0_z hc_z
  replace hc_z := rn_getI (v := 15) (am_cur_of (i := (83, 3, .getfield 91, (4, 11, 420), 0)) (by decide +kernel)) (by decide +kernel) kb hc_z
  replace hc_z := rn_istore_n (am_cur_of (i := (86, 1, .istore_n 1, (0, 0, 0), 0)) (by decide +kernel)) hc_z
  obtain ⟨_, s5548_z, s5549_z, g1_z, hc_z⟩ := hc_z
  replace g0_z := s5548_z 0 _ (by decide) rfl g0_z
  clear s5548_z s5549_z
  replace hc_z := rn_iload_n (am_cur_of (i := (87, 1, .iload_n 1, (0, 0, 0), 0)) (by decide +kernel)) g1_z hc_z
  replace hc_z := rn_callS (M' := am_m47) (ar := [.int 15]) (rest := []) (L := lv_args 0 [.int 15]) (am_cur_of (i := (88, 3, .invokestatic 283, (47, 842, 3), 0)) (by decide +kernel)) rfl rfl rfl rfl hc_z
  obtain ⟨r5550_z, h5551_z, q5552_z, hc_z⟩ := hc_z
  obtain ⟨rfl, yq5552_z⟩ := rs_rankC q5552_z
  replace yq5552_z := yq5552_z.symm
  subst yq5552_z
  rw [show rk_C 15 = 14 by decide] at hc_z
  replace hc_z : rn _ _ _ _ [.int 14] _ _ _ := hc_z
  replace hc_z := rn_bipush (w := 6) (am_cur_of (i := (91, 2, .bipush 6, (0, 0, 0), 0)) (by decide +kernel)) (by decide) hc_z
  replace hc_z := rn_callS (M' := am_m47) (ar := [.int 6]) (rest := [.int 14]) (L := lv_args 0 [.int 6]) (am_cur_of (i := (93, 3, .invokestatic 283, (47, 842, 3), 0)) (by decide +kernel)) rfl rfl rfl rfl hc_z
  obtain ⟨r5553_z, h5554_z, q5555_z, hc_z⟩ := hc_z
  obtain ⟨rfl, yq5555_z⟩ := rs_rankC q5555_z
  replace yq5555_z := yq5555_z.symm
  subst yq5555_z
  rw [show rk_C 6 = 6 by decide] at hc_z
  replace hc_z : rn _ _ _ _ [.int 6, .int 14] _ _ _ := hc_z
  replace hc_z := rn_cmpT (am_cur_of (i := (96, 3, .if_icmp .ne 46, (73, 0, 0), 0)) (by decide +kernel)) (by decide) hc_z
  replace hc_z := rn_aload_n (am_cur_of (i := (142, 1, .aload_n 0, (0, 0, 0), 0)) (by decide +kernel)) g0_z hc_z
  replace hc_z := rn_iload_n (am_cur_of (i := (143, 1, .iload_n 1, (0, 0, 0), 0)) (by decide +kernel)) g1_z hc_z
  replace hc_z := rn_callV (M' := am_m46) (o := 44) (ar := [.int 15]) (rest := []) (L := lv_args 0 [.ref 44, .int 15]) (am_cur_of (i := (144, 3, .invokevirtual 264, (46, 838, 3), 0)) (by decide +kernel)) rfl rfl rfl rfl hc_z
  obtain ⟨r5556_z, h5557_z, q5558_z, hc_z⟩ := hc_z
  replace hm_z := rn_aload_n (am_cur_of (i := (0, 1, .aload_n 0, (0, 0, 0), 0)) (by decide +kernel)) g0m hm_z
  replace hm_z := rn_bipush (w := 41) (am_cur_of (i := (1, 2, .bipush 41, (0, 0, 0), 0)) (by decide +kernel)) (by decide) hm_z
  replace hm_z := rn_callV (M' := am_m171) (o := 164) (ar := [.int 41]) (rest := []) (L := lv_args 0 [.ref 164, .int 41]) (am_cur_of (i := (3, 3, .invokevirtual 194, (171, 1715, 3), 0)) (by decide +kernel)) rfl rfl rfl rfl hm_z
  obtain ⟨r5559_z, h5560_z, q5561_z, hm_z⟩ := hm_z
  obtain ⟨rfl, yq5561_z⟩ := rp_sgN (fun q => absurd (Eq.trans (Eq.symm kd) q.2) (by decide)) q5561_z
  subst yq5561_z
  replace hm_z : rn _ _ _ _ [.int 0] _ _ _ := hm_z
  replace hm_z := rn_ifT (am_cur_of (i := (6, 3, .ifCond .eq 41, (26, 0, 0), 0)) (by decide +kernel)) (by decide) hm_z
  replace hm_z := rn_aload_n (am_cur_of (i := (47, 1, .aload_n 0, (0, 0, 0), 0)) (by decide +kernel)) g0m hm_z
  replace hm_z := rn_bipush (w := 12) (am_cur_of (i := (48, 2, .bipush 12, (0, 0, 0), 0)) (by decide +kernel)) (by decide) hm_z
  replace hm_z := rn_callV (M' := am_m174) (o := 164) (ar := [.int 12]) (rest := []) (L := lv_args 0 [.ref 164, .int 12]) (am_cur_of (i := (50, 3, .invokevirtual 306, (174, 1727, 3), 0)) (by decide +kernel)) rfl rfl rfl rfl hm_z
  obtain ⟨r5562_z, h5563_z, q5564_z, hm_z⟩ := hm_z
  obtain ⟨rfl, yq5564_z⟩ := rp_kyN (fun q => absurd (Eq.trans (Eq.symm kc) q.1) (by decide)) q5564_z
  subst yq5564_z
  replace hm_z : rn _ _ _ _ [.int 0] _ _ _ := hm_z
  replace hm_z := rn_ifT (am_cur_of (i := (53, 3, .ifCond .eq 7, (32, 0, 0), 0)) (by decide +kernel)) (by decide) hm_z
  replace hm_z := rn_aload_n (am_cur_of (i := (60, 1, .aload_n 0, (0, 0, 0), 0)) (by decide +kernel)) g0m hm_z
  replace hm_z := rn_bipush (w := 13) (am_cur_of (i := (61, 2, .bipush 13, (0, 0, 0), 0)) (by decide +kernel)) (by decide) hm_z
  replace hm_z := rn_callV (M' := am_m174) (o := 164) (ar := [.int 13]) (rest := []) (L := lv_args 0 [.ref 164, .int 13]) (am_cur_of (i := (63, 3, .invokevirtual 306, (174, 1727, 3), 0)) (by decide +kernel)) rfl rfl rfl rfl hm_z
  obtain ⟨r5565_z, h5566_z, q5567_z, hm_z⟩ := hm_z
  obtain ⟨rfl, yq5567_z⟩ := rp_kyN (fun q => absurd (Eq.trans (Eq.symm kc) q.1) (by decide)) q5567_z
  subst yq5567_z
  replace hm_z : rn _ _ _ _ [.int 0] _ _ _ := hm_z
  replace hm_z := rn_ifT (am_cur_of (i := (66, 3, .ifCond .eq 7, (38, 0, 0), 0)) (by decide +kernel)) (by decide) hm_z
  replace hm_z := rn_aload_n (am_cur_of (i := (73, 1, .aload_n 0, (0, 0, 0), 0)) (by decide +kernel)) g0m hm_z
  replace hm_z := rn_getI (v := 4) (am_cur_of (i := (74, 3, .getfield 157, (12, 8, 1392), 0)) (by decide +kernel)) (by decide +kernel) kc hm_z
  replace hm_z := rn_iconst (w := 5) (am_cur_of (i := (77, 1, .iconst 5, (0, 0, 0), 0)) (by decide +kernel)) (by decide) hm_z
  replace hm_z := rn_cmpT (am_cur_of (i := (78, 3, .if_icmp .ne 12, (47, 0, 0), 0)) (by decide +kernel)) (by decide) hm_z
  replace hm_z := rn_aload_n (am_cur_of (i := (90, 1, .aload_n 0, (0, 0, 0), 0)) (by decide +kernel)) g0m hm_z
  replace hm_z := rn_bipush (w := 43) (am_cur_of (i := (91, 2, .bipush 43, (0, 0, 0), 0)) (by decide +kernel)) (by decide) hm_z
  replace hm_z := rn_callV (M' := am_m171) (o := 164) (ar := [.int 43]) (rest := []) (L := lv_args 0 [.ref 164, .int 43]) (am_cur_of (i := (93, 3, .invokevirtual 194, (171, 1715, 3), 0)) (by decide +kernel)) rfl rfl rfl rfl hm_z
  obtain ⟨r5568_z, h5569_z, q5570_z, hm_z⟩ := hm_z
  obtain ⟨rfl, yq5570_z⟩ := rp_sgN (fun q => absurd (Eq.trans (Eq.symm kd) q.2) (by decide)) q5570_z
  subst yq5570_z
  replace hm_z : rn _ _ _ _ [.int 0] _ _ _ := hm_z
  replace hm_z := rn_ifT (am_cur_of (i := (96, 3, .ifCond .eq 8, (53, 0, 0), 0)) (by decide +kernel)) (by decide) hm_z
  replace hm_z := rn_aload_n (am_cur_of (i := (104, 1, .aload_n 0, (0, 0, 0), 0)) (by decide +kernel)) g0m hm_z
  replace hm_z := rn_bipush (w := 45) (am_cur_of (i := (105, 2, .bipush 45, (0, 0, 0), 0)) (by decide +kernel)) (by decide) hm_z
  replace hm_z := rn_callV (M' := am_m171) (o := 164) (ar := [.int 45]) (rest := []) (L := lv_args 0 [.ref 164, .int 45]) (am_cur_of (i := (107, 3, .invokevirtual 194, (171, 1715, 3), 0)) (by decide +kernel)) rfl rfl rfl rfl hm_z
  obtain ⟨r5571_z, h5572_z, q5573_z, hm_z⟩ := hm_z
  obtain ⟨rfl, yq5573_z⟩ := rp_sgN (fun q => absurd (Eq.trans (Eq.symm kd) q.2) (by decide)) q5573_z
  subst yq5573_z
  replace hm_z : rn _ _ _ _ [.int 0] _ _ _ := hm_z
  replace hm_z := rn_ifT (am_cur_of (i := (110, 3, .ifCond .eq 8, (59, 0, 0), 0)) (by decide +kernel)) (by decide) hm_z
  replace hm_z := rn_aload_n (am_cur_of (i := (118, 1, .aload_n 0, (0, 0, 0), 0)) (by decide +kernel)) g0m hm_z
  replace hm_z := rn_bipush (w := 42) (am_cur_of (i := (119, 2, .bipush 42, (0, 0, 0), 0)) (by decide +kernel)) (by decide) hm_z
  replace hm_z := rn_callV (M' := am_m171) (o := 164) (ar := [.int 42]) (rest := []) (L := lv_args 0 [.ref 164, .int 42]) (am_cur_of (i := (121, 3, .invokevirtual 194, (171, 1715, 3), 0)) (by decide +kernel)) rfl rfl rfl rfl hm_z
  obtain ⟨r5574_z, h5575_z, q5576_z, hm_z⟩ := hm_z
  obtain ⟨rfl, yq5576_z⟩ := rp_sgN (fun q => absurd (Eq.trans (Eq.symm kd) q.2) (by decide)) q5576_z
  subst yq5576_z
  replace hm_z : rn _ _ _ _ [.int 0] _ _ _ := hm_z
  replace hm_z := rn_ifT (am_cur_of (i := (124, 3, .ifCond .eq 8, (65, 0, 0), 0)) (by decide +kernel)) (by decide) hm_z
  replace hm_z := rn_aload_n (am_cur_of (i := (132, 1, .aload_n 0, (0, 0, 0), 0)) (by decide +kernel)) g0m hm_z
  replace hm_z := rn_bipush (w := 47) (am_cur_of (i := (133, 2, .bipush 47, (0, 0, 0), 0)) (by decide +kernel)) (by decide) hm_z
  replace hm_z := rn_callV (M' := am_m171) (o := 164) (ar := [.int 47]) (rest := []) (L := lv_args 0 [.ref 164, .int 47]) (am_cur_of (i := (135, 3, .invokevirtual 194, (171, 1715, 3), 0)) (by decide +kernel)) rfl rfl rfl rfl hm_z
  obtain ⟨r5577_z, h5578_z, q5579_z, hm_z⟩ := hm_z
  obtain ⟨rfl, yq5579_z⟩ := rp_sgT kc kd q5579_z
  subst yq5579_z
  replace hm_z : rn _ _ _ _ [.int 1] _ _ _ := hm_z
  replace hm_z := rn_ifF (am_cur_of (i := (138, 3, .ifCond .eq 8, (71, 0, 0), 0)) (by decide +kernel)) (by decide) hm_z
  replace hm_z := rn_bipush (w := 14) (am_cur_of (i := (141, 2, .bipush 14, (0, 0, 0), 0)) (by decide +kernel)) (by decide) hm_z
  replace hm_z := rn_goto (am_cur_of (i := (143, 3, .goto 4, (72, 0, 0), 0)) (by decide +kernel)) hm_z
  replace hm_z := rn_istore_n (am_cur_of (i := (147, 1, .istore_n 1, (0, 0, 0), 0)) (by decide +kernel)) hm_z
  obtain ⟨_, s5580_z, s5581_z, g1m, hm_z⟩ := hm_z
  replace g0m := s5580_z 0 _ (by decide) rfl g0m
  clear s5580_z s5581_z
  replace hm_z := rn_iload_n (am_cur_of (i := (148, 1, .iload_n 1, (0, 0, 0), 0)) (by decide +kernel)) g1m hm_z
  replace hm_z := rn_ifT (am_cur_of (i := (149, 3, .ifCond .ne 9, (79, 0, 0), 0)) (by decide +kernel)) (by decide) hm_z
  replace hm_z := rn_aload_n (am_cur_of (i := (158, 1, .aload_n 0, (0, 0, 0), 0)) (by decide +kernel)) g0m hm_z
  replace hm_z := rn_iload_n (am_cur_of (i := (159, 1, .iload_n 1, (0, 0, 0), 0)) (by decide +kernel)) g1m hm_z
  replace hm_z := rn_callS (M' := am_m180) (ar := [.int 14]) (rest := [.ref 164]) (L := lv_args 0 [.int 14]) (am_cur_of (i := (160, 3, .invokestatic 283, (180, 1751, 3), 0)) (by decide +kernel)) rfl rfl rfl rfl hm_z
  obtain ⟨r5582_z, h5583_z, q5584_z, hm_z⟩ := hm_z
  obtain ⟨rfl, yq5584_z⟩ := rs_rankM q5584_z
  replace yq5584_z := yq5584_z.symm
  subst yq5584_z
  rw [show rk_M 14 = 6 by decide] at hm_z
  replace hm_z : rn _ _ _ _ [.int 6, .ref 164] _ _ _ := hm_z
  replace hm_z := rn_iconst (w := 4) (am_cur_of (i := (163, 1, .iconst 4, (0, 0, 0), 0)) (by decide +kernel)) (by decide) hm_z
  replace hm_z := rn_cmpT (am_cur_of (i := (164, 3, .if_icmp .ne 7, (86, 0, 0), 0)) (by decide +kernel)) (by decide) hm_z
  replace hm_z := rn_iload_n (am_cur_of (i := (171, 1, .iload_n 1, (0, 0, 0), 0)) (by decide +kernel)) g1m hm_z
  replace hm_z := rn_callS (M' := am_m180) (ar := [.int 14]) (rest := [.ref 164]) (L := lv_args 0 [.int 14]) (am_cur_of (i := (172, 3, .invokestatic 283, (180, 1751, 3), 0)) (by decide +kernel)) rfl rfl rfl rfl hm_z
  obtain ⟨r5585_z, h5586_z, q5587_z, hm_z⟩ := hm_z
  obtain ⟨rfl, yq5587_z⟩ := rs_rankM q5587_z
  replace yq5587_z := yq5587_z.symm
  subst yq5587_z
  rw [show rk_M 14 = 6 by decide] at hm_z
  replace hm_z : rn _ _ _ _ [.int 6, .ref 164] _ _ _ := hm_z
  replace hm_z := rn_callV (M' := am_m179) (o := 164) (ar := [.int 6]) (rest := []) (L := lv_args 0 [.ref 164, .int 6]) (am_cur_of (i := (175, 3, .invokevirtual 318, (179, 1747, 3), 0)) (by decide +kernel)) rfl rfl rfl rfl hm_z
  obtain ⟨r5588_z, h5589_z, q5590_z, hm_z⟩ := hm_z
  obtain ⟨rfl, rfl, FC, FM, R, A, B, Z, nq, e13_z, hst⟩ := rz_set2 (show rs_l 15 6 from by have q := rs_lo (c := 15) (k := 14) (by unfold rs_o; decide); rw [show rk_M 14 = 6 by decide] at q; exact q) (by decide) Rk A B Zk q5558_z q5590_z
  have Zq := Z
  obtain ⟨np, op, z1_z, z2_z, z3_z, z4_z, z5_z, z6_z, z7_z, z8_z, z9_z, z10_z⟩ := Zq
  obtain rfl : np = nq := z1_z.symm.trans e13_z
  replace hm_z : rn _ _ _ _ [] _ _ _ := hm_z
  replace hc_z : rn _ _ _ _ [] _ _ _ := hc_z
  have cn := rt_cl z3_z
  have zz1_z : (1 : Int32).toInt = 1 := by decide
  have n31_z := (ab_32 np).2
  have y1_z := ab_isub (x := np) (y := 1) (by omega) (by omega)
  replace hm_z := rn_iload_n (am_cur_of (i := (178, 1, .iload_n 1, (0, 0, 0), 0)) (by decide +kernel)) g1m hm_z
  replace hm_z := rn_callS (M' := am_m180) (ar := [.int 14]) (rest := []) (L := lv_args 0 [.int 14]) (am_cur_of (i := (179, 3, .invokestatic 283, (180, 1751, 3), 0)) (by decide +kernel)) rfl rfl rfl rfl hm_z
  obtain ⟨r5591_z, h5592_z, q5593_z, hm_z⟩ := hm_z
  obtain ⟨rfl, yq5593_z⟩ := rs_rankM q5593_z
  replace yq5593_z := yq5593_z.symm
  subst yq5593_z
  rw [show rk_M 14 = 6 by decide] at hm_z
  replace hm_z : rn _ _ _ _ [.int 6] _ _ _ := hm_z
  replace hm_z := rn_iconst (w := 4) (am_cur_of (i := (182, 1, .iconst 4, (0, 0, 0), 0)) (by decide +kernel)) (by decide) hm_z
  replace hm_z := rn_cmpT (am_cur_of (i := (183, 3, .if_icmp .ne 34, (110, 0, 0), 0)) (by decide +kernel)) (by decide) hm_z
  exact Or.inl (rj_t15_2 R A B Z g0_z g1_z g0m g1m hc_z hm_z)
theorem rj_all2 {T : Nat → Int32} {S x p : Int32} {n n' : Nat} {h h' g g' : am_H} {r r' : Option Value} (R : rq T S x p 2 h g) (A : rp 2 h g) (B : rp_t h g) (Z : rs 2 h g) (w0_z : rg_v g 164 45 = 0) (hc_z : rn n am_m44 0 (lv_args 0 [.ref 44]) [] h r h') (hm_z : rn n' am_m178 0 (lv_args 0 [.ref 164]) [] g r' g') : rj_Q T S x p 2 h g h' g' r r' := by
  rcases tk_cases R.2.2.2.2.2.2.2.2.2 with ⟨ka, kc⟩ | ⟨ka, kc⟩ | ⟨ka, kc, kd⟩ | ⟨ka, kc, kb0_z, kb9_z, kd⟩ | ⟨ka, kc, kb, kd⟩ | ⟨ka, kc, kb, kd⟩ | ⟨ka, kc, kb, kd⟩ | ⟨ka, kc, kb, kd⟩ | ⟨ka, kc, kb, kd⟩ | ⟨ka, kc, kb, kd⟩ | ⟨ka, kc, kd⟩ | ⟨ka, kc, kb0_z, kd0_z, kbd⟩ | ⟨ka, kc, kb, kd⟩ | ⟨ka, kc, kb, kd⟩ | ⟨ka, kc, kb, kd⟩ | ⟨ka, kc, kb, kd⟩ | ⟨ka, kc, kb, kd⟩ | ⟨ka, kc, kb, kd⟩ | ⟨ka, kc, kb, kd⟩ | ⟨ka, kc, kb, kd⟩ | ⟨ka, kc, kb, kd⟩ | ⟨ka, kc, kb, kd⟩ | ⟨ka, kc, kb, kd⟩ | ⟨ka, kc, kb, kd⟩ | ⟨ka, kc, kb, kd⟩ | ⟨ka, kc, kb, kd⟩ | ⟨ka, kc, kb, kd⟩ | ⟨ka, kc, kb, kd⟩
  · exact rj_c0_2 R A B Z w0_z ka kc hc_z hm_z
  · exact rj_c1_2 R A B Z w0_z ka kc hc_z hm_z
  · exact rj_c2_2 R A B Z w0_z ka kc kd hc_z hm_z
  · exact rj_c3_2 R A B Z w0_z ka kc kb0_z kb9_z kd hc_z hm_z
  · exact rj_c4_2 R A B Z w0_z ka kc kb kd hc_z hm_z
  · exact rj_c5_2 R A B Z w0_z ka kc kb kd hc_z hm_z
  · exact rj_c6_2 R A B Z w0_z ka kc kb kd hc_z hm_z
  · exact rj_c7_2 R A B Z w0_z ka kc kb kd hc_z hm_z
  · exact rj_c8_2 R A B Z w0_z ka kc kb kd hc_z hm_z
  · exact rj_c9_2 R A B Z w0_z ka kc kb kd hc_z hm_z
  · exact rj_c10_2 R A B Z w0_z ka kc kd hc_z hm_z
  · exact rj_c11_2 R A B Z w0_z ka kc kb0_z kd0_z kbd hc_z hm_z
  · exact rj_c12_2 R A B Z w0_z ka kc kb kd hc_z hm_z
  · exact rj_c13_2 R A B Z w0_z ka kc kb kd hc_z hm_z
  · exact rj_c14_2 R A B Z w0_z ka kc kb kd hc_z hm_z
  · exact rj_c15_2 R A B Z w0_z ka kc kb kd hc_z hm_z
  · exact rj_c16_2 R A B Z w0_z ka kc kb kd hc_z hm_z
  · exact rj_c17_2 R A B Z w0_z ka kc kb kd hc_z hm_z
  · exact rj_c18_2 R A B Z w0_z ka kc kb kd hc_z hm_z
  · exact rj_c19_2 R A B Z w0_z ka kc kb kd hc_z hm_z
  · exact rj_c20_2 R A B Z w0_z ka kc kb kd hc_z hm_z
  · exact rj_c21_2 R A B Z w0_z ka kc kb kd hc_z hm_z
  · exact rj_c22_2 R A B Z w0_z ka kc kb kd hc_z hm_z
  · exact rj_c23_2 R A B Z w0_z ka kc kb kd hc_z hm_z
  · exact rj_c24_2 R A B Z w0_z ka kc kb kd hc_z hm_z
  · exact rj_c25_2 R A B Z w0_z ka kc kb kd hc_z hm_z
  · exact rj_c26_2 R A B Z w0_z ka kc kb kd hc_z hm_z
  · exact rj_c27_2 R A B Z w0_z ka kc kb kd hc_z hm_z
