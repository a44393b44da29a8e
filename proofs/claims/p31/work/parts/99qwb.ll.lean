/-! ===== A LAW FROM ITS BEGINNING, in both readers, 23 (wip/r/gen99qw.py) ===== -/
theorem pl_lawn_23 {T : Nat → Int32} {S x p : Int32} {n n' : Nat} {h h' g g' : am_H} {r r' : Option Value} {ls ls2_z : am_L} (R : rq T S x p 23 h g) (A : rp 23 h g) (B : rp_t h g) (ka : ¬ rg_v h 44 10 = 2) (g0_z : am_get ls 0 = some (.ref 44)) (g0m : am_get ls2_z 0 = some (.ref 164)) (hc_z : rn n am_m42 2 ls [] h r h') (hm_z : rn n' am_m157 85 ls2_z [] g r' g') : pm_Q T S x 23 h' g' r' := by
  have z1_z : (1 : Int32).toInt = 1 := by decide
  have z2_z : (2 : Int32).toInt = 2 := by decide
  have z9_z : (9 : Int32).toInt = 9 := by decide
  have z11_z : (11 : Int32).toInt = 11 := by decide
  have R5 := R.2.2.2.2.1
  have R6 := R.2.2.2.2.2.1
  replace hc_z := rn_aload_n (am_cur_of (i := (4, 1, .aload_n 0, (0, 0, 0), 0)) (by decide +kernel)) g0_z hc_z
  replace hc_z := rn_getI (v := rg_v h 44 11) (am_cur_of (i := (5, 3, .getfield 91, (4, 11, 420), 0)) (by decide +kernel)) (by decide +kernel) rfl hc_z
  replace hc_z := rn_bipush (w := 9) (am_cur_of (i := (8, 2, .bipush 9, (0, 0, 0), 0)) (by decide +kernel)) (by decide) hc_z
  replace hc_z := rn_isub (w := (rg_v h 44 11) - 9) (am_cur_of (i := (10, 1, .isub, (0, 0, 0), 0)) (by decide +kernel)) rfl hc_z
  replace hc_z := rn_istore_n (am_cur_of (i := (11, 1, .istore_n 1, (0, 0, 0), 0)) (by decide +kernel)) hc_z
  obtain ⟨_, s563_z, s564_z, g1_z, hc_z⟩ := hc_z
  replace g0_z := s563_z 0 _ (by decide) rfl g0_z
  clear s563_z s564_z
  replace hc_z := rn_aload_n (am_cur_of (i := (12, 1, .aload_n 0, (0, 0, 0), 0)) (by decide +kernel)) g0_z hc_z
  replace hc_z := rn_getI (v := rg_v h 44 10) (am_cur_of (i := (13, 3, .getfield 60, (4, 10, 419), 0)) (by decide +kernel)) (by decide +kernel) rfl hc_z
  replace hc_z := rn_iconst (w := 2) (am_cur_of (i := (16, 1, .iconst 2, (0, 0, 0), 0)) (by decide +kernel)) (by decide) hc_z
  replace hc_z := rn_cmp (am_cur_of (i := (17, 3, .if_icmp .ne 12, (16, 0, 0), 0)) (by decide +kernel)) hc_z
  rcases hc_z with ⟨b565_z, hc_z⟩ | ⟨b565_z, hc_z⟩
  · replace b565_z : ¬ (rg_v h 44 10) = (2 : Int32) ∧ ¬ (rg_v h 44 10).toInt = (2 : Int32).toInt := b565_z
    replace hc_z := rn_aload_n (am_cur_of (i := (29, 1, .aload_n 0, (0, 0, 0), 0)) (by decide +kernel)) g0_z hc_z
    replace hc_z := rn_iconst (w := 1) (am_cur_of (i := (30, 1, .iconst 1, (0, 0, 0), 0)) (by decide +kernel)) (by decide) hc_z
    replace hc_z := rn_callV (M' := am_m29) (o := 44) (ar := [.int 1]) (rest := []) (L := lv_args 0 [.ref 44, .int 1]) (am_cur_of (i := (31, 3, .invokevirtual 108, (29, 769, 3), 0)) (by decide +kernel)) rfl rfl rfl rfl hc_z
    obtain ⟨r566_z, h567_z, q568_z, hc_z⟩ := hc_z
    obtain ⟨rfl, yq568_z⟩ := rp_fail R.2.2.2.1 q568_z
    subst yq568_z
    replace hc_z : rn _ _ _ _ [] _ _ _ := hc_z
    have K := rs_stick (w := 1) (a := 42) (by decide) (by decide) rfl (by decide) rfl rfl hc_z
    replace hm_z := rn_aload_n (am_cur_of (i := (209, 1, .aload_n 0, (0, 0, 0), 0)) (by decide +kernel)) g0m hm_z
    replace hm_z := rn_getI (v := rg_v g 164 8) (am_cur_of (i := (210, 3, .getfield 157, (12, 8, 1392), 0)) (by decide +kernel)) (by decide +kernel) rfl hm_z
    replace hm_z := rn_iconst (w := 1) (am_cur_of (i := (213, 1, .iconst 1, (0, 0, 0), 0)) (by decide +kernel)) (by decide) hm_z
    replace hm_z := rn_cmp (am_cur_of (i := (214, 3, .if_icmp .ne 21, (97, 0, 0), 0)) (by decide +kernel)) hm_z
    rcases hm_z with ⟨b569_z, hm_z⟩ | ⟨b569_z, hm_z⟩
    · replace b569_z : ¬ (rg_v g 164 8) = (1 : Int32) ∧ ¬ (rg_v g 164 8).toInt = (1 : Int32).toInt := b569_z
      replace hm_z := rn_aload_n (am_cur_of (i := (235, 1, .aload_n 0, (0, 0, 0), 0)) (by decide +kernel)) g0m hm_z
      replace hm_z := rn_iconst (w := 1) (am_cur_of (i := (236, 1, .iconst 1, (0, 0, 0), 0)) (by decide +kernel)) (by decide) hm_z
      replace hm_z := rn_callV (M' := am_m158) (o := 164) (ar := [.int 1]) (rest := []) (L := lv_args 0 [.ref 164, .int 1]) (am_cur_of (i := (237, 3, .invokevirtual 181, (158, 1665, 3), 0)) (by decide +kernel)) rfl rfl rfl rfl hm_z
      obtain ⟨r570_z, h571_z, q572_z, hm_z⟩ := hm_z
      obtain ⟨rfl, yq572_z⟩ := rp_wrong q572_z
      subst yq572_z
      replace hm_z : rn _ _ _ _ [.int 0] _ _ _ := hm_z
      replace hm_z := rn_iret (am_cur_of (i := (240, 1, .ireturn, (0, 0, 0), 0)) (by decide +kernel)) hm_z
      obtain ⟨e573_z, e574_z⟩ := hm_z
      subst e573_z e574_z
      exact Or.inr (Or.inl ⟨rfl, _, 1, by decide, K.1, K.2.trans R5, rfl, R6⟩)
    · replace b569_z : (rg_v g 164 8) = (1 : Int32) ∧ (rg_v g 164 8).toInt = (1 : Int32).toInt := b569_z
      have k11_z := tk_nw R.2.2.2.2.2.2.2.2.2 ka b569_z.1
      replace hm_z := rn_aload_n (am_cur_of (i := (217, 1, .aload_n 0, (0, 0, 0), 0)) (by decide +kernel)) g0m hm_z
      replace hm_z := rn_getI (v := rg_v g 164 9) (am_cur_of (i := (218, 3, .getfield 168, (12, 9, 1393), 0)) (by decide +kernel)) (by decide +kernel) rfl hm_z
      replace hm_z := rn_bipush (w := 9) (am_cur_of (i := (221, 2, .bipush 9, (0, 0, 0), 0)) (by decide +kernel)) (by decide) hm_z
      replace hm_z := rn_cmp (am_cur_of (i := (223, 3, .if_icmp .lt 12, (97, 0, 0), 0)) (by decide +kernel)) hm_z
      rcases hm_z with ⟨b575_z, hm_z⟩ | ⟨b575_z, hm_z⟩
      · replace b575_z : (rg_v g 164 9).toInt < (9 : Int32).toInt := b575_z
        replace hm_z := rn_aload_n (am_cur_of (i := (235, 1, .aload_n 0, (0, 0, 0), 0)) (by decide +kernel)) g0m hm_z
        replace hm_z := rn_iconst (w := 1) (am_cur_of (i := (236, 1, .iconst 1, (0, 0, 0), 0)) (by decide +kernel)) (by decide) hm_z
        replace hm_z := rn_callV (M' := am_m158) (o := 164) (ar := [.int 1]) (rest := []) (L := lv_args 0 [.ref 164, .int 1]) (am_cur_of (i := (237, 3, .invokevirtual 181, (158, 1665, 3), 0)) (by decide +kernel)) rfl rfl rfl rfl hm_z
        obtain ⟨r576_z, h577_z, q578_z, hm_z⟩ := hm_z
        obtain ⟨rfl, yq578_z⟩ := rp_wrong q578_z
        subst yq578_z
        replace hm_z : rn _ _ _ _ [.int 0] _ _ _ := hm_z
        replace hm_z := rn_iret (am_cur_of (i := (240, 1, .ireturn, (0, 0, 0), 0)) (by decide +kernel)) hm_z
        obtain ⟨e579_z, e580_z⟩ := hm_z
        subst e579_z e580_z
        exact Or.inr (Or.inl ⟨rfl, _, 1, by decide, K.1, K.2.trans R5, rfl, R6⟩)
      · replace b575_z : (9 : Int32).toInt ≤ (rg_v g 164 9).toInt := b575_z
        replace hm_z := rn_aload_n (am_cur_of (i := (226, 1, .aload_n 0, (0, 0, 0), 0)) (by decide +kernel)) g0m hm_z
        replace hm_z := rn_getI (v := rg_v g 164 9) (am_cur_of (i := (227, 3, .getfield 168, (12, 9, 1393), 0)) (by decide +kernel)) (by decide +kernel) rfl hm_z
        replace hm_z := rn_bipush (w := 11) (am_cur_of (i := (230, 2, .bipush 11, (0, 0, 0), 0)) (by decide +kernel)) (by decide) hm_z
        replace hm_z := rn_cmp (am_cur_of (i := (232, 3, .if_icmp .le 9, (101, 0, 0), 0)) (by decide +kernel)) hm_z
        rcases hm_z with ⟨b581_z, hm_z⟩ | ⟨b581_z, hm_z⟩
        · replace b581_z : (rg_v g 164 9).toInt ≤ (11 : Int32).toInt := b581_z
          omega
        · replace b581_z : (11 : Int32).toInt < (rg_v g 164 9).toInt := b581_z
          replace hm_z := rn_aload_n (am_cur_of (i := (235, 1, .aload_n 0, (0, 0, 0), 0)) (by decide +kernel)) g0m hm_z
          replace hm_z := rn_iconst (w := 1) (am_cur_of (i := (236, 1, .iconst 1, (0, 0, 0), 0)) (by decide +kernel)) (by decide) hm_z
          replace hm_z := rn_callV (M' := am_m158) (o := 164) (ar := [.int 1]) (rest := []) (L := lv_args 0 [.ref 164, .int 1]) (am_cur_of (i := (237, 3, .invokevirtual 181, (158, 1665, 3), 0)) (by decide +kernel)) rfl rfl rfl rfl hm_z
          obtain ⟨r582_z, h583_z, q584_z, hm_z⟩ := hm_z
          obtain ⟨rfl, yq584_z⟩ := rp_wrong q584_z
          subst yq584_z
          replace hm_z : rn _ _ _ _ [.int 0] _ _ _ := hm_z
          replace hm_z := rn_iret (am_cur_of (i := (240, 1, .ireturn, (0, 0, 0), 0)) (by decide +kernel)) hm_z
          obtain ⟨e585_z, e586_z⟩ := hm_z
          subst e585_z e586_z
          exact Or.inr (Or.inl ⟨rfl, _, 1, by decide, K.1, K.2.trans R5, rfl, R6⟩)
  · replace b565_z : (rg_v h 44 10) = (2 : Int32) ∧ (rg_v h 44 10).toInt = (2 : Int32).toInt := b565_z
    exact absurd b565_z.1 ka
theorem pl_law0_23 {T : Nat → Int32} {S x p : Int32} {n n' : Nat} {h h' g g' : am_H} {r r' : Option Value} {ls ls2_z : am_L} (R : rq T S x p 23 h g) (A : rp 23 h g) (B : rp_t h g) (ka : rg_v h 44 10 = 2) (kb : rg_v h 44 11 = 0) (kc : rg_v g 164 8 = 1) (kd : rg_v g 164 9 = 0) (g0_z : am_get ls 0 = some (.ref 44)) (g0m : am_get ls2_z 0 = some (.ref 164)) (hc_z : rn n am_m42 2 ls [] h r h') (hm_z : rn n' am_m157 85 ls2_z [] g r' g') : pm_Q T S x 23 h' g' r' := by
  have R5 := R.2.2.2.2.1
  have R6 := R.2.2.2.2.2.1
  replace hc_z := rn_aload_n (am_cur_of (i := (4, 1, .aload_n 0, (0, 0, 0), 0)) (by decide +kernel)) g0_z hc_z
  replace hc_z := rn_getI (v := 0) (am_cur_of (i := (5, 3, .getfield 91, (4, 11, 420), 0)) (by decide +kernel)) (by decide +kernel) kb hc_z
  replace hc_z := rn_bipush (w := 9) (am_cur_of (i := (8, 2, .bipush 9, (0, 0, 0), 0)) (by decide +kernel)) (by decide) hc_z
  replace hc_z := rn_isub (w := (-9)) (am_cur_of (i := (10, 1, .isub, (0, 0, 0), 0)) (by decide +kernel)) (by decide) hc_z
  replace hc_z := rn_istore_n (am_cur_of (i := (11, 1, .istore_n 1, (0, 0, 0), 0)) (by decide +kernel)) hc_z
  obtain ⟨_, s587_z, s588_z, g1_z, hc_z⟩ := hc_z
  replace g0_z := s587_z 0 _ (by decide) rfl g0_z
  clear s587_z s588_z
  replace hc_z := rn_aload_n (am_cur_of (i := (12, 1, .aload_n 0, (0, 0, 0), 0)) (by decide +kernel)) g0_z hc_z
  replace hc_z := rn_getI (v := 2) (am_cur_of (i := (13, 3, .getfield 60, (4, 10, 419), 0)) (by decide +kernel)) (by decide +kernel) ka hc_z
  replace hc_z := rn_iconst (w := 2) (am_cur_of (i := (16, 1, .iconst 2, (0, 0, 0), 0)) (by decide +kernel)) (by decide) hc_z
  replace hc_z := rn_cmpF (am_cur_of (i := (17, 3, .if_icmp .ne 12, (16, 0, 0), 0)) (by decide +kernel)) (by decide) hc_z
  replace hc_z := rn_iload_n (am_cur_of (i := (20, 1, .iload_n 1, (0, 0, 0), 0)) (by decide +kernel)) g1_z hc_z
  replace hc_z := rn_ifT (am_cur_of (i := (21, 3, .ifCond .lt 8, (16, 0, 0), 0)) (by decide +kernel)) (by decide) hc_z
  replace hc_z := rn_aload_n (am_cur_of (i := (29, 1, .aload_n 0, (0, 0, 0), 0)) (by decide +kernel)) g0_z hc_z
  replace hc_z := rn_iconst (w := 1) (am_cur_of (i := (30, 1, .iconst 1, (0, 0, 0), 0)) (by decide +kernel)) (by decide) hc_z
  replace hc_z := rn_callV (M' := am_m29) (o := 44) (ar := [.int 1]) (rest := []) (L := lv_args 0 [.ref 44, .int 1]) (am_cur_of (i := (31, 3, .invokevirtual 108, (29, 769, 3), 0)) (by decide +kernel)) rfl rfl rfl rfl hc_z
  obtain ⟨r589_z, h590_z, q591_z, hc_z⟩ := hc_z
  obtain ⟨rfl, yq591_z⟩ := rp_fail R.2.2.2.1 q591_z
  subst yq591_z
  replace hc_z : rn _ _ _ _ [] _ _ _ := hc_z
  have K := rs_stick (w := 1) (a := 42) (by decide) (by decide) rfl (by decide) rfl rfl hc_z
  replace hm_z := rn_aload_n (am_cur_of (i := (209, 1, .aload_n 0, (0, 0, 0), 0)) (by decide +kernel)) g0m hm_z
  replace hm_z := rn_getI (v := 1) (am_cur_of (i := (210, 3, .getfield 157, (12, 8, 1392), 0)) (by decide +kernel)) (by decide +kernel) kc hm_z
  replace hm_z := rn_iconst (w := 1) (am_cur_of (i := (213, 1, .iconst 1, (0, 0, 0), 0)) (by decide +kernel)) (by decide) hm_z
  replace hm_z := rn_cmpF (am_cur_of (i := (214, 3, .if_icmp .ne 21, (97, 0, 0), 0)) (by decide +kernel)) (by decide) hm_z
  replace hm_z := rn_aload_n (am_cur_of (i := (217, 1, .aload_n 0, (0, 0, 0), 0)) (by decide +kernel)) g0m hm_z
  replace hm_z := rn_getI (v := 0) (am_cur_of (i := (218, 3, .getfield 168, (12, 9, 1393), 0)) (by decide +kernel)) (by decide +kernel) kd hm_z
  replace hm_z := rn_bipush (w := 9) (am_cur_of (i := (221, 2, .bipush 9, (0, 0, 0), 0)) (by decide +kernel)) (by decide) hm_z
  replace hm_z := rn_cmpT (am_cur_of (i := (223, 3, .if_icmp .lt 12, (97, 0, 0), 0)) (by decide +kernel)) (by decide) hm_z
  replace hm_z := rn_aload_n (am_cur_of (i := (235, 1, .aload_n 0, (0, 0, 0), 0)) (by decide +kernel)) g0m hm_z
  replace hm_z := rn_iconst (w := 1) (am_cur_of (i := (236, 1, .iconst 1, (0, 0, 0), 0)) (by decide +kernel)) (by decide) hm_z
  replace hm_z := rn_callV (M' := am_m158) (o := 164) (ar := [.int 1]) (rest := []) (L := lv_args 0 [.ref 164, .int 1]) (am_cur_of (i := (237, 3, .invokevirtual 181, (158, 1665, 3), 0)) (by decide +kernel)) rfl rfl rfl rfl hm_z
  obtain ⟨r592_z, h593_z, q594_z, hm_z⟩ := hm_z
  obtain ⟨rfl, yq594_z⟩ := rp_wrong q594_z
  subst yq594_z
  replace hm_z : rn _ _ _ _ [.int 0] _ _ _ := hm_z
  replace hm_z := rn_iret (am_cur_of (i := (240, 1, .ireturn, (0, 0, 0), 0)) (by decide +kernel)) hm_z
  obtain ⟨e595_z, e596_z⟩ := hm_z
  subst e595_z e596_z
  exact Or.inr (Or.inl ⟨rfl, _, 1, by decide, K.1, K.2.trans R5, rfl, R6⟩)
theorem pl_law1_23 {T : Nat → Int32} {S x p : Int32} {n n' : Nat} {h h' g g' : am_H} {r r' : Option Value} {ls ls2_z : am_L} (R : rq T S x p 23 h g) (A : rp 23 h g) (B : rp_t h g) (ka : rg_v h 44 10 = 2) (kb : rg_v h 44 11 = 1) (kc : rg_v g 164 8 = 1) (kd : rg_v g 164 9 = 1) (g0_z : am_get ls 0 = some (.ref 44)) (g0m : am_get ls2_z 0 = some (.ref 164)) (hc_z : rn n am_m42 2 ls [] h r h') (hm_z : rn n' am_m157 85 ls2_z [] g r' g') : pm_Q T S x 23 h' g' r' := by
  have R5 := R.2.2.2.2.1
  have R6 := R.2.2.2.2.2.1
  replace hc_z := rn_aload_n (am_cur_of (i := (4, 1, .aload_n 0, (0, 0, 0), 0)) (by decide +kernel)) g0_z hc_z
  replace hc_z := rn_getI (v := 1) (am_cur_of (i := (5, 3, .getfield 91, (4, 11, 420), 0)) (by decide +kernel)) (by decide +kernel) kb hc_z
  replace hc_z := rn_bipush (w := 9) (am_cur_of (i := (8, 2, .bipush 9, (0, 0, 0), 0)) (by decide +kernel)) (by decide) hc_z
  replace hc_z := rn_isub (w := (-8)) (am_cur_of (i := (10, 1, .isub, (0, 0, 0), 0)) (by decide +kernel)) (by decide) hc_z
  replace hc_z := rn_istore_n (am_cur_of (i := (11, 1, .istore_n 1, (0, 0, 0), 0)) (by decide +kernel)) hc_z
  obtain ⟨_, s597_z, s598_z, g1_z, hc_z⟩ := hc_z
  replace g0_z := s597_z 0 _ (by decide) rfl g0_z
  clear s597_z s598_z
  replace hc_z := rn_aload_n (am_cur_of (i := (12, 1, .aload_n 0, (0, 0, 0), 0)) (by decide +kernel)) g0_z hc_z
  replace hc_z := rn_getI (v := 2) (am_cur_of (i := (13, 3, .getfield 60, (4, 10, 419), 0)) (by decide +kernel)) (by decide +kernel) ka hc_z
  replace hc_z := rn_iconst (w := 2) (am_cur_of (i := (16, 1, .iconst 2, (0, 0, 0), 0)) (by decide +kernel)) (by decide) hc_z
  replace hc_z := rn_cmpF (am_cur_of (i := (17, 3, .if_icmp .ne 12, (16, 0, 0), 0)) (by decide +kernel)) (by decide) hc_z
  replace hc_z := rn_iload_n (am_cur_of (i := (20, 1, .iload_n 1, (0, 0, 0), 0)) (by decide +kernel)) g1_z hc_z
  replace hc_z := rn_ifT (am_cur_of (i := (21, 3, .ifCond .lt 8, (16, 0, 0), 0)) (by decide +kernel)) (by decide) hc_z
  replace hc_z := rn_aload_n (am_cur_of (i := (29, 1, .aload_n 0, (0, 0, 0), 0)) (by decide +kernel)) g0_z hc_z
  replace hc_z := rn_iconst (w := 1) (am_cur_of (i := (30, 1, .iconst 1, (0, 0, 0), 0)) (by decide +kernel)) (by decide) hc_z
  replace hc_z := rn_callV (M' := am_m29) (o := 44) (ar := [.int 1]) (rest := []) (L := lv_args 0 [.ref 44, .int 1]) (am_cur_of (i := (31, 3, .invokevirtual 108, (29, 769, 3), 0)) (by decide +kernel)) rfl rfl rfl rfl hc_z
  obtain ⟨r599_z, h600_z, q601_z, hc_z⟩ := hc_z
  obtain ⟨rfl, yq601_z⟩ := rp_fail R.2.2.2.1 q601_z
  subst yq601_z
  replace hc_z : rn _ _ _ _ [] _ _ _ := hc_z
  have K := rs_stick (w := 1) (a := 42) (by decide) (by decide) rfl (by decide) rfl rfl hc_z
  replace hm_z := rn_aload_n (am_cur_of (i := (209, 1, .aload_n 0, (0, 0, 0), 0)) (by decide +kernel)) g0m hm_z
  replace hm_z := rn_getI (v := 1) (am_cur_of (i := (210, 3, .getfield 157, (12, 8, 1392), 0)) (by decide +kernel)) (by decide +kernel) kc hm_z
  replace hm_z := rn_iconst (w := 1) (am_cur_of (i := (213, 1, .iconst 1, (0, 0, 0), 0)) (by decide +kernel)) (by decide) hm_z
  replace hm_z := rn_cmpF (am_cur_of (i := (214, 3, .if_icmp .ne 21, (97, 0, 0), 0)) (by decide +kernel)) (by decide) hm_z
  replace hm_z := rn_aload_n (am_cur_of (i := (217, 1, .aload_n 0, (0, 0, 0), 0)) (by decide +kernel)) g0m hm_z
  replace hm_z := rn_getI (v := 1) (am_cur_of (i := (218, 3, .getfield 168, (12, 9, 1393), 0)) (by decide +kernel)) (by decide +kernel) kd hm_z
  replace hm_z := rn_bipush (w := 9) (am_cur_of (i := (221, 2, .bipush 9, (0, 0, 0), 0)) (by decide +kernel)) (by decide) hm_z
  replace hm_z := rn_cmpT (am_cur_of (i := (223, 3, .if_icmp .lt 12, (97, 0, 0), 0)) (by decide +kernel)) (by decide) hm_z
  replace hm_z := rn_aload_n (am_cur_of (i := (235, 1, .aload_n 0, (0, 0, 0), 0)) (by decide +kernel)) g0m hm_z
  replace hm_z := rn_iconst (w := 1) (am_cur_of (i := (236, 1, .iconst 1, (0, 0, 0), 0)) (by decide +kernel)) (by decide) hm_z
  replace hm_z := rn_callV (M' := am_m158) (o := 164) (ar := [.int 1]) (rest := []) (L := lv_args 0 [.ref 164, .int 1]) (am_cur_of (i := (237, 3, .invokevirtual 181, (158, 1665, 3), 0)) (by decide +kernel)) rfl rfl rfl rfl hm_z
  obtain ⟨r602_z, h603_z, q604_z, hm_z⟩ := hm_z
  obtain ⟨rfl, yq604_z⟩ := rp_wrong q604_z
  subst yq604_z
  replace hm_z : rn _ _ _ _ [.int 0] _ _ _ := hm_z
  replace hm_z := rn_iret (am_cur_of (i := (240, 1, .ireturn, (0, 0, 0), 0)) (by decide +kernel)) hm_z
  obtain ⟨e605_z, e606_z⟩ := hm_z
  subst e605_z e606_z
  exact Or.inr (Or.inl ⟨rfl, _, 1, by decide, K.1, K.2.trans R5, rfl, R6⟩)
theorem pl_law2_23 {T : Nat → Int32} {S x p : Int32} {n n' : Nat} {h h' g g' : am_H} {r r' : Option Value} {ls ls2_z : am_L} (R : rq T S x p 23 h g) (A : rp 23 h g) (B : rp_t h g) (ka : rg_v h 44 10 = 2) (kb : rg_v h 44 11 = 2) (kc : rg_v g 164 8 = 1) (kd : rg_v g 164 9 = 2) (g0_z : am_get ls 0 = some (.ref 44)) (g0m : am_get ls2_z 0 = some (.ref 164)) (hc_z : rn n am_m42 2 ls [] h r h') (hm_z : rn n' am_m157 85 ls2_z [] g r' g') : pm_Q T S x 23 h' g' r' := by
  have R5 := R.2.2.2.2.1
  have R6 := R.2.2.2.2.2.1
  replace hc_z := rn_aload_n (am_cur_of (i := (4, 1, .aload_n 0, (0, 0, 0), 0)) (by decide +kernel)) g0_z hc_z
  replace hc_z := rn_getI (v := 2) (am_cur_of (i := (5, 3, .getfield 91, (4, 11, 420), 0)) (by decide +kernel)) (by decide +kernel) kb hc_z
  replace hc_z := rn_bipush (w := 9) (am_cur_of (i := (8, 2, .bipush 9, (0, 0, 0), 0)) (by decide +kernel)) (by decide) hc_z
  replace hc_z := rn_isub (w := (-7)) (am_cur_of (i := (10, 1, .isub, (0, 0, 0), 0)) (by decide +kernel)) (by decide) hc_z
  replace hc_z := rn_istore_n (am_cur_of (i := (11, 1, .istore_n 1, (0, 0, 0), 0)) (by decide +kernel)) hc_z
  obtain ⟨_, s607_z, s608_z, g1_z, hc_z⟩ := hc_z
  replace g0_z := s607_z 0 _ (by decide) rfl g0_z
  clear s607_z s608_z
  replace hc_z := rn_aload_n (am_cur_of (i := (12, 1, .aload_n 0, (0, 0, 0), 0)) (by decide +kernel)) g0_z hc_z
  replace hc_z := rn_getI (v := 2) (am_cur_of (i := (13, 3, .getfield 60, (4, 10, 419), 0)) (by decide +kernel)) (by decide +kernel) ka hc_z
  replace hc_z := rn_iconst (w := 2) (am_cur_of (i := (16, 1, .iconst 2, (0, 0, 0), 0)) (by decide +kernel)) (by decide) hc_z
  replace hc_z := rn_cmpF (am_cur_of (i := (17, 3, .if_icmp .ne 12, (16, 0, 0), 0)) (by decide +kernel)) (by decide) hc_z
  replace hc_z := rn_iload_n (am_cur_of (i := (20, 1, .iload_n 1, (0, 0, 0), 0)) (by decide +kernel)) g1_z hc_z
  replace hc_z := rn_ifT (am_cur_of (i := (21, 3, .ifCond .lt 8, (16, 0, 0), 0)) (by decide +kernel)) (by decide) hc_z
  replace hc_z := rn_aload_n (am_cur_of (i := (29, 1, .aload_n 0, (0, 0, 0), 0)) (by decide +kernel)) g0_z hc_z
  replace hc_z := rn_iconst (w := 1) (am_cur_of (i := (30, 1, .iconst 1, (0, 0, 0), 0)) (by decide +kernel)) (by decide) hc_z
  replace hc_z := rn_callV (M' := am_m29) (o := 44) (ar := [.int 1]) (rest := []) (L := lv_args 0 [.ref 44, .int 1]) (am_cur_of (i := (31, 3, .invokevirtual 108, (29, 769, 3), 0)) (by decide +kernel)) rfl rfl rfl rfl hc_z
  obtain ⟨r609_z, h610_z, q611_z, hc_z⟩ := hc_z
  obtain ⟨rfl, yq611_z⟩ := rp_fail R.2.2.2.1 q611_z
  subst yq611_z
  replace hc_z : rn _ _ _ _ [] _ _ _ := hc_z
  have K := rs_stick (w := 1) (a := 42) (by decide) (by decide) rfl (by decide) rfl rfl hc_z
  replace hm_z := rn_aload_n (am_cur_of (i := (209, 1, .aload_n 0, (0, 0, 0), 0)) (by decide +kernel)) g0m hm_z
  replace hm_z := rn_getI (v := 1) (am_cur_of (i := (210, 3, .getfield 157, (12, 8, 1392), 0)) (by decide +kernel)) (by decide +kernel) kc hm_z
  replace hm_z := rn_iconst (w := 1) (am_cur_of (i := (213, 1, .iconst 1, (0, 0, 0), 0)) (by decide +kernel)) (by decide) hm_z
  replace hm_z := rn_cmpF (am_cur_of (i := (214, 3, .if_icmp .ne 21, (97, 0, 0), 0)) (by decide +kernel)) (by decide) hm_z
  replace hm_z := rn_aload_n (am_cur_of (i := (217, 1, .aload_n 0, (0, 0, 0), 0)) (by decide +kernel)) g0m hm_z
  replace hm_z := rn_getI (v := 2) (am_cur_of (i := (218, 3, .getfield 168, (12, 9, 1393), 0)) (by decide +kernel)) (by decide +kernel) kd hm_z
  replace hm_z := rn_bipush (w := 9) (am_cur_of (i := (221, 2, .bipush 9, (0, 0, 0), 0)) (by decide +kernel)) (by decide) hm_z
  replace hm_z := rn_cmpT (am_cur_of (i := (223, 3, .if_icmp .lt 12, (97, 0, 0), 0)) (by decide +kernel)) (by decide) hm_z
  replace hm_z := rn_aload_n (am_cur_of (i := (235, 1, .aload_n 0, (0, 0, 0), 0)) (by decide +kernel)) g0m hm_z
  replace hm_z := rn_iconst (w := 1) (am_cur_of (i := (236, 1, .iconst 1, (0, 0, 0), 0)) (by decide +kernel)) (by decide) hm_z
  replace hm_z := rn_callV (M' := am_m158) (o := 164) (ar := [.int 1]) (rest := []) (L := lv_args 0 [.ref 164, .int 1]) (am_cur_of (i := (237, 3, .invokevirtual 181, (158, 1665, 3), 0)) (by decide +kernel)) rfl rfl rfl rfl hm_z
  obtain ⟨r612_z, h613_z, q614_z, hm_z⟩ := hm_z
  obtain ⟨rfl, yq614_z⟩ := rp_wrong q614_z
  subst yq614_z
  replace hm_z : rn _ _ _ _ [.int 0] _ _ _ := hm_z
  replace hm_z := rn_iret (am_cur_of (i := (240, 1, .ireturn, (0, 0, 0), 0)) (by decide +kernel)) hm_z
  obtain ⟨e615_z, e616_z⟩ := hm_z
  subst e615_z e616_z
  exact Or.inr (Or.inl ⟨rfl, _, 1, by decide, K.1, K.2.trans R5, rfl, R6⟩)
theorem pl_law3_23 {T : Nat → Int32} {S x p : Int32} {n n' : Nat} {h h' g g' : am_H} {r r' : Option Value} {ls ls2_z : am_L} (R : rq T S x p 23 h g) (A : rp 23 h g) (B : rp_t h g) (ka : rg_v h 44 10 = 2) (kb : rg_v h 44 11 = 3) (kc : rg_v g 164 8 = 1) (kd : rg_v g 164 9 = 3) (g0_z : am_get ls 0 = some (.ref 44)) (g0m : am_get ls2_z 0 = some (.ref 164)) (hc_z : rn n am_m42 2 ls [] h r h') (hm_z : rn n' am_m157 85 ls2_z [] g r' g') : pm_Q T S x 23 h' g' r' := by
  have R5 := R.2.2.2.2.1
  have R6 := R.2.2.2.2.2.1
  replace hc_z := rn_aload_n (am_cur_of (i := (4, 1, .aload_n 0, (0, 0, 0), 0)) (by decide +kernel)) g0_z hc_z
  replace hc_z := rn_getI (v := 3) (am_cur_of (i := (5, 3, .getfield 91, (4, 11, 420), 0)) (by decide +kernel)) (by decide +kernel) kb hc_z
  replace hc_z := rn_bipush (w := 9) (am_cur_of (i := (8, 2, .bipush 9, (0, 0, 0), 0)) (by decide +kernel)) (by decide) hc_z
  replace hc_z := rn_isub (w := (-6)) (am_cur_of (i := (10, 1, .isub, (0, 0, 0), 0)) (by decide +kernel)) (by decide) hc_z
  replace hc_z := rn_istore_n (am_cur_of (i := (11, 1, .istore_n 1, (0, 0, 0), 0)) (by decide +kernel)) hc_z
  obtain ⟨_, s617_z, s618_z, g1_z, hc_z⟩ := hc_z
  replace g0_z := s617_z 0 _ (by decide) rfl g0_z
  clear s617_z s618_z
  replace hc_z := rn_aload_n (am_cur_of (i := (12, 1, .aload_n 0, (0, 0, 0), 0)) (by decide +kernel)) g0_z hc_z
  replace hc_z := rn_getI (v := 2) (am_cur_of (i := (13, 3, .getfield 60, (4, 10, 419), 0)) (by decide +kernel)) (by decide +kernel) ka hc_z
  replace hc_z := rn_iconst (w := 2) (am_cur_of (i := (16, 1, .iconst 2, (0, 0, 0), 0)) (by decide +kernel)) (by decide) hc_z
  replace hc_z := rn_cmpF (am_cur_of (i := (17, 3, .if_icmp .ne 12, (16, 0, 0), 0)) (by decide +kernel)) (by decide) hc_z
  replace hc_z := rn_iload_n (am_cur_of (i := (20, 1, .iload_n 1, (0, 0, 0), 0)) (by decide +kernel)) g1_z hc_z
  replace hc_z := rn_ifT (am_cur_of (i := (21, 3, .ifCond .lt 8, (16, 0, 0), 0)) (by decide +kernel)) (by decide) hc_z
  replace hc_z := rn_aload_n (am_cur_of (i := (29, 1, .aload_n 0, (0, 0, 0), 0)) (by decide +kernel)) g0_z hc_z
  replace hc_z := rn_iconst (w := 1) (am_cur_of (i := (30, 1, .iconst 1, (0, 0, 0), 0)) (by decide +kernel)) (by decide) hc_z
  replace hc_z := rn_callV (M' := am_m29) (o := 44) (ar := [.int 1]) (rest := []) (L := lv_args 0 [.ref 44, .int 1]) (am_cur_of (i := (31, 3, .invokevirtual 108, (29, 769, 3), 0)) (by decide +kernel)) rfl rfl rfl rfl hc_z
  obtain ⟨r619_z, h620_z, q621_z, hc_z⟩ := hc_z
  obtain ⟨rfl, yq621_z⟩ := rp_fail R.2.2.2.1 q621_z
  subst yq621_z
  replace hc_z : rn _ _ _ _ [] _ _ _ := hc_z
  have K := rs_stick (w := 1) (a := 42) (by decide) (by decide) rfl (by decide) rfl rfl hc_z
  replace hm_z := rn_aload_n (am_cur_of (i := (209, 1, .aload_n 0, (0, 0, 0), 0)) (by decide +kernel)) g0m hm_z
  replace hm_z := rn_getI (v := 1) (am_cur_of (i := (210, 3, .getfield 157, (12, 8, 1392), 0)) (by decide +kernel)) (by decide +kernel) kc hm_z
  replace hm_z := rn_iconst (w := 1) (am_cur_of (i := (213, 1, .iconst 1, (0, 0, 0), 0)) (by decide +kernel)) (by decide) hm_z
  replace hm_z := rn_cmpF (am_cur_of (i := (214, 3, .if_icmp .ne 21, (97, 0, 0), 0)) (by decide +kernel)) (by decide) hm_z
  replace hm_z := rn_aload_n (am_cur_of (i := (217, 1, .aload_n 0, (0, 0, 0), 0)) (by decide +kernel)) g0m hm_z
  replace hm_z := rn_getI (v := 3) (am_cur_of (i := (218, 3, .getfield 168, (12, 9, 1393), 0)) (by decide +kernel)) (by decide +kernel) kd hm_z
  replace hm_z := rn_bipush (w := 9) (am_cur_of (i := (221, 2, .bipush 9, (0, 0, 0), 0)) (by decide +kernel)) (by decide) hm_z
  replace hm_z := rn_cmpT (am_cur_of (i := (223, 3, .if_icmp .lt 12, (97, 0, 0), 0)) (by decide +kernel)) (by decide) hm_z
  replace hm_z := rn_aload_n (am_cur_of (i := (235, 1, .aload_n 0, (0, 0, 0), 0)) (by decide +kernel)) g0m hm_z
  replace hm_z := rn_iconst (w := 1) (am_cur_of (i := (236, 1, .iconst 1, (0, 0, 0), 0)) (by decide +kernel)) (by decide) hm_z
  replace hm_z := rn_callV (M' := am_m158) (o := 164) (ar := [.int 1]) (rest := []) (L := lv_args 0 [.ref 164, .int 1]) (am_cur_of (i := (237, 3, .invokevirtual 181, (158, 1665, 3), 0)) (by decide +kernel)) rfl rfl rfl rfl hm_z
  obtain ⟨r622_z, h623_z, q624_z, hm_z⟩ := hm_z
  obtain ⟨rfl, yq624_z⟩ := rp_wrong q624_z
  subst yq624_z
  replace hm_z : rn _ _ _ _ [.int 0] _ _ _ := hm_z
  replace hm_z := rn_iret (am_cur_of (i := (240, 1, .ireturn, (0, 0, 0), 0)) (by decide +kernel)) hm_z
  obtain ⟨e625_z, e626_z⟩ := hm_z
  subst e625_z e626_z
  exact Or.inr (Or.inl ⟨rfl, _, 1, by decide, K.1, K.2.trans R5, rfl, R6⟩)
theorem pl_law4_23 {T : Nat → Int32} {S x p : Int32} {n n' : Nat} {h h' g g' : am_H} {r r' : Option Value} {ls ls2_z : am_L} (R : rq T S x p 23 h g) (A : rp 23 h g) (B : rp_t h g) (ka : rg_v h 44 10 = 2) (kb : rg_v h 44 11 = 4) (kc : rg_v g 164 8 = 1) (kd : rg_v g 164 9 = 4) (g0_z : am_get ls 0 = some (.ref 44)) (g0m : am_get ls2_z 0 = some (.ref 164)) (hc_z : rn n am_m42 2 ls [] h r h') (hm_z : rn n' am_m157 85 ls2_z [] g r' g') : pm_Q T S x 23 h' g' r' := by
  have R5 := R.2.2.2.2.1
  have R6 := R.2.2.2.2.2.1
  replace hc_z := rn_aload_n (am_cur_of (i := (4, 1, .aload_n 0, (0, 0, 0), 0)) (by decide +kernel)) g0_z hc_z
  replace hc_z := rn_getI (v := 4) (am_cur_of (i := (5, 3, .getfield 91, (4, 11, 420), 0)) (by decide +kernel)) (by decide +kernel) kb hc_z
  replace hc_z := rn_bipush (w := 9) (am_cur_of (i := (8, 2, .bipush 9, (0, 0, 0), 0)) (by decide +kernel)) (by decide) hc_z
  replace hc_z := rn_isub (w := (-5)) (am_cur_of (i := (10, 1, .isub, (0, 0, 0), 0)) (by decide +kernel)) (by decide) hc_z
  replace hc_z := rn_istore_n (am_cur_of (i := (11, 1, .istore_n 1, (0, 0, 0), 0)) (by decide +kernel)) hc_z
  obtain ⟨_, s627_z, s628_z, g1_z, hc_z⟩ := hc_z
  replace g0_z := s627_z 0 _ (by decide) rfl g0_z
  clear s627_z s628_z
  replace hc_z := rn_aload_n (am_cur_of (i := (12, 1, .aload_n 0, (0, 0, 0), 0)) (by decide +kernel)) g0_z hc_z
  replace hc_z := rn_getI (v := 2) (am_cur_of (i := (13, 3, .getfield 60, (4, 10, 419), 0)) (by decide +kernel)) (by decide +kernel) ka hc_z
  replace hc_z := rn_iconst (w := 2) (am_cur_of (i := (16, 1, .iconst 2, (0, 0, 0), 0)) (by decide +kernel)) (by decide) hc_z
  replace hc_z := rn_cmpF (am_cur_of (i := (17, 3, .if_icmp .ne 12, (16, 0, 0), 0)) (by decide +kernel)) (by decide) hc_z
  replace hc_z := rn_iload_n (am_cur_of (i := (20, 1, .iload_n 1, (0, 0, 0), 0)) (by decide +kernel)) g1_z hc_z
  replace hc_z := rn_ifT (am_cur_of (i := (21, 3, .ifCond .lt 8, (16, 0, 0), 0)) (by decide +kernel)) (by decide) hc_z
  replace hc_z := rn_aload_n (am_cur_of (i := (29, 1, .aload_n 0, (0, 0, 0), 0)) (by decide +kernel)) g0_z hc_z
  replace hc_z := rn_iconst (w := 1) (am_cur_of (i := (30, 1, .iconst 1, (0, 0, 0), 0)) (by decide +kernel)) (by decide) hc_z
  replace hc_z := rn_callV (M' := am_m29) (o := 44) (ar := [.int 1]) (rest := []) (L := lv_args 0 [.ref 44, .int 1]) (am_cur_of (i := (31, 3, .invokevirtual 108, (29, 769, 3), 0)) (by decide +kernel)) rfl rfl rfl rfl hc_z
  obtain ⟨r629_z, h630_z, q631_z, hc_z⟩ := hc_z
  obtain ⟨rfl, yq631_z⟩ := rp_fail R.2.2.2.1 q631_z
  subst yq631_z
  replace hc_z : rn _ _ _ _ [] _ _ _ := hc_z
  have K := rs_stick (w := 1) (a := 42) (by decide) (by decide) rfl (by decide) rfl rfl hc_z
  replace hm_z := rn_aload_n (am_cur_of (i := (209, 1, .aload_n 0, (0, 0, 0), 0)) (by decide +kernel)) g0m hm_z
  replace hm_z := rn_getI (v := 1) (am_cur_of (i := (210, 3, .getfield 157, (12, 8, 1392), 0)) (by decide +kernel)) (by decide +kernel) kc hm_z
  replace hm_z := rn_iconst (w := 1) (am_cur_of (i := (213, 1, .iconst 1, (0, 0, 0), 0)) (by decide +kernel)) (by decide) hm_z
  replace hm_z := rn_cmpF (am_cur_of (i := (214, 3, .if_icmp .ne 21, (97, 0, 0), 0)) (by decide +kernel)) (by decide) hm_z
  replace hm_z := rn_aload_n (am_cur_of (i := (217, 1, .aload_n 0, (0, 0, 0), 0)) (by decide +kernel)) g0m hm_z
  replace hm_z := rn_getI (v := 4) (am_cur_of (i := (218, 3, .getfield 168, (12, 9, 1393), 0)) (by decide +kernel)) (by decide +kernel) kd hm_z
  replace hm_z := rn_bipush (w := 9) (am_cur_of (i := (221, 2, .bipush 9, (0, 0, 0), 0)) (by decide +kernel)) (by decide) hm_z
  replace hm_z := rn_cmpT (am_cur_of (i := (223, 3, .if_icmp .lt 12, (97, 0, 0), 0)) (by decide +kernel)) (by decide) hm_z
  replace hm_z := rn_aload_n (am_cur_of (i := (235, 1, .aload_n 0, (0, 0, 0), 0)) (by decide +kernel)) g0m hm_z
  replace hm_z := rn_iconst (w := 1) (am_cur_of (i := (236, 1, .iconst 1, (0, 0, 0), 0)) (by decide +kernel)) (by decide) hm_z
  replace hm_z := rn_callV (M' := am_m158) (o := 164) (ar := [.int 1]) (rest := []) (L := lv_args 0 [.ref 164, .int 1]) (am_cur_of (i := (237, 3, .invokevirtual 181, (158, 1665, 3), 0)) (by decide +kernel)) rfl rfl rfl rfl hm_z
  obtain ⟨r632_z, h633_z, q634_z, hm_z⟩ := hm_z
  obtain ⟨rfl, yq634_z⟩ := rp_wrong q634_z
  subst yq634_z
  replace hm_z : rn _ _ _ _ [.int 0] _ _ _ := hm_z
  replace hm_z := rn_iret (am_cur_of (i := (240, 1, .ireturn, (0, 0, 0), 0)) (by decide +kernel)) hm_z
  obtain ⟨e635_z, e636_z⟩ := hm_z
  subst e635_z e636_z
  exact Or.inr (Or.inl ⟨rfl, _, 1, by decide, K.1, K.2.trans R5, rfl, R6⟩)
theorem pl_law5_23 {T : Nat → Int32} {S x p : Int32} {n n' : Nat} {h h' g g' : am_H} {r r' : Option Value} {ls ls2_z : am_L} (R : rq T S x p 23 h g) (A : rp 23 h g) (B : rp_t h g) (ka : rg_v h 44 10 = 2) (kb : rg_v h 44 11 = 5) (kc : rg_v g 164 8 = 1) (kd : rg_v g 164 9 = 5) (g0_z : am_get ls 0 = some (.ref 44)) (g0m : am_get ls2_z 0 = some (.ref 164)) (hc_z : rn n am_m42 2 ls [] h r h') (hm_z : rn n' am_m157 85 ls2_z [] g r' g') : pm_Q T S x 23 h' g' r' := by
  have R5 := R.2.2.2.2.1
  have R6 := R.2.2.2.2.2.1
  replace hc_z := rn_aload_n (am_cur_of (i := (4, 1, .aload_n 0, (0, 0, 0), 0)) (by decide +kernel)) g0_z hc_z
  replace hc_z := rn_getI (v := 5) (am_cur_of (i := (5, 3, .getfield 91, (4, 11, 420), 0)) (by decide +kernel)) (by decide +kernel) kb hc_z
  replace hc_z := rn_bipush (w := 9) (am_cur_of (i := (8, 2, .bipush 9, (0, 0, 0), 0)) (by decide +kernel)) (by decide) hc_z
  replace hc_z := rn_isub (w := (-4)) (am_cur_of (i := (10, 1, .isub, (0, 0, 0), 0)) (by decide +kernel)) (by decide) hc_z
  replace hc_z := rn_istore_n (am_cur_of (i := (11, 1, .istore_n 1, (0, 0, 0), 0)) (by decide +kernel)) hc_z
  obtain ⟨_, s637_z, s638_z, g1_z, hc_z⟩ := hc_z
  replace g0_z := s637_z 0 _ (by decide) rfl g0_z
  clear s637_z s638_z
  replace hc_z := rn_aload_n (am_cur_of (i := (12, 1, .aload_n 0, (0, 0, 0), 0)) (by decide +kernel)) g0_z hc_z
  replace hc_z := rn_getI (v := 2) (am_cur_of (i := (13, 3, .getfield 60, (4, 10, 419), 0)) (by decide +kernel)) (by decide +kernel) ka hc_z
  replace hc_z := rn_iconst (w := 2) (am_cur_of (i := (16, 1, .iconst 2, (0, 0, 0), 0)) (by decide +kernel)) (by decide) hc_z
  replace hc_z := rn_cmpF (am_cur_of (i := (17, 3, .if_icmp .ne 12, (16, 0, 0), 0)) (by decide +kernel)) (by decide) hc_z
  replace hc_z := rn_iload_n (am_cur_of (i := (20, 1, .iload_n 1, (0, 0, 0), 0)) (by decide +kernel)) g1_z hc_z
  replace hc_z := rn_ifT (am_cur_of (i := (21, 3, .ifCond .lt 8, (16, 0, 0), 0)) (by decide +kernel)) (by decide) hc_z
  replace hc_z := rn_aload_n (am_cur_of (i := (29, 1, .aload_n 0, (0, 0, 0), 0)) (by decide +kernel)) g0_z hc_z
  replace hc_z := rn_iconst (w := 1) (am_cur_of (i := (30, 1, .iconst 1, (0, 0, 0), 0)) (by decide +kernel)) (by decide) hc_z
  replace hc_z := rn_callV (M' := am_m29) (o := 44) (ar := [.int 1]) (rest := []) (L := lv_args 0 [.ref 44, .int 1]) (am_cur_of (i := (31, 3, .invokevirtual 108, (29, 769, 3), 0)) (by decide +kernel)) rfl rfl rfl rfl hc_z
  obtain ⟨r639_z, h640_z, q641_z, hc_z⟩ := hc_z
  obtain ⟨rfl, yq641_z⟩ := rp_fail R.2.2.2.1 q641_z
  subst yq641_z
  replace hc_z : rn _ _ _ _ [] _ _ _ := hc_z
  have K := rs_stick (w := 1) (a := 42) (by decide) (by decide) rfl (by decide) rfl rfl hc_z
  replace hm_z := rn_aload_n (am_cur_of (i := (209, 1, .aload_n 0, (0, 0, 0), 0)) (by decide +kernel)) g0m hm_z
  replace hm_z := rn_getI (v := 1) (am_cur_of (i := (210, 3, .getfield 157, (12, 8, 1392), 0)) (by decide +kernel)) (by decide +kernel) kc hm_z
  replace hm_z := rn_iconst (w := 1) (am_cur_of (i := (213, 1, .iconst 1, (0, 0, 0), 0)) (by decide +kernel)) (by decide) hm_z
  replace hm_z := rn_cmpF (am_cur_of (i := (214, 3, .if_icmp .ne 21, (97, 0, 0), 0)) (by decide +kernel)) (by decide) hm_z
  replace hm_z := rn_aload_n (am_cur_of (i := (217, 1, .aload_n 0, (0, 0, 0), 0)) (by decide +kernel)) g0m hm_z
  replace hm_z := rn_getI (v := 5) (am_cur_of (i := (218, 3, .getfield 168, (12, 9, 1393), 0)) (by decide +kernel)) (by decide +kernel) kd hm_z
  replace hm_z := rn_bipush (w := 9) (am_cur_of (i := (221, 2, .bipush 9, (0, 0, 0), 0)) (by decide +kernel)) (by decide) hm_z
  replace hm_z := rn_cmpT (am_cur_of (i := (223, 3, .if_icmp .lt 12, (97, 0, 0), 0)) (by decide +kernel)) (by decide) hm_z
  replace hm_z := rn_aload_n (am_cur_of (i := (235, 1, .aload_n 0, (0, 0, 0), 0)) (by decide +kernel)) g0m hm_z
  replace hm_z := rn_iconst (w := 1) (am_cur_of (i := (236, 1, .iconst 1, (0, 0, 0), 0)) (by decide +kernel)) (by decide) hm_z
  replace hm_z := rn_callV (M' := am_m158) (o := 164) (ar := [.int 1]) (rest := []) (L := lv_args 0 [.ref 164, .int 1]) (am_cur_of (i := (237, 3, .invokevirtual 181, (158, 1665, 3), 0)) (by decide +kernel)) rfl rfl rfl rfl hm_z
  obtain ⟨r642_z, h643_z, q644_z, hm_z⟩ := hm_z
  obtain ⟨rfl, yq644_z⟩ := rp_wrong q644_z
  subst yq644_z
  replace hm_z : rn _ _ _ _ [.int 0] _ _ _ := hm_z
  replace hm_z := rn_iret (am_cur_of (i := (240, 1, .ireturn, (0, 0, 0), 0)) (by decide +kernel)) hm_z
  obtain ⟨e645_z, e646_z⟩ := hm_z
  subst e645_z e646_z
  exact Or.inr (Or.inl ⟨rfl, _, 1, by decide, K.1, K.2.trans R5, rfl, R6⟩)
theorem pl_law6_23 {T : Nat → Int32} {S x p : Int32} {n n' : Nat} {h h' g g' : am_H} {r r' : Option Value} {ls ls2_z : am_L} (R : rq T S x p 23 h g) (A : rp 23 h g) (B : rp_t h g) (ka : rg_v h 44 10 = 2) (kb : rg_v h 44 11 = 6) (kc : rg_v g 164 8 = 1) (kd : rg_v g 164 9 = 6) (g0_z : am_get ls 0 = some (.ref 44)) (g0m : am_get ls2_z 0 = some (.ref 164)) (hc_z : rn n am_m42 2 ls [] h r h') (hm_z : rn n' am_m157 85 ls2_z [] g r' g') : pm_Q T S x 23 h' g' r' := by
  have R5 := R.2.2.2.2.1
  have R6 := R.2.2.2.2.2.1
  replace hc_z := rn_aload_n (am_cur_of (i := (4, 1, .aload_n 0, (0, 0, 0), 0)) (by decide +kernel)) g0_z hc_z
  replace hc_z := rn_getI (v := 6) (am_cur_of (i := (5, 3, .getfield 91, (4, 11, 420), 0)) (by decide +kernel)) (by decide +kernel) kb hc_z
  replace hc_z := rn_bipush (w := 9) (am_cur_of (i := (8, 2, .bipush 9, (0, 0, 0), 0)) (by decide +kernel)) (by decide) hc_z
  replace hc_z := rn_isub (w := (-3)) (am_cur_of (i := (10, 1, .isub, (0, 0, 0), 0)) (by decide +kernel)) (by decide) hc_z
  replace hc_z := rn_istore_n (am_cur_of (i := (11, 1, .istore_n 1, (0, 0, 0), 0)) (by decide +kernel)) hc_z
  obtain ⟨_, s647_z, s648_z, g1_z, hc_z⟩ := hc_z
  replace g0_z := s647_z 0 _ (by decide) rfl g0_z
  clear s647_z s648_z
  replace hc_z := rn_aload_n (am_cur_of (i := (12, 1, .aload_n 0, (0, 0, 0), 0)) (by decide +kernel)) g0_z hc_z
  replace hc_z := rn_getI (v := 2) (am_cur_of (i := (13, 3, .getfield 60, (4, 10, 419), 0)) (by decide +kernel)) (by decide +kernel) ka hc_z
  replace hc_z := rn_iconst (w := 2) (am_cur_of (i := (16, 1, .iconst 2, (0, 0, 0), 0)) (by decide +kernel)) (by decide) hc_z
  replace hc_z := rn_cmpF (am_cur_of (i := (17, 3, .if_icmp .ne 12, (16, 0, 0), 0)) (by decide +kernel)) (by decide) hc_z
  replace hc_z := rn_iload_n (am_cur_of (i := (20, 1, .iload_n 1, (0, 0, 0), 0)) (by decide +kernel)) g1_z hc_z
  replace hc_z := rn_ifT (am_cur_of (i := (21, 3, .ifCond .lt 8, (16, 0, 0), 0)) (by decide +kernel)) (by decide) hc_z
  replace hc_z := rn_aload_n (am_cur_of (i := (29, 1, .aload_n 0, (0, 0, 0), 0)) (by decide +kernel)) g0_z hc_z
  replace hc_z := rn_iconst (w := 1) (am_cur_of (i := (30, 1, .iconst 1, (0, 0, 0), 0)) (by decide +kernel)) (by decide) hc_z
  replace hc_z := rn_callV (M' := am_m29) (o := 44) (ar := [.int 1]) (rest := []) (L := lv_args 0 [.ref 44, .int 1]) (am_cur_of (i := (31, 3, .invokevirtual 108, (29, 769, 3), 0)) (by decide +kernel)) rfl rfl rfl rfl hc_z
  obtain ⟨r649_z, h650_z, q651_z, hc_z⟩ := hc_z
  obtain ⟨rfl, yq651_z⟩ := rp_fail R.2.2.2.1 q651_z
  subst yq651_z
  replace hc_z : rn _ _ _ _ [] _ _ _ := hc_z
  have K := rs_stick (w := 1) (a := 42) (by decide) (by decide) rfl (by decide) rfl rfl hc_z
  replace hm_z := rn_aload_n (am_cur_of (i := (209, 1, .aload_n 0, (0, 0, 0), 0)) (by decide +kernel)) g0m hm_z
  replace hm_z := rn_getI (v := 1) (am_cur_of (i := (210, 3, .getfield 157, (12, 8, 1392), 0)) (by decide +kernel)) (by decide +kernel) kc hm_z
  replace hm_z := rn_iconst (w := 1) (am_cur_of (i := (213, 1, .iconst 1, (0, 0, 0), 0)) (by decide +kernel)) (by decide) hm_z
  replace hm_z := rn_cmpF (am_cur_of (i := (214, 3, .if_icmp .ne 21, (97, 0, 0), 0)) (by decide +kernel)) (by decide) hm_z
  replace hm_z := rn_aload_n (am_cur_of (i := (217, 1, .aload_n 0, (0, 0, 0), 0)) (by decide +kernel)) g0m hm_z
  replace hm_z := rn_getI (v := 6) (am_cur_of (i := (218, 3, .getfield 168, (12, 9, 1393), 0)) (by decide +kernel)) (by decide +kernel) kd hm_z
  replace hm_z := rn_bipush (w := 9) (am_cur_of (i := (221, 2, .bipush 9, (0, 0, 0), 0)) (by decide +kernel)) (by decide) hm_z
  replace hm_z := rn_cmpT (am_cur_of (i := (223, 3, .if_icmp .lt 12, (97, 0, 0), 0)) (by decide +kernel)) (by decide) hm_z
  replace hm_z := rn_aload_n (am_cur_of (i := (235, 1, .aload_n 0, (0, 0, 0), 0)) (by decide +kernel)) g0m hm_z
  replace hm_z := rn_iconst (w := 1) (am_cur_of (i := (236, 1, .iconst 1, (0, 0, 0), 0)) (by decide +kernel)) (by decide) hm_z
  replace hm_z := rn_callV (M' := am_m158) (o := 164) (ar := [.int 1]) (rest := []) (L := lv_args 0 [.ref 164, .int 1]) (am_cur_of (i := (237, 3, .invokevirtual 181, (158, 1665, 3), 0)) (by decide +kernel)) rfl rfl rfl rfl hm_z
  obtain ⟨r652_z, h653_z, q654_z, hm_z⟩ := hm_z
  obtain ⟨rfl, yq654_z⟩ := rp_wrong q654_z
  subst yq654_z
  replace hm_z : rn _ _ _ _ [.int 0] _ _ _ := hm_z
  replace hm_z := rn_iret (am_cur_of (i := (240, 1, .ireturn, (0, 0, 0), 0)) (by decide +kernel)) hm_z
  obtain ⟨e655_z, e656_z⟩ := hm_z
  subst e655_z e656_z
  exact Or.inr (Or.inl ⟨rfl, _, 1, by decide, K.1, K.2.trans R5, rfl, R6⟩)
theorem pl_law7_23 {T : Nat → Int32} {S x p : Int32} {n n' : Nat} {h h' g g' : am_H} {r r' : Option Value} {ls ls2_z : am_L} (R : rq T S x p 23 h g) (A : rp 23 h g) (B : rp_t h g) (ka : rg_v h 44 10 = 2) (kb : rg_v h 44 11 = 7) (kc : rg_v g 164 8 = 1) (kd : rg_v g 164 9 = 7) (g0_z : am_get ls 0 = some (.ref 44)) (g0m : am_get ls2_z 0 = some (.ref 164)) (hc_z : rn n am_m42 2 ls [] h r h') (hm_z : rn n' am_m157 85 ls2_z [] g r' g') : pm_Q T S x 23 h' g' r' := by
  have R5 := R.2.2.2.2.1
  have R6 := R.2.2.2.2.2.1
  replace hc_z := rn_aload_n (am_cur_of (i := (4, 1, .aload_n 0, (0, 0, 0), 0)) (by decide +kernel)) g0_z hc_z
  replace hc_z := rn_getI (v := 7) (am_cur_of (i := (5, 3, .getfield 91, (4, 11, 420), 0)) (by decide +kernel)) (by decide +kernel) kb hc_z
  replace hc_z := rn_bipush (w := 9) (am_cur_of (i := (8, 2, .bipush 9, (0, 0, 0), 0)) (by decide +kernel)) (by decide) hc_z
  replace hc_z := rn_isub (w := (-2)) (am_cur_of (i := (10, 1, .isub, (0, 0, 0), 0)) (by decide +kernel)) (by decide) hc_z
  replace hc_z := rn_istore_n (am_cur_of (i := (11, 1, .istore_n 1, (0, 0, 0), 0)) (by decide +kernel)) hc_z
  obtain ⟨_, s657_z, s658_z, g1_z, hc_z⟩ := hc_z
  replace g0_z := s657_z 0 _ (by decide) rfl g0_z
  clear s657_z s658_z
  replace hc_z := rn_aload_n (am_cur_of (i := (12, 1, .aload_n 0, (0, 0, 0), 0)) (by decide +kernel)) g0_z hc_z
  replace hc_z := rn_getI (v := 2) (am_cur_of (i := (13, 3, .getfield 60, (4, 10, 419), 0)) (by decide +kernel)) (by decide +kernel) ka hc_z
  replace hc_z := rn_iconst (w := 2) (am_cur_of (i := (16, 1, .iconst 2, (0, 0, 0), 0)) (by decide +kernel)) (by decide) hc_z
  replace hc_z := rn_cmpF (am_cur_of (i := (17, 3, .if_icmp .ne 12, (16, 0, 0), 0)) (by decide +kernel)) (by decide) hc_z
  replace hc_z := rn_iload_n (am_cur_of (i := (20, 1, .iload_n 1, (0, 0, 0), 0)) (by decide +kernel)) g1_z hc_z
  replace hc_z := rn_ifT (am_cur_of (i := (21, 3, .ifCond .lt 8, (16, 0, 0), 0)) (by decide +kernel)) (by decide) hc_z
  replace hc_z := rn_aload_n (am_cur_of (i := (29, 1, .aload_n 0, (0, 0, 0), 0)) (by decide +kernel)) g0_z hc_z
  replace hc_z := rn_iconst (w := 1) (am_cur_of (i := (30, 1, .iconst 1, (0, 0, 0), 0)) (by decide +kernel)) (by decide) hc_z
  replace hc_z := rn_callV (M' := am_m29) (o := 44) (ar := [.int 1]) (rest := []) (L := lv_args 0 [.ref 44, .int 1]) (am_cur_of (i := (31, 3, .invokevirtual 108, (29, 769, 3), 0)) (by decide +kernel)) rfl rfl rfl rfl hc_z
  obtain ⟨r659_z, h660_z, q661_z, hc_z⟩ := hc_z
  obtain ⟨rfl, yq661_z⟩ := rp_fail R.2.2.2.1 q661_z
  subst yq661_z
  replace hc_z : rn _ _ _ _ [] _ _ _ := hc_z
  have K := rs_stick (w := 1) (a := 42) (by decide) (by decide) rfl (by decide) rfl rfl hc_z
  replace hm_z := rn_aload_n (am_cur_of (i := (209, 1, .aload_n 0, (0, 0, 0), 0)) (by decide +kernel)) g0m hm_z
  replace hm_z := rn_getI (v := 1) (am_cur_of (i := (210, 3, .getfield 157, (12, 8, 1392), 0)) (by decide +kernel)) (by decide +kernel) kc hm_z
  replace hm_z := rn_iconst (w := 1) (am_cur_of (i := (213, 1, .iconst 1, (0, 0, 0), 0)) (by decide +kernel)) (by decide) hm_z
  replace hm_z := rn_cmpF (am_cur_of (i := (214, 3, .if_icmp .ne 21, (97, 0, 0), 0)) (by decide +kernel)) (by decide) hm_z
  replace hm_z := rn_aload_n (am_cur_of (i := (217, 1, .aload_n 0, (0, 0, 0), 0)) (by decide +kernel)) g0m hm_z
  replace hm_z := rn_getI (v := 7) (am_cur_of (i := (218, 3, .getfield 168, (12, 9, 1393), 0)) (by decide +kernel)) (by decide +kernel) kd hm_z
  replace hm_z := rn_bipush (w := 9) (am_cur_of (i := (221, 2, .bipush 9, (0, 0, 0), 0)) (by decide +kernel)) (by decide) hm_z
  replace hm_z := rn_cmpT (am_cur_of (i := (223, 3, .if_icmp .lt 12, (97, 0, 0), 0)) (by decide +kernel)) (by decide) hm_z
  replace hm_z := rn_aload_n (am_cur_of (i := (235, 1, .aload_n 0, (0, 0, 0), 0)) (by decide +kernel)) g0m hm_z
  replace hm_z := rn_iconst (w := 1) (am_cur_of (i := (236, 1, .iconst 1, (0, 0, 0), 0)) (by decide +kernel)) (by decide) hm_z
  replace hm_z := rn_callV (M' := am_m158) (o := 164) (ar := [.int 1]) (rest := []) (L := lv_args 0 [.ref 164, .int 1]) (am_cur_of (i := (237, 3, .invokevirtual 181, (158, 1665, 3), 0)) (by decide +kernel)) rfl rfl rfl rfl hm_z
  obtain ⟨r662_z, h663_z, q664_z, hm_z⟩ := hm_z
  obtain ⟨rfl, yq664_z⟩ := rp_wrong q664_z
  subst yq664_z
  replace hm_z : rn _ _ _ _ [.int 0] _ _ _ := hm_z
  replace hm_z := rn_iret (am_cur_of (i := (240, 1, .ireturn, (0, 0, 0), 0)) (by decide +kernel)) hm_z
  obtain ⟨e665_z, e666_z⟩ := hm_z
  subst e665_z e666_z
  exact Or.inr (Or.inl ⟨rfl, _, 1, by decide, K.1, K.2.trans R5, rfl, R6⟩)
theorem pl_law8_23 {T : Nat → Int32} {S x p : Int32} {n n' : Nat} {h h' g g' : am_H} {r r' : Option Value} {ls ls2_z : am_L} (R : rq T S x p 23 h g) (A : rp 23 h g) (B : rp_t h g) (ka : rg_v h 44 10 = 2) (kb : rg_v h 44 11 = 8) (kc : rg_v g 164 8 = 1) (kd : rg_v g 164 9 = 8) (g0_z : am_get ls 0 = some (.ref 44)) (g0m : am_get ls2_z 0 = some (.ref 164)) (hc_z : rn n am_m42 2 ls [] h r h') (hm_z : rn n' am_m157 85 ls2_z [] g r' g') : pm_Q T S x 23 h' g' r' := by
  have R5 := R.2.2.2.2.1
  have R6 := R.2.2.2.2.2.1
  replace hc_z := rn_aload_n (am_cur_of (i := (4, 1, .aload_n 0, (0, 0, 0), 0)) (by decide +kernel)) g0_z hc_z
  replace hc_z := rn_getI (v := 8) (am_cur_of (i := (5, 3, .getfield 91, (4, 11, 420), 0)) (by decide +kernel)) (by decide +kernel) kb hc_z
  replace hc_z := rn_bipush (w := 9) (am_cur_of (i := (8, 2, .bipush 9, (0, 0, 0), 0)) (by decide +kernel)) (by decide) hc_z
  replace hc_z := rn_isub (w := (-1)) (am_cur_of (i := (10, 1, .isub, (0, 0, 0), 0)) (by decide +kernel)) (by decide) hc_z
  replace hc_z := rn_istore_n (am_cur_of (i := (11, 1, .istore_n 1, (0, 0, 0), 0)) (by decide +kernel)) hc_z
  obtain ⟨_, s667_z, s668_z, g1_z, hc_z⟩ := hc_z
  replace g0_z := s667_z 0 _ (by decide) rfl g0_z
  clear s667_z s668_z
  replace hc_z := rn_aload_n (am_cur_of (i := (12, 1, .aload_n 0, (0, 0, 0), 0)) (by decide +kernel)) g0_z hc_z
  replace hc_z := rn_getI (v := 2) (am_cur_of (i := (13, 3, .getfield 60, (4, 10, 419), 0)) (by decide +kernel)) (by decide +kernel) ka hc_z
  replace hc_z := rn_iconst (w := 2) (am_cur_of (i := (16, 1, .iconst 2, (0, 0, 0), 0)) (by decide +kernel)) (by decide) hc_z
  replace hc_z := rn_cmpF (am_cur_of (i := (17, 3, .if_icmp .ne 12, (16, 0, 0), 0)) (by decide +kernel)) (by decide) hc_z
  replace hc_z := rn_iload_n (am_cur_of (i := (20, 1, .iload_n 1, (0, 0, 0), 0)) (by decide +kernel)) g1_z hc_z
  replace hc_z := rn_ifT (am_cur_of (i := (21, 3, .ifCond .lt 8, (16, 0, 0), 0)) (by decide +kernel)) (by decide) hc_z
  replace hc_z := rn_aload_n (am_cur_of (i := (29, 1, .aload_n 0, (0, 0, 0), 0)) (by decide +kernel)) g0_z hc_z
  replace hc_z := rn_iconst (w := 1) (am_cur_of (i := (30, 1, .iconst 1, (0, 0, 0), 0)) (by decide +kernel)) (by decide) hc_z
  replace hc_z := rn_callV (M' := am_m29) (o := 44) (ar := [.int 1]) (rest := []) (L := lv_args 0 [.ref 44, .int 1]) (am_cur_of (i := (31, 3, .invokevirtual 108, (29, 769, 3), 0)) (by decide +kernel)) rfl rfl rfl rfl hc_z
  obtain ⟨r669_z, h670_z, q671_z, hc_z⟩ := hc_z
  obtain ⟨rfl, yq671_z⟩ := rp_fail R.2.2.2.1 q671_z
  subst yq671_z
  replace hc_z : rn _ _ _ _ [] _ _ _ := hc_z
  have K := rs_stick (w := 1) (a := 42) (by decide) (by decide) rfl (by decide) rfl rfl hc_z
  replace hm_z := rn_aload_n (am_cur_of (i := (209, 1, .aload_n 0, (0, 0, 0), 0)) (by decide +kernel)) g0m hm_z
  replace hm_z := rn_getI (v := 1) (am_cur_of (i := (210, 3, .getfield 157, (12, 8, 1392), 0)) (by decide +kernel)) (by decide +kernel) kc hm_z
  replace hm_z := rn_iconst (w := 1) (am_cur_of (i := (213, 1, .iconst 1, (0, 0, 0), 0)) (by decide +kernel)) (by decide) hm_z
  replace hm_z := rn_cmpF (am_cur_of (i := (214, 3, .if_icmp .ne 21, (97, 0, 0), 0)) (by decide +kernel)) (by decide) hm_z
  replace hm_z := rn_aload_n (am_cur_of (i := (217, 1, .aload_n 0, (0, 0, 0), 0)) (by decide +kernel)) g0m hm_z
  replace hm_z := rn_getI (v := 8) (am_cur_of (i := (218, 3, .getfield 168, (12, 9, 1393), 0)) (by decide +kernel)) (by decide +kernel) kd hm_z
  replace hm_z := rn_bipush (w := 9) (am_cur_of (i := (221, 2, .bipush 9, (0, 0, 0), 0)) (by decide +kernel)) (by decide) hm_z
  replace hm_z := rn_cmpT (am_cur_of (i := (223, 3, .if_icmp .lt 12, (97, 0, 0), 0)) (by decide +kernel)) (by decide) hm_z
  replace hm_z := rn_aload_n (am_cur_of (i := (235, 1, .aload_n 0, (0, 0, 0), 0)) (by decide +kernel)) g0m hm_z
  replace hm_z := rn_iconst (w := 1) (am_cur_of (i := (236, 1, .iconst 1, (0, 0, 0), 0)) (by decide +kernel)) (by decide) hm_z
  replace hm_z := rn_callV (M' := am_m158) (o := 164) (ar := [.int 1]) (rest := []) (L := lv_args 0 [.ref 164, .int 1]) (am_cur_of (i := (237, 3, .invokevirtual 181, (158, 1665, 3), 0)) (by decide +kernel)) rfl rfl rfl rfl hm_z
  obtain ⟨r672_z, h673_z, q674_z, hm_z⟩ := hm_z
  obtain ⟨rfl, yq674_z⟩ := rp_wrong q674_z
  subst yq674_z
  replace hm_z : rn _ _ _ _ [.int 0] _ _ _ := hm_z
  replace hm_z := rn_iret (am_cur_of (i := (240, 1, .ireturn, (0, 0, 0), 0)) (by decide +kernel)) hm_z
  obtain ⟨e675_z, e676_z⟩ := hm_z
  subst e675_z e676_z
  exact Or.inr (Or.inl ⟨rfl, _, 1, by decide, K.1, K.2.trans R5, rfl, R6⟩)
theorem pl_law9_23 {T : Nat → Int32} {S x p : Int32} {n n' : Nat} {h h' g g' : am_H} {r r' : Option Value} {ls ls2_z : am_L} (R : rq T S x p 23 h g) (A : rp 23 h g) (B : rp_t h g) (ka : rg_v h 44 10 = 2) (kb : rg_v h 44 11 = 9) (kc : rg_v g 164 8 = 1) (kd : rg_v g 164 9 = 9) (g0_z : am_get ls 0 = some (.ref 44)) (g0m : am_get ls2_z 0 = some (.ref 164)) (hc_z : rn n am_m42 2 ls [] h r h') (hm_z : rn n' am_m157 85 ls2_z [] g r' g') : pm_Q T S x 23 h' g' r' := by
  have z0_z : (0 : Int32).toInt = 0 := by decide
  have R5 := R.2.2.2.2.1
  have R6 := R.2.2.2.2.2.1
  obtain ⟨b0_z, b1_z, b2_z, b3_z, b4_z, b5_z, b6_z, t, o0_z, o1_z, o2_z, o3_z, o4_z, o5_z, o6_z⟩ := id B
  obtain ⟨e1_z, -⟩ := rp_tb4 b0_z b1_z b2_z b3_z b4_z b5_z b6_z
  have e2_z := rp_tc4 b0_z b1_z b2_z b3_z b4_z b5_z b6_z
  rcases Bool.eq_false_or_eq_true b4_z with hb_z | hb_z
  · replace e1_z := e1_z.trans (show rp_bi b4_z = rp_bi true from by rw [hb_z])
    replace hc_z := rn_aload_n (am_cur_of (i := (4, 1, .aload_n 0, (0, 0, 0), 0)) (by decide +kernel)) g0_z hc_z
    replace hc_z := rn_getI (v := 9) (am_cur_of (i := (5, 3, .getfield 91, (4, 11, 420), 0)) (by decide +kernel)) (by decide +kernel) kb hc_z
    replace hc_z := rn_bipush (w := 9) (am_cur_of (i := (8, 2, .bipush 9, (0, 0, 0), 0)) (by decide +kernel)) (by decide) hc_z
    replace hc_z := rn_isub (w := 0) (am_cur_of (i := (10, 1, .isub, (0, 0, 0), 0)) (by decide +kernel)) (by decide) hc_z
    replace hc_z := rn_istore_n (am_cur_of (i := (11, 1, .istore_n 1, (0, 0, 0), 0)) (by decide +kernel)) hc_z
    obtain ⟨_, s677_z, s678_z, g1_z, hc_z⟩ := hc_z
    replace g0_z := s677_z 0 _ (by decide) rfl g0_z
    clear s677_z s678_z
    replace hc_z := rn_aload_n (am_cur_of (i := (12, 1, .aload_n 0, (0, 0, 0), 0)) (by decide +kernel)) g0_z hc_z
    replace hc_z := rn_getI (v := 2) (am_cur_of (i := (13, 3, .getfield 60, (4, 10, 419), 0)) (by decide +kernel)) (by decide +kernel) ka hc_z
    replace hc_z := rn_iconst (w := 2) (am_cur_of (i := (16, 1, .iconst 2, (0, 0, 0), 0)) (by decide +kernel)) (by decide) hc_z
    replace hc_z := rn_cmpF (am_cur_of (i := (17, 3, .if_icmp .ne 12, (16, 0, 0), 0)) (by decide +kernel)) (by decide) hc_z
    replace hc_z := rn_iload_n (am_cur_of (i := (20, 1, .iload_n 1, (0, 0, 0), 0)) (by decide +kernel)) g1_z hc_z
    replace hc_z := rn_ifF (am_cur_of (i := (21, 3, .ifCond .lt 8, (16, 0, 0), 0)) (by decide +kernel)) (by decide) hc_z
    replace hc_z := rn_iload_n (am_cur_of (i := (24, 1, .iload_n 1, (0, 0, 0), 0)) (by decide +kernel)) g1_z hc_z
    replace hc_z := rn_iconst (w := 2) (am_cur_of (i := (25, 1, .iconst 2, (0, 0, 0), 0)) (by decide +kernel)) (by decide) hc_z
    replace hc_z := rn_cmpT (am_cur_of (i := (26, 3, .if_icmp .le 9, (20, 0, 0), 0)) (by decide +kernel)) (by decide) hc_z
    replace hc_z := rn_aload_n (am_cur_of (i := (35, 1, .aload_n 0, (0, 0, 0), 0)) (by decide +kernel)) g0_z hc_z
    replace hc_z := rn_getI (v := rp_tb b0_z b1_z b2_z b3_z b4_z b5_z b6_z) (am_cur_of (i := (36, 3, .getfield 45, (4, 7, 416), 0)) (by decide +kernel)) (by decide +kernel) t hc_z
    replace hc_z := rn_aload_n (am_cur_of (i := (39, 1, .aload_n 0, (0, 0, 0), 0)) (by decide +kernel)) g0_z hc_z
    replace hc_z := rn_getI (v := 9) (am_cur_of (i := (40, 3, .getfield 91, (4, 11, 420), 0)) (by decide +kernel)) (by decide +kernel) kb hc_z
    replace hc_z := rn_ishr (w := (rp_tb b0_z b1_z b2_z b3_z b4_z b5_z b6_z) >>> (9 &&& 31)) (am_cur_of (i := (43, 1, .ishr, (0, 0, 0), 0)) (by decide +kernel)) rfl hc_z
    replace hc_z := rn_iconst (w := 1) (am_cur_of (i := (44, 1, .iconst 1, (0, 0, 0), 0)) (by decide +kernel)) (by decide) hc_z
    replace hc_z := rn_iand (w := ((rp_tb b0_z b1_z b2_z b3_z b4_z b5_z b6_z) >>> (9 &&& 31)) &&& 1) (am_cur_of (i := (45, 1, .iand, (0, 0, 0), 0)) (by decide +kernel)) rfl hc_z
    replace hc_z := rn_if (am_cur_of (i := (46, 3, .ifCond .eq 9, (32, 0, 0), 0)) (by decide +kernel)) hc_z
    rcases hc_z with ⟨b679_z, hc_z⟩ | ⟨b679_z, hc_z⟩
    · replace b679_z : (((rp_tb b0_z b1_z b2_z b3_z b4_z b5_z b6_z) >>> (9 &&& 31)) &&& 1) = (0 : Int32) ∧ (((rp_tb b0_z b1_z b2_z b3_z b4_z b5_z b6_z) >>> (9 &&& 31)) &&& 1).toInt = (0 : Int32).toInt := b679_z
      exact absurd (e1_z.symm.trans b679_z.1) (by decide)
    · replace b679_z : ¬ (((rp_tb b0_z b1_z b2_z b3_z b4_z b5_z b6_z) >>> (9 &&& 31)) &&& 1) = (0 : Int32) ∧ ¬ (((rp_tb b0_z b1_z b2_z b3_z b4_z b5_z b6_z) >>> (9 &&& 31)) &&& 1).toInt = (0 : Int32).toInt := b679_z
      replace hc_z := rn_aload_n (am_cur_of (i := (49, 1, .aload_n 0, (0, 0, 0), 0)) (by decide +kernel)) g0_z hc_z
      replace hc_z := rn_iconst (w := 3) (am_cur_of (i := (50, 1, .iconst 3, (0, 0, 0), 0)) (by decide +kernel)) (by decide) hc_z
      replace hc_z := rn_callV (M' := am_m29) (o := 44) (ar := [.int 3]) (rest := []) (L := lv_args 0 [.ref 44, .int 3]) (am_cur_of (i := (51, 3, .invokevirtual 108, (29, 769, 3), 0)) (by decide +kernel)) rfl rfl rfl rfl hc_z
      obtain ⟨r680_z, h681_z, q682_z, hc_z⟩ := hc_z
      obtain ⟨rfl, yq682_z⟩ := rp_fail R.2.2.2.1 q682_z
      subst yq682_z
      replace hc_z : rn _ _ _ _ [] _ _ _ := hc_z
      have K := rs_stick (w := 3) (a := 42) (by decide) (by decide) rfl (by decide) rfl rfl hc_z
      replace hm_z := rn_aload_n (am_cur_of (i := (209, 1, .aload_n 0, (0, 0, 0), 0)) (by decide +kernel)) g0m hm_z
      replace hm_z := rn_getI (v := 1) (am_cur_of (i := (210, 3, .getfield 157, (12, 8, 1392), 0)) (by decide +kernel)) (by decide +kernel) kc hm_z
      replace hm_z := rn_iconst (w := 1) (am_cur_of (i := (213, 1, .iconst 1, (0, 0, 0), 0)) (by decide +kernel)) (by decide) hm_z
      replace hm_z := rn_cmpF (am_cur_of (i := (214, 3, .if_icmp .ne 21, (97, 0, 0), 0)) (by decide +kernel)) (by decide) hm_z
      replace hm_z := rn_aload_n (am_cur_of (i := (217, 1, .aload_n 0, (0, 0, 0), 0)) (by decide +kernel)) g0m hm_z
      replace hm_z := rn_getI (v := 9) (am_cur_of (i := (218, 3, .getfield 168, (12, 9, 1393), 0)) (by decide +kernel)) (by decide +kernel) kd hm_z
      replace hm_z := rn_bipush (w := 9) (am_cur_of (i := (221, 2, .bipush 9, (0, 0, 0), 0)) (by decide +kernel)) (by decide) hm_z
      replace hm_z := rn_cmpF (am_cur_of (i := (223, 3, .if_icmp .lt 12, (97, 0, 0), 0)) (by decide +kernel)) (by decide) hm_z
      replace hm_z := rn_aload_n (am_cur_of (i := (226, 1, .aload_n 0, (0, 0, 0), 0)) (by decide +kernel)) g0m hm_z
      replace hm_z := rn_getI (v := 9) (am_cur_of (i := (227, 3, .getfield 168, (12, 9, 1393), 0)) (by decide +kernel)) (by decide +kernel) kd hm_z
      replace hm_z := rn_bipush (w := 11) (am_cur_of (i := (230, 2, .bipush 11, (0, 0, 0), 0)) (by decide +kernel)) (by decide) hm_z
      replace hm_z := rn_cmpT (am_cur_of (i := (232, 3, .if_icmp .le 9, (101, 0, 0), 0)) (by decide +kernel)) (by decide) hm_z
      replace hm_z := rn_iconst (w := 3) (am_cur_of (i := (241, 1, .iconst 3, (0, 0, 0), 0)) (by decide +kernel)) (by decide) hm_z
      replace hm_z := rn_aload_n (am_cur_of (i := (242, 1, .aload_n 0, (0, 0, 0), 0)) (by decide +kernel)) g0m hm_z
      replace hm_z := rn_getI (v := 9) (am_cur_of (i := (243, 3, .getfield 168, (12, 9, 1393), 0)) (by decide +kernel)) (by decide +kernel) kd hm_z
      replace hm_z := rn_iadd (w := 12) (am_cur_of (i := (246, 1, .iadd, (0, 0, 0), 0)) (by decide +kernel)) (by decide) hm_z
      replace hm_z := rn_bipush (w := 9) (am_cur_of (i := (247, 2, .bipush 9, (0, 0, 0), 0)) (by decide +kernel)) (by decide) hm_z
      replace hm_z := rn_isub (w := 3) (am_cur_of (i := (249, 1, .isub, (0, 0, 0), 0)) (by decide +kernel)) (by decide) hm_z
      replace hm_z := rn_istore_n (am_cur_of (i := (250, 1, .istore_n 2, (0, 0, 0), 0)) (by decide +kernel)) hm_z
      obtain ⟨_, s683_z, s684_z, g2m, hm_z⟩ := hm_z
      replace g0m := s683_z 0 _ (by decide) rfl g0m
      clear s683_z s684_z
      replace hm_z := rn_aload_n (am_cur_of (i := (251, 1, .aload_n 0, (0, 0, 0), 0)) (by decide +kernel)) g0m hm_z
      replace hm_z := rn_getR (x := 178) (am_cur_of (i := (252, 3, .getfield 54, (12, 33, 1417), 0)) (by decide +kernel)) (by decide +kernel) hm_z
      replace hm_z := rn_iload_n (am_cur_of (i := (255, 1, .iload_n 2, (0, 0, 0), 0)) (by decide +kernel)) g2m hm_z
      replace hm_z := rn_baload (N := 6) (q := 3) (v := 1) (am_cur_of (i := (256, 1, .baload, (0, 0, 0), 0)) (by decide +kernel)) (by decide +kernel) rfl (o4_z.trans (show rp_bi b4_z = 1 from by rw [hb_z]; decide)) hm_z
      obtain ⟨p685_z, hm_z⟩ := hm_z
      replace hm_z := rn_ifF (am_cur_of (i := (257, 3, .ifCond .eq 9, (117, 0, 0), 0)) (by decide +kernel)) (by decide) hm_z
      replace hm_z := rn_aload_n (am_cur_of (i := (260, 1, .aload_n 0, (0, 0, 0), 0)) (by decide +kernel)) g0m hm_z
      replace hm_z := rn_iconst (w := 3) (am_cur_of (i := (261, 1, .iconst 3, (0, 0, 0), 0)) (by decide +kernel)) (by decide) hm_z
      replace hm_z := rn_callV (M' := am_m158) (o := 164) (ar := [.int 3]) (rest := []) (L := lv_args 0 [.ref 164, .int 3]) (am_cur_of (i := (262, 3, .invokevirtual 181, (158, 1665, 3), 0)) (by decide +kernel)) rfl rfl rfl rfl hm_z
      obtain ⟨r686_z, h687_z, q688_z, hm_z⟩ := hm_z
      obtain ⟨rfl, yq688_z⟩ := rp_wrong q688_z
      subst yq688_z
      replace hm_z : rn _ _ _ _ [.int 0] _ _ _ := hm_z
      replace hm_z := rn_iret (am_cur_of (i := (265, 1, .ireturn, (0, 0, 0), 0)) (by decide +kernel)) hm_z
      obtain ⟨e689_z, e690_z⟩ := hm_z
      subst e689_z e690_z
      exact Or.inr (Or.inl ⟨rfl, _, 3, by decide, K.1, K.2.trans R5, rfl, R6⟩)
  · replace e1_z := e1_z.trans (show rp_bi b4_z = rp_bi false from by rw [hb_z])
    replace hc_z := rn_aload_n (am_cur_of (i := (4, 1, .aload_n 0, (0, 0, 0), 0)) (by decide +kernel)) g0_z hc_z
    replace hc_z := rn_getI (v := 9) (am_cur_of (i := (5, 3, .getfield 91, (4, 11, 420), 0)) (by decide +kernel)) (by decide +kernel) kb hc_z
    replace hc_z := rn_bipush (w := 9) (am_cur_of (i := (8, 2, .bipush 9, (0, 0, 0), 0)) (by decide +kernel)) (by decide) hc_z
    replace hc_z := rn_isub (w := 0) (am_cur_of (i := (10, 1, .isub, (0, 0, 0), 0)) (by decide +kernel)) (by decide) hc_z
    replace hc_z := rn_istore_n (am_cur_of (i := (11, 1, .istore_n 1, (0, 0, 0), 0)) (by decide +kernel)) hc_z
    obtain ⟨_, s691_z, s692_z, g1_z, hc_z⟩ := hc_z
    replace g0_z := s691_z 0 _ (by decide) rfl g0_z
    clear s691_z s692_z
    replace hc_z := rn_aload_n (am_cur_of (i := (12, 1, .aload_n 0, (0, 0, 0), 0)) (by decide +kernel)) g0_z hc_z
    replace hc_z := rn_getI (v := 2) (am_cur_of (i := (13, 3, .getfield 60, (4, 10, 419), 0)) (by decide +kernel)) (by decide +kernel) ka hc_z
    replace hc_z := rn_iconst (w := 2) (am_cur_of (i := (16, 1, .iconst 2, (0, 0, 0), 0)) (by decide +kernel)) (by decide) hc_z
    replace hc_z := rn_cmpF (am_cur_of (i := (17, 3, .if_icmp .ne 12, (16, 0, 0), 0)) (by decide +kernel)) (by decide) hc_z
    replace hc_z := rn_iload_n (am_cur_of (i := (20, 1, .iload_n 1, (0, 0, 0), 0)) (by decide +kernel)) g1_z hc_z
    replace hc_z := rn_ifF (am_cur_of (i := (21, 3, .ifCond .lt 8, (16, 0, 0), 0)) (by decide +kernel)) (by decide) hc_z
    replace hc_z := rn_iload_n (am_cur_of (i := (24, 1, .iload_n 1, (0, 0, 0), 0)) (by decide +kernel)) g1_z hc_z
    replace hc_z := rn_iconst (w := 2) (am_cur_of (i := (25, 1, .iconst 2, (0, 0, 0), 0)) (by decide +kernel)) (by decide) hc_z
    replace hc_z := rn_cmpT (am_cur_of (i := (26, 3, .if_icmp .le 9, (20, 0, 0), 0)) (by decide +kernel)) (by decide) hc_z
    replace hc_z := rn_aload_n (am_cur_of (i := (35, 1, .aload_n 0, (0, 0, 0), 0)) (by decide +kernel)) g0_z hc_z
    replace hc_z := rn_getI (v := rp_tb b0_z b1_z b2_z b3_z b4_z b5_z b6_z) (am_cur_of (i := (36, 3, .getfield 45, (4, 7, 416), 0)) (by decide +kernel)) (by decide +kernel) t hc_z
    replace hc_z := rn_aload_n (am_cur_of (i := (39, 1, .aload_n 0, (0, 0, 0), 0)) (by decide +kernel)) g0_z hc_z
    replace hc_z := rn_getI (v := 9) (am_cur_of (i := (40, 3, .getfield 91, (4, 11, 420), 0)) (by decide +kernel)) (by decide +kernel) kb hc_z
    replace hc_z := rn_ishr (w := (rp_tb b0_z b1_z b2_z b3_z b4_z b5_z b6_z) >>> (9 &&& 31)) (am_cur_of (i := (43, 1, .ishr, (0, 0, 0), 0)) (by decide +kernel)) rfl hc_z
    replace hc_z := rn_iconst (w := 1) (am_cur_of (i := (44, 1, .iconst 1, (0, 0, 0), 0)) (by decide +kernel)) (by decide) hc_z
    replace hc_z := rn_iand (w := ((rp_tb b0_z b1_z b2_z b3_z b4_z b5_z b6_z) >>> (9 &&& 31)) &&& 1) (am_cur_of (i := (45, 1, .iand, (0, 0, 0), 0)) (by decide +kernel)) rfl hc_z
    replace hc_z := rn_if (am_cur_of (i := (46, 3, .ifCond .eq 9, (32, 0, 0), 0)) (by decide +kernel)) hc_z
    rcases hc_z with ⟨b693_z, hc_z⟩ | ⟨b693_z, hc_z⟩
    · replace b693_z : (((rp_tb b0_z b1_z b2_z b3_z b4_z b5_z b6_z) >>> (9 &&& 31)) &&& 1) = (0 : Int32) ∧ (((rp_tb b0_z b1_z b2_z b3_z b4_z b5_z b6_z) >>> (9 &&& 31)) &&& 1).toInt = (0 : Int32).toInt := b693_z
      replace hc_z := rn_aload_n (am_cur_of (i := (55, 1, .aload_n 0, (0, 0, 0), 0)) (by decide +kernel)) g0_z hc_z
      replace hc_z := rn_dup (am_cur_of (i := (56, 1, .dup, (0, 0, 0), 0)) (by decide +kernel)) hc_z
      replace hc_z := rn_getI (v := rp_tb b0_z b1_z b2_z b3_z b4_z b5_z b6_z) (am_cur_of (i := (57, 3, .getfield 45, (4, 7, 416), 0)) (by decide +kernel)) (by decide +kernel) t hc_z
      replace hc_z := rn_iconst (w := 1) (am_cur_of (i := (60, 1, .iconst 1, (0, 0, 0), 0)) (by decide +kernel)) (by decide) hc_z
      replace hc_z := rn_aload_n (am_cur_of (i := (61, 1, .aload_n 0, (0, 0, 0), 0)) (by decide +kernel)) g0_z hc_z
      replace hc_z := rn_getI (v := 9) (am_cur_of (i := (62, 3, .getfield 91, (4, 11, 420), 0)) (by decide +kernel)) (by decide +kernel) kb hc_z
      replace hc_z := rn_ishl (w := 512) (am_cur_of (i := (65, 1, .ishl, (0, 0, 0), 0)) (by decide +kernel)) (by decide) hc_z
      replace hc_z := rn_ior (w := (rp_tb b0_z b1_z b2_z b3_z b4_z b5_z b6_z) ||| 512) (am_cur_of (i := (66, 1, .ior, (0, 0, 0), 0)) (by decide +kernel)) rfl hc_z
      replace hc_z := rn_put (am_cur_of (i := (67, 3, .putfield 45, (4, 7, 416), 0)) (by decide +kernel)) (by decide +kernel) hc_z
      replace hc_z := rn_aload_n (am_cur_of (i := (70, 1, .aload_n 0, (0, 0, 0), 0)) (by decide +kernel)) g0_z hc_z
      replace hc_z := rn_callV (M' := am_m19) (o := 44) (ar := []) (rest := []) (L := lv_args 0 [.ref 44]) (am_cur_of (i := (71, 3, .invokevirtual 57, (19, 727, 3), 0)) (by decide +kernel)) rfl rfl rfl rfl hc_z
      obtain ⟨r694_z, h695_z, q696_z, hc_z⟩ := hc_z
      have vo := rn_void rfl q696_z
      subst vo
      replace hm_z := rn_aload_n (am_cur_of (i := (209, 1, .aload_n 0, (0, 0, 0), 0)) (by decide +kernel)) g0m hm_z
      replace hm_z := rn_getI (v := 1) (am_cur_of (i := (210, 3, .getfield 157, (12, 8, 1392), 0)) (by decide +kernel)) (by decide +kernel) kc hm_z
      replace hm_z := rn_iconst (w := 1) (am_cur_of (i := (213, 1, .iconst 1, (0, 0, 0), 0)) (by decide +kernel)) (by decide) hm_z
      replace hm_z := rn_cmpF (am_cur_of (i := (214, 3, .if_icmp .ne 21, (97, 0, 0), 0)) (by decide +kernel)) (by decide) hm_z
      replace hm_z := rn_aload_n (am_cur_of (i := (217, 1, .aload_n 0, (0, 0, 0), 0)) (by decide +kernel)) g0m hm_z
      replace hm_z := rn_getI (v := 9) (am_cur_of (i := (218, 3, .getfield 168, (12, 9, 1393), 0)) (by decide +kernel)) (by decide +kernel) kd hm_z
      replace hm_z := rn_bipush (w := 9) (am_cur_of (i := (221, 2, .bipush 9, (0, 0, 0), 0)) (by decide +kernel)) (by decide) hm_z
      replace hm_z := rn_cmpF (am_cur_of (i := (223, 3, .if_icmp .lt 12, (97, 0, 0), 0)) (by decide +kernel)) (by decide) hm_z
      replace hm_z := rn_aload_n (am_cur_of (i := (226, 1, .aload_n 0, (0, 0, 0), 0)) (by decide +kernel)) g0m hm_z
      replace hm_z := rn_getI (v := 9) (am_cur_of (i := (227, 3, .getfield 168, (12, 9, 1393), 0)) (by decide +kernel)) (by decide +kernel) kd hm_z
      replace hm_z := rn_bipush (w := 11) (am_cur_of (i := (230, 2, .bipush 11, (0, 0, 0), 0)) (by decide +kernel)) (by decide) hm_z
      replace hm_z := rn_cmpT (am_cur_of (i := (232, 3, .if_icmp .le 9, (101, 0, 0), 0)) (by decide +kernel)) (by decide) hm_z
      replace hm_z := rn_iconst (w := 3) (am_cur_of (i := (241, 1, .iconst 3, (0, 0, 0), 0)) (by decide +kernel)) (by decide) hm_z
      replace hm_z := rn_aload_n (am_cur_of (i := (242, 1, .aload_n 0, (0, 0, 0), 0)) (by decide +kernel)) g0m hm_z
      replace hm_z := rn_getI (v := 9) (am_cur_of (i := (243, 3, .getfield 168, (12, 9, 1393), 0)) (by decide +kernel)) (by decide +kernel) kd hm_z
      replace hm_z := rn_iadd (w := 12) (am_cur_of (i := (246, 1, .iadd, (0, 0, 0), 0)) (by decide +kernel)) (by decide) hm_z
      replace hm_z := rn_bipush (w := 9) (am_cur_of (i := (247, 2, .bipush 9, (0, 0, 0), 0)) (by decide +kernel)) (by decide) hm_z
      replace hm_z := rn_isub (w := 3) (am_cur_of (i := (249, 1, .isub, (0, 0, 0), 0)) (by decide +kernel)) (by decide) hm_z
      replace hm_z := rn_istore_n (am_cur_of (i := (250, 1, .istore_n 2, (0, 0, 0), 0)) (by decide +kernel)) hm_z
      obtain ⟨_, s697_z, s698_z, g2m, hm_z⟩ := hm_z
      replace g0m := s697_z 0 _ (by decide) rfl g0m
      clear s697_z s698_z
      replace hm_z := rn_aload_n (am_cur_of (i := (251, 1, .aload_n 0, (0, 0, 0), 0)) (by decide +kernel)) g0m hm_z
      replace hm_z := rn_getR (x := 178) (am_cur_of (i := (252, 3, .getfield 54, (12, 33, 1417), 0)) (by decide +kernel)) (by decide +kernel) hm_z
      replace hm_z := rn_iload_n (am_cur_of (i := (255, 1, .iload_n 2, (0, 0, 0), 0)) (by decide +kernel)) g2m hm_z
      replace hm_z := rn_baload (N := 6) (q := 3) (v := 0) (am_cur_of (i := (256, 1, .baload, (0, 0, 0), 0)) (by decide +kernel)) (by decide +kernel) rfl (o4_z.trans (show rp_bi b4_z = 0 from by rw [hb_z]; decide)) hm_z
      obtain ⟨p699_z, hm_z⟩ := hm_z
      replace hm_z := rn_ifT (am_cur_of (i := (257, 3, .ifCond .eq 9, (117, 0, 0), 0)) (by decide +kernel)) (by decide) hm_z
      replace hm_z := rn_aload_n (am_cur_of (i := (266, 1, .aload_n 0, (0, 0, 0), 0)) (by decide +kernel)) g0m hm_z
      replace hm_z := rn_getR (x := 178) (am_cur_of (i := (267, 3, .getfield 54, (12, 33, 1417), 0)) (by decide +kernel)) (by decide +kernel) hm_z
      replace hm_z := rn_iload_n (am_cur_of (i := (270, 1, .iload_n 2, (0, 0, 0), 0)) (by decide +kernel)) g2m hm_z
      replace hm_z := rn_iconst (w := 1) (am_cur_of (i := (271, 1, .iconst 1, (0, 0, 0), 0)) (by decide +kernel)) (by decide) hm_z
      replace hm_z := rn_bastore (N := 6) (q := 3) (am_cur_of (i := (272, 1, .bastore, (0, 0, 0), 0)) (by decide +kernel)) (by decide +kernel) rfl hm_z
      obtain ⟨p700_z, hm_z⟩ := hm_z
      replace hm_z := rn_aload_n (am_cur_of (i := (273, 1, .aload_n 0, (0, 0, 0), 0)) (by decide +kernel)) g0m hm_z
      replace hm_z := rn_callV (M' := am_m151) (o := 164) (ar := []) (rest := []) (L := lv_args 0 [.ref 164]) (am_cur_of (i := (274, 3, .invokevirtual 191, (151, 1636, 3), 0)) (by decide +kernel)) rfl rfl rfl rfl hm_z
      obtain ⟨r701_z, h702_z, q703_z, hm_z⟩ := hm_z
      have vo := rn_void rfl q703_z
      subst vo
      obtain ⟨-, -, x3_z, p3_z, R3, le3_z, t5_z, t6_z⟩ := pr_tok (rq0_lw (rq_0 R)) q696_z q703_z
      have A2 : rp 23 (am_up h 44 7 (.int ((rp_tb b0_z b1_z b2_z b3_z b4_z b5_z b6_z) ||| 512))) (am_up g 178 3 (.int 1)) := ry_p23 A (ab_Fr_up rfl ab_Fr_refl) (ab_Fr_up rfl ab_Fr_refl) A.2.2.2.2.2.1.1 A.2.2.2.2.2.1.2.1 A.2.2.2.2.2.1.2.2
      have A3 := rp_x (by decide) A2 (rx_C_f t5_z) (rx_M_f t6_z)
      have B3 : rp_t h695_z h702_z := ⟨b0_z, b1_z, b2_z, b3_z, true, b5_z, b6_z, (rg_v_fr t5_z (by decide)).trans e2_z, (rg_v_fr t6_z (rg_v_in (by decide) _)).trans o0_z, (rg_v_fr t6_z (rg_v_in (by decide) _)).trans o1_z, (rg_v_fr t6_z (rg_v_in (by decide) _)).trans o2_z, (rg_v_fr t6_z (rg_v_in (by decide) _)).trans o3_z, (rg_v_fr t6_z (rg_v_in (by decide) _)).trans rfl, (rg_v_fr t6_z (rg_v_in (by decide) _)).trans o5_z, (rg_v_fr t6_z (rg_v_in (by decide) _)).trans o6_z⟩
      replace hm_z : rn _ _ _ _ [] _ _ _ := hm_z
      replace hc_z : rn _ _ _ _ [] _ _ _ := hc_z
      replace hc_z := rn_aload_n (am_cur_of (i := (74, 1, .aload_n 0, (0, 0, 0), 0)) (by decide +kernel)) g0_z hc_z
      replace hc_z := rn_getM (x := 23) (am_cur_of (i := (75, 3, .getfield 25, (4, 6, 415), 0)) (by decide +kernel)) R3.2.2.1 hc_z
      replace hc_z := rn_getR (x := 32) (am_cur_of (i := (78, 3, .getfield 242, (1, 19, 316), 0)) (by decide +kernel)) (by decide +kernel) hc_z
      replace hc_z := rn_iload_n (am_cur_of (i := (81, 1, .iload_n 1, (0, 0, 0), 0)) (by decide +kernel)) g1_z hc_z
      replace hc_z := rn_callV (M' := am_m43) (o := 32) (ar := [.int 0]) (rest := []) (L := lv_args 0 [.ref 32, .int 0]) (am_cur_of (i := (82, 3, .invokevirtual 246, (43, 826, 3), 0)) (by decide +kernel)) rfl rfl rfl rfl hc_z
      obtain ⟨r704_z, h705_z, q706_z, hc_z⟩ := hc_z
      rcases rs_beg23 q706_z with ⟨rfl, y707_z⟩
      replace y707_z := y707_z.symm
      subst y707_z
      replace hc_z : rn _ _ _ _ [] _ _ _ := hc_z
      replace hc_z := rn_aload_n (am_cur_of (i := (85, 1, .aload_n 0, (0, 0, 0), 0)) (by decide +kernel)) g0_z hc_z
      replace hc_z := rn_iconst (w := 0) (am_cur_of (i := (86, 1, .iconst 0, (0, 0, 0), 0)) (by decide +kernel)) (by decide) hc_z
      replace hc_z := rn_put (am_cur_of (i := (87, 3, .putfield 251, (4, 13, 422), 0)) (by decide +kernel)) (by decide +kernel) hc_z
      replace hc_z := rn_aload_n (am_cur_of (i := (90, 1, .aload_n 0, (0, 0, 0), 0)) (by decide +kernel)) g0_z hc_z
      replace hc_z := rn_iconst (w := 0) (am_cur_of (i := (91, 1, .iconst 0, (0, 0, 0), 0)) (by decide +kernel)) (by decide) hc_z
      replace hc_z := rn_put (am_cur_of (i := (92, 3, .putfield 254, (4, 14, 423), 0)) (by decide +kernel)) (by decide +kernel) hc_z
      replace hc_z := rn_iconst (w := 0) (am_cur_of (i := (95, 1, .iconst 0, (0, 0, 0), 0)) (by decide +kernel)) (by decide) hc_z
      replace hc_z := rn_istore_n (am_cur_of (i := (96, 1, .istore_n 2, (0, 0, 0), 0)) (by decide +kernel)) hc_z
      obtain ⟨_, s708_z, s709_z, g2_z, hc_z⟩ := hc_z
      replace g0_z := s708_z 0 _ (by decide) rfl g0_z
      replace g1_z := s708_z 1 _ (by decide) rfl g1_z
      clear s708_z s709_z
      replace hc_z := rn_iconst (w := 0) (am_cur_of (i := (97, 1, .iconst 0, (0, 0, 0), 0)) (by decide +kernel)) (by decide) hc_z
      replace hc_z := rn_istore_n (am_cur_of (i := (98, 1, .istore_n 3, (0, 0, 0), 0)) (by decide +kernel)) hc_z
      obtain ⟨_, s710_z, s711_z, g3_z, hc_z⟩ := hc_z
      replace g0_z := s710_z 0 _ (by decide) rfl g0_z
      replace g1_z := s710_z 1 _ (by decide) rfl g1_z
      replace g2_z := s710_z 2 _ (by decide) rfl g2_z
      clear s710_z s711_z
      replace hm_z := rn_aload_n (am_cur_of (i := (277, 1, .aload_n 0, (0, 0, 0), 0)) (by decide +kernel)) g0m hm_z
      replace hm_z := rn_getR (x := 179) (am_cur_of (i := (278, 3, .getfield 57, (12, 34, 1418), 0)) (by decide +kernel)) (by decide +kernel) hm_z
      replace hm_z := rn_iload_n (am_cur_of (i := (281, 1, .iload_n 2, (0, 0, 0), 0)) (by decide +kernel)) g2m hm_z
      replace hm_z := rn_aload_n (am_cur_of (i := (282, 1, .aload_n 0, (0, 0, 0), 0)) (by decide +kernel)) g0m hm_z
      replace hm_z := rn_getI (v := rg_v h702_z 164 21) (am_cur_of (i := (283, 3, .getfield 213, (12, 21, 1405), 0)) (by decide +kernel)) (by decide +kernel) rfl hm_z
      replace hm_z := rn_iastore (N := 6) (q := 3) (am_cur_of (i := (286, 1, .iastore, (0, 0, 0), 0)) (by decide +kernel)) (by decide +kernel) rfl hm_z
      obtain ⟨p712_z, hm_z⟩ := hm_z
      replace hm_z := rn_aload_n (am_cur_of (i := (287, 1, .aload_n 0, (0, 0, 0), 0)) (by decide +kernel)) g0m hm_z
      replace hm_z := rn_callV (M' := am_m170) (o := 164) (ar := []) (rest := []) (L := lv_args 0 [.ref 164]) (am_cur_of (i := (288, 3, .invokevirtual 271, (170, 1711, 3), 0)) (by decide +kernel)) rfl rfl rfl rfl hm_z
      obtain ⟨r713_z, h714_z, q715_z, hm_z⟩ := hm_z
      have g0q : am_get (lv_args 0 [.ref 164]) 0 = some (.ref 164) := rfl
      replace q715_z := rn_aload_n (am_cur_of (i := (0, 1, .aload_n 0, (0, 0, 0), 0)) (by decide +kernel)) g0q q715_z
      replace q715_z := rn_iconst (w := 0) (am_cur_of (i := (1, 1, .iconst 0, (0, 0, 0), 0)) (by decide +kernel)) (by decide) q715_z
      replace q715_z := rn_put (am_cur_of (i := (2, 3, .putfield 280, (12, 41, 1425), 0)) (by decide +kernel)) (by decide +kernel) q715_z
      replace q715_z := rn_aload_n (am_cur_of (i := (5, 1, .aload_n 0, (0, 0, 0), 0)) (by decide +kernel)) g0q q715_z
      replace q715_z := rn_iconst (w := 0) (am_cur_of (i := (6, 1, .iconst 0, (0, 0, 0), 0)) (by decide +kernel)) (by decide) q715_z
      replace q715_z := rn_put (am_cur_of (i := (7, 3, .putfield 277, (12, 42, 1426), 0)) (by decide +kernel)) (by decide +kernel) q715_z
      replace q715_z := rn_aload_n (am_cur_of (i := (10, 1, .aload_n 0, (0, 0, 0), 0)) (by decide +kernel)) g0q q715_z
      replace q715_z := rn_iconst (w := 0) (am_cur_of (i := (11, 1, .iconst 0, (0, 0, 0), 0)) (by decide +kernel)) (by decide) q715_z
      replace q715_z := rn_put (am_cur_of (i := (12, 3, .putfield 295, (12, 43, 1427), 0)) (by decide +kernel)) (by decide +kernel) q715_z
      replace q715_z := rn_aload_n (am_cur_of (i := (15, 1, .aload_n 0, (0, 0, 0), 0)) (by decide +kernel)) g0q q715_z
      replace q715_z := rn_iconst (w := 1) (am_cur_of (i := (16, 1, .iconst 1, (0, 0, 0), 0)) (by decide +kernel)) (by decide) q715_z
      replace q715_z := rn_put (am_cur_of (i := (17, 3, .putfield 315, (12, 45, 1429), 0)) (by decide +kernel)) (by decide +kernel) q715_z
      replace q715_z := rn_aload_n (am_cur_of (i := (20, 1, .aload_n 0, (0, 0, 0), 0)) (by decide +kernel)) g0q q715_z
      replace q715_z := rn_iconst (w := 1) (am_cur_of (i := (21, 1, .iconst 1, (0, 0, 0), 0)) (by decide +kernel)) (by decide) q715_z
      replace q715_z := rn_put (am_cur_of (i := (22, 3, .putfield 302, (12, 46, 1430), 0)) (by decide +kernel)) (by decide +kernel) q715_z
      have FC : ab_Fr (ry_MC23.drop 1) h695_z (am_up (am_up (am_up h695_z 35 ((0 : Int32).toNatClampNeg) (.int (rg_v h695_z 32 1))) 44 13 (.int 0)) 44 14 (.int 0)) := ab_Fr_up rfl (ab_Fr_up rfl (ab_Fr_up rfl ab_Fr_refl))
      have FM : ab_Fr ry_MT h702_z (am_up (am_up (am_up (am_up (am_up (am_up h702_z 179 3 (.int (rg_v h702_z 164 21))) 164 41 (.int 0)) 164 42 (.int 0)) 164 43 (.int 0)) 164 45 (.int 1)) 164 46 (.int 1)) := ab_Fr_up rfl (ab_Fr_up rfl (ab_Fr_up rfl (ab_Fr_up rfl (ab_Fr_up rfl (ab_Fr_up rfl ab_Fr_refl)))))
      have FM' : ab_Fr ry_MM h702_z (am_up (am_up (am_up (am_up (am_up (am_up h702_z 179 3 (.int (rg_v h702_z 164 21))) 164 41 (.int 0)) 164 42 (.int 0)) 164 43 (.int 0)) 164 45 (.int 1)) 164 46 (.int 1)) := ab_Fr_sub (by decide) FM
      have R4 := ry_rq23 R3 FC FM'
      have A4 := ry_p23 A3 (ab_Fr_sub (by decide) FC) FM' A3.2.2.2.2.2.1.1 A3.2.2.2.2.2.1.2.1 A3.2.2.2.2.2.1.2.2
      have B4 := ry_t23 B3 FC FM
      have kk : 0 ≤ (rg_v (am_up (am_up (am_up h695_z 35 ((0 : Int32).toNatClampNeg) (.int (rg_v h695_z 32 1))) 44 13 (.int 0)) 44 14 (.int 0)) 32 0).toInt := A4.2.2.2.2.2.1.2.1
      have Z4 : rs 23 (am_up (am_up (am_up h695_z 35 ((0 : Int32).toNatClampNeg) (.int (rg_v h695_z 32 1))) 44 13 (.int 0)) 44 14 (.int 0)) (am_up (am_up (am_up (am_up (am_up (am_up h702_z 179 3 (.int (rg_v h702_z 164 21))) 164 41 (.int 0)) 164 42 (.int 0)) 164 43 (.int 0)) 164 45 (.int 1)) 164 46 (.int 1)) := ⟨0, 0, rfl, rfl, by decide, rfl, rfl, by decide, by decide, (by rw [show (0 : Int32).toInt = 0 by decide]; show (0 : Int) ≤ (rg_v (am_up (am_up (am_up h695_z 35 ((0 : Int32).toNatClampNeg) (.int (rg_v h695_z 32 1))) 44 13 (.int 0)) 44 14 (.int 0)) 32 0).toInt + 0; omega), fun i hi_z => absurd hi_z (by rw [show (0 : Int32).toInt = 0 by decide]; omega), (by rw [show (0 : Int32).toNatClampNeg = 0 by decide, show (0 : Int32).toInt = 0 by decide]; rfl)⟩
      have R4p := R4.2.2.2.2.2.2.1
      have R4x := R4.2.2.2.2.2.2.2.1
      have Q := lw_loop23 (lw := 0) (x0_z := p3_z) _ 0 0 x3_z p3_z _ _ _ _ _ (by decide) (by rw [show (0 : Int32).toInt = 0 by decide]; exact R4p) (Int.le_refl _) R4 A4 B4 Z4 (Or.inl ⟨rfl, rfl, rfl⟩) g0_z g1_z g2_z g3_z g0q hc_z q715_z
      rcases Q with ⟨rfl, x5_z, p5_z, R5, le5_z, A5, B5⟩ | ⟨rfl, p5_z, wv, v0_z, f1_z, f2_z, f3_z, f4_z⟩ | ⟨rfl, p5_z, u1_z, u2_z, u3_z, u4_z, u5_z⟩
      · replace hm_z : rn _ _ _ _ [.int 1] _ _ _ := hm_z
        replace hm_z := rn_istore_n (am_cur_of (i := (291, 1, .istore_n 1, (0, 0, 0), 0)) (by decide +kernel)) hm_z
        obtain ⟨_, s716_z, s717_z, g1m, hm_z⟩ := hm_z
        replace g0m := s716_z 0 _ (by decide) rfl g0m
        replace g2m := s716_z 2 _ (by decide) rfl g2m
        clear s716_z s717_z
        replace hm_z := rn_aload_n (am_cur_of (i := (292, 1, .aload_n 0, (0, 0, 0), 0)) (by decide +kernel)) g0m hm_z
        replace hm_z := rn_getR (x := 180) (am_cur_of (i := (293, 3, .getfield 60, (12, 35, 1419), 0)) (by decide +kernel)) (by decide +kernel) hm_z
        replace hm_z := rn_iload_n (am_cur_of (i := (296, 1, .iload_n 2, (0, 0, 0), 0)) (by decide +kernel)) g2m hm_z
        replace hm_z := rn_aload_n (am_cur_of (i := (297, 1, .aload_n 0, (0, 0, 0), 0)) (by decide +kernel)) g0m hm_z
        replace hm_z := rn_getI (v := rg_v h714_z 164 21) (am_cur_of (i := (298, 3, .getfield 213, (12, 21, 1405), 0)) (by decide +kernel)) (by decide +kernel) rfl hm_z
        replace hm_z := rn_iastore (N := 6) (q := 3) (am_cur_of (i := (301, 1, .iastore, (0, 0, 0), 0)) (by decide +kernel)) (by decide +kernel) rfl hm_z
        obtain ⟨p718_z, hm_z⟩ := hm_z
        have EM : ab_Fr ry_MT h714_z (am_up h714_z 180 3 (.int (rg_v h714_z 164 21))) := ab_Fr_up rfl ab_Fr_refl
        exact Or.inl ⟨x5_z, p5_z, _, _, _, ry_rq23 R5 ab_Fr_refl (ab_Fr_sub (by decide) EM), by omega, ry_p23 A5 ab_Fr_refl (ab_Fr_sub (by decide) EM) A5.2.2.2.2.2.1.1 A5.2.2.2.2.2.1.2.1 A5.2.2.2.2.2.1.2.2, ry_t23 B5 ab_Fr_refl EM, g0m, g1m, hm_z⟩
      · replace hm_z : rn _ _ _ _ [.int 0] _ _ _ := hm_z
        replace hm_z := rn_istore_n (am_cur_of (i := (291, 1, .istore_n 1, (0, 0, 0), 0)) (by decide +kernel)) hm_z
        obtain ⟨_, s719_z, s720_z, g1m, hm_z⟩ := hm_z
        replace g0m := s719_z 0 _ (by decide) rfl g0m
        replace g2m := s719_z 2 _ (by decide) rfl g2m
        clear s719_z s720_z
        replace hm_z := rn_aload_n (am_cur_of (i := (292, 1, .aload_n 0, (0, 0, 0), 0)) (by decide +kernel)) g0m hm_z
        replace hm_z := rn_getR (x := 180) (am_cur_of (i := (293, 3, .getfield 60, (12, 35, 1419), 0)) (by decide +kernel)) (by decide +kernel) hm_z
        replace hm_z := rn_iload_n (am_cur_of (i := (296, 1, .iload_n 2, (0, 0, 0), 0)) (by decide +kernel)) g2m hm_z
        replace hm_z := rn_aload_n (am_cur_of (i := (297, 1, .aload_n 0, (0, 0, 0), 0)) (by decide +kernel)) g0m hm_z
        replace hm_z := rn_getI (v := rg_v h714_z 164 21) (am_cur_of (i := (298, 3, .getfield 213, (12, 21, 1405), 0)) (by decide +kernel)) (by decide +kernel) rfl hm_z
        replace hm_z := rn_iastore (N := 6) (q := 3) (am_cur_of (i := (301, 1, .iastore, (0, 0, 0), 0)) (by decide +kernel)) (by decide +kernel) rfl hm_z
        obtain ⟨p721_z, hm_z⟩ := hm_z
        replace hm_z := rn_iload_n (am_cur_of (i := (302, 1, .iload_n 1, (0, 0, 0), 0)) (by decide +kernel)) g1m hm_z
        replace hm_z := rn_ifF (am_cur_of (i := (303, 3, .ifCond .ne 5, (143, 0, 0), 0)) (by decide +kernel)) (by decide) hm_z
        replace hm_z := rn_iconst (w := 0) (am_cur_of (i := (306, 1, .iconst 0, (0, 0, 0), 0)) (by decide +kernel)) (by decide) hm_z
        replace hm_z := rn_iret (am_cur_of (i := (307, 1, .ireturn, (0, 0, 0), 0)) (by decide +kernel)) hm_z
        obtain ⟨e722_z, e723_z⟩ := hm_z
        subst e722_z e723_z
        exact Or.inr (Or.inl ⟨rfl, p5_z, wv, v0_z, f1_z, f2_z, f3_z, f4_z⟩)
      · replace hm_z : rn _ _ _ _ [.int 0] _ _ _ := hm_z
        replace hm_z := rn_istore_n (am_cur_of (i := (291, 1, .istore_n 1, (0, 0, 0), 0)) (by decide +kernel)) hm_z
        obtain ⟨_, s724_z, s725_z, g1m, hm_z⟩ := hm_z
        replace g0m := s724_z 0 _ (by decide) rfl g0m
        replace g2m := s724_z 2 _ (by decide) rfl g2m
        clear s724_z s725_z
        replace hm_z := rn_aload_n (am_cur_of (i := (292, 1, .aload_n 0, (0, 0, 0), 0)) (by decide +kernel)) g0m hm_z
        replace hm_z := rn_getR (x := 180) (am_cur_of (i := (293, 3, .getfield 60, (12, 35, 1419), 0)) (by decide +kernel)) (by decide +kernel) hm_z
        replace hm_z := rn_iload_n (am_cur_of (i := (296, 1, .iload_n 2, (0, 0, 0), 0)) (by decide +kernel)) g2m hm_z
        replace hm_z := rn_aload_n (am_cur_of (i := (297, 1, .aload_n 0, (0, 0, 0), 0)) (by decide +kernel)) g0m hm_z
        replace hm_z := rn_getI (v := rg_v h714_z 164 21) (am_cur_of (i := (298, 3, .getfield 213, (12, 21, 1405), 0)) (by decide +kernel)) (by decide +kernel) rfl hm_z
        replace hm_z := rn_iastore (N := 6) (q := 3) (am_cur_of (i := (301, 1, .iastore, (0, 0, 0), 0)) (by decide +kernel)) (by decide +kernel) rfl hm_z
        obtain ⟨p726_z, hm_z⟩ := hm_z
        replace hm_z := rn_iload_n (am_cur_of (i := (302, 1, .iload_n 1, (0, 0, 0), 0)) (by decide +kernel)) g1m hm_z
        replace hm_z := rn_ifF (am_cur_of (i := (303, 3, .ifCond .ne 5, (143, 0, 0), 0)) (by decide +kernel)) (by decide) hm_z
        replace hm_z := rn_iconst (w := 0) (am_cur_of (i := (306, 1, .iconst 0, (0, 0, 0), 0)) (by decide +kernel)) (by decide) hm_z
        replace hm_z := rn_iret (am_cur_of (i := (307, 1, .ireturn, (0, 0, 0), 0)) (by decide +kernel)) hm_z
        obtain ⟨e727_z, e728_z⟩ := hm_z
        subst e727_z e728_z
        exact Or.inr (Or.inr ⟨rfl, p5_z, u1_z, u2_z, u3_z, u4_z, u5_z⟩)
    · replace b693_z : ¬ (((rp_tb b0_z b1_z b2_z b3_z b4_z b5_z b6_z) >>> (9 &&& 31)) &&& 1) = (0 : Int32) ∧ ¬ (((rp_tb b0_z b1_z b2_z b3_z b4_z b5_z b6_z) >>> (9 &&& 31)) &&& 1).toInt = (0 : Int32).toInt := b693_z
      exact absurd (e1_z.trans (by decide)) b693_z.1
theorem pl_law10_23 {T : Nat → Int32} {S x p : Int32} {n n' : Nat} {h h' g g' : am_H} {r r' : Option Value} {ls ls2_z : am_L} (R : rq T S x p 23 h g) (A : rp 23 h g) (B : rp_t h g) (ka : rg_v h 44 10 = 2) (kb : rg_v h 44 11 = 10) (kc : rg_v g 164 8 = 1) (kd : rg_v g 164 9 = 10) (g0_z : am_get ls 0 = some (.ref 44)) (g0m : am_get ls2_z 0 = some (.ref 164)) (hc_z : rn n am_m42 2 ls [] h r h') (hm_z : rn n' am_m157 85 ls2_z [] g r' g') : pm_Q T S x 23 h' g' r' := by
  have z0_z : (0 : Int32).toInt = 0 := by decide
  have R5 := R.2.2.2.2.1
  have R6 := R.2.2.2.2.2.1
  obtain ⟨b0_z, b1_z, b2_z, b3_z, b4_z, b5_z, b6_z, t, o0_z, o1_z, o2_z, o3_z, o4_z, o5_z, o6_z⟩ := id B
  obtain ⟨e1_z, -⟩ := rp_tb5 b0_z b1_z b2_z b3_z b4_z b5_z b6_z
  have e2_z := rp_tc5 b0_z b1_z b2_z b3_z b4_z b5_z b6_z
  rcases Bool.eq_false_or_eq_true b5_z with hb_z | hb_z
  · replace e1_z := e1_z.trans (show rp_bi b5_z = rp_bi true from by rw [hb_z])
    replace hc_z := rn_aload_n (am_cur_of (i := (4, 1, .aload_n 0, (0, 0, 0), 0)) (by decide +kernel)) g0_z hc_z
    replace hc_z := rn_getI (v := 10) (am_cur_of (i := (5, 3, .getfield 91, (4, 11, 420), 0)) (by decide +kernel)) (by decide +kernel) kb hc_z
    replace hc_z := rn_bipush (w := 9) (am_cur_of (i := (8, 2, .bipush 9, (0, 0, 0), 0)) (by decide +kernel)) (by decide) hc_z
    replace hc_z := rn_isub (w := 1) (am_cur_of (i := (10, 1, .isub, (0, 0, 0), 0)) (by decide +kernel)) (by decide) hc_z
    replace hc_z := rn_istore_n (am_cur_of (i := (11, 1, .istore_n 1, (0, 0, 0), 0)) (by decide +kernel)) hc_z
    obtain ⟨_, s729_z, s730_z, g1_z, hc_z⟩ := hc_z
    replace g0_z := s729_z 0 _ (by decide) rfl g0_z
    clear s729_z s730_z
    replace hc_z := rn_aload_n (am_cur_of (i := (12, 1, .aload_n 0, (0, 0, 0), 0)) (by decide +kernel)) g0_z hc_z
    replace hc_z := rn_getI (v := 2) (am_cur_of (i := (13, 3, .getfield 60, (4, 10, 419), 0)) (by decide +kernel)) (by decide +kernel) ka hc_z
    replace hc_z := rn_iconst (w := 2) (am_cur_of (i := (16, 1, .iconst 2, (0, 0, 0), 0)) (by decide +kernel)) (by decide) hc_z
    replace hc_z := rn_cmpF (am_cur_of (i := (17, 3, .if_icmp .ne 12, (16, 0, 0), 0)) (by decide +kernel)) (by decide) hc_z
    replace hc_z := rn_iload_n (am_cur_of (i := (20, 1, .iload_n 1, (0, 0, 0), 0)) (by decide +kernel)) g1_z hc_z
    replace hc_z := rn_ifF (am_cur_of (i := (21, 3, .ifCond .lt 8, (16, 0, 0), 0)) (by decide +kernel)) (by decide) hc_z
    replace hc_z := rn_iload_n (am_cur_of (i := (24, 1, .iload_n 1, (0, 0, 0), 0)) (by decide +kernel)) g1_z hc_z
    replace hc_z := rn_iconst (w := 2) (am_cur_of (i := (25, 1, .iconst 2, (0, 0, 0), 0)) (by decide +kernel)) (by decide) hc_z
    replace hc_z := rn_cmpT (am_cur_of (i := (26, 3, .if_icmp .le 9, (20, 0, 0), 0)) (by decide +kernel)) (by decide) hc_z
    replace hc_z := rn_aload_n (am_cur_of (i := (35, 1, .aload_n 0, (0, 0, 0), 0)) (by decide +kernel)) g0_z hc_z
    replace hc_z := rn_getI (v := rp_tb b0_z b1_z b2_z b3_z b4_z b5_z b6_z) (am_cur_of (i := (36, 3, .getfield 45, (4, 7, 416), 0)) (by decide +kernel)) (by decide +kernel) t hc_z
    replace hc_z := rn_aload_n (am_cur_of (i := (39, 1, .aload_n 0, (0, 0, 0), 0)) (by decide +kernel)) g0_z hc_z
    replace hc_z := rn_getI (v := 10) (am_cur_of (i := (40, 3, .getfield 91, (4, 11, 420), 0)) (by decide +kernel)) (by decide +kernel) kb hc_z
    replace hc_z := rn_ishr (w := (rp_tb b0_z b1_z b2_z b3_z b4_z b5_z b6_z) >>> (10 &&& 31)) (am_cur_of (i := (43, 1, .ishr, (0, 0, 0), 0)) (by decide +kernel)) rfl hc_z
    replace hc_z := rn_iconst (w := 1) (am_cur_of (i := (44, 1, .iconst 1, (0, 0, 0), 0)) (by decide +kernel)) (by decide) hc_z
    replace hc_z := rn_iand (w := ((rp_tb b0_z b1_z b2_z b3_z b4_z b5_z b6_z) >>> (10 &&& 31)) &&& 1) (am_cur_of (i := (45, 1, .iand, (0, 0, 0), 0)) (by decide +kernel)) rfl hc_z
    replace hc_z := rn_if (am_cur_of (i := (46, 3, .ifCond .eq 9, (32, 0, 0), 0)) (by decide +kernel)) hc_z
    rcases hc_z with ⟨b731_z, hc_z⟩ | ⟨b731_z, hc_z⟩
    · replace b731_z : (((rp_tb b0_z b1_z b2_z b3_z b4_z b5_z b6_z) >>> (10 &&& 31)) &&& 1) = (0 : Int32) ∧ (((rp_tb b0_z b1_z b2_z b3_z b4_z b5_z b6_z) >>> (10 &&& 31)) &&& 1).toInt = (0 : Int32).toInt := b731_z
      exact absurd (e1_z.symm.trans b731_z.1) (by decide)
    · replace b731_z : ¬ (((rp_tb b0_z b1_z b2_z b3_z b4_z b5_z b6_z) >>> (10 &&& 31)) &&& 1) = (0 : Int32) ∧ ¬ (((rp_tb b0_z b1_z b2_z b3_z b4_z b5_z b6_z) >>> (10 &&& 31)) &&& 1).toInt = (0 : Int32).toInt := b731_z
      replace hc_z := rn_aload_n (am_cur_of (i := (49, 1, .aload_n 0, (0, 0, 0), 0)) (by decide +kernel)) g0_z hc_z
      replace hc_z := rn_iconst (w := 3) (am_cur_of (i := (50, 1, .iconst 3, (0, 0, 0), 0)) (by decide +kernel)) (by decide) hc_z
      replace hc_z := rn_callV (M' := am_m29) (o := 44) (ar := [.int 3]) (rest := []) (L := lv_args 0 [.ref 44, .int 3]) (am_cur_of (i := (51, 3, .invokevirtual 108, (29, 769, 3), 0)) (by decide +kernel)) rfl rfl rfl rfl hc_z
      obtain ⟨r732_z, h733_z, q734_z, hc_z⟩ := hc_z
      obtain ⟨rfl, yq734_z⟩ := rp_fail R.2.2.2.1 q734_z
      subst yq734_z
      replace hc_z : rn _ _ _ _ [] _ _ _ := hc_z
      have K := rs_stick (w := 3) (a := 42) (by decide) (by decide) rfl (by decide) rfl rfl hc_z
      replace hm_z := rn_aload_n (am_cur_of (i := (209, 1, .aload_n 0, (0, 0, 0), 0)) (by decide +kernel)) g0m hm_z
      replace hm_z := rn_getI (v := 1) (am_cur_of (i := (210, 3, .getfield 157, (12, 8, 1392), 0)) (by decide +kernel)) (by decide +kernel) kc hm_z
      replace hm_z := rn_iconst (w := 1) (am_cur_of (i := (213, 1, .iconst 1, (0, 0, 0), 0)) (by decide +kernel)) (by decide) hm_z
      replace hm_z := rn_cmpF (am_cur_of (i := (214, 3, .if_icmp .ne 21, (97, 0, 0), 0)) (by decide +kernel)) (by decide) hm_z
      replace hm_z := rn_aload_n (am_cur_of (i := (217, 1, .aload_n 0, (0, 0, 0), 0)) (by decide +kernel)) g0m hm_z
      replace hm_z := rn_getI (v := 10) (am_cur_of (i := (218, 3, .getfield 168, (12, 9, 1393), 0)) (by decide +kernel)) (by decide +kernel) kd hm_z
      replace hm_z := rn_bipush (w := 9) (am_cur_of (i := (221, 2, .bipush 9, (0, 0, 0), 0)) (by decide +kernel)) (by decide) hm_z
      replace hm_z := rn_cmpF (am_cur_of (i := (223, 3, .if_icmp .lt 12, (97, 0, 0), 0)) (by decide +kernel)) (by decide) hm_z
      replace hm_z := rn_aload_n (am_cur_of (i := (226, 1, .aload_n 0, (0, 0, 0), 0)) (by decide +kernel)) g0m hm_z
      replace hm_z := rn_getI (v := 10) (am_cur_of (i := (227, 3, .getfield 168, (12, 9, 1393), 0)) (by decide +kernel)) (by decide +kernel) kd hm_z
      replace hm_z := rn_bipush (w := 11) (am_cur_of (i := (230, 2, .bipush 11, (0, 0, 0), 0)) (by decide +kernel)) (by decide) hm_z
      replace hm_z := rn_cmpT (am_cur_of (i := (232, 3, .if_icmp .le 9, (101, 0, 0), 0)) (by decide +kernel)) (by decide) hm_z
      replace hm_z := rn_iconst (w := 3) (am_cur_of (i := (241, 1, .iconst 3, (0, 0, 0), 0)) (by decide +kernel)) (by decide) hm_z
      replace hm_z := rn_aload_n (am_cur_of (i := (242, 1, .aload_n 0, (0, 0, 0), 0)) (by decide +kernel)) g0m hm_z
      replace hm_z := rn_getI (v := 10) (am_cur_of (i := (243, 3, .getfield 168, (12, 9, 1393), 0)) (by decide +kernel)) (by decide +kernel) kd hm_z
      replace hm_z := rn_iadd (w := 13) (am_cur_of (i := (246, 1, .iadd, (0, 0, 0), 0)) (by decide +kernel)) (by decide) hm_z
      replace hm_z := rn_bipush (w := 9) (am_cur_of (i := (247, 2, .bipush 9, (0, 0, 0), 0)) (by decide +kernel)) (by decide) hm_z
      replace hm_z := rn_isub (w := 4) (am_cur_of (i := (249, 1, .isub, (0, 0, 0), 0)) (by decide +kernel)) (by decide) hm_z
      replace hm_z := rn_istore_n (am_cur_of (i := (250, 1, .istore_n 2, (0, 0, 0), 0)) (by decide +kernel)) hm_z
      obtain ⟨_, s735_z, s736_z, g2m, hm_z⟩ := hm_z
      replace g0m := s735_z 0 _ (by decide) rfl g0m
      clear s735_z s736_z
      replace hm_z := rn_aload_n (am_cur_of (i := (251, 1, .aload_n 0, (0, 0, 0), 0)) (by decide +kernel)) g0m hm_z
      replace hm_z := rn_getR (x := 178) (am_cur_of (i := (252, 3, .getfield 54, (12, 33, 1417), 0)) (by decide +kernel)) (by decide +kernel) hm_z
      replace hm_z := rn_iload_n (am_cur_of (i := (255, 1, .iload_n 2, (0, 0, 0), 0)) (by decide +kernel)) g2m hm_z
      replace hm_z := rn_baload (N := 6) (q := 4) (v := 1) (am_cur_of (i := (256, 1, .baload, (0, 0, 0), 0)) (by decide +kernel)) (by decide +kernel) rfl (o5_z.trans (show rp_bi b5_z = 1 from by rw [hb_z]; decide)) hm_z
      obtain ⟨p737_z, hm_z⟩ := hm_z
      replace hm_z := rn_ifF (am_cur_of (i := (257, 3, .ifCond .eq 9, (117, 0, 0), 0)) (by decide +kernel)) (by decide) hm_z
      replace hm_z := rn_aload_n (am_cur_of (i := (260, 1, .aload_n 0, (0, 0, 0), 0)) (by decide +kernel)) g0m hm_z
      replace hm_z := rn_iconst (w := 3) (am_cur_of (i := (261, 1, .iconst 3, (0, 0, 0), 0)) (by decide +kernel)) (by decide) hm_z
      replace hm_z := rn_callV (M' := am_m158) (o := 164) (ar := [.int 3]) (rest := []) (L := lv_args 0 [.ref 164, .int 3]) (am_cur_of (i := (262, 3, .invokevirtual 181, (158, 1665, 3), 0)) (by decide +kernel)) rfl rfl rfl rfl hm_z
      obtain ⟨r738_z, h739_z, q740_z, hm_z⟩ := hm_z
      obtain ⟨rfl, yq740_z⟩ := rp_wrong q740_z
      subst yq740_z
      replace hm_z : rn _ _ _ _ [.int 0] _ _ _ := hm_z
      replace hm_z := rn_iret (am_cur_of (i := (265, 1, .ireturn, (0, 0, 0), 0)) (by decide +kernel)) hm_z
      obtain ⟨e741_z, e742_z⟩ := hm_z
      subst e741_z e742_z
      exact Or.inr (Or.inl ⟨rfl, _, 3, by decide, K.1, K.2.trans R5, rfl, R6⟩)
  · replace e1_z := e1_z.trans (show rp_bi b5_z = rp_bi false from by rw [hb_z])
    replace hc_z := rn_aload_n (am_cur_of (i := (4, 1, .aload_n 0, (0, 0, 0), 0)) (by decide +kernel)) g0_z hc_z
    replace hc_z := rn_getI (v := 10) (am_cur_of (i := (5, 3, .getfield 91, (4, 11, 420), 0)) (by decide +kernel)) (by decide +kernel) kb hc_z
    replace hc_z := rn_bipush (w := 9) (am_cur_of (i := (8, 2, .bipush 9, (0, 0, 0), 0)) (by decide +kernel)) (by decide) hc_z
    replace hc_z := rn_isub (w := 1) (am_cur_of (i := (10, 1, .isub, (0, 0, 0), 0)) (by decide +kernel)) (by decide) hc_z
    replace hc_z := rn_istore_n (am_cur_of (i := (11, 1, .istore_n 1, (0, 0, 0), 0)) (by decide +kernel)) hc_z
    obtain ⟨_, s743_z, s744_z, g1_z, hc_z⟩ := hc_z
    replace g0_z := s743_z 0 _ (by decide) rfl g0_z
    clear s743_z s744_z
    replace hc_z := rn_aload_n (am_cur_of (i := (12, 1, .aload_n 0, (0, 0, 0), 0)) (by decide +kernel)) g0_z hc_z
    replace hc_z := rn_getI (v := 2) (am_cur_of (i := (13, 3, .getfield 60, (4, 10, 419), 0)) (by decide +kernel)) (by decide +kernel) ka hc_z
    replace hc_z := rn_iconst (w := 2) (am_cur_of (i := (16, 1, .iconst 2, (0, 0, 0), 0)) (by decide +kernel)) (by decide) hc_z
    replace hc_z := rn_cmpF (am_cur_of (i := (17, 3, .if_icmp .ne 12, (16, 0, 0), 0)) (by decide +kernel)) (by decide) hc_z
    replace hc_z := rn_iload_n (am_cur_of (i := (20, 1, .iload_n 1, (0, 0, 0), 0)) (by decide +kernel)) g1_z hc_z
    replace hc_z := rn_ifF (am_cur_of (i := (21, 3, .ifCond .lt 8, (16, 0, 0), 0)) (by decide +kernel)) (by decide) hc_z
    replace hc_z := rn_iload_n (am_cur_of (i := (24, 1, .iload_n 1, (0, 0, 0), 0)) (by decide +kernel)) g1_z hc_z
    replace hc_z := rn_iconst (w := 2) (am_cur_of (i := (25, 1, .iconst 2, (0, 0, 0), 0)) (by decide +kernel)) (by decide) hc_z
    replace hc_z := rn_cmpT (am_cur_of (i := (26, 3, .if_icmp .le 9, (20, 0, 0), 0)) (by decide +kernel)) (by decide) hc_z
    replace hc_z := rn_aload_n (am_cur_of (i := (35, 1, .aload_n 0, (0, 0, 0), 0)) (by decide +kernel)) g0_z hc_z
    replace hc_z := rn_getI (v := rp_tb b0_z b1_z b2_z b3_z b4_z b5_z b6_z) (am_cur_of (i := (36, 3, .getfield 45, (4, 7, 416), 0)) (by decide +kernel)) (by decide +kernel) t hc_z
    replace hc_z := rn_aload_n (am_cur_of (i := (39, 1, .aload_n 0, (0, 0, 0), 0)) (by decide +kernel)) g0_z hc_z
    replace hc_z := rn_getI (v := 10) (am_cur_of (i := (40, 3, .getfield 91, (4, 11, 420), 0)) (by decide +kernel)) (by decide +kernel) kb hc_z
    replace hc_z := rn_ishr (w := (rp_tb b0_z b1_z b2_z b3_z b4_z b5_z b6_z) >>> (10 &&& 31)) (am_cur_of (i := (43, 1, .ishr, (0, 0, 0), 0)) (by decide +kernel)) rfl hc_z
    replace hc_z := rn_iconst (w := 1) (am_cur_of (i := (44, 1, .iconst 1, (0, 0, 0), 0)) (by decide +kernel)) (by decide) hc_z
    replace hc_z := rn_iand (w := ((rp_tb b0_z b1_z b2_z b3_z b4_z b5_z b6_z) >>> (10 &&& 31)) &&& 1) (am_cur_of (i := (45, 1, .iand, (0, 0, 0), 0)) (by decide +kernel)) rfl hc_z
    replace hc_z := rn_if (am_cur_of (i := (46, 3, .ifCond .eq 9, (32, 0, 0), 0)) (by decide +kernel)) hc_z
    rcases hc_z with ⟨b745_z, hc_z⟩ | ⟨b745_z, hc_z⟩
    · replace b745_z : (((rp_tb b0_z b1_z b2_z b3_z b4_z b5_z b6_z) >>> (10 &&& 31)) &&& 1) = (0 : Int32) ∧ (((rp_tb b0_z b1_z b2_z b3_z b4_z b5_z b6_z) >>> (10 &&& 31)) &&& 1).toInt = (0 : Int32).toInt := b745_z
      replace hc_z := rn_aload_n (am_cur_of (i := (55, 1, .aload_n 0, (0, 0, 0), 0)) (by decide +kernel)) g0_z hc_z
      replace hc_z := rn_dup (am_cur_of (i := (56, 1, .dup, (0, 0, 0), 0)) (by decide +kernel)) hc_z
      replace hc_z := rn_getI (v := rp_tb b0_z b1_z b2_z b3_z b4_z b5_z b6_z) (am_cur_of (i := (57, 3, .getfield 45, (4, 7, 416), 0)) (by decide +kernel)) (by decide +kernel) t hc_z
      replace hc_z := rn_iconst (w := 1) (am_cur_of (i := (60, 1, .iconst 1, (0, 0, 0), 0)) (by decide +kernel)) (by decide) hc_z
      replace hc_z := rn_aload_n (am_cur_of (i := (61, 1, .aload_n 0, (0, 0, 0), 0)) (by decide +kernel)) g0_z hc_z
      replace hc_z := rn_getI (v := 10) (am_cur_of (i := (62, 3, .getfield 91, (4, 11, 420), 0)) (by decide +kernel)) (by decide +kernel) kb hc_z
      replace hc_z := rn_ishl (w := 1024) (am_cur_of (i := (65, 1, .ishl, (0, 0, 0), 0)) (by decide +kernel)) (by decide) hc_z
      replace hc_z := rn_ior (w := (rp_tb b0_z b1_z b2_z b3_z b4_z b5_z b6_z) ||| 1024) (am_cur_of (i := (66, 1, .ior, (0, 0, 0), 0)) (by decide +kernel)) rfl hc_z
      replace hc_z := rn_put (am_cur_of (i := (67, 3, .putfield 45, (4, 7, 416), 0)) (by decide +kernel)) (by decide +kernel) hc_z
      replace hc_z := rn_aload_n (am_cur_of (i := (70, 1, .aload_n 0, (0, 0, 0), 0)) (by decide +kernel)) g0_z hc_z
      replace hc_z := rn_callV (M' := am_m19) (o := 44) (ar := []) (rest := []) (L := lv_args 0 [.ref 44]) (am_cur_of (i := (71, 3, .invokevirtual 57, (19, 727, 3), 0)) (by decide +kernel)) rfl rfl rfl rfl hc_z
      obtain ⟨r746_z, h747_z, q748_z, hc_z⟩ := hc_z
      have vo := rn_void rfl q748_z
      subst vo
      replace hm_z := rn_aload_n (am_cur_of (i := (209, 1, .aload_n 0, (0, 0, 0), 0)) (by decide +kernel)) g0m hm_z
      replace hm_z := rn_getI (v := 1) (am_cur_of (i := (210, 3, .getfield 157, (12, 8, 1392), 0)) (by decide +kernel)) (by decide +kernel) kc hm_z
      replace hm_z := rn_iconst (w := 1) (am_cur_of (i := (213, 1, .iconst 1, (0, 0, 0), 0)) (by decide +kernel)) (by decide) hm_z
      replace hm_z := rn_cmpF (am_cur_of (i := (214, 3, .if_icmp .ne 21, (97, 0, 0), 0)) (by decide +kernel)) (by decide) hm_z
      replace hm_z := rn_aload_n (am_cur_of (i := (217, 1, .aload_n 0, (0, 0, 0), 0)) (by decide +kernel)) g0m hm_z
      replace hm_z := rn_getI (v := 10) (am_cur_of (i := (218, 3, .getfield 168, (12, 9, 1393), 0)) (by decide +kernel)) (by decide +kernel) kd hm_z
      replace hm_z := rn_bipush (w := 9) (am_cur_of (i := (221, 2, .bipush 9, (0, 0, 0), 0)) (by decide +kernel)) (by decide) hm_z
      replace hm_z := rn_cmpF (am_cur_of (i := (223, 3, .if_icmp .lt 12, (97, 0, 0), 0)) (by decide +kernel)) (by decide) hm_z
      replace hm_z := rn_aload_n (am_cur_of (i := (226, 1, .aload_n 0, (0, 0, 0), 0)) (by decide +kernel)) g0m hm_z
      replace hm_z := rn_getI (v := 10) (am_cur_of (i := (227, 3, .getfield 168, (12, 9, 1393), 0)) (by decide +kernel)) (by decide +kernel) kd hm_z
      replace hm_z := rn_bipush (w := 11) (am_cur_of (i := (230, 2, .bipush 11, (0, 0, 0), 0)) (by decide +kernel)) (by decide) hm_z
      replace hm_z := rn_cmpT (am_cur_of (i := (232, 3, .if_icmp .le 9, (101, 0, 0), 0)) (by decide +kernel)) (by decide) hm_z
      replace hm_z := rn_iconst (w := 3) (am_cur_of (i := (241, 1, .iconst 3, (0, 0, 0), 0)) (by decide +kernel)) (by decide) hm_z
      replace hm_z := rn_aload_n (am_cur_of (i := (242, 1, .aload_n 0, (0, 0, 0), 0)) (by decide +kernel)) g0m hm_z
      replace hm_z := rn_getI (v := 10) (am_cur_of (i := (243, 3, .getfield 168, (12, 9, 1393), 0)) (by decide +kernel)) (by decide +kernel) kd hm_z
      replace hm_z := rn_iadd (w := 13) (am_cur_of (i := (246, 1, .iadd, (0, 0, 0), 0)) (by decide +kernel)) (by decide) hm_z
      replace hm_z := rn_bipush (w := 9) (am_cur_of (i := (247, 2, .bipush 9, (0, 0, 0), 0)) (by decide +kernel)) (by decide) hm_z
      replace hm_z := rn_isub (w := 4) (am_cur_of (i := (249, 1, .isub, (0, 0, 0), 0)) (by decide +kernel)) (by decide) hm_z
      replace hm_z := rn_istore_n (am_cur_of (i := (250, 1, .istore_n 2, (0, 0, 0), 0)) (by decide +kernel)) hm_z
      obtain ⟨_, s749_z, s750_z, g2m, hm_z⟩ := hm_z
      replace g0m := s749_z 0 _ (by decide) rfl g0m
      clear s749_z s750_z
      replace hm_z := rn_aload_n (am_cur_of (i := (251, 1, .aload_n 0, (0, 0, 0), 0)) (by decide +kernel)) g0m hm_z
      replace hm_z := rn_getR (x := 178) (am_cur_of (i := (252, 3, .getfield 54, (12, 33, 1417), 0)) (by decide +kernel)) (by decide +kernel) hm_z
      replace hm_z := rn_iload_n (am_cur_of (i := (255, 1, .iload_n 2, (0, 0, 0), 0)) (by decide +kernel)) g2m hm_z
      replace hm_z := rn_baload (N := 6) (q := 4) (v := 0) (am_cur_of (i := (256, 1, .baload, (0, 0, 0), 0)) (by decide +kernel)) (by decide +kernel) rfl (o5_z.trans (show rp_bi b5_z = 0 from by rw [hb_z]; decide)) hm_z
      obtain ⟨p751_z, hm_z⟩ := hm_z
      replace hm_z := rn_ifT (am_cur_of (i := (257, 3, .ifCond .eq 9, (117, 0, 0), 0)) (by decide +kernel)) (by decide) hm_z
      replace hm_z := rn_aload_n (am_cur_of (i := (266, 1, .aload_n 0, (0, 0, 0), 0)) (by decide +kernel)) g0m hm_z
      replace hm_z := rn_getR (x := 178) (am_cur_of (i := (267, 3, .getfield 54, (12, 33, 1417), 0)) (by decide +kernel)) (by decide +kernel) hm_z
      replace hm_z := rn_iload_n (am_cur_of (i := (270, 1, .iload_n 2, (0, 0, 0), 0)) (by decide +kernel)) g2m hm_z
      replace hm_z := rn_iconst (w := 1) (am_cur_of (i := (271, 1, .iconst 1, (0, 0, 0), 0)) (by decide +kernel)) (by decide) hm_z
      replace hm_z := rn_bastore (N := 6) (q := 4) (am_cur_of (i := (272, 1, .bastore, (0, 0, 0), 0)) (by decide +kernel)) (by decide +kernel) rfl hm_z
      obtain ⟨p752_z, hm_z⟩ := hm_z
      replace hm_z := rn_aload_n (am_cur_of (i := (273, 1, .aload_n 0, (0, 0, 0), 0)) (by decide +kernel)) g0m hm_z
      replace hm_z := rn_callV (M' := am_m151) (o := 164) (ar := []) (rest := []) (L := lv_args 0 [.ref 164]) (am_cur_of (i := (274, 3, .invokevirtual 191, (151, 1636, 3), 0)) (by decide +kernel)) rfl rfl rfl rfl hm_z
      obtain ⟨r753_z, h754_z, q755_z, hm_z⟩ := hm_z
      have vo := rn_void rfl q755_z
      subst vo
      obtain ⟨-, -, x3_z, p3_z, R3, le3_z, t5_z, t6_z⟩ := pr_tok (rq0_lw (rq_0 R)) q748_z q755_z
      have A2 : rp 23 (am_up h 44 7 (.int ((rp_tb b0_z b1_z b2_z b3_z b4_z b5_z b6_z) ||| 1024))) (am_up g 178 4 (.int 1)) := ry_p23 A (ab_Fr_up rfl ab_Fr_refl) (ab_Fr_up rfl ab_Fr_refl) A.2.2.2.2.2.1.1 A.2.2.2.2.2.1.2.1 A.2.2.2.2.2.1.2.2
      have A3 := rp_x (by decide) A2 (rx_C_f t5_z) (rx_M_f t6_z)
      have B3 : rp_t h747_z h754_z := ⟨b0_z, b1_z, b2_z, b3_z, b4_z, true, b6_z, (rg_v_fr t5_z (by decide)).trans e2_z, (rg_v_fr t6_z (rg_v_in (by decide) _)).trans o0_z, (rg_v_fr t6_z (rg_v_in (by decide) _)).trans o1_z, (rg_v_fr t6_z (rg_v_in (by decide) _)).trans o2_z, (rg_v_fr t6_z (rg_v_in (by decide) _)).trans o3_z, (rg_v_fr t6_z (rg_v_in (by decide) _)).trans o4_z, (rg_v_fr t6_z (rg_v_in (by decide) _)).trans rfl, (rg_v_fr t6_z (rg_v_in (by decide) _)).trans o6_z⟩
      replace hm_z : rn _ _ _ _ [] _ _ _ := hm_z
      replace hc_z : rn _ _ _ _ [] _ _ _ := hc_z
      replace hc_z := rn_aload_n (am_cur_of (i := (74, 1, .aload_n 0, (0, 0, 0), 0)) (by decide +kernel)) g0_z hc_z
      replace hc_z := rn_getM (x := 23) (am_cur_of (i := (75, 3, .getfield 25, (4, 6, 415), 0)) (by decide +kernel)) R3.2.2.1 hc_z
      replace hc_z := rn_getR (x := 32) (am_cur_of (i := (78, 3, .getfield 242, (1, 19, 316), 0)) (by decide +kernel)) (by decide +kernel) hc_z
      replace hc_z := rn_iload_n (am_cur_of (i := (81, 1, .iload_n 1, (0, 0, 0), 0)) (by decide +kernel)) g1_z hc_z
      replace hc_z := rn_callV (M' := am_m43) (o := 32) (ar := [.int 1]) (rest := []) (L := lv_args 0 [.ref 32, .int 1]) (am_cur_of (i := (82, 3, .invokevirtual 246, (43, 826, 3), 0)) (by decide +kernel)) rfl rfl rfl rfl hc_z
      obtain ⟨r756_z, h757_z, q758_z, hc_z⟩ := hc_z
      rcases rs_beg23 q758_z with ⟨rfl, y759_z⟩
      replace y759_z := y759_z.symm
      subst y759_z
      replace hc_z : rn _ _ _ _ [] _ _ _ := hc_z
      replace hc_z := rn_aload_n (am_cur_of (i := (85, 1, .aload_n 0, (0, 0, 0), 0)) (by decide +kernel)) g0_z hc_z
      replace hc_z := rn_iconst (w := 0) (am_cur_of (i := (86, 1, .iconst 0, (0, 0, 0), 0)) (by decide +kernel)) (by decide) hc_z
      replace hc_z := rn_put (am_cur_of (i := (87, 3, .putfield 251, (4, 13, 422), 0)) (by decide +kernel)) (by decide +kernel) hc_z
      replace hc_z := rn_aload_n (am_cur_of (i := (90, 1, .aload_n 0, (0, 0, 0), 0)) (by decide +kernel)) g0_z hc_z
      replace hc_z := rn_iconst (w := 0) (am_cur_of (i := (91, 1, .iconst 0, (0, 0, 0), 0)) (by decide +kernel)) (by decide) hc_z
      replace hc_z := rn_put (am_cur_of (i := (92, 3, .putfield 254, (4, 14, 423), 0)) (by decide +kernel)) (by decide +kernel) hc_z
      replace hc_z := rn_iconst (w := 0) (am_cur_of (i := (95, 1, .iconst 0, (0, 0, 0), 0)) (by decide +kernel)) (by decide) hc_z
      replace hc_z := rn_istore_n (am_cur_of (i := (96, 1, .istore_n 2, (0, 0, 0), 0)) (by decide +kernel)) hc_z
      obtain ⟨_, s760_z, s761_z, g2_z, hc_z⟩ := hc_z
      replace g0_z := s760_z 0 _ (by decide) rfl g0_z
      replace g1_z := s760_z 1 _ (by decide) rfl g1_z
      clear s760_z s761_z
      replace hc_z := rn_iconst (w := 0) (am_cur_of (i := (97, 1, .iconst 0, (0, 0, 0), 0)) (by decide +kernel)) (by decide) hc_z
      replace hc_z := rn_istore_n (am_cur_of (i := (98, 1, .istore_n 3, (0, 0, 0), 0)) (by decide +kernel)) hc_z
      obtain ⟨_, s762_z, s763_z, g3_z, hc_z⟩ := hc_z
      replace g0_z := s762_z 0 _ (by decide) rfl g0_z
      replace g1_z := s762_z 1 _ (by decide) rfl g1_z
      replace g2_z := s762_z 2 _ (by decide) rfl g2_z
      clear s762_z s763_z
      replace hm_z := rn_aload_n (am_cur_of (i := (277, 1, .aload_n 0, (0, 0, 0), 0)) (by decide +kernel)) g0m hm_z
      replace hm_z := rn_getR (x := 179) (am_cur_of (i := (278, 3, .getfield 57, (12, 34, 1418), 0)) (by decide +kernel)) (by decide +kernel) hm_z
      replace hm_z := rn_iload_n (am_cur_of (i := (281, 1, .iload_n 2, (0, 0, 0), 0)) (by decide +kernel)) g2m hm_z
      replace hm_z := rn_aload_n (am_cur_of (i := (282, 1, .aload_n 0, (0, 0, 0), 0)) (by decide +kernel)) g0m hm_z
      replace hm_z := rn_getI (v := rg_v h754_z 164 21) (am_cur_of (i := (283, 3, .getfield 213, (12, 21, 1405), 0)) (by decide +kernel)) (by decide +kernel) rfl hm_z
      replace hm_z := rn_iastore (N := 6) (q := 4) (am_cur_of (i := (286, 1, .iastore, (0, 0, 0), 0)) (by decide +kernel)) (by decide +kernel) rfl hm_z
      obtain ⟨p764_z, hm_z⟩ := hm_z
      replace hm_z := rn_aload_n (am_cur_of (i := (287, 1, .aload_n 0, (0, 0, 0), 0)) (by decide +kernel)) g0m hm_z
      replace hm_z := rn_callV (M' := am_m170) (o := 164) (ar := []) (rest := []) (L := lv_args 0 [.ref 164]) (am_cur_of (i := (288, 3, .invokevirtual 271, (170, 1711, 3), 0)) (by decide +kernel)) rfl rfl rfl rfl hm_z
      obtain ⟨r765_z, h766_z, q767_z, hm_z⟩ := hm_z
      have g0q : am_get (lv_args 0 [.ref 164]) 0 = some (.ref 164) := rfl
      replace q767_z := rn_aload_n (am_cur_of (i := (0, 1, .aload_n 0, (0, 0, 0), 0)) (by decide +kernel)) g0q q767_z
      replace q767_z := rn_iconst (w := 0) (am_cur_of (i := (1, 1, .iconst 0, (0, 0, 0), 0)) (by decide +kernel)) (by decide) q767_z
      replace q767_z := rn_put (am_cur_of (i := (2, 3, .putfield 280, (12, 41, 1425), 0)) (by decide +kernel)) (by decide +kernel) q767_z
      replace q767_z := rn_aload_n (am_cur_of (i := (5, 1, .aload_n 0, (0, 0, 0), 0)) (by decide +kernel)) g0q q767_z
      replace q767_z := rn_iconst (w := 0) (am_cur_of (i := (6, 1, .iconst 0, (0, 0, 0), 0)) (by decide +kernel)) (by decide) q767_z
      replace q767_z := rn_put (am_cur_of (i := (7, 3, .putfield 277, (12, 42, 1426), 0)) (by decide +kernel)) (by decide +kernel) q767_z
      replace q767_z := rn_aload_n (am_cur_of (i := (10, 1, .aload_n 0, (0, 0, 0), 0)) (by decide +kernel)) g0q q767_z
      replace q767_z := rn_iconst (w := 0) (am_cur_of (i := (11, 1, .iconst 0, (0, 0, 0), 0)) (by decide +kernel)) (by decide) q767_z
      replace q767_z := rn_put (am_cur_of (i := (12, 3, .putfield 295, (12, 43, 1427), 0)) (by decide +kernel)) (by decide +kernel) q767_z
      replace q767_z := rn_aload_n (am_cur_of (i := (15, 1, .aload_n 0, (0, 0, 0), 0)) (by decide +kernel)) g0q q767_z
      replace q767_z := rn_iconst (w := 1) (am_cur_of (i := (16, 1, .iconst 1, (0, 0, 0), 0)) (by decide +kernel)) (by decide) q767_z
      replace q767_z := rn_put (am_cur_of (i := (17, 3, .putfield 315, (12, 45, 1429), 0)) (by decide +kernel)) (by decide +kernel) q767_z
      replace q767_z := rn_aload_n (am_cur_of (i := (20, 1, .aload_n 0, (0, 0, 0), 0)) (by decide +kernel)) g0q q767_z
      replace q767_z := rn_iconst (w := 1) (am_cur_of (i := (21, 1, .iconst 1, (0, 0, 0), 0)) (by decide +kernel)) (by decide) q767_z
      replace q767_z := rn_put (am_cur_of (i := (22, 3, .putfield 302, (12, 46, 1430), 0)) (by decide +kernel)) (by decide +kernel) q767_z
      have FC : ab_Fr (ry_MC23.drop 1) h747_z (am_up (am_up (am_up h747_z 35 ((1 : Int32).toNatClampNeg) (.int (rg_v h747_z 32 1))) 44 13 (.int 0)) 44 14 (.int 0)) := ab_Fr_up rfl (ab_Fr_up rfl (ab_Fr_up rfl ab_Fr_refl))
      have FM : ab_Fr ry_MT h754_z (am_up (am_up (am_up (am_up (am_up (am_up h754_z 179 4 (.int (rg_v h754_z 164 21))) 164 41 (.int 0)) 164 42 (.int 0)) 164 43 (.int 0)) 164 45 (.int 1)) 164 46 (.int 1)) := ab_Fr_up rfl (ab_Fr_up rfl (ab_Fr_up rfl (ab_Fr_up rfl (ab_Fr_up rfl (ab_Fr_up rfl ab_Fr_refl)))))
      have FM' : ab_Fr ry_MM h754_z (am_up (am_up (am_up (am_up (am_up (am_up h754_z 179 4 (.int (rg_v h754_z 164 21))) 164 41 (.int 0)) 164 42 (.int 0)) 164 43 (.int 0)) 164 45 (.int 1)) 164 46 (.int 1)) := ab_Fr_sub (by decide) FM
      have R4 := ry_rq23 R3 FC FM'
      have A4 := ry_p23 A3 (ab_Fr_sub (by decide) FC) FM' A3.2.2.2.2.2.1.1 A3.2.2.2.2.2.1.2.1 A3.2.2.2.2.2.1.2.2
      have B4 := ry_t23 B3 FC FM
      have kk : 0 ≤ (rg_v (am_up (am_up (am_up h747_z 35 ((1 : Int32).toNatClampNeg) (.int (rg_v h747_z 32 1))) 44 13 (.int 0)) 44 14 (.int 0)) 32 0).toInt := A4.2.2.2.2.2.1.2.1
      have Z4 : rs 23 (am_up (am_up (am_up h747_z 35 ((1 : Int32).toNatClampNeg) (.int (rg_v h747_z 32 1))) 44 13 (.int 0)) 44 14 (.int 0)) (am_up (am_up (am_up (am_up (am_up (am_up h754_z 179 4 (.int (rg_v h754_z 164 21))) 164 41 (.int 0)) 164 42 (.int 0)) 164 43 (.int 0)) 164 45 (.int 1)) 164 46 (.int 1)) := ⟨0, 0, rfl, rfl, by decide, rfl, rfl, by decide, by decide, (by rw [show (0 : Int32).toInt = 0 by decide]; show (0 : Int) ≤ (rg_v (am_up (am_up (am_up h747_z 35 ((1 : Int32).toNatClampNeg) (.int (rg_v h747_z 32 1))) 44 13 (.int 0)) 44 14 (.int 0)) 32 0).toInt + 0; omega), fun i hi_z => absurd hi_z (by rw [show (0 : Int32).toInt = 0 by decide]; omega), (by rw [show (0 : Int32).toNatClampNeg = 0 by decide, show (0 : Int32).toInt = 0 by decide]; rfl)⟩
      have R4p := R4.2.2.2.2.2.2.1
      have R4x := R4.2.2.2.2.2.2.2.1
      have Q := lw_loop23 (lw := 1) (x0_z := p3_z) _ 0 0 x3_z p3_z _ _ _ _ _ (by decide) (by rw [show (0 : Int32).toInt = 0 by decide]; exact R4p) (Int.le_refl _) R4 A4 B4 Z4 (Or.inl ⟨rfl, rfl, rfl⟩) g0_z g1_z g2_z g3_z g0q hc_z q767_z
      rcases Q with ⟨rfl, x5_z, p5_z, R5, le5_z, A5, B5⟩ | ⟨rfl, p5_z, wv, v0_z, f1_z, f2_z, f3_z, f4_z⟩ | ⟨rfl, p5_z, u1_z, u2_z, u3_z, u4_z, u5_z⟩
      · replace hm_z : rn _ _ _ _ [.int 1] _ _ _ := hm_z
        replace hm_z := rn_istore_n (am_cur_of (i := (291, 1, .istore_n 1, (0, 0, 0), 0)) (by decide +kernel)) hm_z
        obtain ⟨_, s768_z, s769_z, g1m, hm_z⟩ := hm_z
        replace g0m := s768_z 0 _ (by decide) rfl g0m
        replace g2m := s768_z 2 _ (by decide) rfl g2m
        clear s768_z s769_z
        replace hm_z := rn_aload_n (am_cur_of (i := (292, 1, .aload_n 0, (0, 0, 0), 0)) (by decide +kernel)) g0m hm_z
        replace hm_z := rn_getR (x := 180) (am_cur_of (i := (293, 3, .getfield 60, (12, 35, 1419), 0)) (by decide +kernel)) (by decide +kernel) hm_z
        replace hm_z := rn_iload_n (am_cur_of (i := (296, 1, .iload_n 2, (0, 0, 0), 0)) (by decide +kernel)) g2m hm_z
        replace hm_z := rn_aload_n (am_cur_of (i := (297, 1, .aload_n 0, (0, 0, 0), 0)) (by decide +kernel)) g0m hm_z
        replace hm_z := rn_getI (v := rg_v h766_z 164 21) (am_cur_of (i := (298, 3, .getfield 213, (12, 21, 1405), 0)) (by decide +kernel)) (by decide +kernel) rfl hm_z
        replace hm_z := rn_iastore (N := 6) (q := 4) (am_cur_of (i := (301, 1, .iastore, (0, 0, 0), 0)) (by decide +kernel)) (by decide +kernel) rfl hm_z
        obtain ⟨p770_z, hm_z⟩ := hm_z
        have EM : ab_Fr ry_MT h766_z (am_up h766_z 180 4 (.int (rg_v h766_z 164 21))) := ab_Fr_up rfl ab_Fr_refl
        exact Or.inl ⟨x5_z, p5_z, _, _, _, ry_rq23 R5 ab_Fr_refl (ab_Fr_sub (by decide) EM), by omega, ry_p23 A5 ab_Fr_refl (ab_Fr_sub (by decide) EM) A5.2.2.2.2.2.1.1 A5.2.2.2.2.2.1.2.1 A5.2.2.2.2.2.1.2.2, ry_t23 B5 ab_Fr_refl EM, g0m, g1m, hm_z⟩
      · replace hm_z : rn _ _ _ _ [.int 0] _ _ _ := hm_z
        replace hm_z := rn_istore_n (am_cur_of (i := (291, 1, .istore_n 1, (0, 0, 0), 0)) (by decide +kernel)) hm_z
        obtain ⟨_, s771_z, s772_z, g1m, hm_z⟩ := hm_z
        replace g0m := s771_z 0 _ (by decide) rfl g0m
        replace g2m := s771_z 2 _ (by decide) rfl g2m
        clear s771_z s772_z
        replace hm_z := rn_aload_n (am_cur_of (i := (292, 1, .aload_n 0, (0, 0, 0), 0)) (by decide +kernel)) g0m hm_z
        replace hm_z := rn_getR (x := 180) (am_cur_of (i := (293, 3, .getfield 60, (12, 35, 1419), 0)) (by decide +kernel)) (by decide +kernel) hm_z
        replace hm_z := rn_iload_n (am_cur_of (i := (296, 1, .iload_n 2, (0, 0, 0), 0)) (by decide +kernel)) g2m hm_z
        replace hm_z := rn_aload_n (am_cur_of (i := (297, 1, .aload_n 0, (0, 0, 0), 0)) (by decide +kernel)) g0m hm_z
        replace hm_z := rn_getI (v := rg_v h766_z 164 21) (am_cur_of (i := (298, 3, .getfield 213, (12, 21, 1405), 0)) (by decide +kernel)) (by decide +kernel) rfl hm_z
        replace hm_z := rn_iastore (N := 6) (q := 4) (am_cur_of (i := (301, 1, .iastore, (0, 0, 0), 0)) (by decide +kernel)) (by decide +kernel) rfl hm_z
        obtain ⟨p773_z, hm_z⟩ := hm_z
        replace hm_z := rn_iload_n (am_cur_of (i := (302, 1, .iload_n 1, (0, 0, 0), 0)) (by decide +kernel)) g1m hm_z
        replace hm_z := rn_ifF (am_cur_of (i := (303, 3, .ifCond .ne 5, (143, 0, 0), 0)) (by decide +kernel)) (by decide) hm_z
        replace hm_z := rn_iconst (w := 0) (am_cur_of (i := (306, 1, .iconst 0, (0, 0, 0), 0)) (by decide +kernel)) (by decide) hm_z
        replace hm_z := rn_iret (am_cur_of (i := (307, 1, .ireturn, (0, 0, 0), 0)) (by decide +kernel)) hm_z
        obtain ⟨e774_z, e775_z⟩ := hm_z
        subst e774_z e775_z
        exact Or.inr (Or.inl ⟨rfl, p5_z, wv, v0_z, f1_z, f2_z, f3_z, f4_z⟩)
      · replace hm_z : rn _ _ _ _ [.int 0] _ _ _ := hm_z
        replace hm_z := rn_istore_n (am_cur_of (i := (291, 1, .istore_n 1, (0, 0, 0), 0)) (by decide +kernel)) hm_z
        obtain ⟨_, s776_z, s777_z, g1m, hm_z⟩ := hm_z
        replace g0m := s776_z 0 _ (by decide) rfl g0m
        replace g2m := s776_z 2 _ (by decide) rfl g2m
        clear s776_z s777_z
        replace hm_z := rn_aload_n (am_cur_of (i := (292, 1, .aload_n 0, (0, 0, 0), 0)) (by decide +kernel)) g0m hm_z
        replace hm_z := rn_getR (x := 180) (am_cur_of (i := (293, 3, .getfield 60, (12, 35, 1419), 0)) (by decide +kernel)) (by decide +kernel) hm_z
        replace hm_z := rn_iload_n (am_cur_of (i := (296, 1, .iload_n 2, (0, 0, 0), 0)) (by decide +kernel)) g2m hm_z
        replace hm_z := rn_aload_n (am_cur_of (i := (297, 1, .aload_n 0, (0, 0, 0), 0)) (by decide +kernel)) g0m hm_z
        replace hm_z := rn_getI (v := rg_v h766_z 164 21) (am_cur_of (i := (298, 3, .getfield 213, (12, 21, 1405), 0)) (by decide +kernel)) (by decide +kernel) rfl hm_z
        replace hm_z := rn_iastore (N := 6) (q := 4) (am_cur_of (i := (301, 1, .iastore, (0, 0, 0), 0)) (by decide +kernel)) (by decide +kernel) rfl hm_z
        obtain ⟨p778_z, hm_z⟩ := hm_z
        replace hm_z := rn_iload_n (am_cur_of (i := (302, 1, .iload_n 1, (0, 0, 0), 0)) (by decide +kernel)) g1m hm_z
        replace hm_z := rn_ifF (am_cur_of (i := (303, 3, .ifCond .ne 5, (143, 0, 0), 0)) (by decide +kernel)) (by decide) hm_z
        replace hm_z := rn_iconst (w := 0) (am_cur_of (i := (306, 1, .iconst 0, (0, 0, 0), 0)) (by decide +kernel)) (by decide) hm_z
        replace hm_z := rn_iret (am_cur_of (i := (307, 1, .ireturn, (0, 0, 0), 0)) (by decide +kernel)) hm_z
        obtain ⟨e779_z, e780_z⟩ := hm_z
        subst e779_z e780_z
        exact Or.inr (Or.inr ⟨rfl, p5_z, u1_z, u2_z, u3_z, u4_z, u5_z⟩)
    · replace b745_z : ¬ (((rp_tb b0_z b1_z b2_z b3_z b4_z b5_z b6_z) >>> (10 &&& 31)) &&& 1) = (0 : Int32) ∧ ¬ (((rp_tb b0_z b1_z b2_z b3_z b4_z b5_z b6_z) >>> (10 &&& 31)) &&& 1).toInt = (0 : Int32).toInt := b745_z
      exact absurd (e1_z.trans (by decide)) b745_z.1
theorem pl_law11_23 {T : Nat → Int32} {S x p : Int32} {n n' : Nat} {h h' g g' : am_H} {r r' : Option Value} {ls ls2_z : am_L} (R : rq T S x p 23 h g) (A : rp 23 h g) (B : rp_t h g) (ka : rg_v h 44 10 = 2) (kb : rg_v h 44 11 = 11) (kc : rg_v g 164 8 = 1) (kd : rg_v g 164 9 = 11) (g0_z : am_get ls 0 = some (.ref 44)) (g0m : am_get ls2_z 0 = some (.ref 164)) (hc_z : rn n am_m42 2 ls [] h r h') (hm_z : rn n' am_m157 85 ls2_z [] g r' g') : pm_Q T S x 23 h' g' r' := by
  have z0_z : (0 : Int32).toInt = 0 := by decide
  have R5 := R.2.2.2.2.1
  have R6 := R.2.2.2.2.2.1
  obtain ⟨b0_z, b1_z, b2_z, b3_z, b4_z, b5_z, b6_z, t, o0_z, o1_z, o2_z, o3_z, o4_z, o5_z, o6_z⟩ := id B
  obtain ⟨e1_z, -⟩ := rp_tb6 b0_z b1_z b2_z b3_z b4_z b5_z b6_z
  have e2_z := rp_tc6 b0_z b1_z b2_z b3_z b4_z b5_z b6_z
  rcases Bool.eq_false_or_eq_true b6_z with hb_z | hb_z
  · replace e1_z := e1_z.trans (show rp_bi b6_z = rp_bi true from by rw [hb_z])
    replace hc_z := rn_aload_n (am_cur_of (i := (4, 1, .aload_n 0, (0, 0, 0), 0)) (by decide +kernel)) g0_z hc_z
    replace hc_z := rn_getI (v := 11) (am_cur_of (i := (5, 3, .getfield 91, (4, 11, 420), 0)) (by decide +kernel)) (by decide +kernel) kb hc_z
    replace hc_z := rn_bipush (w := 9) (am_cur_of (i := (8, 2, .bipush 9, (0, 0, 0), 0)) (by decide +kernel)) (by decide) hc_z
    replace hc_z := rn_isub (w := 2) (am_cur_of (i := (10, 1, .isub, (0, 0, 0), 0)) (by decide +kernel)) (by decide) hc_z
    replace hc_z := rn_istore_n (am_cur_of (i := (11, 1, .istore_n 1, (0, 0, 0), 0)) (by decide +kernel)) hc_z
    obtain ⟨_, s781_z, s782_z, g1_z, hc_z⟩ := hc_z
    replace g0_z := s781_z 0 _ (by decide) rfl g0_z
    clear s781_z s782_z
    replace hc_z := rn_aload_n (am_cur_of (i := (12, 1, .aload_n 0, (0, 0, 0), 0)) (by decide +kernel)) g0_z hc_z
    replace hc_z := rn_getI (v := 2) (am_cur_of (i := (13, 3, .getfield 60, (4, 10, 419), 0)) (by decide +kernel)) (by decide +kernel) ka hc_z
    replace hc_z := rn_iconst (w := 2) (am_cur_of (i := (16, 1, .iconst 2, (0, 0, 0), 0)) (by decide +kernel)) (by decide) hc_z
    replace hc_z := rn_cmpF (am_cur_of (i := (17, 3, .if_icmp .ne 12, (16, 0, 0), 0)) (by decide +kernel)) (by decide) hc_z
    replace hc_z := rn_iload_n (am_cur_of (i := (20, 1, .iload_n 1, (0, 0, 0), 0)) (by decide +kernel)) g1_z hc_z
    replace hc_z := rn_ifF (am_cur_of (i := (21, 3, .ifCond .lt 8, (16, 0, 0), 0)) (by decide +kernel)) (by decide) hc_z
    replace hc_z := rn_iload_n (am_cur_of (i := (24, 1, .iload_n 1, (0, 0, 0), 0)) (by decide +kernel)) g1_z hc_z
    replace hc_z := rn_iconst (w := 2) (am_cur_of (i := (25, 1, .iconst 2, (0, 0, 0), 0)) (by decide +kernel)) (by decide) hc_z
    replace hc_z := rn_cmpT (am_cur_of (i := (26, 3, .if_icmp .le 9, (20, 0, 0), 0)) (by decide +kernel)) (by decide) hc_z
    replace hc_z := rn_aload_n (am_cur_of (i := (35, 1, .aload_n 0, (0, 0, 0), 0)) (by decide +kernel)) g0_z hc_z
    replace hc_z := rn_getI (v := rp_tb b0_z b1_z b2_z b3_z b4_z b5_z b6_z) (am_cur_of (i := (36, 3, .getfield 45, (4, 7, 416), 0)) (by decide +kernel)) (by decide +kernel) t hc_z
    replace hc_z := rn_aload_n (am_cur_of (i := (39, 1, .aload_n 0, (0, 0, 0), 0)) (by decide +kernel)) g0_z hc_z
    replace hc_z := rn_getI (v := 11) (am_cur_of (i := (40, 3, .getfield 91, (4, 11, 420), 0)) (by decide +kernel)) (by decide +kernel) kb hc_z
    replace hc_z := rn_ishr (w := (rp_tb b0_z b1_z b2_z b3_z b4_z b5_z b6_z) >>> (11 &&& 31)) (am_cur_of (i := (43, 1, .ishr, (0, 0, 0), 0)) (by decide +kernel)) rfl hc_z
    replace hc_z := rn_iconst (w := 1) (am_cur_of (i := (44, 1, .iconst 1, (0, 0, 0), 0)) (by decide +kernel)) (by decide) hc_z
    replace hc_z := rn_iand (w := ((rp_tb b0_z b1_z b2_z b3_z b4_z b5_z b6_z) >>> (11 &&& 31)) &&& 1) (am_cur_of (i := (45, 1, .iand, (0, 0, 0), 0)) (by decide +kernel)) rfl hc_z
    replace hc_z := rn_if (am_cur_of (i := (46, 3, .ifCond .eq 9, (32, 0, 0), 0)) (by decide +kernel)) hc_z
    rcases hc_z with ⟨b783_z, hc_z⟩ | ⟨b783_z, hc_z⟩
    · replace b783_z : (((rp_tb b0_z b1_z b2_z b3_z b4_z b5_z b6_z) >>> (11 &&& 31)) &&& 1) = (0 : Int32) ∧ (((rp_tb b0_z b1_z b2_z b3_z b4_z b5_z b6_z) >>> (11 &&& 31)) &&& 1).toInt = (0 : Int32).toInt := b783_z
      exact absurd (e1_z.symm.trans b783_z.1) (by decide)
    · replace b783_z : ¬ (((rp_tb b0_z b1_z b2_z b3_z b4_z b5_z b6_z) >>> (11 &&& 31)) &&& 1) = (0 : Int32) ∧ ¬ (((rp_tb b0_z b1_z b2_z b3_z b4_z b5_z b6_z) >>> (11 &&& 31)) &&& 1).toInt = (0 : Int32).toInt := b783_z
      replace hc_z := rn_aload_n (am_cur_of (i := (49, 1, .aload_n 0, (0, 0, 0), 0)) (by decide +kernel)) g0_z hc_z
      replace hc_z := rn_iconst (w := 3) (am_cur_of (i := (50, 1, .iconst 3, (0, 0, 0), 0)) (by decide +kernel)) (by decide) hc_z
      replace hc_z := rn_callV (M' := am_m29) (o := 44) (ar := [.int 3]) (rest := []) (L := lv_args 0 [.ref 44, .int 3]) (am_cur_of (i := (51, 3, .invokevirtual 108, (29, 769, 3), 0)) (by decide +kernel)) rfl rfl rfl rfl hc_z
      obtain ⟨r784_z, h785_z, q786_z, hc_z⟩ := hc_z
      obtain ⟨rfl, yq786_z⟩ := rp_fail R.2.2.2.1 q786_z
      subst yq786_z
      replace hc_z : rn _ _ _ _ [] _ _ _ := hc_z
      have K := rs_stick (w := 3) (a := 42) (by decide) (by decide) rfl (by decide) rfl rfl hc_z
      replace hm_z := rn_aload_n (am_cur_of (i := (209, 1, .aload_n 0, (0, 0, 0), 0)) (by decide +kernel)) g0m hm_z
      replace hm_z := rn_getI (v := 1) (am_cur_of (i := (210, 3, .getfield 157, (12, 8, 1392), 0)) (by decide +kernel)) (by decide +kernel) kc hm_z
      replace hm_z := rn_iconst (w := 1) (am_cur_of (i := (213, 1, .iconst 1, (0, 0, 0), 0)) (by decide +kernel)) (by decide) hm_z
      replace hm_z := rn_cmpF (am_cur_of (i := (214, 3, .if_icmp .ne 21, (97, 0, 0), 0)) (by decide +kernel)) (by decide) hm_z
      replace hm_z := rn_aload_n (am_cur_of (i := (217, 1, .aload_n 0, (0, 0, 0), 0)) (by decide +kernel)) g0m hm_z
      replace hm_z := rn_getI (v := 11) (am_cur_of (i := (218, 3, .getfield 168, (12, 9, 1393), 0)) (by decide +kernel)) (by decide +kernel) kd hm_z
      replace hm_z := rn_bipush (w := 9) (am_cur_of (i := (221, 2, .bipush 9, (0, 0, 0), 0)) (by decide +kernel)) (by decide) hm_z
      replace hm_z := rn_cmpF (am_cur_of (i := (223, 3, .if_icmp .lt 12, (97, 0, 0), 0)) (by decide +kernel)) (by decide) hm_z
      replace hm_z := rn_aload_n (am_cur_of (i := (226, 1, .aload_n 0, (0, 0, 0), 0)) (by decide +kernel)) g0m hm_z
      replace hm_z := rn_getI (v := 11) (am_cur_of (i := (227, 3, .getfield 168, (12, 9, 1393), 0)) (by decide +kernel)) (by decide +kernel) kd hm_z
      replace hm_z := rn_bipush (w := 11) (am_cur_of (i := (230, 2, .bipush 11, (0, 0, 0), 0)) (by decide +kernel)) (by decide) hm_z
      replace hm_z := rn_cmpT (am_cur_of (i := (232, 3, .if_icmp .le 9, (101, 0, 0), 0)) (by decide +kernel)) (by decide) hm_z
      replace hm_z := rn_iconst (w := 3) (am_cur_of (i := (241, 1, .iconst 3, (0, 0, 0), 0)) (by decide +kernel)) (by decide) hm_z
      replace hm_z := rn_aload_n (am_cur_of (i := (242, 1, .aload_n 0, (0, 0, 0), 0)) (by decide +kernel)) g0m hm_z
      replace hm_z := rn_getI (v := 11) (am_cur_of (i := (243, 3, .getfield 168, (12, 9, 1393), 0)) (by decide +kernel)) (by decide +kernel) kd hm_z
      replace hm_z := rn_iadd (w := 14) (am_cur_of (i := (246, 1, .iadd, (0, 0, 0), 0)) (by decide +kernel)) (by decide) hm_z
      replace hm_z := rn_bipush (w := 9) (am_cur_of (i := (247, 2, .bipush 9, (0, 0, 0), 0)) (by decide +kernel)) (by decide) hm_z
      replace hm_z := rn_isub (w := 5) (am_cur_of (i := (249, 1, .isub, (0, 0, 0), 0)) (by decide +kernel)) (by decide) hm_z
      replace hm_z := rn_istore_n (am_cur_of (i := (250, 1, .istore_n 2, (0, 0, 0), 0)) (by decide +kernel)) hm_z
      obtain ⟨_, s787_z, s788_z, g2m, hm_z⟩ := hm_z
      replace g0m := s787_z 0 _ (by decide) rfl g0m
      clear s787_z s788_z
      replace hm_z := rn_aload_n (am_cur_of (i := (251, 1, .aload_n 0, (0, 0, 0), 0)) (by decide +kernel)) g0m hm_z
      replace hm_z := rn_getR (x := 178) (am_cur_of (i := (252, 3, .getfield 54, (12, 33, 1417), 0)) (by decide +kernel)) (by decide +kernel) hm_z
      replace hm_z := rn_iload_n (am_cur_of (i := (255, 1, .iload_n 2, (0, 0, 0), 0)) (by decide +kernel)) g2m hm_z
      replace hm_z := rn_baload (N := 6) (q := 5) (v := 1) (am_cur_of (i := (256, 1, .baload, (0, 0, 0), 0)) (by decide +kernel)) (by decide +kernel) rfl (o6_z.trans (show rp_bi b6_z = 1 from by rw [hb_z]; decide)) hm_z
      obtain ⟨p789_z, hm_z⟩ := hm_z
      replace hm_z := rn_ifF (am_cur_of (i := (257, 3, .ifCond .eq 9, (117, 0, 0), 0)) (by decide +kernel)) (by decide) hm_z
      replace hm_z := rn_aload_n (am_cur_of (i := (260, 1, .aload_n 0, (0, 0, 0), 0)) (by decide +kernel)) g0m hm_z
      replace hm_z := rn_iconst (w := 3) (am_cur_of (i := (261, 1, .iconst 3, (0, 0, 0), 0)) (by decide +kernel)) (by decide) hm_z
      replace hm_z := rn_callV (M' := am_m158) (o := 164) (ar := [.int 3]) (rest := []) (L := lv_args 0 [.ref 164, .int 3]) (am_cur_of (i := (262, 3, .invokevirtual 181, (158, 1665, 3), 0)) (by decide +kernel)) rfl rfl rfl rfl hm_z
      obtain ⟨r790_z, h791_z, q792_z, hm_z⟩ := hm_z
      obtain ⟨rfl, yq792_z⟩ := rp_wrong q792_z
      subst yq792_z
      replace hm_z : rn _ _ _ _ [.int 0] _ _ _ := hm_z
      replace hm_z := rn_iret (am_cur_of (i := (265, 1, .ireturn, (0, 0, 0), 0)) (by decide +kernel)) hm_z
      obtain ⟨e793_z, e794_z⟩ := hm_z
      subst e793_z e794_z
      exact Or.inr (Or.inl ⟨rfl, _, 3, by decide, K.1, K.2.trans R5, rfl, R6⟩)
  · replace e1_z := e1_z.trans (show rp_bi b6_z = rp_bi false from by rw [hb_z])
    replace hc_z := rn_aload_n (am_cur_of (i := (4, 1, .aload_n 0, (0, 0, 0), 0)) (by decide +kernel)) g0_z hc_z
    replace hc_z := rn_getI (v := 11) (am_cur_of (i := (5, 3, .getfield 91, (4, 11, 420), 0)) (by decide +kernel)) (by decide +kernel) kb hc_z
    replace hc_z := rn_bipush (w := 9) (am_cur_of (i := (8, 2, .bipush 9, (0, 0, 0), 0)) (by decide +kernel)) (by decide) hc_z
    replace hc_z := rn_isub (w := 2) (am_cur_of (i := (10, 1, .isub, (0, 0, 0), 0)) (by decide +kernel)) (by decide) hc_z
    replace hc_z := rn_istore_n (am_cur_of (i := (11, 1, .istore_n 1, (0, 0, 0), 0)) (by decide +kernel)) hc_z
    obtain ⟨_, s795_z, s796_z, g1_z, hc_z⟩ := hc_z
    replace g0_z := s795_z 0 _ (by decide) rfl g0_z
    clear s795_z s796_z
    replace hc_z := rn_aload_n (am_cur_of (i := (12, 1, .aload_n 0, (0, 0, 0), 0)) (by decide +kernel)) g0_z hc_z
    replace hc_z := rn_getI (v := 2) (am_cur_of (i := (13, 3, .getfield 60, (4, 10, 419), 0)) (by decide +kernel)) (by decide +kernel) ka hc_z
    replace hc_z := rn_iconst (w := 2) (am_cur_of (i := (16, 1, .iconst 2, (0, 0, 0), 0)) (by decide +kernel)) (by decide) hc_z
    replace hc_z := rn_cmpF (am_cur_of (i := (17, 3, .if_icmp .ne 12, (16, 0, 0), 0)) (by decide +kernel)) (by decide) hc_z
    replace hc_z := rn_iload_n (am_cur_of (i := (20, 1, .iload_n 1, (0, 0, 0), 0)) (by decide +kernel)) g1_z hc_z
    replace hc_z := rn_ifF (am_cur_of (i := (21, 3, .ifCond .lt 8, (16, 0, 0), 0)) (by decide +kernel)) (by decide) hc_z
    replace hc_z := rn_iload_n (am_cur_of (i := (24, 1, .iload_n 1, (0, 0, 0), 0)) (by decide +kernel)) g1_z hc_z
    replace hc_z := rn_iconst (w := 2) (am_cur_of (i := (25, 1, .iconst 2, (0, 0, 0), 0)) (by decide +kernel)) (by decide) hc_z
    replace hc_z := rn_cmpT (am_cur_of (i := (26, 3, .if_icmp .le 9, (20, 0, 0), 0)) (by decide +kernel)) (by decide) hc_z
    replace hc_z := rn_aload_n (am_cur_of (i := (35, 1, .aload_n 0, (0, 0, 0), 0)) (by decide +kernel)) g0_z hc_z
    replace hc_z := rn_getI (v := rp_tb b0_z b1_z b2_z b3_z b4_z b5_z b6_z) (am_cur_of (i := (36, 3, .getfield 45, (4, 7, 416), 0)) (by decide +kernel)) (by decide +kernel) t hc_z
    replace hc_z := rn_aload_n (am_cur_of (i := (39, 1, .aload_n 0, (0, 0, 0), 0)) (by decide +kernel)) g0_z hc_z
    replace hc_z := rn_getI (v := 11) (am_cur_of (i := (40, 3, .getfield 91, (4, 11, 420), 0)) (by decide +kernel)) (by decide +kernel) kb hc_z
    replace hc_z := rn_ishr (w := (rp_tb b0_z b1_z b2_z b3_z b4_z b5_z b6_z) >>> (11 &&& 31)) (am_cur_of (i := (43, 1, .ishr, (0, 0, 0), 0)) (by decide +kernel)) rfl hc_z
    replace hc_z := rn_iconst (w := 1) (am_cur_of (i := (44, 1, .iconst 1, (0, 0, 0), 0)) (by decide +kernel)) (by decide) hc_z
    replace hc_z := rn_iand (w := ((rp_tb b0_z b1_z b2_z b3_z b4_z b5_z b6_z) >>> (11 &&& 31)) &&& 1) (am_cur_of (i := (45, 1, .iand, (0, 0, 0), 0)) (by decide +kernel)) rfl hc_z
    replace hc_z := rn_if (am_cur_of (i := (46, 3, .ifCond .eq 9, (32, 0, 0), 0)) (by decide +kernel)) hc_z
    rcases hc_z with ⟨b797_z, hc_z⟩ | ⟨b797_z, hc_z⟩
    · replace b797_z : (((rp_tb b0_z b1_z b2_z b3_z b4_z b5_z b6_z) >>> (11 &&& 31)) &&& 1) = (0 : Int32) ∧ (((rp_tb b0_z b1_z b2_z b3_z b4_z b5_z b6_z) >>> (11 &&& 31)) &&& 1).toInt = (0 : Int32).toInt := b797_z
      replace hc_z := rn_aload_n (am_cur_of (i := (55, 1, .aload_n 0, (0, 0, 0), 0)) (by decide +kernel)) g0_z hc_z
      replace hc_z := rn_dup (am_cur_of (i := (56, 1, .dup, (0, 0, 0), 0)) (by decide +kernel)) hc_z
      replace hc_z := rn_getI (v := rp_tb b0_z b1_z b2_z b3_z b4_z b5_z b6_z) (am_cur_of (i := (57, 3, .getfield 45, (4, 7, 416), 0)) (by decide +kernel)) (by decide +kernel) t hc_z
      replace hc_z := rn_iconst (w := 1) (am_cur_of (i := (60, 1, .iconst 1, (0, 0, 0), 0)) (by decide +kernel)) (by decide) hc_z
      replace hc_z := rn_aload_n (am_cur_of (i := (61, 1, .aload_n 0, (0, 0, 0), 0)) (by decide +kernel)) g0_z hc_z
      replace hc_z := rn_getI (v := 11) (am_cur_of (i := (62, 3, .getfield 91, (4, 11, 420), 0)) (by decide +kernel)) (by decide +kernel) kb hc_z
      replace hc_z := rn_ishl (w := 2048) (am_cur_of (i := (65, 1, .ishl, (0, 0, 0), 0)) (by decide +kernel)) (by decide) hc_z
      replace hc_z := rn_ior (w := (rp_tb b0_z b1_z b2_z b3_z b4_z b5_z b6_z) ||| 2048) (am_cur_of (i := (66, 1, .ior, (0, 0, 0), 0)) (by decide +kernel)) rfl hc_z
      replace hc_z := rn_put (am_cur_of (i := (67, 3, .putfield 45, (4, 7, 416), 0)) (by decide +kernel)) (by decide +kernel) hc_z
      replace hc_z := rn_aload_n (am_cur_of (i := (70, 1, .aload_n 0, (0, 0, 0), 0)) (by decide +kernel)) g0_z hc_z
      replace hc_z := rn_callV (M' := am_m19) (o := 44) (ar := []) (rest := []) (L := lv_args 0 [.ref 44]) (am_cur_of (i := (71, 3, .invokevirtual 57, (19, 727, 3), 0)) (by decide +kernel)) rfl rfl rfl rfl hc_z
      obtain ⟨r798_z, h799_z, q800_z, hc_z⟩ := hc_z
      have vo := rn_void rfl q800_z
      subst vo
      replace hm_z := rn_aload_n (am_cur_of (i := (209, 1, .aload_n 0, (0, 0, 0), 0)) (by decide +kernel)) g0m hm_z
      replace hm_z := rn_getI (v := 1) (am_cur_of (i := (210, 3, .getfield 157, (12, 8, 1392), 0)) (by decide +kernel)) (by decide +kernel) kc hm_z
      replace hm_z := rn_iconst (w := 1) (am_cur_of (i := (213, 1, .iconst 1, (0, 0, 0), 0)) (by decide +kernel)) (by decide) hm_z
      replace hm_z := rn_cmpF (am_cur_of (i := (214, 3, .if_icmp .ne 21, (97, 0, 0), 0)) (by decide +kernel)) (by decide) hm_z
      replace hm_z := rn_aload_n (am_cur_of (i := (217, 1, .aload_n 0, (0, 0, 0), 0)) (by decide +kernel)) g0m hm_z
      replace hm_z := rn_getI (v := 11) (am_cur_of (i := (218, 3, .getfield 168, (12, 9, 1393), 0)) (by decide +kernel)) (by decide +kernel) kd hm_z
      replace hm_z := rn_bipush (w := 9) (am_cur_of (i := (221, 2, .bipush 9, (0, 0, 0), 0)) (by decide +kernel)) (by decide) hm_z
      replace hm_z := rn_cmpF (am_cur_of (i := (223, 3, .if_icmp .lt 12, (97, 0, 0), 0)) (by decide +kernel)) (by decide) hm_z
      replace hm_z := rn_aload_n (am_cur_of (i := (226, 1, .aload_n 0, (0, 0, 0), 0)) (by decide +kernel)) g0m hm_z
      replace hm_z := rn_getI (v := 11) (am_cur_of (i := (227, 3, .getfield 168, (12, 9, 1393), 0)) (by decide +kernel)) (by decide +kernel) kd hm_z
      replace hm_z := rn_bipush (w := 11) (am_cur_of (i := (230, 2, .bipush 11, (0, 0, 0), 0)) (by decide +kernel)) (by decide) hm_z
      replace hm_z := rn_cmpT (am_cur_of (i := (232, 3, .if_icmp .le 9, (101, 0, 0), 0)) (by decide +kernel)) (by decide) hm_z
      replace hm_z := rn_iconst (w := 3) (am_cur_of (i := (241, 1, .iconst 3, (0, 0, 0), 0)) (by decide +kernel)) (by decide) hm_z
      replace hm_z := rn_aload_n (am_cur_of (i := (242, 1, .aload_n 0, (0, 0, 0), 0)) (by decide +kernel)) g0m hm_z
      replace hm_z := rn_getI (v := 11) (am_cur_of (i := (243, 3, .getfield 168, (12, 9, 1393), 0)) (by decide +kernel)) (by decide +kernel) kd hm_z
      replace hm_z := rn_iadd (w := 14) (am_cur_of (i := (246, 1, .iadd, (0, 0, 0), 0)) (by decide +kernel)) (by decide) hm_z
      replace hm_z := rn_bipush (w := 9) (am_cur_of (i := (247, 2, .bipush 9, (0, 0, 0), 0)) (by decide +kernel)) (by decide) hm_z
      replace hm_z := rn_isub (w := 5) (am_cur_of (i := (249, 1, .isub, (0, 0, 0), 0)) (by decide +kernel)) (by decide) hm_z
      replace hm_z := rn_istore_n (am_cur_of (i := (250, 1, .istore_n 2, (0, 0, 0), 0)) (by decide +kernel)) hm_z
      obtain ⟨_, s801_z, s802_z, g2m, hm_z⟩ := hm_z
      replace g0m := s801_z 0 _ (by decide) rfl g0m
      clear s801_z s802_z
      replace hm_z := rn_aload_n (am_cur_of (i := (251, 1, .aload_n 0, (0, 0, 0), 0)) (by decide +kernel)) g0m hm_z
      replace hm_z := rn_getR (x := 178) (am_cur_of (i := (252, 3, .getfield 54, (12, 33, 1417), 0)) (by decide +kernel)) (by decide +kernel) hm_z
      replace hm_z := rn_iload_n (am_cur_of (i := (255, 1, .iload_n 2, (0, 0, 0), 0)) (by decide +kernel)) g2m hm_z
      replace hm_z := rn_baload (N := 6) (q := 5) (v := 0) (am_cur_of (i := (256, 1, .baload, (0, 0, 0), 0)) (by decide +kernel)) (by decide +kernel) rfl (o6_z.trans (show rp_bi b6_z = 0 from by rw [hb_z]; decide)) hm_z
      obtain ⟨p803_z, hm_z⟩ := hm_z
      replace hm_z := rn_ifT (am_cur_of (i := (257, 3, .ifCond .eq 9, (117, 0, 0), 0)) (by decide +kernel)) (by decide) hm_z
      replace hm_z := rn_aload_n (am_cur_of (i := (266, 1, .aload_n 0, (0, 0, 0), 0)) (by decide +kernel)) g0m hm_z
      replace hm_z := rn_getR (x := 178) (am_cur_of (i := (267, 3, .getfield 54, (12, 33, 1417), 0)) (by decide +kernel)) (by decide +kernel) hm_z
      replace hm_z := rn_iload_n (am_cur_of (i := (270, 1, .iload_n 2, (0, 0, 0), 0)) (by decide +kernel)) g2m hm_z
      replace hm_z := rn_iconst (w := 1) (am_cur_of (i := (271, 1, .iconst 1, (0, 0, 0), 0)) (by decide +kernel)) (by decide) hm_z
      replace hm_z := rn_bastore (N := 6) (q := 5) (am_cur_of (i := (272, 1, .bastore, (0, 0, 0), 0)) (by decide +kernel)) (by decide +kernel) rfl hm_z
      obtain ⟨p804_z, hm_z⟩ := hm_z
      replace hm_z := rn_aload_n (am_cur_of (i := (273, 1, .aload_n 0, (0, 0, 0), 0)) (by decide +kernel)) g0m hm_z
      replace hm_z := rn_callV (M' := am_m151) (o := 164) (ar := []) (rest := []) (L := lv_args 0 [.ref 164]) (am_cur_of (i := (274, 3, .invokevirtual 191, (151, 1636, 3), 0)) (by decide +kernel)) rfl rfl rfl rfl hm_z
      obtain ⟨r805_z, h806_z, q807_z, hm_z⟩ := hm_z
      have vo := rn_void rfl q807_z
      subst vo
      obtain ⟨-, -, x3_z, p3_z, R3, le3_z, t5_z, t6_z⟩ := pr_tok (rq0_lw (rq_0 R)) q800_z q807_z
      have A2 : rp 23 (am_up h 44 7 (.int ((rp_tb b0_z b1_z b2_z b3_z b4_z b5_z b6_z) ||| 2048))) (am_up g 178 5 (.int 1)) := ry_p23 A (ab_Fr_up rfl ab_Fr_refl) (ab_Fr_up rfl ab_Fr_refl) A.2.2.2.2.2.1.1 A.2.2.2.2.2.1.2.1 A.2.2.2.2.2.1.2.2
      have A3 := rp_x (by decide) A2 (rx_C_f t5_z) (rx_M_f t6_z)
      have B3 : rp_t h799_z h806_z := ⟨b0_z, b1_z, b2_z, b3_z, b4_z, b5_z, true, (rg_v_fr t5_z (by decide)).trans e2_z, (rg_v_fr t6_z (rg_v_in (by decide) _)).trans o0_z, (rg_v_fr t6_z (rg_v_in (by decide) _)).trans o1_z, (rg_v_fr t6_z (rg_v_in (by decide) _)).trans o2_z, (rg_v_fr t6_z (rg_v_in (by decide) _)).trans o3_z, (rg_v_fr t6_z (rg_v_in (by decide) _)).trans o4_z, (rg_v_fr t6_z (rg_v_in (by decide) _)).trans o5_z, (rg_v_fr t6_z (rg_v_in (by decide) _)).trans rfl⟩
      replace hm_z : rn _ _ _ _ [] _ _ _ := hm_z
      replace hc_z : rn _ _ _ _ [] _ _ _ := hc_z
      replace hc_z := rn_aload_n (am_cur_of (i := (74, 1, .aload_n 0, (0, 0, 0), 0)) (by decide +kernel)) g0_z hc_z
      replace hc_z := rn_getM (x := 23) (am_cur_of (i := (75, 3, .getfield 25, (4, 6, 415), 0)) (by decide +kernel)) R3.2.2.1 hc_z
      replace hc_z := rn_getR (x := 32) (am_cur_of (i := (78, 3, .getfield 242, (1, 19, 316), 0)) (by decide +kernel)) (by decide +kernel) hc_z
      replace hc_z := rn_iload_n (am_cur_of (i := (81, 1, .iload_n 1, (0, 0, 0), 0)) (by decide +kernel)) g1_z hc_z
      replace hc_z := rn_callV (M' := am_m43) (o := 32) (ar := [.int 2]) (rest := []) (L := lv_args 0 [.ref 32, .int 2]) (am_cur_of (i := (82, 3, .invokevirtual 246, (43, 826, 3), 0)) (by decide +kernel)) rfl rfl rfl rfl hc_z
      obtain ⟨r808_z, h809_z, q810_z, hc_z⟩ := hc_z
      rcases rs_beg23 q810_z with ⟨rfl, y811_z⟩
      replace y811_z := y811_z.symm
      subst y811_z
      replace hc_z : rn _ _ _ _ [] _ _ _ := hc_z
      replace hc_z := rn_aload_n (am_cur_of (i := (85, 1, .aload_n 0, (0, 0, 0), 0)) (by decide +kernel)) g0_z hc_z
      replace hc_z := rn_iconst (w := 0) (am_cur_of (i := (86, 1, .iconst 0, (0, 0, 0), 0)) (by decide +kernel)) (by decide) hc_z
      replace hc_z := rn_put (am_cur_of (i := (87, 3, .putfield 251, (4, 13, 422), 0)) (by decide +kernel)) (by decide +kernel) hc_z
      replace hc_z := rn_aload_n (am_cur_of (i := (90, 1, .aload_n 0, (0, 0, 0), 0)) (by decide +kernel)) g0_z hc_z
      replace hc_z := rn_iconst (w := 0) (am_cur_of (i := (91, 1, .iconst 0, (0, 0, 0), 0)) (by decide +kernel)) (by decide) hc_z
      replace hc_z := rn_put (am_cur_of (i := (92, 3, .putfield 254, (4, 14, 423), 0)) (by decide +kernel)) (by decide +kernel) hc_z
      replace hc_z := rn_iconst (w := 0) (am_cur_of (i := (95, 1, .iconst 0, (0, 0, 0), 0)) (by decide +kernel)) (by decide) hc_z
      replace hc_z := rn_istore_n (am_cur_of (i := (96, 1, .istore_n 2, (0, 0, 0), 0)) (by decide +kernel)) hc_z
      obtain ⟨_, s812_z, s813_z, g2_z, hc_z⟩ := hc_z
      replace g0_z := s812_z 0 _ (by decide) rfl g0_z
      replace g1_z := s812_z 1 _ (by decide) rfl g1_z
      clear s812_z s813_z
      replace hc_z := rn_iconst (w := 0) (am_cur_of (i := (97, 1, .iconst 0, (0, 0, 0), 0)) (by decide +kernel)) (by decide) hc_z
      replace hc_z := rn_istore_n (am_cur_of (i := (98, 1, .istore_n 3, (0, 0, 0), 0)) (by decide +kernel)) hc_z
      obtain ⟨_, s814_z, s815_z, g3_z, hc_z⟩ := hc_z
      replace g0_z := s814_z 0 _ (by decide) rfl g0_z
      replace g1_z := s814_z 1 _ (by decide) rfl g1_z
      replace g2_z := s814_z 2 _ (by decide) rfl g2_z
      clear s814_z s815_z
      replace hm_z := rn_aload_n (am_cur_of (i := (277, 1, .aload_n 0, (0, 0, 0), 0)) (by decide +kernel)) g0m hm_z
      replace hm_z := rn_getR (x := 179) (am_cur_of (i := (278, 3, .getfield 57, (12, 34, 1418), 0)) (by decide +kernel)) (by decide +kernel) hm_z
      replace hm_z := rn_iload_n (am_cur_of (i := (281, 1, .iload_n 2, (0, 0, 0), 0)) (by decide +kernel)) g2m hm_z
      replace hm_z := rn_aload_n (am_cur_of (i := (282, 1, .aload_n 0, (0, 0, 0), 0)) (by decide +kernel)) g0m hm_z
      replace hm_z := rn_getI (v := rg_v h806_z 164 21) (am_cur_of (i := (283, 3, .getfield 213, (12, 21, 1405), 0)) (by decide +kernel)) (by decide +kernel) rfl hm_z
      replace hm_z := rn_iastore (N := 6) (q := 5) (am_cur_of (i := (286, 1, .iastore, (0, 0, 0), 0)) (by decide +kernel)) (by decide +kernel) rfl hm_z
      obtain ⟨p816_z, hm_z⟩ := hm_z
      replace hm_z := rn_aload_n (am_cur_of (i := (287, 1, .aload_n 0, (0, 0, 0), 0)) (by decide +kernel)) g0m hm_z
      replace hm_z := rn_callV (M' := am_m170) (o := 164) (ar := []) (rest := []) (L := lv_args 0 [.ref 164]) (am_cur_of (i := (288, 3, .invokevirtual 271, (170, 1711, 3), 0)) (by decide +kernel)) rfl rfl rfl rfl hm_z
      obtain ⟨r817_z, h818_z, q819_z, hm_z⟩ := hm_z
      have g0q : am_get (lv_args 0 [.ref 164]) 0 = some (.ref 164) := rfl
      replace q819_z := rn_aload_n (am_cur_of (i := (0, 1, .aload_n 0, (0, 0, 0), 0)) (by decide +kernel)) g0q q819_z
      replace q819_z := rn_iconst (w := 0) (am_cur_of (i := (1, 1, .iconst 0, (0, 0, 0), 0)) (by decide +kernel)) (by decide) q819_z
      replace q819_z := rn_put (am_cur_of (i := (2, 3, .putfield 280, (12, 41, 1425), 0)) (by decide +kernel)) (by decide +kernel) q819_z
      replace q819_z := rn_aload_n (am_cur_of (i := (5, 1, .aload_n 0, (0, 0, 0), 0)) (by decide +kernel)) g0q q819_z
      replace q819_z := rn_iconst (w := 0) (am_cur_of (i := (6, 1, .iconst 0, (0, 0, 0), 0)) (by decide +kernel)) (by decide) q819_z
      replace q819_z := rn_put (am_cur_of (i := (7, 3, .putfield 277, (12, 42, 1426), 0)) (by decide +kernel)) (by decide +kernel) q819_z
      replace q819_z := rn_aload_n (am_cur_of (i := (10, 1, .aload_n 0, (0, 0, 0), 0)) (by decide +kernel)) g0q q819_z
      replace q819_z := rn_iconst (w := 0) (am_cur_of (i := (11, 1, .iconst 0, (0, 0, 0), 0)) (by decide +kernel)) (by decide) q819_z
      replace q819_z := rn_put (am_cur_of (i := (12, 3, .putfield 295, (12, 43, 1427), 0)) (by decide +kernel)) (by decide +kernel) q819_z
      replace q819_z := rn_aload_n (am_cur_of (i := (15, 1, .aload_n 0, (0, 0, 0), 0)) (by decide +kernel)) g0q q819_z
      replace q819_z := rn_iconst (w := 1) (am_cur_of (i := (16, 1, .iconst 1, (0, 0, 0), 0)) (by decide +kernel)) (by decide) q819_z
      replace q819_z := rn_put (am_cur_of (i := (17, 3, .putfield 315, (12, 45, 1429), 0)) (by decide +kernel)) (by decide +kernel) q819_z
      replace q819_z := rn_aload_n (am_cur_of (i := (20, 1, .aload_n 0, (0, 0, 0), 0)) (by decide +kernel)) g0q q819_z
      replace q819_z := rn_iconst (w := 1) (am_cur_of (i := (21, 1, .iconst 1, (0, 0, 0), 0)) (by decide +kernel)) (by decide) q819_z
      replace q819_z := rn_put (am_cur_of (i := (22, 3, .putfield 302, (12, 46, 1430), 0)) (by decide +kernel)) (by decide +kernel) q819_z
      have FC : ab_Fr (ry_MC23.drop 1) h799_z (am_up (am_up (am_up h799_z 35 ((2 : Int32).toNatClampNeg) (.int (rg_v h799_z 32 1))) 44 13 (.int 0)) 44 14 (.int 0)) := ab_Fr_up rfl (ab_Fr_up rfl (ab_Fr_up rfl ab_Fr_refl))
      have FM : ab_Fr ry_MT h806_z (am_up (am_up (am_up (am_up (am_up (am_up h806_z 179 5 (.int (rg_v h806_z 164 21))) 164 41 (.int 0)) 164 42 (.int 0)) 164 43 (.int 0)) 164 45 (.int 1)) 164 46 (.int 1)) := ab_Fr_up rfl (ab_Fr_up rfl (ab_Fr_up rfl (ab_Fr_up rfl (ab_Fr_up rfl (ab_Fr_up rfl ab_Fr_refl)))))
      have FM' : ab_Fr ry_MM h806_z (am_up (am_up (am_up (am_up (am_up (am_up h806_z 179 5 (.int (rg_v h806_z 164 21))) 164 41 (.int 0)) 164 42 (.int 0)) 164 43 (.int 0)) 164 45 (.int 1)) 164 46 (.int 1)) := ab_Fr_sub (by decide) FM
      have R4 := ry_rq23 R3 FC FM'
      have A4 := ry_p23 A3 (ab_Fr_sub (by decide) FC) FM' A3.2.2.2.2.2.1.1 A3.2.2.2.2.2.1.2.1 A3.2.2.2.2.2.1.2.2
      have B4 := ry_t23 B3 FC FM
      have kk : 0 ≤ (rg_v (am_up (am_up (am_up h799_z 35 ((2 : Int32).toNatClampNeg) (.int (rg_v h799_z 32 1))) 44 13 (.int 0)) 44 14 (.int 0)) 32 0).toInt := A4.2.2.2.2.2.1.2.1
      have Z4 : rs 23 (am_up (am_up (am_up h799_z 35 ((2 : Int32).toNatClampNeg) (.int (rg_v h799_z 32 1))) 44 13 (.int 0)) 44 14 (.int 0)) (am_up (am_up (am_up (am_up (am_up (am_up h806_z 179 5 (.int (rg_v h806_z 164 21))) 164 41 (.int 0)) 164 42 (.int 0)) 164 43 (.int 0)) 164 45 (.int 1)) 164 46 (.int 1)) := ⟨0, 0, rfl, rfl, by decide, rfl, rfl, by decide, by decide, (by rw [show (0 : Int32).toInt = 0 by decide]; show (0 : Int) ≤ (rg_v (am_up (am_up (am_up h799_z 35 ((2 : Int32).toNatClampNeg) (.int (rg_v h799_z 32 1))) 44 13 (.int 0)) 44 14 (.int 0)) 32 0).toInt + 0; omega), fun i hi_z => absurd hi_z (by rw [show (0 : Int32).toInt = 0 by decide]; omega), (by rw [show (0 : Int32).toNatClampNeg = 0 by decide, show (0 : Int32).toInt = 0 by decide]; rfl)⟩
      have R4p := R4.2.2.2.2.2.2.1
      have R4x := R4.2.2.2.2.2.2.2.1
      have Q := lw_loop23 (lw := 2) (x0_z := p3_z) _ 0 0 x3_z p3_z _ _ _ _ _ (by decide) (by rw [show (0 : Int32).toInt = 0 by decide]; exact R4p) (Int.le_refl _) R4 A4 B4 Z4 (Or.inl ⟨rfl, rfl, rfl⟩) g0_z g1_z g2_z g3_z g0q hc_z q819_z
      rcases Q with ⟨rfl, x5_z, p5_z, R5, le5_z, A5, B5⟩ | ⟨rfl, p5_z, wv, v0_z, f1_z, f2_z, f3_z, f4_z⟩ | ⟨rfl, p5_z, u1_z, u2_z, u3_z, u4_z, u5_z⟩
      · replace hm_z : rn _ _ _ _ [.int 1] _ _ _ := hm_z
        replace hm_z := rn_istore_n (am_cur_of (i := (291, 1, .istore_n 1, (0, 0, 0), 0)) (by decide +kernel)) hm_z
        obtain ⟨_, s820_z, s821_z, g1m, hm_z⟩ := hm_z
        replace g0m := s820_z 0 _ (by decide) rfl g0m
        replace g2m := s820_z 2 _ (by decide) rfl g2m
        clear s820_z s821_z
        replace hm_z := rn_aload_n (am_cur_of (i := (292, 1, .aload_n 0, (0, 0, 0), 0)) (by decide +kernel)) g0m hm_z
        replace hm_z := rn_getR (x := 180) (am_cur_of (i := (293, 3, .getfield 60, (12, 35, 1419), 0)) (by decide +kernel)) (by decide +kernel) hm_z
        replace hm_z := rn_iload_n (am_cur_of (i := (296, 1, .iload_n 2, (0, 0, 0), 0)) (by decide +kernel)) g2m hm_z
        replace hm_z := rn_aload_n (am_cur_of (i := (297, 1, .aload_n 0, (0, 0, 0), 0)) (by decide +kernel)) g0m hm_z
        replace hm_z := rn_getI (v := rg_v h818_z 164 21) (am_cur_of (i := (298, 3, .getfield 213, (12, 21, 1405), 0)) (by decide +kernel)) (by decide +kernel) rfl hm_z
        replace hm_z := rn_iastore (N := 6) (q := 5) (am_cur_of (i := (301, 1, .iastore, (0, 0, 0), 0)) (by decide +kernel)) (by decide +kernel) rfl hm_z
        obtain ⟨p822_z, hm_z⟩ := hm_z
        have EM : ab_Fr ry_MT h818_z (am_up h818_z 180 5 (.int (rg_v h818_z 164 21))) := ab_Fr_up rfl ab_Fr_refl
        exact Or.inl ⟨x5_z, p5_z, _, _, _, ry_rq23 R5 ab_Fr_refl (ab_Fr_sub (by decide) EM), by omega, ry_p23 A5 ab_Fr_refl (ab_Fr_sub (by decide) EM) A5.2.2.2.2.2.1.1 A5.2.2.2.2.2.1.2.1 A5.2.2.2.2.2.1.2.2, ry_t23 B5 ab_Fr_refl EM, g0m, g1m, hm_z⟩
      · replace hm_z : rn _ _ _ _ [.int 0] _ _ _ := hm_z
        replace hm_z := rn_istore_n (am_cur_of (i := (291, 1, .istore_n 1, (0, 0, 0), 0)) (by decide +kernel)) hm_z
        obtain ⟨_, s823_z, s824_z, g1m, hm_z⟩ := hm_z
        replace g0m := s823_z 0 _ (by decide) rfl g0m
        replace g2m := s823_z 2 _ (by decide) rfl g2m
        clear s823_z s824_z
        replace hm_z := rn_aload_n (am_cur_of (i := (292, 1, .aload_n 0, (0, 0, 0), 0)) (by decide +kernel)) g0m hm_z
        replace hm_z := rn_getR (x := 180) (am_cur_of (i := (293, 3, .getfield 60, (12, 35, 1419), 0)) (by decide +kernel)) (by decide +kernel) hm_z
        replace hm_z := rn_iload_n (am_cur_of (i := (296, 1, .iload_n 2, (0, 0, 0), 0)) (by decide +kernel)) g2m hm_z
        replace hm_z := rn_aload_n (am_cur_of (i := (297, 1, .aload_n 0, (0, 0, 0), 0)) (by decide +kernel)) g0m hm_z
        replace hm_z := rn_getI (v := rg_v h818_z 164 21) (am_cur_of (i := (298, 3, .getfield 213, (12, 21, 1405), 0)) (by decide +kernel)) (by decide +kernel) rfl hm_z
        replace hm_z := rn_iastore (N := 6) (q := 5) (am_cur_of (i := (301, 1, .iastore, (0, 0, 0), 0)) (by decide +kernel)) (by decide +kernel) rfl hm_z
        obtain ⟨p825_z, hm_z⟩ := hm_z
        replace hm_z := rn_iload_n (am_cur_of (i := (302, 1, .iload_n 1, (0, 0, 0), 0)) (by decide +kernel)) g1m hm_z
        replace hm_z := rn_ifF (am_cur_of (i := (303, 3, .ifCond .ne 5, (143, 0, 0), 0)) (by decide +kernel)) (by decide) hm_z
        replace hm_z := rn_iconst (w := 0) (am_cur_of (i := (306, 1, .iconst 0, (0, 0, 0), 0)) (by decide +kernel)) (by decide) hm_z
        replace hm_z := rn_iret (am_cur_of (i := (307, 1, .ireturn, (0, 0, 0), 0)) (by decide +kernel)) hm_z
        obtain ⟨e826_z, e827_z⟩ := hm_z
        subst e826_z e827_z
        exact Or.inr (Or.inl ⟨rfl, p5_z, wv, v0_z, f1_z, f2_z, f3_z, f4_z⟩)
      · replace hm_z : rn _ _ _ _ [.int 0] _ _ _ := hm_z
        replace hm_z := rn_istore_n (am_cur_of (i := (291, 1, .istore_n 1, (0, 0, 0), 0)) (by decide +kernel)) hm_z
        obtain ⟨_, s828_z, s829_z, g1m, hm_z⟩ := hm_z
        replace g0m := s828_z 0 _ (by decide) rfl g0m
        replace g2m := s828_z 2 _ (by decide) rfl g2m
        clear s828_z s829_z
        replace hm_z := rn_aload_n (am_cur_of (i := (292, 1, .aload_n 0, (0, 0, 0), 0)) (by decide +kernel)) g0m hm_z
        replace hm_z := rn_getR (x := 180) (am_cur_of (i := (293, 3, .getfield 60, (12, 35, 1419), 0)) (by decide +kernel)) (by decide +kernel) hm_z
        replace hm_z := rn_iload_n (am_cur_of (i := (296, 1, .iload_n 2, (0, 0, 0), 0)) (by decide +kernel)) g2m hm_z
        replace hm_z := rn_aload_n (am_cur_of (i := (297, 1, .aload_n 0, (0, 0, 0), 0)) (by decide +kernel)) g0m hm_z
        replace hm_z := rn_getI (v := rg_v h818_z 164 21) (am_cur_of (i := (298, 3, .getfield 213, (12, 21, 1405), 0)) (by decide +kernel)) (by decide +kernel) rfl hm_z
        replace hm_z := rn_iastore (N := 6) (q := 5) (am_cur_of (i := (301, 1, .iastore, (0, 0, 0), 0)) (by decide +kernel)) (by decide +kernel) rfl hm_z
        obtain ⟨p830_z, hm_z⟩ := hm_z
        replace hm_z := rn_iload_n (am_cur_of (i := (302, 1, .iload_n 1, (0, 0, 0), 0)) (by decide +kernel)) g1m hm_z
        replace hm_z := rn_ifF (am_cur_of (i := (303, 3, .ifCond .ne 5, (143, 0, 0), 0)) (by decide +kernel)) (by decide) hm_z
        replace hm_z := rn_iconst (w := 0) (am_cur_of (i := (306, 1, .iconst 0, (0, 0, 0), 0)) (by decide +kernel)) (by decide) hm_z
        replace hm_z := rn_iret (am_cur_of (i := (307, 1, .ireturn, (0, 0, 0), 0)) (by decide +kernel)) hm_z
        obtain ⟨e831_z, e832_z⟩ := hm_z
        subst e831_z e832_z
        exact Or.inr (Or.inr ⟨rfl, p5_z, u1_z, u2_z, u3_z, u4_z, u5_z⟩)
    · replace b797_z : ¬ (((rp_tb b0_z b1_z b2_z b3_z b4_z b5_z b6_z) >>> (11 &&& 31)) &&& 1) = (0 : Int32) ∧ ¬ (((rp_tb b0_z b1_z b2_z b3_z b4_z b5_z b6_z) >>> (11 &&& 31)) &&& 1).toInt = (0 : Int32).toInt := b797_z
      exact absurd (e1_z.trans (by decide)) b797_z.1
theorem pl_law12_23 {T : Nat → Int32} {S x p : Int32} {n n' : Nat} {h h' g g' : am_H} {r r' : Option Value} {ls ls2_z : am_L} (R : rq T S x p 23 h g) (A : rp 23 h g) (B : rp_t h g) (ka : rg_v h 44 10 = 2) (kb : rg_v h 44 11 = 12) (kc : rg_v g 164 8 = 1) (kd : rg_v g 164 9 = 15) (g0_z : am_get ls 0 = some (.ref 44)) (g0m : am_get ls2_z 0 = some (.ref 164)) (hc_z : rn n am_m42 2 ls [] h r h') (hm_z : rn n' am_m157 85 ls2_z [] g r' g') : pm_Q T S x 23 h' g' r' := by
  have R5 := R.2.2.2.2.1
  have R6 := R.2.2.2.2.2.1
  replace hc_z := rn_aload_n (am_cur_of (i := (4, 1, .aload_n 0, (0, 0, 0), 0)) (by decide +kernel)) g0_z hc_z
  replace hc_z := rn_getI (v := 12) (am_cur_of (i := (5, 3, .getfield 91, (4, 11, 420), 0)) (by decide +kernel)) (by decide +kernel) kb hc_z
  replace hc_z := rn_bipush (w := 9) (am_cur_of (i := (8, 2, .bipush 9, (0, 0, 0), 0)) (by decide +kernel)) (by decide) hc_z
  replace hc_z := rn_isub (w := 3) (am_cur_of (i := (10, 1, .isub, (0, 0, 0), 0)) (by decide +kernel)) (by decide) hc_z
  replace hc_z := rn_istore_n (am_cur_of (i := (11, 1, .istore_n 1, (0, 0, 0), 0)) (by decide +kernel)) hc_z
  obtain ⟨_, s833_z, s834_z, g1_z, hc_z⟩ := hc_z
  replace g0_z := s833_z 0 _ (by decide) rfl g0_z
  clear s833_z s834_z
  replace hc_z := rn_aload_n (am_cur_of (i := (12, 1, .aload_n 0, (0, 0, 0), 0)) (by decide +kernel)) g0_z hc_z
  replace hc_z := rn_getI (v := 2) (am_cur_of (i := (13, 3, .getfield 60, (4, 10, 419), 0)) (by decide +kernel)) (by decide +kernel) ka hc_z
  replace hc_z := rn_iconst (w := 2) (am_cur_of (i := (16, 1, .iconst 2, (0, 0, 0), 0)) (by decide +kernel)) (by decide) hc_z
  replace hc_z := rn_cmpF (am_cur_of (i := (17, 3, .if_icmp .ne 12, (16, 0, 0), 0)) (by decide +kernel)) (by decide) hc_z
  replace hc_z := rn_iload_n (am_cur_of (i := (20, 1, .iload_n 1, (0, 0, 0), 0)) (by decide +kernel)) g1_z hc_z
  replace hc_z := rn_ifF (am_cur_of (i := (21, 3, .ifCond .lt 8, (16, 0, 0), 0)) (by decide +kernel)) (by decide) hc_z
  replace hc_z := rn_iload_n (am_cur_of (i := (24, 1, .iload_n 1, (0, 0, 0), 0)) (by decide +kernel)) g1_z hc_z
  replace hc_z := rn_iconst (w := 2) (am_cur_of (i := (25, 1, .iconst 2, (0, 0, 0), 0)) (by decide +kernel)) (by decide) hc_z
  replace hc_z := rn_cmpF (am_cur_of (i := (26, 3, .if_icmp .le 9, (20, 0, 0), 0)) (by decide +kernel)) (by decide) hc_z
  replace hc_z := rn_aload_n (am_cur_of (i := (29, 1, .aload_n 0, (0, 0, 0), 0)) (by decide +kernel)) g0_z hc_z
  replace hc_z := rn_iconst (w := 1) (am_cur_of (i := (30, 1, .iconst 1, (0, 0, 0), 0)) (by decide +kernel)) (by decide) hc_z
  replace hc_z := rn_callV (M' := am_m29) (o := 44) (ar := [.int 1]) (rest := []) (L := lv_args 0 [.ref 44, .int 1]) (am_cur_of (i := (31, 3, .invokevirtual 108, (29, 769, 3), 0)) (by decide +kernel)) rfl rfl rfl rfl hc_z
  obtain ⟨r835_z, h836_z, q837_z, hc_z⟩ := hc_z
  obtain ⟨rfl, yq837_z⟩ := rp_fail R.2.2.2.1 q837_z
  subst yq837_z
  replace hc_z : rn _ _ _ _ [] _ _ _ := hc_z
  have K := rs_stick (w := 1) (a := 42) (by decide) (by decide) rfl (by decide) rfl rfl hc_z
  replace hm_z := rn_aload_n (am_cur_of (i := (209, 1, .aload_n 0, (0, 0, 0), 0)) (by decide +kernel)) g0m hm_z
  replace hm_z := rn_getI (v := 1) (am_cur_of (i := (210, 3, .getfield 157, (12, 8, 1392), 0)) (by decide +kernel)) (by decide +kernel) kc hm_z
  replace hm_z := rn_iconst (w := 1) (am_cur_of (i := (213, 1, .iconst 1, (0, 0, 0), 0)) (by decide +kernel)) (by decide) hm_z
  replace hm_z := rn_cmpF (am_cur_of (i := (214, 3, .if_icmp .ne 21, (97, 0, 0), 0)) (by decide +kernel)) (by decide) hm_z
  replace hm_z := rn_aload_n (am_cur_of (i := (217, 1, .aload_n 0, (0, 0, 0), 0)) (by decide +kernel)) g0m hm_z
  replace hm_z := rn_getI (v := 15) (am_cur_of (i := (218, 3, .getfield 168, (12, 9, 1393), 0)) (by decide +kernel)) (by decide +kernel) kd hm_z
  replace hm_z := rn_bipush (w := 9) (am_cur_of (i := (221, 2, .bipush 9, (0, 0, 0), 0)) (by decide +kernel)) (by decide) hm_z
  replace hm_z := rn_cmpF (am_cur_of (i := (223, 3, .if_icmp .lt 12, (97, 0, 0), 0)) (by decide +kernel)) (by decide) hm_z
  replace hm_z := rn_aload_n (am_cur_of (i := (226, 1, .aload_n 0, (0, 0, 0), 0)) (by decide +kernel)) g0m hm_z
  replace hm_z := rn_getI (v := 15) (am_cur_of (i := (227, 3, .getfield 168, (12, 9, 1393), 0)) (by decide +kernel)) (by decide +kernel) kd hm_z
  replace hm_z := rn_bipush (w := 11) (am_cur_of (i := (230, 2, .bipush 11, (0, 0, 0), 0)) (by decide +kernel)) (by decide) hm_z
  replace hm_z := rn_cmpF (am_cur_of (i := (232, 3, .if_icmp .le 9, (101, 0, 0), 0)) (by decide +kernel)) (by decide) hm_z
  replace hm_z := rn_aload_n (am_cur_of (i := (235, 1, .aload_n 0, (0, 0, 0), 0)) (by decide +kernel)) g0m hm_z
  replace hm_z := rn_iconst (w := 1) (am_cur_of (i := (236, 1, .iconst 1, (0, 0, 0), 0)) (by decide +kernel)) (by decide) hm_z
  replace hm_z := rn_callV (M' := am_m158) (o := 164) (ar := [.int 1]) (rest := []) (L := lv_args 0 [.ref 164, .int 1]) (am_cur_of (i := (237, 3, .invokevirtual 181, (158, 1665, 3), 0)) (by decide +kernel)) rfl rfl rfl rfl hm_z
  obtain ⟨r838_z, h839_z, q840_z, hm_z⟩ := hm_z
  obtain ⟨rfl, yq840_z⟩ := rp_wrong q840_z
  subst yq840_z
  replace hm_z : rn _ _ _ _ [.int 0] _ _ _ := hm_z
  replace hm_z := rn_iret (am_cur_of (i := (240, 1, .ireturn, (0, 0, 0), 0)) (by decide +kernel)) hm_z
  obtain ⟨e841_z, e842_z⟩ := hm_z
  subst e841_z e842_z
  exact Or.inr (Or.inl ⟨rfl, _, 1, by decide, K.1, K.2.trans R5, rfl, R6⟩)
theorem pl_law13_23 {T : Nat → Int32} {S x p : Int32} {n n' : Nat} {h h' g g' : am_H} {r r' : Option Value} {ls ls2_z : am_L} (R : rq T S x p 23 h g) (A : rp 23 h g) (B : rp_t h g) (ka : rg_v h 44 10 = 2) (kb : rg_v h 44 11 = 13) (kc : rg_v g 164 8 = 1) (kd : rg_v g 164 9 = 16) (g0_z : am_get ls 0 = some (.ref 44)) (g0m : am_get ls2_z 0 = some (.ref 164)) (hc_z : rn n am_m42 2 ls [] h r h') (hm_z : rn n' am_m157 85 ls2_z [] g r' g') : pm_Q T S x 23 h' g' r' := by
  have R5 := R.2.2.2.2.1
  have R6 := R.2.2.2.2.2.1
  replace hc_z := rn_aload_n (am_cur_of (i := (4, 1, .aload_n 0, (0, 0, 0), 0)) (by decide +kernel)) g0_z hc_z
  replace hc_z := rn_getI (v := 13) (am_cur_of (i := (5, 3, .getfield 91, (4, 11, 420), 0)) (by decide +kernel)) (by decide +kernel) kb hc_z
  replace hc_z := rn_bipush (w := 9) (am_cur_of (i := (8, 2, .bipush 9, (0, 0, 0), 0)) (by decide +kernel)) (by decide) hc_z
  replace hc_z := rn_isub (w := 4) (am_cur_of (i := (10, 1, .isub, (0, 0, 0), 0)) (by decide +kernel)) (by decide) hc_z
  replace hc_z := rn_istore_n (am_cur_of (i := (11, 1, .istore_n 1, (0, 0, 0), 0)) (by decide +kernel)) hc_z
  obtain ⟨_, s843_z, s844_z, g1_z, hc_z⟩ := hc_z
  replace g0_z := s843_z 0 _ (by decide) rfl g0_z
  clear s843_z s844_z
  replace hc_z := rn_aload_n (am_cur_of (i := (12, 1, .aload_n 0, (0, 0, 0), 0)) (by decide +kernel)) g0_z hc_z
  replace hc_z := rn_getI (v := 2) (am_cur_of (i := (13, 3, .getfield 60, (4, 10, 419), 0)) (by decide +kernel)) (by decide +kernel) ka hc_z
  replace hc_z := rn_iconst (w := 2) (am_cur_of (i := (16, 1, .iconst 2, (0, 0, 0), 0)) (by decide +kernel)) (by decide) hc_z
  replace hc_z := rn_cmpF (am_cur_of (i := (17, 3, .if_icmp .ne 12, (16, 0, 0), 0)) (by decide +kernel)) (by decide) hc_z
  replace hc_z := rn_iload_n (am_cur_of (i := (20, 1, .iload_n 1, (0, 0, 0), 0)) (by decide +kernel)) g1_z hc_z
  replace hc_z := rn_ifF (am_cur_of (i := (21, 3, .ifCond .lt 8, (16, 0, 0), 0)) (by decide +kernel)) (by decide) hc_z
  replace hc_z := rn_iload_n (am_cur_of (i := (24, 1, .iload_n 1, (0, 0, 0), 0)) (by decide +kernel)) g1_z hc_z
  replace hc_z := rn_iconst (w := 2) (am_cur_of (i := (25, 1, .iconst 2, (0, 0, 0), 0)) (by decide +kernel)) (by decide) hc_z
  replace hc_z := rn_cmpF (am_cur_of (i := (26, 3, .if_icmp .le 9, (20, 0, 0), 0)) (by decide +kernel)) (by decide) hc_z
  replace hc_z := rn_aload_n (am_cur_of (i := (29, 1, .aload_n 0, (0, 0, 0), 0)) (by decide +kernel)) g0_z hc_z
  replace hc_z := rn_iconst (w := 1) (am_cur_of (i := (30, 1, .iconst 1, (0, 0, 0), 0)) (by decide +kernel)) (by decide) hc_z
  replace hc_z := rn_callV (M' := am_m29) (o := 44) (ar := [.int 1]) (rest := []) (L := lv_args 0 [.ref 44, .int 1]) (am_cur_of (i := (31, 3, .invokevirtual 108, (29, 769, 3), 0)) (by decide +kernel)) rfl rfl rfl rfl hc_z
  obtain ⟨r845_z, h846_z, q847_z, hc_z⟩ := hc_z
  obtain ⟨rfl, yq847_z⟩ := rp_fail R.2.2.2.1 q847_z
  subst yq847_z
  replace hc_z : rn _ _ _ _ [] _ _ _ := hc_z
  have K := rs_stick (w := 1) (a := 42) (by decide) (by decide) rfl (by decide) rfl rfl hc_z
  replace hm_z := rn_aload_n (am_cur_of (i := (209, 1, .aload_n 0, (0, 0, 0), 0)) (by decide +kernel)) g0m hm_z
  replace hm_z := rn_getI (v := 1) (am_cur_of (i := (210, 3, .getfield 157, (12, 8, 1392), 0)) (by decide +kernel)) (by decide +kernel) kc hm_z
  replace hm_z := rn_iconst (w := 1) (am_cur_of (i := (213, 1, .iconst 1, (0, 0, 0), 0)) (by decide +kernel)) (by decide) hm_z
  replace hm_z := rn_cmpF (am_cur_of (i := (214, 3, .if_icmp .ne 21, (97, 0, 0), 0)) (by decide +kernel)) (by decide) hm_z
  replace hm_z := rn_aload_n (am_cur_of (i := (217, 1, .aload_n 0, (0, 0, 0), 0)) (by decide +kernel)) g0m hm_z
  replace hm_z := rn_getI (v := 16) (am_cur_of (i := (218, 3, .getfield 168, (12, 9, 1393), 0)) (by decide +kernel)) (by decide +kernel) kd hm_z
  replace hm_z := rn_bipush (w := 9) (am_cur_of (i := (221, 2, .bipush 9, (0, 0, 0), 0)) (by decide +kernel)) (by decide) hm_z
  replace hm_z := rn_cmpF (am_cur_of (i := (223, 3, .if_icmp .lt 12, (97, 0, 0), 0)) (by decide +kernel)) (by decide) hm_z
  replace hm_z := rn_aload_n (am_cur_of (i := (226, 1, .aload_n 0, (0, 0, 0), 0)) (by decide +kernel)) g0m hm_z
  replace hm_z := rn_getI (v := 16) (am_cur_of (i := (227, 3, .getfield 168, (12, 9, 1393), 0)) (by decide +kernel)) (by decide +kernel) kd hm_z
  replace hm_z := rn_bipush (w := 11) (am_cur_of (i := (230, 2, .bipush 11, (0, 0, 0), 0)) (by decide +kernel)) (by decide) hm_z
  replace hm_z := rn_cmpF (am_cur_of (i := (232, 3, .if_icmp .le 9, (101, 0, 0), 0)) (by decide +kernel)) (by decide) hm_z
  replace hm_z := rn_aload_n (am_cur_of (i := (235, 1, .aload_n 0, (0, 0, 0), 0)) (by decide +kernel)) g0m hm_z
  replace hm_z := rn_iconst (w := 1) (am_cur_of (i := (236, 1, .iconst 1, (0, 0, 0), 0)) (by decide +kernel)) (by decide) hm_z
  replace hm_z := rn_callV (M' := am_m158) (o := 164) (ar := [.int 1]) (rest := []) (L := lv_args 0 [.ref 164, .int 1]) (am_cur_of (i := (237, 3, .invokevirtual 181, (158, 1665, 3), 0)) (by decide +kernel)) rfl rfl rfl rfl hm_z
  obtain ⟨r848_z, h849_z, q850_z, hm_z⟩ := hm_z
  obtain ⟨rfl, yq850_z⟩ := rp_wrong q850_z
  subst yq850_z
  replace hm_z : rn _ _ _ _ [.int 0] _ _ _ := hm_z
  replace hm_z := rn_iret (am_cur_of (i := (240, 1, .ireturn, (0, 0, 0), 0)) (by decide +kernel)) hm_z
  obtain ⟨e851_z, e852_z⟩ := hm_z
  subst e851_z e852_z
  exact Or.inr (Or.inl ⟨rfl, _, 1, by decide, K.1, K.2.trans R5, rfl, R6⟩)
theorem pl_law14_23 {T : Nat → Int32} {S x p : Int32} {n n' : Nat} {h h' g g' : am_H} {r r' : Option Value} {ls ls2_z : am_L} (R : rq T S x p 23 h g) (A : rp 23 h g) (B : rp_t h g) (ka : rg_v h 44 10 = 2) (kb : rg_v h 44 11 = 14) (kc : rg_v g 164 8 = 1) (kd : rg_v g 164 9 = 17) (g0_z : am_get ls 0 = some (.ref 44)) (g0m : am_get ls2_z 0 = some (.ref 164)) (hc_z : rn n am_m42 2 ls [] h r h') (hm_z : rn n' am_m157 85 ls2_z [] g r' g') : pm_Q T S x 23 h' g' r' := by
  have R5 := R.2.2.2.2.1
  have R6 := R.2.2.2.2.2.1
  replace hc_z := rn_aload_n (am_cur_of (i := (4, 1, .aload_n 0, (0, 0, 0), 0)) (by decide +kernel)) g0_z hc_z
  replace hc_z := rn_getI (v := 14) (am_cur_of (i := (5, 3, .getfield 91, (4, 11, 420), 0)) (by decide +kernel)) (by decide +kernel) kb hc_z
  replace hc_z := rn_bipush (w := 9) (am_cur_of (i := (8, 2, .bipush 9, (0, 0, 0), 0)) (by decide +kernel)) (by decide) hc_z
  replace hc_z := rn_isub (w := 5) (am_cur_of (i := (10, 1, .isub, (0, 0, 0), 0)) (by decide +kernel)) (by decide) hc_z
  replace hc_z := rn_istore_n (am_cur_of (i := (11, 1, .istore_n 1, (0, 0, 0), 0)) (by decide +kernel)) hc_z
  obtain ⟨_, s853_z, s854_z, g1_z, hc_z⟩ := hc_z
  replace g0_z := s853_z 0 _ (by decide) rfl g0_z
  clear s853_z s854_z
  replace hc_z := rn_aload_n (am_cur_of (i := (12, 1, .aload_n 0, (0, 0, 0), 0)) (by decide +kernel)) g0_z hc_z
  replace hc_z := rn_getI (v := 2) (am_cur_of (i := (13, 3, .getfield 60, (4, 10, 419), 0)) (by decide +kernel)) (by decide +kernel) ka hc_z
  replace hc_z := rn_iconst (w := 2) (am_cur_of (i := (16, 1, .iconst 2, (0, 0, 0), 0)) (by decide +kernel)) (by decide) hc_z
  replace hc_z := rn_cmpF (am_cur_of (i := (17, 3, .if_icmp .ne 12, (16, 0, 0), 0)) (by decide +kernel)) (by decide) hc_z
  replace hc_z := rn_iload_n (am_cur_of (i := (20, 1, .iload_n 1, (0, 0, 0), 0)) (by decide +kernel)) g1_z hc_z
  replace hc_z := rn_ifF (am_cur_of (i := (21, 3, .ifCond .lt 8, (16, 0, 0), 0)) (by decide +kernel)) (by decide) hc_z
  replace hc_z := rn_iload_n (am_cur_of (i := (24, 1, .iload_n 1, (0, 0, 0), 0)) (by decide +kernel)) g1_z hc_z
  replace hc_z := rn_iconst (w := 2) (am_cur_of (i := (25, 1, .iconst 2, (0, 0, 0), 0)) (by decide +kernel)) (by decide) hc_z
  replace hc_z := rn_cmpF (am_cur_of (i := (26, 3, .if_icmp .le 9, (20, 0, 0), 0)) (by decide +kernel)) (by decide) hc_z
  replace hc_z := rn_aload_n (am_cur_of (i := (29, 1, .aload_n 0, (0, 0, 0), 0)) (by decide +kernel)) g0_z hc_z
  replace hc_z := rn_iconst (w := 1) (am_cur_of (i := (30, 1, .iconst 1, (0, 0, 0), 0)) (by decide +kernel)) (by decide) hc_z
  replace hc_z := rn_callV (M' := am_m29) (o := 44) (ar := [.int 1]) (rest := []) (L := lv_args 0 [.ref 44, .int 1]) (am_cur_of (i := (31, 3, .invokevirtual 108, (29, 769, 3), 0)) (by decide +kernel)) rfl rfl rfl rfl hc_z
  obtain ⟨r855_z, h856_z, q857_z, hc_z⟩ := hc_z
  obtain ⟨rfl, yq857_z⟩ := rp_fail R.2.2.2.1 q857_z
  subst yq857_z
  replace hc_z : rn _ _ _ _ [] _ _ _ := hc_z
  have K := rs_stick (w := 1) (a := 42) (by decide) (by decide) rfl (by decide) rfl rfl hc_z
  replace hm_z := rn_aload_n (am_cur_of (i := (209, 1, .aload_n 0, (0, 0, 0), 0)) (by decide +kernel)) g0m hm_z
  replace hm_z := rn_getI (v := 1) (am_cur_of (i := (210, 3, .getfield 157, (12, 8, 1392), 0)) (by decide +kernel)) (by decide +kernel) kc hm_z
  replace hm_z := rn_iconst (w := 1) (am_cur_of (i := (213, 1, .iconst 1, (0, 0, 0), 0)) (by decide +kernel)) (by decide) hm_z
  replace hm_z := rn_cmpF (am_cur_of (i := (214, 3, .if_icmp .ne 21, (97, 0, 0), 0)) (by decide +kernel)) (by decide) hm_z
  replace hm_z := rn_aload_n (am_cur_of (i := (217, 1, .aload_n 0, (0, 0, 0), 0)) (by decide +kernel)) g0m hm_z
  replace hm_z := rn_getI (v := 17) (am_cur_of (i := (218, 3, .getfield 168, (12, 9, 1393), 0)) (by decide +kernel)) (by decide +kernel) kd hm_z
  replace hm_z := rn_bipush (w := 9) (am_cur_of (i := (221, 2, .bipush 9, (0, 0, 0), 0)) (by decide +kernel)) (by decide) hm_z
  replace hm_z := rn_cmpF (am_cur_of (i := (223, 3, .if_icmp .lt 12, (97, 0, 0), 0)) (by decide +kernel)) (by decide) hm_z
  replace hm_z := rn_aload_n (am_cur_of (i := (226, 1, .aload_n 0, (0, 0, 0), 0)) (by decide +kernel)) g0m hm_z
  replace hm_z := rn_getI (v := 17) (am_cur_of (i := (227, 3, .getfield 168, (12, 9, 1393), 0)) (by decide +kernel)) (by decide +kernel) kd hm_z
  replace hm_z := rn_bipush (w := 11) (am_cur_of (i := (230, 2, .bipush 11, (0, 0, 0), 0)) (by decide +kernel)) (by decide) hm_z
  replace hm_z := rn_cmpF (am_cur_of (i := (232, 3, .if_icmp .le 9, (101, 0, 0), 0)) (by decide +kernel)) (by decide) hm_z
  replace hm_z := rn_aload_n (am_cur_of (i := (235, 1, .aload_n 0, (0, 0, 0), 0)) (by decide +kernel)) g0m hm_z
  replace hm_z := rn_iconst (w := 1) (am_cur_of (i := (236, 1, .iconst 1, (0, 0, 0), 0)) (by decide +kernel)) (by decide) hm_z
  replace hm_z := rn_callV (M' := am_m158) (o := 164) (ar := [.int 1]) (rest := []) (L := lv_args 0 [.ref 164, .int 1]) (am_cur_of (i := (237, 3, .invokevirtual 181, (158, 1665, 3), 0)) (by decide +kernel)) rfl rfl rfl rfl hm_z
  obtain ⟨r858_z, h859_z, q860_z, hm_z⟩ := hm_z
  obtain ⟨rfl, yq860_z⟩ := rp_wrong q860_z
  subst yq860_z
  replace hm_z : rn _ _ _ _ [.int 0] _ _ _ := hm_z
  replace hm_z := rn_iret (am_cur_of (i := (240, 1, .ireturn, (0, 0, 0), 0)) (by decide +kernel)) hm_z
  obtain ⟨e861_z, e862_z⟩ := hm_z
  subst e861_z e862_z
  exact Or.inr (Or.inl ⟨rfl, _, 1, by decide, K.1, K.2.trans R5, rfl, R6⟩)
theorem pl_law15_23 {T : Nat → Int32} {S x p : Int32} {n n' : Nat} {h h' g g' : am_H} {r r' : Option Value} {ls ls2_z : am_L} (R : rq T S x p 23 h g) (A : rp 23 h g) (B : rp_t h g) (ka : rg_v h 44 10 = 2) (kb : rg_v h 44 11 = 15) (kc : rg_v g 164 8 = 1) (kd : rg_v g 164 9 = 18) (g0_z : am_get ls 0 = some (.ref 44)) (g0m : am_get ls2_z 0 = some (.ref 164)) (hc_z : rn n am_m42 2 ls [] h r h') (hm_z : rn n' am_m157 85 ls2_z [] g r' g') : pm_Q T S x 23 h' g' r' := by
  have R5 := R.2.2.2.2.1
  have R6 := R.2.2.2.2.2.1
  replace hc_z := rn_aload_n (am_cur_of (i := (4, 1, .aload_n 0, (0, 0, 0), 0)) (by decide +kernel)) g0_z hc_z
  replace hc_z := rn_getI (v := 15) (am_cur_of (i := (5, 3, .getfield 91, (4, 11, 420), 0)) (by decide +kernel)) (by decide +kernel) kb hc_z
  replace hc_z := rn_bipush (w := 9) (am_cur_of (i := (8, 2, .bipush 9, (0, 0, 0), 0)) (by decide +kernel)) (by decide) hc_z
  replace hc_z := rn_isub (w := 6) (am_cur_of (i := (10, 1, .isub, (0, 0, 0), 0)) (by decide +kernel)) (by decide) hc_z
  replace hc_z := rn_istore_n (am_cur_of (i := (11, 1, .istore_n 1, (0, 0, 0), 0)) (by decide +kernel)) hc_z
  obtain ⟨_, s863_z, s864_z, g1_z, hc_z⟩ := hc_z
  replace g0_z := s863_z 0 _ (by decide) rfl g0_z
  clear s863_z s864_z
  replace hc_z := rn_aload_n (am_cur_of (i := (12, 1, .aload_n 0, (0, 0, 0), 0)) (by decide +kernel)) g0_z hc_z
  replace hc_z := rn_getI (v := 2) (am_cur_of (i := (13, 3, .getfield 60, (4, 10, 419), 0)) (by decide +kernel)) (by decide +kernel) ka hc_z
  replace hc_z := rn_iconst (w := 2) (am_cur_of (i := (16, 1, .iconst 2, (0, 0, 0), 0)) (by decide +kernel)) (by decide) hc_z
  replace hc_z := rn_cmpF (am_cur_of (i := (17, 3, .if_icmp .ne 12, (16, 0, 0), 0)) (by decide +kernel)) (by decide) hc_z
  replace hc_z := rn_iload_n (am_cur_of (i := (20, 1, .iload_n 1, (0, 0, 0), 0)) (by decide +kernel)) g1_z hc_z
  replace hc_z := rn_ifF (am_cur_of (i := (21, 3, .ifCond .lt 8, (16, 0, 0), 0)) (by decide +kernel)) (by decide) hc_z
  replace hc_z := rn_iload_n (am_cur_of (i := (24, 1, .iload_n 1, (0, 0, 0), 0)) (by decide +kernel)) g1_z hc_z
  replace hc_z := rn_iconst (w := 2) (am_cur_of (i := (25, 1, .iconst 2, (0, 0, 0), 0)) (by decide +kernel)) (by decide) hc_z
  replace hc_z := rn_cmpF (am_cur_of (i := (26, 3, .if_icmp .le 9, (20, 0, 0), 0)) (by decide +kernel)) (by decide) hc_z
  replace hc_z := rn_aload_n (am_cur_of (i := (29, 1, .aload_n 0, (0, 0, 0), 0)) (by decide +kernel)) g0_z hc_z
  replace hc_z := rn_iconst (w := 1) (am_cur_of (i := (30, 1, .iconst 1, (0, 0, 0), 0)) (by decide +kernel)) (by decide) hc_z
  replace hc_z := rn_callV (M' := am_m29) (o := 44) (ar := [.int 1]) (rest := []) (L := lv_args 0 [.ref 44, .int 1]) (am_cur_of (i := (31, 3, .invokevirtual 108, (29, 769, 3), 0)) (by decide +kernel)) rfl rfl rfl rfl hc_z
  obtain ⟨r865_z, h866_z, q867_z, hc_z⟩ := hc_z
  obtain ⟨rfl, yq867_z⟩ := rp_fail R.2.2.2.1 q867_z
  subst yq867_z
  replace hc_z : rn _ _ _ _ [] _ _ _ := hc_z
  have K := rs_stick (w := 1) (a := 42) (by decide) (by decide) rfl (by decide) rfl rfl hc_z
  replace hm_z := rn_aload_n (am_cur_of (i := (209, 1, .aload_n 0, (0, 0, 0), 0)) (by decide +kernel)) g0m hm_z
  replace hm_z := rn_getI (v := 1) (am_cur_of (i := (210, 3, .getfield 157, (12, 8, 1392), 0)) (by decide +kernel)) (by decide +kernel) kc hm_z
  replace hm_z := rn_iconst (w := 1) (am_cur_of (i := (213, 1, .iconst 1, (0, 0, 0), 0)) (by decide +kernel)) (by decide) hm_z
  replace hm_z := rn_cmpF (am_cur_of (i := (214, 3, .if_icmp .ne 21, (97, 0, 0), 0)) (by decide +kernel)) (by decide) hm_z
  replace hm_z := rn_aload_n (am_cur_of (i := (217, 1, .aload_n 0, (0, 0, 0), 0)) (by decide +kernel)) g0m hm_z
  replace hm_z := rn_getI (v := 18) (am_cur_of (i := (218, 3, .getfield 168, (12, 9, 1393), 0)) (by decide +kernel)) (by decide +kernel) kd hm_z
  replace hm_z := rn_bipush (w := 9) (am_cur_of (i := (221, 2, .bipush 9, (0, 0, 0), 0)) (by decide +kernel)) (by decide) hm_z
  replace hm_z := rn_cmpF (am_cur_of (i := (223, 3, .if_icmp .lt 12, (97, 0, 0), 0)) (by decide +kernel)) (by decide) hm_z
  replace hm_z := rn_aload_n (am_cur_of (i := (226, 1, .aload_n 0, (0, 0, 0), 0)) (by decide +kernel)) g0m hm_z
  replace hm_z := rn_getI (v := 18) (am_cur_of (i := (227, 3, .getfield 168, (12, 9, 1393), 0)) (by decide +kernel)) (by decide +kernel) kd hm_z
  replace hm_z := rn_bipush (w := 11) (am_cur_of (i := (230, 2, .bipush 11, (0, 0, 0), 0)) (by decide +kernel)) (by decide) hm_z
  replace hm_z := rn_cmpF (am_cur_of (i := (232, 3, .if_icmp .le 9, (101, 0, 0), 0)) (by decide +kernel)) (by decide) hm_z
  replace hm_z := rn_aload_n (am_cur_of (i := (235, 1, .aload_n 0, (0, 0, 0), 0)) (by decide +kernel)) g0m hm_z
  replace hm_z := rn_iconst (w := 1) (am_cur_of (i := (236, 1, .iconst 1, (0, 0, 0), 0)) (by decide +kernel)) (by decide) hm_z
  replace hm_z := rn_callV (M' := am_m158) (o := 164) (ar := [.int 1]) (rest := []) (L := lv_args 0 [.ref 164, .int 1]) (am_cur_of (i := (237, 3, .invokevirtual 181, (158, 1665, 3), 0)) (by decide +kernel)) rfl rfl rfl rfl hm_z
  obtain ⟨r868_z, h869_z, q870_z, hm_z⟩ := hm_z
  obtain ⟨rfl, yq870_z⟩ := rp_wrong q870_z
  subst yq870_z
  replace hm_z : rn _ _ _ _ [.int 0] _ _ _ := hm_z
  replace hm_z := rn_iret (am_cur_of (i := (240, 1, .ireturn, (0, 0, 0), 0)) (by decide +kernel)) hm_z
  obtain ⟨e871_z, e872_z⟩ := hm_z
  subst e871_z e872_z
  exact Or.inr (Or.inl ⟨rfl, _, 1, by decide, K.1, K.2.trans R5, rfl, R6⟩)
theorem pl_law16_23 {T : Nat → Int32} {S x p : Int32} {n n' : Nat} {h h' g g' : am_H} {r r' : Option Value} {ls ls2_z : am_L} (R : rq T S x p 23 h g) (A : rp 23 h g) (B : rp_t h g) (ka : rg_v h 44 10 = 2) (kb : rg_v h 44 11 = 16) (kc : rg_v g 164 8 = 1) (kd : rg_v g 164 9 = 19) (g0_z : am_get ls 0 = some (.ref 44)) (g0m : am_get ls2_z 0 = some (.ref 164)) (hc_z : rn n am_m42 2 ls [] h r h') (hm_z : rn n' am_m157 85 ls2_z [] g r' g') : pm_Q T S x 23 h' g' r' := by
  have R5 := R.2.2.2.2.1
  have R6 := R.2.2.2.2.2.1
  replace hc_z := rn_aload_n (am_cur_of (i := (4, 1, .aload_n 0, (0, 0, 0), 0)) (by decide +kernel)) g0_z hc_z
  replace hc_z := rn_getI (v := 16) (am_cur_of (i := (5, 3, .getfield 91, (4, 11, 420), 0)) (by decide +kernel)) (by decide +kernel) kb hc_z
  replace hc_z := rn_bipush (w := 9) (am_cur_of (i := (8, 2, .bipush 9, (0, 0, 0), 0)) (by decide +kernel)) (by decide) hc_z
  replace hc_z := rn_isub (w := 7) (am_cur_of (i := (10, 1, .isub, (0, 0, 0), 0)) (by decide +kernel)) (by decide) hc_z
  replace hc_z := rn_istore_n (am_cur_of (i := (11, 1, .istore_n 1, (0, 0, 0), 0)) (by decide +kernel)) hc_z
  obtain ⟨_, s873_z, s874_z, g1_z, hc_z⟩ := hc_z
  replace g0_z := s873_z 0 _ (by decide) rfl g0_z
  clear s873_z s874_z
  replace hc_z := rn_aload_n (am_cur_of (i := (12, 1, .aload_n 0, (0, 0, 0), 0)) (by decide +kernel)) g0_z hc_z
  replace hc_z := rn_getI (v := 2) (am_cur_of (i := (13, 3, .getfield 60, (4, 10, 419), 0)) (by decide +kernel)) (by decide +kernel) ka hc_z
  replace hc_z := rn_iconst (w := 2) (am_cur_of (i := (16, 1, .iconst 2, (0, 0, 0), 0)) (by decide +kernel)) (by decide) hc_z
  replace hc_z := rn_cmpF (am_cur_of (i := (17, 3, .if_icmp .ne 12, (16, 0, 0), 0)) (by decide +kernel)) (by decide) hc_z
  replace hc_z := rn_iload_n (am_cur_of (i := (20, 1, .iload_n 1, (0, 0, 0), 0)) (by decide +kernel)) g1_z hc_z
  replace hc_z := rn_ifF (am_cur_of (i := (21, 3, .ifCond .lt 8, (16, 0, 0), 0)) (by decide +kernel)) (by decide) hc_z
  replace hc_z := rn_iload_n (am_cur_of (i := (24, 1, .iload_n 1, (0, 0, 0), 0)) (by decide +kernel)) g1_z hc_z
  replace hc_z := rn_iconst (w := 2) (am_cur_of (i := (25, 1, .iconst 2, (0, 0, 0), 0)) (by decide +kernel)) (by decide) hc_z
  replace hc_z := rn_cmpF (am_cur_of (i := (26, 3, .if_icmp .le 9, (20, 0, 0), 0)) (by decide +kernel)) (by decide) hc_z
  replace hc_z := rn_aload_n (am_cur_of (i := (29, 1, .aload_n 0, (0, 0, 0), 0)) (by decide +kernel)) g0_z hc_z
  replace hc_z := rn_iconst (w := 1) (am_cur_of (i := (30, 1, .iconst 1, (0, 0, 0), 0)) (by decide +kernel)) (by decide) hc_z
  replace hc_z := rn_callV (M' := am_m29) (o := 44) (ar := [.int 1]) (rest := []) (L := lv_args 0 [.ref 44, .int 1]) (am_cur_of (i := (31, 3, .invokevirtual 108, (29, 769, 3), 0)) (by decide +kernel)) rfl rfl rfl rfl hc_z
  obtain ⟨r875_z, h876_z, q877_z, hc_z⟩ := hc_z
  obtain ⟨rfl, yq877_z⟩ := rp_fail R.2.2.2.1 q877_z
  subst yq877_z
  replace hc_z : rn _ _ _ _ [] _ _ _ := hc_z
  have K := rs_stick (w := 1) (a := 42) (by decide) (by decide) rfl (by decide) rfl rfl hc_z
  replace hm_z := rn_aload_n (am_cur_of (i := (209, 1, .aload_n 0, (0, 0, 0), 0)) (by decide +kernel)) g0m hm_z
  replace hm_z := rn_getI (v := 1) (am_cur_of (i := (210, 3, .getfield 157, (12, 8, 1392), 0)) (by decide +kernel)) (by decide +kernel) kc hm_z
  replace hm_z := rn_iconst (w := 1) (am_cur_of (i := (213, 1, .iconst 1, (0, 0, 0), 0)) (by decide +kernel)) (by decide) hm_z
  replace hm_z := rn_cmpF (am_cur_of (i := (214, 3, .if_icmp .ne 21, (97, 0, 0), 0)) (by decide +kernel)) (by decide) hm_z
  replace hm_z := rn_aload_n (am_cur_of (i := (217, 1, .aload_n 0, (0, 0, 0), 0)) (by decide +kernel)) g0m hm_z
  replace hm_z := rn_getI (v := 19) (am_cur_of (i := (218, 3, .getfield 168, (12, 9, 1393), 0)) (by decide +kernel)) (by decide +kernel) kd hm_z
  replace hm_z := rn_bipush (w := 9) (am_cur_of (i := (221, 2, .bipush 9, (0, 0, 0), 0)) (by decide +kernel)) (by decide) hm_z
  replace hm_z := rn_cmpF (am_cur_of (i := (223, 3, .if_icmp .lt 12, (97, 0, 0), 0)) (by decide +kernel)) (by decide) hm_z
  replace hm_z := rn_aload_n (am_cur_of (i := (226, 1, .aload_n 0, (0, 0, 0), 0)) (by decide +kernel)) g0m hm_z
  replace hm_z := rn_getI (v := 19) (am_cur_of (i := (227, 3, .getfield 168, (12, 9, 1393), 0)) (by decide +kernel)) (by decide +kernel) kd hm_z
  replace hm_z := rn_bipush (w := 11) (am_cur_of (i := (230, 2, .bipush 11, (0, 0, 0), 0)) (by decide +kernel)) (by decide) hm_z
  replace hm_z := rn_cmpF (am_cur_of (i := (232, 3, .if_icmp .le 9, (101, 0, 0), 0)) (by decide +kernel)) (by decide) hm_z
  replace hm_z := rn_aload_n (am_cur_of (i := (235, 1, .aload_n 0, (0, 0, 0), 0)) (by decide +kernel)) g0m hm_z
  replace hm_z := rn_iconst (w := 1) (am_cur_of (i := (236, 1, .iconst 1, (0, 0, 0), 0)) (by decide +kernel)) (by decide) hm_z
  replace hm_z := rn_callV (M' := am_m158) (o := 164) (ar := [.int 1]) (rest := []) (L := lv_args 0 [.ref 164, .int 1]) (am_cur_of (i := (237, 3, .invokevirtual 181, (158, 1665, 3), 0)) (by decide +kernel)) rfl rfl rfl rfl hm_z
  obtain ⟨r878_z, h879_z, q880_z, hm_z⟩ := hm_z
  obtain ⟨rfl, yq880_z⟩ := rp_wrong q880_z
  subst yq880_z
  replace hm_z : rn _ _ _ _ [.int 0] _ _ _ := hm_z
  replace hm_z := rn_iret (am_cur_of (i := (240, 1, .ireturn, (0, 0, 0), 0)) (by decide +kernel)) hm_z
  obtain ⟨e881_z, e882_z⟩ := hm_z
  subst e881_z e882_z
  exact Or.inr (Or.inl ⟨rfl, _, 1, by decide, K.1, K.2.trans R5, rfl, R6⟩)
theorem pl_law_23 {T : Nat → Int32} {S x p : Int32} {n n' : Nat} {h h' g g' : am_H} {r r' : Option Value} {ls2_z : am_L} (R : rq T S x p 23 h g) (A : rp 23 h g) (B : rp_t h g) (g0m : am_get ls2_z 0 = some (.ref 164)) (hc_z : rn n am_m42 0 (lv_args 0 [.ref 44]) [] h r h') (hm_z : rn n' am_m157 83 ls2_z [] g r' g') : pm_Q T S x 23 h' g' r' := by
  have g0_z : am_get (lv_args 0 [.ref 44]) 0 = some (.ref 44) := rfl
  replace hc_z := rn_aload_n (am_cur_of (i := (0, 1, .aload_n 0, (0, 0, 0), 0)) (by decide +kernel)) g0_z hc_z
  replace hc_z := rn_callV (M' := am_m19) (o := 44) (ar := []) (rest := []) (L := lv_args 0 [.ref 44]) (am_cur_of (i := (1, 3, .invokevirtual 57, (19, 727, 3), 0)) (by decide +kernel)) rfl rfl rfl rfl hc_z
  obtain ⟨r883_z, h884_z, q885_z, hc_z⟩ := hc_z
  have vo := rn_void rfl q885_z
  subst vo
  replace hm_z := rn_aload_n (am_cur_of (i := (205, 1, .aload_n 0, (0, 0, 0), 0)) (by decide +kernel)) g0m hm_z
  replace hm_z := rn_callV (M' := am_m151) (o := 164) (ar := []) (rest := []) (L := lv_args 0 [.ref 164]) (am_cur_of (i := (206, 3, .invokevirtual 191, (151, 1636, 3), 0)) (by decide +kernel)) rfl rfl rfl rfl hm_z
  obtain ⟨r886_z, h887_z, q888_z, hm_z⟩ := hm_z
  have vo := rn_void rfl q888_z
  subst vo
  obtain ⟨-, -, x2_z, p2_z, R2, le2_z, t5_z, t6_z⟩ := pr_tok (rq_0 R) q885_z q888_z
  have A2 := rp_x (by decide) A (rx_C_f t5_z) (rx_M_f t6_z)
  have B2 := rp_tk B (rg_v_fr t5_z (by decide)) (fun k => rg_v_fr t6_z (rg_v_in (by decide) k)) (rx_M_f t6_z)
  have px := R2.2.2.2.2.2.2.2.1
  replace hm_z : rn _ _ _ _ [] _ _ _ := hm_z
  replace hc_z : rn _ _ _ _ [] _ _ _ := hc_z
  refine pm_le (x := x2_z) (by omega) ?_
  by_cases ka : rg_v h884_z 44 10 = 2
  · rcases tk_w17 R2.2.2.2.2.2.2.2.2.2 ka with ⟨kb, kc, kd⟩ | ⟨kb, kc, kd⟩ | ⟨kb, kc, kd⟩ | ⟨kb, kc, kd⟩ | ⟨kb, kc, kd⟩ | ⟨kb, kc, kd⟩ | ⟨kb, kc, kd⟩ | ⟨kb, kc, kd⟩ | ⟨kb, kc, kd⟩ | ⟨kb, kc, kd⟩ | ⟨kb, kc, kd⟩ | ⟨kb, kc, kd⟩ | ⟨kb, kc, kd⟩ | ⟨kb, kc, kd⟩ | ⟨kb, kc, kd⟩ | ⟨kb, kc, kd⟩ | ⟨kb, kc, kd⟩
    · exact pl_law0_23 R2 A2 B2 ka kb kc kd g0_z g0m hc_z hm_z
    · exact pl_law1_23 R2 A2 B2 ka kb kc kd g0_z g0m hc_z hm_z
    · exact pl_law2_23 R2 A2 B2 ka kb kc kd g0_z g0m hc_z hm_z
    · exact pl_law3_23 R2 A2 B2 ka kb kc kd g0_z g0m hc_z hm_z
    · exact pl_law4_23 R2 A2 B2 ka kb kc kd g0_z g0m hc_z hm_z
    · exact pl_law5_23 R2 A2 B2 ka kb kc kd g0_z g0m hc_z hm_z
    · exact pl_law6_23 R2 A2 B2 ka kb kc kd g0_z g0m hc_z hm_z
    · exact pl_law7_23 R2 A2 B2 ka kb kc kd g0_z g0m hc_z hm_z
    · exact pl_law8_23 R2 A2 B2 ka kb kc kd g0_z g0m hc_z hm_z
    · exact pl_law9_23 R2 A2 B2 ka kb kc kd g0_z g0m hc_z hm_z
    · exact pl_law10_23 R2 A2 B2 ka kb kc kd g0_z g0m hc_z hm_z
    · exact pl_law11_23 R2 A2 B2 ka kb kc kd g0_z g0m hc_z hm_z
    · exact pl_law12_23 R2 A2 B2 ka kb kc kd g0_z g0m hc_z hm_z
    · exact pl_law13_23 R2 A2 B2 ka kb kc kd g0_z g0m hc_z hm_z
    · exact pl_law14_23 R2 A2 B2 ka kb kc kd g0_z g0m hc_z hm_z
    · exact pl_law15_23 R2 A2 B2 ka kb kc kd g0_z g0m hc_z hm_z
    · exact pl_law16_23 R2 A2 B2 ka kb kc kd g0_z g0m hc_z hm_z
  · exact pl_lawn_23 R2 A2 B2 ka g0_z g0m hc_z hm_z
