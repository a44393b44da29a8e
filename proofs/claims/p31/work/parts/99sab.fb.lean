theorem nq_206 {nst : Nat} {r : Option Value} {g g' : am_H} {b : Int32} {k : Int32}  (hm_z : rn nst am_m206 0 (lv_args 0 [.ref 164, .int b, .int k]) [] g r g') : nk g g' := by
  have z0_z : (0 : Int32).toInt = 0 := by decide
  have g0_z : am_get (lv_args 0 [.ref 164, .int b, .int k]) 0 = some (.ref 164) := rfl
  have g1_z : am_get (lv_args 0 [.ref 164, .int b, .int k]) 1 = some (.int b) := rfl
  have g2_z : am_get (lv_args 0 [.ref 164, .int b, .int k]) 2 = some (.int k) := rfl
  replace hm_z := rn_aload_n (am_cur_of (i := (0, 1, .aload_n 0, (0, 0, 0), 0)) (by decide +kernel)) g0_z hm_z
  replace hm_z := rn_getR (x := 170) (am_cur_of (i := (1, 3, .getfield 30, (12, 25, 1409), 0)) (by decide +kernel)) (by decide +kernel) hm_z
  replace hm_z := rn_bipush (w := 7) (am_cur_of (i := (4, 2, .bipush 7, (0, 0, 0), 0)) (by decide +kernel)) (by decide) hm_z
  replace hm_z := rn_iload_n (am_cur_of (i := (6, 1, .iload_n 2, (0, 0, 0), 0)) (by decide +kernel)) g2_z hm_z
  replace hm_z := rn_imul (w := (7 : Int32) * k) (am_cur_of (i := (7, 1, .imul, (0, 0, 0), 0)) (by decide +kernel)) rfl hm_z
  replace hm_z := rn_iaload (N := 56) (q := ((7 : Int32) * k).toNatClampNeg) (v := rg_v g 170 (((7 : Int32) * k).toNatClampNeg)) (am_cur_of (i := (8, 1, .iaload, (0, 0, 0), 0)) (by decide +kernel)) (by decide +kernel) rfl rfl hm_z
  obtain ⟨p307_z, hm_z⟩ := hm_z
  replace hm_z := rn_aload_n (am_cur_of (i := (9, 1, .aload_n 0, (0, 0, 0), 0)) (by decide +kernel)) g0_z hm_z
  replace hm_z := rn_getR (x := 170) (am_cur_of (i := (10, 3, .getfield 30, (12, 25, 1409), 0)) (by decide +kernel)) (by decide +kernel) hm_z
  replace hm_z := rn_bipush (w := 7) (am_cur_of (i := (13, 2, .bipush 7, (0, 0, 0), 0)) (by decide +kernel)) (by decide) hm_z
  replace hm_z := rn_iload_n (am_cur_of (i := (15, 1, .iload_n 2, (0, 0, 0), 0)) (by decide +kernel)) g2_z hm_z
  replace hm_z := rn_imul (w := (7 : Int32) * k) (am_cur_of (i := (16, 1, .imul, (0, 0, 0), 0)) (by decide +kernel)) rfl hm_z
  replace hm_z := rn_iconst (w := 1) (am_cur_of (i := (17, 1, .iconst 1, (0, 0, 0), 0)) (by decide +kernel)) (by decide) hm_z
  replace hm_z := rn_iadd (w := ((7 : Int32) * k) + 1) (am_cur_of (i := (18, 1, .iadd, (0, 0, 0), 0)) (by decide +kernel)) rfl hm_z
  replace hm_z := rn_iaload (N := 56) (q := (((7 : Int32) * k) + 1).toNatClampNeg) (v := rg_v g 170 ((((7 : Int32) * k) + 1).toNatClampNeg)) (am_cur_of (i := (19, 1, .iaload, (0, 0, 0), 0)) (by decide +kernel)) (by decide +kernel) rfl rfl hm_z
  obtain ⟨p308_z, hm_z⟩ := hm_z
  replace hm_z := rn_aload_n (am_cur_of (i := (20, 1, .aload_n 0, (0, 0, 0), 0)) (by decide +kernel)) g0_z hm_z
  replace hm_z := rn_getR (x := 191) (am_cur_of (i := (21, 3, .getfield 94, (12, 53, 1437), 0)) (by decide +kernel)) (by decide +kernel) hm_z
  replace hm_z := rn_iconst (w := 4) (am_cur_of (i := (24, 1, .iconst 4, (0, 0, 0), 0)) (by decide +kernel)) (by decide) hm_z
  replace hm_z := rn_iload_n (am_cur_of (i := (25, 1, .iload_n 1, (0, 0, 0), 0)) (by decide +kernel)) g1_z hm_z
  replace hm_z := rn_imul (w := (4 : Int32) * b) (am_cur_of (i := (26, 1, .imul, (0, 0, 0), 0)) (by decide +kernel)) rfl hm_z
  replace hm_z := rn_iload_n (am_cur_of (i := (27, 1, .iload_n 2, (0, 0, 0), 0)) (by decide +kernel)) g2_z hm_z
  replace hm_z := rn_iadd (w := ((4 : Int32) * b) + k) (am_cur_of (i := (28, 1, .iadd, (0, 0, 0), 0)) (by decide +kernel)) rfl hm_z
  replace hm_z := rn_iaload (N := 16) (q := (((4 : Int32) * b) + k).toNatClampNeg) (v := rg_v g 191 ((((4 : Int32) * b) + k).toNatClampNeg)) (am_cur_of (i := (29, 1, .iaload, (0, 0, 0), 0)) (by decide +kernel)) (by decide +kernel) rfl rfl hm_z
  obtain ⟨p309_z, hm_z⟩ := hm_z
  replace hm_z := rn_imul (w := (rg_v g 170 ((((7 : Int32) * k) + 1).toNatClampNeg)) * (rg_v g 191 ((((4 : Int32) * b) + k).toNatClampNeg))) (am_cur_of (i := (30, 1, .imul, (0, 0, 0), 0)) (by decide +kernel)) rfl hm_z
  replace hm_z := rn_isub (w := (rg_v g 170 (((7 : Int32) * k).toNatClampNeg)) - ((rg_v g 170 ((((7 : Int32) * k) + 1).toNatClampNeg)) * (rg_v g 191 ((((4 : Int32) * b) + k).toNatClampNeg)))) (am_cur_of (i := (31, 1, .isub, (0, 0, 0), 0)) (by decide +kernel)) rfl hm_z
  replace hm_z := rn_istore_n (am_cur_of (i := (32, 1, .istore_n 3, (0, 0, 0), 0)) (by decide +kernel)) hm_z
  obtain ⟨_, s310_z, s311_z, g3_z, hm_z⟩ := hm_z
  replace g0_z := s310_z 0 _ (by decide) rfl g0_z
  replace g1_z := s310_z 1 _ (by decide) rfl g1_z
  replace g2_z := s310_z 2 _ (by decide) rfl g2_z
  clear s310_z s311_z
  replace hm_z := rn_iload_n (am_cur_of (i := (33, 1, .iload_n 3, (0, 0, 0), 0)) (by decide +kernel)) g3_z hm_z
  replace hm_z := rn_if (am_cur_of (i := (34, 3, .ifCond .ge 7, (29, 0, 0), 0)) (by decide +kernel)) hm_z
  rcases hm_z with ⟨b312_z, hm_z⟩ | ⟨b312_z, hm_z⟩
  · replace b312_z : (0 : Int32).toInt ≤ ((rg_v g 170 (((7 : Int32) * k).toNatClampNeg)) - ((rg_v g 170 ((((7 : Int32) * k) + 1).toNatClampNeg)) * (rg_v g 191 ((((4 : Int32) * b) + k).toNatClampNeg)))).toInt := b312_z
    replace hm_z := rn_iload_n (am_cur_of (i := (41, 1, .iload_n 3, (0, 0, 0), 0)) (by decide +kernel)) g3_z hm_z
    replace hm_z := rn_iret (am_cur_of (i := (42, 1, .ireturn, (0, 0, 0), 0)) (by decide +kernel)) hm_z
    obtain ⟨e313_z, e314_z⟩ := hm_z
    rw [e314_z]
    exact nk_r
  · replace b312_z : ((rg_v g 170 (((7 : Int32) * k).toNatClampNeg)) - ((rg_v g 170 ((((7 : Int32) * k) + 1).toNatClampNeg)) * (rg_v g 191 ((((4 : Int32) * b) + k).toNatClampNeg)))).toInt < (0 : Int32).toInt := b312_z
    replace hm_z := rn_iconst (w := 0) (am_cur_of (i := (37, 1, .iconst 0, (0, 0, 0), 0)) (by decide +kernel)) (by decide) hm_z
    replace hm_z := rn_goto (am_cur_of (i := (38, 3, .goto 4, (30, 0, 0), 0)) (by decide +kernel)) hm_z
    replace hm_z := rn_iret (am_cur_of (i := (42, 1, .ireturn, (0, 0, 0), 0)) (by decide +kernel)) hm_z
    obtain ⟨e315_z, e316_z⟩ := hm_z
    rw [e316_z]
    exact nk_r
theorem nq_200 {nst : Nat} {r : Option Value} {g g' : am_H} {b : Int32} {o : Int32} {p : Int32}  (hm_z : rn nst am_m200 0 (lv_args 0 [.ref 164, .int b, .int o, .int p]) [] g r g') : nk g g' := by
  have z0_z : (0 : Int32).toInt = 0 := by decide
  have g0_z : am_get (lv_args 0 [.ref 164, .int b, .int o, .int p]) 0 = some (.ref 164) := rfl
  have g1_z : am_get (lv_args 0 [.ref 164, .int b, .int o, .int p]) 1 = some (.int b) := rfl
  have g2_z : am_get (lv_args 0 [.ref 164, .int b, .int o, .int p]) 2 = some (.int o) := rfl
  have g3_z : am_get (lv_args 0 [.ref 164, .int b, .int o, .int p]) 3 = some (.int p) := rfl
  replace hm_z := rn_iload_n (am_cur_of (i := (0, 1, .iload_n 2, (0, 0, 0), 0)) (by decide +kernel)) g2_z hm_z
  replace hm_z := rn_if (am_cur_of (i := (1, 3, .ifCond .eq 7, (4, 0, 0), 0)) (by decide +kernel)) hm_z
  rcases hm_z with ⟨b317_z, hm_z⟩ | ⟨b317_z, hm_z⟩
  · replace b317_z : o = (0 : Int32) ∧ o.toInt = (0 : Int32).toInt := b317_z
    replace hm_z := rn_iconst (w := 0) (am_cur_of (i := (8, 1, .iconst 0, (0, 0, 0), 0)) (by decide +kernel)) (by decide) hm_z
    replace hm_z := rn_istore (am_cur_of (i := (9, 2, .istore 4, (0, 0, 0), 0)) (by decide +kernel)) hm_z
    obtain ⟨_, s318_z, s319_z, g4_z, hm_z⟩ := hm_z
    replace g0_z := s318_z 0 _ (by decide) rfl g0_z
    replace g1_z := s318_z 1 _ (by decide) rfl g1_z
    replace g2_z := s318_z 2 _ (by decide) rfl g2_z
    replace g3_z := s318_z 3 _ (by decide) rfl g3_z
    clear s318_z s319_z
    replace hm_z := rn_aload_n (am_cur_of (i := (11, 1, .aload_n 0, (0, 0, 0), 0)) (by decide +kernel)) g0_z hm_z
    replace hm_z := rn_iload_n (am_cur_of (i := (12, 1, .iload_n 1, (0, 0, 0), 0)) (by decide +kernel)) g1_z hm_z
    replace hm_z := rn_iload (am_cur_of (i := (13, 2, .iload 4, (0, 0, 0), 0)) (by decide +kernel)) g4_z hm_z
    replace hm_z := rn_callV (M' := am_m188) (o := 164) (ar := [.int 0, .int b]) (rest := []) (L := lv_args 0 [.ref 164, .int b, .int 0]) (am_cur_of (i := (15, 3, .invokevirtual 403, (188, 1783, 3), 0)) (by decide +kernel)) rfl rfl rfl rfl hm_z
    obtain ⟨r320_z, h321_z, q322_z, hm_z⟩ := hm_z
    have k323_z := nq_188 q322_z
    obtain ⟨v324_z, rfl⟩ := rn_ret (M := am_m188) rfl (by decide) q322_z
    replace hm_z : rn _ _ _ _ [.int v324_z] _ _ _ := hm_z
    replace hm_z := rn_istore (am_cur_of (i := (18, 2, .istore 5, (0, 0, 0), 0)) (by decide +kernel)) hm_z
    obtain ⟨_, s325_z, s326_z, g5_z, hm_z⟩ := hm_z
    replace g0_z := s325_z 0 _ (by decide) rfl g0_z
    replace g1_z := s325_z 1 _ (by decide) rfl g1_z
    replace g2_z := s325_z 2 _ (by decide) rfl g2_z
    replace g3_z := s325_z 3 _ (by decide) rfl g3_z
    replace g4_z := s325_z 4 _ (by decide) rfl g4_z
    clear s325_z s326_z
    replace hm_z := rn_aload_n (am_cur_of (i := (20, 1, .aload_n 0, (0, 0, 0), 0)) (by decide +kernel)) g0_z hm_z
    replace hm_z := rn_iload_n (am_cur_of (i := (21, 1, .iload_n 1, (0, 0, 0), 0)) (by decide +kernel)) g1_z hm_z
    replace hm_z := rn_iload (am_cur_of (i := (22, 2, .iload 4, (0, 0, 0), 0)) (by decide +kernel)) g4_z hm_z
    replace hm_z := rn_iload (am_cur_of (i := (24, 2, .iload 5, (0, 0, 0), 0)) (by decide +kernel)) g5_z hm_z
    replace hm_z := rn_iconst (w := 0) (am_cur_of (i := (26, 1, .iconst 0, (0, 0, 0), 0)) (by decide +kernel)) (by decide) hm_z
    replace hm_z := rn_callV (M' := am_m189) (o := 164) (ar := [.int 0, .int v324_z, .int 0, .int b]) (rest := []) (L := lv_args 0 [.ref 164, .int b, .int 0, .int v324_z, .int 0]) (am_cur_of (i := (27, 3, .invokevirtual 392, (189, 1787, 3), 0)) (by decide +kernel)) rfl rfl rfl rfl hm_z
    obtain ⟨r327_z, h328_z, q329_z, hm_z⟩ := hm_z
    have k330_z := nq_189 q329_z
    have vo := rn_void rfl q329_z
    subst vo
    replace hm_z : rn _ _ _ _ [] _ _ _ := hm_z
    replace hm_z := rn_aload_n (am_cur_of (i := (30, 1, .aload_n 0, (0, 0, 0), 0)) (by decide +kernel)) g0_z hm_z
    replace hm_z := rn_getR (x := 188) (am_cur_of (i := (31, 3, .getfield 85, (12, 50, 1434), 0)) (by decide +kernel)) (by decide +kernel) hm_z
    replace hm_z := rn_iload_n (am_cur_of (i := (34, 1, .iload_n 1, (0, 0, 0), 0)) (by decide +kernel)) g1_z hm_z
    replace hm_z := rn_iaload (N := 4) (q := b.toNatClampNeg) (v := rg_v h328_z 188 b.toNatClampNeg) (am_cur_of (i := (35, 1, .iaload, (0, 0, 0), 0)) (by decide +kernel)) (by decide +kernel) rfl rfl hm_z
    obtain ⟨p331_z, hm_z⟩ := hm_z
    replace hm_z := rn_aload_n (am_cur_of (i := (36, 1, .aload_n 0, (0, 0, 0), 0)) (by decide +kernel)) g0_z hm_z
    replace hm_z := rn_iconst (w := 0) (am_cur_of (i := (37, 1, .iconst 0, (0, 0, 0), 0)) (by decide +kernel)) (by decide) hm_z
    replace hm_z := rn_aload_n (am_cur_of (i := (38, 1, .aload_n 0, (0, 0, 0), 0)) (by decide +kernel)) g0_z hm_z
    replace hm_z := rn_getR (x := 188) (am_cur_of (i := (39, 3, .getfield 85, (12, 50, 1434), 0)) (by decide +kernel)) (by decide +kernel) hm_z
    replace hm_z := rn_iload_n (am_cur_of (i := (42, 1, .iload_n 1, (0, 0, 0), 0)) (by decide +kernel)) g1_z hm_z
    replace hm_z := rn_iaload (N := 4) (q := b.toNatClampNeg) (v := rg_v h328_z 188 b.toNatClampNeg) (am_cur_of (i := (43, 1, .iaload, (0, 0, 0), 0)) (by decide +kernel)) (by decide +kernel) rfl rfl hm_z
    obtain ⟨p332_z, hm_z⟩ := hm_z
    replace hm_z := rn_bipush (w := 100) (am_cur_of (i := (44, 2, .bipush 100, (0, 0, 0), 0)) (by decide +kernel)) (by decide) hm_z
    replace hm_z := rn_idiv (w := (rg_v h328_z 188 b.toNatClampNeg) / 100) (am_cur_of (i := (46, 1, .idiv, (0, 0, 0), 0)) (by decide +kernel)) rfl hm_z
    obtain ⟨d333_z, hm_z⟩ := hm_z
    replace hm_z := rn_bipush (w := 20) (am_cur_of (i := (47, 2, .bipush 20, (0, 0, 0), 0)) (by decide +kernel)) (by decide) hm_z
    replace hm_z := rn_iload (am_cur_of (i := (49, 2, .iload 4, (0, 0, 0), 0)) (by decide +kernel)) g4_z hm_z
    replace hm_z := rn_imul (w := 0) (am_cur_of (i := (51, 1, .imul, (0, 0, 0), 0)) (by decide +kernel)) (by decide) hm_z
    replace hm_z := rn_iadd (w := ((rg_v h328_z 188 b.toNatClampNeg) / 100) + 0) (am_cur_of (i := (52, 1, .iadd, (0, 0, 0), 0)) (by decide +kernel)) rfl hm_z
    replace hm_z := rn_sipush (w := 999) (am_cur_of (i := (53, 3, .sipush 999, (0, 0, 0), 0)) (by decide +kernel)) (by decide) hm_z
    replace hm_z := rn_callV (M' := am_m190) (o := 164) (ar := [.int 999, .int (((rg_v h328_z 188 b.toNatClampNeg) / 100) + 0), .int 0]) (rest := [.int (rg_v h328_z 188 b.toNatClampNeg)]) (L := lv_args 0 [.ref 164, .int 0, .int (((rg_v h328_z 188 b.toNatClampNeg) / 100) + 0), .int 999]) (am_cur_of (i := (56, 3, .invokevirtual 396, (190, 1791, 3), 0)) (by decide +kernel)) rfl rfl rfl rfl hm_z
    obtain ⟨r334_z, h335_z, q336_z, hm_z⟩ := hm_z
    have k337_z := nq_190 q336_z
    obtain ⟨v338_z, rfl⟩ := rn_ret (M := am_m190) rfl (by decide) q336_z
    replace hm_z : rn _ _ _ _ [.int v338_z, .int (rg_v h328_z 188 b.toNatClampNeg)] _ _ _ := hm_z
    replace hm_z := rn_isub (w := (rg_v h328_z 188 b.toNatClampNeg) - v338_z) (am_cur_of (i := (59, 1, .isub, (0, 0, 0), 0)) (by decide +kernel)) rfl hm_z
    replace hm_z := rn_aload_n (am_cur_of (i := (60, 1, .aload_n 0, (0, 0, 0), 0)) (by decide +kernel)) g0_z hm_z
    replace hm_z := rn_callV (M' := am_m201) (o := 164) (ar := []) (rest := [.int ((rg_v h328_z 188 b.toNatClampNeg) - v338_z)]) (L := lv_args 0 [.ref 164]) (am_cur_of (i := (61, 3, .invokevirtual 406, (201, 1836, 3), 0)) (by decide +kernel)) rfl rfl rfl rfl hm_z
    obtain ⟨r339_z, h340_z, q341_z, hm_z⟩ := hm_z
    have k342_z := nq_201 q341_z
    obtain ⟨v343_z, rfl⟩ := rn_ret (M := am_m201) rfl (by decide) q341_z
    replace hm_z : rn _ _ _ _ [.int v343_z, .int ((rg_v h328_z 188 b.toNatClampNeg) - v338_z)] _ _ _ := hm_z
    replace hm_z := rn_isub (w := ((rg_v h328_z 188 b.toNatClampNeg) - v338_z) - v343_z) (am_cur_of (i := (64, 1, .isub, (0, 0, 0), 0)) (by decide +kernel)) rfl hm_z
    replace hm_z := rn_istore (am_cur_of (i := (65, 2, .istore 6, (0, 0, 0), 0)) (by decide +kernel)) hm_z
    obtain ⟨_, s344_z, s345_z, g6_z, hm_z⟩ := hm_z
    replace g0_z := s344_z 0 _ (by decide) rfl g0_z
    replace g1_z := s344_z 1 _ (by decide) rfl g1_z
    replace g2_z := s344_z 2 _ (by decide) rfl g2_z
    replace g3_z := s344_z 3 _ (by decide) rfl g3_z
    replace g4_z := s344_z 4 _ (by decide) rfl g4_z
    replace g5_z := s344_z 5 _ (by decide) rfl g5_z
    clear s344_z s345_z
    replace hm_z := rn_iload (am_cur_of (i := (67, 2, .iload 6, (0, 0, 0), 0)) (by decide +kernel)) g6_z hm_z
    replace hm_z := rn_if (am_cur_of (i := (69, 3, .ifCond .ge 7, (44, 0, 0), 0)) (by decide +kernel)) hm_z
    rcases hm_z with ⟨b346_z, hm_z⟩ | ⟨b346_z, hm_z⟩
    · replace b346_z : (0 : Int32).toInt ≤ (((rg_v h328_z 188 b.toNatClampNeg) - v338_z) - v343_z).toInt := b346_z
      replace hm_z := rn_iload (am_cur_of (i := (76, 2, .iload 6, (0, 0, 0), 0)) (by decide +kernel)) g6_z hm_z
      replace hm_z := rn_istore (am_cur_of (i := (78, 2, .istore 6, (0, 0, 0), 0)) (by decide +kernel)) hm_z
      obtain ⟨_, s347_z, s348_z, g6_z, hm_z⟩ := hm_z
      replace g0_z := s347_z 0 _ (by decide) rfl g0_z
      replace g1_z := s347_z 1 _ (by decide) rfl g1_z
      replace g2_z := s347_z 2 _ (by decide) rfl g2_z
      replace g3_z := s347_z 3 _ (by decide) rfl g3_z
      replace g4_z := s347_z 4 _ (by decide) rfl g4_z
      replace g5_z := s347_z 5 _ (by decide) rfl g5_z
      clear s347_z s348_z
      replace hm_z := rn_iload_n (am_cur_of (i := (80, 1, .iload_n 3, (0, 0, 0), 0)) (by decide +kernel)) g3_z hm_z
      replace hm_z := rn_if (am_cur_of (i := (81, 3, .ifCond .ne 6, (50, 0, 0), 0)) (by decide +kernel)) hm_z
      rcases hm_z with ⟨b349_z, hm_z⟩ | ⟨b349_z, hm_z⟩
      · replace b349_z : ¬ p = (0 : Int32) ∧ ¬ p.toInt = (0 : Int32).toInt := b349_z
        replace hm_z := rn_iload (am_cur_of (i := (87, 2, .iload 6, (0, 0, 0), 0)) (by decide +kernel)) g6_z hm_z
        replace hm_z := rn_aload_n (am_cur_of (i := (89, 1, .aload_n 0, (0, 0, 0), 0)) (by decide +kernel)) g0_z hm_z
        replace hm_z := rn_getR (x := 168) (am_cur_of (i := (90, 3, .getfield 24, (12, 23, 1407), 0)) (by decide +kernel)) (by decide +kernel) hm_z
        replace hm_z := rn_iconst (w := 2) (am_cur_of (i := (93, 1, .iconst 2, (0, 0, 0), 0)) (by decide +kernel)) (by decide) hm_z
        replace hm_z := rn_iaload (N := 12) (q := 2) (v := rg_v h340_z 168 2) (am_cur_of (i := (94, 1, .iaload, (0, 0, 0), 0)) (by decide +kernel)) (by decide +kernel) rfl rfl hm_z
        obtain ⟨p350_z, hm_z⟩ := hm_z
        replace hm_z := rn_iadd (w := (((rg_v h328_z 188 b.toNatClampNeg) - v338_z) - v343_z) + (rg_v h340_z 168 2)) (am_cur_of (i := (95, 1, .iadd, (0, 0, 0), 0)) (by decide +kernel)) rfl hm_z
        replace hm_z := rn_aload_n (am_cur_of (i := (96, 1, .aload_n 0, (0, 0, 0), 0)) (by decide +kernel)) g0_z hm_z
        replace hm_z := rn_getR (x := 168) (am_cur_of (i := (97, 3, .getfield 24, (12, 23, 1407), 0)) (by decide +kernel)) (by decide +kernel) hm_z
        replace hm_z := rn_iconst (w := 0) (am_cur_of (i := (100, 1, .iconst 0, (0, 0, 0), 0)) (by decide +kernel)) (by decide) hm_z
        replace hm_z := rn_iaload (N := 12) (q := 0) (v := rg_v h340_z 168 0) (am_cur_of (i := (101, 1, .iaload, (0, 0, 0), 0)) (by decide +kernel)) (by decide +kernel) rfl rfl hm_z
        obtain ⟨p351_z, hm_z⟩ := hm_z
        replace hm_z := rn_cmp (am_cur_of (i := (102, 3, .if_icmp .le 12, (66, 0, 0), 0)) (by decide +kernel)) hm_z
        rcases hm_z with ⟨b352_z, hm_z⟩ | ⟨b352_z, hm_z⟩
        · replace b352_z : ((((rg_v h328_z 188 b.toNatClampNeg) - v338_z) - v343_z) + (rg_v h340_z 168 2)).toInt ≤ (rg_v h340_z 168 0).toInt := b352_z
          replace hm_z := rn_iload (am_cur_of (i := (114, 2, .iload 6, (0, 0, 0), 0)) (by decide +kernel)) g6_z hm_z
          replace hm_z := rn_aload_n (am_cur_of (i := (116, 1, .aload_n 0, (0, 0, 0), 0)) (by decide +kernel)) g0_z hm_z
          replace hm_z := rn_getR (x := 168) (am_cur_of (i := (117, 3, .getfield 24, (12, 23, 1407), 0)) (by decide +kernel)) (by decide +kernel) hm_z
          replace hm_z := rn_iconst (w := 2) (am_cur_of (i := (120, 1, .iconst 2, (0, 0, 0), 0)) (by decide +kernel)) (by decide) hm_z
          replace hm_z := rn_iaload (N := 12) (q := 2) (v := rg_v h340_z 168 2) (am_cur_of (i := (121, 1, .iaload, (0, 0, 0), 0)) (by decide +kernel)) (by decide +kernel) rfl rfl hm_z
          obtain ⟨p353_z, hm_z⟩ := hm_z
          replace hm_z := rn_iadd (w := (((rg_v h328_z 188 b.toNatClampNeg) - v338_z) - v343_z) + (rg_v h340_z 168 2)) (am_cur_of (i := (122, 1, .iadd, (0, 0, 0), 0)) (by decide +kernel)) rfl hm_z
          replace hm_z := rn_iret (am_cur_of (i := (123, 1, .ireturn, (0, 0, 0), 0)) (by decide +kernel)) hm_z
          obtain ⟨e354_z, e355_z⟩ := hm_z
          rw [e355_z]
          exact (nk_t (nk_t (nk_t (nk_t nk_r k323_z) k330_z) k337_z) k342_z)
        · replace b352_z : (rg_v h340_z 168 0).toInt < ((((rg_v h328_z 188 b.toNatClampNeg) - v338_z) - v343_z) + (rg_v h340_z 168 2)).toInt := b352_z
          replace hm_z := rn_aload_n (am_cur_of (i := (105, 1, .aload_n 0, (0, 0, 0), 0)) (by decide +kernel)) g0_z hm_z
          replace hm_z := rn_getR (x := 168) (am_cur_of (i := (106, 3, .getfield 24, (12, 23, 1407), 0)) (by decide +kernel)) (by decide +kernel) hm_z
          replace hm_z := rn_iconst (w := 0) (am_cur_of (i := (109, 1, .iconst 0, (0, 0, 0), 0)) (by decide +kernel)) (by decide) hm_z
          replace hm_z := rn_iaload (N := 12) (q := 0) (v := rg_v h340_z 168 0) (am_cur_of (i := (110, 1, .iaload, (0, 0, 0), 0)) (by decide +kernel)) (by decide +kernel) rfl rfl hm_z
          obtain ⟨p356_z, hm_z⟩ := hm_z
          replace hm_z := rn_goto (am_cur_of (i := (111, 3, .goto 12, (72, 0, 0), 0)) (by decide +kernel)) hm_z
          replace hm_z := rn_iret (am_cur_of (i := (123, 1, .ireturn, (0, 0, 0), 0)) (by decide +kernel)) hm_z
          obtain ⟨e357_z, e358_z⟩ := hm_z
          rw [e358_z]
          exact (nk_t (nk_t (nk_t (nk_t nk_r k323_z) k330_z) k337_z) k342_z)
      · replace b349_z : p = (0 : Int32) ∧ p.toInt = (0 : Int32).toInt := b349_z
        replace hm_z := rn_iload (am_cur_of (i := (84, 2, .iload 6, (0, 0, 0), 0)) (by decide +kernel)) g6_z hm_z
        replace hm_z := rn_iret (am_cur_of (i := (86, 1, .ireturn, (0, 0, 0), 0)) (by decide +kernel)) hm_z
        obtain ⟨e359_z, e360_z⟩ := hm_z
        rw [e360_z]
        exact (nk_t (nk_t (nk_t (nk_t nk_r k323_z) k330_z) k337_z) k342_z)
    · replace b346_z : (((rg_v h328_z 188 b.toNatClampNeg) - v338_z) - v343_z).toInt < (0 : Int32).toInt := b346_z
      replace hm_z := rn_iconst (w := 0) (am_cur_of (i := (72, 1, .iconst 0, (0, 0, 0), 0)) (by decide +kernel)) (by decide) hm_z
      replace hm_z := rn_goto (am_cur_of (i := (73, 3, .goto 5, (45, 0, 0), 0)) (by decide +kernel)) hm_z
      replace hm_z := rn_istore (am_cur_of (i := (78, 2, .istore 6, (0, 0, 0), 0)) (by decide +kernel)) hm_z
      obtain ⟨_, s361_z, s362_z, g6_z, hm_z⟩ := hm_z
      replace g0_z := s361_z 0 _ (by decide) rfl g0_z
      replace g1_z := s361_z 1 _ (by decide) rfl g1_z
      replace g2_z := s361_z 2 _ (by decide) rfl g2_z
      replace g3_z := s361_z 3 _ (by decide) rfl g3_z
      replace g4_z := s361_z 4 _ (by decide) rfl g4_z
      replace g5_z := s361_z 5 _ (by decide) rfl g5_z
      clear s361_z s362_z
      replace hm_z := rn_iload_n (am_cur_of (i := (80, 1, .iload_n 3, (0, 0, 0), 0)) (by decide +kernel)) g3_z hm_z
      replace hm_z := rn_if (am_cur_of (i := (81, 3, .ifCond .ne 6, (50, 0, 0), 0)) (by decide +kernel)) hm_z
      rcases hm_z with ⟨b363_z, hm_z⟩ | ⟨b363_z, hm_z⟩
      · replace b363_z : ¬ p = (0 : Int32) ∧ ¬ p.toInt = (0 : Int32).toInt := b363_z
        replace hm_z := rn_iload (am_cur_of (i := (87, 2, .iload 6, (0, 0, 0), 0)) (by decide +kernel)) g6_z hm_z
        replace hm_z := rn_aload_n (am_cur_of (i := (89, 1, .aload_n 0, (0, 0, 0), 0)) (by decide +kernel)) g0_z hm_z
        replace hm_z := rn_getR (x := 168) (am_cur_of (i := (90, 3, .getfield 24, (12, 23, 1407), 0)) (by decide +kernel)) (by decide +kernel) hm_z
        replace hm_z := rn_iconst (w := 2) (am_cur_of (i := (93, 1, .iconst 2, (0, 0, 0), 0)) (by decide +kernel)) (by decide) hm_z
        replace hm_z := rn_iaload (N := 12) (q := 2) (v := rg_v h340_z 168 2) (am_cur_of (i := (94, 1, .iaload, (0, 0, 0), 0)) (by decide +kernel)) (by decide +kernel) rfl rfl hm_z
        obtain ⟨p364_z, hm_z⟩ := hm_z
        replace hm_z := rn_iadd (w := (0 : Int32) + (rg_v h340_z 168 2)) (am_cur_of (i := (95, 1, .iadd, (0, 0, 0), 0)) (by decide +kernel)) rfl hm_z
        replace hm_z := rn_aload_n (am_cur_of (i := (96, 1, .aload_n 0, (0, 0, 0), 0)) (by decide +kernel)) g0_z hm_z
        replace hm_z := rn_getR (x := 168) (am_cur_of (i := (97, 3, .getfield 24, (12, 23, 1407), 0)) (by decide +kernel)) (by decide +kernel) hm_z
        replace hm_z := rn_iconst (w := 0) (am_cur_of (i := (100, 1, .iconst 0, (0, 0, 0), 0)) (by decide +kernel)) (by decide) hm_z
        replace hm_z := rn_iaload (N := 12) (q := 0) (v := rg_v h340_z 168 0) (am_cur_of (i := (101, 1, .iaload, (0, 0, 0), 0)) (by decide +kernel)) (by decide +kernel) rfl rfl hm_z
        obtain ⟨p365_z, hm_z⟩ := hm_z
        replace hm_z := rn_cmp (am_cur_of (i := (102, 3, .if_icmp .le 12, (66, 0, 0), 0)) (by decide +kernel)) hm_z
        rcases hm_z with ⟨b366_z, hm_z⟩ | ⟨b366_z, hm_z⟩
        · replace b366_z : ((0 : Int32) + (rg_v h340_z 168 2)).toInt ≤ (rg_v h340_z 168 0).toInt := b366_z
          replace hm_z := rn_iload (am_cur_of (i := (114, 2, .iload 6, (0, 0, 0), 0)) (by decide +kernel)) g6_z hm_z
          replace hm_z := rn_aload_n (am_cur_of (i := (116, 1, .aload_n 0, (0, 0, 0), 0)) (by decide +kernel)) g0_z hm_z
          replace hm_z := rn_getR (x := 168) (am_cur_of (i := (117, 3, .getfield 24, (12, 23, 1407), 0)) (by decide +kernel)) (by decide +kernel) hm_z
          replace hm_z := rn_iconst (w := 2) (am_cur_of (i := (120, 1, .iconst 2, (0, 0, 0), 0)) (by decide +kernel)) (by decide) hm_z
          replace hm_z := rn_iaload (N := 12) (q := 2) (v := rg_v h340_z 168 2) (am_cur_of (i := (121, 1, .iaload, (0, 0, 0), 0)) (by decide +kernel)) (by decide +kernel) rfl rfl hm_z
          obtain ⟨p367_z, hm_z⟩ := hm_z
          replace hm_z := rn_iadd (w := (0 : Int32) + (rg_v h340_z 168 2)) (am_cur_of (i := (122, 1, .iadd, (0, 0, 0), 0)) (by decide +kernel)) rfl hm_z
          replace hm_z := rn_iret (am_cur_of (i := (123, 1, .ireturn, (0, 0, 0), 0)) (by decide +kernel)) hm_z
          obtain ⟨e368_z, e369_z⟩ := hm_z
          rw [e369_z]
          exact (nk_t (nk_t (nk_t (nk_t nk_r k323_z) k330_z) k337_z) k342_z)
        · replace b366_z : (rg_v h340_z 168 0).toInt < ((0 : Int32) + (rg_v h340_z 168 2)).toInt := b366_z
          replace hm_z := rn_aload_n (am_cur_of (i := (105, 1, .aload_n 0, (0, 0, 0), 0)) (by decide +kernel)) g0_z hm_z
          replace hm_z := rn_getR (x := 168) (am_cur_of (i := (106, 3, .getfield 24, (12, 23, 1407), 0)) (by decide +kernel)) (by decide +kernel) hm_z
          replace hm_z := rn_iconst (w := 0) (am_cur_of (i := (109, 1, .iconst 0, (0, 0, 0), 0)) (by decide +kernel)) (by decide) hm_z
          replace hm_z := rn_iaload (N := 12) (q := 0) (v := rg_v h340_z 168 0) (am_cur_of (i := (110, 1, .iaload, (0, 0, 0), 0)) (by decide +kernel)) (by decide +kernel) rfl rfl hm_z
          obtain ⟨p370_z, hm_z⟩ := hm_z
          replace hm_z := rn_goto (am_cur_of (i := (111, 3, .goto 12, (72, 0, 0), 0)) (by decide +kernel)) hm_z
          replace hm_z := rn_iret (am_cur_of (i := (123, 1, .ireturn, (0, 0, 0), 0)) (by decide +kernel)) hm_z
          obtain ⟨e371_z, e372_z⟩ := hm_z
          rw [e372_z]
          exact (nk_t (nk_t (nk_t (nk_t nk_r k323_z) k330_z) k337_z) k342_z)
      · replace b363_z : p = (0 : Int32) ∧ p.toInt = (0 : Int32).toInt := b363_z
        replace hm_z := rn_iload (am_cur_of (i := (84, 2, .iload 6, (0, 0, 0), 0)) (by decide +kernel)) g6_z hm_z
        replace hm_z := rn_iret (am_cur_of (i := (86, 1, .ireturn, (0, 0, 0), 0)) (by decide +kernel)) hm_z
        obtain ⟨e373_z, e374_z⟩ := hm_z
        rw [e374_z]
        exact (nk_t (nk_t (nk_t (nk_t nk_r k323_z) k330_z) k337_z) k342_z)
  · replace b317_z : ¬ o = (0 : Int32) ∧ ¬ o.toInt = (0 : Int32).toInt := b317_z
    replace hm_z := rn_iconst (w := 1) (am_cur_of (i := (4, 1, .iconst 1, (0, 0, 0), 0)) (by decide +kernel)) (by decide) hm_z
    replace hm_z := rn_goto (am_cur_of (i := (5, 3, .goto 4, (5, 0, 0), 0)) (by decide +kernel)) hm_z
    replace hm_z := rn_istore (am_cur_of (i := (9, 2, .istore 4, (0, 0, 0), 0)) (by decide +kernel)) hm_z
    obtain ⟨_, s375_z, s376_z, g4_z, hm_z⟩ := hm_z
    replace g0_z := s375_z 0 _ (by decide) rfl g0_z
    replace g1_z := s375_z 1 _ (by decide) rfl g1_z
    replace g2_z := s375_z 2 _ (by decide) rfl g2_z
    replace g3_z := s375_z 3 _ (by decide) rfl g3_z
    clear s375_z s376_z
    replace hm_z := rn_aload_n (am_cur_of (i := (11, 1, .aload_n 0, (0, 0, 0), 0)) (by decide +kernel)) g0_z hm_z
    replace hm_z := rn_iload_n (am_cur_of (i := (12, 1, .iload_n 1, (0, 0, 0), 0)) (by decide +kernel)) g1_z hm_z
    replace hm_z := rn_iload (am_cur_of (i := (13, 2, .iload 4, (0, 0, 0), 0)) (by decide +kernel)) g4_z hm_z
    replace hm_z := rn_callV (M' := am_m188) (o := 164) (ar := [.int 1, .int b]) (rest := []) (L := lv_args 0 [.ref 164, .int b, .int 1]) (am_cur_of (i := (15, 3, .invokevirtual 403, (188, 1783, 3), 0)) (by decide +kernel)) rfl rfl rfl rfl hm_z
    obtain ⟨r377_z, h378_z, q379_z, hm_z⟩ := hm_z
    have k380_z := nq_188 q379_z
    obtain ⟨v381_z, rfl⟩ := rn_ret (M := am_m188) rfl (by decide) q379_z
    replace hm_z : rn _ _ _ _ [.int v381_z] _ _ _ := hm_z
    replace hm_z := rn_istore (am_cur_of (i := (18, 2, .istore 5, (0, 0, 0), 0)) (by decide +kernel)) hm_z
    obtain ⟨_, s382_z, s383_z, g5_z, hm_z⟩ := hm_z
    replace g0_z := s382_z 0 _ (by decide) rfl g0_z
    replace g1_z := s382_z 1 _ (by decide) rfl g1_z
    replace g2_z := s382_z 2 _ (by decide) rfl g2_z
    replace g3_z := s382_z 3 _ (by decide) rfl g3_z
    replace g4_z := s382_z 4 _ (by decide) rfl g4_z
    clear s382_z s383_z
    replace hm_z := rn_aload_n (am_cur_of (i := (20, 1, .aload_n 0, (0, 0, 0), 0)) (by decide +kernel)) g0_z hm_z
    replace hm_z := rn_iload_n (am_cur_of (i := (21, 1, .iload_n 1, (0, 0, 0), 0)) (by decide +kernel)) g1_z hm_z
    replace hm_z := rn_iload (am_cur_of (i := (22, 2, .iload 4, (0, 0, 0), 0)) (by decide +kernel)) g4_z hm_z
    replace hm_z := rn_iload (am_cur_of (i := (24, 2, .iload 5, (0, 0, 0), 0)) (by decide +kernel)) g5_z hm_z
    replace hm_z := rn_iconst (w := 0) (am_cur_of (i := (26, 1, .iconst 0, (0, 0, 0), 0)) (by decide +kernel)) (by decide) hm_z
    replace hm_z := rn_callV (M' := am_m189) (o := 164) (ar := [.int 0, .int v381_z, .int 1, .int b]) (rest := []) (L := lv_args 0 [.ref 164, .int b, .int 1, .int v381_z, .int 0]) (am_cur_of (i := (27, 3, .invokevirtual 392, (189, 1787, 3), 0)) (by decide +kernel)) rfl rfl rfl rfl hm_z
    obtain ⟨r384_z, h385_z, q386_z, hm_z⟩ := hm_z
    have k387_z := nq_189 q386_z
    have vo := rn_void rfl q386_z
    subst vo
    replace hm_z : rn _ _ _ _ [] _ _ _ := hm_z
    replace hm_z := rn_aload_n (am_cur_of (i := (30, 1, .aload_n 0, (0, 0, 0), 0)) (by decide +kernel)) g0_z hm_z
    replace hm_z := rn_getR (x := 188) (am_cur_of (i := (31, 3, .getfield 85, (12, 50, 1434), 0)) (by decide +kernel)) (by decide +kernel) hm_z
    replace hm_z := rn_iload_n (am_cur_of (i := (34, 1, .iload_n 1, (0, 0, 0), 0)) (by decide +kernel)) g1_z hm_z
    replace hm_z := rn_iaload (N := 4) (q := b.toNatClampNeg) (v := rg_v h385_z 188 b.toNatClampNeg) (am_cur_of (i := (35, 1, .iaload, (0, 0, 0), 0)) (by decide +kernel)) (by decide +kernel) rfl rfl hm_z
    obtain ⟨p388_z, hm_z⟩ := hm_z
    replace hm_z := rn_aload_n (am_cur_of (i := (36, 1, .aload_n 0, (0, 0, 0), 0)) (by decide +kernel)) g0_z hm_z
    replace hm_z := rn_iconst (w := 0) (am_cur_of (i := (37, 1, .iconst 0, (0, 0, 0), 0)) (by decide +kernel)) (by decide) hm_z
    replace hm_z := rn_aload_n (am_cur_of (i := (38, 1, .aload_n 0, (0, 0, 0), 0)) (by decide +kernel)) g0_z hm_z
    replace hm_z := rn_getR (x := 188) (am_cur_of (i := (39, 3, .getfield 85, (12, 50, 1434), 0)) (by decide +kernel)) (by decide +kernel) hm_z
    replace hm_z := rn_iload_n (am_cur_of (i := (42, 1, .iload_n 1, (0, 0, 0), 0)) (by decide +kernel)) g1_z hm_z
    replace hm_z := rn_iaload (N := 4) (q := b.toNatClampNeg) (v := rg_v h385_z 188 b.toNatClampNeg) (am_cur_of (i := (43, 1, .iaload, (0, 0, 0), 0)) (by decide +kernel)) (by decide +kernel) rfl rfl hm_z
    obtain ⟨p389_z, hm_z⟩ := hm_z
    replace hm_z := rn_bipush (w := 100) (am_cur_of (i := (44, 2, .bipush 100, (0, 0, 0), 0)) (by decide +kernel)) (by decide) hm_z
    replace hm_z := rn_idiv (w := (rg_v h385_z 188 b.toNatClampNeg) / 100) (am_cur_of (i := (46, 1, .idiv, (0, 0, 0), 0)) (by decide +kernel)) rfl hm_z
    obtain ⟨d390_z, hm_z⟩ := hm_z
    replace hm_z := rn_bipush (w := 20) (am_cur_of (i := (47, 2, .bipush 20, (0, 0, 0), 0)) (by decide +kernel)) (by decide) hm_z
    replace hm_z := rn_iload (am_cur_of (i := (49, 2, .iload 4, (0, 0, 0), 0)) (by decide +kernel)) g4_z hm_z
    replace hm_z := rn_imul (w := 20) (am_cur_of (i := (51, 1, .imul, (0, 0, 0), 0)) (by decide +kernel)) (by decide) hm_z
    replace hm_z := rn_iadd (w := ((rg_v h385_z 188 b.toNatClampNeg) / 100) + 20) (am_cur_of (i := (52, 1, .iadd, (0, 0, 0), 0)) (by decide +kernel)) rfl hm_z
    replace hm_z := rn_sipush (w := 999) (am_cur_of (i := (53, 3, .sipush 999, (0, 0, 0), 0)) (by decide +kernel)) (by decide) hm_z
    replace hm_z := rn_callV (M' := am_m190) (o := 164) (ar := [.int 999, .int (((rg_v h385_z 188 b.toNatClampNeg) / 100) + 20), .int 0]) (rest := [.int (rg_v h385_z 188 b.toNatClampNeg)]) (L := lv_args 0 [.ref 164, .int 0, .int (((rg_v h385_z 188 b.toNatClampNeg) / 100) + 20), .int 999]) (am_cur_of (i := (56, 3, .invokevirtual 396, (190, 1791, 3), 0)) (by decide +kernel)) rfl rfl rfl rfl hm_z
    obtain ⟨r391_z, h392_z, q393_z, hm_z⟩ := hm_z
    have k394_z := nq_190 q393_z
    obtain ⟨v395_z, rfl⟩ := rn_ret (M := am_m190) rfl (by decide) q393_z
    replace hm_z : rn _ _ _ _ [.int v395_z, .int (rg_v h385_z 188 b.toNatClampNeg)] _ _ _ := hm_z
    replace hm_z := rn_isub (w := (rg_v h385_z 188 b.toNatClampNeg) - v395_z) (am_cur_of (i := (59, 1, .isub, (0, 0, 0), 0)) (by decide +kernel)) rfl hm_z
    replace hm_z := rn_aload_n (am_cur_of (i := (60, 1, .aload_n 0, (0, 0, 0), 0)) (by decide +kernel)) g0_z hm_z
    replace hm_z := rn_callV (M' := am_m201) (o := 164) (ar := []) (rest := [.int ((rg_v h385_z 188 b.toNatClampNeg) - v395_z)]) (L := lv_args 0 [.ref 164]) (am_cur_of (i := (61, 3, .invokevirtual 406, (201, 1836, 3), 0)) (by decide +kernel)) rfl rfl rfl rfl hm_z
    obtain ⟨r396_z, h397_z, q398_z, hm_z⟩ := hm_z
    have k399_z := nq_201 q398_z
    obtain ⟨v400_z, rfl⟩ := rn_ret (M := am_m201) rfl (by decide) q398_z
    replace hm_z : rn _ _ _ _ [.int v400_z, .int ((rg_v h385_z 188 b.toNatClampNeg) - v395_z)] _ _ _ := hm_z
    replace hm_z := rn_isub (w := ((rg_v h385_z 188 b.toNatClampNeg) - v395_z) - v400_z) (am_cur_of (i := (64, 1, .isub, (0, 0, 0), 0)) (by decide +kernel)) rfl hm_z
    replace hm_z := rn_istore (am_cur_of (i := (65, 2, .istore 6, (0, 0, 0), 0)) (by decide +kernel)) hm_z
    obtain ⟨_, s401_z, s402_z, g6_z, hm_z⟩ := hm_z
    replace g0_z := s401_z 0 _ (by decide) rfl g0_z
    replace g1_z := s401_z 1 _ (by decide) rfl g1_z
    replace g2_z := s401_z 2 _ (by decide) rfl g2_z
    replace g3_z := s401_z 3 _ (by decide) rfl g3_z
    replace g4_z := s401_z 4 _ (by decide) rfl g4_z
    replace g5_z := s401_z 5 _ (by decide) rfl g5_z
    clear s401_z s402_z
    replace hm_z := rn_iload (am_cur_of (i := (67, 2, .iload 6, (0, 0, 0), 0)) (by decide +kernel)) g6_z hm_z
    replace hm_z := rn_if (am_cur_of (i := (69, 3, .ifCond .ge 7, (44, 0, 0), 0)) (by decide +kernel)) hm_z
    rcases hm_z with ⟨b403_z, hm_z⟩ | ⟨b403_z, hm_z⟩
    · replace b403_z : (0 : Int32).toInt ≤ (((rg_v h385_z 188 b.toNatClampNeg) - v395_z) - v400_z).toInt := b403_z
      replace hm_z := rn_iload (am_cur_of (i := (76, 2, .iload 6, (0, 0, 0), 0)) (by decide +kernel)) g6_z hm_z
      replace hm_z := rn_istore (am_cur_of (i := (78, 2, .istore 6, (0, 0, 0), 0)) (by decide +kernel)) hm_z
      obtain ⟨_, s404_z, s405_z, g6_z, hm_z⟩ := hm_z
      replace g0_z := s404_z 0 _ (by decide) rfl g0_z
      replace g1_z := s404_z 1 _ (by decide) rfl g1_z
      replace g2_z := s404_z 2 _ (by decide) rfl g2_z
      replace g3_z := s404_z 3 _ (by decide) rfl g3_z
      replace g4_z := s404_z 4 _ (by decide) rfl g4_z
      replace g5_z := s404_z 5 _ (by decide) rfl g5_z
      clear s404_z s405_z
      replace hm_z := rn_iload_n (am_cur_of (i := (80, 1, .iload_n 3, (0, 0, 0), 0)) (by decide +kernel)) g3_z hm_z
      replace hm_z := rn_if (am_cur_of (i := (81, 3, .ifCond .ne 6, (50, 0, 0), 0)) (by decide +kernel)) hm_z
      rcases hm_z with ⟨b406_z, hm_z⟩ | ⟨b406_z, hm_z⟩
      · replace b406_z : ¬ p = (0 : Int32) ∧ ¬ p.toInt = (0 : Int32).toInt := b406_z
        replace hm_z := rn_iload (am_cur_of (i := (87, 2, .iload 6, (0, 0, 0), 0)) (by decide +kernel)) g6_z hm_z
        replace hm_z := rn_aload_n (am_cur_of (i := (89, 1, .aload_n 0, (0, 0, 0), 0)) (by decide +kernel)) g0_z hm_z
        replace hm_z := rn_getR (x := 168) (am_cur_of (i := (90, 3, .getfield 24, (12, 23, 1407), 0)) (by decide +kernel)) (by decide +kernel) hm_z
        replace hm_z := rn_iconst (w := 2) (am_cur_of (i := (93, 1, .iconst 2, (0, 0, 0), 0)) (by decide +kernel)) (by decide) hm_z
        replace hm_z := rn_iaload (N := 12) (q := 2) (v := rg_v h397_z 168 2) (am_cur_of (i := (94, 1, .iaload, (0, 0, 0), 0)) (by decide +kernel)) (by decide +kernel) rfl rfl hm_z
        obtain ⟨p407_z, hm_z⟩ := hm_z
        replace hm_z := rn_iadd (w := (((rg_v h385_z 188 b.toNatClampNeg) - v395_z) - v400_z) + (rg_v h397_z 168 2)) (am_cur_of (i := (95, 1, .iadd, (0, 0, 0), 0)) (by decide +kernel)) rfl hm_z
        replace hm_z := rn_aload_n (am_cur_of (i := (96, 1, .aload_n 0, (0, 0, 0), 0)) (by decide +kernel)) g0_z hm_z
        replace hm_z := rn_getR (x := 168) (am_cur_of (i := (97, 3, .getfield 24, (12, 23, 1407), 0)) (by decide +kernel)) (by decide +kernel) hm_z
        replace hm_z := rn_iconst (w := 0) (am_cur_of (i := (100, 1, .iconst 0, (0, 0, 0), 0)) (by decide +kernel)) (by decide) hm_z
        replace hm_z := rn_iaload (N := 12) (q := 0) (v := rg_v h397_z 168 0) (am_cur_of (i := (101, 1, .iaload, (0, 0, 0), 0)) (by decide +kernel)) (by decide +kernel) rfl rfl hm_z
        obtain ⟨p408_z, hm_z⟩ := hm_z
        replace hm_z := rn_cmp (am_cur_of (i := (102, 3, .if_icmp .le 12, (66, 0, 0), 0)) (by decide +kernel)) hm_z
        rcases hm_z with ⟨b409_z, hm_z⟩ | ⟨b409_z, hm_z⟩
        · replace b409_z : ((((rg_v h385_z 188 b.toNatClampNeg) - v395_z) - v400_z) + (rg_v h397_z 168 2)).toInt ≤ (rg_v h397_z 168 0).toInt := b409_z
          replace hm_z := rn_iload (am_cur_of (i := (114, 2, .iload 6, (0, 0, 0), 0)) (by decide +kernel)) g6_z hm_z
          replace hm_z := rn_aload_n (am_cur_of (i := (116, 1, .aload_n 0, (0, 0, 0), 0)) (by decide +kernel)) g0_z hm_z
          replace hm_z := rn_getR (x := 168) (am_cur_of (i := (117, 3, .getfield 24, (12, 23, 1407), 0)) (by decide +kernel)) (by decide +kernel) hm_z
          replace hm_z := rn_iconst (w := 2) (am_cur_of (i := (120, 1, .iconst 2, (0, 0, 0), 0)) (by decide +kernel)) (by decide) hm_z
          replace hm_z := rn_iaload (N := 12) (q := 2) (v := rg_v h397_z 168 2) (am_cur_of (i := (121, 1, .iaload, (0, 0, 0), 0)) (by decide +kernel)) (by decide +kernel) rfl rfl hm_z
          obtain ⟨p410_z, hm_z⟩ := hm_z
          replace hm_z := rn_iadd (w := (((rg_v h385_z 188 b.toNatClampNeg) - v395_z) - v400_z) + (rg_v h397_z 168 2)) (am_cur_of (i := (122, 1, .iadd, (0, 0, 0), 0)) (by decide +kernel)) rfl hm_z
          replace hm_z := rn_iret (am_cur_of (i := (123, 1, .ireturn, (0, 0, 0), 0)) (by decide +kernel)) hm_z
          obtain ⟨e411_z, e412_z⟩ := hm_z
          rw [e412_z]
          exact (nk_t (nk_t (nk_t (nk_t nk_r k380_z) k387_z) k394_z) k399_z)
        · replace b409_z : (rg_v h397_z 168 0).toInt < ((((rg_v h385_z 188 b.toNatClampNeg) - v395_z) - v400_z) + (rg_v h397_z 168 2)).toInt := b409_z
          replace hm_z := rn_aload_n (am_cur_of (i := (105, 1, .aload_n 0, (0, 0, 0), 0)) (by decide +kernel)) g0_z hm_z
          replace hm_z := rn_getR (x := 168) (am_cur_of (i := (106, 3, .getfield 24, (12, 23, 1407), 0)) (by decide +kernel)) (by decide +kernel) hm_z
          replace hm_z := rn_iconst (w := 0) (am_cur_of (i := (109, 1, .iconst 0, (0, 0, 0), 0)) (by decide +kernel)) (by decide) hm_z
          replace hm_z := rn_iaload (N := 12) (q := 0) (v := rg_v h397_z 168 0) (am_cur_of (i := (110, 1, .iaload, (0, 0, 0), 0)) (by decide +kernel)) (by decide +kernel) rfl rfl hm_z
          obtain ⟨p413_z, hm_z⟩ := hm_z
          replace hm_z := rn_goto (am_cur_of (i := (111, 3, .goto 12, (72, 0, 0), 0)) (by decide +kernel)) hm_z
          replace hm_z := rn_iret (am_cur_of (i := (123, 1, .ireturn, (0, 0, 0), 0)) (by decide +kernel)) hm_z
          obtain ⟨e414_z, e415_z⟩ := hm_z
          rw [e415_z]
          exact (nk_t (nk_t (nk_t (nk_t nk_r k380_z) k387_z) k394_z) k399_z)
      · replace b406_z : p = (0 : Int32) ∧ p.toInt = (0 : Int32).toInt := b406_z
        replace hm_z := rn_iload (am_cur_of (i := (84, 2, .iload 6, (0, 0, 0), 0)) (by decide +kernel)) g6_z hm_z
        replace hm_z := rn_iret (am_cur_of (i := (86, 1, .ireturn, (0, 0, 0), 0)) (by decide +kernel)) hm_z
        obtain ⟨e416_z, e417_z⟩ := hm_z
        rw [e417_z]
        exact (nk_t (nk_t (nk_t (nk_t nk_r k380_z) k387_z) k394_z) k399_z)
    · replace b403_z : (((rg_v h385_z 188 b.toNatClampNeg) - v395_z) - v400_z).toInt < (0 : Int32).toInt := b403_z
      replace hm_z := rn_iconst (w := 0) (am_cur_of (i := (72, 1, .iconst 0, (0, 0, 0), 0)) (by decide +kernel)) (by decide) hm_z
      replace hm_z := rn_goto (am_cur_of (i := (73, 3, .goto 5, (45, 0, 0), 0)) (by decide +kernel)) hm_z
      replace hm_z := rn_istore (am_cur_of (i := (78, 2, .istore 6, (0, 0, 0), 0)) (by decide +kernel)) hm_z
      obtain ⟨_, s418_z, s419_z, g6_z, hm_z⟩ := hm_z
      replace g0_z := s418_z 0 _ (by decide) rfl g0_z
      replace g1_z := s418_z 1 _ (by decide) rfl g1_z
      replace g2_z := s418_z 2 _ (by decide) rfl g2_z
      replace g3_z := s418_z 3 _ (by decide) rfl g3_z
      replace g4_z := s418_z 4 _ (by decide) rfl g4_z
      replace g5_z := s418_z 5 _ (by decide) rfl g5_z
      clear s418_z s419_z
      replace hm_z := rn_iload_n (am_cur_of (i := (80, 1, .iload_n 3, (0, 0, 0), 0)) (by decide +kernel)) g3_z hm_z
      replace hm_z := rn_if (am_cur_of (i := (81, 3, .ifCond .ne 6, (50, 0, 0), 0)) (by decide +kernel)) hm_z
      rcases hm_z with ⟨b420_z, hm_z⟩ | ⟨b420_z, hm_z⟩
      · replace b420_z : ¬ p = (0 : Int32) ∧ ¬ p.toInt = (0 : Int32).toInt := b420_z
        replace hm_z := rn_iload (am_cur_of (i := (87, 2, .iload 6, (0, 0, 0), 0)) (by decide +kernel)) g6_z hm_z
        replace hm_z := rn_aload_n (am_cur_of (i := (89, 1, .aload_n 0, (0, 0, 0), 0)) (by decide +kernel)) g0_z hm_z
        replace hm_z := rn_getR (x := 168) (am_cur_of (i := (90, 3, .getfield 24, (12, 23, 1407), 0)) (by decide +kernel)) (by decide +kernel) hm_z
        replace hm_z := rn_iconst (w := 2) (am_cur_of (i := (93, 1, .iconst 2, (0, 0, 0), 0)) (by decide +kernel)) (by decide) hm_z
        replace hm_z := rn_iaload (N := 12) (q := 2) (v := rg_v h397_z 168 2) (am_cur_of (i := (94, 1, .iaload, (0, 0, 0), 0)) (by decide +kernel)) (by decide +kernel) rfl rfl hm_z
        obtain ⟨p421_z, hm_z⟩ := hm_z
        replace hm_z := rn_iadd (w := (0 : Int32) + (rg_v h397_z 168 2)) (am_cur_of (i := (95, 1, .iadd, (0, 0, 0), 0)) (by decide +kernel)) rfl hm_z
        replace hm_z := rn_aload_n (am_cur_of (i := (96, 1, .aload_n 0, (0, 0, 0), 0)) (by decide +kernel)) g0_z hm_z
        replace hm_z := rn_getR (x := 168) (am_cur_of (i := (97, 3, .getfield 24, (12, 23, 1407), 0)) (by decide +kernel)) (by decide +kernel) hm_z
        replace hm_z := rn_iconst (w := 0) (am_cur_of (i := (100, 1, .iconst 0, (0, 0, 0), 0)) (by decide +kernel)) (by decide) hm_z
        replace hm_z := rn_iaload (N := 12) (q := 0) (v := rg_v h397_z 168 0) (am_cur_of (i := (101, 1, .iaload, (0, 0, 0), 0)) (by decide +kernel)) (by decide +kernel) rfl rfl hm_z
        obtain ⟨p422_z, hm_z⟩ := hm_z
        replace hm_z := rn_cmp (am_cur_of (i := (102, 3, .if_icmp .le 12, (66, 0, 0), 0)) (by decide +kernel)) hm_z
        rcases hm_z with ⟨b423_z, hm_z⟩ | ⟨b423_z, hm_z⟩
        · replace b423_z : ((0 : Int32) + (rg_v h397_z 168 2)).toInt ≤ (rg_v h397_z 168 0).toInt := b423_z
          replace hm_z := rn_iload (am_cur_of (i := (114, 2, .iload 6, (0, 0, 0), 0)) (by decide +kernel)) g6_z hm_z
          replace hm_z := rn_aload_n (am_cur_of (i := (116, 1, .aload_n 0, (0, 0, 0), 0)) (by decide +kernel)) g0_z hm_z
          replace hm_z := rn_getR (x := 168) (am_cur_of (i := (117, 3, .getfield 24, (12, 23, 1407), 0)) (by decide +kernel)) (by decide +kernel) hm_z
          replace hm_z := rn_iconst (w := 2) (am_cur_of (i := (120, 1, .iconst 2, (0, 0, 0), 0)) (by decide +kernel)) (by decide) hm_z
          replace hm_z := rn_iaload (N := 12) (q := 2) (v := rg_v h397_z 168 2) (am_cur_of (i := (121, 1, .iaload, (0, 0, 0), 0)) (by decide +kernel)) (by decide +kernel) rfl rfl hm_z
          obtain ⟨p424_z, hm_z⟩ := hm_z
          replace hm_z := rn_iadd (w := (0 : Int32) + (rg_v h397_z 168 2)) (am_cur_of (i := (122, 1, .iadd, (0, 0, 0), 0)) (by decide +kernel)) rfl hm_z
          replace hm_z := rn_iret (am_cur_of (i := (123, 1, .ireturn, (0, 0, 0), 0)) (by decide +kernel)) hm_z
          obtain ⟨e425_z, e426_z⟩ := hm_z
          rw [e426_z]
          exact (nk_t (nk_t (nk_t (nk_t nk_r k380_z) k387_z) k394_z) k399_z)
        · replace b423_z : (rg_v h397_z 168 0).toInt < ((0 : Int32) + (rg_v h397_z 168 2)).toInt := b423_z
          replace hm_z := rn_aload_n (am_cur_of (i := (105, 1, .aload_n 0, (0, 0, 0), 0)) (by decide +kernel)) g0_z hm_z
          replace hm_z := rn_getR (x := 168) (am_cur_of (i := (106, 3, .getfield 24, (12, 23, 1407), 0)) (by decide +kernel)) (by decide +kernel) hm_z
          replace hm_z := rn_iconst (w := 0) (am_cur_of (i := (109, 1, .iconst 0, (0, 0, 0), 0)) (by decide +kernel)) (by decide) hm_z
          replace hm_z := rn_iaload (N := 12) (q := 0) (v := rg_v h397_z 168 0) (am_cur_of (i := (110, 1, .iaload, (0, 0, 0), 0)) (by decide +kernel)) (by decide +kernel) rfl rfl hm_z
          obtain ⟨p427_z, hm_z⟩ := hm_z
          replace hm_z := rn_goto (am_cur_of (i := (111, 3, .goto 12, (72, 0, 0), 0)) (by decide +kernel)) hm_z
          replace hm_z := rn_iret (am_cur_of (i := (123, 1, .ireturn, (0, 0, 0), 0)) (by decide +kernel)) hm_z
          obtain ⟨e428_z, e429_z⟩ := hm_z
          rw [e429_z]
          exact (nk_t (nk_t (nk_t (nk_t nk_r k380_z) k387_z) k394_z) k399_z)
      · replace b420_z : p = (0 : Int32) ∧ p.toInt = (0 : Int32).toInt := b420_z
        replace hm_z := rn_iload (am_cur_of (i := (84, 2, .iload 6, (0, 0, 0), 0)) (by decide +kernel)) g6_z hm_z
        replace hm_z := rn_iret (am_cur_of (i := (86, 1, .ireturn, (0, 0, 0), 0)) (by decide +kernel)) hm_z
        obtain ⟨e430_z, e431_z⟩ := hm_z
        rw [e431_z]
        exact (nk_t (nk_t (nk_t (nk_t nk_r k380_z) k387_z) k394_z) k399_z)
theorem fk_186 {nst : Nat} {r : Option Value} {g g' : am_H} {x : Int32}  (hm_z : rn nst am_m186 0 (lv_args 0 [.ref 164, .int x]) [] g r g') : bk g g' := by
  have g0_z : am_get (lv_args 0 [.ref 164, .int x]) 0 = some (.ref 164) := rfl
  have g1_z : am_get (lv_args 0 [.ref 164, .int x]) 1 = some (.int x) := rfl
  replace hm_z := rn_aload_n (am_cur_of (i := (0, 1, .aload_n 0, (0, 0, 0), 0)) (by decide +kernel)) g0_z hm_z
  replace hm_z := rn_iload_n (am_cur_of (i := (1, 1, .iload_n 1, (0, 0, 0), 0)) (by decide +kernel)) g1_z hm_z
  replace hm_z := rn_put (am_cur_of (i := (2, 3, .putfield 139, (12, 2, 1386), 0)) (by decide +kernel)) (by decide +kernel) hm_z
  replace hm_z := rn_iconst (w := 0) (am_cur_of (i := (5, 1, .iconst 0, (0, 0, 0), 0)) (by decide +kernel)) (by decide) hm_z
  replace hm_z := rn_iret (am_cur_of (i := (6, 1, .ireturn, (0, 0, 0), 0)) (by decide +kernel)) hm_z
  obtain ⟨e432_z, e433_z⟩ := hm_z
  rw [e433_z]
  exact (bk_u (by decide) bk_r)
theorem fk_148 {nst : Nat} {r : Option Value} {g g' : am_H} {x : Int32}  (hm_z : rn nst am_m148 0 (lv_args 0 [.ref 164, .int x]) [] g r g') : bk g g' := by
  have g0_z : am_get (lv_args 0 [.ref 164, .int x]) 0 = some (.ref 164) := rfl
  have g1_z : am_get (lv_args 0 [.ref 164, .int x]) 1 = some (.int x) := rfl
  replace hm_z := rn_aload_n (am_cur_of (i := (0, 1, .aload_n 0, (0, 0, 0), 0)) (by decide +kernel)) g0_z hm_z
  replace hm_z := rn_aload_n (am_cur_of (i := (1, 1, .aload_n 0, (0, 0, 0), 0)) (by decide +kernel)) g0_z hm_z
  replace hm_z := rn_getL (v := rg_l g 164 59) (am_cur_of (i := (2, 3, .getfield 358, (12, 59, 1443), 0)) (by decide +kernel)) (by decide +kernel) rfl hm_z
  replace hm_z := rn_ldc2 (w := 1103515245) (am_cur_of (i := (5, 3, .ldc2_w 377, (0, 0, 1380), 1103515245)) (by decide +kernel)) (by decide) hm_z
  replace hm_z := rn_lmul (w := (rg_l g 164 59) * 1103515245) (am_cur_of (i := (8, 1, .lmul, (0, 0, 0), 0)) (by decide +kernel)) rfl hm_z
  replace hm_z := rn_ldc2 (w := 12345) (am_cur_of (i := (9, 3, .ldc2_w 379, (0, 0, 1381), 12345)) (by decide +kernel)) (by decide) hm_z
  replace hm_z := rn_ladd (w := ((rg_l g 164 59) * 1103515245) + 12345) (am_cur_of (i := (12, 1, .ladd, (0, 0, 0), 0)) (by decide +kernel)) rfl hm_z
  replace hm_z := rn_ldc2 (w := 2147483647) (am_cur_of (i := (13, 3, .ldc2_w 381, (0, 0, 1382), 2147483647)) (by decide +kernel)) (by decide) hm_z
  replace hm_z := rn_land (w := (((rg_l g 164 59) * 1103515245) + 12345) &&& 2147483647) (am_cur_of (i := (16, 1, .land, (0, 0, 0), 0)) (by decide +kernel)) rfl hm_z
  replace hm_z := rn_put (am_cur_of (i := (17, 3, .putfield 358, (12, 59, 1443), 0)) (by decide +kernel)) (by decide +kernel) hm_z
  replace hm_z := rn_aload_n (am_cur_of (i := (20, 1, .aload_n 0, (0, 0, 0), 0)) (by decide +kernel)) g0_z hm_z
  replace hm_z := rn_getL (v := (((rg_l g 164 59) * 1103515245) + 12345) &&& 2147483647) (am_cur_of (i := (21, 3, .getfield 358, (12, 59, 1443), 0)) (by decide +kernel)) (by decide +kernel) (show rg_l (am_up g 164 59 (.long ((((rg_l g 164 59) * 1103515245) + 12345) &&& 2147483647))) 164 59 = (((rg_l g 164 59) * 1103515245) + 12345) &&& 2147483647 from rfl) hm_z
  replace hm_z := rn_ldc2 (w := 65536) (am_cur_of (i := (24, 3, .ldc2_w 383, (0, 0, 1383), 65536)) (by decide +kernel)) (by decide) hm_z
  replace hm_z := rn_ldiv (w := ((((rg_l g 164 59) * 1103515245) + 12345) &&& 2147483647) / 65536) (am_cur_of (i := (27, 1, .ldiv, (0, 0, 0), 0)) (by decide +kernel)) rfl hm_z
  obtain ⟨d434_z, hm_z⟩ := hm_z
  replace hm_z := rn_iload_n (am_cur_of (i := (28, 1, .iload_n 1, (0, 0, 0), 0)) (by decide +kernel)) g1_z hm_z
  replace hm_z := rn_i2l (w := x.toInt64) (am_cur_of (i := (29, 1, .i2l, (0, 0, 0), 0)) (by decide +kernel)) rfl hm_z
  replace hm_z := rn_lrem (w := (((((rg_l g 164 59) * 1103515245) + 12345) &&& 2147483647) / 65536) - (((((rg_l g 164 59) * 1103515245) + 12345) &&& 2147483647) / 65536) / x.toInt64 * x.toInt64) (am_cur_of (i := (30, 1, .lrem, (0, 0, 0), 0)) (by decide +kernel)) rfl hm_z
  obtain ⟨d435_z, hm_z⟩ := hm_z
  replace hm_z := rn_l2i (w := ((((((rg_l g 164 59) * 1103515245) + 12345) &&& 2147483647) / 65536) - (((((rg_l g 164 59) * 1103515245) + 12345) &&& 2147483647) / 65536) / x.toInt64 * x.toInt64).toInt32) (am_cur_of (i := (31, 1, .l2i, (0, 0, 0), 0)) (by decide +kernel)) rfl hm_z
  replace hm_z := rn_iret (am_cur_of (i := (32, 1, .ireturn, (0, 0, 0), 0)) (by decide +kernel)) hm_z
  obtain ⟨e436_z, e437_z⟩ := hm_z
  rw [e437_z]
  exact (bk_u (by decide) bk_r)
theorem fk_199_1 {nst : Nat} {r : Option Value} {g g' : am_H} {o : Int32} {p : Int32}  (hm_z : rn nst am_m199 0 (lv_args 0 [.ref 164, .int 1, .int o, .int p]) [] g r g') : bk g g' := by
  have g0_z : am_get (lv_args 0 [.ref 164, .int 1, .int o, .int p]) 0 = some (.ref 164) := rfl
  have g1_z : am_get (lv_args 0 [.ref 164, .int 1, .int o, .int p]) 1 = some (.int 1) := rfl
  have g2_z : am_get (lv_args 0 [.ref 164, .int 1, .int o, .int p]) 2 = some (.int o) := rfl
  have g3_z : am_get (lv_args 0 [.ref 164, .int 1, .int o, .int p]) 3 = some (.int p) := rfl
  replace hm_z := rn_aload_n (am_cur_of (i := (0, 1, .aload_n 0, (0, 0, 0), 0)) (by decide +kernel)) g0_z hm_z
  replace hm_z := rn_getR (x := 188) (am_cur_of (i := (1, 3, .getfield 85, (12, 50, 1434), 0)) (by decide +kernel)) (by decide +kernel) hm_z
  replace hm_z := rn_iload_n (am_cur_of (i := (4, 1, .iload_n 1, (0, 0, 0), 0)) (by decide +kernel)) g1_z hm_z
  replace hm_z := rn_aload_n (am_cur_of (i := (5, 1, .aload_n 0, (0, 0, 0), 0)) (by decide +kernel)) g0_z hm_z
  replace hm_z := rn_iload_n (am_cur_of (i := (6, 1, .iload_n 1, (0, 0, 0), 0)) (by decide +kernel)) g1_z hm_z
  replace hm_z := rn_iload_n (am_cur_of (i := (7, 1, .iload_n 2, (0, 0, 0), 0)) (by decide +kernel)) g2_z hm_z
  replace hm_z := rn_iload_n (am_cur_of (i := (8, 1, .iload_n 3, (0, 0, 0), 0)) (by decide +kernel)) g3_z hm_z
  replace hm_z := rn_callV (M' := am_m200) (o := 164) (ar := [.int p, .int o, .int 1]) (rest := [.int 1, .ref 188]) (L := lv_args 0 [.ref 164, .int 1, .int o, .int p]) (am_cur_of (i := (9, 3, .invokevirtual 409, (200, 1832, 3), 0)) (by decide +kernel)) rfl rfl rfl rfl hm_z
  obtain ⟨r438_z, h439_z, q440_z, hm_z⟩ := hm_z
  have k441_z := nq_200 q440_z
  obtain ⟨v442_z, rfl⟩ := rn_ret (M := am_m200) rfl (by decide) q440_z
  replace hm_z : rn _ _ _ _ [.int v442_z, .int 1, .ref 188] _ _ _ := hm_z
  replace hm_z := rn_iastore (N := 4) (q := 1) (am_cur_of (i := (12, 1, .iastore, (0, 0, 0), 0)) (by decide +kernel)) (by decide +kernel) rfl hm_z
  obtain ⟨p443_z, hm_z⟩ := hm_z
  replace hm_z := rn_aload_n (am_cur_of (i := (13, 1, .aload_n 0, (0, 0, 0), 0)) (by decide +kernel)) g0_z hm_z
  replace hm_z := rn_getR (x := 189) (am_cur_of (i := (14, 3, .getfield 88, (12, 51, 1435), 0)) (by decide +kernel)) (by decide +kernel) hm_z
  replace hm_z := rn_iload_n (am_cur_of (i := (17, 1, .iload_n 1, (0, 0, 0), 0)) (by decide +kernel)) g1_z hm_z
  replace hm_z := rn_dup2 (am_cur_of (i := (18, 1, .dup2, (0, 0, 0), 0)) (by decide +kernel)) hm_z
  replace hm_z := rn_iaload (N := 4) (q := 1) (v := rg_v h439_z 189 1) (am_cur_of (i := (19, 1, .iaload, (0, 0, 0), 0)) (by decide +kernel)) (by decide +kernel) rfl (show rg_v (am_up h439_z 188 1 (.int v442_z)) 189 1 = rg_v h439_z 189 1 from rfl) hm_z
  obtain ⟨p444_z, hm_z⟩ := hm_z
  replace hm_z := rn_iconst (w := 1) (am_cur_of (i := (20, 1, .iconst 1, (0, 0, 0), 0)) (by decide +kernel)) (by decide) hm_z
  replace hm_z := rn_iadd (w := (rg_v h439_z 189 1) + 1) (am_cur_of (i := (21, 1, .iadd, (0, 0, 0), 0)) (by decide +kernel)) rfl hm_z
  replace hm_z := rn_iastore (N := 4) (q := 1) (am_cur_of (i := (22, 1, .iastore, (0, 0, 0), 0)) (by decide +kernel)) (by decide +kernel) rfl hm_z
  obtain ⟨p445_z, hm_z⟩ := hm_z
  replace hm_z := rn_vret (am_cur_of (i := (23, 1, .return_, (0, 0, 0), 0)) (by decide +kernel)) hm_z
  obtain ⟨e446_z, e447_z⟩ := hm_z
  rw [e447_z]
  exact (bk_u (by decide) (bk_u (by decide) (bk_t bk_r (bk_n k441_z))))
theorem fk_199_2 {nst : Nat} {r : Option Value} {g g' : am_H} {o : Int32} {p : Int32}  (hm_z : rn nst am_m199 0 (lv_args 0 [.ref 164, .int 2, .int o, .int p]) [] g r g') : bk g g' := by
  have g0_z : am_get (lv_args 0 [.ref 164, .int 2, .int o, .int p]) 0 = some (.ref 164) := rfl
  have g1_z : am_get (lv_args 0 [.ref 164, .int 2, .int o, .int p]) 1 = some (.int 2) := rfl
  have g2_z : am_get (lv_args 0 [.ref 164, .int 2, .int o, .int p]) 2 = some (.int o) := rfl
  have g3_z : am_get (lv_args 0 [.ref 164, .int 2, .int o, .int p]) 3 = some (.int p) := rfl
  replace hm_z := rn_aload_n (am_cur_of (i := (0, 1, .aload_n 0, (0, 0, 0), 0)) (by decide +kernel)) g0_z hm_z
  replace hm_z := rn_getR (x := 188) (am_cur_of (i := (1, 3, .getfield 85, (12, 50, 1434), 0)) (by decide +kernel)) (by decide +kernel) hm_z
  replace hm_z := rn_iload_n (am_cur_of (i := (4, 1, .iload_n 1, (0, 0, 0), 0)) (by decide +kernel)) g1_z hm_z
  replace hm_z := rn_aload_n (am_cur_of (i := (5, 1, .aload_n 0, (0, 0, 0), 0)) (by decide +kernel)) g0_z hm_z
  replace hm_z := rn_iload_n (am_cur_of (i := (6, 1, .iload_n 1, (0, 0, 0), 0)) (by decide +kernel)) g1_z hm_z
  replace hm_z := rn_iload_n (am_cur_of (i := (7, 1, .iload_n 2, (0, 0, 0), 0)) (by decide +kernel)) g2_z hm_z
  replace hm_z := rn_iload_n (am_cur_of (i := (8, 1, .iload_n 3, (0, 0, 0), 0)) (by decide +kernel)) g3_z hm_z
  replace hm_z := rn_callV (M' := am_m200) (o := 164) (ar := [.int p, .int o, .int 2]) (rest := [.int 2, .ref 188]) (L := lv_args 0 [.ref 164, .int 2, .int o, .int p]) (am_cur_of (i := (9, 3, .invokevirtual 409, (200, 1832, 3), 0)) (by decide +kernel)) rfl rfl rfl rfl hm_z
  obtain ⟨r448_z, h449_z, q450_z, hm_z⟩ := hm_z
  have k451_z := nq_200 q450_z
  obtain ⟨v452_z, rfl⟩ := rn_ret (M := am_m200) rfl (by decide) q450_z
  replace hm_z : rn _ _ _ _ [.int v452_z, .int 2, .ref 188] _ _ _ := hm_z
  replace hm_z := rn_iastore (N := 4) (q := 2) (am_cur_of (i := (12, 1, .iastore, (0, 0, 0), 0)) (by decide +kernel)) (by decide +kernel) rfl hm_z
  obtain ⟨p453_z, hm_z⟩ := hm_z
  replace hm_z := rn_aload_n (am_cur_of (i := (13, 1, .aload_n 0, (0, 0, 0), 0)) (by decide +kernel)) g0_z hm_z
  replace hm_z := rn_getR (x := 189) (am_cur_of (i := (14, 3, .getfield 88, (12, 51, 1435), 0)) (by decide +kernel)) (by decide +kernel) hm_z
  replace hm_z := rn_iload_n (am_cur_of (i := (17, 1, .iload_n 1, (0, 0, 0), 0)) (by decide +kernel)) g1_z hm_z
  replace hm_z := rn_dup2 (am_cur_of (i := (18, 1, .dup2, (0, 0, 0), 0)) (by decide +kernel)) hm_z
  replace hm_z := rn_iaload (N := 4) (q := 2) (v := rg_v h449_z 189 2) (am_cur_of (i := (19, 1, .iaload, (0, 0, 0), 0)) (by decide +kernel)) (by decide +kernel) rfl (show rg_v (am_up h449_z 188 2 (.int v452_z)) 189 2 = rg_v h449_z 189 2 from rfl) hm_z
  obtain ⟨p454_z, hm_z⟩ := hm_z
  replace hm_z := rn_iconst (w := 1) (am_cur_of (i := (20, 1, .iconst 1, (0, 0, 0), 0)) (by decide +kernel)) (by decide) hm_z
  replace hm_z := rn_iadd (w := (rg_v h449_z 189 2) + 1) (am_cur_of (i := (21, 1, .iadd, (0, 0, 0), 0)) (by decide +kernel)) rfl hm_z
  replace hm_z := rn_iastore (N := 4) (q := 2) (am_cur_of (i := (22, 1, .iastore, (0, 0, 0), 0)) (by decide +kernel)) (by decide +kernel) rfl hm_z
  obtain ⟨p455_z, hm_z⟩ := hm_z
  replace hm_z := rn_vret (am_cur_of (i := (23, 1, .return_, (0, 0, 0), 0)) (by decide +kernel)) hm_z
  obtain ⟨e456_z, e457_z⟩ := hm_z
  rw [e457_z]
  exact (bk_u (by decide) (bk_u (by decide) (bk_t bk_r (bk_n k451_z))))
theorem fk_199_3 {nst : Nat} {r : Option Value} {g g' : am_H} {o : Int32} {p : Int32}  (hm_z : rn nst am_m199 0 (lv_args 0 [.ref 164, .int 3, .int o, .int p]) [] g r g') : bk g g' := by
  have g0_z : am_get (lv_args 0 [.ref 164, .int 3, .int o, .int p]) 0 = some (.ref 164) := rfl
  have g1_z : am_get (lv_args 0 [.ref 164, .int 3, .int o, .int p]) 1 = some (.int 3) := rfl
  have g2_z : am_get (lv_args 0 [.ref 164, .int 3, .int o, .int p]) 2 = some (.int o) := rfl
  have g3_z : am_get (lv_args 0 [.ref 164, .int 3, .int o, .int p]) 3 = some (.int p) := rfl
  replace hm_z := rn_aload_n (am_cur_of (i := (0, 1, .aload_n 0, (0, 0, 0), 0)) (by decide +kernel)) g0_z hm_z
  replace hm_z := rn_getR (x := 188) (am_cur_of (i := (1, 3, .getfield 85, (12, 50, 1434), 0)) (by decide +kernel)) (by decide +kernel) hm_z
  replace hm_z := rn_iload_n (am_cur_of (i := (4, 1, .iload_n 1, (0, 0, 0), 0)) (by decide +kernel)) g1_z hm_z
  replace hm_z := rn_aload_n (am_cur_of (i := (5, 1, .aload_n 0, (0, 0, 0), 0)) (by decide +kernel)) g0_z hm_z
  replace hm_z := rn_iload_n (am_cur_of (i := (6, 1, .iload_n 1, (0, 0, 0), 0)) (by decide +kernel)) g1_z hm_z
  replace hm_z := rn_iload_n (am_cur_of (i := (7, 1, .iload_n 2, (0, 0, 0), 0)) (by decide +kernel)) g2_z hm_z
  replace hm_z := rn_iload_n (am_cur_of (i := (8, 1, .iload_n 3, (0, 0, 0), 0)) (by decide +kernel)) g3_z hm_z
  replace hm_z := rn_callV (M' := am_m200) (o := 164) (ar := [.int p, .int o, .int 3]) (rest := [.int 3, .ref 188]) (L := lv_args 0 [.ref 164, .int 3, .int o, .int p]) (am_cur_of (i := (9, 3, .invokevirtual 409, (200, 1832, 3), 0)) (by decide +kernel)) rfl rfl rfl rfl hm_z
  obtain ⟨r458_z, h459_z, q460_z, hm_z⟩ := hm_z
  have k461_z := nq_200 q460_z
  obtain ⟨v462_z, rfl⟩ := rn_ret (M := am_m200) rfl (by decide) q460_z
  replace hm_z : rn _ _ _ _ [.int v462_z, .int 3, .ref 188] _ _ _ := hm_z
  replace hm_z := rn_iastore (N := 4) (q := 3) (am_cur_of (i := (12, 1, .iastore, (0, 0, 0), 0)) (by decide +kernel)) (by decide +kernel) rfl hm_z
  obtain ⟨p463_z, hm_z⟩ := hm_z
  replace hm_z := rn_aload_n (am_cur_of (i := (13, 1, .aload_n 0, (0, 0, 0), 0)) (by decide +kernel)) g0_z hm_z
  replace hm_z := rn_getR (x := 189) (am_cur_of (i := (14, 3, .getfield 88, (12, 51, 1435), 0)) (by decide +kernel)) (by decide +kernel) hm_z
  replace hm_z := rn_iload_n (am_cur_of (i := (17, 1, .iload_n 1, (0, 0, 0), 0)) (by decide +kernel)) g1_z hm_z
  replace hm_z := rn_dup2 (am_cur_of (i := (18, 1, .dup2, (0, 0, 0), 0)) (by decide +kernel)) hm_z
  replace hm_z := rn_iaload (N := 4) (q := 3) (v := rg_v h459_z 189 3) (am_cur_of (i := (19, 1, .iaload, (0, 0, 0), 0)) (by decide +kernel)) (by decide +kernel) rfl (show rg_v (am_up h459_z 188 3 (.int v462_z)) 189 3 = rg_v h459_z 189 3 from rfl) hm_z
  obtain ⟨p464_z, hm_z⟩ := hm_z
  replace hm_z := rn_iconst (w := 1) (am_cur_of (i := (20, 1, .iconst 1, (0, 0, 0), 0)) (by decide +kernel)) (by decide) hm_z
  replace hm_z := rn_iadd (w := (rg_v h459_z 189 3) + 1) (am_cur_of (i := (21, 1, .iadd, (0, 0, 0), 0)) (by decide +kernel)) rfl hm_z
  replace hm_z := rn_iastore (N := 4) (q := 3) (am_cur_of (i := (22, 1, .iastore, (0, 0, 0), 0)) (by decide +kernel)) (by decide +kernel) rfl hm_z
  obtain ⟨p465_z, hm_z⟩ := hm_z
  replace hm_z := rn_vret (am_cur_of (i := (23, 1, .return_, (0, 0, 0), 0)) (by decide +kernel)) hm_z
  obtain ⟨e466_z, e467_z⟩ := hm_z
  rw [e467_z]
  exact (bk_u (by decide) (bk_u (by decide) (bk_t bk_r (bk_n k461_z))))
theorem fk_197_1_0 {nst : Nat} {r : Option Value} {g g' : am_H}  (hm_z : rn nst am_m197 0 (lv_args 0 [.ref 164, .int 1, .int 0]) [] g r g') : bk g g' := by
  have g0_z : am_get (lv_args 0 [.ref 164, .int 1, .int 0]) 0 = some (.ref 164) := rfl
  have g1_z : am_get (lv_args 0 [.ref 164, .int 1, .int 0]) 1 = some (.int 1) := rfl
  have g2_z : am_get (lv_args 0 [.ref 164, .int 1, .int 0]) 2 = some (.int 0) := rfl
  replace hm_z := rn_aload_n (am_cur_of (i := (0, 1, .aload_n 0, (0, 0, 0), 0)) (by decide +kernel)) g0_z hm_z
  replace hm_z := rn_getR (x := 188) (am_cur_of (i := (1, 3, .getfield 85, (12, 50, 1434), 0)) (by decide +kernel)) (by decide +kernel) hm_z
  replace hm_z := rn_iload_n (am_cur_of (i := (4, 1, .iload_n 1, (0, 0, 0), 0)) (by decide +kernel)) g1_z hm_z
  replace hm_z := rn_aload_n (am_cur_of (i := (5, 1, .aload_n 0, (0, 0, 0), 0)) (by decide +kernel)) g0_z hm_z
  replace hm_z := rn_getR (x := 188) (am_cur_of (i := (6, 3, .getfield 85, (12, 50, 1434), 0)) (by decide +kernel)) (by decide +kernel) hm_z
  replace hm_z := rn_iload_n (am_cur_of (i := (9, 1, .iload_n 2, (0, 0, 0), 0)) (by decide +kernel)) g2_z hm_z
  replace hm_z := rn_iaload (N := 4) (q := 0) (v := rg_v g 188 0) (am_cur_of (i := (10, 1, .iaload, (0, 0, 0), 0)) (by decide +kernel)) (by decide +kernel) rfl rfl hm_z
  obtain ⟨p468_z, hm_z⟩ := hm_z
  replace hm_z := rn_iastore (N := 4) (q := 1) (am_cur_of (i := (11, 1, .iastore, (0, 0, 0), 0)) (by decide +kernel)) (by decide +kernel) rfl hm_z
  obtain ⟨p469_z, hm_z⟩ := hm_z
  replace hm_z := rn_aload_n (am_cur_of (i := (12, 1, .aload_n 0, (0, 0, 0), 0)) (by decide +kernel)) g0_z hm_z
  replace hm_z := rn_getR (x := 189) (am_cur_of (i := (13, 3, .getfield 88, (12, 51, 1435), 0)) (by decide +kernel)) (by decide +kernel) hm_z
  replace hm_z := rn_iload_n (am_cur_of (i := (16, 1, .iload_n 1, (0, 0, 0), 0)) (by decide +kernel)) g1_z hm_z
  replace hm_z := rn_aload_n (am_cur_of (i := (17, 1, .aload_n 0, (0, 0, 0), 0)) (by decide +kernel)) g0_z hm_z
  replace hm_z := rn_getR (x := 189) (am_cur_of (i := (18, 3, .getfield 88, (12, 51, 1435), 0)) (by decide +kernel)) (by decide +kernel) hm_z
  replace hm_z := rn_iload_n (am_cur_of (i := (21, 1, .iload_n 2, (0, 0, 0), 0)) (by decide +kernel)) g2_z hm_z
  replace hm_z := rn_iaload (N := 4) (q := 0) (v := rg_v g 189 0) (am_cur_of (i := (22, 1, .iaload, (0, 0, 0), 0)) (by decide +kernel)) (by decide +kernel) rfl (show rg_v (am_up g 188 1 (.int (rg_v g 188 0))) 189 0 = rg_v g 189 0 from rfl) hm_z
  obtain ⟨p470_z, hm_z⟩ := hm_z
  replace hm_z := rn_iastore (N := 4) (q := 1) (am_cur_of (i := (23, 1, .iastore, (0, 0, 0), 0)) (by decide +kernel)) (by decide +kernel) rfl hm_z
  obtain ⟨p471_z, hm_z⟩ := hm_z
  replace hm_z := rn_aload_n (am_cur_of (i := (24, 1, .aload_n 0, (0, 0, 0), 0)) (by decide +kernel)) g0_z hm_z
  replace hm_z := rn_getR (x := 190) (am_cur_of (i := (25, 3, .getfield 91, (12, 52, 1436), 0)) (by decide +kernel)) (by decide +kernel) hm_z
  replace hm_z := rn_iload_n (am_cur_of (i := (28, 1, .iload_n 1, (0, 0, 0), 0)) (by decide +kernel)) g1_z hm_z
  replace hm_z := rn_aload_n (am_cur_of (i := (29, 1, .aload_n 0, (0, 0, 0), 0)) (by decide +kernel)) g0_z hm_z
  replace hm_z := rn_getR (x := 190) (am_cur_of (i := (30, 3, .getfield 91, (12, 52, 1436), 0)) (by decide +kernel)) (by decide +kernel) hm_z
  replace hm_z := rn_iload_n (am_cur_of (i := (33, 1, .iload_n 2, (0, 0, 0), 0)) (by decide +kernel)) g2_z hm_z
  replace hm_z := rn_iaload (N := 4) (q := 0) (v := rg_v g 190 0) (am_cur_of (i := (34, 1, .iaload, (0, 0, 0), 0)) (by decide +kernel)) (by decide +kernel) rfl (show rg_v (am_up (am_up g 188 1 (.int (rg_v g 188 0))) 189 1 (.int (rg_v g 189 0))) 190 0 = rg_v g 190 0 from rfl) hm_z
  obtain ⟨p472_z, hm_z⟩ := hm_z
  replace hm_z := rn_iastore (N := 4) (q := 1) (am_cur_of (i := (35, 1, .iastore, (0, 0, 0), 0)) (by decide +kernel)) (by decide +kernel) rfl hm_z
  obtain ⟨p473_z, hm_z⟩ := hm_z
  replace hm_z := rn_aload_n (am_cur_of (i := (36, 1, .aload_n 0, (0, 0, 0), 0)) (by decide +kernel)) g0_z hm_z
  replace hm_z := rn_getR (x := 194) (am_cur_of (i := (37, 3, .getfield 103, (12, 56, 1440), 0)) (by decide +kernel)) (by decide +kernel) hm_z
  replace hm_z := rn_iload_n (am_cur_of (i := (40, 1, .iload_n 1, (0, 0, 0), 0)) (by decide +kernel)) g1_z hm_z
  replace hm_z := rn_aload_n (am_cur_of (i := (41, 1, .aload_n 0, (0, 0, 0), 0)) (by decide +kernel)) g0_z hm_z
  replace hm_z := rn_getR (x := 194) (am_cur_of (i := (42, 3, .getfield 103, (12, 56, 1440), 0)) (by decide +kernel)) (by decide +kernel) hm_z
  replace hm_z := rn_iload_n (am_cur_of (i := (45, 1, .iload_n 2, (0, 0, 0), 0)) (by decide +kernel)) g2_z hm_z
  replace hm_z := rn_iaload (N := 4) (q := 0) (v := rg_v g 194 0) (am_cur_of (i := (46, 1, .iaload, (0, 0, 0), 0)) (by decide +kernel)) (by decide +kernel) rfl (show rg_v (am_up (am_up (am_up g 188 1 (.int (rg_v g 188 0))) 189 1 (.int (rg_v g 189 0))) 190 1 (.int (rg_v g 190 0))) 194 0 = rg_v g 194 0 from rfl) hm_z
  obtain ⟨p474_z, hm_z⟩ := hm_z
  replace hm_z := rn_iastore (N := 4) (q := 1) (am_cur_of (i := (47, 1, .iastore, (0, 0, 0), 0)) (by decide +kernel)) (by decide +kernel) rfl hm_z
  obtain ⟨p475_z, hm_z⟩ := hm_z
  replace hm_z := rn_iconst (w := 0) (am_cur_of (i := (48, 1, .iconst 0, (0, 0, 0), 0)) (by decide +kernel)) (by decide) hm_z
  replace hm_z := rn_istore_n (am_cur_of (i := (49, 1, .istore_n 3, (0, 0, 0), 0)) (by decide +kernel)) hm_z
  obtain ⟨_, s476_z, s477_z, g3_z, hm_z⟩ := hm_z
  replace g0_z := s476_z 0 _ (by decide) rfl g0_z
  replace g1_z := s476_z 1 _ (by decide) rfl g1_z
  replace g2_z := s476_z 2 _ (by decide) rfl g2_z
  clear s476_z s477_z
  replace hm_z := rn_iload_n (am_cur_of (i := (50, 1, .iload_n 3, (0, 0, 0), 0)) (by decide +kernel)) g3_z hm_z
  replace hm_z := rn_iconst (w := 4) (am_cur_of (i := (51, 1, .iconst 4, (0, 0, 0), 0)) (by decide +kernel)) (by decide) hm_z
  replace hm_z := rn_cmpF (am_cur_of (i := (52, 3, .if_icmp .ge 69, (87, 0, 0), 0)) (by decide +kernel)) (by decide) hm_z
  replace hm_z := rn_aload_n (am_cur_of (i := (55, 1, .aload_n 0, (0, 0, 0), 0)) (by decide +kernel)) g0_z hm_z
  replace hm_z := rn_getR (x := 191) (am_cur_of (i := (56, 3, .getfield 94, (12, 53, 1437), 0)) (by decide +kernel)) (by decide +kernel) hm_z
  replace hm_z := rn_iconst (w := 4) (am_cur_of (i := (59, 1, .iconst 4, (0, 0, 0), 0)) (by decide +kernel)) (by decide) hm_z
  replace hm_z := rn_iload_n (am_cur_of (i := (60, 1, .iload_n 1, (0, 0, 0), 0)) (by decide +kernel)) g1_z hm_z
  replace hm_z := rn_imul (w := 4) (am_cur_of (i := (61, 1, .imul, (0, 0, 0), 0)) (by decide +kernel)) (by decide) hm_z
  replace hm_z := rn_iload_n (am_cur_of (i := (62, 1, .iload_n 3, (0, 0, 0), 0)) (by decide +kernel)) g3_z hm_z
  replace hm_z := rn_iadd (w := 4) (am_cur_of (i := (63, 1, .iadd, (0, 0, 0), 0)) (by decide +kernel)) (by decide) hm_z
  replace hm_z := rn_aload_n (am_cur_of (i := (64, 1, .aload_n 0, (0, 0, 0), 0)) (by decide +kernel)) g0_z hm_z
  replace hm_z := rn_getR (x := 191) (am_cur_of (i := (65, 3, .getfield 94, (12, 53, 1437), 0)) (by decide +kernel)) (by decide +kernel) hm_z
  replace hm_z := rn_iconst (w := 4) (am_cur_of (i := (68, 1, .iconst 4, (0, 0, 0), 0)) (by decide +kernel)) (by decide) hm_z
  replace hm_z := rn_iload_n (am_cur_of (i := (69, 1, .iload_n 2, (0, 0, 0), 0)) (by decide +kernel)) g2_z hm_z
  replace hm_z := rn_imul (w := 0) (am_cur_of (i := (70, 1, .imul, (0, 0, 0), 0)) (by decide +kernel)) (by decide) hm_z
  replace hm_z := rn_iload_n (am_cur_of (i := (71, 1, .iload_n 3, (0, 0, 0), 0)) (by decide +kernel)) g3_z hm_z
  replace hm_z := rn_iadd (w := 0) (am_cur_of (i := (72, 1, .iadd, (0, 0, 0), 0)) (by decide +kernel)) (by decide) hm_z
  replace hm_z := rn_iaload (N := 16) (q := 0) (v := rg_v g 191 0) (am_cur_of (i := (73, 1, .iaload, (0, 0, 0), 0)) (by decide +kernel)) (by decide +kernel) rfl (show rg_v (am_up (am_up (am_up (am_up g 188 1 (.int (rg_v g 188 0))) 189 1 (.int (rg_v g 189 0))) 190 1 (.int (rg_v g 190 0))) 194 1 (.int (rg_v g 194 0))) 191 0 = rg_v g 191 0 from rfl) hm_z
  obtain ⟨p478_z, hm_z⟩ := hm_z
  replace hm_z := rn_iastore (N := 16) (q := 4) (am_cur_of (i := (74, 1, .iastore, (0, 0, 0), 0)) (by decide +kernel)) (by decide +kernel) rfl hm_z
  obtain ⟨p479_z, hm_z⟩ := hm_z
  replace hm_z := rn_aload_n (am_cur_of (i := (75, 1, .aload_n 0, (0, 0, 0), 0)) (by decide +kernel)) g0_z hm_z
  replace hm_z := rn_getR (x := 192) (am_cur_of (i := (76, 3, .getfield 97, (12, 54, 1438), 0)) (by decide +kernel)) (by decide +kernel) hm_z
  replace hm_z := rn_iconst (w := 4) (am_cur_of (i := (79, 1, .iconst 4, (0, 0, 0), 0)) (by decide +kernel)) (by decide) hm_z
  replace hm_z := rn_iload_n (am_cur_of (i := (80, 1, .iload_n 1, (0, 0, 0), 0)) (by decide +kernel)) g1_z hm_z
  replace hm_z := rn_imul (w := 4) (am_cur_of (i := (81, 1, .imul, (0, 0, 0), 0)) (by decide +kernel)) (by decide) hm_z
  replace hm_z := rn_iload_n (am_cur_of (i := (82, 1, .iload_n 3, (0, 0, 0), 0)) (by decide +kernel)) g3_z hm_z
  replace hm_z := rn_iadd (w := 4) (am_cur_of (i := (83, 1, .iadd, (0, 0, 0), 0)) (by decide +kernel)) (by decide) hm_z
  replace hm_z := rn_aload_n (am_cur_of (i := (84, 1, .aload_n 0, (0, 0, 0), 0)) (by decide +kernel)) g0_z hm_z
  replace hm_z := rn_getR (x := 192) (am_cur_of (i := (85, 3, .getfield 97, (12, 54, 1438), 0)) (by decide +kernel)) (by decide +kernel) hm_z
  replace hm_z := rn_iconst (w := 4) (am_cur_of (i := (88, 1, .iconst 4, (0, 0, 0), 0)) (by decide +kernel)) (by decide) hm_z
  replace hm_z := rn_iload_n (am_cur_of (i := (89, 1, .iload_n 2, (0, 0, 0), 0)) (by decide +kernel)) g2_z hm_z
  replace hm_z := rn_imul (w := 0) (am_cur_of (i := (90, 1, .imul, (0, 0, 0), 0)) (by decide +kernel)) (by decide) hm_z
  replace hm_z := rn_iload_n (am_cur_of (i := (91, 1, .iload_n 3, (0, 0, 0), 0)) (by decide +kernel)) g3_z hm_z
  replace hm_z := rn_iadd (w := 0) (am_cur_of (i := (92, 1, .iadd, (0, 0, 0), 0)) (by decide +kernel)) (by decide) hm_z
  replace hm_z := rn_iaload (N := 16) (q := 0) (v := rg_v g 192 0) (am_cur_of (i := (93, 1, .iaload, (0, 0, 0), 0)) (by decide +kernel)) (by decide +kernel) rfl (show rg_v (am_up (am_up (am_up (am_up (am_up g 188 1 (.int (rg_v g 188 0))) 189 1 (.int (rg_v g 189 0))) 190 1 (.int (rg_v g 190 0))) 194 1 (.int (rg_v g 194 0))) 191 4 (.int (rg_v g 191 0))) 192 0 = rg_v g 192 0 from rfl) hm_z
  obtain ⟨p480_z, hm_z⟩ := hm_z
  replace hm_z := rn_iastore (N := 16) (q := 4) (am_cur_of (i := (94, 1, .iastore, (0, 0, 0), 0)) (by decide +kernel)) (by decide +kernel) rfl hm_z
  obtain ⟨p481_z, hm_z⟩ := hm_z
  replace hm_z := rn_aload_n (am_cur_of (i := (95, 1, .aload_n 0, (0, 0, 0), 0)) (by decide +kernel)) g0_z hm_z
  replace hm_z := rn_getR (x := 193) (am_cur_of (i := (96, 3, .getfield 100, (12, 55, 1439), 0)) (by decide +kernel)) (by decide +kernel) hm_z
  replace hm_z := rn_iconst (w := 4) (am_cur_of (i := (99, 1, .iconst 4, (0, 0, 0), 0)) (by decide +kernel)) (by decide) hm_z
  replace hm_z := rn_iload_n (am_cur_of (i := (100, 1, .iload_n 1, (0, 0, 0), 0)) (by decide +kernel)) g1_z hm_z
  replace hm_z := rn_imul (w := 4) (am_cur_of (i := (101, 1, .imul, (0, 0, 0), 0)) (by decide +kernel)) (by decide) hm_z
  replace hm_z := rn_iload_n (am_cur_of (i := (102, 1, .iload_n 3, (0, 0, 0), 0)) (by decide +kernel)) g3_z hm_z
  replace hm_z := rn_iadd (w := 4) (am_cur_of (i := (103, 1, .iadd, (0, 0, 0), 0)) (by decide +kernel)) (by decide) hm_z
  replace hm_z := rn_aload_n (am_cur_of (i := (104, 1, .aload_n 0, (0, 0, 0), 0)) (by decide +kernel)) g0_z hm_z
  replace hm_z := rn_getR (x := 193) (am_cur_of (i := (105, 3, .getfield 100, (12, 55, 1439), 0)) (by decide +kernel)) (by decide +kernel) hm_z
  replace hm_z := rn_iconst (w := 4) (am_cur_of (i := (108, 1, .iconst 4, (0, 0, 0), 0)) (by decide +kernel)) (by decide) hm_z
  replace hm_z := rn_iload_n (am_cur_of (i := (109, 1, .iload_n 2, (0, 0, 0), 0)) (by decide +kernel)) g2_z hm_z
  replace hm_z := rn_imul (w := 0) (am_cur_of (i := (110, 1, .imul, (0, 0, 0), 0)) (by decide +kernel)) (by decide) hm_z
  replace hm_z := rn_iload_n (am_cur_of (i := (111, 1, .iload_n 3, (0, 0, 0), 0)) (by decide +kernel)) g3_z hm_z
  replace hm_z := rn_iadd (w := 0) (am_cur_of (i := (112, 1, .iadd, (0, 0, 0), 0)) (by decide +kernel)) (by decide) hm_z
  replace hm_z := rn_iaload (N := 16) (q := 0) (v := rg_v g 193 0) (am_cur_of (i := (113, 1, .iaload, (0, 0, 0), 0)) (by decide +kernel)) (by decide +kernel) rfl (show rg_v (am_up (am_up (am_up (am_up (am_up (am_up g 188 1 (.int (rg_v g 188 0))) 189 1 (.int (rg_v g 189 0))) 190 1 (.int (rg_v g 190 0))) 194 1 (.int (rg_v g 194 0))) 191 4 (.int (rg_v g 191 0))) 192 4 (.int (rg_v g 192 0))) 193 0 = rg_v g 193 0 from rfl) hm_z
  obtain ⟨p482_z, hm_z⟩ := hm_z
  replace hm_z := rn_iastore (N := 16) (q := 4) (am_cur_of (i := (114, 1, .iastore, (0, 0, 0), 0)) (by decide +kernel)) (by decide +kernel) rfl hm_z
  obtain ⟨p483_z, hm_z⟩ := hm_z
  replace hm_z := rn_iinc (w := 1) (am_cur_of (i := (115, 3, .iinc 3 1, (0, 0, 0), 0)) (by decide +kernel)) g3_z (by decide) hm_z
  obtain ⟨_, s484_z, s485_z, g3_z, hm_z⟩ := hm_z
  replace g0_z := s484_z 0 _ (by decide) rfl g0_z
  replace g1_z := s484_z 1 _ (by decide) rfl g1_z
  replace g2_z := s484_z 2 _ (by decide) rfl g2_z
  clear s484_z s485_z
  replace hm_z := rn_goto (am_cur_of (i := (118, 3, .goto (-68), (34, 0, 0), 0)) (by decide +kernel)) hm_z
  replace hm_z := rn_iload_n (am_cur_of (i := (50, 1, .iload_n 3, (0, 0, 0), 0)) (by decide +kernel)) g3_z hm_z
  replace hm_z := rn_iconst (w := 4) (am_cur_of (i := (51, 1, .iconst 4, (0, 0, 0), 0)) (by decide +kernel)) (by decide) hm_z
  replace hm_z := rn_cmpF (am_cur_of (i := (52, 3, .if_icmp .ge 69, (87, 0, 0), 0)) (by decide +kernel)) (by decide) hm_z
  replace hm_z := rn_aload_n (am_cur_of (i := (55, 1, .aload_n 0, (0, 0, 0), 0)) (by decide +kernel)) g0_z hm_z
  replace hm_z := rn_getR (x := 191) (am_cur_of (i := (56, 3, .getfield 94, (12, 53, 1437), 0)) (by decide +kernel)) (by decide +kernel) hm_z
  replace hm_z := rn_iconst (w := 4) (am_cur_of (i := (59, 1, .iconst 4, (0, 0, 0), 0)) (by decide +kernel)) (by decide) hm_z
  replace hm_z := rn_iload_n (am_cur_of (i := (60, 1, .iload_n 1, (0, 0, 0), 0)) (by decide +kernel)) g1_z hm_z
  replace hm_z := rn_imul (w := 4) (am_cur_of (i := (61, 1, .imul, (0, 0, 0), 0)) (by decide +kernel)) (by decide) hm_z
  replace hm_z := rn_iload_n (am_cur_of (i := (62, 1, .iload_n 3, (0, 0, 0), 0)) (by decide +kernel)) g3_z hm_z
  replace hm_z := rn_iadd (w := 5) (am_cur_of (i := (63, 1, .iadd, (0, 0, 0), 0)) (by decide +kernel)) (by decide) hm_z
  replace hm_z := rn_aload_n (am_cur_of (i := (64, 1, .aload_n 0, (0, 0, 0), 0)) (by decide +kernel)) g0_z hm_z
  replace hm_z := rn_getR (x := 191) (am_cur_of (i := (65, 3, .getfield 94, (12, 53, 1437), 0)) (by decide +kernel)) (by decide +kernel) hm_z
  replace hm_z := rn_iconst (w := 4) (am_cur_of (i := (68, 1, .iconst 4, (0, 0, 0), 0)) (by decide +kernel)) (by decide) hm_z
  replace hm_z := rn_iload_n (am_cur_of (i := (69, 1, .iload_n 2, (0, 0, 0), 0)) (by decide +kernel)) g2_z hm_z
  replace hm_z := rn_imul (w := 0) (am_cur_of (i := (70, 1, .imul, (0, 0, 0), 0)) (by decide +kernel)) (by decide) hm_z
  replace hm_z := rn_iload_n (am_cur_of (i := (71, 1, .iload_n 3, (0, 0, 0), 0)) (by decide +kernel)) g3_z hm_z
  replace hm_z := rn_iadd (w := 1) (am_cur_of (i := (72, 1, .iadd, (0, 0, 0), 0)) (by decide +kernel)) (by decide) hm_z
  replace hm_z := rn_iaload (N := 16) (q := 1) (v := rg_v g 191 1) (am_cur_of (i := (73, 1, .iaload, (0, 0, 0), 0)) (by decide +kernel)) (by decide +kernel) rfl (show rg_v (am_up (am_up (am_up (am_up (am_up (am_up (am_up g 188 1 (.int (rg_v g 188 0))) 189 1 (.int (rg_v g 189 0))) 190 1 (.int (rg_v g 190 0))) 194 1 (.int (rg_v g 194 0))) 191 4 (.int (rg_v g 191 0))) 192 4 (.int (rg_v g 192 0))) 193 4 (.int (rg_v g 193 0))) 191 1 = rg_v g 191 1 from rfl) hm_z
  obtain ⟨p486_z, hm_z⟩ := hm_z
  replace hm_z := rn_iastore (N := 16) (q := 5) (am_cur_of (i := (74, 1, .iastore, (0, 0, 0), 0)) (by decide +kernel)) (by decide +kernel) rfl hm_z
  obtain ⟨p487_z, hm_z⟩ := hm_z
  replace hm_z := rn_aload_n (am_cur_of (i := (75, 1, .aload_n 0, (0, 0, 0), 0)) (by decide +kernel)) g0_z hm_z
  replace hm_z := rn_getR (x := 192) (am_cur_of (i := (76, 3, .getfield 97, (12, 54, 1438), 0)) (by decide +kernel)) (by decide +kernel) hm_z
  replace hm_z := rn_iconst (w := 4) (am_cur_of (i := (79, 1, .iconst 4, (0, 0, 0), 0)) (by decide +kernel)) (by decide) hm_z
  replace hm_z := rn_iload_n (am_cur_of (i := (80, 1, .iload_n 1, (0, 0, 0), 0)) (by decide +kernel)) g1_z hm_z
  replace hm_z := rn_imul (w := 4) (am_cur_of (i := (81, 1, .imul, (0, 0, 0), 0)) (by decide +kernel)) (by decide) hm_z
  replace hm_z := rn_iload_n (am_cur_of (i := (82, 1, .iload_n 3, (0, 0, 0), 0)) (by decide +kernel)) g3_z hm_z
  replace hm_z := rn_iadd (w := 5) (am_cur_of (i := (83, 1, .iadd, (0, 0, 0), 0)) (by decide +kernel)) (by decide) hm_z
  replace hm_z := rn_aload_n (am_cur_of (i := (84, 1, .aload_n 0, (0, 0, 0), 0)) (by decide +kernel)) g0_z hm_z
  replace hm_z := rn_getR (x := 192) (am_cur_of (i := (85, 3, .getfield 97, (12, 54, 1438), 0)) (by decide +kernel)) (by decide +kernel) hm_z
  replace hm_z := rn_iconst (w := 4) (am_cur_of (i := (88, 1, .iconst 4, (0, 0, 0), 0)) (by decide +kernel)) (by decide) hm_z
  replace hm_z := rn_iload_n (am_cur_of (i := (89, 1, .iload_n 2, (0, 0, 0), 0)) (by decide +kernel)) g2_z hm_z
  replace hm_z := rn_imul (w := 0) (am_cur_of (i := (90, 1, .imul, (0, 0, 0), 0)) (by decide +kernel)) (by decide) hm_z
  replace hm_z := rn_iload_n (am_cur_of (i := (91, 1, .iload_n 3, (0, 0, 0), 0)) (by decide +kernel)) g3_z hm_z
  replace hm_z := rn_iadd (w := 1) (am_cur_of (i := (92, 1, .iadd, (0, 0, 0), 0)) (by decide +kernel)) (by decide) hm_z
  replace hm_z := rn_iaload (N := 16) (q := 1) (v := rg_v g 192 1) (am_cur_of (i := (93, 1, .iaload, (0, 0, 0), 0)) (by decide +kernel)) (by decide +kernel) rfl (show rg_v (am_up (am_up (am_up (am_up (am_up (am_up (am_up (am_up g 188 1 (.int (rg_v g 188 0))) 189 1 (.int (rg_v g 189 0))) 190 1 (.int (rg_v g 190 0))) 194 1 (.int (rg_v g 194 0))) 191 4 (.int (rg_v g 191 0))) 192 4 (.int (rg_v g 192 0))) 193 4 (.int (rg_v g 193 0))) 191 5 (.int (rg_v g 191 1))) 192 1 = rg_v g 192 1 from rfl) hm_z
  obtain ⟨p488_z, hm_z⟩ := hm_z
  replace hm_z := rn_iastore (N := 16) (q := 5) (am_cur_of (i := (94, 1, .iastore, (0, 0, 0), 0)) (by decide +kernel)) (by decide +kernel) rfl hm_z
  obtain ⟨p489_z, hm_z⟩ := hm_z
  replace hm_z := rn_aload_n (am_cur_of (i := (95, 1, .aload_n 0, (0, 0, 0), 0)) (by decide +kernel)) g0_z hm_z
  replace hm_z := rn_getR (x := 193) (am_cur_of (i := (96, 3, .getfield 100, (12, 55, 1439), 0)) (by decide +kernel)) (by decide +kernel) hm_z
  replace hm_z := rn_iconst (w := 4) (am_cur_of (i := (99, 1, .iconst 4, (0, 0, 0), 0)) (by decide +kernel)) (by decide) hm_z
  replace hm_z := rn_iload_n (am_cur_of (i := (100, 1, .iload_n 1, (0, 0, 0), 0)) (by decide +kernel)) g1_z hm_z
  replace hm_z := rn_imul (w := 4) (am_cur_of (i := (101, 1, .imul, (0, 0, 0), 0)) (by decide +kernel)) (by decide) hm_z
  replace hm_z := rn_iload_n (am_cur_of (i := (102, 1, .iload_n 3, (0, 0, 0), 0)) (by decide +kernel)) g3_z hm_z
  replace hm_z := rn_iadd (w := 5) (am_cur_of (i := (103, 1, .iadd, (0, 0, 0), 0)) (by decide +kernel)) (by decide) hm_z
  replace hm_z := rn_aload_n (am_cur_of (i := (104, 1, .aload_n 0, (0, 0, 0), 0)) (by decide +kernel)) g0_z hm_z
  replace hm_z := rn_getR (x := 193) (am_cur_of (i := (105, 3, .getfield 100, (12, 55, 1439), 0)) (by decide +kernel)) (by decide +kernel) hm_z
  replace hm_z := rn_iconst (w := 4) (am_cur_of (i := (108, 1, .iconst 4, (0, 0, 0), 0)) (by decide +kernel)) (by decide) hm_z
  replace hm_z := rn_iload_n (am_cur_of (i := (109, 1, .iload_n 2, (0, 0, 0), 0)) (by decide +kernel)) g2_z hm_z
  replace hm_z := rn_imul (w := 0) (am_cur_of (i := (110, 1, .imul, (0, 0, 0), 0)) (by decide +kernel)) (by decide) hm_z
  replace hm_z := rn_iload_n (am_cur_of (i := (111, 1, .iload_n 3, (0, 0, 0), 0)) (by decide +kernel)) g3_z hm_z
  replace hm_z := rn_iadd (w := 1) (am_cur_of (i := (112, 1, .iadd, (0, 0, 0), 0)) (by decide +kernel)) (by decide) hm_z
  replace hm_z := rn_iaload (N := 16) (q := 1) (v := rg_v g 193 1) (am_cur_of (i := (113, 1, .iaload, (0, 0, 0), 0)) (by decide +kernel)) (by decide +kernel) rfl (show rg_v (am_up (am_up (am_up (am_up (am_up (am_up (am_up (am_up (am_up g 188 1 (.int (rg_v g 188 0))) 189 1 (.int (rg_v g 189 0))) 190 1 (.int (rg_v g 190 0))) 194 1 (.int (rg_v g 194 0))) 191 4 (.int (rg_v g 191 0))) 192 4 (.int (rg_v g 192 0))) 193 4 (.int (rg_v g 193 0))) 191 5 (.int (rg_v g 191 1))) 192 5 (.int (rg_v g 192 1))) 193 1 = rg_v g 193 1 from rfl) hm_z
  obtain ⟨p490_z, hm_z⟩ := hm_z
  replace hm_z := rn_iastore (N := 16) (q := 5) (am_cur_of (i := (114, 1, .iastore, (0, 0, 0), 0)) (by decide +kernel)) (by decide +kernel) rfl hm_z
  obtain ⟨p491_z, hm_z⟩ := hm_z
  replace hm_z := rn_iinc (w := 2) (am_cur_of (i := (115, 3, .iinc 3 1, (0, 0, 0), 0)) (by decide +kernel)) g3_z (by decide) hm_z
  obtain ⟨_, s492_z, s493_z, g3_z, hm_z⟩ := hm_z
  replace g0_z := s492_z 0 _ (by decide) rfl g0_z
  replace g1_z := s492_z 1 _ (by decide) rfl g1_z
  replace g2_z := s492_z 2 _ (by decide) rfl g2_z
  clear s492_z s493_z
  replace hm_z := rn_goto (am_cur_of (i := (118, 3, .goto (-68), (34, 0, 0), 0)) (by decide +kernel)) hm_z
  replace hm_z := rn_iload_n (am_cur_of (i := (50, 1, .iload_n 3, (0, 0, 0), 0)) (by decide +kernel)) g3_z hm_z
  replace hm_z := rn_iconst (w := 4) (am_cur_of (i := (51, 1, .iconst 4, (0, 0, 0), 0)) (by decide +kernel)) (by decide) hm_z
  replace hm_z := rn_cmpF (am_cur_of (i := (52, 3, .if_icmp .ge 69, (87, 0, 0), 0)) (by decide +kernel)) (by decide) hm_z
  replace hm_z := rn_aload_n (am_cur_of (i := (55, 1, .aload_n 0, (0, 0, 0), 0)) (by decide +kernel)) g0_z hm_z
  replace hm_z := rn_getR (x := 191) (am_cur_of (i := (56, 3, .getfield 94, (12, 53, 1437), 0)) (by decide +kernel)) (by decide +kernel) hm_z
  replace hm_z := rn_iconst (w := 4) (am_cur_of (i := (59, 1, .iconst 4, (0, 0, 0), 0)) (by decide +kernel)) (by decide) hm_z
  replace hm_z := rn_iload_n (am_cur_of (i := (60, 1, .iload_n 1, (0, 0, 0), 0)) (by decide +kernel)) g1_z hm_z
  replace hm_z := rn_imul (w := 4) (am_cur_of (i := (61, 1, .imul, (0, 0, 0), 0)) (by decide +kernel)) (by decide) hm_z
  replace hm_z := rn_iload_n (am_cur_of (i := (62, 1, .iload_n 3, (0, 0, 0), 0)) (by decide +kernel)) g3_z hm_z
  replace hm_z := rn_iadd (w := 6) (am_cur_of (i := (63, 1, .iadd, (0, 0, 0), 0)) (by decide +kernel)) (by decide) hm_z
  replace hm_z := rn_aload_n (am_cur_of (i := (64, 1, .aload_n 0, (0, 0, 0), 0)) (by decide +kernel)) g0_z hm_z
  replace hm_z := rn_getR (x := 191) (am_cur_of (i := (65, 3, .getfield 94, (12, 53, 1437), 0)) (by decide +kernel)) (by decide +kernel) hm_z
  replace hm_z := rn_iconst (w := 4) (am_cur_of (i := (68, 1, .iconst 4, (0, 0, 0), 0)) (by decide +kernel)) (by decide) hm_z
  replace hm_z := rn_iload_n (am_cur_of (i := (69, 1, .iload_n 2, (0, 0, 0), 0)) (by decide +kernel)) g2_z hm_z
  replace hm_z := rn_imul (w := 0) (am_cur_of (i := (70, 1, .imul, (0, 0, 0), 0)) (by decide +kernel)) (by decide) hm_z
  replace hm_z := rn_iload_n (am_cur_of (i := (71, 1, .iload_n 3, (0, 0, 0), 0)) (by decide +kernel)) g3_z hm_z
  replace hm_z := rn_iadd (w := 2) (am_cur_of (i := (72, 1, .iadd, (0, 0, 0), 0)) (by decide +kernel)) (by decide) hm_z
  replace hm_z := rn_iaload (N := 16) (q := 2) (v := rg_v g 191 2) (am_cur_of (i := (73, 1, .iaload, (0, 0, 0), 0)) (by decide +kernel)) (by decide +kernel) rfl (show rg_v (am_up (am_up (am_up (am_up (am_up (am_up (am_up (am_up (am_up (am_up g 188 1 (.int (rg_v g 188 0))) 189 1 (.int (rg_v g 189 0))) 190 1 (.int (rg_v g 190 0))) 194 1 (.int (rg_v g 194 0))) 191 4 (.int (rg_v g 191 0))) 192 4 (.int (rg_v g 192 0))) 193 4 (.int (rg_v g 193 0))) 191 5 (.int (rg_v g 191 1))) 192 5 (.int (rg_v g 192 1))) 193 5 (.int (rg_v g 193 1))) 191 2 = rg_v g 191 2 from rfl) hm_z
  obtain ⟨p494_z, hm_z⟩ := hm_z
  replace hm_z := rn_iastore (N := 16) (q := 6) (am_cur_of (i := (74, 1, .iastore, (0, 0, 0), 0)) (by decide +kernel)) (by decide +kernel) rfl hm_z
  obtain ⟨p495_z, hm_z⟩ := hm_z
  replace hm_z := rn_aload_n (am_cur_of (i := (75, 1, .aload_n 0, (0, 0, 0), 0)) (by decide +kernel)) g0_z hm_z
  replace hm_z := rn_getR (x := 192) (am_cur_of (i := (76, 3, .getfield 97, (12, 54, 1438), 0)) (by decide +kernel)) (by decide +kernel) hm_z
  replace hm_z := rn_iconst (w := 4) (am_cur_of (i := (79, 1, .iconst 4, (0, 0, 0), 0)) (by decide +kernel)) (by decide) hm_z
  replace hm_z := rn_iload_n (am_cur_of (i := (80, 1, .iload_n 1, (0, 0, 0), 0)) (by decide +kernel)) g1_z hm_z
  replace hm_z := rn_imul (w := 4) (am_cur_of (i := (81, 1, .imul, (0, 0, 0), 0)) (by decide +kernel)) (by decide) hm_z
  replace hm_z := rn_iload_n (am_cur_of (i := (82, 1, .iload_n 3, (0, 0, 0), 0)) (by decide +kernel)) g3_z hm_z
  replace hm_z := rn_iadd (w := 6) (am_cur_of (i := (83, 1, .iadd, (0, 0, 0), 0)) (by decide +kernel)) (by decide) hm_z
  replace hm_z := rn_aload_n (am_cur_of (i := (84, 1, .aload_n 0, (0, 0, 0), 0)) (by decide +kernel)) g0_z hm_z
  replace hm_z := rn_getR (x := 192) (am_cur_of (i := (85, 3, .getfield 97, (12, 54, 1438), 0)) (by decide +kernel)) (by decide +kernel) hm_z
  replace hm_z := rn_iconst (w := 4) (am_cur_of (i := (88, 1, .iconst 4, (0, 0, 0), 0)) (by decide +kernel)) (by decide) hm_z
  replace hm_z := rn_iload_n (am_cur_of (i := (89, 1, .iload_n 2, (0, 0, 0), 0)) (by decide +kernel)) g2_z hm_z
  replace hm_z := rn_imul (w := 0) (am_cur_of (i := (90, 1, .imul, (0, 0, 0), 0)) (by decide +kernel)) (by decide) hm_z
  replace hm_z := rn_iload_n (am_cur_of (i := (91, 1, .iload_n 3, (0, 0, 0), 0)) (by decide +kernel)) g3_z hm_z
  replace hm_z := rn_iadd (w := 2) (am_cur_of (i := (92, 1, .iadd, (0, 0, 0), 0)) (by decide +kernel)) (by decide) hm_z
  replace hm_z := rn_iaload (N := 16) (q := 2) (v := rg_v g 192 2) (am_cur_of (i := (93, 1, .iaload, (0, 0, 0), 0)) (by decide +kernel)) (by decide +kernel) rfl (show rg_v (am_up (am_up (am_up (am_up (am_up (am_up (am_up (am_up (am_up (am_up (am_up g 188 1 (.int (rg_v g 188 0))) 189 1 (.int (rg_v g 189 0))) 190 1 (.int (rg_v g 190 0))) 194 1 (.int (rg_v g 194 0))) 191 4 (.int (rg_v g 191 0))) 192 4 (.int (rg_v g 192 0))) 193 4 (.int (rg_v g 193 0))) 191 5 (.int (rg_v g 191 1))) 192 5 (.int (rg_v g 192 1))) 193 5 (.int (rg_v g 193 1))) 191 6 (.int (rg_v g 191 2))) 192 2 = rg_v g 192 2 from rfl) hm_z
  obtain ⟨p496_z, hm_z⟩ := hm_z
  replace hm_z := rn_iastore (N := 16) (q := 6) (am_cur_of (i := (94, 1, .iastore, (0, 0, 0), 0)) (by decide +kernel)) (by decide +kernel) rfl hm_z
  obtain ⟨p497_z, hm_z⟩ := hm_z
  replace hm_z := rn_aload_n (am_cur_of (i := (95, 1, .aload_n 0, (0, 0, 0), 0)) (by decide +kernel)) g0_z hm_z
  replace hm_z := rn_getR (x := 193) (am_cur_of (i := (96, 3, .getfield 100, (12, 55, 1439), 0)) (by decide +kernel)) (by decide +kernel) hm_z
  replace hm_z := rn_iconst (w := 4) (am_cur_of (i := (99, 1, .iconst 4, (0, 0, 0), 0)) (by decide +kernel)) (by decide) hm_z
  replace hm_z := rn_iload_n (am_cur_of (i := (100, 1, .iload_n 1, (0, 0, 0), 0)) (by decide +kernel)) g1_z hm_z
  replace hm_z := rn_imul (w := 4) (am_cur_of (i := (101, 1, .imul, (0, 0, 0), 0)) (by decide +kernel)) (by decide) hm_z
  replace hm_z := rn_iload_n (am_cur_of (i := (102, 1, .iload_n 3, (0, 0, 0), 0)) (by decide +kernel)) g3_z hm_z
  replace hm_z := rn_iadd (w := 6) (am_cur_of (i := (103, 1, .iadd, (0, 0, 0), 0)) (by decide +kernel)) (by decide) hm_z
  replace hm_z := rn_aload_n (am_cur_of (i := (104, 1, .aload_n 0, (0, 0, 0), 0)) (by decide +kernel)) g0_z hm_z
  replace hm_z := rn_getR (x := 193) (am_cur_of (i := (105, 3, .getfield 100, (12, 55, 1439), 0)) (by decide +kernel)) (by decide +kernel) hm_z
  replace hm_z := rn_iconst (w := 4) (am_cur_of (i := (108, 1, .iconst 4, (0, 0, 0), 0)) (by decide +kernel)) (by decide) hm_z
  replace hm_z := rn_iload_n (am_cur_of (i := (109, 1, .iload_n 2, (0, 0, 0), 0)) (by decide +kernel)) g2_z hm_z
  replace hm_z := rn_imul (w := 0) (am_cur_of (i := (110, 1, .imul, (0, 0, 0), 0)) (by decide +kernel)) (by decide) hm_z
  replace hm_z := rn_iload_n (am_cur_of (i := (111, 1, .iload_n 3, (0, 0, 0), 0)) (by decide +kernel)) g3_z hm_z
  replace hm_z := rn_iadd (w := 2) (am_cur_of (i := (112, 1, .iadd, (0, 0, 0), 0)) (by decide +kernel)) (by decide) hm_z
  replace hm_z := rn_iaload (N := 16) (q := 2) (v := rg_v g 193 2) (am_cur_of (i := (113, 1, .iaload, (0, 0, 0), 0)) (by decide +kernel)) (by decide +kernel) rfl (show rg_v (am_up (am_up (am_up (am_up (am_up (am_up (am_up (am_up (am_up (am_up (am_up (am_up g 188 1 (.int (rg_v g 188 0))) 189 1 (.int (rg_v g 189 0))) 190 1 (.int (rg_v g 190 0))) 194 1 (.int (rg_v g 194 0))) 191 4 (.int (rg_v g 191 0))) 192 4 (.int (rg_v g 192 0))) 193 4 (.int (rg_v g 193 0))) 191 5 (.int (rg_v g 191 1))) 192 5 (.int (rg_v g 192 1))) 193 5 (.int (rg_v g 193 1))) 191 6 (.int (rg_v g 191 2))) 192 6 (.int (rg_v g 192 2))) 193 2 = rg_v g 193 2 from rfl) hm_z
  obtain ⟨p498_z, hm_z⟩ := hm_z
  replace hm_z := rn_iastore (N := 16) (q := 6) (am_cur_of (i := (114, 1, .iastore, (0, 0, 0), 0)) (by decide +kernel)) (by decide +kernel) rfl hm_z
  obtain ⟨p499_z, hm_z⟩ := hm_z
  replace hm_z := rn_iinc (w := 3) (am_cur_of (i := (115, 3, .iinc 3 1, (0, 0, 0), 0)) (by decide +kernel)) g3_z (by decide) hm_z
  obtain ⟨_, s500_z, s501_z, g3_z, hm_z⟩ := hm_z
  replace g0_z := s500_z 0 _ (by decide) rfl g0_z
  replace g1_z := s500_z 1 _ (by decide) rfl g1_z
  replace g2_z := s500_z 2 _ (by decide) rfl g2_z
  clear s500_z s501_z
  replace hm_z := rn_goto (am_cur_of (i := (118, 3, .goto (-68), (34, 0, 0), 0)) (by decide +kernel)) hm_z
  replace hm_z := rn_iload_n (am_cur_of (i := (50, 1, .iload_n 3, (0, 0, 0), 0)) (by decide +kernel)) g3_z hm_z
  replace hm_z := rn_iconst (w := 4) (am_cur_of (i := (51, 1, .iconst 4, (0, 0, 0), 0)) (by decide +kernel)) (by decide) hm_z
  replace hm_z := rn_cmpF (am_cur_of (i := (52, 3, .if_icmp .ge 69, (87, 0, 0), 0)) (by decide +kernel)) (by decide) hm_z
  replace hm_z := rn_aload_n (am_cur_of (i := (55, 1, .aload_n 0, (0, 0, 0), 0)) (by decide +kernel)) g0_z hm_z
  replace hm_z := rn_getR (x := 191) (am_cur_of (i := (56, 3, .getfield 94, (12, 53, 1437), 0)) (by decide +kernel)) (by decide +kernel) hm_z
  replace hm_z := rn_iconst (w := 4) (am_cur_of (i := (59, 1, .iconst 4, (0, 0, 0), 0)) (by decide +kernel)) (by decide) hm_z
  replace hm_z := rn_iload_n (am_cur_of (i := (60, 1, .iload_n 1, (0, 0, 0), 0)) (by decide +kernel)) g1_z hm_z
  replace hm_z := rn_imul (w := 4) (am_cur_of (i := (61, 1, .imul, (0, 0, 0), 0)) (by decide +kernel)) (by decide) hm_z
  replace hm_z := rn_iload_n (am_cur_of (i := (62, 1, .iload_n 3, (0, 0, 0), 0)) (by decide +kernel)) g3_z hm_z
  replace hm_z := rn_iadd (w := 7) (am_cur_of (i := (63, 1, .iadd, (0, 0, 0), 0)) (by decide +kernel)) (by decide) hm_z
  replace hm_z := rn_aload_n (am_cur_of (i := (64, 1, .aload_n 0, (0, 0, 0), 0)) (by decide +kernel)) g0_z hm_z
  replace hm_z := rn_getR (x := 191) (am_cur_of (i := (65, 3, .getfield 94, (12, 53, 1437), 0)) (by decide +kernel)) (by decide +kernel) hm_z
  replace hm_z := rn_iconst (w := 4) (am_cur_of (i := (68, 1, .iconst 4, (0, 0, 0), 0)) (by decide +kernel)) (by decide) hm_z
  replace hm_z := rn_iload_n (am_cur_of (i := (69, 1, .iload_n 2, (0, 0, 0), 0)) (by decide +kernel)) g2_z hm_z
  replace hm_z := rn_imul (w := 0) (am_cur_of (i := (70, 1, .imul, (0, 0, 0), 0)) (by decide +kernel)) (by decide) hm_z
  replace hm_z := rn_iload_n (am_cur_of (i := (71, 1, .iload_n 3, (0, 0, 0), 0)) (by decide +kernel)) g3_z hm_z
  replace hm_z := rn_iadd (w := 3) (am_cur_of (i := (72, 1, .iadd, (0, 0, 0), 0)) (by decide +kernel)) (by decide) hm_z
  replace hm_z := rn_iaload (N := 16) (q := 3) (v := rg_v g 191 3) (am_cur_of (i := (73, 1, .iaload, (0, 0, 0), 0)) (by decide +kernel)) (by decide +kernel) rfl (show rg_v (am_up (am_up (am_up (am_up (am_up (am_up (am_up (am_up (am_up (am_up (am_up (am_up (am_up g 188 1 (.int (rg_v g 188 0))) 189 1 (.int (rg_v g 189 0))) 190 1 (.int (rg_v g 190 0))) 194 1 (.int (rg_v g 194 0))) 191 4 (.int (rg_v g 191 0))) 192 4 (.int (rg_v g 192 0))) 193 4 (.int (rg_v g 193 0))) 191 5 (.int (rg_v g 191 1))) 192 5 (.int (rg_v g 192 1))) 193 5 (.int (rg_v g 193 1))) 191 6 (.int (rg_v g 191 2))) 192 6 (.int (rg_v g 192 2))) 193 6 (.int (rg_v g 193 2))) 191 3 = rg_v g 191 3 from rfl) hm_z
  obtain ⟨p502_z, hm_z⟩ := hm_z
  replace hm_z := rn_iastore (N := 16) (q := 7) (am_cur_of (i := (74, 1, .iastore, (0, 0, 0), 0)) (by decide +kernel)) (by decide +kernel) rfl hm_z
  obtain ⟨p503_z, hm_z⟩ := hm_z
  replace hm_z := rn_aload_n (am_cur_of (i := (75, 1, .aload_n 0, (0, 0, 0), 0)) (by decide +kernel)) g0_z hm_z
  replace hm_z := rn_getR (x := 192) (am_cur_of (i := (76, 3, .getfield 97, (12, 54, 1438), 0)) (by decide +kernel)) (by decide +kernel) hm_z
  replace hm_z := rn_iconst (w := 4) (am_cur_of (i := (79, 1, .iconst 4, (0, 0, 0), 0)) (by decide +kernel)) (by decide) hm_z
  replace hm_z := rn_iload_n (am_cur_of (i := (80, 1, .iload_n 1, (0, 0, 0), 0)) (by decide +kernel)) g1_z hm_z
  replace hm_z := rn_imul (w := 4) (am_cur_of (i := (81, 1, .imul, (0, 0, 0), 0)) (by decide +kernel)) (by decide) hm_z
  replace hm_z := rn_iload_n (am_cur_of (i := (82, 1, .iload_n 3, (0, 0, 0), 0)) (by decide +kernel)) g3_z hm_z
  replace hm_z := rn_iadd (w := 7) (am_cur_of (i := (83, 1, .iadd, (0, 0, 0), 0)) (by decide +kernel)) (by decide) hm_z
  replace hm_z := rn_aload_n (am_cur_of (i := (84, 1, .aload_n 0, (0, 0, 0), 0)) (by decide +kernel)) g0_z hm_z
  replace hm_z := rn_getR (x := 192) (am_cur_of (i := (85, 3, .getfield 97, (12, 54, 1438), 0)) (by decide +kernel)) (by decide +kernel) hm_z
  replace hm_z := rn_iconst (w := 4) (am_cur_of (i := (88, 1, .iconst 4, (0, 0, 0), 0)) (by decide +kernel)) (by decide) hm_z
  replace hm_z := rn_iload_n (am_cur_of (i := (89, 1, .iload_n 2, (0, 0, 0), 0)) (by decide +kernel)) g2_z hm_z
  replace hm_z := rn_imul (w := 0) (am_cur_of (i := (90, 1, .imul, (0, 0, 0), 0)) (by decide +kernel)) (by decide) hm_z
  replace hm_z := rn_iload_n (am_cur_of (i := (91, 1, .iload_n 3, (0, 0, 0), 0)) (by decide +kernel)) g3_z hm_z
  replace hm_z := rn_iadd (w := 3) (am_cur_of (i := (92, 1, .iadd, (0, 0, 0), 0)) (by decide +kernel)) (by decide) hm_z
  replace hm_z := rn_iaload (N := 16) (q := 3) (v := rg_v g 192 3) (am_cur_of (i := (93, 1, .iaload, (0, 0, 0), 0)) (by decide +kernel)) (by decide +kernel) rfl (show rg_v (am_up (am_up (am_up (am_up (am_up (am_up (am_up (am_up (am_up (am_up (am_up (am_up (am_up (am_up g 188 1 (.int (rg_v g 188 0))) 189 1 (.int (rg_v g 189 0))) 190 1 (.int (rg_v g 190 0))) 194 1 (.int (rg_v g 194 0))) 191 4 (.int (rg_v g 191 0))) 192 4 (.int (rg_v g 192 0))) 193 4 (.int (rg_v g 193 0))) 191 5 (.int (rg_v g 191 1))) 192 5 (.int (rg_v g 192 1))) 193 5 (.int (rg_v g 193 1))) 191 6 (.int (rg_v g 191 2))) 192 6 (.int (rg_v g 192 2))) 193 6 (.int (rg_v g 193 2))) 191 7 (.int (rg_v g 191 3))) 192 3 = rg_v g 192 3 from rfl) hm_z
  obtain ⟨p504_z, hm_z⟩ := hm_z
  replace hm_z := rn_iastore (N := 16) (q := 7) (am_cur_of (i := (94, 1, .iastore, (0, 0, 0), 0)) (by decide +kernel)) (by decide +kernel) rfl hm_z
  obtain ⟨p505_z, hm_z⟩ := hm_z
  replace hm_z := rn_aload_n (am_cur_of (i := (95, 1, .aload_n 0, (0, 0, 0), 0)) (by decide +kernel)) g0_z hm_z
  replace hm_z := rn_getR (x := 193) (am_cur_of (i := (96, 3, .getfield 100, (12, 55, 1439), 0)) (by decide +kernel)) (by decide +kernel) hm_z
  replace hm_z := rn_iconst (w := 4) (am_cur_of (i := (99, 1, .iconst 4, (0, 0, 0), 0)) (by decide +kernel)) (by decide) hm_z
  replace hm_z := rn_iload_n (am_cur_of (i := (100, 1, .iload_n 1, (0, 0, 0), 0)) (by decide +kernel)) g1_z hm_z
  replace hm_z := rn_imul (w := 4) (am_cur_of (i := (101, 1, .imul, (0, 0, 0), 0)) (by decide +kernel)) (by decide) hm_z
  replace hm_z := rn_iload_n (am_cur_of (i := (102, 1, .iload_n 3, (0, 0, 0), 0)) (by decide +kernel)) g3_z hm_z
  replace hm_z := rn_iadd (w := 7) (am_cur_of (i := (103, 1, .iadd, (0, 0, 0), 0)) (by decide +kernel)) (by decide) hm_z
  replace hm_z := rn_aload_n (am_cur_of (i := (104, 1, .aload_n 0, (0, 0, 0), 0)) (by decide +kernel)) g0_z hm_z
  replace hm_z := rn_getR (x := 193) (am_cur_of (i := (105, 3, .getfield 100, (12, 55, 1439), 0)) (by decide +kernel)) (by decide +kernel) hm_z
  replace hm_z := rn_iconst (w := 4) (am_cur_of (i := (108, 1, .iconst 4, (0, 0, 0), 0)) (by decide +kernel)) (by decide) hm_z
  replace hm_z := rn_iload_n (am_cur_of (i := (109, 1, .iload_n 2, (0, 0, 0), 0)) (by decide +kernel)) g2_z hm_z
  replace hm_z := rn_imul (w := 0) (am_cur_of (i := (110, 1, .imul, (0, 0, 0), 0)) (by decide +kernel)) (by decide) hm_z
  replace hm_z := rn_iload_n (am_cur_of (i := (111, 1, .iload_n 3, (0, 0, 0), 0)) (by decide +kernel)) g3_z hm_z
  replace hm_z := rn_iadd (w := 3) (am_cur_of (i := (112, 1, .iadd, (0, 0, 0), 0)) (by decide +kernel)) (by decide) hm_z
  replace hm_z := rn_iaload (N := 16) (q := 3) (v := rg_v g 193 3) (am_cur_of (i := (113, 1, .iaload, (0, 0, 0), 0)) (by decide +kernel)) (by decide +kernel) rfl (show rg_v (am_up (am_up (am_up (am_up (am_up (am_up (am_up (am_up (am_up (am_up (am_up (am_up (am_up (am_up (am_up g 188 1 (.int (rg_v g 188 0))) 189 1 (.int (rg_v g 189 0))) 190 1 (.int (rg_v g 190 0))) 194 1 (.int (rg_v g 194 0))) 191 4 (.int (rg_v g 191 0))) 192 4 (.int (rg_v g 192 0))) 193 4 (.int (rg_v g 193 0))) 191 5 (.int (rg_v g 191 1))) 192 5 (.int (rg_v g 192 1))) 193 5 (.int (rg_v g 193 1))) 191 6 (.int (rg_v g 191 2))) 192 6 (.int (rg_v g 192 2))) 193 6 (.int (rg_v g 193 2))) 191 7 (.int (rg_v g 191 3))) 192 7 (.int (rg_v g 192 3))) 193 3 = rg_v g 193 3 from rfl) hm_z
  obtain ⟨p506_z, hm_z⟩ := hm_z
  replace hm_z := rn_iastore (N := 16) (q := 7) (am_cur_of (i := (114, 1, .iastore, (0, 0, 0), 0)) (by decide +kernel)) (by decide +kernel) rfl hm_z
  obtain ⟨p507_z, hm_z⟩ := hm_z
  replace hm_z := rn_iinc (w := 4) (am_cur_of (i := (115, 3, .iinc 3 1, (0, 0, 0), 0)) (by decide +kernel)) g3_z (by decide) hm_z
  obtain ⟨_, s508_z, s509_z, g3_z, hm_z⟩ := hm_z
  replace g0_z := s508_z 0 _ (by decide) rfl g0_z
  replace g1_z := s508_z 1 _ (by decide) rfl g1_z
  replace g2_z := s508_z 2 _ (by decide) rfl g2_z
  clear s508_z s509_z
  replace hm_z := rn_goto (am_cur_of (i := (118, 3, .goto (-68), (34, 0, 0), 0)) (by decide +kernel)) hm_z
  replace hm_z := rn_iload_n (am_cur_of (i := (50, 1, .iload_n 3, (0, 0, 0), 0)) (by decide +kernel)) g3_z hm_z
  replace hm_z := rn_iconst (w := 4) (am_cur_of (i := (51, 1, .iconst 4, (0, 0, 0), 0)) (by decide +kernel)) (by decide) hm_z
  replace hm_z := rn_cmpT (am_cur_of (i := (52, 3, .if_icmp .ge 69, (87, 0, 0), 0)) (by decide +kernel)) (by decide) hm_z
  replace hm_z := rn_vret (am_cur_of (i := (121, 1, .return_, (0, 0, 0), 0)) (by decide +kernel)) hm_z
  obtain ⟨e510_z, e511_z⟩ := hm_z
  rw [e511_z]
  exact (bk_u (by decide) (bk_u (by decide) (bk_u (by decide) (bk_u (by decide) (bk_u (by decide) (bk_u (by decide) (bk_u (by decide) (bk_u (by decide) (bk_u (by decide) (bk_u (by decide) (bk_u (by decide) (bk_u (by decide) (bk_u (by decide) (bk_u (by decide) (bk_u (by decide) (bk_u (by decide) bk_r))))))))))))))))
theorem fk_197_2_1 {nst : Nat} {r : Option Value} {g g' : am_H}  (hm_z : rn nst am_m197 0 (lv_args 0 [.ref 164, .int 2, .int 1]) [] g r g') : bk g g' := by
  have g0_z : am_get (lv_args 0 [.ref 164, .int 2, .int 1]) 0 = some (.ref 164) := rfl
  have g1_z : am_get (lv_args 0 [.ref 164, .int 2, .int 1]) 1 = some (.int 2) := rfl
  have g2_z : am_get (lv_args 0 [.ref 164, .int 2, .int 1]) 2 = some (.int 1) := rfl
  replace hm_z := rn_aload_n (am_cur_of (i := (0, 1, .aload_n 0, (0, 0, 0), 0)) (by decide +kernel)) g0_z hm_z
  replace hm_z := rn_getR (x := 188) (am_cur_of (i := (1, 3, .getfield 85, (12, 50, 1434), 0)) (by decide +kernel)) (by decide +kernel) hm_z
  replace hm_z := rn_iload_n (am_cur_of (i := (4, 1, .iload_n 1, (0, 0, 0), 0)) (by decide +kernel)) g1_z hm_z
  replace hm_z := rn_aload_n (am_cur_of (i := (5, 1, .aload_n 0, (0, 0, 0), 0)) (by decide +kernel)) g0_z hm_z
  replace hm_z := rn_getR (x := 188) (am_cur_of (i := (6, 3, .getfield 85, (12, 50, 1434), 0)) (by decide +kernel)) (by decide +kernel) hm_z
  replace hm_z := rn_iload_n (am_cur_of (i := (9, 1, .iload_n 2, (0, 0, 0), 0)) (by decide +kernel)) g2_z hm_z
  replace hm_z := rn_iaload (N := 4) (q := 1) (v := rg_v g 188 1) (am_cur_of (i := (10, 1, .iaload, (0, 0, 0), 0)) (by decide +kernel)) (by decide +kernel) rfl rfl hm_z
  obtain ⟨p512_z, hm_z⟩ := hm_z
  replace hm_z := rn_iastore (N := 4) (q := 2) (am_cur_of (i := (11, 1, .iastore, (0, 0, 0), 0)) (by decide +kernel)) (by decide +kernel) rfl hm_z
  obtain ⟨p513_z, hm_z⟩ := hm_z
  replace hm_z := rn_aload_n (am_cur_of (i := (12, 1, .aload_n 0, (0, 0, 0), 0)) (by decide +kernel)) g0_z hm_z
  replace hm_z := rn_getR (x := 189) (am_cur_of (i := (13, 3, .getfield 88, (12, 51, 1435), 0)) (by decide +kernel)) (by decide +kernel) hm_z
  replace hm_z := rn_iload_n (am_cur_of (i := (16, 1, .iload_n 1, (0, 0, 0), 0)) (by decide +kernel)) g1_z hm_z
  replace hm_z := rn_aload_n (am_cur_of (i := (17, 1, .aload_n 0, (0, 0, 0), 0)) (by decide +kernel)) g0_z hm_z
  replace hm_z := rn_getR (x := 189) (am_cur_of (i := (18, 3, .getfield 88, (12, 51, 1435), 0)) (by decide +kernel)) (by decide +kernel) hm_z
  replace hm_z := rn_iload_n (am_cur_of (i := (21, 1, .iload_n 2, (0, 0, 0), 0)) (by decide +kernel)) g2_z hm_z
  replace hm_z := rn_iaload (N := 4) (q := 1) (v := rg_v g 189 1) (am_cur_of (i := (22, 1, .iaload, (0, 0, 0), 0)) (by decide +kernel)) (by decide +kernel) rfl (show rg_v (am_up g 188 2 (.int (rg_v g 188 1))) 189 1 = rg_v g 189 1 from rfl) hm_z
  obtain ⟨p514_z, hm_z⟩ := hm_z
  replace hm_z := rn_iastore (N := 4) (q := 2) (am_cur_of (i := (23, 1, .iastore, (0, 0, 0), 0)) (by decide +kernel)) (by decide +kernel) rfl hm_z
  obtain ⟨p515_z, hm_z⟩ := hm_z
  replace hm_z := rn_aload_n (am_cur_of (i := (24, 1, .aload_n 0, (0, 0, 0), 0)) (by decide +kernel)) g0_z hm_z
  replace hm_z := rn_getR (x := 190) (am_cur_of (i := (25, 3, .getfield 91, (12, 52, 1436), 0)) (by decide +kernel)) (by decide +kernel) hm_z
  replace hm_z := rn_iload_n (am_cur_of (i := (28, 1, .iload_n 1, (0, 0, 0), 0)) (by decide +kernel)) g1_z hm_z
  replace hm_z := rn_aload_n (am_cur_of (i := (29, 1, .aload_n 0, (0, 0, 0), 0)) (by decide +kernel)) g0_z hm_z
  replace hm_z := rn_getR (x := 190) (am_cur_of (i := (30, 3, .getfield 91, (12, 52, 1436), 0)) (by decide +kernel)) (by decide +kernel) hm_z
  replace hm_z := rn_iload_n (am_cur_of (i := (33, 1, .iload_n 2, (0, 0, 0), 0)) (by decide +kernel)) g2_z hm_z
  replace hm_z := rn_iaload (N := 4) (q := 1) (v := rg_v g 190 1) (am_cur_of (i := (34, 1, .iaload, (0, 0, 0), 0)) (by decide +kernel)) (by decide +kernel) rfl (show rg_v (am_up (am_up g 188 2 (.int (rg_v g 188 1))) 189 2 (.int (rg_v g 189 1))) 190 1 = rg_v g 190 1 from rfl) hm_z
  obtain ⟨p516_z, hm_z⟩ := hm_z
  replace hm_z := rn_iastore (N := 4) (q := 2) (am_cur_of (i := (35, 1, .iastore, (0, 0, 0), 0)) (by decide +kernel)) (by decide +kernel) rfl hm_z
  obtain ⟨p517_z, hm_z⟩ := hm_z
  replace hm_z := rn_aload_n (am_cur_of (i := (36, 1, .aload_n 0, (0, 0, 0), 0)) (by decide +kernel)) g0_z hm_z
  replace hm_z := rn_getR (x := 194) (am_cur_of (i := (37, 3, .getfield 103, (12, 56, 1440), 0)) (by decide +kernel)) (by decide +kernel) hm_z
  replace hm_z := rn_iload_n (am_cur_of (i := (40, 1, .iload_n 1, (0, 0, 0), 0)) (by decide +kernel)) g1_z hm_z
  replace hm_z := rn_aload_n (am_cur_of (i := (41, 1, .aload_n 0, (0, 0, 0), 0)) (by decide +kernel)) g0_z hm_z
  replace hm_z := rn_getR (x := 194) (am_cur_of (i := (42, 3, .getfield 103, (12, 56, 1440), 0)) (by decide +kernel)) (by decide +kernel) hm_z
  replace hm_z := rn_iload_n (am_cur_of (i := (45, 1, .iload_n 2, (0, 0, 0), 0)) (by decide +kernel)) g2_z hm_z
  replace hm_z := rn_iaload (N := 4) (q := 1) (v := rg_v g 194 1) (am_cur_of (i := (46, 1, .iaload, (0, 0, 0), 0)) (by decide +kernel)) (by decide +kernel) rfl (show rg_v (am_up (am_up (am_up g 188 2 (.int (rg_v g 188 1))) 189 2 (.int (rg_v g 189 1))) 190 2 (.int (rg_v g 190 1))) 194 1 = rg_v g 194 1 from rfl) hm_z
  obtain ⟨p518_z, hm_z⟩ := hm_z
  replace hm_z := rn_iastore (N := 4) (q := 2) (am_cur_of (i := (47, 1, .iastore, (0, 0, 0), 0)) (by decide +kernel)) (by decide +kernel) rfl hm_z
  obtain ⟨p519_z, hm_z⟩ := hm_z
  replace hm_z := rn_iconst (w := 0) (am_cur_of (i := (48, 1, .iconst 0, (0, 0, 0), 0)) (by decide +kernel)) (by decide) hm_z
  replace hm_z := rn_istore_n (am_cur_of (i := (49, 1, .istore_n 3, (0, 0, 0), 0)) (by decide +kernel)) hm_z
  obtain ⟨_, s520_z, s521_z, g3_z, hm_z⟩ := hm_z
  replace g0_z := s520_z 0 _ (by decide) rfl g0_z
  replace g1_z := s520_z 1 _ (by decide) rfl g1_z
  replace g2_z := s520_z 2 _ (by decide) rfl g2_z
  clear s520_z s521_z
  replace hm_z := rn_iload_n (am_cur_of (i := (50, 1, .iload_n 3, (0, 0, 0), 0)) (by decide +kernel)) g3_z hm_z
  replace hm_z := rn_iconst (w := 4) (am_cur_of (i := (51, 1, .iconst 4, (0, 0, 0), 0)) (by decide +kernel)) (by decide) hm_z
  replace hm_z := rn_cmpF (am_cur_of (i := (52, 3, .if_icmp .ge 69, (87, 0, 0), 0)) (by decide +kernel)) (by decide) hm_z
  replace hm_z := rn_aload_n (am_cur_of (i := (55, 1, .aload_n 0, (0, 0, 0), 0)) (by decide +kernel)) g0_z hm_z
  replace hm_z := rn_getR (x := 191) (am_cur_of (i := (56, 3, .getfield 94, (12, 53, 1437), 0)) (by decide +kernel)) (by decide +kernel) hm_z
  replace hm_z := rn_iconst (w := 4) (am_cur_of (i := (59, 1, .iconst 4, (0, 0, 0), 0)) (by decide +kernel)) (by decide) hm_z
  replace hm_z := rn_iload_n (am_cur_of (i := (60, 1, .iload_n 1, (0, 0, 0), 0)) (by decide +kernel)) g1_z hm_z
  replace hm_z := rn_imul (w := 8) (am_cur_of (i := (61, 1, .imul, (0, 0, 0), 0)) (by decide +kernel)) (by decide) hm_z
  replace hm_z := rn_iload_n (am_cur_of (i := (62, 1, .iload_n 3, (0, 0, 0), 0)) (by decide +kernel)) g3_z hm_z
  replace hm_z := rn_iadd (w := 8) (am_cur_of (i := (63, 1, .iadd, (0, 0, 0), 0)) (by decide +kernel)) (by decide) hm_z
  replace hm_z := rn_aload_n (am_cur_of (i := (64, 1, .aload_n 0, (0, 0, 0), 0)) (by decide +kernel)) g0_z hm_z
  replace hm_z := rn_getR (x := 191) (am_cur_of (i := (65, 3, .getfield 94, (12, 53, 1437), 0)) (by decide +kernel)) (by decide +kernel) hm_z
  replace hm_z := rn_iconst (w := 4) (am_cur_of (i := (68, 1, .iconst 4, (0, 0, 0), 0)) (by decide +kernel)) (by decide) hm_z
  replace hm_z := rn_iload_n (am_cur_of (i := (69, 1, .iload_n 2, (0, 0, 0), 0)) (by decide +kernel)) g2_z hm_z
  replace hm_z := rn_imul (w := 4) (am_cur_of (i := (70, 1, .imul, (0, 0, 0), 0)) (by decide +kernel)) (by decide) hm_z
  replace hm_z := rn_iload_n (am_cur_of (i := (71, 1, .iload_n 3, (0, 0, 0), 0)) (by decide +kernel)) g3_z hm_z
  replace hm_z := rn_iadd (w := 4) (am_cur_of (i := (72, 1, .iadd, (0, 0, 0), 0)) (by decide +kernel)) (by decide) hm_z
  replace hm_z := rn_iaload (N := 16) (q := 4) (v := rg_v g 191 4) (am_cur_of (i := (73, 1, .iaload, (0, 0, 0), 0)) (by decide +kernel)) (by decide +kernel) rfl (show rg_v (am_up (am_up (am_up (am_up g 188 2 (.int (rg_v g 188 1))) 189 2 (.int (rg_v g 189 1))) 190 2 (.int (rg_v g 190 1))) 194 2 (.int (rg_v g 194 1))) 191 4 = rg_v g 191 4 from rfl) hm_z
  obtain ⟨p522_z, hm_z⟩ := hm_z
  replace hm_z := rn_iastore (N := 16) (q := 8) (am_cur_of (i := (74, 1, .iastore, (0, 0, 0), 0)) (by decide +kernel)) (by decide +kernel) rfl hm_z
  obtain ⟨p523_z, hm_z⟩ := hm_z
  replace hm_z := rn_aload_n (am_cur_of (i := (75, 1, .aload_n 0, (0, 0, 0), 0)) (by decide +kernel)) g0_z hm_z
  replace hm_z := rn_getR (x := 192) (am_cur_of (i := (76, 3, .getfield 97, (12, 54, 1438), 0)) (by decide +kernel)) (by decide +kernel) hm_z
  replace hm_z := rn_iconst (w := 4) (am_cur_of (i := (79, 1, .iconst 4, (0, 0, 0), 0)) (by decide +kernel)) (by decide) hm_z
  replace hm_z := rn_iload_n (am_cur_of (i := (80, 1, .iload_n 1, (0, 0, 0), 0)) (by decide +kernel)) g1_z hm_z
  replace hm_z := rn_imul (w := 8) (am_cur_of (i := (81, 1, .imul, (0, 0, 0), 0)) (by decide +kernel)) (by decide) hm_z
  replace hm_z := rn_iload_n (am_cur_of (i := (82, 1, .iload_n 3, (0, 0, 0), 0)) (by decide +kernel)) g3_z hm_z
  replace hm_z := rn_iadd (w := 8) (am_cur_of (i := (83, 1, .iadd, (0, 0, 0), 0)) (by decide +kernel)) (by decide) hm_z
  replace hm_z := rn_aload_n (am_cur_of (i := (84, 1, .aload_n 0, (0, 0, 0), 0)) (by decide +kernel)) g0_z hm_z
  replace hm_z := rn_getR (x := 192) (am_cur_of (i := (85, 3, .getfield 97, (12, 54, 1438), 0)) (by decide +kernel)) (by decide +kernel) hm_z
  replace hm_z := rn_iconst (w := 4) (am_cur_of (i := (88, 1, .iconst 4, (0, 0, 0), 0)) (by decide +kernel)) (by decide) hm_z
  replace hm_z := rn_iload_n (am_cur_of (i := (89, 1, .iload_n 2, (0, 0, 0), 0)) (by decide +kernel)) g2_z hm_z
  replace hm_z := rn_imul (w := 4) (am_cur_of (i := (90, 1, .imul, (0, 0, 0), 0)) (by decide +kernel)) (by decide) hm_z
  replace hm_z := rn_iload_n (am_cur_of (i := (91, 1, .iload_n 3, (0, 0, 0), 0)) (by decide +kernel)) g3_z hm_z
  replace hm_z := rn_iadd (w := 4) (am_cur_of (i := (92, 1, .iadd, (0, 0, 0), 0)) (by decide +kernel)) (by decide) hm_z
  replace hm_z := rn_iaload (N := 16) (q := 4) (v := rg_v g 192 4) (am_cur_of (i := (93, 1, .iaload, (0, 0, 0), 0)) (by decide +kernel)) (by decide +kernel) rfl (show rg_v (am_up (am_up (am_up (am_up (am_up g 188 2 (.int (rg_v g 188 1))) 189 2 (.int (rg_v g 189 1))) 190 2 (.int (rg_v g 190 1))) 194 2 (.int (rg_v g 194 1))) 191 8 (.int (rg_v g 191 4))) 192 4 = rg_v g 192 4 from rfl) hm_z
  obtain ⟨p524_z, hm_z⟩ := hm_z
  replace hm_z := rn_iastore (N := 16) (q := 8) (am_cur_of (i := (94, 1, .iastore, (0, 0, 0), 0)) (by decide +kernel)) (by decide +kernel) rfl hm_z
  obtain ⟨p525_z, hm_z⟩ := hm_z
  replace hm_z := rn_aload_n (am_cur_of (i := (95, 1, .aload_n 0, (0, 0, 0), 0)) (by decide +kernel)) g0_z hm_z
  replace hm_z := rn_getR (x := 193) (am_cur_of (i := (96, 3, .getfield 100, (12, 55, 1439), 0)) (by decide +kernel)) (by decide +kernel) hm_z
  replace hm_z := rn_iconst (w := 4) (am_cur_of (i := (99, 1, .iconst 4, (0, 0, 0), 0)) (by decide +kernel)) (by decide) hm_z
  replace hm_z := rn_iload_n (am_cur_of (i := (100, 1, .iload_n 1, (0, 0, 0), 0)) (by decide +kernel)) g1_z hm_z
  replace hm_z := rn_imul (w := 8) (am_cur_of (i := (101, 1, .imul, (0, 0, 0), 0)) (by decide +kernel)) (by decide) hm_z
  replace hm_z := rn_iload_n (am_cur_of (i := (102, 1, .iload_n 3, (0, 0, 0), 0)) (by decide +kernel)) g3_z hm_z
  replace hm_z := rn_iadd (w := 8) (am_cur_of (i := (103, 1, .iadd, (0, 0, 0), 0)) (by decide +kernel)) (by decide) hm_z
  replace hm_z := rn_aload_n (am_cur_of (i := (104, 1, .aload_n 0, (0, 0, 0), 0)) (by decide +kernel)) g0_z hm_z
  replace hm_z := rn_getR (x := 193) (am_cur_of (i := (105, 3, .getfield 100, (12, 55, 1439), 0)) (by decide +kernel)) (by decide +kernel) hm_z
  replace hm_z := rn_iconst (w := 4) (am_cur_of (i := (108, 1, .iconst 4, (0, 0, 0), 0)) (by decide +kernel)) (by decide) hm_z
  replace hm_z := rn_iload_n (am_cur_of (i := (109, 1, .iload_n 2, (0, 0, 0), 0)) (by decide +kernel)) g2_z hm_z
  replace hm_z := rn_imul (w := 4) (am_cur_of (i := (110, 1, .imul, (0, 0, 0), 0)) (by decide +kernel)) (by decide) hm_z
  replace hm_z := rn_iload_n (am_cur_of (i := (111, 1, .iload_n 3, (0, 0, 0), 0)) (by decide +kernel)) g3_z hm_z
  replace hm_z := rn_iadd (w := 4) (am_cur_of (i := (112, 1, .iadd, (0, 0, 0), 0)) (by decide +kernel)) (by decide) hm_z
  replace hm_z := rn_iaload (N := 16) (q := 4) (v := rg_v g 193 4) (am_cur_of (i := (113, 1, .iaload, (0, 0, 0), 0)) (by decide +kernel)) (by decide +kernel) rfl (show rg_v (am_up (am_up (am_up (am_up (am_up (am_up g 188 2 (.int (rg_v g 188 1))) 189 2 (.int (rg_v g 189 1))) 190 2 (.int (rg_v g 190 1))) 194 2 (.int (rg_v g 194 1))) 191 8 (.int (rg_v g 191 4))) 192 8 (.int (rg_v g 192 4))) 193 4 = rg_v g 193 4 from rfl) hm_z
  obtain ⟨p526_z, hm_z⟩ := hm_z
  replace hm_z := rn_iastore (N := 16) (q := 8) (am_cur_of (i := (114, 1, .iastore, (0, 0, 0), 0)) (by decide +kernel)) (by decide +kernel) rfl hm_z
  obtain ⟨p527_z, hm_z⟩ := hm_z
  replace hm_z := rn_iinc (w := 1) (am_cur_of (i := (115, 3, .iinc 3 1, (0, 0, 0), 0)) (by decide +kernel)) g3_z (by decide) hm_z
  obtain ⟨_, s528_z, s529_z, g3_z, hm_z⟩ := hm_z
  replace g0_z := s528_z 0 _ (by decide) rfl g0_z
  replace g1_z := s528_z 1 _ (by decide) rfl g1_z
  replace g2_z := s528_z 2 _ (by decide) rfl g2_z
  clear s528_z s529_z
  replace hm_z := rn_goto (am_cur_of (i := (118, 3, .goto (-68), (34, 0, 0), 0)) (by decide +kernel)) hm_z
  replace hm_z := rn_iload_n (am_cur_of (i := (50, 1, .iload_n 3, (0, 0, 0), 0)) (by decide +kernel)) g3_z hm_z
  replace hm_z := rn_iconst (w := 4) (am_cur_of (i := (51, 1, .iconst 4, (0, 0, 0), 0)) (by decide +kernel)) (by decide) hm_z
  replace hm_z := rn_cmpF (am_cur_of (i := (52, 3, .if_icmp .ge 69, (87, 0, 0), 0)) (by decide +kernel)) (by decide) hm_z
  replace hm_z := rn_aload_n (am_cur_of (i := (55, 1, .aload_n 0, (0, 0, 0), 0)) (by decide +kernel)) g0_z hm_z
  replace hm_z := rn_getR (x := 191) (am_cur_of (i := (56, 3, .getfield 94, (12, 53, 1437), 0)) (by decide +kernel)) (by decide +kernel) hm_z
  replace hm_z := rn_iconst (w := 4) (am_cur_of (i := (59, 1, .iconst 4, (0, 0, 0), 0)) (by decide +kernel)) (by decide) hm_z
  replace hm_z := rn_iload_n (am_cur_of (i := (60, 1, .iload_n 1, (0, 0, 0), 0)) (by decide +kernel)) g1_z hm_z
  replace hm_z := rn_imul (w := 8) (am_cur_of (i := (61, 1, .imul, (0, 0, 0), 0)) (by decide +kernel)) (by decide) hm_z
  replace hm_z := rn_iload_n (am_cur_of (i := (62, 1, .iload_n 3, (0, 0, 0), 0)) (by decide +kernel)) g3_z hm_z
  replace hm_z := rn_iadd (w := 9) (am_cur_of (i := (63, 1, .iadd, (0, 0, 0), 0)) (by decide +kernel)) (by decide) hm_z
  replace hm_z := rn_aload_n (am_cur_of (i := (64, 1, .aload_n 0, (0, 0, 0), 0)) (by decide +kernel)) g0_z hm_z
  replace hm_z := rn_getR (x := 191) (am_cur_of (i := (65, 3, .getfield 94, (12, 53, 1437), 0)) (by decide +kernel)) (by decide +kernel) hm_z
  replace hm_z := rn_iconst (w := 4) (am_cur_of (i := (68, 1, .iconst 4, (0, 0, 0), 0)) (by decide +kernel)) (by decide) hm_z
  replace hm_z := rn_iload_n (am_cur_of (i := (69, 1, .iload_n 2, (0, 0, 0), 0)) (by decide +kernel)) g2_z hm_z
  replace hm_z := rn_imul (w := 4) (am_cur_of (i := (70, 1, .imul, (0, 0, 0), 0)) (by decide +kernel)) (by decide) hm_z
  replace hm_z := rn_iload_n (am_cur_of (i := (71, 1, .iload_n 3, (0, 0, 0), 0)) (by decide +kernel)) g3_z hm_z
  replace hm_z := rn_iadd (w := 5) (am_cur_of (i := (72, 1, .iadd, (0, 0, 0), 0)) (by decide +kernel)) (by decide) hm_z
  replace hm_z := rn_iaload (N := 16) (q := 5) (v := rg_v g 191 5) (am_cur_of (i := (73, 1, .iaload, (0, 0, 0), 0)) (by decide +kernel)) (by decide +kernel) rfl (show rg_v (am_up (am_up (am_up (am_up (am_up (am_up (am_up g 188 2 (.int (rg_v g 188 1))) 189 2 (.int (rg_v g 189 1))) 190 2 (.int (rg_v g 190 1))) 194 2 (.int (rg_v g 194 1))) 191 8 (.int (rg_v g 191 4))) 192 8 (.int (rg_v g 192 4))) 193 8 (.int (rg_v g 193 4))) 191 5 = rg_v g 191 5 from rfl) hm_z
  obtain ⟨p530_z, hm_z⟩ := hm_z
  replace hm_z := rn_iastore (N := 16) (q := 9) (am_cur_of (i := (74, 1, .iastore, (0, 0, 0), 0)) (by decide +kernel)) (by decide +kernel) rfl hm_z
  obtain ⟨p531_z, hm_z⟩ := hm_z
  replace hm_z := rn_aload_n (am_cur_of (i := (75, 1, .aload_n 0, (0, 0, 0), 0)) (by decide +kernel)) g0_z hm_z
  replace hm_z := rn_getR (x := 192) (am_cur_of (i := (76, 3, .getfield 97, (12, 54, 1438), 0)) (by decide +kernel)) (by decide +kernel) hm_z
  replace hm_z := rn_iconst (w := 4) (am_cur_of (i := (79, 1, .iconst 4, (0, 0, 0), 0)) (by decide +kernel)) (by decide) hm_z
  replace hm_z := rn_iload_n (am_cur_of (i := (80, 1, .iload_n 1, (0, 0, 0), 0)) (by decide +kernel)) g1_z hm_z
  replace hm_z := rn_imul (w := 8) (am_cur_of (i := (81, 1, .imul, (0, 0, 0), 0)) (by decide +kernel)) (by decide) hm_z
  replace hm_z := rn_iload_n (am_cur_of (i := (82, 1, .iload_n 3, (0, 0, 0), 0)) (by decide +kernel)) g3_z hm_z
  replace hm_z := rn_iadd (w := 9) (am_cur_of (i := (83, 1, .iadd, (0, 0, 0), 0)) (by decide +kernel)) (by decide) hm_z
  replace hm_z := rn_aload_n (am_cur_of (i := (84, 1, .aload_n 0, (0, 0, 0), 0)) (by decide +kernel)) g0_z hm_z
  replace hm_z := rn_getR (x := 192) (am_cur_of (i := (85, 3, .getfield 97, (12, 54, 1438), 0)) (by decide +kernel)) (by decide +kernel) hm_z
  replace hm_z := rn_iconst (w := 4) (am_cur_of (i := (88, 1, .iconst 4, (0, 0, 0), 0)) (by decide +kernel)) (by decide) hm_z
  replace hm_z := rn_iload_n (am_cur_of (i := (89, 1, .iload_n 2, (0, 0, 0), 0)) (by decide +kernel)) g2_z hm_z
  replace hm_z := rn_imul (w := 4) (am_cur_of (i := (90, 1, .imul, (0, 0, 0), 0)) (by decide +kernel)) (by decide) hm_z
  replace hm_z := rn_iload_n (am_cur_of (i := (91, 1, .iload_n 3, (0, 0, 0), 0)) (by decide +kernel)) g3_z hm_z
  replace hm_z := rn_iadd (w := 5) (am_cur_of (i := (92, 1, .iadd, (0, 0, 0), 0)) (by decide +kernel)) (by decide) hm_z
  replace hm_z := rn_iaload (N := 16) (q := 5) (v := rg_v g 192 5) (am_cur_of (i := (93, 1, .iaload, (0, 0, 0), 0)) (by decide +kernel)) (by decide +kernel) rfl (show rg_v (am_up (am_up (am_up (am_up (am_up (am_up (am_up (am_up g 188 2 (.int (rg_v g 188 1))) 189 2 (.int (rg_v g 189 1))) 190 2 (.int (rg_v g 190 1))) 194 2 (.int (rg_v g 194 1))) 191 8 (.int (rg_v g 191 4))) 192 8 (.int (rg_v g 192 4))) 193 8 (.int (rg_v g 193 4))) 191 9 (.int (rg_v g 191 5))) 192 5 = rg_v g 192 5 from rfl) hm_z
  obtain ⟨p532_z, hm_z⟩ := hm_z
  replace hm_z := rn_iastore (N := 16) (q := 9) (am_cur_of (i := (94, 1, .iastore, (0, 0, 0), 0)) (by decide +kernel)) (by decide +kernel) rfl hm_z
  obtain ⟨p533_z, hm_z⟩ := hm_z
  replace hm_z := rn_aload_n (am_cur_of (i := (95, 1, .aload_n 0, (0, 0, 0), 0)) (by decide +kernel)) g0_z hm_z
  replace hm_z := rn_getR (x := 193) (am_cur_of (i := (96, 3, .getfield 100, (12, 55, 1439), 0)) (by decide +kernel)) (by decide +kernel) hm_z
  replace hm_z := rn_iconst (w := 4) (am_cur_of (i := (99, 1, .iconst 4, (0, 0, 0), 0)) (by decide +kernel)) (by decide) hm_z
  replace hm_z := rn_iload_n (am_cur_of (i := (100, 1, .iload_n 1, (0, 0, 0), 0)) (by decide +kernel)) g1_z hm_z
  replace hm_z := rn_imul (w := 8) (am_cur_of (i := (101, 1, .imul, (0, 0, 0), 0)) (by decide +kernel)) (by decide) hm_z
  replace hm_z := rn_iload_n (am_cur_of (i := (102, 1, .iload_n 3, (0, 0, 0), 0)) (by decide +kernel)) g3_z hm_z
  replace hm_z := rn_iadd (w := 9) (am_cur_of (i := (103, 1, .iadd, (0, 0, 0), 0)) (by decide +kernel)) (by decide) hm_z
  replace hm_z := rn_aload_n (am_cur_of (i := (104, 1, .aload_n 0, (0, 0, 0), 0)) (by decide +kernel)) g0_z hm_z
  replace hm_z := rn_getR (x := 193) (am_cur_of (i := (105, 3, .getfield 100, (12, 55, 1439), 0)) (by decide +kernel)) (by decide +kernel) hm_z
  replace hm_z := rn_iconst (w := 4) (am_cur_of (i := (108, 1, .iconst 4, (0, 0, 0), 0)) (by decide +kernel)) (by decide) hm_z
  replace hm_z := rn_iload_n (am_cur_of (i := (109, 1, .iload_n 2, (0, 0, 0), 0)) (by decide +kernel)) g2_z hm_z
  replace hm_z := rn_imul (w := 4) (am_cur_of (i := (110, 1, .imul, (0, 0, 0), 0)) (by decide +kernel)) (by decide) hm_z
  replace hm_z := rn_iload_n (am_cur_of (i := (111, 1, .iload_n 3, (0, 0, 0), 0)) (by decide +kernel)) g3_z hm_z
  replace hm_z := rn_iadd (w := 5) (am_cur_of (i := (112, 1, .iadd, (0, 0, 0), 0)) (by decide +kernel)) (by decide) hm_z
  replace hm_z := rn_iaload (N := 16) (q := 5) (v := rg_v g 193 5) (am_cur_of (i := (113, 1, .iaload, (0, 0, 0), 0)) (by decide +kernel)) (by decide +kernel) rfl (show rg_v (am_up (am_up (am_up (am_up (am_up (am_up (am_up (am_up (am_up g 188 2 (.int (rg_v g 188 1))) 189 2 (.int (rg_v g 189 1))) 190 2 (.int (rg_v g 190 1))) 194 2 (.int (rg_v g 194 1))) 191 8 (.int (rg_v g 191 4))) 192 8 (.int (rg_v g 192 4))) 193 8 (.int (rg_v g 193 4))) 191 9 (.int (rg_v g 191 5))) 192 9 (.int (rg_v g 192 5))) 193 5 = rg_v g 193 5 from rfl) hm_z
  obtain ⟨p534_z, hm_z⟩ := hm_z
  replace hm_z := rn_iastore (N := 16) (q := 9) (am_cur_of (i := (114, 1, .iastore, (0, 0, 0), 0)) (by decide +kernel)) (by decide +kernel) rfl hm_z
  obtain ⟨p535_z, hm_z⟩ := hm_z
  replace hm_z := rn_iinc (w := 2) (am_cur_of (i := (115, 3, .iinc 3 1, (0, 0, 0), 0)) (by decide +kernel)) g3_z (by decide) hm_z
  obtain ⟨_, s536_z, s537_z, g3_z, hm_z⟩ := hm_z
  replace g0_z := s536_z 0 _ (by decide) rfl g0_z
  replace g1_z := s536_z 1 _ (by decide) rfl g1_z
  replace g2_z := s536_z 2 _ (by decide) rfl g2_z
  clear s536_z s537_z
  replace hm_z := rn_goto (am_cur_of (i := (118, 3, .goto (-68), (34, 0, 0), 0)) (by decide +kernel)) hm_z
  replace hm_z := rn_iload_n (am_cur_of (i := (50, 1, .iload_n 3, (0, 0, 0), 0)) (by decide +kernel)) g3_z hm_z
  replace hm_z := rn_iconst (w := 4) (am_cur_of (i := (51, 1, .iconst 4, (0, 0, 0), 0)) (by decide +kernel)) (by decide) hm_z
  replace hm_z := rn_cmpF (am_cur_of (i := (52, 3, .if_icmp .ge 69, (87, 0, 0), 0)) (by decide +kernel)) (by decide) hm_z
  replace hm_z := rn_aload_n (am_cur_of (i := (55, 1, .aload_n 0, (0, 0, 0), 0)) (by decide +kernel)) g0_z hm_z
  replace hm_z := rn_getR (x := 191) (am_cur_of (i := (56, 3, .getfield 94, (12, 53, 1437), 0)) (by decide +kernel)) (by decide +kernel) hm_z
  replace hm_z := rn_iconst (w := 4) (am_cur_of (i := (59, 1, .iconst 4, (0, 0, 0), 0)) (by decide +kernel)) (by decide) hm_z
  replace hm_z := rn_iload_n (am_cur_of (i := (60, 1, .iload_n 1, (0, 0, 0), 0)) (by decide +kernel)) g1_z hm_z
  replace hm_z := rn_imul (w := 8) (am_cur_of (i := (61, 1, .imul, (0, 0, 0), 0)) (by decide +kernel)) (by decide) hm_z
  replace hm_z := rn_iload_n (am_cur_of (i := (62, 1, .iload_n 3, (0, 0, 0), 0)) (by decide +kernel)) g3_z hm_z
  replace hm_z := rn_iadd (w := 10) (am_cur_of (i := (63, 1, .iadd, (0, 0, 0), 0)) (by decide +kernel)) (by decide) hm_z
  replace hm_z := rn_aload_n (am_cur_of (i := (64, 1, .aload_n 0, (0, 0, 0), 0)) (by decide +kernel)) g0_z hm_z
  replace hm_z := rn_getR (x := 191) (am_cur_of (i := (65, 3, .getfield 94, (12, 53, 1437), 0)) (by decide +kernel)) (by decide +kernel) hm_z
  replace hm_z := rn_iconst (w := 4) (am_cur_of (i := (68, 1, .iconst 4, (0, 0, 0), 0)) (by decide +kernel)) (by decide) hm_z
  replace hm_z := rn_iload_n (am_cur_of (i := (69, 1, .iload_n 2, (0, 0, 0), 0)) (by decide +kernel)) g2_z hm_z
  replace hm_z := rn_imul (w := 4) (am_cur_of (i := (70, 1, .imul, (0, 0, 0), 0)) (by decide +kernel)) (by decide) hm_z
  replace hm_z := rn_iload_n (am_cur_of (i := (71, 1, .iload_n 3, (0, 0, 0), 0)) (by decide +kernel)) g3_z hm_z
  replace hm_z := rn_iadd (w := 6) (am_cur_of (i := (72, 1, .iadd, (0, 0, 0), 0)) (by decide +kernel)) (by decide) hm_z
  replace hm_z := rn_iaload (N := 16) (q := 6) (v := rg_v g 191 6) (am_cur_of (i := (73, 1, .iaload, (0, 0, 0), 0)) (by decide +kernel)) (by decide +kernel) rfl (show rg_v (am_up (am_up (am_up (am_up (am_up (am_up (am_up (am_up (am_up (am_up g 188 2 (.int (rg_v g 188 1))) 189 2 (.int (rg_v g 189 1))) 190 2 (.int (rg_v g 190 1))) 194 2 (.int (rg_v g 194 1))) 191 8 (.int (rg_v g 191 4))) 192 8 (.int (rg_v g 192 4))) 193 8 (.int (rg_v g 193 4))) 191 9 (.int (rg_v g 191 5))) 192 9 (.int (rg_v g 192 5))) 193 9 (.int (rg_v g 193 5))) 191 6 = rg_v g 191 6 from rfl) hm_z
  obtain ⟨p538_z, hm_z⟩ := hm_z
  replace hm_z := rn_iastore (N := 16) (q := 10) (am_cur_of (i := (74, 1, .iastore, (0, 0, 0), 0)) (by decide +kernel)) (by decide +kernel) rfl hm_z
  obtain ⟨p539_z, hm_z⟩ := hm_z
  replace hm_z := rn_aload_n (am_cur_of (i := (75, 1, .aload_n 0, (0, 0, 0), 0)) (by decide +kernel)) g0_z hm_z
  replace hm_z := rn_getR (x := 192) (am_cur_of (i := (76, 3, .getfield 97, (12, 54, 1438), 0)) (by decide +kernel)) (by decide +kernel) hm_z
  replace hm_z := rn_iconst (w := 4) (am_cur_of (i := (79, 1, .iconst 4, (0, 0, 0), 0)) (by decide +kernel)) (by decide) hm_z
  replace hm_z := rn_iload_n (am_cur_of (i := (80, 1, .iload_n 1, (0, 0, 0), 0)) (by decide +kernel)) g1_z hm_z
  replace hm_z := rn_imul (w := 8) (am_cur_of (i := (81, 1, .imul, (0, 0, 0), 0)) (by decide +kernel)) (by decide) hm_z
  replace hm_z := rn_iload_n (am_cur_of (i := (82, 1, .iload_n 3, (0, 0, 0), 0)) (by decide +kernel)) g3_z hm_z
  replace hm_z := rn_iadd (w := 10) (am_cur_of (i := (83, 1, .iadd, (0, 0, 0), 0)) (by decide +kernel)) (by decide) hm_z
  replace hm_z := rn_aload_n (am_cur_of (i := (84, 1, .aload_n 0, (0, 0, 0), 0)) (by decide +kernel)) g0_z hm_z
  replace hm_z := rn_getR (x := 192) (am_cur_of (i := (85, 3, .getfield 97, (12, 54, 1438), 0)) (by decide +kernel)) (by decide +kernel) hm_z
  replace hm_z := rn_iconst (w := 4) (am_cur_of (i := (88, 1, .iconst 4, (0, 0, 0), 0)) (by decide +kernel)) (by decide) hm_z
  replace hm_z := rn_iload_n (am_cur_of (i := (89, 1, .iload_n 2, (0, 0, 0), 0)) (by decide +kernel)) g2_z hm_z
  replace hm_z := rn_imul (w := 4) (am_cur_of (i := (90, 1, .imul, (0, 0, 0), 0)) (by decide +kernel)) (by decide) hm_z
  replace hm_z := rn_iload_n (am_cur_of (i := (91, 1, .iload_n 3, (0, 0, 0), 0)) (by decide +kernel)) g3_z hm_z
  replace hm_z := rn_iadd (w := 6) (am_cur_of (i := (92, 1, .iadd, (0, 0, 0), 0)) (by decide +kernel)) (by decide) hm_z
  replace hm_z := rn_iaload (N := 16) (q := 6) (v := rg_v g 192 6) (am_cur_of (i := (93, 1, .iaload, (0, 0, 0), 0)) (by decide +kernel)) (by decide +kernel) rfl (show rg_v (am_up (am_up (am_up (am_up (am_up (am_up (am_up (am_up (am_up (am_up (am_up g 188 2 (.int (rg_v g 188 1))) 189 2 (.int (rg_v g 189 1))) 190 2 (.int (rg_v g 190 1))) 194 2 (.int (rg_v g 194 1))) 191 8 (.int (rg_v g 191 4))) 192 8 (.int (rg_v g 192 4))) 193 8 (.int (rg_v g 193 4))) 191 9 (.int (rg_v g 191 5))) 192 9 (.int (rg_v g 192 5))) 193 9 (.int (rg_v g 193 5))) 191 10 (.int (rg_v g 191 6))) 192 6 = rg_v g 192 6 from rfl) hm_z
  obtain ⟨p540_z, hm_z⟩ := hm_z
  replace hm_z := rn_iastore (N := 16) (q := 10) (am_cur_of (i := (94, 1, .iastore, (0, 0, 0), 0)) (by decide +kernel)) (by decide +kernel) rfl hm_z
  obtain ⟨p541_z, hm_z⟩ := hm_z
  replace hm_z := rn_aload_n (am_cur_of (i := (95, 1, .aload_n 0, (0, 0, 0), 0)) (by decide +kernel)) g0_z hm_z
  replace hm_z := rn_getR (x := 193) (am_cur_of (i := (96, 3, .getfield 100, (12, 55, 1439), 0)) (by decide +kernel)) (by decide +kernel) hm_z
  replace hm_z := rn_iconst (w := 4) (am_cur_of (i := (99, 1, .iconst 4, (0, 0, 0), 0)) (by decide +kernel)) (by decide) hm_z
  replace hm_z := rn_iload_n (am_cur_of (i := (100, 1, .iload_n 1, (0, 0, 0), 0)) (by decide +kernel)) g1_z hm_z
  replace hm_z := rn_imul (w := 8) (am_cur_of (i := (101, 1, .imul, (0, 0, 0), 0)) (by decide +kernel)) (by decide) hm_z
  replace hm_z := rn_iload_n (am_cur_of (i := (102, 1, .iload_n 3, (0, 0, 0), 0)) (by decide +kernel)) g3_z hm_z
  replace hm_z := rn_iadd (w := 10) (am_cur_of (i := (103, 1, .iadd, (0, 0, 0), 0)) (by decide +kernel)) (by decide) hm_z
  replace hm_z := rn_aload_n (am_cur_of (i := (104, 1, .aload_n 0, (0, 0, 0), 0)) (by decide +kernel)) g0_z hm_z
  replace hm_z := rn_getR (x := 193) (am_cur_of (i := (105, 3, .getfield 100, (12, 55, 1439), 0)) (by decide +kernel)) (by decide +kernel) hm_z
  replace hm_z := rn_iconst (w := 4) (am_cur_of (i := (108, 1, .iconst 4, (0, 0, 0), 0)) (by decide +kernel)) (by decide) hm_z
  replace hm_z := rn_iload_n (am_cur_of (i := (109, 1, .iload_n 2, (0, 0, 0), 0)) (by decide +kernel)) g2_z hm_z
  replace hm_z := rn_imul (w := 4) (am_cur_of (i := (110, 1, .imul, (0, 0, 0), 0)) (by decide +kernel)) (by decide) hm_z
  replace hm_z := rn_iload_n (am_cur_of (i := (111, 1, .iload_n 3, (0, 0, 0), 0)) (by decide +kernel)) g3_z hm_z
  replace hm_z := rn_iadd (w := 6) (am_cur_of (i := (112, 1, .iadd, (0, 0, 0), 0)) (by decide +kernel)) (by decide) hm_z
  replace hm_z := rn_iaload (N := 16) (q := 6) (v := rg_v g 193 6) (am_cur_of (i := (113, 1, .iaload, (0, 0, 0), 0)) (by decide +kernel)) (by decide +kernel) rfl (show rg_v (am_up (am_up (am_up (am_up (am_up (am_up (am_up (am_up (am_up (am_up (am_up (am_up g 188 2 (.int (rg_v g 188 1))) 189 2 (.int (rg_v g 189 1))) 190 2 (.int (rg_v g 190 1))) 194 2 (.int (rg_v g 194 1))) 191 8 (.int (rg_v g 191 4))) 192 8 (.int (rg_v g 192 4))) 193 8 (.int (rg_v g 193 4))) 191 9 (.int (rg_v g 191 5))) 192 9 (.int (rg_v g 192 5))) 193 9 (.int (rg_v g 193 5))) 191 10 (.int (rg_v g 191 6))) 192 10 (.int (rg_v g 192 6))) 193 6 = rg_v g 193 6 from rfl) hm_z
  obtain ⟨p542_z, hm_z⟩ := hm_z
  replace hm_z := rn_iastore (N := 16) (q := 10) (am_cur_of (i := (114, 1, .iastore, (0, 0, 0), 0)) (by decide +kernel)) (by decide +kernel) rfl hm_z
  obtain ⟨p543_z, hm_z⟩ := hm_z
  replace hm_z := rn_iinc (w := 3) (am_cur_of (i := (115, 3, .iinc 3 1, (0, 0, 0), 0)) (by decide +kernel)) g3_z (by decide) hm_z
  obtain ⟨_, s544_z, s545_z, g3_z, hm_z⟩ := hm_z
  replace g0_z := s544_z 0 _ (by decide) rfl g0_z
  replace g1_z := s544_z 1 _ (by decide) rfl g1_z
  replace g2_z := s544_z 2 _ (by decide) rfl g2_z
  clear s544_z s545_z
  replace hm_z := rn_goto (am_cur_of (i := (118, 3, .goto (-68), (34, 0, 0), 0)) (by decide +kernel)) hm_z
  replace hm_z := rn_iload_n (am_cur_of (i := (50, 1, .iload_n 3, (0, 0, 0), 0)) (by decide +kernel)) g3_z hm_z
  replace hm_z := rn_iconst (w := 4) (am_cur_of (i := (51, 1, .iconst 4, (0, 0, 0), 0)) (by decide +kernel)) (by decide) hm_z
  replace hm_z := rn_cmpF (am_cur_of (i := (52, 3, .if_icmp .ge 69, (87, 0, 0), 0)) (by decide +kernel)) (by decide) hm_z
  replace hm_z := rn_aload_n (am_cur_of (i := (55, 1, .aload_n 0, (0, 0, 0), 0)) (by decide +kernel)) g0_z hm_z
  replace hm_z := rn_getR (x := 191) (am_cur_of (i := (56, 3, .getfield 94, (12, 53, 1437), 0)) (by decide +kernel)) (by decide +kernel) hm_z
  replace hm_z := rn_iconst (w := 4) (am_cur_of (i := (59, 1, .iconst 4, (0, 0, 0), 0)) (by decide +kernel)) (by decide) hm_z
  replace hm_z := rn_iload_n (am_cur_of (i := (60, 1, .iload_n 1, (0, 0, 0), 0)) (by decide +kernel)) g1_z hm_z
  replace hm_z := rn_imul (w := 8) (am_cur_of (i := (61, 1, .imul, (0, 0, 0), 0)) (by decide +kernel)) (by decide) hm_z
  replace hm_z := rn_iload_n (am_cur_of (i := (62, 1, .iload_n 3, (0, 0, 0), 0)) (by decide +kernel)) g3_z hm_z
  replace hm_z := rn_iadd (w := 11) (am_cur_of (i := (63, 1, .iadd, (0, 0, 0), 0)) (by decide +kernel)) (by decide) hm_z
  replace hm_z := rn_aload_n (am_cur_of (i := (64, 1, .aload_n 0, (0, 0, 0), 0)) (by decide +kernel)) g0_z hm_z
  replace hm_z := rn_getR (x := 191) (am_cur_of (i := (65, 3, .getfield 94, (12, 53, 1437), 0)) (by decide +kernel)) (by decide +kernel) hm_z
  replace hm_z := rn_iconst (w := 4) (am_cur_of (i := (68, 1, .iconst 4, (0, 0, 0), 0)) (by decide +kernel)) (by decide) hm_z
  replace hm_z := rn_iload_n (am_cur_of (i := (69, 1, .iload_n 2, (0, 0, 0), 0)) (by decide +kernel)) g2_z hm_z
  replace hm_z := rn_imul (w := 4) (am_cur_of (i := (70, 1, .imul, (0, 0, 0), 0)) (by decide +kernel)) (by decide) hm_z
  replace hm_z := rn_iload_n (am_cur_of (i := (71, 1, .iload_n 3, (0, 0, 0), 0)) (by decide +kernel)) g3_z hm_z
  replace hm_z := rn_iadd (w := 7) (am_cur_of (i := (72, 1, .iadd, (0, 0, 0), 0)) (by decide +kernel)) (by decide) hm_z
  replace hm_z := rn_iaload (N := 16) (q := 7) (v := rg_v g 191 7) (am_cur_of (i := (73, 1, .iaload, (0, 0, 0), 0)) (by decide +kernel)) (by decide +kernel) rfl (show rg_v (am_up (am_up (am_up (am_up (am_up (am_up (am_up (am_up (am_up (am_up (am_up (am_up (am_up g 188 2 (.int (rg_v g 188 1))) 189 2 (.int (rg_v g 189 1))) 190 2 (.int (rg_v g 190 1))) 194 2 (.int (rg_v g 194 1))) 191 8 (.int (rg_v g 191 4))) 192 8 (.int (rg_v g 192 4))) 193 8 (.int (rg_v g 193 4))) 191 9 (.int (rg_v g 191 5))) 192 9 (.int (rg_v g 192 5))) 193 9 (.int (rg_v g 193 5))) 191 10 (.int (rg_v g 191 6))) 192 10 (.int (rg_v g 192 6))) 193 10 (.int (rg_v g 193 6))) 191 7 = rg_v g 191 7 from rfl) hm_z
  obtain ⟨p546_z, hm_z⟩ := hm_z
  replace hm_z := rn_iastore (N := 16) (q := 11) (am_cur_of (i := (74, 1, .iastore, (0, 0, 0), 0)) (by decide +kernel)) (by decide +kernel) rfl hm_z
  obtain ⟨p547_z, hm_z⟩ := hm_z
  replace hm_z := rn_aload_n (am_cur_of (i := (75, 1, .aload_n 0, (0, 0, 0), 0)) (by decide +kernel)) g0_z hm_z
  replace hm_z := rn_getR (x := 192) (am_cur_of (i := (76, 3, .getfield 97, (12, 54, 1438), 0)) (by decide +kernel)) (by decide +kernel) hm_z
  replace hm_z := rn_iconst (w := 4) (am_cur_of (i := (79, 1, .iconst 4, (0, 0, 0), 0)) (by decide +kernel)) (by decide) hm_z
  replace hm_z := rn_iload_n (am_cur_of (i := (80, 1, .iload_n 1, (0, 0, 0), 0)) (by decide +kernel)) g1_z hm_z
  replace hm_z := rn_imul (w := 8) (am_cur_of (i := (81, 1, .imul, (0, 0, 0), 0)) (by decide +kernel)) (by decide) hm_z
  replace hm_z := rn_iload_n (am_cur_of (i := (82, 1, .iload_n 3, (0, 0, 0), 0)) (by decide +kernel)) g3_z hm_z
  replace hm_z := rn_iadd (w := 11) (am_cur_of (i := (83, 1, .iadd, (0, 0, 0), 0)) (by decide +kernel)) (by decide) hm_z
  replace hm_z := rn_aload_n (am_cur_of (i := (84, 1, .aload_n 0, (0, 0, 0), 0)) (by decide +kernel)) g0_z hm_z
  replace hm_z := rn_getR (x := 192) (am_cur_of (i := (85, 3, .getfield 97, (12, 54, 1438), 0)) (by decide +kernel)) (by decide +kernel) hm_z
  replace hm_z := rn_iconst (w := 4) (am_cur_of (i := (88, 1, .iconst 4, (0, 0, 0), 0)) (by decide +kernel)) (by decide) hm_z
  replace hm_z := rn_iload_n (am_cur_of (i := (89, 1, .iload_n 2, (0, 0, 0), 0)) (by decide +kernel)) g2_z hm_z
  replace hm_z := rn_imul (w := 4) (am_cur_of (i := (90, 1, .imul, (0, 0, 0), 0)) (by decide +kernel)) (by decide) hm_z
  replace hm_z := rn_iload_n (am_cur_of (i := (91, 1, .iload_n 3, (0, 0, 0), 0)) (by decide +kernel)) g3_z hm_z
  replace hm_z := rn_iadd (w := 7) (am_cur_of (i := (92, 1, .iadd, (0, 0, 0), 0)) (by decide +kernel)) (by decide) hm_z
  replace hm_z := rn_iaload (N := 16) (q := 7) (v := rg_v g 192 7) (am_cur_of (i := (93, 1, .iaload, (0, 0, 0), 0)) (by decide +kernel)) (by decide +kernel) rfl (show rg_v (am_up (am_up (am_up (am_up (am_up (am_up (am_up (am_up (am_up (am_up (am_up (am_up (am_up (am_up g 188 2 (.int (rg_v g 188 1))) 189 2 (.int (rg_v g 189 1))) 190 2 (.int (rg_v g 190 1))) 194 2 (.int (rg_v g 194 1))) 191 8 (.int (rg_v g 191 4))) 192 8 (.int (rg_v g 192 4))) 193 8 (.int (rg_v g 193 4))) 191 9 (.int (rg_v g 191 5))) 192 9 (.int (rg_v g 192 5))) 193 9 (.int (rg_v g 193 5))) 191 10 (.int (rg_v g 191 6))) 192 10 (.int (rg_v g 192 6))) 193 10 (.int (rg_v g 193 6))) 191 11 (.int (rg_v g 191 7))) 192 7 = rg_v g 192 7 from rfl) hm_z
  obtain ⟨p548_z, hm_z⟩ := hm_z
  replace hm_z := rn_iastore (N := 16) (q := 11) (am_cur_of (i := (94, 1, .iastore, (0, 0, 0), 0)) (by decide +kernel)) (by decide +kernel) rfl hm_z
  obtain ⟨p549_z, hm_z⟩ := hm_z
  replace hm_z := rn_aload_n (am_cur_of (i := (95, 1, .aload_n 0, (0, 0, 0), 0)) (by decide +kernel)) g0_z hm_z
  replace hm_z := rn_getR (x := 193) (am_cur_of (i := (96, 3, .getfield 100, (12, 55, 1439), 0)) (by decide +kernel)) (by decide +kernel) hm_z
  replace hm_z := rn_iconst (w := 4) (am_cur_of (i := (99, 1, .iconst 4, (0, 0, 0), 0)) (by decide +kernel)) (by decide) hm_z
  replace hm_z := rn_iload_n (am_cur_of (i := (100, 1, .iload_n 1, (0, 0, 0), 0)) (by decide +kernel)) g1_z hm_z
  replace hm_z := rn_imul (w := 8) (am_cur_of (i := (101, 1, .imul, (0, 0, 0), 0)) (by decide +kernel)) (by decide) hm_z
  replace hm_z := rn_iload_n (am_cur_of (i := (102, 1, .iload_n 3, (0, 0, 0), 0)) (by decide +kernel)) g3_z hm_z
  replace hm_z := rn_iadd (w := 11) (am_cur_of (i := (103, 1, .iadd, (0, 0, 0), 0)) (by decide +kernel)) (by decide) hm_z
  replace hm_z := rn_aload_n (am_cur_of (i := (104, 1, .aload_n 0, (0, 0, 0), 0)) (by decide +kernel)) g0_z hm_z
  replace hm_z := rn_getR (x := 193) (am_cur_of (i := (105, 3, .getfield 100, (12, 55, 1439), 0)) (by decide +kernel)) (by decide +kernel) hm_z
  replace hm_z := rn_iconst (w := 4) (am_cur_of (i := (108, 1, .iconst 4, (0, 0, 0), 0)) (by decide +kernel)) (by decide) hm_z
  replace hm_z := rn_iload_n (am_cur_of (i := (109, 1, .iload_n 2, (0, 0, 0), 0)) (by decide +kernel)) g2_z hm_z
  replace hm_z := rn_imul (w := 4) (am_cur_of (i := (110, 1, .imul, (0, 0, 0), 0)) (by decide +kernel)) (by decide) hm_z
  replace hm_z := rn_iload_n (am_cur_of (i := (111, 1, .iload_n 3, (0, 0, 0), 0)) (by decide +kernel)) g3_z hm_z
  replace hm_z := rn_iadd (w := 7) (am_cur_of (i := (112, 1, .iadd, (0, 0, 0), 0)) (by decide +kernel)) (by decide) hm_z
  replace hm_z := rn_iaload (N := 16) (q := 7) (v := rg_v g 193 7) (am_cur_of (i := (113, 1, .iaload, (0, 0, 0), 0)) (by decide +kernel)) (by decide +kernel) rfl (show rg_v (am_up (am_up (am_up (am_up (am_up (am_up (am_up (am_up (am_up (am_up (am_up (am_up (am_up (am_up (am_up g 188 2 (.int (rg_v g 188 1))) 189 2 (.int (rg_v g 189 1))) 190 2 (.int (rg_v g 190 1))) 194 2 (.int (rg_v g 194 1))) 191 8 (.int (rg_v g 191 4))) 192 8 (.int (rg_v g 192 4))) 193 8 (.int (rg_v g 193 4))) 191 9 (.int (rg_v g 191 5))) 192 9 (.int (rg_v g 192 5))) 193 9 (.int (rg_v g 193 5))) 191 10 (.int (rg_v g 191 6))) 192 10 (.int (rg_v g 192 6))) 193 10 (.int (rg_v g 193 6))) 191 11 (.int (rg_v g 191 7))) 192 11 (.int (rg_v g 192 7))) 193 7 = rg_v g 193 7 from rfl) hm_z
  obtain ⟨p550_z, hm_z⟩ := hm_z
  replace hm_z := rn_iastore (N := 16) (q := 11) (am_cur_of (i := (114, 1, .iastore, (0, 0, 0), 0)) (by decide +kernel)) (by decide +kernel) rfl hm_z
  obtain ⟨p551_z, hm_z⟩ := hm_z
  replace hm_z := rn_iinc (w := 4) (am_cur_of (i := (115, 3, .iinc 3 1, (0, 0, 0), 0)) (by decide +kernel)) g3_z (by decide) hm_z
  obtain ⟨_, s552_z, s553_z, g3_z, hm_z⟩ := hm_z
  replace g0_z := s552_z 0 _ (by decide) rfl g0_z
  replace g1_z := s552_z 1 _ (by decide) rfl g1_z
  replace g2_z := s552_z 2 _ (by decide) rfl g2_z
  clear s552_z s553_z
  replace hm_z := rn_goto (am_cur_of (i := (118, 3, .goto (-68), (34, 0, 0), 0)) (by decide +kernel)) hm_z
  replace hm_z := rn_iload_n (am_cur_of (i := (50, 1, .iload_n 3, (0, 0, 0), 0)) (by decide +kernel)) g3_z hm_z
  replace hm_z := rn_iconst (w := 4) (am_cur_of (i := (51, 1, .iconst 4, (0, 0, 0), 0)) (by decide +kernel)) (by decide) hm_z
  replace hm_z := rn_cmpT (am_cur_of (i := (52, 3, .if_icmp .ge 69, (87, 0, 0), 0)) (by decide +kernel)) (by decide) hm_z
  replace hm_z := rn_vret (am_cur_of (i := (121, 1, .return_, (0, 0, 0), 0)) (by decide +kernel)) hm_z
  obtain ⟨e554_z, e555_z⟩ := hm_z
  rw [e555_z]
  exact (bk_u (by decide) (bk_u (by decide) (bk_u (by decide) (bk_u (by decide) (bk_u (by decide) (bk_u (by decide) (bk_u (by decide) (bk_u (by decide) (bk_u (by decide) (bk_u (by decide) (bk_u (by decide) (bk_u (by decide) (bk_u (by decide) (bk_u (by decide) (bk_u (by decide) (bk_u (by decide) bk_r))))))))))))))))
theorem fk_197_3_1 {nst : Nat} {r : Option Value} {g g' : am_H}  (hm_z : rn nst am_m197 0 (lv_args 0 [.ref 164, .int 3, .int 1]) [] g r g') : bk g g' := by
  have g0_z : am_get (lv_args 0 [.ref 164, .int 3, .int 1]) 0 = some (.ref 164) := rfl
  have g1_z : am_get (lv_args 0 [.ref 164, .int 3, .int 1]) 1 = some (.int 3) := rfl
  have g2_z : am_get (lv_args 0 [.ref 164, .int 3, .int 1]) 2 = some (.int 1) := rfl
  replace hm_z := rn_aload_n (am_cur_of (i := (0, 1, .aload_n 0, (0, 0, 0), 0)) (by decide +kernel)) g0_z hm_z
  replace hm_z := rn_getR (x := 188) (am_cur_of (i := (1, 3, .getfield 85, (12, 50, 1434), 0)) (by decide +kernel)) (by decide +kernel) hm_z
  replace hm_z := rn_iload_n (am_cur_of (i := (4, 1, .iload_n 1, (0, 0, 0), 0)) (by decide +kernel)) g1_z hm_z
  replace hm_z := rn_aload_n (am_cur_of (i := (5, 1, .aload_n 0, (0, 0, 0), 0)) (by decide +kernel)) g0_z hm_z
  replace hm_z := rn_getR (x := 188) (am_cur_of (i := (6, 3, .getfield 85, (12, 50, 1434), 0)) (by decide +kernel)) (by decide +kernel) hm_z
  replace hm_z := rn_iload_n (am_cur_of (i := (9, 1, .iload_n 2, (0, 0, 0), 0)) (by decide +kernel)) g2_z hm_z
  replace hm_z := rn_iaload (N := 4) (q := 1) (v := rg_v g 188 1) (am_cur_of (i := (10, 1, .iaload, (0, 0, 0), 0)) (by decide +kernel)) (by decide +kernel) rfl rfl hm_z
  obtain ⟨p556_z, hm_z⟩ := hm_z
  replace hm_z := rn_iastore (N := 4) (q := 3) (am_cur_of (i := (11, 1, .iastore, (0, 0, 0), 0)) (by decide +kernel)) (by decide +kernel) rfl hm_z
  obtain ⟨p557_z, hm_z⟩ := hm_z
  replace hm_z := rn_aload_n (am_cur_of (i := (12, 1, .aload_n 0, (0, 0, 0), 0)) (by decide +kernel)) g0_z hm_z
  replace hm_z := rn_getR (x := 189) (am_cur_of (i := (13, 3, .getfield 88, (12, 51, 1435), 0)) (by decide +kernel)) (by decide +kernel) hm_z
  replace hm_z := rn_iload_n (am_cur_of (i := (16, 1, .iload_n 1, (0, 0, 0), 0)) (by decide +kernel)) g1_z hm_z
  replace hm_z := rn_aload_n (am_cur_of (i := (17, 1, .aload_n 0, (0, 0, 0), 0)) (by decide +kernel)) g0_z hm_z
  replace hm_z := rn_getR (x := 189) (am_cur_of (i := (18, 3, .getfield 88, (12, 51, 1435), 0)) (by decide +kernel)) (by decide +kernel) hm_z
  replace hm_z := rn_iload_n (am_cur_of (i := (21, 1, .iload_n 2, (0, 0, 0), 0)) (by decide +kernel)) g2_z hm_z
  replace hm_z := rn_iaload (N := 4) (q := 1) (v := rg_v g 189 1) (am_cur_of (i := (22, 1, .iaload, (0, 0, 0), 0)) (by decide +kernel)) (by decide +kernel) rfl (show rg_v (am_up g 188 3 (.int (rg_v g 188 1))) 189 1 = rg_v g 189 1 from rfl) hm_z
  obtain ⟨p558_z, hm_z⟩ := hm_z
  replace hm_z := rn_iastore (N := 4) (q := 3) (am_cur_of (i := (23, 1, .iastore, (0, 0, 0), 0)) (by decide +kernel)) (by decide +kernel) rfl hm_z
  obtain ⟨p559_z, hm_z⟩ := hm_z
  replace hm_z := rn_aload_n (am_cur_of (i := (24, 1, .aload_n 0, (0, 0, 0), 0)) (by decide +kernel)) g0_z hm_z
  replace hm_z := rn_getR (x := 190) (am_cur_of (i := (25, 3, .getfield 91, (12, 52, 1436), 0)) (by decide +kernel)) (by decide +kernel) hm_z
  replace hm_z := rn_iload_n (am_cur_of (i := (28, 1, .iload_n 1, (0, 0, 0), 0)) (by decide +kernel)) g1_z hm_z
  replace hm_z := rn_aload_n (am_cur_of (i := (29, 1, .aload_n 0, (0, 0, 0), 0)) (by decide +kernel)) g0_z hm_z
  replace hm_z := rn_getR (x := 190) (am_cur_of (i := (30, 3, .getfield 91, (12, 52, 1436), 0)) (by decide +kernel)) (by decide +kernel) hm_z
  replace hm_z := rn_iload_n (am_cur_of (i := (33, 1, .iload_n 2, (0, 0, 0), 0)) (by decide +kernel)) g2_z hm_z
  replace hm_z := rn_iaload (N := 4) (q := 1) (v := rg_v g 190 1) (am_cur_of (i := (34, 1, .iaload, (0, 0, 0), 0)) (by decide +kernel)) (by decide +kernel) rfl (show rg_v (am_up (am_up g 188 3 (.int (rg_v g 188 1))) 189 3 (.int (rg_v g 189 1))) 190 1 = rg_v g 190 1 from rfl) hm_z
  obtain ⟨p560_z, hm_z⟩ := hm_z
  replace hm_z := rn_iastore (N := 4) (q := 3) (am_cur_of (i := (35, 1, .iastore, (0, 0, 0), 0)) (by decide +kernel)) (by decide +kernel) rfl hm_z
  obtain ⟨p561_z, hm_z⟩ := hm_z
  replace hm_z := rn_aload_n (am_cur_of (i := (36, 1, .aload_n 0, (0, 0, 0), 0)) (by decide +kernel)) g0_z hm_z
  replace hm_z := rn_getR (x := 194) (am_cur_of (i := (37, 3, .getfield 103, (12, 56, 1440), 0)) (by decide +kernel)) (by decide +kernel) hm_z
  replace hm_z := rn_iload_n (am_cur_of (i := (40, 1, .iload_n 1, (0, 0, 0), 0)) (by decide +kernel)) g1_z hm_z
  replace hm_z := rn_aload_n (am_cur_of (i := (41, 1, .aload_n 0, (0, 0, 0), 0)) (by decide +kernel)) g0_z hm_z
  replace hm_z := rn_getR (x := 194) (am_cur_of (i := (42, 3, .getfield 103, (12, 56, 1440), 0)) (by decide +kernel)) (by decide +kernel) hm_z
  replace hm_z := rn_iload_n (am_cur_of (i := (45, 1, .iload_n 2, (0, 0, 0), 0)) (by decide +kernel)) g2_z hm_z
  replace hm_z := rn_iaload (N := 4) (q := 1) (v := rg_v g 194 1) (am_cur_of (i := (46, 1, .iaload, (0, 0, 0), 0)) (by decide +kernel)) (by decide +kernel) rfl (show rg_v (am_up (am_up (am_up g 188 3 (.int (rg_v g 188 1))) 189 3 (.int (rg_v g 189 1))) 190 3 (.int (rg_v g 190 1))) 194 1 = rg_v g 194 1 from rfl) hm_z
  obtain ⟨p562_z, hm_z⟩ := hm_z
  replace hm_z := rn_iastore (N := 4) (q := 3) (am_cur_of (i := (47, 1, .iastore, (0, 0, 0), 0)) (by decide +kernel)) (by decide +kernel) rfl hm_z
  obtain ⟨p563_z, hm_z⟩ := hm_z
  replace hm_z := rn_iconst (w := 0) (am_cur_of (i := (48, 1, .iconst 0, (0, 0, 0), 0)) (by decide +kernel)) (by decide) hm_z
  replace hm_z := rn_istore_n (am_cur_of (i := (49, 1, .istore_n 3, (0, 0, 0), 0)) (by decide +kernel)) hm_z
  obtain ⟨_, s564_z, s565_z, g3_z, hm_z⟩ := hm_z
  replace g0_z := s564_z 0 _ (by decide) rfl g0_z
  replace g1_z := s564_z 1 _ (by decide) rfl g1_z
  replace g2_z := s564_z 2 _ (by decide) rfl g2_z
  clear s564_z s565_z
  replace hm_z := rn_iload_n (am_cur_of (i := (50, 1, .iload_n 3, (0, 0, 0), 0)) (by decide +kernel)) g3_z hm_z
  replace hm_z := rn_iconst (w := 4) (am_cur_of (i := (51, 1, .iconst 4, (0, 0, 0), 0)) (by decide +kernel)) (by decide) hm_z
  replace hm_z := rn_cmpF (am_cur_of (i := (52, 3, .if_icmp .ge 69, (87, 0, 0), 0)) (by decide +kernel)) (by decide) hm_z
  replace hm_z := rn_aload_n (am_cur_of (i := (55, 1, .aload_n 0, (0, 0, 0), 0)) (by decide +kernel)) g0_z hm_z
  replace hm_z := rn_getR (x := 191) (am_cur_of (i := (56, 3, .getfield 94, (12, 53, 1437), 0)) (by decide +kernel)) (by decide +kernel) hm_z
  replace hm_z := rn_iconst (w := 4) (am_cur_of (i := (59, 1, .iconst 4, (0, 0, 0), 0)) (by decide +kernel)) (by decide) hm_z
  replace hm_z := rn_iload_n (am_cur_of (i := (60, 1, .iload_n 1, (0, 0, 0), 0)) (by decide +kernel)) g1_z hm_z
  replace hm_z := rn_imul (w := 12) (am_cur_of (i := (61, 1, .imul, (0, 0, 0), 0)) (by decide +kernel)) (by decide) hm_z
  replace hm_z := rn_iload_n (am_cur_of (i := (62, 1, .iload_n 3, (0, 0, 0), 0)) (by decide +kernel)) g3_z hm_z
  replace hm_z := rn_iadd (w := 12) (am_cur_of (i := (63, 1, .iadd, (0, 0, 0), 0)) (by decide +kernel)) (by decide) hm_z
  replace hm_z := rn_aload_n (am_cur_of (i := (64, 1, .aload_n 0, (0, 0, 0), 0)) (by decide +kernel)) g0_z hm_z
  replace hm_z := rn_getR (x := 191) (am_cur_of (i := (65, 3, .getfield 94, (12, 53, 1437), 0)) (by decide +kernel)) (by decide +kernel) hm_z
  replace hm_z := rn_iconst (w := 4) (am_cur_of (i := (68, 1, .iconst 4, (0, 0, 0), 0)) (by decide +kernel)) (by decide) hm_z
  replace hm_z := rn_iload_n (am_cur_of (i := (69, 1, .iload_n 2, (0, 0, 0), 0)) (by decide +kernel)) g2_z hm_z
  replace hm_z := rn_imul (w := 4) (am_cur_of (i := (70, 1, .imul, (0, 0, 0), 0)) (by decide +kernel)) (by decide) hm_z
  replace hm_z := rn_iload_n (am_cur_of (i := (71, 1, .iload_n 3, (0, 0, 0), 0)) (by decide +kernel)) g3_z hm_z
  replace hm_z := rn_iadd (w := 4) (am_cur_of (i := (72, 1, .iadd, (0, 0, 0), 0)) (by decide +kernel)) (by decide) hm_z
  replace hm_z := rn_iaload (N := 16) (q := 4) (v := rg_v g 191 4) (am_cur_of (i := (73, 1, .iaload, (0, 0, 0), 0)) (by decide +kernel)) (by decide +kernel) rfl (show rg_v (am_up (am_up (am_up (am_up g 188 3 (.int (rg_v g 188 1))) 189 3 (.int (rg_v g 189 1))) 190 3 (.int (rg_v g 190 1))) 194 3 (.int (rg_v g 194 1))) 191 4 = rg_v g 191 4 from rfl) hm_z
  obtain ⟨p566_z, hm_z⟩ := hm_z
  replace hm_z := rn_iastore (N := 16) (q := 12) (am_cur_of (i := (74, 1, .iastore, (0, 0, 0), 0)) (by decide +kernel)) (by decide +kernel) rfl hm_z
  obtain ⟨p567_z, hm_z⟩ := hm_z
  replace hm_z := rn_aload_n (am_cur_of (i := (75, 1, .aload_n 0, (0, 0, 0), 0)) (by decide +kernel)) g0_z hm_z
  replace hm_z := rn_getR (x := 192) (am_cur_of (i := (76, 3, .getfield 97, (12, 54, 1438), 0)) (by decide +kernel)) (by decide +kernel) hm_z
  replace hm_z := rn_iconst (w := 4) (am_cur_of (i := (79, 1, .iconst 4, (0, 0, 0), 0)) (by decide +kernel)) (by decide) hm_z
  replace hm_z := rn_iload_n (am_cur_of (i := (80, 1, .iload_n 1, (0, 0, 0), 0)) (by decide +kernel)) g1_z hm_z
  replace hm_z := rn_imul (w := 12) (am_cur_of (i := (81, 1, .imul, (0, 0, 0), 0)) (by decide +kernel)) (by decide) hm_z
  replace hm_z := rn_iload_n (am_cur_of (i := (82, 1, .iload_n 3, (0, 0, 0), 0)) (by decide +kernel)) g3_z hm_z
  replace hm_z := rn_iadd (w := 12) (am_cur_of (i := (83, 1, .iadd, (0, 0, 0), 0)) (by decide +kernel)) (by decide) hm_z
  replace hm_z := rn_aload_n (am_cur_of (i := (84, 1, .aload_n 0, (0, 0, 0), 0)) (by decide +kernel)) g0_z hm_z
  replace hm_z := rn_getR (x := 192) (am_cur_of (i := (85, 3, .getfield 97, (12, 54, 1438), 0)) (by decide +kernel)) (by decide +kernel) hm_z
  replace hm_z := rn_iconst (w := 4) (am_cur_of (i := (88, 1, .iconst 4, (0, 0, 0), 0)) (by decide +kernel)) (by decide) hm_z
  replace hm_z := rn_iload_n (am_cur_of (i := (89, 1, .iload_n 2, (0, 0, 0), 0)) (by decide +kernel)) g2_z hm_z
  replace hm_z := rn_imul (w := 4) (am_cur_of (i := (90, 1, .imul, (0, 0, 0), 0)) (by decide +kernel)) (by decide) hm_z
  replace hm_z := rn_iload_n (am_cur_of (i := (91, 1, .iload_n 3, (0, 0, 0), 0)) (by decide +kernel)) g3_z hm_z
  replace hm_z := rn_iadd (w := 4) (am_cur_of (i := (92, 1, .iadd, (0, 0, 0), 0)) (by decide +kernel)) (by decide) hm_z
  replace hm_z := rn_iaload (N := 16) (q := 4) (v := rg_v g 192 4) (am_cur_of (i := (93, 1, .iaload, (0, 0, 0), 0)) (by decide +kernel)) (by decide +kernel) rfl (show rg_v (am_up (am_up (am_up (am_up (am_up g 188 3 (.int (rg_v g 188 1))) 189 3 (.int (rg_v g 189 1))) 190 3 (.int (rg_v g 190 1))) 194 3 (.int (rg_v g 194 1))) 191 12 (.int (rg_v g 191 4))) 192 4 = rg_v g 192 4 from rfl) hm_z
  obtain ⟨p568_z, hm_z⟩ := hm_z
  replace hm_z := rn_iastore (N := 16) (q := 12) (am_cur_of (i := (94, 1, .iastore, (0, 0, 0), 0)) (by decide +kernel)) (by decide +kernel) rfl hm_z
  obtain ⟨p569_z, hm_z⟩ := hm_z
  replace hm_z := rn_aload_n (am_cur_of (i := (95, 1, .aload_n 0, (0, 0, 0), 0)) (by decide +kernel)) g0_z hm_z
  replace hm_z := rn_getR (x := 193) (am_cur_of (i := (96, 3, .getfield 100, (12, 55, 1439), 0)) (by decide +kernel)) (by decide +kernel) hm_z
  replace hm_z := rn_iconst (w := 4) (am_cur_of (i := (99, 1, .iconst 4, (0, 0, 0), 0)) (by decide +kernel)) (by decide) hm_z
  replace hm_z := rn_iload_n (am_cur_of (i := (100, 1, .iload_n 1, (0, 0, 0), 0)) (by decide +kernel)) g1_z hm_z
  replace hm_z := rn_imul (w := 12) (am_cur_of (i := (101, 1, .imul, (0, 0, 0), 0)) (by decide +kernel)) (by decide) hm_z
  replace hm_z := rn_iload_n (am_cur_of (i := (102, 1, .iload_n 3, (0, 0, 0), 0)) (by decide +kernel)) g3_z hm_z
  replace hm_z := rn_iadd (w := 12) (am_cur_of (i := (103, 1, .iadd, (0, 0, 0), 0)) (by decide +kernel)) (by decide) hm_z
  replace hm_z := rn_aload_n (am_cur_of (i := (104, 1, .aload_n 0, (0, 0, 0), 0)) (by decide +kernel)) g0_z hm_z
  replace hm_z := rn_getR (x := 193) (am_cur_of (i := (105, 3, .getfield 100, (12, 55, 1439), 0)) (by decide +kernel)) (by decide +kernel) hm_z
  replace hm_z := rn_iconst (w := 4) (am_cur_of (i := (108, 1, .iconst 4, (0, 0, 0), 0)) (by decide +kernel)) (by decide) hm_z
  replace hm_z := rn_iload_n (am_cur_of (i := (109, 1, .iload_n 2, (0, 0, 0), 0)) (by decide +kernel)) g2_z hm_z
  replace hm_z := rn_imul (w := 4) (am_cur_of (i := (110, 1, .imul, (0, 0, 0), 0)) (by decide +kernel)) (by decide) hm_z
  replace hm_z := rn_iload_n (am_cur_of (i := (111, 1, .iload_n 3, (0, 0, 0), 0)) (by decide +kernel)) g3_z hm_z
  replace hm_z := rn_iadd (w := 4) (am_cur_of (i := (112, 1, .iadd, (0, 0, 0), 0)) (by decide +kernel)) (by decide) hm_z
  replace hm_z := rn_iaload (N := 16) (q := 4) (v := rg_v g 193 4) (am_cur_of (i := (113, 1, .iaload, (0, 0, 0), 0)) (by decide +kernel)) (by decide +kernel) rfl (show rg_v (am_up (am_up (am_up (am_up (am_up (am_up g 188 3 (.int (rg_v g 188 1))) 189 3 (.int (rg_v g 189 1))) 190 3 (.int (rg_v g 190 1))) 194 3 (.int (rg_v g 194 1))) 191 12 (.int (rg_v g 191 4))) 192 12 (.int (rg_v g 192 4))) 193 4 = rg_v g 193 4 from rfl) hm_z
  obtain ⟨p570_z, hm_z⟩ := hm_z
  replace hm_z := rn_iastore (N := 16) (q := 12) (am_cur_of (i := (114, 1, .iastore, (0, 0, 0), 0)) (by decide +kernel)) (by decide +kernel) rfl hm_z
  obtain ⟨p571_z, hm_z⟩ := hm_z
  replace hm_z := rn_iinc (w := 1) (am_cur_of (i := (115, 3, .iinc 3 1, (0, 0, 0), 0)) (by decide +kernel)) g3_z (by decide) hm_z
  obtain ⟨_, s572_z, s573_z, g3_z, hm_z⟩ := hm_z
  replace g0_z := s572_z 0 _ (by decide) rfl g0_z
  replace g1_z := s572_z 1 _ (by decide) rfl g1_z
  replace g2_z := s572_z 2 _ (by decide) rfl g2_z
  clear s572_z s573_z
  replace hm_z := rn_goto (am_cur_of (i := (118, 3, .goto (-68), (34, 0, 0), 0)) (by decide +kernel)) hm_z
  replace hm_z := rn_iload_n (am_cur_of (i := (50, 1, .iload_n 3, (0, 0, 0), 0)) (by decide +kernel)) g3_z hm_z
  replace hm_z := rn_iconst (w := 4) (am_cur_of (i := (51, 1, .iconst 4, (0, 0, 0), 0)) (by decide +kernel)) (by decide) hm_z
  replace hm_z := rn_cmpF (am_cur_of (i := (52, 3, .if_icmp .ge 69, (87, 0, 0), 0)) (by decide +kernel)) (by decide) hm_z
  replace hm_z := rn_aload_n (am_cur_of (i := (55, 1, .aload_n 0, (0, 0, 0), 0)) (by decide +kernel)) g0_z hm_z
  replace hm_z := rn_getR (x := 191) (am_cur_of (i := (56, 3, .getfield 94, (12, 53, 1437), 0)) (by decide +kernel)) (by decide +kernel) hm_z
  replace hm_z := rn_iconst (w := 4) (am_cur_of (i := (59, 1, .iconst 4, (0, 0, 0), 0)) (by decide +kernel)) (by decide) hm_z
  replace hm_z := rn_iload_n (am_cur_of (i := (60, 1, .iload_n 1, (0, 0, 0), 0)) (by decide +kernel)) g1_z hm_z
  replace hm_z := rn_imul (w := 12) (am_cur_of (i := (61, 1, .imul, (0, 0, 0), 0)) (by decide +kernel)) (by decide) hm_z
  replace hm_z := rn_iload_n (am_cur_of (i := (62, 1, .iload_n 3, (0, 0, 0), 0)) (by decide +kernel)) g3_z hm_z
  replace hm_z := rn_iadd (w := 13) (am_cur_of (i := (63, 1, .iadd, (0, 0, 0), 0)) (by decide +kernel)) (by decide) hm_z
  replace hm_z := rn_aload_n (am_cur_of (i := (64, 1, .aload_n 0, (0, 0, 0), 0)) (by decide +kernel)) g0_z hm_z
  replace hm_z := rn_getR (x := 191) (am_cur_of (i := (65, 3, .getfield 94, (12, 53, 1437), 0)) (by decide +kernel)) (by decide +kernel) hm_z
  replace hm_z := rn_iconst (w := 4) (am_cur_of (i := (68, 1, .iconst 4, (0, 0, 0), 0)) (by decide +kernel)) (by decide) hm_z
  replace hm_z := rn_iload_n (am_cur_of (i := (69, 1, .iload_n 2, (0, 0, 0), 0)) (by decide +kernel)) g2_z hm_z
  replace hm_z := rn_imul (w := 4) (am_cur_of (i := (70, 1, .imul, (0, 0, 0), 0)) (by decide +kernel)) (by decide) hm_z
  replace hm_z := rn_iload_n (am_cur_of (i := (71, 1, .iload_n 3, (0, 0, 0), 0)) (by decide +kernel)) g3_z hm_z
  replace hm_z := rn_iadd (w := 5) (am_cur_of (i := (72, 1, .iadd, (0, 0, 0), 0)) (by decide +kernel)) (by decide) hm_z
  replace hm_z := rn_iaload (N := 16) (q := 5) (v := rg_v g 191 5) (am_cur_of (i := (73, 1, .iaload, (0, 0, 0), 0)) (by decide +kernel)) (by decide +kernel) rfl (show rg_v (am_up (am_up (am_up (am_up (am_up (am_up (am_up g 188 3 (.int (rg_v g 188 1))) 189 3 (.int (rg_v g 189 1))) 190 3 (.int (rg_v g 190 1))) 194 3 (.int (rg_v g 194 1))) 191 12 (.int (rg_v g 191 4))) 192 12 (.int (rg_v g 192 4))) 193 12 (.int (rg_v g 193 4))) 191 5 = rg_v g 191 5 from rfl) hm_z
  obtain ⟨p574_z, hm_z⟩ := hm_z
  replace hm_z := rn_iastore (N := 16) (q := 13) (am_cur_of (i := (74, 1, .iastore, (0, 0, 0), 0)) (by decide +kernel)) (by decide +kernel) rfl hm_z
  obtain ⟨p575_z, hm_z⟩ := hm_z
  replace hm_z := rn_aload_n (am_cur_of (i := (75, 1, .aload_n 0, (0, 0, 0), 0)) (by decide +kernel)) g0_z hm_z
  replace hm_z := rn_getR (x := 192) (am_cur_of (i := (76, 3, .getfield 97, (12, 54, 1438), 0)) (by decide +kernel)) (by decide +kernel) hm_z
  replace hm_z := rn_iconst (w := 4) (am_cur_of (i := (79, 1, .iconst 4, (0, 0, 0), 0)) (by decide +kernel)) (by decide) hm_z
  replace hm_z := rn_iload_n (am_cur_of (i := (80, 1, .iload_n 1, (0, 0, 0), 0)) (by decide +kernel)) g1_z hm_z
  replace hm_z := rn_imul (w := 12) (am_cur_of (i := (81, 1, .imul, (0, 0, 0), 0)) (by decide +kernel)) (by decide) hm_z
  replace hm_z := rn_iload_n (am_cur_of (i := (82, 1, .iload_n 3, (0, 0, 0), 0)) (by decide +kernel)) g3_z hm_z
  replace hm_z := rn_iadd (w := 13) (am_cur_of (i := (83, 1, .iadd, (0, 0, 0), 0)) (by decide +kernel)) (by decide) hm_z
  replace hm_z := rn_aload_n (am_cur_of (i := (84, 1, .aload_n 0, (0, 0, 0), 0)) (by decide +kernel)) g0_z hm_z
  replace hm_z := rn_getR (x := 192) (am_cur_of (i := (85, 3, .getfield 97, (12, 54, 1438), 0)) (by decide +kernel)) (by decide +kernel) hm_z
  replace hm_z := rn_iconst (w := 4) (am_cur_of (i := (88, 1, .iconst 4, (0, 0, 0), 0)) (by decide +kernel)) (by decide) hm_z
  replace hm_z := rn_iload_n (am_cur_of (i := (89, 1, .iload_n 2, (0, 0, 0), 0)) (by decide +kernel)) g2_z hm_z
  replace hm_z := rn_imul (w := 4) (am_cur_of (i := (90, 1, .imul, (0, 0, 0), 0)) (by decide +kernel)) (by decide) hm_z
  replace hm_z := rn_iload_n (am_cur_of (i := (91, 1, .iload_n 3, (0, 0, 0), 0)) (by decide +kernel)) g3_z hm_z
  replace hm_z := rn_iadd (w := 5) (am_cur_of (i := (92, 1, .iadd, (0, 0, 0), 0)) (by decide +kernel)) (by decide) hm_z
  replace hm_z := rn_iaload (N := 16) (q := 5) (v := rg_v g 192 5) (am_cur_of (i := (93, 1, .iaload, (0, 0, 0), 0)) (by decide +kernel)) (by decide +kernel) rfl (show rg_v (am_up (am_up (am_up (am_up (am_up (am_up (am_up (am_up g 188 3 (.int (rg_v g 188 1))) 189 3 (.int (rg_v g 189 1))) 190 3 (.int (rg_v g 190 1))) 194 3 (.int (rg_v g 194 1))) 191 12 (.int (rg_v g 191 4))) 192 12 (.int (rg_v g 192 4))) 193 12 (.int (rg_v g 193 4))) 191 13 (.int (rg_v g 191 5))) 192 5 = rg_v g 192 5 from rfl) hm_z
  obtain ⟨p576_z, hm_z⟩ := hm_z
  replace hm_z := rn_iastore (N := 16) (q := 13) (am_cur_of (i := (94, 1, .iastore, (0, 0, 0), 0)) (by decide +kernel)) (by decide +kernel) rfl hm_z
  obtain ⟨p577_z, hm_z⟩ := hm_z
  replace hm_z := rn_aload_n (am_cur_of (i := (95, 1, .aload_n 0, (0, 0, 0), 0)) (by decide +kernel)) g0_z hm_z
  replace hm_z := rn_getR (x := 193) (am_cur_of (i := (96, 3, .getfield 100, (12, 55, 1439), 0)) (by decide +kernel)) (by decide +kernel) hm_z
  replace hm_z := rn_iconst (w := 4) (am_cur_of (i := (99, 1, .iconst 4, (0, 0, 0), 0)) (by decide +kernel)) (by decide) hm_z
  replace hm_z := rn_iload_n (am_cur_of (i := (100, 1, .iload_n 1, (0, 0, 0), 0)) (by decide +kernel)) g1_z hm_z
  replace hm_z := rn_imul (w := 12) (am_cur_of (i := (101, 1, .imul, (0, 0, 0), 0)) (by decide +kernel)) (by decide) hm_z
  replace hm_z := rn_iload_n (am_cur_of (i := (102, 1, .iload_n 3, (0, 0, 0), 0)) (by decide +kernel)) g3_z hm_z
  replace hm_z := rn_iadd (w := 13) (am_cur_of (i := (103, 1, .iadd, (0, 0, 0), 0)) (by decide +kernel)) (by decide) hm_z
  replace hm_z := rn_aload_n (am_cur_of (i := (104, 1, .aload_n 0, (0, 0, 0), 0)) (by decide +kernel)) g0_z hm_z
  replace hm_z := rn_getR (x := 193) (am_cur_of (i := (105, 3, .getfield 100, (12, 55, 1439), 0)) (by decide +kernel)) (by decide +kernel) hm_z
  replace hm_z := rn_iconst (w := 4) (am_cur_of (i := (108, 1, .iconst 4, (0, 0, 0), 0)) (by decide +kernel)) (by decide) hm_z
  replace hm_z := rn_iload_n (am_cur_of (i := (109, 1, .iload_n 2, (0, 0, 0), 0)) (by decide +kernel)) g2_z hm_z
  replace hm_z := rn_imul (w := 4) (am_cur_of (i := (110, 1, .imul, (0, 0, 0), 0)) (by decide +kernel)) (by decide) hm_z
  replace hm_z := rn_iload_n (am_cur_of (i := (111, 1, .iload_n 3, (0, 0, 0), 0)) (by decide +kernel)) g3_z hm_z
  replace hm_z := rn_iadd (w := 5) (am_cur_of (i := (112, 1, .iadd, (0, 0, 0), 0)) (by decide +kernel)) (by decide) hm_z
  replace hm_z := rn_iaload (N := 16) (q := 5) (v := rg_v g 193 5) (am_cur_of (i := (113, 1, .iaload, (0, 0, 0), 0)) (by decide +kernel)) (by decide +kernel) rfl (show rg_v (am_up (am_up (am_up (am_up (am_up (am_up (am_up (am_up (am_up g 188 3 (.int (rg_v g 188 1))) 189 3 (.int (rg_v g 189 1))) 190 3 (.int (rg_v g 190 1))) 194 3 (.int (rg_v g 194 1))) 191 12 (.int (rg_v g 191 4))) 192 12 (.int (rg_v g 192 4))) 193 12 (.int (rg_v g 193 4))) 191 13 (.int (rg_v g 191 5))) 192 13 (.int (rg_v g 192 5))) 193 5 = rg_v g 193 5 from rfl) hm_z
  obtain ⟨p578_z, hm_z⟩ := hm_z
  replace hm_z := rn_iastore (N := 16) (q := 13) (am_cur_of (i := (114, 1, .iastore, (0, 0, 0), 0)) (by decide +kernel)) (by decide +kernel) rfl hm_z
  obtain ⟨p579_z, hm_z⟩ := hm_z
  replace hm_z := rn_iinc (w := 2) (am_cur_of (i := (115, 3, .iinc 3 1, (0, 0, 0), 0)) (by decide +kernel)) g3_z (by decide) hm_z
  obtain ⟨_, s580_z, s581_z, g3_z, hm_z⟩ := hm_z
  replace g0_z := s580_z 0 _ (by decide) rfl g0_z
  replace g1_z := s580_z 1 _ (by decide) rfl g1_z
  replace g2_z := s580_z 2 _ (by decide) rfl g2_z
  clear s580_z s581_z
  replace hm_z := rn_goto (am_cur_of (i := (118, 3, .goto (-68), (34, 0, 0), 0)) (by decide +kernel)) hm_z
  replace hm_z := rn_iload_n (am_cur_of (i := (50, 1, .iload_n 3, (0, 0, 0), 0)) (by decide +kernel)) g3_z hm_z
  replace hm_z := rn_iconst (w := 4) (am_cur_of (i := (51, 1, .iconst 4, (0, 0, 0), 0)) (by decide +kernel)) (by decide) hm_z
  replace hm_z := rn_cmpF (am_cur_of (i := (52, 3, .if_icmp .ge 69, (87, 0, 0), 0)) (by decide +kernel)) (by decide) hm_z
  replace hm_z := rn_aload_n (am_cur_of (i := (55, 1, .aload_n 0, (0, 0, 0), 0)) (by decide +kernel)) g0_z hm_z
  replace hm_z := rn_getR (x := 191) (am_cur_of (i := (56, 3, .getfield 94, (12, 53, 1437), 0)) (by decide +kernel)) (by decide +kernel) hm_z
  replace hm_z := rn_iconst (w := 4) (am_cur_of (i := (59, 1, .iconst 4, (0, 0, 0), 0)) (by decide +kernel)) (by decide) hm_z
  replace hm_z := rn_iload_n (am_cur_of (i := (60, 1, .iload_n 1, (0, 0, 0), 0)) (by decide +kernel)) g1_z hm_z
  replace hm_z := rn_imul (w := 12) (am_cur_of (i := (61, 1, .imul, (0, 0, 0), 0)) (by decide +kernel)) (by decide) hm_z
  replace hm_z := rn_iload_n (am_cur_of (i := (62, 1, .iload_n 3, (0, 0, 0), 0)) (by decide +kernel)) g3_z hm_z
  replace hm_z := rn_iadd (w := 14) (am_cur_of (i := (63, 1, .iadd, (0, 0, 0), 0)) (by decide +kernel)) (by decide) hm_z
  replace hm_z := rn_aload_n (am_cur_of (i := (64, 1, .aload_n 0, (0, 0, 0), 0)) (by decide +kernel)) g0_z hm_z
  replace hm_z := rn_getR (x := 191) (am_cur_of (i := (65, 3, .getfield 94, (12, 53, 1437), 0)) (by decide +kernel)) (by decide +kernel) hm_z
  replace hm_z := rn_iconst (w := 4) (am_cur_of (i := (68, 1, .iconst 4, (0, 0, 0), 0)) (by decide +kernel)) (by decide) hm_z
  replace hm_z := rn_iload_n (am_cur_of (i := (69, 1, .iload_n 2, (0, 0, 0), 0)) (by decide +kernel)) g2_z hm_z
  replace hm_z := rn_imul (w := 4) (am_cur_of (i := (70, 1, .imul, (0, 0, 0), 0)) (by decide +kernel)) (by decide) hm_z
  replace hm_z := rn_iload_n (am_cur_of (i := (71, 1, .iload_n 3, (0, 0, 0), 0)) (by decide +kernel)) g3_z hm_z
  replace hm_z := rn_iadd (w := 6) (am_cur_of (i := (72, 1, .iadd, (0, 0, 0), 0)) (by decide +kernel)) (by decide) hm_z
  replace hm_z := rn_iaload (N := 16) (q := 6) (v := rg_v g 191 6) (am_cur_of (i := (73, 1, .iaload, (0, 0, 0), 0)) (by decide +kernel)) (by decide +kernel) rfl (show rg_v (am_up (am_up (am_up (am_up (am_up (am_up (am_up (am_up (am_up (am_up g 188 3 (.int (rg_v g 188 1))) 189 3 (.int (rg_v g 189 1))) 190 3 (.int (rg_v g 190 1))) 194 3 (.int (rg_v g 194 1))) 191 12 (.int (rg_v g 191 4))) 192 12 (.int (rg_v g 192 4))) 193 12 (.int (rg_v g 193 4))) 191 13 (.int (rg_v g 191 5))) 192 13 (.int (rg_v g 192 5))) 193 13 (.int (rg_v g 193 5))) 191 6 = rg_v g 191 6 from rfl) hm_z
  obtain ⟨p582_z, hm_z⟩ := hm_z
  replace hm_z := rn_iastore (N := 16) (q := 14) (am_cur_of (i := (74, 1, .iastore, (0, 0, 0), 0)) (by decide +kernel)) (by decide +kernel) rfl hm_z
  obtain ⟨p583_z, hm_z⟩ := hm_z
  replace hm_z := rn_aload_n (am_cur_of (i := (75, 1, .aload_n 0, (0, 0, 0), 0)) (by decide +kernel)) g0_z hm_z
  replace hm_z := rn_getR (x := 192) (am_cur_of (i := (76, 3, .getfield 97, (12, 54, 1438), 0)) (by decide +kernel)) (by decide +kernel) hm_z
  replace hm_z := rn_iconst (w := 4) (am_cur_of (i := (79, 1, .iconst 4, (0, 0, 0), 0)) (by decide +kernel)) (by decide) hm_z
  replace hm_z := rn_iload_n (am_cur_of (i := (80, 1, .iload_n 1, (0, 0, 0), 0)) (by decide +kernel)) g1_z hm_z
  replace hm_z := rn_imul (w := 12) (am_cur_of (i := (81, 1, .imul, (0, 0, 0), 0)) (by decide +kernel)) (by decide) hm_z
  replace hm_z := rn_iload_n (am_cur_of (i := (82, 1, .iload_n 3, (0, 0, 0), 0)) (by decide +kernel)) g3_z hm_z
  replace hm_z := rn_iadd (w := 14) (am_cur_of (i := (83, 1, .iadd, (0, 0, 0), 0)) (by decide +kernel)) (by decide) hm_z
  replace hm_z := rn_aload_n (am_cur_of (i := (84, 1, .aload_n 0, (0, 0, 0), 0)) (by decide +kernel)) g0_z hm_z
  replace hm_z := rn_getR (x := 192) (am_cur_of (i := (85, 3, .getfield 97, (12, 54, 1438), 0)) (by decide +kernel)) (by decide +kernel) hm_z
  replace hm_z := rn_iconst (w := 4) (am_cur_of (i := (88, 1, .iconst 4, (0, 0, 0), 0)) (by decide +kernel)) (by decide) hm_z
  replace hm_z := rn_iload_n (am_cur_of (i := (89, 1, .iload_n 2, (0, 0, 0), 0)) (by decide +kernel)) g2_z hm_z
  replace hm_z := rn_imul (w := 4) (am_cur_of (i := (90, 1, .imul, (0, 0, 0), 0)) (by decide +kernel)) (by decide) hm_z
  replace hm_z := rn_iload_n (am_cur_of (i := (91, 1, .iload_n 3, (0, 0, 0), 0)) (by decide +kernel)) g3_z hm_z
  replace hm_z := rn_iadd (w := 6) (am_cur_of (i := (92, 1, .iadd, (0, 0, 0), 0)) (by decide +kernel)) (by decide) hm_z
  replace hm_z := rn_iaload (N := 16) (q := 6) (v := rg_v g 192 6) (am_cur_of (i := (93, 1, .iaload, (0, 0, 0), 0)) (by decide +kernel)) (by decide +kernel) rfl (show rg_v (am_up (am_up (am_up (am_up (am_up (am_up (am_up (am_up (am_up (am_up (am_up g 188 3 (.int (rg_v g 188 1))) 189 3 (.int (rg_v g 189 1))) 190 3 (.int (rg_v g 190 1))) 194 3 (.int (rg_v g 194 1))) 191 12 (.int (rg_v g 191 4))) 192 12 (.int (rg_v g 192 4))) 193 12 (.int (rg_v g 193 4))) 191 13 (.int (rg_v g 191 5))) 192 13 (.int (rg_v g 192 5))) 193 13 (.int (rg_v g 193 5))) 191 14 (.int (rg_v g 191 6))) 192 6 = rg_v g 192 6 from rfl) hm_z
  obtain ⟨p584_z, hm_z⟩ := hm_z
  replace hm_z := rn_iastore (N := 16) (q := 14) (am_cur_of (i := (94, 1, .iastore, (0, 0, 0), 0)) (by decide +kernel)) (by decide +kernel) rfl hm_z
  obtain ⟨p585_z, hm_z⟩ := hm_z
  replace hm_z := rn_aload_n (am_cur_of (i := (95, 1, .aload_n 0, (0, 0, 0), 0)) (by decide +kernel)) g0_z hm_z
  replace hm_z := rn_getR (x := 193) (am_cur_of (i := (96, 3, .getfield 100, (12, 55, 1439), 0)) (by decide +kernel)) (by decide +kernel) hm_z
  replace hm_z := rn_iconst (w := 4) (am_cur_of (i := (99, 1, .iconst 4, (0, 0, 0), 0)) (by decide +kernel)) (by decide) hm_z
  replace hm_z := rn_iload_n (am_cur_of (i := (100, 1, .iload_n 1, (0, 0, 0), 0)) (by decide +kernel)) g1_z hm_z
  replace hm_z := rn_imul (w := 12) (am_cur_of (i := (101, 1, .imul, (0, 0, 0), 0)) (by decide +kernel)) (by decide) hm_z
  replace hm_z := rn_iload_n (am_cur_of (i := (102, 1, .iload_n 3, (0, 0, 0), 0)) (by decide +kernel)) g3_z hm_z
  replace hm_z := rn_iadd (w := 14) (am_cur_of (i := (103, 1, .iadd, (0, 0, 0), 0)) (by decide +kernel)) (by decide) hm_z
  replace hm_z := rn_aload_n (am_cur_of (i := (104, 1, .aload_n 0, (0, 0, 0), 0)) (by decide +kernel)) g0_z hm_z
  replace hm_z := rn_getR (x := 193) (am_cur_of (i := (105, 3, .getfield 100, (12, 55, 1439), 0)) (by decide +kernel)) (by decide +kernel) hm_z
  replace hm_z := rn_iconst (w := 4) (am_cur_of (i := (108, 1, .iconst 4, (0, 0, 0), 0)) (by decide +kernel)) (by decide) hm_z
  replace hm_z := rn_iload_n (am_cur_of (i := (109, 1, .iload_n 2, (0, 0, 0), 0)) (by decide +kernel)) g2_z hm_z
  replace hm_z := rn_imul (w := 4) (am_cur_of (i := (110, 1, .imul, (0, 0, 0), 0)) (by decide +kernel)) (by decide) hm_z
  replace hm_z := rn_iload_n (am_cur_of (i := (111, 1, .iload_n 3, (0, 0, 0), 0)) (by decide +kernel)) g3_z hm_z
  replace hm_z := rn_iadd (w := 6) (am_cur_of (i := (112, 1, .iadd, (0, 0, 0), 0)) (by decide +kernel)) (by decide) hm_z
  replace hm_z := rn_iaload (N := 16) (q := 6) (v := rg_v g 193 6) (am_cur_of (i := (113, 1, .iaload, (0, 0, 0), 0)) (by decide +kernel)) (by decide +kernel) rfl (show rg_v (am_up (am_up (am_up (am_up (am_up (am_up (am_up (am_up (am_up (am_up (am_up (am_up g 188 3 (.int (rg_v g 188 1))) 189 3 (.int (rg_v g 189 1))) 190 3 (.int (rg_v g 190 1))) 194 3 (.int (rg_v g 194 1))) 191 12 (.int (rg_v g 191 4))) 192 12 (.int (rg_v g 192 4))) 193 12 (.int (rg_v g 193 4))) 191 13 (.int (rg_v g 191 5))) 192 13 (.int (rg_v g 192 5))) 193 13 (.int (rg_v g 193 5))) 191 14 (.int (rg_v g 191 6))) 192 14 (.int (rg_v g 192 6))) 193 6 = rg_v g 193 6 from rfl) hm_z
  obtain ⟨p586_z, hm_z⟩ := hm_z
  replace hm_z := rn_iastore (N := 16) (q := 14) (am_cur_of (i := (114, 1, .iastore, (0, 0, 0), 0)) (by decide +kernel)) (by decide +kernel) rfl hm_z
  obtain ⟨p587_z, hm_z⟩ := hm_z
  replace hm_z := rn_iinc (w := 3) (am_cur_of (i := (115, 3, .iinc 3 1, (0, 0, 0), 0)) (by decide +kernel)) g3_z (by decide) hm_z
  obtain ⟨_, s588_z, s589_z, g3_z, hm_z⟩ := hm_z
  replace g0_z := s588_z 0 _ (by decide) rfl g0_z
  replace g1_z := s588_z 1 _ (by decide) rfl g1_z
  replace g2_z := s588_z 2 _ (by decide) rfl g2_z
  clear s588_z s589_z
  replace hm_z := rn_goto (am_cur_of (i := (118, 3, .goto (-68), (34, 0, 0), 0)) (by decide +kernel)) hm_z
  replace hm_z := rn_iload_n (am_cur_of (i := (50, 1, .iload_n 3, (0, 0, 0), 0)) (by decide +kernel)) g3_z hm_z
  replace hm_z := rn_iconst (w := 4) (am_cur_of (i := (51, 1, .iconst 4, (0, 0, 0), 0)) (by decide +kernel)) (by decide) hm_z
  replace hm_z := rn_cmpF (am_cur_of (i := (52, 3, .if_icmp .ge 69, (87, 0, 0), 0)) (by decide +kernel)) (by decide) hm_z
  replace hm_z := rn_aload_n (am_cur_of (i := (55, 1, .aload_n 0, (0, 0, 0), 0)) (by decide +kernel)) g0_z hm_z
  replace hm_z := rn_getR (x := 191) (am_cur_of (i := (56, 3, .getfield 94, (12, 53, 1437), 0)) (by decide +kernel)) (by decide +kernel) hm_z
  replace hm_z := rn_iconst (w := 4) (am_cur_of (i := (59, 1, .iconst 4, (0, 0, 0), 0)) (by decide +kernel)) (by decide) hm_z
  replace hm_z := rn_iload_n (am_cur_of (i := (60, 1, .iload_n 1, (0, 0, 0), 0)) (by decide +kernel)) g1_z hm_z
  replace hm_z := rn_imul (w := 12) (am_cur_of (i := (61, 1, .imul, (0, 0, 0), 0)) (by decide +kernel)) (by decide) hm_z
  replace hm_z := rn_iload_n (am_cur_of (i := (62, 1, .iload_n 3, (0, 0, 0), 0)) (by decide +kernel)) g3_z hm_z
  replace hm_z := rn_iadd (w := 15) (am_cur_of (i := (63, 1, .iadd, (0, 0, 0), 0)) (by decide +kernel)) (by decide) hm_z
  replace hm_z := rn_aload_n (am_cur_of (i := (64, 1, .aload_n 0, (0, 0, 0), 0)) (by decide +kernel)) g0_z hm_z
  replace hm_z := rn_getR (x := 191) (am_cur_of (i := (65, 3, .getfield 94, (12, 53, 1437), 0)) (by decide +kernel)) (by decide +kernel) hm_z
  replace hm_z := rn_iconst (w := 4) (am_cur_of (i := (68, 1, .iconst 4, (0, 0, 0), 0)) (by decide +kernel)) (by decide) hm_z
  replace hm_z := rn_iload_n (am_cur_of (i := (69, 1, .iload_n 2, (0, 0, 0), 0)) (by decide +kernel)) g2_z hm_z
  replace hm_z := rn_imul (w := 4) (am_cur_of (i := (70, 1, .imul, (0, 0, 0), 0)) (by decide +kernel)) (by decide) hm_z
  replace hm_z := rn_iload_n (am_cur_of (i := (71, 1, .iload_n 3, (0, 0, 0), 0)) (by decide +kernel)) g3_z hm_z
  replace hm_z := rn_iadd (w := 7) (am_cur_of (i := (72, 1, .iadd, (0, 0, 0), 0)) (by decide +kernel)) (by decide) hm_z
  replace hm_z := rn_iaload (N := 16) (q := 7) (v := rg_v g 191 7) (am_cur_of (i := (73, 1, .iaload, (0, 0, 0), 0)) (by decide +kernel)) (by decide +kernel) rfl (show rg_v (am_up (am_up (am_up (am_up (am_up (am_up (am_up (am_up (am_up (am_up (am_up (am_up (am_up g 188 3 (.int (rg_v g 188 1))) 189 3 (.int (rg_v g 189 1))) 190 3 (.int (rg_v g 190 1))) 194 3 (.int (rg_v g 194 1))) 191 12 (.int (rg_v g 191 4))) 192 12 (.int (rg_v g 192 4))) 193 12 (.int (rg_v g 193 4))) 191 13 (.int (rg_v g 191 5))) 192 13 (.int (rg_v g 192 5))) 193 13 (.int (rg_v g 193 5))) 191 14 (.int (rg_v g 191 6))) 192 14 (.int (rg_v g 192 6))) 193 14 (.int (rg_v g 193 6))) 191 7 = rg_v g 191 7 from rfl) hm_z
  obtain ⟨p590_z, hm_z⟩ := hm_z
  replace hm_z := rn_iastore (N := 16) (q := 15) (am_cur_of (i := (74, 1, .iastore, (0, 0, 0), 0)) (by decide +kernel)) (by decide +kernel) rfl hm_z
  obtain ⟨p591_z, hm_z⟩ := hm_z
  replace hm_z := rn_aload_n (am_cur_of (i := (75, 1, .aload_n 0, (0, 0, 0), 0)) (by decide +kernel)) g0_z hm_z
  replace hm_z := rn_getR (x := 192) (am_cur_of (i := (76, 3, .getfield 97, (12, 54, 1438), 0)) (by decide +kernel)) (by decide +kernel) hm_z
  replace hm_z := rn_iconst (w := 4) (am_cur_of (i := (79, 1, .iconst 4, (0, 0, 0), 0)) (by decide +kernel)) (by decide) hm_z
  replace hm_z := rn_iload_n (am_cur_of (i := (80, 1, .iload_n 1, (0, 0, 0), 0)) (by decide +kernel)) g1_z hm_z
  replace hm_z := rn_imul (w := 12) (am_cur_of (i := (81, 1, .imul, (0, 0, 0), 0)) (by decide +kernel)) (by decide) hm_z
  replace hm_z := rn_iload_n (am_cur_of (i := (82, 1, .iload_n 3, (0, 0, 0), 0)) (by decide +kernel)) g3_z hm_z
  replace hm_z := rn_iadd (w := 15) (am_cur_of (i := (83, 1, .iadd, (0, 0, 0), 0)) (by decide +kernel)) (by decide) hm_z
  replace hm_z := rn_aload_n (am_cur_of (i := (84, 1, .aload_n 0, (0, 0, 0), 0)) (by decide +kernel)) g0_z hm_z
  replace hm_z := rn_getR (x := 192) (am_cur_of (i := (85, 3, .getfield 97, (12, 54, 1438), 0)) (by decide +kernel)) (by decide +kernel) hm_z
  replace hm_z := rn_iconst (w := 4) (am_cur_of (i := (88, 1, .iconst 4, (0, 0, 0), 0)) (by decide +kernel)) (by decide) hm_z
  replace hm_z := rn_iload_n (am_cur_of (i := (89, 1, .iload_n 2, (0, 0, 0), 0)) (by decide +kernel)) g2_z hm_z
  replace hm_z := rn_imul (w := 4) (am_cur_of (i := (90, 1, .imul, (0, 0, 0), 0)) (by decide +kernel)) (by decide) hm_z
  replace hm_z := rn_iload_n (am_cur_of (i := (91, 1, .iload_n 3, (0, 0, 0), 0)) (by decide +kernel)) g3_z hm_z
  replace hm_z := rn_iadd (w := 7) (am_cur_of (i := (92, 1, .iadd, (0, 0, 0), 0)) (by decide +kernel)) (by decide) hm_z
  replace hm_z := rn_iaload (N := 16) (q := 7) (v := rg_v g 192 7) (am_cur_of (i := (93, 1, .iaload, (0, 0, 0), 0)) (by decide +kernel)) (by decide +kernel) rfl (show rg_v (am_up (am_up (am_up (am_up (am_up (am_up (am_up (am_up (am_up (am_up (am_up (am_up (am_up (am_up g 188 3 (.int (rg_v g 188 1))) 189 3 (.int (rg_v g 189 1))) 190 3 (.int (rg_v g 190 1))) 194 3 (.int (rg_v g 194 1))) 191 12 (.int (rg_v g 191 4))) 192 12 (.int (rg_v g 192 4))) 193 12 (.int (rg_v g 193 4))) 191 13 (.int (rg_v g 191 5))) 192 13 (.int (rg_v g 192 5))) 193 13 (.int (rg_v g 193 5))) 191 14 (.int (rg_v g 191 6))) 192 14 (.int (rg_v g 192 6))) 193 14 (.int (rg_v g 193 6))) 191 15 (.int (rg_v g 191 7))) 192 7 = rg_v g 192 7 from rfl) hm_z
  obtain ⟨p592_z, hm_z⟩ := hm_z
  replace hm_z := rn_iastore (N := 16) (q := 15) (am_cur_of (i := (94, 1, .iastore, (0, 0, 0), 0)) (by decide +kernel)) (by decide +kernel) rfl hm_z
  obtain ⟨p593_z, hm_z⟩ := hm_z
  replace hm_z := rn_aload_n (am_cur_of (i := (95, 1, .aload_n 0, (0, 0, 0), 0)) (by decide +kernel)) g0_z hm_z
  replace hm_z := rn_getR (x := 193) (am_cur_of (i := (96, 3, .getfield 100, (12, 55, 1439), 0)) (by decide +kernel)) (by decide +kernel) hm_z
  replace hm_z := rn_iconst (w := 4) (am_cur_of (i := (99, 1, .iconst 4, (0, 0, 0), 0)) (by decide +kernel)) (by decide) hm_z
  replace hm_z := rn_iload_n (am_cur_of (i := (100, 1, .iload_n 1, (0, 0, 0), 0)) (by decide +kernel)) g1_z hm_z
  replace hm_z := rn_imul (w := 12) (am_cur_of (i := (101, 1, .imul, (0, 0, 0), 0)) (by decide +kernel)) (by decide) hm_z
  replace hm_z := rn_iload_n (am_cur_of (i := (102, 1, .iload_n 3, (0, 0, 0), 0)) (by decide +kernel)) g3_z hm_z
  replace hm_z := rn_iadd (w := 15) (am_cur_of (i := (103, 1, .iadd, (0, 0, 0), 0)) (by decide +kernel)) (by decide) hm_z
  replace hm_z := rn_aload_n (am_cur_of (i := (104, 1, .aload_n 0, (0, 0, 0), 0)) (by decide +kernel)) g0_z hm_z
  replace hm_z := rn_getR (x := 193) (am_cur_of (i := (105, 3, .getfield 100, (12, 55, 1439), 0)) (by decide +kernel)) (by decide +kernel) hm_z
  replace hm_z := rn_iconst (w := 4) (am_cur_of (i := (108, 1, .iconst 4, (0, 0, 0), 0)) (by decide +kernel)) (by decide) hm_z
  replace hm_z := rn_iload_n (am_cur_of (i := (109, 1, .iload_n 2, (0, 0, 0), 0)) (by decide +kernel)) g2_z hm_z
  replace hm_z := rn_imul (w := 4) (am_cur_of (i := (110, 1, .imul, (0, 0, 0), 0)) (by decide +kernel)) (by decide) hm_z
  replace hm_z := rn_iload_n (am_cur_of (i := (111, 1, .iload_n 3, (0, 0, 0), 0)) (by decide +kernel)) g3_z hm_z
  replace hm_z := rn_iadd (w := 7) (am_cur_of (i := (112, 1, .iadd, (0, 0, 0), 0)) (by decide +kernel)) (by decide) hm_z
  replace hm_z := rn_iaload (N := 16) (q := 7) (v := rg_v g 193 7) (am_cur_of (i := (113, 1, .iaload, (0, 0, 0), 0)) (by decide +kernel)) (by decide +kernel) rfl (show rg_v (am_up (am_up (am_up (am_up (am_up (am_up (am_up (am_up (am_up (am_up (am_up (am_up (am_up (am_up (am_up g 188 3 (.int (rg_v g 188 1))) 189 3 (.int (rg_v g 189 1))) 190 3 (.int (rg_v g 190 1))) 194 3 (.int (rg_v g 194 1))) 191 12 (.int (rg_v g 191 4))) 192 12 (.int (rg_v g 192 4))) 193 12 (.int (rg_v g 193 4))) 191 13 (.int (rg_v g 191 5))) 192 13 (.int (rg_v g 192 5))) 193 13 (.int (rg_v g 193 5))) 191 14 (.int (rg_v g 191 6))) 192 14 (.int (rg_v g 192 6))) 193 14 (.int (rg_v g 193 6))) 191 15 (.int (rg_v g 191 7))) 192 15 (.int (rg_v g 192 7))) 193 7 = rg_v g 193 7 from rfl) hm_z
  obtain ⟨p594_z, hm_z⟩ := hm_z
  replace hm_z := rn_iastore (N := 16) (q := 15) (am_cur_of (i := (114, 1, .iastore, (0, 0, 0), 0)) (by decide +kernel)) (by decide +kernel) rfl hm_z
  obtain ⟨p595_z, hm_z⟩ := hm_z
  replace hm_z := rn_iinc (w := 4) (am_cur_of (i := (115, 3, .iinc 3 1, (0, 0, 0), 0)) (by decide +kernel)) g3_z (by decide) hm_z
  obtain ⟨_, s596_z, s597_z, g3_z, hm_z⟩ := hm_z
  replace g0_z := s596_z 0 _ (by decide) rfl g0_z
  replace g1_z := s596_z 1 _ (by decide) rfl g1_z
  replace g2_z := s596_z 2 _ (by decide) rfl g2_z
  clear s596_z s597_z
  replace hm_z := rn_goto (am_cur_of (i := (118, 3, .goto (-68), (34, 0, 0), 0)) (by decide +kernel)) hm_z
  replace hm_z := rn_iload_n (am_cur_of (i := (50, 1, .iload_n 3, (0, 0, 0), 0)) (by decide +kernel)) g3_z hm_z
  replace hm_z := rn_iconst (w := 4) (am_cur_of (i := (51, 1, .iconst 4, (0, 0, 0), 0)) (by decide +kernel)) (by decide) hm_z
  replace hm_z := rn_cmpT (am_cur_of (i := (52, 3, .if_icmp .ge 69, (87, 0, 0), 0)) (by decide +kernel)) (by decide) hm_z
  replace hm_z := rn_vret (am_cur_of (i := (121, 1, .return_, (0, 0, 0), 0)) (by decide +kernel)) hm_z
  obtain ⟨e598_z, e599_z⟩ := hm_z
  rw [e599_z]
  exact (bk_u (by decide) (bk_u (by decide) (bk_u (by decide) (bk_u (by decide) (bk_u (by decide) (bk_u (by decide) (bk_u (by decide) (bk_u (by decide) (bk_u (by decide) (bk_u (by decide) (bk_u (by decide) (bk_u (by decide) (bk_u (by decide) (bk_u (by decide) (bk_u (by decide) (bk_u (by decide) bk_r))))))))))))))))
