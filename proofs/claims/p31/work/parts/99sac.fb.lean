theorem fk_147_1 {nst : Nat} {r : Option Value} {g g' : am_H}  (hm_z : rn nst am_m147 0 (lv_args 0 [.ref 164, .int 1]) [] g r g') : bk g g' := by
  have g0_z : am_get (lv_args 0 [.ref 164, .int 1]) 0 = some (.ref 164) := rfl
  have g1_z : am_get (lv_args 0 [.ref 164, .int 1]) 1 = some (.int 1) := rfl
  replace hm_z := rn_aload_n (am_cur_of (i := (0, 1, .aload_n 0, (0, 0, 0), 0)) (by decide +kernel)) g0_z hm_z
  replace hm_z := rn_getR (x := 188) (am_cur_of (i := (1, 3, .getfield 85, (12, 50, 1434), 0)) (by decide +kernel)) (by decide +kernel) hm_z
  replace hm_z := rn_iload_n (am_cur_of (i := (4, 1, .iload_n 1, (0, 0, 0), 0)) (by decide +kernel)) g1_z hm_z
  replace hm_z := rn_aload_n (am_cur_of (i := (5, 1, .aload_n 0, (0, 0, 0), 0)) (by decide +kernel)) g0_z hm_z
  replace hm_z := rn_getR (x := 168) (am_cur_of (i := (6, 3, .getfield 24, (12, 23, 1407), 0)) (by decide +kernel)) (by decide +kernel) hm_z
  replace hm_z := rn_iconst (w := 1) (am_cur_of (i := (9, 1, .iconst 1, (0, 0, 0), 0)) (by decide +kernel)) (by decide) hm_z
  replace hm_z := rn_iaload (N := 12) (q := 1) (v := rg_v g 168 1) (am_cur_of (i := (10, 1, .iaload, (0, 0, 0), 0)) (by decide +kernel)) (by decide +kernel) rfl rfl hm_z
  obtain ⟨p600_z, hm_z⟩ := hm_z
  replace hm_z := rn_iastore (N := 4) (q := 1) (am_cur_of (i := (11, 1, .iastore, (0, 0, 0), 0)) (by decide +kernel)) (by decide +kernel) rfl hm_z
  obtain ⟨p601_z, hm_z⟩ := hm_z
  replace hm_z := rn_aload_n (am_cur_of (i := (12, 1, .aload_n 0, (0, 0, 0), 0)) (by decide +kernel)) g0_z hm_z
  replace hm_z := rn_getR (x := 189) (am_cur_of (i := (13, 3, .getfield 88, (12, 51, 1435), 0)) (by decide +kernel)) (by decide +kernel) hm_z
  replace hm_z := rn_iload_n (am_cur_of (i := (16, 1, .iload_n 1, (0, 0, 0), 0)) (by decide +kernel)) g1_z hm_z
  replace hm_z := rn_iconst (w := 0) (am_cur_of (i := (17, 1, .iconst 0, (0, 0, 0), 0)) (by decide +kernel)) (by decide) hm_z
  replace hm_z := rn_iastore (N := 4) (q := 1) (am_cur_of (i := (18, 1, .iastore, (0, 0, 0), 0)) (by decide +kernel)) (by decide +kernel) rfl hm_z
  obtain ⟨p602_z, hm_z⟩ := hm_z
  replace hm_z := rn_aload_n (am_cur_of (i := (19, 1, .aload_n 0, (0, 0, 0), 0)) (by decide +kernel)) g0_z hm_z
  replace hm_z := rn_getR (x := 190) (am_cur_of (i := (20, 3, .getfield 91, (12, 52, 1436), 0)) (by decide +kernel)) (by decide +kernel) hm_z
  replace hm_z := rn_iload_n (am_cur_of (i := (23, 1, .iload_n 1, (0, 0, 0), 0)) (by decide +kernel)) g1_z hm_z
  replace hm_z := rn_iconst (w := (-1)) (am_cur_of (i := (24, 1, .iconst (-1), (0, 0, 0), 0)) (by decide +kernel)) (by decide) hm_z
  replace hm_z := rn_iastore (N := 4) (q := 1) (am_cur_of (i := (25, 1, .iastore, (0, 0, 0), 0)) (by decide +kernel)) (by decide +kernel) rfl hm_z
  obtain ⟨p603_z, hm_z⟩ := hm_z
  replace hm_z := rn_aload_n (am_cur_of (i := (26, 1, .aload_n 0, (0, 0, 0), 0)) (by decide +kernel)) g0_z hm_z
  replace hm_z := rn_getR (x := 194) (am_cur_of (i := (27, 3, .getfield 103, (12, 56, 1440), 0)) (by decide +kernel)) (by decide +kernel) hm_z
  replace hm_z := rn_iload_n (am_cur_of (i := (30, 1, .iload_n 1, (0, 0, 0), 0)) (by decide +kernel)) g1_z hm_z
  replace hm_z := rn_aload_n (am_cur_of (i := (31, 1, .aload_n 0, (0, 0, 0), 0)) (by decide +kernel)) g0_z hm_z
  replace hm_z := rn_getR (x := 168) (am_cur_of (i := (32, 3, .getfield 24, (12, 23, 1407), 0)) (by decide +kernel)) (by decide +kernel) hm_z
  replace hm_z := rn_iconst (w := 3) (am_cur_of (i := (35, 1, .iconst 3, (0, 0, 0), 0)) (by decide +kernel)) (by decide) hm_z
  replace hm_z := rn_iaload (N := 12) (q := 3) (v := rg_v g 168 3) (am_cur_of (i := (36, 1, .iaload, (0, 0, 0), 0)) (by decide +kernel)) (by decide +kernel) rfl (show rg_v (am_up (am_up (am_up g 188 1 (.int (rg_v g 168 1))) 189 1 (.int 0)) 190 1 (.int (-1))) 168 3 = rg_v g 168 3 from rfl) hm_z
  obtain ⟨p604_z, hm_z⟩ := hm_z
  replace hm_z := rn_iastore (N := 4) (q := 1) (am_cur_of (i := (37, 1, .iastore, (0, 0, 0), 0)) (by decide +kernel)) (by decide +kernel) rfl hm_z
  obtain ⟨p605_z, hm_z⟩ := hm_z
  replace hm_z := rn_iconst (w := 0) (am_cur_of (i := (38, 1, .iconst 0, (0, 0, 0), 0)) (by decide +kernel)) (by decide) hm_z
  replace hm_z := rn_istore_n (am_cur_of (i := (39, 1, .istore_n 2, (0, 0, 0), 0)) (by decide +kernel)) hm_z
  obtain ⟨_, s606_z, s607_z, g2_z, hm_z⟩ := hm_z
  replace g0_z := s606_z 0 _ (by decide) rfl g0_z
  replace g1_z := s606_z 1 _ (by decide) rfl g1_z
  clear s606_z s607_z
  replace hm_z := rn_iload_n (am_cur_of (i := (40, 1, .iload_n 2, (0, 0, 0), 0)) (by decide +kernel)) g2_z hm_z
  replace hm_z := rn_iconst (w := 4) (am_cur_of (i := (41, 1, .iconst 4, (0, 0, 0), 0)) (by decide +kernel)) (by decide) hm_z
  replace hm_z := rn_cmpF (am_cur_of (i := (42, 3, .if_icmp .ge 42, (60, 0, 0), 0)) (by decide +kernel)) (by decide) hm_z
  replace hm_z := rn_aload_n (am_cur_of (i := (45, 1, .aload_n 0, (0, 0, 0), 0)) (by decide +kernel)) g0_z hm_z
  replace hm_z := rn_getR (x := 191) (am_cur_of (i := (46, 3, .getfield 94, (12, 53, 1437), 0)) (by decide +kernel)) (by decide +kernel) hm_z
  replace hm_z := rn_iconst (w := 4) (am_cur_of (i := (49, 1, .iconst 4, (0, 0, 0), 0)) (by decide +kernel)) (by decide) hm_z
  replace hm_z := rn_iload_n (am_cur_of (i := (50, 1, .iload_n 1, (0, 0, 0), 0)) (by decide +kernel)) g1_z hm_z
  replace hm_z := rn_imul (w := 4) (am_cur_of (i := (51, 1, .imul, (0, 0, 0), 0)) (by decide +kernel)) (by decide) hm_z
  replace hm_z := rn_iload_n (am_cur_of (i := (52, 1, .iload_n 2, (0, 0, 0), 0)) (by decide +kernel)) g2_z hm_z
  replace hm_z := rn_iadd (w := 4) (am_cur_of (i := (53, 1, .iadd, (0, 0, 0), 0)) (by decide +kernel)) (by decide) hm_z
  replace hm_z := rn_iconst (w := 0) (am_cur_of (i := (54, 1, .iconst 0, (0, 0, 0), 0)) (by decide +kernel)) (by decide) hm_z
  replace hm_z := rn_iastore (N := 16) (q := 4) (am_cur_of (i := (55, 1, .iastore, (0, 0, 0), 0)) (by decide +kernel)) (by decide +kernel) rfl hm_z
  obtain ⟨p608_z, hm_z⟩ := hm_z
  replace hm_z := rn_aload_n (am_cur_of (i := (56, 1, .aload_n 0, (0, 0, 0), 0)) (by decide +kernel)) g0_z hm_z
  replace hm_z := rn_getR (x := 192) (am_cur_of (i := (57, 3, .getfield 97, (12, 54, 1438), 0)) (by decide +kernel)) (by decide +kernel) hm_z
  replace hm_z := rn_iconst (w := 4) (am_cur_of (i := (60, 1, .iconst 4, (0, 0, 0), 0)) (by decide +kernel)) (by decide) hm_z
  replace hm_z := rn_iload_n (am_cur_of (i := (61, 1, .iload_n 1, (0, 0, 0), 0)) (by decide +kernel)) g1_z hm_z
  replace hm_z := rn_imul (w := 4) (am_cur_of (i := (62, 1, .imul, (0, 0, 0), 0)) (by decide +kernel)) (by decide) hm_z
  replace hm_z := rn_iload_n (am_cur_of (i := (63, 1, .iload_n 2, (0, 0, 0), 0)) (by decide +kernel)) g2_z hm_z
  replace hm_z := rn_iadd (w := 4) (am_cur_of (i := (64, 1, .iadd, (0, 0, 0), 0)) (by decide +kernel)) (by decide) hm_z
  replace hm_z := rn_iconst (w := 0) (am_cur_of (i := (65, 1, .iconst 0, (0, 0, 0), 0)) (by decide +kernel)) (by decide) hm_z
  replace hm_z := rn_iastore (N := 16) (q := 4) (am_cur_of (i := (66, 1, .iastore, (0, 0, 0), 0)) (by decide +kernel)) (by decide +kernel) rfl hm_z
  obtain ⟨p609_z, hm_z⟩ := hm_z
  replace hm_z := rn_aload_n (am_cur_of (i := (67, 1, .aload_n 0, (0, 0, 0), 0)) (by decide +kernel)) g0_z hm_z
  replace hm_z := rn_getR (x := 193) (am_cur_of (i := (68, 3, .getfield 100, (12, 55, 1439), 0)) (by decide +kernel)) (by decide +kernel) hm_z
  replace hm_z := rn_iconst (w := 4) (am_cur_of (i := (71, 1, .iconst 4, (0, 0, 0), 0)) (by decide +kernel)) (by decide) hm_z
  replace hm_z := rn_iload_n (am_cur_of (i := (72, 1, .iload_n 1, (0, 0, 0), 0)) (by decide +kernel)) g1_z hm_z
  replace hm_z := rn_imul (w := 4) (am_cur_of (i := (73, 1, .imul, (0, 0, 0), 0)) (by decide +kernel)) (by decide) hm_z
  replace hm_z := rn_iload_n (am_cur_of (i := (74, 1, .iload_n 2, (0, 0, 0), 0)) (by decide +kernel)) g2_z hm_z
  replace hm_z := rn_iadd (w := 4) (am_cur_of (i := (75, 1, .iadd, (0, 0, 0), 0)) (by decide +kernel)) (by decide) hm_z
  replace hm_z := rn_iconst (w := 0) (am_cur_of (i := (76, 1, .iconst 0, (0, 0, 0), 0)) (by decide +kernel)) (by decide) hm_z
  replace hm_z := rn_iastore (N := 16) (q := 4) (am_cur_of (i := (77, 1, .iastore, (0, 0, 0), 0)) (by decide +kernel)) (by decide +kernel) rfl hm_z
  obtain ⟨p610_z, hm_z⟩ := hm_z
  replace hm_z := rn_iinc (w := 1) (am_cur_of (i := (78, 3, .iinc 2 1, (0, 0, 0), 0)) (by decide +kernel)) g2_z (by decide) hm_z
  obtain ⟨_, s611_z, s612_z, g2_z, hm_z⟩ := hm_z
  replace g0_z := s611_z 0 _ (by decide) rfl g0_z
  replace g1_z := s611_z 1 _ (by decide) rfl g1_z
  clear s611_z s612_z
  replace hm_z := rn_goto (am_cur_of (i := (81, 3, .goto (-41), (28, 0, 0), 0)) (by decide +kernel)) hm_z
  replace hm_z := rn_iload_n (am_cur_of (i := (40, 1, .iload_n 2, (0, 0, 0), 0)) (by decide +kernel)) g2_z hm_z
  replace hm_z := rn_iconst (w := 4) (am_cur_of (i := (41, 1, .iconst 4, (0, 0, 0), 0)) (by decide +kernel)) (by decide) hm_z
  replace hm_z := rn_cmpF (am_cur_of (i := (42, 3, .if_icmp .ge 42, (60, 0, 0), 0)) (by decide +kernel)) (by decide) hm_z
  replace hm_z := rn_aload_n (am_cur_of (i := (45, 1, .aload_n 0, (0, 0, 0), 0)) (by decide +kernel)) g0_z hm_z
  replace hm_z := rn_getR (x := 191) (am_cur_of (i := (46, 3, .getfield 94, (12, 53, 1437), 0)) (by decide +kernel)) (by decide +kernel) hm_z
  replace hm_z := rn_iconst (w := 4) (am_cur_of (i := (49, 1, .iconst 4, (0, 0, 0), 0)) (by decide +kernel)) (by decide) hm_z
  replace hm_z := rn_iload_n (am_cur_of (i := (50, 1, .iload_n 1, (0, 0, 0), 0)) (by decide +kernel)) g1_z hm_z
  replace hm_z := rn_imul (w := 4) (am_cur_of (i := (51, 1, .imul, (0, 0, 0), 0)) (by decide +kernel)) (by decide) hm_z
  replace hm_z := rn_iload_n (am_cur_of (i := (52, 1, .iload_n 2, (0, 0, 0), 0)) (by decide +kernel)) g2_z hm_z
  replace hm_z := rn_iadd (w := 5) (am_cur_of (i := (53, 1, .iadd, (0, 0, 0), 0)) (by decide +kernel)) (by decide) hm_z
  replace hm_z := rn_iconst (w := 0) (am_cur_of (i := (54, 1, .iconst 0, (0, 0, 0), 0)) (by decide +kernel)) (by decide) hm_z
  replace hm_z := rn_iastore (N := 16) (q := 5) (am_cur_of (i := (55, 1, .iastore, (0, 0, 0), 0)) (by decide +kernel)) (by decide +kernel) rfl hm_z
  obtain ⟨p613_z, hm_z⟩ := hm_z
  replace hm_z := rn_aload_n (am_cur_of (i := (56, 1, .aload_n 0, (0, 0, 0), 0)) (by decide +kernel)) g0_z hm_z
  replace hm_z := rn_getR (x := 192) (am_cur_of (i := (57, 3, .getfield 97, (12, 54, 1438), 0)) (by decide +kernel)) (by decide +kernel) hm_z
  replace hm_z := rn_iconst (w := 4) (am_cur_of (i := (60, 1, .iconst 4, (0, 0, 0), 0)) (by decide +kernel)) (by decide) hm_z
  replace hm_z := rn_iload_n (am_cur_of (i := (61, 1, .iload_n 1, (0, 0, 0), 0)) (by decide +kernel)) g1_z hm_z
  replace hm_z := rn_imul (w := 4) (am_cur_of (i := (62, 1, .imul, (0, 0, 0), 0)) (by decide +kernel)) (by decide) hm_z
  replace hm_z := rn_iload_n (am_cur_of (i := (63, 1, .iload_n 2, (0, 0, 0), 0)) (by decide +kernel)) g2_z hm_z
  replace hm_z := rn_iadd (w := 5) (am_cur_of (i := (64, 1, .iadd, (0, 0, 0), 0)) (by decide +kernel)) (by decide) hm_z
  replace hm_z := rn_iconst (w := 0) (am_cur_of (i := (65, 1, .iconst 0, (0, 0, 0), 0)) (by decide +kernel)) (by decide) hm_z
  replace hm_z := rn_iastore (N := 16) (q := 5) (am_cur_of (i := (66, 1, .iastore, (0, 0, 0), 0)) (by decide +kernel)) (by decide +kernel) rfl hm_z
  obtain ⟨p614_z, hm_z⟩ := hm_z
  replace hm_z := rn_aload_n (am_cur_of (i := (67, 1, .aload_n 0, (0, 0, 0), 0)) (by decide +kernel)) g0_z hm_z
  replace hm_z := rn_getR (x := 193) (am_cur_of (i := (68, 3, .getfield 100, (12, 55, 1439), 0)) (by decide +kernel)) (by decide +kernel) hm_z
  replace hm_z := rn_iconst (w := 4) (am_cur_of (i := (71, 1, .iconst 4, (0, 0, 0), 0)) (by decide +kernel)) (by decide) hm_z
  replace hm_z := rn_iload_n (am_cur_of (i := (72, 1, .iload_n 1, (0, 0, 0), 0)) (by decide +kernel)) g1_z hm_z
  replace hm_z := rn_imul (w := 4) (am_cur_of (i := (73, 1, .imul, (0, 0, 0), 0)) (by decide +kernel)) (by decide) hm_z
  replace hm_z := rn_iload_n (am_cur_of (i := (74, 1, .iload_n 2, (0, 0, 0), 0)) (by decide +kernel)) g2_z hm_z
  replace hm_z := rn_iadd (w := 5) (am_cur_of (i := (75, 1, .iadd, (0, 0, 0), 0)) (by decide +kernel)) (by decide) hm_z
  replace hm_z := rn_iconst (w := 0) (am_cur_of (i := (76, 1, .iconst 0, (0, 0, 0), 0)) (by decide +kernel)) (by decide) hm_z
  replace hm_z := rn_iastore (N := 16) (q := 5) (am_cur_of (i := (77, 1, .iastore, (0, 0, 0), 0)) (by decide +kernel)) (by decide +kernel) rfl hm_z
  obtain ⟨p615_z, hm_z⟩ := hm_z
  replace hm_z := rn_iinc (w := 2) (am_cur_of (i := (78, 3, .iinc 2 1, (0, 0, 0), 0)) (by decide +kernel)) g2_z (by decide) hm_z
  obtain ⟨_, s616_z, s617_z, g2_z, hm_z⟩ := hm_z
  replace g0_z := s616_z 0 _ (by decide) rfl g0_z
  replace g1_z := s616_z 1 _ (by decide) rfl g1_z
  clear s616_z s617_z
  replace hm_z := rn_goto (am_cur_of (i := (81, 3, .goto (-41), (28, 0, 0), 0)) (by decide +kernel)) hm_z
  replace hm_z := rn_iload_n (am_cur_of (i := (40, 1, .iload_n 2, (0, 0, 0), 0)) (by decide +kernel)) g2_z hm_z
  replace hm_z := rn_iconst (w := 4) (am_cur_of (i := (41, 1, .iconst 4, (0, 0, 0), 0)) (by decide +kernel)) (by decide) hm_z
  replace hm_z := rn_cmpF (am_cur_of (i := (42, 3, .if_icmp .ge 42, (60, 0, 0), 0)) (by decide +kernel)) (by decide) hm_z
  replace hm_z := rn_aload_n (am_cur_of (i := (45, 1, .aload_n 0, (0, 0, 0), 0)) (by decide +kernel)) g0_z hm_z
  replace hm_z := rn_getR (x := 191) (am_cur_of (i := (46, 3, .getfield 94, (12, 53, 1437), 0)) (by decide +kernel)) (by decide +kernel) hm_z
  replace hm_z := rn_iconst (w := 4) (am_cur_of (i := (49, 1, .iconst 4, (0, 0, 0), 0)) (by decide +kernel)) (by decide) hm_z
  replace hm_z := rn_iload_n (am_cur_of (i := (50, 1, .iload_n 1, (0, 0, 0), 0)) (by decide +kernel)) g1_z hm_z
  replace hm_z := rn_imul (w := 4) (am_cur_of (i := (51, 1, .imul, (0, 0, 0), 0)) (by decide +kernel)) (by decide) hm_z
  replace hm_z := rn_iload_n (am_cur_of (i := (52, 1, .iload_n 2, (0, 0, 0), 0)) (by decide +kernel)) g2_z hm_z
  replace hm_z := rn_iadd (w := 6) (am_cur_of (i := (53, 1, .iadd, (0, 0, 0), 0)) (by decide +kernel)) (by decide) hm_z
  replace hm_z := rn_iconst (w := 0) (am_cur_of (i := (54, 1, .iconst 0, (0, 0, 0), 0)) (by decide +kernel)) (by decide) hm_z
  replace hm_z := rn_iastore (N := 16) (q := 6) (am_cur_of (i := (55, 1, .iastore, (0, 0, 0), 0)) (by decide +kernel)) (by decide +kernel) rfl hm_z
  obtain ⟨p618_z, hm_z⟩ := hm_z
  replace hm_z := rn_aload_n (am_cur_of (i := (56, 1, .aload_n 0, (0, 0, 0), 0)) (by decide +kernel)) g0_z hm_z
  replace hm_z := rn_getR (x := 192) (am_cur_of (i := (57, 3, .getfield 97, (12, 54, 1438), 0)) (by decide +kernel)) (by decide +kernel) hm_z
  replace hm_z := rn_iconst (w := 4) (am_cur_of (i := (60, 1, .iconst 4, (0, 0, 0), 0)) (by decide +kernel)) (by decide) hm_z
  replace hm_z := rn_iload_n (am_cur_of (i := (61, 1, .iload_n 1, (0, 0, 0), 0)) (by decide +kernel)) g1_z hm_z
  replace hm_z := rn_imul (w := 4) (am_cur_of (i := (62, 1, .imul, (0, 0, 0), 0)) (by decide +kernel)) (by decide) hm_z
  replace hm_z := rn_iload_n (am_cur_of (i := (63, 1, .iload_n 2, (0, 0, 0), 0)) (by decide +kernel)) g2_z hm_z
  replace hm_z := rn_iadd (w := 6) (am_cur_of (i := (64, 1, .iadd, (0, 0, 0), 0)) (by decide +kernel)) (by decide) hm_z
  replace hm_z := rn_iconst (w := 0) (am_cur_of (i := (65, 1, .iconst 0, (0, 0, 0), 0)) (by decide +kernel)) (by decide) hm_z
  replace hm_z := rn_iastore (N := 16) (q := 6) (am_cur_of (i := (66, 1, .iastore, (0, 0, 0), 0)) (by decide +kernel)) (by decide +kernel) rfl hm_z
  obtain ⟨p619_z, hm_z⟩ := hm_z
  replace hm_z := rn_aload_n (am_cur_of (i := (67, 1, .aload_n 0, (0, 0, 0), 0)) (by decide +kernel)) g0_z hm_z
  replace hm_z := rn_getR (x := 193) (am_cur_of (i := (68, 3, .getfield 100, (12, 55, 1439), 0)) (by decide +kernel)) (by decide +kernel) hm_z
  replace hm_z := rn_iconst (w := 4) (am_cur_of (i := (71, 1, .iconst 4, (0, 0, 0), 0)) (by decide +kernel)) (by decide) hm_z
  replace hm_z := rn_iload_n (am_cur_of (i := (72, 1, .iload_n 1, (0, 0, 0), 0)) (by decide +kernel)) g1_z hm_z
  replace hm_z := rn_imul (w := 4) (am_cur_of (i := (73, 1, .imul, (0, 0, 0), 0)) (by decide +kernel)) (by decide) hm_z
  replace hm_z := rn_iload_n (am_cur_of (i := (74, 1, .iload_n 2, (0, 0, 0), 0)) (by decide +kernel)) g2_z hm_z
  replace hm_z := rn_iadd (w := 6) (am_cur_of (i := (75, 1, .iadd, (0, 0, 0), 0)) (by decide +kernel)) (by decide) hm_z
  replace hm_z := rn_iconst (w := 0) (am_cur_of (i := (76, 1, .iconst 0, (0, 0, 0), 0)) (by decide +kernel)) (by decide) hm_z
  replace hm_z := rn_iastore (N := 16) (q := 6) (am_cur_of (i := (77, 1, .iastore, (0, 0, 0), 0)) (by decide +kernel)) (by decide +kernel) rfl hm_z
  obtain ⟨p620_z, hm_z⟩ := hm_z
  replace hm_z := rn_iinc (w := 3) (am_cur_of (i := (78, 3, .iinc 2 1, (0, 0, 0), 0)) (by decide +kernel)) g2_z (by decide) hm_z
  obtain ⟨_, s621_z, s622_z, g2_z, hm_z⟩ := hm_z
  replace g0_z := s621_z 0 _ (by decide) rfl g0_z
  replace g1_z := s621_z 1 _ (by decide) rfl g1_z
  clear s621_z s622_z
  replace hm_z := rn_goto (am_cur_of (i := (81, 3, .goto (-41), (28, 0, 0), 0)) (by decide +kernel)) hm_z
  replace hm_z := rn_iload_n (am_cur_of (i := (40, 1, .iload_n 2, (0, 0, 0), 0)) (by decide +kernel)) g2_z hm_z
  replace hm_z := rn_iconst (w := 4) (am_cur_of (i := (41, 1, .iconst 4, (0, 0, 0), 0)) (by decide +kernel)) (by decide) hm_z
  replace hm_z := rn_cmpF (am_cur_of (i := (42, 3, .if_icmp .ge 42, (60, 0, 0), 0)) (by decide +kernel)) (by decide) hm_z
  replace hm_z := rn_aload_n (am_cur_of (i := (45, 1, .aload_n 0, (0, 0, 0), 0)) (by decide +kernel)) g0_z hm_z
  replace hm_z := rn_getR (x := 191) (am_cur_of (i := (46, 3, .getfield 94, (12, 53, 1437), 0)) (by decide +kernel)) (by decide +kernel) hm_z
  replace hm_z := rn_iconst (w := 4) (am_cur_of (i := (49, 1, .iconst 4, (0, 0, 0), 0)) (by decide +kernel)) (by decide) hm_z
  replace hm_z := rn_iload_n (am_cur_of (i := (50, 1, .iload_n 1, (0, 0, 0), 0)) (by decide +kernel)) g1_z hm_z
  replace hm_z := rn_imul (w := 4) (am_cur_of (i := (51, 1, .imul, (0, 0, 0), 0)) (by decide +kernel)) (by decide) hm_z
  replace hm_z := rn_iload_n (am_cur_of (i := (52, 1, .iload_n 2, (0, 0, 0), 0)) (by decide +kernel)) g2_z hm_z
  replace hm_z := rn_iadd (w := 7) (am_cur_of (i := (53, 1, .iadd, (0, 0, 0), 0)) (by decide +kernel)) (by decide) hm_z
  replace hm_z := rn_iconst (w := 0) (am_cur_of (i := (54, 1, .iconst 0, (0, 0, 0), 0)) (by decide +kernel)) (by decide) hm_z
  replace hm_z := rn_iastore (N := 16) (q := 7) (am_cur_of (i := (55, 1, .iastore, (0, 0, 0), 0)) (by decide +kernel)) (by decide +kernel) rfl hm_z
  obtain ⟨p623_z, hm_z⟩ := hm_z
  replace hm_z := rn_aload_n (am_cur_of (i := (56, 1, .aload_n 0, (0, 0, 0), 0)) (by decide +kernel)) g0_z hm_z
  replace hm_z := rn_getR (x := 192) (am_cur_of (i := (57, 3, .getfield 97, (12, 54, 1438), 0)) (by decide +kernel)) (by decide +kernel) hm_z
  replace hm_z := rn_iconst (w := 4) (am_cur_of (i := (60, 1, .iconst 4, (0, 0, 0), 0)) (by decide +kernel)) (by decide) hm_z
  replace hm_z := rn_iload_n (am_cur_of (i := (61, 1, .iload_n 1, (0, 0, 0), 0)) (by decide +kernel)) g1_z hm_z
  replace hm_z := rn_imul (w := 4) (am_cur_of (i := (62, 1, .imul, (0, 0, 0), 0)) (by decide +kernel)) (by decide) hm_z
  replace hm_z := rn_iload_n (am_cur_of (i := (63, 1, .iload_n 2, (0, 0, 0), 0)) (by decide +kernel)) g2_z hm_z
  replace hm_z := rn_iadd (w := 7) (am_cur_of (i := (64, 1, .iadd, (0, 0, 0), 0)) (by decide +kernel)) (by decide) hm_z
  replace hm_z := rn_iconst (w := 0) (am_cur_of (i := (65, 1, .iconst 0, (0, 0, 0), 0)) (by decide +kernel)) (by decide) hm_z
  replace hm_z := rn_iastore (N := 16) (q := 7) (am_cur_of (i := (66, 1, .iastore, (0, 0, 0), 0)) (by decide +kernel)) (by decide +kernel) rfl hm_z
  obtain ⟨p624_z, hm_z⟩ := hm_z
  replace hm_z := rn_aload_n (am_cur_of (i := (67, 1, .aload_n 0, (0, 0, 0), 0)) (by decide +kernel)) g0_z hm_z
  replace hm_z := rn_getR (x := 193) (am_cur_of (i := (68, 3, .getfield 100, (12, 55, 1439), 0)) (by decide +kernel)) (by decide +kernel) hm_z
  replace hm_z := rn_iconst (w := 4) (am_cur_of (i := (71, 1, .iconst 4, (0, 0, 0), 0)) (by decide +kernel)) (by decide) hm_z
  replace hm_z := rn_iload_n (am_cur_of (i := (72, 1, .iload_n 1, (0, 0, 0), 0)) (by decide +kernel)) g1_z hm_z
  replace hm_z := rn_imul (w := 4) (am_cur_of (i := (73, 1, .imul, (0, 0, 0), 0)) (by decide +kernel)) (by decide) hm_z
  replace hm_z := rn_iload_n (am_cur_of (i := (74, 1, .iload_n 2, (0, 0, 0), 0)) (by decide +kernel)) g2_z hm_z
  replace hm_z := rn_iadd (w := 7) (am_cur_of (i := (75, 1, .iadd, (0, 0, 0), 0)) (by decide +kernel)) (by decide) hm_z
  replace hm_z := rn_iconst (w := 0) (am_cur_of (i := (76, 1, .iconst 0, (0, 0, 0), 0)) (by decide +kernel)) (by decide) hm_z
  replace hm_z := rn_iastore (N := 16) (q := 7) (am_cur_of (i := (77, 1, .iastore, (0, 0, 0), 0)) (by decide +kernel)) (by decide +kernel) rfl hm_z
  obtain ⟨p625_z, hm_z⟩ := hm_z
  replace hm_z := rn_iinc (w := 4) (am_cur_of (i := (78, 3, .iinc 2 1, (0, 0, 0), 0)) (by decide +kernel)) g2_z (by decide) hm_z
  obtain ⟨_, s626_z, s627_z, g2_z, hm_z⟩ := hm_z
  replace g0_z := s626_z 0 _ (by decide) rfl g0_z
  replace g1_z := s626_z 1 _ (by decide) rfl g1_z
  clear s626_z s627_z
  replace hm_z := rn_goto (am_cur_of (i := (81, 3, .goto (-41), (28, 0, 0), 0)) (by decide +kernel)) hm_z
  replace hm_z := rn_iload_n (am_cur_of (i := (40, 1, .iload_n 2, (0, 0, 0), 0)) (by decide +kernel)) g2_z hm_z
  replace hm_z := rn_iconst (w := 4) (am_cur_of (i := (41, 1, .iconst 4, (0, 0, 0), 0)) (by decide +kernel)) (by decide) hm_z
  replace hm_z := rn_cmpT (am_cur_of (i := (42, 3, .if_icmp .ge 42, (60, 0, 0), 0)) (by decide +kernel)) (by decide) hm_z
  replace hm_z := rn_vret (am_cur_of (i := (84, 1, .return_, (0, 0, 0), 0)) (by decide +kernel)) hm_z
  obtain ⟨e628_z, e629_z⟩ := hm_z
  rw [e629_z]
  exact (bk_u (by decide) (bk_u (by decide) (bk_u (by decide) (bk_u (by decide) (bk_u (by decide) (bk_u (by decide) (bk_u (by decide) (bk_u (by decide) (bk_u (by decide) (bk_u (by decide) (bk_u (by decide) (bk_u (by decide) (bk_u (by decide) (bk_u (by decide) (bk_u (by decide) (bk_u (by decide) bk_r))))))))))))))))
theorem fk_204_1_L {r : Option Value} {g' : am_H} {k : Int32} (k0_z : 0 ≤ k.toInt) : ∀ f : Nat, (∀ (ls : am_L) (g : am_H), rn f am_m204 40 ls [] g r g' → bk g g') := by
  intro f
  induction f with
  | zero =>
    exact (fun _ _ hm_z => absurd hm_z rn_0)
  | succ f ih_z =>
    have I40 := ih_z
    have H40 : ∀ (ls : am_L) (g : am_H), rn (f + 1) am_m204 40 ls [] g r g' → bk g g' := by
      intro ls g hm_z
      replace hm_z := rn_vret (am_cur_of (i := (55, 1, .return_, (0, 0, 0), 0)) (by decide +kernel)) hm_z
      obtain ⟨e630_z, e631_z⟩ := hm_z
      rw [e631_z]
      exact bk_r
    exact H40
theorem fk_204_1 {nst : Nat} {r : Option Value} {g g' : am_H} {k : Int32} (k0_z : 0 ≤ k.toInt) (hm_z : rn nst am_m204 0 (lv_args 0 [.ref 164, .int 1, .int k]) [] g r g') : bk g g' := by
  have z0_z : (0 : Int32).toInt = 0 := by decide
  have g0_z : am_get (lv_args 0 [.ref 164, .int 1, .int k]) 0 = some (.ref 164) := rfl
  have g1_z : am_get (lv_args 0 [.ref 164, .int 1, .int k]) 1 = some (.int 1) := rfl
  have g2_z : am_get (lv_args 0 [.ref 164, .int 1, .int k]) 2 = some (.int k) := rfl
  replace hm_z := rn_aload_n (am_cur_of (i := (0, 1, .aload_n 0, (0, 0, 0), 0)) (by decide +kernel)) g0_z hm_z
  replace hm_z := rn_getR (x := 191) (am_cur_of (i := (1, 3, .getfield 94, (12, 53, 1437), 0)) (by decide +kernel)) (by decide +kernel) hm_z
  replace hm_z := rn_iconst (w := 4) (am_cur_of (i := (4, 1, .iconst 4, (0, 0, 0), 0)) (by decide +kernel)) (by decide) hm_z
  replace hm_z := rn_iload_n (am_cur_of (i := (5, 1, .iload_n 1, (0, 0, 0), 0)) (by decide +kernel)) g1_z hm_z
  replace hm_z := rn_imul (w := 4) (am_cur_of (i := (6, 1, .imul, (0, 0, 0), 0)) (by decide +kernel)) (by decide) hm_z
  replace hm_z := rn_iload_n (am_cur_of (i := (7, 1, .iload_n 2, (0, 0, 0), 0)) (by decide +kernel)) g2_z hm_z
  replace hm_z := rn_iadd (w := (4 : Int32) + k) (am_cur_of (i := (8, 1, .iadd, (0, 0, 0), 0)) (by decide +kernel)) rfl hm_z
  replace hm_z := rn_iaload (N := 16) (q := ((4 : Int32) + k).toNatClampNeg) (v := rg_v g 191 (((4 : Int32) + k).toNatClampNeg)) (am_cur_of (i := (9, 1, .iaload, (0, 0, 0), 0)) (by decide +kernel)) (by decide +kernel) rfl rfl hm_z
  obtain ⟨p632_z, hm_z⟩ := hm_z
  replace hm_z := rn_if (am_cur_of (i := (10, 3, .ifCond .le 45, (40, 0, 0), 0)) (by decide +kernel)) hm_z
  rcases hm_z with ⟨b633_z, hm_z⟩ | ⟨b633_z, hm_z⟩
  · replace b633_z : (rg_v g 191 (((4 : Int32) + k).toNatClampNeg)).toInt ≤ (0 : Int32).toInt := b633_z
    have H40 := (fk_204_1_L (r := r) (g' := g') (k := k) k0_z nst)
    exact bk_t bk_r (H40 _ _ hm_z)
  · replace b633_z : (0 : Int32).toInt < (rg_v g 191 (((4 : Int32) + k).toNatClampNeg)).toInt := b633_z
    replace hm_z := rn_aload_n (am_cur_of (i := (13, 1, .aload_n 0, (0, 0, 0), 0)) (by decide +kernel)) g0_z hm_z
    replace hm_z := rn_getR (x := 189) (am_cur_of (i := (14, 3, .getfield 88, (12, 51, 1435), 0)) (by decide +kernel)) (by decide +kernel) hm_z
    replace hm_z := rn_iload_n (am_cur_of (i := (17, 1, .iload_n 1, (0, 0, 0), 0)) (by decide +kernel)) g1_z hm_z
    replace hm_z := rn_iaload (N := 4) (q := 1) (v := rg_v g 189 1) (am_cur_of (i := (18, 1, .iaload, (0, 0, 0), 0)) (by decide +kernel)) (by decide +kernel) rfl rfl hm_z
    obtain ⟨p634_z, hm_z⟩ := hm_z
    replace hm_z := rn_aload_n (am_cur_of (i := (19, 1, .aload_n 0, (0, 0, 0), 0)) (by decide +kernel)) g0_z hm_z
    replace hm_z := rn_getR (x := 193) (am_cur_of (i := (20, 3, .getfield 100, (12, 55, 1439), 0)) (by decide +kernel)) (by decide +kernel) hm_z
    replace hm_z := rn_iconst (w := 4) (am_cur_of (i := (23, 1, .iconst 4, (0, 0, 0), 0)) (by decide +kernel)) (by decide) hm_z
    replace hm_z := rn_iload_n (am_cur_of (i := (24, 1, .iload_n 1, (0, 0, 0), 0)) (by decide +kernel)) g1_z hm_z
    replace hm_z := rn_imul (w := 4) (am_cur_of (i := (25, 1, .imul, (0, 0, 0), 0)) (by decide +kernel)) (by decide) hm_z
    replace hm_z := rn_iload_n (am_cur_of (i := (26, 1, .iload_n 2, (0, 0, 0), 0)) (by decide +kernel)) g2_z hm_z
    replace hm_z := rn_iadd (w := (4 : Int32) + k) (am_cur_of (i := (27, 1, .iadd, (0, 0, 0), 0)) (by decide +kernel)) rfl hm_z
    replace hm_z := rn_iaload (N := 16) (q := ((4 : Int32) + k).toNatClampNeg) (v := rg_v g 193 (((4 : Int32) + k).toNatClampNeg)) (am_cur_of (i := (28, 1, .iaload, (0, 0, 0), 0)) (by decide +kernel)) (by decide +kernel) rfl rfl hm_z
    obtain ⟨p635_z, hm_z⟩ := hm_z
    replace hm_z := rn_isub (w := (rg_v g 189 1) - (rg_v g 193 (((4 : Int32) + k).toNatClampNeg))) (am_cur_of (i := (29, 1, .isub, (0, 0, 0), 0)) (by decide +kernel)) rfl hm_z
    replace hm_z := rn_aload_n (am_cur_of (i := (30, 1, .aload_n 0, (0, 0, 0), 0)) (by decide +kernel)) g0_z hm_z
    replace hm_z := rn_getR (x := 170) (am_cur_of (i := (31, 3, .getfield 30, (12, 25, 1409), 0)) (by decide +kernel)) (by decide +kernel) hm_z
    replace hm_z := rn_bipush (w := 7) (am_cur_of (i := (34, 2, .bipush 7, (0, 0, 0), 0)) (by decide +kernel)) (by decide) hm_z
    replace hm_z := rn_iload_n (am_cur_of (i := (36, 1, .iload_n 2, (0, 0, 0), 0)) (by decide +kernel)) g2_z hm_z
    replace hm_z := rn_imul (w := (7 : Int32) * k) (am_cur_of (i := (37, 1, .imul, (0, 0, 0), 0)) (by decide +kernel)) rfl hm_z
    replace hm_z := rn_iconst (w := 4) (am_cur_of (i := (38, 1, .iconst 4, (0, 0, 0), 0)) (by decide +kernel)) (by decide) hm_z
    replace hm_z := rn_iadd (w := ((7 : Int32) * k) + 4) (am_cur_of (i := (39, 1, .iadd, (0, 0, 0), 0)) (by decide +kernel)) rfl hm_z
    replace hm_z := rn_iaload (N := 56) (q := (((7 : Int32) * k) + 4).toNatClampNeg) (v := rg_v g 170 ((((7 : Int32) * k) + 4).toNatClampNeg)) (am_cur_of (i := (40, 1, .iaload, (0, 0, 0), 0)) (by decide +kernel)) (by decide +kernel) rfl rfl hm_z
    obtain ⟨p636_z, hm_z⟩ := hm_z
    replace hm_z := rn_cmp (am_cur_of (i := (41, 3, .if_icmp .lt 14, (40, 0, 0), 0)) (by decide +kernel)) hm_z
    rcases hm_z with ⟨b637_z, hm_z⟩ | ⟨b637_z, hm_z⟩
    · replace b637_z : ((rg_v g 189 1) - (rg_v g 193 (((4 : Int32) + k).toNatClampNeg))).toInt < (rg_v g 170 ((((7 : Int32) * k) + 4).toNatClampNeg)).toInt := b637_z
      have H40 := (fk_204_1_L (r := r) (g' := g') (k := k) k0_z nst)
      exact bk_t bk_r (H40 _ _ hm_z)
    · replace b637_z : (rg_v g 170 ((((7 : Int32) * k) + 4).toNatClampNeg)).toInt ≤ ((rg_v g 189 1) - (rg_v g 193 (((4 : Int32) + k).toNatClampNeg))).toInt := b637_z
      replace hm_z := rn_aload_n (am_cur_of (i := (44, 1, .aload_n 0, (0, 0, 0), 0)) (by decide +kernel)) g0_z hm_z
      replace hm_z := rn_getR (x := 191) (am_cur_of (i := (45, 3, .getfield 94, (12, 53, 1437), 0)) (by decide +kernel)) (by decide +kernel) hm_z
      replace hm_z := rn_iconst (w := 4) (am_cur_of (i := (48, 1, .iconst 4, (0, 0, 0), 0)) (by decide +kernel)) (by decide) hm_z
      replace hm_z := rn_iload_n (am_cur_of (i := (49, 1, .iload_n 1, (0, 0, 0), 0)) (by decide +kernel)) g1_z hm_z
      replace hm_z := rn_imul (w := 4) (am_cur_of (i := (50, 1, .imul, (0, 0, 0), 0)) (by decide +kernel)) (by decide) hm_z
      replace hm_z := rn_iload_n (am_cur_of (i := (51, 1, .iload_n 2, (0, 0, 0), 0)) (by decide +kernel)) g2_z hm_z
      replace hm_z := rn_iadd (w := (4 : Int32) + k) (am_cur_of (i := (52, 1, .iadd, (0, 0, 0), 0)) (by decide +kernel)) rfl hm_z
      replace hm_z := rn_iconst (w := 0) (am_cur_of (i := (53, 1, .iconst 0, (0, 0, 0), 0)) (by decide +kernel)) (by decide) hm_z
      replace hm_z := rn_iastore (N := 16) (q := ((4 : Int32) + k).toNatClampNeg) (am_cur_of (i := (54, 1, .iastore, (0, 0, 0), 0)) (by decide +kernel)) (by decide +kernel) rfl hm_z
      obtain ⟨p638_z, hm_z⟩ := hm_z
      have H40 := (fk_204_1_L (r := r) (g' := g') (k := k) k0_z nst)
      exact bk_t (bk_u (bk_i (by decide) (bk_4 (by decide) k0_z p638_z)) bk_r) (H40 _ _ hm_z)
theorem fk_203_1 {nst : Nat} {r : Option Value} {g g' : am_H} {k : Int32} (k0_z : 0 ≤ k.toInt) (hm_z : rn nst am_m203 0 (lv_args 0 [.ref 164, .int 1, .int k]) [] g r g') : bk g g' := by
  have g0_z : am_get (lv_args 0 [.ref 164, .int 1, .int k]) 0 = some (.ref 164) := rfl
  have g1_z : am_get (lv_args 0 [.ref 164, .int 1, .int k]) 1 = some (.int 1) := rfl
  have g2_z : am_get (lv_args 0 [.ref 164, .int 1, .int k]) 2 = some (.int k) := rfl
  replace hm_z := rn_aload_n (am_cur_of (i := (0, 1, .aload_n 0, (0, 0, 0), 0)) (by decide +kernel)) g0_z hm_z
  replace hm_z := rn_iload_n (am_cur_of (i := (1, 1, .iload_n 1, (0, 0, 0), 0)) (by decide +kernel)) g1_z hm_z
  replace hm_z := rn_iload_n (am_cur_of (i := (2, 1, .iload_n 2, (0, 0, 0), 0)) (by decide +kernel)) g2_z hm_z
  replace hm_z := rn_callV (M' := am_m204) (o := 164) (ar := [.int k, .int 1]) (rest := []) (L := lv_args 0 [.ref 164, .int 1, .int k]) (am_cur_of (i := (3, 3, .invokevirtual 413, (204, 1847, 3), 0)) (by decide +kernel)) rfl rfl rfl rfl hm_z
  obtain ⟨r639_z, h640_z, q641_z, hm_z⟩ := hm_z
  have k642_z := fk_204_1 k0_z q641_z
  have vo := rn_void rfl q641_z
  subst vo
  replace hm_z : rn _ _ _ _ [] _ _ _ := hm_z
  replace hm_z := rn_aload_n (am_cur_of (i := (6, 1, .aload_n 0, (0, 0, 0), 0)) (by decide +kernel)) g0_z hm_z
  replace hm_z := rn_getR (x := 191) (am_cur_of (i := (7, 3, .getfield 94, (12, 53, 1437), 0)) (by decide +kernel)) (by decide +kernel) hm_z
  replace hm_z := rn_iconst (w := 4) (am_cur_of (i := (10, 1, .iconst 4, (0, 0, 0), 0)) (by decide +kernel)) (by decide) hm_z
  replace hm_z := rn_iload_n (am_cur_of (i := (11, 1, .iload_n 1, (0, 0, 0), 0)) (by decide +kernel)) g1_z hm_z
  replace hm_z := rn_imul (w := 4) (am_cur_of (i := (12, 1, .imul, (0, 0, 0), 0)) (by decide +kernel)) (by decide) hm_z
  replace hm_z := rn_iload_n (am_cur_of (i := (13, 1, .iload_n 2, (0, 0, 0), 0)) (by decide +kernel)) g2_z hm_z
  replace hm_z := rn_iadd (w := (4 : Int32) + k) (am_cur_of (i := (14, 1, .iadd, (0, 0, 0), 0)) (by decide +kernel)) rfl hm_z
  replace hm_z := rn_iaload (N := 16) (q := ((4 : Int32) + k).toNatClampNeg) (v := rg_v h640_z 191 (((4 : Int32) + k).toNatClampNeg)) (am_cur_of (i := (15, 1, .iaload, (0, 0, 0), 0)) (by decide +kernel)) (by decide +kernel) rfl rfl hm_z
  obtain ⟨p643_z, hm_z⟩ := hm_z
  replace hm_z := rn_aload_n (am_cur_of (i := (16, 1, .aload_n 0, (0, 0, 0), 0)) (by decide +kernel)) g0_z hm_z
  replace hm_z := rn_getR (x := 170) (am_cur_of (i := (17, 3, .getfield 30, (12, 25, 1409), 0)) (by decide +kernel)) (by decide +kernel) hm_z
  replace hm_z := rn_bipush (w := 7) (am_cur_of (i := (20, 2, .bipush 7, (0, 0, 0), 0)) (by decide +kernel)) (by decide) hm_z
  replace hm_z := rn_iload_n (am_cur_of (i := (22, 1, .iload_n 2, (0, 0, 0), 0)) (by decide +kernel)) g2_z hm_z
  replace hm_z := rn_imul (w := (7 : Int32) * k) (am_cur_of (i := (23, 1, .imul, (0, 0, 0), 0)) (by decide +kernel)) rfl hm_z
  replace hm_z := rn_iconst (w := 2) (am_cur_of (i := (24, 1, .iconst 2, (0, 0, 0), 0)) (by decide +kernel)) (by decide) hm_z
  replace hm_z := rn_iadd (w := ((7 : Int32) * k) + 2) (am_cur_of (i := (25, 1, .iadd, (0, 0, 0), 0)) (by decide +kernel)) rfl hm_z
  replace hm_z := rn_iaload (N := 56) (q := (((7 : Int32) * k) + 2).toNatClampNeg) (v := rg_v h640_z 170 ((((7 : Int32) * k) + 2).toNatClampNeg)) (am_cur_of (i := (26, 1, .iaload, (0, 0, 0), 0)) (by decide +kernel)) (by decide +kernel) rfl rfl hm_z
  obtain ⟨p644_z, hm_z⟩ := hm_z
  replace hm_z := rn_cmp (am_cur_of (i := (27, 3, .if_icmp .lt 7, (23, 0, 0), 0)) (by decide +kernel)) hm_z
  rcases hm_z with ⟨b645_z, hm_z⟩ | ⟨b645_z, hm_z⟩
  · replace b645_z : (rg_v h640_z 191 (((4 : Int32) + k).toNatClampNeg)).toInt < (rg_v h640_z 170 ((((7 : Int32) * k) + 2).toNatClampNeg)).toInt := b645_z
    replace hm_z := rn_iconst (w := 0) (am_cur_of (i := (34, 1, .iconst 0, (0, 0, 0), 0)) (by decide +kernel)) (by decide) hm_z
    replace hm_z := rn_iret (am_cur_of (i := (35, 1, .ireturn, (0, 0, 0), 0)) (by decide +kernel)) hm_z
    obtain ⟨e646_z, e647_z⟩ := hm_z
    rw [e647_z]
    exact (bk_t bk_r k642_z)
  · replace b645_z : (rg_v h640_z 170 ((((7 : Int32) * k) + 2).toNatClampNeg)).toInt ≤ (rg_v h640_z 191 (((4 : Int32) + k).toNatClampNeg)).toInt := b645_z
    replace hm_z := rn_iconst (w := 1) (am_cur_of (i := (30, 1, .iconst 1, (0, 0, 0), 0)) (by decide +kernel)) (by decide) hm_z
    replace hm_z := rn_goto (am_cur_of (i := (31, 3, .goto 4, (24, 0, 0), 0)) (by decide +kernel)) hm_z
    replace hm_z := rn_iret (am_cur_of (i := (35, 1, .ireturn, (0, 0, 0), 0)) (by decide +kernel)) hm_z
    obtain ⟨e648_z, e649_z⟩ := hm_z
    rw [e649_z]
    exact (bk_t bk_r k642_z)
theorem fk_205_1 {nst : Nat} {r : Option Value} {g g' : am_H} {k : Int32} (k0_z : 0 ≤ k.toInt) (hm_z : rn nst am_m205 0 (lv_args 0 [.ref 164, .int 1, .int k]) [] g r g') : bk g g' := by
  have g0_z : am_get (lv_args 0 [.ref 164, .int 1, .int k]) 0 = some (.ref 164) := rfl
  have g1_z : am_get (lv_args 0 [.ref 164, .int 1, .int k]) 1 = some (.int 1) := rfl
  have g2_z : am_get (lv_args 0 [.ref 164, .int 1, .int k]) 2 = some (.int k) := rfl
  replace hm_z := rn_aload_n (am_cur_of (i := (0, 1, .aload_n 0, (0, 0, 0), 0)) (by decide +kernel)) g0_z hm_z
  replace hm_z := rn_iload_n (am_cur_of (i := (1, 1, .iload_n 1, (0, 0, 0), 0)) (by decide +kernel)) g1_z hm_z
  replace hm_z := rn_iload_n (am_cur_of (i := (2, 1, .iload_n 2, (0, 0, 0), 0)) (by decide +kernel)) g2_z hm_z
  replace hm_z := rn_callV (M' := am_m206) (o := 164) (ar := [.int k, .int 1]) (rest := []) (L := lv_args 0 [.ref 164, .int 1, .int k]) (am_cur_of (i := (3, 3, .invokevirtual 417, (206, 1855, 3), 0)) (by decide +kernel)) rfl rfl rfl rfl hm_z
  obtain ⟨r650_z, h651_z, q652_z, hm_z⟩ := hm_z
  have k653_z := nq_206 q652_z
  obtain ⟨v654_z, rfl⟩ := rn_ret (M := am_m206) rfl (by decide) q652_z
  replace hm_z : rn _ _ _ _ [.int v654_z] _ _ _ := hm_z
  replace hm_z := rn_istore_n (am_cur_of (i := (6, 1, .istore_n 3, (0, 0, 0), 0)) (by decide +kernel)) hm_z
  obtain ⟨_, s655_z, s656_z, g3_z, hm_z⟩ := hm_z
  replace g0_z := s655_z 0 _ (by decide) rfl g0_z
  replace g1_z := s655_z 1 _ (by decide) rfl g1_z
  replace g2_z := s655_z 2 _ (by decide) rfl g2_z
  clear s655_z s656_z
  replace hm_z := rn_aload_n (am_cur_of (i := (7, 1, .aload_n 0, (0, 0, 0), 0)) (by decide +kernel)) g0_z hm_z
  replace hm_z := rn_iload_n (am_cur_of (i := (8, 1, .iload_n 1, (0, 0, 0), 0)) (by decide +kernel)) g1_z hm_z
  replace hm_z := rn_iconst (w := 0) (am_cur_of (i := (9, 1, .iconst 0, (0, 0, 0), 0)) (by decide +kernel)) (by decide) hm_z
  replace hm_z := rn_callV (M' := am_m188) (o := 164) (ar := [.int 0, .int 1]) (rest := []) (L := lv_args 0 [.ref 164, .int 1, .int 0]) (am_cur_of (i := (10, 3, .invokevirtual 403, (188, 1783, 3), 0)) (by decide +kernel)) rfl rfl rfl rfl hm_z
  obtain ⟨r657_z, h658_z, q659_z, hm_z⟩ := hm_z
  have k660_z := nq_188 q659_z
  obtain ⟨v661_z, rfl⟩ := rn_ret (M := am_m188) rfl (by decide) q659_z
  replace hm_z : rn _ _ _ _ [.int v661_z] _ _ _ := hm_z
  replace hm_z := rn_istore (am_cur_of (i := (13, 2, .istore 4, (0, 0, 0), 0)) (by decide +kernel)) hm_z
  obtain ⟨_, s662_z, s663_z, g4_z, hm_z⟩ := hm_z
  replace g0_z := s662_z 0 _ (by decide) rfl g0_z
  replace g1_z := s662_z 1 _ (by decide) rfl g1_z
  replace g2_z := s662_z 2 _ (by decide) rfl g2_z
  replace g3_z := s662_z 3 _ (by decide) rfl g3_z
  clear s662_z s663_z
  replace hm_z := rn_aload_n (am_cur_of (i := (15, 1, .aload_n 0, (0, 0, 0), 0)) (by decide +kernel)) g0_z hm_z
  replace hm_z := rn_iload_n (am_cur_of (i := (16, 1, .iload_n 1, (0, 0, 0), 0)) (by decide +kernel)) g1_z hm_z
  replace hm_z := rn_iconst (w := 0) (am_cur_of (i := (17, 1, .iconst 0, (0, 0, 0), 0)) (by decide +kernel)) (by decide) hm_z
  replace hm_z := rn_iload (am_cur_of (i := (18, 2, .iload 4, (0, 0, 0), 0)) (by decide +kernel)) g4_z hm_z
  replace hm_z := rn_iload_n (am_cur_of (i := (20, 1, .iload_n 3, (0, 0, 0), 0)) (by decide +kernel)) g3_z hm_z
  replace hm_z := rn_callV (M' := am_m189) (o := 164) (ar := [.int v654_z, .int v661_z, .int 0, .int 1]) (rest := []) (L := lv_args 0 [.ref 164, .int 1, .int 0, .int v661_z, .int v654_z]) (am_cur_of (i := (21, 3, .invokevirtual 392, (189, 1787, 3), 0)) (by decide +kernel)) rfl rfl rfl rfl hm_z
  obtain ⟨r664_z, h665_z, q666_z, hm_z⟩ := hm_z
  have k667_z := nq_189 q666_z
  have vo := rn_void rfl q666_z
  subst vo
  replace hm_z : rn _ _ _ _ [] _ _ _ := hm_z
  replace hm_z := rn_aload_n (am_cur_of (i := (24, 1, .aload_n 0, (0, 0, 0), 0)) (by decide +kernel)) g0_z hm_z
  replace hm_z := rn_getR (x := 188) (am_cur_of (i := (25, 3, .getfield 85, (12, 50, 1434), 0)) (by decide +kernel)) (by decide +kernel) hm_z
  replace hm_z := rn_iload_n (am_cur_of (i := (28, 1, .iload_n 1, (0, 0, 0), 0)) (by decide +kernel)) g1_z hm_z
  replace hm_z := rn_iaload (N := 4) (q := 1) (v := rg_v h665_z 188 1) (am_cur_of (i := (29, 1, .iaload, (0, 0, 0), 0)) (by decide +kernel)) (by decide +kernel) rfl rfl hm_z
  obtain ⟨p668_z, hm_z⟩ := hm_z
  replace hm_z := rn_aload_n (am_cur_of (i := (30, 1, .aload_n 0, (0, 0, 0), 0)) (by decide +kernel)) g0_z hm_z
  replace hm_z := rn_iconst (w := 1) (am_cur_of (i := (31, 1, .iconst 1, (0, 0, 0), 0)) (by decide +kernel)) (by decide) hm_z
  replace hm_z := rn_iload_n (am_cur_of (i := (32, 1, .iload_n 3, (0, 0, 0), 0)) (by decide +kernel)) g3_z hm_z
  replace hm_z := rn_bipush (w := 99) (am_cur_of (i := (33, 2, .bipush 99, (0, 0, 0), 0)) (by decide +kernel)) (by decide) hm_z
  replace hm_z := rn_callV (M' := am_m190) (o := 164) (ar := [.int 99, .int v654_z, .int 1]) (rest := [.int (rg_v h665_z 188 1)]) (L := lv_args 0 [.ref 164, .int 1, .int v654_z, .int 99]) (am_cur_of (i := (35, 3, .invokevirtual 396, (190, 1791, 3), 0)) (by decide +kernel)) rfl rfl rfl rfl hm_z
  obtain ⟨r669_z, h670_z, q671_z, hm_z⟩ := hm_z
  have k672_z := nq_190 q671_z
  obtain ⟨v673_z, rfl⟩ := rn_ret (M := am_m190) rfl (by decide) q671_z
  replace hm_z : rn _ _ _ _ [.int v673_z, .int (rg_v h665_z 188 1)] _ _ _ := hm_z
  replace hm_z := rn_iadd (w := (rg_v h665_z 188 1) + v673_z) (am_cur_of (i := (38, 1, .iadd, (0, 0, 0), 0)) (by decide +kernel)) rfl hm_z
  replace hm_z := rn_istore (am_cur_of (i := (39, 2, .istore 5, (0, 0, 0), 0)) (by decide +kernel)) hm_z
  obtain ⟨_, s674_z, s675_z, g5_z, hm_z⟩ := hm_z
  replace g0_z := s674_z 0 _ (by decide) rfl g0_z
  replace g1_z := s674_z 1 _ (by decide) rfl g1_z
  replace g2_z := s674_z 2 _ (by decide) rfl g2_z
  replace g3_z := s674_z 3 _ (by decide) rfl g3_z
  replace g4_z := s674_z 4 _ (by decide) rfl g4_z
  clear s674_z s675_z
  replace hm_z := rn_aload_n (am_cur_of (i := (41, 1, .aload_n 0, (0, 0, 0), 0)) (by decide +kernel)) g0_z hm_z
  replace hm_z := rn_getR (x := 188) (am_cur_of (i := (42, 3, .getfield 85, (12, 50, 1434), 0)) (by decide +kernel)) (by decide +kernel) hm_z
  replace hm_z := rn_iload_n (am_cur_of (i := (45, 1, .iload_n 1, (0, 0, 0), 0)) (by decide +kernel)) g1_z hm_z
  replace hm_z := rn_iload (am_cur_of (i := (46, 2, .iload 5, (0, 0, 0), 0)) (by decide +kernel)) g5_z hm_z
  replace hm_z := rn_aload_n (am_cur_of (i := (48, 1, .aload_n 0, (0, 0, 0), 0)) (by decide +kernel)) g0_z hm_z
  replace hm_z := rn_getR (x := 168) (am_cur_of (i := (49, 3, .getfield 24, (12, 23, 1407), 0)) (by decide +kernel)) (by decide +kernel) hm_z
  replace hm_z := rn_iconst (w := 0) (am_cur_of (i := (52, 1, .iconst 0, (0, 0, 0), 0)) (by decide +kernel)) (by decide) hm_z
  replace hm_z := rn_iaload (N := 12) (q := 0) (v := rg_v h670_z 168 0) (am_cur_of (i := (53, 1, .iaload, (0, 0, 0), 0)) (by decide +kernel)) (by decide +kernel) rfl rfl hm_z
  obtain ⟨p676_z, hm_z⟩ := hm_z
  replace hm_z := rn_cmp (am_cur_of (i := (54, 3, .if_icmp .le 12, (41, 0, 0), 0)) (by decide +kernel)) hm_z
  rcases hm_z with ⟨b677_z, hm_z⟩ | ⟨b677_z, hm_z⟩
  · replace b677_z : ((rg_v h665_z 188 1) + v673_z).toInt ≤ (rg_v h670_z 168 0).toInt := b677_z
    replace hm_z := rn_iload (am_cur_of (i := (66, 2, .iload 5, (0, 0, 0), 0)) (by decide +kernel)) g5_z hm_z
    replace hm_z := rn_iastore (N := 4) (q := 1) (am_cur_of (i := (68, 1, .iastore, (0, 0, 0), 0)) (by decide +kernel)) (by decide +kernel) rfl hm_z
    obtain ⟨p678_z, hm_z⟩ := hm_z
    replace hm_z := rn_aload_n (am_cur_of (i := (69, 1, .aload_n 0, (0, 0, 0), 0)) (by decide +kernel)) g0_z hm_z
    replace hm_z := rn_getR (x := 191) (am_cur_of (i := (70, 3, .getfield 94, (12, 53, 1437), 0)) (by decide +kernel)) (by decide +kernel) hm_z
    replace hm_z := rn_iconst (w := 4) (am_cur_of (i := (73, 1, .iconst 4, (0, 0, 0), 0)) (by decide +kernel)) (by decide) hm_z
    replace hm_z := rn_iload_n (am_cur_of (i := (74, 1, .iload_n 1, (0, 0, 0), 0)) (by decide +kernel)) g1_z hm_z
    replace hm_z := rn_imul (w := 4) (am_cur_of (i := (75, 1, .imul, (0, 0, 0), 0)) (by decide +kernel)) (by decide) hm_z
    replace hm_z := rn_iload_n (am_cur_of (i := (76, 1, .iload_n 2, (0, 0, 0), 0)) (by decide +kernel)) g2_z hm_z
    replace hm_z := rn_iadd (w := (4 : Int32) + k) (am_cur_of (i := (77, 1, .iadd, (0, 0, 0), 0)) (by decide +kernel)) rfl hm_z
    replace hm_z := rn_dup2 (am_cur_of (i := (78, 1, .dup2, (0, 0, 0), 0)) (by decide +kernel)) hm_z
    replace hm_z := rn_iaload (N := 16) (q := ((4 : Int32) + k).toNatClampNeg) (v := rg_v h670_z 191 (((4 : Int32) + k).toNatClampNeg)) (am_cur_of (i := (79, 1, .iaload, (0, 0, 0), 0)) (by decide +kernel)) (by decide +kernel) rfl (show rg_v (am_up h670_z 188 1 (.int ((rg_v h665_z 188 1) + v673_z))) 191 (((4 : Int32) + k).toNatClampNeg) = rg_v h670_z 191 (((4 : Int32) + k).toNatClampNeg) from rfl) hm_z
    obtain ⟨p679_z, hm_z⟩ := hm_z
    replace hm_z := rn_iconst (w := 1) (am_cur_of (i := (80, 1, .iconst 1, (0, 0, 0), 0)) (by decide +kernel)) (by decide) hm_z
    replace hm_z := rn_iadd (w := (rg_v h670_z 191 (((4 : Int32) + k).toNatClampNeg)) + 1) (am_cur_of (i := (81, 1, .iadd, (0, 0, 0), 0)) (by decide +kernel)) rfl hm_z
    replace hm_z := rn_iastore (N := 16) (q := ((4 : Int32) + k).toNatClampNeg) (am_cur_of (i := (82, 1, .iastore, (0, 0, 0), 0)) (by decide +kernel)) (by decide +kernel) rfl hm_z
    obtain ⟨p680_z, hm_z⟩ := hm_z
    replace hm_z := rn_aload_n (am_cur_of (i := (83, 1, .aload_n 0, (0, 0, 0), 0)) (by decide +kernel)) g0_z hm_z
    replace hm_z := rn_getR (x := 192) (am_cur_of (i := (84, 3, .getfield 97, (12, 54, 1438), 0)) (by decide +kernel)) (by decide +kernel) hm_z
    replace hm_z := rn_iconst (w := 4) (am_cur_of (i := (87, 1, .iconst 4, (0, 0, 0), 0)) (by decide +kernel)) (by decide) hm_z
    replace hm_z := rn_iload_n (am_cur_of (i := (88, 1, .iload_n 1, (0, 0, 0), 0)) (by decide +kernel)) g1_z hm_z
    replace hm_z := rn_imul (w := 4) (am_cur_of (i := (89, 1, .imul, (0, 0, 0), 0)) (by decide +kernel)) (by decide) hm_z
    replace hm_z := rn_iload_n (am_cur_of (i := (90, 1, .iload_n 2, (0, 0, 0), 0)) (by decide +kernel)) g2_z hm_z
    replace hm_z := rn_iadd (w := (4 : Int32) + k) (am_cur_of (i := (91, 1, .iadd, (0, 0, 0), 0)) (by decide +kernel)) rfl hm_z
    replace hm_z := rn_dup2 (am_cur_of (i := (92, 1, .dup2, (0, 0, 0), 0)) (by decide +kernel)) hm_z
    replace hm_z := rn_iaload (N := 16) (q := ((4 : Int32) + k).toNatClampNeg) (v := rg_v h670_z 192 (((4 : Int32) + k).toNatClampNeg)) (am_cur_of (i := (93, 1, .iaload, (0, 0, 0), 0)) (by decide +kernel)) (by decide +kernel) rfl (show rg_v (am_up (am_up h670_z 188 1 (.int ((rg_v h665_z 188 1) + v673_z))) 191 (((4 : Int32) + k).toNatClampNeg) (.int ((rg_v h670_z 191 (((4 : Int32) + k).toNatClampNeg)) + 1))) 192 (((4 : Int32) + k).toNatClampNeg) = rg_v h670_z 192 (((4 : Int32) + k).toNatClampNeg) from rfl) hm_z
    obtain ⟨p681_z, hm_z⟩ := hm_z
    replace hm_z := rn_iconst (w := 1) (am_cur_of (i := (94, 1, .iconst 1, (0, 0, 0), 0)) (by decide +kernel)) (by decide) hm_z
    replace hm_z := rn_iadd (w := (rg_v h670_z 192 (((4 : Int32) + k).toNatClampNeg)) + 1) (am_cur_of (i := (95, 1, .iadd, (0, 0, 0), 0)) (by decide +kernel)) rfl hm_z
    replace hm_z := rn_iastore (N := 16) (q := ((4 : Int32) + k).toNatClampNeg) (am_cur_of (i := (96, 1, .iastore, (0, 0, 0), 0)) (by decide +kernel)) (by decide +kernel) rfl hm_z
    obtain ⟨p682_z, hm_z⟩ := hm_z
    replace hm_z := rn_aload_n (am_cur_of (i := (97, 1, .aload_n 0, (0, 0, 0), 0)) (by decide +kernel)) g0_z hm_z
    replace hm_z := rn_getR (x := 193) (am_cur_of (i := (98, 3, .getfield 100, (12, 55, 1439), 0)) (by decide +kernel)) (by decide +kernel) hm_z
    replace hm_z := rn_iconst (w := 4) (am_cur_of (i := (101, 1, .iconst 4, (0, 0, 0), 0)) (by decide +kernel)) (by decide) hm_z
    replace hm_z := rn_iload_n (am_cur_of (i := (102, 1, .iload_n 1, (0, 0, 0), 0)) (by decide +kernel)) g1_z hm_z
    replace hm_z := rn_imul (w := 4) (am_cur_of (i := (103, 1, .imul, (0, 0, 0), 0)) (by decide +kernel)) (by decide) hm_z
    replace hm_z := rn_iload_n (am_cur_of (i := (104, 1, .iload_n 2, (0, 0, 0), 0)) (by decide +kernel)) g2_z hm_z
    replace hm_z := rn_iadd (w := (4 : Int32) + k) (am_cur_of (i := (105, 1, .iadd, (0, 0, 0), 0)) (by decide +kernel)) rfl hm_z
    replace hm_z := rn_aload_n (am_cur_of (i := (106, 1, .aload_n 0, (0, 0, 0), 0)) (by decide +kernel)) g0_z hm_z
    replace hm_z := rn_getR (x := 189) (am_cur_of (i := (107, 3, .getfield 88, (12, 51, 1435), 0)) (by decide +kernel)) (by decide +kernel) hm_z
    replace hm_z := rn_iload_n (am_cur_of (i := (110, 1, .iload_n 1, (0, 0, 0), 0)) (by decide +kernel)) g1_z hm_z
    replace hm_z := rn_iaload (N := 4) (q := 1) (v := rg_v h670_z 189 1) (am_cur_of (i := (111, 1, .iaload, (0, 0, 0), 0)) (by decide +kernel)) (by decide +kernel) rfl (show rg_v (am_up (am_up (am_up h670_z 188 1 (.int ((rg_v h665_z 188 1) + v673_z))) 191 (((4 : Int32) + k).toNatClampNeg) (.int ((rg_v h670_z 191 (((4 : Int32) + k).toNatClampNeg)) + 1))) 192 (((4 : Int32) + k).toNatClampNeg) (.int ((rg_v h670_z 192 (((4 : Int32) + k).toNatClampNeg)) + 1))) 189 1 = rg_v h670_z 189 1 from rfl) hm_z
    obtain ⟨p683_z, hm_z⟩ := hm_z
    replace hm_z := rn_iastore (N := 16) (q := ((4 : Int32) + k).toNatClampNeg) (am_cur_of (i := (112, 1, .iastore, (0, 0, 0), 0)) (by decide +kernel)) (by decide +kernel) rfl hm_z
    obtain ⟨p684_z, hm_z⟩ := hm_z
    replace hm_z := rn_aload_n (am_cur_of (i := (113, 1, .aload_n 0, (0, 0, 0), 0)) (by decide +kernel)) g0_z hm_z
    replace hm_z := rn_getR (x := 190) (am_cur_of (i := (114, 3, .getfield 91, (12, 52, 1436), 0)) (by decide +kernel)) (by decide +kernel) hm_z
    replace hm_z := rn_iload_n (am_cur_of (i := (117, 1, .iload_n 1, (0, 0, 0), 0)) (by decide +kernel)) g1_z hm_z
    replace hm_z := rn_iload_n (am_cur_of (i := (118, 1, .iload_n 2, (0, 0, 0), 0)) (by decide +kernel)) g2_z hm_z
    replace hm_z := rn_iastore (N := 4) (q := 1) (am_cur_of (i := (119, 1, .iastore, (0, 0, 0), 0)) (by decide +kernel)) (by decide +kernel) rfl hm_z
    obtain ⟨p685_z, hm_z⟩ := hm_z
    replace hm_z := rn_vret (am_cur_of (i := (120, 1, .return_, (0, 0, 0), 0)) (by decide +kernel)) hm_z
    obtain ⟨e686_z, e687_z⟩ := hm_z
    rw [e687_z]
    exact (bk_u (by decide) (bk_u (bk_i (by decide) (bk_4 (by decide) k0_z p684_z)) (bk_u (bk_i (by decide) (bk_4 (by decide) k0_z p682_z)) (bk_u (bk_i (by decide) (bk_4 (by decide) k0_z p680_z)) (bk_u (by decide) (bk_t (bk_t (bk_t (bk_t bk_r (bk_n k653_z)) (bk_n k660_z)) (bk_n k667_z)) (bk_n k672_z)))))))
  · replace b677_z : (rg_v h670_z 168 0).toInt < ((rg_v h665_z 188 1) + v673_z).toInt := b677_z
    replace hm_z := rn_aload_n (am_cur_of (i := (57, 1, .aload_n 0, (0, 0, 0), 0)) (by decide +kernel)) g0_z hm_z
    replace hm_z := rn_getR (x := 168) (am_cur_of (i := (58, 3, .getfield 24, (12, 23, 1407), 0)) (by decide +kernel)) (by decide +kernel) hm_z
    replace hm_z := rn_iconst (w := 0) (am_cur_of (i := (61, 1, .iconst 0, (0, 0, 0), 0)) (by decide +kernel)) (by decide) hm_z
    replace hm_z := rn_iaload (N := 12) (q := 0) (v := rg_v h670_z 168 0) (am_cur_of (i := (62, 1, .iaload, (0, 0, 0), 0)) (by decide +kernel)) (by decide +kernel) rfl rfl hm_z
    obtain ⟨p688_z, hm_z⟩ := hm_z
    replace hm_z := rn_goto (am_cur_of (i := (63, 3, .goto 5, (42, 0, 0), 0)) (by decide +kernel)) hm_z
    replace hm_z := rn_iastore (N := 4) (q := 1) (am_cur_of (i := (68, 1, .iastore, (0, 0, 0), 0)) (by decide +kernel)) (by decide +kernel) rfl hm_z
    obtain ⟨p689_z, hm_z⟩ := hm_z
    replace hm_z := rn_aload_n (am_cur_of (i := (69, 1, .aload_n 0, (0, 0, 0), 0)) (by decide +kernel)) g0_z hm_z
    replace hm_z := rn_getR (x := 191) (am_cur_of (i := (70, 3, .getfield 94, (12, 53, 1437), 0)) (by decide +kernel)) (by decide +kernel) hm_z
    replace hm_z := rn_iconst (w := 4) (am_cur_of (i := (73, 1, .iconst 4, (0, 0, 0), 0)) (by decide +kernel)) (by decide) hm_z
    replace hm_z := rn_iload_n (am_cur_of (i := (74, 1, .iload_n 1, (0, 0, 0), 0)) (by decide +kernel)) g1_z hm_z
    replace hm_z := rn_imul (w := 4) (am_cur_of (i := (75, 1, .imul, (0, 0, 0), 0)) (by decide +kernel)) (by decide) hm_z
    replace hm_z := rn_iload_n (am_cur_of (i := (76, 1, .iload_n 2, (0, 0, 0), 0)) (by decide +kernel)) g2_z hm_z
    replace hm_z := rn_iadd (w := (4 : Int32) + k) (am_cur_of (i := (77, 1, .iadd, (0, 0, 0), 0)) (by decide +kernel)) rfl hm_z
    replace hm_z := rn_dup2 (am_cur_of (i := (78, 1, .dup2, (0, 0, 0), 0)) (by decide +kernel)) hm_z
    replace hm_z := rn_iaload (N := 16) (q := ((4 : Int32) + k).toNatClampNeg) (v := rg_v h670_z 191 (((4 : Int32) + k).toNatClampNeg)) (am_cur_of (i := (79, 1, .iaload, (0, 0, 0), 0)) (by decide +kernel)) (by decide +kernel) rfl (show rg_v (am_up h670_z 188 1 (.int (rg_v h670_z 168 0))) 191 (((4 : Int32) + k).toNatClampNeg) = rg_v h670_z 191 (((4 : Int32) + k).toNatClampNeg) from rfl) hm_z
    obtain ⟨p690_z, hm_z⟩ := hm_z
    replace hm_z := rn_iconst (w := 1) (am_cur_of (i := (80, 1, .iconst 1, (0, 0, 0), 0)) (by decide +kernel)) (by decide) hm_z
    replace hm_z := rn_iadd (w := (rg_v h670_z 191 (((4 : Int32) + k).toNatClampNeg)) + 1) (am_cur_of (i := (81, 1, .iadd, (0, 0, 0), 0)) (by decide +kernel)) rfl hm_z
    replace hm_z := rn_iastore (N := 16) (q := ((4 : Int32) + k).toNatClampNeg) (am_cur_of (i := (82, 1, .iastore, (0, 0, 0), 0)) (by decide +kernel)) (by decide +kernel) rfl hm_z
    obtain ⟨p691_z, hm_z⟩ := hm_z
    replace hm_z := rn_aload_n (am_cur_of (i := (83, 1, .aload_n 0, (0, 0, 0), 0)) (by decide +kernel)) g0_z hm_z
    replace hm_z := rn_getR (x := 192) (am_cur_of (i := (84, 3, .getfield 97, (12, 54, 1438), 0)) (by decide +kernel)) (by decide +kernel) hm_z
    replace hm_z := rn_iconst (w := 4) (am_cur_of (i := (87, 1, .iconst 4, (0, 0, 0), 0)) (by decide +kernel)) (by decide) hm_z
    replace hm_z := rn_iload_n (am_cur_of (i := (88, 1, .iload_n 1, (0, 0, 0), 0)) (by decide +kernel)) g1_z hm_z
    replace hm_z := rn_imul (w := 4) (am_cur_of (i := (89, 1, .imul, (0, 0, 0), 0)) (by decide +kernel)) (by decide) hm_z
    replace hm_z := rn_iload_n (am_cur_of (i := (90, 1, .iload_n 2, (0, 0, 0), 0)) (by decide +kernel)) g2_z hm_z
    replace hm_z := rn_iadd (w := (4 : Int32) + k) (am_cur_of (i := (91, 1, .iadd, (0, 0, 0), 0)) (by decide +kernel)) rfl hm_z
    replace hm_z := rn_dup2 (am_cur_of (i := (92, 1, .dup2, (0, 0, 0), 0)) (by decide +kernel)) hm_z
    replace hm_z := rn_iaload (N := 16) (q := ((4 : Int32) + k).toNatClampNeg) (v := rg_v h670_z 192 (((4 : Int32) + k).toNatClampNeg)) (am_cur_of (i := (93, 1, .iaload, (0, 0, 0), 0)) (by decide +kernel)) (by decide +kernel) rfl (show rg_v (am_up (am_up h670_z 188 1 (.int (rg_v h670_z 168 0))) 191 (((4 : Int32) + k).toNatClampNeg) (.int ((rg_v h670_z 191 (((4 : Int32) + k).toNatClampNeg)) + 1))) 192 (((4 : Int32) + k).toNatClampNeg) = rg_v h670_z 192 (((4 : Int32) + k).toNatClampNeg) from rfl) hm_z
    obtain ⟨p692_z, hm_z⟩ := hm_z
    replace hm_z := rn_iconst (w := 1) (am_cur_of (i := (94, 1, .iconst 1, (0, 0, 0), 0)) (by decide +kernel)) (by decide) hm_z
    replace hm_z := rn_iadd (w := (rg_v h670_z 192 (((4 : Int32) + k).toNatClampNeg)) + 1) (am_cur_of (i := (95, 1, .iadd, (0, 0, 0), 0)) (by decide +kernel)) rfl hm_z
    replace hm_z := rn_iastore (N := 16) (q := ((4 : Int32) + k).toNatClampNeg) (am_cur_of (i := (96, 1, .iastore, (0, 0, 0), 0)) (by decide +kernel)) (by decide +kernel) rfl hm_z
    obtain ⟨p693_z, hm_z⟩ := hm_z
    replace hm_z := rn_aload_n (am_cur_of (i := (97, 1, .aload_n 0, (0, 0, 0), 0)) (by decide +kernel)) g0_z hm_z
    replace hm_z := rn_getR (x := 193) (am_cur_of (i := (98, 3, .getfield 100, (12, 55, 1439), 0)) (by decide +kernel)) (by decide +kernel) hm_z
    replace hm_z := rn_iconst (w := 4) (am_cur_of (i := (101, 1, .iconst 4, (0, 0, 0), 0)) (by decide +kernel)) (by decide) hm_z
    replace hm_z := rn_iload_n (am_cur_of (i := (102, 1, .iload_n 1, (0, 0, 0), 0)) (by decide +kernel)) g1_z hm_z
    replace hm_z := rn_imul (w := 4) (am_cur_of (i := (103, 1, .imul, (0, 0, 0), 0)) (by decide +kernel)) (by decide) hm_z
    replace hm_z := rn_iload_n (am_cur_of (i := (104, 1, .iload_n 2, (0, 0, 0), 0)) (by decide +kernel)) g2_z hm_z
    replace hm_z := rn_iadd (w := (4 : Int32) + k) (am_cur_of (i := (105, 1, .iadd, (0, 0, 0), 0)) (by decide +kernel)) rfl hm_z
    replace hm_z := rn_aload_n (am_cur_of (i := (106, 1, .aload_n 0, (0, 0, 0), 0)) (by decide +kernel)) g0_z hm_z
    replace hm_z := rn_getR (x := 189) (am_cur_of (i := (107, 3, .getfield 88, (12, 51, 1435), 0)) (by decide +kernel)) (by decide +kernel) hm_z
    replace hm_z := rn_iload_n (am_cur_of (i := (110, 1, .iload_n 1, (0, 0, 0), 0)) (by decide +kernel)) g1_z hm_z
    replace hm_z := rn_iaload (N := 4) (q := 1) (v := rg_v h670_z 189 1) (am_cur_of (i := (111, 1, .iaload, (0, 0, 0), 0)) (by decide +kernel)) (by decide +kernel) rfl (show rg_v (am_up (am_up (am_up h670_z 188 1 (.int (rg_v h670_z 168 0))) 191 (((4 : Int32) + k).toNatClampNeg) (.int ((rg_v h670_z 191 (((4 : Int32) + k).toNatClampNeg)) + 1))) 192 (((4 : Int32) + k).toNatClampNeg) (.int ((rg_v h670_z 192 (((4 : Int32) + k).toNatClampNeg)) + 1))) 189 1 = rg_v h670_z 189 1 from rfl) hm_z
    obtain ⟨p694_z, hm_z⟩ := hm_z
    replace hm_z := rn_iastore (N := 16) (q := ((4 : Int32) + k).toNatClampNeg) (am_cur_of (i := (112, 1, .iastore, (0, 0, 0), 0)) (by decide +kernel)) (by decide +kernel) rfl hm_z
    obtain ⟨p695_z, hm_z⟩ := hm_z
    replace hm_z := rn_aload_n (am_cur_of (i := (113, 1, .aload_n 0, (0, 0, 0), 0)) (by decide +kernel)) g0_z hm_z
    replace hm_z := rn_getR (x := 190) (am_cur_of (i := (114, 3, .getfield 91, (12, 52, 1436), 0)) (by decide +kernel)) (by decide +kernel) hm_z
    replace hm_z := rn_iload_n (am_cur_of (i := (117, 1, .iload_n 1, (0, 0, 0), 0)) (by decide +kernel)) g1_z hm_z
    replace hm_z := rn_iload_n (am_cur_of (i := (118, 1, .iload_n 2, (0, 0, 0), 0)) (by decide +kernel)) g2_z hm_z
    replace hm_z := rn_iastore (N := 4) (q := 1) (am_cur_of (i := (119, 1, .iastore, (0, 0, 0), 0)) (by decide +kernel)) (by decide +kernel) rfl hm_z
    obtain ⟨p696_z, hm_z⟩ := hm_z
    replace hm_z := rn_vret (am_cur_of (i := (120, 1, .return_, (0, 0, 0), 0)) (by decide +kernel)) hm_z
    obtain ⟨e697_z, e698_z⟩ := hm_z
    rw [e698_z]
    exact (bk_u (by decide) (bk_u (bk_i (by decide) (bk_4 (by decide) k0_z p695_z)) (bk_u (bk_i (by decide) (bk_4 (by decide) k0_z p693_z)) (bk_u (bk_i (by decide) (bk_4 (by decide) k0_z p691_z)) (bk_u (by decide) (bk_t (bk_t (bk_t (bk_t bk_r (bk_n k653_z)) (bk_n k660_z)) (bk_n k667_z)) (bk_n k672_z)))))))
theorem fk_204_2_L {r : Option Value} {g' : am_H} {k : Int32} (k0_z : 0 ≤ k.toInt) : ∀ f : Nat, (∀ (ls : am_L) (g : am_H), rn f am_m204 40 ls [] g r g' → bk g g') := by
  intro f
  induction f with
  | zero =>
    exact (fun _ _ hm_z => absurd hm_z rn_0)
  | succ f ih_z =>
    have I40 := ih_z
    have H40 : ∀ (ls : am_L) (g : am_H), rn (f + 1) am_m204 40 ls [] g r g' → bk g g' := by
      intro ls g hm_z
      replace hm_z := rn_vret (am_cur_of (i := (55, 1, .return_, (0, 0, 0), 0)) (by decide +kernel)) hm_z
      obtain ⟨e699_z, e700_z⟩ := hm_z
      rw [e700_z]
      exact bk_r
    exact H40
theorem fk_204_2 {nst : Nat} {r : Option Value} {g g' : am_H} {k : Int32} (k0_z : 0 ≤ k.toInt) (hm_z : rn nst am_m204 0 (lv_args 0 [.ref 164, .int 2, .int k]) [] g r g') : bk g g' := by
  have z0_z : (0 : Int32).toInt = 0 := by decide
  have g0_z : am_get (lv_args 0 [.ref 164, .int 2, .int k]) 0 = some (.ref 164) := rfl
  have g1_z : am_get (lv_args 0 [.ref 164, .int 2, .int k]) 1 = some (.int 2) := rfl
  have g2_z : am_get (lv_args 0 [.ref 164, .int 2, .int k]) 2 = some (.int k) := rfl
  replace hm_z := rn_aload_n (am_cur_of (i := (0, 1, .aload_n 0, (0, 0, 0), 0)) (by decide +kernel)) g0_z hm_z
  replace hm_z := rn_getR (x := 191) (am_cur_of (i := (1, 3, .getfield 94, (12, 53, 1437), 0)) (by decide +kernel)) (by decide +kernel) hm_z
  replace hm_z := rn_iconst (w := 4) (am_cur_of (i := (4, 1, .iconst 4, (0, 0, 0), 0)) (by decide +kernel)) (by decide) hm_z
  replace hm_z := rn_iload_n (am_cur_of (i := (5, 1, .iload_n 1, (0, 0, 0), 0)) (by decide +kernel)) g1_z hm_z
  replace hm_z := rn_imul (w := 8) (am_cur_of (i := (6, 1, .imul, (0, 0, 0), 0)) (by decide +kernel)) (by decide) hm_z
  replace hm_z := rn_iload_n (am_cur_of (i := (7, 1, .iload_n 2, (0, 0, 0), 0)) (by decide +kernel)) g2_z hm_z
  replace hm_z := rn_iadd (w := (8 : Int32) + k) (am_cur_of (i := (8, 1, .iadd, (0, 0, 0), 0)) (by decide +kernel)) rfl hm_z
  replace hm_z := rn_iaload (N := 16) (q := ((8 : Int32) + k).toNatClampNeg) (v := rg_v g 191 (((8 : Int32) + k).toNatClampNeg)) (am_cur_of (i := (9, 1, .iaload, (0, 0, 0), 0)) (by decide +kernel)) (by decide +kernel) rfl rfl hm_z
  obtain ⟨p701_z, hm_z⟩ := hm_z
  replace hm_z := rn_if (am_cur_of (i := (10, 3, .ifCond .le 45, (40, 0, 0), 0)) (by decide +kernel)) hm_z
  rcases hm_z with ⟨b702_z, hm_z⟩ | ⟨b702_z, hm_z⟩
  · replace b702_z : (rg_v g 191 (((8 : Int32) + k).toNatClampNeg)).toInt ≤ (0 : Int32).toInt := b702_z
    have H40 := (fk_204_2_L (r := r) (g' := g') (k := k) k0_z nst)
    exact bk_t bk_r (H40 _ _ hm_z)
  · replace b702_z : (0 : Int32).toInt < (rg_v g 191 (((8 : Int32) + k).toNatClampNeg)).toInt := b702_z
    replace hm_z := rn_aload_n (am_cur_of (i := (13, 1, .aload_n 0, (0, 0, 0), 0)) (by decide +kernel)) g0_z hm_z
    replace hm_z := rn_getR (x := 189) (am_cur_of (i := (14, 3, .getfield 88, (12, 51, 1435), 0)) (by decide +kernel)) (by decide +kernel) hm_z
    replace hm_z := rn_iload_n (am_cur_of (i := (17, 1, .iload_n 1, (0, 0, 0), 0)) (by decide +kernel)) g1_z hm_z
    replace hm_z := rn_iaload (N := 4) (q := 2) (v := rg_v g 189 2) (am_cur_of (i := (18, 1, .iaload, (0, 0, 0), 0)) (by decide +kernel)) (by decide +kernel) rfl rfl hm_z
    obtain ⟨p703_z, hm_z⟩ := hm_z
    replace hm_z := rn_aload_n (am_cur_of (i := (19, 1, .aload_n 0, (0, 0, 0), 0)) (by decide +kernel)) g0_z hm_z
    replace hm_z := rn_getR (x := 193) (am_cur_of (i := (20, 3, .getfield 100, (12, 55, 1439), 0)) (by decide +kernel)) (by decide +kernel) hm_z
    replace hm_z := rn_iconst (w := 4) (am_cur_of (i := (23, 1, .iconst 4, (0, 0, 0), 0)) (by decide +kernel)) (by decide) hm_z
    replace hm_z := rn_iload_n (am_cur_of (i := (24, 1, .iload_n 1, (0, 0, 0), 0)) (by decide +kernel)) g1_z hm_z
    replace hm_z := rn_imul (w := 8) (am_cur_of (i := (25, 1, .imul, (0, 0, 0), 0)) (by decide +kernel)) (by decide) hm_z
    replace hm_z := rn_iload_n (am_cur_of (i := (26, 1, .iload_n 2, (0, 0, 0), 0)) (by decide +kernel)) g2_z hm_z
    replace hm_z := rn_iadd (w := (8 : Int32) + k) (am_cur_of (i := (27, 1, .iadd, (0, 0, 0), 0)) (by decide +kernel)) rfl hm_z
    replace hm_z := rn_iaload (N := 16) (q := ((8 : Int32) + k).toNatClampNeg) (v := rg_v g 193 (((8 : Int32) + k).toNatClampNeg)) (am_cur_of (i := (28, 1, .iaload, (0, 0, 0), 0)) (by decide +kernel)) (by decide +kernel) rfl rfl hm_z
    obtain ⟨p704_z, hm_z⟩ := hm_z
    replace hm_z := rn_isub (w := (rg_v g 189 2) - (rg_v g 193 (((8 : Int32) + k).toNatClampNeg))) (am_cur_of (i := (29, 1, .isub, (0, 0, 0), 0)) (by decide +kernel)) rfl hm_z
    replace hm_z := rn_aload_n (am_cur_of (i := (30, 1, .aload_n 0, (0, 0, 0), 0)) (by decide +kernel)) g0_z hm_z
    replace hm_z := rn_getR (x := 170) (am_cur_of (i := (31, 3, .getfield 30, (12, 25, 1409), 0)) (by decide +kernel)) (by decide +kernel) hm_z
    replace hm_z := rn_bipush (w := 7) (am_cur_of (i := (34, 2, .bipush 7, (0, 0, 0), 0)) (by decide +kernel)) (by decide) hm_z
    replace hm_z := rn_iload_n (am_cur_of (i := (36, 1, .iload_n 2, (0, 0, 0), 0)) (by decide +kernel)) g2_z hm_z
    replace hm_z := rn_imul (w := (7 : Int32) * k) (am_cur_of (i := (37, 1, .imul, (0, 0, 0), 0)) (by decide +kernel)) rfl hm_z
    replace hm_z := rn_iconst (w := 4) (am_cur_of (i := (38, 1, .iconst 4, (0, 0, 0), 0)) (by decide +kernel)) (by decide) hm_z
    replace hm_z := rn_iadd (w := ((7 : Int32) * k) + 4) (am_cur_of (i := (39, 1, .iadd, (0, 0, 0), 0)) (by decide +kernel)) rfl hm_z
    replace hm_z := rn_iaload (N := 56) (q := (((7 : Int32) * k) + 4).toNatClampNeg) (v := rg_v g 170 ((((7 : Int32) * k) + 4).toNatClampNeg)) (am_cur_of (i := (40, 1, .iaload, (0, 0, 0), 0)) (by decide +kernel)) (by decide +kernel) rfl rfl hm_z
    obtain ⟨p705_z, hm_z⟩ := hm_z
    replace hm_z := rn_cmp (am_cur_of (i := (41, 3, .if_icmp .lt 14, (40, 0, 0), 0)) (by decide +kernel)) hm_z
    rcases hm_z with ⟨b706_z, hm_z⟩ | ⟨b706_z, hm_z⟩
    · replace b706_z : ((rg_v g 189 2) - (rg_v g 193 (((8 : Int32) + k).toNatClampNeg))).toInt < (rg_v g 170 ((((7 : Int32) * k) + 4).toNatClampNeg)).toInt := b706_z
      have H40 := (fk_204_2_L (r := r) (g' := g') (k := k) k0_z nst)
      exact bk_t bk_r (H40 _ _ hm_z)
    · replace b706_z : (rg_v g 170 ((((7 : Int32) * k) + 4).toNatClampNeg)).toInt ≤ ((rg_v g 189 2) - (rg_v g 193 (((8 : Int32) + k).toNatClampNeg))).toInt := b706_z
      replace hm_z := rn_aload_n (am_cur_of (i := (44, 1, .aload_n 0, (0, 0, 0), 0)) (by decide +kernel)) g0_z hm_z
      replace hm_z := rn_getR (x := 191) (am_cur_of (i := (45, 3, .getfield 94, (12, 53, 1437), 0)) (by decide +kernel)) (by decide +kernel) hm_z
      replace hm_z := rn_iconst (w := 4) (am_cur_of (i := (48, 1, .iconst 4, (0, 0, 0), 0)) (by decide +kernel)) (by decide) hm_z
      replace hm_z := rn_iload_n (am_cur_of (i := (49, 1, .iload_n 1, (0, 0, 0), 0)) (by decide +kernel)) g1_z hm_z
      replace hm_z := rn_imul (w := 8) (am_cur_of (i := (50, 1, .imul, (0, 0, 0), 0)) (by decide +kernel)) (by decide) hm_z
      replace hm_z := rn_iload_n (am_cur_of (i := (51, 1, .iload_n 2, (0, 0, 0), 0)) (by decide +kernel)) g2_z hm_z
      replace hm_z := rn_iadd (w := (8 : Int32) + k) (am_cur_of (i := (52, 1, .iadd, (0, 0, 0), 0)) (by decide +kernel)) rfl hm_z
      replace hm_z := rn_iconst (w := 0) (am_cur_of (i := (53, 1, .iconst 0, (0, 0, 0), 0)) (by decide +kernel)) (by decide) hm_z
      replace hm_z := rn_iastore (N := 16) (q := ((8 : Int32) + k).toNatClampNeg) (am_cur_of (i := (54, 1, .iastore, (0, 0, 0), 0)) (by decide +kernel)) (by decide +kernel) rfl hm_z
      obtain ⟨p707_z, hm_z⟩ := hm_z
      have H40 := (fk_204_2_L (r := r) (g' := g') (k := k) k0_z nst)
      exact bk_t (bk_u (bk_i (by decide) (bk_4 (by decide) k0_z p707_z)) bk_r) (H40 _ _ hm_z)
theorem fk_203_2 {nst : Nat} {r : Option Value} {g g' : am_H} {k : Int32} (k0_z : 0 ≤ k.toInt) (hm_z : rn nst am_m203 0 (lv_args 0 [.ref 164, .int 2, .int k]) [] g r g') : bk g g' := by
  have g0_z : am_get (lv_args 0 [.ref 164, .int 2, .int k]) 0 = some (.ref 164) := rfl
  have g1_z : am_get (lv_args 0 [.ref 164, .int 2, .int k]) 1 = some (.int 2) := rfl
  have g2_z : am_get (lv_args 0 [.ref 164, .int 2, .int k]) 2 = some (.int k) := rfl
  replace hm_z := rn_aload_n (am_cur_of (i := (0, 1, .aload_n 0, (0, 0, 0), 0)) (by decide +kernel)) g0_z hm_z
  replace hm_z := rn_iload_n (am_cur_of (i := (1, 1, .iload_n 1, (0, 0, 0), 0)) (by decide +kernel)) g1_z hm_z
  replace hm_z := rn_iload_n (am_cur_of (i := (2, 1, .iload_n 2, (0, 0, 0), 0)) (by decide +kernel)) g2_z hm_z
  replace hm_z := rn_callV (M' := am_m204) (o := 164) (ar := [.int k, .int 2]) (rest := []) (L := lv_args 0 [.ref 164, .int 2, .int k]) (am_cur_of (i := (3, 3, .invokevirtual 413, (204, 1847, 3), 0)) (by decide +kernel)) rfl rfl rfl rfl hm_z
  obtain ⟨r708_z, h709_z, q710_z, hm_z⟩ := hm_z
  have k711_z := fk_204_2 k0_z q710_z
  have vo := rn_void rfl q710_z
  subst vo
  replace hm_z : rn _ _ _ _ [] _ _ _ := hm_z
  replace hm_z := rn_aload_n (am_cur_of (i := (6, 1, .aload_n 0, (0, 0, 0), 0)) (by decide +kernel)) g0_z hm_z
  replace hm_z := rn_getR (x := 191) (am_cur_of (i := (7, 3, .getfield 94, (12, 53, 1437), 0)) (by decide +kernel)) (by decide +kernel) hm_z
  replace hm_z := rn_iconst (w := 4) (am_cur_of (i := (10, 1, .iconst 4, (0, 0, 0), 0)) (by decide +kernel)) (by decide) hm_z
  replace hm_z := rn_iload_n (am_cur_of (i := (11, 1, .iload_n 1, (0, 0, 0), 0)) (by decide +kernel)) g1_z hm_z
  replace hm_z := rn_imul (w := 8) (am_cur_of (i := (12, 1, .imul, (0, 0, 0), 0)) (by decide +kernel)) (by decide) hm_z
  replace hm_z := rn_iload_n (am_cur_of (i := (13, 1, .iload_n 2, (0, 0, 0), 0)) (by decide +kernel)) g2_z hm_z
  replace hm_z := rn_iadd (w := (8 : Int32) + k) (am_cur_of (i := (14, 1, .iadd, (0, 0, 0), 0)) (by decide +kernel)) rfl hm_z
  replace hm_z := rn_iaload (N := 16) (q := ((8 : Int32) + k).toNatClampNeg) (v := rg_v h709_z 191 (((8 : Int32) + k).toNatClampNeg)) (am_cur_of (i := (15, 1, .iaload, (0, 0, 0), 0)) (by decide +kernel)) (by decide +kernel) rfl rfl hm_z
  obtain ⟨p712_z, hm_z⟩ := hm_z
  replace hm_z := rn_aload_n (am_cur_of (i := (16, 1, .aload_n 0, (0, 0, 0), 0)) (by decide +kernel)) g0_z hm_z
  replace hm_z := rn_getR (x := 170) (am_cur_of (i := (17, 3, .getfield 30, (12, 25, 1409), 0)) (by decide +kernel)) (by decide +kernel) hm_z
  replace hm_z := rn_bipush (w := 7) (am_cur_of (i := (20, 2, .bipush 7, (0, 0, 0), 0)) (by decide +kernel)) (by decide) hm_z
  replace hm_z := rn_iload_n (am_cur_of (i := (22, 1, .iload_n 2, (0, 0, 0), 0)) (by decide +kernel)) g2_z hm_z
  replace hm_z := rn_imul (w := (7 : Int32) * k) (am_cur_of (i := (23, 1, .imul, (0, 0, 0), 0)) (by decide +kernel)) rfl hm_z
  replace hm_z := rn_iconst (w := 2) (am_cur_of (i := (24, 1, .iconst 2, (0, 0, 0), 0)) (by decide +kernel)) (by decide) hm_z
  replace hm_z := rn_iadd (w := ((7 : Int32) * k) + 2) (am_cur_of (i := (25, 1, .iadd, (0, 0, 0), 0)) (by decide +kernel)) rfl hm_z
  replace hm_z := rn_iaload (N := 56) (q := (((7 : Int32) * k) + 2).toNatClampNeg) (v := rg_v h709_z 170 ((((7 : Int32) * k) + 2).toNatClampNeg)) (am_cur_of (i := (26, 1, .iaload, (0, 0, 0), 0)) (by decide +kernel)) (by decide +kernel) rfl rfl hm_z
  obtain ⟨p713_z, hm_z⟩ := hm_z
  replace hm_z := rn_cmp (am_cur_of (i := (27, 3, .if_icmp .lt 7, (23, 0, 0), 0)) (by decide +kernel)) hm_z
  rcases hm_z with ⟨b714_z, hm_z⟩ | ⟨b714_z, hm_z⟩
  · replace b714_z : (rg_v h709_z 191 (((8 : Int32) + k).toNatClampNeg)).toInt < (rg_v h709_z 170 ((((7 : Int32) * k) + 2).toNatClampNeg)).toInt := b714_z
    replace hm_z := rn_iconst (w := 0) (am_cur_of (i := (34, 1, .iconst 0, (0, 0, 0), 0)) (by decide +kernel)) (by decide) hm_z
    replace hm_z := rn_iret (am_cur_of (i := (35, 1, .ireturn, (0, 0, 0), 0)) (by decide +kernel)) hm_z
    obtain ⟨e715_z, e716_z⟩ := hm_z
    rw [e716_z]
    exact (bk_t bk_r k711_z)
  · replace b714_z : (rg_v h709_z 170 ((((7 : Int32) * k) + 2).toNatClampNeg)).toInt ≤ (rg_v h709_z 191 (((8 : Int32) + k).toNatClampNeg)).toInt := b714_z
    replace hm_z := rn_iconst (w := 1) (am_cur_of (i := (30, 1, .iconst 1, (0, 0, 0), 0)) (by decide +kernel)) (by decide) hm_z
    replace hm_z := rn_goto (am_cur_of (i := (31, 3, .goto 4, (24, 0, 0), 0)) (by decide +kernel)) hm_z
    replace hm_z := rn_iret (am_cur_of (i := (35, 1, .ireturn, (0, 0, 0), 0)) (by decide +kernel)) hm_z
    obtain ⟨e717_z, e718_z⟩ := hm_z
    rw [e718_z]
    exact (bk_t bk_r k711_z)
theorem fk_205_2 {nst : Nat} {r : Option Value} {g g' : am_H} {k : Int32} (k0_z : 0 ≤ k.toInt) (hm_z : rn nst am_m205 0 (lv_args 0 [.ref 164, .int 2, .int k]) [] g r g') : bk g g' := by
  have g0_z : am_get (lv_args 0 [.ref 164, .int 2, .int k]) 0 = some (.ref 164) := rfl
  have g1_z : am_get (lv_args 0 [.ref 164, .int 2, .int k]) 1 = some (.int 2) := rfl
  have g2_z : am_get (lv_args 0 [.ref 164, .int 2, .int k]) 2 = some (.int k) := rfl
  replace hm_z := rn_aload_n (am_cur_of (i := (0, 1, .aload_n 0, (0, 0, 0), 0)) (by decide +kernel)) g0_z hm_z
  replace hm_z := rn_iload_n (am_cur_of (i := (1, 1, .iload_n 1, (0, 0, 0), 0)) (by decide +kernel)) g1_z hm_z
  replace hm_z := rn_iload_n (am_cur_of (i := (2, 1, .iload_n 2, (0, 0, 0), 0)) (by decide +kernel)) g2_z hm_z
  replace hm_z := rn_callV (M' := am_m206) (o := 164) (ar := [.int k, .int 2]) (rest := []) (L := lv_args 0 [.ref 164, .int 2, .int k]) (am_cur_of (i := (3, 3, .invokevirtual 417, (206, 1855, 3), 0)) (by decide +kernel)) rfl rfl rfl rfl hm_z
  obtain ⟨r719_z, h720_z, q721_z, hm_z⟩ := hm_z
  have k722_z := nq_206 q721_z
  obtain ⟨v723_z, rfl⟩ := rn_ret (M := am_m206) rfl (by decide) q721_z
  replace hm_z : rn _ _ _ _ [.int v723_z] _ _ _ := hm_z
  replace hm_z := rn_istore_n (am_cur_of (i := (6, 1, .istore_n 3, (0, 0, 0), 0)) (by decide +kernel)) hm_z
  obtain ⟨_, s724_z, s725_z, g3_z, hm_z⟩ := hm_z
  replace g0_z := s724_z 0 _ (by decide) rfl g0_z
  replace g1_z := s724_z 1 _ (by decide) rfl g1_z
  replace g2_z := s724_z 2 _ (by decide) rfl g2_z
  clear s724_z s725_z
  replace hm_z := rn_aload_n (am_cur_of (i := (7, 1, .aload_n 0, (0, 0, 0), 0)) (by decide +kernel)) g0_z hm_z
  replace hm_z := rn_iload_n (am_cur_of (i := (8, 1, .iload_n 1, (0, 0, 0), 0)) (by decide +kernel)) g1_z hm_z
  replace hm_z := rn_iconst (w := 0) (am_cur_of (i := (9, 1, .iconst 0, (0, 0, 0), 0)) (by decide +kernel)) (by decide) hm_z
  replace hm_z := rn_callV (M' := am_m188) (o := 164) (ar := [.int 0, .int 2]) (rest := []) (L := lv_args 0 [.ref 164, .int 2, .int 0]) (am_cur_of (i := (10, 3, .invokevirtual 403, (188, 1783, 3), 0)) (by decide +kernel)) rfl rfl rfl rfl hm_z
  obtain ⟨r726_z, h727_z, q728_z, hm_z⟩ := hm_z
  have k729_z := nq_188 q728_z
  obtain ⟨v730_z, rfl⟩ := rn_ret (M := am_m188) rfl (by decide) q728_z
  replace hm_z : rn _ _ _ _ [.int v730_z] _ _ _ := hm_z
  replace hm_z := rn_istore (am_cur_of (i := (13, 2, .istore 4, (0, 0, 0), 0)) (by decide +kernel)) hm_z
  obtain ⟨_, s731_z, s732_z, g4_z, hm_z⟩ := hm_z
  replace g0_z := s731_z 0 _ (by decide) rfl g0_z
  replace g1_z := s731_z 1 _ (by decide) rfl g1_z
  replace g2_z := s731_z 2 _ (by decide) rfl g2_z
  replace g3_z := s731_z 3 _ (by decide) rfl g3_z
  clear s731_z s732_z
  replace hm_z := rn_aload_n (am_cur_of (i := (15, 1, .aload_n 0, (0, 0, 0), 0)) (by decide +kernel)) g0_z hm_z
  replace hm_z := rn_iload_n (am_cur_of (i := (16, 1, .iload_n 1, (0, 0, 0), 0)) (by decide +kernel)) g1_z hm_z
  replace hm_z := rn_iconst (w := 0) (am_cur_of (i := (17, 1, .iconst 0, (0, 0, 0), 0)) (by decide +kernel)) (by decide) hm_z
  replace hm_z := rn_iload (am_cur_of (i := (18, 2, .iload 4, (0, 0, 0), 0)) (by decide +kernel)) g4_z hm_z
  replace hm_z := rn_iload_n (am_cur_of (i := (20, 1, .iload_n 3, (0, 0, 0), 0)) (by decide +kernel)) g3_z hm_z
  replace hm_z := rn_callV (M' := am_m189) (o := 164) (ar := [.int v723_z, .int v730_z, .int 0, .int 2]) (rest := []) (L := lv_args 0 [.ref 164, .int 2, .int 0, .int v730_z, .int v723_z]) (am_cur_of (i := (21, 3, .invokevirtual 392, (189, 1787, 3), 0)) (by decide +kernel)) rfl rfl rfl rfl hm_z
  obtain ⟨r733_z, h734_z, q735_z, hm_z⟩ := hm_z
  have k736_z := nq_189 q735_z
  have vo := rn_void rfl q735_z
  subst vo
  replace hm_z : rn _ _ _ _ [] _ _ _ := hm_z
  replace hm_z := rn_aload_n (am_cur_of (i := (24, 1, .aload_n 0, (0, 0, 0), 0)) (by decide +kernel)) g0_z hm_z
  replace hm_z := rn_getR (x := 188) (am_cur_of (i := (25, 3, .getfield 85, (12, 50, 1434), 0)) (by decide +kernel)) (by decide +kernel) hm_z
  replace hm_z := rn_iload_n (am_cur_of (i := (28, 1, .iload_n 1, (0, 0, 0), 0)) (by decide +kernel)) g1_z hm_z
  replace hm_z := rn_iaload (N := 4) (q := 2) (v := rg_v h734_z 188 2) (am_cur_of (i := (29, 1, .iaload, (0, 0, 0), 0)) (by decide +kernel)) (by decide +kernel) rfl rfl hm_z
  obtain ⟨p737_z, hm_z⟩ := hm_z
  replace hm_z := rn_aload_n (am_cur_of (i := (30, 1, .aload_n 0, (0, 0, 0), 0)) (by decide +kernel)) g0_z hm_z
  replace hm_z := rn_iconst (w := 1) (am_cur_of (i := (31, 1, .iconst 1, (0, 0, 0), 0)) (by decide +kernel)) (by decide) hm_z
  replace hm_z := rn_iload_n (am_cur_of (i := (32, 1, .iload_n 3, (0, 0, 0), 0)) (by decide +kernel)) g3_z hm_z
  replace hm_z := rn_bipush (w := 99) (am_cur_of (i := (33, 2, .bipush 99, (0, 0, 0), 0)) (by decide +kernel)) (by decide) hm_z
  replace hm_z := rn_callV (M' := am_m190) (o := 164) (ar := [.int 99, .int v723_z, .int 1]) (rest := [.int (rg_v h734_z 188 2)]) (L := lv_args 0 [.ref 164, .int 1, .int v723_z, .int 99]) (am_cur_of (i := (35, 3, .invokevirtual 396, (190, 1791, 3), 0)) (by decide +kernel)) rfl rfl rfl rfl hm_z
  obtain ⟨r738_z, h739_z, q740_z, hm_z⟩ := hm_z
  have k741_z := nq_190 q740_z
  obtain ⟨v742_z, rfl⟩ := rn_ret (M := am_m190) rfl (by decide) q740_z
  replace hm_z : rn _ _ _ _ [.int v742_z, .int (rg_v h734_z 188 2)] _ _ _ := hm_z
  replace hm_z := rn_iadd (w := (rg_v h734_z 188 2) + v742_z) (am_cur_of (i := (38, 1, .iadd, (0, 0, 0), 0)) (by decide +kernel)) rfl hm_z
  replace hm_z := rn_istore (am_cur_of (i := (39, 2, .istore 5, (0, 0, 0), 0)) (by decide +kernel)) hm_z
  obtain ⟨_, s743_z, s744_z, g5_z, hm_z⟩ := hm_z
  replace g0_z := s743_z 0 _ (by decide) rfl g0_z
  replace g1_z := s743_z 1 _ (by decide) rfl g1_z
  replace g2_z := s743_z 2 _ (by decide) rfl g2_z
  replace g3_z := s743_z 3 _ (by decide) rfl g3_z
  replace g4_z := s743_z 4 _ (by decide) rfl g4_z
  clear s743_z s744_z
  replace hm_z := rn_aload_n (am_cur_of (i := (41, 1, .aload_n 0, (0, 0, 0), 0)) (by decide +kernel)) g0_z hm_z
  replace hm_z := rn_getR (x := 188) (am_cur_of (i := (42, 3, .getfield 85, (12, 50, 1434), 0)) (by decide +kernel)) (by decide +kernel) hm_z
  replace hm_z := rn_iload_n (am_cur_of (i := (45, 1, .iload_n 1, (0, 0, 0), 0)) (by decide +kernel)) g1_z hm_z
  replace hm_z := rn_iload (am_cur_of (i := (46, 2, .iload 5, (0, 0, 0), 0)) (by decide +kernel)) g5_z hm_z
  replace hm_z := rn_aload_n (am_cur_of (i := (48, 1, .aload_n 0, (0, 0, 0), 0)) (by decide +kernel)) g0_z hm_z
  replace hm_z := rn_getR (x := 168) (am_cur_of (i := (49, 3, .getfield 24, (12, 23, 1407), 0)) (by decide +kernel)) (by decide +kernel) hm_z
  replace hm_z := rn_iconst (w := 0) (am_cur_of (i := (52, 1, .iconst 0, (0, 0, 0), 0)) (by decide +kernel)) (by decide) hm_z
  replace hm_z := rn_iaload (N := 12) (q := 0) (v := rg_v h739_z 168 0) (am_cur_of (i := (53, 1, .iaload, (0, 0, 0), 0)) (by decide +kernel)) (by decide +kernel) rfl rfl hm_z
  obtain ⟨p745_z, hm_z⟩ := hm_z
  replace hm_z := rn_cmp (am_cur_of (i := (54, 3, .if_icmp .le 12, (41, 0, 0), 0)) (by decide +kernel)) hm_z
  rcases hm_z with ⟨b746_z, hm_z⟩ | ⟨b746_z, hm_z⟩
  · replace b746_z : ((rg_v h734_z 188 2) + v742_z).toInt ≤ (rg_v h739_z 168 0).toInt := b746_z
    replace hm_z := rn_iload (am_cur_of (i := (66, 2, .iload 5, (0, 0, 0), 0)) (by decide +kernel)) g5_z hm_z
    replace hm_z := rn_iastore (N := 4) (q := 2) (am_cur_of (i := (68, 1, .iastore, (0, 0, 0), 0)) (by decide +kernel)) (by decide +kernel) rfl hm_z
    obtain ⟨p747_z, hm_z⟩ := hm_z
    replace hm_z := rn_aload_n (am_cur_of (i := (69, 1, .aload_n 0, (0, 0, 0), 0)) (by decide +kernel)) g0_z hm_z
    replace hm_z := rn_getR (x := 191) (am_cur_of (i := (70, 3, .getfield 94, (12, 53, 1437), 0)) (by decide +kernel)) (by decide +kernel) hm_z
    replace hm_z := rn_iconst (w := 4) (am_cur_of (i := (73, 1, .iconst 4, (0, 0, 0), 0)) (by decide +kernel)) (by decide) hm_z
    replace hm_z := rn_iload_n (am_cur_of (i := (74, 1, .iload_n 1, (0, 0, 0), 0)) (by decide +kernel)) g1_z hm_z
    replace hm_z := rn_imul (w := 8) (am_cur_of (i := (75, 1, .imul, (0, 0, 0), 0)) (by decide +kernel)) (by decide) hm_z
    replace hm_z := rn_iload_n (am_cur_of (i := (76, 1, .iload_n 2, (0, 0, 0), 0)) (by decide +kernel)) g2_z hm_z
    replace hm_z := rn_iadd (w := (8 : Int32) + k) (am_cur_of (i := (77, 1, .iadd, (0, 0, 0), 0)) (by decide +kernel)) rfl hm_z
    replace hm_z := rn_dup2 (am_cur_of (i := (78, 1, .dup2, (0, 0, 0), 0)) (by decide +kernel)) hm_z
    replace hm_z := rn_iaload (N := 16) (q := ((8 : Int32) + k).toNatClampNeg) (v := rg_v h739_z 191 (((8 : Int32) + k).toNatClampNeg)) (am_cur_of (i := (79, 1, .iaload, (0, 0, 0), 0)) (by decide +kernel)) (by decide +kernel) rfl (show rg_v (am_up h739_z 188 2 (.int ((rg_v h734_z 188 2) + v742_z))) 191 (((8 : Int32) + k).toNatClampNeg) = rg_v h739_z 191 (((8 : Int32) + k).toNatClampNeg) from rfl) hm_z
    obtain ⟨p748_z, hm_z⟩ := hm_z
    replace hm_z := rn_iconst (w := 1) (am_cur_of (i := (80, 1, .iconst 1, (0, 0, 0), 0)) (by decide +kernel)) (by decide) hm_z
    replace hm_z := rn_iadd (w := (rg_v h739_z 191 (((8 : Int32) + k).toNatClampNeg)) + 1) (am_cur_of (i := (81, 1, .iadd, (0, 0, 0), 0)) (by decide +kernel)) rfl hm_z
    replace hm_z := rn_iastore (N := 16) (q := ((8 : Int32) + k).toNatClampNeg) (am_cur_of (i := (82, 1, .iastore, (0, 0, 0), 0)) (by decide +kernel)) (by decide +kernel) rfl hm_z
    obtain ⟨p749_z, hm_z⟩ := hm_z
    replace hm_z := rn_aload_n (am_cur_of (i := (83, 1, .aload_n 0, (0, 0, 0), 0)) (by decide +kernel)) g0_z hm_z
    replace hm_z := rn_getR (x := 192) (am_cur_of (i := (84, 3, .getfield 97, (12, 54, 1438), 0)) (by decide +kernel)) (by decide +kernel) hm_z
    replace hm_z := rn_iconst (w := 4) (am_cur_of (i := (87, 1, .iconst 4, (0, 0, 0), 0)) (by decide +kernel)) (by decide) hm_z
    replace hm_z := rn_iload_n (am_cur_of (i := (88, 1, .iload_n 1, (0, 0, 0), 0)) (by decide +kernel)) g1_z hm_z
    replace hm_z := rn_imul (w := 8) (am_cur_of (i := (89, 1, .imul, (0, 0, 0), 0)) (by decide +kernel)) (by decide) hm_z
    replace hm_z := rn_iload_n (am_cur_of (i := (90, 1, .iload_n 2, (0, 0, 0), 0)) (by decide +kernel)) g2_z hm_z
    replace hm_z := rn_iadd (w := (8 : Int32) + k) (am_cur_of (i := (91, 1, .iadd, (0, 0, 0), 0)) (by decide +kernel)) rfl hm_z
    replace hm_z := rn_dup2 (am_cur_of (i := (92, 1, .dup2, (0, 0, 0), 0)) (by decide +kernel)) hm_z
    replace hm_z := rn_iaload (N := 16) (q := ((8 : Int32) + k).toNatClampNeg) (v := rg_v h739_z 192 (((8 : Int32) + k).toNatClampNeg)) (am_cur_of (i := (93, 1, .iaload, (0, 0, 0), 0)) (by decide +kernel)) (by decide +kernel) rfl (show rg_v (am_up (am_up h739_z 188 2 (.int ((rg_v h734_z 188 2) + v742_z))) 191 (((8 : Int32) + k).toNatClampNeg) (.int ((rg_v h739_z 191 (((8 : Int32) + k).toNatClampNeg)) + 1))) 192 (((8 : Int32) + k).toNatClampNeg) = rg_v h739_z 192 (((8 : Int32) + k).toNatClampNeg) from rfl) hm_z
    obtain ⟨p750_z, hm_z⟩ := hm_z
    replace hm_z := rn_iconst (w := 1) (am_cur_of (i := (94, 1, .iconst 1, (0, 0, 0), 0)) (by decide +kernel)) (by decide) hm_z
    replace hm_z := rn_iadd (w := (rg_v h739_z 192 (((8 : Int32) + k).toNatClampNeg)) + 1) (am_cur_of (i := (95, 1, .iadd, (0, 0, 0), 0)) (by decide +kernel)) rfl hm_z
    replace hm_z := rn_iastore (N := 16) (q := ((8 : Int32) + k).toNatClampNeg) (am_cur_of (i := (96, 1, .iastore, (0, 0, 0), 0)) (by decide +kernel)) (by decide +kernel) rfl hm_z
    obtain ⟨p751_z, hm_z⟩ := hm_z
    replace hm_z := rn_aload_n (am_cur_of (i := (97, 1, .aload_n 0, (0, 0, 0), 0)) (by decide +kernel)) g0_z hm_z
    replace hm_z := rn_getR (x := 193) (am_cur_of (i := (98, 3, .getfield 100, (12, 55, 1439), 0)) (by decide +kernel)) (by decide +kernel) hm_z
    replace hm_z := rn_iconst (w := 4) (am_cur_of (i := (101, 1, .iconst 4, (0, 0, 0), 0)) (by decide +kernel)) (by decide) hm_z
    replace hm_z := rn_iload_n (am_cur_of (i := (102, 1, .iload_n 1, (0, 0, 0), 0)) (by decide +kernel)) g1_z hm_z
    replace hm_z := rn_imul (w := 8) (am_cur_of (i := (103, 1, .imul, (0, 0, 0), 0)) (by decide +kernel)) (by decide) hm_z
    replace hm_z := rn_iload_n (am_cur_of (i := (104, 1, .iload_n 2, (0, 0, 0), 0)) (by decide +kernel)) g2_z hm_z
    replace hm_z := rn_iadd (w := (8 : Int32) + k) (am_cur_of (i := (105, 1, .iadd, (0, 0, 0), 0)) (by decide +kernel)) rfl hm_z
    replace hm_z := rn_aload_n (am_cur_of (i := (106, 1, .aload_n 0, (0, 0, 0), 0)) (by decide +kernel)) g0_z hm_z
    replace hm_z := rn_getR (x := 189) (am_cur_of (i := (107, 3, .getfield 88, (12, 51, 1435), 0)) (by decide +kernel)) (by decide +kernel) hm_z
    replace hm_z := rn_iload_n (am_cur_of (i := (110, 1, .iload_n 1, (0, 0, 0), 0)) (by decide +kernel)) g1_z hm_z
    replace hm_z := rn_iaload (N := 4) (q := 2) (v := rg_v h739_z 189 2) (am_cur_of (i := (111, 1, .iaload, (0, 0, 0), 0)) (by decide +kernel)) (by decide +kernel) rfl (show rg_v (am_up (am_up (am_up h739_z 188 2 (.int ((rg_v h734_z 188 2) + v742_z))) 191 (((8 : Int32) + k).toNatClampNeg) (.int ((rg_v h739_z 191 (((8 : Int32) + k).toNatClampNeg)) + 1))) 192 (((8 : Int32) + k).toNatClampNeg) (.int ((rg_v h739_z 192 (((8 : Int32) + k).toNatClampNeg)) + 1))) 189 2 = rg_v h739_z 189 2 from rfl) hm_z
    obtain ⟨p752_z, hm_z⟩ := hm_z
    replace hm_z := rn_iastore (N := 16) (q := ((8 : Int32) + k).toNatClampNeg) (am_cur_of (i := (112, 1, .iastore, (0, 0, 0), 0)) (by decide +kernel)) (by decide +kernel) rfl hm_z
    obtain ⟨p753_z, hm_z⟩ := hm_z
    replace hm_z := rn_aload_n (am_cur_of (i := (113, 1, .aload_n 0, (0, 0, 0), 0)) (by decide +kernel)) g0_z hm_z
    replace hm_z := rn_getR (x := 190) (am_cur_of (i := (114, 3, .getfield 91, (12, 52, 1436), 0)) (by decide +kernel)) (by decide +kernel) hm_z
    replace hm_z := rn_iload_n (am_cur_of (i := (117, 1, .iload_n 1, (0, 0, 0), 0)) (by decide +kernel)) g1_z hm_z
    replace hm_z := rn_iload_n (am_cur_of (i := (118, 1, .iload_n 2, (0, 0, 0), 0)) (by decide +kernel)) g2_z hm_z
    replace hm_z := rn_iastore (N := 4) (q := 2) (am_cur_of (i := (119, 1, .iastore, (0, 0, 0), 0)) (by decide +kernel)) (by decide +kernel) rfl hm_z
    obtain ⟨p754_z, hm_z⟩ := hm_z
    replace hm_z := rn_vret (am_cur_of (i := (120, 1, .return_, (0, 0, 0), 0)) (by decide +kernel)) hm_z
    obtain ⟨e755_z, e756_z⟩ := hm_z
    rw [e756_z]
    exact (bk_u (by decide) (bk_u (bk_i (by decide) (bk_4 (by decide) k0_z p753_z)) (bk_u (bk_i (by decide) (bk_4 (by decide) k0_z p751_z)) (bk_u (bk_i (by decide) (bk_4 (by decide) k0_z p749_z)) (bk_u (by decide) (bk_t (bk_t (bk_t (bk_t bk_r (bk_n k722_z)) (bk_n k729_z)) (bk_n k736_z)) (bk_n k741_z)))))))
  · replace b746_z : (rg_v h739_z 168 0).toInt < ((rg_v h734_z 188 2) + v742_z).toInt := b746_z
    replace hm_z := rn_aload_n (am_cur_of (i := (57, 1, .aload_n 0, (0, 0, 0), 0)) (by decide +kernel)) g0_z hm_z
    replace hm_z := rn_getR (x := 168) (am_cur_of (i := (58, 3, .getfield 24, (12, 23, 1407), 0)) (by decide +kernel)) (by decide +kernel) hm_z
    replace hm_z := rn_iconst (w := 0) (am_cur_of (i := (61, 1, .iconst 0, (0, 0, 0), 0)) (by decide +kernel)) (by decide) hm_z
    replace hm_z := rn_iaload (N := 12) (q := 0) (v := rg_v h739_z 168 0) (am_cur_of (i := (62, 1, .iaload, (0, 0, 0), 0)) (by decide +kernel)) (by decide +kernel) rfl rfl hm_z
    obtain ⟨p757_z, hm_z⟩ := hm_z
    replace hm_z := rn_goto (am_cur_of (i := (63, 3, .goto 5, (42, 0, 0), 0)) (by decide +kernel)) hm_z
    replace hm_z := rn_iastore (N := 4) (q := 2) (am_cur_of (i := (68, 1, .iastore, (0, 0, 0), 0)) (by decide +kernel)) (by decide +kernel) rfl hm_z
    obtain ⟨p758_z, hm_z⟩ := hm_z
    replace hm_z := rn_aload_n (am_cur_of (i := (69, 1, .aload_n 0, (0, 0, 0), 0)) (by decide +kernel)) g0_z hm_z
    replace hm_z := rn_getR (x := 191) (am_cur_of (i := (70, 3, .getfield 94, (12, 53, 1437), 0)) (by decide +kernel)) (by decide +kernel) hm_z
    replace hm_z := rn_iconst (w := 4) (am_cur_of (i := (73, 1, .iconst 4, (0, 0, 0), 0)) (by decide +kernel)) (by decide) hm_z
    replace hm_z := rn_iload_n (am_cur_of (i := (74, 1, .iload_n 1, (0, 0, 0), 0)) (by decide +kernel)) g1_z hm_z
    replace hm_z := rn_imul (w := 8) (am_cur_of (i := (75, 1, .imul, (0, 0, 0), 0)) (by decide +kernel)) (by decide) hm_z
    replace hm_z := rn_iload_n (am_cur_of (i := (76, 1, .iload_n 2, (0, 0, 0), 0)) (by decide +kernel)) g2_z hm_z
    replace hm_z := rn_iadd (w := (8 : Int32) + k) (am_cur_of (i := (77, 1, .iadd, (0, 0, 0), 0)) (by decide +kernel)) rfl hm_z
    replace hm_z := rn_dup2 (am_cur_of (i := (78, 1, .dup2, (0, 0, 0), 0)) (by decide +kernel)) hm_z
    replace hm_z := rn_iaload (N := 16) (q := ((8 : Int32) + k).toNatClampNeg) (v := rg_v h739_z 191 (((8 : Int32) + k).toNatClampNeg)) (am_cur_of (i := (79, 1, .iaload, (0, 0, 0), 0)) (by decide +kernel)) (by decide +kernel) rfl (show rg_v (am_up h739_z 188 2 (.int (rg_v h739_z 168 0))) 191 (((8 : Int32) + k).toNatClampNeg) = rg_v h739_z 191 (((8 : Int32) + k).toNatClampNeg) from rfl) hm_z
    obtain ⟨p759_z, hm_z⟩ := hm_z
    replace hm_z := rn_iconst (w := 1) (am_cur_of (i := (80, 1, .iconst 1, (0, 0, 0), 0)) (by decide +kernel)) (by decide) hm_z
    replace hm_z := rn_iadd (w := (rg_v h739_z 191 (((8 : Int32) + k).toNatClampNeg)) + 1) (am_cur_of (i := (81, 1, .iadd, (0, 0, 0), 0)) (by decide +kernel)) rfl hm_z
    replace hm_z := rn_iastore (N := 16) (q := ((8 : Int32) + k).toNatClampNeg) (am_cur_of (i := (82, 1, .iastore, (0, 0, 0), 0)) (by decide +kernel)) (by decide +kernel) rfl hm_z
    obtain ⟨p760_z, hm_z⟩ := hm_z
    replace hm_z := rn_aload_n (am_cur_of (i := (83, 1, .aload_n 0, (0, 0, 0), 0)) (by decide +kernel)) g0_z hm_z
    replace hm_z := rn_getR (x := 192) (am_cur_of (i := (84, 3, .getfield 97, (12, 54, 1438), 0)) (by decide +kernel)) (by decide +kernel) hm_z
    replace hm_z := rn_iconst (w := 4) (am_cur_of (i := (87, 1, .iconst 4, (0, 0, 0), 0)) (by decide +kernel)) (by decide) hm_z
    replace hm_z := rn_iload_n (am_cur_of (i := (88, 1, .iload_n 1, (0, 0, 0), 0)) (by decide +kernel)) g1_z hm_z
    replace hm_z := rn_imul (w := 8) (am_cur_of (i := (89, 1, .imul, (0, 0, 0), 0)) (by decide +kernel)) (by decide) hm_z
    replace hm_z := rn_iload_n (am_cur_of (i := (90, 1, .iload_n 2, (0, 0, 0), 0)) (by decide +kernel)) g2_z hm_z
    replace hm_z := rn_iadd (w := (8 : Int32) + k) (am_cur_of (i := (91, 1, .iadd, (0, 0, 0), 0)) (by decide +kernel)) rfl hm_z
    replace hm_z := rn_dup2 (am_cur_of (i := (92, 1, .dup2, (0, 0, 0), 0)) (by decide +kernel)) hm_z
    replace hm_z := rn_iaload (N := 16) (q := ((8 : Int32) + k).toNatClampNeg) (v := rg_v h739_z 192 (((8 : Int32) + k).toNatClampNeg)) (am_cur_of (i := (93, 1, .iaload, (0, 0, 0), 0)) (by decide +kernel)) (by decide +kernel) rfl (show rg_v (am_up (am_up h739_z 188 2 (.int (rg_v h739_z 168 0))) 191 (((8 : Int32) + k).toNatClampNeg) (.int ((rg_v h739_z 191 (((8 : Int32) + k).toNatClampNeg)) + 1))) 192 (((8 : Int32) + k).toNatClampNeg) = rg_v h739_z 192 (((8 : Int32) + k).toNatClampNeg) from rfl) hm_z
    obtain ⟨p761_z, hm_z⟩ := hm_z
    replace hm_z := rn_iconst (w := 1) (am_cur_of (i := (94, 1, .iconst 1, (0, 0, 0), 0)) (by decide +kernel)) (by decide) hm_z
    replace hm_z := rn_iadd (w := (rg_v h739_z 192 (((8 : Int32) + k).toNatClampNeg)) + 1) (am_cur_of (i := (95, 1, .iadd, (0, 0, 0), 0)) (by decide +kernel)) rfl hm_z
    replace hm_z := rn_iastore (N := 16) (q := ((8 : Int32) + k).toNatClampNeg) (am_cur_of (i := (96, 1, .iastore, (0, 0, 0), 0)) (by decide +kernel)) (by decide +kernel) rfl hm_z
    obtain ⟨p762_z, hm_z⟩ := hm_z
    replace hm_z := rn_aload_n (am_cur_of (i := (97, 1, .aload_n 0, (0, 0, 0), 0)) (by decide +kernel)) g0_z hm_z
    replace hm_z := rn_getR (x := 193) (am_cur_of (i := (98, 3, .getfield 100, (12, 55, 1439), 0)) (by decide +kernel)) (by decide +kernel) hm_z
    replace hm_z := rn_iconst (w := 4) (am_cur_of (i := (101, 1, .iconst 4, (0, 0, 0), 0)) (by decide +kernel)) (by decide) hm_z
    replace hm_z := rn_iload_n (am_cur_of (i := (102, 1, .iload_n 1, (0, 0, 0), 0)) (by decide +kernel)) g1_z hm_z
    replace hm_z := rn_imul (w := 8) (am_cur_of (i := (103, 1, .imul, (0, 0, 0), 0)) (by decide +kernel)) (by decide) hm_z
    replace hm_z := rn_iload_n (am_cur_of (i := (104, 1, .iload_n 2, (0, 0, 0), 0)) (by decide +kernel)) g2_z hm_z
    replace hm_z := rn_iadd (w := (8 : Int32) + k) (am_cur_of (i := (105, 1, .iadd, (0, 0, 0), 0)) (by decide +kernel)) rfl hm_z
    replace hm_z := rn_aload_n (am_cur_of (i := (106, 1, .aload_n 0, (0, 0, 0), 0)) (by decide +kernel)) g0_z hm_z
    replace hm_z := rn_getR (x := 189) (am_cur_of (i := (107, 3, .getfield 88, (12, 51, 1435), 0)) (by decide +kernel)) (by decide +kernel) hm_z
    replace hm_z := rn_iload_n (am_cur_of (i := (110, 1, .iload_n 1, (0, 0, 0), 0)) (by decide +kernel)) g1_z hm_z
    replace hm_z := rn_iaload (N := 4) (q := 2) (v := rg_v h739_z 189 2) (am_cur_of (i := (111, 1, .iaload, (0, 0, 0), 0)) (by decide +kernel)) (by decide +kernel) rfl (show rg_v (am_up (am_up (am_up h739_z 188 2 (.int (rg_v h739_z 168 0))) 191 (((8 : Int32) + k).toNatClampNeg) (.int ((rg_v h739_z 191 (((8 : Int32) + k).toNatClampNeg)) + 1))) 192 (((8 : Int32) + k).toNatClampNeg) (.int ((rg_v h739_z 192 (((8 : Int32) + k).toNatClampNeg)) + 1))) 189 2 = rg_v h739_z 189 2 from rfl) hm_z
    obtain ⟨p763_z, hm_z⟩ := hm_z
    replace hm_z := rn_iastore (N := 16) (q := ((8 : Int32) + k).toNatClampNeg) (am_cur_of (i := (112, 1, .iastore, (0, 0, 0), 0)) (by decide +kernel)) (by decide +kernel) rfl hm_z
    obtain ⟨p764_z, hm_z⟩ := hm_z
    replace hm_z := rn_aload_n (am_cur_of (i := (113, 1, .aload_n 0, (0, 0, 0), 0)) (by decide +kernel)) g0_z hm_z
    replace hm_z := rn_getR (x := 190) (am_cur_of (i := (114, 3, .getfield 91, (12, 52, 1436), 0)) (by decide +kernel)) (by decide +kernel) hm_z
    replace hm_z := rn_iload_n (am_cur_of (i := (117, 1, .iload_n 1, (0, 0, 0), 0)) (by decide +kernel)) g1_z hm_z
    replace hm_z := rn_iload_n (am_cur_of (i := (118, 1, .iload_n 2, (0, 0, 0), 0)) (by decide +kernel)) g2_z hm_z
    replace hm_z := rn_iastore (N := 4) (q := 2) (am_cur_of (i := (119, 1, .iastore, (0, 0, 0), 0)) (by decide +kernel)) (by decide +kernel) rfl hm_z
    obtain ⟨p765_z, hm_z⟩ := hm_z
    replace hm_z := rn_vret (am_cur_of (i := (120, 1, .return_, (0, 0, 0), 0)) (by decide +kernel)) hm_z
    obtain ⟨e766_z, e767_z⟩ := hm_z
    rw [e767_z]
    exact (bk_u (by decide) (bk_u (bk_i (by decide) (bk_4 (by decide) k0_z p764_z)) (bk_u (bk_i (by decide) (bk_4 (by decide) k0_z p762_z)) (bk_u (bk_i (by decide) (bk_4 (by decide) k0_z p760_z)) (bk_u (by decide) (bk_t (bk_t (bk_t (bk_t bk_r (bk_n k722_z)) (bk_n k729_z)) (bk_n k736_z)) (bk_n k741_z)))))))
theorem fk_204_3_L {r : Option Value} {g' : am_H} {k : Int32} (k0_z : 0 ≤ k.toInt) : ∀ f : Nat, (∀ (ls : am_L) (g : am_H), rn f am_m204 40 ls [] g r g' → bk g g') := by
  intro f
  induction f with
  | zero =>
    exact (fun _ _ hm_z => absurd hm_z rn_0)
  | succ f ih_z =>
    have I40 := ih_z
    have H40 : ∀ (ls : am_L) (g : am_H), rn (f + 1) am_m204 40 ls [] g r g' → bk g g' := by
      intro ls g hm_z
      replace hm_z := rn_vret (am_cur_of (i := (55, 1, .return_, (0, 0, 0), 0)) (by decide +kernel)) hm_z
      obtain ⟨e768_z, e769_z⟩ := hm_z
      rw [e769_z]
      exact bk_r
    exact H40
theorem fk_204_3 {nst : Nat} {r : Option Value} {g g' : am_H} {k : Int32} (k0_z : 0 ≤ k.toInt) (hm_z : rn nst am_m204 0 (lv_args 0 [.ref 164, .int 3, .int k]) [] g r g') : bk g g' := by
  have z0_z : (0 : Int32).toInt = 0 := by decide
  have g0_z : am_get (lv_args 0 [.ref 164, .int 3, .int k]) 0 = some (.ref 164) := rfl
  have g1_z : am_get (lv_args 0 [.ref 164, .int 3, .int k]) 1 = some (.int 3) := rfl
  have g2_z : am_get (lv_args 0 [.ref 164, .int 3, .int k]) 2 = some (.int k) := rfl
  replace hm_z := rn_aload_n (am_cur_of (i := (0, 1, .aload_n 0, (0, 0, 0), 0)) (by decide +kernel)) g0_z hm_z
  replace hm_z := rn_getR (x := 191) (am_cur_of (i := (1, 3, .getfield 94, (12, 53, 1437), 0)) (by decide +kernel)) (by decide +kernel) hm_z
  replace hm_z := rn_iconst (w := 4) (am_cur_of (i := (4, 1, .iconst 4, (0, 0, 0), 0)) (by decide +kernel)) (by decide) hm_z
  replace hm_z := rn_iload_n (am_cur_of (i := (5, 1, .iload_n 1, (0, 0, 0), 0)) (by decide +kernel)) g1_z hm_z
  replace hm_z := rn_imul (w := 12) (am_cur_of (i := (6, 1, .imul, (0, 0, 0), 0)) (by decide +kernel)) (by decide) hm_z
  replace hm_z := rn_iload_n (am_cur_of (i := (7, 1, .iload_n 2, (0, 0, 0), 0)) (by decide +kernel)) g2_z hm_z
  replace hm_z := rn_iadd (w := (12 : Int32) + k) (am_cur_of (i := (8, 1, .iadd, (0, 0, 0), 0)) (by decide +kernel)) rfl hm_z
  replace hm_z := rn_iaload (N := 16) (q := ((12 : Int32) + k).toNatClampNeg) (v := rg_v g 191 (((12 : Int32) + k).toNatClampNeg)) (am_cur_of (i := (9, 1, .iaload, (0, 0, 0), 0)) (by decide +kernel)) (by decide +kernel) rfl rfl hm_z
  obtain ⟨p770_z, hm_z⟩ := hm_z
  replace hm_z := rn_if (am_cur_of (i := (10, 3, .ifCond .le 45, (40, 0, 0), 0)) (by decide +kernel)) hm_z
  rcases hm_z with ⟨b771_z, hm_z⟩ | ⟨b771_z, hm_z⟩
  · replace b771_z : (rg_v g 191 (((12 : Int32) + k).toNatClampNeg)).toInt ≤ (0 : Int32).toInt := b771_z
    have H40 := (fk_204_3_L (r := r) (g' := g') (k := k) k0_z nst)
    exact bk_t bk_r (H40 _ _ hm_z)
  · replace b771_z : (0 : Int32).toInt < (rg_v g 191 (((12 : Int32) + k).toNatClampNeg)).toInt := b771_z
    replace hm_z := rn_aload_n (am_cur_of (i := (13, 1, .aload_n 0, (0, 0, 0), 0)) (by decide +kernel)) g0_z hm_z
    replace hm_z := rn_getR (x := 189) (am_cur_of (i := (14, 3, .getfield 88, (12, 51, 1435), 0)) (by decide +kernel)) (by decide +kernel) hm_z
    replace hm_z := rn_iload_n (am_cur_of (i := (17, 1, .iload_n 1, (0, 0, 0), 0)) (by decide +kernel)) g1_z hm_z
    replace hm_z := rn_iaload (N := 4) (q := 3) (v := rg_v g 189 3) (am_cur_of (i := (18, 1, .iaload, (0, 0, 0), 0)) (by decide +kernel)) (by decide +kernel) rfl rfl hm_z
    obtain ⟨p772_z, hm_z⟩ := hm_z
    replace hm_z := rn_aload_n (am_cur_of (i := (19, 1, .aload_n 0, (0, 0, 0), 0)) (by decide +kernel)) g0_z hm_z
    replace hm_z := rn_getR (x := 193) (am_cur_of (i := (20, 3, .getfield 100, (12, 55, 1439), 0)) (by decide +kernel)) (by decide +kernel) hm_z
    replace hm_z := rn_iconst (w := 4) (am_cur_of (i := (23, 1, .iconst 4, (0, 0, 0), 0)) (by decide +kernel)) (by decide) hm_z
    replace hm_z := rn_iload_n (am_cur_of (i := (24, 1, .iload_n 1, (0, 0, 0), 0)) (by decide +kernel)) g1_z hm_z
    replace hm_z := rn_imul (w := 12) (am_cur_of (i := (25, 1, .imul, (0, 0, 0), 0)) (by decide +kernel)) (by decide) hm_z
    replace hm_z := rn_iload_n (am_cur_of (i := (26, 1, .iload_n 2, (0, 0, 0), 0)) (by decide +kernel)) g2_z hm_z
    replace hm_z := rn_iadd (w := (12 : Int32) + k) (am_cur_of (i := (27, 1, .iadd, (0, 0, 0), 0)) (by decide +kernel)) rfl hm_z
    replace hm_z := rn_iaload (N := 16) (q := ((12 : Int32) + k).toNatClampNeg) (v := rg_v g 193 (((12 : Int32) + k).toNatClampNeg)) (am_cur_of (i := (28, 1, .iaload, (0, 0, 0), 0)) (by decide +kernel)) (by decide +kernel) rfl rfl hm_z
    obtain ⟨p773_z, hm_z⟩ := hm_z
    replace hm_z := rn_isub (w := (rg_v g 189 3) - (rg_v g 193 (((12 : Int32) + k).toNatClampNeg))) (am_cur_of (i := (29, 1, .isub, (0, 0, 0), 0)) (by decide +kernel)) rfl hm_z
    replace hm_z := rn_aload_n (am_cur_of (i := (30, 1, .aload_n 0, (0, 0, 0), 0)) (by decide +kernel)) g0_z hm_z
    replace hm_z := rn_getR (x := 170) (am_cur_of (i := (31, 3, .getfield 30, (12, 25, 1409), 0)) (by decide +kernel)) (by decide +kernel) hm_z
    replace hm_z := rn_bipush (w := 7) (am_cur_of (i := (34, 2, .bipush 7, (0, 0, 0), 0)) (by decide +kernel)) (by decide) hm_z
    replace hm_z := rn_iload_n (am_cur_of (i := (36, 1, .iload_n 2, (0, 0, 0), 0)) (by decide +kernel)) g2_z hm_z
    replace hm_z := rn_imul (w := (7 : Int32) * k) (am_cur_of (i := (37, 1, .imul, (0, 0, 0), 0)) (by decide +kernel)) rfl hm_z
    replace hm_z := rn_iconst (w := 4) (am_cur_of (i := (38, 1, .iconst 4, (0, 0, 0), 0)) (by decide +kernel)) (by decide) hm_z
    replace hm_z := rn_iadd (w := ((7 : Int32) * k) + 4) (am_cur_of (i := (39, 1, .iadd, (0, 0, 0), 0)) (by decide +kernel)) rfl hm_z
    replace hm_z := rn_iaload (N := 56) (q := (((7 : Int32) * k) + 4).toNatClampNeg) (v := rg_v g 170 ((((7 : Int32) * k) + 4).toNatClampNeg)) (am_cur_of (i := (40, 1, .iaload, (0, 0, 0), 0)) (by decide +kernel)) (by decide +kernel) rfl rfl hm_z
    obtain ⟨p774_z, hm_z⟩ := hm_z
    replace hm_z := rn_cmp (am_cur_of (i := (41, 3, .if_icmp .lt 14, (40, 0, 0), 0)) (by decide +kernel)) hm_z
    rcases hm_z with ⟨b775_z, hm_z⟩ | ⟨b775_z, hm_z⟩
    · replace b775_z : ((rg_v g 189 3) - (rg_v g 193 (((12 : Int32) + k).toNatClampNeg))).toInt < (rg_v g 170 ((((7 : Int32) * k) + 4).toNatClampNeg)).toInt := b775_z
      have H40 := (fk_204_3_L (r := r) (g' := g') (k := k) k0_z nst)
      exact bk_t bk_r (H40 _ _ hm_z)
    · replace b775_z : (rg_v g 170 ((((7 : Int32) * k) + 4).toNatClampNeg)).toInt ≤ ((rg_v g 189 3) - (rg_v g 193 (((12 : Int32) + k).toNatClampNeg))).toInt := b775_z
      replace hm_z := rn_aload_n (am_cur_of (i := (44, 1, .aload_n 0, (0, 0, 0), 0)) (by decide +kernel)) g0_z hm_z
      replace hm_z := rn_getR (x := 191) (am_cur_of (i := (45, 3, .getfield 94, (12, 53, 1437), 0)) (by decide +kernel)) (by decide +kernel) hm_z
      replace hm_z := rn_iconst (w := 4) (am_cur_of (i := (48, 1, .iconst 4, (0, 0, 0), 0)) (by decide +kernel)) (by decide) hm_z
      replace hm_z := rn_iload_n (am_cur_of (i := (49, 1, .iload_n 1, (0, 0, 0), 0)) (by decide +kernel)) g1_z hm_z
      replace hm_z := rn_imul (w := 12) (am_cur_of (i := (50, 1, .imul, (0, 0, 0), 0)) (by decide +kernel)) (by decide) hm_z
      replace hm_z := rn_iload_n (am_cur_of (i := (51, 1, .iload_n 2, (0, 0, 0), 0)) (by decide +kernel)) g2_z hm_z
      replace hm_z := rn_iadd (w := (12 : Int32) + k) (am_cur_of (i := (52, 1, .iadd, (0, 0, 0), 0)) (by decide +kernel)) rfl hm_z
      replace hm_z := rn_iconst (w := 0) (am_cur_of (i := (53, 1, .iconst 0, (0, 0, 0), 0)) (by decide +kernel)) (by decide) hm_z
      replace hm_z := rn_iastore (N := 16) (q := ((12 : Int32) + k).toNatClampNeg) (am_cur_of (i := (54, 1, .iastore, (0, 0, 0), 0)) (by decide +kernel)) (by decide +kernel) rfl hm_z
      obtain ⟨p776_z, hm_z⟩ := hm_z
      have H40 := (fk_204_3_L (r := r) (g' := g') (k := k) k0_z nst)
      exact bk_t (bk_u (bk_i (by decide) (bk_4 (by decide) k0_z p776_z)) bk_r) (H40 _ _ hm_z)
theorem fk_203_3 {nst : Nat} {r : Option Value} {g g' : am_H} {k : Int32} (k0_z : 0 ≤ k.toInt) (hm_z : rn nst am_m203 0 (lv_args 0 [.ref 164, .int 3, .int k]) [] g r g') : bk g g' := by
  have g0_z : am_get (lv_args 0 [.ref 164, .int 3, .int k]) 0 = some (.ref 164) := rfl
  have g1_z : am_get (lv_args 0 [.ref 164, .int 3, .int k]) 1 = some (.int 3) := rfl
  have g2_z : am_get (lv_args 0 [.ref 164, .int 3, .int k]) 2 = some (.int k) := rfl
  replace hm_z := rn_aload_n (am_cur_of (i := (0, 1, .aload_n 0, (0, 0, 0), 0)) (by decide +kernel)) g0_z hm_z
  replace hm_z := rn_iload_n (am_cur_of (i := (1, 1, .iload_n 1, (0, 0, 0), 0)) (by decide +kernel)) g1_z hm_z
  replace hm_z := rn_iload_n (am_cur_of (i := (2, 1, .iload_n 2, (0, 0, 0), 0)) (by decide +kernel)) g2_z hm_z
  replace hm_z := rn_callV (M' := am_m204) (o := 164) (ar := [.int k, .int 3]) (rest := []) (L := lv_args 0 [.ref 164, .int 3, .int k]) (am_cur_of (i := (3, 3, .invokevirtual 413, (204, 1847, 3), 0)) (by decide +kernel)) rfl rfl rfl rfl hm_z
  obtain ⟨r777_z, h778_z, q779_z, hm_z⟩ := hm_z
  have k780_z := fk_204_3 k0_z q779_z
  have vo := rn_void rfl q779_z
  subst vo
  replace hm_z : rn _ _ _ _ [] _ _ _ := hm_z
  replace hm_z := rn_aload_n (am_cur_of (i := (6, 1, .aload_n 0, (0, 0, 0), 0)) (by decide +kernel)) g0_z hm_z
  replace hm_z := rn_getR (x := 191) (am_cur_of (i := (7, 3, .getfield 94, (12, 53, 1437), 0)) (by decide +kernel)) (by decide +kernel) hm_z
  replace hm_z := rn_iconst (w := 4) (am_cur_of (i := (10, 1, .iconst 4, (0, 0, 0), 0)) (by decide +kernel)) (by decide) hm_z
  replace hm_z := rn_iload_n (am_cur_of (i := (11, 1, .iload_n 1, (0, 0, 0), 0)) (by decide +kernel)) g1_z hm_z
  replace hm_z := rn_imul (w := 12) (am_cur_of (i := (12, 1, .imul, (0, 0, 0), 0)) (by decide +kernel)) (by decide) hm_z
  replace hm_z := rn_iload_n (am_cur_of (i := (13, 1, .iload_n 2, (0, 0, 0), 0)) (by decide +kernel)) g2_z hm_z
  replace hm_z := rn_iadd (w := (12 : Int32) + k) (am_cur_of (i := (14, 1, .iadd, (0, 0, 0), 0)) (by decide +kernel)) rfl hm_z
  replace hm_z := rn_iaload (N := 16) (q := ((12 : Int32) + k).toNatClampNeg) (v := rg_v h778_z 191 (((12 : Int32) + k).toNatClampNeg)) (am_cur_of (i := (15, 1, .iaload, (0, 0, 0), 0)) (by decide +kernel)) (by decide +kernel) rfl rfl hm_z
  obtain ⟨p781_z, hm_z⟩ := hm_z
  replace hm_z := rn_aload_n (am_cur_of (i := (16, 1, .aload_n 0, (0, 0, 0), 0)) (by decide +kernel)) g0_z hm_z
  replace hm_z := rn_getR (x := 170) (am_cur_of (i := (17, 3, .getfield 30, (12, 25, 1409), 0)) (by decide +kernel)) (by decide +kernel) hm_z
  replace hm_z := rn_bipush (w := 7) (am_cur_of (i := (20, 2, .bipush 7, (0, 0, 0), 0)) (by decide +kernel)) (by decide) hm_z
  replace hm_z := rn_iload_n (am_cur_of (i := (22, 1, .iload_n 2, (0, 0, 0), 0)) (by decide +kernel)) g2_z hm_z
  replace hm_z := rn_imul (w := (7 : Int32) * k) (am_cur_of (i := (23, 1, .imul, (0, 0, 0), 0)) (by decide +kernel)) rfl hm_z
  replace hm_z := rn_iconst (w := 2) (am_cur_of (i := (24, 1, .iconst 2, (0, 0, 0), 0)) (by decide +kernel)) (by decide) hm_z
  replace hm_z := rn_iadd (w := ((7 : Int32) * k) + 2) (am_cur_of (i := (25, 1, .iadd, (0, 0, 0), 0)) (by decide +kernel)) rfl hm_z
  replace hm_z := rn_iaload (N := 56) (q := (((7 : Int32) * k) + 2).toNatClampNeg) (v := rg_v h778_z 170 ((((7 : Int32) * k) + 2).toNatClampNeg)) (am_cur_of (i := (26, 1, .iaload, (0, 0, 0), 0)) (by decide +kernel)) (by decide +kernel) rfl rfl hm_z
  obtain ⟨p782_z, hm_z⟩ := hm_z
  replace hm_z := rn_cmp (am_cur_of (i := (27, 3, .if_icmp .lt 7, (23, 0, 0), 0)) (by decide +kernel)) hm_z
  rcases hm_z with ⟨b783_z, hm_z⟩ | ⟨b783_z, hm_z⟩
  · replace b783_z : (rg_v h778_z 191 (((12 : Int32) + k).toNatClampNeg)).toInt < (rg_v h778_z 170 ((((7 : Int32) * k) + 2).toNatClampNeg)).toInt := b783_z
    replace hm_z := rn_iconst (w := 0) (am_cur_of (i := (34, 1, .iconst 0, (0, 0, 0), 0)) (by decide +kernel)) (by decide) hm_z
    replace hm_z := rn_iret (am_cur_of (i := (35, 1, .ireturn, (0, 0, 0), 0)) (by decide +kernel)) hm_z
    obtain ⟨e784_z, e785_z⟩ := hm_z
    rw [e785_z]
    exact (bk_t bk_r k780_z)
  · replace b783_z : (rg_v h778_z 170 ((((7 : Int32) * k) + 2).toNatClampNeg)).toInt ≤ (rg_v h778_z 191 (((12 : Int32) + k).toNatClampNeg)).toInt := b783_z
    replace hm_z := rn_iconst (w := 1) (am_cur_of (i := (30, 1, .iconst 1, (0, 0, 0), 0)) (by decide +kernel)) (by decide) hm_z
    replace hm_z := rn_goto (am_cur_of (i := (31, 3, .goto 4, (24, 0, 0), 0)) (by decide +kernel)) hm_z
    replace hm_z := rn_iret (am_cur_of (i := (35, 1, .ireturn, (0, 0, 0), 0)) (by decide +kernel)) hm_z
    obtain ⟨e786_z, e787_z⟩ := hm_z
    rw [e787_z]
    exact (bk_t bk_r k780_z)
theorem fk_205_3 {nst : Nat} {r : Option Value} {g g' : am_H} {k : Int32} (k0_z : 0 ≤ k.toInt) (hm_z : rn nst am_m205 0 (lv_args 0 [.ref 164, .int 3, .int k]) [] g r g') : bk g g' := by
  have g0_z : am_get (lv_args 0 [.ref 164, .int 3, .int k]) 0 = some (.ref 164) := rfl
  have g1_z : am_get (lv_args 0 [.ref 164, .int 3, .int k]) 1 = some (.int 3) := rfl
  have g2_z : am_get (lv_args 0 [.ref 164, .int 3, .int k]) 2 = some (.int k) := rfl
  replace hm_z := rn_aload_n (am_cur_of (i := (0, 1, .aload_n 0, (0, 0, 0), 0)) (by decide +kernel)) g0_z hm_z
  replace hm_z := rn_iload_n (am_cur_of (i := (1, 1, .iload_n 1, (0, 0, 0), 0)) (by decide +kernel)) g1_z hm_z
  replace hm_z := rn_iload_n (am_cur_of (i := (2, 1, .iload_n 2, (0, 0, 0), 0)) (by decide +kernel)) g2_z hm_z
  replace hm_z := rn_callV (M' := am_m206) (o := 164) (ar := [.int k, .int 3]) (rest := []) (L := lv_args 0 [.ref 164, .int 3, .int k]) (am_cur_of (i := (3, 3, .invokevirtual 417, (206, 1855, 3), 0)) (by decide +kernel)) rfl rfl rfl rfl hm_z
  obtain ⟨r788_z, h789_z, q790_z, hm_z⟩ := hm_z
  have k791_z := nq_206 q790_z
  obtain ⟨v792_z, rfl⟩ := rn_ret (M := am_m206) rfl (by decide) q790_z
  replace hm_z : rn _ _ _ _ [.int v792_z] _ _ _ := hm_z
  replace hm_z := rn_istore_n (am_cur_of (i := (6, 1, .istore_n 3, (0, 0, 0), 0)) (by decide +kernel)) hm_z
  obtain ⟨_, s793_z, s794_z, g3_z, hm_z⟩ := hm_z
  replace g0_z := s793_z 0 _ (by decide) rfl g0_z
  replace g1_z := s793_z 1 _ (by decide) rfl g1_z
  replace g2_z := s793_z 2 _ (by decide) rfl g2_z
  clear s793_z s794_z
  replace hm_z := rn_aload_n (am_cur_of (i := (7, 1, .aload_n 0, (0, 0, 0), 0)) (by decide +kernel)) g0_z hm_z
  replace hm_z := rn_iload_n (am_cur_of (i := (8, 1, .iload_n 1, (0, 0, 0), 0)) (by decide +kernel)) g1_z hm_z
  replace hm_z := rn_iconst (w := 0) (am_cur_of (i := (9, 1, .iconst 0, (0, 0, 0), 0)) (by decide +kernel)) (by decide) hm_z
  replace hm_z := rn_callV (M' := am_m188) (o := 164) (ar := [.int 0, .int 3]) (rest := []) (L := lv_args 0 [.ref 164, .int 3, .int 0]) (am_cur_of (i := (10, 3, .invokevirtual 403, (188, 1783, 3), 0)) (by decide +kernel)) rfl rfl rfl rfl hm_z
  obtain ⟨r795_z, h796_z, q797_z, hm_z⟩ := hm_z
  have k798_z := nq_188 q797_z
  obtain ⟨v799_z, rfl⟩ := rn_ret (M := am_m188) rfl (by decide) q797_z
  replace hm_z : rn _ _ _ _ [.int v799_z] _ _ _ := hm_z
  replace hm_z := rn_istore (am_cur_of (i := (13, 2, .istore 4, (0, 0, 0), 0)) (by decide +kernel)) hm_z
  obtain ⟨_, s800_z, s801_z, g4_z, hm_z⟩ := hm_z
  replace g0_z := s800_z 0 _ (by decide) rfl g0_z
  replace g1_z := s800_z 1 _ (by decide) rfl g1_z
  replace g2_z := s800_z 2 _ (by decide) rfl g2_z
  replace g3_z := s800_z 3 _ (by decide) rfl g3_z
  clear s800_z s801_z
  replace hm_z := rn_aload_n (am_cur_of (i := (15, 1, .aload_n 0, (0, 0, 0), 0)) (by decide +kernel)) g0_z hm_z
  replace hm_z := rn_iload_n (am_cur_of (i := (16, 1, .iload_n 1, (0, 0, 0), 0)) (by decide +kernel)) g1_z hm_z
  replace hm_z := rn_iconst (w := 0) (am_cur_of (i := (17, 1, .iconst 0, (0, 0, 0), 0)) (by decide +kernel)) (by decide) hm_z
  replace hm_z := rn_iload (am_cur_of (i := (18, 2, .iload 4, (0, 0, 0), 0)) (by decide +kernel)) g4_z hm_z
  replace hm_z := rn_iload_n (am_cur_of (i := (20, 1, .iload_n 3, (0, 0, 0), 0)) (by decide +kernel)) g3_z hm_z
  replace hm_z := rn_callV (M' := am_m189) (o := 164) (ar := [.int v792_z, .int v799_z, .int 0, .int 3]) (rest := []) (L := lv_args 0 [.ref 164, .int 3, .int 0, .int v799_z, .int v792_z]) (am_cur_of (i := (21, 3, .invokevirtual 392, (189, 1787, 3), 0)) (by decide +kernel)) rfl rfl rfl rfl hm_z
  obtain ⟨r802_z, h803_z, q804_z, hm_z⟩ := hm_z
  have k805_z := nq_189 q804_z
  have vo := rn_void rfl q804_z
  subst vo
  replace hm_z : rn _ _ _ _ [] _ _ _ := hm_z
  replace hm_z := rn_aload_n (am_cur_of (i := (24, 1, .aload_n 0, (0, 0, 0), 0)) (by decide +kernel)) g0_z hm_z
  replace hm_z := rn_getR (x := 188) (am_cur_of (i := (25, 3, .getfield 85, (12, 50, 1434), 0)) (by decide +kernel)) (by decide +kernel) hm_z
  replace hm_z := rn_iload_n (am_cur_of (i := (28, 1, .iload_n 1, (0, 0, 0), 0)) (by decide +kernel)) g1_z hm_z
  replace hm_z := rn_iaload (N := 4) (q := 3) (v := rg_v h803_z 188 3) (am_cur_of (i := (29, 1, .iaload, (0, 0, 0), 0)) (by decide +kernel)) (by decide +kernel) rfl rfl hm_z
  obtain ⟨p806_z, hm_z⟩ := hm_z
  replace hm_z := rn_aload_n (am_cur_of (i := (30, 1, .aload_n 0, (0, 0, 0), 0)) (by decide +kernel)) g0_z hm_z
  replace hm_z := rn_iconst (w := 1) (am_cur_of (i := (31, 1, .iconst 1, (0, 0, 0), 0)) (by decide +kernel)) (by decide) hm_z
  replace hm_z := rn_iload_n (am_cur_of (i := (32, 1, .iload_n 3, (0, 0, 0), 0)) (by decide +kernel)) g3_z hm_z
  replace hm_z := rn_bipush (w := 99) (am_cur_of (i := (33, 2, .bipush 99, (0, 0, 0), 0)) (by decide +kernel)) (by decide) hm_z
  replace hm_z := rn_callV (M' := am_m190) (o := 164) (ar := [.int 99, .int v792_z, .int 1]) (rest := [.int (rg_v h803_z 188 3)]) (L := lv_args 0 [.ref 164, .int 1, .int v792_z, .int 99]) (am_cur_of (i := (35, 3, .invokevirtual 396, (190, 1791, 3), 0)) (by decide +kernel)) rfl rfl rfl rfl hm_z
  obtain ⟨r807_z, h808_z, q809_z, hm_z⟩ := hm_z
  have k810_z := nq_190 q809_z
  obtain ⟨v811_z, rfl⟩ := rn_ret (M := am_m190) rfl (by decide) q809_z
  replace hm_z : rn _ _ _ _ [.int v811_z, .int (rg_v h803_z 188 3)] _ _ _ := hm_z
  replace hm_z := rn_iadd (w := (rg_v h803_z 188 3) + v811_z) (am_cur_of (i := (38, 1, .iadd, (0, 0, 0), 0)) (by decide +kernel)) rfl hm_z
  replace hm_z := rn_istore (am_cur_of (i := (39, 2, .istore 5, (0, 0, 0), 0)) (by decide +kernel)) hm_z
  obtain ⟨_, s812_z, s813_z, g5_z, hm_z⟩ := hm_z
  replace g0_z := s812_z 0 _ (by decide) rfl g0_z
  replace g1_z := s812_z 1 _ (by decide) rfl g1_z
  replace g2_z := s812_z 2 _ (by decide) rfl g2_z
  replace g3_z := s812_z 3 _ (by decide) rfl g3_z
  replace g4_z := s812_z 4 _ (by decide) rfl g4_z
  clear s812_z s813_z
  replace hm_z := rn_aload_n (am_cur_of (i := (41, 1, .aload_n 0, (0, 0, 0), 0)) (by decide +kernel)) g0_z hm_z
  replace hm_z := rn_getR (x := 188) (am_cur_of (i := (42, 3, .getfield 85, (12, 50, 1434), 0)) (by decide +kernel)) (by decide +kernel) hm_z
  replace hm_z := rn_iload_n (am_cur_of (i := (45, 1, .iload_n 1, (0, 0, 0), 0)) (by decide +kernel)) g1_z hm_z
  replace hm_z := rn_iload (am_cur_of (i := (46, 2, .iload 5, (0, 0, 0), 0)) (by decide +kernel)) g5_z hm_z
  replace hm_z := rn_aload_n (am_cur_of (i := (48, 1, .aload_n 0, (0, 0, 0), 0)) (by decide +kernel)) g0_z hm_z
  replace hm_z := rn_getR (x := 168) (am_cur_of (i := (49, 3, .getfield 24, (12, 23, 1407), 0)) (by decide +kernel)) (by decide +kernel) hm_z
  replace hm_z := rn_iconst (w := 0) (am_cur_of (i := (52, 1, .iconst 0, (0, 0, 0), 0)) (by decide +kernel)) (by decide) hm_z
  replace hm_z := rn_iaload (N := 12) (q := 0) (v := rg_v h808_z 168 0) (am_cur_of (i := (53, 1, .iaload, (0, 0, 0), 0)) (by decide +kernel)) (by decide +kernel) rfl rfl hm_z
  obtain ⟨p814_z, hm_z⟩ := hm_z
  replace hm_z := rn_cmp (am_cur_of (i := (54, 3, .if_icmp .le 12, (41, 0, 0), 0)) (by decide +kernel)) hm_z
  rcases hm_z with ⟨b815_z, hm_z⟩ | ⟨b815_z, hm_z⟩
  · replace b815_z : ((rg_v h803_z 188 3) + v811_z).toInt ≤ (rg_v h808_z 168 0).toInt := b815_z
    replace hm_z := rn_iload (am_cur_of (i := (66, 2, .iload 5, (0, 0, 0), 0)) (by decide +kernel)) g5_z hm_z
    replace hm_z := rn_iastore (N := 4) (q := 3) (am_cur_of (i := (68, 1, .iastore, (0, 0, 0), 0)) (by decide +kernel)) (by decide +kernel) rfl hm_z
    obtain ⟨p816_z, hm_z⟩ := hm_z
    replace hm_z := rn_aload_n (am_cur_of (i := (69, 1, .aload_n 0, (0, 0, 0), 0)) (by decide +kernel)) g0_z hm_z
    replace hm_z := rn_getR (x := 191) (am_cur_of (i := (70, 3, .getfield 94, (12, 53, 1437), 0)) (by decide +kernel)) (by decide +kernel) hm_z
    replace hm_z := rn_iconst (w := 4) (am_cur_of (i := (73, 1, .iconst 4, (0, 0, 0), 0)) (by decide +kernel)) (by decide) hm_z
    replace hm_z := rn_iload_n (am_cur_of (i := (74, 1, .iload_n 1, (0, 0, 0), 0)) (by decide +kernel)) g1_z hm_z
    replace hm_z := rn_imul (w := 12) (am_cur_of (i := (75, 1, .imul, (0, 0, 0), 0)) (by decide +kernel)) (by decide) hm_z
    replace hm_z := rn_iload_n (am_cur_of (i := (76, 1, .iload_n 2, (0, 0, 0), 0)) (by decide +kernel)) g2_z hm_z
    replace hm_z := rn_iadd (w := (12 : Int32) + k) (am_cur_of (i := (77, 1, .iadd, (0, 0, 0), 0)) (by decide +kernel)) rfl hm_z
    replace hm_z := rn_dup2 (am_cur_of (i := (78, 1, .dup2, (0, 0, 0), 0)) (by decide +kernel)) hm_z
    replace hm_z := rn_iaload (N := 16) (q := ((12 : Int32) + k).toNatClampNeg) (v := rg_v h808_z 191 (((12 : Int32) + k).toNatClampNeg)) (am_cur_of (i := (79, 1, .iaload, (0, 0, 0), 0)) (by decide +kernel)) (by decide +kernel) rfl (show rg_v (am_up h808_z 188 3 (.int ((rg_v h803_z 188 3) + v811_z))) 191 (((12 : Int32) + k).toNatClampNeg) = rg_v h808_z 191 (((12 : Int32) + k).toNatClampNeg) from rfl) hm_z
    obtain ⟨p817_z, hm_z⟩ := hm_z
    replace hm_z := rn_iconst (w := 1) (am_cur_of (i := (80, 1, .iconst 1, (0, 0, 0), 0)) (by decide +kernel)) (by decide) hm_z
    replace hm_z := rn_iadd (w := (rg_v h808_z 191 (((12 : Int32) + k).toNatClampNeg)) + 1) (am_cur_of (i := (81, 1, .iadd, (0, 0, 0), 0)) (by decide +kernel)) rfl hm_z
    replace hm_z := rn_iastore (N := 16) (q := ((12 : Int32) + k).toNatClampNeg) (am_cur_of (i := (82, 1, .iastore, (0, 0, 0), 0)) (by decide +kernel)) (by decide +kernel) rfl hm_z
    obtain ⟨p818_z, hm_z⟩ := hm_z
    replace hm_z := rn_aload_n (am_cur_of (i := (83, 1, .aload_n 0, (0, 0, 0), 0)) (by decide +kernel)) g0_z hm_z
    replace hm_z := rn_getR (x := 192) (am_cur_of (i := (84, 3, .getfield 97, (12, 54, 1438), 0)) (by decide +kernel)) (by decide +kernel) hm_z
    replace hm_z := rn_iconst (w := 4) (am_cur_of (i := (87, 1, .iconst 4, (0, 0, 0), 0)) (by decide +kernel)) (by decide) hm_z
    replace hm_z := rn_iload_n (am_cur_of (i := (88, 1, .iload_n 1, (0, 0, 0), 0)) (by decide +kernel)) g1_z hm_z
    replace hm_z := rn_imul (w := 12) (am_cur_of (i := (89, 1, .imul, (0, 0, 0), 0)) (by decide +kernel)) (by decide) hm_z
    replace hm_z := rn_iload_n (am_cur_of (i := (90, 1, .iload_n 2, (0, 0, 0), 0)) (by decide +kernel)) g2_z hm_z
    replace hm_z := rn_iadd (w := (12 : Int32) + k) (am_cur_of (i := (91, 1, .iadd, (0, 0, 0), 0)) (by decide +kernel)) rfl hm_z
    replace hm_z := rn_dup2 (am_cur_of (i := (92, 1, .dup2, (0, 0, 0), 0)) (by decide +kernel)) hm_z
    replace hm_z := rn_iaload (N := 16) (q := ((12 : Int32) + k).toNatClampNeg) (v := rg_v h808_z 192 (((12 : Int32) + k).toNatClampNeg)) (am_cur_of (i := (93, 1, .iaload, (0, 0, 0), 0)) (by decide +kernel)) (by decide +kernel) rfl (show rg_v (am_up (am_up h808_z 188 3 (.int ((rg_v h803_z 188 3) + v811_z))) 191 (((12 : Int32) + k).toNatClampNeg) (.int ((rg_v h808_z 191 (((12 : Int32) + k).toNatClampNeg)) + 1))) 192 (((12 : Int32) + k).toNatClampNeg) = rg_v h808_z 192 (((12 : Int32) + k).toNatClampNeg) from rfl) hm_z
    obtain ⟨p819_z, hm_z⟩ := hm_z
    replace hm_z := rn_iconst (w := 1) (am_cur_of (i := (94, 1, .iconst 1, (0, 0, 0), 0)) (by decide +kernel)) (by decide) hm_z
    replace hm_z := rn_iadd (w := (rg_v h808_z 192 (((12 : Int32) + k).toNatClampNeg)) + 1) (am_cur_of (i := (95, 1, .iadd, (0, 0, 0), 0)) (by decide +kernel)) rfl hm_z
    replace hm_z := rn_iastore (N := 16) (q := ((12 : Int32) + k).toNatClampNeg) (am_cur_of (i := (96, 1, .iastore, (0, 0, 0), 0)) (by decide +kernel)) (by decide +kernel) rfl hm_z
    obtain ⟨p820_z, hm_z⟩ := hm_z
    replace hm_z := rn_aload_n (am_cur_of (i := (97, 1, .aload_n 0, (0, 0, 0), 0)) (by decide +kernel)) g0_z hm_z
    replace hm_z := rn_getR (x := 193) (am_cur_of (i := (98, 3, .getfield 100, (12, 55, 1439), 0)) (by decide +kernel)) (by decide +kernel) hm_z
    replace hm_z := rn_iconst (w := 4) (am_cur_of (i := (101, 1, .iconst 4, (0, 0, 0), 0)) (by decide +kernel)) (by decide) hm_z
    replace hm_z := rn_iload_n (am_cur_of (i := (102, 1, .iload_n 1, (0, 0, 0), 0)) (by decide +kernel)) g1_z hm_z
    replace hm_z := rn_imul (w := 12) (am_cur_of (i := (103, 1, .imul, (0, 0, 0), 0)) (by decide +kernel)) (by decide) hm_z
    replace hm_z := rn_iload_n (am_cur_of (i := (104, 1, .iload_n 2, (0, 0, 0), 0)) (by decide +kernel)) g2_z hm_z
    replace hm_z := rn_iadd (w := (12 : Int32) + k) (am_cur_of (i := (105, 1, .iadd, (0, 0, 0), 0)) (by decide +kernel)) rfl hm_z
    replace hm_z := rn_aload_n (am_cur_of (i := (106, 1, .aload_n 0, (0, 0, 0), 0)) (by decide +kernel)) g0_z hm_z
    replace hm_z := rn_getR (x := 189) (am_cur_of (i := (107, 3, .getfield 88, (12, 51, 1435), 0)) (by decide +kernel)) (by decide +kernel) hm_z
    replace hm_z := rn_iload_n (am_cur_of (i := (110, 1, .iload_n 1, (0, 0, 0), 0)) (by decide +kernel)) g1_z hm_z
    replace hm_z := rn_iaload (N := 4) (q := 3) (v := rg_v h808_z 189 3) (am_cur_of (i := (111, 1, .iaload, (0, 0, 0), 0)) (by decide +kernel)) (by decide +kernel) rfl (show rg_v (am_up (am_up (am_up h808_z 188 3 (.int ((rg_v h803_z 188 3) + v811_z))) 191 (((12 : Int32) + k).toNatClampNeg) (.int ((rg_v h808_z 191 (((12 : Int32) + k).toNatClampNeg)) + 1))) 192 (((12 : Int32) + k).toNatClampNeg) (.int ((rg_v h808_z 192 (((12 : Int32) + k).toNatClampNeg)) + 1))) 189 3 = rg_v h808_z 189 3 from rfl) hm_z
    obtain ⟨p821_z, hm_z⟩ := hm_z
    replace hm_z := rn_iastore (N := 16) (q := ((12 : Int32) + k).toNatClampNeg) (am_cur_of (i := (112, 1, .iastore, (0, 0, 0), 0)) (by decide +kernel)) (by decide +kernel) rfl hm_z
    obtain ⟨p822_z, hm_z⟩ := hm_z
    replace hm_z := rn_aload_n (am_cur_of (i := (113, 1, .aload_n 0, (0, 0, 0), 0)) (by decide +kernel)) g0_z hm_z
    replace hm_z := rn_getR (x := 190) (am_cur_of (i := (114, 3, .getfield 91, (12, 52, 1436), 0)) (by decide +kernel)) (by decide +kernel) hm_z
    replace hm_z := rn_iload_n (am_cur_of (i := (117, 1, .iload_n 1, (0, 0, 0), 0)) (by decide +kernel)) g1_z hm_z
    replace hm_z := rn_iload_n (am_cur_of (i := (118, 1, .iload_n 2, (0, 0, 0), 0)) (by decide +kernel)) g2_z hm_z
    replace hm_z := rn_iastore (N := 4) (q := 3) (am_cur_of (i := (119, 1, .iastore, (0, 0, 0), 0)) (by decide +kernel)) (by decide +kernel) rfl hm_z
    obtain ⟨p823_z, hm_z⟩ := hm_z
    replace hm_z := rn_vret (am_cur_of (i := (120, 1, .return_, (0, 0, 0), 0)) (by decide +kernel)) hm_z
    obtain ⟨e824_z, e825_z⟩ := hm_z
    rw [e825_z]
    exact (bk_u (by decide) (bk_u (bk_i (by decide) (bk_4 (by decide) k0_z p822_z)) (bk_u (bk_i (by decide) (bk_4 (by decide) k0_z p820_z)) (bk_u (bk_i (by decide) (bk_4 (by decide) k0_z p818_z)) (bk_u (by decide) (bk_t (bk_t (bk_t (bk_t bk_r (bk_n k791_z)) (bk_n k798_z)) (bk_n k805_z)) (bk_n k810_z)))))))
  · replace b815_z : (rg_v h808_z 168 0).toInt < ((rg_v h803_z 188 3) + v811_z).toInt := b815_z
    replace hm_z := rn_aload_n (am_cur_of (i := (57, 1, .aload_n 0, (0, 0, 0), 0)) (by decide +kernel)) g0_z hm_z
    replace hm_z := rn_getR (x := 168) (am_cur_of (i := (58, 3, .getfield 24, (12, 23, 1407), 0)) (by decide +kernel)) (by decide +kernel) hm_z
    replace hm_z := rn_iconst (w := 0) (am_cur_of (i := (61, 1, .iconst 0, (0, 0, 0), 0)) (by decide +kernel)) (by decide) hm_z
    replace hm_z := rn_iaload (N := 12) (q := 0) (v := rg_v h808_z 168 0) (am_cur_of (i := (62, 1, .iaload, (0, 0, 0), 0)) (by decide +kernel)) (by decide +kernel) rfl rfl hm_z
    obtain ⟨p826_z, hm_z⟩ := hm_z
    replace hm_z := rn_goto (am_cur_of (i := (63, 3, .goto 5, (42, 0, 0), 0)) (by decide +kernel)) hm_z
    replace hm_z := rn_iastore (N := 4) (q := 3) (am_cur_of (i := (68, 1, .iastore, (0, 0, 0), 0)) (by decide +kernel)) (by decide +kernel) rfl hm_z
    obtain ⟨p827_z, hm_z⟩ := hm_z
    replace hm_z := rn_aload_n (am_cur_of (i := (69, 1, .aload_n 0, (0, 0, 0), 0)) (by decide +kernel)) g0_z hm_z
    replace hm_z := rn_getR (x := 191) (am_cur_of (i := (70, 3, .getfield 94, (12, 53, 1437), 0)) (by decide +kernel)) (by decide +kernel) hm_z
    replace hm_z := rn_iconst (w := 4) (am_cur_of (i := (73, 1, .iconst 4, (0, 0, 0), 0)) (by decide +kernel)) (by decide) hm_z
    replace hm_z := rn_iload_n (am_cur_of (i := (74, 1, .iload_n 1, (0, 0, 0), 0)) (by decide +kernel)) g1_z hm_z
    replace hm_z := rn_imul (w := 12) (am_cur_of (i := (75, 1, .imul, (0, 0, 0), 0)) (by decide +kernel)) (by decide) hm_z
    replace hm_z := rn_iload_n (am_cur_of (i := (76, 1, .iload_n 2, (0, 0, 0), 0)) (by decide +kernel)) g2_z hm_z
    replace hm_z := rn_iadd (w := (12 : Int32) + k) (am_cur_of (i := (77, 1, .iadd, (0, 0, 0), 0)) (by decide +kernel)) rfl hm_z
    replace hm_z := rn_dup2 (am_cur_of (i := (78, 1, .dup2, (0, 0, 0), 0)) (by decide +kernel)) hm_z
    replace hm_z := rn_iaload (N := 16) (q := ((12 : Int32) + k).toNatClampNeg) (v := rg_v h808_z 191 (((12 : Int32) + k).toNatClampNeg)) (am_cur_of (i := (79, 1, .iaload, (0, 0, 0), 0)) (by decide +kernel)) (by decide +kernel) rfl (show rg_v (am_up h808_z 188 3 (.int (rg_v h808_z 168 0))) 191 (((12 : Int32) + k).toNatClampNeg) = rg_v h808_z 191 (((12 : Int32) + k).toNatClampNeg) from rfl) hm_z
    obtain ⟨p828_z, hm_z⟩ := hm_z
    replace hm_z := rn_iconst (w := 1) (am_cur_of (i := (80, 1, .iconst 1, (0, 0, 0), 0)) (by decide +kernel)) (by decide) hm_z
    replace hm_z := rn_iadd (w := (rg_v h808_z 191 (((12 : Int32) + k).toNatClampNeg)) + 1) (am_cur_of (i := (81, 1, .iadd, (0, 0, 0), 0)) (by decide +kernel)) rfl hm_z
    replace hm_z := rn_iastore (N := 16) (q := ((12 : Int32) + k).toNatClampNeg) (am_cur_of (i := (82, 1, .iastore, (0, 0, 0), 0)) (by decide +kernel)) (by decide +kernel) rfl hm_z
    obtain ⟨p829_z, hm_z⟩ := hm_z
    replace hm_z := rn_aload_n (am_cur_of (i := (83, 1, .aload_n 0, (0, 0, 0), 0)) (by decide +kernel)) g0_z hm_z
    replace hm_z := rn_getR (x := 192) (am_cur_of (i := (84, 3, .getfield 97, (12, 54, 1438), 0)) (by decide +kernel)) (by decide +kernel) hm_z
    replace hm_z := rn_iconst (w := 4) (am_cur_of (i := (87, 1, .iconst 4, (0, 0, 0), 0)) (by decide +kernel)) (by decide) hm_z
    replace hm_z := rn_iload_n (am_cur_of (i := (88, 1, .iload_n 1, (0, 0, 0), 0)) (by decide +kernel)) g1_z hm_z
    replace hm_z := rn_imul (w := 12) (am_cur_of (i := (89, 1, .imul, (0, 0, 0), 0)) (by decide +kernel)) (by decide) hm_z
    replace hm_z := rn_iload_n (am_cur_of (i := (90, 1, .iload_n 2, (0, 0, 0), 0)) (by decide +kernel)) g2_z hm_z
    replace hm_z := rn_iadd (w := (12 : Int32) + k) (am_cur_of (i := (91, 1, .iadd, (0, 0, 0), 0)) (by decide +kernel)) rfl hm_z
    replace hm_z := rn_dup2 (am_cur_of (i := (92, 1, .dup2, (0, 0, 0), 0)) (by decide +kernel)) hm_z
    replace hm_z := rn_iaload (N := 16) (q := ((12 : Int32) + k).toNatClampNeg) (v := rg_v h808_z 192 (((12 : Int32) + k).toNatClampNeg)) (am_cur_of (i := (93, 1, .iaload, (0, 0, 0), 0)) (by decide +kernel)) (by decide +kernel) rfl (show rg_v (am_up (am_up h808_z 188 3 (.int (rg_v h808_z 168 0))) 191 (((12 : Int32) + k).toNatClampNeg) (.int ((rg_v h808_z 191 (((12 : Int32) + k).toNatClampNeg)) + 1))) 192 (((12 : Int32) + k).toNatClampNeg) = rg_v h808_z 192 (((12 : Int32) + k).toNatClampNeg) from rfl) hm_z
    obtain ⟨p830_z, hm_z⟩ := hm_z
    replace hm_z := rn_iconst (w := 1) (am_cur_of (i := (94, 1, .iconst 1, (0, 0, 0), 0)) (by decide +kernel)) (by decide) hm_z
    replace hm_z := rn_iadd (w := (rg_v h808_z 192 (((12 : Int32) + k).toNatClampNeg)) + 1) (am_cur_of (i := (95, 1, .iadd, (0, 0, 0), 0)) (by decide +kernel)) rfl hm_z
    replace hm_z := rn_iastore (N := 16) (q := ((12 : Int32) + k).toNatClampNeg) (am_cur_of (i := (96, 1, .iastore, (0, 0, 0), 0)) (by decide +kernel)) (by decide +kernel) rfl hm_z
    obtain ⟨p831_z, hm_z⟩ := hm_z
    replace hm_z := rn_aload_n (am_cur_of (i := (97, 1, .aload_n 0, (0, 0, 0), 0)) (by decide +kernel)) g0_z hm_z
    replace hm_z := rn_getR (x := 193) (am_cur_of (i := (98, 3, .getfield 100, (12, 55, 1439), 0)) (by decide +kernel)) (by decide +kernel) hm_z
    replace hm_z := rn_iconst (w := 4) (am_cur_of (i := (101, 1, .iconst 4, (0, 0, 0), 0)) (by decide +kernel)) (by decide) hm_z
    replace hm_z := rn_iload_n (am_cur_of (i := (102, 1, .iload_n 1, (0, 0, 0), 0)) (by decide +kernel)) g1_z hm_z
    replace hm_z := rn_imul (w := 12) (am_cur_of (i := (103, 1, .imul, (0, 0, 0), 0)) (by decide +kernel)) (by decide) hm_z
    replace hm_z := rn_iload_n (am_cur_of (i := (104, 1, .iload_n 2, (0, 0, 0), 0)) (by decide +kernel)) g2_z hm_z
    replace hm_z := rn_iadd (w := (12 : Int32) + k) (am_cur_of (i := (105, 1, .iadd, (0, 0, 0), 0)) (by decide +kernel)) rfl hm_z
    replace hm_z := rn_aload_n (am_cur_of (i := (106, 1, .aload_n 0, (0, 0, 0), 0)) (by decide +kernel)) g0_z hm_z
    replace hm_z := rn_getR (x := 189) (am_cur_of (i := (107, 3, .getfield 88, (12, 51, 1435), 0)) (by decide +kernel)) (by decide +kernel) hm_z
    replace hm_z := rn_iload_n (am_cur_of (i := (110, 1, .iload_n 1, (0, 0, 0), 0)) (by decide +kernel)) g1_z hm_z
    replace hm_z := rn_iaload (N := 4) (q := 3) (v := rg_v h808_z 189 3) (am_cur_of (i := (111, 1, .iaload, (0, 0, 0), 0)) (by decide +kernel)) (by decide +kernel) rfl (show rg_v (am_up (am_up (am_up h808_z 188 3 (.int (rg_v h808_z 168 0))) 191 (((12 : Int32) + k).toNatClampNeg) (.int ((rg_v h808_z 191 (((12 : Int32) + k).toNatClampNeg)) + 1))) 192 (((12 : Int32) + k).toNatClampNeg) (.int ((rg_v h808_z 192 (((12 : Int32) + k).toNatClampNeg)) + 1))) 189 3 = rg_v h808_z 189 3 from rfl) hm_z
    obtain ⟨p832_z, hm_z⟩ := hm_z
    replace hm_z := rn_iastore (N := 16) (q := ((12 : Int32) + k).toNatClampNeg) (am_cur_of (i := (112, 1, .iastore, (0, 0, 0), 0)) (by decide +kernel)) (by decide +kernel) rfl hm_z
    obtain ⟨p833_z, hm_z⟩ := hm_z
    replace hm_z := rn_aload_n (am_cur_of (i := (113, 1, .aload_n 0, (0, 0, 0), 0)) (by decide +kernel)) g0_z hm_z
    replace hm_z := rn_getR (x := 190) (am_cur_of (i := (114, 3, .getfield 91, (12, 52, 1436), 0)) (by decide +kernel)) (by decide +kernel) hm_z
    replace hm_z := rn_iload_n (am_cur_of (i := (117, 1, .iload_n 1, (0, 0, 0), 0)) (by decide +kernel)) g1_z hm_z
    replace hm_z := rn_iload_n (am_cur_of (i := (118, 1, .iload_n 2, (0, 0, 0), 0)) (by decide +kernel)) g2_z hm_z
    replace hm_z := rn_iastore (N := 4) (q := 3) (am_cur_of (i := (119, 1, .iastore, (0, 0, 0), 0)) (by decide +kernel)) (by decide +kernel) rfl hm_z
    obtain ⟨p834_z, hm_z⟩ := hm_z
    replace hm_z := rn_vret (am_cur_of (i := (120, 1, .return_, (0, 0, 0), 0)) (by decide +kernel)) hm_z
    obtain ⟨e835_z, e836_z⟩ := hm_z
    rw [e836_z]
    exact (bk_u (by decide) (bk_u (bk_i (by decide) (bk_4 (by decide) k0_z p833_z)) (bk_u (bk_i (by decide) (bk_4 (by decide) k0_z p831_z)) (bk_u (bk_i (by decide) (bk_4 (by decide) k0_z p829_z)) (bk_u (by decide) (bk_t (bk_t (bk_t (bk_t bk_r (bk_n k791_z)) (bk_n k798_z)) (bk_n k805_z)) (bk_n k810_z)))))))
theorem fk_216 {nst : Nat} {r : Option Value} {g g' : am_H} {o : Int32}  (hm_z : rn nst am_m216 0 (lv_args 0 [.ref 164, .int o]) [] g r g') : bk g g' := by
  have z3600_z : (3600 : Int32).toInt = 3600 := by decide
  have g0_z : am_get (lv_args 0 [.ref 164, .int o]) 0 = some (.ref 164) := rfl
  have g1_z : am_get (lv_args 0 [.ref 164, .int o]) 1 = some (.int o) := rfl
  replace hm_z := rn_aload_n (am_cur_of (i := (0, 1, .aload_n 0, (0, 0, 0), 0)) (by decide +kernel)) g0_z hm_z
  replace hm_z := rn_iconst (w := 1) (am_cur_of (i := (1, 1, .iconst 1, (0, 0, 0), 0)) (by decide +kernel)) (by decide) hm_z
  replace hm_z := rn_iload_n (am_cur_of (i := (2, 1, .iload_n 1, (0, 0, 0), 0)) (by decide +kernel)) g1_z hm_z
  replace hm_z := rn_iconst (w := 0) (am_cur_of (i := (3, 1, .iconst 0, (0, 0, 0), 0)) (by decide +kernel)) (by decide) hm_z
  replace hm_z := rn_callV (M' := am_m199) (o := 164) (ar := [.int 0, .int o, .int 1]) (rest := []) (L := lv_args 0 [.ref 164, .int 1, .int o, .int 0]) (am_cur_of (i := (4, 3, .invokevirtual 434, (199, 1828, 3), 0)) (by decide +kernel)) rfl rfl rfl rfl hm_z
  obtain ⟨r837_z, h838_z, q839_z, hm_z⟩ := hm_z
  have k840_z := fk_199_1 q839_z
  have vo := rn_void rfl q839_z
  subst vo
  replace hm_z : rn _ _ _ _ [] _ _ _ := hm_z
  replace hm_z := rn_aload_n (am_cur_of (i := (7, 1, .aload_n 0, (0, 0, 0), 0)) (by decide +kernel)) g0_z hm_z
  replace hm_z := rn_getR (x := 189) (am_cur_of (i := (8, 3, .getfield 88, (12, 51, 1435), 0)) (by decide +kernel)) (by decide +kernel) hm_z
  replace hm_z := rn_iconst (w := 1) (am_cur_of (i := (11, 1, .iconst 1, (0, 0, 0), 0)) (by decide +kernel)) (by decide) hm_z
  replace hm_z := rn_iaload (N := 4) (q := 1) (v := rg_v h838_z 189 1) (am_cur_of (i := (12, 1, .iaload, (0, 0, 0), 0)) (by decide +kernel)) (by decide +kernel) rfl rfl hm_z
  obtain ⟨p841_z, hm_z⟩ := hm_z
  replace hm_z := rn_aload_n (am_cur_of (i := (13, 1, .aload_n 0, (0, 0, 0), 0)) (by decide +kernel)) g0_z hm_z
  replace hm_z := rn_getI (v := rg_v h838_z 164 63) (am_cur_of (i := (14, 3, .getfield 447, (12, 63, 1447), 0)) (by decide +kernel)) (by decide +kernel) rfl hm_z
  replace hm_z := rn_isub (w := (rg_v h838_z 189 1) - (rg_v h838_z 164 63)) (am_cur_of (i := (17, 1, .isub, (0, 0, 0), 0)) (by decide +kernel)) rfl hm_z
  replace hm_z := rn_sipush (w := 3600) (am_cur_of (i := (18, 3, .sipush 3600, (0, 0, 0), 0)) (by decide +kernel)) (by decide) hm_z
  replace hm_z := rn_cmp (am_cur_of (i := (21, 3, .if_icmp .ge 7, (16, 0, 0), 0)) (by decide +kernel)) hm_z
  rcases hm_z with ⟨b842_z, hm_z⟩ | ⟨b842_z, hm_z⟩
  · replace b842_z : (3600 : Int32).toInt ≤ ((rg_v h838_z 189 1) - (rg_v h838_z 164 63)).toInt := b842_z
    replace hm_z := rn_iconst (w := 0) (am_cur_of (i := (28, 1, .iconst 0, (0, 0, 0), 0)) (by decide +kernel)) (by decide) hm_z
    replace hm_z := rn_iret (am_cur_of (i := (29, 1, .ireturn, (0, 0, 0), 0)) (by decide +kernel)) hm_z
    obtain ⟨e843_z, e844_z⟩ := hm_z
    rw [e844_z]
    exact (bk_t bk_r k840_z)
  · replace b842_z : ((rg_v h838_z 189 1) - (rg_v h838_z 164 63)).toInt < (3600 : Int32).toInt := b842_z
    replace hm_z := rn_iconst (w := 1) (am_cur_of (i := (24, 1, .iconst 1, (0, 0, 0), 0)) (by decide +kernel)) (by decide) hm_z
    replace hm_z := rn_goto (am_cur_of (i := (25, 3, .goto 4, (17, 0, 0), 0)) (by decide +kernel)) hm_z
    replace hm_z := rn_iret (am_cur_of (i := (29, 1, .ireturn, (0, 0, 0), 0)) (by decide +kernel)) hm_z
    obtain ⟨e845_z, e846_z⟩ := hm_z
    rw [e846_z]
    exact (bk_t bk_r k840_z)
theorem fk_215_L {r : Option Value} {g' : am_H} {k : Int32} {w : Int32} (k0_z : 0 ≤ k.toInt) : ∀ f : Nat, (∀ (v3_z : Int32) (v4_z : Int32) (ls : am_L) (g : am_H), am_get ls 0 = some (.ref 164) → am_get ls 1 = some (.int k) → am_get ls 2 = some (.int w) → am_get ls 3 = some (.int v3_z) → am_get ls 4 = some (.int v4_z) → rn f am_m215 4 ls [] g r g' → bk g g') ∧ (∀ (v3_z : Int32) (ls : am_L) (g : am_H), am_get ls 0 = some (.ref 164) → am_get ls 1 = some (.int k) → am_get ls 2 = some (.int w) → am_get ls 3 = some (.int v3_z) → rn f am_m215 27 ls [] g r g' → bk g g') ∧ (∀ (v3_z : Int32) (ls : am_L) (g : am_H), am_get ls 0 = some (.ref 164) → am_get ls 1 = some (.int k) → am_get ls 3 = some (.int v3_z) → rn f am_m215 41 ls [] g r g' → bk g g') ∧ (∀ (v3_z : Int32) (v4_z : Int32) (ls : am_L) (g : am_H), am_get ls 0 = some (.ref 164) → am_get ls 1 = some (.int k) → am_get ls 3 = some (.int v3_z) → am_get ls 4 = some (.int v4_z) → rn f am_m215 47 ls [] g r g' → bk g g') ∧ (∀ (v3_z : Int32) (v4_z : Int32) (ls : am_L) (g : am_H), am_get ls 0 = some (.ref 164) → am_get ls 1 = some (.int k) → am_get ls 3 = some (.int v3_z) → am_get ls 4 = some (.int v4_z) → rn f am_m215 65 ls [] g r g' → bk g g') ∧ (∀ (v3_z : Int32) (ls : am_L) (g : am_H), am_get ls 3 = some (.int v3_z) → rn f am_m215 79 ls [] g r g' → bk g g') := by
  intro f
  induction f with
  | zero =>
    exact ⟨fun _ _ _ _ _ _ _ _ _ hm_z => absurd hm_z rn_0, fun _ _ _ _ _ _ _ hm_z => absurd hm_z rn_0, fun _ _ _ _ _ _ hm_z => absurd hm_z rn_0, fun _ _ _ _ _ _ _ _ hm_z => absurd hm_z rn_0, fun _ _ _ _ _ _ _ _ hm_z => absurd hm_z rn_0, fun _ _ _ _ hm_z => absurd hm_z rn_0⟩
  | succ f ih_z =>
    obtain ⟨I4, I27, I41, I47, I65, I79⟩ := ih_z
    have H79 : ∀ (v3_z : Int32) (ls : am_L) (g : am_H), am_get ls 3 = some (.int v3_z) → rn (f + 1) am_m215 79 ls [] g r g' → bk g g' := by
      intro v3_z ls g g3_z hm_z
      replace hm_z := rn_iload_n (am_cur_of (i := (135, 1, .iload_n 3, (0, 0, 0), 0)) (by decide +kernel)) g3_z hm_z
      replace hm_z := rn_iret (am_cur_of (i := (136, 1, .ireturn, (0, 0, 0), 0)) (by decide +kernel)) hm_z
      obtain ⟨e847_z, e848_z⟩ := hm_z
      rw [e848_z]
      exact bk_r
    have H65 : ∀ (v3_z : Int32) (v4_z : Int32) (ls : am_L) (g : am_H), am_get ls 0 = some (.ref 164) → am_get ls 1 = some (.int k) → am_get ls 3 = some (.int v3_z) → am_get ls 4 = some (.int v4_z) → rn (f + 1) am_m215 65 ls [] g r g' → bk g g' := by
      intro v3_z v4_z ls g g0_z g1_z g3_z g4_z hm_z
      replace hm_z := rn_iload (am_cur_of (i := (113, 2, .iload 4, (0, 0, 0), 0)) (by decide +kernel)) g4_z hm_z
      replace hm_z := rn_aload_n (am_cur_of (i := (115, 1, .aload_n 0, (0, 0, 0), 0)) (by decide +kernel)) g0_z hm_z
      replace hm_z := rn_getR (x := 170) (am_cur_of (i := (116, 3, .getfield 30, (12, 25, 1409), 0)) (by decide +kernel)) (by decide +kernel) hm_z
      replace hm_z := rn_bipush (w := 7) (am_cur_of (i := (119, 2, .bipush 7, (0, 0, 0), 0)) (by decide +kernel)) (by decide) hm_z
      replace hm_z := rn_iload_n (am_cur_of (i := (121, 1, .iload_n 1, (0, 0, 0), 0)) (by decide +kernel)) g1_z hm_z
      replace hm_z := rn_imul (w := (7 : Int32) * k) (am_cur_of (i := (122, 1, .imul, (0, 0, 0), 0)) (by decide +kernel)) rfl hm_z
      replace hm_z := rn_iconst (w := 3) (am_cur_of (i := (123, 1, .iconst 3, (0, 0, 0), 0)) (by decide +kernel)) (by decide) hm_z
      replace hm_z := rn_iadd (w := ((7 : Int32) * k) + 3) (am_cur_of (i := (124, 1, .iadd, (0, 0, 0), 0)) (by decide +kernel)) rfl hm_z
      replace hm_z := rn_iaload (N := 56) (q := (((7 : Int32) * k) + 3).toNatClampNeg) (v := rg_v g 170 ((((7 : Int32) * k) + 3).toNatClampNeg)) (am_cur_of (i := (125, 1, .iaload, (0, 0, 0), 0)) (by decide +kernel)) (by decide +kernel) rfl rfl hm_z
      obtain ⟨p849_z, hm_z⟩ := hm_z
      replace hm_z := rn_cmp (am_cur_of (i := (126, 3, .if_icmp .ne 9, (79, 0, 0), 0)) (by decide +kernel)) hm_z
      rcases hm_z with ⟨b850_z, hm_z⟩ | ⟨b850_z, hm_z⟩
      · replace b850_z : ¬ v4_z = (rg_v g 170 ((((7 : Int32) * k) + 3).toNatClampNeg)) ∧ ¬ v4_z.toInt = (rg_v g 170 ((((7 : Int32) * k) + 3).toNatClampNeg)).toInt := b850_z
        exact bk_t bk_r (H79 v3_z _ _ g3_z hm_z)
      · replace b850_z : v4_z = (rg_v g 170 ((((7 : Int32) * k) + 3).toNatClampNeg)) ∧ v4_z.toInt = (rg_v g 170 ((((7 : Int32) * k) + 3).toNatClampNeg)).toInt := b850_z
        replace hm_z := rn_aload_n (am_cur_of (i := (129, 1, .aload_n 0, (0, 0, 0), 0)) (by decide +kernel)) g0_z hm_z
        replace hm_z := rn_iconst (w := 1) (am_cur_of (i := (130, 1, .iconst 1, (0, 0, 0), 0)) (by decide +kernel)) (by decide) hm_z
        replace hm_z := rn_iload_n (am_cur_of (i := (131, 1, .iload_n 1, (0, 0, 0), 0)) (by decide +kernel)) g1_z hm_z
        replace hm_z := rn_callV (M' := am_m205) (o := 164) (ar := [.int k, .int 1]) (rest := []) (L := lv_args 0 [.ref 164, .int 1, .int k]) (am_cur_of (i := (132, 3, .invokevirtual 441, (205, 1851, 3), 0)) (by decide +kernel)) rfl rfl rfl rfl hm_z
        obtain ⟨r851_z, h852_z, q853_z, hm_z⟩ := hm_z
        have k854_z := fk_205_1 k0_z q853_z
        have vo := rn_void rfl q853_z
        subst vo
        replace hm_z : rn _ _ _ _ [] _ _ _ := hm_z
        exact bk_t (bk_t bk_r k854_z) (H79 v3_z _ _ g3_z hm_z)
    have H47 : ∀ (v3_z : Int32) (v4_z : Int32) (ls : am_L) (g : am_H), am_get ls 0 = some (.ref 164) → am_get ls 1 = some (.int k) → am_get ls 3 = some (.int v3_z) → am_get ls 4 = some (.int v4_z) → rn (f + 1) am_m215 47 ls [] g r g' → bk g g' := by
      intro v3_z v4_z ls g g0_z g1_z g3_z g4_z hm_z
      have z0_z : (0 : Int32).toInt = 0 := by decide
      replace hm_z := rn_iload (am_cur_of (i := (81, 2, .iload 4, (0, 0, 0), 0)) (by decide +kernel)) g4_z hm_z
      replace hm_z := rn_aload_n (am_cur_of (i := (83, 1, .aload_n 0, (0, 0, 0), 0)) (by decide +kernel)) g0_z hm_z
      replace hm_z := rn_getR (x := 170) (am_cur_of (i := (84, 3, .getfield 30, (12, 25, 1409), 0)) (by decide +kernel)) (by decide +kernel) hm_z
      replace hm_z := rn_bipush (w := 7) (am_cur_of (i := (87, 2, .bipush 7, (0, 0, 0), 0)) (by decide +kernel)) (by decide) hm_z
      replace hm_z := rn_iload_n (am_cur_of (i := (89, 1, .iload_n 1, (0, 0, 0), 0)) (by decide +kernel)) g1_z hm_z
      replace hm_z := rn_imul (w := (7 : Int32) * k) (am_cur_of (i := (90, 1, .imul, (0, 0, 0), 0)) (by decide +kernel)) rfl hm_z
      replace hm_z := rn_iconst (w := 3) (am_cur_of (i := (91, 1, .iconst 3, (0, 0, 0), 0)) (by decide +kernel)) (by decide) hm_z
      replace hm_z := rn_iadd (w := ((7 : Int32) * k) + 3) (am_cur_of (i := (92, 1, .iadd, (0, 0, 0), 0)) (by decide +kernel)) rfl hm_z
      replace hm_z := rn_iaload (N := 56) (q := (((7 : Int32) * k) + 3).toNatClampNeg) (v := rg_v g 170 ((((7 : Int32) * k) + 3).toNatClampNeg)) (am_cur_of (i := (93, 1, .iaload, (0, 0, 0), 0)) (by decide +kernel)) (by decide +kernel) rfl rfl hm_z
      obtain ⟨p855_z, hm_z⟩ := hm_z
      replace hm_z := rn_cmp (am_cur_of (i := (94, 3, .if_icmp .ge 19, (65, 0, 0), 0)) (by decide +kernel)) hm_z
      rcases hm_z with ⟨b856_z, hm_z⟩ | ⟨b856_z, hm_z⟩
      · replace b856_z : (rg_v g 170 ((((7 : Int32) * k) + 3).toNatClampNeg)).toInt ≤ v4_z.toInt := b856_z
        exact bk_t bk_r (H65 v3_z v4_z _ _ g0_z g1_z g3_z g4_z hm_z)
      · replace b856_z : v4_z.toInt < (rg_v g 170 ((((7 : Int32) * k) + 3).toNatClampNeg)).toInt := b856_z
        replace hm_z := rn_iload_n (am_cur_of (i := (97, 1, .iload_n 3, (0, 0, 0), 0)) (by decide +kernel)) g3_z hm_z
        replace hm_z := rn_if (am_cur_of (i := (98, 3, .ifCond .eq 15, (65, 0, 0), 0)) (by decide +kernel)) hm_z
        rcases hm_z with ⟨b857_z, hm_z⟩ | ⟨b857_z, hm_z⟩
        · replace b857_z : v3_z = (0 : Int32) ∧ v3_z.toInt = (0 : Int32).toInt := b857_z
          exact bk_t bk_r (H65 v3_z v4_z _ _ g0_z g1_z g3_z g4_z hm_z)
        · replace b857_z : ¬ v3_z = (0 : Int32) ∧ ¬ v3_z.toInt = (0 : Int32).toInt := b857_z
          replace hm_z := rn_aload_n (am_cur_of (i := (101, 1, .aload_n 0, (0, 0, 0), 0)) (by decide +kernel)) g0_z hm_z
          replace hm_z := rn_iconst (w := 0) (am_cur_of (i := (102, 1, .iconst 0, (0, 0, 0), 0)) (by decide +kernel)) (by decide) hm_z
          replace hm_z := rn_callV (M' := am_m216) (o := 164) (ar := [.int 0]) (rest := []) (L := lv_args 0 [.ref 164, .int 0]) (am_cur_of (i := (103, 3, .invokevirtual 450, (216, 1895, 3), 0)) (by decide +kernel)) rfl rfl rfl rfl hm_z
          obtain ⟨r858_z, h859_z, q860_z, hm_z⟩ := hm_z
          have k861_z := fk_216 q860_z
          obtain ⟨v862_z, rfl⟩ := rn_ret (M := am_m216) rfl (by decide) q860_z
          replace hm_z : rn _ _ _ _ [.int v862_z] _ _ _ := hm_z
          replace hm_z := rn_istore_n (am_cur_of (i := (106, 1, .istore_n 3, (0, 0, 0), 0)) (by decide +kernel)) hm_z
          obtain ⟨_, s863_z, s864_z, g3_z, hm_z⟩ := hm_z
          replace g0_z := s863_z 0 _ (by decide) rfl g0_z
          replace g1_z := s863_z 1 _ (by decide) rfl g1_z
          replace g4_z := s863_z 4 _ (by decide) rfl g4_z
          clear s863_z s864_z
          replace hm_z := rn_iinc (w := v4_z + 1) (am_cur_of (i := (107, 3, .iinc 4 1, (0, 0, 0), 0)) (by decide +kernel)) g4_z rfl hm_z
          obtain ⟨_, s865_z, s866_z, g4_z, hm_z⟩ := hm_z
          replace g0_z := s865_z 0 _ (by decide) rfl g0_z
          replace g1_z := s865_z 1 _ (by decide) rfl g1_z
          replace g3_z := s865_z 3 _ (by decide) rfl g3_z
          clear s865_z s866_z
          replace hm_z := rn_gotoL (am_cur_of (i := (110, 3, .goto (-29), (47, 0, 0), 0)) (by decide +kernel)) hm_z
          exact bk_t (bk_t bk_r k861_z) (I47 v862_z (v4_z + 1) _ _ g0_z g1_z g3_z g4_z hm_z)
    have H41 : ∀ (v3_z : Int32) (ls : am_L) (g : am_H), am_get ls 0 = some (.ref 164) → am_get ls 1 = some (.int k) → am_get ls 3 = some (.int v3_z) → rn (f + 1) am_m215 41 ls [] g r g' → bk g g' := by
      intro v3_z ls g g0_z g1_z g3_z hm_z
      replace hm_z := rn_aload_n (am_cur_of (i := (72, 1, .aload_n 0, (0, 0, 0), 0)) (by decide +kernel)) g0_z hm_z
      replace hm_z := rn_iconst (w := 1) (am_cur_of (i := (73, 1, .iconst 1, (0, 0, 0), 0)) (by decide +kernel)) (by decide) hm_z
      replace hm_z := rn_iload_n (am_cur_of (i := (74, 1, .iload_n 1, (0, 0, 0), 0)) (by decide +kernel)) g1_z hm_z
      replace hm_z := rn_callV (M' := am_m204) (o := 164) (ar := [.int k, .int 1]) (rest := []) (L := lv_args 0 [.ref 164, .int 1, .int k]) (am_cur_of (i := (75, 3, .invokevirtual 413, (204, 1847, 3), 0)) (by decide +kernel)) rfl rfl rfl rfl hm_z
      obtain ⟨r867_z, h868_z, q869_z, hm_z⟩ := hm_z
      have k870_z := fk_204_1 k0_z q869_z
      have vo := rn_void rfl q869_z
      subst vo
      replace hm_z : rn _ _ _ _ [] _ _ _ := hm_z
      replace hm_z := rn_iconst (w := 0) (am_cur_of (i := (78, 1, .iconst 0, (0, 0, 0), 0)) (by decide +kernel)) (by decide) hm_z
      replace hm_z := rn_istore (am_cur_of (i := (79, 2, .istore 4, (0, 0, 0), 0)) (by decide +kernel)) hm_z
      obtain ⟨_, s871_z, s872_z, g4_z, hm_z⟩ := hm_z
      replace g0_z := s871_z 0 _ (by decide) rfl g0_z
      replace g1_z := s871_z 1 _ (by decide) rfl g1_z
      replace g3_z := s871_z 3 _ (by decide) rfl g3_z
      clear s871_z s872_z
      exact bk_t (bk_t bk_r k870_z) (H47 v3_z 0 _ _ g0_z g1_z g3_z g4_z hm_z)
    have H27 : ∀ (v3_z : Int32) (ls : am_L) (g : am_H), am_get ls 0 = some (.ref 164) → am_get ls 1 = some (.int k) → am_get ls 2 = some (.int w) → am_get ls 3 = some (.int v3_z) → rn (f + 1) am_m215 27 ls [] g r g' → bk g g' := by
      intro v3_z ls g g0_z g1_z g2_z g3_z hm_z
      have z0_z : (0 : Int32).toInt = 0 := by decide
      replace hm_z := rn_iload_n (am_cur_of (i := (46, 1, .iload_n 3, (0, 0, 0), 0)) (by decide +kernel)) g3_z hm_z
      replace hm_z := rn_if (am_cur_of (i := (47, 3, .ifCond .eq 25, (41, 0, 0), 0)) (by decide +kernel)) hm_z
      rcases hm_z with ⟨b873_z, hm_z⟩ | ⟨b873_z, hm_z⟩
      · replace b873_z : v3_z = (0 : Int32) ∧ v3_z.toInt = (0 : Int32).toInt := b873_z
        exact bk_t bk_r (H41 v3_z _ _ g0_z g1_z g3_z hm_z)
      · replace b873_z : ¬ v3_z = (0 : Int32) ∧ ¬ v3_z.toInt = (0 : Int32).toInt := b873_z
        replace hm_z := rn_iload_n (am_cur_of (i := (50, 1, .iload_n 2, (0, 0, 0), 0)) (by decide +kernel)) g2_z hm_z
        replace hm_z := rn_if (am_cur_of (i := (51, 3, .ifCond .eq 21, (41, 0, 0), 0)) (by decide +kernel)) hm_z
        rcases hm_z with ⟨b874_z, hm_z⟩ | ⟨b874_z, hm_z⟩
        · replace b874_z : w = (0 : Int32) ∧ w.toInt = (0 : Int32).toInt := b874_z
          exact bk_t bk_r (H41 v3_z _ _ g0_z g1_z g3_z hm_z)
        · replace b874_z : ¬ w = (0 : Int32) ∧ ¬ w.toInt = (0 : Int32).toInt := b874_z
          replace hm_z := rn_aload_n (am_cur_of (i := (54, 1, .aload_n 0, (0, 0, 0), 0)) (by decide +kernel)) g0_z hm_z
          replace hm_z := rn_iconst (w := 1) (am_cur_of (i := (55, 1, .iconst 1, (0, 0, 0), 0)) (by decide +kernel)) (by decide) hm_z
          replace hm_z := rn_iload_n (am_cur_of (i := (56, 1, .iload_n 1, (0, 0, 0), 0)) (by decide +kernel)) g1_z hm_z
          replace hm_z := rn_callV (M' := am_m203) (o := 164) (ar := [.int k, .int 1]) (rest := []) (L := lv_args 0 [.ref 164, .int 1, .int k]) (am_cur_of (i := (57, 3, .invokevirtual 438, (203, 1843, 3), 0)) (by decide +kernel)) rfl rfl rfl rfl hm_z
          obtain ⟨r875_z, h876_z, q877_z, hm_z⟩ := hm_z
          have k878_z := fk_203_1 k0_z q877_z
          obtain ⟨v879_z, rfl⟩ := rn_ret (M := am_m203) rfl (by decide) q877_z
          replace hm_z : rn _ _ _ _ [.int v879_z] _ _ _ := hm_z
          replace hm_z := rn_if (am_cur_of (i := (60, 3, .ifCond .eq 12, (41, 0, 0), 0)) (by decide +kernel)) hm_z
          rcases hm_z with ⟨b880_z, hm_z⟩ | ⟨b880_z, hm_z⟩
          · replace b880_z : v879_z = (0 : Int32) ∧ v879_z.toInt = (0 : Int32).toInt := b880_z
            exact bk_t (bk_t bk_r k878_z) (H41 v3_z _ _ g0_z g1_z g3_z hm_z)
          · replace b880_z : ¬ v879_z = (0 : Int32) ∧ ¬ v879_z.toInt = (0 : Int32).toInt := b880_z
            replace hm_z := rn_aload_n (am_cur_of (i := (63, 1, .aload_n 0, (0, 0, 0), 0)) (by decide +kernel)) g0_z hm_z
            replace hm_z := rn_iconst (w := 0) (am_cur_of (i := (64, 1, .iconst 0, (0, 0, 0), 0)) (by decide +kernel)) (by decide) hm_z
            replace hm_z := rn_callV (M' := am_m216) (o := 164) (ar := [.int 0]) (rest := []) (L := lv_args 0 [.ref 164, .int 0]) (am_cur_of (i := (65, 3, .invokevirtual 450, (216, 1895, 3), 0)) (by decide +kernel)) rfl rfl rfl rfl hm_z
            obtain ⟨r881_z, h882_z, q883_z, hm_z⟩ := hm_z
            have k884_z := fk_216 q883_z
            obtain ⟨v885_z, rfl⟩ := rn_ret (M := am_m216) rfl (by decide) q883_z
            replace hm_z : rn _ _ _ _ [.int v885_z] _ _ _ := hm_z
            replace hm_z := rn_istore_n (am_cur_of (i := (68, 1, .istore_n 3, (0, 0, 0), 0)) (by decide +kernel)) hm_z
            obtain ⟨_, s886_z, s887_z, g3_z, hm_z⟩ := hm_z
            replace g0_z := s886_z 0 _ (by decide) rfl g0_z
            replace g1_z := s886_z 1 _ (by decide) rfl g1_z
            replace g2_z := s886_z 2 _ (by decide) rfl g2_z
            clear s886_z s887_z
            replace hm_z := rn_gotoL (am_cur_of (i := (69, 3, .goto (-23), (27, 0, 0), 0)) (by decide +kernel)) hm_z
            exact bk_t (bk_t (bk_t bk_r k878_z) k884_z) (I27 v885_z _ _ g0_z g1_z g2_z g3_z hm_z)
    have H4 : ∀ (v3_z : Int32) (v4_z : Int32) (ls : am_L) (g : am_H), am_get ls 0 = some (.ref 164) → am_get ls 1 = some (.int k) → am_get ls 2 = some (.int w) → am_get ls 3 = some (.int v3_z) → am_get ls 4 = some (.int v4_z) → rn (f + 1) am_m215 4 ls [] g r g' → bk g g' := by
      intro v3_z v4_z ls g g0_z g1_z g2_z g3_z g4_z hm_z
      have z0_z : (0 : Int32).toInt = 0 := by decide
      replace hm_z := rn_iload (am_cur_of (i := (5, 2, .iload 4, (0, 0, 0), 0)) (by decide +kernel)) g4_z hm_z
      replace hm_z := rn_aload_n (am_cur_of (i := (7, 1, .aload_n 0, (0, 0, 0), 0)) (by decide +kernel)) g0_z hm_z
      replace hm_z := rn_getR (x := 170) (am_cur_of (i := (8, 3, .getfield 30, (12, 25, 1409), 0)) (by decide +kernel)) (by decide +kernel) hm_z
      replace hm_z := rn_bipush (w := 7) (am_cur_of (i := (11, 2, .bipush 7, (0, 0, 0), 0)) (by decide +kernel)) (by decide) hm_z
      replace hm_z := rn_iload_n (am_cur_of (i := (13, 1, .iload_n 1, (0, 0, 0), 0)) (by decide +kernel)) g1_z hm_z
      replace hm_z := rn_imul (w := (7 : Int32) * k) (am_cur_of (i := (14, 1, .imul, (0, 0, 0), 0)) (by decide +kernel)) rfl hm_z
      replace hm_z := rn_iconst (w := 5) (am_cur_of (i := (15, 1, .iconst 5, (0, 0, 0), 0)) (by decide +kernel)) (by decide) hm_z
      replace hm_z := rn_iadd (w := ((7 : Int32) * k) + 5) (am_cur_of (i := (16, 1, .iadd, (0, 0, 0), 0)) (by decide +kernel)) rfl hm_z
      replace hm_z := rn_iaload (N := 56) (q := (((7 : Int32) * k) + 5).toNatClampNeg) (v := rg_v g 170 ((((7 : Int32) * k) + 5).toNatClampNeg)) (am_cur_of (i := (17, 1, .iaload, (0, 0, 0), 0)) (by decide +kernel)) (by decide +kernel) rfl rfl hm_z
      obtain ⟨p888_z, hm_z⟩ := hm_z
      replace hm_z := rn_cmp (am_cur_of (i := (18, 3, .if_icmp .ge 28, (27, 0, 0), 0)) (by decide +kernel)) hm_z
      rcases hm_z with ⟨b889_z, hm_z⟩ | ⟨b889_z, hm_z⟩
      · replace b889_z : (rg_v g 170 ((((7 : Int32) * k) + 5).toNatClampNeg)).toInt ≤ v4_z.toInt := b889_z
        exact bk_t bk_r (H27 v3_z _ _ g0_z g1_z g2_z g3_z hm_z)
      · replace b889_z : v4_z.toInt < (rg_v g 170 ((((7 : Int32) * k) + 5).toNatClampNeg)).toInt := b889_z
        replace hm_z := rn_iload_n (am_cur_of (i := (21, 1, .iload_n 3, (0, 0, 0), 0)) (by decide +kernel)) g3_z hm_z
        replace hm_z := rn_if (am_cur_of (i := (22, 3, .ifCond .eq 24, (27, 0, 0), 0)) (by decide +kernel)) hm_z
        rcases hm_z with ⟨b890_z, hm_z⟩ | ⟨b890_z, hm_z⟩
        · replace b890_z : v3_z = (0 : Int32) ∧ v3_z.toInt = (0 : Int32).toInt := b890_z
          exact bk_t bk_r (H27 v3_z _ _ g0_z g1_z g2_z g3_z hm_z)
        · replace b890_z : ¬ v3_z = (0 : Int32) ∧ ¬ v3_z.toInt = (0 : Int32).toInt := b890_z
          replace hm_z := rn_aload_n (am_cur_of (i := (25, 1, .aload_n 0, (0, 0, 0), 0)) (by decide +kernel)) g0_z hm_z
          replace hm_z := rn_iconst (w := 1) (am_cur_of (i := (26, 1, .iconst 1, (0, 0, 0), 0)) (by decide +kernel)) (by decide) hm_z
          replace hm_z := rn_iload_n (am_cur_of (i := (27, 1, .iload_n 1, (0, 0, 0), 0)) (by decide +kernel)) g1_z hm_z
          replace hm_z := rn_callV (M' := am_m198) (o := 164) (ar := [.int k, .int 1]) (rest := []) (L := lv_args 0 [.ref 164, .int 1, .int k]) (am_cur_of (i := (28, 3, .invokevirtual 431, (198, 1824, 3), 0)) (by decide +kernel)) rfl rfl rfl rfl hm_z
          obtain ⟨r891_z, h892_z, q893_z, hm_z⟩ := hm_z
          have k894_z := nq_198 q893_z
          obtain ⟨v895_z, rfl⟩ := rn_ret (M := am_m198) rfl (by decide) q893_z
          replace hm_z : rn _ _ _ _ [.int v895_z] _ _ _ := hm_z
          replace hm_z := rn_if (am_cur_of (i := (31, 3, .ifCond .eq 15, (27, 0, 0), 0)) (by decide +kernel)) hm_z
          rcases hm_z with ⟨b896_z, hm_z⟩ | ⟨b896_z, hm_z⟩
          · replace b896_z : v895_z = (0 : Int32) ∧ v895_z.toInt = (0 : Int32).toInt := b896_z
            exact bk_t (bk_t bk_r (bk_n k894_z)) (H27 v3_z _ _ g0_z g1_z g2_z g3_z hm_z)
          · replace b896_z : ¬ v895_z = (0 : Int32) ∧ ¬ v895_z.toInt = (0 : Int32).toInt := b896_z
            replace hm_z := rn_aload_n (am_cur_of (i := (34, 1, .aload_n 0, (0, 0, 0), 0)) (by decide +kernel)) g0_z hm_z
            replace hm_z := rn_iconst (w := 1) (am_cur_of (i := (35, 1, .iconst 1, (0, 0, 0), 0)) (by decide +kernel)) (by decide) hm_z
            replace hm_z := rn_callV (M' := am_m216) (o := 164) (ar := [.int 1]) (rest := []) (L := lv_args 0 [.ref 164, .int 1]) (am_cur_of (i := (36, 3, .invokevirtual 450, (216, 1895, 3), 0)) (by decide +kernel)) rfl rfl rfl rfl hm_z
            obtain ⟨r897_z, h898_z, q899_z, hm_z⟩ := hm_z
            have k900_z := fk_216 q899_z
            obtain ⟨v901_z, rfl⟩ := rn_ret (M := am_m216) rfl (by decide) q899_z
            replace hm_z : rn _ _ _ _ [.int v901_z] _ _ _ := hm_z
            replace hm_z := rn_istore_n (am_cur_of (i := (39, 1, .istore_n 3, (0, 0, 0), 0)) (by decide +kernel)) hm_z
            obtain ⟨_, s902_z, s903_z, g3_z, hm_z⟩ := hm_z
            replace g0_z := s902_z 0 _ (by decide) rfl g0_z
            replace g1_z := s902_z 1 _ (by decide) rfl g1_z
            replace g2_z := s902_z 2 _ (by decide) rfl g2_z
            replace g4_z := s902_z 4 _ (by decide) rfl g4_z
            clear s902_z s903_z
            replace hm_z := rn_iinc (w := v4_z + 1) (am_cur_of (i := (40, 3, .iinc 4 1, (0, 0, 0), 0)) (by decide +kernel)) g4_z rfl hm_z
            obtain ⟨_, s904_z, s905_z, g4_z, hm_z⟩ := hm_z
            replace g0_z := s904_z 0 _ (by decide) rfl g0_z
            replace g1_z := s904_z 1 _ (by decide) rfl g1_z
            replace g2_z := s904_z 2 _ (by decide) rfl g2_z
            replace g3_z := s904_z 3 _ (by decide) rfl g3_z
            clear s904_z s905_z
            replace hm_z := rn_gotoL (am_cur_of (i := (43, 3, .goto (-38), (4, 0, 0), 0)) (by decide +kernel)) hm_z
            exact bk_t (bk_t (bk_t bk_r (bk_n k894_z)) k900_z) (I4 v901_z (v4_z + 1) _ _ g0_z g1_z g2_z g3_z g4_z hm_z)
    exact ⟨H4, H27, H41, H47, H65, H79⟩
theorem fk_215 {nst : Nat} {r : Option Value} {g g' : am_H} {k : Int32} {w : Int32} (k0_z : 0 ≤ k.toInt) (hm_z : rn nst am_m215 0 (lv_args 0 [.ref 164, .int k, .int w]) [] g r g') : bk g g' := by
  have g0_z : am_get (lv_args 0 [.ref 164, .int k, .int w]) 0 = some (.ref 164) := rfl
  have g1_z : am_get (lv_args 0 [.ref 164, .int k, .int w]) 1 = some (.int k) := rfl
  have g2_z : am_get (lv_args 0 [.ref 164, .int k, .int w]) 2 = some (.int w) := rfl
  replace hm_z := rn_iconst (w := 1) (am_cur_of (i := (0, 1, .iconst 1, (0, 0, 0), 0)) (by decide +kernel)) (by decide) hm_z
  replace hm_z := rn_istore_n (am_cur_of (i := (1, 1, .istore_n 3, (0, 0, 0), 0)) (by decide +kernel)) hm_z
  obtain ⟨_, s906_z, s907_z, g3_z, hm_z⟩ := hm_z
  replace g0_z := s906_z 0 _ (by decide) rfl g0_z
  replace g1_z := s906_z 1 _ (by decide) rfl g1_z
  replace g2_z := s906_z 2 _ (by decide) rfl g2_z
  clear s906_z s907_z
  replace hm_z := rn_iconst (w := 0) (am_cur_of (i := (2, 1, .iconst 0, (0, 0, 0), 0)) (by decide +kernel)) (by decide) hm_z
  replace hm_z := rn_istore (am_cur_of (i := (3, 2, .istore 4, (0, 0, 0), 0)) (by decide +kernel)) hm_z
  obtain ⟨_, s908_z, s909_z, g4_z, hm_z⟩ := hm_z
  replace g0_z := s908_z 0 _ (by decide) rfl g0_z
  replace g1_z := s908_z 1 _ (by decide) rfl g1_z
  replace g2_z := s908_z 2 _ (by decide) rfl g2_z
  replace g3_z := s908_z 3 _ (by decide) rfl g3_z
  clear s908_z s909_z
  have H4 := (fk_215_L (r := r) (g' := g') (k := k) (w := w) k0_z nst).1
  exact bk_t bk_r (H4 1 0 _ _ g0_z g1_z g2_z g3_z g4_z hm_z)
theorem fk_214_L {r : Option Value} {g' : am_H}  : ∀ f : Nat, (∀ (v1_z : Int32) (v2_z : Int32) (v3_z : Int32) (ls : am_L) (g : am_H), am_get ls 0 = some (.ref 164) → am_get ls 1 = some (.int v1_z) → am_get ls 2 = some (.int v2_z) → am_get ls 3 = some (.int v3_z) → tkm g → rn f am_m214 36 ls [] g r g' → bk g g') := by
  intro f
  induction f with
  | zero =>
    exact (fun _ _ _ _ _ _ _ _ _ _ hm_z => absurd hm_z rn_0)
  | succ f ih_z =>
    have I36 := ih_z
    have H36 : ∀ (v1_z : Int32) (v2_z : Int32) (v3_z : Int32) (ls : am_L) (g : am_H), am_get ls 0 = some (.ref 164) → am_get ls 1 = some (.int v1_z) → am_get ls 2 = some (.int v2_z) → am_get ls 3 = some (.int v3_z) → tkm g → rn (f + 1) am_m214 36 ls [] g r g' → bk g g' := by
      intro v1_z v2_z v3_z ls g g0_z g1_z g2_z g3_z T hm_z
      have z0_z : (0 : Int32).toInt = 0 := by decide
      replace hm_z := rn_iload_n (am_cur_of (i := (56, 1, .iload_n 1, (0, 0, 0), 0)) (by decide +kernel)) g1_z hm_z
      replace hm_z := rn_if (am_cur_of (i := (57, 3, .ifCond .eq 128, (107, 0, 0), 0)) (by decide +kernel)) hm_z
      rcases hm_z with ⟨b910_z, hm_z⟩ | ⟨b910_z, hm_z⟩
      · replace b910_z : v1_z = (0 : Int32) ∧ v1_z.toInt = (0 : Int32).toInt := b910_z
        replace hm_z := rn_aload_n (am_cur_of (i := (185, 1, .aload_n 0, (0, 0, 0), 0)) (by decide +kernel)) g0_z hm_z
        replace hm_z := rn_getR (x := 188) (am_cur_of (i := (186, 3, .getfield 85, (12, 50, 1434), 0)) (by decide +kernel)) (by decide +kernel) hm_z
        replace hm_z := rn_iconst (w := 1) (am_cur_of (i := (189, 1, .iconst 1, (0, 0, 0), 0)) (by decide +kernel)) (by decide) hm_z
        replace hm_z := rn_iaload (N := 4) (q := 1) (v := rg_v g 188 1) (am_cur_of (i := (190, 1, .iaload, (0, 0, 0), 0)) (by decide +kernel)) (by decide +kernel) rfl rfl hm_z
        obtain ⟨p911_z, hm_z⟩ := hm_z
        replace hm_z := rn_aload_n (am_cur_of (i := (191, 1, .aload_n 0, (0, 0, 0), 0)) (by decide +kernel)) g0_z hm_z
        replace hm_z := rn_getR (x := 168) (am_cur_of (i := (192, 3, .getfield 24, (12, 23, 1407), 0)) (by decide +kernel)) (by decide +kernel) hm_z
        replace hm_z := rn_iconst (w := 0) (am_cur_of (i := (195, 1, .iconst 0, (0, 0, 0), 0)) (by decide +kernel)) (by decide) hm_z
        replace hm_z := rn_iaload (N := 12) (q := 0) (v := rg_v g 168 0) (am_cur_of (i := (196, 1, .iaload, (0, 0, 0), 0)) (by decide +kernel)) (by decide +kernel) rfl rfl hm_z
        obtain ⟨p912_z, hm_z⟩ := hm_z
        replace hm_z := rn_cmp (am_cur_of (i := (197, 3, .if_icmp .lt 7, (118, 0, 0), 0)) (by decide +kernel)) hm_z
        rcases hm_z with ⟨b913_z, hm_z⟩ | ⟨b913_z, hm_z⟩
        · replace b913_z : (rg_v g 188 1).toInt < (rg_v g 168 0).toInt := b913_z
          replace hm_z := rn_iconst (w := 0) (am_cur_of (i := (204, 1, .iconst 0, (0, 0, 0), 0)) (by decide +kernel)) (by decide) hm_z
          replace hm_z := rn_iret (am_cur_of (i := (205, 1, .ireturn, (0, 0, 0), 0)) (by decide +kernel)) hm_z
          obtain ⟨e914_z, e915_z⟩ := hm_z
          rw [e915_z]
          exact bk_r
        · replace b913_z : (rg_v g 168 0).toInt ≤ (rg_v g 188 1).toInt := b913_z
          replace hm_z := rn_iconst (w := 1) (am_cur_of (i := (200, 1, .iconst 1, (0, 0, 0), 0)) (by decide +kernel)) (by decide) hm_z
          replace hm_z := rn_goto (am_cur_of (i := (201, 3, .goto 4, (119, 0, 0), 0)) (by decide +kernel)) hm_z
          replace hm_z := rn_iret (am_cur_of (i := (205, 1, .ireturn, (0, 0, 0), 0)) (by decide +kernel)) hm_z
          obtain ⟨e916_z, e917_z⟩ := hm_z
          rw [e917_z]
          exact bk_r
      · replace b910_z : ¬ v1_z = (0 : Int32) ∧ ¬ v1_z.toInt = (0 : Int32).toInt := b910_z
        replace hm_z := rn_aload_n (am_cur_of (i := (60, 1, .aload_n 0, (0, 0, 0), 0)) (by decide +kernel)) g0_z hm_z
        replace hm_z := rn_aload_n (am_cur_of (i := (61, 1, .aload_n 0, (0, 0, 0), 0)) (by decide +kernel)) g0_z hm_z
        replace hm_z := rn_getR (x := 171) (am_cur_of (i := (62, 3, .getfield 33, (12, 26, 1410), 0)) (by decide +kernel)) (by decide +kernel) hm_z
        replace hm_z := rn_iload_n (am_cur_of (i := (65, 1, .iload_n 2, (0, 0, 0), 0)) (by decide +kernel)) g2_z hm_z
        replace hm_z := rn_iaload (N := 16) (q := v2_z.toNatClampNeg) (v := rg_v g 171 v2_z.toNatClampNeg) (am_cur_of (i := (66, 1, .iaload, (0, 0, 0), 0)) (by decide +kernel)) (by decide +kernel) rfl rfl hm_z
        obtain ⟨p918_z, hm_z⟩ := hm_z
        replace hm_z := rn_iconst (w := 1) (am_cur_of (i := (67, 1, .iconst 1, (0, 0, 0), 0)) (by decide +kernel)) (by decide) hm_z
        replace hm_z := rn_callV (M' := am_m215) (o := 164) (ar := [.int 1, .int (rg_v g 171 v2_z.toNatClampNeg)]) (rest := []) (L := lv_args 0 [.ref 164, .int (rg_v g 171 v2_z.toNatClampNeg), .int 1]) (am_cur_of (i := (68, 3, .invokevirtual 460, (215, 1891, 3), 0)) (by decide +kernel)) rfl rfl rfl rfl hm_z
        obtain ⟨r919_z, h920_z, q921_z, hm_z⟩ := hm_z
        have k922_z := fk_215 ((tkm_b bk_r T).1 _ p918_z.2) q921_z
        obtain ⟨v923_z, rfl⟩ := rn_ret (M := am_m215) rfl (by decide) q921_z
        replace hm_z : rn _ _ _ _ [.int v923_z] _ _ _ := hm_z
        replace hm_z := rn_istore_n (am_cur_of (i := (71, 1, .istore_n 1, (0, 0, 0), 0)) (by decide +kernel)) hm_z
        obtain ⟨_, s924_z, s925_z, g1_z, hm_z⟩ := hm_z
        replace g0_z := s924_z 0 _ (by decide) rfl g0_z
        replace g2_z := s924_z 2 _ (by decide) rfl g2_z
        replace g3_z := s924_z 3 _ (by decide) rfl g3_z
        clear s924_z s925_z
        replace hm_z := rn_aload_n (am_cur_of (i := (72, 1, .aload_n 0, (0, 0, 0), 0)) (by decide +kernel)) g0_z hm_z
        replace hm_z := rn_aload_n (am_cur_of (i := (73, 1, .aload_n 0, (0, 0, 0), 0)) (by decide +kernel)) g0_z hm_z
        replace hm_z := rn_getR (x := 188) (am_cur_of (i := (74, 3, .getfield 85, (12, 50, 1434), 0)) (by decide +kernel)) (by decide +kernel) hm_z
        replace hm_z := rn_iconst (w := 1) (am_cur_of (i := (77, 1, .iconst 1, (0, 0, 0), 0)) (by decide +kernel)) (by decide) hm_z
        replace hm_z := rn_iaload (N := 4) (q := 1) (v := rg_v h920_z 188 1) (am_cur_of (i := (78, 1, .iaload, (0, 0, 0), 0)) (by decide +kernel)) (by decide +kernel) rfl rfl hm_z
        obtain ⟨p926_z, hm_z⟩ := hm_z
        replace hm_z := rn_aload_n (am_cur_of (i := (79, 1, .aload_n 0, (0, 0, 0), 0)) (by decide +kernel)) g0_z hm_z
        replace hm_z := rn_getI (v := rg_v h920_z 164 64) (am_cur_of (i := (80, 3, .getfield 454, (12, 64, 1448), 0)) (by decide +kernel)) (by decide +kernel) rfl hm_z
        replace hm_z := rn_cmp (am_cur_of (i := (83, 3, .if_icmp .le 12, (59, 0, 0), 0)) (by decide +kernel)) hm_z
        rcases hm_z with ⟨b927_z, hm_z⟩ | ⟨b927_z, hm_z⟩
        · replace b927_z : (rg_v h920_z 188 1).toInt ≤ (rg_v h920_z 164 64).toInt := b927_z
          replace hm_z := rn_aload_n (am_cur_of (i := (95, 1, .aload_n 0, (0, 0, 0), 0)) (by decide +kernel)) g0_z hm_z
          replace hm_z := rn_getI (v := rg_v h920_z 164 64) (am_cur_of (i := (96, 3, .getfield 454, (12, 64, 1448), 0)) (by decide +kernel)) (by decide +kernel) rfl hm_z
          replace hm_z := rn_put (am_cur_of (i := (99, 3, .putfield 454, (12, 64, 1448), 0)) (by decide +kernel)) (by decide +kernel) hm_z
          replace hm_z := rn_iload_n (am_cur_of (i := (102, 1, .iload_n 1, (0, 0, 0), 0)) (by decide +kernel)) g1_z hm_z
          replace hm_z := rn_if (am_cur_of (i := (103, 3, .ifCond .ne 6, (65, 0, 0), 0)) (by decide +kernel)) hm_z
          rcases hm_z with ⟨b928_z, hm_z⟩ | ⟨b928_z, hm_z⟩
          · replace b928_z : ¬ v923_z = (0 : Int32) ∧ ¬ v923_z.toInt = (0 : Int32).toInt := b928_z
            replace hm_z := rn_aload_n (am_cur_of (i := (109, 1, .aload_n 0, (0, 0, 0), 0)) (by decide +kernel)) g0_z hm_z
            replace hm_z := rn_getR (x := 188) (am_cur_of (i := (110, 3, .getfield 85, (12, 50, 1434), 0)) (by decide +kernel)) (by decide +kernel) hm_z
            replace hm_z := rn_iconst (w := 1) (am_cur_of (i := (113, 1, .iconst 1, (0, 0, 0), 0)) (by decide +kernel)) (by decide) hm_z
            replace hm_z := rn_iaload (N := 4) (q := 1) (v := rg_v h920_z 188 1) (am_cur_of (i := (114, 1, .iaload, (0, 0, 0), 0)) (by decide +kernel)) (by decide +kernel) rfl (show rg_v (am_up h920_z 164 64 (.int (rg_v h920_z 164 64))) 188 1 = rg_v h920_z 188 1 from rfl) hm_z
            obtain ⟨p929_z, hm_z⟩ := hm_z
            replace hm_z := rn_aload_n (am_cur_of (i := (115, 1, .aload_n 0, (0, 0, 0), 0)) (by decide +kernel)) g0_z hm_z
            replace hm_z := rn_getR (x := 168) (am_cur_of (i := (116, 3, .getfield 24, (12, 23, 1407), 0)) (by decide +kernel)) (by decide +kernel) hm_z
            replace hm_z := rn_iconst (w := 0) (am_cur_of (i := (119, 1, .iconst 0, (0, 0, 0), 0)) (by decide +kernel)) (by decide) hm_z
            replace hm_z := rn_iaload (N := 12) (q := 0) (v := rg_v h920_z 168 0) (am_cur_of (i := (120, 1, .iaload, (0, 0, 0), 0)) (by decide +kernel)) (by decide +kernel) rfl (show rg_v (am_up h920_z 164 64 (.int (rg_v h920_z 164 64))) 168 0 = rg_v h920_z 168 0 from rfl) hm_z
            obtain ⟨p930_z, hm_z⟩ := hm_z
            replace hm_z := rn_cmp (am_cur_of (i := (121, 3, .if_icmp .ge 7, (76, 0, 0), 0)) (by decide +kernel)) hm_z
            rcases hm_z with ⟨b931_z, hm_z⟩ | ⟨b931_z, hm_z⟩
            · replace b931_z : (rg_v h920_z 168 0).toInt ≤ (rg_v h920_z 188 1).toInt := b931_z
              replace hm_z := rn_iconst (w := 0) (am_cur_of (i := (128, 1, .iconst 0, (0, 0, 0), 0)) (by decide +kernel)) (by decide) hm_z
              replace hm_z := rn_istore_n (am_cur_of (i := (129, 1, .istore_n 1, (0, 0, 0), 0)) (by decide +kernel)) hm_z
              obtain ⟨_, s932_z, s933_z, g1_z, hm_z⟩ := hm_z
              replace g0_z := s932_z 0 _ (by decide) rfl g0_z
              replace g2_z := s932_z 2 _ (by decide) rfl g2_z
              replace g3_z := s932_z 3 _ (by decide) rfl g3_z
              clear s932_z s933_z
              replace hm_z := rn_iinc (w := v3_z + 1) (am_cur_of (i := (130, 3, .iinc 3 1, (0, 0, 0), 0)) (by decide +kernel)) g3_z rfl hm_z
              obtain ⟨_, s934_z, s935_z, g3_z, hm_z⟩ := hm_z
              replace g0_z := s934_z 0 _ (by decide) rfl g0_z
              replace g1_z := s934_z 1 _ (by decide) rfl g1_z
              replace g2_z := s934_z 2 _ (by decide) rfl g2_z
              clear s934_z s935_z
              replace hm_z := rn_iload_n (am_cur_of (i := (133, 1, .iload_n 3, (0, 0, 0), 0)) (by decide +kernel)) g3_z hm_z
              replace hm_z := rn_aload_n (am_cur_of (i := (134, 1, .aload_n 0, (0, 0, 0), 0)) (by decide +kernel)) g0_z hm_z
              replace hm_z := rn_getR (x := 172) (am_cur_of (i := (135, 3, .getfield 36, (12, 27, 1411), 0)) (by decide +kernel)) (by decide +kernel) hm_z
              replace hm_z := rn_iload_n (am_cur_of (i := (138, 1, .iload_n 2, (0, 0, 0), 0)) (by decide +kernel)) g2_z hm_z
              replace hm_z := rn_iaload (N := 16) (q := v2_z.toNatClampNeg) (v := rg_v h920_z 172 v2_z.toNatClampNeg) (am_cur_of (i := (139, 1, .iaload, (0, 0, 0), 0)) (by decide +kernel)) (by decide +kernel) rfl (show rg_v (am_up h920_z 164 64 (.int (rg_v h920_z 164 64))) 172 v2_z.toNatClampNeg = rg_v h920_z 172 v2_z.toNatClampNeg from rfl) hm_z
              obtain ⟨p936_z, hm_z⟩ := hm_z
              replace hm_z := rn_cmp (am_cur_of (i := (140, 3, .if_icmp .ge 6, (86, 0, 0), 0)) (by decide +kernel)) hm_z
              rcases hm_z with ⟨b937_z, hm_z⟩ | ⟨b937_z, hm_z⟩
              · replace b937_z : (rg_v h920_z 172 v2_z.toNatClampNeg).toInt ≤ (v3_z + 1).toInt := b937_z
                replace hm_z := rn_iconst (w := 0) (am_cur_of (i := (146, 1, .iconst 0, (0, 0, 0), 0)) (by decide +kernel)) (by decide) hm_z
                replace hm_z := rn_istore_n (am_cur_of (i := (147, 1, .istore_n 3, (0, 0, 0), 0)) (by decide +kernel)) hm_z
                obtain ⟨_, s938_z, s939_z, g3_z, hm_z⟩ := hm_z
                replace g0_z := s938_z 0 _ (by decide) rfl g0_z
                replace g1_z := s938_z 1 _ (by decide) rfl g1_z
                replace g2_z := s938_z 2 _ (by decide) rfl g2_z
                clear s938_z s939_z
                replace hm_z := rn_iinc (w := v2_z + 1) (am_cur_of (i := (148, 3, .iinc 2 1, (0, 0, 0), 0)) (by decide +kernel)) g2_z rfl hm_z
                obtain ⟨_, s940_z, s941_z, g2_z, hm_z⟩ := hm_z
                replace g0_z := s940_z 0 _ (by decide) rfl g0_z
                replace g1_z := s940_z 1 _ (by decide) rfl g1_z
                replace g3_z := s940_z 3 _ (by decide) rfl g3_z
                clear s940_z s941_z
                replace hm_z := rn_iload_n (am_cur_of (i := (151, 1, .iload_n 2, (0, 0, 0), 0)) (by decide +kernel)) g2_z hm_z
                replace hm_z := rn_aload_n (am_cur_of (i := (152, 1, .aload_n 0, (0, 0, 0), 0)) (by decide +kernel)) g0_z hm_z
                replace hm_z := rn_getI (v := rg_v h920_z 164 13) (am_cur_of (i := (153, 3, .getfield 222, (12, 13, 1397), 0)) (by decide +kernel)) (by decide +kernel) (show rg_v (am_up h920_z 164 64 (.int (rg_v h920_z 164 64))) 164 13 = rg_v h920_z 164 13 from rfl) hm_z
                replace hm_z := rn_cmp (am_cur_of (i := (156, 3, .if_icmp .ge 6, (94, 0, 0), 0)) (by decide +kernel)) hm_z
                rcases hm_z with ⟨b942_z, hm_z⟩ | ⟨b942_z, hm_z⟩
                · replace b942_z : (rg_v h920_z 164 13).toInt ≤ (v2_z + 1).toInt := b942_z
                  replace hm_z := rn_iconst (w := 0) (am_cur_of (i := (162, 1, .iconst 0, (0, 0, 0), 0)) (by decide +kernel)) (by decide) hm_z
                  replace hm_z := rn_istore_n (am_cur_of (i := (163, 1, .istore_n 2, (0, 0, 0), 0)) (by decide +kernel)) hm_z
                  obtain ⟨_, s943_z, s944_z, g2_z, hm_z⟩ := hm_z
                  replace g0_z := s943_z 0 _ (by decide) rfl g0_z
                  replace g1_z := s943_z 1 _ (by decide) rfl g1_z
                  replace g3_z := s943_z 3 _ (by decide) rfl g3_z
                  clear s943_z s944_z
                  replace hm_z := rn_aload_n (am_cur_of (i := (164, 1, .aload_n 0, (0, 0, 0), 0)) (by decide +kernel)) g0_z hm_z
                  replace hm_z := rn_dup (am_cur_of (i := (165, 1, .dup, (0, 0, 0), 0)) (by decide +kernel)) hm_z
                  replace hm_z := rn_getI (v := rg_v h920_z 164 65) (am_cur_of (i := (166, 3, .getfield 457, (12, 65, 1449), 0)) (by decide +kernel)) (by decide +kernel) (show rg_v (am_up h920_z 164 64 (.int (rg_v h920_z 164 64))) 164 65 = rg_v h920_z 164 65 from rfl) hm_z
                  replace hm_z := rn_iload_n (am_cur_of (i := (169, 1, .iload_n 1, (0, 0, 0), 0)) (by decide +kernel)) g1_z hm_z
                  replace hm_z := rn_ifT (am_cur_of (i := (170, 3, .ifCond .eq 7, (103, 0, 0), 0)) (by decide +kernel)) (by decide) hm_z
                  replace hm_z := rn_iconst (w := 0) (am_cur_of (i := (177, 1, .iconst 0, (0, 0, 0), 0)) (by decide +kernel)) (by decide) hm_z
                  replace hm_z := rn_iadd (w := (rg_v h920_z 164 65) + 0) (am_cur_of (i := (178, 1, .iadd, (0, 0, 0), 0)) (by decide +kernel)) rfl hm_z
                  replace hm_z := rn_put (am_cur_of (i := (179, 3, .putfield 457, (12, 65, 1449), 0)) (by decide +kernel)) (by decide +kernel) hm_z
                  replace hm_z := rn_gotoL (am_cur_of (i := (182, 3, .goto (-126), (36, 0, 0), 0)) (by decide +kernel)) hm_z
                  exact bk_t (bk_u (by decide) (bk_u (by decide) (bk_t bk_r k922_z))) (I36 0 0 0 _ _ g0_z g1_z g2_z g3_z (tkm_b (bk_u (by decide) (bk_u (by decide) (bk_t bk_r k922_z))) T) hm_z)
                · replace b942_z : (v2_z + 1).toInt < (rg_v h920_z 164 13).toInt := b942_z
                  replace hm_z := rn_gotoL (am_cur_of (i := (159, 3, .goto (-103), (36, 0, 0), 0)) (by decide +kernel)) hm_z
                  exact bk_t (bk_u (by decide) (bk_t bk_r k922_z)) (I36 0 (v2_z + 1) 0 _ _ g0_z g1_z g2_z g3_z (tkm_b (bk_u (by decide) (bk_t bk_r k922_z)) T) hm_z)
              · replace b937_z : (v3_z + 1).toInt < (rg_v h920_z 172 v2_z.toNatClampNeg).toInt := b937_z
                replace hm_z := rn_gotoL (am_cur_of (i := (143, 3, .goto (-87), (36, 0, 0), 0)) (by decide +kernel)) hm_z
                exact bk_t (bk_u (by decide) (bk_t bk_r k922_z)) (I36 0 v2_z (v3_z + 1) _ _ g0_z g1_z g2_z g3_z (tkm_b (bk_u (by decide) (bk_t bk_r k922_z)) T) hm_z)
            · replace b931_z : (rg_v h920_z 188 1).toInt < (rg_v h920_z 168 0).toInt := b931_z
              replace hm_z := rn_iconst (w := 1) (am_cur_of (i := (124, 1, .iconst 1, (0, 0, 0), 0)) (by decide +kernel)) (by decide) hm_z
              replace hm_z := rn_goto (am_cur_of (i := (125, 3, .goto 4, (77, 0, 0), 0)) (by decide +kernel)) hm_z
              replace hm_z := rn_istore_n (am_cur_of (i := (129, 1, .istore_n 1, (0, 0, 0), 0)) (by decide +kernel)) hm_z
              obtain ⟨_, s945_z, s946_z, g1_z, hm_z⟩ := hm_z
              replace g0_z := s945_z 0 _ (by decide) rfl g0_z
              replace g2_z := s945_z 2 _ (by decide) rfl g2_z
              replace g3_z := s945_z 3 _ (by decide) rfl g3_z
              clear s945_z s946_z
              replace hm_z := rn_iinc (w := v3_z + 1) (am_cur_of (i := (130, 3, .iinc 3 1, (0, 0, 0), 0)) (by decide +kernel)) g3_z rfl hm_z
              obtain ⟨_, s947_z, s948_z, g3_z, hm_z⟩ := hm_z
              replace g0_z := s947_z 0 _ (by decide) rfl g0_z
              replace g1_z := s947_z 1 _ (by decide) rfl g1_z
              replace g2_z := s947_z 2 _ (by decide) rfl g2_z
              clear s947_z s948_z
              replace hm_z := rn_iload_n (am_cur_of (i := (133, 1, .iload_n 3, (0, 0, 0), 0)) (by decide +kernel)) g3_z hm_z
              replace hm_z := rn_aload_n (am_cur_of (i := (134, 1, .aload_n 0, (0, 0, 0), 0)) (by decide +kernel)) g0_z hm_z
              replace hm_z := rn_getR (x := 172) (am_cur_of (i := (135, 3, .getfield 36, (12, 27, 1411), 0)) (by decide +kernel)) (by decide +kernel) hm_z
              replace hm_z := rn_iload_n (am_cur_of (i := (138, 1, .iload_n 2, (0, 0, 0), 0)) (by decide +kernel)) g2_z hm_z
              replace hm_z := rn_iaload (N := 16) (q := v2_z.toNatClampNeg) (v := rg_v h920_z 172 v2_z.toNatClampNeg) (am_cur_of (i := (139, 1, .iaload, (0, 0, 0), 0)) (by decide +kernel)) (by decide +kernel) rfl (show rg_v (am_up h920_z 164 64 (.int (rg_v h920_z 164 64))) 172 v2_z.toNatClampNeg = rg_v h920_z 172 v2_z.toNatClampNeg from rfl) hm_z
              obtain ⟨p949_z, hm_z⟩ := hm_z
              replace hm_z := rn_cmp (am_cur_of (i := (140, 3, .if_icmp .ge 6, (86, 0, 0), 0)) (by decide +kernel)) hm_z
              rcases hm_z with ⟨b950_z, hm_z⟩ | ⟨b950_z, hm_z⟩
              · replace b950_z : (rg_v h920_z 172 v2_z.toNatClampNeg).toInt ≤ (v3_z + 1).toInt := b950_z
                replace hm_z := rn_iconst (w := 0) (am_cur_of (i := (146, 1, .iconst 0, (0, 0, 0), 0)) (by decide +kernel)) (by decide) hm_z
                replace hm_z := rn_istore_n (am_cur_of (i := (147, 1, .istore_n 3, (0, 0, 0), 0)) (by decide +kernel)) hm_z
                obtain ⟨_, s951_z, s952_z, g3_z, hm_z⟩ := hm_z
                replace g0_z := s951_z 0 _ (by decide) rfl g0_z
                replace g1_z := s951_z 1 _ (by decide) rfl g1_z
                replace g2_z := s951_z 2 _ (by decide) rfl g2_z
                clear s951_z s952_z
                replace hm_z := rn_iinc (w := v2_z + 1) (am_cur_of (i := (148, 3, .iinc 2 1, (0, 0, 0), 0)) (by decide +kernel)) g2_z rfl hm_z
                obtain ⟨_, s953_z, s954_z, g2_z, hm_z⟩ := hm_z
                replace g0_z := s953_z 0 _ (by decide) rfl g0_z
                replace g1_z := s953_z 1 _ (by decide) rfl g1_z
                replace g3_z := s953_z 3 _ (by decide) rfl g3_z
                clear s953_z s954_z
                replace hm_z := rn_iload_n (am_cur_of (i := (151, 1, .iload_n 2, (0, 0, 0), 0)) (by decide +kernel)) g2_z hm_z
                replace hm_z := rn_aload_n (am_cur_of (i := (152, 1, .aload_n 0, (0, 0, 0), 0)) (by decide +kernel)) g0_z hm_z
                replace hm_z := rn_getI (v := rg_v h920_z 164 13) (am_cur_of (i := (153, 3, .getfield 222, (12, 13, 1397), 0)) (by decide +kernel)) (by decide +kernel) (show rg_v (am_up h920_z 164 64 (.int (rg_v h920_z 164 64))) 164 13 = rg_v h920_z 164 13 from rfl) hm_z
                replace hm_z := rn_cmp (am_cur_of (i := (156, 3, .if_icmp .ge 6, (94, 0, 0), 0)) (by decide +kernel)) hm_z
                rcases hm_z with ⟨b955_z, hm_z⟩ | ⟨b955_z, hm_z⟩
                · replace b955_z : (rg_v h920_z 164 13).toInt ≤ (v2_z + 1).toInt := b955_z
                  replace hm_z := rn_iconst (w := 0) (am_cur_of (i := (162, 1, .iconst 0, (0, 0, 0), 0)) (by decide +kernel)) (by decide) hm_z
                  replace hm_z := rn_istore_n (am_cur_of (i := (163, 1, .istore_n 2, (0, 0, 0), 0)) (by decide +kernel)) hm_z
                  obtain ⟨_, s956_z, s957_z, g2_z, hm_z⟩ := hm_z
                  replace g0_z := s956_z 0 _ (by decide) rfl g0_z
                  replace g1_z := s956_z 1 _ (by decide) rfl g1_z
                  replace g3_z := s956_z 3 _ (by decide) rfl g3_z
                  clear s956_z s957_z
                  replace hm_z := rn_aload_n (am_cur_of (i := (164, 1, .aload_n 0, (0, 0, 0), 0)) (by decide +kernel)) g0_z hm_z
                  replace hm_z := rn_dup (am_cur_of (i := (165, 1, .dup, (0, 0, 0), 0)) (by decide +kernel)) hm_z
                  replace hm_z := rn_getI (v := rg_v h920_z 164 65) (am_cur_of (i := (166, 3, .getfield 457, (12, 65, 1449), 0)) (by decide +kernel)) (by decide +kernel) (show rg_v (am_up h920_z 164 64 (.int (rg_v h920_z 164 64))) 164 65 = rg_v h920_z 164 65 from rfl) hm_z
                  replace hm_z := rn_iload_n (am_cur_of (i := (169, 1, .iload_n 1, (0, 0, 0), 0)) (by decide +kernel)) g1_z hm_z
                  replace hm_z := rn_ifF (am_cur_of (i := (170, 3, .ifCond .eq 7, (103, 0, 0), 0)) (by decide +kernel)) (by decide) hm_z
                  replace hm_z := rn_iconst (w := 1) (am_cur_of (i := (173, 1, .iconst 1, (0, 0, 0), 0)) (by decide +kernel)) (by decide) hm_z
                  replace hm_z := rn_goto (am_cur_of (i := (174, 3, .goto 4, (104, 0, 0), 0)) (by decide +kernel)) hm_z
                  replace hm_z := rn_iadd (w := (rg_v h920_z 164 65) + 1) (am_cur_of (i := (178, 1, .iadd, (0, 0, 0), 0)) (by decide +kernel)) rfl hm_z
                  replace hm_z := rn_put (am_cur_of (i := (179, 3, .putfield 457, (12, 65, 1449), 0)) (by decide +kernel)) (by decide +kernel) hm_z
                  replace hm_z := rn_gotoL (am_cur_of (i := (182, 3, .goto (-126), (36, 0, 0), 0)) (by decide +kernel)) hm_z
                  exact bk_t (bk_u (by decide) (bk_u (by decide) (bk_t bk_r k922_z))) (I36 1 0 0 _ _ g0_z g1_z g2_z g3_z (tkm_b (bk_u (by decide) (bk_u (by decide) (bk_t bk_r k922_z))) T) hm_z)
                · replace b955_z : (v2_z + 1).toInt < (rg_v h920_z 164 13).toInt := b955_z
                  replace hm_z := rn_gotoL (am_cur_of (i := (159, 3, .goto (-103), (36, 0, 0), 0)) (by decide +kernel)) hm_z
                  exact bk_t (bk_u (by decide) (bk_t bk_r k922_z)) (I36 1 (v2_z + 1) 0 _ _ g0_z g1_z g2_z g3_z (tkm_b (bk_u (by decide) (bk_t bk_r k922_z)) T) hm_z)
              · replace b950_z : (v3_z + 1).toInt < (rg_v h920_z 172 v2_z.toNatClampNeg).toInt := b950_z
                replace hm_z := rn_gotoL (am_cur_of (i := (143, 3, .goto (-87), (36, 0, 0), 0)) (by decide +kernel)) hm_z
                exact bk_t (bk_u (by decide) (bk_t bk_r k922_z)) (I36 1 v2_z (v3_z + 1) _ _ g0_z g1_z g2_z g3_z (tkm_b (bk_u (by decide) (bk_t bk_r k922_z)) T) hm_z)
          · replace b928_z : v923_z = (0 : Int32) ∧ v923_z.toInt = (0 : Int32).toInt := b928_z
            replace hm_z := rn_gotoL (am_cur_of (i := (106, 3, .goto (-50), (36, 0, 0), 0)) (by decide +kernel)) hm_z
            exact bk_t (bk_u (by decide) (bk_t bk_r k922_z)) (I36 v923_z v2_z v3_z _ _ g0_z g1_z g2_z g3_z (tkm_b (bk_u (by decide) (bk_t bk_r k922_z)) T) hm_z)
        · replace b927_z : (rg_v h920_z 164 64).toInt < (rg_v h920_z 188 1).toInt := b927_z
          replace hm_z := rn_aload_n (am_cur_of (i := (86, 1, .aload_n 0, (0, 0, 0), 0)) (by decide +kernel)) g0_z hm_z
          replace hm_z := rn_getR (x := 188) (am_cur_of (i := (87, 3, .getfield 85, (12, 50, 1434), 0)) (by decide +kernel)) (by decide +kernel) hm_z
          replace hm_z := rn_iconst (w := 1) (am_cur_of (i := (90, 1, .iconst 1, (0, 0, 0), 0)) (by decide +kernel)) (by decide) hm_z
          replace hm_z := rn_iaload (N := 4) (q := 1) (v := rg_v h920_z 188 1) (am_cur_of (i := (91, 1, .iaload, (0, 0, 0), 0)) (by decide +kernel)) (by decide +kernel) rfl rfl hm_z
          obtain ⟨p958_z, hm_z⟩ := hm_z
          replace hm_z := rn_goto (am_cur_of (i := (92, 3, .goto 7, (61, 0, 0), 0)) (by decide +kernel)) hm_z
          replace hm_z := rn_put (am_cur_of (i := (99, 3, .putfield 454, (12, 64, 1448), 0)) (by decide +kernel)) (by decide +kernel) hm_z
          replace hm_z := rn_iload_n (am_cur_of (i := (102, 1, .iload_n 1, (0, 0, 0), 0)) (by decide +kernel)) g1_z hm_z
          replace hm_z := rn_if (am_cur_of (i := (103, 3, .ifCond .ne 6, (65, 0, 0), 0)) (by decide +kernel)) hm_z
          rcases hm_z with ⟨b959_z, hm_z⟩ | ⟨b959_z, hm_z⟩
          · replace b959_z : ¬ v923_z = (0 : Int32) ∧ ¬ v923_z.toInt = (0 : Int32).toInt := b959_z
            replace hm_z := rn_aload_n (am_cur_of (i := (109, 1, .aload_n 0, (0, 0, 0), 0)) (by decide +kernel)) g0_z hm_z
            replace hm_z := rn_getR (x := 188) (am_cur_of (i := (110, 3, .getfield 85, (12, 50, 1434), 0)) (by decide +kernel)) (by decide +kernel) hm_z
            replace hm_z := rn_iconst (w := 1) (am_cur_of (i := (113, 1, .iconst 1, (0, 0, 0), 0)) (by decide +kernel)) (by decide) hm_z
            replace hm_z := rn_iaload (N := 4) (q := 1) (v := rg_v h920_z 188 1) (am_cur_of (i := (114, 1, .iaload, (0, 0, 0), 0)) (by decide +kernel)) (by decide +kernel) rfl (show rg_v (am_up h920_z 164 64 (.int (rg_v h920_z 188 1))) 188 1 = rg_v h920_z 188 1 from rfl) hm_z
            obtain ⟨p960_z, hm_z⟩ := hm_z
            replace hm_z := rn_aload_n (am_cur_of (i := (115, 1, .aload_n 0, (0, 0, 0), 0)) (by decide +kernel)) g0_z hm_z
            replace hm_z := rn_getR (x := 168) (am_cur_of (i := (116, 3, .getfield 24, (12, 23, 1407), 0)) (by decide +kernel)) (by decide +kernel) hm_z
            replace hm_z := rn_iconst (w := 0) (am_cur_of (i := (119, 1, .iconst 0, (0, 0, 0), 0)) (by decide +kernel)) (by decide) hm_z
            replace hm_z := rn_iaload (N := 12) (q := 0) (v := rg_v h920_z 168 0) (am_cur_of (i := (120, 1, .iaload, (0, 0, 0), 0)) (by decide +kernel)) (by decide +kernel) rfl (show rg_v (am_up h920_z 164 64 (.int (rg_v h920_z 188 1))) 168 0 = rg_v h920_z 168 0 from rfl) hm_z
            obtain ⟨p961_z, hm_z⟩ := hm_z
            replace hm_z := rn_cmp (am_cur_of (i := (121, 3, .if_icmp .ge 7, (76, 0, 0), 0)) (by decide +kernel)) hm_z
            rcases hm_z with ⟨b962_z, hm_z⟩ | ⟨b962_z, hm_z⟩
            · replace b962_z : (rg_v h920_z 168 0).toInt ≤ (rg_v h920_z 188 1).toInt := b962_z
              replace hm_z := rn_iconst (w := 0) (am_cur_of (i := (128, 1, .iconst 0, (0, 0, 0), 0)) (by decide +kernel)) (by decide) hm_z
              replace hm_z := rn_istore_n (am_cur_of (i := (129, 1, .istore_n 1, (0, 0, 0), 0)) (by decide +kernel)) hm_z
              obtain ⟨_, s963_z, s964_z, g1_z, hm_z⟩ := hm_z
              replace g0_z := s963_z 0 _ (by decide) rfl g0_z
              replace g2_z := s963_z 2 _ (by decide) rfl g2_z
              replace g3_z := s963_z 3 _ (by decide) rfl g3_z
              clear s963_z s964_z
              replace hm_z := rn_iinc (w := v3_z + 1) (am_cur_of (i := (130, 3, .iinc 3 1, (0, 0, 0), 0)) (by decide +kernel)) g3_z rfl hm_z
              obtain ⟨_, s965_z, s966_z, g3_z, hm_z⟩ := hm_z
              replace g0_z := s965_z 0 _ (by decide) rfl g0_z
              replace g1_z := s965_z 1 _ (by decide) rfl g1_z
              replace g2_z := s965_z 2 _ (by decide) rfl g2_z
              clear s965_z s966_z
              replace hm_z := rn_iload_n (am_cur_of (i := (133, 1, .iload_n 3, (0, 0, 0), 0)) (by decide +kernel)) g3_z hm_z
              replace hm_z := rn_aload_n (am_cur_of (i := (134, 1, .aload_n 0, (0, 0, 0), 0)) (by decide +kernel)) g0_z hm_z
              replace hm_z := rn_getR (x := 172) (am_cur_of (i := (135, 3, .getfield 36, (12, 27, 1411), 0)) (by decide +kernel)) (by decide +kernel) hm_z
              replace hm_z := rn_iload_n (am_cur_of (i := (138, 1, .iload_n 2, (0, 0, 0), 0)) (by decide +kernel)) g2_z hm_z
              replace hm_z := rn_iaload (N := 16) (q := v2_z.toNatClampNeg) (v := rg_v h920_z 172 v2_z.toNatClampNeg) (am_cur_of (i := (139, 1, .iaload, (0, 0, 0), 0)) (by decide +kernel)) (by decide +kernel) rfl (show rg_v (am_up h920_z 164 64 (.int (rg_v h920_z 188 1))) 172 v2_z.toNatClampNeg = rg_v h920_z 172 v2_z.toNatClampNeg from rfl) hm_z
              obtain ⟨p967_z, hm_z⟩ := hm_z
              replace hm_z := rn_cmp (am_cur_of (i := (140, 3, .if_icmp .ge 6, (86, 0, 0), 0)) (by decide +kernel)) hm_z
              rcases hm_z with ⟨b968_z, hm_z⟩ | ⟨b968_z, hm_z⟩
              · replace b968_z : (rg_v h920_z 172 v2_z.toNatClampNeg).toInt ≤ (v3_z + 1).toInt := b968_z
                replace hm_z := rn_iconst (w := 0) (am_cur_of (i := (146, 1, .iconst 0, (0, 0, 0), 0)) (by decide +kernel)) (by decide) hm_z
                replace hm_z := rn_istore_n (am_cur_of (i := (147, 1, .istore_n 3, (0, 0, 0), 0)) (by decide +kernel)) hm_z
                obtain ⟨_, s969_z, s970_z, g3_z, hm_z⟩ := hm_z
                replace g0_z := s969_z 0 _ (by decide) rfl g0_z
                replace g1_z := s969_z 1 _ (by decide) rfl g1_z
                replace g2_z := s969_z 2 _ (by decide) rfl g2_z
                clear s969_z s970_z
                replace hm_z := rn_iinc (w := v2_z + 1) (am_cur_of (i := (148, 3, .iinc 2 1, (0, 0, 0), 0)) (by decide +kernel)) g2_z rfl hm_z
                obtain ⟨_, s971_z, s972_z, g2_z, hm_z⟩ := hm_z
                replace g0_z := s971_z 0 _ (by decide) rfl g0_z
                replace g1_z := s971_z 1 _ (by decide) rfl g1_z
                replace g3_z := s971_z 3 _ (by decide) rfl g3_z
                clear s971_z s972_z
                replace hm_z := rn_iload_n (am_cur_of (i := (151, 1, .iload_n 2, (0, 0, 0), 0)) (by decide +kernel)) g2_z hm_z
                replace hm_z := rn_aload_n (am_cur_of (i := (152, 1, .aload_n 0, (0, 0, 0), 0)) (by decide +kernel)) g0_z hm_z
                replace hm_z := rn_getI (v := rg_v h920_z 164 13) (am_cur_of (i := (153, 3, .getfield 222, (12, 13, 1397), 0)) (by decide +kernel)) (by decide +kernel) (show rg_v (am_up h920_z 164 64 (.int (rg_v h920_z 188 1))) 164 13 = rg_v h920_z 164 13 from rfl) hm_z
                replace hm_z := rn_cmp (am_cur_of (i := (156, 3, .if_icmp .ge 6, (94, 0, 0), 0)) (by decide +kernel)) hm_z
                rcases hm_z with ⟨b973_z, hm_z⟩ | ⟨b973_z, hm_z⟩
                · replace b973_z : (rg_v h920_z 164 13).toInt ≤ (v2_z + 1).toInt := b973_z
                  replace hm_z := rn_iconst (w := 0) (am_cur_of (i := (162, 1, .iconst 0, (0, 0, 0), 0)) (by decide +kernel)) (by decide) hm_z
                  replace hm_z := rn_istore_n (am_cur_of (i := (163, 1, .istore_n 2, (0, 0, 0), 0)) (by decide +kernel)) hm_z
                  obtain ⟨_, s974_z, s975_z, g2_z, hm_z⟩ := hm_z
                  replace g0_z := s974_z 0 _ (by decide) rfl g0_z
                  replace g1_z := s974_z 1 _ (by decide) rfl g1_z
                  replace g3_z := s974_z 3 _ (by decide) rfl g3_z
                  clear s974_z s975_z
                  replace hm_z := rn_aload_n (am_cur_of (i := (164, 1, .aload_n 0, (0, 0, 0), 0)) (by decide +kernel)) g0_z hm_z
                  replace hm_z := rn_dup (am_cur_of (i := (165, 1, .dup, (0, 0, 0), 0)) (by decide +kernel)) hm_z
                  replace hm_z := rn_getI (v := rg_v h920_z 164 65) (am_cur_of (i := (166, 3, .getfield 457, (12, 65, 1449), 0)) (by decide +kernel)) (by decide +kernel) (show rg_v (am_up h920_z 164 64 (.int (rg_v h920_z 188 1))) 164 65 = rg_v h920_z 164 65 from rfl) hm_z
                  replace hm_z := rn_iload_n (am_cur_of (i := (169, 1, .iload_n 1, (0, 0, 0), 0)) (by decide +kernel)) g1_z hm_z
                  replace hm_z := rn_ifT (am_cur_of (i := (170, 3, .ifCond .eq 7, (103, 0, 0), 0)) (by decide +kernel)) (by decide) hm_z
                  replace hm_z := rn_iconst (w := 0) (am_cur_of (i := (177, 1, .iconst 0, (0, 0, 0), 0)) (by decide +kernel)) (by decide) hm_z
                  replace hm_z := rn_iadd (w := (rg_v h920_z 164 65) + 0) (am_cur_of (i := (178, 1, .iadd, (0, 0, 0), 0)) (by decide +kernel)) rfl hm_z
                  replace hm_z := rn_put (am_cur_of (i := (179, 3, .putfield 457, (12, 65, 1449), 0)) (by decide +kernel)) (by decide +kernel) hm_z
                  replace hm_z := rn_gotoL (am_cur_of (i := (182, 3, .goto (-126), (36, 0, 0), 0)) (by decide +kernel)) hm_z
                  exact bk_t (bk_u (by decide) (bk_u (by decide) (bk_t bk_r k922_z))) (I36 0 0 0 _ _ g0_z g1_z g2_z g3_z (tkm_b (bk_u (by decide) (bk_u (by decide) (bk_t bk_r k922_z))) T) hm_z)
                · replace b973_z : (v2_z + 1).toInt < (rg_v h920_z 164 13).toInt := b973_z
                  replace hm_z := rn_gotoL (am_cur_of (i := (159, 3, .goto (-103), (36, 0, 0), 0)) (by decide +kernel)) hm_z
                  exact bk_t (bk_u (by decide) (bk_t bk_r k922_z)) (I36 0 (v2_z + 1) 0 _ _ g0_z g1_z g2_z g3_z (tkm_b (bk_u (by decide) (bk_t bk_r k922_z)) T) hm_z)
              · replace b968_z : (v3_z + 1).toInt < (rg_v h920_z 172 v2_z.toNatClampNeg).toInt := b968_z
                replace hm_z := rn_gotoL (am_cur_of (i := (143, 3, .goto (-87), (36, 0, 0), 0)) (by decide +kernel)) hm_z
                exact bk_t (bk_u (by decide) (bk_t bk_r k922_z)) (I36 0 v2_z (v3_z + 1) _ _ g0_z g1_z g2_z g3_z (tkm_b (bk_u (by decide) (bk_t bk_r k922_z)) T) hm_z)
            · replace b962_z : (rg_v h920_z 188 1).toInt < (rg_v h920_z 168 0).toInt := b962_z
              replace hm_z := rn_iconst (w := 1) (am_cur_of (i := (124, 1, .iconst 1, (0, 0, 0), 0)) (by decide +kernel)) (by decide) hm_z
              replace hm_z := rn_goto (am_cur_of (i := (125, 3, .goto 4, (77, 0, 0), 0)) (by decide +kernel)) hm_z
              replace hm_z := rn_istore_n (am_cur_of (i := (129, 1, .istore_n 1, (0, 0, 0), 0)) (by decide +kernel)) hm_z
              obtain ⟨_, s976_z, s977_z, g1_z, hm_z⟩ := hm_z
              replace g0_z := s976_z 0 _ (by decide) rfl g0_z
              replace g2_z := s976_z 2 _ (by decide) rfl g2_z
              replace g3_z := s976_z 3 _ (by decide) rfl g3_z
              clear s976_z s977_z
              replace hm_z := rn_iinc (w := v3_z + 1) (am_cur_of (i := (130, 3, .iinc 3 1, (0, 0, 0), 0)) (by decide +kernel)) g3_z rfl hm_z
              obtain ⟨_, s978_z, s979_z, g3_z, hm_z⟩ := hm_z
              replace g0_z := s978_z 0 _ (by decide) rfl g0_z
              replace g1_z := s978_z 1 _ (by decide) rfl g1_z
              replace g2_z := s978_z 2 _ (by decide) rfl g2_z
              clear s978_z s979_z
              replace hm_z := rn_iload_n (am_cur_of (i := (133, 1, .iload_n 3, (0, 0, 0), 0)) (by decide +kernel)) g3_z hm_z
              replace hm_z := rn_aload_n (am_cur_of (i := (134, 1, .aload_n 0, (0, 0, 0), 0)) (by decide +kernel)) g0_z hm_z
              replace hm_z := rn_getR (x := 172) (am_cur_of (i := (135, 3, .getfield 36, (12, 27, 1411), 0)) (by decide +kernel)) (by decide +kernel) hm_z
              replace hm_z := rn_iload_n (am_cur_of (i := (138, 1, .iload_n 2, (0, 0, 0), 0)) (by decide +kernel)) g2_z hm_z
              replace hm_z := rn_iaload (N := 16) (q := v2_z.toNatClampNeg) (v := rg_v h920_z 172 v2_z.toNatClampNeg) (am_cur_of (i := (139, 1, .iaload, (0, 0, 0), 0)) (by decide +kernel)) (by decide +kernel) rfl (show rg_v (am_up h920_z 164 64 (.int (rg_v h920_z 188 1))) 172 v2_z.toNatClampNeg = rg_v h920_z 172 v2_z.toNatClampNeg from rfl) hm_z
              obtain ⟨p980_z, hm_z⟩ := hm_z
              replace hm_z := rn_cmp (am_cur_of (i := (140, 3, .if_icmp .ge 6, (86, 0, 0), 0)) (by decide +kernel)) hm_z
              rcases hm_z with ⟨b981_z, hm_z⟩ | ⟨b981_z, hm_z⟩
              · replace b981_z : (rg_v h920_z 172 v2_z.toNatClampNeg).toInt ≤ (v3_z + 1).toInt := b981_z
                replace hm_z := rn_iconst (w := 0) (am_cur_of (i := (146, 1, .iconst 0, (0, 0, 0), 0)) (by decide +kernel)) (by decide) hm_z
                replace hm_z := rn_istore_n (am_cur_of (i := (147, 1, .istore_n 3, (0, 0, 0), 0)) (by decide +kernel)) hm_z
                obtain ⟨_, s982_z, s983_z, g3_z, hm_z⟩ := hm_z
                replace g0_z := s982_z 0 _ (by decide) rfl g0_z
                replace g1_z := s982_z 1 _ (by decide) rfl g1_z
                replace g2_z := s982_z 2 _ (by decide) rfl g2_z
                clear s982_z s983_z
                replace hm_z := rn_iinc (w := v2_z + 1) (am_cur_of (i := (148, 3, .iinc 2 1, (0, 0, 0), 0)) (by decide +kernel)) g2_z rfl hm_z
                obtain ⟨_, s984_z, s985_z, g2_z, hm_z⟩ := hm_z
                replace g0_z := s984_z 0 _ (by decide) rfl g0_z
                replace g1_z := s984_z 1 _ (by decide) rfl g1_z
                replace g3_z := s984_z 3 _ (by decide) rfl g3_z
                clear s984_z s985_z
                replace hm_z := rn_iload_n (am_cur_of (i := (151, 1, .iload_n 2, (0, 0, 0), 0)) (by decide +kernel)) g2_z hm_z
                replace hm_z := rn_aload_n (am_cur_of (i := (152, 1, .aload_n 0, (0, 0, 0), 0)) (by decide +kernel)) g0_z hm_z
                replace hm_z := rn_getI (v := rg_v h920_z 164 13) (am_cur_of (i := (153, 3, .getfield 222, (12, 13, 1397), 0)) (by decide +kernel)) (by decide +kernel) (show rg_v (am_up h920_z 164 64 (.int (rg_v h920_z 188 1))) 164 13 = rg_v h920_z 164 13 from rfl) hm_z
                replace hm_z := rn_cmp (am_cur_of (i := (156, 3, .if_icmp .ge 6, (94, 0, 0), 0)) (by decide +kernel)) hm_z
                rcases hm_z with ⟨b986_z, hm_z⟩ | ⟨b986_z, hm_z⟩
                · replace b986_z : (rg_v h920_z 164 13).toInt ≤ (v2_z + 1).toInt := b986_z
                  replace hm_z := rn_iconst (w := 0) (am_cur_of (i := (162, 1, .iconst 0, (0, 0, 0), 0)) (by decide +kernel)) (by decide) hm_z
                  replace hm_z := rn_istore_n (am_cur_of (i := (163, 1, .istore_n 2, (0, 0, 0), 0)) (by decide +kernel)) hm_z
                  obtain ⟨_, s987_z, s988_z, g2_z, hm_z⟩ := hm_z
                  replace g0_z := s987_z 0 _ (by decide) rfl g0_z
                  replace g1_z := s987_z 1 _ (by decide) rfl g1_z
                  replace g3_z := s987_z 3 _ (by decide) rfl g3_z
                  clear s987_z s988_z
                  replace hm_z := rn_aload_n (am_cur_of (i := (164, 1, .aload_n 0, (0, 0, 0), 0)) (by decide +kernel)) g0_z hm_z
                  replace hm_z := rn_dup (am_cur_of (i := (165, 1, .dup, (0, 0, 0), 0)) (by decide +kernel)) hm_z
                  replace hm_z := rn_getI (v := rg_v h920_z 164 65) (am_cur_of (i := (166, 3, .getfield 457, (12, 65, 1449), 0)) (by decide +kernel)) (by decide +kernel) (show rg_v (am_up h920_z 164 64 (.int (rg_v h920_z 188 1))) 164 65 = rg_v h920_z 164 65 from rfl) hm_z
                  replace hm_z := rn_iload_n (am_cur_of (i := (169, 1, .iload_n 1, (0, 0, 0), 0)) (by decide +kernel)) g1_z hm_z
                  replace hm_z := rn_ifF (am_cur_of (i := (170, 3, .ifCond .eq 7, (103, 0, 0), 0)) (by decide +kernel)) (by decide) hm_z
                  replace hm_z := rn_iconst (w := 1) (am_cur_of (i := (173, 1, .iconst 1, (0, 0, 0), 0)) (by decide +kernel)) (by decide) hm_z
                  replace hm_z := rn_goto (am_cur_of (i := (174, 3, .goto 4, (104, 0, 0), 0)) (by decide +kernel)) hm_z
                  replace hm_z := rn_iadd (w := (rg_v h920_z 164 65) + 1) (am_cur_of (i := (178, 1, .iadd, (0, 0, 0), 0)) (by decide +kernel)) rfl hm_z
                  replace hm_z := rn_put (am_cur_of (i := (179, 3, .putfield 457, (12, 65, 1449), 0)) (by decide +kernel)) (by decide +kernel) hm_z
                  replace hm_z := rn_gotoL (am_cur_of (i := (182, 3, .goto (-126), (36, 0, 0), 0)) (by decide +kernel)) hm_z
                  exact bk_t (bk_u (by decide) (bk_u (by decide) (bk_t bk_r k922_z))) (I36 1 0 0 _ _ g0_z g1_z g2_z g3_z (tkm_b (bk_u (by decide) (bk_u (by decide) (bk_t bk_r k922_z))) T) hm_z)
                · replace b986_z : (v2_z + 1).toInt < (rg_v h920_z 164 13).toInt := b986_z
                  replace hm_z := rn_gotoL (am_cur_of (i := (159, 3, .goto (-103), (36, 0, 0), 0)) (by decide +kernel)) hm_z
                  exact bk_t (bk_u (by decide) (bk_t bk_r k922_z)) (I36 1 (v2_z + 1) 0 _ _ g0_z g1_z g2_z g3_z (tkm_b (bk_u (by decide) (bk_t bk_r k922_z)) T) hm_z)
              · replace b981_z : (v3_z + 1).toInt < (rg_v h920_z 172 v2_z.toNatClampNeg).toInt := b981_z
                replace hm_z := rn_gotoL (am_cur_of (i := (143, 3, .goto (-87), (36, 0, 0), 0)) (by decide +kernel)) hm_z
                exact bk_t (bk_u (by decide) (bk_t bk_r k922_z)) (I36 1 v2_z (v3_z + 1) _ _ g0_z g1_z g2_z g3_z (tkm_b (bk_u (by decide) (bk_t bk_r k922_z)) T) hm_z)
          · replace b959_z : v923_z = (0 : Int32) ∧ v923_z.toInt = (0 : Int32).toInt := b959_z
            replace hm_z := rn_gotoL (am_cur_of (i := (106, 3, .goto (-50), (36, 0, 0), 0)) (by decide +kernel)) hm_z
            exact bk_t (bk_u (by decide) (bk_t bk_r k922_z)) (I36 v923_z v2_z v3_z _ _ g0_z g1_z g2_z g3_z (tkm_b (bk_u (by decide) (bk_t bk_r k922_z)) T) hm_z)
    exact H36
