/-! ===== THE KEPT PLAN OF BOTH, between the calls (wip/r/gen99rg.py) ===== -/
theorem kg_14_2 {n : Nat} {h h' : am_H} {r : Option Value}   (hc_z : rn n am_m14 0 (lv_args 0 [.ref 48, .ref 2]) [] h r h') : (r = none ∧ h' = (am_up (am_up (am_up (am_up (am_up (am_up (am_up (am_up (am_up (am_up (am_up (am_up (am_up (am_up (am_up (am_up (am_up h 48 0 (.int (rg_v h 2 1))) 48 1 (.int 0)) 48 2 (.int (-1))) 48 3 (.int (rg_v h 2 8))) 48 4 (.int 0)) 49 0 (.int 0)) 50 0 (.int 0)) 51 0 (.int 0)) 49 1 (.int 0)) 50 1 (.int 0)) 51 1 (.int 0)) 49 2 (.int 0)) 50 2 (.int 0)) 51 2 (.int 0)) 49 3 (.int 0)) 50 3 (.int 0)) 51 3 (.int 0))) := by
  have g0_z : am_get (lv_args 0 [.ref 48, .ref 2]) 0 = some (.ref 48) := rfl
  have g1_z : am_get (lv_args 0 [.ref 48, .ref 2]) 1 = some (.ref 2) := rfl
  replace hc_z := rn_aload_n (am_cur_of (i := (0, 1, .aload_n 0, (0, 0, 0), 0)) (by decide +kernel)) g0_z hc_z
  replace hc_z := rn_aload_n (am_cur_of (i := (1, 1, .aload_n 1, (0, 0, 0), 0)) (by decide +kernel)) g1_z hc_z
  replace hc_z := rn_getI (v := rg_v h 2 1) (am_cur_of (i := (2, 3, .getfield 21, (1, 1, 252), 0)) (by decide +kernel)) (by decide +kernel) rfl hc_z
  replace hc_z := rn_put (am_cur_of (i := (5, 3, .putfield 27, (5, 0, 462), 0)) (by decide +kernel)) (by decide +kernel) hc_z
  replace hc_z := rn_aload_n (am_cur_of (i := (8, 1, .aload_n 0, (0, 0, 0), 0)) (by decide +kernel)) g0_z hc_z
  replace hc_z := rn_iconst (w := 0) (am_cur_of (i := (9, 1, .iconst 0, (0, 0, 0), 0)) (by decide +kernel)) (by decide) hc_z
  replace hc_z := rn_put (am_cur_of (i := (10, 3, .putfield 30, (5, 1, 467), 0)) (by decide +kernel)) (by decide +kernel) hc_z
  replace hc_z := rn_aload_n (am_cur_of (i := (13, 1, .aload_n 0, (0, 0, 0), 0)) (by decide +kernel)) g0_z hc_z
  replace hc_z := rn_iconst (w := (-1)) (am_cur_of (i := (14, 1, .iconst (-1), (0, 0, 0), 0)) (by decide +kernel)) (by decide) hc_z
  replace hc_z := rn_put (am_cur_of (i := (15, 3, .putfield 33, (5, 2, 472), 0)) (by decide +kernel)) (by decide +kernel) hc_z
  replace hc_z := rn_aload_n (am_cur_of (i := (18, 1, .aload_n 0, (0, 0, 0), 0)) (by decide +kernel)) g0_z hc_z
  replace hc_z := rn_aload_n (am_cur_of (i := (19, 1, .aload_n 1, (0, 0, 0), 0)) (by decide +kernel)) g1_z hc_z
  replace hc_z := rn_getI (v := rg_v h 2 8) (am_cur_of (i := (20, 3, .getfield 36, (1, 8, 279), 0)) (by decide +kernel)) (by decide +kernel) (show rg_v (am_up (am_up (am_up h 48 0 (.int (rg_v h 2 1))) 48 1 (.int 0)) 48 2 (.int (-1))) 2 8 = rg_v h 2 8 from rfl) hc_z
  replace hc_z := rn_put (am_cur_of (i := (23, 3, .putfield 39, (5, 3, 476), 0)) (by decide +kernel)) (by decide +kernel) hc_z
  replace hc_z := rn_aload_n (am_cur_of (i := (26, 1, .aload_n 0, (0, 0, 0), 0)) (by decide +kernel)) g0_z hc_z
  replace hc_z := rn_iconst (w := 0) (am_cur_of (i := (27, 1, .iconst 0, (0, 0, 0), 0)) (by decide +kernel)) (by decide) hc_z
  replace hc_z := rn_put (am_cur_of (i := (28, 3, .putfield 42, (5, 4, 478), 0)) (by decide +kernel)) (by decide +kernel) hc_z
  replace hc_z := rn_iconst (w := 0) (am_cur_of (i := (31, 1, .iconst 0, (0, 0, 0), 0)) (by decide +kernel)) (by decide) hc_z
  replace hc_z := rn_istore_n (am_cur_of (i := (32, 1, .istore_n 2, (0, 0, 0), 0)) (by decide +kernel)) hc_z
  obtain ⟨_, s1_z, s2_z, g2_z, hc_z⟩ := hc_z
  replace g0_z := s1_z 0 _ (by decide) rfl g0_z
  replace g1_z := s1_z 1 _ (by decide) rfl g1_z
  clear s1_z s2_z
  replace hc_z := rn_iload_n (am_cur_of (i := (33, 1, .iload_n 2, (0, 0, 0), 0)) (by decide +kernel)) g2_z hc_z
  replace hc_z := rn_iconst (w := 4) (am_cur_of (i := (34, 1, .iconst 4, (0, 0, 0), 0)) (by decide +kernel)) (by decide) hc_z
  replace hc_z := rn_cmpF (am_cur_of (i := (35, 3, .if_icmp .ge 30, (39, 0, 0), 0)) (by decide +kernel)) (by decide) hc_z
  replace hc_z := rn_aload_n (am_cur_of (i := (38, 1, .aload_n 0, (0, 0, 0), 0)) (by decide +kernel)) g0_z hc_z
  replace hc_z := rn_getR (x := 49) (am_cur_of (i := (39, 3, .getfield 9, (5, 5, 480), 0)) (by decide +kernel)) (by decide +kernel) hc_z
  replace hc_z := rn_iload_n (am_cur_of (i := (42, 1, .iload_n 2, (0, 0, 0), 0)) (by decide +kernel)) g2_z hc_z
  replace hc_z := rn_iconst (w := 0) (am_cur_of (i := (43, 1, .iconst 0, (0, 0, 0), 0)) (by decide +kernel)) (by decide) hc_z
  replace hc_z := rn_iastore (N := 4) (q := 0) (am_cur_of (i := (44, 1, .iastore, (0, 0, 0), 0)) (by decide +kernel)) (by decide +kernel) rfl hc_z
  obtain ⟨p3_z, hc_z⟩ := hc_z
  replace hc_z := rn_aload_n (am_cur_of (i := (45, 1, .aload_n 0, (0, 0, 0), 0)) (by decide +kernel)) g0_z hc_z
  replace hc_z := rn_getR (x := 50) (am_cur_of (i := (46, 3, .getfield 15, (5, 6, 482), 0)) (by decide +kernel)) (by decide +kernel) hc_z
  replace hc_z := rn_iload_n (am_cur_of (i := (49, 1, .iload_n 2, (0, 0, 0), 0)) (by decide +kernel)) g2_z hc_z
  replace hc_z := rn_iconst (w := 0) (am_cur_of (i := (50, 1, .iconst 0, (0, 0, 0), 0)) (by decide +kernel)) (by decide) hc_z
  replace hc_z := rn_iastore (N := 4) (q := 0) (am_cur_of (i := (51, 1, .iastore, (0, 0, 0), 0)) (by decide +kernel)) (by decide +kernel) rfl hc_z
  obtain ⟨p4_z, hc_z⟩ := hc_z
  replace hc_z := rn_aload_n (am_cur_of (i := (52, 1, .aload_n 0, (0, 0, 0), 0)) (by decide +kernel)) g0_z hc_z
  replace hc_z := rn_getR (x := 51) (am_cur_of (i := (53, 3, .getfield 18, (5, 7, 485), 0)) (by decide +kernel)) (by decide +kernel) hc_z
  replace hc_z := rn_iload_n (am_cur_of (i := (56, 1, .iload_n 2, (0, 0, 0), 0)) (by decide +kernel)) g2_z hc_z
  replace hc_z := rn_iconst (w := 0) (am_cur_of (i := (57, 1, .iconst 0, (0, 0, 0), 0)) (by decide +kernel)) (by decide) hc_z
  replace hc_z := rn_iastore (N := 4) (q := 0) (am_cur_of (i := (58, 1, .iastore, (0, 0, 0), 0)) (by decide +kernel)) (by decide +kernel) rfl hc_z
  obtain ⟨p5_z, hc_z⟩ := hc_z
  replace hc_z := rn_iinc (w := 1) (am_cur_of (i := (59, 3, .iinc 2 1, (0, 0, 0), 0)) (by decide +kernel)) g2_z (by decide) hc_z
  obtain ⟨_, s6_z, s7_z, g2_z, hc_z⟩ := hc_z
  replace g0_z := s6_z 0 _ (by decide) rfl g0_z
  replace g1_z := s6_z 1 _ (by decide) rfl g1_z
  clear s6_z s7_z
  replace hc_z := rn_goto (am_cur_of (i := (62, 3, .goto (-29), (19, 0, 0), 0)) (by decide +kernel)) hc_z
  replace hc_z := rn_iload_n (am_cur_of (i := (33, 1, .iload_n 2, (0, 0, 0), 0)) (by decide +kernel)) g2_z hc_z
  replace hc_z := rn_iconst (w := 4) (am_cur_of (i := (34, 1, .iconst 4, (0, 0, 0), 0)) (by decide +kernel)) (by decide) hc_z
  replace hc_z := rn_cmpF (am_cur_of (i := (35, 3, .if_icmp .ge 30, (39, 0, 0), 0)) (by decide +kernel)) (by decide) hc_z
  replace hc_z := rn_aload_n (am_cur_of (i := (38, 1, .aload_n 0, (0, 0, 0), 0)) (by decide +kernel)) g0_z hc_z
  replace hc_z := rn_getR (x := 49) (am_cur_of (i := (39, 3, .getfield 9, (5, 5, 480), 0)) (by decide +kernel)) (by decide +kernel) hc_z
  replace hc_z := rn_iload_n (am_cur_of (i := (42, 1, .iload_n 2, (0, 0, 0), 0)) (by decide +kernel)) g2_z hc_z
  replace hc_z := rn_iconst (w := 0) (am_cur_of (i := (43, 1, .iconst 0, (0, 0, 0), 0)) (by decide +kernel)) (by decide) hc_z
  replace hc_z := rn_iastore (N := 4) (q := 1) (am_cur_of (i := (44, 1, .iastore, (0, 0, 0), 0)) (by decide +kernel)) (by decide +kernel) rfl hc_z
  obtain ⟨p8_z, hc_z⟩ := hc_z
  replace hc_z := rn_aload_n (am_cur_of (i := (45, 1, .aload_n 0, (0, 0, 0), 0)) (by decide +kernel)) g0_z hc_z
  replace hc_z := rn_getR (x := 50) (am_cur_of (i := (46, 3, .getfield 15, (5, 6, 482), 0)) (by decide +kernel)) (by decide +kernel) hc_z
  replace hc_z := rn_iload_n (am_cur_of (i := (49, 1, .iload_n 2, (0, 0, 0), 0)) (by decide +kernel)) g2_z hc_z
  replace hc_z := rn_iconst (w := 0) (am_cur_of (i := (50, 1, .iconst 0, (0, 0, 0), 0)) (by decide +kernel)) (by decide) hc_z
  replace hc_z := rn_iastore (N := 4) (q := 1) (am_cur_of (i := (51, 1, .iastore, (0, 0, 0), 0)) (by decide +kernel)) (by decide +kernel) rfl hc_z
  obtain ⟨p9_z, hc_z⟩ := hc_z
  replace hc_z := rn_aload_n (am_cur_of (i := (52, 1, .aload_n 0, (0, 0, 0), 0)) (by decide +kernel)) g0_z hc_z
  replace hc_z := rn_getR (x := 51) (am_cur_of (i := (53, 3, .getfield 18, (5, 7, 485), 0)) (by decide +kernel)) (by decide +kernel) hc_z
  replace hc_z := rn_iload_n (am_cur_of (i := (56, 1, .iload_n 2, (0, 0, 0), 0)) (by decide +kernel)) g2_z hc_z
  replace hc_z := rn_iconst (w := 0) (am_cur_of (i := (57, 1, .iconst 0, (0, 0, 0), 0)) (by decide +kernel)) (by decide) hc_z
  replace hc_z := rn_iastore (N := 4) (q := 1) (am_cur_of (i := (58, 1, .iastore, (0, 0, 0), 0)) (by decide +kernel)) (by decide +kernel) rfl hc_z
  obtain ⟨p10_z, hc_z⟩ := hc_z
  replace hc_z := rn_iinc (w := 2) (am_cur_of (i := (59, 3, .iinc 2 1, (0, 0, 0), 0)) (by decide +kernel)) g2_z (by decide) hc_z
  obtain ⟨_, s11_z, s12_z, g2_z, hc_z⟩ := hc_z
  replace g0_z := s11_z 0 _ (by decide) rfl g0_z
  replace g1_z := s11_z 1 _ (by decide) rfl g1_z
  clear s11_z s12_z
  replace hc_z := rn_goto (am_cur_of (i := (62, 3, .goto (-29), (19, 0, 0), 0)) (by decide +kernel)) hc_z
  replace hc_z := rn_iload_n (am_cur_of (i := (33, 1, .iload_n 2, (0, 0, 0), 0)) (by decide +kernel)) g2_z hc_z
  replace hc_z := rn_iconst (w := 4) (am_cur_of (i := (34, 1, .iconst 4, (0, 0, 0), 0)) (by decide +kernel)) (by decide) hc_z
  replace hc_z := rn_cmpF (am_cur_of (i := (35, 3, .if_icmp .ge 30, (39, 0, 0), 0)) (by decide +kernel)) (by decide) hc_z
  replace hc_z := rn_aload_n (am_cur_of (i := (38, 1, .aload_n 0, (0, 0, 0), 0)) (by decide +kernel)) g0_z hc_z
  replace hc_z := rn_getR (x := 49) (am_cur_of (i := (39, 3, .getfield 9, (5, 5, 480), 0)) (by decide +kernel)) (by decide +kernel) hc_z
  replace hc_z := rn_iload_n (am_cur_of (i := (42, 1, .iload_n 2, (0, 0, 0), 0)) (by decide +kernel)) g2_z hc_z
  replace hc_z := rn_iconst (w := 0) (am_cur_of (i := (43, 1, .iconst 0, (0, 0, 0), 0)) (by decide +kernel)) (by decide) hc_z
  replace hc_z := rn_iastore (N := 4) (q := 2) (am_cur_of (i := (44, 1, .iastore, (0, 0, 0), 0)) (by decide +kernel)) (by decide +kernel) rfl hc_z
  obtain ⟨p13_z, hc_z⟩ := hc_z
  replace hc_z := rn_aload_n (am_cur_of (i := (45, 1, .aload_n 0, (0, 0, 0), 0)) (by decide +kernel)) g0_z hc_z
  replace hc_z := rn_getR (x := 50) (am_cur_of (i := (46, 3, .getfield 15, (5, 6, 482), 0)) (by decide +kernel)) (by decide +kernel) hc_z
  replace hc_z := rn_iload_n (am_cur_of (i := (49, 1, .iload_n 2, (0, 0, 0), 0)) (by decide +kernel)) g2_z hc_z
  replace hc_z := rn_iconst (w := 0) (am_cur_of (i := (50, 1, .iconst 0, (0, 0, 0), 0)) (by decide +kernel)) (by decide) hc_z
  replace hc_z := rn_iastore (N := 4) (q := 2) (am_cur_of (i := (51, 1, .iastore, (0, 0, 0), 0)) (by decide +kernel)) (by decide +kernel) rfl hc_z
  obtain ⟨p14_z, hc_z⟩ := hc_z
  replace hc_z := rn_aload_n (am_cur_of (i := (52, 1, .aload_n 0, (0, 0, 0), 0)) (by decide +kernel)) g0_z hc_z
  replace hc_z := rn_getR (x := 51) (am_cur_of (i := (53, 3, .getfield 18, (5, 7, 485), 0)) (by decide +kernel)) (by decide +kernel) hc_z
  replace hc_z := rn_iload_n (am_cur_of (i := (56, 1, .iload_n 2, (0, 0, 0), 0)) (by decide +kernel)) g2_z hc_z
  replace hc_z := rn_iconst (w := 0) (am_cur_of (i := (57, 1, .iconst 0, (0, 0, 0), 0)) (by decide +kernel)) (by decide) hc_z
  replace hc_z := rn_iastore (N := 4) (q := 2) (am_cur_of (i := (58, 1, .iastore, (0, 0, 0), 0)) (by decide +kernel)) (by decide +kernel) rfl hc_z
  obtain ⟨p15_z, hc_z⟩ := hc_z
  replace hc_z := rn_iinc (w := 3) (am_cur_of (i := (59, 3, .iinc 2 1, (0, 0, 0), 0)) (by decide +kernel)) g2_z (by decide) hc_z
  obtain ⟨_, s16_z, s17_z, g2_z, hc_z⟩ := hc_z
  replace g0_z := s16_z 0 _ (by decide) rfl g0_z
  replace g1_z := s16_z 1 _ (by decide) rfl g1_z
  clear s16_z s17_z
  replace hc_z := rn_goto (am_cur_of (i := (62, 3, .goto (-29), (19, 0, 0), 0)) (by decide +kernel)) hc_z
  replace hc_z := rn_iload_n (am_cur_of (i := (33, 1, .iload_n 2, (0, 0, 0), 0)) (by decide +kernel)) g2_z hc_z
  replace hc_z := rn_iconst (w := 4) (am_cur_of (i := (34, 1, .iconst 4, (0, 0, 0), 0)) (by decide +kernel)) (by decide) hc_z
  replace hc_z := rn_cmpF (am_cur_of (i := (35, 3, .if_icmp .ge 30, (39, 0, 0), 0)) (by decide +kernel)) (by decide) hc_z
  replace hc_z := rn_aload_n (am_cur_of (i := (38, 1, .aload_n 0, (0, 0, 0), 0)) (by decide +kernel)) g0_z hc_z
  replace hc_z := rn_getR (x := 49) (am_cur_of (i := (39, 3, .getfield 9, (5, 5, 480), 0)) (by decide +kernel)) (by decide +kernel) hc_z
  replace hc_z := rn_iload_n (am_cur_of (i := (42, 1, .iload_n 2, (0, 0, 0), 0)) (by decide +kernel)) g2_z hc_z
  replace hc_z := rn_iconst (w := 0) (am_cur_of (i := (43, 1, .iconst 0, (0, 0, 0), 0)) (by decide +kernel)) (by decide) hc_z
  replace hc_z := rn_iastore (N := 4) (q := 3) (am_cur_of (i := (44, 1, .iastore, (0, 0, 0), 0)) (by decide +kernel)) (by decide +kernel) rfl hc_z
  obtain ⟨p18_z, hc_z⟩ := hc_z
  replace hc_z := rn_aload_n (am_cur_of (i := (45, 1, .aload_n 0, (0, 0, 0), 0)) (by decide +kernel)) g0_z hc_z
  replace hc_z := rn_getR (x := 50) (am_cur_of (i := (46, 3, .getfield 15, (5, 6, 482), 0)) (by decide +kernel)) (by decide +kernel) hc_z
  replace hc_z := rn_iload_n (am_cur_of (i := (49, 1, .iload_n 2, (0, 0, 0), 0)) (by decide +kernel)) g2_z hc_z
  replace hc_z := rn_iconst (w := 0) (am_cur_of (i := (50, 1, .iconst 0, (0, 0, 0), 0)) (by decide +kernel)) (by decide) hc_z
  replace hc_z := rn_iastore (N := 4) (q := 3) (am_cur_of (i := (51, 1, .iastore, (0, 0, 0), 0)) (by decide +kernel)) (by decide +kernel) rfl hc_z
  obtain ⟨p19_z, hc_z⟩ := hc_z
  replace hc_z := rn_aload_n (am_cur_of (i := (52, 1, .aload_n 0, (0, 0, 0), 0)) (by decide +kernel)) g0_z hc_z
  replace hc_z := rn_getR (x := 51) (am_cur_of (i := (53, 3, .getfield 18, (5, 7, 485), 0)) (by decide +kernel)) (by decide +kernel) hc_z
  replace hc_z := rn_iload_n (am_cur_of (i := (56, 1, .iload_n 2, (0, 0, 0), 0)) (by decide +kernel)) g2_z hc_z
  replace hc_z := rn_iconst (w := 0) (am_cur_of (i := (57, 1, .iconst 0, (0, 0, 0), 0)) (by decide +kernel)) (by decide) hc_z
  replace hc_z := rn_iastore (N := 4) (q := 3) (am_cur_of (i := (58, 1, .iastore, (0, 0, 0), 0)) (by decide +kernel)) (by decide +kernel) rfl hc_z
  obtain ⟨p20_z, hc_z⟩ := hc_z
  replace hc_z := rn_iinc (w := 4) (am_cur_of (i := (59, 3, .iinc 2 1, (0, 0, 0), 0)) (by decide +kernel)) g2_z (by decide) hc_z
  obtain ⟨_, s21_z, s22_z, g2_z, hc_z⟩ := hc_z
  replace g0_z := s21_z 0 _ (by decide) rfl g0_z
  replace g1_z := s21_z 1 _ (by decide) rfl g1_z
  clear s21_z s22_z
  replace hc_z := rn_goto (am_cur_of (i := (62, 3, .goto (-29), (19, 0, 0), 0)) (by decide +kernel)) hc_z
  replace hc_z := rn_iload_n (am_cur_of (i := (33, 1, .iload_n 2, (0, 0, 0), 0)) (by decide +kernel)) g2_z hc_z
  replace hc_z := rn_iconst (w := 4) (am_cur_of (i := (34, 1, .iconst 4, (0, 0, 0), 0)) (by decide +kernel)) (by decide) hc_z
  replace hc_z := rn_cmpT (am_cur_of (i := (35, 3, .if_icmp .ge 30, (39, 0, 0), 0)) (by decide +kernel)) (by decide) hc_z
  replace hc_z := rn_vret (am_cur_of (i := (65, 1, .return_, (0, 0, 0), 0)) (by decide +kernel)) hc_z
  obtain ⟨e23_z, e24_z⟩ := hc_z
  exact ⟨e23_z, e24_z⟩
theorem kg_14_23 {n : Nat} {h h' : am_H} {r : Option Value}   (hc_z : rn n am_m14 0 (lv_args 0 [.ref 48, .ref 23]) [] h r h') : (r = none ∧ h' = (am_up (am_up (am_up (am_up (am_up (am_up (am_up (am_up (am_up (am_up (am_up (am_up (am_up (am_up (am_up (am_up (am_up h 48 0 (.int (rg_v h 23 1))) 48 1 (.int 0)) 48 2 (.int (-1))) 48 3 (.int (rg_v h 23 8))) 48 4 (.int 0)) 49 0 (.int 0)) 50 0 (.int 0)) 51 0 (.int 0)) 49 1 (.int 0)) 50 1 (.int 0)) 51 1 (.int 0)) 49 2 (.int 0)) 50 2 (.int 0)) 51 2 (.int 0)) 49 3 (.int 0)) 50 3 (.int 0)) 51 3 (.int 0))) := by
  have g0_z : am_get (lv_args 0 [.ref 48, .ref 23]) 0 = some (.ref 48) := rfl
  have g1_z : am_get (lv_args 0 [.ref 48, .ref 23]) 1 = some (.ref 23) := rfl
  replace hc_z := rn_aload_n (am_cur_of (i := (0, 1, .aload_n 0, (0, 0, 0), 0)) (by decide +kernel)) g0_z hc_z
  replace hc_z := rn_aload_n (am_cur_of (i := (1, 1, .aload_n 1, (0, 0, 0), 0)) (by decide +kernel)) g1_z hc_z
  replace hc_z := rn_getI (v := rg_v h 23 1) (am_cur_of (i := (2, 3, .getfield 21, (1, 1, 252), 0)) (by decide +kernel)) (by decide +kernel) rfl hc_z
  replace hc_z := rn_put (am_cur_of (i := (5, 3, .putfield 27, (5, 0, 462), 0)) (by decide +kernel)) (by decide +kernel) hc_z
  replace hc_z := rn_aload_n (am_cur_of (i := (8, 1, .aload_n 0, (0, 0, 0), 0)) (by decide +kernel)) g0_z hc_z
  replace hc_z := rn_iconst (w := 0) (am_cur_of (i := (9, 1, .iconst 0, (0, 0, 0), 0)) (by decide +kernel)) (by decide) hc_z
  replace hc_z := rn_put (am_cur_of (i := (10, 3, .putfield 30, (5, 1, 467), 0)) (by decide +kernel)) (by decide +kernel) hc_z
  replace hc_z := rn_aload_n (am_cur_of (i := (13, 1, .aload_n 0, (0, 0, 0), 0)) (by decide +kernel)) g0_z hc_z
  replace hc_z := rn_iconst (w := (-1)) (am_cur_of (i := (14, 1, .iconst (-1), (0, 0, 0), 0)) (by decide +kernel)) (by decide) hc_z
  replace hc_z := rn_put (am_cur_of (i := (15, 3, .putfield 33, (5, 2, 472), 0)) (by decide +kernel)) (by decide +kernel) hc_z
  replace hc_z := rn_aload_n (am_cur_of (i := (18, 1, .aload_n 0, (0, 0, 0), 0)) (by decide +kernel)) g0_z hc_z
  replace hc_z := rn_aload_n (am_cur_of (i := (19, 1, .aload_n 1, (0, 0, 0), 0)) (by decide +kernel)) g1_z hc_z
  replace hc_z := rn_getI (v := rg_v h 23 8) (am_cur_of (i := (20, 3, .getfield 36, (1, 8, 279), 0)) (by decide +kernel)) (by decide +kernel) (show rg_v (am_up (am_up (am_up h 48 0 (.int (rg_v h 23 1))) 48 1 (.int 0)) 48 2 (.int (-1))) 23 8 = rg_v h 23 8 from rfl) hc_z
  replace hc_z := rn_put (am_cur_of (i := (23, 3, .putfield 39, (5, 3, 476), 0)) (by decide +kernel)) (by decide +kernel) hc_z
  replace hc_z := rn_aload_n (am_cur_of (i := (26, 1, .aload_n 0, (0, 0, 0), 0)) (by decide +kernel)) g0_z hc_z
  replace hc_z := rn_iconst (w := 0) (am_cur_of (i := (27, 1, .iconst 0, (0, 0, 0), 0)) (by decide +kernel)) (by decide) hc_z
  replace hc_z := rn_put (am_cur_of (i := (28, 3, .putfield 42, (5, 4, 478), 0)) (by decide +kernel)) (by decide +kernel) hc_z
  replace hc_z := rn_iconst (w := 0) (am_cur_of (i := (31, 1, .iconst 0, (0, 0, 0), 0)) (by decide +kernel)) (by decide) hc_z
  replace hc_z := rn_istore_n (am_cur_of (i := (32, 1, .istore_n 2, (0, 0, 0), 0)) (by decide +kernel)) hc_z
  obtain ⟨_, s25_z, s26_z, g2_z, hc_z⟩ := hc_z
  replace g0_z := s25_z 0 _ (by decide) rfl g0_z
  replace g1_z := s25_z 1 _ (by decide) rfl g1_z
  clear s25_z s26_z
  replace hc_z := rn_iload_n (am_cur_of (i := (33, 1, .iload_n 2, (0, 0, 0), 0)) (by decide +kernel)) g2_z hc_z
  replace hc_z := rn_iconst (w := 4) (am_cur_of (i := (34, 1, .iconst 4, (0, 0, 0), 0)) (by decide +kernel)) (by decide) hc_z
  replace hc_z := rn_cmpF (am_cur_of (i := (35, 3, .if_icmp .ge 30, (39, 0, 0), 0)) (by decide +kernel)) (by decide) hc_z
  replace hc_z := rn_aload_n (am_cur_of (i := (38, 1, .aload_n 0, (0, 0, 0), 0)) (by decide +kernel)) g0_z hc_z
  replace hc_z := rn_getR (x := 49) (am_cur_of (i := (39, 3, .getfield 9, (5, 5, 480), 0)) (by decide +kernel)) (by decide +kernel) hc_z
  replace hc_z := rn_iload_n (am_cur_of (i := (42, 1, .iload_n 2, (0, 0, 0), 0)) (by decide +kernel)) g2_z hc_z
  replace hc_z := rn_iconst (w := 0) (am_cur_of (i := (43, 1, .iconst 0, (0, 0, 0), 0)) (by decide +kernel)) (by decide) hc_z
  replace hc_z := rn_iastore (N := 4) (q := 0) (am_cur_of (i := (44, 1, .iastore, (0, 0, 0), 0)) (by decide +kernel)) (by decide +kernel) rfl hc_z
  obtain ⟨p27_z, hc_z⟩ := hc_z
  replace hc_z := rn_aload_n (am_cur_of (i := (45, 1, .aload_n 0, (0, 0, 0), 0)) (by decide +kernel)) g0_z hc_z
  replace hc_z := rn_getR (x := 50) (am_cur_of (i := (46, 3, .getfield 15, (5, 6, 482), 0)) (by decide +kernel)) (by decide +kernel) hc_z
  replace hc_z := rn_iload_n (am_cur_of (i := (49, 1, .iload_n 2, (0, 0, 0), 0)) (by decide +kernel)) g2_z hc_z
  replace hc_z := rn_iconst (w := 0) (am_cur_of (i := (50, 1, .iconst 0, (0, 0, 0), 0)) (by decide +kernel)) (by decide) hc_z
  replace hc_z := rn_iastore (N := 4) (q := 0) (am_cur_of (i := (51, 1, .iastore, (0, 0, 0), 0)) (by decide +kernel)) (by decide +kernel) rfl hc_z
  obtain ⟨p28_z, hc_z⟩ := hc_z
  replace hc_z := rn_aload_n (am_cur_of (i := (52, 1, .aload_n 0, (0, 0, 0), 0)) (by decide +kernel)) g0_z hc_z
  replace hc_z := rn_getR (x := 51) (am_cur_of (i := (53, 3, .getfield 18, (5, 7, 485), 0)) (by decide +kernel)) (by decide +kernel) hc_z
  replace hc_z := rn_iload_n (am_cur_of (i := (56, 1, .iload_n 2, (0, 0, 0), 0)) (by decide +kernel)) g2_z hc_z
  replace hc_z := rn_iconst (w := 0) (am_cur_of (i := (57, 1, .iconst 0, (0, 0, 0), 0)) (by decide +kernel)) (by decide) hc_z
  replace hc_z := rn_iastore (N := 4) (q := 0) (am_cur_of (i := (58, 1, .iastore, (0, 0, 0), 0)) (by decide +kernel)) (by decide +kernel) rfl hc_z
  obtain ⟨p29_z, hc_z⟩ := hc_z
  replace hc_z := rn_iinc (w := 1) (am_cur_of (i := (59, 3, .iinc 2 1, (0, 0, 0), 0)) (by decide +kernel)) g2_z (by decide) hc_z
  obtain ⟨_, s30_z, s31_z, g2_z, hc_z⟩ := hc_z
  replace g0_z := s30_z 0 _ (by decide) rfl g0_z
  replace g1_z := s30_z 1 _ (by decide) rfl g1_z
  clear s30_z s31_z
  replace hc_z := rn_goto (am_cur_of (i := (62, 3, .goto (-29), (19, 0, 0), 0)) (by decide +kernel)) hc_z
  replace hc_z := rn_iload_n (am_cur_of (i := (33, 1, .iload_n 2, (0, 0, 0), 0)) (by decide +kernel)) g2_z hc_z
  replace hc_z := rn_iconst (w := 4) (am_cur_of (i := (34, 1, .iconst 4, (0, 0, 0), 0)) (by decide +kernel)) (by decide) hc_z
  replace hc_z := rn_cmpF (am_cur_of (i := (35, 3, .if_icmp .ge 30, (39, 0, 0), 0)) (by decide +kernel)) (by decide) hc_z
  replace hc_z := rn_aload_n (am_cur_of (i := (38, 1, .aload_n 0, (0, 0, 0), 0)) (by decide +kernel)) g0_z hc_z
  replace hc_z := rn_getR (x := 49) (am_cur_of (i := (39, 3, .getfield 9, (5, 5, 480), 0)) (by decide +kernel)) (by decide +kernel) hc_z
  replace hc_z := rn_iload_n (am_cur_of (i := (42, 1, .iload_n 2, (0, 0, 0), 0)) (by decide +kernel)) g2_z hc_z
  replace hc_z := rn_iconst (w := 0) (am_cur_of (i := (43, 1, .iconst 0, (0, 0, 0), 0)) (by decide +kernel)) (by decide) hc_z
  replace hc_z := rn_iastore (N := 4) (q := 1) (am_cur_of (i := (44, 1, .iastore, (0, 0, 0), 0)) (by decide +kernel)) (by decide +kernel) rfl hc_z
  obtain ⟨p32_z, hc_z⟩ := hc_z
  replace hc_z := rn_aload_n (am_cur_of (i := (45, 1, .aload_n 0, (0, 0, 0), 0)) (by decide +kernel)) g0_z hc_z
  replace hc_z := rn_getR (x := 50) (am_cur_of (i := (46, 3, .getfield 15, (5, 6, 482), 0)) (by decide +kernel)) (by decide +kernel) hc_z
  replace hc_z := rn_iload_n (am_cur_of (i := (49, 1, .iload_n 2, (0, 0, 0), 0)) (by decide +kernel)) g2_z hc_z
  replace hc_z := rn_iconst (w := 0) (am_cur_of (i := (50, 1, .iconst 0, (0, 0, 0), 0)) (by decide +kernel)) (by decide) hc_z
  replace hc_z := rn_iastore (N := 4) (q := 1) (am_cur_of (i := (51, 1, .iastore, (0, 0, 0), 0)) (by decide +kernel)) (by decide +kernel) rfl hc_z
  obtain ⟨p33_z, hc_z⟩ := hc_z
  replace hc_z := rn_aload_n (am_cur_of (i := (52, 1, .aload_n 0, (0, 0, 0), 0)) (by decide +kernel)) g0_z hc_z
  replace hc_z := rn_getR (x := 51) (am_cur_of (i := (53, 3, .getfield 18, (5, 7, 485), 0)) (by decide +kernel)) (by decide +kernel) hc_z
  replace hc_z := rn_iload_n (am_cur_of (i := (56, 1, .iload_n 2, (0, 0, 0), 0)) (by decide +kernel)) g2_z hc_z
  replace hc_z := rn_iconst (w := 0) (am_cur_of (i := (57, 1, .iconst 0, (0, 0, 0), 0)) (by decide +kernel)) (by decide) hc_z
  replace hc_z := rn_iastore (N := 4) (q := 1) (am_cur_of (i := (58, 1, .iastore, (0, 0, 0), 0)) (by decide +kernel)) (by decide +kernel) rfl hc_z
  obtain ⟨p34_z, hc_z⟩ := hc_z
  replace hc_z := rn_iinc (w := 2) (am_cur_of (i := (59, 3, .iinc 2 1, (0, 0, 0), 0)) (by decide +kernel)) g2_z (by decide) hc_z
  obtain ⟨_, s35_z, s36_z, g2_z, hc_z⟩ := hc_z
  replace g0_z := s35_z 0 _ (by decide) rfl g0_z
  replace g1_z := s35_z 1 _ (by decide) rfl g1_z
  clear s35_z s36_z
  replace hc_z := rn_goto (am_cur_of (i := (62, 3, .goto (-29), (19, 0, 0), 0)) (by decide +kernel)) hc_z
  replace hc_z := rn_iload_n (am_cur_of (i := (33, 1, .iload_n 2, (0, 0, 0), 0)) (by decide +kernel)) g2_z hc_z
  replace hc_z := rn_iconst (w := 4) (am_cur_of (i := (34, 1, .iconst 4, (0, 0, 0), 0)) (by decide +kernel)) (by decide) hc_z
  replace hc_z := rn_cmpF (am_cur_of (i := (35, 3, .if_icmp .ge 30, (39, 0, 0), 0)) (by decide +kernel)) (by decide) hc_z
  replace hc_z := rn_aload_n (am_cur_of (i := (38, 1, .aload_n 0, (0, 0, 0), 0)) (by decide +kernel)) g0_z hc_z
  replace hc_z := rn_getR (x := 49) (am_cur_of (i := (39, 3, .getfield 9, (5, 5, 480), 0)) (by decide +kernel)) (by decide +kernel) hc_z
  replace hc_z := rn_iload_n (am_cur_of (i := (42, 1, .iload_n 2, (0, 0, 0), 0)) (by decide +kernel)) g2_z hc_z
  replace hc_z := rn_iconst (w := 0) (am_cur_of (i := (43, 1, .iconst 0, (0, 0, 0), 0)) (by decide +kernel)) (by decide) hc_z
  replace hc_z := rn_iastore (N := 4) (q := 2) (am_cur_of (i := (44, 1, .iastore, (0, 0, 0), 0)) (by decide +kernel)) (by decide +kernel) rfl hc_z
  obtain ⟨p37_z, hc_z⟩ := hc_z
  replace hc_z := rn_aload_n (am_cur_of (i := (45, 1, .aload_n 0, (0, 0, 0), 0)) (by decide +kernel)) g0_z hc_z
  replace hc_z := rn_getR (x := 50) (am_cur_of (i := (46, 3, .getfield 15, (5, 6, 482), 0)) (by decide +kernel)) (by decide +kernel) hc_z
  replace hc_z := rn_iload_n (am_cur_of (i := (49, 1, .iload_n 2, (0, 0, 0), 0)) (by decide +kernel)) g2_z hc_z
  replace hc_z := rn_iconst (w := 0) (am_cur_of (i := (50, 1, .iconst 0, (0, 0, 0), 0)) (by decide +kernel)) (by decide) hc_z
  replace hc_z := rn_iastore (N := 4) (q := 2) (am_cur_of (i := (51, 1, .iastore, (0, 0, 0), 0)) (by decide +kernel)) (by decide +kernel) rfl hc_z
  obtain ⟨p38_z, hc_z⟩ := hc_z
  replace hc_z := rn_aload_n (am_cur_of (i := (52, 1, .aload_n 0, (0, 0, 0), 0)) (by decide +kernel)) g0_z hc_z
  replace hc_z := rn_getR (x := 51) (am_cur_of (i := (53, 3, .getfield 18, (5, 7, 485), 0)) (by decide +kernel)) (by decide +kernel) hc_z
  replace hc_z := rn_iload_n (am_cur_of (i := (56, 1, .iload_n 2, (0, 0, 0), 0)) (by decide +kernel)) g2_z hc_z
  replace hc_z := rn_iconst (w := 0) (am_cur_of (i := (57, 1, .iconst 0, (0, 0, 0), 0)) (by decide +kernel)) (by decide) hc_z
  replace hc_z := rn_iastore (N := 4) (q := 2) (am_cur_of (i := (58, 1, .iastore, (0, 0, 0), 0)) (by decide +kernel)) (by decide +kernel) rfl hc_z
  obtain ⟨p39_z, hc_z⟩ := hc_z
  replace hc_z := rn_iinc (w := 3) (am_cur_of (i := (59, 3, .iinc 2 1, (0, 0, 0), 0)) (by decide +kernel)) g2_z (by decide) hc_z
  obtain ⟨_, s40_z, s41_z, g2_z, hc_z⟩ := hc_z
  replace g0_z := s40_z 0 _ (by decide) rfl g0_z
  replace g1_z := s40_z 1 _ (by decide) rfl g1_z
  clear s40_z s41_z
  replace hc_z := rn_goto (am_cur_of (i := (62, 3, .goto (-29), (19, 0, 0), 0)) (by decide +kernel)) hc_z
  replace hc_z := rn_iload_n (am_cur_of (i := (33, 1, .iload_n 2, (0, 0, 0), 0)) (by decide +kernel)) g2_z hc_z
  replace hc_z := rn_iconst (w := 4) (am_cur_of (i := (34, 1, .iconst 4, (0, 0, 0), 0)) (by decide +kernel)) (by decide) hc_z
  replace hc_z := rn_cmpF (am_cur_of (i := (35, 3, .if_icmp .ge 30, (39, 0, 0), 0)) (by decide +kernel)) (by decide) hc_z
  replace hc_z := rn_aload_n (am_cur_of (i := (38, 1, .aload_n 0, (0, 0, 0), 0)) (by decide +kernel)) g0_z hc_z
  replace hc_z := rn_getR (x := 49) (am_cur_of (i := (39, 3, .getfield 9, (5, 5, 480), 0)) (by decide +kernel)) (by decide +kernel) hc_z
  replace hc_z := rn_iload_n (am_cur_of (i := (42, 1, .iload_n 2, (0, 0, 0), 0)) (by decide +kernel)) g2_z hc_z
  replace hc_z := rn_iconst (w := 0) (am_cur_of (i := (43, 1, .iconst 0, (0, 0, 0), 0)) (by decide +kernel)) (by decide) hc_z
  replace hc_z := rn_iastore (N := 4) (q := 3) (am_cur_of (i := (44, 1, .iastore, (0, 0, 0), 0)) (by decide +kernel)) (by decide +kernel) rfl hc_z
  obtain ⟨p42_z, hc_z⟩ := hc_z
  replace hc_z := rn_aload_n (am_cur_of (i := (45, 1, .aload_n 0, (0, 0, 0), 0)) (by decide +kernel)) g0_z hc_z
  replace hc_z := rn_getR (x := 50) (am_cur_of (i := (46, 3, .getfield 15, (5, 6, 482), 0)) (by decide +kernel)) (by decide +kernel) hc_z
  replace hc_z := rn_iload_n (am_cur_of (i := (49, 1, .iload_n 2, (0, 0, 0), 0)) (by decide +kernel)) g2_z hc_z
  replace hc_z := rn_iconst (w := 0) (am_cur_of (i := (50, 1, .iconst 0, (0, 0, 0), 0)) (by decide +kernel)) (by decide) hc_z
  replace hc_z := rn_iastore (N := 4) (q := 3) (am_cur_of (i := (51, 1, .iastore, (0, 0, 0), 0)) (by decide +kernel)) (by decide +kernel) rfl hc_z
  obtain ⟨p43_z, hc_z⟩ := hc_z
  replace hc_z := rn_aload_n (am_cur_of (i := (52, 1, .aload_n 0, (0, 0, 0), 0)) (by decide +kernel)) g0_z hc_z
  replace hc_z := rn_getR (x := 51) (am_cur_of (i := (53, 3, .getfield 18, (5, 7, 485), 0)) (by decide +kernel)) (by decide +kernel) hc_z
  replace hc_z := rn_iload_n (am_cur_of (i := (56, 1, .iload_n 2, (0, 0, 0), 0)) (by decide +kernel)) g2_z hc_z
  replace hc_z := rn_iconst (w := 0) (am_cur_of (i := (57, 1, .iconst 0, (0, 0, 0), 0)) (by decide +kernel)) (by decide) hc_z
  replace hc_z := rn_iastore (N := 4) (q := 3) (am_cur_of (i := (58, 1, .iastore, (0, 0, 0), 0)) (by decide +kernel)) (by decide +kernel) rfl hc_z
  obtain ⟨p44_z, hc_z⟩ := hc_z
  replace hc_z := rn_iinc (w := 4) (am_cur_of (i := (59, 3, .iinc 2 1, (0, 0, 0), 0)) (by decide +kernel)) g2_z (by decide) hc_z
  obtain ⟨_, s45_z, s46_z, g2_z, hc_z⟩ := hc_z
  replace g0_z := s45_z 0 _ (by decide) rfl g0_z
  replace g1_z := s45_z 1 _ (by decide) rfl g1_z
  clear s45_z s46_z
  replace hc_z := rn_goto (am_cur_of (i := (62, 3, .goto (-29), (19, 0, 0), 0)) (by decide +kernel)) hc_z
  replace hc_z := rn_iload_n (am_cur_of (i := (33, 1, .iload_n 2, (0, 0, 0), 0)) (by decide +kernel)) g2_z hc_z
  replace hc_z := rn_iconst (w := 4) (am_cur_of (i := (34, 1, .iconst 4, (0, 0, 0), 0)) (by decide +kernel)) (by decide) hc_z
  replace hc_z := rn_cmpT (am_cur_of (i := (35, 3, .if_icmp .ge 30, (39, 0, 0), 0)) (by decide +kernel)) (by decide) hc_z
  replace hc_z := rn_vret (am_cur_of (i := (65, 1, .return_, (0, 0, 0), 0)) (by decide +kernel)) hc_z
  obtain ⟨e47_z, e48_z⟩ := hc_z
  exact ⟨e47_z, e48_z⟩
theorem kg_57 {n : Nat} {h h' : am_H} {r : Option Value}   (hc_z : rn n am_m57 0 (lv_args 0 [.ref 60]) [] h r h') : (r = none ∧ h' = (am_up h 60 2 (.int 0))) := by
  have g0_z : am_get (lv_args 0 [.ref 60]) 0 = some (.ref 60) := rfl
  replace hc_z := rn_aload_n (am_cur_of (i := (0, 1, .aload_n 0, (0, 0, 0), 0)) (by decide +kernel)) g0_z hc_z
  replace hc_z := rn_iconst (w := 0) (am_cur_of (i := (1, 1, .iconst 0, (0, 0, 0), 0)) (by decide +kernel)) (by decide) hc_z
  replace hc_z := rn_put (am_cur_of (i := (2, 3, .putfield 18, (6, 2, 515), 0)) (by decide +kernel)) (by decide +kernel) hc_z
  replace hc_z := rn_vret (am_cur_of (i := (5, 1, .return_, (0, 0, 0), 0)) (by decide +kernel)) hc_z
  obtain ⟨e49_z, e50_z⟩ := hc_z
  exact ⟨e49_z, e50_z⟩
theorem kg_58 {n : Nat} {h h' : am_H} {r : Option Value}   (hc_z : rn n am_m58 0 (lv_args 0 [.ref 142]) [] h r h') : (r = none ∧ h' = (am_up (am_up h 142 0 (.int 0)) 142 1 (.int (-1)))) := by
  have g0_z : am_get (lv_args 0 [.ref 142]) 0 = some (.ref 142) := rfl
  replace hc_z := rn_aload_n (am_cur_of (i := (0, 1, .aload_n 0, (0, 0, 0), 0)) (by decide +kernel)) g0_z hc_z
  replace hc_z := rn_iconst (w := 0) (am_cur_of (i := (1, 1, .iconst 0, (0, 0, 0), 0)) (by decide +kernel)) (by decide) hc_z
  replace hc_z := rn_put (am_cur_of (i := (2, 3, .putfield 32, (7, 0, 530), 0)) (by decide +kernel)) (by decide +kernel) hc_z
  replace hc_z := rn_aload_n (am_cur_of (i := (5, 1, .aload_n 0, (0, 0, 0), 0)) (by decide +kernel)) g0_z hc_z
  replace hc_z := rn_iconst (w := (-1)) (am_cur_of (i := (6, 1, .iconst (-1), (0, 0, 0), 0)) (by decide +kernel)) (by decide) hc_z
  replace hc_z := rn_put (am_cur_of (i := (7, 3, .putfield 9, (7, 1, 532), 0)) (by decide +kernel)) (by decide +kernel) hc_z
  replace hc_z := rn_vret (am_cur_of (i := (10, 1, .return_, (0, 0, 0), 0)) (by decide +kernel)) hc_z
  obtain ⟨e51_z, e52_z⟩ := hc_z
  exact ⟨e51_z, e52_z⟩
theorem kg_55 {n : Nat} {h h' : am_H} {r : Option Value} {x : Int64}  (hc_z : rn n am_m55 0 (lv_args 0 [.long x]) [] h r h') : (r = some (.long (((x * 1103515245) + 12345) &&& 2147483647)) ∧ h' = h) := by
  have g0_z : am_get (lv_args 0 [.long x]) 0 = some (.long x) := rfl
  replace hc_z := rn_lload_n (am_cur_of (i := (0, 1, .lload_n 0, (0, 0, 0), 0)) (by decide +kernel)) g0_z hc_z
  replace hc_z := rn_ldc2 (w := 1103515245) (am_cur_of (i := (1, 3, .ldc2_w 375, (0, 0, 879), 1103515245)) (by decide +kernel)) (by decide) hc_z
  replace hc_z := rn_lmul (w := x * 1103515245) (am_cur_of (i := (4, 1, .lmul, (0, 0, 0), 0)) (by decide +kernel)) rfl hc_z
  replace hc_z := rn_ldc2 (w := 12345) (am_cur_of (i := (5, 3, .ldc2_w 377, (0, 0, 880), 12345)) (by decide +kernel)) (by decide) hc_z
  replace hc_z := rn_ladd (w := (x * 1103515245) + 12345) (am_cur_of (i := (8, 1, .ladd, (0, 0, 0), 0)) (by decide +kernel)) rfl hc_z
  replace hc_z := rn_ldc2 (w := 2147483647) (am_cur_of (i := (9, 3, .ldc2_w 379, (0, 0, 881), 2147483647)) (by decide +kernel)) (by decide) hc_z
  replace hc_z := rn_land (w := ((x * 1103515245) + 12345) &&& 2147483647) (am_cur_of (i := (12, 1, .land, (0, 0, 0), 0)) (by decide +kernel)) rfl hc_z
  replace hc_z := rn_lret (am_cur_of (i := (13, 1, .lreturn, (0, 0, 0), 0)) (by decide +kernel)) hc_z
  obtain ⟨e129_z, e130_z⟩ := hc_z
  exact ⟨e129_z, e130_z⟩
theorem kg_56 {n : Nat} {h h' : am_H} {r : Option Value} {x : Int64}  (hc_z : rn n am_m56 0 (lv_args 0 [.long x]) [] h r h') : (r = some (.int ((x / 65536).toInt32)) ∧ h' = h) := by
  have g0_z : am_get (lv_args 0 [.long x]) 0 = some (.long x) := rfl
  replace hc_z := rn_lload_n (am_cur_of (i := (0, 1, .lload_n 0, (0, 0, 0), 0)) (by decide +kernel)) g0_z hc_z
  replace hc_z := rn_ldc2 (w := 65536) (am_cur_of (i := (1, 3, .ldc2_w 381, (0, 0, 885), 65536)) (by decide +kernel)) (by decide) hc_z
  replace hc_z := rn_ldiv (w := x / 65536) (am_cur_of (i := (4, 1, .ldiv, (0, 0, 0), 0)) (by decide +kernel)) rfl hc_z
  obtain ⟨d131_z, hc_z⟩ := hc_z
  replace hc_z := rn_l2i (w := (x / 65536).toInt32) (am_cur_of (i := (5, 1, .l2i, (0, 0, 0), 0)) (by decide +kernel)) rfl hc_z
  replace hc_z := rn_iret (am_cur_of (i := (6, 1, .ireturn, (0, 0, 0), 0)) (by decide +kernel)) hc_z
  obtain ⟨e132_z, e133_z⟩ := hc_z
  exact ⟨e132_z, e133_z⟩
theorem rg_55 {n : Nat} {x : Int64} {r : Option Value} {h h' : am_H} (hc_z : rn n am_m55 0 (lv_args 0 [.long x]) [] h r h') : h' = h := (kg_55 hc_z).2
theorem rg_56 {n : Nat} {x : Int64} {r : Option Value} {h h' : am_H} (hc_z : rn n am_m56 0 (lv_args 0 [.long x]) [] h r h') : h' = h := (kg_56 hc_z).2
theorem rn_retL {n : Nat} {x : Int64} {r : Option Value} {h h' : am_H} {M : am_M} (hM : M = am_m55) (hc_z : rn n M 0 (lv_args 0 [.long x]) [] h r h') : ∃ v : Int64, r = some (.long v) := by
  subst hM
  exact ⟨_, (kg_55 hc_z).1⟩
theorem kg_54b_2 {r : Option Value} {h' : am_H} : ∀ (f : Nat) (x i : Int32) (ls : am_L) (h : am_H), am_get ls 0 = some (.ref 2) → am_get ls 2 = some (.int x) → am_get ls 3 = some (.int i) → rn f am_m54 33 ls [] h r h' → (∀ o k, ¬ (o = 2 ∧ k = 18) → rg_v h' o k = rg_v h o k) := by
  intro f
  induction f with
  | zero => intro x i ls h g0_z g2_z g3_z hc_z; exact absurd hc_z rn_0
  | succ f ih_z =>
    intro x i ls h g0_z g2_z g3_z hc_z
    have zm1_z : ((-1) : Int32).toInt = (-1) := by decide
    have z0_z : (0 : Int32).toInt = 0 := by decide
    replace hc_z := rn_iload_n (am_cur_of (i := (53, 1, .iload_n 3, (0, 0, 0), 0)) (by decide +kernel)) g3_z hc_z
    replace hc_z := rn_aload_n (am_cur_of (i := (54, 1, .aload_n 0, (0, 0, 0), 0)) (by decide +kernel)) g0_z hc_z
    replace hc_z := rn_getI (v := rg_v h 2 9) (am_cur_of (i := (55, 3, .getfield 69, (1, 9, 284), 0)) (by decide +kernel)) (by decide +kernel) rfl hc_z
    replace hc_z := rn_cmp (am_cur_of (i := (58, 3, .if_icmp .ge 35, (55, 0, 0), 0)) (by decide +kernel)) hc_z
    rcases hc_z with ⟨b53_z, hc_z⟩ | ⟨b53_z, hc_z⟩
    · replace b53_z : (rg_v h 2 9).toInt ≤ i.toInt := b53_z
      replace hc_z := rn_vret (am_cur_of (i := (93, 1, .return_, (0, 0, 0), 0)) (by decide +kernel)) hc_z
      obtain ⟨e54_z, e55_z⟩ := hc_z
      subst e55_z
      exact fun _ _ _ => rfl
    · replace b53_z : i.toInt < (rg_v h 2 9).toInt := b53_z
      replace hc_z := rn_aload_n (am_cur_of (i := (61, 1, .aload_n 0, (0, 0, 0), 0)) (by decide +kernel)) g0_z hc_z
      replace hc_z := rn_getI (v := rg_v h 2 18) (am_cur_of (i := (62, 3, .getfield 81, (1, 18, 312), 0)) (by decide +kernel)) (by decide +kernel) rfl hc_z
      replace hc_z := rn_iconst (w := (-1)) (am_cur_of (i := (65, 1, .iconst (-1), (0, 0, 0), 0)) (by decide +kernel)) (by decide) hc_z
      replace hc_z := rn_cmp (am_cur_of (i := (66, 3, .if_icmp .ne 27, (55, 0, 0), 0)) (by decide +kernel)) hc_z
      rcases hc_z with ⟨b56_z, hc_z⟩ | ⟨b56_z, hc_z⟩
      · replace b56_z : ¬ (rg_v h 2 18) = ((-1) : Int32) ∧ ¬ (rg_v h 2 18).toInt = ((-1) : Int32).toInt := b56_z
        replace hc_z := rn_vret (am_cur_of (i := (93, 1, .return_, (0, 0, 0), 0)) (by decide +kernel)) hc_z
        obtain ⟨e57_z, e58_z⟩ := hc_z
        subst e58_z
        exact fun _ _ _ => rfl
      · replace b56_z : (rg_v h 2 18) = ((-1) : Int32) ∧ (rg_v h 2 18).toInt = ((-1) : Int32).toInt := b56_z
        replace hc_z := rn_iload_n (am_cur_of (i := (69, 1, .iload_n 2, (0, 0, 0), 0)) (by decide +kernel)) g2_z hc_z
        replace hc_z := rn_aload_n (am_cur_of (i := (70, 1, .aload_n 0, (0, 0, 0), 0)) (by decide +kernel)) g0_z hc_z
        replace hc_z := rn_getR (x := 6) (am_cur_of (i := (71, 3, .getfield 24, (1, 10, 287), 0)) (by decide +kernel)) (by decide +kernel) hc_z
        replace hc_z := rn_iload_n (am_cur_of (i := (74, 1, .iload_n 3, (0, 0, 0), 0)) (by decide +kernel)) g3_z hc_z
        replace hc_z := rn_iaload (N := 6) (q := i.toNatClampNeg) (v := rg_v h 6 i.toNatClampNeg) (am_cur_of (i := (75, 1, .iaload, (0, 0, 0), 0)) (by decide +kernel)) (by decide +kernel) rfl rfl hc_z
        obtain ⟨p59_z, hc_z⟩ := hc_z
        replace hc_z := rn_isub (w := x - (rg_v h 6 i.toNatClampNeg)) (am_cur_of (i := (76, 1, .isub, (0, 0, 0), 0)) (by decide +kernel)) rfl hc_z
        replace hc_z := rn_istore_n (am_cur_of (i := (77, 1, .istore_n 2, (0, 0, 0), 0)) (by decide +kernel)) hc_z
        obtain ⟨_, s60_z, s61_z, g2_z, hc_z⟩ := hc_z
        replace g0_z := s60_z 0 _ (by decide) rfl g0_z
        replace g3_z := s60_z 3 _ (by decide) rfl g3_z
        clear s60_z s61_z
        replace hc_z := rn_iload_n (am_cur_of (i := (78, 1, .iload_n 2, (0, 0, 0), 0)) (by decide +kernel)) g2_z hc_z
        replace hc_z := rn_if (am_cur_of (i := (79, 3, .ifCond .ge 8, (53, 0, 0), 0)) (by decide +kernel)) hc_z
        rcases hc_z with ⟨b62_z, hc_z⟩ | ⟨b62_z, hc_z⟩
        · replace b62_z : (0 : Int32).toInt ≤ (x - (rg_v h 6 i.toNatClampNeg)).toInt := b62_z
          replace hc_z := rn_iinc (w := i + 1) (am_cur_of (i := (87, 3, .iinc 3 1, (0, 0, 0), 0)) (by decide +kernel)) g3_z rfl hc_z
          obtain ⟨_, s63_z, s64_z, g3_z, hc_z⟩ := hc_z
          replace g0_z := s63_z 0 _ (by decide) rfl g0_z
          replace g2_z := s63_z 2 _ (by decide) rfl g2_z
          clear s63_z s64_z
          replace hc_z := rn_gotoL (am_cur_of (i := (90, 3, .goto (-37), (33, 0, 0), 0)) (by decide +kernel)) hc_z
          intro o k e
          exact (ih_z _ _ _ _ g0_z g2_z g3_z hc_z o k e).trans (rfl)
        · replace b62_z : (x - (rg_v h 6 i.toNatClampNeg)).toInt < (0 : Int32).toInt := b62_z
          replace hc_z := rn_aload_n (am_cur_of (i := (82, 1, .aload_n 0, (0, 0, 0), 0)) (by decide +kernel)) g0_z hc_z
          replace hc_z := rn_iload_n (am_cur_of (i := (83, 1, .iload_n 3, (0, 0, 0), 0)) (by decide +kernel)) g3_z hc_z
          replace hc_z := rn_put (am_cur_of (i := (84, 3, .putfield 81, (1, 18, 312), 0)) (by decide +kernel)) (by decide +kernel) hc_z
          replace hc_z := rn_iinc (w := i + 1) (am_cur_of (i := (87, 3, .iinc 3 1, (0, 0, 0), 0)) (by decide +kernel)) g3_z rfl hc_z
          obtain ⟨_, s65_z, s66_z, g3_z, hc_z⟩ := hc_z
          replace g0_z := s65_z 0 _ (by decide) rfl g0_z
          replace g2_z := s65_z 2 _ (by decide) rfl g2_z
          clear s65_z s66_z
          replace hc_z := rn_gotoL (am_cur_of (i := (90, 3, .goto (-37), (33, 0, 0), 0)) (by decide +kernel)) hc_z
          intro o k e
          exact (ih_z _ _ _ _ g0_z g2_z g3_z hc_z o k e).trans (rg_v_other (by omega))
theorem kg_54a_2 {r : Option Value} {h' : am_H} : ∀ (f : Nat) (s i : Int32) (ls : am_L) (h : am_H), am_get ls 0 = some (.ref 2) → am_get ls 1 = some (.int s) → am_get ls 2 = some (.int i) → rn f am_m54 4 ls [] h r h' → (∀ o k, ¬ (o = 2 ∧ k = 18) → rg_v h' o k = rg_v h o k) := by
  intro f
  induction f with
  | zero => intro s i ls h g0_z g1_z g2_z hc_z; exact absurd hc_z rn_0
  | succ f ih_z =>
    intro s i ls h g0_z g1_z g2_z hc_z
    have z0_z : (0 : Int32).toInt = 0 := by decide
    replace hc_z := rn_iload_n (am_cur_of (i := (4, 1, .iload_n 2, (0, 0, 0), 0)) (by decide +kernel)) g2_z hc_z
    replace hc_z := rn_aload_n (am_cur_of (i := (5, 1, .aload_n 0, (0, 0, 0), 0)) (by decide +kernel)) g0_z hc_z
    replace hc_z := rn_getI (v := rg_v h 2 9) (am_cur_of (i := (6, 3, .getfield 69, (1, 9, 284), 0)) (by decide +kernel)) (by decide +kernel) rfl hc_z
    replace hc_z := rn_cmp (am_cur_of (i := (9, 3, .if_icmp .ge 18, (17, 0, 0), 0)) (by decide +kernel)) hc_z
    rcases hc_z with ⟨b67_z, hc_z⟩ | ⟨b67_z, hc_z⟩
    · replace b67_z : (rg_v h 2 9).toInt ≤ i.toInt := b67_z
      replace hc_z := rn_aload_n (am_cur_of (i := (27, 1, .aload_n 0, (0, 0, 0), 0)) (by decide +kernel)) g0_z hc_z
      replace hc_z := rn_iconst (w := (-1)) (am_cur_of (i := (28, 1, .iconst (-1), (0, 0, 0), 0)) (by decide +kernel)) (by decide) hc_z
      replace hc_z := rn_put (am_cur_of (i := (29, 3, .putfield 81, (1, 18, 312), 0)) (by decide +kernel)) (by decide +kernel) hc_z
      replace hc_z := rn_iload_n (am_cur_of (i := (32, 1, .iload_n 1, (0, 0, 0), 0)) (by decide +kernel)) g1_z hc_z
      replace hc_z := rn_if (am_cur_of (i := (33, 3, .ifCond .ne 4, (23, 0, 0), 0)) (by decide +kernel)) hc_z
      rcases hc_z with ⟨b68_z, hc_z⟩ | ⟨b68_z, hc_z⟩
      · replace b68_z : ¬ s = (0 : Int32) ∧ ¬ s.toInt = (0 : Int32).toInt := b68_z
        replace hc_z := rn_aload_n (am_cur_of (i := (37, 1, .aload_n 0, (0, 0, 0), 0)) (by decide +kernel)) g0_z hc_z
        replace hc_z := rn_getI (v := rg_v h 2 17) (am_cur_of (i := (38, 3, .getfield 78, (1, 17, 309), 0)) (by decide +kernel)) (by decide +kernel) (show rg_v (am_up h 2 18 (.int (-1))) 2 17 = rg_v h 2 17 from rfl) hc_z
        replace hc_z := rn_i2l (w := (rg_v h 2 17).toInt64) (am_cur_of (i := (41, 1, .i2l, (0, 0, 0), 0)) (by decide +kernel)) rfl hc_z
        replace hc_z := rn_callS (M' := am_m55) (ar := [.long ((rg_v h 2 17).toInt64)]) (rest := []) (L := lv_args 0 [.long ((rg_v h 2 17).toInt64)]) (am_cur_of (i := (42, 3, .invokestatic 88, (55, 876, 3), 0)) (by decide +kernel)) rfl rfl rfl rfl hc_z
        obtain ⟨r69_z, h70_z, q71_z, hc_z⟩ := hc_z
        obtain ⟨vl, rfl⟩ := rn_retL (M := am_m55) rfl q71_z
        have z55_z := rg_55 q71_z
        replace hc_z : rn _ _ _ _ [.long vl] _ _ _ := hc_z
        replace hc_z := rn_callS (M' := am_m56) (ar := [.long vl]) (rest := []) (L := lv_args 0 [.long vl]) (am_cur_of (i := (45, 3, .invokestatic 92, (56, 882, 3), 0)) (by decide +kernel)) rfl rfl rfl rfl hc_z
        obtain ⟨r72_z, h73_z, q74_z, hc_z⟩ := hc_z
        obtain ⟨vi, rfl⟩ := rn_ret (M := am_m56) rfl (by decide) q74_z
        have z56_z := rg_56 q74_z
        replace hc_z : rn _ _ _ _ [.int vi] _ _ _ := hc_z
        replace hc_z := rn_iload_n (am_cur_of (i := (48, 1, .iload_n 1, (0, 0, 0), 0)) (by decide +kernel)) g1_z hc_z
        replace hc_z := rn_irem (w := vi - vi / s * s) (am_cur_of (i := (49, 1, .irem, (0, 0, 0), 0)) (by decide +kernel)) rfl hc_z
        obtain ⟨d75_z, hc_z⟩ := hc_z
        replace hc_z := rn_istore_n (am_cur_of (i := (50, 1, .istore_n 2, (0, 0, 0), 0)) (by decide +kernel)) hc_z
        obtain ⟨_, s76_z, s77_z, g2_z, hc_z⟩ := hc_z
        replace g0_z := s76_z 0 _ (by decide) rfl g0_z
        replace g1_z := s76_z 1 _ (by decide) rfl g1_z
        clear s76_z s77_z
        replace hc_z := rn_iconst (w := 0) (am_cur_of (i := (51, 1, .iconst 0, (0, 0, 0), 0)) (by decide +kernel)) (by decide) hc_z
        replace hc_z := rn_istore_n (am_cur_of (i := (52, 1, .istore_n 3, (0, 0, 0), 0)) (by decide +kernel)) hc_z
        obtain ⟨_, s78_z, s79_z, g3_z, hc_z⟩ := hc_z
        replace g0_z := s78_z 0 _ (by decide) rfl g0_z
        replace g1_z := s78_z 1 _ (by decide) rfl g1_z
        replace g2_z := s78_z 2 _ (by decide) rfl g2_z
        clear s78_z s79_z
        intro o k e
        refine (kg_54b_2 _ _ _ _ _ g0_z g2_z g3_z hc_z o k e).trans ?_
        rw [z56_z, z55_z]
        exact rg_v_other (by omega)
      · replace b68_z : s = (0 : Int32) ∧ s.toInt = (0 : Int32).toInt := b68_z
        replace hc_z := rn_vret (am_cur_of (i := (36, 1, .return_, (0, 0, 0), 0)) (by decide +kernel)) hc_z
        obtain ⟨e80_z, e81_z⟩ := hc_z
        subst e81_z
        exact fun o k e => (rg_v_other (by omega)).trans (rfl)
    · replace b67_z : i.toInt < (rg_v h 2 9).toInt := b67_z
      replace hc_z := rn_iload_n (am_cur_of (i := (12, 1, .iload_n 1, (0, 0, 0), 0)) (by decide +kernel)) g1_z hc_z
      replace hc_z := rn_aload_n (am_cur_of (i := (13, 1, .aload_n 0, (0, 0, 0), 0)) (by decide +kernel)) g0_z hc_z
      replace hc_z := rn_getR (x := 6) (am_cur_of (i := (14, 3, .getfield 24, (1, 10, 287), 0)) (by decide +kernel)) (by decide +kernel) hc_z
      replace hc_z := rn_iload_n (am_cur_of (i := (17, 1, .iload_n 2, (0, 0, 0), 0)) (by decide +kernel)) g2_z hc_z
      replace hc_z := rn_iaload (N := 6) (q := i.toNatClampNeg) (v := rg_v h 6 i.toNatClampNeg) (am_cur_of (i := (18, 1, .iaload, (0, 0, 0), 0)) (by decide +kernel)) (by decide +kernel) rfl rfl hc_z
      obtain ⟨p82_z, hc_z⟩ := hc_z
      replace hc_z := rn_iadd (w := s + (rg_v h 6 i.toNatClampNeg)) (am_cur_of (i := (19, 1, .iadd, (0, 0, 0), 0)) (by decide +kernel)) rfl hc_z
      replace hc_z := rn_istore_n (am_cur_of (i := (20, 1, .istore_n 1, (0, 0, 0), 0)) (by decide +kernel)) hc_z
      obtain ⟨_, s83_z, s84_z, g1_z, hc_z⟩ := hc_z
      replace g0_z := s83_z 0 _ (by decide) rfl g0_z
      replace g2_z := s83_z 2 _ (by decide) rfl g2_z
      clear s83_z s84_z
      replace hc_z := rn_iinc (w := i + 1) (am_cur_of (i := (21, 3, .iinc 2 1, (0, 0, 0), 0)) (by decide +kernel)) g2_z rfl hc_z
      obtain ⟨_, s85_z, s86_z, g2_z, hc_z⟩ := hc_z
      replace g0_z := s85_z 0 _ (by decide) rfl g0_z
      replace g1_z := s85_z 1 _ (by decide) rfl g1_z
      clear s85_z s86_z
      replace hc_z := rn_gotoL (am_cur_of (i := (24, 3, .goto (-20), (4, 0, 0), 0)) (by decide +kernel)) hc_z
      exact ih_z _ _ _ _ g0_z g1_z g2_z hc_z
theorem kg_54_2 {n : Nat} {r : Option Value} {h h' : am_H} (hc_z : rn n am_m54 0 (lv_args 0 [.ref 2]) [] h r h') : (∀ o k, ¬ (o = 2 ∧ k = 18) → rg_v h' o k = rg_v h o k) := by
  have g0_z : am_get (lv_args 0 [.ref 2]) 0 = some (.ref 2) := rfl
  replace hc_z := rn_iconst (w := 0) (am_cur_of (i := (0, 1, .iconst 0, (0, 0, 0), 0)) (by decide +kernel)) (by decide) hc_z
  replace hc_z := rn_istore_n (am_cur_of (i := (1, 1, .istore_n 1, (0, 0, 0), 0)) (by decide +kernel)) hc_z
  obtain ⟨_, s87_z, s88_z, g1_z, hc_z⟩ := hc_z
  replace g0_z := s87_z 0 _ (by decide) rfl g0_z
  clear s87_z s88_z
  replace hc_z := rn_iconst (w := 0) (am_cur_of (i := (2, 1, .iconst 0, (0, 0, 0), 0)) (by decide +kernel)) (by decide) hc_z
  replace hc_z := rn_istore_n (am_cur_of (i := (3, 1, .istore_n 2, (0, 0, 0), 0)) (by decide +kernel)) hc_z
  obtain ⟨_, s89_z, s90_z, g2_z, hc_z⟩ := hc_z
  replace g0_z := s89_z 0 _ (by decide) rfl g0_z
  replace g1_z := s89_z 1 _ (by decide) rfl g1_z
  clear s89_z s90_z
  exact kg_54a_2 _ _ _ _ _ g0_z g1_z g2_z hc_z
theorem kg_54b_23 {r : Option Value} {h' : am_H} : ∀ (f : Nat) (x i : Int32) (ls : am_L) (h : am_H), am_get ls 0 = some (.ref 23) → am_get ls 2 = some (.int x) → am_get ls 3 = some (.int i) → rn f am_m54 33 ls [] h r h' → (∀ o k, ¬ (o = 23 ∧ k = 18) → rg_v h' o k = rg_v h o k) := by
  intro f
  induction f with
  | zero => intro x i ls h g0_z g2_z g3_z hc_z; exact absurd hc_z rn_0
  | succ f ih_z =>
    intro x i ls h g0_z g2_z g3_z hc_z
    have zm1_z : ((-1) : Int32).toInt = (-1) := by decide
    have z0_z : (0 : Int32).toInt = 0 := by decide
    replace hc_z := rn_iload_n (am_cur_of (i := (53, 1, .iload_n 3, (0, 0, 0), 0)) (by decide +kernel)) g3_z hc_z
    replace hc_z := rn_aload_n (am_cur_of (i := (54, 1, .aload_n 0, (0, 0, 0), 0)) (by decide +kernel)) g0_z hc_z
    replace hc_z := rn_getI (v := rg_v h 23 9) (am_cur_of (i := (55, 3, .getfield 69, (1, 9, 284), 0)) (by decide +kernel)) (by decide +kernel) rfl hc_z
    replace hc_z := rn_cmp (am_cur_of (i := (58, 3, .if_icmp .ge 35, (55, 0, 0), 0)) (by decide +kernel)) hc_z
    rcases hc_z with ⟨b91_z, hc_z⟩ | ⟨b91_z, hc_z⟩
    · replace b91_z : (rg_v h 23 9).toInt ≤ i.toInt := b91_z
      replace hc_z := rn_vret (am_cur_of (i := (93, 1, .return_, (0, 0, 0), 0)) (by decide +kernel)) hc_z
      obtain ⟨e92_z, e93_z⟩ := hc_z
      subst e93_z
      exact fun _ _ _ => rfl
    · replace b91_z : i.toInt < (rg_v h 23 9).toInt := b91_z
      replace hc_z := rn_aload_n (am_cur_of (i := (61, 1, .aload_n 0, (0, 0, 0), 0)) (by decide +kernel)) g0_z hc_z
      replace hc_z := rn_getI (v := rg_v h 23 18) (am_cur_of (i := (62, 3, .getfield 81, (1, 18, 312), 0)) (by decide +kernel)) (by decide +kernel) rfl hc_z
      replace hc_z := rn_iconst (w := (-1)) (am_cur_of (i := (65, 1, .iconst (-1), (0, 0, 0), 0)) (by decide +kernel)) (by decide) hc_z
      replace hc_z := rn_cmp (am_cur_of (i := (66, 3, .if_icmp .ne 27, (55, 0, 0), 0)) (by decide +kernel)) hc_z
      rcases hc_z with ⟨b94_z, hc_z⟩ | ⟨b94_z, hc_z⟩
      · replace b94_z : ¬ (rg_v h 23 18) = ((-1) : Int32) ∧ ¬ (rg_v h 23 18).toInt = ((-1) : Int32).toInt := b94_z
        replace hc_z := rn_vret (am_cur_of (i := (93, 1, .return_, (0, 0, 0), 0)) (by decide +kernel)) hc_z
        obtain ⟨e95_z, e96_z⟩ := hc_z
        subst e96_z
        exact fun _ _ _ => rfl
      · replace b94_z : (rg_v h 23 18) = ((-1) : Int32) ∧ (rg_v h 23 18).toInt = ((-1) : Int32).toInt := b94_z
        replace hc_z := rn_iload_n (am_cur_of (i := (69, 1, .iload_n 2, (0, 0, 0), 0)) (by decide +kernel)) g2_z hc_z
        replace hc_z := rn_aload_n (am_cur_of (i := (70, 1, .aload_n 0, (0, 0, 0), 0)) (by decide +kernel)) g0_z hc_z
        replace hc_z := rn_getR (x := 27) (am_cur_of (i := (71, 3, .getfield 24, (1, 10, 287), 0)) (by decide +kernel)) (by decide +kernel) hc_z
        replace hc_z := rn_iload_n (am_cur_of (i := (74, 1, .iload_n 3, (0, 0, 0), 0)) (by decide +kernel)) g3_z hc_z
        replace hc_z := rn_iaload (N := 6) (q := i.toNatClampNeg) (v := rg_v h 27 i.toNatClampNeg) (am_cur_of (i := (75, 1, .iaload, (0, 0, 0), 0)) (by decide +kernel)) (by decide +kernel) rfl rfl hc_z
        obtain ⟨p97_z, hc_z⟩ := hc_z
        replace hc_z := rn_isub (w := x - (rg_v h 27 i.toNatClampNeg)) (am_cur_of (i := (76, 1, .isub, (0, 0, 0), 0)) (by decide +kernel)) rfl hc_z
        replace hc_z := rn_istore_n (am_cur_of (i := (77, 1, .istore_n 2, (0, 0, 0), 0)) (by decide +kernel)) hc_z
        obtain ⟨_, s98_z, s99_z, g2_z, hc_z⟩ := hc_z
        replace g0_z := s98_z 0 _ (by decide) rfl g0_z
        replace g3_z := s98_z 3 _ (by decide) rfl g3_z
        clear s98_z s99_z
        replace hc_z := rn_iload_n (am_cur_of (i := (78, 1, .iload_n 2, (0, 0, 0), 0)) (by decide +kernel)) g2_z hc_z
        replace hc_z := rn_if (am_cur_of (i := (79, 3, .ifCond .ge 8, (53, 0, 0), 0)) (by decide +kernel)) hc_z
        rcases hc_z with ⟨b100_z, hc_z⟩ | ⟨b100_z, hc_z⟩
        · replace b100_z : (0 : Int32).toInt ≤ (x - (rg_v h 27 i.toNatClampNeg)).toInt := b100_z
          replace hc_z := rn_iinc (w := i + 1) (am_cur_of (i := (87, 3, .iinc 3 1, (0, 0, 0), 0)) (by decide +kernel)) g3_z rfl hc_z
          obtain ⟨_, s101_z, s102_z, g3_z, hc_z⟩ := hc_z
          replace g0_z := s101_z 0 _ (by decide) rfl g0_z
          replace g2_z := s101_z 2 _ (by decide) rfl g2_z
          clear s101_z s102_z
          replace hc_z := rn_gotoL (am_cur_of (i := (90, 3, .goto (-37), (33, 0, 0), 0)) (by decide +kernel)) hc_z
          intro o k e
          exact (ih_z _ _ _ _ g0_z g2_z g3_z hc_z o k e).trans (rfl)
        · replace b100_z : (x - (rg_v h 27 i.toNatClampNeg)).toInt < (0 : Int32).toInt := b100_z
          replace hc_z := rn_aload_n (am_cur_of (i := (82, 1, .aload_n 0, (0, 0, 0), 0)) (by decide +kernel)) g0_z hc_z
          replace hc_z := rn_iload_n (am_cur_of (i := (83, 1, .iload_n 3, (0, 0, 0), 0)) (by decide +kernel)) g3_z hc_z
          replace hc_z := rn_put (am_cur_of (i := (84, 3, .putfield 81, (1, 18, 312), 0)) (by decide +kernel)) (by decide +kernel) hc_z
          replace hc_z := rn_iinc (w := i + 1) (am_cur_of (i := (87, 3, .iinc 3 1, (0, 0, 0), 0)) (by decide +kernel)) g3_z rfl hc_z
          obtain ⟨_, s103_z, s104_z, g3_z, hc_z⟩ := hc_z
          replace g0_z := s103_z 0 _ (by decide) rfl g0_z
          replace g2_z := s103_z 2 _ (by decide) rfl g2_z
          clear s103_z s104_z
          replace hc_z := rn_gotoL (am_cur_of (i := (90, 3, .goto (-37), (33, 0, 0), 0)) (by decide +kernel)) hc_z
          intro o k e
          exact (ih_z _ _ _ _ g0_z g2_z g3_z hc_z o k e).trans (rg_v_other (by omega))
theorem kg_54a_23 {r : Option Value} {h' : am_H} : ∀ (f : Nat) (s i : Int32) (ls : am_L) (h : am_H), am_get ls 0 = some (.ref 23) → am_get ls 1 = some (.int s) → am_get ls 2 = some (.int i) → rn f am_m54 4 ls [] h r h' → (∀ o k, ¬ (o = 23 ∧ k = 18) → rg_v h' o k = rg_v h o k) := by
  intro f
  induction f with
  | zero => intro s i ls h g0_z g1_z g2_z hc_z; exact absurd hc_z rn_0
  | succ f ih_z =>
    intro s i ls h g0_z g1_z g2_z hc_z
    have z0_z : (0 : Int32).toInt = 0 := by decide
    replace hc_z := rn_iload_n (am_cur_of (i := (4, 1, .iload_n 2, (0, 0, 0), 0)) (by decide +kernel)) g2_z hc_z
    replace hc_z := rn_aload_n (am_cur_of (i := (5, 1, .aload_n 0, (0, 0, 0), 0)) (by decide +kernel)) g0_z hc_z
    replace hc_z := rn_getI (v := rg_v h 23 9) (am_cur_of (i := (6, 3, .getfield 69, (1, 9, 284), 0)) (by decide +kernel)) (by decide +kernel) rfl hc_z
    replace hc_z := rn_cmp (am_cur_of (i := (9, 3, .if_icmp .ge 18, (17, 0, 0), 0)) (by decide +kernel)) hc_z
    rcases hc_z with ⟨b105_z, hc_z⟩ | ⟨b105_z, hc_z⟩
    · replace b105_z : (rg_v h 23 9).toInt ≤ i.toInt := b105_z
      replace hc_z := rn_aload_n (am_cur_of (i := (27, 1, .aload_n 0, (0, 0, 0), 0)) (by decide +kernel)) g0_z hc_z
      replace hc_z := rn_iconst (w := (-1)) (am_cur_of (i := (28, 1, .iconst (-1), (0, 0, 0), 0)) (by decide +kernel)) (by decide) hc_z
      replace hc_z := rn_put (am_cur_of (i := (29, 3, .putfield 81, (1, 18, 312), 0)) (by decide +kernel)) (by decide +kernel) hc_z
      replace hc_z := rn_iload_n (am_cur_of (i := (32, 1, .iload_n 1, (0, 0, 0), 0)) (by decide +kernel)) g1_z hc_z
      replace hc_z := rn_if (am_cur_of (i := (33, 3, .ifCond .ne 4, (23, 0, 0), 0)) (by decide +kernel)) hc_z
      rcases hc_z with ⟨b106_z, hc_z⟩ | ⟨b106_z, hc_z⟩
      · replace b106_z : ¬ s = (0 : Int32) ∧ ¬ s.toInt = (0 : Int32).toInt := b106_z
        replace hc_z := rn_aload_n (am_cur_of (i := (37, 1, .aload_n 0, (0, 0, 0), 0)) (by decide +kernel)) g0_z hc_z
        replace hc_z := rn_getI (v := rg_v h 23 17) (am_cur_of (i := (38, 3, .getfield 78, (1, 17, 309), 0)) (by decide +kernel)) (by decide +kernel) (show rg_v (am_up h 23 18 (.int (-1))) 23 17 = rg_v h 23 17 from rfl) hc_z
        replace hc_z := rn_i2l (w := (rg_v h 23 17).toInt64) (am_cur_of (i := (41, 1, .i2l, (0, 0, 0), 0)) (by decide +kernel)) rfl hc_z
        replace hc_z := rn_callS (M' := am_m55) (ar := [.long ((rg_v h 23 17).toInt64)]) (rest := []) (L := lv_args 0 [.long ((rg_v h 23 17).toInt64)]) (am_cur_of (i := (42, 3, .invokestatic 88, (55, 876, 3), 0)) (by decide +kernel)) rfl rfl rfl rfl hc_z
        obtain ⟨r107_z, h108_z, q109_z, hc_z⟩ := hc_z
        obtain ⟨vl, rfl⟩ := rn_retL (M := am_m55) rfl q109_z
        have z55_z := rg_55 q109_z
        replace hc_z : rn _ _ _ _ [.long vl] _ _ _ := hc_z
        replace hc_z := rn_callS (M' := am_m56) (ar := [.long vl]) (rest := []) (L := lv_args 0 [.long vl]) (am_cur_of (i := (45, 3, .invokestatic 92, (56, 882, 3), 0)) (by decide +kernel)) rfl rfl rfl rfl hc_z
        obtain ⟨r110_z, h111_z, q112_z, hc_z⟩ := hc_z
        obtain ⟨vi, rfl⟩ := rn_ret (M := am_m56) rfl (by decide) q112_z
        have z56_z := rg_56 q112_z
        replace hc_z : rn _ _ _ _ [.int vi] _ _ _ := hc_z
        replace hc_z := rn_iload_n (am_cur_of (i := (48, 1, .iload_n 1, (0, 0, 0), 0)) (by decide +kernel)) g1_z hc_z
        replace hc_z := rn_irem (w := vi - vi / s * s) (am_cur_of (i := (49, 1, .irem, (0, 0, 0), 0)) (by decide +kernel)) rfl hc_z
        obtain ⟨d113_z, hc_z⟩ := hc_z
        replace hc_z := rn_istore_n (am_cur_of (i := (50, 1, .istore_n 2, (0, 0, 0), 0)) (by decide +kernel)) hc_z
        obtain ⟨_, s114_z, s115_z, g2_z, hc_z⟩ := hc_z
        replace g0_z := s114_z 0 _ (by decide) rfl g0_z
        replace g1_z := s114_z 1 _ (by decide) rfl g1_z
        clear s114_z s115_z
        replace hc_z := rn_iconst (w := 0) (am_cur_of (i := (51, 1, .iconst 0, (0, 0, 0), 0)) (by decide +kernel)) (by decide) hc_z
        replace hc_z := rn_istore_n (am_cur_of (i := (52, 1, .istore_n 3, (0, 0, 0), 0)) (by decide +kernel)) hc_z
        obtain ⟨_, s116_z, s117_z, g3_z, hc_z⟩ := hc_z
        replace g0_z := s116_z 0 _ (by decide) rfl g0_z
        replace g1_z := s116_z 1 _ (by decide) rfl g1_z
        replace g2_z := s116_z 2 _ (by decide) rfl g2_z
        clear s116_z s117_z
        intro o k e
        refine (kg_54b_23 _ _ _ _ _ g0_z g2_z g3_z hc_z o k e).trans ?_
        rw [z56_z, z55_z]
        exact rg_v_other (by omega)
      · replace b106_z : s = (0 : Int32) ∧ s.toInt = (0 : Int32).toInt := b106_z
        replace hc_z := rn_vret (am_cur_of (i := (36, 1, .return_, (0, 0, 0), 0)) (by decide +kernel)) hc_z
        obtain ⟨e118_z, e119_z⟩ := hc_z
        subst e119_z
        exact fun o k e => (rg_v_other (by omega)).trans (rfl)
    · replace b105_z : i.toInt < (rg_v h 23 9).toInt := b105_z
      replace hc_z := rn_iload_n (am_cur_of (i := (12, 1, .iload_n 1, (0, 0, 0), 0)) (by decide +kernel)) g1_z hc_z
      replace hc_z := rn_aload_n (am_cur_of (i := (13, 1, .aload_n 0, (0, 0, 0), 0)) (by decide +kernel)) g0_z hc_z
      replace hc_z := rn_getR (x := 27) (am_cur_of (i := (14, 3, .getfield 24, (1, 10, 287), 0)) (by decide +kernel)) (by decide +kernel) hc_z
      replace hc_z := rn_iload_n (am_cur_of (i := (17, 1, .iload_n 2, (0, 0, 0), 0)) (by decide +kernel)) g2_z hc_z
      replace hc_z := rn_iaload (N := 6) (q := i.toNatClampNeg) (v := rg_v h 27 i.toNatClampNeg) (am_cur_of (i := (18, 1, .iaload, (0, 0, 0), 0)) (by decide +kernel)) (by decide +kernel) rfl rfl hc_z
      obtain ⟨p120_z, hc_z⟩ := hc_z
      replace hc_z := rn_iadd (w := s + (rg_v h 27 i.toNatClampNeg)) (am_cur_of (i := (19, 1, .iadd, (0, 0, 0), 0)) (by decide +kernel)) rfl hc_z
      replace hc_z := rn_istore_n (am_cur_of (i := (20, 1, .istore_n 1, (0, 0, 0), 0)) (by decide +kernel)) hc_z
      obtain ⟨_, s121_z, s122_z, g1_z, hc_z⟩ := hc_z
      replace g0_z := s121_z 0 _ (by decide) rfl g0_z
      replace g2_z := s121_z 2 _ (by decide) rfl g2_z
      clear s121_z s122_z
      replace hc_z := rn_iinc (w := i + 1) (am_cur_of (i := (21, 3, .iinc 2 1, (0, 0, 0), 0)) (by decide +kernel)) g2_z rfl hc_z
      obtain ⟨_, s123_z, s124_z, g2_z, hc_z⟩ := hc_z
      replace g0_z := s123_z 0 _ (by decide) rfl g0_z
      replace g1_z := s123_z 1 _ (by decide) rfl g1_z
      clear s123_z s124_z
      replace hc_z := rn_gotoL (am_cur_of (i := (24, 3, .goto (-20), (4, 0, 0), 0)) (by decide +kernel)) hc_z
      exact ih_z _ _ _ _ g0_z g1_z g2_z hc_z
theorem kg_54_23 {n : Nat} {r : Option Value} {h h' : am_H} (hc_z : rn n am_m54 0 (lv_args 0 [.ref 23]) [] h r h') : (∀ o k, ¬ (o = 23 ∧ k = 18) → rg_v h' o k = rg_v h o k) := by
  have g0_z : am_get (lv_args 0 [.ref 23]) 0 = some (.ref 23) := rfl
  replace hc_z := rn_iconst (w := 0) (am_cur_of (i := (0, 1, .iconst 0, (0, 0, 0), 0)) (by decide +kernel)) (by decide) hc_z
  replace hc_z := rn_istore_n (am_cur_of (i := (1, 1, .istore_n 1, (0, 0, 0), 0)) (by decide +kernel)) hc_z
  obtain ⟨_, s125_z, s126_z, g1_z, hc_z⟩ := hc_z
  replace g0_z := s125_z 0 _ (by decide) rfl g0_z
  clear s125_z s126_z
  replace hc_z := rn_iconst (w := 0) (am_cur_of (i := (2, 1, .iconst 0, (0, 0, 0), 0)) (by decide +kernel)) (by decide) hc_z
  replace hc_z := rn_istore_n (am_cur_of (i := (3, 1, .istore_n 2, (0, 0, 0), 0)) (by decide +kernel)) hc_z
  obtain ⟨_, s127_z, s128_z, g2_z, hc_z⟩ := hc_z
  replace g0_z := s127_z 0 _ (by decide) rfl g0_z
  replace g1_z := s127_z 1 _ (by decide) rfl g1_z
  clear s127_z s128_z
  exact kg_54a_23 _ _ _ _ _ g0_z g1_z g2_z hc_z
/-- the kept plan between the calls -/
def pK (h : am_H) : Prop := ∀ p, h 0 2 = .ref p → rK p h h
def R5 (h : am_H) : Prop := R4 h ∧ pK h
def pk_ok (md : List (Nat × Nat)) : Bool := !(ab_in md 0 2) && md.all (fun q => zcB 2 q.1) && md.all (fun q => zcB 23 q.1) && md.all zmQ
theorem pk_fr {md : List (Nat × Nat)} {h h' : am_H} (hb_z : pk_ok md = true) (hf_z : ab_Fr md h h') (hD : tx_D h) (K : pK h) : pK h' := by
  unfold pk_ok at hb_z
  simp only [Bool.and_eq_true, Bool.not_eq_true'] at hb_z
  obtain ⟨⟨⟨b1_z, b2_z⟩, b3_z⟩, b4_z⟩ := hb_z
  intro p hp_z
  rw [hf_z 0 2 b1_z] at hp_z
  have k := K p hp_z
  have m := zM_fr b4_z hf_z
  rcases hD with ⟨-, e⟩ | ⟨-, e⟩
  · rw [e] at hp_z
    cases hp_z
    exact rK_c (zC_fr b3_z hf_z) (rK_m m k)
  · rw [e] at hp_z
    cases hp_z
    exact rK_c (zC_fr b2_z hf_z) (rK_m m k)
theorem pk_p {p d : Nat} {v : Value} (hd_z : d = 2 ∨ d = 23) (e : v = .ref (25 - d)) (hp_z : v = .ref p) : (p = 2 ∧ d = 23) ∨ (p = 23 ∧ d = 2) := by
  rw [e] at hp_z
  cases hp_z
  rcases hd_z with rfl | rfl
  · exact Or.inr ⟨rfl, rfl⟩
  · exact Or.inl ⟨rfl, rfl⟩
theorem kg_3_2 {h' g' : am_H} (X : tx_3 2 h' g') : rK 2 h' g' ∧ h' 0 2 = .ref 2 := by
  obtain ⟨hq_z, gq, h1_z, h2_z, h3_z, h4_z, n1_z, n2_z, n3_z, n4_z, n5_z, A, e1_z, r54_z, r144_z, r14_z, r57_z, r58_z, rfl, e2_z⟩ := X
  have k := kt_rK A r144_z
  have z54_z : zC 2 hq_z h1_z := fun o k e f => kg_54_2 r54_z o k (fun q => f ⟨q.1, q.2⟩)
  have z0_z : zC 2 h1_z (am_up (am_up h1_z 0 3 (.ref (25 - 2))) 0 2 (.ref 2)) := zC_u rfl (zC_u rfl zC_r)
  have z14_z : zC 2 (am_up (am_up h1_z 0 3 (.ref (25 - 2))) 0 2 (.ref 2)) h2_z := by
    rw [(kg_14_2 r14_z).2]
    exact (zC_u rfl (zC_u rfl (zC_u rfl (zC_u rfl (zC_u rfl (zC_u rfl (zC_u rfl (zC_u rfl (zC_u rfl (zC_u rfl (zC_u rfl (zC_u rfl (zC_u rfl (zC_u rfl (zC_u rfl (zC_u rfl (zC_u rfl zC_r)))))))))))))))))
  have z57_z : zC 2 h2_z h3_z := by
    rw [(kg_57 r57_z).2]
    exact (zC_u rfl zC_r)
  have z58_z : zC 2 h3_z h4_z := by
    rw [(kg_58 r58_z).2]
    exact (zC_u rfl (zC_u rfl zC_r))
  exact ⟨rK_c (zC_t z54_z (zC_t z0_z (zC_t z14_z (zC_t z57_z (zC_t z58_z (zC_u rfl zC_r)))))) k, e2_z⟩
theorem kg_3_23 {h' g' : am_H} (X : tx_3 23 h' g') : rK 23 h' g' ∧ h' 0 2 = .ref 23 := by
  obtain ⟨hq_z, gq, h1_z, h2_z, h3_z, h4_z, n1_z, n2_z, n3_z, n4_z, n5_z, A, e1_z, r54_z, r144_z, r14_z, r57_z, r58_z, rfl, e2_z⟩ := X
  have k := kt_rK A r144_z
  have z54_z : zC 23 hq_z h1_z := fun o k e f => kg_54_23 r54_z o k (fun q => f ⟨q.1, q.2⟩)
  have z0_z : zC 23 h1_z (am_up (am_up h1_z 0 3 (.ref (25 - 23))) 0 2 (.ref 23)) := zC_u rfl (zC_u rfl zC_r)
  have z14_z : zC 23 (am_up (am_up h1_z 0 3 (.ref (25 - 23))) 0 2 (.ref 23)) h2_z := by
    rw [(kg_14_23 r14_z).2]
    exact (zC_u rfl (zC_u rfl (zC_u rfl (zC_u rfl (zC_u rfl (zC_u rfl (zC_u rfl (zC_u rfl (zC_u rfl (zC_u rfl (zC_u rfl (zC_u rfl (zC_u rfl (zC_u rfl (zC_u rfl (zC_u rfl (zC_u rfl zC_r)))))))))))))))))
  have z57_z : zC 23 h2_z h3_z := by
    rw [(kg_57 r57_z).2]
    exact (zC_u rfl zC_r)
  have z58_z : zC 23 h3_z h4_z := by
    rw [(kg_58 r58_z).2]
    exact (zC_u rfl (zC_u rfl zC_r))
  exact ⟨rK_c (zC_t z54_z (zC_t z0_z (zC_t z14_z (zC_t z57_z (zC_t z58_z (zC_u rfl zC_r)))))) k, e2_z⟩
theorem R3_fD {md : List (Nat × Nat)} {h h' : am_H} (hb_z : (!(ab_in md 0 2) && !(ab_in md 0 3)) = true) (hf_z : ab_Fr md h h') (D : tx_D h) : tx_D h' := by
  simp only [Bool.and_eq_true, Bool.not_eq_true'] at hb_z
  unfold tx_D
  rw [hf_z 0 2 hb_z.1, hf_z 0 3 hb_z.2]
  exact D
theorem R5_feed : ax_feed R5 := fun a b c d e f g h h1_z h2_z r1_z r2_z n1_z n2_z hR hG hG2 f1_z f2_z x y => ⟨R4_feed a b c d e f g h h1_z h2_z r1_z r2_z n1_z n2_z hR.1 hG hG2 f1_z f2_z x y, pk_fr (by decide +kernel) f2_z (R3_fD (by decide +kernel) f1_z hR.1.1.1) (pk_fr (by decide +kernel) f1_z hR.1.1.1 hR.2)⟩
theorem R5_text : ax_text R5 := by
  intro t t1_z a h h1_z h2_z r1_z r2_z n1_z n2_z hR hG hG2 hT F1 F2 rn1_z rn2_z
  refine ⟨R4_text t t1_z a h h1_z h2_z r1_z r2_z n1_z n2_z hR.1 hG hG2 hT F1 F2 rn1_z rn2_z, ?_⟩
  obtain ⟨-, -, d, hd_z, D, E, O⟩ := tx_all hR.1.1 hG F1 rn1_z rn2_z
  have z2_z : ∀ p, (p = 2 ∨ p = 23) → zC p h1_z h2_z := by
    intro p hp_z
    rcases hp_z with rfl | rfl
    · exact zC_fr (by decide +kernel) F2
    · exact zC_fr (by decide +kernel) F2
  have m1_z : zM h h1_z := zM_fr (by decide +kernel) F1
  have e02_z : h2_z 0 2 = h1_z 0 2 := F2 0 2 (by decide +kernel)
  intro p hp_z
  rw [e02_z] at hp_z
  rcases O with ⟨q1_z, q2_z⟩ | ⟨-, zc, zm, ep, -⟩ | X
  · subst q1_z
    have hp2_z := pk_p hd_z E hp_z
    have k := hR.2 p hp_z
    have zm : zM h1_z h2_z := by
      rw [q2_z]
      exact zM_u (by decide) zM_r
    exact rK_c (z2_z p (hp2_z.elim (fun q => Or.inl q.1) (fun q => Or.inr q.1))) (rK_m zm k)
  · have hp2_z := pk_p hd_z ep hp_z
    have e25_z : 25 - d = p := by rcases hp2_z with ⟨rfl, rfl⟩ | ⟨rfl, rfl⟩ <;> rfl
    rw [e25_z] at zc
    have k := hR.2 p (by rw [E, e25_z])
    exact rK_c (zC_t zc (z2_z p (hp2_z.elim (fun q => Or.inl q.1) (fun q => Or.inr q.1)))) (rK_m (zM_t m1_z zm) k)
  · rcases hd_z with rfl | rfl
    · obtain ⟨k, e⟩ := kg_3_2 X
      rw [e] at hp_z
      cases hp_z
      exact rK_c (z2_z 2 (Or.inl rfl)) k
    · obtain ⟨k, e⟩ := kg_3_23 X
      rw [e] at hp_z
      cases hp_z
      exact rK_c (z2_z 23 (Or.inr rfl)) k
theorem R5_fault : ax_fault R5 := fun x0_z x1_z x2_z x3_z x4_z x5_z x6_z x7_z x8_z hR g0_z g1_z g2_z f1_z f2_z y0_z y1_z => ⟨R4_fault x0_z x1_z x2_z x3_z x4_z x5_z x6_z x7_z x8_z hR.1 g0_z g1_z g2_z f1_z f2_z y0_z y1_z, pk_fr (by decide +kernel) f2_z (R3_fD (by decide +kernel) f1_z hR.1.1.1) (pk_fr (by decide +kernel) f1_z hR.1.1.1 hR.2)⟩
theorem R5_named : ax_named R5 := fun x0_z x1_z x2_z x3_z x4_z x5_z x6_z x7_z x8_z x9_z hR g0_z g1_z g2_z f1_z f2_z y0_z y1_z => ⟨R4_named x0_z x1_z x2_z x3_z x4_z x5_z x6_z x7_z x8_z x9_z hR.1 g0_z g1_z g2_z f1_z f2_z y0_z y1_z, pk_fr (by decide +kernel) f2_z (R3_fD (by decide +kernel) f1_z hR.1.1.1) (pk_fr (by decide +kernel) f1_z hR.1.1.1 hR.2)⟩
theorem R5_look : ax_look R5 := fun x0_z x1_z x2_z x3_z x4_z x5_z x6_z x7_z hR g0_z g1_z g2_z f1_z f2_z y0_z => ⟨R4_look x0_z x1_z x2_z x3_z x4_z x5_z x6_z x7_z hR.1 g0_z g1_z g2_z f1_z f2_z y0_z, pk_fr (by decide +kernel) f2_z (R3_fD (by decide +kernel) f1_z hR.1.1.1) (pk_fr (by decide +kernel) f1_z hR.1.1.1 hR.2)⟩
theorem R5_law : ax_law R5 := fun x0_z x1_z x2_z x3_z x4_z x5_z x6_z x7_z x8_z x9_z hR g0_z g1_z g2_z f1_z f2_z y0_z y1_z => ⟨R4_law x0_z x1_z x2_z x3_z x4_z x5_z x6_z x7_z x8_z x9_z hR.1 g0_z g1_z g2_z f1_z f2_z y0_z y1_z, pk_fr (by decide +kernel) f2_z (R3_fD (by decide +kernel) f1_z hR.1.1.1) (pk_fr (by decide +kernel) f1_z hR.1.1.1 hR.2)⟩
theorem R5_blow : ax_blow R5 := fun x0_z x1_z x2_z x3_z x4_z x5_z x6_z x7_z x8_z x9_z hR g0_z g1_z g2_z f1_z f2_z y0_z y1_z => ⟨R4_blow x0_z x1_z x2_z x3_z x4_z x5_z x6_z x7_z x8_z x9_z hR.1 g0_z g1_z g2_z f1_z f2_z y0_z y1_z, pk_fr (by decide +kernel) f2_z (R3_fD (by decide +kernel) f1_z hR.1.1.1) (pk_fr (by decide +kernel) f1_z hR.1.1.1 hR.2)⟩
theorem R5_waits : ax_waits R5 := fun x0_z x1_z x2_z x3_z x4_z x5_z x6_z x7_z x8_z x9_z hR g0_z g1_z g2_z u0_z u1_z f1_z f2_z y0_z y1_z => ⟨R4_waits x0_z x1_z x2_z x3_z x4_z x5_z x6_z x7_z x8_z x9_z hR.1 g0_z g1_z g2_z u0_z u1_z f1_z f2_z y0_z y1_z, pk_fr (by decide +kernel) f2_z (R3_fD (by decide +kernel) f1_z hR.1.1.1) (pk_fr (by decide +kernel) f1_z hR.1.1.1 hR.2)⟩
theorem R5_pump : ax_pump R5 := fun x0_z x1_z x2_z x3_z x4_z x5_z x6_z x7_z x8_z hR g0_z g1_z g2_z f1_z f2_z y0_z y1_z => ⟨R4_pump x0_z x1_z x2_z x3_z x4_z x5_z x6_z x7_z x8_z hR.1 g0_z g1_z g2_z f1_z f2_z y0_z y1_z, pk_fr (by decide +kernel) f2_z (R3_fD (by decide +kernel) f1_z hR.1.1.1) (pk_fr (by decide +kernel) f1_z hR.1.1.1 hR.2)⟩
theorem R5_patch : ax_patch R5 := fun x0_z x1_z x2_z x3_z x4_z x5_z x6_z x7_z x8_z hR g0_z g1_z g2_z f1_z f2_z y0_z y1_z => ⟨R4_patch x0_z x1_z x2_z x3_z x4_z x5_z x6_z x7_z x8_z hR.1 g0_z g1_z g2_z f1_z f2_z y0_z y1_z, pk_fr (by decide +kernel) f2_z (R3_fD (by decide +kernel) f1_z hR.1.1.1) (pk_fr (by decide +kernel) f1_z hR.1.1.1 hR.2)⟩
theorem R5_leak : ax_leak R5 := fun x0_z x1_z x2_z x3_z x4_z x5_z x6_z x7_z hR g0_z g1_z g2_z f1_z f2_z y0_z y1_z => ⟨R4_leak x0_z x1_z x2_z x3_z x4_z x5_z x6_z x7_z hR.1 g0_z g1_z g2_z f1_z f2_z y0_z y1_z, pk_fr (by decide +kernel) f2_z (R3_fD (by decide +kernel) f1_z hR.1.1.1) (pk_fr (by decide +kernel) f1_z hR.1.1.1 hR.2)⟩
theorem R5_ever : ax_ever R5 := fun x0_z x1_z x2_z x3_z x4_z x5_z x6_z x7_z x8_z hR g0_z g1_z g2_z f1_z f2_z y0_z y1_z => ⟨R4_ever x0_z x1_z x2_z x3_z x4_z x5_z x6_z x7_z x8_z hR.1 g0_z g1_z g2_z f1_z f2_z y0_z y1_z, pk_fr (by decide +kernel) f2_z (R3_fD (by decide +kernel) f1_z hR.1.1.1) (pk_fr (by decide +kernel) f1_z hR.1.1.1 hR.2)⟩
theorem R5_best : ax_best R5 := fun x0_z x1_z x2_z x3_z x4_z x5_z x6_z x7_z x8_z x9_z hR g0_z g1_z g2_z f1_z f2_z y0_z y1_z => ⟨R4_best x0_z x1_z x2_z x3_z x4_z x5_z x6_z x7_z x8_z x9_z hR.1 g0_z g1_z g2_z f1_z f2_z y0_z y1_z, pk_fr (by decide +kernel) f2_z (R3_fD (by decide +kernel) f1_z hR.1.1.1) (pk_fr (by decide +kernel) f1_z hR.1.1.1 hR.2)⟩
theorem R5_lasts : ax_lasts R5 := fun x0_z x1_z x2_z x3_z x4_z x5_z x6_z x7_z x8_z x9_z hR g0_z g1_z g2_z f1_z f2_z y0_z y1_z => ⟨R4_lasts x0_z x1_z x2_z x3_z x4_z x5_z x6_z x7_z x8_z x9_z hR.1 g0_z g1_z g2_z f1_z f2_z y0_z y1_z, pk_fr (by decide +kernel) f2_z (R3_fD (by decide +kernel) f1_z hR.1.1.1) (pk_fr (by decide +kernel) f1_z hR.1.1.1 hR.2)⟩
theorem R5_firm : ax_firm R5 := fun x0_z x1_z x2_z x3_z x4_z x5_z x6_z x7_z x8_z x9_z hR g0_z g1_z g2_z f1_z f2_z y0_z y1_z => ⟨R4_firm x0_z x1_z x2_z x3_z x4_z x5_z x6_z x7_z x8_z x9_z hR.1 g0_z g1_z g2_z f1_z f2_z y0_z y1_z, pk_fr (by decide +kernel) f2_z (R3_fD (by decide +kernel) f1_z hR.1.1.1) (pk_fr (by decide +kernel) f1_z hR.1.1.1 hR.2)⟩
theorem R5_up : ax_up R5 := fun x0_z x1_z x2_z x3_z x4_z x5_z x6_z x7_z x8_z x9_z x10_z hR g0_z g1_z g2_z f1_z f2_z y0_z y1_z => ⟨R4_up x0_z x1_z x2_z x3_z x4_z x5_z x6_z x7_z x8_z x9_z x10_z hR.1 g0_z g1_z g2_z f1_z f2_z y0_z y1_z, pk_fr (by decide +kernel) f2_z (R3_fD (by decide +kernel) f1_z hR.1.1.1) (pk_fr (by decide +kernel) f1_z hR.1.1.1 hR.2)⟩
theorem R5_upAt : ax_upAt R5 := fun x0_z x1_z x2_z x3_z x4_z x5_z x6_z x7_z x8_z x9_z x10_z x11_z hR g0_z g1_z g2_z f1_z f2_z y0_z y1_z => ⟨R4_upAt x0_z x1_z x2_z x3_z x4_z x5_z x6_z x7_z x8_z x9_z x10_z x11_z hR.1 g0_z g1_z g2_z f1_z f2_z y0_z y1_z, pk_fr (by decide +kernel) f2_z (R3_fD (by decide +kernel) f1_z hR.1.1.1) (pk_fr (by decide +kernel) f1_z hR.1.1.1 hR.2)⟩
theorem R5_cheapest : ax_cheapest R5 := fun x0_z x1_z x2_z x3_z x4_z x5_z x6_z x7_z x8_z x9_z x10_z hR g0_z g1_z g2_z f1_z f2_z y0_z y1_z => ⟨R4_cheapest x0_z x1_z x2_z x3_z x4_z x5_z x6_z x7_z x8_z x9_z x10_z hR.1 g0_z g1_z g2_z f1_z f2_z y0_z y1_z, pk_fr (by decide +kernel) f2_z (R3_fD (by decide +kernel) f1_z hR.1.1.1) (pk_fr (by decide +kernel) f1_z hR.1.1.1 hR.2)⟩
theorem R5_lend : ax_lend R5 := fun x0_z x1_z x2_z x3_z x4_z x5_z x6_z x7_z x8_z x9_z hR g0_z g1_z g2_z f1_z f2_z y0_z y1_z => ⟨R4_lend x0_z x1_z x2_z x3_z x4_z x5_z x6_z x7_z x8_z x9_z hR.1 g0_z g1_z g2_z f1_z f2_z y0_z y1_z, pk_fr (by decide +kernel) f2_z (R3_fD (by decide +kernel) f1_z hR.1.1.1) (pk_fr (by decide +kernel) f1_z hR.1.1.1 hR.2)⟩
theorem R5_seek : ax_seek R5 := fun x0_z x1_z x2_z x3_z x4_z x5_z x6_z x7_z x8_z x9_z hR g0_z g1_z g2_z f1_z f2_z y0_z y1_z => ⟨R4_seek x0_z x1_z x2_z x3_z x4_z x5_z x6_z x7_z x8_z x9_z hR.1 g0_z g1_z g2_z f1_z f2_z y0_z y1_z, pk_fr (by decide +kernel) f2_z (R3_fD (by decide +kernel) f1_z hR.1.1.1) (pk_fr (by decide +kernel) f1_z hR.1.1.1 hR.2)⟩
theorem R5_mean : ax_mean R5 := fun x0_z x1_z x2_z x3_z x4_z x5_z x6_z x7_z x8_z hR g0_z g1_z g2_z f1_z f2_z y0_z y1_z => ⟨R4_mean x0_z x1_z x2_z x3_z x4_z x5_z x6_z x7_z x8_z hR.1 g0_z g1_z g2_z f1_z f2_z y0_z y1_z, pk_fr (by decide +kernel) f2_z (R3_fD (by decide +kernel) f1_z hR.1.1.1) (pk_fr (by decide +kernel) f1_z hR.1.1.1 hR.2)⟩
theorem R5_rule : ax_rule R5 := fun x0_z x1_z x2_z x3_z x4_z x5_z x6_z x7_z x8_z hR g0_z g1_z g2_z f1_z f2_z y0_z y1_z => ⟨R4_rule x0_z x1_z x2_z x3_z x4_z x5_z x6_z x7_z x8_z hR.1 g0_z g1_z g2_z f1_z f2_z y0_z y1_z, pk_fr (by decide +kernel) f2_z (R3_fD (by decide +kernel) f1_z hR.1.1.1) (pk_fr (by decide +kernel) f1_z hR.1.1.1 hR.2)⟩
theorem R5_fairest : ax_fairest R5 := fun x0_z x1_z x2_z x3_z x4_z x5_z x6_z x7_z hR g0_z g1_z g2_z f1_z f2_z y0_z y1_z => ⟨R4_fairest x0_z x1_z x2_z x3_z x4_z x5_z x6_z x7_z hR.1 g0_z g1_z g2_z f1_z f2_z y0_z y1_z, pk_fr (by decide +kernel) f2_z (R3_fD (by decide +kernel) f1_z hR.1.1.1) (pk_fr (by decide +kernel) f1_z hR.1.1.1 hR.2)⟩
theorem R5_cheek : ax_cheek R5 := fun x0_z x1_z x2_z x3_z x4_z x5_z x6_z x7_z x8_z x9_z x10_z x11_z hR g0_z g1_z g2_z u0_z u1_z f1_z f2_z y0_z y1_z => ⟨R4_cheek x0_z x1_z x2_z x3_z x4_z x5_z x6_z x7_z x8_z x9_z x10_z x11_z hR.1 g0_z g1_z g2_z u0_z u1_z f1_z f2_z y0_z y1_z, pk_fr (by decide +kernel) f2_z (R3_fD (by decide +kernel) f1_z hR.1.1.1) (pk_fr (by decide +kernel) f1_z hR.1.1.1 hR.2)⟩
theorem R5_strike : ax_strike R5 := fun x0_z x1_z x2_z x3_z x4_z x5_z x6_z x7_z x8_z hR g0_z g1_z g2_z f1_z f2_z y0_z y1_z => ⟨R4_strike x0_z x1_z x2_z x3_z x4_z x5_z x6_z x7_z x8_z hR.1 g0_z g1_z g2_z f1_z f2_z y0_z y1_z, pk_fr (by decide +kernel) f2_z (R3_fD (by decide +kernel) f1_z hR.1.1.1) (pk_fr (by decide +kernel) f1_z hR.1.1.1 hR.2)⟩
theorem R5_known : ax_known R5 := fun x0_z x1_z x2_z x3_z x4_z x5_z x6_z x7_z x8_z hR g0_z g1_z g2_z f1_z f2_z y0_z y1_z => ⟨R4_known x0_z x1_z x2_z x3_z x4_z x5_z x6_z x7_z x8_z hR.1 g0_z g1_z g2_z f1_z f2_z y0_z y1_z, pk_fr (by decide +kernel) f2_z (R3_fD (by decide +kernel) f1_z hR.1.1.1) (pk_fr (by decide +kernel) f1_z hR.1.1.1 hR.2)⟩
theorem R5_fits : ax_fits R5 := fun x0_z x1_z x2_z x3_z x4_z x5_z x6_z x7_z hR g0_z g1_z g2_z f1_z f2_z y0_z y1_z => ⟨R4_fits x0_z x1_z x2_z x3_z x4_z x5_z x6_z x7_z hR.1 g0_z g1_z g2_z f1_z f2_z y0_z y1_z, pk_fr (by decide +kernel) f2_z (R3_fD (by decide +kernel) f1_z hR.1.1.1) (pk_fr (by decide +kernel) f1_z hR.1.1.1 hR.2)⟩
theorem R5_chance : ax_chance R5 := fun x0_z x1_z x2_z x3_z x4_z x5_z x6_z x7_z x8_z x9_z x10_z hR g0_z g1_z g2_z f1_z f2_z y0_z y1_z => ⟨R4_chance x0_z x1_z x2_z x3_z x4_z x5_z x6_z x7_z x8_z x9_z x10_z hR.1 g0_z g1_z g2_z f1_z f2_z y0_z y1_z, pk_fr (by decide +kernel) f2_z (R3_fD (by decide +kernel) f1_z hR.1.1.1) (pk_fr (by decide +kernel) f1_z hR.1.1.1 hR.2)⟩
theorem R5_tried : ax_tried R5 := fun x0_z x1_z x2_z x3_z x4_z x5_z x6_z x7_z x8_z x9_z x10_z hR g0_z g1_z g2_z f1_z f2_z y0_z y1_z => ⟨R4_tried x0_z x1_z x2_z x3_z x4_z x5_z x6_z x7_z x8_z x9_z x10_z hR.1 g0_z g1_z g2_z f1_z f2_z y0_z y1_z, pk_fr (by decide +kernel) f2_z (R3_fD (by decide +kernel) f1_z hR.1.1.1) (pk_fr (by decide +kernel) f1_z hR.1.1.1 hR.2)⟩
theorem R5_undo : ax_undo R5 := fun x0_z x1_z x2_z x3_z x4_z x5_z x6_z x7_z hR g0_z g1_z g2_z f1_z f2_z y0_z y1_z => ⟨R4_undo x0_z x1_z x2_z x3_z x4_z x5_z x6_z x7_z hR.1 g0_z g1_z g2_z f1_z f2_z y0_z y1_z, pk_fr (by decide +kernel) f2_z (R3_fD (by decide +kernel) f1_z hR.1.1.1) (pk_fr (by decide +kernel) f1_z hR.1.1.1 hR.2)⟩
theorem R5_keep : ax_keep R5 := fun x0_z x1_z x2_z x3_z x4_z x5_z x6_z x7_z hR g0_z g1_z g2_z f1_z f2_z y0_z y1_z => ⟨R4_keep x0_z x1_z x2_z x3_z x4_z x5_z x6_z x7_z hR.1 g0_z g1_z g2_z f1_z f2_z y0_z y1_z, pk_fr (by decide +kernel) f2_z (R3_fD (by decide +kernel) f1_z hR.1.1.1) (pk_fr (by decide +kernel) f1_z hR.1.1.1 hR.2)⟩
theorem R5_back : ax_back R5 := fun x0_z x1_z x2_z x3_z x4_z x5_z x6_z x7_z hR g0_z g1_z g2_z f1_z f2_z y0_z y1_z => ⟨R4_back x0_z x1_z x2_z x3_z x4_z x5_z x6_z x7_z hR.1 g0_z g1_z g2_z f1_z f2_z y0_z y1_z, pk_fr (by decide +kernel) f2_z (R3_fD (by decide +kernel) f1_z hR.1.1.1) (pk_fr (by decide +kernel) f1_z hR.1.1.1 hR.2)⟩
theorem R5_count : ax_count R5 := fun x0_z x1_z x2_z x3_z x4_z x5_z x6_z x7_z x8_z hR g0_z g1_z g2_z f1_z f2_z y0_z y1_z => ⟨R4_count x0_z x1_z x2_z x3_z x4_z x5_z x6_z x7_z x8_z hR.1 g0_z g1_z g2_z f1_z f2_z y0_z y1_z, pk_fr (by decide +kernel) f2_z (R3_fD (by decide +kernel) f1_z hR.1.1.1) (pk_fr (by decide +kernel) f1_z hR.1.1.1 hR.2)⟩
theorem R5_All : ax_All R5 := ⟨R5_feed, R5_text, R5_fault, R5_named, R5_look, R5_law, R5_blow, R5_waits, R5_pump, R5_patch, R5_leak, R5_ever, R5_best, R5_lasts, R5_firm, R5_up, R5_upAt, R5_cheapest, R5_lend, R5_seek, R5_mean, R5_rule, R5_fairest, R5_cheek, R5_strike, R5_known, R5_fits, R5_chance, R5_tried, R5_undo, R5_keep, R5_back, R5_count⟩
theorem R5_0 : R5 am_h0 := by
  refine ⟨R4_0, ?_⟩
  intro p hp_z
  have e : am_h0 0 2 = .ref 2 := rg_r0 (x := 2) (by decide +kernel) (rg_any gd_h0 (kd := .inl 0) (by decide +kernel) (by decide) (by decide +kernel))
  rw [e] at hp_z
  cases hp_z
  have z : rg_v am_h0 2 2 = 0 ∧ rg_v am_h0 2 4 = 0 ∧ rg_v am_h0 2 9 = 0 ∧ rg_v am_h0 2 12 = 0 := by decide +kernel
  have y : (rg_v am_h0 2 0 = rg_v am_h0 168 0 ∧ rg_v am_h0 2 1 = rg_v am_h0 168 1 ∧ rg_v am_h0 2 7 = rg_v am_h0 168 2 ∧ rg_v am_h0 2 8 = rg_v am_h0 168 3 ∧ rg_v am_h0 2 16 = rg_v am_h0 168 4 ∧ rg_v am_h0 2 17 = rg_v am_h0 168 5) ∧ rg_v am_h0 2 2 = rg_v am_h0 164 12 ∧ rg_v am_h0 2 4 = rg_v am_h0 164 13 ∧ rg_v am_h0 2 9 = rg_v am_h0 164 14 ∧ rg_v am_h0 2 12 = rg_v am_h0 164 15 := by decide +kernel
  obtain ⟨z1_z, z2_z, z3_z, z4_z⟩ := z
  obtain ⟨y0_z, y1_z, y2_z, y3_z, y4_z⟩ := y
  have zz : (0 : Int32).toInt = 0 := by decide
  refine ⟨y0_z, ⟨y1_z, by rw [z1_z]; decide, by rw [z1_z]; decide⟩, ⟨y2_z, by rw [z2_z]; decide, by rw [z2_z]; decide⟩, ⟨y3_z, by rw [z3_z]; decide, by rw [z3_z]; decide⟩, ⟨y4_z, by rw [z4_z]; decide, by rw [z4_z]; decide⟩, ⟨?_, ?_, ?_, ?_⟩, ?_, ?_, ?_⟩
  · exact fun hb_z => absurd hb_z (by rw [z1_z, zz]; omega)
  · exact fun hb_z => absurd hb_z (by rw [z1_z, zz]; omega)
  · exact fun hb_z => absurd hb_z (by rw [z1_z, zz]; omega)
  · exact fun hb_z => absurd hb_z (by rw [z1_z, zz]; omega)
  · exact fun t ht => absurd ht (by rw [z2_z, zz]; omega)
  · exact fun t ht => absurd ht (by rw [z3_z, zz]; omega)
  · exact fun t ht => absurd ht (by rw [z4_z, zz]; omega)
theorem nm_eq2 {n n' : Nat} {h h' g g' : am_H} {r r' : Option Value} {a b : Int32} (D : h 0 2 = .ref 2) (K : rK 2 h g) (hc_z : rn n am_m60 0 (lv_args 0 [.ref 0, .int a, .int b]) [] h r h') (hm_z : rn n' am_m183 0 (lv_args 0 [.ref 164, .int a, .int b]) [] g r' g') : r = r' := by
  have z0_z : (0 : Int32).toInt = 0 := by decide
  have z1_z : (1 : Int32).toInt = 1 := by decide
  have g0_z : am_get (lv_args 0 [.ref 0, .int a, .int b]) 0 = some (.ref 0) := rfl
  have g1_z : am_get (lv_args 0 [.ref 0, .int a, .int b]) 1 = some (.int a) := rfl
  have g2_z : am_get (lv_args 0 [.ref 0, .int a, .int b]) 2 = some (.int b) := rfl
  have g0m : am_get (lv_args 0 [.ref 164, .int a, .int b]) 0 = some (.ref 164) := rfl
  have g1m : am_get (lv_args 0 [.ref 164, .int a, .int b]) 1 = some (.int a) := rfl
  have g2m : am_get (lv_args 0 [.ref 164, .int a, .int b]) 2 = some (.int b) := rfl
  obtain ⟨-, ⟨n1_z, n2_z, n3_z⟩, -, -, ⟨q1_z, q2_z, q3_z⟩, ⟨C0, C1, C2, C3⟩, -, -, G⟩ := K
  replace hc_z := rn_iload_n (am_cur_of (i := (0, 1, .iload_n 1, (0, 0, 0), 0)) (by decide +kernel)) g1_z hc_z
  replace hc_z := rn_if (am_cur_of (i := (1, 3, .ifCond .ne 12, (7, 0, 0), 0)) (by decide +kernel)) hc_z
  rcases hc_z with ⟨b134_z, hc_z⟩ | ⟨b134_z, hc_z⟩
  · replace b134_z : ¬ a = (0 : Int32) ∧ ¬ a.toInt = (0 : Int32).toInt := b134_z
    replace hc_z := rn_iload_n (am_cur_of (i := (13, 1, .iload_n 1, (0, 0, 0), 0)) (by decide +kernel)) g1_z hc_z
    replace hc_z := rn_iconst (w := 1) (am_cur_of (i := (14, 1, .iconst 1, (0, 0, 0), 0)) (by decide +kernel)) (by decide) hc_z
    replace hc_z := rn_cmp (am_cur_of (i := (15, 3, .if_icmp .ne 14, (15, 0, 0), 0)) (by decide +kernel)) hc_z
    rcases hc_z with ⟨b135_z, hc_z⟩ | ⟨b135_z, hc_z⟩
    · replace b135_z : ¬ a = (1 : Int32) ∧ ¬ a.toInt = (1 : Int32).toInt := b135_z
      replace hc_z := rn_iconst (w := (-1)) (am_cur_of (i := (29, 1, .iconst (-1), (0, 0, 0), 0)) (by decide +kernel)) (by decide) hc_z
      replace hc_z := rn_iret (am_cur_of (i := (30, 1, .ireturn, (0, 0, 0), 0)) (by decide +kernel)) hc_z
      obtain ⟨e136_z, e137_z⟩ := hc_z
      replace hm_z := rn_aload_n (am_cur_of (i := (0, 1, .aload_n 0, (0, 0, 0), 0)) (by decide +kernel)) g0m hm_z
      replace hm_z := rn_iconst (w := 0) (am_cur_of (i := (1, 1, .iconst 0, (0, 0, 0), 0)) (by decide +kernel)) (by decide) hm_z
      replace hm_z := rn_put (am_cur_of (i := (2, 3, .putfield 139, (12, 2, 1386), 0)) (by decide +kernel)) (by decide +kernel) hm_z
      replace hm_z := rn_iload_n (am_cur_of (i := (5, 1, .iload_n 1, (0, 0, 0), 0)) (by decide +kernel)) g1m hm_z
      replace hm_z := rn_if (am_cur_of (i := (6, 3, .ifCond .ne 19, (13, 0, 0), 0)) (by decide +kernel)) hm_z
      rcases hm_z with ⟨b138_z, hm_z⟩ | ⟨b138_z, hm_z⟩
      · replace b138_z : ¬ a = (0 : Int32) ∧ ¬ a.toInt = (0 : Int32).toInt := b138_z
        replace hm_z := rn_iload_n (am_cur_of (i := (25, 1, .iload_n 1, (0, 0, 0), 0)) (by decide +kernel)) g1m hm_z
        replace hm_z := rn_iconst (w := 1) (am_cur_of (i := (26, 1, .iconst 1, (0, 0, 0), 0)) (by decide +kernel)) (by decide) hm_z
        replace hm_z := rn_cmp (am_cur_of (i := (27, 3, .if_icmp .ne 19, (24, 0, 0), 0)) (by decide +kernel)) hm_z
        rcases hm_z with ⟨b139_z, hm_z⟩ | ⟨b139_z, hm_z⟩
        · replace b139_z : ¬ a = (1 : Int32) ∧ ¬ a.toInt = (1 : Int32).toInt := b139_z
          replace hm_z := rn_iconst (w := (-1)) (am_cur_of (i := (46, 1, .iconst (-1), (0, 0, 0), 0)) (by decide +kernel)) (by decide) hm_z
          replace hm_z := rn_iret (am_cur_of (i := (47, 1, .ireturn, (0, 0, 0), 0)) (by decide +kernel)) hm_z
          obtain ⟨e140_z, e141_z⟩ := hm_z
          rw [e136_z, e140_z]
        · replace b139_z : a = (1 : Int32) ∧ a.toInt = (1 : Int32).toInt := b139_z
          exact absurd b139_z.1 b135_z.1
      · replace b138_z : a = (0 : Int32) ∧ a.toInt = (0 : Int32).toInt := b138_z
        exact absurd b138_z.1 b134_z.1
    · replace b135_z : a = (1 : Int32) ∧ a.toInt = (1 : Int32).toInt := b135_z
      replace hc_z := rn_aload_n (am_cur_of (i := (18, 1, .aload_n 0, (0, 0, 0), 0)) (by decide +kernel)) g0_z hc_z
      replace hc_z := rn_getM (x := 2) (am_cur_of (i := (19, 3, .getfield 18, (0, 2, 663), 0)) (by decide +kernel)) D hc_z
      replace hc_z := rn_iload_n (am_cur_of (i := (22, 1, .iload_n 2, (0, 0, 0), 0)) (by decide +kernel)) g2_z hc_z
      replace hc_z := rn_callV (M' := am_m39) (o := 2) (ar := [.int b]) (rest := []) (L := lv_args 0 [.ref 2, .int b]) (am_cur_of (i := (23, 3, .invokevirtual 132, (39, 903, 3), 0)) (by decide +kernel)) rfl rfl rfl rfl hc_z
      obtain ⟨r142_z, h143_z, q144_z, hc_z⟩ := hc_z
      obtain ⟨yy, i2_z, rfl, hi2_z⟩ := rp_tn2 (nb := rg_v h 2 12) rfl (by omega) q144_z
      replace yy := yy.symm
      subst yy
      replace hc_z : rn _ _ _ _ [.int i2_z] _ _ _ := hc_z
      replace hc_z := rn_goto (am_cur_of (i := (26, 3, .goto 4, (16, 0, 0), 0)) (by decide +kernel)) hc_z
      replace hc_z := rn_iret (am_cur_of (i := (30, 1, .ireturn, (0, 0, 0), 0)) (by decide +kernel)) hc_z
      obtain ⟨e145_z, e146_z⟩ := hc_z
      replace hm_z := rn_aload_n (am_cur_of (i := (0, 1, .aload_n 0, (0, 0, 0), 0)) (by decide +kernel)) g0m hm_z
      replace hm_z := rn_iconst (w := 0) (am_cur_of (i := (1, 1, .iconst 0, (0, 0, 0), 0)) (by decide +kernel)) (by decide) hm_z
      replace hm_z := rn_put (am_cur_of (i := (2, 3, .putfield 139, (12, 2, 1386), 0)) (by decide +kernel)) (by decide +kernel) hm_z
      replace hm_z := rn_iload_n (am_cur_of (i := (5, 1, .iload_n 1, (0, 0, 0), 0)) (by decide +kernel)) g1m hm_z
      replace hm_z := rn_if (am_cur_of (i := (6, 3, .ifCond .ne 19, (13, 0, 0), 0)) (by decide +kernel)) hm_z
      rcases hm_z with ⟨b147_z, hm_z⟩ | ⟨b147_z, hm_z⟩
      · replace b147_z : ¬ a = (0 : Int32) ∧ ¬ a.toInt = (0 : Int32).toInt := b147_z
        replace hm_z := rn_iload_n (am_cur_of (i := (25, 1, .iload_n 1, (0, 0, 0), 0)) (by decide +kernel)) g1m hm_z
        replace hm_z := rn_iconst (w := 1) (am_cur_of (i := (26, 1, .iconst 1, (0, 0, 0), 0)) (by decide +kernel)) (by decide) hm_z
        replace hm_z := rn_cmp (am_cur_of (i := (27, 3, .if_icmp .ne 19, (24, 0, 0), 0)) (by decide +kernel)) hm_z
        rcases hm_z with ⟨b148_z, hm_z⟩ | ⟨b148_z, hm_z⟩
        · replace b148_z : ¬ a = (1 : Int32) ∧ ¬ a.toInt = (1 : Int32).toInt := b148_z
          exact absurd b135_z.1 b148_z.1
        · replace b148_z : a = (1 : Int32) ∧ a.toInt = (1 : Int32).toInt := b148_z
          replace hm_z := rn_aload_n (am_cur_of (i := (30, 1, .aload_n 0, (0, 0, 0), 0)) (by decide +kernel)) g0m hm_z
          replace hm_z := rn_getR (x := 175) (am_cur_of (i := (31, 3, .getfield 45, (12, 30, 1414), 0)) (by decide +kernel)) (by decide +kernel) hm_z
          replace hm_z := rn_iconst (w := 0) (am_cur_of (i := (34, 1, .iconst 0, (0, 0, 0), 0)) (by decide +kernel)) (by decide) hm_z
          replace hm_z := rn_aload_n (am_cur_of (i := (35, 1, .aload_n 0, (0, 0, 0), 0)) (by decide +kernel)) g0m hm_z
          replace hm_z := rn_getI (v := rg_v g 164 15) (am_cur_of (i := (36, 3, .getfield 228, (12, 15, 1399), 0)) (by decide +kernel)) (by decide +kernel) (show rg_v (am_up g 164 2 (.int 0)) 164 15 = rg_v g 164 15 from rfl) hm_z
          replace hm_z := rn_iload_n (am_cur_of (i := (39, 1, .iload_n 2, (0, 0, 0), 0)) (by decide +kernel)) g2m hm_z
          replace hm_z := rn_callS (M' := am_m165) (ar := [.int b, .int (rg_v g 164 15), .int 0, .ref 175]) (rest := []) (L := lv_args 0 [.ref 175, .int 0, .int (rg_v g 164 15), .int b]) (am_cur_of (i := (40, 3, .invokestatic 241, (165, 1692, 3), 0)) (by decide +kernel)) rfl rfl rfl rfl hm_z
          obtain ⟨r149_z, h150_z, q151_z, hm_z⟩ := hm_z
          obtain ⟨yy, i3_z, rfl, hi3_z⟩ := rp_find (N := 6) (by decide +kernel) (by decide) (by rw [show rg_v g 164 15 = rg_v h 2 12 from q1_z.symm]; omega) (by decide) q151_z
          replace yy := yy.symm
          subst yy
          replace hm_z : rn _ _ _ _ [.int i3_z] _ _ _ := hm_z
          replace hm_z := rn_goto (am_cur_of (i := (43, 3, .goto 4, (25, 0, 0), 0)) (by decide +kernel)) hm_z
          replace hm_z := rn_iret (am_cur_of (i := (47, 1, .ireturn, (0, 0, 0), 0)) (by decide +kernel)) hm_z
          obtain ⟨e152_z, e153_z⟩ := hm_z
          have ei : i2_z = i3_z := by
            refine rp_fm_u hi2_z (by rw [q1_z]; exact hi3_z) (fun b hb_z => ?_)
            show rg_v h 8 b = rg_v g 175 ((0 : Int32).toNatClampNeg + b)
            rw [show (0 : Int32).toNatClampNeg + b = b by rw [show (0 : Int32).toNatClampNeg = 0 by decide, Nat.zero_add]]
            exact (G b hb_z).1
          rw [e145_z, e152_z, ei]
      · replace b147_z : a = (0 : Int32) ∧ a.toInt = (0 : Int32).toInt := b147_z
        exact absurd b147_z.1 b134_z.1
  · replace b134_z : a = (0 : Int32) ∧ a.toInt = (0 : Int32).toInt := b134_z
    replace hc_z := rn_aload_n (am_cur_of (i := (4, 1, .aload_n 0, (0, 0, 0), 0)) (by decide +kernel)) g0_z hc_z
    replace hc_z := rn_getM (x := 2) (am_cur_of (i := (5, 3, .getfield 18, (0, 2, 663), 0)) (by decide +kernel)) D hc_z
    replace hc_z := rn_iload_n (am_cur_of (i := (8, 1, .iload_n 2, (0, 0, 0), 0)) (by decide +kernel)) g2_z hc_z
    replace hc_z := rn_callV (M' := am_m34) (o := 2) (ar := [.int b]) (rest := []) (L := lv_args 0 [.ref 2, .int b]) (am_cur_of (i := (9, 3, .invokevirtual 128, (34, 902, 3), 0)) (by decide +kernel)) rfl rfl rfl rfl hc_z
    obtain ⟨r154_z, h155_z, q156_z, hc_z⟩ := hc_z
    obtain ⟨yy, i2_z, rfl, hi2_z⟩ := rp_bn2 (nb := rg_v h 2 2) rfl (by omega) q156_z
    replace yy := yy.symm
    subst yy
    replace hc_z : rn _ _ _ _ [.int i2_z] _ _ _ := hc_z
    replace hc_z := rn_iret (am_cur_of (i := (12, 1, .ireturn, (0, 0, 0), 0)) (by decide +kernel)) hc_z
    obtain ⟨e157_z, e158_z⟩ := hc_z
    replace hm_z := rn_aload_n (am_cur_of (i := (0, 1, .aload_n 0, (0, 0, 0), 0)) (by decide +kernel)) g0m hm_z
    replace hm_z := rn_iconst (w := 0) (am_cur_of (i := (1, 1, .iconst 0, (0, 0, 0), 0)) (by decide +kernel)) (by decide) hm_z
    replace hm_z := rn_put (am_cur_of (i := (2, 3, .putfield 139, (12, 2, 1386), 0)) (by decide +kernel)) (by decide +kernel) hm_z
    replace hm_z := rn_iload_n (am_cur_of (i := (5, 1, .iload_n 1, (0, 0, 0), 0)) (by decide +kernel)) g1m hm_z
    replace hm_z := rn_if (am_cur_of (i := (6, 3, .ifCond .ne 19, (13, 0, 0), 0)) (by decide +kernel)) hm_z
    rcases hm_z with ⟨b159_z, hm_z⟩ | ⟨b159_z, hm_z⟩
    · replace b159_z : ¬ a = (0 : Int32) ∧ ¬ a.toInt = (0 : Int32).toInt := b159_z
      exact absurd b134_z.1 b159_z.1
    · replace b159_z : a = (0 : Int32) ∧ a.toInt = (0 : Int32).toInt := b159_z
      replace hm_z := rn_aload_n (am_cur_of (i := (9, 1, .aload_n 0, (0, 0, 0), 0)) (by decide +kernel)) g0m hm_z
      replace hm_z := rn_getR (x := 169) (am_cur_of (i := (10, 3, .getfield 27, (12, 24, 1408), 0)) (by decide +kernel)) (by decide +kernel) hm_z
      replace hm_z := rn_iconst (w := 0) (am_cur_of (i := (13, 1, .iconst 0, (0, 0, 0), 0)) (by decide +kernel)) (by decide) hm_z
      replace hm_z := rn_aload_n (am_cur_of (i := (14, 1, .aload_n 0, (0, 0, 0), 0)) (by decide +kernel)) g0m hm_z
      replace hm_z := rn_getI (v := rg_v g 164 12) (am_cur_of (i := (15, 3, .getfield 219, (12, 12, 1396), 0)) (by decide +kernel)) (by decide +kernel) (show rg_v (am_up g 164 2 (.int 0)) 164 12 = rg_v g 164 12 from rfl) hm_z
      replace hm_z := rn_iload_n (am_cur_of (i := (18, 1, .iload_n 2, (0, 0, 0), 0)) (by decide +kernel)) g2m hm_z
      replace hm_z := rn_callS (M' := am_m165) (ar := [.int b, .int (rg_v g 164 12), .int 0, .ref 169]) (rest := []) (L := lv_args 0 [.ref 169, .int 0, .int (rg_v g 164 12), .int b]) (am_cur_of (i := (19, 3, .invokestatic 241, (165, 1692, 3), 0)) (by decide +kernel)) rfl rfl rfl rfl hm_z
      obtain ⟨r160_z, h161_z, q162_z, hm_z⟩ := hm_z
      obtain ⟨yy, i3_z, rfl, hi3_z⟩ := rp_find (N := 8) (by decide +kernel) (by decide) (by rw [show rg_v g 164 12 = rg_v h 2 2 from n1_z.symm]; omega) (by decide) q162_z
      replace yy := yy.symm
      subst yy
      replace hm_z : rn _ _ _ _ [.int i3_z] _ _ _ := hm_z
      replace hm_z := rn_goto (am_cur_of (i := (22, 3, .goto 25, (25, 0, 0), 0)) (by decide +kernel)) hm_z
      replace hm_z := rn_iret (am_cur_of (i := (47, 1, .ireturn, (0, 0, 0), 0)) (by decide +kernel)) hm_z
      obtain ⟨e163_z, e164_z⟩ := hm_z
      have ei : i2_z = i3_z := by
        refine rp_fm_u hi2_z (by rw [n1_z]; exact hi3_z) (fun b hb_z => ?_)
        show rg_v h (19 + b) 0 = rg_v g 169 ((0 : Int32).toNatClampNeg + b)
        rw [show (0 : Int32).toNatClampNeg + b = b by rw [show (0 : Int32).toNatClampNeg = 0 by decide, Nat.zero_add]]
        match b with
        | 0 => exact C0 hb_z 0 (by decide)
        | 1 => exact C1 hb_z 0 (by decide)
        | 2 => exact C2 hb_z 0 (by decide)
        | 3 => exact C3 hb_z 0 (by decide)
        | b + 4 => omega
      rw [e157_z, e163_z, ei]
theorem nm_eq23 {n n' : Nat} {h h' g g' : am_H} {r r' : Option Value} {a b : Int32} (D : h 0 2 = .ref 23) (K : rK 23 h g) (hc_z : rn n am_m60 0 (lv_args 0 [.ref 0, .int a, .int b]) [] h r h') (hm_z : rn n' am_m183 0 (lv_args 0 [.ref 164, .int a, .int b]) [] g r' g') : r = r' := by
  have z0_z : (0 : Int32).toInt = 0 := by decide
  have z1_z : (1 : Int32).toInt = 1 := by decide
  have g0_z : am_get (lv_args 0 [.ref 0, .int a, .int b]) 0 = some (.ref 0) := rfl
  have g1_z : am_get (lv_args 0 [.ref 0, .int a, .int b]) 1 = some (.int a) := rfl
  have g2_z : am_get (lv_args 0 [.ref 0, .int a, .int b]) 2 = some (.int b) := rfl
  have g0m : am_get (lv_args 0 [.ref 164, .int a, .int b]) 0 = some (.ref 164) := rfl
  have g1m : am_get (lv_args 0 [.ref 164, .int a, .int b]) 1 = some (.int a) := rfl
  have g2m : am_get (lv_args 0 [.ref 164, .int a, .int b]) 2 = some (.int b) := rfl
  obtain ⟨-, ⟨n1_z, n2_z, n3_z⟩, -, -, ⟨q1_z, q2_z, q3_z⟩, ⟨C0, C1, C2, C3⟩, -, -, G⟩ := K
  replace hc_z := rn_iload_n (am_cur_of (i := (0, 1, .iload_n 1, (0, 0, 0), 0)) (by decide +kernel)) g1_z hc_z
  replace hc_z := rn_if (am_cur_of (i := (1, 3, .ifCond .ne 12, (7, 0, 0), 0)) (by decide +kernel)) hc_z
  rcases hc_z with ⟨b165_z, hc_z⟩ | ⟨b165_z, hc_z⟩
  · replace b165_z : ¬ a = (0 : Int32) ∧ ¬ a.toInt = (0 : Int32).toInt := b165_z
    replace hc_z := rn_iload_n (am_cur_of (i := (13, 1, .iload_n 1, (0, 0, 0), 0)) (by decide +kernel)) g1_z hc_z
    replace hc_z := rn_iconst (w := 1) (am_cur_of (i := (14, 1, .iconst 1, (0, 0, 0), 0)) (by decide +kernel)) (by decide) hc_z
    replace hc_z := rn_cmp (am_cur_of (i := (15, 3, .if_icmp .ne 14, (15, 0, 0), 0)) (by decide +kernel)) hc_z
    rcases hc_z with ⟨b166_z, hc_z⟩ | ⟨b166_z, hc_z⟩
    · replace b166_z : ¬ a = (1 : Int32) ∧ ¬ a.toInt = (1 : Int32).toInt := b166_z
      replace hc_z := rn_iconst (w := (-1)) (am_cur_of (i := (29, 1, .iconst (-1), (0, 0, 0), 0)) (by decide +kernel)) (by decide) hc_z
      replace hc_z := rn_iret (am_cur_of (i := (30, 1, .ireturn, (0, 0, 0), 0)) (by decide +kernel)) hc_z
      obtain ⟨e167_z, e168_z⟩ := hc_z
      replace hm_z := rn_aload_n (am_cur_of (i := (0, 1, .aload_n 0, (0, 0, 0), 0)) (by decide +kernel)) g0m hm_z
      replace hm_z := rn_iconst (w := 0) (am_cur_of (i := (1, 1, .iconst 0, (0, 0, 0), 0)) (by decide +kernel)) (by decide) hm_z
      replace hm_z := rn_put (am_cur_of (i := (2, 3, .putfield 139, (12, 2, 1386), 0)) (by decide +kernel)) (by decide +kernel) hm_z
      replace hm_z := rn_iload_n (am_cur_of (i := (5, 1, .iload_n 1, (0, 0, 0), 0)) (by decide +kernel)) g1m hm_z
      replace hm_z := rn_if (am_cur_of (i := (6, 3, .ifCond .ne 19, (13, 0, 0), 0)) (by decide +kernel)) hm_z
      rcases hm_z with ⟨b169_z, hm_z⟩ | ⟨b169_z, hm_z⟩
      · replace b169_z : ¬ a = (0 : Int32) ∧ ¬ a.toInt = (0 : Int32).toInt := b169_z
        replace hm_z := rn_iload_n (am_cur_of (i := (25, 1, .iload_n 1, (0, 0, 0), 0)) (by decide +kernel)) g1m hm_z
        replace hm_z := rn_iconst (w := 1) (am_cur_of (i := (26, 1, .iconst 1, (0, 0, 0), 0)) (by decide +kernel)) (by decide) hm_z
        replace hm_z := rn_cmp (am_cur_of (i := (27, 3, .if_icmp .ne 19, (24, 0, 0), 0)) (by decide +kernel)) hm_z
        rcases hm_z with ⟨b170_z, hm_z⟩ | ⟨b170_z, hm_z⟩
        · replace b170_z : ¬ a = (1 : Int32) ∧ ¬ a.toInt = (1 : Int32).toInt := b170_z
          replace hm_z := rn_iconst (w := (-1)) (am_cur_of (i := (46, 1, .iconst (-1), (0, 0, 0), 0)) (by decide +kernel)) (by decide) hm_z
          replace hm_z := rn_iret (am_cur_of (i := (47, 1, .ireturn, (0, 0, 0), 0)) (by decide +kernel)) hm_z
          obtain ⟨e171_z, e172_z⟩ := hm_z
          rw [e167_z, e171_z]
        · replace b170_z : a = (1 : Int32) ∧ a.toInt = (1 : Int32).toInt := b170_z
          exact absurd b170_z.1 b166_z.1
      · replace b169_z : a = (0 : Int32) ∧ a.toInt = (0 : Int32).toInt := b169_z
        exact absurd b169_z.1 b165_z.1
    · replace b166_z : a = (1 : Int32) ∧ a.toInt = (1 : Int32).toInt := b166_z
      replace hc_z := rn_aload_n (am_cur_of (i := (18, 1, .aload_n 0, (0, 0, 0), 0)) (by decide +kernel)) g0_z hc_z
      replace hc_z := rn_getM (x := 23) (am_cur_of (i := (19, 3, .getfield 18, (0, 2, 663), 0)) (by decide +kernel)) D hc_z
      replace hc_z := rn_iload_n (am_cur_of (i := (22, 1, .iload_n 2, (0, 0, 0), 0)) (by decide +kernel)) g2_z hc_z
      replace hc_z := rn_callV (M' := am_m39) (o := 23) (ar := [.int b]) (rest := []) (L := lv_args 0 [.ref 23, .int b]) (am_cur_of (i := (23, 3, .invokevirtual 132, (39, 903, 3), 0)) (by decide +kernel)) rfl rfl rfl rfl hc_z
      obtain ⟨r173_z, h174_z, q175_z, hc_z⟩ := hc_z
      obtain ⟨yy, i2_z, rfl, hi2_z⟩ := rp_tn23 (nb := rg_v h 23 12) rfl (by omega) q175_z
      replace yy := yy.symm
      subst yy
      replace hc_z : rn _ _ _ _ [.int i2_z] _ _ _ := hc_z
      replace hc_z := rn_goto (am_cur_of (i := (26, 3, .goto 4, (16, 0, 0), 0)) (by decide +kernel)) hc_z
      replace hc_z := rn_iret (am_cur_of (i := (30, 1, .ireturn, (0, 0, 0), 0)) (by decide +kernel)) hc_z
      obtain ⟨e176_z, e177_z⟩ := hc_z
      replace hm_z := rn_aload_n (am_cur_of (i := (0, 1, .aload_n 0, (0, 0, 0), 0)) (by decide +kernel)) g0m hm_z
      replace hm_z := rn_iconst (w := 0) (am_cur_of (i := (1, 1, .iconst 0, (0, 0, 0), 0)) (by decide +kernel)) (by decide) hm_z
      replace hm_z := rn_put (am_cur_of (i := (2, 3, .putfield 139, (12, 2, 1386), 0)) (by decide +kernel)) (by decide +kernel) hm_z
      replace hm_z := rn_iload_n (am_cur_of (i := (5, 1, .iload_n 1, (0, 0, 0), 0)) (by decide +kernel)) g1m hm_z
      replace hm_z := rn_if (am_cur_of (i := (6, 3, .ifCond .ne 19, (13, 0, 0), 0)) (by decide +kernel)) hm_z
      rcases hm_z with ⟨b178_z, hm_z⟩ | ⟨b178_z, hm_z⟩
      · replace b178_z : ¬ a = (0 : Int32) ∧ ¬ a.toInt = (0 : Int32).toInt := b178_z
        replace hm_z := rn_iload_n (am_cur_of (i := (25, 1, .iload_n 1, (0, 0, 0), 0)) (by decide +kernel)) g1m hm_z
        replace hm_z := rn_iconst (w := 1) (am_cur_of (i := (26, 1, .iconst 1, (0, 0, 0), 0)) (by decide +kernel)) (by decide) hm_z
        replace hm_z := rn_cmp (am_cur_of (i := (27, 3, .if_icmp .ne 19, (24, 0, 0), 0)) (by decide +kernel)) hm_z
        rcases hm_z with ⟨b179_z, hm_z⟩ | ⟨b179_z, hm_z⟩
        · replace b179_z : ¬ a = (1 : Int32) ∧ ¬ a.toInt = (1 : Int32).toInt := b179_z
          exact absurd b166_z.1 b179_z.1
        · replace b179_z : a = (1 : Int32) ∧ a.toInt = (1 : Int32).toInt := b179_z
          replace hm_z := rn_aload_n (am_cur_of (i := (30, 1, .aload_n 0, (0, 0, 0), 0)) (by decide +kernel)) g0m hm_z
          replace hm_z := rn_getR (x := 175) (am_cur_of (i := (31, 3, .getfield 45, (12, 30, 1414), 0)) (by decide +kernel)) (by decide +kernel) hm_z
          replace hm_z := rn_iconst (w := 0) (am_cur_of (i := (34, 1, .iconst 0, (0, 0, 0), 0)) (by decide +kernel)) (by decide) hm_z
          replace hm_z := rn_aload_n (am_cur_of (i := (35, 1, .aload_n 0, (0, 0, 0), 0)) (by decide +kernel)) g0m hm_z
          replace hm_z := rn_getI (v := rg_v g 164 15) (am_cur_of (i := (36, 3, .getfield 228, (12, 15, 1399), 0)) (by decide +kernel)) (by decide +kernel) (show rg_v (am_up g 164 2 (.int 0)) 164 15 = rg_v g 164 15 from rfl) hm_z
          replace hm_z := rn_iload_n (am_cur_of (i := (39, 1, .iload_n 2, (0, 0, 0), 0)) (by decide +kernel)) g2m hm_z
          replace hm_z := rn_callS (M' := am_m165) (ar := [.int b, .int (rg_v g 164 15), .int 0, .ref 175]) (rest := []) (L := lv_args 0 [.ref 175, .int 0, .int (rg_v g 164 15), .int b]) (am_cur_of (i := (40, 3, .invokestatic 241, (165, 1692, 3), 0)) (by decide +kernel)) rfl rfl rfl rfl hm_z
          obtain ⟨r180_z, h181_z, q182_z, hm_z⟩ := hm_z
          obtain ⟨yy, i3_z, rfl, hi3_z⟩ := rp_find (N := 6) (by decide +kernel) (by decide) (by rw [show rg_v g 164 15 = rg_v h 23 12 from q1_z.symm]; omega) (by decide) q182_z
          replace yy := yy.symm
          subst yy
          replace hm_z : rn _ _ _ _ [.int i3_z] _ _ _ := hm_z
          replace hm_z := rn_goto (am_cur_of (i := (43, 3, .goto 4, (25, 0, 0), 0)) (by decide +kernel)) hm_z
          replace hm_z := rn_iret (am_cur_of (i := (47, 1, .ireturn, (0, 0, 0), 0)) (by decide +kernel)) hm_z
          obtain ⟨e183_z, e184_z⟩ := hm_z
          have ei : i2_z = i3_z := by
            refine rp_fm_u hi2_z (by rw [q1_z]; exact hi3_z) (fun b hb_z => ?_)
            show rg_v h 29 b = rg_v g 175 ((0 : Int32).toNatClampNeg + b)
            rw [show (0 : Int32).toNatClampNeg + b = b by rw [show (0 : Int32).toNatClampNeg = 0 by decide, Nat.zero_add]]
            exact (G b hb_z).1
          rw [e176_z, e183_z, ei]
      · replace b178_z : a = (0 : Int32) ∧ a.toInt = (0 : Int32).toInt := b178_z
        exact absurd b178_z.1 b165_z.1
  · replace b165_z : a = (0 : Int32) ∧ a.toInt = (0 : Int32).toInt := b165_z
    replace hc_z := rn_aload_n (am_cur_of (i := (4, 1, .aload_n 0, (0, 0, 0), 0)) (by decide +kernel)) g0_z hc_z
    replace hc_z := rn_getM (x := 23) (am_cur_of (i := (5, 3, .getfield 18, (0, 2, 663), 0)) (by decide +kernel)) D hc_z
    replace hc_z := rn_iload_n (am_cur_of (i := (8, 1, .iload_n 2, (0, 0, 0), 0)) (by decide +kernel)) g2_z hc_z
    replace hc_z := rn_callV (M' := am_m34) (o := 23) (ar := [.int b]) (rest := []) (L := lv_args 0 [.ref 23, .int b]) (am_cur_of (i := (9, 3, .invokevirtual 128, (34, 902, 3), 0)) (by decide +kernel)) rfl rfl rfl rfl hc_z
    obtain ⟨r185_z, h186_z, q187_z, hc_z⟩ := hc_z
    obtain ⟨yy, i2_z, rfl, hi2_z⟩ := rp_bn23 (nb := rg_v h 23 2) rfl (by omega) q187_z
    replace yy := yy.symm
    subst yy
    replace hc_z : rn _ _ _ _ [.int i2_z] _ _ _ := hc_z
    replace hc_z := rn_iret (am_cur_of (i := (12, 1, .ireturn, (0, 0, 0), 0)) (by decide +kernel)) hc_z
    obtain ⟨e188_z, e189_z⟩ := hc_z
    replace hm_z := rn_aload_n (am_cur_of (i := (0, 1, .aload_n 0, (0, 0, 0), 0)) (by decide +kernel)) g0m hm_z
    replace hm_z := rn_iconst (w := 0) (am_cur_of (i := (1, 1, .iconst 0, (0, 0, 0), 0)) (by decide +kernel)) (by decide) hm_z
    replace hm_z := rn_put (am_cur_of (i := (2, 3, .putfield 139, (12, 2, 1386), 0)) (by decide +kernel)) (by decide +kernel) hm_z
    replace hm_z := rn_iload_n (am_cur_of (i := (5, 1, .iload_n 1, (0, 0, 0), 0)) (by decide +kernel)) g1m hm_z
    replace hm_z := rn_if (am_cur_of (i := (6, 3, .ifCond .ne 19, (13, 0, 0), 0)) (by decide +kernel)) hm_z
    rcases hm_z with ⟨b190_z, hm_z⟩ | ⟨b190_z, hm_z⟩
    · replace b190_z : ¬ a = (0 : Int32) ∧ ¬ a.toInt = (0 : Int32).toInt := b190_z
      exact absurd b165_z.1 b190_z.1
    · replace b190_z : a = (0 : Int32) ∧ a.toInt = (0 : Int32).toInt := b190_z
      replace hm_z := rn_aload_n (am_cur_of (i := (9, 1, .aload_n 0, (0, 0, 0), 0)) (by decide +kernel)) g0m hm_z
      replace hm_z := rn_getR (x := 169) (am_cur_of (i := (10, 3, .getfield 27, (12, 24, 1408), 0)) (by decide +kernel)) (by decide +kernel) hm_z
      replace hm_z := rn_iconst (w := 0) (am_cur_of (i := (13, 1, .iconst 0, (0, 0, 0), 0)) (by decide +kernel)) (by decide) hm_z
      replace hm_z := rn_aload_n (am_cur_of (i := (14, 1, .aload_n 0, (0, 0, 0), 0)) (by decide +kernel)) g0m hm_z
      replace hm_z := rn_getI (v := rg_v g 164 12) (am_cur_of (i := (15, 3, .getfield 219, (12, 12, 1396), 0)) (by decide +kernel)) (by decide +kernel) (show rg_v (am_up g 164 2 (.int 0)) 164 12 = rg_v g 164 12 from rfl) hm_z
      replace hm_z := rn_iload_n (am_cur_of (i := (18, 1, .iload_n 2, (0, 0, 0), 0)) (by decide +kernel)) g2m hm_z
      replace hm_z := rn_callS (M' := am_m165) (ar := [.int b, .int (rg_v g 164 12), .int 0, .ref 169]) (rest := []) (L := lv_args 0 [.ref 169, .int 0, .int (rg_v g 164 12), .int b]) (am_cur_of (i := (19, 3, .invokestatic 241, (165, 1692, 3), 0)) (by decide +kernel)) rfl rfl rfl rfl hm_z
      obtain ⟨r191_z, h192_z, q193_z, hm_z⟩ := hm_z
      obtain ⟨yy, i3_z, rfl, hi3_z⟩ := rp_find (N := 8) (by decide +kernel) (by decide) (by rw [show rg_v g 164 12 = rg_v h 23 2 from n1_z.symm]; omega) (by decide) q193_z
      replace yy := yy.symm
      subst yy
      replace hm_z : rn _ _ _ _ [.int i3_z] _ _ _ := hm_z
      replace hm_z := rn_goto (am_cur_of (i := (22, 3, .goto 25, (25, 0, 0), 0)) (by decide +kernel)) hm_z
      replace hm_z := rn_iret (am_cur_of (i := (47, 1, .ireturn, (0, 0, 0), 0)) (by decide +kernel)) hm_z
      obtain ⟨e194_z, e195_z⟩ := hm_z
      have ei : i2_z = i3_z := by
        refine rp_fm_u hi2_z (by rw [n1_z]; exact hi3_z) (fun b hb_z => ?_)
        show rg_v h (40 + b) 0 = rg_v g 169 ((0 : Int32).toNatClampNeg + b)
        rw [show (0 : Int32).toNatClampNeg + b = b by rw [show (0 : Int32).toNatClampNeg = 0 by decide, Nat.zero_add]]
        match b with
        | 0 => exact C0 hb_z 0 (by decide)
        | 1 => exact C1 hb_z 0 (by decide)
        | 2 => exact C2 hb_z 0 (by decide)
        | 3 => exact C3 hb_z 0 (by decide)
        | b + 4 => omega
      rw [e188_z, e194_z, ei]
theorem R5_y : ay_named R5 := by
  intro t a b h h1_z h2_z r1_z r2_z n1_z n2_z hR hG hG1 hG2 F1 F2 rn1_z rn2_z
  have m1_z : zM h h1_z := zM_fr (by decide +kernel) F1
  rcases hR.1.1.1 with ⟨-, e⟩ | ⟨-, e⟩
  · exact nm_eq23 e (rK_m m1_z (hR.2 23 e)) rn1_z rn2_z
  · exact nm_eq2 e (rK_m m1_z (hR.2 2 e)) rn1_z rn2_z
