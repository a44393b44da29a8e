set_option maxHeartbeats 400000
/-! ===== keepText KEEPS THE LAWS (wip/r/gen99skf.py) ===== -/
def zL (g g' : am_H) : Prop := ∀ o q, 178 ≤ o → o ≤ 183 → g' o q = g o q
theorem zL_r {g : am_H} : zL g g := fun _ _ _ _ => rfl
theorem zL_t {g g' g'' : am_H} (a : zL g g') (b : zL g' g'') : zL g g'' := fun o q e f => (b o q e f).trans (a o q e f)
theorem zL_u {g : am_H} {o q : Nat} {v : Value} {g0_z : am_H} (ho : (Nat.ble 178 o && Nat.ble o 183) = false) (a : zL g0_z g) : zL g0_z (am_up g o q v) := fun o' q' e f => (up_ne (fun z => by
  rw [← z.1, Nat.ble_eq_true_of_le e, Nat.ble_eq_true_of_le f] at ho
  cases ho)).trans (a o' q' e f)
theorem zl_147 {n : Nat} {r : Option Value} {g g' : am_H} (hm_z : rn n am_m147 0 (lv_args 0 [.ref 164, .int 0]) [] g r g') : zL g g' := by
  have g0_z : am_get (lv_args 0 [.ref 164, .int 0]) 0 = some (.ref 164) := rfl
  have g1_z : am_get (lv_args 0 [.ref 164, .int 0]) 1 = some (.int 0) := rfl
  replace hm_z := rn_aload_n (am_cur_of (i := (0, 1, .aload_n 0, (0, 0, 0), 0)) (by decide +kernel)) g0_z hm_z
  replace hm_z := rn_getR (x := 188) (am_cur_of (i := (1, 3, .getfield 85, (12, 50, 1434), 0)) (by decide +kernel)) (by decide +kernel) hm_z
  replace hm_z := rn_iload_n (am_cur_of (i := (4, 1, .iload_n 1, (0, 0, 0), 0)) (by decide +kernel)) g1_z hm_z
  replace hm_z := rn_aload_n (am_cur_of (i := (5, 1, .aload_n 0, (0, 0, 0), 0)) (by decide +kernel)) g0_z hm_z
  replace hm_z := rn_getR (x := 168) (am_cur_of (i := (6, 3, .getfield 24, (12, 23, 1407), 0)) (by decide +kernel)) (by decide +kernel) hm_z
  replace hm_z := rn_iconst (w := 1) (am_cur_of (i := (9, 1, .iconst 1, (0, 0, 0), 0)) (by decide +kernel)) (by decide) hm_z
  replace hm_z := rn_iaload (N := 12) (q := 1) (v := rg_v g 168 1) (am_cur_of (i := (10, 1, .iaload, (0, 0, 0), 0)) (by decide +kernel)) (by decide +kernel) rfl rfl hm_z
  obtain ⟨p1_z, hm_z⟩ := hm_z
  replace hm_z := rn_iastore (N := 4) (q := 0) (am_cur_of (i := (11, 1, .iastore, (0, 0, 0), 0)) (by decide +kernel)) (by decide +kernel) rfl hm_z
  obtain ⟨p2_z, hm_z⟩ := hm_z
  replace hm_z := rn_aload_n (am_cur_of (i := (12, 1, .aload_n 0, (0, 0, 0), 0)) (by decide +kernel)) g0_z hm_z
  replace hm_z := rn_getR (x := 189) (am_cur_of (i := (13, 3, .getfield 88, (12, 51, 1435), 0)) (by decide +kernel)) (by decide +kernel) hm_z
  replace hm_z := rn_iload_n (am_cur_of (i := (16, 1, .iload_n 1, (0, 0, 0), 0)) (by decide +kernel)) g1_z hm_z
  replace hm_z := rn_iconst (w := 0) (am_cur_of (i := (17, 1, .iconst 0, (0, 0, 0), 0)) (by decide +kernel)) (by decide) hm_z
  replace hm_z := rn_iastore (N := 4) (q := 0) (am_cur_of (i := (18, 1, .iastore, (0, 0, 0), 0)) (by decide +kernel)) (by decide +kernel) rfl hm_z
  obtain ⟨p3_z, hm_z⟩ := hm_z
  replace hm_z := rn_aload_n (am_cur_of (i := (19, 1, .aload_n 0, (0, 0, 0), 0)) (by decide +kernel)) g0_z hm_z
  replace hm_z := rn_getR (x := 190) (am_cur_of (i := (20, 3, .getfield 91, (12, 52, 1436), 0)) (by decide +kernel)) (by decide +kernel) hm_z
  replace hm_z := rn_iload_n (am_cur_of (i := (23, 1, .iload_n 1, (0, 0, 0), 0)) (by decide +kernel)) g1_z hm_z
  replace hm_z := rn_iconst (w := (-1)) (am_cur_of (i := (24, 1, .iconst (-1), (0, 0, 0), 0)) (by decide +kernel)) (by decide) hm_z
  replace hm_z := rn_iastore (N := 4) (q := 0) (am_cur_of (i := (25, 1, .iastore, (0, 0, 0), 0)) (by decide +kernel)) (by decide +kernel) rfl hm_z
  obtain ⟨p4_z, hm_z⟩ := hm_z
  replace hm_z := rn_aload_n (am_cur_of (i := (26, 1, .aload_n 0, (0, 0, 0), 0)) (by decide +kernel)) g0_z hm_z
  replace hm_z := rn_getR (x := 194) (am_cur_of (i := (27, 3, .getfield 103, (12, 56, 1440), 0)) (by decide +kernel)) (by decide +kernel) hm_z
  replace hm_z := rn_iload_n (am_cur_of (i := (30, 1, .iload_n 1, (0, 0, 0), 0)) (by decide +kernel)) g1_z hm_z
  replace hm_z := rn_aload_n (am_cur_of (i := (31, 1, .aload_n 0, (0, 0, 0), 0)) (by decide +kernel)) g0_z hm_z
  replace hm_z := rn_getR (x := 168) (am_cur_of (i := (32, 3, .getfield 24, (12, 23, 1407), 0)) (by decide +kernel)) (by decide +kernel) hm_z
  replace hm_z := rn_iconst (w := 3) (am_cur_of (i := (35, 1, .iconst 3, (0, 0, 0), 0)) (by decide +kernel)) (by decide) hm_z
  replace hm_z := rn_iaload (N := 12) (q := 3) (v := rg_v g 168 3) (am_cur_of (i := (36, 1, .iaload, (0, 0, 0), 0)) (by decide +kernel)) (by decide +kernel) rfl ((rg_v_other (by omega)).trans ((rg_v_other (by omega)).trans ((rg_v_other (by omega)).trans (rfl)))) hm_z
  obtain ⟨p5_z, hm_z⟩ := hm_z
  replace hm_z := rn_iastore (N := 4) (q := 0) (am_cur_of (i := (37, 1, .iastore, (0, 0, 0), 0)) (by decide +kernel)) (by decide +kernel) rfl hm_z
  obtain ⟨p6_z, hm_z⟩ := hm_z
  replace hm_z := rn_iconst (w := 0) (am_cur_of (i := (38, 1, .iconst 0, (0, 0, 0), 0)) (by decide +kernel)) (by decide) hm_z
  replace hm_z := rn_istore_n (am_cur_of (i := (39, 1, .istore_n 2, (0, 0, 0), 0)) (by decide +kernel)) hm_z
  obtain ⟨_, s7_z, s8_z, g2_z, hm_z⟩ := hm_z
  replace g0_z := s7_z 0 _ (by decide) rfl g0_z
  replace g1_z := s7_z 1 _ (by decide) rfl g1_z
  clear s7_z s8_z
  replace hm_z := rn_iload_n (am_cur_of (i := (40, 1, .iload_n 2, (0, 0, 0), 0)) (by decide +kernel)) g2_z hm_z
  replace hm_z := rn_iconst (w := 4) (am_cur_of (i := (41, 1, .iconst 4, (0, 0, 0), 0)) (by decide +kernel)) (by decide) hm_z
  replace hm_z := rn_cmpF (am_cur_of (i := (42, 3, .if_icmp .ge 42, (60, 0, 0), 0)) (by decide +kernel)) (by decide) hm_z
  replace hm_z := rn_aload_n (am_cur_of (i := (45, 1, .aload_n 0, (0, 0, 0), 0)) (by decide +kernel)) g0_z hm_z
  replace hm_z := rn_getR (x := 191) (am_cur_of (i := (46, 3, .getfield 94, (12, 53, 1437), 0)) (by decide +kernel)) (by decide +kernel) hm_z
  replace hm_z := rn_iconst (w := 4) (am_cur_of (i := (49, 1, .iconst 4, (0, 0, 0), 0)) (by decide +kernel)) (by decide) hm_z
  replace hm_z := rn_iload_n (am_cur_of (i := (50, 1, .iload_n 1, (0, 0, 0), 0)) (by decide +kernel)) g1_z hm_z
  replace hm_z := rn_imul (w := 0) (am_cur_of (i := (51, 1, .imul, (0, 0, 0), 0)) (by decide +kernel)) (by decide) hm_z
  replace hm_z := rn_iload_n (am_cur_of (i := (52, 1, .iload_n 2, (0, 0, 0), 0)) (by decide +kernel)) g2_z hm_z
  replace hm_z := rn_iadd (w := 0) (am_cur_of (i := (53, 1, .iadd, (0, 0, 0), 0)) (by decide +kernel)) (by decide) hm_z
  replace hm_z := rn_iconst (w := 0) (am_cur_of (i := (54, 1, .iconst 0, (0, 0, 0), 0)) (by decide +kernel)) (by decide) hm_z
  replace hm_z := rn_iastore (N := 16) (q := 0) (am_cur_of (i := (55, 1, .iastore, (0, 0, 0), 0)) (by decide +kernel)) (by decide +kernel) rfl hm_z
  obtain ⟨p9_z, hm_z⟩ := hm_z
  replace hm_z := rn_aload_n (am_cur_of (i := (56, 1, .aload_n 0, (0, 0, 0), 0)) (by decide +kernel)) g0_z hm_z
  replace hm_z := rn_getR (x := 192) (am_cur_of (i := (57, 3, .getfield 97, (12, 54, 1438), 0)) (by decide +kernel)) (by decide +kernel) hm_z
  replace hm_z := rn_iconst (w := 4) (am_cur_of (i := (60, 1, .iconst 4, (0, 0, 0), 0)) (by decide +kernel)) (by decide) hm_z
  replace hm_z := rn_iload_n (am_cur_of (i := (61, 1, .iload_n 1, (0, 0, 0), 0)) (by decide +kernel)) g1_z hm_z
  replace hm_z := rn_imul (w := 0) (am_cur_of (i := (62, 1, .imul, (0, 0, 0), 0)) (by decide +kernel)) (by decide) hm_z
  replace hm_z := rn_iload_n (am_cur_of (i := (63, 1, .iload_n 2, (0, 0, 0), 0)) (by decide +kernel)) g2_z hm_z
  replace hm_z := rn_iadd (w := 0) (am_cur_of (i := (64, 1, .iadd, (0, 0, 0), 0)) (by decide +kernel)) (by decide) hm_z
  replace hm_z := rn_iconst (w := 0) (am_cur_of (i := (65, 1, .iconst 0, (0, 0, 0), 0)) (by decide +kernel)) (by decide) hm_z
  replace hm_z := rn_iastore (N := 16) (q := 0) (am_cur_of (i := (66, 1, .iastore, (0, 0, 0), 0)) (by decide +kernel)) (by decide +kernel) rfl hm_z
  obtain ⟨p10_z, hm_z⟩ := hm_z
  replace hm_z := rn_aload_n (am_cur_of (i := (67, 1, .aload_n 0, (0, 0, 0), 0)) (by decide +kernel)) g0_z hm_z
  replace hm_z := rn_getR (x := 193) (am_cur_of (i := (68, 3, .getfield 100, (12, 55, 1439), 0)) (by decide +kernel)) (by decide +kernel) hm_z
  replace hm_z := rn_iconst (w := 4) (am_cur_of (i := (71, 1, .iconst 4, (0, 0, 0), 0)) (by decide +kernel)) (by decide) hm_z
  replace hm_z := rn_iload_n (am_cur_of (i := (72, 1, .iload_n 1, (0, 0, 0), 0)) (by decide +kernel)) g1_z hm_z
  replace hm_z := rn_imul (w := 0) (am_cur_of (i := (73, 1, .imul, (0, 0, 0), 0)) (by decide +kernel)) (by decide) hm_z
  replace hm_z := rn_iload_n (am_cur_of (i := (74, 1, .iload_n 2, (0, 0, 0), 0)) (by decide +kernel)) g2_z hm_z
  replace hm_z := rn_iadd (w := 0) (am_cur_of (i := (75, 1, .iadd, (0, 0, 0), 0)) (by decide +kernel)) (by decide) hm_z
  replace hm_z := rn_iconst (w := 0) (am_cur_of (i := (76, 1, .iconst 0, (0, 0, 0), 0)) (by decide +kernel)) (by decide) hm_z
  replace hm_z := rn_iastore (N := 16) (q := 0) (am_cur_of (i := (77, 1, .iastore, (0, 0, 0), 0)) (by decide +kernel)) (by decide +kernel) rfl hm_z
  obtain ⟨p11_z, hm_z⟩ := hm_z
  replace hm_z := rn_iinc (w := 1) (am_cur_of (i := (78, 3, .iinc 2 1, (0, 0, 0), 0)) (by decide +kernel)) g2_z (by decide) hm_z
  obtain ⟨_, s12_z, s13_z, g2_z, hm_z⟩ := hm_z
  replace g0_z := s12_z 0 _ (by decide) rfl g0_z
  replace g1_z := s12_z 1 _ (by decide) rfl g1_z
  clear s12_z s13_z
  replace hm_z := rn_goto (am_cur_of (i := (81, 3, .goto (-41), (28, 0, 0), 0)) (by decide +kernel)) hm_z
  replace hm_z := rn_iload_n (am_cur_of (i := (40, 1, .iload_n 2, (0, 0, 0), 0)) (by decide +kernel)) g2_z hm_z
  replace hm_z := rn_iconst (w := 4) (am_cur_of (i := (41, 1, .iconst 4, (0, 0, 0), 0)) (by decide +kernel)) (by decide) hm_z
  replace hm_z := rn_cmpF (am_cur_of (i := (42, 3, .if_icmp .ge 42, (60, 0, 0), 0)) (by decide +kernel)) (by decide) hm_z
  replace hm_z := rn_aload_n (am_cur_of (i := (45, 1, .aload_n 0, (0, 0, 0), 0)) (by decide +kernel)) g0_z hm_z
  replace hm_z := rn_getR (x := 191) (am_cur_of (i := (46, 3, .getfield 94, (12, 53, 1437), 0)) (by decide +kernel)) (by decide +kernel) hm_z
  replace hm_z := rn_iconst (w := 4) (am_cur_of (i := (49, 1, .iconst 4, (0, 0, 0), 0)) (by decide +kernel)) (by decide) hm_z
  replace hm_z := rn_iload_n (am_cur_of (i := (50, 1, .iload_n 1, (0, 0, 0), 0)) (by decide +kernel)) g1_z hm_z
  replace hm_z := rn_imul (w := 0) (am_cur_of (i := (51, 1, .imul, (0, 0, 0), 0)) (by decide +kernel)) (by decide) hm_z
  replace hm_z := rn_iload_n (am_cur_of (i := (52, 1, .iload_n 2, (0, 0, 0), 0)) (by decide +kernel)) g2_z hm_z
  replace hm_z := rn_iadd (w := 1) (am_cur_of (i := (53, 1, .iadd, (0, 0, 0), 0)) (by decide +kernel)) (by decide) hm_z
  replace hm_z := rn_iconst (w := 0) (am_cur_of (i := (54, 1, .iconst 0, (0, 0, 0), 0)) (by decide +kernel)) (by decide) hm_z
  replace hm_z := rn_iastore (N := 16) (q := 1) (am_cur_of (i := (55, 1, .iastore, (0, 0, 0), 0)) (by decide +kernel)) (by decide +kernel) rfl hm_z
  obtain ⟨p14_z, hm_z⟩ := hm_z
  replace hm_z := rn_aload_n (am_cur_of (i := (56, 1, .aload_n 0, (0, 0, 0), 0)) (by decide +kernel)) g0_z hm_z
  replace hm_z := rn_getR (x := 192) (am_cur_of (i := (57, 3, .getfield 97, (12, 54, 1438), 0)) (by decide +kernel)) (by decide +kernel) hm_z
  replace hm_z := rn_iconst (w := 4) (am_cur_of (i := (60, 1, .iconst 4, (0, 0, 0), 0)) (by decide +kernel)) (by decide) hm_z
  replace hm_z := rn_iload_n (am_cur_of (i := (61, 1, .iload_n 1, (0, 0, 0), 0)) (by decide +kernel)) g1_z hm_z
  replace hm_z := rn_imul (w := 0) (am_cur_of (i := (62, 1, .imul, (0, 0, 0), 0)) (by decide +kernel)) (by decide) hm_z
  replace hm_z := rn_iload_n (am_cur_of (i := (63, 1, .iload_n 2, (0, 0, 0), 0)) (by decide +kernel)) g2_z hm_z
  replace hm_z := rn_iadd (w := 1) (am_cur_of (i := (64, 1, .iadd, (0, 0, 0), 0)) (by decide +kernel)) (by decide) hm_z
  replace hm_z := rn_iconst (w := 0) (am_cur_of (i := (65, 1, .iconst 0, (0, 0, 0), 0)) (by decide +kernel)) (by decide) hm_z
  replace hm_z := rn_iastore (N := 16) (q := 1) (am_cur_of (i := (66, 1, .iastore, (0, 0, 0), 0)) (by decide +kernel)) (by decide +kernel) rfl hm_z
  obtain ⟨p15_z, hm_z⟩ := hm_z
  replace hm_z := rn_aload_n (am_cur_of (i := (67, 1, .aload_n 0, (0, 0, 0), 0)) (by decide +kernel)) g0_z hm_z
  replace hm_z := rn_getR (x := 193) (am_cur_of (i := (68, 3, .getfield 100, (12, 55, 1439), 0)) (by decide +kernel)) (by decide +kernel) hm_z
  replace hm_z := rn_iconst (w := 4) (am_cur_of (i := (71, 1, .iconst 4, (0, 0, 0), 0)) (by decide +kernel)) (by decide) hm_z
  replace hm_z := rn_iload_n (am_cur_of (i := (72, 1, .iload_n 1, (0, 0, 0), 0)) (by decide +kernel)) g1_z hm_z
  replace hm_z := rn_imul (w := 0) (am_cur_of (i := (73, 1, .imul, (0, 0, 0), 0)) (by decide +kernel)) (by decide) hm_z
  replace hm_z := rn_iload_n (am_cur_of (i := (74, 1, .iload_n 2, (0, 0, 0), 0)) (by decide +kernel)) g2_z hm_z
  replace hm_z := rn_iadd (w := 1) (am_cur_of (i := (75, 1, .iadd, (0, 0, 0), 0)) (by decide +kernel)) (by decide) hm_z
  replace hm_z := rn_iconst (w := 0) (am_cur_of (i := (76, 1, .iconst 0, (0, 0, 0), 0)) (by decide +kernel)) (by decide) hm_z
  replace hm_z := rn_iastore (N := 16) (q := 1) (am_cur_of (i := (77, 1, .iastore, (0, 0, 0), 0)) (by decide +kernel)) (by decide +kernel) rfl hm_z
  obtain ⟨p16_z, hm_z⟩ := hm_z
  replace hm_z := rn_iinc (w := 2) (am_cur_of (i := (78, 3, .iinc 2 1, (0, 0, 0), 0)) (by decide +kernel)) g2_z (by decide) hm_z
  obtain ⟨_, s17_z, s18_z, g2_z, hm_z⟩ := hm_z
  replace g0_z := s17_z 0 _ (by decide) rfl g0_z
  replace g1_z := s17_z 1 _ (by decide) rfl g1_z
  clear s17_z s18_z
  replace hm_z := rn_goto (am_cur_of (i := (81, 3, .goto (-41), (28, 0, 0), 0)) (by decide +kernel)) hm_z
  replace hm_z := rn_iload_n (am_cur_of (i := (40, 1, .iload_n 2, (0, 0, 0), 0)) (by decide +kernel)) g2_z hm_z
  replace hm_z := rn_iconst (w := 4) (am_cur_of (i := (41, 1, .iconst 4, (0, 0, 0), 0)) (by decide +kernel)) (by decide) hm_z
  replace hm_z := rn_cmpF (am_cur_of (i := (42, 3, .if_icmp .ge 42, (60, 0, 0), 0)) (by decide +kernel)) (by decide) hm_z
  replace hm_z := rn_aload_n (am_cur_of (i := (45, 1, .aload_n 0, (0, 0, 0), 0)) (by decide +kernel)) g0_z hm_z
  replace hm_z := rn_getR (x := 191) (am_cur_of (i := (46, 3, .getfield 94, (12, 53, 1437), 0)) (by decide +kernel)) (by decide +kernel) hm_z
  replace hm_z := rn_iconst (w := 4) (am_cur_of (i := (49, 1, .iconst 4, (0, 0, 0), 0)) (by decide +kernel)) (by decide) hm_z
  replace hm_z := rn_iload_n (am_cur_of (i := (50, 1, .iload_n 1, (0, 0, 0), 0)) (by decide +kernel)) g1_z hm_z
  replace hm_z := rn_imul (w := 0) (am_cur_of (i := (51, 1, .imul, (0, 0, 0), 0)) (by decide +kernel)) (by decide) hm_z
  replace hm_z := rn_iload_n (am_cur_of (i := (52, 1, .iload_n 2, (0, 0, 0), 0)) (by decide +kernel)) g2_z hm_z
  replace hm_z := rn_iadd (w := 2) (am_cur_of (i := (53, 1, .iadd, (0, 0, 0), 0)) (by decide +kernel)) (by decide) hm_z
  replace hm_z := rn_iconst (w := 0) (am_cur_of (i := (54, 1, .iconst 0, (0, 0, 0), 0)) (by decide +kernel)) (by decide) hm_z
  replace hm_z := rn_iastore (N := 16) (q := 2) (am_cur_of (i := (55, 1, .iastore, (0, 0, 0), 0)) (by decide +kernel)) (by decide +kernel) rfl hm_z
  obtain ⟨p19_z, hm_z⟩ := hm_z
  replace hm_z := rn_aload_n (am_cur_of (i := (56, 1, .aload_n 0, (0, 0, 0), 0)) (by decide +kernel)) g0_z hm_z
  replace hm_z := rn_getR (x := 192) (am_cur_of (i := (57, 3, .getfield 97, (12, 54, 1438), 0)) (by decide +kernel)) (by decide +kernel) hm_z
  replace hm_z := rn_iconst (w := 4) (am_cur_of (i := (60, 1, .iconst 4, (0, 0, 0), 0)) (by decide +kernel)) (by decide) hm_z
  replace hm_z := rn_iload_n (am_cur_of (i := (61, 1, .iload_n 1, (0, 0, 0), 0)) (by decide +kernel)) g1_z hm_z
  replace hm_z := rn_imul (w := 0) (am_cur_of (i := (62, 1, .imul, (0, 0, 0), 0)) (by decide +kernel)) (by decide) hm_z
  replace hm_z := rn_iload_n (am_cur_of (i := (63, 1, .iload_n 2, (0, 0, 0), 0)) (by decide +kernel)) g2_z hm_z
  replace hm_z := rn_iadd (w := 2) (am_cur_of (i := (64, 1, .iadd, (0, 0, 0), 0)) (by decide +kernel)) (by decide) hm_z
  replace hm_z := rn_iconst (w := 0) (am_cur_of (i := (65, 1, .iconst 0, (0, 0, 0), 0)) (by decide +kernel)) (by decide) hm_z
  replace hm_z := rn_iastore (N := 16) (q := 2) (am_cur_of (i := (66, 1, .iastore, (0, 0, 0), 0)) (by decide +kernel)) (by decide +kernel) rfl hm_z
  obtain ⟨p20_z, hm_z⟩ := hm_z
  replace hm_z := rn_aload_n (am_cur_of (i := (67, 1, .aload_n 0, (0, 0, 0), 0)) (by decide +kernel)) g0_z hm_z
  replace hm_z := rn_getR (x := 193) (am_cur_of (i := (68, 3, .getfield 100, (12, 55, 1439), 0)) (by decide +kernel)) (by decide +kernel) hm_z
  replace hm_z := rn_iconst (w := 4) (am_cur_of (i := (71, 1, .iconst 4, (0, 0, 0), 0)) (by decide +kernel)) (by decide) hm_z
  replace hm_z := rn_iload_n (am_cur_of (i := (72, 1, .iload_n 1, (0, 0, 0), 0)) (by decide +kernel)) g1_z hm_z
  replace hm_z := rn_imul (w := 0) (am_cur_of (i := (73, 1, .imul, (0, 0, 0), 0)) (by decide +kernel)) (by decide) hm_z
  replace hm_z := rn_iload_n (am_cur_of (i := (74, 1, .iload_n 2, (0, 0, 0), 0)) (by decide +kernel)) g2_z hm_z
  replace hm_z := rn_iadd (w := 2) (am_cur_of (i := (75, 1, .iadd, (0, 0, 0), 0)) (by decide +kernel)) (by decide) hm_z
  replace hm_z := rn_iconst (w := 0) (am_cur_of (i := (76, 1, .iconst 0, (0, 0, 0), 0)) (by decide +kernel)) (by decide) hm_z
  replace hm_z := rn_iastore (N := 16) (q := 2) (am_cur_of (i := (77, 1, .iastore, (0, 0, 0), 0)) (by decide +kernel)) (by decide +kernel) rfl hm_z
  obtain ⟨p21_z, hm_z⟩ := hm_z
  replace hm_z := rn_iinc (w := 3) (am_cur_of (i := (78, 3, .iinc 2 1, (0, 0, 0), 0)) (by decide +kernel)) g2_z (by decide) hm_z
  obtain ⟨_, s22_z, s23_z, g2_z, hm_z⟩ := hm_z
  replace g0_z := s22_z 0 _ (by decide) rfl g0_z
  replace g1_z := s22_z 1 _ (by decide) rfl g1_z
  clear s22_z s23_z
  replace hm_z := rn_goto (am_cur_of (i := (81, 3, .goto (-41), (28, 0, 0), 0)) (by decide +kernel)) hm_z
  replace hm_z := rn_iload_n (am_cur_of (i := (40, 1, .iload_n 2, (0, 0, 0), 0)) (by decide +kernel)) g2_z hm_z
  replace hm_z := rn_iconst (w := 4) (am_cur_of (i := (41, 1, .iconst 4, (0, 0, 0), 0)) (by decide +kernel)) (by decide) hm_z
  replace hm_z := rn_cmpF (am_cur_of (i := (42, 3, .if_icmp .ge 42, (60, 0, 0), 0)) (by decide +kernel)) (by decide) hm_z
  replace hm_z := rn_aload_n (am_cur_of (i := (45, 1, .aload_n 0, (0, 0, 0), 0)) (by decide +kernel)) g0_z hm_z
  replace hm_z := rn_getR (x := 191) (am_cur_of (i := (46, 3, .getfield 94, (12, 53, 1437), 0)) (by decide +kernel)) (by decide +kernel) hm_z
  replace hm_z := rn_iconst (w := 4) (am_cur_of (i := (49, 1, .iconst 4, (0, 0, 0), 0)) (by decide +kernel)) (by decide) hm_z
  replace hm_z := rn_iload_n (am_cur_of (i := (50, 1, .iload_n 1, (0, 0, 0), 0)) (by decide +kernel)) g1_z hm_z
  replace hm_z := rn_imul (w := 0) (am_cur_of (i := (51, 1, .imul, (0, 0, 0), 0)) (by decide +kernel)) (by decide) hm_z
  replace hm_z := rn_iload_n (am_cur_of (i := (52, 1, .iload_n 2, (0, 0, 0), 0)) (by decide +kernel)) g2_z hm_z
  replace hm_z := rn_iadd (w := 3) (am_cur_of (i := (53, 1, .iadd, (0, 0, 0), 0)) (by decide +kernel)) (by decide) hm_z
  replace hm_z := rn_iconst (w := 0) (am_cur_of (i := (54, 1, .iconst 0, (0, 0, 0), 0)) (by decide +kernel)) (by decide) hm_z
  replace hm_z := rn_iastore (N := 16) (q := 3) (am_cur_of (i := (55, 1, .iastore, (0, 0, 0), 0)) (by decide +kernel)) (by decide +kernel) rfl hm_z
  obtain ⟨p24_z, hm_z⟩ := hm_z
  replace hm_z := rn_aload_n (am_cur_of (i := (56, 1, .aload_n 0, (0, 0, 0), 0)) (by decide +kernel)) g0_z hm_z
  replace hm_z := rn_getR (x := 192) (am_cur_of (i := (57, 3, .getfield 97, (12, 54, 1438), 0)) (by decide +kernel)) (by decide +kernel) hm_z
  replace hm_z := rn_iconst (w := 4) (am_cur_of (i := (60, 1, .iconst 4, (0, 0, 0), 0)) (by decide +kernel)) (by decide) hm_z
  replace hm_z := rn_iload_n (am_cur_of (i := (61, 1, .iload_n 1, (0, 0, 0), 0)) (by decide +kernel)) g1_z hm_z
  replace hm_z := rn_imul (w := 0) (am_cur_of (i := (62, 1, .imul, (0, 0, 0), 0)) (by decide +kernel)) (by decide) hm_z
  replace hm_z := rn_iload_n (am_cur_of (i := (63, 1, .iload_n 2, (0, 0, 0), 0)) (by decide +kernel)) g2_z hm_z
  replace hm_z := rn_iadd (w := 3) (am_cur_of (i := (64, 1, .iadd, (0, 0, 0), 0)) (by decide +kernel)) (by decide) hm_z
  replace hm_z := rn_iconst (w := 0) (am_cur_of (i := (65, 1, .iconst 0, (0, 0, 0), 0)) (by decide +kernel)) (by decide) hm_z
  replace hm_z := rn_iastore (N := 16) (q := 3) (am_cur_of (i := (66, 1, .iastore, (0, 0, 0), 0)) (by decide +kernel)) (by decide +kernel) rfl hm_z
  obtain ⟨p25_z, hm_z⟩ := hm_z
  replace hm_z := rn_aload_n (am_cur_of (i := (67, 1, .aload_n 0, (0, 0, 0), 0)) (by decide +kernel)) g0_z hm_z
  replace hm_z := rn_getR (x := 193) (am_cur_of (i := (68, 3, .getfield 100, (12, 55, 1439), 0)) (by decide +kernel)) (by decide +kernel) hm_z
  replace hm_z := rn_iconst (w := 4) (am_cur_of (i := (71, 1, .iconst 4, (0, 0, 0), 0)) (by decide +kernel)) (by decide) hm_z
  replace hm_z := rn_iload_n (am_cur_of (i := (72, 1, .iload_n 1, (0, 0, 0), 0)) (by decide +kernel)) g1_z hm_z
  replace hm_z := rn_imul (w := 0) (am_cur_of (i := (73, 1, .imul, (0, 0, 0), 0)) (by decide +kernel)) (by decide) hm_z
  replace hm_z := rn_iload_n (am_cur_of (i := (74, 1, .iload_n 2, (0, 0, 0), 0)) (by decide +kernel)) g2_z hm_z
  replace hm_z := rn_iadd (w := 3) (am_cur_of (i := (75, 1, .iadd, (0, 0, 0), 0)) (by decide +kernel)) (by decide) hm_z
  replace hm_z := rn_iconst (w := 0) (am_cur_of (i := (76, 1, .iconst 0, (0, 0, 0), 0)) (by decide +kernel)) (by decide) hm_z
  replace hm_z := rn_iastore (N := 16) (q := 3) (am_cur_of (i := (77, 1, .iastore, (0, 0, 0), 0)) (by decide +kernel)) (by decide +kernel) rfl hm_z
  obtain ⟨p26_z, hm_z⟩ := hm_z
  replace hm_z := rn_iinc (w := 4) (am_cur_of (i := (78, 3, .iinc 2 1, (0, 0, 0), 0)) (by decide +kernel)) g2_z (by decide) hm_z
  obtain ⟨_, s27_z, s28_z, g2_z, hm_z⟩ := hm_z
  replace g0_z := s27_z 0 _ (by decide) rfl g0_z
  replace g1_z := s27_z 1 _ (by decide) rfl g1_z
  clear s27_z s28_z
  replace hm_z := rn_goto (am_cur_of (i := (81, 3, .goto (-41), (28, 0, 0), 0)) (by decide +kernel)) hm_z
  replace hm_z := rn_iload_n (am_cur_of (i := (40, 1, .iload_n 2, (0, 0, 0), 0)) (by decide +kernel)) g2_z hm_z
  replace hm_z := rn_iconst (w := 4) (am_cur_of (i := (41, 1, .iconst 4, (0, 0, 0), 0)) (by decide +kernel)) (by decide) hm_z
  replace hm_z := rn_cmpT (am_cur_of (i := (42, 3, .if_icmp .ge 42, (60, 0, 0), 0)) (by decide +kernel)) (by decide) hm_z
  replace hm_z := rn_vret (am_cur_of (i := (84, 1, .return_, (0, 0, 0), 0)) (by decide +kernel)) hm_z
  obtain ⟨e29_z, e30_z⟩ := hm_z
  rw [e30_z]
  exact (zL_u rfl (zL_u rfl (zL_u rfl (zL_u rfl (zL_u rfl (zL_u rfl (zL_u rfl (zL_u rfl (zL_u rfl (zL_u rfl (zL_u rfl (zL_u rfl (zL_u rfl (zL_u rfl (zL_u rfl (zL_u rfl zL_r))))))))))))))))
theorem zl_148 {n : Nat} {r : Option Value} {g g' : am_H} {s : Int32} (hm_z : rn n am_m148 0 (lv_args 0 [.ref 164, .int s]) [] g r g') : zL g g' := by
  have g0_z : am_get (lv_args 0 [.ref 164, .int s]) 0 = some (.ref 164) := rfl
  have g1_z : am_get (lv_args 0 [.ref 164, .int s]) 1 = some (.int s) := rfl
  replace hm_z := rn_aload_n (am_cur_of (i := (0, 1, .aload_n 0, (0, 0, 0), 0)) (by decide +kernel)) g0_z hm_z
  replace hm_z := rn_aload_n (am_cur_of (i := (1, 1, .aload_n 0, (0, 0, 0), 0)) (by decide +kernel)) g0_z hm_z
  replace hm_z := rn_getL (v := rg_l g 164 59) (am_cur_of (i := (2, 3, .getfield 358, (12, 59, 1443), 0)) (by decide +kernel)) (by decide +kernel) rfl hm_z
  replace hm_z := rn_ldc2 (w := 1103515245) (am_cur_of (i := (5, 3, .ldc2_w 377, (0, 0, 1380), 1103515245)) (by decide +kernel)) (by decide) hm_z
  replace hm_z := rn_lmul (w := (rg_l g 164 59) * 1103515245) (am_cur_of (i := (8, 1, .lmul, (0, 0, 0), 0)) (by decide +kernel)) rfl hm_z
  replace hm_z := rn_ldc2 (w := 12345) (am_cur_of (i := (9, 3, .ldc2_w 379, (0, 0, 1381), 12345)) (by decide +kernel)) (by decide) hm_z
  replace hm_z := rn_ladd (w := ((rg_l g 164 59) * 1103515245) + 12345) (am_cur_of (i := (12, 1, .ladd, (0, 0, 0), 0)) (by decide +kernel)) rfl hm_z
  replace hm_z := rn_ldc2 (w := 2147483647) (am_cur_of (i := (13, 3, .ldc2_w 381, (0, 0, 1382), 2147483647)) (by decide +kernel)) (by decide) hm_z
  replace hm_z := rn_land (w := (((rg_l g 164 59) * 1103515245) + 12345) &&& 2147483647) (am_cur_of (i := (16, 1, .land, (0, 0, 0), 0)) (by decide +kernel)) rfl hm_z
  replace hm_z := rn_put (am_cur_of (i := (17, 3, .putfield 358, (12, 59, 1443), 0)) (by decide +kernel)) (by decide +kernel) hm_z
  replace hm_z := rn_aload_n (am_cur_of (i := (20, 1, .aload_n 0, (0, 0, 0), 0)) (by decide +kernel)) g0_z hm_z
  replace hm_z := rn_getL (v := (((rg_l g 164 59) * 1103515245) + 12345) &&& 2147483647) (am_cur_of (i := (21, 3, .getfield 358, (12, 59, 1443), 0)) (by decide +kernel)) (by decide +kernel) rg_l_self hm_z
  replace hm_z := rn_ldc2 (w := 65536) (am_cur_of (i := (24, 3, .ldc2_w 383, (0, 0, 1383), 65536)) (by decide +kernel)) (by decide) hm_z
  replace hm_z := rn_ldiv (w := ((((rg_l g 164 59) * 1103515245) + 12345) &&& 2147483647) / 65536) (am_cur_of (i := (27, 1, .ldiv, (0, 0, 0), 0)) (by decide +kernel)) rfl hm_z
  obtain ⟨d31_z, hm_z⟩ := hm_z
  replace hm_z := rn_iload_n (am_cur_of (i := (28, 1, .iload_n 1, (0, 0, 0), 0)) (by decide +kernel)) g1_z hm_z
  replace hm_z := rn_i2l (w := s.toInt64) (am_cur_of (i := (29, 1, .i2l, (0, 0, 0), 0)) (by decide +kernel)) rfl hm_z
  replace hm_z := rn_lrem (w := (((((rg_l g 164 59) * 1103515245) + 12345) &&& 2147483647) / 65536) - (((((rg_l g 164 59) * 1103515245) + 12345) &&& 2147483647) / 65536) / s.toInt64 * s.toInt64) (am_cur_of (i := (30, 1, .lrem, (0, 0, 0), 0)) (by decide +kernel)) rfl hm_z
  obtain ⟨d32_z, hm_z⟩ := hm_z
  replace hm_z := rn_l2i (w := ((((((rg_l g 164 59) * 1103515245) + 12345) &&& 2147483647) / 65536) - (((((rg_l g 164 59) * 1103515245) + 12345) &&& 2147483647) / 65536) / s.toInt64 * s.toInt64).toInt32) (am_cur_of (i := (31, 1, .l2i, (0, 0, 0), 0)) (by decide +kernel)) rfl hm_z
  replace hm_z := rn_iret (am_cur_of (i := (32, 1, .ireturn, (0, 0, 0), 0)) (by decide +kernel)) hm_z
  obtain ⟨e33_z, e34_z⟩ := hm_z
  rw [e34_z]
  exact (zL_u rfl zL_r)
theorem zl_e {n : Nat} {ls : am_L} {r : Option Value} {g g' : am_H} (g0_z : am_get ls 0 = some (.ref 164)) (hm_z : rn n am_m146 74 ls [] g r g') : zL g g' := by
  replace hm_z := rn_aload_n (am_cur_of (i := (124, 1, .aload_n 0, (0, 0, 0), 0)) (by decide +kernel)) g0_z hm_z
  replace hm_z := rn_iconst (w := 0) (am_cur_of (i := (125, 1, .iconst 0, (0, 0, 0), 0)) (by decide +kernel)) (by decide) hm_z
  replace hm_z := rn_put (am_cur_of (i := (126, 3, .putfield 368, (12, 73, 1457), 0)) (by decide +kernel)) (by decide +kernel) hm_z
  replace hm_z := rn_aload_n (am_cur_of (i := (129, 1, .aload_n 0, (0, 0, 0), 0)) (by decide +kernel)) g0_z hm_z
  replace hm_z := rn_iconst (w := (-1)) (am_cur_of (i := (130, 1, .iconst (-1), (0, 0, 0), 0)) (by decide +kernel)) (by decide) hm_z
  replace hm_z := rn_put (am_cur_of (i := (131, 3, .putfield 118, (12, 74, 1458), 0)) (by decide +kernel)) (by decide +kernel) hm_z
  replace hm_z := rn_aload_n (am_cur_of (i := (134, 1, .aload_n 0, (0, 0, 0), 0)) (by decide +kernel)) g0_z hm_z
  replace hm_z := rn_iconst (w := 0) (am_cur_of (i := (135, 1, .iconst 0, (0, 0, 0), 0)) (by decide +kernel)) (by decide) hm_z
  replace hm_z := rn_put (am_cur_of (i := (136, 3, .putfield 371, (12, 77, 1461), 0)) (by decide +kernel)) (by decide +kernel) hm_z
  replace hm_z := rn_aload_n (am_cur_of (i := (139, 1, .aload_n 0, (0, 0, 0), 0)) (by decide +kernel)) g0_z hm_z
  replace hm_z := rn_iconst (w := 0) (am_cur_of (i := (140, 1, .iconst 0, (0, 0, 0), 0)) (by decide +kernel)) (by decide) hm_z
  replace hm_z := rn_put (am_cur_of (i := (141, 3, .putfield 374, (12, 79, 1463), 0)) (by decide +kernel)) (by decide +kernel) hm_z
  replace hm_z := rn_vret (am_cur_of (i := (144, 1, .return_, (0, 0, 0), 0)) (by decide +kernel)) hm_z
  obtain ⟨e35_z, e36_z⟩ := hm_z
  rw [e36_z]
  exact (zL_u rfl (zL_u rfl (zL_u rfl (zL_u rfl zL_r))))
theorem zl_w {r : Option Value} {g' : am_H} : ∀ (f : Nat) (x : Int32) (ls : am_L) (g : am_H), am_get ls 0 = some (.ref 164) → am_get ls 2 = some (.int x) → rn f am_m146 52 ls [] g r g' → zL g g' := by
  intro f
  induction f with
  | zero => intro x ls g g0_z g2_z hm_z; exact absurd hm_z rn_0
  | succ f ih_z =>
    intro x ls g g0_z g2_z hm_z
    replace hm_z := rn_iload_n (am_cur_of (i := (86, 1, .iload_n 2, (0, 0, 0), 0)) (by decide +kernel)) g2_z hm_z
    replace hm_z := rn_aload_n (am_cur_of (i := (87, 1, .aload_n 0, (0, 0, 0), 0)) (by decide +kernel)) g0_z hm_z
    replace hm_z := rn_getR (x := 173) (am_cur_of (i := (88, 3, .getfield 39, (12, 28, 1412), 0)) (by decide +kernel)) (by decide +kernel) hm_z
    replace hm_z := rn_aload_n (am_cur_of (i := (91, 1, .aload_n 0, (0, 0, 0), 0)) (by decide +kernel)) g0_z hm_z
    replace hm_z := rn_getI (v := rg_v g 164 58) (am_cur_of (i := (92, 3, .getfield 362, (12, 58, 1442), 0)) (by decide +kernel)) (by decide +kernel) rfl hm_z
    replace hm_z := rn_iaload (N := 12) (q := (rg_v g 164 58).toNatClampNeg) (v := rg_v g 173 ((rg_v g 164 58).toNatClampNeg)) (am_cur_of (i := (95, 1, .iaload, (0, 0, 0), 0)) (by decide +kernel)) (by decide +kernel) rfl rfl hm_z
    obtain ⟨p37_z, hm_z⟩ := hm_z
    replace hm_z := rn_cmp (am_cur_of (i := (96, 3, .if_icmp .lt 28, (74, 0, 0), 0)) (by decide +kernel)) hm_z
    rcases hm_z with ⟨b38_z, hm_z⟩ | ⟨b38_z, hm_z⟩
    · replace b38_z : x.toInt < (rg_v g 173 ((rg_v g 164 58).toNatClampNeg)).toInt := b38_z
      exact zl_e g0_z hm_z
    · replace b38_z : (rg_v g 173 ((rg_v g 164 58).toNatClampNeg)).toInt ≤ x.toInt := b38_z
      replace hm_z := rn_iload_n (am_cur_of (i := (99, 1, .iload_n 2, (0, 0, 0), 0)) (by decide +kernel)) g2_z hm_z
      replace hm_z := rn_aload_n (am_cur_of (i := (100, 1, .aload_n 0, (0, 0, 0), 0)) (by decide +kernel)) g0_z hm_z
      replace hm_z := rn_getR (x := 173) (am_cur_of (i := (101, 3, .getfield 39, (12, 28, 1412), 0)) (by decide +kernel)) (by decide +kernel) hm_z
      replace hm_z := rn_aload_n (am_cur_of (i := (104, 1, .aload_n 0, (0, 0, 0), 0)) (by decide +kernel)) g0_z hm_z
      replace hm_z := rn_getI (v := rg_v g 164 58) (am_cur_of (i := (105, 3, .getfield 362, (12, 58, 1442), 0)) (by decide +kernel)) (by decide +kernel) rfl hm_z
      replace hm_z := rn_iaload (N := 12) (q := (rg_v g 164 58).toNatClampNeg) (v := rg_v g 173 ((rg_v g 164 58).toNatClampNeg)) (am_cur_of (i := (108, 1, .iaload, (0, 0, 0), 0)) (by decide +kernel)) (by decide +kernel) rfl rfl hm_z
      obtain ⟨p39_z, hm_z⟩ := hm_z
      replace hm_z := rn_isub (w := x - (rg_v g 173 ((rg_v g 164 58).toNatClampNeg))) (am_cur_of (i := (109, 1, .isub, (0, 0, 0), 0)) (by decide +kernel)) rfl hm_z
      replace hm_z := rn_istore_n (am_cur_of (i := (110, 1, .istore_n 2, (0, 0, 0), 0)) (by decide +kernel)) hm_z
      obtain ⟨_, s40_z, s41_z, g2_z, hm_z⟩ := hm_z
      replace g0_z := s40_z 0 _ (by decide) rfl g0_z
      clear s40_z s41_z
      replace hm_z := rn_aload_n (am_cur_of (i := (111, 1, .aload_n 0, (0, 0, 0), 0)) (by decide +kernel)) g0_z hm_z
      replace hm_z := rn_dup (am_cur_of (i := (112, 1, .dup, (0, 0, 0), 0)) (by decide +kernel)) hm_z
      replace hm_z := rn_getI (v := rg_v g 164 58) (am_cur_of (i := (113, 3, .getfield 362, (12, 58, 1442), 0)) (by decide +kernel)) (by decide +kernel) rfl hm_z
      replace hm_z := rn_iconst (w := 1) (am_cur_of (i := (116, 1, .iconst 1, (0, 0, 0), 0)) (by decide +kernel)) (by decide) hm_z
      replace hm_z := rn_iadd (w := (rg_v g 164 58) + 1) (am_cur_of (i := (117, 1, .iadd, (0, 0, 0), 0)) (by decide +kernel)) rfl hm_z
      replace hm_z := rn_put (am_cur_of (i := (118, 3, .putfield 362, (12, 58, 1442), 0)) (by decide +kernel)) (by decide +kernel) hm_z
      replace hm_z := rn_gotoL (am_cur_of (i := (121, 3, .goto (-35), (52, 0, 0), 0)) (by decide +kernel)) hm_z
      exact zL_t (zL_u rfl zL_r) (ih_z _ _ _ g0_z g2_z hm_z)
theorem zl_s {r : Option Value} {g' : am_H} : ∀ (f : Nat) (s i : Int32) (ls : am_L) (g : am_H), am_get ls 0 = some (.ref 164) → am_get ls 1 = some (.int s) → am_get ls 2 = some (.int i) → rn f am_m146 32 ls [] g r g' → zL g g' := by
  intro f
  induction f with
  | zero => intro s i ls g g0_z g1_z g2_z hm_z; exact absurd hm_z rn_0
  | succ f ih_z =>
    intro s i ls g g0_z g1_z g2_z hm_z
    replace hm_z := rn_iload_n (am_cur_of (i := (52, 1, .iload_n 2, (0, 0, 0), 0)) (by decide +kernel)) g2_z hm_z
    replace hm_z := rn_aload_n (am_cur_of (i := (53, 1, .aload_n 0, (0, 0, 0), 0)) (by decide +kernel)) g0_z hm_z
    replace hm_z := rn_getI (v := rg_v g 164 14) (am_cur_of (i := (54, 3, .getfield 225, (12, 14, 1398), 0)) (by decide +kernel)) (by decide +kernel) rfl hm_z
    replace hm_z := rn_cmp (am_cur_of (i := (57, 3, .if_icmp .ge 18, (45, 0, 0), 0)) (by decide +kernel)) hm_z
    rcases hm_z with ⟨b42_z, hm_z⟩ | ⟨b42_z, hm_z⟩
    · replace b42_z : (rg_v g 164 14).toInt ≤ i.toInt := b42_z
      replace hm_z := rn_aload_n (am_cur_of (i := (75, 1, .aload_n 0, (0, 0, 0), 0)) (by decide +kernel)) g0_z hm_z
      replace hm_z := rn_iload_n (am_cur_of (i := (76, 1, .iload_n 1, (0, 0, 0), 0)) (by decide +kernel)) g1_z hm_z
      replace hm_z := rn_callV (M' := am_m148) (o := 164) (ar := [.int s]) (rest := []) (L := lv_args 0 [.ref 164, .int s]) (am_cur_of (i := (77, 3, .invokevirtual 365, (148, 1376, 3), 0)) (by decide +kernel)) rfl rfl rfl rfl hm_z
      obtain ⟨r43_z, h44_z, q45_z, hm_z⟩ := hm_z
      obtain ⟨vn, rfl⟩ := rn_ret (M := am_m148) rfl (by decide) q45_z
      have zn := zl_148 q45_z
      replace hm_z : rn _ _ _ _ [.int vn] _ _ _ := hm_z
      replace hm_z := rn_istore_n (am_cur_of (i := (80, 1, .istore_n 2, (0, 0, 0), 0)) (by decide +kernel)) hm_z
      obtain ⟨_, s46_z, s47_z, g2_z, hm_z⟩ := hm_z
      replace g0_z := s46_z 0 _ (by decide) rfl g0_z
      replace g1_z := s46_z 1 _ (by decide) rfl g1_z
      clear s46_z s47_z
      replace hm_z := rn_aload_n (am_cur_of (i := (81, 1, .aload_n 0, (0, 0, 0), 0)) (by decide +kernel)) g0_z hm_z
      replace hm_z := rn_iconst (w := 0) (am_cur_of (i := (82, 1, .iconst 0, (0, 0, 0), 0)) (by decide +kernel)) (by decide) hm_z
      replace hm_z := rn_put (am_cur_of (i := (83, 3, .putfield 362, (12, 58, 1442), 0)) (by decide +kernel)) (by decide +kernel) hm_z
      exact zL_t zn (zL_t (zL_u rfl zL_r) (zl_w _ _ _ _ g0_z g2_z hm_z))
    · replace b42_z : i.toInt < (rg_v g 164 14).toInt := b42_z
      replace hm_z := rn_iload_n (am_cur_of (i := (60, 1, .iload_n 1, (0, 0, 0), 0)) (by decide +kernel)) g1_z hm_z
      replace hm_z := rn_aload_n (am_cur_of (i := (61, 1, .aload_n 0, (0, 0, 0), 0)) (by decide +kernel)) g0_z hm_z
      replace hm_z := rn_getR (x := 173) (am_cur_of (i := (62, 3, .getfield 39, (12, 28, 1412), 0)) (by decide +kernel)) (by decide +kernel) hm_z
      replace hm_z := rn_iload_n (am_cur_of (i := (65, 1, .iload_n 2, (0, 0, 0), 0)) (by decide +kernel)) g2_z hm_z
      replace hm_z := rn_iaload (N := 12) (q := i.toNatClampNeg) (v := rg_v g 173 i.toNatClampNeg) (am_cur_of (i := (66, 1, .iaload, (0, 0, 0), 0)) (by decide +kernel)) (by decide +kernel) rfl rfl hm_z
      obtain ⟨p48_z, hm_z⟩ := hm_z
      replace hm_z := rn_iadd (w := s + (rg_v g 173 i.toNatClampNeg)) (am_cur_of (i := (67, 1, .iadd, (0, 0, 0), 0)) (by decide +kernel)) rfl hm_z
      replace hm_z := rn_istore_n (am_cur_of (i := (68, 1, .istore_n 1, (0, 0, 0), 0)) (by decide +kernel)) hm_z
      obtain ⟨_, s49_z, s50_z, g1_z, hm_z⟩ := hm_z
      replace g0_z := s49_z 0 _ (by decide) rfl g0_z
      replace g2_z := s49_z 2 _ (by decide) rfl g2_z
      clear s49_z s50_z
      replace hm_z := rn_iinc (w := i + 1) (am_cur_of (i := (69, 3, .iinc 2 1, (0, 0, 0), 0)) (by decide +kernel)) g2_z rfl hm_z
      obtain ⟨_, s51_z, s52_z, g2_z, hm_z⟩ := hm_z
      replace g0_z := s51_z 0 _ (by decide) rfl g0_z
      replace g1_z := s51_z 1 _ (by decide) rfl g1_z
      clear s51_z s52_z
      replace hm_z := rn_gotoL (am_cur_of (i := (72, 3, .goto (-20), (32, 0, 0), 0)) (by decide +kernel)) hm_z
      exact ih_z _ _ _ _ g0_z g1_z g2_z hm_z
theorem zl_begin {n : Nat} {r : Option Value} {g g' : am_H} (hm_z : rn n am_m146 0 (lv_args 0 [.ref 164]) [] g r g') : zL g g' := by
  have z0_z : (0 : Int32).toInt = 0 := by decide
  have g0_z : am_get (lv_args 0 [.ref 164]) 0 = some (.ref 164) := rfl
  replace hm_z := rn_aload_n (am_cur_of (i := (0, 1, .aload_n 0, (0, 0, 0), 0)) (by decide +kernel)) g0_z hm_z
  replace hm_z := rn_iconst (w := 0) (am_cur_of (i := (1, 1, .iconst 0, (0, 0, 0), 0)) (by decide +kernel)) (by decide) hm_z
  replace hm_z := rn_callV (M' := am_m147) (o := 164) (ar := [.int 0]) (rest := []) (L := lv_args 0 [.ref 164, .int 0]) (am_cur_of (i := (2, 3, .invokevirtual 346, (147, 1372, 3), 0)) (by decide +kernel)) rfl rfl rfl rfl hm_z
  obtain ⟨r53_z, h54_z, q55_z, hm_z⟩ := hm_z
  have vo := rn_void rfl q55_z
  subst vo
  have za := zl_147 q55_z
  replace hm_z : rn _ _ _ _ [] _ _ _ := hm_z
  replace hm_z := rn_aload_n (am_cur_of (i := (5, 1, .aload_n 0, (0, 0, 0), 0)) (by decide +kernel)) g0_z hm_z
  replace hm_z := rn_iconst (w := 0) (am_cur_of (i := (6, 1, .iconst 0, (0, 0, 0), 0)) (by decide +kernel)) (by decide) hm_z
  replace hm_z := rn_put (am_cur_of (i := (7, 3, .putfield 349, (12, 57, 1441), 0)) (by decide +kernel)) (by decide +kernel) hm_z
  replace hm_z := rn_aload_n (am_cur_of (i := (10, 1, .aload_n 0, (0, 0, 0), 0)) (by decide +kernel)) g0_z hm_z
  replace hm_z := rn_iconst (w := 0) (am_cur_of (i := (11, 1, .iconst 0, (0, 0, 0), 0)) (by decide +kernel)) (by decide) hm_z
  replace hm_z := rn_put (am_cur_of (i := (12, 3, .putfield 352, (12, 60, 1444), 0)) (by decide +kernel)) (by decide +kernel) hm_z
  replace hm_z := rn_aload_n (am_cur_of (i := (15, 1, .aload_n 0, (0, 0, 0), 0)) (by decide +kernel)) g0_z hm_z
  replace hm_z := rn_iconst (w := 0) (am_cur_of (i := (16, 1, .iconst 0, (0, 0, 0), 0)) (by decide +kernel)) (by decide) hm_z
  replace hm_z := rn_put (am_cur_of (i := (17, 3, .putfield 355, (12, 61, 1445), 0)) (by decide +kernel)) (by decide +kernel) hm_z
  replace hm_z := rn_aload_n (am_cur_of (i := (20, 1, .aload_n 0, (0, 0, 0), 0)) (by decide +kernel)) g0_z hm_z
  replace hm_z := rn_iconst (w := (-1)) (am_cur_of (i := (21, 1, .iconst (-1), (0, 0, 0), 0)) (by decide +kernel)) (by decide) hm_z
  replace hm_z := rn_put (am_cur_of (i := (22, 3, .putfield 106, (12, 62, 1446), 0)) (by decide +kernel)) (by decide +kernel) hm_z
  replace hm_z := rn_aload_n (am_cur_of (i := (25, 1, .aload_n 0, (0, 0, 0), 0)) (by decide +kernel)) g0_z hm_z
  replace hm_z := rn_aload_n (am_cur_of (i := (26, 1, .aload_n 0, (0, 0, 0), 0)) (by decide +kernel)) g0_z hm_z
  replace hm_z := rn_getR (x := 168) (am_cur_of (i := (27, 3, .getfield 24, (12, 23, 1407), 0)) (by decide +kernel)) (by decide +kernel) hm_z
  replace hm_z := rn_iconst (w := 5) (am_cur_of (i := (30, 1, .iconst 5, (0, 0, 0), 0)) (by decide +kernel)) (by decide) hm_z
  replace hm_z := rn_iaload (N := 12) (q := 5) (v := rg_v h54_z 168 5) (am_cur_of (i := (31, 1, .iaload, (0, 0, 0), 0)) (by decide +kernel)) (by decide +kernel) rfl ((rg_v_other (by omega)).trans ((rg_v_other (by omega)).trans ((rg_v_other (by omega)).trans ((rg_v_other (by omega)).trans (rfl))))) hm_z
  obtain ⟨p56_z, hm_z⟩ := hm_z
  replace hm_z := rn_i2l (w := (rg_v h54_z 168 5).toInt64) (am_cur_of (i := (32, 1, .i2l, (0, 0, 0), 0)) (by decide +kernel)) rfl hm_z
  replace hm_z := rn_put (am_cur_of (i := (33, 3, .putfield 358, (12, 59, 1443), 0)) (by decide +kernel)) (by decide +kernel) hm_z
  replace hm_z := rn_aload_n (am_cur_of (i := (36, 1, .aload_n 0, (0, 0, 0), 0)) (by decide +kernel)) g0_z hm_z
  replace hm_z := rn_iconst (w := (-1)) (am_cur_of (i := (37, 1, .iconst (-1), (0, 0, 0), 0)) (by decide +kernel)) (by decide) hm_z
  replace hm_z := rn_put (am_cur_of (i := (38, 3, .putfield 362, (12, 58, 1442), 0)) (by decide +kernel)) (by decide +kernel) hm_z
  replace hm_z := rn_aload_n (am_cur_of (i := (41, 1, .aload_n 0, (0, 0, 0), 0)) (by decide +kernel)) g0_z hm_z
  replace hm_z := rn_getI (v := rg_v h54_z 164 14) (am_cur_of (i := (42, 3, .getfield 225, (12, 14, 1398), 0)) (by decide +kernel)) (by decide +kernel) ((rg_v_other (by omega)).trans ((rg_v_other (by omega)).trans ((rg_v_other (by omega)).trans ((rg_v_other (by omega)).trans ((rg_v_other (by omega)).trans ((rg_v_other (by omega)).trans (rfl))))))) hm_z
  replace hm_z := rn_if (am_cur_of (i := (45, 3, .ifCond .le 79, (74, 0, 0), 0)) (by decide +kernel)) hm_z
  rcases hm_z with ⟨b57_z, hm_z⟩ | ⟨b57_z, hm_z⟩
  · replace b57_z : (rg_v h54_z 164 14).toInt ≤ (0 : Int32).toInt := b57_z
    exact zL_t za (zL_t (zL_u rfl (zL_u rfl (zL_u rfl (zL_u rfl (zL_u rfl (zL_u rfl zL_r)))))) (zl_e g0_z hm_z))
  · replace b57_z : (0 : Int32).toInt < (rg_v h54_z 164 14).toInt := b57_z
    replace hm_z := rn_iconst (w := 0) (am_cur_of (i := (48, 1, .iconst 0, (0, 0, 0), 0)) (by decide +kernel)) (by decide) hm_z
    replace hm_z := rn_istore_n (am_cur_of (i := (49, 1, .istore_n 1, (0, 0, 0), 0)) (by decide +kernel)) hm_z
    obtain ⟨_, s58_z, s59_z, g1_z, hm_z⟩ := hm_z
    replace g0_z := s58_z 0 _ (by decide) rfl g0_z
    clear s58_z s59_z
    replace hm_z := rn_iconst (w := 0) (am_cur_of (i := (50, 1, .iconst 0, (0, 0, 0), 0)) (by decide +kernel)) (by decide) hm_z
    replace hm_z := rn_istore_n (am_cur_of (i := (51, 1, .istore_n 2, (0, 0, 0), 0)) (by decide +kernel)) hm_z
    obtain ⟨_, s60_z, s61_z, g2_z, hm_z⟩ := hm_z
    replace g0_z := s60_z 0 _ (by decide) rfl g0_z
    replace g1_z := s60_z 1 _ (by decide) rfl g1_z
    clear s60_z s61_z
    exact zL_t za (zL_t (zL_u rfl (zL_u rfl (zL_u rfl (zL_u rfl (zL_u rfl (zL_u rfl zL_r)))))) (zl_s _ _ _ _ _ g0_z g1_z g2_z hm_z))
theorem kl_144 {n : Nat} {r : Option Value} {g g' : am_H} (hm_z : rn n am_m144 0 (lv_args 0 [.ref 164]) [] g r g') : (∀ k, k < 3 → rg_v g' 178 k = rg_v g 178 (3 + k)) ∧ (∀ k, k < 3 → rg_v g' 179 k = rg_v g 179 (3 + k)) ∧ (∀ k, k < 3 → rg_v g' 180 k = rg_v g 180 (3 + k)) ∧ (∀ k, k < 64 → rg_v g' 181 k = rg_v g 181 (64 + k)) ∧ (∀ k, k < 64 → rg_v g' 182 k = rg_v g 182 (64 + k)) ∧ (∀ k, k < 64 → rg_v g' 183 k = rg_v g 183 (64 + k)) := by
  have g0_z : am_get (lv_args 0 [.ref 164]) 0 = some (.ref 164) := rfl
  replace hm_z := rn_aload_n (am_cur_of (i := (0, 1, .aload_n 0, (0, 0, 0), 0)) (by decide +kernel)) g0_z hm_z
  replace hm_z := rn_aload_n (am_cur_of (i := (1, 1, .aload_n 0, (0, 0, 0), 0)) (by decide +kernel)) g0_z hm_z
  replace hm_z := rn_getI (v := rg_v g 164 17) (am_cur_of (i := (2, 3, .getfield 201, (12, 17, 1401), 0)) (by decide +kernel)) (by decide +kernel) rfl hm_z
  replace hm_z := rn_put (am_cur_of (i := (5, 3, .putfield 219, (12, 12, 1396), 0)) (by decide +kernel)) (by decide +kernel) hm_z
  replace hm_z := rn_aload_n (am_cur_of (i := (8, 1, .aload_n 0, (0, 0, 0), 0)) (by decide +kernel)) g0_z hm_z
  replace hm_z := rn_aload_n (am_cur_of (i := (9, 1, .aload_n 0, (0, 0, 0), 0)) (by decide +kernel)) g0_z hm_z
  replace hm_z := rn_getI (v := rg_v g 164 18) (am_cur_of (i := (10, 3, .getfield 204, (12, 18, 1402), 0)) (by decide +kernel)) (by decide +kernel) (show rg_v (am_up g 164 12 (.int (rg_v g 164 17))) 164 18 = rg_v g 164 18 from rfl) hm_z
  replace hm_z := rn_put (am_cur_of (i := (13, 3, .putfield 222, (12, 13, 1397), 0)) (by decide +kernel)) (by decide +kernel) hm_z
  replace hm_z := rn_aload_n (am_cur_of (i := (16, 1, .aload_n 0, (0, 0, 0), 0)) (by decide +kernel)) g0_z hm_z
  replace hm_z := rn_aload_n (am_cur_of (i := (17, 1, .aload_n 0, (0, 0, 0), 0)) (by decide +kernel)) g0_z hm_z
  replace hm_z := rn_getI (v := rg_v g 164 19) (am_cur_of (i := (18, 3, .getfield 207, (12, 19, 1403), 0)) (by decide +kernel)) (by decide +kernel) (show rg_v (am_up (am_up g 164 12 (.int (rg_v g 164 17))) 164 13 (.int (rg_v g 164 18))) 164 19 = rg_v g 164 19 from rfl) hm_z
  replace hm_z := rn_put (am_cur_of (i := (21, 3, .putfield 225, (12, 14, 1398), 0)) (by decide +kernel)) (by decide +kernel) hm_z
  replace hm_z := rn_aload_n (am_cur_of (i := (24, 1, .aload_n 0, (0, 0, 0), 0)) (by decide +kernel)) g0_z hm_z
  replace hm_z := rn_aload_n (am_cur_of (i := (25, 1, .aload_n 0, (0, 0, 0), 0)) (by decide +kernel)) g0_z hm_z
  replace hm_z := rn_getI (v := rg_v g 164 20) (am_cur_of (i := (26, 3, .getfield 210, (12, 20, 1404), 0)) (by decide +kernel)) (by decide +kernel) (show rg_v (am_up (am_up (am_up g 164 12 (.int (rg_v g 164 17))) 164 13 (.int (rg_v g 164 18))) 164 14 (.int (rg_v g 164 19))) 164 20 = rg_v g 164 20 from rfl) hm_z
  replace hm_z := rn_put (am_cur_of (i := (29, 3, .putfield 228, (12, 15, 1399), 0)) (by decide +kernel)) (by decide +kernel) hm_z
  replace hm_z := rn_aload_n (am_cur_of (i := (32, 1, .aload_n 0, (0, 0, 0), 0)) (by decide +kernel)) g0_z hm_z
  replace hm_z := rn_aload_n (am_cur_of (i := (33, 1, .aload_n 0, (0, 0, 0), 0)) (by decide +kernel)) g0_z hm_z
  replace hm_z := rn_getI (v := rg_v g 164 21) (am_cur_of (i := (34, 3, .getfield 213, (12, 21, 1405), 0)) (by decide +kernel)) (by decide +kernel) (show rg_v (am_up (am_up (am_up (am_up g 164 12 (.int (rg_v g 164 17))) 164 13 (.int (rg_v g 164 18))) 164 14 (.int (rg_v g 164 19))) 164 15 (.int (rg_v g 164 20))) 164 21 = rg_v g 164 21 from rfl) hm_z
  replace hm_z := rn_put (am_cur_of (i := (37, 3, .putfield 231, (12, 16, 1400), 0)) (by decide +kernel)) (by decide +kernel) hm_z
  replace hm_z := rn_aload_n (am_cur_of (i := (40, 1, .aload_n 0, (0, 0, 0), 0)) (by decide +kernel)) g0_z hm_z
  replace hm_z := rn_getR (x := 168) (am_cur_of (i := (41, 3, .getfield 24, (12, 23, 1407), 0)) (by decide +kernel)) (by decide +kernel) hm_z
  replace hm_z := rn_bipush (w := 6) (am_cur_of (i := (44, 2, .bipush 6, (0, 0, 0), 0)) (by decide +kernel)) (by decide) hm_z
  replace hm_z := rn_callS (M' := am_m145) (ar := [.int 6, .ref 168]) (rest := []) (L := lv_args 0 [.ref 168, .int 6]) (am_cur_of (i := (46, 3, .invokestatic 234, (145, 1365, 3), 0)) (by decide +kernel)) rfl rfl rfl rfl hm_z
  obtain ⟨r62_z, h63_z, q64_z, hm_z⟩ := hm_z
  have vo := rn_void rfl q64_z
  subst vo
  obtain ⟨o1_z, c1_z⟩ := cp_z (N := 12) (by decide +kernel) (by decide) (by decide) q64_z
  replace hm_z : rn _ _ _ _ [] _ _ _ := hm_z
  replace hm_z := rn_aload_n (am_cur_of (i := (49, 1, .aload_n 0, (0, 0, 0), 0)) (by decide +kernel)) g0_z hm_z
  replace hm_z := rn_getR (x := 169) (am_cur_of (i := (50, 3, .getfield 27, (12, 24, 1408), 0)) (by decide +kernel)) (by decide +kernel) hm_z
  replace hm_z := rn_iconst (w := 4) (am_cur_of (i := (53, 1, .iconst 4, (0, 0, 0), 0)) (by decide +kernel)) (by decide) hm_z
  replace hm_z := rn_callS (M' := am_m145) (ar := [.int 4, .ref 169]) (rest := []) (L := lv_args 0 [.ref 169, .int 4]) (am_cur_of (i := (54, 3, .invokestatic 234, (145, 1365, 3), 0)) (by decide +kernel)) rfl rfl rfl rfl hm_z
  obtain ⟨r65_z, h66_z, q67_z, hm_z⟩ := hm_z
  have vo := rn_void rfl q67_z
  subst vo
  obtain ⟨o2_z, c2_z⟩ := cp_z (N := 8) (by decide +kernel) (by decide) (by decide) q67_z
  replace hm_z : rn _ _ _ _ [] _ _ _ := hm_z
  replace hm_z := rn_aload_n (am_cur_of (i := (57, 1, .aload_n 0, (0, 0, 0), 0)) (by decide +kernel)) g0_z hm_z
  replace hm_z := rn_getR (x := 170) (am_cur_of (i := (58, 3, .getfield 30, (12, 25, 1409), 0)) (by decide +kernel)) (by decide +kernel) hm_z
  replace hm_z := rn_bipush (w := 28) (am_cur_of (i := (61, 2, .bipush 28, (0, 0, 0), 0)) (by decide +kernel)) (by decide) hm_z
  replace hm_z := rn_callS (M' := am_m145) (ar := [.int 28, .ref 170]) (rest := []) (L := lv_args 0 [.ref 170, .int 28]) (am_cur_of (i := (63, 3, .invokestatic 234, (145, 1365, 3), 0)) (by decide +kernel)) rfl rfl rfl rfl hm_z
  obtain ⟨r68_z, h69_z, q70_z, hm_z⟩ := hm_z
  have vo := rn_void rfl q70_z
  subst vo
  obtain ⟨o3_z, c3_z⟩ := cp_z (N := 56) (by decide +kernel) (by decide) (by decide) q70_z
  replace hm_z : rn _ _ _ _ [] _ _ _ := hm_z
  replace hm_z := rn_aload_n (am_cur_of (i := (66, 1, .aload_n 0, (0, 0, 0), 0)) (by decide +kernel)) g0_z hm_z
  replace hm_z := rn_getR (x := 171) (am_cur_of (i := (67, 3, .getfield 33, (12, 26, 1410), 0)) (by decide +kernel)) (by decide +kernel) hm_z
  replace hm_z := rn_bipush (w := 8) (am_cur_of (i := (70, 2, .bipush 8, (0, 0, 0), 0)) (by decide +kernel)) (by decide) hm_z
  replace hm_z := rn_callS (M' := am_m145) (ar := [.int 8, .ref 171]) (rest := []) (L := lv_args 0 [.ref 171, .int 8]) (am_cur_of (i := (72, 3, .invokestatic 234, (145, 1365, 3), 0)) (by decide +kernel)) rfl rfl rfl rfl hm_z
  obtain ⟨r71_z, h72_z, q73_z, hm_z⟩ := hm_z
  have vo := rn_void rfl q73_z
  subst vo
  obtain ⟨o4_z, c4_z⟩ := cp_z (N := 16) (by decide +kernel) (by decide) (by decide) q73_z
  replace hm_z : rn _ _ _ _ [] _ _ _ := hm_z
  replace hm_z := rn_aload_n (am_cur_of (i := (75, 1, .aload_n 0, (0, 0, 0), 0)) (by decide +kernel)) g0_z hm_z
  replace hm_z := rn_getR (x := 172) (am_cur_of (i := (76, 3, .getfield 36, (12, 27, 1411), 0)) (by decide +kernel)) (by decide +kernel) hm_z
  replace hm_z := rn_bipush (w := 8) (am_cur_of (i := (79, 2, .bipush 8, (0, 0, 0), 0)) (by decide +kernel)) (by decide) hm_z
  replace hm_z := rn_callS (M' := am_m145) (ar := [.int 8, .ref 172]) (rest := []) (L := lv_args 0 [.ref 172, .int 8]) (am_cur_of (i := (81, 3, .invokestatic 234, (145, 1365, 3), 0)) (by decide +kernel)) rfl rfl rfl rfl hm_z
  obtain ⟨r74_z, h75_z, q76_z, hm_z⟩ := hm_z
  have vo := rn_void rfl q76_z
  subst vo
  obtain ⟨o5_z, c5_z⟩ := cp_z (N := 16) (by decide +kernel) (by decide) (by decide) q76_z
  replace hm_z : rn _ _ _ _ [] _ _ _ := hm_z
  replace hm_z := rn_aload_n (am_cur_of (i := (84, 1, .aload_n 0, (0, 0, 0), 0)) (by decide +kernel)) g0_z hm_z
  replace hm_z := rn_getR (x := 173) (am_cur_of (i := (85, 3, .getfield 39, (12, 28, 1412), 0)) (by decide +kernel)) (by decide +kernel) hm_z
  replace hm_z := rn_bipush (w := 6) (am_cur_of (i := (88, 2, .bipush 6, (0, 0, 0), 0)) (by decide +kernel)) (by decide) hm_z
  replace hm_z := rn_callS (M' := am_m145) (ar := [.int 6, .ref 173]) (rest := []) (L := lv_args 0 [.ref 173, .int 6]) (am_cur_of (i := (90, 3, .invokestatic 234, (145, 1365, 3), 0)) (by decide +kernel)) rfl rfl rfl rfl hm_z
  obtain ⟨r77_z, h78_z, q79_z, hm_z⟩ := hm_z
  have vo := rn_void rfl q79_z
  subst vo
  obtain ⟨o6_z, c6_z⟩ := cp_z (N := 12) (by decide +kernel) (by decide) (by decide) q79_z
  replace hm_z : rn _ _ _ _ [] _ _ _ := hm_z
  replace hm_z := rn_aload_n (am_cur_of (i := (93, 1, .aload_n 0, (0, 0, 0), 0)) (by decide +kernel)) g0_z hm_z
  replace hm_z := rn_getR (x := 174) (am_cur_of (i := (94, 3, .getfield 42, (12, 29, 1413), 0)) (by decide +kernel)) (by decide +kernel) hm_z
  replace hm_z := rn_bipush (w := 6) (am_cur_of (i := (97, 2, .bipush 6, (0, 0, 0), 0)) (by decide +kernel)) (by decide) hm_z
  replace hm_z := rn_callS (M' := am_m145) (ar := [.int 6, .ref 174]) (rest := []) (L := lv_args 0 [.ref 174, .int 6]) (am_cur_of (i := (99, 3, .invokestatic 234, (145, 1365, 3), 0)) (by decide +kernel)) rfl rfl rfl rfl hm_z
  obtain ⟨r80_z, h81_z, q82_z, hm_z⟩ := hm_z
  have vo := rn_void rfl q82_z
  subst vo
  obtain ⟨o7_z, c7_z⟩ := cp_z (N := 12) (by decide +kernel) (by decide) (by decide) q82_z
  replace hm_z : rn _ _ _ _ [] _ _ _ := hm_z
  replace hm_z := rn_aload_n (am_cur_of (i := (102, 1, .aload_n 0, (0, 0, 0), 0)) (by decide +kernel)) g0_z hm_z
  replace hm_z := rn_getR (x := 175) (am_cur_of (i := (103, 3, .getfield 45, (12, 30, 1414), 0)) (by decide +kernel)) (by decide +kernel) hm_z
  replace hm_z := rn_iconst (w := 3) (am_cur_of (i := (106, 1, .iconst 3, (0, 0, 0), 0)) (by decide +kernel)) (by decide) hm_z
  replace hm_z := rn_callS (M' := am_m145) (ar := [.int 3, .ref 175]) (rest := []) (L := lv_args 0 [.ref 175, .int 3]) (am_cur_of (i := (107, 3, .invokestatic 234, (145, 1365, 3), 0)) (by decide +kernel)) rfl rfl rfl rfl hm_z
  obtain ⟨r83_z, h84_z, q85_z, hm_z⟩ := hm_z
  have vo := rn_void rfl q85_z
  subst vo
  obtain ⟨o8_z, c8_z⟩ := cp_z (N := 6) (by decide +kernel) (by decide) (by decide) q85_z
  replace hm_z : rn _ _ _ _ [] _ _ _ := hm_z
  replace hm_z := rn_aload_n (am_cur_of (i := (110, 1, .aload_n 0, (0, 0, 0), 0)) (by decide +kernel)) g0_z hm_z
  replace hm_z := rn_getR (x := 176) (am_cur_of (i := (111, 3, .getfield 48, (12, 31, 1415), 0)) (by decide +kernel)) (by decide +kernel) hm_z
  replace hm_z := rn_iconst (w := 3) (am_cur_of (i := (114, 1, .iconst 3, (0, 0, 0), 0)) (by decide +kernel)) (by decide) hm_z
  replace hm_z := rn_callS (M' := am_m145) (ar := [.int 3, .ref 176]) (rest := []) (L := lv_args 0 [.ref 176, .int 3]) (am_cur_of (i := (115, 3, .invokestatic 234, (145, 1365, 3), 0)) (by decide +kernel)) rfl rfl rfl rfl hm_z
  obtain ⟨r86_z, h87_z, q88_z, hm_z⟩ := hm_z
  have vo := rn_void rfl q88_z
  subst vo
  obtain ⟨o9_z, c9_z⟩ := cp_z (N := 6) (by decide +kernel) (by decide) (by decide) q88_z
  replace hm_z : rn _ _ _ _ [] _ _ _ := hm_z
  replace hm_z := rn_aload_n (am_cur_of (i := (118, 1, .aload_n 0, (0, 0, 0), 0)) (by decide +kernel)) g0_z hm_z
  replace hm_z := rn_getR (x := 177) (am_cur_of (i := (119, 3, .getfield 51, (12, 32, 1416), 0)) (by decide +kernel)) (by decide +kernel) hm_z
  replace hm_z := rn_iconst (w := 3) (am_cur_of (i := (122, 1, .iconst 3, (0, 0, 0), 0)) (by decide +kernel)) (by decide) hm_z
  replace hm_z := rn_callS (M' := am_m145) (ar := [.int 3, .ref 177]) (rest := []) (L := lv_args 0 [.ref 177, .int 3]) (am_cur_of (i := (123, 3, .invokestatic 234, (145, 1365, 3), 0)) (by decide +kernel)) rfl rfl rfl rfl hm_z
  obtain ⟨r89_z, h90_z, q91_z, hm_z⟩ := hm_z
  have vo := rn_void rfl q91_z
  subst vo
  obtain ⟨o10_z, c10_z⟩ := cp_z (N := 6) (by decide +kernel) (by decide) (by decide) q91_z
  replace hm_z : rn _ _ _ _ [] _ _ _ := hm_z
  replace hm_z := rn_iconst (w := 0) (am_cur_of (i := (126, 1, .iconst 0, (0, 0, 0), 0)) (by decide +kernel)) (by decide) hm_z
  replace hm_z := rn_istore_n (am_cur_of (i := (127, 1, .istore_n 1, (0, 0, 0), 0)) (by decide +kernel)) hm_z
  obtain ⟨_, s92_z, s93_z, g1_z, hm_z⟩ := hm_z
  replace g0_z := s92_z 0 _ (by decide) rfl g0_z
  clear s92_z s93_z
  replace hm_z := rn_iload_n (am_cur_of (i := (128, 1, .iload_n 1, (0, 0, 0), 0)) (by decide +kernel)) g1_z hm_z
  replace hm_z := rn_iconst (w := 3) (am_cur_of (i := (129, 1, .iconst 3, (0, 0, 0), 0)) (by decide +kernel)) (by decide) hm_z
  replace hm_z := rn_cmpF (am_cur_of (i := (130, 3, .if_icmp .ge 23, (77, 0, 0), 0)) (by decide +kernel)) (by decide) hm_z
  replace hm_z := rn_aload_n (am_cur_of (i := (133, 1, .aload_n 0, (0, 0, 0), 0)) (by decide +kernel)) g0_z hm_z
  replace hm_z := rn_getR (x := 178) (am_cur_of (i := (134, 3, .getfield 54, (12, 33, 1417), 0)) (by decide +kernel)) (by decide +kernel) hm_z
  replace hm_z := rn_iload_n (am_cur_of (i := (137, 1, .iload_n 1, (0, 0, 0), 0)) (by decide +kernel)) g1_z hm_z
  replace hm_z := rn_aload_n (am_cur_of (i := (138, 1, .aload_n 0, (0, 0, 0), 0)) (by decide +kernel)) g0_z hm_z
  replace hm_z := rn_getR (x := 178) (am_cur_of (i := (139, 3, .getfield 54, (12, 33, 1417), 0)) (by decide +kernel)) (by decide +kernel) hm_z
  replace hm_z := rn_iconst (w := 3) (am_cur_of (i := (142, 1, .iconst 3, (0, 0, 0), 0)) (by decide +kernel)) (by decide) hm_z
  replace hm_z := rn_iload_n (am_cur_of (i := (143, 1, .iload_n 1, (0, 0, 0), 0)) (by decide +kernel)) g1_z hm_z
  replace hm_z := rn_iadd (w := 3) (am_cur_of (i := (144, 1, .iadd, (0, 0, 0), 0)) (by decide +kernel)) (by decide) hm_z
  replace hm_z := rn_baload (N := 6) (q := 3) (v := rg_v h90_z 178 3) (am_cur_of (i := (145, 1, .baload, (0, 0, 0), 0)) (by decide +kernel)) (by decide +kernel) rfl rfl hm_z
  obtain ⟨p94_z, hm_z⟩ := hm_z
  replace hm_z := rn_bastore (N := 6) (q := 0) (am_cur_of (i := (146, 1, .bastore, (0, 0, 0), 0)) (by decide +kernel)) (by decide +kernel) rfl hm_z
  obtain ⟨p95_z, hm_z⟩ := hm_z
  replace hm_z := rn_iinc (w := 1) (am_cur_of (i := (147, 3, .iinc 1 1, (0, 0, 0), 0)) (by decide +kernel)) g1_z (by decide) hm_z
  obtain ⟨_, s96_z, s97_z, g1_z, hm_z⟩ := hm_z
  replace g0_z := s96_z 0 _ (by decide) rfl g0_z
  clear s96_z s97_z
  replace hm_z := rn_goto (am_cur_of (i := (150, 3, .goto (-22), (62, 0, 0), 0)) (by decide +kernel)) hm_z
  replace hm_z := rn_iload_n (am_cur_of (i := (128, 1, .iload_n 1, (0, 0, 0), 0)) (by decide +kernel)) g1_z hm_z
  replace hm_z := rn_iconst (w := 3) (am_cur_of (i := (129, 1, .iconst 3, (0, 0, 0), 0)) (by decide +kernel)) (by decide) hm_z
  replace hm_z := rn_cmpF (am_cur_of (i := (130, 3, .if_icmp .ge 23, (77, 0, 0), 0)) (by decide +kernel)) (by decide) hm_z
  replace hm_z := rn_aload_n (am_cur_of (i := (133, 1, .aload_n 0, (0, 0, 0), 0)) (by decide +kernel)) g0_z hm_z
  replace hm_z := rn_getR (x := 178) (am_cur_of (i := (134, 3, .getfield 54, (12, 33, 1417), 0)) (by decide +kernel)) (by decide +kernel) hm_z
  replace hm_z := rn_iload_n (am_cur_of (i := (137, 1, .iload_n 1, (0, 0, 0), 0)) (by decide +kernel)) g1_z hm_z
  replace hm_z := rn_aload_n (am_cur_of (i := (138, 1, .aload_n 0, (0, 0, 0), 0)) (by decide +kernel)) g0_z hm_z
  replace hm_z := rn_getR (x := 178) (am_cur_of (i := (139, 3, .getfield 54, (12, 33, 1417), 0)) (by decide +kernel)) (by decide +kernel) hm_z
  replace hm_z := rn_iconst (w := 3) (am_cur_of (i := (142, 1, .iconst 3, (0, 0, 0), 0)) (by decide +kernel)) (by decide) hm_z
  replace hm_z := rn_iload_n (am_cur_of (i := (143, 1, .iload_n 1, (0, 0, 0), 0)) (by decide +kernel)) g1_z hm_z
  replace hm_z := rn_iadd (w := 4) (am_cur_of (i := (144, 1, .iadd, (0, 0, 0), 0)) (by decide +kernel)) (by decide) hm_z
  replace hm_z := rn_baload (N := 6) (q := 4) (v := rg_v h90_z 178 4) (am_cur_of (i := (145, 1, .baload, (0, 0, 0), 0)) (by decide +kernel)) (by decide +kernel) rfl (show rg_v (am_up h90_z 178 0 (.int (rg_v h90_z 178 3))) 178 4 = rg_v h90_z 178 4 from rfl) hm_z
  obtain ⟨p98_z, hm_z⟩ := hm_z
  replace hm_z := rn_bastore (N := 6) (q := 1) (am_cur_of (i := (146, 1, .bastore, (0, 0, 0), 0)) (by decide +kernel)) (by decide +kernel) rfl hm_z
  obtain ⟨p99_z, hm_z⟩ := hm_z
  replace hm_z := rn_iinc (w := 2) (am_cur_of (i := (147, 3, .iinc 1 1, (0, 0, 0), 0)) (by decide +kernel)) g1_z (by decide) hm_z
  obtain ⟨_, s100_z, s101_z, g1_z, hm_z⟩ := hm_z
  replace g0_z := s100_z 0 _ (by decide) rfl g0_z
  clear s100_z s101_z
  replace hm_z := rn_goto (am_cur_of (i := (150, 3, .goto (-22), (62, 0, 0), 0)) (by decide +kernel)) hm_z
  replace hm_z := rn_iload_n (am_cur_of (i := (128, 1, .iload_n 1, (0, 0, 0), 0)) (by decide +kernel)) g1_z hm_z
  replace hm_z := rn_iconst (w := 3) (am_cur_of (i := (129, 1, .iconst 3, (0, 0, 0), 0)) (by decide +kernel)) (by decide) hm_z
  replace hm_z := rn_cmpF (am_cur_of (i := (130, 3, .if_icmp .ge 23, (77, 0, 0), 0)) (by decide +kernel)) (by decide) hm_z
  replace hm_z := rn_aload_n (am_cur_of (i := (133, 1, .aload_n 0, (0, 0, 0), 0)) (by decide +kernel)) g0_z hm_z
  replace hm_z := rn_getR (x := 178) (am_cur_of (i := (134, 3, .getfield 54, (12, 33, 1417), 0)) (by decide +kernel)) (by decide +kernel) hm_z
  replace hm_z := rn_iload_n (am_cur_of (i := (137, 1, .iload_n 1, (0, 0, 0), 0)) (by decide +kernel)) g1_z hm_z
  replace hm_z := rn_aload_n (am_cur_of (i := (138, 1, .aload_n 0, (0, 0, 0), 0)) (by decide +kernel)) g0_z hm_z
  replace hm_z := rn_getR (x := 178) (am_cur_of (i := (139, 3, .getfield 54, (12, 33, 1417), 0)) (by decide +kernel)) (by decide +kernel) hm_z
  replace hm_z := rn_iconst (w := 3) (am_cur_of (i := (142, 1, .iconst 3, (0, 0, 0), 0)) (by decide +kernel)) (by decide) hm_z
  replace hm_z := rn_iload_n (am_cur_of (i := (143, 1, .iload_n 1, (0, 0, 0), 0)) (by decide +kernel)) g1_z hm_z
  replace hm_z := rn_iadd (w := 5) (am_cur_of (i := (144, 1, .iadd, (0, 0, 0), 0)) (by decide +kernel)) (by decide) hm_z
  replace hm_z := rn_baload (N := 6) (q := 5) (v := rg_v h90_z 178 5) (am_cur_of (i := (145, 1, .baload, (0, 0, 0), 0)) (by decide +kernel)) (by decide +kernel) rfl (show rg_v (am_up (am_up h90_z 178 0 (.int (rg_v h90_z 178 3))) 178 1 (.int (rg_v h90_z 178 4))) 178 5 = rg_v h90_z 178 5 from rfl) hm_z
  obtain ⟨p102_z, hm_z⟩ := hm_z
  replace hm_z := rn_bastore (N := 6) (q := 2) (am_cur_of (i := (146, 1, .bastore, (0, 0, 0), 0)) (by decide +kernel)) (by decide +kernel) rfl hm_z
  obtain ⟨p103_z, hm_z⟩ := hm_z
  replace hm_z := rn_iinc (w := 3) (am_cur_of (i := (147, 3, .iinc 1 1, (0, 0, 0), 0)) (by decide +kernel)) g1_z (by decide) hm_z
  obtain ⟨_, s104_z, s105_z, g1_z, hm_z⟩ := hm_z
  replace g0_z := s104_z 0 _ (by decide) rfl g0_z
  clear s104_z s105_z
  replace hm_z := rn_goto (am_cur_of (i := (150, 3, .goto (-22), (62, 0, 0), 0)) (by decide +kernel)) hm_z
  replace hm_z := rn_iload_n (am_cur_of (i := (128, 1, .iload_n 1, (0, 0, 0), 0)) (by decide +kernel)) g1_z hm_z
  replace hm_z := rn_iconst (w := 3) (am_cur_of (i := (129, 1, .iconst 3, (0, 0, 0), 0)) (by decide +kernel)) (by decide) hm_z
  replace hm_z := rn_cmpT (am_cur_of (i := (130, 3, .if_icmp .ge 23, (77, 0, 0), 0)) (by decide +kernel)) (by decide) hm_z
  replace hm_z := rn_aload_n (am_cur_of (i := (153, 1, .aload_n 0, (0, 0, 0), 0)) (by decide +kernel)) g0_z hm_z
  replace hm_z := rn_getR (x := 179) (am_cur_of (i := (154, 3, .getfield 57, (12, 34, 1418), 0)) (by decide +kernel)) (by decide +kernel) hm_z
  replace hm_z := rn_iconst (w := 3) (am_cur_of (i := (157, 1, .iconst 3, (0, 0, 0), 0)) (by decide +kernel)) (by decide) hm_z
  replace hm_z := rn_callS (M' := am_m145) (ar := [.int 3, .ref 179]) (rest := []) (L := lv_args 0 [.ref 179, .int 3]) (am_cur_of (i := (158, 3, .invokestatic 234, (145, 1365, 3), 0)) (by decide +kernel)) rfl rfl rfl rfl hm_z
  obtain ⟨r106_z, h107_z, q108_z, hm_z⟩ := hm_z
  have vo := rn_void rfl q108_z
  subst vo
  obtain ⟨o11_z, c11_z⟩ := cp_z (N := 6) (by decide +kernel) (by decide) (by decide) q108_z
  replace hm_z : rn _ _ _ _ [] _ _ _ := hm_z
  replace hm_z := rn_aload_n (am_cur_of (i := (161, 1, .aload_n 0, (0, 0, 0), 0)) (by decide +kernel)) g0_z hm_z
  replace hm_z := rn_getR (x := 180) (am_cur_of (i := (162, 3, .getfield 60, (12, 35, 1419), 0)) (by decide +kernel)) (by decide +kernel) hm_z
  replace hm_z := rn_iconst (w := 3) (am_cur_of (i := (165, 1, .iconst 3, (0, 0, 0), 0)) (by decide +kernel)) (by decide) hm_z
  replace hm_z := rn_callS (M' := am_m145) (ar := [.int 3, .ref 180]) (rest := []) (L := lv_args 0 [.ref 180, .int 3]) (am_cur_of (i := (166, 3, .invokestatic 234, (145, 1365, 3), 0)) (by decide +kernel)) rfl rfl rfl rfl hm_z
  obtain ⟨r109_z, h110_z, q111_z, hm_z⟩ := hm_z
  have vo := rn_void rfl q111_z
  subst vo
  obtain ⟨o12_z, c12_z⟩ := cp_z (N := 6) (by decide +kernel) (by decide) (by decide) q111_z
  replace hm_z : rn _ _ _ _ [] _ _ _ := hm_z
  replace hm_z := rn_aload_n (am_cur_of (i := (169, 1, .aload_n 0, (0, 0, 0), 0)) (by decide +kernel)) g0_z hm_z
  replace hm_z := rn_getR (x := 181) (am_cur_of (i := (170, 3, .getfield 63, (12, 36, 1420), 0)) (by decide +kernel)) (by decide +kernel) hm_z
  replace hm_z := rn_bipush (w := 64) (am_cur_of (i := (173, 2, .bipush 64, (0, 0, 0), 0)) (by decide +kernel)) (by decide) hm_z
  replace hm_z := rn_callS (M' := am_m145) (ar := [.int 64, .ref 181]) (rest := []) (L := lv_args 0 [.ref 181, .int 64]) (am_cur_of (i := (175, 3, .invokestatic 234, (145, 1365, 3), 0)) (by decide +kernel)) rfl rfl rfl rfl hm_z
  obtain ⟨r112_z, h113_z, q114_z, hm_z⟩ := hm_z
  have vo := rn_void rfl q114_z
  subst vo
  obtain ⟨o13_z, c13_z⟩ := cp_z (N := 128) (by decide +kernel) (by decide) (by decide) q114_z
  replace hm_z : rn _ _ _ _ [] _ _ _ := hm_z
  replace hm_z := rn_aload_n (am_cur_of (i := (178, 1, .aload_n 0, (0, 0, 0), 0)) (by decide +kernel)) g0_z hm_z
  replace hm_z := rn_getR (x := 182) (am_cur_of (i := (179, 3, .getfield 66, (12, 37, 1421), 0)) (by decide +kernel)) (by decide +kernel) hm_z
  replace hm_z := rn_bipush (w := 64) (am_cur_of (i := (182, 2, .bipush 64, (0, 0, 0), 0)) (by decide +kernel)) (by decide) hm_z
  replace hm_z := rn_callS (M' := am_m145) (ar := [.int 64, .ref 182]) (rest := []) (L := lv_args 0 [.ref 182, .int 64]) (am_cur_of (i := (184, 3, .invokestatic 234, (145, 1365, 3), 0)) (by decide +kernel)) rfl rfl rfl rfl hm_z
  obtain ⟨r115_z, h116_z, q117_z, hm_z⟩ := hm_z
  have vo := rn_void rfl q117_z
  subst vo
  obtain ⟨o14_z, c14_z⟩ := cp_z (N := 128) (by decide +kernel) (by decide) (by decide) q117_z
  replace hm_z : rn _ _ _ _ [] _ _ _ := hm_z
  replace hm_z := rn_aload_n (am_cur_of (i := (187, 1, .aload_n 0, (0, 0, 0), 0)) (by decide +kernel)) g0_z hm_z
  replace hm_z := rn_getR (x := 183) (am_cur_of (i := (188, 3, .getfield 69, (12, 38, 1422), 0)) (by decide +kernel)) (by decide +kernel) hm_z
  replace hm_z := rn_bipush (w := 64) (am_cur_of (i := (191, 2, .bipush 64, (0, 0, 0), 0)) (by decide +kernel)) (by decide) hm_z
  replace hm_z := rn_callS (M' := am_m145) (ar := [.int 64, .ref 183]) (rest := []) (L := lv_args 0 [.ref 183, .int 64]) (am_cur_of (i := (193, 3, .invokestatic 234, (145, 1365, 3), 0)) (by decide +kernel)) rfl rfl rfl rfl hm_z
  obtain ⟨r118_z, h119_z, q120_z, hm_z⟩ := hm_z
  have vo := rn_void rfl q120_z
  subst vo
  obtain ⟨o15_z, c15_z⟩ := cp_z (N := 128) (by decide +kernel) (by decide) (by decide) q120_z
  replace hm_z : rn _ _ _ _ [] _ _ _ := hm_z
  replace hm_z := rn_aload_n (am_cur_of (i := (196, 1, .aload_n 0, (0, 0, 0), 0)) (by decide +kernel)) g0_z hm_z
  replace hm_z := rn_callV (M' := am_m146) (o := 164) (ar := []) (rest := []) (L := lv_args 0 [.ref 164]) (am_cur_of (i := (197, 3, .invokevirtual 238, (146, 1368, 3), 0)) (by decide +kernel)) rfl rfl rfl rfl hm_z
  obtain ⟨r121_z, h122_z, q123_z, hm_z⟩ := hm_z
  have vo := rn_void rfl q123_z
  subst vo
  have zb := zl_begin q123_z
  replace hm_z : rn _ _ _ _ [] _ _ _ := hm_z
  replace hm_z := rn_vret (am_cur_of (i := (200, 1, .return_, (0, 0, 0), 0)) (by decide +kernel)) hm_z
  obtain ⟨e124_z, e125_z⟩ := hm_z
  replace e125_z := e125_z.symm
  subst e125_z
  refine ⟨fun k hk_z => ?_, fun k hk_z => ?_, fun k hk_z => ?_, fun k hk_z => ?_, fun k hk_z => ?_, fun k hk_z => ?_⟩
  · match k, hk_z with
    | 0, _ => exact (sg_v (zb 178 0 (by decide) (by decide))).trans ((o15_z 178 0 (by decide)).trans ((o14_z 178 0 (by decide)).trans ((o13_z 178 0 (by decide)).trans ((o12_z 178 0 (by decide)).trans ((o11_z 178 0 (by decide)).trans ((o10_z 178 3 (by decide)).trans ((o9_z 178 3 (by decide)).trans ((o8_z 178 3 (by decide)).trans ((o7_z 178 3 (by decide)).trans ((o6_z 178 3 (by decide)).trans ((o5_z 178 3 (by decide)).trans ((o4_z 178 3 (by decide)).trans ((o3_z 178 3 (by decide)).trans ((o2_z 178 3 (by decide)).trans ((o1_z 178 3 (by decide)).trans rfl)))))))))))))))
    | 1, _ => exact (sg_v (zb 178 1 (by decide) (by decide))).trans ((o15_z 178 1 (by decide)).trans ((o14_z 178 1 (by decide)).trans ((o13_z 178 1 (by decide)).trans ((o12_z 178 1 (by decide)).trans ((o11_z 178 1 (by decide)).trans ((o10_z 178 4 (by decide)).trans ((o9_z 178 4 (by decide)).trans ((o8_z 178 4 (by decide)).trans ((o7_z 178 4 (by decide)).trans ((o6_z 178 4 (by decide)).trans ((o5_z 178 4 (by decide)).trans ((o4_z 178 4 (by decide)).trans ((o3_z 178 4 (by decide)).trans ((o2_z 178 4 (by decide)).trans ((o1_z 178 4 (by decide)).trans rfl)))))))))))))))
    | 2, _ => exact (sg_v (zb 178 2 (by decide) (by decide))).trans ((o15_z 178 2 (by decide)).trans ((o14_z 178 2 (by decide)).trans ((o13_z 178 2 (by decide)).trans ((o12_z 178 2 (by decide)).trans ((o11_z 178 2 (by decide)).trans ((o10_z 178 5 (by decide)).trans ((o9_z 178 5 (by decide)).trans ((o8_z 178 5 (by decide)).trans ((o7_z 178 5 (by decide)).trans ((o6_z 178 5 (by decide)).trans ((o5_z 178 5 (by decide)).trans ((o4_z 178 5 (by decide)).trans ((o3_z 178 5 (by decide)).trans ((o2_z 178 5 (by decide)).trans ((o1_z 178 5 (by decide)).trans rfl)))))))))))))))
    | k + 3, hk_z => omega
  · exact (sg_v (zb 179 k (by decide) (by decide))).trans ((o15_z 179 k (by decide)).trans ((o14_z 179 k (by decide)).trans ((o13_z 179 k (by decide)).trans ((o12_z 179 k (by decide)).trans ((c11_z k (by rw [show (3 : Int32).toInt = 3 by decide]; omega)).trans ((o10_z 179 (3 + k) (by decide)).trans ((o9_z 179 (3 + k) (by decide)).trans ((o8_z 179 (3 + k) (by decide)).trans ((o7_z 179 (3 + k) (by decide)).trans ((o6_z 179 (3 + k) (by decide)).trans ((o5_z 179 (3 + k) (by decide)).trans ((o4_z 179 (3 + k) (by decide)).trans ((o3_z 179 (3 + k) (by decide)).trans ((o2_z 179 (3 + k) (by decide)).trans ((o1_z 179 (3 + k) (by decide)).trans rfl)))))))))))))))
  · exact (sg_v (zb 180 k (by decide) (by decide))).trans ((o15_z 180 k (by decide)).trans ((o14_z 180 k (by decide)).trans ((o13_z 180 k (by decide)).trans ((c12_z k (by rw [show (3 : Int32).toInt = 3 by decide]; omega)).trans ((o11_z 180 (3 + k) (by decide)).trans ((o10_z 180 (3 + k) (by decide)).trans ((o9_z 180 (3 + k) (by decide)).trans ((o8_z 180 (3 + k) (by decide)).trans ((o7_z 180 (3 + k) (by decide)).trans ((o6_z 180 (3 + k) (by decide)).trans ((o5_z 180 (3 + k) (by decide)).trans ((o4_z 180 (3 + k) (by decide)).trans ((o3_z 180 (3 + k) (by decide)).trans ((o2_z 180 (3 + k) (by decide)).trans ((o1_z 180 (3 + k) (by decide)).trans rfl)))))))))))))))
  · exact (sg_v (zb 181 k (by decide) (by decide))).trans ((o15_z 181 k (by decide)).trans ((o14_z 181 k (by decide)).trans ((c13_z k (by rw [show (64 : Int32).toInt = 64 by decide]; omega)).trans ((o12_z 181 (64 + k) (by decide)).trans ((o11_z 181 (64 + k) (by decide)).trans ((o10_z 181 (64 + k) (by decide)).trans ((o9_z 181 (64 + k) (by decide)).trans ((o8_z 181 (64 + k) (by decide)).trans ((o7_z 181 (64 + k) (by decide)).trans ((o6_z 181 (64 + k) (by decide)).trans ((o5_z 181 (64 + k) (by decide)).trans ((o4_z 181 (64 + k) (by decide)).trans ((o3_z 181 (64 + k) (by decide)).trans ((o2_z 181 (64 + k) (by decide)).trans ((o1_z 181 (64 + k) (by decide)).trans rfl)))))))))))))))
  · exact (sg_v (zb 182 k (by decide) (by decide))).trans ((o15_z 182 k (by decide)).trans ((c14_z k (by rw [show (64 : Int32).toInt = 64 by decide]; omega)).trans ((o13_z 182 (64 + k) (by decide)).trans ((o12_z 182 (64 + k) (by decide)).trans ((o11_z 182 (64 + k) (by decide)).trans ((o10_z 182 (64 + k) (by decide)).trans ((o9_z 182 (64 + k) (by decide)).trans ((o8_z 182 (64 + k) (by decide)).trans ((o7_z 182 (64 + k) (by decide)).trans ((o6_z 182 (64 + k) (by decide)).trans ((o5_z 182 (64 + k) (by decide)).trans ((o4_z 182 (64 + k) (by decide)).trans ((o3_z 182 (64 + k) (by decide)).trans ((o2_z 182 (64 + k) (by decide)).trans ((o1_z 182 (64 + k) (by decide)).trans rfl)))))))))))))))
  · exact (sg_v (zb 183 k (by decide) (by decide))).trans ((c15_z k (by rw [show (64 : Int32).toInt = 64 by decide]; omega)).trans ((o14_z 183 (64 + k) (by decide)).trans ((o13_z 183 (64 + k) (by decide)).trans ((o12_z 183 (64 + k) (by decide)).trans ((o11_z 183 (64 + k) (by decide)).trans ((o10_z 183 (64 + k) (by decide)).trans ((o9_z 183 (64 + k) (by decide)).trans ((o8_z 183 (64 + k) (by decide)).trans ((o7_z 183 (64 + k) (by decide)).trans ((o6_z 183 (64 + k) (by decide)).trans ((o5_z 183 (64 + k) (by decide)).trans ((o4_z 183 (64 + k) (by decide)).trans ((o3_z 183 (64 + k) (by decide)).trans ((o2_z 183 (64 + k) (by decide)).trans ((o1_z 183 (64 + k) (by decide)).trans rfl)))))))))))))))
theorem kc_text_2 {hq_z h1_z h2_z h3_z h4_z : am_H} {n1_z n3_z n4_z n5_z : Nat} (r54_z : rn n1_z am_m54 0 (lv_args 0 [.ref 2]) [] hq_z none h1_z) (r14_z : rn n3_z am_m14 0 (lv_args 0 [.ref 48, .ref 2]) [] (am_up (am_up h1_z 0 3 (.ref (25 - 2))) 0 2 (.ref 2)) none h2_z) (r57_z : rn n4_z am_m57 0 (lv_args 0 [.ref 60]) [] h2_z none h3_z) (r58_z : rn n5_z am_m58 0 (lv_args 0 [.ref 142]) [] h3_z none h4_z) : ∀ o k, 11 ≤ o → o ≤ 16 → rg_v (am_up h4_z 0 8 (.int 0)) o k = rg_v hq_z o k := by
  intro o k o1_z o2_z
  refine (rg_v_other (by omega)).trans ?_
  rw [(kg_58 r58_z).2, rg_v_other (by omega), rg_v_other (by omega), (kg_57 r57_z).2, rg_v_other (by omega), (kg_14_2 r14_z).2]
  refine ((rg_v_other (by omega)).trans ((rg_v_other (by omega)).trans ((rg_v_other (by omega)).trans ((rg_v_other (by omega)).trans ((rg_v_other (by omega)).trans ((rg_v_other (by omega)).trans ((rg_v_other (by omega)).trans ((rg_v_other (by omega)).trans ((rg_v_other (by omega)).trans ((rg_v_other (by omega)).trans ((rg_v_other (by omega)).trans ((rg_v_other (by omega)).trans ((rg_v_other (by omega)).trans ((rg_v_other (by omega)).trans ((rg_v_other (by omega)).trans ((rg_v_other (by omega)).trans ((rg_v_other (by omega)).trans (rfl)))))))))))))))))).trans ?_
  exact (rg_v_other (by omega)).trans ((rg_v_other (by omega)).trans (kg_54_2 r54_z o k (by omega)))
theorem kc_text_23 {hq_z h1_z h2_z h3_z h4_z : am_H} {n1_z n3_z n4_z n5_z : Nat} (r54_z : rn n1_z am_m54 0 (lv_args 0 [.ref 23]) [] hq_z none h1_z) (r14_z : rn n3_z am_m14 0 (lv_args 0 [.ref 48, .ref 23]) [] (am_up (am_up h1_z 0 3 (.ref (25 - 23))) 0 2 (.ref 23)) none h2_z) (r57_z : rn n4_z am_m57 0 (lv_args 0 [.ref 60]) [] h2_z none h3_z) (r58_z : rn n5_z am_m58 0 (lv_args 0 [.ref 142]) [] h3_z none h4_z) : ∀ o k, 32 ≤ o → o ≤ 37 → rg_v (am_up h4_z 0 8 (.int 0)) o k = rg_v hq_z o k := by
  intro o k o1_z o2_z
  refine (rg_v_other (by omega)).trans ?_
  rw [(kg_58 r58_z).2, rg_v_other (by omega), rg_v_other (by omega), (kg_57 r57_z).2, rg_v_other (by omega), (kg_14_23 r14_z).2]
  refine ((rg_v_other (by omega)).trans ((rg_v_other (by omega)).trans ((rg_v_other (by omega)).trans ((rg_v_other (by omega)).trans ((rg_v_other (by omega)).trans ((rg_v_other (by omega)).trans ((rg_v_other (by omega)).trans ((rg_v_other (by omega)).trans ((rg_v_other (by omega)).trans ((rg_v_other (by omega)).trans ((rg_v_other (by omega)).trans ((rg_v_other (by omega)).trans ((rg_v_other (by omega)).trans ((rg_v_other (by omega)).trans ((rg_v_other (by omega)).trans ((rg_v_other (by omega)).trans ((rg_v_other (by omega)).trans (rfl)))))))))))))))))).trans ?_
  exact (rg_v_other (by omega)).trans ((rg_v_other (by omega)).trans (kg_54_23 r54_z o k (by omega)))
