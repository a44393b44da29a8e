theorem fk_229_1 {nst : Nat} {r : Option Value} {g g' : am_H} {k : Int32} {y : Int32} (k0_z : 0 ≤ k.toInt) (hm_z : rn nst am_m229 0 (lv_args 0 [.ref 164, .int 1, .int k, .int y]) [] g r g') : bk g g' := by
  have g0_z : am_get (lv_args 0 [.ref 164, .int 1, .int k, .int y]) 0 = some (.ref 164) := rfl
  have g1_z : am_get (lv_args 0 [.ref 164, .int 1, .int k, .int y]) 1 = some (.int 1) := rfl
  have g2_z : am_get (lv_args 0 [.ref 164, .int 1, .int k, .int y]) 2 = some (.int k) := rfl
  have g3_z : am_get (lv_args 0 [.ref 164, .int 1, .int k, .int y]) 3 = some (.int y) := rfl
  replace hm_z := rn_iconst (w := 1) (am_cur_of (i := (0, 1, .iconst 1, (0, 0, 0), 0)) (by decide +kernel)) (by decide) hm_z
  replace hm_z := rn_istore (am_cur_of (i := (1, 2, .istore 4, (0, 0, 0), 0)) (by decide +kernel)) hm_z
  obtain ⟨_, s1379_z, s1380_z, g4_z, hm_z⟩ := hm_z
  replace g0_z := s1379_z 0 _ (by decide) rfl g0_z
  replace g1_z := s1379_z 1 _ (by decide) rfl g1_z
  replace g2_z := s1379_z 2 _ (by decide) rfl g2_z
  replace g3_z := s1379_z 3 _ (by decide) rfl g3_z
  clear s1379_z s1380_z
  replace hm_z := rn_aload_n (am_cur_of (i := (3, 1, .aload_n 0, (0, 0, 0), 0)) (by decide +kernel)) g0_z hm_z
  replace hm_z := rn_getR (x := 191) (am_cur_of (i := (4, 3, .getfield 94, (12, 53, 1437), 0)) (by decide +kernel)) (by decide +kernel) hm_z
  replace hm_z := rn_iconst (w := 4) (am_cur_of (i := (7, 1, .iconst 4, (0, 0, 0), 0)) (by decide +kernel)) (by decide) hm_z
  replace hm_z := rn_iload_n (am_cur_of (i := (8, 1, .iload_n 1, (0, 0, 0), 0)) (by decide +kernel)) g1_z hm_z
  replace hm_z := rn_imul (w := 4) (am_cur_of (i := (9, 1, .imul, (0, 0, 0), 0)) (by decide +kernel)) (by decide) hm_z
  replace hm_z := rn_iload_n (am_cur_of (i := (10, 1, .iload_n 2, (0, 0, 0), 0)) (by decide +kernel)) g2_z hm_z
  replace hm_z := rn_iadd (w := (4 : Int32) + k) (am_cur_of (i := (11, 1, .iadd, (0, 0, 0), 0)) (by decide +kernel)) rfl hm_z
  replace hm_z := rn_iconst (w := 0) (am_cur_of (i := (12, 1, .iconst 0, (0, 0, 0), 0)) (by decide +kernel)) (by decide) hm_z
  replace hm_z := rn_iastore (N := 16) (q := ((4 : Int32) + k).toNatClampNeg) (am_cur_of (i := (13, 1, .iastore, (0, 0, 0), 0)) (by decide +kernel)) (by decide +kernel) rfl hm_z
  obtain ⟨p1381_z, hm_z⟩ := hm_z
  replace hm_z := rn_iconst (w := 0) (am_cur_of (i := (14, 1, .iconst 0, (0, 0, 0), 0)) (by decide +kernel)) (by decide) hm_z
  replace hm_z := rn_istore (am_cur_of (i := (15, 2, .istore 5, (0, 0, 0), 0)) (by decide +kernel)) hm_z
  obtain ⟨_, s1382_z, s1383_z, g5_z, hm_z⟩ := hm_z
  replace g0_z := s1382_z 0 _ (by decide) rfl g0_z
  replace g1_z := s1382_z 1 _ (by decide) rfl g1_z
  replace g2_z := s1382_z 2 _ (by decide) rfl g2_z
  replace g3_z := s1382_z 3 _ (by decide) rfl g3_z
  replace g4_z := s1382_z 4 _ (by decide) rfl g4_z
  clear s1382_z s1383_z
  have H13 := (fk_229_1_L (r := r) (g' := g') (k := k) (y := y) k0_z nst).1
  exact bk_t (bk_u (bk_i (by decide) (bk_4 (by decide) k0_z p1381_z)) bk_r) (H13 1 0 _ _ g0_z g1_z g2_z g3_z g4_z g5_z hm_z)
theorem fk_229_3_L {r : Option Value} {g' : am_H} {k : Int32} {y : Int32} (k0_z : 0 ≤ k.toInt) : ∀ f : Nat, (∀ (v4_z : Int32) (v5_z : Int32) (ls : am_L) (g : am_H), am_get ls 0 = some (.ref 164) → am_get ls 1 = some (.int 3) → am_get ls 2 = some (.int k) → am_get ls 3 = some (.int y) → am_get ls 4 = some (.int v4_z) → am_get ls 5 = some (.int v5_z) → rn f am_m229 13 ls [] g r g' → bk g g') ∧ (∀ (v4_z : Int32) (ls : am_L) (g : am_H), am_get ls 0 = some (.ref 164) → am_get ls 1 = some (.int 3) → am_get ls 2 = some (.int k) → am_get ls 3 = some (.int y) → am_get ls 4 = some (.int v4_z) → rn f am_m229 42 ls [] g r g' → bk g g') ∧ (∀ (v4_z : Int32) (v5_z : Int32) (ls : am_L) (g : am_H), am_get ls 0 = some (.ref 164) → am_get ls 1 = some (.int 3) → am_get ls 2 = some (.int k) → am_get ls 3 = some (.int y) → am_get ls 4 = some (.int v4_z) → am_get ls 5 = some (.int v5_z) → rn f am_m229 44 ls [] g r g' → bk g g') ∧ (∀ (v4_z : Int32) (v5_z : Int32) (v6_z : Int32) (ls : am_L) (g : am_H), am_get ls 0 = some (.ref 164) → am_get ls 1 = some (.int 3) → am_get ls 2 = some (.int k) → am_get ls 3 = some (.int y) → am_get ls 4 = some (.int v4_z) → am_get ls 5 = some (.int v5_z) → am_get ls 6 = some (.int v6_z) → rn f am_m229 62 ls [] g r g' → bk g g') ∧ (∀ (v4_z : Int32) (v5_z : Int32) (ls : am_L) (g : am_H), am_get ls 0 = some (.ref 164) → am_get ls 1 = some (.int 3) → am_get ls 2 = some (.int k) → am_get ls 3 = some (.int y) → am_get ls 4 = some (.int v4_z) → am_get ls 5 = some (.int v5_z) → rn f am_m229 91 ls [] g r g' → bk g g') ∧ (∀ (v4_z : Int32) (v5_z : Int32) (ls : am_L) (g : am_H), am_get ls 0 = some (.ref 164) → am_get ls 1 = some (.int 3) → am_get ls 2 = some (.int k) → am_get ls 3 = some (.int y) → am_get ls 4 = some (.int v4_z) → am_get ls 5 = some (.int v5_z) → rn f am_m229 97 ls [] g r g' → bk g g') ∧ (∀ (v4_z : Int32) (ls : am_L) (g : am_H), am_get ls 4 = some (.int v4_z) → rn f am_m229 99 ls [] g r g' → bk g g') := by
  intro f
  induction f with
  | zero =>
    exact ⟨fun _ _ _ _ _ _ _ _ _ _ hm_z => absurd hm_z rn_0, fun _ _ _ _ _ _ _ _ hm_z => absurd hm_z rn_0, fun _ _ _ _ _ _ _ _ _ _ hm_z => absurd hm_z rn_0, fun _ _ _ _ _ _ _ _ _ _ _ _ hm_z => absurd hm_z rn_0, fun _ _ _ _ _ _ _ _ _ _ hm_z => absurd hm_z rn_0, fun _ _ _ _ _ _ _ _ _ _ hm_z => absurd hm_z rn_0, fun _ _ _ _ hm_z => absurd hm_z rn_0⟩
  | succ f ih_z =>
    obtain ⟨I13, I42, I44, I62, I91, I97, I99⟩ := ih_z
    have H99 : ∀ (v4_z : Int32) (ls : am_L) (g : am_H), am_get ls 4 = some (.int v4_z) → rn (f + 1) am_m229 99 ls [] g r g' → bk g g' := by
      intro v4_z ls g g4_z hm_z
      replace hm_z := rn_iload (am_cur_of (i := (169, 2, .iload 4, (0, 0, 0), 0)) (by decide +kernel)) g4_z hm_z
      replace hm_z := rn_iret (am_cur_of (i := (171, 1, .ireturn, (0, 0, 0), 0)) (by decide +kernel)) hm_z
      obtain ⟨e1384_z, e1385_z⟩ := hm_z
      rw [e1385_z]
      exact bk_r
    have H97 : ∀ (v4_z : Int32) (v5_z : Int32) (ls : am_L) (g : am_H), am_get ls 0 = some (.ref 164) → am_get ls 1 = some (.int 3) → am_get ls 2 = some (.int k) → am_get ls 3 = some (.int y) → am_get ls 4 = some (.int v4_z) → am_get ls 5 = some (.int v5_z) → rn (f + 1) am_m229 97 ls [] g r g' → bk g g' := by
      intro v4_z v5_z ls g g0_z g1_z g2_z g3_z g4_z g5_z hm_z
      replace hm_z := rn_iinc (w := v5_z + 1) (am_cur_of (i := (163, 3, .iinc 5 1, (0, 0, 0), 0)) (by decide +kernel)) g5_z rfl hm_z
      obtain ⟨_, s1386_z, s1387_z, g5_z, hm_z⟩ := hm_z
      replace g0_z := s1386_z 0 _ (by decide) rfl g0_z
      replace g1_z := s1386_z 1 _ (by decide) rfl g1_z
      replace g2_z := s1386_z 2 _ (by decide) rfl g2_z
      replace g3_z := s1386_z 3 _ (by decide) rfl g3_z
      replace g4_z := s1386_z 4 _ (by decide) rfl g4_z
      clear s1386_z s1387_z
      replace hm_z := rn_gotoL (am_cur_of (i := (166, 3, .goto (-95), (44, 0, 0), 0)) (by decide +kernel)) hm_z
      exact bk_t bk_r (I44 v4_z (v5_z + 1) _ _ g0_z g1_z g2_z g3_z g4_z g5_z hm_z)
    have H91 : ∀ (v4_z : Int32) (v5_z : Int32) (ls : am_L) (g : am_H), am_get ls 0 = some (.ref 164) → am_get ls 1 = some (.int 3) → am_get ls 2 = some (.int k) → am_get ls 3 = some (.int y) → am_get ls 4 = some (.int v4_z) → am_get ls 5 = some (.int v5_z) → rn (f + 1) am_m229 91 ls [] g r g' → bk g g' := by
      intro v4_z v5_z ls g g0_z g1_z g2_z g3_z g4_z g5_z hm_z
      have z0_z : (0 : Int32).toInt = 0 := by decide
      replace hm_z := rn_iload (am_cur_of (i := (152, 2, .iload 4, (0, 0, 0), 0)) (by decide +kernel)) g4_z hm_z
      replace hm_z := rn_if (am_cur_of (i := (154, 3, .ifCond .eq 9, (97, 0, 0), 0)) (by decide +kernel)) hm_z
      rcases hm_z with ⟨b1388_z, hm_z⟩ | ⟨b1388_z, hm_z⟩
      · replace b1388_z : v4_z = (0 : Int32) ∧ v4_z.toInt = (0 : Int32).toInt := b1388_z
        exact bk_t bk_r (H97 v4_z v5_z _ _ g0_z g1_z g2_z g3_z g4_z g5_z hm_z)
      · replace b1388_z : ¬ v4_z = (0 : Int32) ∧ ¬ v4_z.toInt = (0 : Int32).toInt := b1388_z
        replace hm_z := rn_aload_n (am_cur_of (i := (157, 1, .aload_n 0, (0, 0, 0), 0)) (by decide +kernel)) g0_z hm_z
        replace hm_z := rn_iload_n (am_cur_of (i := (158, 1, .iload_n 1, (0, 0, 0), 0)) (by decide +kernel)) g1_z hm_z
        replace hm_z := rn_iload_n (am_cur_of (i := (159, 1, .iload_n 2, (0, 0, 0), 0)) (by decide +kernel)) g2_z hm_z
        replace hm_z := rn_callV (M' := am_m205) (o := 164) (ar := [.int k, .int 3]) (rest := []) (L := lv_args 0 [.ref 164, .int 3, .int k]) (am_cur_of (i := (160, 3, .invokevirtual 441, (205, 1851, 3), 0)) (by decide +kernel)) rfl rfl rfl rfl hm_z
        obtain ⟨r1389_z, h1390_z, q1391_z, hm_z⟩ := hm_z
        have k1392_z := fk_205_3 k0_z q1391_z
        have vo := rn_void rfl q1391_z
        subst vo
        replace hm_z : rn _ _ _ _ [] _ _ _ := hm_z
        exact bk_t (bk_t bk_r k1392_z) (H97 v4_z v5_z _ _ g0_z g1_z g2_z g3_z g4_z g5_z hm_z)
    have H62 : ∀ (v4_z : Int32) (v5_z : Int32) (v6_z : Int32) (ls : am_L) (g : am_H), am_get ls 0 = some (.ref 164) → am_get ls 1 = some (.int 3) → am_get ls 2 = some (.int k) → am_get ls 3 = some (.int y) → am_get ls 4 = some (.int v4_z) → am_get ls 5 = some (.int v5_z) → am_get ls 6 = some (.int v6_z) → rn (f + 1) am_m229 62 ls [] g r g' → bk g g' := by
      intro v4_z v5_z v6_z ls g g0_z g1_z g2_z g3_z g4_z g5_z g6_z hm_z
      have z0_z : (0 : Int32).toInt = 0 := by decide
      replace hm_z := rn_iload (am_cur_of (i := (101, 2, .iload 6, (0, 0, 0), 0)) (by decide +kernel)) g6_z hm_z
      replace hm_z := rn_aload_n (am_cur_of (i := (103, 1, .aload_n 0, (0, 0, 0), 0)) (by decide +kernel)) g0_z hm_z
      replace hm_z := rn_getR (x := 170) (am_cur_of (i := (104, 3, .getfield 30, (12, 25, 1409), 0)) (by decide +kernel)) (by decide +kernel) hm_z
      replace hm_z := rn_bipush (w := 7) (am_cur_of (i := (107, 2, .bipush 7, (0, 0, 0), 0)) (by decide +kernel)) (by decide) hm_z
      replace hm_z := rn_iload_n (am_cur_of (i := (109, 1, .iload_n 2, (0, 0, 0), 0)) (by decide +kernel)) g2_z hm_z
      replace hm_z := rn_imul (w := (7 : Int32) * k) (am_cur_of (i := (110, 1, .imul, (0, 0, 0), 0)) (by decide +kernel)) rfl hm_z
      replace hm_z := rn_iconst (w := 3) (am_cur_of (i := (111, 1, .iconst 3, (0, 0, 0), 0)) (by decide +kernel)) (by decide) hm_z
      replace hm_z := rn_iadd (w := ((7 : Int32) * k) + 3) (am_cur_of (i := (112, 1, .iadd, (0, 0, 0), 0)) (by decide +kernel)) rfl hm_z
      replace hm_z := rn_iaload (N := 56) (q := (((7 : Int32) * k) + 3).toNatClampNeg) (v := rg_v g 170 ((((7 : Int32) * k) + 3).toNatClampNeg)) (am_cur_of (i := (113, 1, .iaload, (0, 0, 0), 0)) (by decide +kernel)) (by decide +kernel) rfl rfl hm_z
      obtain ⟨p1393_z, hm_z⟩ := hm_z
      replace hm_z := rn_cmp (am_cur_of (i := (114, 3, .if_icmp .ge 38, (91, 0, 0), 0)) (by decide +kernel)) hm_z
      rcases hm_z with ⟨b1394_z, hm_z⟩ | ⟨b1394_z, hm_z⟩
      · replace b1394_z : (rg_v g 170 ((((7 : Int32) * k) + 3).toNatClampNeg)).toInt ≤ v6_z.toInt := b1394_z
        exact bk_t bk_r (H91 v4_z v5_z _ _ g0_z g1_z g2_z g3_z g4_z g5_z hm_z)
      · replace b1394_z : v6_z.toInt < (rg_v g 170 ((((7 : Int32) * k) + 3).toNatClampNeg)).toInt := b1394_z
        replace hm_z := rn_iload (am_cur_of (i := (117, 2, .iload 4, (0, 0, 0), 0)) (by decide +kernel)) g4_z hm_z
        replace hm_z := rn_if (am_cur_of (i := (119, 3, .ifCond .eq 33, (91, 0, 0), 0)) (by decide +kernel)) hm_z
        rcases hm_z with ⟨b1395_z, hm_z⟩ | ⟨b1395_z, hm_z⟩
        · replace b1395_z : v4_z = (0 : Int32) ∧ v4_z.toInt = (0 : Int32).toInt := b1395_z
          exact bk_t bk_r (H91 v4_z v5_z _ _ g0_z g1_z g2_z g3_z g4_z g5_z hm_z)
        · replace b1395_z : ¬ v4_z = (0 : Int32) ∧ ¬ v4_z.toInt = (0 : Int32).toInt := b1395_z
          replace hm_z := rn_aload_n (am_cur_of (i := (122, 1, .aload_n 0, (0, 0, 0), 0)) (by decide +kernel)) g0_z hm_z
          replace hm_z := rn_iload_n (am_cur_of (i := (123, 1, .iload_n 1, (0, 0, 0), 0)) (by decide +kernel)) g1_z hm_z
          replace hm_z := rn_iconst (w := 0) (am_cur_of (i := (124, 1, .iconst 0, (0, 0, 0), 0)) (by decide +kernel)) (by decide) hm_z
          replace hm_z := rn_iconst (w := 0) (am_cur_of (i := (125, 1, .iconst 0, (0, 0, 0), 0)) (by decide +kernel)) (by decide) hm_z
          replace hm_z := rn_callV (M' := am_m199) (o := 164) (ar := [.int 0, .int 0, .int 3]) (rest := []) (L := lv_args 0 [.ref 164, .int 3, .int 0, .int 0]) (am_cur_of (i := (126, 3, .invokevirtual 434, (199, 1828, 3), 0)) (by decide +kernel)) rfl rfl rfl rfl hm_z
          obtain ⟨r1396_z, h1397_z, q1398_z, hm_z⟩ := hm_z
          have k1399_z := fk_199_3 q1398_z
          have vo := rn_void rfl q1398_z
          subst vo
          replace hm_z : rn _ _ _ _ [] _ _ _ := hm_z
          replace hm_z := rn_aload_n (am_cur_of (i := (129, 1, .aload_n 0, (0, 0, 0), 0)) (by decide +kernel)) g0_z hm_z
          replace hm_z := rn_getR (x := 188) (am_cur_of (i := (130, 3, .getfield 85, (12, 50, 1434), 0)) (by decide +kernel)) (by decide +kernel) hm_z
          replace hm_z := rn_iload_n (am_cur_of (i := (133, 1, .iload_n 1, (0, 0, 0), 0)) (by decide +kernel)) g1_z hm_z
          replace hm_z := rn_iaload (N := 4) (q := 3) (v := rg_v h1397_z 188 3) (am_cur_of (i := (134, 1, .iaload, (0, 0, 0), 0)) (by decide +kernel)) (by decide +kernel) rfl rfl hm_z
          obtain ⟨p1400_z, hm_z⟩ := hm_z
          replace hm_z := rn_iload_n (am_cur_of (i := (135, 1, .iload_n 3, (0, 0, 0), 0)) (by decide +kernel)) g3_z hm_z
          replace hm_z := rn_cmp (am_cur_of (i := (136, 3, .if_icmp .lt 7, (87, 0, 0), 0)) (by decide +kernel)) hm_z
          rcases hm_z with ⟨b1401_z, hm_z⟩ | ⟨b1401_z, hm_z⟩
          · replace b1401_z : (rg_v h1397_z 188 3).toInt < y.toInt := b1401_z
            replace hm_z := rn_iconst (w := 0) (am_cur_of (i := (143, 1, .iconst 0, (0, 0, 0), 0)) (by decide +kernel)) (by decide) hm_z
            replace hm_z := rn_istore (am_cur_of (i := (144, 2, .istore 4, (0, 0, 0), 0)) (by decide +kernel)) hm_z
            obtain ⟨_, s1402_z, s1403_z, g4_z, hm_z⟩ := hm_z
            replace g0_z := s1402_z 0 _ (by decide) rfl g0_z
            replace g1_z := s1402_z 1 _ (by decide) rfl g1_z
            replace g2_z := s1402_z 2 _ (by decide) rfl g2_z
            replace g3_z := s1402_z 3 _ (by decide) rfl g3_z
            replace g5_z := s1402_z 5 _ (by decide) rfl g5_z
            replace g6_z := s1402_z 6 _ (by decide) rfl g6_z
            clear s1402_z s1403_z
            replace hm_z := rn_iinc (w := v6_z + 1) (am_cur_of (i := (146, 3, .iinc 6 1, (0, 0, 0), 0)) (by decide +kernel)) g6_z rfl hm_z
            obtain ⟨_, s1404_z, s1405_z, g6_z, hm_z⟩ := hm_z
            replace g0_z := s1404_z 0 _ (by decide) rfl g0_z
            replace g1_z := s1404_z 1 _ (by decide) rfl g1_z
            replace g2_z := s1404_z 2 _ (by decide) rfl g2_z
            replace g3_z := s1404_z 3 _ (by decide) rfl g3_z
            replace g4_z := s1404_z 4 _ (by decide) rfl g4_z
            replace g5_z := s1404_z 5 _ (by decide) rfl g5_z
            clear s1404_z s1405_z
            replace hm_z := rn_gotoL (am_cur_of (i := (149, 3, .goto (-48), (62, 0, 0), 0)) (by decide +kernel)) hm_z
            exact bk_t (bk_t bk_r k1399_z) (I62 0 v5_z (v6_z + 1) _ _ g0_z g1_z g2_z g3_z g4_z g5_z g6_z hm_z)
          · replace b1401_z : y.toInt ≤ (rg_v h1397_z 188 3).toInt := b1401_z
            replace hm_z := rn_iconst (w := 1) (am_cur_of (i := (139, 1, .iconst 1, (0, 0, 0), 0)) (by decide +kernel)) (by decide) hm_z
            replace hm_z := rn_goto (am_cur_of (i := (140, 3, .goto 4, (88, 0, 0), 0)) (by decide +kernel)) hm_z
            replace hm_z := rn_istore (am_cur_of (i := (144, 2, .istore 4, (0, 0, 0), 0)) (by decide +kernel)) hm_z
            obtain ⟨_, s1406_z, s1407_z, g4_z, hm_z⟩ := hm_z
            replace g0_z := s1406_z 0 _ (by decide) rfl g0_z
            replace g1_z := s1406_z 1 _ (by decide) rfl g1_z
            replace g2_z := s1406_z 2 _ (by decide) rfl g2_z
            replace g3_z := s1406_z 3 _ (by decide) rfl g3_z
            replace g5_z := s1406_z 5 _ (by decide) rfl g5_z
            replace g6_z := s1406_z 6 _ (by decide) rfl g6_z
            clear s1406_z s1407_z
            replace hm_z := rn_iinc (w := v6_z + 1) (am_cur_of (i := (146, 3, .iinc 6 1, (0, 0, 0), 0)) (by decide +kernel)) g6_z rfl hm_z
            obtain ⟨_, s1408_z, s1409_z, g6_z, hm_z⟩ := hm_z
            replace g0_z := s1408_z 0 _ (by decide) rfl g0_z
            replace g1_z := s1408_z 1 _ (by decide) rfl g1_z
            replace g2_z := s1408_z 2 _ (by decide) rfl g2_z
            replace g3_z := s1408_z 3 _ (by decide) rfl g3_z
            replace g4_z := s1408_z 4 _ (by decide) rfl g4_z
            replace g5_z := s1408_z 5 _ (by decide) rfl g5_z
            clear s1408_z s1409_z
            replace hm_z := rn_gotoL (am_cur_of (i := (149, 3, .goto (-48), (62, 0, 0), 0)) (by decide +kernel)) hm_z
            exact bk_t (bk_t bk_r k1399_z) (I62 1 v5_z (v6_z + 1) _ _ g0_z g1_z g2_z g3_z g4_z g5_z g6_z hm_z)
    have H44 : ∀ (v4_z : Int32) (v5_z : Int32) (ls : am_L) (g : am_H), am_get ls 0 = some (.ref 164) → am_get ls 1 = some (.int 3) → am_get ls 2 = some (.int k) → am_get ls 3 = some (.int y) → am_get ls 4 = some (.int v4_z) → am_get ls 5 = some (.int v5_z) → rn (f + 1) am_m229 44 ls [] g r g' → bk g g' := by
      intro v4_z v5_z ls g g0_z g1_z g2_z g3_z g4_z g5_z hm_z
      have z0_z : (0 : Int32).toInt = 0 := by decide
      replace hm_z := rn_iload (am_cur_of (i := (71, 2, .iload 5, (0, 0, 0), 0)) (by decide +kernel)) g5_z hm_z
      replace hm_z := rn_aload_n (am_cur_of (i := (73, 1, .aload_n 0, (0, 0, 0), 0)) (by decide +kernel)) g0_z hm_z
      replace hm_z := rn_getR (x := 170) (am_cur_of (i := (74, 3, .getfield 30, (12, 25, 1409), 0)) (by decide +kernel)) (by decide +kernel) hm_z
      replace hm_z := rn_bipush (w := 7) (am_cur_of (i := (77, 2, .bipush 7, (0, 0, 0), 0)) (by decide +kernel)) (by decide) hm_z
      replace hm_z := rn_iload_n (am_cur_of (i := (79, 1, .iload_n 2, (0, 0, 0), 0)) (by decide +kernel)) g2_z hm_z
      replace hm_z := rn_imul (w := (7 : Int32) * k) (am_cur_of (i := (80, 1, .imul, (0, 0, 0), 0)) (by decide +kernel)) rfl hm_z
      replace hm_z := rn_iconst (w := 2) (am_cur_of (i := (81, 1, .iconst 2, (0, 0, 0), 0)) (by decide +kernel)) (by decide) hm_z
      replace hm_z := rn_iadd (w := ((7 : Int32) * k) + 2) (am_cur_of (i := (82, 1, .iadd, (0, 0, 0), 0)) (by decide +kernel)) rfl hm_z
      replace hm_z := rn_iaload (N := 56) (q := (((7 : Int32) * k) + 2).toNatClampNeg) (v := rg_v g 170 ((((7 : Int32) * k) + 2).toNatClampNeg)) (am_cur_of (i := (83, 1, .iaload, (0, 0, 0), 0)) (by decide +kernel)) (by decide +kernel) rfl rfl hm_z
      obtain ⟨p1410_z, hm_z⟩ := hm_z
      replace hm_z := rn_cmp (am_cur_of (i := (84, 3, .if_icmp .ge 85, (99, 0, 0), 0)) (by decide +kernel)) hm_z
      rcases hm_z with ⟨b1411_z, hm_z⟩ | ⟨b1411_z, hm_z⟩
      · replace b1411_z : (rg_v g 170 ((((7 : Int32) * k) + 2).toNatClampNeg)).toInt ≤ v5_z.toInt := b1411_z
        exact bk_t bk_r (H99 v4_z _ _ g4_z hm_z)
      · replace b1411_z : v5_z.toInt < (rg_v g 170 ((((7 : Int32) * k) + 2).toNatClampNeg)).toInt := b1411_z
        replace hm_z := rn_iload (am_cur_of (i := (87, 2, .iload 4, (0, 0, 0), 0)) (by decide +kernel)) g4_z hm_z
        replace hm_z := rn_if (am_cur_of (i := (89, 3, .ifCond .eq 80, (99, 0, 0), 0)) (by decide +kernel)) hm_z
        rcases hm_z with ⟨b1412_z, hm_z⟩ | ⟨b1412_z, hm_z⟩
        · replace b1412_z : v4_z = (0 : Int32) ∧ v4_z.toInt = (0 : Int32).toInt := b1412_z
          exact bk_t bk_r (H99 v4_z _ _ g4_z hm_z)
        · replace b1412_z : ¬ v4_z = (0 : Int32) ∧ ¬ v4_z.toInt = (0 : Int32).toInt := b1412_z
          replace hm_z := rn_aload_n (am_cur_of (i := (92, 1, .aload_n 0, (0, 0, 0), 0)) (by decide +kernel)) g0_z hm_z
          replace hm_z := rn_iload_n (am_cur_of (i := (93, 1, .iload_n 1, (0, 0, 0), 0)) (by decide +kernel)) g1_z hm_z
          replace hm_z := rn_iload_n (am_cur_of (i := (94, 1, .iload_n 2, (0, 0, 0), 0)) (by decide +kernel)) g2_z hm_z
          replace hm_z := rn_callV (M' := am_m204) (o := 164) (ar := [.int k, .int 3]) (rest := []) (L := lv_args 0 [.ref 164, .int 3, .int k]) (am_cur_of (i := (95, 3, .invokevirtual 413, (204, 1847, 3), 0)) (by decide +kernel)) rfl rfl rfl rfl hm_z
          obtain ⟨r1413_z, h1414_z, q1415_z, hm_z⟩ := hm_z
          have k1416_z := fk_204_3 k0_z q1415_z
          have vo := rn_void rfl q1415_z
          subst vo
          replace hm_z : rn _ _ _ _ [] _ _ _ := hm_z
          replace hm_z := rn_iconst (w := 0) (am_cur_of (i := (98, 1, .iconst 0, (0, 0, 0), 0)) (by decide +kernel)) (by decide) hm_z
          replace hm_z := rn_istore (am_cur_of (i := (99, 2, .istore 6, (0, 0, 0), 0)) (by decide +kernel)) hm_z
          obtain ⟨_, s1417_z, s1418_z, g6_z, hm_z⟩ := hm_z
          replace g0_z := s1417_z 0 _ (by decide) rfl g0_z
          replace g1_z := s1417_z 1 _ (by decide) rfl g1_z
          replace g2_z := s1417_z 2 _ (by decide) rfl g2_z
          replace g3_z := s1417_z 3 _ (by decide) rfl g3_z
          replace g4_z := s1417_z 4 _ (by decide) rfl g4_z
          replace g5_z := s1417_z 5 _ (by decide) rfl g5_z
          clear s1417_z s1418_z
          exact bk_t (bk_t bk_r k1416_z) (H62 v4_z v5_z 0 _ _ g0_z g1_z g2_z g3_z g4_z g5_z g6_z hm_z)
    have H42 : ∀ (v4_z : Int32) (ls : am_L) (g : am_H), am_get ls 0 = some (.ref 164) → am_get ls 1 = some (.int 3) → am_get ls 2 = some (.int k) → am_get ls 3 = some (.int y) → am_get ls 4 = some (.int v4_z) → rn (f + 1) am_m229 42 ls [] g r g' → bk g g' := by
      intro v4_z ls g g0_z g1_z g2_z g3_z g4_z hm_z
      replace hm_z := rn_iconst (w := 0) (am_cur_of (i := (68, 1, .iconst 0, (0, 0, 0), 0)) (by decide +kernel)) (by decide) hm_z
      replace hm_z := rn_istore (am_cur_of (i := (69, 2, .istore 5, (0, 0, 0), 0)) (by decide +kernel)) hm_z
      obtain ⟨_, s1419_z, s1420_z, g5_z, hm_z⟩ := hm_z
      replace g0_z := s1419_z 0 _ (by decide) rfl g0_z
      replace g1_z := s1419_z 1 _ (by decide) rfl g1_z
      replace g2_z := s1419_z 2 _ (by decide) rfl g2_z
      replace g3_z := s1419_z 3 _ (by decide) rfl g3_z
      replace g4_z := s1419_z 4 _ (by decide) rfl g4_z
      clear s1419_z s1420_z
      exact bk_t bk_r (H44 v4_z 0 _ _ g0_z g1_z g2_z g3_z g4_z g5_z hm_z)
    have H13 : ∀ (v4_z : Int32) (v5_z : Int32) (ls : am_L) (g : am_H), am_get ls 0 = some (.ref 164) → am_get ls 1 = some (.int 3) → am_get ls 2 = some (.int k) → am_get ls 3 = some (.int y) → am_get ls 4 = some (.int v4_z) → am_get ls 5 = some (.int v5_z) → rn (f + 1) am_m229 13 ls [] g r g' → bk g g' := by
      intro v4_z v5_z ls g g0_z g1_z g2_z g3_z g4_z g5_z hm_z
      have z0_z : (0 : Int32).toInt = 0 := by decide
      replace hm_z := rn_iload (am_cur_of (i := (17, 2, .iload 5, (0, 0, 0), 0)) (by decide +kernel)) g5_z hm_z
      replace hm_z := rn_aload_n (am_cur_of (i := (19, 1, .aload_n 0, (0, 0, 0), 0)) (by decide +kernel)) g0_z hm_z
      replace hm_z := rn_getR (x := 170) (am_cur_of (i := (20, 3, .getfield 30, (12, 25, 1409), 0)) (by decide +kernel)) (by decide +kernel) hm_z
      replace hm_z := rn_bipush (w := 7) (am_cur_of (i := (23, 2, .bipush 7, (0, 0, 0), 0)) (by decide +kernel)) (by decide) hm_z
      replace hm_z := rn_iload_n (am_cur_of (i := (25, 1, .iload_n 2, (0, 0, 0), 0)) (by decide +kernel)) g2_z hm_z
      replace hm_z := rn_imul (w := (7 : Int32) * k) (am_cur_of (i := (26, 1, .imul, (0, 0, 0), 0)) (by decide +kernel)) rfl hm_z
      replace hm_z := rn_iconst (w := 5) (am_cur_of (i := (27, 1, .iconst 5, (0, 0, 0), 0)) (by decide +kernel)) (by decide) hm_z
      replace hm_z := rn_iadd (w := ((7 : Int32) * k) + 5) (am_cur_of (i := (28, 1, .iadd, (0, 0, 0), 0)) (by decide +kernel)) rfl hm_z
      replace hm_z := rn_iaload (N := 56) (q := (((7 : Int32) * k) + 5).toNatClampNeg) (v := rg_v g 170 ((((7 : Int32) * k) + 5).toNatClampNeg)) (am_cur_of (i := (29, 1, .iaload, (0, 0, 0), 0)) (by decide +kernel)) (by decide +kernel) rfl rfl hm_z
      obtain ⟨p1421_z, hm_z⟩ := hm_z
      replace hm_z := rn_cmp (am_cur_of (i := (30, 3, .if_icmp .ge 38, (42, 0, 0), 0)) (by decide +kernel)) hm_z
      rcases hm_z with ⟨b1422_z, hm_z⟩ | ⟨b1422_z, hm_z⟩
      · replace b1422_z : (rg_v g 170 ((((7 : Int32) * k) + 5).toNatClampNeg)).toInt ≤ v5_z.toInt := b1422_z
        exact bk_t bk_r (H42 v4_z _ _ g0_z g1_z g2_z g3_z g4_z hm_z)
      · replace b1422_z : v5_z.toInt < (rg_v g 170 ((((7 : Int32) * k) + 5).toNatClampNeg)).toInt := b1422_z
        replace hm_z := rn_iload (am_cur_of (i := (33, 2, .iload 4, (0, 0, 0), 0)) (by decide +kernel)) g4_z hm_z
        replace hm_z := rn_if (am_cur_of (i := (35, 3, .ifCond .eq 33, (42, 0, 0), 0)) (by decide +kernel)) hm_z
        rcases hm_z with ⟨b1423_z, hm_z⟩ | ⟨b1423_z, hm_z⟩
        · replace b1423_z : v4_z = (0 : Int32) ∧ v4_z.toInt = (0 : Int32).toInt := b1423_z
          exact bk_t bk_r (H42 v4_z _ _ g0_z g1_z g2_z g3_z g4_z hm_z)
        · replace b1423_z : ¬ v4_z = (0 : Int32) ∧ ¬ v4_z.toInt = (0 : Int32).toInt := b1423_z
          replace hm_z := rn_aload_n (am_cur_of (i := (38, 1, .aload_n 0, (0, 0, 0), 0)) (by decide +kernel)) g0_z hm_z
          replace hm_z := rn_iload_n (am_cur_of (i := (39, 1, .iload_n 1, (0, 0, 0), 0)) (by decide +kernel)) g1_z hm_z
          replace hm_z := rn_iconst (w := 1) (am_cur_of (i := (40, 1, .iconst 1, (0, 0, 0), 0)) (by decide +kernel)) (by decide) hm_z
          replace hm_z := rn_iconst (w := 0) (am_cur_of (i := (41, 1, .iconst 0, (0, 0, 0), 0)) (by decide +kernel)) (by decide) hm_z
          replace hm_z := rn_callV (M' := am_m199) (o := 164) (ar := [.int 0, .int 1, .int 3]) (rest := []) (L := lv_args 0 [.ref 164, .int 3, .int 1, .int 0]) (am_cur_of (i := (42, 3, .invokevirtual 434, (199, 1828, 3), 0)) (by decide +kernel)) rfl rfl rfl rfl hm_z
          obtain ⟨r1424_z, h1425_z, q1426_z, hm_z⟩ := hm_z
          have k1427_z := fk_199_3 q1426_z
          have vo := rn_void rfl q1426_z
          subst vo
          replace hm_z : rn _ _ _ _ [] _ _ _ := hm_z
          replace hm_z := rn_aload_n (am_cur_of (i := (45, 1, .aload_n 0, (0, 0, 0), 0)) (by decide +kernel)) g0_z hm_z
          replace hm_z := rn_getR (x := 188) (am_cur_of (i := (46, 3, .getfield 85, (12, 50, 1434), 0)) (by decide +kernel)) (by decide +kernel) hm_z
          replace hm_z := rn_iload_n (am_cur_of (i := (49, 1, .iload_n 1, (0, 0, 0), 0)) (by decide +kernel)) g1_z hm_z
          replace hm_z := rn_iaload (N := 4) (q := 3) (v := rg_v h1425_z 188 3) (am_cur_of (i := (50, 1, .iaload, (0, 0, 0), 0)) (by decide +kernel)) (by decide +kernel) rfl rfl hm_z
          obtain ⟨p1428_z, hm_z⟩ := hm_z
          replace hm_z := rn_iload_n (am_cur_of (i := (51, 1, .iload_n 3, (0, 0, 0), 0)) (by decide +kernel)) g3_z hm_z
          replace hm_z := rn_cmp (am_cur_of (i := (52, 3, .if_icmp .lt 7, (38, 0, 0), 0)) (by decide +kernel)) hm_z
          rcases hm_z with ⟨b1429_z, hm_z⟩ | ⟨b1429_z, hm_z⟩
          · replace b1429_z : (rg_v h1425_z 188 3).toInt < y.toInt := b1429_z
            replace hm_z := rn_iconst (w := 0) (am_cur_of (i := (59, 1, .iconst 0, (0, 0, 0), 0)) (by decide +kernel)) (by decide) hm_z
            replace hm_z := rn_istore (am_cur_of (i := (60, 2, .istore 4, (0, 0, 0), 0)) (by decide +kernel)) hm_z
            obtain ⟨_, s1430_z, s1431_z, g4_z, hm_z⟩ := hm_z
            replace g0_z := s1430_z 0 _ (by decide) rfl g0_z
            replace g1_z := s1430_z 1 _ (by decide) rfl g1_z
            replace g2_z := s1430_z 2 _ (by decide) rfl g2_z
            replace g3_z := s1430_z 3 _ (by decide) rfl g3_z
            replace g5_z := s1430_z 5 _ (by decide) rfl g5_z
            clear s1430_z s1431_z
            replace hm_z := rn_iinc (w := v5_z + 1) (am_cur_of (i := (62, 3, .iinc 5 1, (0, 0, 0), 0)) (by decide +kernel)) g5_z rfl hm_z
            obtain ⟨_, s1432_z, s1433_z, g5_z, hm_z⟩ := hm_z
            replace g0_z := s1432_z 0 _ (by decide) rfl g0_z
            replace g1_z := s1432_z 1 _ (by decide) rfl g1_z
            replace g2_z := s1432_z 2 _ (by decide) rfl g2_z
            replace g3_z := s1432_z 3 _ (by decide) rfl g3_z
            replace g4_z := s1432_z 4 _ (by decide) rfl g4_z
            clear s1432_z s1433_z
            replace hm_z := rn_gotoL (am_cur_of (i := (65, 3, .goto (-48), (13, 0, 0), 0)) (by decide +kernel)) hm_z
            exact bk_t (bk_t bk_r k1427_z) (I13 0 (v5_z + 1) _ _ g0_z g1_z g2_z g3_z g4_z g5_z hm_z)
          · replace b1429_z : y.toInt ≤ (rg_v h1425_z 188 3).toInt := b1429_z
            replace hm_z := rn_iconst (w := 1) (am_cur_of (i := (55, 1, .iconst 1, (0, 0, 0), 0)) (by decide +kernel)) (by decide) hm_z
            replace hm_z := rn_goto (am_cur_of (i := (56, 3, .goto 4, (39, 0, 0), 0)) (by decide +kernel)) hm_z
            replace hm_z := rn_istore (am_cur_of (i := (60, 2, .istore 4, (0, 0, 0), 0)) (by decide +kernel)) hm_z
            obtain ⟨_, s1434_z, s1435_z, g4_z, hm_z⟩ := hm_z
            replace g0_z := s1434_z 0 _ (by decide) rfl g0_z
            replace g1_z := s1434_z 1 _ (by decide) rfl g1_z
            replace g2_z := s1434_z 2 _ (by decide) rfl g2_z
            replace g3_z := s1434_z 3 _ (by decide) rfl g3_z
            replace g5_z := s1434_z 5 _ (by decide) rfl g5_z
            clear s1434_z s1435_z
            replace hm_z := rn_iinc (w := v5_z + 1) (am_cur_of (i := (62, 3, .iinc 5 1, (0, 0, 0), 0)) (by decide +kernel)) g5_z rfl hm_z
            obtain ⟨_, s1436_z, s1437_z, g5_z, hm_z⟩ := hm_z
            replace g0_z := s1436_z 0 _ (by decide) rfl g0_z
            replace g1_z := s1436_z 1 _ (by decide) rfl g1_z
            replace g2_z := s1436_z 2 _ (by decide) rfl g2_z
            replace g3_z := s1436_z 3 _ (by decide) rfl g3_z
            replace g4_z := s1436_z 4 _ (by decide) rfl g4_z
            clear s1436_z s1437_z
            replace hm_z := rn_gotoL (am_cur_of (i := (65, 3, .goto (-48), (13, 0, 0), 0)) (by decide +kernel)) hm_z
            exact bk_t (bk_t bk_r k1427_z) (I13 1 (v5_z + 1) _ _ g0_z g1_z g2_z g3_z g4_z g5_z hm_z)
    exact ⟨H13, H42, H44, H62, H91, H97, H99⟩
theorem fk_229_3 {nst : Nat} {r : Option Value} {g g' : am_H} {k : Int32} {y : Int32} (k0_z : 0 ≤ k.toInt) (hm_z : rn nst am_m229 0 (lv_args 0 [.ref 164, .int 3, .int k, .int y]) [] g r g') : bk g g' := by
  have g0_z : am_get (lv_args 0 [.ref 164, .int 3, .int k, .int y]) 0 = some (.ref 164) := rfl
  have g1_z : am_get (lv_args 0 [.ref 164, .int 3, .int k, .int y]) 1 = some (.int 3) := rfl
  have g2_z : am_get (lv_args 0 [.ref 164, .int 3, .int k, .int y]) 2 = some (.int k) := rfl
  have g3_z : am_get (lv_args 0 [.ref 164, .int 3, .int k, .int y]) 3 = some (.int y) := rfl
  replace hm_z := rn_iconst (w := 1) (am_cur_of (i := (0, 1, .iconst 1, (0, 0, 0), 0)) (by decide +kernel)) (by decide) hm_z
  replace hm_z := rn_istore (am_cur_of (i := (1, 2, .istore 4, (0, 0, 0), 0)) (by decide +kernel)) hm_z
  obtain ⟨_, s1438_z, s1439_z, g4_z, hm_z⟩ := hm_z
  replace g0_z := s1438_z 0 _ (by decide) rfl g0_z
  replace g1_z := s1438_z 1 _ (by decide) rfl g1_z
  replace g2_z := s1438_z 2 _ (by decide) rfl g2_z
  replace g3_z := s1438_z 3 _ (by decide) rfl g3_z
  clear s1438_z s1439_z
  replace hm_z := rn_aload_n (am_cur_of (i := (3, 1, .aload_n 0, (0, 0, 0), 0)) (by decide +kernel)) g0_z hm_z
  replace hm_z := rn_getR (x := 191) (am_cur_of (i := (4, 3, .getfield 94, (12, 53, 1437), 0)) (by decide +kernel)) (by decide +kernel) hm_z
  replace hm_z := rn_iconst (w := 4) (am_cur_of (i := (7, 1, .iconst 4, (0, 0, 0), 0)) (by decide +kernel)) (by decide) hm_z
  replace hm_z := rn_iload_n (am_cur_of (i := (8, 1, .iload_n 1, (0, 0, 0), 0)) (by decide +kernel)) g1_z hm_z
  replace hm_z := rn_imul (w := 12) (am_cur_of (i := (9, 1, .imul, (0, 0, 0), 0)) (by decide +kernel)) (by decide) hm_z
  replace hm_z := rn_iload_n (am_cur_of (i := (10, 1, .iload_n 2, (0, 0, 0), 0)) (by decide +kernel)) g2_z hm_z
  replace hm_z := rn_iadd (w := (12 : Int32) + k) (am_cur_of (i := (11, 1, .iadd, (0, 0, 0), 0)) (by decide +kernel)) rfl hm_z
  replace hm_z := rn_iconst (w := 0) (am_cur_of (i := (12, 1, .iconst 0, (0, 0, 0), 0)) (by decide +kernel)) (by decide) hm_z
  replace hm_z := rn_iastore (N := 16) (q := ((12 : Int32) + k).toNatClampNeg) (am_cur_of (i := (13, 1, .iastore, (0, 0, 0), 0)) (by decide +kernel)) (by decide +kernel) rfl hm_z
  obtain ⟨p1440_z, hm_z⟩ := hm_z
  replace hm_z := rn_iconst (w := 0) (am_cur_of (i := (14, 1, .iconst 0, (0, 0, 0), 0)) (by decide +kernel)) (by decide) hm_z
  replace hm_z := rn_istore (am_cur_of (i := (15, 2, .istore 5, (0, 0, 0), 0)) (by decide +kernel)) hm_z
  obtain ⟨_, s1441_z, s1442_z, g5_z, hm_z⟩ := hm_z
  replace g0_z := s1441_z 0 _ (by decide) rfl g0_z
  replace g1_z := s1441_z 1 _ (by decide) rfl g1_z
  replace g2_z := s1441_z 2 _ (by decide) rfl g2_z
  replace g3_z := s1441_z 3 _ (by decide) rfl g3_z
  replace g4_z := s1441_z 4 _ (by decide) rfl g4_z
  clear s1441_z s1442_z
  have H13 := (fk_229_3_L (r := r) (g' := g') (k := k) (y := y) k0_z nst).1
  exact bk_t (bk_u (bk_i (by decide) (bk_4 (by decide) k0_z p1440_z)) bk_r) (H13 1 0 _ _ g0_z g1_z g2_z g3_z g4_z g5_z hm_z)
theorem fk_228_L {r : Option Value} {g' : am_H} {k : Int32} {n : Int32} {y : Int32} {z : Int32} (k0_z : 0 ≤ k.toInt) : ∀ f : Nat, (∀ (v5_z : Int32) (ls : am_L) (g : am_H), am_get ls 0 = some (.ref 164) → am_get ls 1 = some (.int k) → am_get ls 2 = some (.int n) → am_get ls 3 = some (.int y) → am_get ls 4 = some (.int z) → am_get ls 5 = some (.int v5_z) → rn f am_m228 20 ls [] g r g' → bk g g') ∧ (∀ (v5_z : Int32) (v6_z : Int32) (ls : am_L) (g : am_H), am_get ls 0 = some (.ref 164) → am_get ls 1 = some (.int k) → am_get ls 2 = some (.int n) → am_get ls 3 = some (.int y) → am_get ls 4 = some (.int z) → am_get ls 5 = some (.int v5_z) → am_get ls 6 = some (.int v6_z) → rn f am_m228 75 ls [] g r g' → bk g g') ∧ (∀ (ls : am_L) (g : am_H), am_get ls 0 = some (.ref 164) → am_get ls 1 = some (.int k) → am_get ls 2 = some (.int n) → am_get ls 3 = some (.int y) → am_get ls 4 = some (.int z) → rn f am_m228 98 ls [] g r g' → bk g g') ∧ (∀ (v5_z : Int32) (ls : am_L) (g : am_H), am_get ls 0 = some (.ref 164) → am_get ls 5 = some (.int v5_z) → rn f am_m228 111 ls [] g r g' → bk g g') ∧ (∀ (ls : am_L) (g : am_H), rn f am_m228 116 ls [] g r g' → bk g g') := by
  intro f
  induction f with
  | zero =>
    exact ⟨fun _ _ _ _ _ _ _ _ _ hm_z => absurd hm_z rn_0, fun _ _ _ _ _ _ _ _ _ _ _ hm_z => absurd hm_z rn_0, fun _ _ _ _ _ _ _ hm_z => absurd hm_z rn_0, fun _ _ _ _ _ hm_z => absurd hm_z rn_0, fun _ _ hm_z => absurd hm_z rn_0⟩
  | succ f ih_z =>
    obtain ⟨I20, I75, I98, I111, I116⟩ := ih_z
    have H116 : ∀ (ls : am_L) (g : am_H), rn (f + 1) am_m228 116 ls [] g r g' → bk g g' := by
      intro ls g hm_z
      replace hm_z := rn_vret (am_cur_of (i := (199, 1, .return_, (0, 0, 0), 0)) (by decide +kernel)) hm_z
      obtain ⟨e1443_z, e1444_z⟩ := hm_z
      rw [e1444_z]
      exact bk_r
    have H111 : ∀ (v5_z : Int32) (ls : am_L) (g : am_H), am_get ls 0 = some (.ref 164) → am_get ls 5 = some (.int v5_z) → rn (f + 1) am_m228 111 ls [] g r g' → bk g g' := by
      intro v5_z ls g g0_z g5_z hm_z
      have z0_z : (0 : Int32).toInt = 0 := by decide
      replace hm_z := rn_iload (am_cur_of (i := (188, 2, .iload 5, (0, 0, 0), 0)) (by decide +kernel)) g5_z hm_z
      replace hm_z := rn_if (am_cur_of (i := (190, 3, .ifCond .ne 9, (116, 0, 0), 0)) (by decide +kernel)) hm_z
      rcases hm_z with ⟨b1445_z, hm_z⟩ | ⟨b1445_z, hm_z⟩
      · replace b1445_z : ¬ v5_z = (0 : Int32) ∧ ¬ v5_z.toInt = (0 : Int32).toInt := b1445_z
        exact bk_t bk_r (H116 _ _ hm_z)
      · replace b1445_z : v5_z = (0 : Int32) ∧ v5_z.toInt = (0 : Int32).toInt := b1445_z
        replace hm_z := rn_aload_n (am_cur_of (i := (193, 1, .aload_n 0, (0, 0, 0), 0)) (by decide +kernel)) g0_z hm_z
        replace hm_z := rn_bipush (w := (-2)) (am_cur_of (i := (194, 2, .bipush (-2), (0, 0, 0), 0)) (by decide +kernel)) (by decide) hm_z
        replace hm_z := rn_put (am_cur_of (i := (196, 3, .putfield 492, (12, 69, 1453), 0)) (by decide +kernel)) (by decide +kernel) hm_z
        exact bk_t (bk_u (by decide) bk_r) (H116 _ _ hm_z)
    have H98 : ∀ (ls : am_L) (g : am_H), am_get ls 0 = some (.ref 164) → am_get ls 1 = some (.int k) → am_get ls 2 = some (.int n) → am_get ls 3 = some (.int y) → am_get ls 4 = some (.int z) → rn (f + 1) am_m228 98 ls [] g r g' → bk g g' := by
      intro ls g g0_z g1_z g2_z g3_z g4_z hm_z
      replace hm_z := rn_aload_n (am_cur_of (i := (166, 1, .aload_n 0, (0, 0, 0), 0)) (by decide +kernel)) g0_z hm_z
      replace hm_z := rn_dup (am_cur_of (i := (167, 1, .dup, (0, 0, 0), 0)) (by decide +kernel)) hm_z
      replace hm_z := rn_getI (v := rg_v g 164 69) (am_cur_of (i := (168, 3, .getfield 492, (12, 69, 1453), 0)) (by decide +kernel)) (by decide +kernel) rfl hm_z
      replace hm_z := rn_iconst (w := 1) (am_cur_of (i := (171, 1, .iconst 1, (0, 0, 0), 0)) (by decide +kernel)) (by decide) hm_z
      replace hm_z := rn_iadd (w := (rg_v g 164 69) + 1) (am_cur_of (i := (172, 1, .iadd, (0, 0, 0), 0)) (by decide +kernel)) rfl hm_z
      replace hm_z := rn_put (am_cur_of (i := (173, 3, .putfield 492, (12, 69, 1453), 0)) (by decide +kernel)) (by decide +kernel) hm_z
      replace hm_z := rn_aload_n (am_cur_of (i := (176, 1, .aload_n 0, (0, 0, 0), 0)) (by decide +kernel)) g0_z hm_z
      replace hm_z := rn_iconst (w := 1) (am_cur_of (i := (177, 1, .iconst 1, (0, 0, 0), 0)) (by decide +kernel)) (by decide) hm_z
      replace hm_z := rn_iload_n (am_cur_of (i := (178, 1, .iload_n 1, (0, 0, 0), 0)) (by decide +kernel)) g1_z hm_z
      replace hm_z := rn_iload_n (am_cur_of (i := (179, 1, .iload_n 3, (0, 0, 0), 0)) (by decide +kernel)) g3_z hm_z
      replace hm_z := rn_callV (M' := am_m229) (o := 164) (ar := [.int y, .int k, .int 1]) (rest := []) (L := lv_args 0 [.ref 164, .int 1, .int k, .int y]) (am_cur_of (i := (180, 3, .invokevirtual 498, (229, 1946, 3), 0)) (by decide +kernel)) rfl rfl rfl rfl hm_z
      obtain ⟨r1446_z, h1447_z, q1448_z, hm_z⟩ := hm_z
      have k1449_z := fk_229_1 k0_z q1448_z
      obtain ⟨v1450_z, rfl⟩ := rn_ret (M := am_m229) rfl (by decide) q1448_z
      replace hm_z : rn _ _ _ _ [.int v1450_z] _ _ _ := hm_z
      replace hm_z := rn_istore (am_cur_of (i := (183, 2, .istore 5, (0, 0, 0), 0)) (by decide +kernel)) hm_z
      obtain ⟨_, s1451_z, s1452_z, g5_z, hm_z⟩ := hm_z
      replace g0_z := s1451_z 0 _ (by decide) rfl g0_z
      replace g1_z := s1451_z 1 _ (by decide) rfl g1_z
      replace g2_z := s1451_z 2 _ (by decide) rfl g2_z
      replace g3_z := s1451_z 3 _ (by decide) rfl g3_z
      replace g4_z := s1451_z 4 _ (by decide) rfl g4_z
      clear s1451_z s1452_z
      replace hm_z := rn_gotoL (am_cur_of (i := (185, 3, .goto (-151), (20, 0, 0), 0)) (by decide +kernel)) hm_z
      exact bk_t (bk_t (bk_u (by decide) bk_r) k1449_z) (I20 v1450_z _ _ g0_z g1_z g2_z g3_z g4_z g5_z hm_z)
    have H75 : ∀ (v5_z : Int32) (v6_z : Int32) (ls : am_L) (g : am_H), am_get ls 0 = some (.ref 164) → am_get ls 1 = some (.int k) → am_get ls 2 = some (.int n) → am_get ls 3 = some (.int y) → am_get ls 4 = some (.int z) → am_get ls 5 = some (.int v5_z) → am_get ls 6 = some (.int v6_z) → rn (f + 1) am_m228 75 ls [] g r g' → bk g g' := by
      intro v5_z v6_z ls g g0_z g1_z g2_z g3_z g4_z g5_z g6_z hm_z
      have z0_z : (0 : Int32).toInt = 0 := by decide
      replace hm_z := rn_iload (am_cur_of (i := (125, 2, .iload 6, (0, 0, 0), 0)) (by decide +kernel)) g6_z hm_z
      replace hm_z := rn_if (am_cur_of (i := (127, 3, .ifCond .ne 13, (83, 0, 0), 0)) (by decide +kernel)) hm_z
      rcases hm_z with ⟨b1453_z, hm_z⟩ | ⟨b1453_z, hm_z⟩
      · replace b1453_z : ¬ v6_z = (0 : Int32) ∧ ¬ v6_z.toInt = (0 : Int32).toInt := b1453_z
        replace hm_z := rn_aload_n (am_cur_of (i := (140, 1, .aload_n 0, (0, 0, 0), 0)) (by decide +kernel)) g0_z hm_z
        replace hm_z := rn_getI (v := rg_v g 164 69) (am_cur_of (i := (141, 3, .getfield 492, (12, 69, 1453), 0)) (by decide +kernel)) (by decide +kernel) rfl hm_z
        replace hm_z := rn_iload (am_cur_of (i := (144, 2, .iload 4, (0, 0, 0), 0)) (by decide +kernel)) g4_z hm_z
        replace hm_z := rn_cmp (am_cur_of (i := (146, 3, .if_icmp .ne 20, (98, 0, 0), 0)) (by decide +kernel)) hm_z
        rcases hm_z with ⟨b1454_z, hm_z⟩ | ⟨b1454_z, hm_z⟩
        · replace b1454_z : ¬ (rg_v g 164 69) = z ∧ ¬ (rg_v g 164 69).toInt = z.toInt := b1454_z
          exact bk_t bk_r (H98 _ _ g0_z g1_z g2_z g3_z g4_z hm_z)
        · replace b1454_z : (rg_v g 164 69) = z ∧ (rg_v g 164 69).toInt = z.toInt := b1454_z
          replace hm_z := rn_aload_n (am_cur_of (i := (149, 1, .aload_n 0, (0, 0, 0), 0)) (by decide +kernel)) g0_z hm_z
          replace hm_z := rn_aload_n (am_cur_of (i := (150, 1, .aload_n 0, (0, 0, 0), 0)) (by decide +kernel)) g0_z hm_z
          replace hm_z := rn_getR (x := 189) (am_cur_of (i := (151, 3, .getfield 88, (12, 51, 1435), 0)) (by decide +kernel)) (by decide +kernel) hm_z
          replace hm_z := rn_iconst (w := 1) (am_cur_of (i := (154, 1, .iconst 1, (0, 0, 0), 0)) (by decide +kernel)) (by decide) hm_z
          replace hm_z := rn_iaload (N := 4) (q := 1) (v := rg_v g 189 1) (am_cur_of (i := (155, 1, .iaload, (0, 0, 0), 0)) (by decide +kernel)) (by decide +kernel) rfl rfl hm_z
          obtain ⟨p1455_z, hm_z⟩ := hm_z
          replace hm_z := rn_aload_n (am_cur_of (i := (156, 1, .aload_n 0, (0, 0, 0), 0)) (by decide +kernel)) g0_z hm_z
          replace hm_z := rn_getR (x := 189) (am_cur_of (i := (157, 3, .getfield 88, (12, 51, 1435), 0)) (by decide +kernel)) (by decide +kernel) hm_z
          replace hm_z := rn_iconst (w := 0) (am_cur_of (i := (160, 1, .iconst 0, (0, 0, 0), 0)) (by decide +kernel)) (by decide) hm_z
          replace hm_z := rn_iaload (N := 4) (q := 0) (v := rg_v g 189 0) (am_cur_of (i := (161, 1, .iaload, (0, 0, 0), 0)) (by decide +kernel)) (by decide +kernel) rfl rfl hm_z
          obtain ⟨p1456_z, hm_z⟩ := hm_z
          replace hm_z := rn_isub (w := (rg_v g 189 1) - (rg_v g 189 0)) (am_cur_of (i := (162, 1, .isub, (0, 0, 0), 0)) (by decide +kernel)) rfl hm_z
          replace hm_z := rn_put (am_cur_of (i := (163, 3, .putfield 495, (12, 70, 1454), 0)) (by decide +kernel)) (by decide +kernel) hm_z
          exact bk_t (bk_u (by decide) bk_r) (H98 _ _ g0_z g1_z g2_z g3_z g4_z hm_z)
      · replace b1453_z : v6_z = (0 : Int32) ∧ v6_z.toInt = (0 : Int32).toInt := b1453_z
        replace hm_z := rn_aload_n (am_cur_of (i := (130, 1, .aload_n 0, (0, 0, 0), 0)) (by decide +kernel)) g0_z hm_z
        replace hm_z := rn_iconst (w := 1) (am_cur_of (i := (131, 1, .iconst 1, (0, 0, 0), 0)) (by decide +kernel)) (by decide) hm_z
        replace hm_z := rn_iconst (w := 0) (am_cur_of (i := (132, 1, .iconst 0, (0, 0, 0), 0)) (by decide +kernel)) (by decide) hm_z
        replace hm_z := rn_iconst (w := 0) (am_cur_of (i := (133, 1, .iconst 0, (0, 0, 0), 0)) (by decide +kernel)) (by decide) hm_z
        replace hm_z := rn_callV (M' := am_m199) (o := 164) (ar := [.int 0, .int 0, .int 1]) (rest := []) (L := lv_args 0 [.ref 164, .int 1, .int 0, .int 0]) (am_cur_of (i := (134, 3, .invokevirtual 434, (199, 1828, 3), 0)) (by decide +kernel)) rfl rfl rfl rfl hm_z
        obtain ⟨r1457_z, h1458_z, q1459_z, hm_z⟩ := hm_z
        have k1460_z := fk_199_1 q1459_z
        have vo := rn_void rfl q1459_z
        subst vo
        replace hm_z : rn _ _ _ _ [] _ _ _ := hm_z
        replace hm_z := rn_gotoL (am_cur_of (i := (137, 3, .goto (-103), (20, 0, 0), 0)) (by decide +kernel)) hm_z
        exact bk_t (bk_t bk_r k1460_z) (I20 v5_z _ _ g0_z g1_z g2_z g3_z g4_z g5_z hm_z)
    have H20 : ∀ (v5_z : Int32) (ls : am_L) (g : am_H), am_get ls 0 = some (.ref 164) → am_get ls 1 = some (.int k) → am_get ls 2 = some (.int n) → am_get ls 3 = some (.int y) → am_get ls 4 = some (.int z) → am_get ls 5 = some (.int v5_z) → rn (f + 1) am_m228 20 ls [] g r g' → bk g g' := by
      intro v5_z ls g g0_z g1_z g2_z g3_z g4_z g5_z hm_z
      have z0_z : (0 : Int32).toInt = 0 := by decide
      replace hm_z := rn_iload (am_cur_of (i := (34, 2, .iload 5, (0, 0, 0), 0)) (by decide +kernel)) g5_z hm_z
      replace hm_z := rn_if (am_cur_of (i := (36, 3, .ifCond .eq 152, (111, 0, 0), 0)) (by decide +kernel)) hm_z
      rcases hm_z with ⟨b1461_z, hm_z⟩ | ⟨b1461_z, hm_z⟩
      · replace b1461_z : v5_z = (0 : Int32) ∧ v5_z.toInt = (0 : Int32).toInt := b1461_z
        exact bk_t bk_r (H111 v5_z _ _ g0_z g5_z hm_z)
      · replace b1461_z : ¬ v5_z = (0 : Int32) ∧ ¬ v5_z.toInt = (0 : Int32).toInt := b1461_z
        replace hm_z := rn_aload_n (am_cur_of (i := (39, 1, .aload_n 0, (0, 0, 0), 0)) (by decide +kernel)) g0_z hm_z
        replace hm_z := rn_getR (x := 189) (am_cur_of (i := (40, 3, .getfield 88, (12, 51, 1435), 0)) (by decide +kernel)) (by decide +kernel) hm_z
        replace hm_z := rn_iconst (w := 1) (am_cur_of (i := (43, 1, .iconst 1, (0, 0, 0), 0)) (by decide +kernel)) (by decide) hm_z
        replace hm_z := rn_iaload (N := 4) (q := 1) (v := rg_v g 189 1) (am_cur_of (i := (44, 1, .iaload, (0, 0, 0), 0)) (by decide +kernel)) (by decide +kernel) rfl rfl hm_z
        obtain ⟨p1462_z, hm_z⟩ := hm_z
        replace hm_z := rn_aload_n (am_cur_of (i := (45, 1, .aload_n 0, (0, 0, 0), 0)) (by decide +kernel)) g0_z hm_z
        replace hm_z := rn_getR (x := 189) (am_cur_of (i := (46, 3, .getfield 88, (12, 51, 1435), 0)) (by decide +kernel)) (by decide +kernel) hm_z
        replace hm_z := rn_iconst (w := 0) (am_cur_of (i := (49, 1, .iconst 0, (0, 0, 0), 0)) (by decide +kernel)) (by decide) hm_z
        replace hm_z := rn_iaload (N := 4) (q := 0) (v := rg_v g 189 0) (am_cur_of (i := (50, 1, .iaload, (0, 0, 0), 0)) (by decide +kernel)) (by decide +kernel) rfl rfl hm_z
        obtain ⟨p1463_z, hm_z⟩ := hm_z
        replace hm_z := rn_isub (w := (rg_v g 189 1) - (rg_v g 189 0)) (am_cur_of (i := (51, 1, .isub, (0, 0, 0), 0)) (by decide +kernel)) rfl hm_z
        replace hm_z := rn_iload_n (am_cur_of (i := (52, 1, .iload_n 2, (0, 0, 0), 0)) (by decide +kernel)) g2_z hm_z
        replace hm_z := rn_cmp (am_cur_of (i := (53, 3, .if_icmp .ge 135, (111, 0, 0), 0)) (by decide +kernel)) hm_z
        rcases hm_z with ⟨b1464_z, hm_z⟩ | ⟨b1464_z, hm_z⟩
        · replace b1464_z : n.toInt ≤ ((rg_v g 189 1) - (rg_v g 189 0)).toInt := b1464_z
          exact bk_t bk_r (H111 v5_z _ _ g0_z g5_z hm_z)
        · replace b1464_z : ((rg_v g 189 1) - (rg_v g 189 0)).toInt < n.toInt := b1464_z
          replace hm_z := rn_aload_n (am_cur_of (i := (56, 1, .aload_n 0, (0, 0, 0), 0)) (by decide +kernel)) g0_z hm_z
          replace hm_z := rn_iconst (w := 3) (am_cur_of (i := (57, 1, .iconst 3, (0, 0, 0), 0)) (by decide +kernel)) (by decide) hm_z
          replace hm_z := rn_iconst (w := 1) (am_cur_of (i := (58, 1, .iconst 1, (0, 0, 0), 0)) (by decide +kernel)) (by decide) hm_z
          replace hm_z := rn_callV (M' := am_m197) (o := 164) (ar := [.int 1, .int 3]) (rest := []) (L := lv_args 0 [.ref 164, .int 3, .int 1]) (am_cur_of (i := (59, 3, .invokevirtual 428, (197, 1820, 3), 0)) (by decide +kernel)) rfl rfl rfl rfl hm_z
          obtain ⟨r1465_z, h1466_z, q1467_z, hm_z⟩ := hm_z
          have k1468_z := fk_197_3_1 q1467_z
          have vo := rn_void rfl q1467_z
          subst vo
          replace hm_z : rn _ _ _ _ [] _ _ _ := hm_z
          replace hm_z := rn_aload_n (am_cur_of (i := (62, 1, .aload_n 0, (0, 0, 0), 0)) (by decide +kernel)) g0_z hm_z
          replace hm_z := rn_iconst (w := 3) (am_cur_of (i := (63, 1, .iconst 3, (0, 0, 0), 0)) (by decide +kernel)) (by decide) hm_z
          replace hm_z := rn_iconst (w := 0) (am_cur_of (i := (64, 1, .iconst 0, (0, 0, 0), 0)) (by decide +kernel)) (by decide) hm_z
          replace hm_z := rn_iconst (w := 0) (am_cur_of (i := (65, 1, .iconst 0, (0, 0, 0), 0)) (by decide +kernel)) (by decide) hm_z
          replace hm_z := rn_callV (M' := am_m199) (o := 164) (ar := [.int 0, .int 0, .int 3]) (rest := []) (L := lv_args 0 [.ref 164, .int 3, .int 0, .int 0]) (am_cur_of (i := (66, 3, .invokevirtual 434, (199, 1828, 3), 0)) (by decide +kernel)) rfl rfl rfl rfl hm_z
          obtain ⟨r1469_z, h1470_z, q1471_z, hm_z⟩ := hm_z
          have k1472_z := fk_199_3 q1471_z
          have vo := rn_void rfl q1471_z
          subst vo
          replace hm_z : rn _ _ _ _ [] _ _ _ := hm_z
          replace hm_z := rn_aload_n (am_cur_of (i := (69, 1, .aload_n 0, (0, 0, 0), 0)) (by decide +kernel)) g0_z hm_z
          replace hm_z := rn_getR (x := 188) (am_cur_of (i := (70, 3, .getfield 85, (12, 50, 1434), 0)) (by decide +kernel)) (by decide +kernel) hm_z
          replace hm_z := rn_iconst (w := 3) (am_cur_of (i := (73, 1, .iconst 3, (0, 0, 0), 0)) (by decide +kernel)) (by decide) hm_z
          replace hm_z := rn_iaload (N := 4) (q := 3) (v := rg_v h1470_z 188 3) (am_cur_of (i := (74, 1, .iaload, (0, 0, 0), 0)) (by decide +kernel)) (by decide +kernel) rfl rfl hm_z
          obtain ⟨p1473_z, hm_z⟩ := hm_z
          replace hm_z := rn_iload_n (am_cur_of (i := (75, 1, .iload_n 3, (0, 0, 0), 0)) (by decide +kernel)) g3_z hm_z
          replace hm_z := rn_cmp (am_cur_of (i := (76, 3, .if_icmp .ge 7, (50, 0, 0), 0)) (by decide +kernel)) hm_z
          rcases hm_z with ⟨b1474_z, hm_z⟩ | ⟨b1474_z, hm_z⟩
          · replace b1474_z : y.toInt ≤ (rg_v h1470_z 188 3).toInt := b1474_z
            replace hm_z := rn_iconst (w := 0) (am_cur_of (i := (83, 1, .iconst 0, (0, 0, 0), 0)) (by decide +kernel)) (by decide) hm_z
            replace hm_z := rn_istore (am_cur_of (i := (84, 2, .istore 6, (0, 0, 0), 0)) (by decide +kernel)) hm_z
            obtain ⟨_, s1475_z, s1476_z, g6_z, hm_z⟩ := hm_z
            replace g0_z := s1475_z 0 _ (by decide) rfl g0_z
            replace g1_z := s1475_z 1 _ (by decide) rfl g1_z
            replace g2_z := s1475_z 2 _ (by decide) rfl g2_z
            replace g3_z := s1475_z 3 _ (by decide) rfl g3_z
            replace g4_z := s1475_z 4 _ (by decide) rfl g4_z
            replace g5_z := s1475_z 5 _ (by decide) rfl g5_z
            clear s1475_z s1476_z
            replace hm_z := rn_iload (am_cur_of (i := (86, 2, .iload 6, (0, 0, 0), 0)) (by decide +kernel)) g6_z hm_z
            replace hm_z := rn_ifF (am_cur_of (i := (88, 3, .ifCond .ne 37, (75, 0, 0), 0)) (by decide +kernel)) (by decide) hm_z
            replace hm_z := rn_aload_n (am_cur_of (i := (91, 1, .aload_n 0, (0, 0, 0), 0)) (by decide +kernel)) g0_z hm_z
            replace hm_z := rn_getR (x := 189) (am_cur_of (i := (92, 3, .getfield 88, (12, 51, 1435), 0)) (by decide +kernel)) (by decide +kernel) hm_z
            replace hm_z := rn_iconst (w := 3) (am_cur_of (i := (95, 1, .iconst 3, (0, 0, 0), 0)) (by decide +kernel)) (by decide) hm_z
            replace hm_z := rn_iaload (N := 4) (q := 3) (v := rg_v h1470_z 189 3) (am_cur_of (i := (96, 1, .iaload, (0, 0, 0), 0)) (by decide +kernel)) (by decide +kernel) rfl rfl hm_z
            obtain ⟨p1477_z, hm_z⟩ := hm_z
            replace hm_z := rn_aload_n (am_cur_of (i := (97, 1, .aload_n 0, (0, 0, 0), 0)) (by decide +kernel)) g0_z hm_z
            replace hm_z := rn_getR (x := 189) (am_cur_of (i := (98, 3, .getfield 88, (12, 51, 1435), 0)) (by decide +kernel)) (by decide +kernel) hm_z
            replace hm_z := rn_iconst (w := 0) (am_cur_of (i := (101, 1, .iconst 0, (0, 0, 0), 0)) (by decide +kernel)) (by decide) hm_z
            replace hm_z := rn_iaload (N := 4) (q := 0) (v := rg_v h1470_z 189 0) (am_cur_of (i := (102, 1, .iaload, (0, 0, 0), 0)) (by decide +kernel)) (by decide +kernel) rfl rfl hm_z
            obtain ⟨p1478_z, hm_z⟩ := hm_z
            replace hm_z := rn_isub (w := (rg_v h1470_z 189 3) - (rg_v h1470_z 189 0)) (am_cur_of (i := (103, 1, .isub, (0, 0, 0), 0)) (by decide +kernel)) rfl hm_z
            replace hm_z := rn_iload_n (am_cur_of (i := (104, 1, .iload_n 2, (0, 0, 0), 0)) (by decide +kernel)) g2_z hm_z
            replace hm_z := rn_cmp (am_cur_of (i := (105, 3, .if_icmp .ge 20, (75, 0, 0), 0)) (by decide +kernel)) hm_z
            rcases hm_z with ⟨b1479_z, hm_z⟩ | ⟨b1479_z, hm_z⟩
            · replace b1479_z : n.toInt ≤ ((rg_v h1470_z 189 3) - (rg_v h1470_z 189 0)).toInt := b1479_z
              exact bk_t (bk_t (bk_t bk_r k1468_z) k1472_z) (H75 v5_z 0 _ _ g0_z g1_z g2_z g3_z g4_z g5_z g6_z hm_z)
            · replace b1479_z : ((rg_v h1470_z 189 3) - (rg_v h1470_z 189 0)).toInt < n.toInt := b1479_z
              replace hm_z := rn_aload_n (am_cur_of (i := (108, 1, .aload_n 0, (0, 0, 0), 0)) (by decide +kernel)) g0_z hm_z
              replace hm_z := rn_iconst (w := 3) (am_cur_of (i := (109, 1, .iconst 3, (0, 0, 0), 0)) (by decide +kernel)) (by decide) hm_z
              replace hm_z := rn_iload_n (am_cur_of (i := (110, 1, .iload_n 1, (0, 0, 0), 0)) (by decide +kernel)) g1_z hm_z
              replace hm_z := rn_iload_n (am_cur_of (i := (111, 1, .iload_n 3, (0, 0, 0), 0)) (by decide +kernel)) g3_z hm_z
              replace hm_z := rn_callV (M' := am_m229) (o := 164) (ar := [.int y, .int k, .int 3]) (rest := []) (L := lv_args 0 [.ref 164, .int 3, .int k, .int y]) (am_cur_of (i := (112, 3, .invokevirtual 498, (229, 1946, 3), 0)) (by decide +kernel)) rfl rfl rfl rfl hm_z
              obtain ⟨r1480_z, h1481_z, q1482_z, hm_z⟩ := hm_z
              have k1483_z := fk_229_3 k0_z q1482_z
              obtain ⟨v1484_z, rfl⟩ := rn_ret (M := am_m229) rfl (by decide) q1482_z
              replace hm_z : rn _ _ _ _ [.int v1484_z] _ _ _ := hm_z
              replace hm_z := rn_if (am_cur_of (i := (115, 3, .ifCond .ne 7, (73, 0, 0), 0)) (by decide +kernel)) hm_z
              rcases hm_z with ⟨b1485_z, hm_z⟩ | ⟨b1485_z, hm_z⟩
              · replace b1485_z : ¬ v1484_z = (0 : Int32) ∧ ¬ v1484_z.toInt = (0 : Int32).toInt := b1485_z
                replace hm_z := rn_iconst (w := 0) (am_cur_of (i := (122, 1, .iconst 0, (0, 0, 0), 0)) (by decide +kernel)) (by decide) hm_z
                replace hm_z := rn_istore (am_cur_of (i := (123, 2, .istore 6, (0, 0, 0), 0)) (by decide +kernel)) hm_z
                obtain ⟨_, s1486_z, s1487_z, g6_z, hm_z⟩ := hm_z
                replace g0_z := s1486_z 0 _ (by decide) rfl g0_z
                replace g1_z := s1486_z 1 _ (by decide) rfl g1_z
                replace g2_z := s1486_z 2 _ (by decide) rfl g2_z
                replace g3_z := s1486_z 3 _ (by decide) rfl g3_z
                replace g4_z := s1486_z 4 _ (by decide) rfl g4_z
                replace g5_z := s1486_z 5 _ (by decide) rfl g5_z
                clear s1486_z s1487_z
                exact bk_t (bk_t (bk_t (bk_t bk_r k1468_z) k1472_z) k1483_z) (H75 v5_z 0 _ _ g0_z g1_z g2_z g3_z g4_z g5_z g6_z hm_z)
              · replace b1485_z : v1484_z = (0 : Int32) ∧ v1484_z.toInt = (0 : Int32).toInt := b1485_z
                replace hm_z := rn_iconst (w := 1) (am_cur_of (i := (118, 1, .iconst 1, (0, 0, 0), 0)) (by decide +kernel)) (by decide) hm_z
                replace hm_z := rn_goto (am_cur_of (i := (119, 3, .goto 4, (74, 0, 0), 0)) (by decide +kernel)) hm_z
                replace hm_z := rn_istore (am_cur_of (i := (123, 2, .istore 6, (0, 0, 0), 0)) (by decide +kernel)) hm_z
                obtain ⟨_, s1488_z, s1489_z, g6_z, hm_z⟩ := hm_z
                replace g0_z := s1488_z 0 _ (by decide) rfl g0_z
                replace g1_z := s1488_z 1 _ (by decide) rfl g1_z
                replace g2_z := s1488_z 2 _ (by decide) rfl g2_z
                replace g3_z := s1488_z 3 _ (by decide) rfl g3_z
                replace g4_z := s1488_z 4 _ (by decide) rfl g4_z
                replace g5_z := s1488_z 5 _ (by decide) rfl g5_z
                clear s1488_z s1489_z
                exact bk_t (bk_t (bk_t (bk_t bk_r k1468_z) k1472_z) k1483_z) (H75 v5_z 1 _ _ g0_z g1_z g2_z g3_z g4_z g5_z g6_z hm_z)
          · replace b1474_z : (rg_v h1470_z 188 3).toInt < y.toInt := b1474_z
            replace hm_z := rn_iconst (w := 1) (am_cur_of (i := (79, 1, .iconst 1, (0, 0, 0), 0)) (by decide +kernel)) (by decide) hm_z
            replace hm_z := rn_goto (am_cur_of (i := (80, 3, .goto 4, (51, 0, 0), 0)) (by decide +kernel)) hm_z
            replace hm_z := rn_istore (am_cur_of (i := (84, 2, .istore 6, (0, 0, 0), 0)) (by decide +kernel)) hm_z
            obtain ⟨_, s1490_z, s1491_z, g6_z, hm_z⟩ := hm_z
            replace g0_z := s1490_z 0 _ (by decide) rfl g0_z
            replace g1_z := s1490_z 1 _ (by decide) rfl g1_z
            replace g2_z := s1490_z 2 _ (by decide) rfl g2_z
            replace g3_z := s1490_z 3 _ (by decide) rfl g3_z
            replace g4_z := s1490_z 4 _ (by decide) rfl g4_z
            replace g5_z := s1490_z 5 _ (by decide) rfl g5_z
            clear s1490_z s1491_z
            replace hm_z := rn_iload (am_cur_of (i := (86, 2, .iload 6, (0, 0, 0), 0)) (by decide +kernel)) g6_z hm_z
            replace hm_z := rn_ifT (am_cur_of (i := (88, 3, .ifCond .ne 37, (75, 0, 0), 0)) (by decide +kernel)) (by decide) hm_z
            exact bk_t (bk_t (bk_t bk_r k1468_z) k1472_z) (H75 v5_z 1 _ _ g0_z g1_z g2_z g3_z g4_z g5_z g6_z hm_z)
    exact ⟨H20, H75, H98, H111, H116⟩
theorem fk_228 {nst : Nat} {r : Option Value} {g g' : am_H} {k : Int32} {n : Int32} {y : Int32} {z : Int32} (k0_z : 0 ≤ k.toInt) (hm_z : rn nst am_m228 0 (lv_args 0 [.ref 164, .int k, .int n, .int y, .int z]) [] g r g') : bk g g' := by
  have g0_z : am_get (lv_args 0 [.ref 164, .int k, .int n, .int y, .int z]) 0 = some (.ref 164) := rfl
  have g1_z : am_get (lv_args 0 [.ref 164, .int k, .int n, .int y, .int z]) 1 = some (.int k) := rfl
  have g2_z : am_get (lv_args 0 [.ref 164, .int k, .int n, .int y, .int z]) 2 = some (.int n) := rfl
  have g3_z : am_get (lv_args 0 [.ref 164, .int k, .int n, .int y, .int z]) 3 = some (.int y) := rfl
  have g4_z : am_get (lv_args 0 [.ref 164, .int k, .int n, .int y, .int z]) 4 = some (.int z) := rfl
  replace hm_z := rn_aload_n (am_cur_of (i := (0, 1, .aload_n 0, (0, 0, 0), 0)) (by decide +kernel)) g0_z hm_z
  replace hm_z := rn_iconst (w := 1) (am_cur_of (i := (1, 1, .iconst 1, (0, 0, 0), 0)) (by decide +kernel)) (by decide) hm_z
  replace hm_z := rn_iconst (w := 0) (am_cur_of (i := (2, 1, .iconst 0, (0, 0, 0), 0)) (by decide +kernel)) (by decide) hm_z
  replace hm_z := rn_callV (M' := am_m197) (o := 164) (ar := [.int 0, .int 1]) (rest := []) (L := lv_args 0 [.ref 164, .int 1, .int 0]) (am_cur_of (i := (3, 3, .invokevirtual 428, (197, 1820, 3), 0)) (by decide +kernel)) rfl rfl rfl rfl hm_z
  obtain ⟨r1492_z, h1493_z, q1494_z, hm_z⟩ := hm_z
  have k1495_z := fk_197_1_0 q1494_z
  have vo := rn_void rfl q1494_z
  subst vo
  replace hm_z : rn _ _ _ _ [] _ _ _ := hm_z
  replace hm_z := rn_aload_n (am_cur_of (i := (6, 1, .aload_n 0, (0, 0, 0), 0)) (by decide +kernel)) g0_z hm_z
  replace hm_z := rn_iconst (w := 0) (am_cur_of (i := (7, 1, .iconst 0, (0, 0, 0), 0)) (by decide +kernel)) (by decide) hm_z
  replace hm_z := rn_put (am_cur_of (i := (8, 3, .putfield 492, (12, 69, 1453), 0)) (by decide +kernel)) (by decide +kernel) hm_z
  replace hm_z := rn_aload_n (am_cur_of (i := (11, 1, .aload_n 0, (0, 0, 0), 0)) (by decide +kernel)) g0_z hm_z
  replace hm_z := rn_bipush (w := (-2)) (am_cur_of (i := (12, 2, .bipush (-2), (0, 0, 0), 0)) (by decide +kernel)) (by decide) hm_z
  replace hm_z := rn_put (am_cur_of (i := (14, 3, .putfield 495, (12, 70, 1454), 0)) (by decide +kernel)) (by decide +kernel) hm_z
  replace hm_z := rn_aload_n (am_cur_of (i := (17, 1, .aload_n 0, (0, 0, 0), 0)) (by decide +kernel)) g0_z hm_z
  replace hm_z := rn_getR (x := 188) (am_cur_of (i := (18, 3, .getfield 85, (12, 50, 1434), 0)) (by decide +kernel)) (by decide +kernel) hm_z
  replace hm_z := rn_iconst (w := 1) (am_cur_of (i := (21, 1, .iconst 1, (0, 0, 0), 0)) (by decide +kernel)) (by decide) hm_z
  replace hm_z := rn_iaload (N := 4) (q := 1) (v := rg_v h1493_z 188 1) (am_cur_of (i := (22, 1, .iaload, (0, 0, 0), 0)) (by decide +kernel)) (by decide +kernel) rfl (show rg_v (am_up (am_up h1493_z 164 69 (.int 0)) 164 70 (.int (-2))) 188 1 = rg_v h1493_z 188 1 from rfl) hm_z
  obtain ⟨p1496_z, hm_z⟩ := hm_z
  replace hm_z := rn_iload_n (am_cur_of (i := (23, 1, .iload_n 3, (0, 0, 0), 0)) (by decide +kernel)) g3_z hm_z
  replace hm_z := rn_cmp (am_cur_of (i := (24, 3, .if_icmp .lt 7, (18, 0, 0), 0)) (by decide +kernel)) hm_z
  rcases hm_z with ⟨b1497_z, hm_z⟩ | ⟨b1497_z, hm_z⟩
  · replace b1497_z : (rg_v h1493_z 188 1).toInt < y.toInt := b1497_z
    replace hm_z := rn_iconst (w := 0) (am_cur_of (i := (31, 1, .iconst 0, (0, 0, 0), 0)) (by decide +kernel)) (by decide) hm_z
    replace hm_z := rn_istore (am_cur_of (i := (32, 2, .istore 5, (0, 0, 0), 0)) (by decide +kernel)) hm_z
    obtain ⟨_, s1498_z, s1499_z, g5_z, hm_z⟩ := hm_z
    replace g0_z := s1498_z 0 _ (by decide) rfl g0_z
    replace g1_z := s1498_z 1 _ (by decide) rfl g1_z
    replace g2_z := s1498_z 2 _ (by decide) rfl g2_z
    replace g3_z := s1498_z 3 _ (by decide) rfl g3_z
    replace g4_z := s1498_z 4 _ (by decide) rfl g4_z
    clear s1498_z s1499_z
    have H20 := (fk_228_L (r := r) (g' := g') (k := k) (n := n) (y := y) (z := z) k0_z nst).1
    exact bk_t (bk_u (by decide) (bk_u (by decide) (bk_t bk_r k1495_z))) (H20 0 _ _ g0_z g1_z g2_z g3_z g4_z g5_z hm_z)
  · replace b1497_z : y.toInt ≤ (rg_v h1493_z 188 1).toInt := b1497_z
    replace hm_z := rn_iconst (w := 1) (am_cur_of (i := (27, 1, .iconst 1, (0, 0, 0), 0)) (by decide +kernel)) (by decide) hm_z
    replace hm_z := rn_goto (am_cur_of (i := (28, 3, .goto 4, (19, 0, 0), 0)) (by decide +kernel)) hm_z
    replace hm_z := rn_istore (am_cur_of (i := (32, 2, .istore 5, (0, 0, 0), 0)) (by decide +kernel)) hm_z
    obtain ⟨_, s1500_z, s1501_z, g5_z, hm_z⟩ := hm_z
    replace g0_z := s1500_z 0 _ (by decide) rfl g0_z
    replace g1_z := s1500_z 1 _ (by decide) rfl g1_z
    replace g2_z := s1500_z 2 _ (by decide) rfl g2_z
    replace g3_z := s1500_z 3 _ (by decide) rfl g3_z
    replace g4_z := s1500_z 4 _ (by decide) rfl g4_z
    clear s1500_z s1501_z
    have H20 := (fk_228_L (r := r) (g' := g') (k := k) (n := n) (y := y) (z := z) k0_z nst).1
    exact bk_t (bk_u (by decide) (bk_u (by decide) (bk_t bk_r k1495_z))) (H20 1 _ _ g0_z g1_z g2_z g3_z g4_z g5_z hm_z)
theorem fk_227_L {r : Option Value} {g' : am_H} {n : Int32} {y : Int32}  : ∀ f : Nat, (∀ (ls : am_L) (g : am_H), rn f am_m227 12 ls [] g r g' → bk g g') := by
  intro f
  induction f with
  | zero =>
    exact (fun _ _ hm_z => absurd hm_z rn_0)
  | succ f ih_z =>
    have I12 := ih_z
    have H12 : ∀ (ls : am_L) (g : am_H), rn (f + 1) am_m227 12 ls [] g r g' → bk g g' := by
      intro ls g hm_z
      replace hm_z := rn_iconst (w := 0) (am_cur_of (i := (26, 1, .iconst 0, (0, 0, 0), 0)) (by decide +kernel)) (by decide) hm_z
      replace hm_z := rn_iret (am_cur_of (i := (27, 1, .ireturn, (0, 0, 0), 0)) (by decide +kernel)) hm_z
      obtain ⟨e1502_z, e1503_z⟩ := hm_z
      rw [e1503_z]
      exact bk_r
    exact H12
theorem fk_227 {nst : Nat} {r : Option Value} {g g' : am_H} {n : Int32} {y : Int32}  (hm_z : rn nst am_m227 0 (lv_args 0 [.int n, .int y]) [] g r g') : bk g g' := by
  have z0_z : (0 : Int32).toInt = 0 := by decide
  have g0_z : am_get (lv_args 0 [.int n, .int y]) 0 = some (.int n) := rfl
  have g1_z : am_get (lv_args 0 [.int n, .int y]) 1 = some (.int y) := rfl
  replace hm_z := rn_iload_n (am_cur_of (i := (0, 1, .iload_n 0, (0, 0, 0), 0)) (by decide +kernel)) g0_z hm_z
  replace hm_z := rn_iconst (w := 1) (am_cur_of (i := (1, 1, .iconst 1, (0, 0, 0), 0)) (by decide +kernel)) (by decide) hm_z
  replace hm_z := rn_sipush (w := 3600) (am_cur_of (i := (2, 3, .sipush 3600, (0, 0, 0), 0)) (by decide +kernel)) (by decide) hm_z
  replace hm_z := rn_callS (M' := am_m162) (ar := [.int 3600, .int 1, .int n]) (rest := []) (L := lv_args 0 [.int n, .int 1, .int 3600]) (am_cur_of (i := (5, 3, .invokestatic 184, (162, 1681, 3), 0)) (by decide +kernel)) rfl rfl rfl rfl hm_z
  obtain ⟨r1504_z, h1505_z, q1506_z, hm_z⟩ := hm_z
  have k1507_z := nq_162 q1506_z
  obtain ⟨v1508_z, rfl⟩ := rn_ret (M := am_m162) rfl (by decide) q1506_z
  replace hm_z : rn _ _ _ _ [.int v1508_z] _ _ _ := hm_z
  replace hm_z := rn_if (am_cur_of (i := (8, 3, .ifCond .eq 18, (12, 0, 0), 0)) (by decide +kernel)) hm_z
  rcases hm_z with ⟨b1509_z, hm_z⟩ | ⟨b1509_z, hm_z⟩
  · replace b1509_z : v1508_z = (0 : Int32) ∧ v1508_z.toInt = (0 : Int32).toInt := b1509_z
    have H12 := (fk_227_L (r := r) (g' := g') (n := n) (y := y)  nst)
    exact bk_t (bk_t bk_r (bk_n k1507_z)) (H12 _ _ hm_z)
  · replace b1509_z : ¬ v1508_z = (0 : Int32) ∧ ¬ v1508_z.toInt = (0 : Int32).toInt := b1509_z
    replace hm_z := rn_iload_n (am_cur_of (i := (11, 1, .iload_n 1, (0, 0, 0), 0)) (by decide +kernel)) g1_z hm_z
    replace hm_z := rn_iconst (w := 0) (am_cur_of (i := (12, 1, .iconst 0, (0, 0, 0), 0)) (by decide +kernel)) (by decide) hm_z
    replace hm_z := rn_sipush (w := 9999) (am_cur_of (i := (13, 3, .sipush 9999, (0, 0, 0), 0)) (by decide +kernel)) (by decide) hm_z
    replace hm_z := rn_callS (M' := am_m162) (ar := [.int 9999, .int 0, .int y]) (rest := []) (L := lv_args 0 [.int y, .int 0, .int 9999]) (am_cur_of (i := (16, 3, .invokestatic 184, (162, 1681, 3), 0)) (by decide +kernel)) rfl rfl rfl rfl hm_z
    obtain ⟨r1510_z, h1511_z, q1512_z, hm_z⟩ := hm_z
    have k1513_z := nq_162 q1512_z
    obtain ⟨v1514_z, rfl⟩ := rn_ret (M := am_m162) rfl (by decide) q1512_z
    replace hm_z : rn _ _ _ _ [.int v1514_z] _ _ _ := hm_z
    replace hm_z := rn_if (am_cur_of (i := (19, 3, .ifCond .eq 7, (12, 0, 0), 0)) (by decide +kernel)) hm_z
    rcases hm_z with ⟨b1515_z, hm_z⟩ | ⟨b1515_z, hm_z⟩
    · replace b1515_z : v1514_z = (0 : Int32) ∧ v1514_z.toInt = (0 : Int32).toInt := b1515_z
      have H12 := (fk_227_L (r := r) (g' := g') (n := n) (y := y)  nst)
      exact bk_t (bk_t (bk_t bk_r (bk_n k1507_z)) (bk_n k1513_z)) (H12 _ _ hm_z)
    · replace b1515_z : ¬ v1514_z = (0 : Int32) ∧ ¬ v1514_z.toInt = (0 : Int32).toInt := b1515_z
      replace hm_z := rn_iconst (w := 1) (am_cur_of (i := (22, 1, .iconst 1, (0, 0, 0), 0)) (by decide +kernel)) (by decide) hm_z
      replace hm_z := rn_goto (am_cur_of (i := (23, 3, .goto 4, (13, 0, 0), 0)) (by decide +kernel)) hm_z
      replace hm_z := rn_iret (am_cur_of (i := (27, 1, .ireturn, (0, 0, 0), 0)) (by decide +kernel)) hm_z
      obtain ⟨e1516_z, e1517_z⟩ := hm_z
      rw [e1517_z]
      exact (bk_t (bk_t bk_r (bk_n k1507_z)) (bk_n k1513_z))
theorem fk_226_L {r : Option Value} {g' : am_H} {k : Int32} {n : Int32} {y : Int32}  : ∀ f : Nat, (∀ (ls : am_L) (g : am_H), rn f am_m226 11 ls [] g r g' → bk g g') := by
  intro f
  induction f with
  | zero =>
    exact (fun _ _ hm_z => absurd hm_z rn_0)
  | succ f ih_z =>
    have I11 := ih_z
    have H11 : ∀ (ls : am_L) (g : am_H), rn (f + 1) am_m226 11 ls [] g r g' → bk g g' := by
      intro ls g hm_z
      replace hm_z := rn_iconst (w := (-1)) (am_cur_of (i := (21, 1, .iconst (-1), (0, 0, 0), 0)) (by decide +kernel)) (by decide) hm_z
      replace hm_z := rn_iret (am_cur_of (i := (22, 1, .ireturn, (0, 0, 0), 0)) (by decide +kernel)) hm_z
      obtain ⟨e1518_z, e1519_z⟩ := hm_z
      rw [e1519_z]
      exact bk_r
    exact H11
theorem fk_226 {nst : Nat} {r : Option Value} {g g' : am_H} {k : Int32} {n : Int32} {y : Int32}  (hm_z : rn nst am_m226 0 (lv_args 0 [.ref 164, .int k, .int n, .int y]) [] g r g') : bk g g' := by
  have z0_z : (0 : Int32).toInt = 0 := by decide
  have g0_z : am_get (lv_args 0 [.ref 164, .int k, .int n, .int y]) 0 = some (.ref 164) := rfl
  have g1_z : am_get (lv_args 0 [.ref 164, .int k, .int n, .int y]) 1 = some (.int k) := rfl
  have g2_z : am_get (lv_args 0 [.ref 164, .int k, .int n, .int y]) 2 = some (.int n) := rfl
  have g3_z : am_get (lv_args 0 [.ref 164, .int k, .int n, .int y]) 3 = some (.int y) := rfl
  replace hm_z := rn_aload_n (am_cur_of (i := (0, 1, .aload_n 0, (0, 0, 0), 0)) (by decide +kernel)) g0_z hm_z
  replace hm_z := rn_iconst (w := 0) (am_cur_of (i := (1, 1, .iconst 0, (0, 0, 0), 0)) (by decide +kernel)) (by decide) hm_z
  replace hm_z := rn_put (am_cur_of (i := (2, 3, .putfield 139, (12, 2, 1386), 0)) (by decide +kernel)) (by decide +kernel) hm_z
  replace hm_z := rn_aload_n (am_cur_of (i := (5, 1, .aload_n 0, (0, 0, 0), 0)) (by decide +kernel)) g0_z hm_z
  replace hm_z := rn_iload_n (am_cur_of (i := (6, 1, .iload_n 1, (0, 0, 0), 0)) (by decide +kernel)) g1_z hm_z
  replace hm_z := rn_callV (M' := am_m185) (o := 164) (ar := [.int k]) (rest := []) (L := lv_args 0 [.ref 164, .int k]) (am_cur_of (i := (7, 3, .invokevirtual 420, (185, 1770, 3), 0)) (by decide +kernel)) rfl rfl rfl rfl hm_z
  obtain ⟨r1520_z, h1521_z, q1522_z, hm_z⟩ := hm_z
  rcases fk_185 q1522_z with ⟨b1523_z, rfl, y1524_z⟩ | ⟨b1525_z, b1526_z, rfl, y1527_z⟩ | ⟨b1528_z, b1529_z, rfl, y1530_z⟩
  · replace y1524_z := y1524_z.symm
    subst y1524_z
    replace b1523_z : k.toInt < (0 : Int32).toInt := b1523_z
    replace hm_z : rn _ _ _ _ [.int 0] _ _ _ := hm_z
    replace hm_z := rn_ifT (am_cur_of (i := (10, 3, .ifCond .eq 11, (11, 0, 0), 0)) (by decide +kernel)) (by decide) hm_z
    have H11 := (fk_226_L (r := r) (g' := g') (k := k) (n := n) (y := y)  nst)
    exact bk_t (bk_u (by decide) bk_r) (H11 _ _ hm_z)
  · replace y1527_z := y1527_z.symm
    subst y1527_z
    replace b1525_z : (0 : Int32).toInt ≤ k.toInt := b1525_z
    replace b1526_z : ((rg_v g 164 12)).toInt ≤ k.toInt := b1526_z
    replace hm_z : rn _ _ _ _ [.int 0] _ _ _ := hm_z
    replace hm_z := rn_ifT (am_cur_of (i := (10, 3, .ifCond .eq 11, (11, 0, 0), 0)) (by decide +kernel)) (by decide) hm_z
    have H11 := (fk_226_L (r := r) (g' := g') (k := k) (n := n) (y := y)  nst)
    exact bk_t (bk_u (by decide) bk_r) (H11 _ _ hm_z)
  · replace y1530_z := y1530_z.symm
    subst y1530_z
    replace b1528_z : (0 : Int32).toInt ≤ k.toInt := b1528_z
    replace b1529_z : k.toInt < ((rg_v g 164 12)).toInt := b1529_z
    replace hm_z : rn _ _ _ _ [.int 1] _ _ _ := hm_z
    replace hm_z := rn_ifF (am_cur_of (i := (10, 3, .ifCond .eq 11, (11, 0, 0), 0)) (by decide +kernel)) (by decide) hm_z
    replace hm_z := rn_iload_n (am_cur_of (i := (13, 1, .iload_n 2, (0, 0, 0), 0)) (by decide +kernel)) g2_z hm_z
    replace hm_z := rn_iload_n (am_cur_of (i := (14, 1, .iload_n 3, (0, 0, 0), 0)) (by decide +kernel)) g3_z hm_z
    replace hm_z := rn_callS (M' := am_m227) (ar := [.int y, .int n]) (rest := []) (L := lv_args 0 [.int n, .int y]) (am_cur_of (i := (15, 3, .invokestatic 501, (227, 1939, 3), 0)) (by decide +kernel)) rfl rfl rfl rfl hm_z
    obtain ⟨r1531_z, h1532_z, q1533_z, hm_z⟩ := hm_z
    have k1534_z := fk_227 q1533_z
    obtain ⟨v1535_z, rfl⟩ := rn_ret (M := am_m227) rfl (by decide) q1533_z
    replace hm_z : rn _ _ _ _ [.int v1535_z] _ _ _ := hm_z
    replace hm_z := rn_if (am_cur_of (i := (18, 3, .ifCond .ne 5, (13, 0, 0), 0)) (by decide +kernel)) hm_z
    rcases hm_z with ⟨b1536_z, hm_z⟩ | ⟨b1536_z, hm_z⟩
    · replace b1536_z : ¬ v1535_z = (0 : Int32) ∧ ¬ v1535_z.toInt = (0 : Int32).toInt := b1536_z
      replace hm_z := rn_aload_n (am_cur_of (i := (23, 1, .aload_n 0, (0, 0, 0), 0)) (by decide +kernel)) g0_z hm_z
      replace hm_z := rn_iload_n (am_cur_of (i := (24, 1, .iload_n 1, (0, 0, 0), 0)) (by decide +kernel)) g1_z hm_z
      replace hm_z := rn_iload_n (am_cur_of (i := (25, 1, .iload_n 2, (0, 0, 0), 0)) (by decide +kernel)) g2_z hm_z
      replace hm_z := rn_iload_n (am_cur_of (i := (26, 1, .iload_n 3, (0, 0, 0), 0)) (by decide +kernel)) g3_z hm_z
      replace hm_z := rn_iconst (w := (-1)) (am_cur_of (i := (27, 1, .iconst (-1), (0, 0, 0), 0)) (by decide +kernel)) (by decide) hm_z
      replace hm_z := rn_callV (M' := am_m228) (o := 164) (ar := [.int (-1), .int y, .int n, .int k]) (rest := []) (L := lv_args 0 [.ref 164, .int k, .int n, .int y, .int (-1)]) (am_cur_of (i := (28, 3, .invokevirtual 504, (228, 1942, 3), 0)) (by decide +kernel)) rfl rfl rfl rfl hm_z
      obtain ⟨r1537_z, h1538_z, q1539_z, hm_z⟩ := hm_z
      have k1540_z := fk_228 (by omega) q1539_z
      have vo := rn_void rfl q1539_z
      subst vo
      replace hm_z : rn _ _ _ _ [] _ _ _ := hm_z
      replace hm_z := rn_aload_n (am_cur_of (i := (31, 1, .aload_n 0, (0, 0, 0), 0)) (by decide +kernel)) g0_z hm_z
      replace hm_z := rn_getI (v := rg_v h1538_z 164 69) (am_cur_of (i := (32, 3, .getfield 492, (12, 69, 1453), 0)) (by decide +kernel)) (by decide +kernel) rfl hm_z
      replace hm_z := rn_iret (am_cur_of (i := (35, 1, .ireturn, (0, 0, 0), 0)) (by decide +kernel)) hm_z
      obtain ⟨e1541_z, e1542_z⟩ := hm_z
      rw [e1542_z]
      exact (bk_t (bk_t (bk_u (by decide) bk_r) k1534_z) k1540_z)
    · replace b1536_z : v1535_z = (0 : Int32) ∧ v1535_z.toInt = (0 : Int32).toInt := b1536_z
      have H11 := (fk_226_L (r := r) (g' := g') (k := k) (n := n) (y := y)  nst)
      exact bk_t (bk_t (bk_u (by decide) bk_r) k1534_z) (H11 _ _ hm_z)
theorem fk_230_L {r : Option Value} {g' : am_H} {k : Int32} {n : Int32} {y : Int32} {i : Int32}  : ∀ f : Nat, (∀ (ls : am_L) (g : am_H), rn f am_m230 13 ls [] g r g' → bk g g') := by
  intro f
  induction f with
  | zero =>
    exact (fun _ _ hm_z => absurd hm_z rn_0)
  | succ f ih_z =>
    have I13 := ih_z
    have H13 : ∀ (ls : am_L) (g : am_H), rn (f + 1) am_m230 13 ls [] g r g' → bk g g' := by
      intro ls g hm_z
      replace hm_z := rn_iconst (w := (-1)) (am_cur_of (i := (26, 1, .iconst (-1), (0, 0, 0), 0)) (by decide +kernel)) (by decide) hm_z
      replace hm_z := rn_iret (am_cur_of (i := (27, 1, .ireturn, (0, 0, 0), 0)) (by decide +kernel)) hm_z
      obtain ⟨e1543_z, e1544_z⟩ := hm_z
      rw [e1544_z]
      exact bk_r
    exact H13
theorem fk_230 {nst : Nat} {r : Option Value} {g g' : am_H} {k : Int32} {n : Int32} {y : Int32} {i : Int32}  (hm_z : rn nst am_m230 0 (lv_args 0 [.ref 164, .int k, .int n, .int y, .int i]) [] g r g') : bk g g' := by
  have z0_z : (0 : Int32).toInt = 0 := by decide
  have g0_z : am_get (lv_args 0 [.ref 164, .int k, .int n, .int y, .int i]) 0 = some (.ref 164) := rfl
  have g1_z : am_get (lv_args 0 [.ref 164, .int k, .int n, .int y, .int i]) 1 = some (.int k) := rfl
  have g2_z : am_get (lv_args 0 [.ref 164, .int k, .int n, .int y, .int i]) 2 = some (.int n) := rfl
  have g3_z : am_get (lv_args 0 [.ref 164, .int k, .int n, .int y, .int i]) 3 = some (.int y) := rfl
  have g4_z : am_get (lv_args 0 [.ref 164, .int k, .int n, .int y, .int i]) 4 = some (.int i) := rfl
  replace hm_z := rn_aload_n (am_cur_of (i := (0, 1, .aload_n 0, (0, 0, 0), 0)) (by decide +kernel)) g0_z hm_z
  replace hm_z := rn_iconst (w := 0) (am_cur_of (i := (1, 1, .iconst 0, (0, 0, 0), 0)) (by decide +kernel)) (by decide) hm_z
  replace hm_z := rn_put (am_cur_of (i := (2, 3, .putfield 139, (12, 2, 1386), 0)) (by decide +kernel)) (by decide +kernel) hm_z
  replace hm_z := rn_aload_n (am_cur_of (i := (5, 1, .aload_n 0, (0, 0, 0), 0)) (by decide +kernel)) g0_z hm_z
  replace hm_z := rn_iload_n (am_cur_of (i := (6, 1, .iload_n 1, (0, 0, 0), 0)) (by decide +kernel)) g1_z hm_z
  replace hm_z := rn_callV (M' := am_m185) (o := 164) (ar := [.int k]) (rest := []) (L := lv_args 0 [.ref 164, .int k]) (am_cur_of (i := (7, 3, .invokevirtual 420, (185, 1770, 3), 0)) (by decide +kernel)) rfl rfl rfl rfl hm_z
  obtain ⟨r1545_z, h1546_z, q1547_z, hm_z⟩ := hm_z
  rcases fk_185 q1547_z with ⟨b1548_z, rfl, y1549_z⟩ | ⟨b1550_z, b1551_z, rfl, y1552_z⟩ | ⟨b1553_z, b1554_z, rfl, y1555_z⟩
  · replace y1549_z := y1549_z.symm
    subst y1549_z
    replace b1548_z : k.toInt < (0 : Int32).toInt := b1548_z
    replace hm_z : rn _ _ _ _ [.int 0] _ _ _ := hm_z
    replace hm_z := rn_ifT (am_cur_of (i := (10, 3, .ifCond .eq 16, (13, 0, 0), 0)) (by decide +kernel)) (by decide) hm_z
    have H13 := (fk_230_L (r := r) (g' := g') (k := k) (n := n) (y := y) (i := i)  nst)
    exact bk_t (bk_u (by decide) bk_r) (H13 _ _ hm_z)
  · replace y1552_z := y1552_z.symm
    subst y1552_z
    replace b1550_z : (0 : Int32).toInt ≤ k.toInt := b1550_z
    replace b1551_z : ((rg_v g 164 12)).toInt ≤ k.toInt := b1551_z
    replace hm_z : rn _ _ _ _ [.int 0] _ _ _ := hm_z
    replace hm_z := rn_ifT (am_cur_of (i := (10, 3, .ifCond .eq 16, (13, 0, 0), 0)) (by decide +kernel)) (by decide) hm_z
    have H13 := (fk_230_L (r := r) (g' := g') (k := k) (n := n) (y := y) (i := i)  nst)
    exact bk_t (bk_u (by decide) bk_r) (H13 _ _ hm_z)
  · replace y1555_z := y1555_z.symm
    subst y1555_z
    replace b1553_z : (0 : Int32).toInt ≤ k.toInt := b1553_z
    replace b1554_z : k.toInt < ((rg_v g 164 12)).toInt := b1554_z
    replace hm_z : rn _ _ _ _ [.int 1] _ _ _ := hm_z
    replace hm_z := rn_ifF (am_cur_of (i := (10, 3, .ifCond .eq 16, (13, 0, 0), 0)) (by decide +kernel)) (by decide) hm_z
    replace hm_z := rn_iload_n (am_cur_of (i := (13, 1, .iload_n 2, (0, 0, 0), 0)) (by decide +kernel)) g2_z hm_z
    replace hm_z := rn_iload_n (am_cur_of (i := (14, 1, .iload_n 3, (0, 0, 0), 0)) (by decide +kernel)) g3_z hm_z
    replace hm_z := rn_callS (M' := am_m227) (ar := [.int y, .int n]) (rest := []) (L := lv_args 0 [.int n, .int y]) (am_cur_of (i := (15, 3, .invokestatic 501, (227, 1939, 3), 0)) (by decide +kernel)) rfl rfl rfl rfl hm_z
    obtain ⟨r1556_z, h1557_z, q1558_z, hm_z⟩ := hm_z
    have k1559_z := fk_227 q1558_z
    obtain ⟨v1560_z, rfl⟩ := rn_ret (M := am_m227) rfl (by decide) q1558_z
    replace hm_z : rn _ _ _ _ [.int v1560_z] _ _ _ := hm_z
    replace hm_z := rn_if (am_cur_of (i := (18, 3, .ifCond .eq 8, (13, 0, 0), 0)) (by decide +kernel)) hm_z
    rcases hm_z with ⟨b1561_z, hm_z⟩ | ⟨b1561_z, hm_z⟩
    · replace b1561_z : v1560_z = (0 : Int32) ∧ v1560_z.toInt = (0 : Int32).toInt := b1561_z
      have H13 := (fk_230_L (r := r) (g' := g') (k := k) (n := n) (y := y) (i := i)  nst)
      exact bk_t (bk_t (bk_u (by decide) bk_r) k1559_z) (H13 _ _ hm_z)
    · replace b1561_z : ¬ v1560_z = (0 : Int32) ∧ ¬ v1560_z.toInt = (0 : Int32).toInt := b1561_z
      replace hm_z := rn_iload (am_cur_of (i := (21, 2, .iload 4, (0, 0, 0), 0)) (by decide +kernel)) g4_z hm_z
      replace hm_z := rn_if (am_cur_of (i := (23, 3, .ifCond .ge 5, (15, 0, 0), 0)) (by decide +kernel)) hm_z
      rcases hm_z with ⟨b1562_z, hm_z⟩ | ⟨b1562_z, hm_z⟩
      · replace b1562_z : (0 : Int32).toInt ≤ i.toInt := b1562_z
        replace hm_z := rn_aload_n (am_cur_of (i := (28, 1, .aload_n 0, (0, 0, 0), 0)) (by decide +kernel)) g0_z hm_z
        replace hm_z := rn_iload_n (am_cur_of (i := (29, 1, .iload_n 1, (0, 0, 0), 0)) (by decide +kernel)) g1_z hm_z
        replace hm_z := rn_iload_n (am_cur_of (i := (30, 1, .iload_n 2, (0, 0, 0), 0)) (by decide +kernel)) g2_z hm_z
        replace hm_z := rn_iload_n (am_cur_of (i := (31, 1, .iload_n 3, (0, 0, 0), 0)) (by decide +kernel)) g3_z hm_z
        replace hm_z := rn_iload (am_cur_of (i := (32, 2, .iload 4, (0, 0, 0), 0)) (by decide +kernel)) g4_z hm_z
        replace hm_z := rn_callV (M' := am_m228) (o := 164) (ar := [.int i, .int y, .int n, .int k]) (rest := []) (L := lv_args 0 [.ref 164, .int k, .int n, .int y, .int i]) (am_cur_of (i := (34, 3, .invokevirtual 504, (228, 1942, 3), 0)) (by decide +kernel)) rfl rfl rfl rfl hm_z
        obtain ⟨r1563_z, h1564_z, q1565_z, hm_z⟩ := hm_z
        have k1566_z := fk_228 (by omega) q1565_z
        have vo := rn_void rfl q1565_z
        subst vo
        replace hm_z : rn _ _ _ _ [] _ _ _ := hm_z
        replace hm_z := rn_aload_n (am_cur_of (i := (37, 1, .aload_n 0, (0, 0, 0), 0)) (by decide +kernel)) g0_z hm_z
        replace hm_z := rn_getI (v := rg_v h1564_z 164 69) (am_cur_of (i := (38, 3, .getfield 492, (12, 69, 1453), 0)) (by decide +kernel)) (by decide +kernel) rfl hm_z
        replace hm_z := rn_if (am_cur_of (i := (41, 3, .ifCond .ge 8, (26, 0, 0), 0)) (by decide +kernel)) hm_z
        rcases hm_z with ⟨b1567_z, hm_z⟩ | ⟨b1567_z, hm_z⟩
        · replace b1567_z : (0 : Int32).toInt ≤ (rg_v h1564_z 164 69).toInt := b1567_z
          replace hm_z := rn_aload_n (am_cur_of (i := (49, 1, .aload_n 0, (0, 0, 0), 0)) (by decide +kernel)) g0_z hm_z
          replace hm_z := rn_getI (v := rg_v h1564_z 164 70) (am_cur_of (i := (50, 3, .getfield 495, (12, 70, 1454), 0)) (by decide +kernel)) (by decide +kernel) rfl hm_z
          replace hm_z := rn_iret (am_cur_of (i := (53, 1, .ireturn, (0, 0, 0), 0)) (by decide +kernel)) hm_z
          obtain ⟨e1568_z, e1569_z⟩ := hm_z
          rw [e1569_z]
          exact (bk_t (bk_t (bk_u (by decide) bk_r) k1559_z) k1566_z)
        · replace b1567_z : (rg_v h1564_z 164 69).toInt < (0 : Int32).toInt := b1567_z
          replace hm_z := rn_bipush (w := (-2)) (am_cur_of (i := (44, 2, .bipush (-2), (0, 0, 0), 0)) (by decide +kernel)) (by decide) hm_z
          replace hm_z := rn_goto (am_cur_of (i := (46, 3, .goto 7, (28, 0, 0), 0)) (by decide +kernel)) hm_z
          replace hm_z := rn_iret (am_cur_of (i := (53, 1, .ireturn, (0, 0, 0), 0)) (by decide +kernel)) hm_z
          obtain ⟨e1570_z, e1571_z⟩ := hm_z
          rw [e1571_z]
          exact (bk_t (bk_t (bk_u (by decide) bk_r) k1559_z) k1566_z)
      · replace b1562_z : i.toInt < (0 : Int32).toInt := b1562_z
        have H13 := (fk_230_L (r := r) (g' := g') (k := k) (n := n) (y := y) (i := i)  nst)
        exact bk_t (bk_t (bk_u (by decide) bk_r) k1559_z) (H13 _ _ hm_z)
theorem fk_231_L {r : Option Value} {g' : am_H} {n : Int32} {y : Int32} {w : Int32}  : ∀ f : Nat, (∀ (ls : am_L) (g : am_H), rn f am_m231 12 ls [] g r g' → bk g g') ∧ (∀ (v4_z : Int32) (v5_z : Int32) (v6_z : Int32) (ls : am_L) (g : am_H), am_get ls 0 = some (.ref 164) → am_get ls 1 = some (.int n) → am_get ls 2 = some (.int y) → am_get ls 3 = some (.int w) → am_get ls 4 = some (.int v4_z) → am_get ls 5 = some (.int v5_z) → am_get ls 6 = some (.int v6_z) → 0 ≤ v6_z.toInt → rn f am_m231 20 ls [] g r g' → bk g g') ∧ (∀ (v6_z : Int32) (v7_z : Int32) (ls : am_L) (g : am_H), am_get ls 0 = some (.ref 164) → am_get ls 1 = some (.int n) → am_get ls 2 = some (.int y) → am_get ls 3 = some (.int w) → am_get ls 6 = some (.int v6_z) → am_get ls 7 = some (.int v7_z) → 0 ≤ v6_z.toInt ∧ v6_z.toInt ≤ 2147483646 → rn f am_m231 51 ls [] g r g' → bk g g') ∧ (∀ (v4_z : Int32) (v5_z : Int32) (v6_z : Int32) (ls : am_L) (g : am_H), am_get ls 0 = some (.ref 164) → am_get ls 1 = some (.int n) → am_get ls 2 = some (.int y) → am_get ls 3 = some (.int w) → am_get ls 4 = some (.int v4_z) → am_get ls 5 = some (.int v5_z) → am_get ls 6 = some (.int v6_z) → 0 ≤ v6_z.toInt ∧ v6_z.toInt ≤ 2147483646 → rn f am_m231 55 ls [] g r g' → bk g g') := by
  intro f
  induction f with
  | zero =>
    exact ⟨fun _ _ hm_z => absurd hm_z rn_0, fun _ _ _ _ _ _ _ _ _ _ _ _ _ hm_z => absurd hm_z rn_0, fun _ _ _ _ _ _ _ _ _ _ _ hm_z => absurd hm_z rn_0, fun _ _ _ _ _ _ _ _ _ _ _ _ _ hm_z => absurd hm_z rn_0⟩
  | succ f ih_z =>
    obtain ⟨I12, I20, I51, I55⟩ := ih_z
    have H55 : ∀ (v4_z : Int32) (v5_z : Int32) (v6_z : Int32) (ls : am_L) (g : am_H), am_get ls 0 = some (.ref 164) → am_get ls 1 = some (.int n) → am_get ls 2 = some (.int y) → am_get ls 3 = some (.int w) → am_get ls 4 = some (.int v4_z) → am_get ls 5 = some (.int v5_z) → am_get ls 6 = some (.int v6_z) → 0 ≤ v6_z.toInt ∧ v6_z.toInt ≤ 2147483646 → rn (f + 1) am_m231 55 ls [] g r g' → bk g g' := by
      intro v4_z v5_z v6_z ls g g0_z g1_z g2_z g3_z g4_z g5_z g6_z i6_0 hm_z
      have cv6_z := fk_c2 (i := v6_z) (by omega)
      replace hm_z := rn_iinc (w := v6_z + 1) (am_cur_of (i := (103, 3, .iinc 6 1, (0, 0, 0), 0)) (by decide +kernel)) g6_z rfl hm_z
      obtain ⟨_, s1572_z, s1573_z, g6_z, hm_z⟩ := hm_z
      replace g0_z := s1572_z 0 _ (by decide) rfl g0_z
      replace g1_z := s1572_z 1 _ (by decide) rfl g1_z
      replace g2_z := s1572_z 2 _ (by decide) rfl g2_z
      replace g3_z := s1572_z 3 _ (by decide) rfl g3_z
      replace g4_z := s1572_z 4 _ (by decide) rfl g4_z
      replace g5_z := s1572_z 5 _ (by decide) rfl g5_z
      clear s1572_z s1573_z
      replace hm_z := rn_gotoL (am_cur_of (i := (106, 3, .goto (-71), (20, 0, 0), 0)) (by decide +kernel)) hm_z
      exact bk_t bk_r (I20 v4_z v5_z (v6_z + 1) _ _ g0_z g1_z g2_z g3_z g4_z g5_z g6_z (show 0 ≤ (v6_z + 1).toInt by omega) hm_z)
    have H51 : ∀ (v6_z : Int32) (v7_z : Int32) (ls : am_L) (g : am_H), am_get ls 0 = some (.ref 164) → am_get ls 1 = some (.int n) → am_get ls 2 = some (.int y) → am_get ls 3 = some (.int w) → am_get ls 6 = some (.int v6_z) → am_get ls 7 = some (.int v7_z) → 0 ≤ v6_z.toInt ∧ v6_z.toInt ≤ 2147483646 → rn (f + 1) am_m231 51 ls [] g r g' → bk g g' := by
      intro v6_z v7_z ls g g0_z g1_z g2_z g3_z g6_z g7_z i6_0 hm_z
      have cv6_z := fk_c2 (i := v6_z) (by omega)
      replace hm_z := rn_iload (am_cur_of (i := (95, 2, .iload 6, (0, 0, 0), 0)) (by decide +kernel)) g6_z hm_z
      replace hm_z := rn_istore (am_cur_of (i := (97, 2, .istore 4, (0, 0, 0), 0)) (by decide +kernel)) hm_z
      obtain ⟨_, s1574_z, s1575_z, g4_z, hm_z⟩ := hm_z
      replace g0_z := s1574_z 0 _ (by decide) rfl g0_z
      replace g1_z := s1574_z 1 _ (by decide) rfl g1_z
      replace g2_z := s1574_z 2 _ (by decide) rfl g2_z
      replace g3_z := s1574_z 3 _ (by decide) rfl g3_z
      replace g6_z := s1574_z 6 _ (by decide) rfl g6_z
      replace g7_z := s1574_z 7 _ (by decide) rfl g7_z
      clear s1574_z s1575_z
      replace hm_z := rn_iload (am_cur_of (i := (99, 2, .iload 7, (0, 0, 0), 0)) (by decide +kernel)) g7_z hm_z
      replace hm_z := rn_istore (am_cur_of (i := (101, 2, .istore 5, (0, 0, 0), 0)) (by decide +kernel)) hm_z
      obtain ⟨_, s1576_z, s1577_z, g5_z, hm_z⟩ := hm_z
      replace g0_z := s1576_z 0 _ (by decide) rfl g0_z
      replace g1_z := s1576_z 1 _ (by decide) rfl g1_z
      replace g2_z := s1576_z 2 _ (by decide) rfl g2_z
      replace g3_z := s1576_z 3 _ (by decide) rfl g3_z
      replace g6_z := s1576_z 6 _ (by decide) rfl g6_z
      replace g7_z := s1576_z 7 _ (by decide) rfl g7_z
      replace g4_z := s1576_z 4 _ (by decide) rfl g4_z
      clear s1576_z s1577_z
      exact bk_t bk_r (H55 v6_z v7_z v6_z _ _ g0_z g1_z g2_z g3_z g4_z g5_z g6_z (show 0 ≤ v6_z.toInt ∧ v6_z.toInt ≤ 2147483646 by omega) hm_z)
    have H20 : ∀ (v4_z : Int32) (v5_z : Int32) (v6_z : Int32) (ls : am_L) (g : am_H), am_get ls 0 = some (.ref 164) → am_get ls 1 = some (.int n) → am_get ls 2 = some (.int y) → am_get ls 3 = some (.int w) → am_get ls 4 = some (.int v4_z) → am_get ls 5 = some (.int v5_z) → am_get ls 6 = some (.int v6_z) → 0 ≤ v6_z.toInt → rn (f + 1) am_m231 20 ls [] g r g' → bk g g' := by
      intro v4_z v5_z v6_z ls g g0_z g1_z g2_z g3_z g4_z g5_z g6_z i6_0 hm_z
      have z0_z : (0 : Int32).toInt = 0 := by decide
      replace hm_z := rn_iload (am_cur_of (i := (35, 2, .iload 6, (0, 0, 0), 0)) (by decide +kernel)) g6_z hm_z
      replace hm_z := rn_aload_n (am_cur_of (i := (37, 1, .aload_n 0, (0, 0, 0), 0)) (by decide +kernel)) g0_z hm_z
      replace hm_z := rn_getI (v := rg_v g 164 12) (am_cur_of (i := (38, 3, .getfield 219, (12, 12, 1396), 0)) (by decide +kernel)) (by decide +kernel) rfl hm_z
      replace hm_z := rn_cmp (am_cur_of (i := (41, 3, .if_icmp .ge 68, (57, 0, 0), 0)) (by decide +kernel)) hm_z
      rcases hm_z with ⟨b1578_z, hm_z⟩ | ⟨b1578_z, hm_z⟩
      · replace b1578_z : (rg_v g 164 12).toInt ≤ v6_z.toInt := b1578_z
        replace hm_z := rn_iload_n (am_cur_of (i := (109, 1, .iload_n 3, (0, 0, 0), 0)) (by decide +kernel)) g3_z hm_z
        replace hm_z := rn_if (am_cur_of (i := (110, 3, .ifCond .ne 8, (61, 0, 0), 0)) (by decide +kernel)) hm_z
        rcases hm_z with ⟨b1579_z, hm_z⟩ | ⟨b1579_z, hm_z⟩
        · replace b1579_z : ¬ w = (0 : Int32) ∧ ¬ w.toInt = (0 : Int32).toInt := b1579_z
          replace hm_z := rn_iload (am_cur_of (i := (118, 2, .iload 5, (0, 0, 0), 0)) (by decide +kernel)) g5_z hm_z
          replace hm_z := rn_iret (am_cur_of (i := (120, 1, .ireturn, (0, 0, 0), 0)) (by decide +kernel)) hm_z
          obtain ⟨e1580_z, e1581_z⟩ := hm_z
          rw [e1581_z]
          exact bk_r
        · replace b1579_z : w = (0 : Int32) ∧ w.toInt = (0 : Int32).toInt := b1579_z
          replace hm_z := rn_iload (am_cur_of (i := (113, 2, .iload 4, (0, 0, 0), 0)) (by decide +kernel)) g4_z hm_z
          replace hm_z := rn_goto (am_cur_of (i := (115, 3, .goto 5, (62, 0, 0), 0)) (by decide +kernel)) hm_z
          replace hm_z := rn_iret (am_cur_of (i := (120, 1, .ireturn, (0, 0, 0), 0)) (by decide +kernel)) hm_z
          obtain ⟨e1582_z, e1583_z⟩ := hm_z
          rw [e1583_z]
          exact bk_r
      · replace b1578_z : v6_z.toInt < (rg_v g 164 12).toInt := b1578_z
        have cv6_z := fk_c1 b1578_z
        have dv6_z := (ab_32 (rg_v g 164 12)).2
        replace hm_z := rn_aload_n (am_cur_of (i := (44, 1, .aload_n 0, (0, 0, 0), 0)) (by decide +kernel)) g0_z hm_z
        replace hm_z := rn_iload (am_cur_of (i := (45, 2, .iload 6, (0, 0, 0), 0)) (by decide +kernel)) g6_z hm_z
        replace hm_z := rn_iload_n (am_cur_of (i := (47, 1, .iload_n 1, (0, 0, 0), 0)) (by decide +kernel)) g1_z hm_z
        replace hm_z := rn_iload_n (am_cur_of (i := (48, 1, .iload_n 2, (0, 0, 0), 0)) (by decide +kernel)) g2_z hm_z
        replace hm_z := rn_iconst (w := (-1)) (am_cur_of (i := (49, 1, .iconst (-1), (0, 0, 0), 0)) (by decide +kernel)) (by decide) hm_z
        replace hm_z := rn_callV (M' := am_m228) (o := 164) (ar := [.int (-1), .int y, .int n, .int v6_z]) (rest := []) (L := lv_args 0 [.ref 164, .int v6_z, .int n, .int y, .int (-1)]) (am_cur_of (i := (50, 3, .invokevirtual 504, (228, 1942, 3), 0)) (by decide +kernel)) rfl rfl rfl rfl hm_z
        obtain ⟨r1584_z, h1585_z, q1586_z, hm_z⟩ := hm_z
        have k1587_z := fk_228 (by omega) q1586_z
        have vo := rn_void rfl q1586_z
        subst vo
        replace hm_z : rn _ _ _ _ [] _ _ _ := hm_z
        replace hm_z := rn_aload_n (am_cur_of (i := (53, 1, .aload_n 0, (0, 0, 0), 0)) (by decide +kernel)) g0_z hm_z
        replace hm_z := rn_getI (v := rg_v h1585_z 164 69) (am_cur_of (i := (54, 3, .getfield 492, (12, 69, 1453), 0)) (by decide +kernel)) (by decide +kernel) rfl hm_z
        replace hm_z := rn_aload_n (am_cur_of (i := (57, 1, .aload_n 0, (0, 0, 0), 0)) (by decide +kernel)) g0_z hm_z
        replace hm_z := rn_getR (x := 170) (am_cur_of (i := (58, 3, .getfield 30, (12, 25, 1409), 0)) (by decide +kernel)) (by decide +kernel) hm_z
        replace hm_z := rn_bipush (w := 7) (am_cur_of (i := (61, 2, .bipush 7, (0, 0, 0), 0)) (by decide +kernel)) (by decide) hm_z
        replace hm_z := rn_iload (am_cur_of (i := (63, 2, .iload 6, (0, 0, 0), 0)) (by decide +kernel)) g6_z hm_z
        replace hm_z := rn_imul (w := (7 : Int32) * v6_z) (am_cur_of (i := (65, 1, .imul, (0, 0, 0), 0)) (by decide +kernel)) rfl hm_z
        replace hm_z := rn_bipush (w := 6) (am_cur_of (i := (66, 2, .bipush 6, (0, 0, 0), 0)) (by decide +kernel)) (by decide) hm_z
        replace hm_z := rn_iadd (w := ((7 : Int32) * v6_z) + 6) (am_cur_of (i := (68, 1, .iadd, (0, 0, 0), 0)) (by decide +kernel)) rfl hm_z
        replace hm_z := rn_iaload (N := 56) (q := (((7 : Int32) * v6_z) + 6).toNatClampNeg) (v := rg_v h1585_z 170 ((((7 : Int32) * v6_z) + 6).toNatClampNeg)) (am_cur_of (i := (69, 1, .iaload, (0, 0, 0), 0)) (by decide +kernel)) (by decide +kernel) rfl rfl hm_z
        obtain ⟨p1588_z, hm_z⟩ := hm_z
        replace hm_z := rn_imul (w := (rg_v h1585_z 164 69) * (rg_v h1585_z 170 ((((7 : Int32) * v6_z) + 6).toNatClampNeg))) (am_cur_of (i := (70, 1, .imul, (0, 0, 0), 0)) (by decide +kernel)) rfl hm_z
        replace hm_z := rn_istore (am_cur_of (i := (71, 2, .istore 7, (0, 0, 0), 0)) (by decide +kernel)) hm_z
        obtain ⟨_, s1589_z, s1590_z, g7_z, hm_z⟩ := hm_z
        replace g0_z := s1589_z 0 _ (by decide) rfl g0_z
        replace g1_z := s1589_z 1 _ (by decide) rfl g1_z
        replace g2_z := s1589_z 2 _ (by decide) rfl g2_z
        replace g3_z := s1589_z 3 _ (by decide) rfl g3_z
        replace g4_z := s1589_z 4 _ (by decide) rfl g4_z
        replace g5_z := s1589_z 5 _ (by decide) rfl g5_z
        replace g6_z := s1589_z 6 _ (by decide) rfl g6_z
        clear s1589_z s1590_z
        replace hm_z := rn_aload_n (am_cur_of (i := (73, 1, .aload_n 0, (0, 0, 0), 0)) (by decide +kernel)) g0_z hm_z
        replace hm_z := rn_getI (v := rg_v h1585_z 164 69) (am_cur_of (i := (74, 3, .getfield 492, (12, 69, 1453), 0)) (by decide +kernel)) (by decide +kernel) rfl hm_z
        replace hm_z := rn_if (am_cur_of (i := (77, 3, .ifCond .lt 26, (55, 0, 0), 0)) (by decide +kernel)) hm_z
        rcases hm_z with ⟨b1591_z, hm_z⟩ | ⟨b1591_z, hm_z⟩
        · replace b1591_z : (rg_v h1585_z 164 69).toInt < (0 : Int32).toInt := b1591_z
          exact bk_t (bk_t bk_r k1587_z) (H55 v4_z v5_z v6_z _ _ g0_z g1_z g2_z g3_z g4_z g5_z g6_z (show 0 ≤ v6_z.toInt ∧ v6_z.toInt ≤ 2147483646 by omega) hm_z)
        · replace b1591_z : (0 : Int32).toInt ≤ (rg_v h1585_z 164 69).toInt := b1591_z
          replace hm_z := rn_iload (am_cur_of (i := (80, 2, .iload 4, (0, 0, 0), 0)) (by decide +kernel)) g4_z hm_z
          replace hm_z := rn_if (am_cur_of (i := (82, 3, .ifCond .lt 13, (51, 0, 0), 0)) (by decide +kernel)) hm_z
          rcases hm_z with ⟨b1592_z, hm_z⟩ | ⟨b1592_z, hm_z⟩
          · replace b1592_z : v4_z.toInt < (0 : Int32).toInt := b1592_z
            exact bk_t (bk_t bk_r k1587_z) (H51 v6_z ((rg_v h1585_z 164 69) * (rg_v h1585_z 170 ((((7 : Int32) * v6_z) + 6).toNatClampNeg))) _ _ g0_z g1_z g2_z g3_z g6_z g7_z (show 0 ≤ v6_z.toInt ∧ v6_z.toInt ≤ 2147483646 by omega) hm_z)
          · replace b1592_z : (0 : Int32).toInt ≤ v4_z.toInt := b1592_z
            replace hm_z := rn_iload (am_cur_of (i := (85, 2, .iload 7, (0, 0, 0), 0)) (by decide +kernel)) g7_z hm_z
            replace hm_z := rn_iload (am_cur_of (i := (87, 2, .iload 5, (0, 0, 0), 0)) (by decide +kernel)) g5_z hm_z
            replace hm_z := rn_cmp (am_cur_of (i := (89, 3, .if_icmp .lt 6, (51, 0, 0), 0)) (by decide +kernel)) hm_z
            rcases hm_z with ⟨b1593_z, hm_z⟩ | ⟨b1593_z, hm_z⟩
            · replace b1593_z : ((rg_v h1585_z 164 69) * (rg_v h1585_z 170 ((((7 : Int32) * v6_z) + 6).toNatClampNeg))).toInt < v5_z.toInt := b1593_z
              exact bk_t (bk_t bk_r k1587_z) (H51 v6_z ((rg_v h1585_z 164 69) * (rg_v h1585_z 170 ((((7 : Int32) * v6_z) + 6).toNatClampNeg))) _ _ g0_z g1_z g2_z g3_z g6_z g7_z (show 0 ≤ v6_z.toInt ∧ v6_z.toInt ≤ 2147483646 by omega) hm_z)
            · replace b1593_z : v5_z.toInt ≤ ((rg_v h1585_z 164 69) * (rg_v h1585_z 170 ((((7 : Int32) * v6_z) + 6).toNatClampNeg))).toInt := b1593_z
              replace hm_z := rn_goto (am_cur_of (i := (92, 3, .goto 11, (55, 0, 0), 0)) (by decide +kernel)) hm_z
              exact bk_t (bk_t bk_r k1587_z) (H55 v4_z v5_z v6_z _ _ g0_z g1_z g2_z g3_z g4_z g5_z g6_z (show 0 ≤ v6_z.toInt ∧ v6_z.toInt ≤ 2147483646 by omega) hm_z)
    have H12 : ∀ (ls : am_L) (g : am_H), rn (f + 1) am_m231 12 ls [] g r g' → bk g g' := by
      intro ls g hm_z
      replace hm_z := rn_iconst (w := (-1)) (am_cur_of (i := (22, 1, .iconst (-1), (0, 0, 0), 0)) (by decide +kernel)) (by decide) hm_z
      replace hm_z := rn_iret (am_cur_of (i := (23, 1, .ireturn, (0, 0, 0), 0)) (by decide +kernel)) hm_z
      obtain ⟨e1594_z, e1595_z⟩ := hm_z
      rw [e1595_z]
      exact bk_r
    exact ⟨H12, H20, H51, H55⟩
theorem fk_231 {nst : Nat} {r : Option Value} {g g' : am_H} {n : Int32} {y : Int32} {w : Int32}  (hm_z : rn nst am_m231 0 (lv_args 0 [.ref 164, .int n, .int y, .int w]) [] g r g') : bk g g' := by
  have z0_z : (0 : Int32).toInt = 0 := by decide
  have g0_z : am_get (lv_args 0 [.ref 164, .int n, .int y, .int w]) 0 = some (.ref 164) := rfl
  have g1_z : am_get (lv_args 0 [.ref 164, .int n, .int y, .int w]) 1 = some (.int n) := rfl
  have g2_z : am_get (lv_args 0 [.ref 164, .int n, .int y, .int w]) 2 = some (.int y) := rfl
  have g3_z : am_get (lv_args 0 [.ref 164, .int n, .int y, .int w]) 3 = some (.int w) := rfl
  replace hm_z := rn_aload_n (am_cur_of (i := (0, 1, .aload_n 0, (0, 0, 0), 0)) (by decide +kernel)) g0_z hm_z
  replace hm_z := rn_iconst (w := 0) (am_cur_of (i := (1, 1, .iconst 0, (0, 0, 0), 0)) (by decide +kernel)) (by decide) hm_z
  replace hm_z := rn_put (am_cur_of (i := (2, 3, .putfield 139, (12, 2, 1386), 0)) (by decide +kernel)) (by decide +kernel) hm_z
  replace hm_z := rn_iload_n (am_cur_of (i := (5, 1, .iload_n 1, (0, 0, 0), 0)) (by decide +kernel)) g1_z hm_z
  replace hm_z := rn_iload_n (am_cur_of (i := (6, 1, .iload_n 2, (0, 0, 0), 0)) (by decide +kernel)) g2_z hm_z
  replace hm_z := rn_callS (M' := am_m227) (ar := [.int y, .int n]) (rest := []) (L := lv_args 0 [.int n, .int y]) (am_cur_of (i := (7, 3, .invokestatic 501, (227, 1939, 3), 0)) (by decide +kernel)) rfl rfl rfl rfl hm_z
  obtain ⟨r1596_z, h1597_z, q1598_z, hm_z⟩ := hm_z
  have k1599_z := fk_227 q1598_z
  obtain ⟨v1600_z, rfl⟩ := rn_ret (M := am_m227) rfl (by decide) q1598_z
  replace hm_z : rn _ _ _ _ [.int v1600_z] _ _ _ := hm_z
  replace hm_z := rn_if (am_cur_of (i := (10, 3, .ifCond .eq 12, (12, 0, 0), 0)) (by decide +kernel)) hm_z
  rcases hm_z with ⟨b1601_z, hm_z⟩ | ⟨b1601_z, hm_z⟩
  · replace b1601_z : v1600_z = (0 : Int32) ∧ v1600_z.toInt = (0 : Int32).toInt := b1601_z
    have H12 := (fk_231_L (r := r) (g' := g') (n := n) (y := y) (w := w)  nst).1
    exact bk_t (bk_t (bk_u (by decide) bk_r) k1599_z) (H12 _ _ hm_z)
  · replace b1601_z : ¬ v1600_z = (0 : Int32) ∧ ¬ v1600_z.toInt = (0 : Int32).toInt := b1601_z
    replace hm_z := rn_iload_n (am_cur_of (i := (13, 1, .iload_n 3, (0, 0, 0), 0)) (by decide +kernel)) g3_z hm_z
    replace hm_z := rn_iconst (w := 0) (am_cur_of (i := (14, 1, .iconst 0, (0, 0, 0), 0)) (by decide +kernel)) (by decide) hm_z
    replace hm_z := rn_iconst (w := 1) (am_cur_of (i := (15, 1, .iconst 1, (0, 0, 0), 0)) (by decide +kernel)) (by decide) hm_z
    replace hm_z := rn_callS (M' := am_m162) (ar := [.int 1, .int 0, .int w]) (rest := []) (L := lv_args 0 [.int w, .int 0, .int 1]) (am_cur_of (i := (16, 3, .invokestatic 184, (162, 1681, 3), 0)) (by decide +kernel)) rfl rfl rfl rfl hm_z
    obtain ⟨r1602_z, h1603_z, q1604_z, hm_z⟩ := hm_z
    have k1605_z := nq_162 q1604_z
    obtain ⟨v1606_z, rfl⟩ := rn_ret (M := am_m162) rfl (by decide) q1604_z
    replace hm_z : rn _ _ _ _ [.int v1606_z] _ _ _ := hm_z
    replace hm_z := rn_if (am_cur_of (i := (19, 3, .ifCond .ne 5, (14, 0, 0), 0)) (by decide +kernel)) hm_z
    rcases hm_z with ⟨b1607_z, hm_z⟩ | ⟨b1607_z, hm_z⟩
    · replace b1607_z : ¬ v1606_z = (0 : Int32) ∧ ¬ v1606_z.toInt = (0 : Int32).toInt := b1607_z
      replace hm_z := rn_bipush (w := (-2)) (am_cur_of (i := (24, 2, .bipush (-2), (0, 0, 0), 0)) (by decide +kernel)) (by decide) hm_z
      replace hm_z := rn_istore (am_cur_of (i := (26, 2, .istore 4, (0, 0, 0), 0)) (by decide +kernel)) hm_z
      obtain ⟨_, s1608_z, s1609_z, g4_z, hm_z⟩ := hm_z
      replace g0_z := s1608_z 0 _ (by decide) rfl g0_z
      replace g1_z := s1608_z 1 _ (by decide) rfl g1_z
      replace g2_z := s1608_z 2 _ (by decide) rfl g2_z
      replace g3_z := s1608_z 3 _ (by decide) rfl g3_z
      clear s1608_z s1609_z
      replace hm_z := rn_bipush (w := (-2)) (am_cur_of (i := (28, 2, .bipush (-2), (0, 0, 0), 0)) (by decide +kernel)) (by decide) hm_z
      replace hm_z := rn_istore (am_cur_of (i := (30, 2, .istore 5, (0, 0, 0), 0)) (by decide +kernel)) hm_z
      obtain ⟨_, s1610_z, s1611_z, g5_z, hm_z⟩ := hm_z
      replace g0_z := s1610_z 0 _ (by decide) rfl g0_z
      replace g1_z := s1610_z 1 _ (by decide) rfl g1_z
      replace g2_z := s1610_z 2 _ (by decide) rfl g2_z
      replace g3_z := s1610_z 3 _ (by decide) rfl g3_z
      replace g4_z := s1610_z 4 _ (by decide) rfl g4_z
      clear s1610_z s1611_z
      replace hm_z := rn_iconst (w := 0) (am_cur_of (i := (32, 1, .iconst 0, (0, 0, 0), 0)) (by decide +kernel)) (by decide) hm_z
      replace hm_z := rn_istore (am_cur_of (i := (33, 2, .istore 6, (0, 0, 0), 0)) (by decide +kernel)) hm_z
      obtain ⟨_, s1612_z, s1613_z, g6_z, hm_z⟩ := hm_z
      replace g0_z := s1612_z 0 _ (by decide) rfl g0_z
      replace g1_z := s1612_z 1 _ (by decide) rfl g1_z
      replace g2_z := s1612_z 2 _ (by decide) rfl g2_z
      replace g3_z := s1612_z 3 _ (by decide) rfl g3_z
      replace g4_z := s1612_z 4 _ (by decide) rfl g4_z
      replace g5_z := s1612_z 5 _ (by decide) rfl g5_z
      clear s1612_z s1613_z
      have H20 := (fk_231_L (r := r) (g' := g') (n := n) (y := y) (w := w)  nst).2.1
      exact bk_t (bk_t (bk_t (bk_u (by decide) bk_r) k1599_z) (bk_n k1605_z)) (H20 (-2) (-2) 0 _ _ g0_z g1_z g2_z g3_z g4_z g5_z g6_z (show 0 ≤ (0 : Int32).toInt by decide) hm_z)
    · replace b1607_z : v1606_z = (0 : Int32) ∧ v1606_z.toInt = (0 : Int32).toInt := b1607_z
      have H12 := (fk_231_L (r := r) (g' := g') (n := n) (y := y) (w := w)  nst).1
      exact bk_t (bk_t (bk_t (bk_u (by decide) bk_r) k1599_z) (bk_n k1605_z)) (H12 _ _ hm_z)
theorem fk_232_L {r : Option Value} {g' : am_H} {n : Int32} {w : Int32}  : ∀ f : Nat, (∀ (ls : am_L) (g : am_H), rn f am_m232 24 ls [] g r g' → bk g g') ∧ (∀ (v3_z : Int32) (v4_z : Int32) (v5_z : Int32) (ls : am_L) (g : am_H), am_get ls 0 = some (.ref 164) → am_get ls 1 = some (.int n) → am_get ls 2 = some (.int w) → am_get ls 3 = some (.int v3_z) → am_get ls 4 = some (.int v4_z) → am_get ls 5 = some (.int v5_z) → rn f am_m232 32 ls [] g r g' → bk g g') ∧ (∀ (v3_z : Int32) (v4_z : Int32) (v5_z : Int32) (v6_z : Int32) (ls : am_L) (g : am_H), am_get ls 0 = some (.ref 164) → am_get ls 1 = some (.int n) → am_get ls 2 = some (.int w) → am_get ls 3 = some (.int v3_z) → am_get ls 4 = some (.int v4_z) → am_get ls 5 = some (.int v5_z) → am_get ls 6 = some (.int v6_z) → rn f am_m232 46 ls [] g r g' → bk g g') ∧ (∀ (v3_z : Int32) (v4_z : Int32) (v5_z : Int32) (ls : am_L) (g : am_H), am_get ls 0 = some (.ref 164) → am_get ls 1 = some (.int n) → am_get ls 2 = some (.int w) → am_get ls 3 = some (.int v3_z) → am_get ls 4 = some (.int v4_z) → am_get ls 5 = some (.int v5_z) → rn f am_m232 83 ls [] g r g' → bk g g') := by
  intro f
  induction f with
  | zero =>
    exact ⟨fun _ _ hm_z => absurd hm_z rn_0, fun _ _ _ _ _ _ _ _ _ _ _ hm_z => absurd hm_z rn_0, fun _ _ _ _ _ _ _ _ _ _ _ _ _ hm_z => absurd hm_z rn_0, fun _ _ _ _ _ _ _ _ _ _ _ hm_z => absurd hm_z rn_0⟩
  | succ f ih_z =>
    obtain ⟨I24, I32, I46, I83⟩ := ih_z
    have H83 : ∀ (v3_z : Int32) (v4_z : Int32) (v5_z : Int32) (ls : am_L) (g : am_H), am_get ls 0 = some (.ref 164) → am_get ls 1 = some (.int n) → am_get ls 2 = some (.int w) → am_get ls 3 = some (.int v3_z) → am_get ls 4 = some (.int v4_z) → am_get ls 5 = some (.int v5_z) → rn (f + 1) am_m232 83 ls [] g r g' → bk g g' := by
      intro v3_z v4_z v5_z ls g g0_z g1_z g2_z g3_z g4_z g5_z hm_z
      replace hm_z := rn_iinc (w := v5_z + 1) (am_cur_of (i := (145, 3, .iinc 5 1, (0, 0, 0), 0)) (by decide +kernel)) g5_z rfl hm_z
      obtain ⟨_, s1614_z, s1615_z, g5_z, hm_z⟩ := hm_z
      replace g0_z := s1614_z 0 _ (by decide) rfl g0_z
      replace g1_z := s1614_z 1 _ (by decide) rfl g1_z
      replace g2_z := s1614_z 2 _ (by decide) rfl g2_z
      replace g3_z := s1614_z 3 _ (by decide) rfl g3_z
      replace g4_z := s1614_z 4 _ (by decide) rfl g4_z
      clear s1614_z s1615_z
      replace hm_z := rn_gotoL (am_cur_of (i := (148, 3, .goto (-94), (32, 0, 0), 0)) (by decide +kernel)) hm_z
      exact bk_t bk_r (I32 v3_z v4_z (v5_z + 1) _ _ g0_z g1_z g2_z g3_z g4_z g5_z hm_z)
    have H46 : ∀ (v3_z : Int32) (v4_z : Int32) (v5_z : Int32) (v6_z : Int32) (ls : am_L) (g : am_H), am_get ls 0 = some (.ref 164) → am_get ls 1 = some (.int n) → am_get ls 2 = some (.int w) → am_get ls 3 = some (.int v3_z) → am_get ls 4 = some (.int v4_z) → am_get ls 5 = some (.int v5_z) → am_get ls 6 = some (.int v6_z) → rn (f + 1) am_m232 46 ls [] g r g' → bk g g' := by
      intro v3_z v4_z v5_z v6_z ls g g0_z g1_z g2_z g3_z g4_z g5_z g6_z hm_z
      replace hm_z := rn_iload (am_cur_of (i := (76, 2, .iload 6, (0, 0, 0), 0)) (by decide +kernel)) g6_z hm_z
      replace hm_z := rn_iload_n (am_cur_of (i := (78, 1, .iload_n 1, (0, 0, 0), 0)) (by decide +kernel)) g1_z hm_z
      replace hm_z := rn_cmp (am_cur_of (i := (79, 3, .if_icmp .ge 41, (69, 0, 0), 0)) (by decide +kernel)) hm_z
      rcases hm_z with ⟨b1616_z, hm_z⟩ | ⟨b1616_z, hm_z⟩
      · replace b1616_z : n.toInt ≤ v6_z.toInt := b1616_z
        replace hm_z := rn_aload_n (am_cur_of (i := (120, 1, .aload_n 0, (0, 0, 0), 0)) (by decide +kernel)) g0_z hm_z
        replace hm_z := rn_getR (x := 188) (am_cur_of (i := (121, 3, .getfield 85, (12, 50, 1434), 0)) (by decide +kernel)) (by decide +kernel) hm_z
        replace hm_z := rn_iconst (w := 1) (am_cur_of (i := (124, 1, .iconst 1, (0, 0, 0), 0)) (by decide +kernel)) (by decide) hm_z
        replace hm_z := rn_iaload (N := 4) (q := 1) (v := rg_v g 188 1) (am_cur_of (i := (125, 1, .iaload, (0, 0, 0), 0)) (by decide +kernel)) (by decide +kernel) rfl rfl hm_z
        obtain ⟨p1617_z, hm_z⟩ := hm_z
        replace hm_z := rn_iload (am_cur_of (i := (126, 2, .iload 4, (0, 0, 0), 0)) (by decide +kernel)) g4_z hm_z
        replace hm_z := rn_cmp (am_cur_of (i := (128, 3, .if_icmp .gt 6, (76, 0, 0), 0)) (by decide +kernel)) hm_z
        rcases hm_z with ⟨b1618_z, hm_z⟩ | ⟨b1618_z, hm_z⟩
        · replace b1618_z : v4_z.toInt < (rg_v g 188 1).toInt := b1618_z
          replace hm_z := rn_iload (am_cur_of (i := (134, 2, .iload 5, (0, 0, 0), 0)) (by decide +kernel)) g5_z hm_z
          replace hm_z := rn_istore_n (am_cur_of (i := (136, 1, .istore_n 3, (0, 0, 0), 0)) (by decide +kernel)) hm_z
          obtain ⟨_, s1619_z, s1620_z, g3_z, hm_z⟩ := hm_z
          replace g0_z := s1619_z 0 _ (by decide) rfl g0_z
          replace g1_z := s1619_z 1 _ (by decide) rfl g1_z
          replace g2_z := s1619_z 2 _ (by decide) rfl g2_z
          replace g4_z := s1619_z 4 _ (by decide) rfl g4_z
          replace g5_z := s1619_z 5 _ (by decide) rfl g5_z
          replace g6_z := s1619_z 6 _ (by decide) rfl g6_z
          clear s1619_z s1620_z
          replace hm_z := rn_aload_n (am_cur_of (i := (137, 1, .aload_n 0, (0, 0, 0), 0)) (by decide +kernel)) g0_z hm_z
          replace hm_z := rn_getR (x := 188) (am_cur_of (i := (138, 3, .getfield 85, (12, 50, 1434), 0)) (by decide +kernel)) (by decide +kernel) hm_z
          replace hm_z := rn_iconst (w := 1) (am_cur_of (i := (141, 1, .iconst 1, (0, 0, 0), 0)) (by decide +kernel)) (by decide) hm_z
          replace hm_z := rn_iaload (N := 4) (q := 1) (v := rg_v g 188 1) (am_cur_of (i := (142, 1, .iaload, (0, 0, 0), 0)) (by decide +kernel)) (by decide +kernel) rfl rfl hm_z
          obtain ⟨p1621_z, hm_z⟩ := hm_z
          replace hm_z := rn_istore (am_cur_of (i := (143, 2, .istore 4, (0, 0, 0), 0)) (by decide +kernel)) hm_z
          obtain ⟨_, s1622_z, s1623_z, g4_z, hm_z⟩ := hm_z
          replace g0_z := s1622_z 0 _ (by decide) rfl g0_z
          replace g1_z := s1622_z 1 _ (by decide) rfl g1_z
          replace g2_z := s1622_z 2 _ (by decide) rfl g2_z
          replace g3_z := s1622_z 3 _ (by decide) rfl g3_z
          replace g5_z := s1622_z 5 _ (by decide) rfl g5_z
          replace g6_z := s1622_z 6 _ (by decide) rfl g6_z
          clear s1622_z s1623_z
          exact bk_t bk_r (H83 v5_z (rg_v g 188 1) v5_z _ _ g0_z g1_z g2_z g3_z g4_z g5_z hm_z)
        · replace b1618_z : (rg_v g 188 1).toInt ≤ v4_z.toInt := b1618_z
          replace hm_z := rn_goto (am_cur_of (i := (131, 3, .goto 14, (83, 0, 0), 0)) (by decide +kernel)) hm_z
          exact bk_t bk_r (H83 v3_z v4_z v5_z _ _ g0_z g1_z g2_z g3_z g4_z g5_z hm_z)
      · replace b1616_z : v6_z.toInt < n.toInt := b1616_z
        replace hm_z := rn_aload_n (am_cur_of (i := (82, 1, .aload_n 0, (0, 0, 0), 0)) (by decide +kernel)) g0_z hm_z
        replace hm_z := rn_iconst (w := 1) (am_cur_of (i := (83, 1, .iconst 1, (0, 0, 0), 0)) (by decide +kernel)) (by decide) hm_z
        replace hm_z := rn_iconst (w := 0) (am_cur_of (i := (84, 1, .iconst 0, (0, 0, 0), 0)) (by decide +kernel)) (by decide) hm_z
        replace hm_z := rn_iload (am_cur_of (i := (85, 2, .iload 6, (0, 0, 0), 0)) (by decide +kernel)) g6_z hm_z
        replace hm_z := rn_iload (am_cur_of (i := (87, 2, .iload 5, (0, 0, 0), 0)) (by decide +kernel)) g5_z hm_z
        replace hm_z := rn_cmp (am_cur_of (i := (89, 3, .if_icmp .lt 21, (65, 0, 0), 0)) (by decide +kernel)) hm_z
        rcases hm_z with ⟨b1624_z, hm_z⟩ | ⟨b1624_z, hm_z⟩
        · replace b1624_z : v6_z.toInt < v5_z.toInt := b1624_z
          replace hm_z := rn_iconst (w := 0) (am_cur_of (i := (110, 1, .iconst 0, (0, 0, 0), 0)) (by decide +kernel)) (by decide) hm_z
          replace hm_z := rn_callV (M' := am_m199) (o := 164) (ar := [.int 0, .int 0, .int 1]) (rest := []) (L := lv_args 0 [.ref 164, .int 1, .int 0, .int 0]) (am_cur_of (i := (111, 3, .invokevirtual 434, (199, 1828, 3), 0)) (by decide +kernel)) rfl rfl rfl rfl hm_z
          obtain ⟨r1625_z, h1626_z, q1627_z, hm_z⟩ := hm_z
          have k1628_z := fk_199_1 q1627_z
          have vo := rn_void rfl q1627_z
          subst vo
          replace hm_z : rn _ _ _ _ [] _ _ _ := hm_z
          replace hm_z := rn_iinc (w := v6_z + 1) (am_cur_of (i := (114, 3, .iinc 6 1, (0, 0, 0), 0)) (by decide +kernel)) g6_z rfl hm_z
          obtain ⟨_, s1629_z, s1630_z, g6_z, hm_z⟩ := hm_z
          replace g0_z := s1629_z 0 _ (by decide) rfl g0_z
          replace g1_z := s1629_z 1 _ (by decide) rfl g1_z
          replace g2_z := s1629_z 2 _ (by decide) rfl g2_z
          replace g3_z := s1629_z 3 _ (by decide) rfl g3_z
          replace g4_z := s1629_z 4 _ (by decide) rfl g4_z
          replace g5_z := s1629_z 5 _ (by decide) rfl g5_z
          clear s1629_z s1630_z
          replace hm_z := rn_gotoL (am_cur_of (i := (117, 3, .goto (-41), (46, 0, 0), 0)) (by decide +kernel)) hm_z
          exact bk_t (bk_t bk_r k1628_z) (I46 v3_z v4_z v5_z (v6_z + 1) _ _ g0_z g1_z g2_z g3_z g4_z g5_z g6_z hm_z)
        · replace b1624_z : v5_z.toInt ≤ v6_z.toInt := b1624_z
          replace hm_z := rn_iload (am_cur_of (i := (92, 2, .iload 6, (0, 0, 0), 0)) (by decide +kernel)) g6_z hm_z
          replace hm_z := rn_iload (am_cur_of (i := (94, 2, .iload 5, (0, 0, 0), 0)) (by decide +kernel)) g5_z hm_z
          replace hm_z := rn_aload_n (am_cur_of (i := (96, 1, .aload_n 0, (0, 0, 0), 0)) (by decide +kernel)) g0_z hm_z
          replace hm_z := rn_getR (x := 194) (am_cur_of (i := (97, 3, .getfield 103, (12, 56, 1440), 0)) (by decide +kernel)) (by decide +kernel) hm_z
          replace hm_z := rn_iconst (w := 0) (am_cur_of (i := (100, 1, .iconst 0, (0, 0, 0), 0)) (by decide +kernel)) (by decide) hm_z
          replace hm_z := rn_iaload (N := 4) (q := 0) (v := rg_v g 194 0) (am_cur_of (i := (101, 1, .iaload, (0, 0, 0), 0)) (by decide +kernel)) (by decide +kernel) rfl rfl hm_z
          obtain ⟨p1631_z, hm_z⟩ := hm_z
          replace hm_z := rn_iadd (w := v5_z + (rg_v g 194 0)) (am_cur_of (i := (102, 1, .iadd, (0, 0, 0), 0)) (by decide +kernel)) rfl hm_z
          replace hm_z := rn_cmp (am_cur_of (i := (103, 3, .if_icmp .ge 7, (65, 0, 0), 0)) (by decide +kernel)) hm_z
          rcases hm_z with ⟨b1632_z, hm_z⟩ | ⟨b1632_z, hm_z⟩
          · replace b1632_z : (v5_z + (rg_v g 194 0)).toInt ≤ v6_z.toInt := b1632_z
            replace hm_z := rn_iconst (w := 0) (am_cur_of (i := (110, 1, .iconst 0, (0, 0, 0), 0)) (by decide +kernel)) (by decide) hm_z
            replace hm_z := rn_callV (M' := am_m199) (o := 164) (ar := [.int 0, .int 0, .int 1]) (rest := []) (L := lv_args 0 [.ref 164, .int 1, .int 0, .int 0]) (am_cur_of (i := (111, 3, .invokevirtual 434, (199, 1828, 3), 0)) (by decide +kernel)) rfl rfl rfl rfl hm_z
            obtain ⟨r1633_z, h1634_z, q1635_z, hm_z⟩ := hm_z
            have k1636_z := fk_199_1 q1635_z
            have vo := rn_void rfl q1635_z
            subst vo
            replace hm_z : rn _ _ _ _ [] _ _ _ := hm_z
            replace hm_z := rn_iinc (w := v6_z + 1) (am_cur_of (i := (114, 3, .iinc 6 1, (0, 0, 0), 0)) (by decide +kernel)) g6_z rfl hm_z
            obtain ⟨_, s1637_z, s1638_z, g6_z, hm_z⟩ := hm_z
            replace g0_z := s1637_z 0 _ (by decide) rfl g0_z
            replace g1_z := s1637_z 1 _ (by decide) rfl g1_z
            replace g2_z := s1637_z 2 _ (by decide) rfl g2_z
            replace g3_z := s1637_z 3 _ (by decide) rfl g3_z
            replace g4_z := s1637_z 4 _ (by decide) rfl g4_z
            replace g5_z := s1637_z 5 _ (by decide) rfl g5_z
            clear s1637_z s1638_z
            replace hm_z := rn_gotoL (am_cur_of (i := (117, 3, .goto (-41), (46, 0, 0), 0)) (by decide +kernel)) hm_z
            exact bk_t (bk_t bk_r k1636_z) (I46 v3_z v4_z v5_z (v6_z + 1) _ _ g0_z g1_z g2_z g3_z g4_z g5_z g6_z hm_z)
          · replace b1632_z : v6_z.toInt < (v5_z + (rg_v g 194 0)).toInt := b1632_z
            replace hm_z := rn_iconst (w := 1) (am_cur_of (i := (106, 1, .iconst 1, (0, 0, 0), 0)) (by decide +kernel)) (by decide) hm_z
            replace hm_z := rn_goto (am_cur_of (i := (107, 3, .goto 4, (66, 0, 0), 0)) (by decide +kernel)) hm_z
            replace hm_z := rn_callV (M' := am_m199) (o := 164) (ar := [.int 1, .int 0, .int 1]) (rest := []) (L := lv_args 0 [.ref 164, .int 1, .int 0, .int 1]) (am_cur_of (i := (111, 3, .invokevirtual 434, (199, 1828, 3), 0)) (by decide +kernel)) rfl rfl rfl rfl hm_z
            obtain ⟨r1639_z, h1640_z, q1641_z, hm_z⟩ := hm_z
            have k1642_z := fk_199_1 q1641_z
            have vo := rn_void rfl q1641_z
            subst vo
            replace hm_z : rn _ _ _ _ [] _ _ _ := hm_z
            replace hm_z := rn_iinc (w := v6_z + 1) (am_cur_of (i := (114, 3, .iinc 6 1, (0, 0, 0), 0)) (by decide +kernel)) g6_z rfl hm_z
            obtain ⟨_, s1643_z, s1644_z, g6_z, hm_z⟩ := hm_z
            replace g0_z := s1643_z 0 _ (by decide) rfl g0_z
            replace g1_z := s1643_z 1 _ (by decide) rfl g1_z
            replace g2_z := s1643_z 2 _ (by decide) rfl g2_z
            replace g3_z := s1643_z 3 _ (by decide) rfl g3_z
            replace g4_z := s1643_z 4 _ (by decide) rfl g4_z
            replace g5_z := s1643_z 5 _ (by decide) rfl g5_z
            clear s1643_z s1644_z
            replace hm_z := rn_gotoL (am_cur_of (i := (117, 3, .goto (-41), (46, 0, 0), 0)) (by decide +kernel)) hm_z
            exact bk_t (bk_t bk_r k1642_z) (I46 v3_z v4_z v5_z (v6_z + 1) _ _ g0_z g1_z g2_z g3_z g4_z g5_z g6_z hm_z)
    have H32 : ∀ (v3_z : Int32) (v4_z : Int32) (v5_z : Int32) (ls : am_L) (g : am_H), am_get ls 0 = some (.ref 164) → am_get ls 1 = some (.int n) → am_get ls 2 = some (.int w) → am_get ls 3 = some (.int v3_z) → am_get ls 4 = some (.int v4_z) → am_get ls 5 = some (.int v5_z) → rn (f + 1) am_m232 32 ls [] g r g' → bk g g' := by
      intro v3_z v4_z v5_z ls g g0_z g1_z g2_z g3_z g4_z g5_z hm_z
      have z0_z : (0 : Int32).toInt = 0 := by decide
      replace hm_z := rn_iload (am_cur_of (i := (54, 2, .iload 5, (0, 0, 0), 0)) (by decide +kernel)) g5_z hm_z
      replace hm_z := rn_iload_n (am_cur_of (i := (56, 1, .iload_n 1, (0, 0, 0), 0)) (by decide +kernel)) g1_z hm_z
      replace hm_z := rn_aload_n (am_cur_of (i := (57, 1, .aload_n 0, (0, 0, 0), 0)) (by decide +kernel)) g0_z hm_z
      replace hm_z := rn_getR (x := 194) (am_cur_of (i := (58, 3, .getfield 103, (12, 56, 1440), 0)) (by decide +kernel)) (by decide +kernel) hm_z
      replace hm_z := rn_iconst (w := 0) (am_cur_of (i := (61, 1, .iconst 0, (0, 0, 0), 0)) (by decide +kernel)) (by decide) hm_z
      replace hm_z := rn_iaload (N := 4) (q := 0) (v := rg_v g 194 0) (am_cur_of (i := (62, 1, .iaload, (0, 0, 0), 0)) (by decide +kernel)) (by decide +kernel) rfl rfl hm_z
      obtain ⟨p1645_z, hm_z⟩ := hm_z
      replace hm_z := rn_isub (w := n - (rg_v g 194 0)) (am_cur_of (i := (63, 1, .isub, (0, 0, 0), 0)) (by decide +kernel)) rfl hm_z
      replace hm_z := rn_cmp (am_cur_of (i := (64, 3, .if_icmp .gt 87, (85, 0, 0), 0)) (by decide +kernel)) hm_z
      rcases hm_z with ⟨b1646_z, hm_z⟩ | ⟨b1646_z, hm_z⟩
      · replace b1646_z : (n - (rg_v g 194 0)).toInt < v5_z.toInt := b1646_z
        replace hm_z := rn_iload_n (am_cur_of (i := (151, 1, .iload_n 2, (0, 0, 0), 0)) (by decide +kernel)) g2_z hm_z
        replace hm_z := rn_if (am_cur_of (i := (152, 3, .ifCond .ne 7, (89, 0, 0), 0)) (by decide +kernel)) hm_z
        rcases hm_z with ⟨b1647_z, hm_z⟩ | ⟨b1647_z, hm_z⟩
        · replace b1647_z : ¬ w = (0 : Int32) ∧ ¬ w.toInt = (0 : Int32).toInt := b1647_z
          replace hm_z := rn_iload (am_cur_of (i := (159, 2, .iload 4, (0, 0, 0), 0)) (by decide +kernel)) g4_z hm_z
          replace hm_z := rn_iret (am_cur_of (i := (161, 1, .ireturn, (0, 0, 0), 0)) (by decide +kernel)) hm_z
          obtain ⟨e1648_z, e1649_z⟩ := hm_z
          rw [e1649_z]
          exact bk_r
        · replace b1647_z : w = (0 : Int32) ∧ w.toInt = (0 : Int32).toInt := b1647_z
          replace hm_z := rn_iload_n (am_cur_of (i := (155, 1, .iload_n 3, (0, 0, 0), 0)) (by decide +kernel)) g3_z hm_z
          replace hm_z := rn_goto (am_cur_of (i := (156, 3, .goto 5, (90, 0, 0), 0)) (by decide +kernel)) hm_z
          replace hm_z := rn_iret (am_cur_of (i := (161, 1, .ireturn, (0, 0, 0), 0)) (by decide +kernel)) hm_z
          obtain ⟨e1650_z, e1651_z⟩ := hm_z
          rw [e1651_z]
          exact bk_r
      · replace b1646_z : v5_z.toInt ≤ (n - (rg_v g 194 0)).toInt := b1646_z
        replace hm_z := rn_aload_n (am_cur_of (i := (67, 1, .aload_n 0, (0, 0, 0), 0)) (by decide +kernel)) g0_z hm_z
        replace hm_z := rn_iconst (w := 1) (am_cur_of (i := (68, 1, .iconst 1, (0, 0, 0), 0)) (by decide +kernel)) (by decide) hm_z
        replace hm_z := rn_iconst (w := 0) (am_cur_of (i := (69, 1, .iconst 0, (0, 0, 0), 0)) (by decide +kernel)) (by decide) hm_z
        replace hm_z := rn_callV (M' := am_m197) (o := 164) (ar := [.int 0, .int 1]) (rest := []) (L := lv_args 0 [.ref 164, .int 1, .int 0]) (am_cur_of (i := (70, 3, .invokevirtual 428, (197, 1820, 3), 0)) (by decide +kernel)) rfl rfl rfl rfl hm_z
        obtain ⟨r1652_z, h1653_z, q1654_z, hm_z⟩ := hm_z
        have k1655_z := fk_197_1_0 q1654_z
        have vo := rn_void rfl q1654_z
        subst vo
        replace hm_z : rn _ _ _ _ [] _ _ _ := hm_z
        replace hm_z := rn_iconst (w := 0) (am_cur_of (i := (73, 1, .iconst 0, (0, 0, 0), 0)) (by decide +kernel)) (by decide) hm_z
        replace hm_z := rn_istore (am_cur_of (i := (74, 2, .istore 6, (0, 0, 0), 0)) (by decide +kernel)) hm_z
        obtain ⟨_, s1656_z, s1657_z, g6_z, hm_z⟩ := hm_z
        replace g0_z := s1656_z 0 _ (by decide) rfl g0_z
        replace g1_z := s1656_z 1 _ (by decide) rfl g1_z
        replace g2_z := s1656_z 2 _ (by decide) rfl g2_z
        replace g3_z := s1656_z 3 _ (by decide) rfl g3_z
        replace g4_z := s1656_z 4 _ (by decide) rfl g4_z
        replace g5_z := s1656_z 5 _ (by decide) rfl g5_z
        clear s1656_z s1657_z
        exact bk_t (bk_t bk_r k1655_z) (H46 v3_z v4_z v5_z 0 _ _ g0_z g1_z g2_z g3_z g4_z g5_z g6_z hm_z)
    have H24 : ∀ (ls : am_L) (g : am_H), rn (f + 1) am_m232 24 ls [] g r g' → bk g g' := by
      intro ls g hm_z
      replace hm_z := rn_iconst (w := (-1)) (am_cur_of (i := (44, 1, .iconst (-1), (0, 0, 0), 0)) (by decide +kernel)) (by decide) hm_z
      replace hm_z := rn_iret (am_cur_of (i := (45, 1, .ireturn, (0, 0, 0), 0)) (by decide +kernel)) hm_z
      obtain ⟨e1658_z, e1659_z⟩ := hm_z
      rw [e1659_z]
      exact bk_r
    exact ⟨H24, H32, H46, H83⟩
theorem fk_232 {nst : Nat} {r : Option Value} {g g' : am_H} {n : Int32} {w : Int32}  (hm_z : rn nst am_m232 0 (lv_args 0 [.ref 164, .int n, .int w]) [] g r g') : bk g g' := by
  have z0_z : (0 : Int32).toInt = 0 := by decide
  have g0_z : am_get (lv_args 0 [.ref 164, .int n, .int w]) 0 = some (.ref 164) := rfl
  have g1_z : am_get (lv_args 0 [.ref 164, .int n, .int w]) 1 = some (.int n) := rfl
  have g2_z : am_get (lv_args 0 [.ref 164, .int n, .int w]) 2 = some (.int w) := rfl
  replace hm_z := rn_aload_n (am_cur_of (i := (0, 1, .aload_n 0, (0, 0, 0), 0)) (by decide +kernel)) g0_z hm_z
  replace hm_z := rn_iconst (w := 0) (am_cur_of (i := (1, 1, .iconst 0, (0, 0, 0), 0)) (by decide +kernel)) (by decide) hm_z
  replace hm_z := rn_put (am_cur_of (i := (2, 3, .putfield 139, (12, 2, 1386), 0)) (by decide +kernel)) (by decide +kernel) hm_z
  replace hm_z := rn_aload_n (am_cur_of (i := (5, 1, .aload_n 0, (0, 0, 0), 0)) (by decide +kernel)) g0_z hm_z
  replace hm_z := rn_getR (x := 168) (am_cur_of (i := (6, 3, .getfield 24, (12, 23, 1407), 0)) (by decide +kernel)) (by decide +kernel) hm_z
  replace hm_z := rn_iconst (w := 2) (am_cur_of (i := (9, 1, .iconst 2, (0, 0, 0), 0)) (by decide +kernel)) (by decide) hm_z
  replace hm_z := rn_iaload (N := 12) (q := 2) (v := rg_v g 168 2) (am_cur_of (i := (10, 1, .iaload, (0, 0, 0), 0)) (by decide +kernel)) (by decide +kernel) rfl (show rg_v (am_up g 164 2 (.int 0)) 168 2 = rg_v g 168 2 from rfl) hm_z
  obtain ⟨p1660_z, hm_z⟩ := hm_z
  replace hm_z := rn_if (am_cur_of (i := (11, 3, .ifCond .eq 33, (24, 0, 0), 0)) (by decide +kernel)) hm_z
  rcases hm_z with ⟨b1661_z, hm_z⟩ | ⟨b1661_z, hm_z⟩
  · replace b1661_z : (rg_v g 168 2) = (0 : Int32) ∧ (rg_v g 168 2).toInt = (0 : Int32).toInt := b1661_z
    have H24 := (fk_232_L (r := r) (g' := g') (n := n) (w := w)  nst).1
    exact bk_t (bk_u (by decide) bk_r) (H24 _ _ hm_z)
  · replace b1661_z : ¬ (rg_v g 168 2) = (0 : Int32) ∧ ¬ (rg_v g 168 2).toInt = (0 : Int32).toInt := b1661_z
    replace hm_z := rn_iload_n (am_cur_of (i := (14, 1, .iload_n 1, (0, 0, 0), 0)) (by decide +kernel)) g1_z hm_z
    replace hm_z := rn_iconst (w := 1) (am_cur_of (i := (15, 1, .iconst 1, (0, 0, 0), 0)) (by decide +kernel)) (by decide) hm_z
    replace hm_z := rn_sipush (w := 600) (am_cur_of (i := (16, 3, .sipush 600, (0, 0, 0), 0)) (by decide +kernel)) (by decide) hm_z
    replace hm_z := rn_callS (M' := am_m162) (ar := [.int 600, .int 1, .int n]) (rest := []) (L := lv_args 0 [.int n, .int 1, .int 600]) (am_cur_of (i := (19, 3, .invokestatic 184, (162, 1681, 3), 0)) (by decide +kernel)) rfl rfl rfl rfl hm_z
    obtain ⟨r1662_z, h1663_z, q1664_z, hm_z⟩ := hm_z
    have k1665_z := nq_162 q1664_z
    obtain ⟨v1666_z, rfl⟩ := rn_ret (M := am_m162) rfl (by decide) q1664_z
    replace hm_z : rn _ _ _ _ [.int v1666_z] _ _ _ := hm_z
    replace hm_z := rn_if (am_cur_of (i := (22, 3, .ifCond .eq 22, (24, 0, 0), 0)) (by decide +kernel)) hm_z
    rcases hm_z with ⟨b1667_z, hm_z⟩ | ⟨b1667_z, hm_z⟩
    · replace b1667_z : v1666_z = (0 : Int32) ∧ v1666_z.toInt = (0 : Int32).toInt := b1667_z
      have H24 := (fk_232_L (r := r) (g' := g') (n := n) (w := w)  nst).1
      exact bk_t (bk_t (bk_u (by decide) bk_r) (bk_n k1665_z)) (H24 _ _ hm_z)
    · replace b1667_z : ¬ v1666_z = (0 : Int32) ∧ ¬ v1666_z.toInt = (0 : Int32).toInt := b1667_z
      replace hm_z := rn_iload_n (am_cur_of (i := (25, 1, .iload_n 2, (0, 0, 0), 0)) (by decide +kernel)) g2_z hm_z
      replace hm_z := rn_iconst (w := 0) (am_cur_of (i := (26, 1, .iconst 0, (0, 0, 0), 0)) (by decide +kernel)) (by decide) hm_z
      replace hm_z := rn_iconst (w := 1) (am_cur_of (i := (27, 1, .iconst 1, (0, 0, 0), 0)) (by decide +kernel)) (by decide) hm_z
      replace hm_z := rn_callS (M' := am_m162) (ar := [.int 1, .int 0, .int w]) (rest := []) (L := lv_args 0 [.int w, .int 0, .int 1]) (am_cur_of (i := (28, 3, .invokestatic 184, (162, 1681, 3), 0)) (by decide +kernel)) rfl rfl rfl rfl hm_z
      obtain ⟨r1668_z, h1669_z, q1670_z, hm_z⟩ := hm_z
      have k1671_z := nq_162 q1670_z
      obtain ⟨v1672_z, rfl⟩ := rn_ret (M := am_m162) rfl (by decide) q1670_z
      replace hm_z : rn _ _ _ _ [.int v1672_z] _ _ _ := hm_z
      replace hm_z := rn_if (am_cur_of (i := (31, 3, .ifCond .eq 13, (24, 0, 0), 0)) (by decide +kernel)) hm_z
      rcases hm_z with ⟨b1673_z, hm_z⟩ | ⟨b1673_z, hm_z⟩
      · replace b1673_z : v1672_z = (0 : Int32) ∧ v1672_z.toInt = (0 : Int32).toInt := b1673_z
        have H24 := (fk_232_L (r := r) (g' := g') (n := n) (w := w)  nst).1
        exact bk_t (bk_t (bk_t (bk_u (by decide) bk_r) (bk_n k1665_z)) (bk_n k1671_z)) (H24 _ _ hm_z)
      · replace b1673_z : ¬ v1672_z = (0 : Int32) ∧ ¬ v1672_z.toInt = (0 : Int32).toInt := b1673_z
        replace hm_z := rn_iload_n (am_cur_of (i := (34, 1, .iload_n 1, (0, 0, 0), 0)) (by decide +kernel)) g1_z hm_z
        replace hm_z := rn_aload_n (am_cur_of (i := (35, 1, .aload_n 0, (0, 0, 0), 0)) (by decide +kernel)) g0_z hm_z
        replace hm_z := rn_getR (x := 194) (am_cur_of (i := (36, 3, .getfield 103, (12, 56, 1440), 0)) (by decide +kernel)) (by decide +kernel) hm_z
        replace hm_z := rn_iconst (w := 0) (am_cur_of (i := (39, 1, .iconst 0, (0, 0, 0), 0)) (by decide +kernel)) (by decide) hm_z
        replace hm_z := rn_iaload (N := 4) (q := 0) (v := rg_v h1669_z 194 0) (am_cur_of (i := (40, 1, .iaload, (0, 0, 0), 0)) (by decide +kernel)) (by decide +kernel) rfl rfl hm_z
        obtain ⟨p1674_z, hm_z⟩ := hm_z
        replace hm_z := rn_cmp (am_cur_of (i := (41, 3, .if_icmp .ge 5, (26, 0, 0), 0)) (by decide +kernel)) hm_z
        rcases hm_z with ⟨b1675_z, hm_z⟩ | ⟨b1675_z, hm_z⟩
        · replace b1675_z : (rg_v h1669_z 194 0).toInt ≤ n.toInt := b1675_z
          replace hm_z := rn_iconst (w := 0) (am_cur_of (i := (46, 1, .iconst 0, (0, 0, 0), 0)) (by decide +kernel)) (by decide) hm_z
          replace hm_z := rn_istore_n (am_cur_of (i := (47, 1, .istore_n 3, (0, 0, 0), 0)) (by decide +kernel)) hm_z
          obtain ⟨_, s1676_z, s1677_z, g3_z, hm_z⟩ := hm_z
          replace g0_z := s1676_z 0 _ (by decide) rfl g0_z
          replace g1_z := s1676_z 1 _ (by decide) rfl g1_z
          replace g2_z := s1676_z 2 _ (by decide) rfl g2_z
          clear s1676_z s1677_z
          replace hm_z := rn_iconst (w := (-1)) (am_cur_of (i := (48, 1, .iconst (-1), (0, 0, 0), 0)) (by decide +kernel)) (by decide) hm_z
          replace hm_z := rn_istore (am_cur_of (i := (49, 2, .istore 4, (0, 0, 0), 0)) (by decide +kernel)) hm_z
          obtain ⟨_, s1678_z, s1679_z, g4_z, hm_z⟩ := hm_z
          replace g0_z := s1678_z 0 _ (by decide) rfl g0_z
          replace g1_z := s1678_z 1 _ (by decide) rfl g1_z
          replace g2_z := s1678_z 2 _ (by decide) rfl g2_z
          replace g3_z := s1678_z 3 _ (by decide) rfl g3_z
          clear s1678_z s1679_z
          replace hm_z := rn_iconst (w := 0) (am_cur_of (i := (51, 1, .iconst 0, (0, 0, 0), 0)) (by decide +kernel)) (by decide) hm_z
          replace hm_z := rn_istore (am_cur_of (i := (52, 2, .istore 5, (0, 0, 0), 0)) (by decide +kernel)) hm_z
          obtain ⟨_, s1680_z, s1681_z, g5_z, hm_z⟩ := hm_z
          replace g0_z := s1680_z 0 _ (by decide) rfl g0_z
          replace g1_z := s1680_z 1 _ (by decide) rfl g1_z
          replace g2_z := s1680_z 2 _ (by decide) rfl g2_z
          replace g3_z := s1680_z 3 _ (by decide) rfl g3_z
          replace g4_z := s1680_z 4 _ (by decide) rfl g4_z
          clear s1680_z s1681_z
          have H32 := (fk_232_L (r := r) (g' := g') (n := n) (w := w)  nst).2.1
          exact bk_t (bk_t (bk_t (bk_u (by decide) bk_r) (bk_n k1665_z)) (bk_n k1671_z)) (H32 0 (-1) 0 _ _ g0_z g1_z g2_z g3_z g4_z g5_z hm_z)
        · replace b1675_z : n.toInt < (rg_v h1669_z 194 0).toInt := b1675_z
          have H24 := (fk_232_L (r := r) (g' := g') (n := n) (w := w)  nst).1
          exact bk_t (bk_t (bk_t (bk_u (by decide) bk_r) (bk_n k1665_z)) (bk_n k1671_z)) (H24 _ _ hm_z)
theorem fk_238_L {r : Option Value} {g' : am_H} {w : Int32} {d : Int32} (dp0_z : -1 ≤ d.toInt) (dp1_z : d.toInt ≤ 3) : ∀ f : Nat, (∀ (v3_z : Int32) (v4_z : Int32) (ls : am_L) (g : am_H), am_get ls 0 = some (.ref 164) → am_get ls 3 = some (.int v3_z) → am_get ls 4 = some (.int v4_z) → -1 ≤ v3_z.toInt ∧ v3_z.toInt ≤ 3 → 0 ≤ v4_z.toInt ∧ v4_z.toInt ≤ 4 → tkm g → rn f am_m238 7 ls [] g r g' → bk g g' ∧ (∃ v : Int32, r = some (.int v) ∧ -1 ≤ v.toInt ∧ v.toInt ≤ 3)) ∧ (∀ (v4_z : Int32) (ls : am_L) (g : am_H), am_get ls 0 = some (.ref 164) → am_get ls 4 = some (.int v4_z) → 0 ≤ v4_z.toInt ∧ v4_z.toInt ≤ 3 → tkm g → rn f am_m238 62 ls [] g r g' → bk g g' ∧ (∃ v : Int32, r = some (.int v) ∧ -1 ≤ v.toInt ∧ v.toInt ≤ 3)) ∧ (∀ (v3_z : Int32) (v4_z : Int32) (ls : am_L) (g : am_H), am_get ls 0 = some (.ref 164) → am_get ls 3 = some (.int v3_z) → am_get ls 4 = some (.int v4_z) → -1 ≤ v3_z.toInt ∧ v3_z.toInt ≤ 3 → 0 ≤ v4_z.toInt ∧ v4_z.toInt ≤ 3 → tkm g → rn f am_m238 64 ls [] g r g' → bk g g' ∧ (∃ v : Int32, r = some (.int v) ∧ -1 ≤ v.toInt ∧ v.toInt ≤ 3)) ∧ (∀ (v3_z : Int32) (v4_z : Int32) (ls : am_L) (g : am_H), am_get ls 0 = some (.ref 164) → am_get ls 3 = some (.int v3_z) → am_get ls 4 = some (.int v4_z) → 0 ≤ v3_z.toInt ∧ v3_z.toInt ≤ 4 → 0 ≤ v4_z.toInt ∧ v4_z.toInt ≤ 4 → tkm g → rn f am_m238 86 ls [] g r g' → bk g g' ∧ (∃ v : Int32, r = some (.int v) ∧ -1 ≤ v.toInt ∧ v.toInt ≤ 3)) := by
  intro f
  induction f with
  | zero =>
    exact ⟨fun _ _ _ _ _ _ _ _ _ _ hm_z => absurd hm_z rn_0, fun _ _ _ _ _ _ _ hm_z => absurd hm_z rn_0, fun _ _ _ _ _ _ _ _ _ _ hm_z => absurd hm_z rn_0, fun _ _ _ _ _ _ _ _ _ _ hm_z => absurd hm_z rn_0⟩
  | succ f ih_z =>
    obtain ⟨I7, I62, I64, I86⟩ := ih_z
    have H86 : ∀ (v3_z : Int32) (v4_z : Int32) (ls : am_L) (g : am_H), am_get ls 0 = some (.ref 164) → am_get ls 3 = some (.int v3_z) → am_get ls 4 = some (.int v4_z) → 0 ≤ v3_z.toInt ∧ v3_z.toInt ≤ 4 → 0 ≤ v4_z.toInt ∧ v4_z.toInt ≤ 4 → tkm g → rn (f + 1) am_m238 86 ls [] g r g' → bk g g' ∧ (∃ v : Int32, r = some (.int v) ∧ -1 ≤ v.toInt ∧ v.toInt ≤ 3) := by
      intro v3_z v4_z ls g g0_z g3_z g4_z i3_0 i4_1 T hm_z
      have z0_z : (0 : Int32).toInt = 0 := by decide
      have z1_z : (1 : Int32).toInt = 1 := by decide
      have cv3_z := fk_c2 (i := v3_z) (by omega)
      have cv4_z := fk_c2 (i := v4_z) (by omega)
      have T2 := T.2.1
      have T3 := T.2.2
      replace hm_z := rn_iload (am_cur_of (i := (149, 2, .iload 4, (0, 0, 0), 0)) (by decide +kernel)) g4_z hm_z
      replace hm_z := rn_aload_n (am_cur_of (i := (151, 1, .aload_n 0, (0, 0, 0), 0)) (by decide +kernel)) g0_z hm_z
      replace hm_z := rn_getI (v := rg_v g 164 12) (am_cur_of (i := (152, 3, .getfield 219, (12, 12, 1396), 0)) (by decide +kernel)) (by decide +kernel) rfl hm_z
      replace hm_z := rn_cmp (am_cur_of (i := (155, 3, .if_icmp .ge 33, (106, 0, 0), 0)) (by decide +kernel)) hm_z
      rcases hm_z with ⟨b1682_z, hm_z⟩ | ⟨b1682_z, hm_z⟩
      · replace b1682_z : (rg_v g 164 12).toInt ≤ v4_z.toInt := b1682_z
        replace hm_z := rn_iconst (w := (-1)) (am_cur_of (i := (188, 1, .iconst (-1), (0, 0, 0), 0)) (by decide +kernel)) (by decide) hm_z
        replace hm_z := rn_iret (am_cur_of (i := (189, 1, .ireturn, (0, 0, 0), 0)) (by decide +kernel)) hm_z
        obtain ⟨e1683_z, e1684_z⟩ := hm_z
        refine ⟨?_, ⟨_, e1683_z, (show -1 ≤ ((-1) : Int32).toInt by decide), (show ((-1) : Int32).toInt ≤ 3 by decide)⟩⟩
        rw [e1684_z]
        exact bk_r
      · replace b1682_z : v4_z.toInt < (rg_v g 164 12).toInt := b1682_z
        have cv4_z := fk_c1 b1682_z
        have dv4_z := (ab_32 (rg_v g 164 12)).2
        replace hm_z := rn_iload_n (am_cur_of (i := (158, 1, .iload_n 3, (0, 0, 0), 0)) (by decide +kernel)) g3_z hm_z
        replace hm_z := rn_iload (am_cur_of (i := (159, 2, .iload 4, (0, 0, 0), 0)) (by decide +kernel)) g4_z hm_z
        replace hm_z := rn_iadd (w := v3_z + v4_z) (am_cur_of (i := (161, 1, .iadd, (0, 0, 0), 0)) (by decide +kernel)) rfl hm_z
        have a1685_z := ab_iadd (x := v3_z) (y := v4_z) (by omega) (by omega)
        replace hm_z := rn_aload_n (am_cur_of (i := (162, 1, .aload_n 0, (0, 0, 0), 0)) (by decide +kernel)) g0_z hm_z
        replace hm_z := rn_getI (v := rg_v g 164 12) (am_cur_of (i := (163, 3, .getfield 219, (12, 12, 1396), 0)) (by decide +kernel)) (by decide +kernel) rfl hm_z
        replace hm_z := rn_irem (w := (v3_z + v4_z) - (v3_z + v4_z) / (rg_v g 164 12) * (rg_v g 164 12)) (am_cur_of (i := (166, 1, .irem, (0, 0, 0), 0)) (by decide +kernel)) rfl hm_z
        obtain ⟨d1686_z, hm_z⟩ := hm_z
        have y1687_z : ¬ (rg_v g 164 12).toInt = 0 := fun q => d1686_z (Int32.toInt_inj.mp (q.trans (by decide)))
        have y1687r := ac_rem (x := v3_z + v4_z) (y := rg_v g 164 12) (by omega) (by omega)
        replace hm_z := rn_istore (am_cur_of (i := (167, 2, .istore 5, (0, 0, 0), 0)) (by decide +kernel)) hm_z
        obtain ⟨_, s1688_z, s1689_z, g5_z, hm_z⟩ := hm_z
        replace g0_z := s1688_z 0 _ (by decide) rfl g0_z
        replace g3_z := s1688_z 3 _ (by decide) rfl g3_z
        replace g4_z := s1688_z 4 _ (by decide) rfl g4_z
        clear s1688_z s1689_z
        replace hm_z := rn_aload_n (am_cur_of (i := (169, 1, .aload_n 0, (0, 0, 0), 0)) (by decide +kernel)) g0_z hm_z
        replace hm_z := rn_iconst (w := 1) (am_cur_of (i := (170, 1, .iconst 1, (0, 0, 0), 0)) (by decide +kernel)) (by decide) hm_z
        replace hm_z := rn_iload (am_cur_of (i := (171, 2, .iload 5, (0, 0, 0), 0)) (by decide +kernel)) g5_z hm_z
        replace hm_z := rn_callV (M' := am_m203) (o := 164) (ar := [.int ((v3_z + v4_z) - (v3_z + v4_z) / (rg_v g 164 12) * (rg_v g 164 12)), .int 1]) (rest := []) (L := lv_args 0 [.ref 164, .int 1, .int ((v3_z + v4_z) - (v3_z + v4_z) / (rg_v g 164 12) * (rg_v g 164 12))]) (am_cur_of (i := (173, 3, .invokevirtual 438, (203, 1843, 3), 0)) (by decide +kernel)) rfl rfl rfl rfl hm_z
        obtain ⟨r1690_z, h1691_z, q1692_z, hm_z⟩ := hm_z
        have k1693_z := fk_203_1 (by omega) q1692_z
        obtain ⟨v1694_z, rfl⟩ := rn_ret (M := am_m203) rfl (by decide) q1692_z
        replace hm_z : rn _ _ _ _ [.int v1694_z] _ _ _ := hm_z
        have T2h1691 := (tkm_b (bk_t bk_r k1693_z) T).2.1
        have T3h1691 := (tkm_b (bk_t bk_r k1693_z) T).2.2
        replace hm_z := rn_if (am_cur_of (i := (176, 3, .ifCond .ne 6, (104, 0, 0), 0)) (by decide +kernel)) hm_z
        rcases hm_z with ⟨b1695_z, hm_z⟩ | ⟨b1695_z, hm_z⟩
        · replace b1695_z : ¬ v1694_z = (0 : Int32) ∧ ¬ v1694_z.toInt = (0 : Int32).toInt := b1695_z
          replace hm_z := rn_iinc (w := v4_z + 1) (am_cur_of (i := (182, 3, .iinc 4 1, (0, 0, 0), 0)) (by decide +kernel)) g4_z rfl hm_z
          obtain ⟨_, s1696_z, s1697_z, g4_z, hm_z⟩ := hm_z
          replace g0_z := s1696_z 0 _ (by decide) rfl g0_z
          replace g3_z := s1696_z 3 _ (by decide) rfl g3_z
          replace g5_z := s1696_z 5 _ (by decide) rfl g5_z
          clear s1696_z s1697_z
          replace hm_z := rn_gotoL (am_cur_of (i := (185, 3, .goto (-36), (86, 0, 0), 0)) (by decide +kernel)) hm_z
          have hh := I86 v3_z (v4_z + 1) _ _ g0_z g3_z g4_z (show 0 ≤ v3_z.toInt ∧ v3_z.toInt ≤ 4 by omega) (show 0 ≤ (v4_z + 1).toInt ∧ (v4_z + 1).toInt ≤ 4 by omega) (tkm_b (bk_t bk_r k1693_z) T) hm_z
          exact ⟨bk_t (bk_t bk_r k1693_z) hh.1, hh.2⟩
        · replace b1695_z : v1694_z = (0 : Int32) ∧ v1694_z.toInt = (0 : Int32).toInt := b1695_z
          replace hm_z := rn_iload (am_cur_of (i := (179, 2, .iload 5, (0, 0, 0), 0)) (by decide +kernel)) g5_z hm_z
          replace hm_z := rn_iret (am_cur_of (i := (181, 1, .ireturn, (0, 0, 0), 0)) (by decide +kernel)) hm_z
          obtain ⟨e1698_z, e1699_z⟩ := hm_z
          refine ⟨?_, ⟨_, e1698_z, (show -1 ≤ ((v3_z + v4_z) - (v3_z + v4_z) / (rg_v g 164 12) * (rg_v g 164 12)).toInt by omega), (show ((v3_z + v4_z) - (v3_z + v4_z) / (rg_v g 164 12) * (rg_v g 164 12)).toInt ≤ 3 by omega)⟩⟩
          rw [e1699_z]
          exact (bk_t bk_r k1693_z)
    have H64 : ∀ (v3_z : Int32) (v4_z : Int32) (ls : am_L) (g : am_H), am_get ls 0 = some (.ref 164) → am_get ls 3 = some (.int v3_z) → am_get ls 4 = some (.int v4_z) → -1 ≤ v3_z.toInt ∧ v3_z.toInt ≤ 3 → 0 ≤ v4_z.toInt ∧ v4_z.toInt ≤ 3 → tkm g → rn (f + 1) am_m238 64 ls [] g r g' → bk g g' ∧ (∃ v : Int32, r = some (.int v) ∧ -1 ≤ v.toInt ∧ v.toInt ≤ 3) := by
      intro v3_z v4_z ls g g0_z g3_z g4_z i3_0 i4_1 T hm_z
      have cv3_z := fk_c2 (i := v3_z) (by omega)
      have cv4_z := fk_c2 (i := v4_z) (by omega)
      have T2 := T.2.1
      have T3 := T.2.2
      replace hm_z := rn_iinc (w := v4_z + 1) (am_cur_of (i := (112, 3, .iinc 4 1, (0, 0, 0), 0)) (by decide +kernel)) g4_z rfl hm_z
      obtain ⟨_, s1700_z, s1701_z, g4_z, hm_z⟩ := hm_z
      replace g0_z := s1700_z 0 _ (by decide) rfl g0_z
      replace g3_z := s1700_z 3 _ (by decide) rfl g3_z
      clear s1700_z s1701_z
      replace hm_z := rn_gotoL (am_cur_of (i := (115, 3, .goto (-105), (7, 0, 0), 0)) (by decide +kernel)) hm_z
      have hh := I7 v3_z (v4_z + 1) _ _ g0_z g3_z g4_z (show -1 ≤ v3_z.toInt ∧ v3_z.toInt ≤ 3 by omega) (show 0 ≤ (v4_z + 1).toInt ∧ (v4_z + 1).toInt ≤ 4 by omega) (tkm_b bk_r T) hm_z
      exact ⟨bk_t bk_r hh.1, hh.2⟩
    have H62 : ∀ (v4_z : Int32) (ls : am_L) (g : am_H), am_get ls 0 = some (.ref 164) → am_get ls 4 = some (.int v4_z) → 0 ≤ v4_z.toInt ∧ v4_z.toInt ≤ 3 → tkm g → rn (f + 1) am_m238 62 ls [] g r g' → bk g g' ∧ (∃ v : Int32, r = some (.int v) ∧ -1 ≤ v.toInt ∧ v.toInt ≤ 3) := by
      intro v4_z ls g g0_z g4_z i4_0 T hm_z
      have cv4_z := fk_c2 (i := v4_z) (by omega)
      have T2 := T.2.1
      have T3 := T.2.2
      replace hm_z := rn_iload (am_cur_of (i := (109, 2, .iload 4, (0, 0, 0), 0)) (by decide +kernel)) g4_z hm_z
      replace hm_z := rn_istore_n (am_cur_of (i := (111, 1, .istore_n 3, (0, 0, 0), 0)) (by decide +kernel)) hm_z
      obtain ⟨_, s1702_z, s1703_z, g3_z, hm_z⟩ := hm_z
      replace g0_z := s1702_z 0 _ (by decide) rfl g0_z
      replace g4_z := s1702_z 4 _ (by decide) rfl g4_z
      clear s1702_z s1703_z
      have hh := H64 v4_z v4_z _ _ g0_z g3_z g4_z (show -1 ≤ v4_z.toInt ∧ v4_z.toInt ≤ 3 by omega) (show 0 ≤ v4_z.toInt ∧ v4_z.toInt ≤ 3 by omega) (tkm_b bk_r T) hm_z
      exact ⟨bk_t bk_r hh.1, hh.2⟩
    have H7 : ∀ (v3_z : Int32) (v4_z : Int32) (ls : am_L) (g : am_H), am_get ls 0 = some (.ref 164) → am_get ls 3 = some (.int v3_z) → am_get ls 4 = some (.int v4_z) → -1 ≤ v3_z.toInt ∧ v3_z.toInt ≤ 3 → 0 ≤ v4_z.toInt ∧ v4_z.toInt ≤ 4 → tkm g → rn (f + 1) am_m238 7 ls [] g r g' → bk g g' ∧ (∃ v : Int32, r = some (.int v) ∧ -1 ≤ v.toInt ∧ v.toInt ≤ 3) := by
      intro v3_z v4_z ls g g0_z g3_z g4_z i3_0 i4_1 T hm_z
      have z0_z : (0 : Int32).toInt = 0 := by decide
      have cv3_z := fk_c2 (i := v3_z) (by omega)
      have cv4_z := fk_c2 (i := v4_z) (by omega)
      have T2 := T.2.1
      have T3 := T.2.2
      replace hm_z := rn_iload (am_cur_of (i := (10, 2, .iload 4, (0, 0, 0), 0)) (by decide +kernel)) g4_z hm_z
      replace hm_z := rn_aload_n (am_cur_of (i := (12, 1, .aload_n 0, (0, 0, 0), 0)) (by decide +kernel)) g0_z hm_z
      replace hm_z := rn_getI (v := rg_v g 164 12) (am_cur_of (i := (13, 3, .getfield 219, (12, 12, 1396), 0)) (by decide +kernel)) (by decide +kernel) rfl hm_z
      replace hm_z := rn_cmp (am_cur_of (i := (16, 3, .if_icmp .ge 102, (66, 0, 0), 0)) (by decide +kernel)) hm_z
      rcases hm_z with ⟨b1704_z, hm_z⟩ | ⟨b1704_z, hm_z⟩
      · replace b1704_z : (rg_v g 164 12).toInt ≤ v4_z.toInt := b1704_z
        replace hm_z := rn_iload_n (am_cur_of (i := (118, 1, .iload_n 3, (0, 0, 0), 0)) (by decide +kernel)) g3_z hm_z
        replace hm_z := rn_iret (am_cur_of (i := (119, 1, .ireturn, (0, 0, 0), 0)) (by decide +kernel)) hm_z
        obtain ⟨e1705_z, e1706_z⟩ := hm_z
        refine ⟨?_, ⟨_, e1705_z, (show -1 ≤ v3_z.toInt by omega), (show v3_z.toInt ≤ 3 by omega)⟩⟩
        rw [e1706_z]
        exact bk_r
      · replace b1704_z : v4_z.toInt < (rg_v g 164 12).toInt := b1704_z
        have cv4_z := fk_c1 b1704_z
        have dv4_z := (ab_32 (rg_v g 164 12)).2
        replace hm_z := rn_aload_n (am_cur_of (i := (19, 1, .aload_n 0, (0, 0, 0), 0)) (by decide +kernel)) g0_z hm_z
        replace hm_z := rn_iconst (w := 1) (am_cur_of (i := (20, 1, .iconst 1, (0, 0, 0), 0)) (by decide +kernel)) (by decide) hm_z
        replace hm_z := rn_iload (am_cur_of (i := (21, 2, .iload 4, (0, 0, 0), 0)) (by decide +kernel)) g4_z hm_z
        replace hm_z := rn_callV (M' := am_m203) (o := 164) (ar := [.int v4_z, .int 1]) (rest := []) (L := lv_args 0 [.ref 164, .int 1, .int v4_z]) (am_cur_of (i := (23, 3, .invokevirtual 438, (203, 1843, 3), 0)) (by decide +kernel)) rfl rfl rfl rfl hm_z
        obtain ⟨r1707_z, h1708_z, q1709_z, hm_z⟩ := hm_z
        have k1710_z := fk_203_1 (by omega) q1709_z
        obtain ⟨v1711_z, rfl⟩ := rn_ret (M := am_m203) rfl (by decide) q1709_z
        replace hm_z : rn _ _ _ _ [.int v1711_z] _ _ _ := hm_z
        have T2h1708 := (tkm_b (bk_t bk_r k1710_z) T).2.1
        have T3h1708 := (tkm_b (bk_t bk_r k1710_z) T).2.2
        replace hm_z := rn_if (am_cur_of (i := (26, 3, .ifCond .eq 6, (17, 0, 0), 0)) (by decide +kernel)) hm_z
        rcases hm_z with ⟨b1712_z, hm_z⟩ | ⟨b1712_z, hm_z⟩
        · replace b1712_z : v1711_z = (0 : Int32) ∧ v1711_z.toInt = (0 : Int32).toInt := b1712_z
          replace hm_z := rn_iload_n (am_cur_of (i := (32, 1, .iload_n 3, (0, 0, 0), 0)) (by decide +kernel)) g3_z hm_z
          replace hm_z := rn_if (am_cur_of (i := (33, 3, .ifCond .ge 9, (22, 0, 0), 0)) (by decide +kernel)) hm_z
          rcases hm_z with ⟨b1713_z, hm_z⟩ | ⟨b1713_z, hm_z⟩
          · replace b1713_z : (0 : Int32).toInt ≤ v3_z.toInt := b1713_z
            replace hm_z := rn_aload_n (am_cur_of (i := (42, 1, .aload_n 0, (0, 0, 0), 0)) (by decide +kernel)) g0_z hm_z
            replace hm_z := rn_iconst (w := 1) (am_cur_of (i := (43, 1, .iconst 1, (0, 0, 0), 0)) (by decide +kernel)) (by decide) hm_z
            replace hm_z := rn_iload (am_cur_of (i := (44, 2, .iload 4, (0, 0, 0), 0)) (by decide +kernel)) g4_z hm_z
            replace hm_z := rn_callV (M' := am_m206) (o := 164) (ar := [.int v4_z, .int 1]) (rest := []) (L := lv_args 0 [.ref 164, .int 1, .int v4_z]) (am_cur_of (i := (46, 3, .invokevirtual 417, (206, 1855, 3), 0)) (by decide +kernel)) rfl rfl rfl rfl hm_z
            obtain ⟨r1714_z, h1715_z, q1716_z, hm_z⟩ := hm_z
            have k1717_z := nq_206 q1716_z
            obtain ⟨v1718_z, rfl⟩ := rn_ret (M := am_m206) rfl (by decide) q1716_z
            replace hm_z : rn _ _ _ _ [.int v1718_z] _ _ _ := hm_z
            have T2h1715 := (tkm_b (bk_t (bk_t bk_r k1710_z) (bk_n k1717_z)) T).2.1
            have T3h1715 := (tkm_b (bk_t (bk_t bk_r k1710_z) (bk_n k1717_z)) T).2.2
            replace hm_z := rn_aload_n (am_cur_of (i := (49, 1, .aload_n 0, (0, 0, 0), 0)) (by decide +kernel)) g0_z hm_z
            replace hm_z := rn_getR (x := 170) (am_cur_of (i := (50, 3, .getfield 30, (12, 25, 1409), 0)) (by decide +kernel)) (by decide +kernel) hm_z
            replace hm_z := rn_bipush (w := 7) (am_cur_of (i := (53, 2, .bipush 7, (0, 0, 0), 0)) (by decide +kernel)) (by decide) hm_z
            replace hm_z := rn_iload_n (am_cur_of (i := (55, 1, .iload_n 3, (0, 0, 0), 0)) (by decide +kernel)) g3_z hm_z
            replace hm_z := rn_imul (w := (7 : Int32) * v3_z) (am_cur_of (i := (56, 1, .imul, (0, 0, 0), 0)) (by decide +kernel)) rfl hm_z
            replace hm_z := rn_iconst (w := 3) (am_cur_of (i := (57, 1, .iconst 3, (0, 0, 0), 0)) (by decide +kernel)) (by decide) hm_z
            replace hm_z := rn_iadd (w := ((7 : Int32) * v3_z) + 3) (am_cur_of (i := (58, 1, .iadd, (0, 0, 0), 0)) (by decide +kernel)) rfl hm_z
            replace hm_z := rn_iaload (N := 56) (q := (((7 : Int32) * v3_z) + 3).toNatClampNeg) (v := rg_v h1715_z 170 ((((7 : Int32) * v3_z) + 3).toNatClampNeg)) (am_cur_of (i := (59, 1, .iaload, (0, 0, 0), 0)) (by decide +kernel)) (by decide +kernel) rfl rfl hm_z
            obtain ⟨p1719_z, hm_z⟩ := hm_z
            replace hm_z := rn_imul (w := v1718_z * (rg_v h1715_z 170 ((((7 : Int32) * v3_z) + 3).toNatClampNeg))) (am_cur_of (i := (60, 1, .imul, (0, 0, 0), 0)) (by decide +kernel)) rfl hm_z
            replace hm_z := rn_istore (am_cur_of (i := (61, 2, .istore 5, (0, 0, 0), 0)) (by decide +kernel)) hm_z
            obtain ⟨_, s1720_z, s1721_z, g5_z, hm_z⟩ := hm_z
            replace g0_z := s1720_z 0 _ (by decide) rfl g0_z
            replace g3_z := s1720_z 3 _ (by decide) rfl g3_z
            replace g4_z := s1720_z 4 _ (by decide) rfl g4_z
            clear s1720_z s1721_z
            replace hm_z := rn_aload_n (am_cur_of (i := (63, 1, .aload_n 0, (0, 0, 0), 0)) (by decide +kernel)) g0_z hm_z
            replace hm_z := rn_iconst (w := 1) (am_cur_of (i := (64, 1, .iconst 1, (0, 0, 0), 0)) (by decide +kernel)) (by decide) hm_z
            replace hm_z := rn_iload_n (am_cur_of (i := (65, 1, .iload_n 3, (0, 0, 0), 0)) (by decide +kernel)) g3_z hm_z
            replace hm_z := rn_callV (M' := am_m206) (o := 164) (ar := [.int v3_z, .int 1]) (rest := []) (L := lv_args 0 [.ref 164, .int 1, .int v3_z]) (am_cur_of (i := (66, 3, .invokevirtual 417, (206, 1855, 3), 0)) (by decide +kernel)) rfl rfl rfl rfl hm_z
            obtain ⟨r1722_z, h1723_z, q1724_z, hm_z⟩ := hm_z
            have k1725_z := nq_206 q1724_z
            obtain ⟨v1726_z, rfl⟩ := rn_ret (M := am_m206) rfl (by decide) q1724_z
            replace hm_z : rn _ _ _ _ [.int v1726_z] _ _ _ := hm_z
            have T2h1723 := (tkm_b (bk_t (bk_t (bk_t bk_r k1710_z) (bk_n k1717_z)) (bk_n k1725_z)) T).2.1
            have T3h1723 := (tkm_b (bk_t (bk_t (bk_t bk_r k1710_z) (bk_n k1717_z)) (bk_n k1725_z)) T).2.2
            replace hm_z := rn_aload_n (am_cur_of (i := (69, 1, .aload_n 0, (0, 0, 0), 0)) (by decide +kernel)) g0_z hm_z
            replace hm_z := rn_getR (x := 170) (am_cur_of (i := (70, 3, .getfield 30, (12, 25, 1409), 0)) (by decide +kernel)) (by decide +kernel) hm_z
            replace hm_z := rn_bipush (w := 7) (am_cur_of (i := (73, 2, .bipush 7, (0, 0, 0), 0)) (by decide +kernel)) (by decide) hm_z
            replace hm_z := rn_iload (am_cur_of (i := (75, 2, .iload 4, (0, 0, 0), 0)) (by decide +kernel)) g4_z hm_z
            replace hm_z := rn_imul (w := (7 : Int32) * v4_z) (am_cur_of (i := (77, 1, .imul, (0, 0, 0), 0)) (by decide +kernel)) rfl hm_z
            replace hm_z := rn_iconst (w := 3) (am_cur_of (i := (78, 1, .iconst 3, (0, 0, 0), 0)) (by decide +kernel)) (by decide) hm_z
            replace hm_z := rn_iadd (w := ((7 : Int32) * v4_z) + 3) (am_cur_of (i := (79, 1, .iadd, (0, 0, 0), 0)) (by decide +kernel)) rfl hm_z
            replace hm_z := rn_iaload (N := 56) (q := (((7 : Int32) * v4_z) + 3).toNatClampNeg) (v := rg_v h1723_z 170 ((((7 : Int32) * v4_z) + 3).toNatClampNeg)) (am_cur_of (i := (80, 1, .iaload, (0, 0, 0), 0)) (by decide +kernel)) (by decide +kernel) rfl rfl hm_z
            obtain ⟨p1727_z, hm_z⟩ := hm_z
            replace hm_z := rn_imul (w := v1726_z * (rg_v h1723_z 170 ((((7 : Int32) * v4_z) + 3).toNatClampNeg))) (am_cur_of (i := (81, 1, .imul, (0, 0, 0), 0)) (by decide +kernel)) rfl hm_z
            replace hm_z := rn_istore (am_cur_of (i := (82, 2, .istore 6, (0, 0, 0), 0)) (by decide +kernel)) hm_z
            obtain ⟨_, s1728_z, s1729_z, g6_z, hm_z⟩ := hm_z
            replace g0_z := s1728_z 0 _ (by decide) rfl g0_z
            replace g3_z := s1728_z 3 _ (by decide) rfl g3_z
            replace g4_z := s1728_z 4 _ (by decide) rfl g4_z
            replace g5_z := s1728_z 5 _ (by decide) rfl g5_z
            clear s1728_z s1729_z
            replace hm_z := rn_iload (am_cur_of (i := (84, 2, .iload 5, (0, 0, 0), 0)) (by decide +kernel)) g5_z hm_z
            replace hm_z := rn_iload (am_cur_of (i := (86, 2, .iload 6, (0, 0, 0), 0)) (by decide +kernel)) g6_z hm_z
            replace hm_z := rn_cmp (am_cur_of (i := (88, 3, .if_icmp .gt 21, (62, 0, 0), 0)) (by decide +kernel)) hm_z
            rcases hm_z with ⟨b1730_z, hm_z⟩ | ⟨b1730_z, hm_z⟩
            · replace b1730_z : (v1726_z * (rg_v h1723_z 170 ((((7 : Int32) * v4_z) + 3).toNatClampNeg))).toInt < (v1718_z * (rg_v h1715_z 170 ((((7 : Int32) * v3_z) + 3).toNatClampNeg))).toInt := b1730_z
              have hh := H62 v4_z _ _ g0_z g4_z (show 0 ≤ v4_z.toInt ∧ v4_z.toInt ≤ 3 by omega) (tkm_b (bk_t (bk_t (bk_t bk_r k1710_z) (bk_n k1717_z)) (bk_n k1725_z)) T) hm_z
              exact ⟨bk_t (bk_t (bk_t (bk_t bk_r k1710_z) (bk_n k1717_z)) (bk_n k1725_z)) hh.1, hh.2⟩
            · replace b1730_z : (v1718_z * (rg_v h1715_z 170 ((((7 : Int32) * v3_z) + 3).toNatClampNeg))).toInt ≤ (v1726_z * (rg_v h1723_z 170 ((((7 : Int32) * v4_z) + 3).toNatClampNeg))).toInt := b1730_z
              replace hm_z := rn_iload (am_cur_of (i := (91, 2, .iload 5, (0, 0, 0), 0)) (by decide +kernel)) g5_z hm_z
              replace hm_z := rn_iload (am_cur_of (i := (93, 2, .iload 6, (0, 0, 0), 0)) (by decide +kernel)) g6_z hm_z
              replace hm_z := rn_cmp (am_cur_of (i := (95, 3, .if_icmp .ne 17, (64, 0, 0), 0)) (by decide +kernel)) hm_z
              rcases hm_z with ⟨b1731_z, hm_z⟩ | ⟨b1731_z, hm_z⟩
              · replace b1731_z : ¬ (v1718_z * (rg_v h1715_z 170 ((((7 : Int32) * v3_z) + 3).toNatClampNeg))) = (v1726_z * (rg_v h1723_z 170 ((((7 : Int32) * v4_z) + 3).toNatClampNeg))) ∧ ¬ (v1718_z * (rg_v h1715_z 170 ((((7 : Int32) * v3_z) + 3).toNatClampNeg))).toInt = (v1726_z * (rg_v h1723_z 170 ((((7 : Int32) * v4_z) + 3).toNatClampNeg))).toInt := b1731_z
                have hh := H64 v3_z v4_z _ _ g0_z g3_z g4_z (show -1 ≤ v3_z.toInt ∧ v3_z.toInt ≤ 3 by omega) (show 0 ≤ v4_z.toInt ∧ v4_z.toInt ≤ 3 by omega) (tkm_b (bk_t (bk_t (bk_t bk_r k1710_z) (bk_n k1717_z)) (bk_n k1725_z)) T) hm_z
                exact ⟨bk_t (bk_t (bk_t (bk_t bk_r k1710_z) (bk_n k1717_z)) (bk_n k1725_z)) hh.1, hh.2⟩
              · replace b1731_z : (v1718_z * (rg_v h1715_z 170 ((((7 : Int32) * v3_z) + 3).toNatClampNeg))) = (v1726_z * (rg_v h1723_z 170 ((((7 : Int32) * v4_z) + 3).toNatClampNeg))) ∧ (v1718_z * (rg_v h1715_z 170 ((((7 : Int32) * v3_z) + 3).toNatClampNeg))).toInt = (v1726_z * (rg_v h1723_z 170 ((((7 : Int32) * v4_z) + 3).toNatClampNeg))).toInt := b1731_z
                replace hm_z := rn_aload_n (am_cur_of (i := (98, 1, .aload_n 0, (0, 0, 0), 0)) (by decide +kernel)) g0_z hm_z
                replace hm_z := rn_getR (x := 190) (am_cur_of (i := (99, 3, .getfield 91, (12, 52, 1436), 0)) (by decide +kernel)) (by decide +kernel) hm_z
                replace hm_z := rn_iconst (w := 1) (am_cur_of (i := (102, 1, .iconst 1, (0, 0, 0), 0)) (by decide +kernel)) (by decide) hm_z
                replace hm_z := rn_iaload (N := 4) (q := 1) (v := rg_v h1723_z 190 1) (am_cur_of (i := (103, 1, .iaload, (0, 0, 0), 0)) (by decide +kernel)) (by decide +kernel) rfl rfl hm_z
                obtain ⟨p1732_z, hm_z⟩ := hm_z
                replace hm_z := rn_iload (am_cur_of (i := (104, 2, .iload 4, (0, 0, 0), 0)) (by decide +kernel)) g4_z hm_z
                replace hm_z := rn_cmp (am_cur_of (i := (106, 3, .if_icmp .ne 6, (64, 0, 0), 0)) (by decide +kernel)) hm_z
                rcases hm_z with ⟨b1733_z, hm_z⟩ | ⟨b1733_z, hm_z⟩
                · replace b1733_z : ¬ (rg_v h1723_z 190 1) = v4_z ∧ ¬ (rg_v h1723_z 190 1).toInt = v4_z.toInt := b1733_z
                  have hh := H64 v3_z v4_z _ _ g0_z g3_z g4_z (show -1 ≤ v3_z.toInt ∧ v3_z.toInt ≤ 3 by omega) (show 0 ≤ v4_z.toInt ∧ v4_z.toInt ≤ 3 by omega) (tkm_b (bk_t (bk_t (bk_t bk_r k1710_z) (bk_n k1717_z)) (bk_n k1725_z)) T) hm_z
                  exact ⟨bk_t (bk_t (bk_t (bk_t bk_r k1710_z) (bk_n k1717_z)) (bk_n k1725_z)) hh.1, hh.2⟩
                · replace b1733_z : (rg_v h1723_z 190 1) = v4_z ∧ (rg_v h1723_z 190 1).toInt = v4_z.toInt := b1733_z
                  have hh := H62 v4_z _ _ g0_z g4_z (show 0 ≤ v4_z.toInt ∧ v4_z.toInt ≤ 3 by omega) (tkm_b (bk_t (bk_t (bk_t bk_r k1710_z) (bk_n k1717_z)) (bk_n k1725_z)) T) hm_z
                  exact ⟨bk_t (bk_t (bk_t (bk_t bk_r k1710_z) (bk_n k1717_z)) (bk_n k1725_z)) hh.1, hh.2⟩
          · replace b1713_z : v3_z.toInt < (0 : Int32).toInt := b1713_z
            replace hm_z := rn_iload (am_cur_of (i := (36, 2, .iload 4, (0, 0, 0), 0)) (by decide +kernel)) g4_z hm_z
            replace hm_z := rn_istore_n (am_cur_of (i := (38, 1, .istore_n 3, (0, 0, 0), 0)) (by decide +kernel)) hm_z
            obtain ⟨_, s1734_z, s1735_z, g3_z, hm_z⟩ := hm_z
            replace g0_z := s1734_z 0 _ (by decide) rfl g0_z
            replace g4_z := s1734_z 4 _ (by decide) rfl g4_z
            clear s1734_z s1735_z
            replace hm_z := rn_goto (am_cur_of (i := (39, 3, .goto 73, (64, 0, 0), 0)) (by decide +kernel)) hm_z
            have hh := H64 v4_z v4_z _ _ g0_z g3_z g4_z (show -1 ≤ v4_z.toInt ∧ v4_z.toInt ≤ 3 by omega) (show 0 ≤ v4_z.toInt ∧ v4_z.toInt ≤ 3 by omega) (tkm_b (bk_t bk_r k1710_z) T) hm_z
            exact ⟨bk_t (bk_t bk_r k1710_z) hh.1, hh.2⟩
        · replace b1712_z : ¬ v1711_z = (0 : Int32) ∧ ¬ v1711_z.toInt = (0 : Int32).toInt := b1712_z
          replace hm_z := rn_goto (am_cur_of (i := (29, 3, .goto 83, (64, 0, 0), 0)) (by decide +kernel)) hm_z
          have hh := H64 v3_z v4_z _ _ g0_z g3_z g4_z (show -1 ≤ v3_z.toInt ∧ v3_z.toInt ≤ 3 by omega) (show 0 ≤ v4_z.toInt ∧ v4_z.toInt ≤ 3 by omega) (tkm_b (bk_t bk_r k1710_z) T) hm_z
          exact ⟨bk_t (bk_t bk_r k1710_z) hh.1, hh.2⟩
    exact ⟨H7, H62, H64, H86⟩
