/-! ===== CHEEK OF BOTH (wip/r/gen99ri.py) ===== -/
theorem kc_62 {n : Nat} {h h' : am_H} {r : Option Value} {a : Int32} {b : Int32} {c : Int32}  (hc_z : rn n am_m62 0 (lv_args 0 [.int a, .int b, .int c]) [] h r h') : ((a.toInt < b.toInt) ∧ r = some (.int 0) ∧ h' = h) ∨ ((b.toInt ≤ a.toInt) ∧ (c.toInt < a.toInt) ∧ r = some (.int 0) ∧ h' = h) ∨ ((b.toInt ≤ a.toInt) ∧ (a.toInt ≤ c.toInt) ∧ r = some (.int 1) ∧ h' = h) := by
  have g0_z : am_get (lv_args 0 [.int a, .int b, .int c]) 0 = some (.int a) := rfl
  have g1_z : am_get (lv_args 0 [.int a, .int b, .int c]) 1 = some (.int b) := rfl
  have g2_z : am_get (lv_args 0 [.int a, .int b, .int c]) 2 = some (.int c) := rfl
  replace hc_z := rn_iload_n (am_cur_of (i := (0, 1, .iload_n 0, (0, 0, 0), 0)) (by decide +kernel)) g0_z hc_z
  replace hc_z := rn_iload_n (am_cur_of (i := (1, 1, .iload_n 1, (0, 0, 0), 0)) (by decide +kernel)) g1_z hc_z
  replace hc_z := rn_cmp (am_cur_of (i := (2, 3, .if_icmp .lt 12, (8, 0, 0), 0)) (by decide +kernel)) hc_z
  rcases hc_z with ⟨b76_z, hc_z⟩ | ⟨b76_z, hc_z⟩
  · replace b76_z : a.toInt < b.toInt := b76_z
    replace hc_z := rn_iconst (w := 0) (am_cur_of (i := (14, 1, .iconst 0, (0, 0, 0), 0)) (by decide +kernel)) (by decide) hc_z
    replace hc_z := rn_iret (am_cur_of (i := (15, 1, .ireturn, (0, 0, 0), 0)) (by decide +kernel)) hc_z
    obtain ⟨e77_z, e78_z⟩ := hc_z
    exact Or.inl ⟨b76_z, e77_z, e78_z⟩
  · replace b76_z : b.toInt ≤ a.toInt := b76_z
    replace hc_z := rn_iload_n (am_cur_of (i := (5, 1, .iload_n 0, (0, 0, 0), 0)) (by decide +kernel)) g0_z hc_z
    replace hc_z := rn_iload_n (am_cur_of (i := (6, 1, .iload_n 2, (0, 0, 0), 0)) (by decide +kernel)) g2_z hc_z
    replace hc_z := rn_cmp (am_cur_of (i := (7, 3, .if_icmp .gt 7, (8, 0, 0), 0)) (by decide +kernel)) hc_z
    rcases hc_z with ⟨b79_z, hc_z⟩ | ⟨b79_z, hc_z⟩
    · replace b79_z : c.toInt < a.toInt := b79_z
      replace hc_z := rn_iconst (w := 0) (am_cur_of (i := (14, 1, .iconst 0, (0, 0, 0), 0)) (by decide +kernel)) (by decide) hc_z
      replace hc_z := rn_iret (am_cur_of (i := (15, 1, .ireturn, (0, 0, 0), 0)) (by decide +kernel)) hc_z
      obtain ⟨e80_z, e81_z⟩ := hc_z
      exact Or.inr (Or.inl ⟨b76_z, b79_z, e80_z, e81_z⟩)
    · replace b79_z : a.toInt ≤ c.toInt := b79_z
      replace hc_z := rn_iconst (w := 1) (am_cur_of (i := (10, 1, .iconst 1, (0, 0, 0), 0)) (by decide +kernel)) (by decide) hc_z
      replace hc_z := rn_goto (am_cur_of (i := (11, 3, .goto 4, (9, 0, 0), 0)) (by decide +kernel)) hc_z
      replace hc_z := rn_iret (am_cur_of (i := (15, 1, .ireturn, (0, 0, 0), 0)) (by decide +kernel)) hc_z
      obtain ⟨e82_z, e83_z⟩ := hc_z
      exact Or.inr (Or.inr (⟨b76_z, b79_z, e82_z, e83_z⟩))
theorem kc_70_2 {n : Nat} {h h' : am_H} {r : Option Value} {nb x : Int32} (D : h 0 2 = .ref 2) (en : rg_v h 2 2 = nb) (hc_z : rn n am_m70 0 (lv_args 0 [.ref 0, .int x]) [] h r h') : ((0 ≤ x.toInt ∧ x.toInt < nb.toInt) ∧ r = some (.int 1) ∧ h' = h) ∨ (¬ (0 ≤ x.toInt ∧ x.toInt < nb.toInt) ∧ r = some (.int 0) ∧ h' = h) := by
  have zm1_z : ((-1) : Int32).toInt = (-1) := by decide
  have z0_z : (0 : Int32).toInt = 0 := by decide
  have z1_z : (1 : Int32).toInt = 1 := by decide
  have z2_z : (2 : Int32).toInt = 2 := by decide
  have z3_z : (3 : Int32).toInt = 3 := by decide
  have z20_z : (20 : Int32).toInt = 20 := by decide
  have z24_z : (24 : Int32).toInt = 24 := by decide
  have z9999_z : (9999 : Int32).toInt = 9999 := by decide
  have g0_z : am_get (lv_args 0 [.ref 0, .int x]) 0 = some (.ref 0) := rfl
  have g1_z : am_get (lv_args 0 [.ref 0, .int x]) 1 = some (.int x) := rfl
  replace hc_z := rn_iload_n (am_cur_of (i := (0, 1, .iload_n 1, (0, 0, 0), 0)) (by decide +kernel)) g1_z hc_z
  replace hc_z := rn_if (am_cur_of (i := (1, 3, .ifCond .lt 18, (9, 0, 0), 0)) (by decide +kernel)) hc_z
  rcases hc_z with ⟨b84_z, hc_z⟩ | ⟨b84_z, hc_z⟩
  · replace b84_z : x.toInt < (0 : Int32).toInt := b84_z
    replace hc_z := rn_iconst (w := 0) (am_cur_of (i := (19, 1, .iconst 0, (0, 0, 0), 0)) (by decide +kernel)) (by decide) hc_z
    replace hc_z := rn_iret (am_cur_of (i := (20, 1, .ireturn, (0, 0, 0), 0)) (by decide +kernel)) hc_z
    obtain ⟨e85_z, e86_z⟩ := hc_z
    exact Or.inr ⟨by omega, e85_z, e86_z⟩
  · replace b84_z : (0 : Int32).toInt ≤ x.toInt := b84_z
    replace hc_z := rn_iload_n (am_cur_of (i := (4, 1, .iload_n 1, (0, 0, 0), 0)) (by decide +kernel)) g1_z hc_z
    replace hc_z := rn_aload_n (am_cur_of (i := (5, 1, .aload_n 0, (0, 0, 0), 0)) (by decide +kernel)) g0_z hc_z
    replace hc_z := rn_getM (x := 2) (am_cur_of (i := (6, 3, .getfield 18, (0, 2, 663), 0)) (by decide +kernel)) D hc_z
    replace hc_z := rn_getI (v := nb) (am_cur_of (i := (9, 3, .getfield 169, (1, 2, 258), 0)) (by decide +kernel)) (by decide +kernel) en hc_z
    replace hc_z := rn_cmp (am_cur_of (i := (12, 3, .if_icmp .ge 7, (9, 0, 0), 0)) (by decide +kernel)) hc_z
    rcases hc_z with ⟨b87_z, hc_z⟩ | ⟨b87_z, hc_z⟩
    · replace b87_z : nb.toInt ≤ x.toInt := b87_z
      replace hc_z := rn_iconst (w := 0) (am_cur_of (i := (19, 1, .iconst 0, (0, 0, 0), 0)) (by decide +kernel)) (by decide) hc_z
      replace hc_z := rn_iret (am_cur_of (i := (20, 1, .ireturn, (0, 0, 0), 0)) (by decide +kernel)) hc_z
      obtain ⟨e88_z, e89_z⟩ := hc_z
      exact Or.inr ⟨by omega, e88_z, e89_z⟩
    · replace b87_z : x.toInt < nb.toInt := b87_z
      replace hc_z := rn_iconst (w := 1) (am_cur_of (i := (15, 1, .iconst 1, (0, 0, 0), 0)) (by decide +kernel)) (by decide) hc_z
      replace hc_z := rn_goto (am_cur_of (i := (16, 3, .goto 4, (10, 0, 0), 0)) (by decide +kernel)) hc_z
      replace hc_z := rn_iret (am_cur_of (i := (20, 1, .ireturn, (0, 0, 0), 0)) (by decide +kernel)) hc_z
      obtain ⟨e90_z, e91_z⟩ := hc_z
      exact Or.inl ⟨by omega, e90_z, e91_z⟩
theorem kc_125_2_0 {n : Nat} {h h' : am_H} {r : Option Value} {nb s u y z : Int32} (es_z : rg_v h 142 0 = s) (s0_z : 0 ≤ s.toInt) (s4_z : s.toInt ≤ 24) (D : h 0 2 = .ref 2) (en : rg_v h 2 2 = nb) (hc_z : rn n am_m125 0 (lv_args 0 [.ref 0, .int 0, .int y, .int z, .int u]) [] h r h') : (((0 : Int) < nb.toInt ∧ 1 ≤ y.toInt ∧ y.toInt ≤ 20 ∧ 0 ≤ z.toInt ∧ z.toInt ≤ 9999 ∧ y.toInt ≤ (rg_v h 19 3).toInt ∧ s.toInt < 24) ∧ r = some (.int ((s + 1) - 1)) ∧ rg_v h' 142 0 = s + 1) ∨ (¬ ((0 : Int) < nb.toInt ∧ 1 ≤ y.toInt ∧ y.toInt ≤ 20 ∧ 0 ≤ z.toInt ∧ z.toInt ≤ 9999 ∧ y.toInt ≤ (rg_v h 19 3).toInt ∧ s.toInt < 24) ∧ r = some (.int (-1)) ∧ rg_v h' 142 0 = s) := by
  have zm1_z : ((-1) : Int32).toInt = (-1) := by decide
  have z0_z : (0 : Int32).toInt = 0 := by decide
  have z1_z : (1 : Int32).toInt = 1 := by decide
  have z2_z : (2 : Int32).toInt = 2 := by decide
  have z3_z : (3 : Int32).toInt = 3 := by decide
  have z20_z : (20 : Int32).toInt = 20 := by decide
  have z24_z : (24 : Int32).toInt = 24 := by decide
  have z9999_z : (9999 : Int32).toInt = 9999 := by decide
  have g0_z : am_get (lv_args 0 [.ref 0, .int 0, .int y, .int z, .int u]) 0 = some (.ref 0) := rfl
  have g1_z : am_get (lv_args 0 [.ref 0, .int 0, .int y, .int z, .int u]) 1 = some (.int 0) := rfl
  have g2_z : am_get (lv_args 0 [.ref 0, .int 0, .int y, .int z, .int u]) 2 = some (.int y) := rfl
  have g3_z : am_get (lv_args 0 [.ref 0, .int 0, .int y, .int z, .int u]) 3 = some (.int z) := rfl
  have g4_z : am_get (lv_args 0 [.ref 0, .int 0, .int y, .int z, .int u]) 4 = some (.int u) := rfl
  replace hc_z := rn_aload_n (am_cur_of (i := (0, 1, .aload_n 0, (0, 0, 0), 0)) (by decide +kernel)) g0_z hc_z
  replace hc_z := rn_iload_n (am_cur_of (i := (1, 1, .iload_n 1, (0, 0, 0), 0)) (by decide +kernel)) g1_z hc_z
  replace hc_z := rn_callV (M' := am_m70) (o := 0) (ar := [.int 0]) (rest := []) (L := lv_args 0 [.ref 0, .int 0]) (am_cur_of (i := (2, 3, .invokevirtual 135, (70, 943, 3), 0)) (by decide +kernel)) rfl rfl rfl rfl hc_z
  obtain ⟨r92_z, h93_z, q94_z, hc_z⟩ := hc_z
  rcases kc_70_2 D en q94_z with ⟨u95_z, rfl, y96_z⟩ | ⟨u95_z, rfl, y96_z⟩
  · replace y96_z := y96_z.symm
    subst y96_z
    replace hc_z : rn _ _ _ _ [.int 1] _ _ _ := hc_z
    replace hc_z := rn_ifF (am_cur_of (i := (5, 3, .ifCond .eq 24, (14, 0, 0), 0)) (by decide +kernel)) (by decide) hc_z
    replace hc_z := rn_iload_n (am_cur_of (i := (8, 1, .iload_n 2, (0, 0, 0), 0)) (by decide +kernel)) g2_z hc_z
    replace hc_z := rn_iconst (w := 1) (am_cur_of (i := (9, 1, .iconst 1, (0, 0, 0), 0)) (by decide +kernel)) (by decide) hc_z
    replace hc_z := rn_bipush (w := 20) (am_cur_of (i := (10, 2, .bipush 20, (0, 0, 0), 0)) (by decide +kernel)) (by decide) hc_z
    replace hc_z := rn_callS (M' := am_m62) (ar := [.int 20, .int 1, .int y]) (rest := []) (L := lv_args 0 [.int y, .int 1, .int 20]) (am_cur_of (i := (12, 3, .invokestatic 172, (62, 908, 3), 0)) (by decide +kernel)) rfl rfl rfl rfl hc_z
    obtain ⟨r97_z, h98_z, q99_z, hc_z⟩ := hc_z
    rcases kc_62 q99_z with ⟨b100_z, rfl, y101_z⟩ | ⟨b102_z, b103_z, rfl, y104_z⟩ | ⟨b105_z, b106_z, rfl, y107_z⟩
    · replace y101_z := y101_z.symm
      subst y101_z
      replace b100_z : y.toInt < (1 : Int32).toInt := b100_z
      replace hc_z : rn _ _ _ _ [.int 0] _ _ _ := hc_z
      replace hc_z := rn_ifT (am_cur_of (i := (15, 3, .ifCond .eq 14, (14, 0, 0), 0)) (by decide +kernel)) (by decide) hc_z
      replace hc_z := rn_iconst (w := (-1)) (am_cur_of (i := (29, 1, .iconst (-1), (0, 0, 0), 0)) (by decide +kernel)) (by decide) hc_z
      replace hc_z := rn_iret (am_cur_of (i := (30, 1, .ireturn, (0, 0, 0), 0)) (by decide +kernel)) hc_z
      obtain ⟨e108_z, e109_z⟩ := hc_z
      exact Or.inr ⟨by omega, e108_z, by rw [e109_z]; exact es_z⟩
    · replace y104_z := y104_z.symm
      subst y104_z
      replace b102_z : (1 : Int32).toInt ≤ y.toInt := b102_z
      replace b103_z : (20 : Int32).toInt < y.toInt := b103_z
      replace hc_z : rn _ _ _ _ [.int 0] _ _ _ := hc_z
      replace hc_z := rn_ifT (am_cur_of (i := (15, 3, .ifCond .eq 14, (14, 0, 0), 0)) (by decide +kernel)) (by decide) hc_z
      replace hc_z := rn_iconst (w := (-1)) (am_cur_of (i := (29, 1, .iconst (-1), (0, 0, 0), 0)) (by decide +kernel)) (by decide) hc_z
      replace hc_z := rn_iret (am_cur_of (i := (30, 1, .ireturn, (0, 0, 0), 0)) (by decide +kernel)) hc_z
      obtain ⟨e110_z, e111_z⟩ := hc_z
      exact Or.inr ⟨by omega, e110_z, by rw [e111_z]; exact es_z⟩
    · replace y107_z := y107_z.symm
      subst y107_z
      replace b105_z : (1 : Int32).toInt ≤ y.toInt := b105_z
      replace b106_z : y.toInt ≤ (20 : Int32).toInt := b106_z
      replace hc_z : rn _ _ _ _ [.int 1] _ _ _ := hc_z
      replace hc_z := rn_ifF (am_cur_of (i := (15, 3, .ifCond .eq 14, (14, 0, 0), 0)) (by decide +kernel)) (by decide) hc_z
      replace hc_z := rn_iload_n (am_cur_of (i := (18, 1, .iload_n 3, (0, 0, 0), 0)) (by decide +kernel)) g3_z hc_z
      replace hc_z := rn_iconst (w := 0) (am_cur_of (i := (19, 1, .iconst 0, (0, 0, 0), 0)) (by decide +kernel)) (by decide) hc_z
      replace hc_z := rn_sipush (w := 9999) (am_cur_of (i := (20, 3, .sipush 9999, (0, 0, 0), 0)) (by decide +kernel)) (by decide) hc_z
      replace hc_z := rn_callS (M' := am_m62) (ar := [.int 9999, .int 0, .int z]) (rest := []) (L := lv_args 0 [.int z, .int 0, .int 9999]) (am_cur_of (i := (23, 3, .invokestatic 172, (62, 908, 3), 0)) (by decide +kernel)) rfl rfl rfl rfl hc_z
      obtain ⟨r112_z, h113_z, q114_z, hc_z⟩ := hc_z
      rcases kc_62 q114_z with ⟨b115_z, rfl, y116_z⟩ | ⟨b117_z, b118_z, rfl, y119_z⟩ | ⟨b120_z, b121_z, rfl, y122_z⟩
      · replace y116_z := y116_z.symm
        subst y116_z
        replace b115_z : z.toInt < (0 : Int32).toInt := b115_z
        replace hc_z : rn _ _ _ _ [.int 0] _ _ _ := hc_z
        replace hc_z := rn_ifF (am_cur_of (i := (26, 3, .ifCond .ne 5, (16, 0, 0), 0)) (by decide +kernel)) (by decide) hc_z
        replace hc_z := rn_iconst (w := (-1)) (am_cur_of (i := (29, 1, .iconst (-1), (0, 0, 0), 0)) (by decide +kernel)) (by decide) hc_z
        replace hc_z := rn_iret (am_cur_of (i := (30, 1, .ireturn, (0, 0, 0), 0)) (by decide +kernel)) hc_z
        obtain ⟨e123_z, e124_z⟩ := hc_z
        exact Or.inr ⟨by omega, e123_z, by rw [e124_z]; exact es_z⟩
      · replace y119_z := y119_z.symm
        subst y119_z
        replace b117_z : (0 : Int32).toInt ≤ z.toInt := b117_z
        replace b118_z : (9999 : Int32).toInt < z.toInt := b118_z
        replace hc_z : rn _ _ _ _ [.int 0] _ _ _ := hc_z
        replace hc_z := rn_ifF (am_cur_of (i := (26, 3, .ifCond .ne 5, (16, 0, 0), 0)) (by decide +kernel)) (by decide) hc_z
        replace hc_z := rn_iconst (w := (-1)) (am_cur_of (i := (29, 1, .iconst (-1), (0, 0, 0), 0)) (by decide +kernel)) (by decide) hc_z
        replace hc_z := rn_iret (am_cur_of (i := (30, 1, .ireturn, (0, 0, 0), 0)) (by decide +kernel)) hc_z
        obtain ⟨e125_z, e126_z⟩ := hc_z
        exact Or.inr ⟨by omega, e125_z, by rw [e126_z]; exact es_z⟩
      · replace y122_z := y122_z.symm
        subst y122_z
        replace b120_z : (0 : Int32).toInt ≤ z.toInt := b120_z
        replace b121_z : z.toInt ≤ (9999 : Int32).toInt := b121_z
        replace hc_z : rn _ _ _ _ [.int 1] _ _ _ := hc_z
        replace hc_z := rn_ifT (am_cur_of (i := (26, 3, .ifCond .ne 5, (16, 0, 0), 0)) (by decide +kernel)) (by decide) hc_z
        replace hc_z := rn_iload_n (am_cur_of (i := (31, 1, .iload_n 2, (0, 0, 0), 0)) (by decide +kernel)) g2_z hc_z
        replace hc_z := rn_aload_n (am_cur_of (i := (32, 1, .aload_n 0, (0, 0, 0), 0)) (by decide +kernel)) g0_z hc_z
        replace hc_z := rn_getM (x := 2) (am_cur_of (i := (33, 3, .getfield 18, (0, 2, 663), 0)) (by decide +kernel)) D hc_z
        replace hc_z := rn_getR (x := 3) (am_cur_of (i := (36, 3, .getfield 189, (1, 3, 264), 0)) (by decide +kernel)) (by decide +kernel) hc_z
        replace hc_z := rn_iload_n (am_cur_of (i := (39, 1, .iload_n 1, (0, 0, 0), 0)) (by decide +kernel)) g1_z hc_z
        replace hc_z := rn_aaload (s := "AirBed$Blower") (N := 4) (q := 0) (am_cur_of (i := (40, 1, .aaload, (0, 0, 0), 0)) (by decide +kernel)) (by decide +kernel) rfl hc_z
        obtain ⟨p127_z, hc_z⟩ := hc_z
        rw [show rg_r h 3 0 = 19 from rp_bc2 (rn_G hc_z) (q := 0) (by decide)] at hc_z
        replace hc_z := rn_getI (v := rg_v h 19 3) (am_cur_of (i := (41, 3, .getfield 290, (3, 3, 212), 0)) (by decide +kernel)) (by decide +kernel) rfl hc_z
        replace hc_z := rn_cmp (am_cur_of (i := (44, 3, .if_icmp .le 5, (26, 0, 0), 0)) (by decide +kernel)) hc_z
        rcases hc_z with ⟨b128_z, hc_z⟩ | ⟨b128_z, hc_z⟩
        · replace b128_z : y.toInt ≤ (rg_v h 19 3).toInt := b128_z
          replace hc_z := rn_aload_n (am_cur_of (i := (49, 1, .aload_n 0, (0, 0, 0), 0)) (by decide +kernel)) g0_z hc_z
          replace hc_z := rn_getR (x := 142) (am_cur_of (i := (50, 3, .getfield 57, (0, 10, 671), 0)) (by decide +kernel)) (by decide +kernel) hc_z
          replace hc_z := rn_iload (am_cur_of (i := (53, 2, .iload 4, (0, 0, 0), 0)) (by decide +kernel)) g4_z hc_z
          replace hc_z := rn_if (am_cur_of (i := (55, 3, .ifCond .eq 7, (32, 0, 0), 0)) (by decide +kernel)) hc_z
          rcases hc_z with ⟨b129_z, hc_z⟩ | ⟨b129_z, hc_z⟩
          · replace b129_z : u = (0 : Int32) ∧ u.toInt = (0 : Int32).toInt := b129_z
            replace hc_z := rn_iconst (w := 0) (am_cur_of (i := (62, 1, .iconst 0, (0, 0, 0), 0)) (by decide +kernel)) (by decide) hc_z
            replace hc_z := rn_iload_n (am_cur_of (i := (63, 1, .iload_n 1, (0, 0, 0), 0)) (by decide +kernel)) g1_z hc_z
            replace hc_z := rn_iload_n (am_cur_of (i := (64, 1, .iload_n 2, (0, 0, 0), 0)) (by decide +kernel)) g2_z hc_z
            replace hc_z := rn_iload_n (am_cur_of (i := (65, 1, .iload_n 3, (0, 0, 0), 0)) (by decide +kernel)) g3_z hc_z
            replace hc_z := rn_callV (M' := am_m126) (o := 142) (ar := [.int z, .int y, .int 0, .int 0]) (rest := []) (L := lv_args 0 [.ref 142, .int 0, .int 0, .int y, .int z]) (am_cur_of (i := (66, 3, .invokevirtual 328, (126, 1189, 3), 0)) (by decide +kernel)) rfl rfl rfl rfl hc_z
            obtain ⟨r130_z, h131_z, q132_z, hc_z⟩ := hc_z
            rcases kc_126 es_z s0_z s4_z q132_z with ⟨lt, rfl, ez⟩ | ⟨lt, rfl, ez⟩
            · replace hc_z : rn _ _ _ _ [.int ((s + 1) - 1)] _ _ _ := hc_z
              replace hc_z := rn_iret (am_cur_of (i := (69, 1, .ireturn, (0, 0, 0), 0)) (by decide +kernel)) hc_z
              obtain ⟨e133_z, e134_z⟩ := hc_z
              exact Or.inl ⟨by omega, e133_z, by rw [e134_z]; exact ez⟩
            · replace hc_z : rn _ _ _ _ [.int (-1)] _ _ _ := hc_z
              replace hc_z := rn_iret (am_cur_of (i := (69, 1, .ireturn, (0, 0, 0), 0)) (by decide +kernel)) hc_z
              obtain ⟨e135_z, e136_z⟩ := hc_z
              exact Or.inr ⟨by omega, e135_z, by rw [e136_z]; exact ez⟩
          · replace b129_z : ¬ u = (0 : Int32) ∧ ¬ u.toInt = (0 : Int32).toInt := b129_z
            replace hc_z := rn_iconst (w := 1) (am_cur_of (i := (58, 1, .iconst 1, (0, 0, 0), 0)) (by decide +kernel)) (by decide) hc_z
            replace hc_z := rn_goto (am_cur_of (i := (59, 3, .goto 4, (33, 0, 0), 0)) (by decide +kernel)) hc_z
            replace hc_z := rn_iload_n (am_cur_of (i := (63, 1, .iload_n 1, (0, 0, 0), 0)) (by decide +kernel)) g1_z hc_z
            replace hc_z := rn_iload_n (am_cur_of (i := (64, 1, .iload_n 2, (0, 0, 0), 0)) (by decide +kernel)) g2_z hc_z
            replace hc_z := rn_iload_n (am_cur_of (i := (65, 1, .iload_n 3, (0, 0, 0), 0)) (by decide +kernel)) g3_z hc_z
            replace hc_z := rn_callV (M' := am_m126) (o := 142) (ar := [.int z, .int y, .int 0, .int 1]) (rest := []) (L := lv_args 0 [.ref 142, .int 1, .int 0, .int y, .int z]) (am_cur_of (i := (66, 3, .invokevirtual 328, (126, 1189, 3), 0)) (by decide +kernel)) rfl rfl rfl rfl hc_z
            obtain ⟨r137_z, h138_z, q139_z, hc_z⟩ := hc_z
            rcases kc_126 es_z s0_z s4_z q139_z with ⟨lt, rfl, ez⟩ | ⟨lt, rfl, ez⟩
            · replace hc_z : rn _ _ _ _ [.int ((s + 1) - 1)] _ _ _ := hc_z
              replace hc_z := rn_iret (am_cur_of (i := (69, 1, .ireturn, (0, 0, 0), 0)) (by decide +kernel)) hc_z
              obtain ⟨e140_z, e141_z⟩ := hc_z
              exact Or.inl ⟨by omega, e140_z, by rw [e141_z]; exact ez⟩
            · replace hc_z : rn _ _ _ _ [.int (-1)] _ _ _ := hc_z
              replace hc_z := rn_iret (am_cur_of (i := (69, 1, .ireturn, (0, 0, 0), 0)) (by decide +kernel)) hc_z
              obtain ⟨e142_z, e143_z⟩ := hc_z
              exact Or.inr ⟨by omega, e142_z, by rw [e143_z]; exact ez⟩
        · replace b128_z : (rg_v h 19 3).toInt < y.toInt := b128_z
          replace hc_z := rn_iconst (w := (-1)) (am_cur_of (i := (47, 1, .iconst (-1), (0, 0, 0), 0)) (by decide +kernel)) (by decide) hc_z
          replace hc_z := rn_iret (am_cur_of (i := (48, 1, .ireturn, (0, 0, 0), 0)) (by decide +kernel)) hc_z
          obtain ⟨e144_z, e145_z⟩ := hc_z
          exact Or.inr ⟨by omega, e144_z, by rw [e145_z]; exact es_z⟩
  · replace y96_z := y96_z.symm
    subst y96_z
    replace hc_z : rn _ _ _ _ [.int 0] _ _ _ := hc_z
    replace hc_z := rn_ifT (am_cur_of (i := (5, 3, .ifCond .eq 24, (14, 0, 0), 0)) (by decide +kernel)) (by decide) hc_z
    replace hc_z := rn_iconst (w := (-1)) (am_cur_of (i := (29, 1, .iconst (-1), (0, 0, 0), 0)) (by decide +kernel)) (by decide) hc_z
    replace hc_z := rn_iret (am_cur_of (i := (30, 1, .ireturn, (0, 0, 0), 0)) (by decide +kernel)) hc_z
    obtain ⟨e146_z, e147_z⟩ := hc_z
    exact Or.inr ⟨by omega, e146_z, by rw [e147_z]; exact es_z⟩
theorem kc_125_2_1 {n : Nat} {h h' : am_H} {r : Option Value} {nb s u y z : Int32} (es_z : rg_v h 142 0 = s) (s0_z : 0 ≤ s.toInt) (s4_z : s.toInt ≤ 24) (D : h 0 2 = .ref 2) (en : rg_v h 2 2 = nb) (hc_z : rn n am_m125 0 (lv_args 0 [.ref 0, .int 1, .int y, .int z, .int u]) [] h r h') : (((1 : Int) < nb.toInt ∧ 1 ≤ y.toInt ∧ y.toInt ≤ 20 ∧ 0 ≤ z.toInt ∧ z.toInt ≤ 9999 ∧ y.toInt ≤ (rg_v h 20 3).toInt ∧ s.toInt < 24) ∧ r = some (.int ((s + 1) - 1)) ∧ rg_v h' 142 0 = s + 1) ∨ (¬ ((1 : Int) < nb.toInt ∧ 1 ≤ y.toInt ∧ y.toInt ≤ 20 ∧ 0 ≤ z.toInt ∧ z.toInt ≤ 9999 ∧ y.toInt ≤ (rg_v h 20 3).toInt ∧ s.toInt < 24) ∧ r = some (.int (-1)) ∧ rg_v h' 142 0 = s) := by
  have zm1_z : ((-1) : Int32).toInt = (-1) := by decide
  have z0_z : (0 : Int32).toInt = 0 := by decide
  have z1_z : (1 : Int32).toInt = 1 := by decide
  have z2_z : (2 : Int32).toInt = 2 := by decide
  have z3_z : (3 : Int32).toInt = 3 := by decide
  have z20_z : (20 : Int32).toInt = 20 := by decide
  have z24_z : (24 : Int32).toInt = 24 := by decide
  have z9999_z : (9999 : Int32).toInt = 9999 := by decide
  have g0_z : am_get (lv_args 0 [.ref 0, .int 1, .int y, .int z, .int u]) 0 = some (.ref 0) := rfl
  have g1_z : am_get (lv_args 0 [.ref 0, .int 1, .int y, .int z, .int u]) 1 = some (.int 1) := rfl
  have g2_z : am_get (lv_args 0 [.ref 0, .int 1, .int y, .int z, .int u]) 2 = some (.int y) := rfl
  have g3_z : am_get (lv_args 0 [.ref 0, .int 1, .int y, .int z, .int u]) 3 = some (.int z) := rfl
  have g4_z : am_get (lv_args 0 [.ref 0, .int 1, .int y, .int z, .int u]) 4 = some (.int u) := rfl
  replace hc_z := rn_aload_n (am_cur_of (i := (0, 1, .aload_n 0, (0, 0, 0), 0)) (by decide +kernel)) g0_z hc_z
  replace hc_z := rn_iload_n (am_cur_of (i := (1, 1, .iload_n 1, (0, 0, 0), 0)) (by decide +kernel)) g1_z hc_z
  replace hc_z := rn_callV (M' := am_m70) (o := 0) (ar := [.int 1]) (rest := []) (L := lv_args 0 [.ref 0, .int 1]) (am_cur_of (i := (2, 3, .invokevirtual 135, (70, 943, 3), 0)) (by decide +kernel)) rfl rfl rfl rfl hc_z
  obtain ⟨r148_z, h149_z, q150_z, hc_z⟩ := hc_z
  rcases kc_70_2 D en q150_z with ⟨u151_z, rfl, y152_z⟩ | ⟨u151_z, rfl, y152_z⟩
  · replace y152_z := y152_z.symm
    subst y152_z
    replace hc_z : rn _ _ _ _ [.int 1] _ _ _ := hc_z
    replace hc_z := rn_ifF (am_cur_of (i := (5, 3, .ifCond .eq 24, (14, 0, 0), 0)) (by decide +kernel)) (by decide) hc_z
    replace hc_z := rn_iload_n (am_cur_of (i := (8, 1, .iload_n 2, (0, 0, 0), 0)) (by decide +kernel)) g2_z hc_z
    replace hc_z := rn_iconst (w := 1) (am_cur_of (i := (9, 1, .iconst 1, (0, 0, 0), 0)) (by decide +kernel)) (by decide) hc_z
    replace hc_z := rn_bipush (w := 20) (am_cur_of (i := (10, 2, .bipush 20, (0, 0, 0), 0)) (by decide +kernel)) (by decide) hc_z
    replace hc_z := rn_callS (M' := am_m62) (ar := [.int 20, .int 1, .int y]) (rest := []) (L := lv_args 0 [.int y, .int 1, .int 20]) (am_cur_of (i := (12, 3, .invokestatic 172, (62, 908, 3), 0)) (by decide +kernel)) rfl rfl rfl rfl hc_z
    obtain ⟨r153_z, h154_z, q155_z, hc_z⟩ := hc_z
    rcases kc_62 q155_z with ⟨b156_z, rfl, y157_z⟩ | ⟨b158_z, b159_z, rfl, y160_z⟩ | ⟨b161_z, b162_z, rfl, y163_z⟩
    · replace y157_z := y157_z.symm
      subst y157_z
      replace b156_z : y.toInt < (1 : Int32).toInt := b156_z
      replace hc_z : rn _ _ _ _ [.int 0] _ _ _ := hc_z
      replace hc_z := rn_ifT (am_cur_of (i := (15, 3, .ifCond .eq 14, (14, 0, 0), 0)) (by decide +kernel)) (by decide) hc_z
      replace hc_z := rn_iconst (w := (-1)) (am_cur_of (i := (29, 1, .iconst (-1), (0, 0, 0), 0)) (by decide +kernel)) (by decide) hc_z
      replace hc_z := rn_iret (am_cur_of (i := (30, 1, .ireturn, (0, 0, 0), 0)) (by decide +kernel)) hc_z
      obtain ⟨e164_z, e165_z⟩ := hc_z
      exact Or.inr ⟨by omega, e164_z, by rw [e165_z]; exact es_z⟩
    · replace y160_z := y160_z.symm
      subst y160_z
      replace b158_z : (1 : Int32).toInt ≤ y.toInt := b158_z
      replace b159_z : (20 : Int32).toInt < y.toInt := b159_z
      replace hc_z : rn _ _ _ _ [.int 0] _ _ _ := hc_z
      replace hc_z := rn_ifT (am_cur_of (i := (15, 3, .ifCond .eq 14, (14, 0, 0), 0)) (by decide +kernel)) (by decide) hc_z
      replace hc_z := rn_iconst (w := (-1)) (am_cur_of (i := (29, 1, .iconst (-1), (0, 0, 0), 0)) (by decide +kernel)) (by decide) hc_z
      replace hc_z := rn_iret (am_cur_of (i := (30, 1, .ireturn, (0, 0, 0), 0)) (by decide +kernel)) hc_z
      obtain ⟨e166_z, e167_z⟩ := hc_z
      exact Or.inr ⟨by omega, e166_z, by rw [e167_z]; exact es_z⟩
    · replace y163_z := y163_z.symm
      subst y163_z
      replace b161_z : (1 : Int32).toInt ≤ y.toInt := b161_z
      replace b162_z : y.toInt ≤ (20 : Int32).toInt := b162_z
      replace hc_z : rn _ _ _ _ [.int 1] _ _ _ := hc_z
      replace hc_z := rn_ifF (am_cur_of (i := (15, 3, .ifCond .eq 14, (14, 0, 0), 0)) (by decide +kernel)) (by decide) hc_z
      replace hc_z := rn_iload_n (am_cur_of (i := (18, 1, .iload_n 3, (0, 0, 0), 0)) (by decide +kernel)) g3_z hc_z
      replace hc_z := rn_iconst (w := 0) (am_cur_of (i := (19, 1, .iconst 0, (0, 0, 0), 0)) (by decide +kernel)) (by decide) hc_z
      replace hc_z := rn_sipush (w := 9999) (am_cur_of (i := (20, 3, .sipush 9999, (0, 0, 0), 0)) (by decide +kernel)) (by decide) hc_z
      replace hc_z := rn_callS (M' := am_m62) (ar := [.int 9999, .int 0, .int z]) (rest := []) (L := lv_args 0 [.int z, .int 0, .int 9999]) (am_cur_of (i := (23, 3, .invokestatic 172, (62, 908, 3), 0)) (by decide +kernel)) rfl rfl rfl rfl hc_z
      obtain ⟨r168_z, h169_z, q170_z, hc_z⟩ := hc_z
      rcases kc_62 q170_z with ⟨b171_z, rfl, y172_z⟩ | ⟨b173_z, b174_z, rfl, y175_z⟩ | ⟨b176_z, b177_z, rfl, y178_z⟩
      · replace y172_z := y172_z.symm
        subst y172_z
        replace b171_z : z.toInt < (0 : Int32).toInt := b171_z
        replace hc_z : rn _ _ _ _ [.int 0] _ _ _ := hc_z
        replace hc_z := rn_ifF (am_cur_of (i := (26, 3, .ifCond .ne 5, (16, 0, 0), 0)) (by decide +kernel)) (by decide) hc_z
        replace hc_z := rn_iconst (w := (-1)) (am_cur_of (i := (29, 1, .iconst (-1), (0, 0, 0), 0)) (by decide +kernel)) (by decide) hc_z
        replace hc_z := rn_iret (am_cur_of (i := (30, 1, .ireturn, (0, 0, 0), 0)) (by decide +kernel)) hc_z
        obtain ⟨e179_z, e180_z⟩ := hc_z
        exact Or.inr ⟨by omega, e179_z, by rw [e180_z]; exact es_z⟩
      · replace y175_z := y175_z.symm
        subst y175_z
        replace b173_z : (0 : Int32).toInt ≤ z.toInt := b173_z
        replace b174_z : (9999 : Int32).toInt < z.toInt := b174_z
        replace hc_z : rn _ _ _ _ [.int 0] _ _ _ := hc_z
        replace hc_z := rn_ifF (am_cur_of (i := (26, 3, .ifCond .ne 5, (16, 0, 0), 0)) (by decide +kernel)) (by decide) hc_z
        replace hc_z := rn_iconst (w := (-1)) (am_cur_of (i := (29, 1, .iconst (-1), (0, 0, 0), 0)) (by decide +kernel)) (by decide) hc_z
        replace hc_z := rn_iret (am_cur_of (i := (30, 1, .ireturn, (0, 0, 0), 0)) (by decide +kernel)) hc_z
        obtain ⟨e181_z, e182_z⟩ := hc_z
        exact Or.inr ⟨by omega, e181_z, by rw [e182_z]; exact es_z⟩
      · replace y178_z := y178_z.symm
        subst y178_z
        replace b176_z : (0 : Int32).toInt ≤ z.toInt := b176_z
        replace b177_z : z.toInt ≤ (9999 : Int32).toInt := b177_z
        replace hc_z : rn _ _ _ _ [.int 1] _ _ _ := hc_z
        replace hc_z := rn_ifT (am_cur_of (i := (26, 3, .ifCond .ne 5, (16, 0, 0), 0)) (by decide +kernel)) (by decide) hc_z
        replace hc_z := rn_iload_n (am_cur_of (i := (31, 1, .iload_n 2, (0, 0, 0), 0)) (by decide +kernel)) g2_z hc_z
        replace hc_z := rn_aload_n (am_cur_of (i := (32, 1, .aload_n 0, (0, 0, 0), 0)) (by decide +kernel)) g0_z hc_z
        replace hc_z := rn_getM (x := 2) (am_cur_of (i := (33, 3, .getfield 18, (0, 2, 663), 0)) (by decide +kernel)) D hc_z
        replace hc_z := rn_getR (x := 3) (am_cur_of (i := (36, 3, .getfield 189, (1, 3, 264), 0)) (by decide +kernel)) (by decide +kernel) hc_z
        replace hc_z := rn_iload_n (am_cur_of (i := (39, 1, .iload_n 1, (0, 0, 0), 0)) (by decide +kernel)) g1_z hc_z
        replace hc_z := rn_aaload (s := "AirBed$Blower") (N := 4) (q := 1) (am_cur_of (i := (40, 1, .aaload, (0, 0, 0), 0)) (by decide +kernel)) (by decide +kernel) rfl hc_z
        obtain ⟨p183_z, hc_z⟩ := hc_z
        rw [show rg_r h 3 1 = 20 from rp_bc2 (rn_G hc_z) (q := 1) (by decide)] at hc_z
        replace hc_z := rn_getI (v := rg_v h 20 3) (am_cur_of (i := (41, 3, .getfield 290, (3, 3, 212), 0)) (by decide +kernel)) (by decide +kernel) rfl hc_z
        replace hc_z := rn_cmp (am_cur_of (i := (44, 3, .if_icmp .le 5, (26, 0, 0), 0)) (by decide +kernel)) hc_z
        rcases hc_z with ⟨b184_z, hc_z⟩ | ⟨b184_z, hc_z⟩
        · replace b184_z : y.toInt ≤ (rg_v h 20 3).toInt := b184_z
          replace hc_z := rn_aload_n (am_cur_of (i := (49, 1, .aload_n 0, (0, 0, 0), 0)) (by decide +kernel)) g0_z hc_z
          replace hc_z := rn_getR (x := 142) (am_cur_of (i := (50, 3, .getfield 57, (0, 10, 671), 0)) (by decide +kernel)) (by decide +kernel) hc_z
          replace hc_z := rn_iload (am_cur_of (i := (53, 2, .iload 4, (0, 0, 0), 0)) (by decide +kernel)) g4_z hc_z
          replace hc_z := rn_if (am_cur_of (i := (55, 3, .ifCond .eq 7, (32, 0, 0), 0)) (by decide +kernel)) hc_z
          rcases hc_z with ⟨b185_z, hc_z⟩ | ⟨b185_z, hc_z⟩
          · replace b185_z : u = (0 : Int32) ∧ u.toInt = (0 : Int32).toInt := b185_z
            replace hc_z := rn_iconst (w := 0) (am_cur_of (i := (62, 1, .iconst 0, (0, 0, 0), 0)) (by decide +kernel)) (by decide) hc_z
            replace hc_z := rn_iload_n (am_cur_of (i := (63, 1, .iload_n 1, (0, 0, 0), 0)) (by decide +kernel)) g1_z hc_z
            replace hc_z := rn_iload_n (am_cur_of (i := (64, 1, .iload_n 2, (0, 0, 0), 0)) (by decide +kernel)) g2_z hc_z
            replace hc_z := rn_iload_n (am_cur_of (i := (65, 1, .iload_n 3, (0, 0, 0), 0)) (by decide +kernel)) g3_z hc_z
            replace hc_z := rn_callV (M' := am_m126) (o := 142) (ar := [.int z, .int y, .int 1, .int 0]) (rest := []) (L := lv_args 0 [.ref 142, .int 0, .int 1, .int y, .int z]) (am_cur_of (i := (66, 3, .invokevirtual 328, (126, 1189, 3), 0)) (by decide +kernel)) rfl rfl rfl rfl hc_z
            obtain ⟨r186_z, h187_z, q188_z, hc_z⟩ := hc_z
            rcases kc_126 es_z s0_z s4_z q188_z with ⟨lt, rfl, ez⟩ | ⟨lt, rfl, ez⟩
            · replace hc_z : rn _ _ _ _ [.int ((s + 1) - 1)] _ _ _ := hc_z
              replace hc_z := rn_iret (am_cur_of (i := (69, 1, .ireturn, (0, 0, 0), 0)) (by decide +kernel)) hc_z
              obtain ⟨e189_z, e190_z⟩ := hc_z
              exact Or.inl ⟨by omega, e189_z, by rw [e190_z]; exact ez⟩
            · replace hc_z : rn _ _ _ _ [.int (-1)] _ _ _ := hc_z
              replace hc_z := rn_iret (am_cur_of (i := (69, 1, .ireturn, (0, 0, 0), 0)) (by decide +kernel)) hc_z
              obtain ⟨e191_z, e192_z⟩ := hc_z
              exact Or.inr ⟨by omega, e191_z, by rw [e192_z]; exact ez⟩
          · replace b185_z : ¬ u = (0 : Int32) ∧ ¬ u.toInt = (0 : Int32).toInt := b185_z
            replace hc_z := rn_iconst (w := 1) (am_cur_of (i := (58, 1, .iconst 1, (0, 0, 0), 0)) (by decide +kernel)) (by decide) hc_z
            replace hc_z := rn_goto (am_cur_of (i := (59, 3, .goto 4, (33, 0, 0), 0)) (by decide +kernel)) hc_z
            replace hc_z := rn_iload_n (am_cur_of (i := (63, 1, .iload_n 1, (0, 0, 0), 0)) (by decide +kernel)) g1_z hc_z
            replace hc_z := rn_iload_n (am_cur_of (i := (64, 1, .iload_n 2, (0, 0, 0), 0)) (by decide +kernel)) g2_z hc_z
            replace hc_z := rn_iload_n (am_cur_of (i := (65, 1, .iload_n 3, (0, 0, 0), 0)) (by decide +kernel)) g3_z hc_z
            replace hc_z := rn_callV (M' := am_m126) (o := 142) (ar := [.int z, .int y, .int 1, .int 1]) (rest := []) (L := lv_args 0 [.ref 142, .int 1, .int 1, .int y, .int z]) (am_cur_of (i := (66, 3, .invokevirtual 328, (126, 1189, 3), 0)) (by decide +kernel)) rfl rfl rfl rfl hc_z
            obtain ⟨r193_z, h194_z, q195_z, hc_z⟩ := hc_z
            rcases kc_126 es_z s0_z s4_z q195_z with ⟨lt, rfl, ez⟩ | ⟨lt, rfl, ez⟩
            · replace hc_z : rn _ _ _ _ [.int ((s + 1) - 1)] _ _ _ := hc_z
              replace hc_z := rn_iret (am_cur_of (i := (69, 1, .ireturn, (0, 0, 0), 0)) (by decide +kernel)) hc_z
              obtain ⟨e196_z, e197_z⟩ := hc_z
              exact Or.inl ⟨by omega, e196_z, by rw [e197_z]; exact ez⟩
            · replace hc_z : rn _ _ _ _ [.int (-1)] _ _ _ := hc_z
              replace hc_z := rn_iret (am_cur_of (i := (69, 1, .ireturn, (0, 0, 0), 0)) (by decide +kernel)) hc_z
              obtain ⟨e198_z, e199_z⟩ := hc_z
              exact Or.inr ⟨by omega, e198_z, by rw [e199_z]; exact ez⟩
        · replace b184_z : (rg_v h 20 3).toInt < y.toInt := b184_z
          replace hc_z := rn_iconst (w := (-1)) (am_cur_of (i := (47, 1, .iconst (-1), (0, 0, 0), 0)) (by decide +kernel)) (by decide) hc_z
          replace hc_z := rn_iret (am_cur_of (i := (48, 1, .ireturn, (0, 0, 0), 0)) (by decide +kernel)) hc_z
          obtain ⟨e200_z, e201_z⟩ := hc_z
          exact Or.inr ⟨by omega, e200_z, by rw [e201_z]; exact es_z⟩
  · replace y152_z := y152_z.symm
    subst y152_z
    replace hc_z : rn _ _ _ _ [.int 0] _ _ _ := hc_z
    replace hc_z := rn_ifT (am_cur_of (i := (5, 3, .ifCond .eq 24, (14, 0, 0), 0)) (by decide +kernel)) (by decide) hc_z
    replace hc_z := rn_iconst (w := (-1)) (am_cur_of (i := (29, 1, .iconst (-1), (0, 0, 0), 0)) (by decide +kernel)) (by decide) hc_z
    replace hc_z := rn_iret (am_cur_of (i := (30, 1, .ireturn, (0, 0, 0), 0)) (by decide +kernel)) hc_z
    obtain ⟨e202_z, e203_z⟩ := hc_z
    exact Or.inr ⟨by omega, e202_z, by rw [e203_z]; exact es_z⟩
theorem kc_125_2_2 {n : Nat} {h h' : am_H} {r : Option Value} {nb s u y z : Int32} (es_z : rg_v h 142 0 = s) (s0_z : 0 ≤ s.toInt) (s4_z : s.toInt ≤ 24) (D : h 0 2 = .ref 2) (en : rg_v h 2 2 = nb) (hc_z : rn n am_m125 0 (lv_args 0 [.ref 0, .int 2, .int y, .int z, .int u]) [] h r h') : (((2 : Int) < nb.toInt ∧ 1 ≤ y.toInt ∧ y.toInt ≤ 20 ∧ 0 ≤ z.toInt ∧ z.toInt ≤ 9999 ∧ y.toInt ≤ (rg_v h 21 3).toInt ∧ s.toInt < 24) ∧ r = some (.int ((s + 1) - 1)) ∧ rg_v h' 142 0 = s + 1) ∨ (¬ ((2 : Int) < nb.toInt ∧ 1 ≤ y.toInt ∧ y.toInt ≤ 20 ∧ 0 ≤ z.toInt ∧ z.toInt ≤ 9999 ∧ y.toInt ≤ (rg_v h 21 3).toInt ∧ s.toInt < 24) ∧ r = some (.int (-1)) ∧ rg_v h' 142 0 = s) := by
  have zm1_z : ((-1) : Int32).toInt = (-1) := by decide
  have z0_z : (0 : Int32).toInt = 0 := by decide
  have z1_z : (1 : Int32).toInt = 1 := by decide
  have z2_z : (2 : Int32).toInt = 2 := by decide
  have z3_z : (3 : Int32).toInt = 3 := by decide
  have z20_z : (20 : Int32).toInt = 20 := by decide
  have z24_z : (24 : Int32).toInt = 24 := by decide
  have z9999_z : (9999 : Int32).toInt = 9999 := by decide
  have g0_z : am_get (lv_args 0 [.ref 0, .int 2, .int y, .int z, .int u]) 0 = some (.ref 0) := rfl
  have g1_z : am_get (lv_args 0 [.ref 0, .int 2, .int y, .int z, .int u]) 1 = some (.int 2) := rfl
  have g2_z : am_get (lv_args 0 [.ref 0, .int 2, .int y, .int z, .int u]) 2 = some (.int y) := rfl
  have g3_z : am_get (lv_args 0 [.ref 0, .int 2, .int y, .int z, .int u]) 3 = some (.int z) := rfl
  have g4_z : am_get (lv_args 0 [.ref 0, .int 2, .int y, .int z, .int u]) 4 = some (.int u) := rfl
  replace hc_z := rn_aload_n (am_cur_of (i := (0, 1, .aload_n 0, (0, 0, 0), 0)) (by decide +kernel)) g0_z hc_z
  replace hc_z := rn_iload_n (am_cur_of (i := (1, 1, .iload_n 1, (0, 0, 0), 0)) (by decide +kernel)) g1_z hc_z
  replace hc_z := rn_callV (M' := am_m70) (o := 0) (ar := [.int 2]) (rest := []) (L := lv_args 0 [.ref 0, .int 2]) (am_cur_of (i := (2, 3, .invokevirtual 135, (70, 943, 3), 0)) (by decide +kernel)) rfl rfl rfl rfl hc_z
  obtain ⟨r204_z, h205_z, q206_z, hc_z⟩ := hc_z
  rcases kc_70_2 D en q206_z with ⟨u207_z, rfl, y208_z⟩ | ⟨u207_z, rfl, y208_z⟩
  · replace y208_z := y208_z.symm
    subst y208_z
    replace hc_z : rn _ _ _ _ [.int 1] _ _ _ := hc_z
    replace hc_z := rn_ifF (am_cur_of (i := (5, 3, .ifCond .eq 24, (14, 0, 0), 0)) (by decide +kernel)) (by decide) hc_z
    replace hc_z := rn_iload_n (am_cur_of (i := (8, 1, .iload_n 2, (0, 0, 0), 0)) (by decide +kernel)) g2_z hc_z
    replace hc_z := rn_iconst (w := 1) (am_cur_of (i := (9, 1, .iconst 1, (0, 0, 0), 0)) (by decide +kernel)) (by decide) hc_z
    replace hc_z := rn_bipush (w := 20) (am_cur_of (i := (10, 2, .bipush 20, (0, 0, 0), 0)) (by decide +kernel)) (by decide) hc_z
    replace hc_z := rn_callS (M' := am_m62) (ar := [.int 20, .int 1, .int y]) (rest := []) (L := lv_args 0 [.int y, .int 1, .int 20]) (am_cur_of (i := (12, 3, .invokestatic 172, (62, 908, 3), 0)) (by decide +kernel)) rfl rfl rfl rfl hc_z
    obtain ⟨r209_z, h210_z, q211_z, hc_z⟩ := hc_z
    rcases kc_62 q211_z with ⟨b212_z, rfl, y213_z⟩ | ⟨b214_z, b215_z, rfl, y216_z⟩ | ⟨b217_z, b218_z, rfl, y219_z⟩
    · replace y213_z := y213_z.symm
      subst y213_z
      replace b212_z : y.toInt < (1 : Int32).toInt := b212_z
      replace hc_z : rn _ _ _ _ [.int 0] _ _ _ := hc_z
      replace hc_z := rn_ifT (am_cur_of (i := (15, 3, .ifCond .eq 14, (14, 0, 0), 0)) (by decide +kernel)) (by decide) hc_z
      replace hc_z := rn_iconst (w := (-1)) (am_cur_of (i := (29, 1, .iconst (-1), (0, 0, 0), 0)) (by decide +kernel)) (by decide) hc_z
      replace hc_z := rn_iret (am_cur_of (i := (30, 1, .ireturn, (0, 0, 0), 0)) (by decide +kernel)) hc_z
      obtain ⟨e220_z, e221_z⟩ := hc_z
      exact Or.inr ⟨by omega, e220_z, by rw [e221_z]; exact es_z⟩
    · replace y216_z := y216_z.symm
      subst y216_z
      replace b214_z : (1 : Int32).toInt ≤ y.toInt := b214_z
      replace b215_z : (20 : Int32).toInt < y.toInt := b215_z
      replace hc_z : rn _ _ _ _ [.int 0] _ _ _ := hc_z
      replace hc_z := rn_ifT (am_cur_of (i := (15, 3, .ifCond .eq 14, (14, 0, 0), 0)) (by decide +kernel)) (by decide) hc_z
      replace hc_z := rn_iconst (w := (-1)) (am_cur_of (i := (29, 1, .iconst (-1), (0, 0, 0), 0)) (by decide +kernel)) (by decide) hc_z
      replace hc_z := rn_iret (am_cur_of (i := (30, 1, .ireturn, (0, 0, 0), 0)) (by decide +kernel)) hc_z
      obtain ⟨e222_z, e223_z⟩ := hc_z
      exact Or.inr ⟨by omega, e222_z, by rw [e223_z]; exact es_z⟩
    · replace y219_z := y219_z.symm
      subst y219_z
      replace b217_z : (1 : Int32).toInt ≤ y.toInt := b217_z
      replace b218_z : y.toInt ≤ (20 : Int32).toInt := b218_z
      replace hc_z : rn _ _ _ _ [.int 1] _ _ _ := hc_z
      replace hc_z := rn_ifF (am_cur_of (i := (15, 3, .ifCond .eq 14, (14, 0, 0), 0)) (by decide +kernel)) (by decide) hc_z
      replace hc_z := rn_iload_n (am_cur_of (i := (18, 1, .iload_n 3, (0, 0, 0), 0)) (by decide +kernel)) g3_z hc_z
      replace hc_z := rn_iconst (w := 0) (am_cur_of (i := (19, 1, .iconst 0, (0, 0, 0), 0)) (by decide +kernel)) (by decide) hc_z
      replace hc_z := rn_sipush (w := 9999) (am_cur_of (i := (20, 3, .sipush 9999, (0, 0, 0), 0)) (by decide +kernel)) (by decide) hc_z
      replace hc_z := rn_callS (M' := am_m62) (ar := [.int 9999, .int 0, .int z]) (rest := []) (L := lv_args 0 [.int z, .int 0, .int 9999]) (am_cur_of (i := (23, 3, .invokestatic 172, (62, 908, 3), 0)) (by decide +kernel)) rfl rfl rfl rfl hc_z
      obtain ⟨r224_z, h225_z, q226_z, hc_z⟩ := hc_z
      rcases kc_62 q226_z with ⟨b227_z, rfl, y228_z⟩ | ⟨b229_z, b230_z, rfl, y231_z⟩ | ⟨b232_z, b233_z, rfl, y234_z⟩
      · replace y228_z := y228_z.symm
        subst y228_z
        replace b227_z : z.toInt < (0 : Int32).toInt := b227_z
        replace hc_z : rn _ _ _ _ [.int 0] _ _ _ := hc_z
        replace hc_z := rn_ifF (am_cur_of (i := (26, 3, .ifCond .ne 5, (16, 0, 0), 0)) (by decide +kernel)) (by decide) hc_z
        replace hc_z := rn_iconst (w := (-1)) (am_cur_of (i := (29, 1, .iconst (-1), (0, 0, 0), 0)) (by decide +kernel)) (by decide) hc_z
        replace hc_z := rn_iret (am_cur_of (i := (30, 1, .ireturn, (0, 0, 0), 0)) (by decide +kernel)) hc_z
        obtain ⟨e235_z, e236_z⟩ := hc_z
        exact Or.inr ⟨by omega, e235_z, by rw [e236_z]; exact es_z⟩
      · replace y231_z := y231_z.symm
        subst y231_z
        replace b229_z : (0 : Int32).toInt ≤ z.toInt := b229_z
        replace b230_z : (9999 : Int32).toInt < z.toInt := b230_z
        replace hc_z : rn _ _ _ _ [.int 0] _ _ _ := hc_z
        replace hc_z := rn_ifF (am_cur_of (i := (26, 3, .ifCond .ne 5, (16, 0, 0), 0)) (by decide +kernel)) (by decide) hc_z
        replace hc_z := rn_iconst (w := (-1)) (am_cur_of (i := (29, 1, .iconst (-1), (0, 0, 0), 0)) (by decide +kernel)) (by decide) hc_z
        replace hc_z := rn_iret (am_cur_of (i := (30, 1, .ireturn, (0, 0, 0), 0)) (by decide +kernel)) hc_z
        obtain ⟨e237_z, e238_z⟩ := hc_z
        exact Or.inr ⟨by omega, e237_z, by rw [e238_z]; exact es_z⟩
      · replace y234_z := y234_z.symm
        subst y234_z
        replace b232_z : (0 : Int32).toInt ≤ z.toInt := b232_z
        replace b233_z : z.toInt ≤ (9999 : Int32).toInt := b233_z
        replace hc_z : rn _ _ _ _ [.int 1] _ _ _ := hc_z
        replace hc_z := rn_ifT (am_cur_of (i := (26, 3, .ifCond .ne 5, (16, 0, 0), 0)) (by decide +kernel)) (by decide) hc_z
        replace hc_z := rn_iload_n (am_cur_of (i := (31, 1, .iload_n 2, (0, 0, 0), 0)) (by decide +kernel)) g2_z hc_z
        replace hc_z := rn_aload_n (am_cur_of (i := (32, 1, .aload_n 0, (0, 0, 0), 0)) (by decide +kernel)) g0_z hc_z
        replace hc_z := rn_getM (x := 2) (am_cur_of (i := (33, 3, .getfield 18, (0, 2, 663), 0)) (by decide +kernel)) D hc_z
        replace hc_z := rn_getR (x := 3) (am_cur_of (i := (36, 3, .getfield 189, (1, 3, 264), 0)) (by decide +kernel)) (by decide +kernel) hc_z
        replace hc_z := rn_iload_n (am_cur_of (i := (39, 1, .iload_n 1, (0, 0, 0), 0)) (by decide +kernel)) g1_z hc_z
        replace hc_z := rn_aaload (s := "AirBed$Blower") (N := 4) (q := 2) (am_cur_of (i := (40, 1, .aaload, (0, 0, 0), 0)) (by decide +kernel)) (by decide +kernel) rfl hc_z
        obtain ⟨p239_z, hc_z⟩ := hc_z
        rw [show rg_r h 3 2 = 21 from rp_bc2 (rn_G hc_z) (q := 2) (by decide)] at hc_z
        replace hc_z := rn_getI (v := rg_v h 21 3) (am_cur_of (i := (41, 3, .getfield 290, (3, 3, 212), 0)) (by decide +kernel)) (by decide +kernel) rfl hc_z
        replace hc_z := rn_cmp (am_cur_of (i := (44, 3, .if_icmp .le 5, (26, 0, 0), 0)) (by decide +kernel)) hc_z
        rcases hc_z with ⟨b240_z, hc_z⟩ | ⟨b240_z, hc_z⟩
        · replace b240_z : y.toInt ≤ (rg_v h 21 3).toInt := b240_z
          replace hc_z := rn_aload_n (am_cur_of (i := (49, 1, .aload_n 0, (0, 0, 0), 0)) (by decide +kernel)) g0_z hc_z
          replace hc_z := rn_getR (x := 142) (am_cur_of (i := (50, 3, .getfield 57, (0, 10, 671), 0)) (by decide +kernel)) (by decide +kernel) hc_z
          replace hc_z := rn_iload (am_cur_of (i := (53, 2, .iload 4, (0, 0, 0), 0)) (by decide +kernel)) g4_z hc_z
          replace hc_z := rn_if (am_cur_of (i := (55, 3, .ifCond .eq 7, (32, 0, 0), 0)) (by decide +kernel)) hc_z
          rcases hc_z with ⟨b241_z, hc_z⟩ | ⟨b241_z, hc_z⟩
          · replace b241_z : u = (0 : Int32) ∧ u.toInt = (0 : Int32).toInt := b241_z
            replace hc_z := rn_iconst (w := 0) (am_cur_of (i := (62, 1, .iconst 0, (0, 0, 0), 0)) (by decide +kernel)) (by decide) hc_z
            replace hc_z := rn_iload_n (am_cur_of (i := (63, 1, .iload_n 1, (0, 0, 0), 0)) (by decide +kernel)) g1_z hc_z
            replace hc_z := rn_iload_n (am_cur_of (i := (64, 1, .iload_n 2, (0, 0, 0), 0)) (by decide +kernel)) g2_z hc_z
            replace hc_z := rn_iload_n (am_cur_of (i := (65, 1, .iload_n 3, (0, 0, 0), 0)) (by decide +kernel)) g3_z hc_z
            replace hc_z := rn_callV (M' := am_m126) (o := 142) (ar := [.int z, .int y, .int 2, .int 0]) (rest := []) (L := lv_args 0 [.ref 142, .int 0, .int 2, .int y, .int z]) (am_cur_of (i := (66, 3, .invokevirtual 328, (126, 1189, 3), 0)) (by decide +kernel)) rfl rfl rfl rfl hc_z
            obtain ⟨r242_z, h243_z, q244_z, hc_z⟩ := hc_z
            rcases kc_126 es_z s0_z s4_z q244_z with ⟨lt, rfl, ez⟩ | ⟨lt, rfl, ez⟩
            · replace hc_z : rn _ _ _ _ [.int ((s + 1) - 1)] _ _ _ := hc_z
              replace hc_z := rn_iret (am_cur_of (i := (69, 1, .ireturn, (0, 0, 0), 0)) (by decide +kernel)) hc_z
              obtain ⟨e245_z, e246_z⟩ := hc_z
              exact Or.inl ⟨by omega, e245_z, by rw [e246_z]; exact ez⟩
            · replace hc_z : rn _ _ _ _ [.int (-1)] _ _ _ := hc_z
              replace hc_z := rn_iret (am_cur_of (i := (69, 1, .ireturn, (0, 0, 0), 0)) (by decide +kernel)) hc_z
              obtain ⟨e247_z, e248_z⟩ := hc_z
              exact Or.inr ⟨by omega, e247_z, by rw [e248_z]; exact ez⟩
          · replace b241_z : ¬ u = (0 : Int32) ∧ ¬ u.toInt = (0 : Int32).toInt := b241_z
            replace hc_z := rn_iconst (w := 1) (am_cur_of (i := (58, 1, .iconst 1, (0, 0, 0), 0)) (by decide +kernel)) (by decide) hc_z
            replace hc_z := rn_goto (am_cur_of (i := (59, 3, .goto 4, (33, 0, 0), 0)) (by decide +kernel)) hc_z
            replace hc_z := rn_iload_n (am_cur_of (i := (63, 1, .iload_n 1, (0, 0, 0), 0)) (by decide +kernel)) g1_z hc_z
            replace hc_z := rn_iload_n (am_cur_of (i := (64, 1, .iload_n 2, (0, 0, 0), 0)) (by decide +kernel)) g2_z hc_z
            replace hc_z := rn_iload_n (am_cur_of (i := (65, 1, .iload_n 3, (0, 0, 0), 0)) (by decide +kernel)) g3_z hc_z
            replace hc_z := rn_callV (M' := am_m126) (o := 142) (ar := [.int z, .int y, .int 2, .int 1]) (rest := []) (L := lv_args 0 [.ref 142, .int 1, .int 2, .int y, .int z]) (am_cur_of (i := (66, 3, .invokevirtual 328, (126, 1189, 3), 0)) (by decide +kernel)) rfl rfl rfl rfl hc_z
            obtain ⟨r249_z, h250_z, q251_z, hc_z⟩ := hc_z
            rcases kc_126 es_z s0_z s4_z q251_z with ⟨lt, rfl, ez⟩ | ⟨lt, rfl, ez⟩
            · replace hc_z : rn _ _ _ _ [.int ((s + 1) - 1)] _ _ _ := hc_z
              replace hc_z := rn_iret (am_cur_of (i := (69, 1, .ireturn, (0, 0, 0), 0)) (by decide +kernel)) hc_z
              obtain ⟨e252_z, e253_z⟩ := hc_z
              exact Or.inl ⟨by omega, e252_z, by rw [e253_z]; exact ez⟩
            · replace hc_z : rn _ _ _ _ [.int (-1)] _ _ _ := hc_z
              replace hc_z := rn_iret (am_cur_of (i := (69, 1, .ireturn, (0, 0, 0), 0)) (by decide +kernel)) hc_z
              obtain ⟨e254_z, e255_z⟩ := hc_z
              exact Or.inr ⟨by omega, e254_z, by rw [e255_z]; exact ez⟩
        · replace b240_z : (rg_v h 21 3).toInt < y.toInt := b240_z
          replace hc_z := rn_iconst (w := (-1)) (am_cur_of (i := (47, 1, .iconst (-1), (0, 0, 0), 0)) (by decide +kernel)) (by decide) hc_z
          replace hc_z := rn_iret (am_cur_of (i := (48, 1, .ireturn, (0, 0, 0), 0)) (by decide +kernel)) hc_z
          obtain ⟨e256_z, e257_z⟩ := hc_z
          exact Or.inr ⟨by omega, e256_z, by rw [e257_z]; exact es_z⟩
  · replace y208_z := y208_z.symm
    subst y208_z
    replace hc_z : rn _ _ _ _ [.int 0] _ _ _ := hc_z
    replace hc_z := rn_ifT (am_cur_of (i := (5, 3, .ifCond .eq 24, (14, 0, 0), 0)) (by decide +kernel)) (by decide) hc_z
    replace hc_z := rn_iconst (w := (-1)) (am_cur_of (i := (29, 1, .iconst (-1), (0, 0, 0), 0)) (by decide +kernel)) (by decide) hc_z
    replace hc_z := rn_iret (am_cur_of (i := (30, 1, .ireturn, (0, 0, 0), 0)) (by decide +kernel)) hc_z
    obtain ⟨e258_z, e259_z⟩ := hc_z
    exact Or.inr ⟨by omega, e258_z, by rw [e259_z]; exact es_z⟩
theorem kc_125_2_3 {n : Nat} {h h' : am_H} {r : Option Value} {nb s u y z : Int32} (es_z : rg_v h 142 0 = s) (s0_z : 0 ≤ s.toInt) (s4_z : s.toInt ≤ 24) (D : h 0 2 = .ref 2) (en : rg_v h 2 2 = nb) (hc_z : rn n am_m125 0 (lv_args 0 [.ref 0, .int 3, .int y, .int z, .int u]) [] h r h') : (((3 : Int) < nb.toInt ∧ 1 ≤ y.toInt ∧ y.toInt ≤ 20 ∧ 0 ≤ z.toInt ∧ z.toInt ≤ 9999 ∧ y.toInt ≤ (rg_v h 22 3).toInt ∧ s.toInt < 24) ∧ r = some (.int ((s + 1) - 1)) ∧ rg_v h' 142 0 = s + 1) ∨ (¬ ((3 : Int) < nb.toInt ∧ 1 ≤ y.toInt ∧ y.toInt ≤ 20 ∧ 0 ≤ z.toInt ∧ z.toInt ≤ 9999 ∧ y.toInt ≤ (rg_v h 22 3).toInt ∧ s.toInt < 24) ∧ r = some (.int (-1)) ∧ rg_v h' 142 0 = s) := by
  have zm1_z : ((-1) : Int32).toInt = (-1) := by decide
  have z0_z : (0 : Int32).toInt = 0 := by decide
  have z1_z : (1 : Int32).toInt = 1 := by decide
  have z2_z : (2 : Int32).toInt = 2 := by decide
  have z3_z : (3 : Int32).toInt = 3 := by decide
  have z20_z : (20 : Int32).toInt = 20 := by decide
  have z24_z : (24 : Int32).toInt = 24 := by decide
  have z9999_z : (9999 : Int32).toInt = 9999 := by decide
  have g0_z : am_get (lv_args 0 [.ref 0, .int 3, .int y, .int z, .int u]) 0 = some (.ref 0) := rfl
  have g1_z : am_get (lv_args 0 [.ref 0, .int 3, .int y, .int z, .int u]) 1 = some (.int 3) := rfl
  have g2_z : am_get (lv_args 0 [.ref 0, .int 3, .int y, .int z, .int u]) 2 = some (.int y) := rfl
  have g3_z : am_get (lv_args 0 [.ref 0, .int 3, .int y, .int z, .int u]) 3 = some (.int z) := rfl
  have g4_z : am_get (lv_args 0 [.ref 0, .int 3, .int y, .int z, .int u]) 4 = some (.int u) := rfl
  replace hc_z := rn_aload_n (am_cur_of (i := (0, 1, .aload_n 0, (0, 0, 0), 0)) (by decide +kernel)) g0_z hc_z
  replace hc_z := rn_iload_n (am_cur_of (i := (1, 1, .iload_n 1, (0, 0, 0), 0)) (by decide +kernel)) g1_z hc_z
  replace hc_z := rn_callV (M' := am_m70) (o := 0) (ar := [.int 3]) (rest := []) (L := lv_args 0 [.ref 0, .int 3]) (am_cur_of (i := (2, 3, .invokevirtual 135, (70, 943, 3), 0)) (by decide +kernel)) rfl rfl rfl rfl hc_z
  obtain ⟨r260_z, h261_z, q262_z, hc_z⟩ := hc_z
  rcases kc_70_2 D en q262_z with ⟨u263_z, rfl, y264_z⟩ | ⟨u263_z, rfl, y264_z⟩
  · replace y264_z := y264_z.symm
    subst y264_z
    replace hc_z : rn _ _ _ _ [.int 1] _ _ _ := hc_z
    replace hc_z := rn_ifF (am_cur_of (i := (5, 3, .ifCond .eq 24, (14, 0, 0), 0)) (by decide +kernel)) (by decide) hc_z
    replace hc_z := rn_iload_n (am_cur_of (i := (8, 1, .iload_n 2, (0, 0, 0), 0)) (by decide +kernel)) g2_z hc_z
    replace hc_z := rn_iconst (w := 1) (am_cur_of (i := (9, 1, .iconst 1, (0, 0, 0), 0)) (by decide +kernel)) (by decide) hc_z
    replace hc_z := rn_bipush (w := 20) (am_cur_of (i := (10, 2, .bipush 20, (0, 0, 0), 0)) (by decide +kernel)) (by decide) hc_z
    replace hc_z := rn_callS (M' := am_m62) (ar := [.int 20, .int 1, .int y]) (rest := []) (L := lv_args 0 [.int y, .int 1, .int 20]) (am_cur_of (i := (12, 3, .invokestatic 172, (62, 908, 3), 0)) (by decide +kernel)) rfl rfl rfl rfl hc_z
    obtain ⟨r265_z, h266_z, q267_z, hc_z⟩ := hc_z
    rcases kc_62 q267_z with ⟨b268_z, rfl, y269_z⟩ | ⟨b270_z, b271_z, rfl, y272_z⟩ | ⟨b273_z, b274_z, rfl, y275_z⟩
    · replace y269_z := y269_z.symm
      subst y269_z
      replace b268_z : y.toInt < (1 : Int32).toInt := b268_z
      replace hc_z : rn _ _ _ _ [.int 0] _ _ _ := hc_z
      replace hc_z := rn_ifT (am_cur_of (i := (15, 3, .ifCond .eq 14, (14, 0, 0), 0)) (by decide +kernel)) (by decide) hc_z
      replace hc_z := rn_iconst (w := (-1)) (am_cur_of (i := (29, 1, .iconst (-1), (0, 0, 0), 0)) (by decide +kernel)) (by decide) hc_z
      replace hc_z := rn_iret (am_cur_of (i := (30, 1, .ireturn, (0, 0, 0), 0)) (by decide +kernel)) hc_z
      obtain ⟨e276_z, e277_z⟩ := hc_z
      exact Or.inr ⟨by omega, e276_z, by rw [e277_z]; exact es_z⟩
    · replace y272_z := y272_z.symm
      subst y272_z
      replace b270_z : (1 : Int32).toInt ≤ y.toInt := b270_z
      replace b271_z : (20 : Int32).toInt < y.toInt := b271_z
      replace hc_z : rn _ _ _ _ [.int 0] _ _ _ := hc_z
      replace hc_z := rn_ifT (am_cur_of (i := (15, 3, .ifCond .eq 14, (14, 0, 0), 0)) (by decide +kernel)) (by decide) hc_z
      replace hc_z := rn_iconst (w := (-1)) (am_cur_of (i := (29, 1, .iconst (-1), (0, 0, 0), 0)) (by decide +kernel)) (by decide) hc_z
      replace hc_z := rn_iret (am_cur_of (i := (30, 1, .ireturn, (0, 0, 0), 0)) (by decide +kernel)) hc_z
      obtain ⟨e278_z, e279_z⟩ := hc_z
      exact Or.inr ⟨by omega, e278_z, by rw [e279_z]; exact es_z⟩
    · replace y275_z := y275_z.symm
      subst y275_z
      replace b273_z : (1 : Int32).toInt ≤ y.toInt := b273_z
      replace b274_z : y.toInt ≤ (20 : Int32).toInt := b274_z
      replace hc_z : rn _ _ _ _ [.int 1] _ _ _ := hc_z
      replace hc_z := rn_ifF (am_cur_of (i := (15, 3, .ifCond .eq 14, (14, 0, 0), 0)) (by decide +kernel)) (by decide) hc_z
      replace hc_z := rn_iload_n (am_cur_of (i := (18, 1, .iload_n 3, (0, 0, 0), 0)) (by decide +kernel)) g3_z hc_z
      replace hc_z := rn_iconst (w := 0) (am_cur_of (i := (19, 1, .iconst 0, (0, 0, 0), 0)) (by decide +kernel)) (by decide) hc_z
      replace hc_z := rn_sipush (w := 9999) (am_cur_of (i := (20, 3, .sipush 9999, (0, 0, 0), 0)) (by decide +kernel)) (by decide) hc_z
      replace hc_z := rn_callS (M' := am_m62) (ar := [.int 9999, .int 0, .int z]) (rest := []) (L := lv_args 0 [.int z, .int 0, .int 9999]) (am_cur_of (i := (23, 3, .invokestatic 172, (62, 908, 3), 0)) (by decide +kernel)) rfl rfl rfl rfl hc_z
      obtain ⟨r280_z, h281_z, q282_z, hc_z⟩ := hc_z
      rcases kc_62 q282_z with ⟨b283_z, rfl, y284_z⟩ | ⟨b285_z, b286_z, rfl, y287_z⟩ | ⟨b288_z, b289_z, rfl, y290_z⟩
      · replace y284_z := y284_z.symm
        subst y284_z
        replace b283_z : z.toInt < (0 : Int32).toInt := b283_z
        replace hc_z : rn _ _ _ _ [.int 0] _ _ _ := hc_z
        replace hc_z := rn_ifF (am_cur_of (i := (26, 3, .ifCond .ne 5, (16, 0, 0), 0)) (by decide +kernel)) (by decide) hc_z
        replace hc_z := rn_iconst (w := (-1)) (am_cur_of (i := (29, 1, .iconst (-1), (0, 0, 0), 0)) (by decide +kernel)) (by decide) hc_z
        replace hc_z := rn_iret (am_cur_of (i := (30, 1, .ireturn, (0, 0, 0), 0)) (by decide +kernel)) hc_z
        obtain ⟨e291_z, e292_z⟩ := hc_z
        exact Or.inr ⟨by omega, e291_z, by rw [e292_z]; exact es_z⟩
      · replace y287_z := y287_z.symm
        subst y287_z
        replace b285_z : (0 : Int32).toInt ≤ z.toInt := b285_z
        replace b286_z : (9999 : Int32).toInt < z.toInt := b286_z
        replace hc_z : rn _ _ _ _ [.int 0] _ _ _ := hc_z
        replace hc_z := rn_ifF (am_cur_of (i := (26, 3, .ifCond .ne 5, (16, 0, 0), 0)) (by decide +kernel)) (by decide) hc_z
        replace hc_z := rn_iconst (w := (-1)) (am_cur_of (i := (29, 1, .iconst (-1), (0, 0, 0), 0)) (by decide +kernel)) (by decide) hc_z
        replace hc_z := rn_iret (am_cur_of (i := (30, 1, .ireturn, (0, 0, 0), 0)) (by decide +kernel)) hc_z
        obtain ⟨e293_z, e294_z⟩ := hc_z
        exact Or.inr ⟨by omega, e293_z, by rw [e294_z]; exact es_z⟩
      · replace y290_z := y290_z.symm
        subst y290_z
        replace b288_z : (0 : Int32).toInt ≤ z.toInt := b288_z
        replace b289_z : z.toInt ≤ (9999 : Int32).toInt := b289_z
        replace hc_z : rn _ _ _ _ [.int 1] _ _ _ := hc_z
        replace hc_z := rn_ifT (am_cur_of (i := (26, 3, .ifCond .ne 5, (16, 0, 0), 0)) (by decide +kernel)) (by decide) hc_z
        replace hc_z := rn_iload_n (am_cur_of (i := (31, 1, .iload_n 2, (0, 0, 0), 0)) (by decide +kernel)) g2_z hc_z
        replace hc_z := rn_aload_n (am_cur_of (i := (32, 1, .aload_n 0, (0, 0, 0), 0)) (by decide +kernel)) g0_z hc_z
        replace hc_z := rn_getM (x := 2) (am_cur_of (i := (33, 3, .getfield 18, (0, 2, 663), 0)) (by decide +kernel)) D hc_z
        replace hc_z := rn_getR (x := 3) (am_cur_of (i := (36, 3, .getfield 189, (1, 3, 264), 0)) (by decide +kernel)) (by decide +kernel) hc_z
        replace hc_z := rn_iload_n (am_cur_of (i := (39, 1, .iload_n 1, (0, 0, 0), 0)) (by decide +kernel)) g1_z hc_z
        replace hc_z := rn_aaload (s := "AirBed$Blower") (N := 4) (q := 3) (am_cur_of (i := (40, 1, .aaload, (0, 0, 0), 0)) (by decide +kernel)) (by decide +kernel) rfl hc_z
        obtain ⟨p295_z, hc_z⟩ := hc_z
        rw [show rg_r h 3 3 = 22 from rp_bc2 (rn_G hc_z) (q := 3) (by decide)] at hc_z
        replace hc_z := rn_getI (v := rg_v h 22 3) (am_cur_of (i := (41, 3, .getfield 290, (3, 3, 212), 0)) (by decide +kernel)) (by decide +kernel) rfl hc_z
        replace hc_z := rn_cmp (am_cur_of (i := (44, 3, .if_icmp .le 5, (26, 0, 0), 0)) (by decide +kernel)) hc_z
        rcases hc_z with ⟨b296_z, hc_z⟩ | ⟨b296_z, hc_z⟩
        · replace b296_z : y.toInt ≤ (rg_v h 22 3).toInt := b296_z
          replace hc_z := rn_aload_n (am_cur_of (i := (49, 1, .aload_n 0, (0, 0, 0), 0)) (by decide +kernel)) g0_z hc_z
          replace hc_z := rn_getR (x := 142) (am_cur_of (i := (50, 3, .getfield 57, (0, 10, 671), 0)) (by decide +kernel)) (by decide +kernel) hc_z
          replace hc_z := rn_iload (am_cur_of (i := (53, 2, .iload 4, (0, 0, 0), 0)) (by decide +kernel)) g4_z hc_z
          replace hc_z := rn_if (am_cur_of (i := (55, 3, .ifCond .eq 7, (32, 0, 0), 0)) (by decide +kernel)) hc_z
          rcases hc_z with ⟨b297_z, hc_z⟩ | ⟨b297_z, hc_z⟩
          · replace b297_z : u = (0 : Int32) ∧ u.toInt = (0 : Int32).toInt := b297_z
            replace hc_z := rn_iconst (w := 0) (am_cur_of (i := (62, 1, .iconst 0, (0, 0, 0), 0)) (by decide +kernel)) (by decide) hc_z
            replace hc_z := rn_iload_n (am_cur_of (i := (63, 1, .iload_n 1, (0, 0, 0), 0)) (by decide +kernel)) g1_z hc_z
            replace hc_z := rn_iload_n (am_cur_of (i := (64, 1, .iload_n 2, (0, 0, 0), 0)) (by decide +kernel)) g2_z hc_z
            replace hc_z := rn_iload_n (am_cur_of (i := (65, 1, .iload_n 3, (0, 0, 0), 0)) (by decide +kernel)) g3_z hc_z
            replace hc_z := rn_callV (M' := am_m126) (o := 142) (ar := [.int z, .int y, .int 3, .int 0]) (rest := []) (L := lv_args 0 [.ref 142, .int 0, .int 3, .int y, .int z]) (am_cur_of (i := (66, 3, .invokevirtual 328, (126, 1189, 3), 0)) (by decide +kernel)) rfl rfl rfl rfl hc_z
            obtain ⟨r298_z, h299_z, q300_z, hc_z⟩ := hc_z
            rcases kc_126 es_z s0_z s4_z q300_z with ⟨lt, rfl, ez⟩ | ⟨lt, rfl, ez⟩
            · replace hc_z : rn _ _ _ _ [.int ((s + 1) - 1)] _ _ _ := hc_z
              replace hc_z := rn_iret (am_cur_of (i := (69, 1, .ireturn, (0, 0, 0), 0)) (by decide +kernel)) hc_z
              obtain ⟨e301_z, e302_z⟩ := hc_z
              exact Or.inl ⟨by omega, e301_z, by rw [e302_z]; exact ez⟩
            · replace hc_z : rn _ _ _ _ [.int (-1)] _ _ _ := hc_z
              replace hc_z := rn_iret (am_cur_of (i := (69, 1, .ireturn, (0, 0, 0), 0)) (by decide +kernel)) hc_z
              obtain ⟨e303_z, e304_z⟩ := hc_z
              exact Or.inr ⟨by omega, e303_z, by rw [e304_z]; exact ez⟩
          · replace b297_z : ¬ u = (0 : Int32) ∧ ¬ u.toInt = (0 : Int32).toInt := b297_z
            replace hc_z := rn_iconst (w := 1) (am_cur_of (i := (58, 1, .iconst 1, (0, 0, 0), 0)) (by decide +kernel)) (by decide) hc_z
            replace hc_z := rn_goto (am_cur_of (i := (59, 3, .goto 4, (33, 0, 0), 0)) (by decide +kernel)) hc_z
            replace hc_z := rn_iload_n (am_cur_of (i := (63, 1, .iload_n 1, (0, 0, 0), 0)) (by decide +kernel)) g1_z hc_z
            replace hc_z := rn_iload_n (am_cur_of (i := (64, 1, .iload_n 2, (0, 0, 0), 0)) (by decide +kernel)) g2_z hc_z
            replace hc_z := rn_iload_n (am_cur_of (i := (65, 1, .iload_n 3, (0, 0, 0), 0)) (by decide +kernel)) g3_z hc_z
            replace hc_z := rn_callV (M' := am_m126) (o := 142) (ar := [.int z, .int y, .int 3, .int 1]) (rest := []) (L := lv_args 0 [.ref 142, .int 1, .int 3, .int y, .int z]) (am_cur_of (i := (66, 3, .invokevirtual 328, (126, 1189, 3), 0)) (by decide +kernel)) rfl rfl rfl rfl hc_z
            obtain ⟨r305_z, h306_z, q307_z, hc_z⟩ := hc_z
            rcases kc_126 es_z s0_z s4_z q307_z with ⟨lt, rfl, ez⟩ | ⟨lt, rfl, ez⟩
            · replace hc_z : rn _ _ _ _ [.int ((s + 1) - 1)] _ _ _ := hc_z
              replace hc_z := rn_iret (am_cur_of (i := (69, 1, .ireturn, (0, 0, 0), 0)) (by decide +kernel)) hc_z
              obtain ⟨e308_z, e309_z⟩ := hc_z
              exact Or.inl ⟨by omega, e308_z, by rw [e309_z]; exact ez⟩
            · replace hc_z : rn _ _ _ _ [.int (-1)] _ _ _ := hc_z
              replace hc_z := rn_iret (am_cur_of (i := (69, 1, .ireturn, (0, 0, 0), 0)) (by decide +kernel)) hc_z
              obtain ⟨e310_z, e311_z⟩ := hc_z
              exact Or.inr ⟨by omega, e310_z, by rw [e311_z]; exact ez⟩
        · replace b296_z : (rg_v h 22 3).toInt < y.toInt := b296_z
          replace hc_z := rn_iconst (w := (-1)) (am_cur_of (i := (47, 1, .iconst (-1), (0, 0, 0), 0)) (by decide +kernel)) (by decide) hc_z
          replace hc_z := rn_iret (am_cur_of (i := (48, 1, .ireturn, (0, 0, 0), 0)) (by decide +kernel)) hc_z
          obtain ⟨e312_z, e313_z⟩ := hc_z
          exact Or.inr ⟨by omega, e312_z, by rw [e313_z]; exact es_z⟩
  · replace y264_z := y264_z.symm
    subst y264_z
    replace hc_z : rn _ _ _ _ [.int 0] _ _ _ := hc_z
    replace hc_z := rn_ifT (am_cur_of (i := (5, 3, .ifCond .eq 24, (14, 0, 0), 0)) (by decide +kernel)) (by decide) hc_z
    replace hc_z := rn_iconst (w := (-1)) (am_cur_of (i := (29, 1, .iconst (-1), (0, 0, 0), 0)) (by decide +kernel)) (by decide) hc_z
    replace hc_z := rn_iret (am_cur_of (i := (30, 1, .ireturn, (0, 0, 0), 0)) (by decide +kernel)) hc_z
    obtain ⟨e314_z, e315_z⟩ := hc_z
    exact Or.inr ⟨by omega, e314_z, by rw [e315_z]; exact es_z⟩
theorem kc_125_2_n {n : Nat} {h h' : am_H} {r : Option Value} {nb u x y z : Int32} (D : h 0 2 = .ref 2) (en : rg_v h 2 2 = nb) (hn_z : ¬ (0 ≤ x.toInt ∧ x.toInt < nb.toInt)) (hc_z : rn n am_m125 0 (lv_args 0 [.ref 0, .int x, .int y, .int z, .int u]) [] h r h') : r = some (.int (-1)) ∧ h' = h := by
  have zm1_z : ((-1) : Int32).toInt = (-1) := by decide
  have z0_z : (0 : Int32).toInt = 0 := by decide
  have z1_z : (1 : Int32).toInt = 1 := by decide
  have z2_z : (2 : Int32).toInt = 2 := by decide
  have z3_z : (3 : Int32).toInt = 3 := by decide
  have z20_z : (20 : Int32).toInt = 20 := by decide
  have z24_z : (24 : Int32).toInt = 24 := by decide
  have z9999_z : (9999 : Int32).toInt = 9999 := by decide
  have g0_z : am_get (lv_args 0 [.ref 0, .int x, .int y, .int z, .int u]) 0 = some (.ref 0) := rfl
  have g1_z : am_get (lv_args 0 [.ref 0, .int x, .int y, .int z, .int u]) 1 = some (.int x) := rfl
  have g2_z : am_get (lv_args 0 [.ref 0, .int x, .int y, .int z, .int u]) 2 = some (.int y) := rfl
  have g3_z : am_get (lv_args 0 [.ref 0, .int x, .int y, .int z, .int u]) 3 = some (.int z) := rfl
  have g4_z : am_get (lv_args 0 [.ref 0, .int x, .int y, .int z, .int u]) 4 = some (.int u) := rfl
  replace hc_z := rn_aload_n (am_cur_of (i := (0, 1, .aload_n 0, (0, 0, 0), 0)) (by decide +kernel)) g0_z hc_z
  replace hc_z := rn_iload_n (am_cur_of (i := (1, 1, .iload_n 1, (0, 0, 0), 0)) (by decide +kernel)) g1_z hc_z
  replace hc_z := rn_callV (M' := am_m70) (o := 0) (ar := [.int x]) (rest := []) (L := lv_args 0 [.ref 0, .int x]) (am_cur_of (i := (2, 3, .invokevirtual 135, (70, 943, 3), 0)) (by decide +kernel)) rfl rfl rfl rfl hc_z
  obtain ⟨r316_z, h317_z, q318_z, hc_z⟩ := hc_z
  rcases kc_70_2 D en q318_z with ⟨u319_z, rfl, y320_z⟩ | ⟨u319_z, rfl, y320_z⟩
  · exact absurd u319_z hn_z
  · replace y320_z := y320_z.symm
    subst y320_z
    replace hc_z : rn _ _ _ _ [.int 0] _ _ _ := hc_z
    replace hc_z := rn_ifT (am_cur_of (i := (5, 3, .ifCond .eq 24, (14, 0, 0), 0)) (by decide +kernel)) (by decide) hc_z
    replace hc_z := rn_iconst (w := (-1)) (am_cur_of (i := (29, 1, .iconst (-1), (0, 0, 0), 0)) (by decide +kernel)) (by decide) hc_z
    replace hc_z := rn_iret (am_cur_of (i := (30, 1, .ireturn, (0, 0, 0), 0)) (by decide +kernel)) hc_z
    obtain ⟨e321_z, e322_z⟩ := hc_z
    exact ⟨e321_z, e322_z⟩
theorem kc_70_23 {n : Nat} {h h' : am_H} {r : Option Value} {nb x : Int32} (D : h 0 2 = .ref 23) (en : rg_v h 23 2 = nb) (hc_z : rn n am_m70 0 (lv_args 0 [.ref 0, .int x]) [] h r h') : ((0 ≤ x.toInt ∧ x.toInt < nb.toInt) ∧ r = some (.int 1) ∧ h' = h) ∨ (¬ (0 ≤ x.toInt ∧ x.toInt < nb.toInt) ∧ r = some (.int 0) ∧ h' = h) := by
  have zm1_z : ((-1) : Int32).toInt = (-1) := by decide
  have z0_z : (0 : Int32).toInt = 0 := by decide
  have z1_z : (1 : Int32).toInt = 1 := by decide
  have z2_z : (2 : Int32).toInt = 2 := by decide
  have z3_z : (3 : Int32).toInt = 3 := by decide
  have z20_z : (20 : Int32).toInt = 20 := by decide
  have z24_z : (24 : Int32).toInt = 24 := by decide
  have z9999_z : (9999 : Int32).toInt = 9999 := by decide
  have g0_z : am_get (lv_args 0 [.ref 0, .int x]) 0 = some (.ref 0) := rfl
  have g1_z : am_get (lv_args 0 [.ref 0, .int x]) 1 = some (.int x) := rfl
  replace hc_z := rn_iload_n (am_cur_of (i := (0, 1, .iload_n 1, (0, 0, 0), 0)) (by decide +kernel)) g1_z hc_z
  replace hc_z := rn_if (am_cur_of (i := (1, 3, .ifCond .lt 18, (9, 0, 0), 0)) (by decide +kernel)) hc_z
  rcases hc_z with ⟨b323_z, hc_z⟩ | ⟨b323_z, hc_z⟩
  · replace b323_z : x.toInt < (0 : Int32).toInt := b323_z
    replace hc_z := rn_iconst (w := 0) (am_cur_of (i := (19, 1, .iconst 0, (0, 0, 0), 0)) (by decide +kernel)) (by decide) hc_z
    replace hc_z := rn_iret (am_cur_of (i := (20, 1, .ireturn, (0, 0, 0), 0)) (by decide +kernel)) hc_z
    obtain ⟨e324_z, e325_z⟩ := hc_z
    exact Or.inr ⟨by omega, e324_z, e325_z⟩
  · replace b323_z : (0 : Int32).toInt ≤ x.toInt := b323_z
    replace hc_z := rn_iload_n (am_cur_of (i := (4, 1, .iload_n 1, (0, 0, 0), 0)) (by decide +kernel)) g1_z hc_z
    replace hc_z := rn_aload_n (am_cur_of (i := (5, 1, .aload_n 0, (0, 0, 0), 0)) (by decide +kernel)) g0_z hc_z
    replace hc_z := rn_getM (x := 23) (am_cur_of (i := (6, 3, .getfield 18, (0, 2, 663), 0)) (by decide +kernel)) D hc_z
    replace hc_z := rn_getI (v := nb) (am_cur_of (i := (9, 3, .getfield 169, (1, 2, 258), 0)) (by decide +kernel)) (by decide +kernel) en hc_z
    replace hc_z := rn_cmp (am_cur_of (i := (12, 3, .if_icmp .ge 7, (9, 0, 0), 0)) (by decide +kernel)) hc_z
    rcases hc_z with ⟨b326_z, hc_z⟩ | ⟨b326_z, hc_z⟩
    · replace b326_z : nb.toInt ≤ x.toInt := b326_z
      replace hc_z := rn_iconst (w := 0) (am_cur_of (i := (19, 1, .iconst 0, (0, 0, 0), 0)) (by decide +kernel)) (by decide) hc_z
      replace hc_z := rn_iret (am_cur_of (i := (20, 1, .ireturn, (0, 0, 0), 0)) (by decide +kernel)) hc_z
      obtain ⟨e327_z, e328_z⟩ := hc_z
      exact Or.inr ⟨by omega, e327_z, e328_z⟩
    · replace b326_z : x.toInt < nb.toInt := b326_z
      replace hc_z := rn_iconst (w := 1) (am_cur_of (i := (15, 1, .iconst 1, (0, 0, 0), 0)) (by decide +kernel)) (by decide) hc_z
      replace hc_z := rn_goto (am_cur_of (i := (16, 3, .goto 4, (10, 0, 0), 0)) (by decide +kernel)) hc_z
      replace hc_z := rn_iret (am_cur_of (i := (20, 1, .ireturn, (0, 0, 0), 0)) (by decide +kernel)) hc_z
      obtain ⟨e329_z, e330_z⟩ := hc_z
      exact Or.inl ⟨by omega, e329_z, e330_z⟩
theorem kc_125_23_0 {n : Nat} {h h' : am_H} {r : Option Value} {nb s u y z : Int32} (es_z : rg_v h 142 0 = s) (s0_z : 0 ≤ s.toInt) (s4_z : s.toInt ≤ 24) (D : h 0 2 = .ref 23) (en : rg_v h 23 2 = nb) (hc_z : rn n am_m125 0 (lv_args 0 [.ref 0, .int 0, .int y, .int z, .int u]) [] h r h') : (((0 : Int) < nb.toInt ∧ 1 ≤ y.toInt ∧ y.toInt ≤ 20 ∧ 0 ≤ z.toInt ∧ z.toInt ≤ 9999 ∧ y.toInt ≤ (rg_v h 40 3).toInt ∧ s.toInt < 24) ∧ r = some (.int ((s + 1) - 1)) ∧ rg_v h' 142 0 = s + 1) ∨ (¬ ((0 : Int) < nb.toInt ∧ 1 ≤ y.toInt ∧ y.toInt ≤ 20 ∧ 0 ≤ z.toInt ∧ z.toInt ≤ 9999 ∧ y.toInt ≤ (rg_v h 40 3).toInt ∧ s.toInt < 24) ∧ r = some (.int (-1)) ∧ rg_v h' 142 0 = s) := by
  have zm1_z : ((-1) : Int32).toInt = (-1) := by decide
  have z0_z : (0 : Int32).toInt = 0 := by decide
  have z1_z : (1 : Int32).toInt = 1 := by decide
  have z2_z : (2 : Int32).toInt = 2 := by decide
  have z3_z : (3 : Int32).toInt = 3 := by decide
  have z20_z : (20 : Int32).toInt = 20 := by decide
  have z24_z : (24 : Int32).toInt = 24 := by decide
  have z9999_z : (9999 : Int32).toInt = 9999 := by decide
  have g0_z : am_get (lv_args 0 [.ref 0, .int 0, .int y, .int z, .int u]) 0 = some (.ref 0) := rfl
  have g1_z : am_get (lv_args 0 [.ref 0, .int 0, .int y, .int z, .int u]) 1 = some (.int 0) := rfl
  have g2_z : am_get (lv_args 0 [.ref 0, .int 0, .int y, .int z, .int u]) 2 = some (.int y) := rfl
  have g3_z : am_get (lv_args 0 [.ref 0, .int 0, .int y, .int z, .int u]) 3 = some (.int z) := rfl
  have g4_z : am_get (lv_args 0 [.ref 0, .int 0, .int y, .int z, .int u]) 4 = some (.int u) := rfl
  replace hc_z := rn_aload_n (am_cur_of (i := (0, 1, .aload_n 0, (0, 0, 0), 0)) (by decide +kernel)) g0_z hc_z
  replace hc_z := rn_iload_n (am_cur_of (i := (1, 1, .iload_n 1, (0, 0, 0), 0)) (by decide +kernel)) g1_z hc_z
  replace hc_z := rn_callV (M' := am_m70) (o := 0) (ar := [.int 0]) (rest := []) (L := lv_args 0 [.ref 0, .int 0]) (am_cur_of (i := (2, 3, .invokevirtual 135, (70, 943, 3), 0)) (by decide +kernel)) rfl rfl rfl rfl hc_z
  obtain ⟨r331_z, h332_z, q333_z, hc_z⟩ := hc_z
  rcases kc_70_23 D en q333_z with ⟨u334_z, rfl, y335_z⟩ | ⟨u334_z, rfl, y335_z⟩
  · replace y335_z := y335_z.symm
    subst y335_z
    replace hc_z : rn _ _ _ _ [.int 1] _ _ _ := hc_z
    replace hc_z := rn_ifF (am_cur_of (i := (5, 3, .ifCond .eq 24, (14, 0, 0), 0)) (by decide +kernel)) (by decide) hc_z
    replace hc_z := rn_iload_n (am_cur_of (i := (8, 1, .iload_n 2, (0, 0, 0), 0)) (by decide +kernel)) g2_z hc_z
    replace hc_z := rn_iconst (w := 1) (am_cur_of (i := (9, 1, .iconst 1, (0, 0, 0), 0)) (by decide +kernel)) (by decide) hc_z
    replace hc_z := rn_bipush (w := 20) (am_cur_of (i := (10, 2, .bipush 20, (0, 0, 0), 0)) (by decide +kernel)) (by decide) hc_z
    replace hc_z := rn_callS (M' := am_m62) (ar := [.int 20, .int 1, .int y]) (rest := []) (L := lv_args 0 [.int y, .int 1, .int 20]) (am_cur_of (i := (12, 3, .invokestatic 172, (62, 908, 3), 0)) (by decide +kernel)) rfl rfl rfl rfl hc_z
    obtain ⟨r336_z, h337_z, q338_z, hc_z⟩ := hc_z
    rcases kc_62 q338_z with ⟨b339_z, rfl, y340_z⟩ | ⟨b341_z, b342_z, rfl, y343_z⟩ | ⟨b344_z, b345_z, rfl, y346_z⟩
    · replace y340_z := y340_z.symm
      subst y340_z
      replace b339_z : y.toInt < (1 : Int32).toInt := b339_z
      replace hc_z : rn _ _ _ _ [.int 0] _ _ _ := hc_z
      replace hc_z := rn_ifT (am_cur_of (i := (15, 3, .ifCond .eq 14, (14, 0, 0), 0)) (by decide +kernel)) (by decide) hc_z
      replace hc_z := rn_iconst (w := (-1)) (am_cur_of (i := (29, 1, .iconst (-1), (0, 0, 0), 0)) (by decide +kernel)) (by decide) hc_z
      replace hc_z := rn_iret (am_cur_of (i := (30, 1, .ireturn, (0, 0, 0), 0)) (by decide +kernel)) hc_z
      obtain ⟨e347_z, e348_z⟩ := hc_z
      exact Or.inr ⟨by omega, e347_z, by rw [e348_z]; exact es_z⟩
    · replace y343_z := y343_z.symm
      subst y343_z
      replace b341_z : (1 : Int32).toInt ≤ y.toInt := b341_z
      replace b342_z : (20 : Int32).toInt < y.toInt := b342_z
      replace hc_z : rn _ _ _ _ [.int 0] _ _ _ := hc_z
      replace hc_z := rn_ifT (am_cur_of (i := (15, 3, .ifCond .eq 14, (14, 0, 0), 0)) (by decide +kernel)) (by decide) hc_z
      replace hc_z := rn_iconst (w := (-1)) (am_cur_of (i := (29, 1, .iconst (-1), (0, 0, 0), 0)) (by decide +kernel)) (by decide) hc_z
      replace hc_z := rn_iret (am_cur_of (i := (30, 1, .ireturn, (0, 0, 0), 0)) (by decide +kernel)) hc_z
      obtain ⟨e349_z, e350_z⟩ := hc_z
      exact Or.inr ⟨by omega, e349_z, by rw [e350_z]; exact es_z⟩
    · replace y346_z := y346_z.symm
      subst y346_z
      replace b344_z : (1 : Int32).toInt ≤ y.toInt := b344_z
      replace b345_z : y.toInt ≤ (20 : Int32).toInt := b345_z
      replace hc_z : rn _ _ _ _ [.int 1] _ _ _ := hc_z
      replace hc_z := rn_ifF (am_cur_of (i := (15, 3, .ifCond .eq 14, (14, 0, 0), 0)) (by decide +kernel)) (by decide) hc_z
      replace hc_z := rn_iload_n (am_cur_of (i := (18, 1, .iload_n 3, (0, 0, 0), 0)) (by decide +kernel)) g3_z hc_z
      replace hc_z := rn_iconst (w := 0) (am_cur_of (i := (19, 1, .iconst 0, (0, 0, 0), 0)) (by decide +kernel)) (by decide) hc_z
      replace hc_z := rn_sipush (w := 9999) (am_cur_of (i := (20, 3, .sipush 9999, (0, 0, 0), 0)) (by decide +kernel)) (by decide) hc_z
      replace hc_z := rn_callS (M' := am_m62) (ar := [.int 9999, .int 0, .int z]) (rest := []) (L := lv_args 0 [.int z, .int 0, .int 9999]) (am_cur_of (i := (23, 3, .invokestatic 172, (62, 908, 3), 0)) (by decide +kernel)) rfl rfl rfl rfl hc_z
      obtain ⟨r351_z, h352_z, q353_z, hc_z⟩ := hc_z
      rcases kc_62 q353_z with ⟨b354_z, rfl, y355_z⟩ | ⟨b356_z, b357_z, rfl, y358_z⟩ | ⟨b359_z, b360_z, rfl, y361_z⟩
      · replace y355_z := y355_z.symm
        subst y355_z
        replace b354_z : z.toInt < (0 : Int32).toInt := b354_z
        replace hc_z : rn _ _ _ _ [.int 0] _ _ _ := hc_z
        replace hc_z := rn_ifF (am_cur_of (i := (26, 3, .ifCond .ne 5, (16, 0, 0), 0)) (by decide +kernel)) (by decide) hc_z
        replace hc_z := rn_iconst (w := (-1)) (am_cur_of (i := (29, 1, .iconst (-1), (0, 0, 0), 0)) (by decide +kernel)) (by decide) hc_z
        replace hc_z := rn_iret (am_cur_of (i := (30, 1, .ireturn, (0, 0, 0), 0)) (by decide +kernel)) hc_z
        obtain ⟨e362_z, e363_z⟩ := hc_z
        exact Or.inr ⟨by omega, e362_z, by rw [e363_z]; exact es_z⟩
      · replace y358_z := y358_z.symm
        subst y358_z
        replace b356_z : (0 : Int32).toInt ≤ z.toInt := b356_z
        replace b357_z : (9999 : Int32).toInt < z.toInt := b357_z
        replace hc_z : rn _ _ _ _ [.int 0] _ _ _ := hc_z
        replace hc_z := rn_ifF (am_cur_of (i := (26, 3, .ifCond .ne 5, (16, 0, 0), 0)) (by decide +kernel)) (by decide) hc_z
        replace hc_z := rn_iconst (w := (-1)) (am_cur_of (i := (29, 1, .iconst (-1), (0, 0, 0), 0)) (by decide +kernel)) (by decide) hc_z
        replace hc_z := rn_iret (am_cur_of (i := (30, 1, .ireturn, (0, 0, 0), 0)) (by decide +kernel)) hc_z
        obtain ⟨e364_z, e365_z⟩ := hc_z
        exact Or.inr ⟨by omega, e364_z, by rw [e365_z]; exact es_z⟩
      · replace y361_z := y361_z.symm
        subst y361_z
        replace b359_z : (0 : Int32).toInt ≤ z.toInt := b359_z
        replace b360_z : z.toInt ≤ (9999 : Int32).toInt := b360_z
        replace hc_z : rn _ _ _ _ [.int 1] _ _ _ := hc_z
        replace hc_z := rn_ifT (am_cur_of (i := (26, 3, .ifCond .ne 5, (16, 0, 0), 0)) (by decide +kernel)) (by decide) hc_z
        replace hc_z := rn_iload_n (am_cur_of (i := (31, 1, .iload_n 2, (0, 0, 0), 0)) (by decide +kernel)) g2_z hc_z
        replace hc_z := rn_aload_n (am_cur_of (i := (32, 1, .aload_n 0, (0, 0, 0), 0)) (by decide +kernel)) g0_z hc_z
        replace hc_z := rn_getM (x := 23) (am_cur_of (i := (33, 3, .getfield 18, (0, 2, 663), 0)) (by decide +kernel)) D hc_z
        replace hc_z := rn_getR (x := 24) (am_cur_of (i := (36, 3, .getfield 189, (1, 3, 264), 0)) (by decide +kernel)) (by decide +kernel) hc_z
        replace hc_z := rn_iload_n (am_cur_of (i := (39, 1, .iload_n 1, (0, 0, 0), 0)) (by decide +kernel)) g1_z hc_z
        replace hc_z := rn_aaload (s := "AirBed$Blower") (N := 4) (q := 0) (am_cur_of (i := (40, 1, .aaload, (0, 0, 0), 0)) (by decide +kernel)) (by decide +kernel) rfl hc_z
        obtain ⟨p366_z, hc_z⟩ := hc_z
        rw [show rg_r h 24 0 = 40 from rp_bc23 (rn_G hc_z) (q := 0) (by decide)] at hc_z
        replace hc_z := rn_getI (v := rg_v h 40 3) (am_cur_of (i := (41, 3, .getfield 290, (3, 3, 212), 0)) (by decide +kernel)) (by decide +kernel) rfl hc_z
        replace hc_z := rn_cmp (am_cur_of (i := (44, 3, .if_icmp .le 5, (26, 0, 0), 0)) (by decide +kernel)) hc_z
        rcases hc_z with ⟨b367_z, hc_z⟩ | ⟨b367_z, hc_z⟩
        · replace b367_z : y.toInt ≤ (rg_v h 40 3).toInt := b367_z
          replace hc_z := rn_aload_n (am_cur_of (i := (49, 1, .aload_n 0, (0, 0, 0), 0)) (by decide +kernel)) g0_z hc_z
          replace hc_z := rn_getR (x := 142) (am_cur_of (i := (50, 3, .getfield 57, (0, 10, 671), 0)) (by decide +kernel)) (by decide +kernel) hc_z
          replace hc_z := rn_iload (am_cur_of (i := (53, 2, .iload 4, (0, 0, 0), 0)) (by decide +kernel)) g4_z hc_z
          replace hc_z := rn_if (am_cur_of (i := (55, 3, .ifCond .eq 7, (32, 0, 0), 0)) (by decide +kernel)) hc_z
          rcases hc_z with ⟨b368_z, hc_z⟩ | ⟨b368_z, hc_z⟩
          · replace b368_z : u = (0 : Int32) ∧ u.toInt = (0 : Int32).toInt := b368_z
            replace hc_z := rn_iconst (w := 0) (am_cur_of (i := (62, 1, .iconst 0, (0, 0, 0), 0)) (by decide +kernel)) (by decide) hc_z
            replace hc_z := rn_iload_n (am_cur_of (i := (63, 1, .iload_n 1, (0, 0, 0), 0)) (by decide +kernel)) g1_z hc_z
            replace hc_z := rn_iload_n (am_cur_of (i := (64, 1, .iload_n 2, (0, 0, 0), 0)) (by decide +kernel)) g2_z hc_z
            replace hc_z := rn_iload_n (am_cur_of (i := (65, 1, .iload_n 3, (0, 0, 0), 0)) (by decide +kernel)) g3_z hc_z
            replace hc_z := rn_callV (M' := am_m126) (o := 142) (ar := [.int z, .int y, .int 0, .int 0]) (rest := []) (L := lv_args 0 [.ref 142, .int 0, .int 0, .int y, .int z]) (am_cur_of (i := (66, 3, .invokevirtual 328, (126, 1189, 3), 0)) (by decide +kernel)) rfl rfl rfl rfl hc_z
            obtain ⟨r369_z, h370_z, q371_z, hc_z⟩ := hc_z
            rcases kc_126 es_z s0_z s4_z q371_z with ⟨lt, rfl, ez⟩ | ⟨lt, rfl, ez⟩
            · replace hc_z : rn _ _ _ _ [.int ((s + 1) - 1)] _ _ _ := hc_z
              replace hc_z := rn_iret (am_cur_of (i := (69, 1, .ireturn, (0, 0, 0), 0)) (by decide +kernel)) hc_z
              obtain ⟨e372_z, e373_z⟩ := hc_z
              exact Or.inl ⟨by omega, e372_z, by rw [e373_z]; exact ez⟩
            · replace hc_z : rn _ _ _ _ [.int (-1)] _ _ _ := hc_z
              replace hc_z := rn_iret (am_cur_of (i := (69, 1, .ireturn, (0, 0, 0), 0)) (by decide +kernel)) hc_z
              obtain ⟨e374_z, e375_z⟩ := hc_z
              exact Or.inr ⟨by omega, e374_z, by rw [e375_z]; exact ez⟩
          · replace b368_z : ¬ u = (0 : Int32) ∧ ¬ u.toInt = (0 : Int32).toInt := b368_z
            replace hc_z := rn_iconst (w := 1) (am_cur_of (i := (58, 1, .iconst 1, (0, 0, 0), 0)) (by decide +kernel)) (by decide) hc_z
            replace hc_z := rn_goto (am_cur_of (i := (59, 3, .goto 4, (33, 0, 0), 0)) (by decide +kernel)) hc_z
            replace hc_z := rn_iload_n (am_cur_of (i := (63, 1, .iload_n 1, (0, 0, 0), 0)) (by decide +kernel)) g1_z hc_z
            replace hc_z := rn_iload_n (am_cur_of (i := (64, 1, .iload_n 2, (0, 0, 0), 0)) (by decide +kernel)) g2_z hc_z
            replace hc_z := rn_iload_n (am_cur_of (i := (65, 1, .iload_n 3, (0, 0, 0), 0)) (by decide +kernel)) g3_z hc_z
            replace hc_z := rn_callV (M' := am_m126) (o := 142) (ar := [.int z, .int y, .int 0, .int 1]) (rest := []) (L := lv_args 0 [.ref 142, .int 1, .int 0, .int y, .int z]) (am_cur_of (i := (66, 3, .invokevirtual 328, (126, 1189, 3), 0)) (by decide +kernel)) rfl rfl rfl rfl hc_z
            obtain ⟨r376_z, h377_z, q378_z, hc_z⟩ := hc_z
            rcases kc_126 es_z s0_z s4_z q378_z with ⟨lt, rfl, ez⟩ | ⟨lt, rfl, ez⟩
            · replace hc_z : rn _ _ _ _ [.int ((s + 1) - 1)] _ _ _ := hc_z
              replace hc_z := rn_iret (am_cur_of (i := (69, 1, .ireturn, (0, 0, 0), 0)) (by decide +kernel)) hc_z
              obtain ⟨e379_z, e380_z⟩ := hc_z
              exact Or.inl ⟨by omega, e379_z, by rw [e380_z]; exact ez⟩
            · replace hc_z : rn _ _ _ _ [.int (-1)] _ _ _ := hc_z
              replace hc_z := rn_iret (am_cur_of (i := (69, 1, .ireturn, (0, 0, 0), 0)) (by decide +kernel)) hc_z
              obtain ⟨e381_z, e382_z⟩ := hc_z
              exact Or.inr ⟨by omega, e381_z, by rw [e382_z]; exact ez⟩
        · replace b367_z : (rg_v h 40 3).toInt < y.toInt := b367_z
          replace hc_z := rn_iconst (w := (-1)) (am_cur_of (i := (47, 1, .iconst (-1), (0, 0, 0), 0)) (by decide +kernel)) (by decide) hc_z
          replace hc_z := rn_iret (am_cur_of (i := (48, 1, .ireturn, (0, 0, 0), 0)) (by decide +kernel)) hc_z
          obtain ⟨e383_z, e384_z⟩ := hc_z
          exact Or.inr ⟨by omega, e383_z, by rw [e384_z]; exact es_z⟩
  · replace y335_z := y335_z.symm
    subst y335_z
    replace hc_z : rn _ _ _ _ [.int 0] _ _ _ := hc_z
    replace hc_z := rn_ifT (am_cur_of (i := (5, 3, .ifCond .eq 24, (14, 0, 0), 0)) (by decide +kernel)) (by decide) hc_z
    replace hc_z := rn_iconst (w := (-1)) (am_cur_of (i := (29, 1, .iconst (-1), (0, 0, 0), 0)) (by decide +kernel)) (by decide) hc_z
    replace hc_z := rn_iret (am_cur_of (i := (30, 1, .ireturn, (0, 0, 0), 0)) (by decide +kernel)) hc_z
    obtain ⟨e385_z, e386_z⟩ := hc_z
    exact Or.inr ⟨by omega, e385_z, by rw [e386_z]; exact es_z⟩
theorem kc_125_23_1 {n : Nat} {h h' : am_H} {r : Option Value} {nb s u y z : Int32} (es_z : rg_v h 142 0 = s) (s0_z : 0 ≤ s.toInt) (s4_z : s.toInt ≤ 24) (D : h 0 2 = .ref 23) (en : rg_v h 23 2 = nb) (hc_z : rn n am_m125 0 (lv_args 0 [.ref 0, .int 1, .int y, .int z, .int u]) [] h r h') : (((1 : Int) < nb.toInt ∧ 1 ≤ y.toInt ∧ y.toInt ≤ 20 ∧ 0 ≤ z.toInt ∧ z.toInt ≤ 9999 ∧ y.toInt ≤ (rg_v h 41 3).toInt ∧ s.toInt < 24) ∧ r = some (.int ((s + 1) - 1)) ∧ rg_v h' 142 0 = s + 1) ∨ (¬ ((1 : Int) < nb.toInt ∧ 1 ≤ y.toInt ∧ y.toInt ≤ 20 ∧ 0 ≤ z.toInt ∧ z.toInt ≤ 9999 ∧ y.toInt ≤ (rg_v h 41 3).toInt ∧ s.toInt < 24) ∧ r = some (.int (-1)) ∧ rg_v h' 142 0 = s) := by
  have zm1_z : ((-1) : Int32).toInt = (-1) := by decide
  have z0_z : (0 : Int32).toInt = 0 := by decide
  have z1_z : (1 : Int32).toInt = 1 := by decide
  have z2_z : (2 : Int32).toInt = 2 := by decide
  have z3_z : (3 : Int32).toInt = 3 := by decide
  have z20_z : (20 : Int32).toInt = 20 := by decide
  have z24_z : (24 : Int32).toInt = 24 := by decide
  have z9999_z : (9999 : Int32).toInt = 9999 := by decide
  have g0_z : am_get (lv_args 0 [.ref 0, .int 1, .int y, .int z, .int u]) 0 = some (.ref 0) := rfl
  have g1_z : am_get (lv_args 0 [.ref 0, .int 1, .int y, .int z, .int u]) 1 = some (.int 1) := rfl
  have g2_z : am_get (lv_args 0 [.ref 0, .int 1, .int y, .int z, .int u]) 2 = some (.int y) := rfl
  have g3_z : am_get (lv_args 0 [.ref 0, .int 1, .int y, .int z, .int u]) 3 = some (.int z) := rfl
  have g4_z : am_get (lv_args 0 [.ref 0, .int 1, .int y, .int z, .int u]) 4 = some (.int u) := rfl
  replace hc_z := rn_aload_n (am_cur_of (i := (0, 1, .aload_n 0, (0, 0, 0), 0)) (by decide +kernel)) g0_z hc_z
  replace hc_z := rn_iload_n (am_cur_of (i := (1, 1, .iload_n 1, (0, 0, 0), 0)) (by decide +kernel)) g1_z hc_z
  replace hc_z := rn_callV (M' := am_m70) (o := 0) (ar := [.int 1]) (rest := []) (L := lv_args 0 [.ref 0, .int 1]) (am_cur_of (i := (2, 3, .invokevirtual 135, (70, 943, 3), 0)) (by decide +kernel)) rfl rfl rfl rfl hc_z
  obtain ⟨r387_z, h388_z, q389_z, hc_z⟩ := hc_z
  rcases kc_70_23 D en q389_z with ⟨u390_z, rfl, y391_z⟩ | ⟨u390_z, rfl, y391_z⟩
  · replace y391_z := y391_z.symm
    subst y391_z
    replace hc_z : rn _ _ _ _ [.int 1] _ _ _ := hc_z
    replace hc_z := rn_ifF (am_cur_of (i := (5, 3, .ifCond .eq 24, (14, 0, 0), 0)) (by decide +kernel)) (by decide) hc_z
    replace hc_z := rn_iload_n (am_cur_of (i := (8, 1, .iload_n 2, (0, 0, 0), 0)) (by decide +kernel)) g2_z hc_z
    replace hc_z := rn_iconst (w := 1) (am_cur_of (i := (9, 1, .iconst 1, (0, 0, 0), 0)) (by decide +kernel)) (by decide) hc_z
    replace hc_z := rn_bipush (w := 20) (am_cur_of (i := (10, 2, .bipush 20, (0, 0, 0), 0)) (by decide +kernel)) (by decide) hc_z
    replace hc_z := rn_callS (M' := am_m62) (ar := [.int 20, .int 1, .int y]) (rest := []) (L := lv_args 0 [.int y, .int 1, .int 20]) (am_cur_of (i := (12, 3, .invokestatic 172, (62, 908, 3), 0)) (by decide +kernel)) rfl rfl rfl rfl hc_z
    obtain ⟨r392_z, h393_z, q394_z, hc_z⟩ := hc_z
    rcases kc_62 q394_z with ⟨b395_z, rfl, y396_z⟩ | ⟨b397_z, b398_z, rfl, y399_z⟩ | ⟨b400_z, b401_z, rfl, y402_z⟩
    · replace y396_z := y396_z.symm
      subst y396_z
      replace b395_z : y.toInt < (1 : Int32).toInt := b395_z
      replace hc_z : rn _ _ _ _ [.int 0] _ _ _ := hc_z
      replace hc_z := rn_ifT (am_cur_of (i := (15, 3, .ifCond .eq 14, (14, 0, 0), 0)) (by decide +kernel)) (by decide) hc_z
      replace hc_z := rn_iconst (w := (-1)) (am_cur_of (i := (29, 1, .iconst (-1), (0, 0, 0), 0)) (by decide +kernel)) (by decide) hc_z
      replace hc_z := rn_iret (am_cur_of (i := (30, 1, .ireturn, (0, 0, 0), 0)) (by decide +kernel)) hc_z
      obtain ⟨e403_z, e404_z⟩ := hc_z
      exact Or.inr ⟨by omega, e403_z, by rw [e404_z]; exact es_z⟩
    · replace y399_z := y399_z.symm
      subst y399_z
      replace b397_z : (1 : Int32).toInt ≤ y.toInt := b397_z
      replace b398_z : (20 : Int32).toInt < y.toInt := b398_z
      replace hc_z : rn _ _ _ _ [.int 0] _ _ _ := hc_z
      replace hc_z := rn_ifT (am_cur_of (i := (15, 3, .ifCond .eq 14, (14, 0, 0), 0)) (by decide +kernel)) (by decide) hc_z
      replace hc_z := rn_iconst (w := (-1)) (am_cur_of (i := (29, 1, .iconst (-1), (0, 0, 0), 0)) (by decide +kernel)) (by decide) hc_z
      replace hc_z := rn_iret (am_cur_of (i := (30, 1, .ireturn, (0, 0, 0), 0)) (by decide +kernel)) hc_z
      obtain ⟨e405_z, e406_z⟩ := hc_z
      exact Or.inr ⟨by omega, e405_z, by rw [e406_z]; exact es_z⟩
    · replace y402_z := y402_z.symm
      subst y402_z
      replace b400_z : (1 : Int32).toInt ≤ y.toInt := b400_z
      replace b401_z : y.toInt ≤ (20 : Int32).toInt := b401_z
      replace hc_z : rn _ _ _ _ [.int 1] _ _ _ := hc_z
      replace hc_z := rn_ifF (am_cur_of (i := (15, 3, .ifCond .eq 14, (14, 0, 0), 0)) (by decide +kernel)) (by decide) hc_z
      replace hc_z := rn_iload_n (am_cur_of (i := (18, 1, .iload_n 3, (0, 0, 0), 0)) (by decide +kernel)) g3_z hc_z
      replace hc_z := rn_iconst (w := 0) (am_cur_of (i := (19, 1, .iconst 0, (0, 0, 0), 0)) (by decide +kernel)) (by decide) hc_z
      replace hc_z := rn_sipush (w := 9999) (am_cur_of (i := (20, 3, .sipush 9999, (0, 0, 0), 0)) (by decide +kernel)) (by decide) hc_z
      replace hc_z := rn_callS (M' := am_m62) (ar := [.int 9999, .int 0, .int z]) (rest := []) (L := lv_args 0 [.int z, .int 0, .int 9999]) (am_cur_of (i := (23, 3, .invokestatic 172, (62, 908, 3), 0)) (by decide +kernel)) rfl rfl rfl rfl hc_z
      obtain ⟨r407_z, h408_z, q409_z, hc_z⟩ := hc_z
      rcases kc_62 q409_z with ⟨b410_z, rfl, y411_z⟩ | ⟨b412_z, b413_z, rfl, y414_z⟩ | ⟨b415_z, b416_z, rfl, y417_z⟩
      · replace y411_z := y411_z.symm
        subst y411_z
        replace b410_z : z.toInt < (0 : Int32).toInt := b410_z
        replace hc_z : rn _ _ _ _ [.int 0] _ _ _ := hc_z
        replace hc_z := rn_ifF (am_cur_of (i := (26, 3, .ifCond .ne 5, (16, 0, 0), 0)) (by decide +kernel)) (by decide) hc_z
        replace hc_z := rn_iconst (w := (-1)) (am_cur_of (i := (29, 1, .iconst (-1), (0, 0, 0), 0)) (by decide +kernel)) (by decide) hc_z
        replace hc_z := rn_iret (am_cur_of (i := (30, 1, .ireturn, (0, 0, 0), 0)) (by decide +kernel)) hc_z
        obtain ⟨e418_z, e419_z⟩ := hc_z
        exact Or.inr ⟨by omega, e418_z, by rw [e419_z]; exact es_z⟩
      · replace y414_z := y414_z.symm
        subst y414_z
        replace b412_z : (0 : Int32).toInt ≤ z.toInt := b412_z
        replace b413_z : (9999 : Int32).toInt < z.toInt := b413_z
        replace hc_z : rn _ _ _ _ [.int 0] _ _ _ := hc_z
        replace hc_z := rn_ifF (am_cur_of (i := (26, 3, .ifCond .ne 5, (16, 0, 0), 0)) (by decide +kernel)) (by decide) hc_z
        replace hc_z := rn_iconst (w := (-1)) (am_cur_of (i := (29, 1, .iconst (-1), (0, 0, 0), 0)) (by decide +kernel)) (by decide) hc_z
        replace hc_z := rn_iret (am_cur_of (i := (30, 1, .ireturn, (0, 0, 0), 0)) (by decide +kernel)) hc_z
        obtain ⟨e420_z, e421_z⟩ := hc_z
        exact Or.inr ⟨by omega, e420_z, by rw [e421_z]; exact es_z⟩
      · replace y417_z := y417_z.symm
        subst y417_z
        replace b415_z : (0 : Int32).toInt ≤ z.toInt := b415_z
        replace b416_z : z.toInt ≤ (9999 : Int32).toInt := b416_z
        replace hc_z : rn _ _ _ _ [.int 1] _ _ _ := hc_z
        replace hc_z := rn_ifT (am_cur_of (i := (26, 3, .ifCond .ne 5, (16, 0, 0), 0)) (by decide +kernel)) (by decide) hc_z
        replace hc_z := rn_iload_n (am_cur_of (i := (31, 1, .iload_n 2, (0, 0, 0), 0)) (by decide +kernel)) g2_z hc_z
        replace hc_z := rn_aload_n (am_cur_of (i := (32, 1, .aload_n 0, (0, 0, 0), 0)) (by decide +kernel)) g0_z hc_z
        replace hc_z := rn_getM (x := 23) (am_cur_of (i := (33, 3, .getfield 18, (0, 2, 663), 0)) (by decide +kernel)) D hc_z
        replace hc_z := rn_getR (x := 24) (am_cur_of (i := (36, 3, .getfield 189, (1, 3, 264), 0)) (by decide +kernel)) (by decide +kernel) hc_z
        replace hc_z := rn_iload_n (am_cur_of (i := (39, 1, .iload_n 1, (0, 0, 0), 0)) (by decide +kernel)) g1_z hc_z
        replace hc_z := rn_aaload (s := "AirBed$Blower") (N := 4) (q := 1) (am_cur_of (i := (40, 1, .aaload, (0, 0, 0), 0)) (by decide +kernel)) (by decide +kernel) rfl hc_z
        obtain ⟨p422_z, hc_z⟩ := hc_z
        rw [show rg_r h 24 1 = 41 from rp_bc23 (rn_G hc_z) (q := 1) (by decide)] at hc_z
        replace hc_z := rn_getI (v := rg_v h 41 3) (am_cur_of (i := (41, 3, .getfield 290, (3, 3, 212), 0)) (by decide +kernel)) (by decide +kernel) rfl hc_z
        replace hc_z := rn_cmp (am_cur_of (i := (44, 3, .if_icmp .le 5, (26, 0, 0), 0)) (by decide +kernel)) hc_z
        rcases hc_z with ⟨b423_z, hc_z⟩ | ⟨b423_z, hc_z⟩
        · replace b423_z : y.toInt ≤ (rg_v h 41 3).toInt := b423_z
          replace hc_z := rn_aload_n (am_cur_of (i := (49, 1, .aload_n 0, (0, 0, 0), 0)) (by decide +kernel)) g0_z hc_z
          replace hc_z := rn_getR (x := 142) (am_cur_of (i := (50, 3, .getfield 57, (0, 10, 671), 0)) (by decide +kernel)) (by decide +kernel) hc_z
          replace hc_z := rn_iload (am_cur_of (i := (53, 2, .iload 4, (0, 0, 0), 0)) (by decide +kernel)) g4_z hc_z
          replace hc_z := rn_if (am_cur_of (i := (55, 3, .ifCond .eq 7, (32, 0, 0), 0)) (by decide +kernel)) hc_z
          rcases hc_z with ⟨b424_z, hc_z⟩ | ⟨b424_z, hc_z⟩
          · replace b424_z : u = (0 : Int32) ∧ u.toInt = (0 : Int32).toInt := b424_z
            replace hc_z := rn_iconst (w := 0) (am_cur_of (i := (62, 1, .iconst 0, (0, 0, 0), 0)) (by decide +kernel)) (by decide) hc_z
            replace hc_z := rn_iload_n (am_cur_of (i := (63, 1, .iload_n 1, (0, 0, 0), 0)) (by decide +kernel)) g1_z hc_z
            replace hc_z := rn_iload_n (am_cur_of (i := (64, 1, .iload_n 2, (0, 0, 0), 0)) (by decide +kernel)) g2_z hc_z
            replace hc_z := rn_iload_n (am_cur_of (i := (65, 1, .iload_n 3, (0, 0, 0), 0)) (by decide +kernel)) g3_z hc_z
            replace hc_z := rn_callV (M' := am_m126) (o := 142) (ar := [.int z, .int y, .int 1, .int 0]) (rest := []) (L := lv_args 0 [.ref 142, .int 0, .int 1, .int y, .int z]) (am_cur_of (i := (66, 3, .invokevirtual 328, (126, 1189, 3), 0)) (by decide +kernel)) rfl rfl rfl rfl hc_z
            obtain ⟨r425_z, h426_z, q427_z, hc_z⟩ := hc_z
            rcases kc_126 es_z s0_z s4_z q427_z with ⟨lt, rfl, ez⟩ | ⟨lt, rfl, ez⟩
            · replace hc_z : rn _ _ _ _ [.int ((s + 1) - 1)] _ _ _ := hc_z
              replace hc_z := rn_iret (am_cur_of (i := (69, 1, .ireturn, (0, 0, 0), 0)) (by decide +kernel)) hc_z
              obtain ⟨e428_z, e429_z⟩ := hc_z
              exact Or.inl ⟨by omega, e428_z, by rw [e429_z]; exact ez⟩
            · replace hc_z : rn _ _ _ _ [.int (-1)] _ _ _ := hc_z
              replace hc_z := rn_iret (am_cur_of (i := (69, 1, .ireturn, (0, 0, 0), 0)) (by decide +kernel)) hc_z
              obtain ⟨e430_z, e431_z⟩ := hc_z
              exact Or.inr ⟨by omega, e430_z, by rw [e431_z]; exact ez⟩
          · replace b424_z : ¬ u = (0 : Int32) ∧ ¬ u.toInt = (0 : Int32).toInt := b424_z
            replace hc_z := rn_iconst (w := 1) (am_cur_of (i := (58, 1, .iconst 1, (0, 0, 0), 0)) (by decide +kernel)) (by decide) hc_z
            replace hc_z := rn_goto (am_cur_of (i := (59, 3, .goto 4, (33, 0, 0), 0)) (by decide +kernel)) hc_z
            replace hc_z := rn_iload_n (am_cur_of (i := (63, 1, .iload_n 1, (0, 0, 0), 0)) (by decide +kernel)) g1_z hc_z
            replace hc_z := rn_iload_n (am_cur_of (i := (64, 1, .iload_n 2, (0, 0, 0), 0)) (by decide +kernel)) g2_z hc_z
            replace hc_z := rn_iload_n (am_cur_of (i := (65, 1, .iload_n 3, (0, 0, 0), 0)) (by decide +kernel)) g3_z hc_z
            replace hc_z := rn_callV (M' := am_m126) (o := 142) (ar := [.int z, .int y, .int 1, .int 1]) (rest := []) (L := lv_args 0 [.ref 142, .int 1, .int 1, .int y, .int z]) (am_cur_of (i := (66, 3, .invokevirtual 328, (126, 1189, 3), 0)) (by decide +kernel)) rfl rfl rfl rfl hc_z
            obtain ⟨r432_z, h433_z, q434_z, hc_z⟩ := hc_z
            rcases kc_126 es_z s0_z s4_z q434_z with ⟨lt, rfl, ez⟩ | ⟨lt, rfl, ez⟩
            · replace hc_z : rn _ _ _ _ [.int ((s + 1) - 1)] _ _ _ := hc_z
              replace hc_z := rn_iret (am_cur_of (i := (69, 1, .ireturn, (0, 0, 0), 0)) (by decide +kernel)) hc_z
              obtain ⟨e435_z, e436_z⟩ := hc_z
              exact Or.inl ⟨by omega, e435_z, by rw [e436_z]; exact ez⟩
            · replace hc_z : rn _ _ _ _ [.int (-1)] _ _ _ := hc_z
              replace hc_z := rn_iret (am_cur_of (i := (69, 1, .ireturn, (0, 0, 0), 0)) (by decide +kernel)) hc_z
              obtain ⟨e437_z, e438_z⟩ := hc_z
              exact Or.inr ⟨by omega, e437_z, by rw [e438_z]; exact ez⟩
        · replace b423_z : (rg_v h 41 3).toInt < y.toInt := b423_z
          replace hc_z := rn_iconst (w := (-1)) (am_cur_of (i := (47, 1, .iconst (-1), (0, 0, 0), 0)) (by decide +kernel)) (by decide) hc_z
          replace hc_z := rn_iret (am_cur_of (i := (48, 1, .ireturn, (0, 0, 0), 0)) (by decide +kernel)) hc_z
          obtain ⟨e439_z, e440_z⟩ := hc_z
          exact Or.inr ⟨by omega, e439_z, by rw [e440_z]; exact es_z⟩
  · replace y391_z := y391_z.symm
    subst y391_z
    replace hc_z : rn _ _ _ _ [.int 0] _ _ _ := hc_z
    replace hc_z := rn_ifT (am_cur_of (i := (5, 3, .ifCond .eq 24, (14, 0, 0), 0)) (by decide +kernel)) (by decide) hc_z
    replace hc_z := rn_iconst (w := (-1)) (am_cur_of (i := (29, 1, .iconst (-1), (0, 0, 0), 0)) (by decide +kernel)) (by decide) hc_z
    replace hc_z := rn_iret (am_cur_of (i := (30, 1, .ireturn, (0, 0, 0), 0)) (by decide +kernel)) hc_z
    obtain ⟨e441_z, e442_z⟩ := hc_z
    exact Or.inr ⟨by omega, e441_z, by rw [e442_z]; exact es_z⟩
theorem kc_125_23_2 {n : Nat} {h h' : am_H} {r : Option Value} {nb s u y z : Int32} (es_z : rg_v h 142 0 = s) (s0_z : 0 ≤ s.toInt) (s4_z : s.toInt ≤ 24) (D : h 0 2 = .ref 23) (en : rg_v h 23 2 = nb) (hc_z : rn n am_m125 0 (lv_args 0 [.ref 0, .int 2, .int y, .int z, .int u]) [] h r h') : (((2 : Int) < nb.toInt ∧ 1 ≤ y.toInt ∧ y.toInt ≤ 20 ∧ 0 ≤ z.toInt ∧ z.toInt ≤ 9999 ∧ y.toInt ≤ (rg_v h 42 3).toInt ∧ s.toInt < 24) ∧ r = some (.int ((s + 1) - 1)) ∧ rg_v h' 142 0 = s + 1) ∨ (¬ ((2 : Int) < nb.toInt ∧ 1 ≤ y.toInt ∧ y.toInt ≤ 20 ∧ 0 ≤ z.toInt ∧ z.toInt ≤ 9999 ∧ y.toInt ≤ (rg_v h 42 3).toInt ∧ s.toInt < 24) ∧ r = some (.int (-1)) ∧ rg_v h' 142 0 = s) := by
  have zm1_z : ((-1) : Int32).toInt = (-1) := by decide
  have z0_z : (0 : Int32).toInt = 0 := by decide
  have z1_z : (1 : Int32).toInt = 1 := by decide
  have z2_z : (2 : Int32).toInt = 2 := by decide
  have z3_z : (3 : Int32).toInt = 3 := by decide
  have z20_z : (20 : Int32).toInt = 20 := by decide
  have z24_z : (24 : Int32).toInt = 24 := by decide
  have z9999_z : (9999 : Int32).toInt = 9999 := by decide
  have g0_z : am_get (lv_args 0 [.ref 0, .int 2, .int y, .int z, .int u]) 0 = some (.ref 0) := rfl
  have g1_z : am_get (lv_args 0 [.ref 0, .int 2, .int y, .int z, .int u]) 1 = some (.int 2) := rfl
  have g2_z : am_get (lv_args 0 [.ref 0, .int 2, .int y, .int z, .int u]) 2 = some (.int y) := rfl
  have g3_z : am_get (lv_args 0 [.ref 0, .int 2, .int y, .int z, .int u]) 3 = some (.int z) := rfl
  have g4_z : am_get (lv_args 0 [.ref 0, .int 2, .int y, .int z, .int u]) 4 = some (.int u) := rfl
  replace hc_z := rn_aload_n (am_cur_of (i := (0, 1, .aload_n 0, (0, 0, 0), 0)) (by decide +kernel)) g0_z hc_z
  replace hc_z := rn_iload_n (am_cur_of (i := (1, 1, .iload_n 1, (0, 0, 0), 0)) (by decide +kernel)) g1_z hc_z
  replace hc_z := rn_callV (M' := am_m70) (o := 0) (ar := [.int 2]) (rest := []) (L := lv_args 0 [.ref 0, .int 2]) (am_cur_of (i := (2, 3, .invokevirtual 135, (70, 943, 3), 0)) (by decide +kernel)) rfl rfl rfl rfl hc_z
  obtain ⟨r443_z, h444_z, q445_z, hc_z⟩ := hc_z
  rcases kc_70_23 D en q445_z with ⟨u446_z, rfl, y447_z⟩ | ⟨u446_z, rfl, y447_z⟩
  · replace y447_z := y447_z.symm
    subst y447_z
    replace hc_z : rn _ _ _ _ [.int 1] _ _ _ := hc_z
    replace hc_z := rn_ifF (am_cur_of (i := (5, 3, .ifCond .eq 24, (14, 0, 0), 0)) (by decide +kernel)) (by decide) hc_z
    replace hc_z := rn_iload_n (am_cur_of (i := (8, 1, .iload_n 2, (0, 0, 0), 0)) (by decide +kernel)) g2_z hc_z
    replace hc_z := rn_iconst (w := 1) (am_cur_of (i := (9, 1, .iconst 1, (0, 0, 0), 0)) (by decide +kernel)) (by decide) hc_z
    replace hc_z := rn_bipush (w := 20) (am_cur_of (i := (10, 2, .bipush 20, (0, 0, 0), 0)) (by decide +kernel)) (by decide) hc_z
    replace hc_z := rn_callS (M' := am_m62) (ar := [.int 20, .int 1, .int y]) (rest := []) (L := lv_args 0 [.int y, .int 1, .int 20]) (am_cur_of (i := (12, 3, .invokestatic 172, (62, 908, 3), 0)) (by decide +kernel)) rfl rfl rfl rfl hc_z
    obtain ⟨r448_z, h449_z, q450_z, hc_z⟩ := hc_z
    rcases kc_62 q450_z with ⟨b451_z, rfl, y452_z⟩ | ⟨b453_z, b454_z, rfl, y455_z⟩ | ⟨b456_z, b457_z, rfl, y458_z⟩
    · replace y452_z := y452_z.symm
      subst y452_z
      replace b451_z : y.toInt < (1 : Int32).toInt := b451_z
      replace hc_z : rn _ _ _ _ [.int 0] _ _ _ := hc_z
      replace hc_z := rn_ifT (am_cur_of (i := (15, 3, .ifCond .eq 14, (14, 0, 0), 0)) (by decide +kernel)) (by decide) hc_z
      replace hc_z := rn_iconst (w := (-1)) (am_cur_of (i := (29, 1, .iconst (-1), (0, 0, 0), 0)) (by decide +kernel)) (by decide) hc_z
      replace hc_z := rn_iret (am_cur_of (i := (30, 1, .ireturn, (0, 0, 0), 0)) (by decide +kernel)) hc_z
      obtain ⟨e459_z, e460_z⟩ := hc_z
      exact Or.inr ⟨by omega, e459_z, by rw [e460_z]; exact es_z⟩
    · replace y455_z := y455_z.symm
      subst y455_z
      replace b453_z : (1 : Int32).toInt ≤ y.toInt := b453_z
      replace b454_z : (20 : Int32).toInt < y.toInt := b454_z
      replace hc_z : rn _ _ _ _ [.int 0] _ _ _ := hc_z
      replace hc_z := rn_ifT (am_cur_of (i := (15, 3, .ifCond .eq 14, (14, 0, 0), 0)) (by decide +kernel)) (by decide) hc_z
      replace hc_z := rn_iconst (w := (-1)) (am_cur_of (i := (29, 1, .iconst (-1), (0, 0, 0), 0)) (by decide +kernel)) (by decide) hc_z
      replace hc_z := rn_iret (am_cur_of (i := (30, 1, .ireturn, (0, 0, 0), 0)) (by decide +kernel)) hc_z
      obtain ⟨e461_z, e462_z⟩ := hc_z
      exact Or.inr ⟨by omega, e461_z, by rw [e462_z]; exact es_z⟩
    · replace y458_z := y458_z.symm
      subst y458_z
      replace b456_z : (1 : Int32).toInt ≤ y.toInt := b456_z
      replace b457_z : y.toInt ≤ (20 : Int32).toInt := b457_z
      replace hc_z : rn _ _ _ _ [.int 1] _ _ _ := hc_z
      replace hc_z := rn_ifF (am_cur_of (i := (15, 3, .ifCond .eq 14, (14, 0, 0), 0)) (by decide +kernel)) (by decide) hc_z
      replace hc_z := rn_iload_n (am_cur_of (i := (18, 1, .iload_n 3, (0, 0, 0), 0)) (by decide +kernel)) g3_z hc_z
      replace hc_z := rn_iconst (w := 0) (am_cur_of (i := (19, 1, .iconst 0, (0, 0, 0), 0)) (by decide +kernel)) (by decide) hc_z
      replace hc_z := rn_sipush (w := 9999) (am_cur_of (i := (20, 3, .sipush 9999, (0, 0, 0), 0)) (by decide +kernel)) (by decide) hc_z
      replace hc_z := rn_callS (M' := am_m62) (ar := [.int 9999, .int 0, .int z]) (rest := []) (L := lv_args 0 [.int z, .int 0, .int 9999]) (am_cur_of (i := (23, 3, .invokestatic 172, (62, 908, 3), 0)) (by decide +kernel)) rfl rfl rfl rfl hc_z
      obtain ⟨r463_z, h464_z, q465_z, hc_z⟩ := hc_z
      rcases kc_62 q465_z with ⟨b466_z, rfl, y467_z⟩ | ⟨b468_z, b469_z, rfl, y470_z⟩ | ⟨b471_z, b472_z, rfl, y473_z⟩
      · replace y467_z := y467_z.symm
        subst y467_z
        replace b466_z : z.toInt < (0 : Int32).toInt := b466_z
        replace hc_z : rn _ _ _ _ [.int 0] _ _ _ := hc_z
        replace hc_z := rn_ifF (am_cur_of (i := (26, 3, .ifCond .ne 5, (16, 0, 0), 0)) (by decide +kernel)) (by decide) hc_z
        replace hc_z := rn_iconst (w := (-1)) (am_cur_of (i := (29, 1, .iconst (-1), (0, 0, 0), 0)) (by decide +kernel)) (by decide) hc_z
        replace hc_z := rn_iret (am_cur_of (i := (30, 1, .ireturn, (0, 0, 0), 0)) (by decide +kernel)) hc_z
        obtain ⟨e474_z, e475_z⟩ := hc_z
        exact Or.inr ⟨by omega, e474_z, by rw [e475_z]; exact es_z⟩
      · replace y470_z := y470_z.symm
        subst y470_z
        replace b468_z : (0 : Int32).toInt ≤ z.toInt := b468_z
        replace b469_z : (9999 : Int32).toInt < z.toInt := b469_z
        replace hc_z : rn _ _ _ _ [.int 0] _ _ _ := hc_z
        replace hc_z := rn_ifF (am_cur_of (i := (26, 3, .ifCond .ne 5, (16, 0, 0), 0)) (by decide +kernel)) (by decide) hc_z
        replace hc_z := rn_iconst (w := (-1)) (am_cur_of (i := (29, 1, .iconst (-1), (0, 0, 0), 0)) (by decide +kernel)) (by decide) hc_z
        replace hc_z := rn_iret (am_cur_of (i := (30, 1, .ireturn, (0, 0, 0), 0)) (by decide +kernel)) hc_z
        obtain ⟨e476_z, e477_z⟩ := hc_z
        exact Or.inr ⟨by omega, e476_z, by rw [e477_z]; exact es_z⟩
      · replace y473_z := y473_z.symm
        subst y473_z
        replace b471_z : (0 : Int32).toInt ≤ z.toInt := b471_z
        replace b472_z : z.toInt ≤ (9999 : Int32).toInt := b472_z
        replace hc_z : rn _ _ _ _ [.int 1] _ _ _ := hc_z
        replace hc_z := rn_ifT (am_cur_of (i := (26, 3, .ifCond .ne 5, (16, 0, 0), 0)) (by decide +kernel)) (by decide) hc_z
        replace hc_z := rn_iload_n (am_cur_of (i := (31, 1, .iload_n 2, (0, 0, 0), 0)) (by decide +kernel)) g2_z hc_z
        replace hc_z := rn_aload_n (am_cur_of (i := (32, 1, .aload_n 0, (0, 0, 0), 0)) (by decide +kernel)) g0_z hc_z
        replace hc_z := rn_getM (x := 23) (am_cur_of (i := (33, 3, .getfield 18, (0, 2, 663), 0)) (by decide +kernel)) D hc_z
        replace hc_z := rn_getR (x := 24) (am_cur_of (i := (36, 3, .getfield 189, (1, 3, 264), 0)) (by decide +kernel)) (by decide +kernel) hc_z
        replace hc_z := rn_iload_n (am_cur_of (i := (39, 1, .iload_n 1, (0, 0, 0), 0)) (by decide +kernel)) g1_z hc_z
        replace hc_z := rn_aaload (s := "AirBed$Blower") (N := 4) (q := 2) (am_cur_of (i := (40, 1, .aaload, (0, 0, 0), 0)) (by decide +kernel)) (by decide +kernel) rfl hc_z
        obtain ⟨p478_z, hc_z⟩ := hc_z
        rw [show rg_r h 24 2 = 42 from rp_bc23 (rn_G hc_z) (q := 2) (by decide)] at hc_z
        replace hc_z := rn_getI (v := rg_v h 42 3) (am_cur_of (i := (41, 3, .getfield 290, (3, 3, 212), 0)) (by decide +kernel)) (by decide +kernel) rfl hc_z
        replace hc_z := rn_cmp (am_cur_of (i := (44, 3, .if_icmp .le 5, (26, 0, 0), 0)) (by decide +kernel)) hc_z
        rcases hc_z with ⟨b479_z, hc_z⟩ | ⟨b479_z, hc_z⟩
        · replace b479_z : y.toInt ≤ (rg_v h 42 3).toInt := b479_z
          replace hc_z := rn_aload_n (am_cur_of (i := (49, 1, .aload_n 0, (0, 0, 0), 0)) (by decide +kernel)) g0_z hc_z
          replace hc_z := rn_getR (x := 142) (am_cur_of (i := (50, 3, .getfield 57, (0, 10, 671), 0)) (by decide +kernel)) (by decide +kernel) hc_z
          replace hc_z := rn_iload (am_cur_of (i := (53, 2, .iload 4, (0, 0, 0), 0)) (by decide +kernel)) g4_z hc_z
          replace hc_z := rn_if (am_cur_of (i := (55, 3, .ifCond .eq 7, (32, 0, 0), 0)) (by decide +kernel)) hc_z
          rcases hc_z with ⟨b480_z, hc_z⟩ | ⟨b480_z, hc_z⟩
          · replace b480_z : u = (0 : Int32) ∧ u.toInt = (0 : Int32).toInt := b480_z
            replace hc_z := rn_iconst (w := 0) (am_cur_of (i := (62, 1, .iconst 0, (0, 0, 0), 0)) (by decide +kernel)) (by decide) hc_z
            replace hc_z := rn_iload_n (am_cur_of (i := (63, 1, .iload_n 1, (0, 0, 0), 0)) (by decide +kernel)) g1_z hc_z
            replace hc_z := rn_iload_n (am_cur_of (i := (64, 1, .iload_n 2, (0, 0, 0), 0)) (by decide +kernel)) g2_z hc_z
            replace hc_z := rn_iload_n (am_cur_of (i := (65, 1, .iload_n 3, (0, 0, 0), 0)) (by decide +kernel)) g3_z hc_z
            replace hc_z := rn_callV (M' := am_m126) (o := 142) (ar := [.int z, .int y, .int 2, .int 0]) (rest := []) (L := lv_args 0 [.ref 142, .int 0, .int 2, .int y, .int z]) (am_cur_of (i := (66, 3, .invokevirtual 328, (126, 1189, 3), 0)) (by decide +kernel)) rfl rfl rfl rfl hc_z
            obtain ⟨r481_z, h482_z, q483_z, hc_z⟩ := hc_z
            rcases kc_126 es_z s0_z s4_z q483_z with ⟨lt, rfl, ez⟩ | ⟨lt, rfl, ez⟩
            · replace hc_z : rn _ _ _ _ [.int ((s + 1) - 1)] _ _ _ := hc_z
              replace hc_z := rn_iret (am_cur_of (i := (69, 1, .ireturn, (0, 0, 0), 0)) (by decide +kernel)) hc_z
              obtain ⟨e484_z, e485_z⟩ := hc_z
              exact Or.inl ⟨by omega, e484_z, by rw [e485_z]; exact ez⟩
            · replace hc_z : rn _ _ _ _ [.int (-1)] _ _ _ := hc_z
              replace hc_z := rn_iret (am_cur_of (i := (69, 1, .ireturn, (0, 0, 0), 0)) (by decide +kernel)) hc_z
              obtain ⟨e486_z, e487_z⟩ := hc_z
              exact Or.inr ⟨by omega, e486_z, by rw [e487_z]; exact ez⟩
          · replace b480_z : ¬ u = (0 : Int32) ∧ ¬ u.toInt = (0 : Int32).toInt := b480_z
            replace hc_z := rn_iconst (w := 1) (am_cur_of (i := (58, 1, .iconst 1, (0, 0, 0), 0)) (by decide +kernel)) (by decide) hc_z
            replace hc_z := rn_goto (am_cur_of (i := (59, 3, .goto 4, (33, 0, 0), 0)) (by decide +kernel)) hc_z
            replace hc_z := rn_iload_n (am_cur_of (i := (63, 1, .iload_n 1, (0, 0, 0), 0)) (by decide +kernel)) g1_z hc_z
            replace hc_z := rn_iload_n (am_cur_of (i := (64, 1, .iload_n 2, (0, 0, 0), 0)) (by decide +kernel)) g2_z hc_z
            replace hc_z := rn_iload_n (am_cur_of (i := (65, 1, .iload_n 3, (0, 0, 0), 0)) (by decide +kernel)) g3_z hc_z
            replace hc_z := rn_callV (M' := am_m126) (o := 142) (ar := [.int z, .int y, .int 2, .int 1]) (rest := []) (L := lv_args 0 [.ref 142, .int 1, .int 2, .int y, .int z]) (am_cur_of (i := (66, 3, .invokevirtual 328, (126, 1189, 3), 0)) (by decide +kernel)) rfl rfl rfl rfl hc_z
            obtain ⟨r488_z, h489_z, q490_z, hc_z⟩ := hc_z
            rcases kc_126 es_z s0_z s4_z q490_z with ⟨lt, rfl, ez⟩ | ⟨lt, rfl, ez⟩
            · replace hc_z : rn _ _ _ _ [.int ((s + 1) - 1)] _ _ _ := hc_z
              replace hc_z := rn_iret (am_cur_of (i := (69, 1, .ireturn, (0, 0, 0), 0)) (by decide +kernel)) hc_z
              obtain ⟨e491_z, e492_z⟩ := hc_z
              exact Or.inl ⟨by omega, e491_z, by rw [e492_z]; exact ez⟩
            · replace hc_z : rn _ _ _ _ [.int (-1)] _ _ _ := hc_z
              replace hc_z := rn_iret (am_cur_of (i := (69, 1, .ireturn, (0, 0, 0), 0)) (by decide +kernel)) hc_z
              obtain ⟨e493_z, e494_z⟩ := hc_z
              exact Or.inr ⟨by omega, e493_z, by rw [e494_z]; exact ez⟩
        · replace b479_z : (rg_v h 42 3).toInt < y.toInt := b479_z
          replace hc_z := rn_iconst (w := (-1)) (am_cur_of (i := (47, 1, .iconst (-1), (0, 0, 0), 0)) (by decide +kernel)) (by decide) hc_z
          replace hc_z := rn_iret (am_cur_of (i := (48, 1, .ireturn, (0, 0, 0), 0)) (by decide +kernel)) hc_z
          obtain ⟨e495_z, e496_z⟩ := hc_z
          exact Or.inr ⟨by omega, e495_z, by rw [e496_z]; exact es_z⟩
  · replace y447_z := y447_z.symm
    subst y447_z
    replace hc_z : rn _ _ _ _ [.int 0] _ _ _ := hc_z
    replace hc_z := rn_ifT (am_cur_of (i := (5, 3, .ifCond .eq 24, (14, 0, 0), 0)) (by decide +kernel)) (by decide) hc_z
    replace hc_z := rn_iconst (w := (-1)) (am_cur_of (i := (29, 1, .iconst (-1), (0, 0, 0), 0)) (by decide +kernel)) (by decide) hc_z
    replace hc_z := rn_iret (am_cur_of (i := (30, 1, .ireturn, (0, 0, 0), 0)) (by decide +kernel)) hc_z
    obtain ⟨e497_z, e498_z⟩ := hc_z
    exact Or.inr ⟨by omega, e497_z, by rw [e498_z]; exact es_z⟩
theorem kc_125_23_3 {n : Nat} {h h' : am_H} {r : Option Value} {nb s u y z : Int32} (es_z : rg_v h 142 0 = s) (s0_z : 0 ≤ s.toInt) (s4_z : s.toInt ≤ 24) (D : h 0 2 = .ref 23) (en : rg_v h 23 2 = nb) (hc_z : rn n am_m125 0 (lv_args 0 [.ref 0, .int 3, .int y, .int z, .int u]) [] h r h') : (((3 : Int) < nb.toInt ∧ 1 ≤ y.toInt ∧ y.toInt ≤ 20 ∧ 0 ≤ z.toInt ∧ z.toInt ≤ 9999 ∧ y.toInt ≤ (rg_v h 43 3).toInt ∧ s.toInt < 24) ∧ r = some (.int ((s + 1) - 1)) ∧ rg_v h' 142 0 = s + 1) ∨ (¬ ((3 : Int) < nb.toInt ∧ 1 ≤ y.toInt ∧ y.toInt ≤ 20 ∧ 0 ≤ z.toInt ∧ z.toInt ≤ 9999 ∧ y.toInt ≤ (rg_v h 43 3).toInt ∧ s.toInt < 24) ∧ r = some (.int (-1)) ∧ rg_v h' 142 0 = s) := by
  have zm1_z : ((-1) : Int32).toInt = (-1) := by decide
  have z0_z : (0 : Int32).toInt = 0 := by decide
  have z1_z : (1 : Int32).toInt = 1 := by decide
  have z2_z : (2 : Int32).toInt = 2 := by decide
  have z3_z : (3 : Int32).toInt = 3 := by decide
  have z20_z : (20 : Int32).toInt = 20 := by decide
  have z24_z : (24 : Int32).toInt = 24 := by decide
  have z9999_z : (9999 : Int32).toInt = 9999 := by decide
  have g0_z : am_get (lv_args 0 [.ref 0, .int 3, .int y, .int z, .int u]) 0 = some (.ref 0) := rfl
  have g1_z : am_get (lv_args 0 [.ref 0, .int 3, .int y, .int z, .int u]) 1 = some (.int 3) := rfl
  have g2_z : am_get (lv_args 0 [.ref 0, .int 3, .int y, .int z, .int u]) 2 = some (.int y) := rfl
  have g3_z : am_get (lv_args 0 [.ref 0, .int 3, .int y, .int z, .int u]) 3 = some (.int z) := rfl
  have g4_z : am_get (lv_args 0 [.ref 0, .int 3, .int y, .int z, .int u]) 4 = some (.int u) := rfl
  replace hc_z := rn_aload_n (am_cur_of (i := (0, 1, .aload_n 0, (0, 0, 0), 0)) (by decide +kernel)) g0_z hc_z
  replace hc_z := rn_iload_n (am_cur_of (i := (1, 1, .iload_n 1, (0, 0, 0), 0)) (by decide +kernel)) g1_z hc_z
  replace hc_z := rn_callV (M' := am_m70) (o := 0) (ar := [.int 3]) (rest := []) (L := lv_args 0 [.ref 0, .int 3]) (am_cur_of (i := (2, 3, .invokevirtual 135, (70, 943, 3), 0)) (by decide +kernel)) rfl rfl rfl rfl hc_z
  obtain ⟨r499_z, h500_z, q501_z, hc_z⟩ := hc_z
  rcases kc_70_23 D en q501_z with ⟨u502_z, rfl, y503_z⟩ | ⟨u502_z, rfl, y503_z⟩
  · replace y503_z := y503_z.symm
    subst y503_z
    replace hc_z : rn _ _ _ _ [.int 1] _ _ _ := hc_z
    replace hc_z := rn_ifF (am_cur_of (i := (5, 3, .ifCond .eq 24, (14, 0, 0), 0)) (by decide +kernel)) (by decide) hc_z
    replace hc_z := rn_iload_n (am_cur_of (i := (8, 1, .iload_n 2, (0, 0, 0), 0)) (by decide +kernel)) g2_z hc_z
    replace hc_z := rn_iconst (w := 1) (am_cur_of (i := (9, 1, .iconst 1, (0, 0, 0), 0)) (by decide +kernel)) (by decide) hc_z
    replace hc_z := rn_bipush (w := 20) (am_cur_of (i := (10, 2, .bipush 20, (0, 0, 0), 0)) (by decide +kernel)) (by decide) hc_z
    replace hc_z := rn_callS (M' := am_m62) (ar := [.int 20, .int 1, .int y]) (rest := []) (L := lv_args 0 [.int y, .int 1, .int 20]) (am_cur_of (i := (12, 3, .invokestatic 172, (62, 908, 3), 0)) (by decide +kernel)) rfl rfl rfl rfl hc_z
    obtain ⟨r504_z, h505_z, q506_z, hc_z⟩ := hc_z
    rcases kc_62 q506_z with ⟨b507_z, rfl, y508_z⟩ | ⟨b509_z, b510_z, rfl, y511_z⟩ | ⟨b512_z, b513_z, rfl, y514_z⟩
    · replace y508_z := y508_z.symm
      subst y508_z
      replace b507_z : y.toInt < (1 : Int32).toInt := b507_z
      replace hc_z : rn _ _ _ _ [.int 0] _ _ _ := hc_z
      replace hc_z := rn_ifT (am_cur_of (i := (15, 3, .ifCond .eq 14, (14, 0, 0), 0)) (by decide +kernel)) (by decide) hc_z
      replace hc_z := rn_iconst (w := (-1)) (am_cur_of (i := (29, 1, .iconst (-1), (0, 0, 0), 0)) (by decide +kernel)) (by decide) hc_z
      replace hc_z := rn_iret (am_cur_of (i := (30, 1, .ireturn, (0, 0, 0), 0)) (by decide +kernel)) hc_z
      obtain ⟨e515_z, e516_z⟩ := hc_z
      exact Or.inr ⟨by omega, e515_z, by rw [e516_z]; exact es_z⟩
    · replace y511_z := y511_z.symm
      subst y511_z
      replace b509_z : (1 : Int32).toInt ≤ y.toInt := b509_z
      replace b510_z : (20 : Int32).toInt < y.toInt := b510_z
      replace hc_z : rn _ _ _ _ [.int 0] _ _ _ := hc_z
      replace hc_z := rn_ifT (am_cur_of (i := (15, 3, .ifCond .eq 14, (14, 0, 0), 0)) (by decide +kernel)) (by decide) hc_z
      replace hc_z := rn_iconst (w := (-1)) (am_cur_of (i := (29, 1, .iconst (-1), (0, 0, 0), 0)) (by decide +kernel)) (by decide) hc_z
      replace hc_z := rn_iret (am_cur_of (i := (30, 1, .ireturn, (0, 0, 0), 0)) (by decide +kernel)) hc_z
      obtain ⟨e517_z, e518_z⟩ := hc_z
      exact Or.inr ⟨by omega, e517_z, by rw [e518_z]; exact es_z⟩
    · replace y514_z := y514_z.symm
      subst y514_z
      replace b512_z : (1 : Int32).toInt ≤ y.toInt := b512_z
      replace b513_z : y.toInt ≤ (20 : Int32).toInt := b513_z
      replace hc_z : rn _ _ _ _ [.int 1] _ _ _ := hc_z
      replace hc_z := rn_ifF (am_cur_of (i := (15, 3, .ifCond .eq 14, (14, 0, 0), 0)) (by decide +kernel)) (by decide) hc_z
      replace hc_z := rn_iload_n (am_cur_of (i := (18, 1, .iload_n 3, (0, 0, 0), 0)) (by decide +kernel)) g3_z hc_z
      replace hc_z := rn_iconst (w := 0) (am_cur_of (i := (19, 1, .iconst 0, (0, 0, 0), 0)) (by decide +kernel)) (by decide) hc_z
      replace hc_z := rn_sipush (w := 9999) (am_cur_of (i := (20, 3, .sipush 9999, (0, 0, 0), 0)) (by decide +kernel)) (by decide) hc_z
      replace hc_z := rn_callS (M' := am_m62) (ar := [.int 9999, .int 0, .int z]) (rest := []) (L := lv_args 0 [.int z, .int 0, .int 9999]) (am_cur_of (i := (23, 3, .invokestatic 172, (62, 908, 3), 0)) (by decide +kernel)) rfl rfl rfl rfl hc_z
      obtain ⟨r519_z, h520_z, q521_z, hc_z⟩ := hc_z
      rcases kc_62 q521_z with ⟨b522_z, rfl, y523_z⟩ | ⟨b524_z, b525_z, rfl, y526_z⟩ | ⟨b527_z, b528_z, rfl, y529_z⟩
      · replace y523_z := y523_z.symm
        subst y523_z
        replace b522_z : z.toInt < (0 : Int32).toInt := b522_z
        replace hc_z : rn _ _ _ _ [.int 0] _ _ _ := hc_z
        replace hc_z := rn_ifF (am_cur_of (i := (26, 3, .ifCond .ne 5, (16, 0, 0), 0)) (by decide +kernel)) (by decide) hc_z
        replace hc_z := rn_iconst (w := (-1)) (am_cur_of (i := (29, 1, .iconst (-1), (0, 0, 0), 0)) (by decide +kernel)) (by decide) hc_z
        replace hc_z := rn_iret (am_cur_of (i := (30, 1, .ireturn, (0, 0, 0), 0)) (by decide +kernel)) hc_z
        obtain ⟨e530_z, e531_z⟩ := hc_z
        exact Or.inr ⟨by omega, e530_z, by rw [e531_z]; exact es_z⟩
      · replace y526_z := y526_z.symm
        subst y526_z
        replace b524_z : (0 : Int32).toInt ≤ z.toInt := b524_z
        replace b525_z : (9999 : Int32).toInt < z.toInt := b525_z
        replace hc_z : rn _ _ _ _ [.int 0] _ _ _ := hc_z
        replace hc_z := rn_ifF (am_cur_of (i := (26, 3, .ifCond .ne 5, (16, 0, 0), 0)) (by decide +kernel)) (by decide) hc_z
        replace hc_z := rn_iconst (w := (-1)) (am_cur_of (i := (29, 1, .iconst (-1), (0, 0, 0), 0)) (by decide +kernel)) (by decide) hc_z
        replace hc_z := rn_iret (am_cur_of (i := (30, 1, .ireturn, (0, 0, 0), 0)) (by decide +kernel)) hc_z
        obtain ⟨e532_z, e533_z⟩ := hc_z
        exact Or.inr ⟨by omega, e532_z, by rw [e533_z]; exact es_z⟩
      · replace y529_z := y529_z.symm
        subst y529_z
        replace b527_z : (0 : Int32).toInt ≤ z.toInt := b527_z
        replace b528_z : z.toInt ≤ (9999 : Int32).toInt := b528_z
        replace hc_z : rn _ _ _ _ [.int 1] _ _ _ := hc_z
        replace hc_z := rn_ifT (am_cur_of (i := (26, 3, .ifCond .ne 5, (16, 0, 0), 0)) (by decide +kernel)) (by decide) hc_z
        replace hc_z := rn_iload_n (am_cur_of (i := (31, 1, .iload_n 2, (0, 0, 0), 0)) (by decide +kernel)) g2_z hc_z
        replace hc_z := rn_aload_n (am_cur_of (i := (32, 1, .aload_n 0, (0, 0, 0), 0)) (by decide +kernel)) g0_z hc_z
        replace hc_z := rn_getM (x := 23) (am_cur_of (i := (33, 3, .getfield 18, (0, 2, 663), 0)) (by decide +kernel)) D hc_z
        replace hc_z := rn_getR (x := 24) (am_cur_of (i := (36, 3, .getfield 189, (1, 3, 264), 0)) (by decide +kernel)) (by decide +kernel) hc_z
        replace hc_z := rn_iload_n (am_cur_of (i := (39, 1, .iload_n 1, (0, 0, 0), 0)) (by decide +kernel)) g1_z hc_z
        replace hc_z := rn_aaload (s := "AirBed$Blower") (N := 4) (q := 3) (am_cur_of (i := (40, 1, .aaload, (0, 0, 0), 0)) (by decide +kernel)) (by decide +kernel) rfl hc_z
        obtain ⟨p534_z, hc_z⟩ := hc_z
        rw [show rg_r h 24 3 = 43 from rp_bc23 (rn_G hc_z) (q := 3) (by decide)] at hc_z
        replace hc_z := rn_getI (v := rg_v h 43 3) (am_cur_of (i := (41, 3, .getfield 290, (3, 3, 212), 0)) (by decide +kernel)) (by decide +kernel) rfl hc_z
        replace hc_z := rn_cmp (am_cur_of (i := (44, 3, .if_icmp .le 5, (26, 0, 0), 0)) (by decide +kernel)) hc_z
        rcases hc_z with ⟨b535_z, hc_z⟩ | ⟨b535_z, hc_z⟩
        · replace b535_z : y.toInt ≤ (rg_v h 43 3).toInt := b535_z
          replace hc_z := rn_aload_n (am_cur_of (i := (49, 1, .aload_n 0, (0, 0, 0), 0)) (by decide +kernel)) g0_z hc_z
          replace hc_z := rn_getR (x := 142) (am_cur_of (i := (50, 3, .getfield 57, (0, 10, 671), 0)) (by decide +kernel)) (by decide +kernel) hc_z
          replace hc_z := rn_iload (am_cur_of (i := (53, 2, .iload 4, (0, 0, 0), 0)) (by decide +kernel)) g4_z hc_z
          replace hc_z := rn_if (am_cur_of (i := (55, 3, .ifCond .eq 7, (32, 0, 0), 0)) (by decide +kernel)) hc_z
          rcases hc_z with ⟨b536_z, hc_z⟩ | ⟨b536_z, hc_z⟩
          · replace b536_z : u = (0 : Int32) ∧ u.toInt = (0 : Int32).toInt := b536_z
            replace hc_z := rn_iconst (w := 0) (am_cur_of (i := (62, 1, .iconst 0, (0, 0, 0), 0)) (by decide +kernel)) (by decide) hc_z
            replace hc_z := rn_iload_n (am_cur_of (i := (63, 1, .iload_n 1, (0, 0, 0), 0)) (by decide +kernel)) g1_z hc_z
            replace hc_z := rn_iload_n (am_cur_of (i := (64, 1, .iload_n 2, (0, 0, 0), 0)) (by decide +kernel)) g2_z hc_z
            replace hc_z := rn_iload_n (am_cur_of (i := (65, 1, .iload_n 3, (0, 0, 0), 0)) (by decide +kernel)) g3_z hc_z
            replace hc_z := rn_callV (M' := am_m126) (o := 142) (ar := [.int z, .int y, .int 3, .int 0]) (rest := []) (L := lv_args 0 [.ref 142, .int 0, .int 3, .int y, .int z]) (am_cur_of (i := (66, 3, .invokevirtual 328, (126, 1189, 3), 0)) (by decide +kernel)) rfl rfl rfl rfl hc_z
            obtain ⟨r537_z, h538_z, q539_z, hc_z⟩ := hc_z
            rcases kc_126 es_z s0_z s4_z q539_z with ⟨lt, rfl, ez⟩ | ⟨lt, rfl, ez⟩
            · replace hc_z : rn _ _ _ _ [.int ((s + 1) - 1)] _ _ _ := hc_z
              replace hc_z := rn_iret (am_cur_of (i := (69, 1, .ireturn, (0, 0, 0), 0)) (by decide +kernel)) hc_z
              obtain ⟨e540_z, e541_z⟩ := hc_z
              exact Or.inl ⟨by omega, e540_z, by rw [e541_z]; exact ez⟩
            · replace hc_z : rn _ _ _ _ [.int (-1)] _ _ _ := hc_z
              replace hc_z := rn_iret (am_cur_of (i := (69, 1, .ireturn, (0, 0, 0), 0)) (by decide +kernel)) hc_z
              obtain ⟨e542_z, e543_z⟩ := hc_z
              exact Or.inr ⟨by omega, e542_z, by rw [e543_z]; exact ez⟩
          · replace b536_z : ¬ u = (0 : Int32) ∧ ¬ u.toInt = (0 : Int32).toInt := b536_z
            replace hc_z := rn_iconst (w := 1) (am_cur_of (i := (58, 1, .iconst 1, (0, 0, 0), 0)) (by decide +kernel)) (by decide) hc_z
            replace hc_z := rn_goto (am_cur_of (i := (59, 3, .goto 4, (33, 0, 0), 0)) (by decide +kernel)) hc_z
            replace hc_z := rn_iload_n (am_cur_of (i := (63, 1, .iload_n 1, (0, 0, 0), 0)) (by decide +kernel)) g1_z hc_z
            replace hc_z := rn_iload_n (am_cur_of (i := (64, 1, .iload_n 2, (0, 0, 0), 0)) (by decide +kernel)) g2_z hc_z
            replace hc_z := rn_iload_n (am_cur_of (i := (65, 1, .iload_n 3, (0, 0, 0), 0)) (by decide +kernel)) g3_z hc_z
            replace hc_z := rn_callV (M' := am_m126) (o := 142) (ar := [.int z, .int y, .int 3, .int 1]) (rest := []) (L := lv_args 0 [.ref 142, .int 1, .int 3, .int y, .int z]) (am_cur_of (i := (66, 3, .invokevirtual 328, (126, 1189, 3), 0)) (by decide +kernel)) rfl rfl rfl rfl hc_z
            obtain ⟨r544_z, h545_z, q546_z, hc_z⟩ := hc_z
            rcases kc_126 es_z s0_z s4_z q546_z with ⟨lt, rfl, ez⟩ | ⟨lt, rfl, ez⟩
            · replace hc_z : rn _ _ _ _ [.int ((s + 1) - 1)] _ _ _ := hc_z
              replace hc_z := rn_iret (am_cur_of (i := (69, 1, .ireturn, (0, 0, 0), 0)) (by decide +kernel)) hc_z
              obtain ⟨e547_z, e548_z⟩ := hc_z
              exact Or.inl ⟨by omega, e547_z, by rw [e548_z]; exact ez⟩
            · replace hc_z : rn _ _ _ _ [.int (-1)] _ _ _ := hc_z
              replace hc_z := rn_iret (am_cur_of (i := (69, 1, .ireturn, (0, 0, 0), 0)) (by decide +kernel)) hc_z
              obtain ⟨e549_z, e550_z⟩ := hc_z
              exact Or.inr ⟨by omega, e549_z, by rw [e550_z]; exact ez⟩
        · replace b535_z : (rg_v h 43 3).toInt < y.toInt := b535_z
          replace hc_z := rn_iconst (w := (-1)) (am_cur_of (i := (47, 1, .iconst (-1), (0, 0, 0), 0)) (by decide +kernel)) (by decide) hc_z
          replace hc_z := rn_iret (am_cur_of (i := (48, 1, .ireturn, (0, 0, 0), 0)) (by decide +kernel)) hc_z
          obtain ⟨e551_z, e552_z⟩ := hc_z
          exact Or.inr ⟨by omega, e551_z, by rw [e552_z]; exact es_z⟩
  · replace y503_z := y503_z.symm
    subst y503_z
    replace hc_z : rn _ _ _ _ [.int 0] _ _ _ := hc_z
    replace hc_z := rn_ifT (am_cur_of (i := (5, 3, .ifCond .eq 24, (14, 0, 0), 0)) (by decide +kernel)) (by decide) hc_z
    replace hc_z := rn_iconst (w := (-1)) (am_cur_of (i := (29, 1, .iconst (-1), (0, 0, 0), 0)) (by decide +kernel)) (by decide) hc_z
    replace hc_z := rn_iret (am_cur_of (i := (30, 1, .ireturn, (0, 0, 0), 0)) (by decide +kernel)) hc_z
    obtain ⟨e553_z, e554_z⟩ := hc_z
    exact Or.inr ⟨by omega, e553_z, by rw [e554_z]; exact es_z⟩
theorem kc_125_23_n {n : Nat} {h h' : am_H} {r : Option Value} {nb u x y z : Int32} (D : h 0 2 = .ref 23) (en : rg_v h 23 2 = nb) (hn_z : ¬ (0 ≤ x.toInt ∧ x.toInt < nb.toInt)) (hc_z : rn n am_m125 0 (lv_args 0 [.ref 0, .int x, .int y, .int z, .int u]) [] h r h') : r = some (.int (-1)) ∧ h' = h := by
  have zm1_z : ((-1) : Int32).toInt = (-1) := by decide
  have z0_z : (0 : Int32).toInt = 0 := by decide
  have z1_z : (1 : Int32).toInt = 1 := by decide
  have z2_z : (2 : Int32).toInt = 2 := by decide
  have z3_z : (3 : Int32).toInt = 3 := by decide
  have z20_z : (20 : Int32).toInt = 20 := by decide
  have z24_z : (24 : Int32).toInt = 24 := by decide
  have z9999_z : (9999 : Int32).toInt = 9999 := by decide
  have g0_z : am_get (lv_args 0 [.ref 0, .int x, .int y, .int z, .int u]) 0 = some (.ref 0) := rfl
  have g1_z : am_get (lv_args 0 [.ref 0, .int x, .int y, .int z, .int u]) 1 = some (.int x) := rfl
  have g2_z : am_get (lv_args 0 [.ref 0, .int x, .int y, .int z, .int u]) 2 = some (.int y) := rfl
  have g3_z : am_get (lv_args 0 [.ref 0, .int x, .int y, .int z, .int u]) 3 = some (.int z) := rfl
  have g4_z : am_get (lv_args 0 [.ref 0, .int x, .int y, .int z, .int u]) 4 = some (.int u) := rfl
  replace hc_z := rn_aload_n (am_cur_of (i := (0, 1, .aload_n 0, (0, 0, 0), 0)) (by decide +kernel)) g0_z hc_z
  replace hc_z := rn_iload_n (am_cur_of (i := (1, 1, .iload_n 1, (0, 0, 0), 0)) (by decide +kernel)) g1_z hc_z
  replace hc_z := rn_callV (M' := am_m70) (o := 0) (ar := [.int x]) (rest := []) (L := lv_args 0 [.ref 0, .int x]) (am_cur_of (i := (2, 3, .invokevirtual 135, (70, 943, 3), 0)) (by decide +kernel)) rfl rfl rfl rfl hc_z
  obtain ⟨r555_z, h556_z, q557_z, hc_z⟩ := hc_z
  rcases kc_70_23 D en q557_z with ⟨u558_z, rfl, y559_z⟩ | ⟨u558_z, rfl, y559_z⟩
  · exact absurd u558_z hn_z
  · replace y559_z := y559_z.symm
    subst y559_z
    replace hc_z : rn _ _ _ _ [.int 0] _ _ _ := hc_z
    replace hc_z := rn_ifT (am_cur_of (i := (5, 3, .ifCond .eq 24, (14, 0, 0), 0)) (by decide +kernel)) (by decide) hc_z
    replace hc_z := rn_iconst (w := (-1)) (am_cur_of (i := (29, 1, .iconst (-1), (0, 0, 0), 0)) (by decide +kernel)) (by decide) hc_z
    replace hc_z := rn_iret (am_cur_of (i := (30, 1, .ireturn, (0, 0, 0), 0)) (by decide +kernel)) hc_z
    obtain ⟨e560_z, e561_z⟩ := hc_z
    exact ⟨e560_z, e561_z⟩
theorem kc_185 {n : Nat} {g g' : am_H} {r : Option Value} {nb x : Int32}  (en : rg_v g 164 12 = nb) (nb0_z : 0 ≤ nb.toInt) (nb4_z : nb.toInt ≤ 4) (hm_z : rn n am_m185 0 (lv_args 0 [.ref 164, .int x]) [] g r g') : ((0 ≤ x.toInt ∧ x.toInt < nb.toInt) ∧ r = some (.int 1) ∧ g' = g) ∨ (¬ (0 ≤ x.toInt ∧ x.toInt < nb.toInt) ∧ r = some (.int 0) ∧ g' = g) := by
  have zm1_z : ((-1) : Int32).toInt = (-1) := by decide
  have z0_z : (0 : Int32).toInt = 0 := by decide
  have z1_z : (1 : Int32).toInt = 1 := by decide
  have z2_z : (2 : Int32).toInt = 2 := by decide
  have z3_z : (3 : Int32).toInt = 3 := by decide
  have z20_z : (20 : Int32).toInt = 20 := by decide
  have z24_z : (24 : Int32).toInt = 24 := by decide
  have z9999_z : (9999 : Int32).toInt = 9999 := by decide
  have g0_z : am_get (lv_args 0 [.ref 164, .int x]) 0 = some (.ref 164) := rfl
  have g1_z : am_get (lv_args 0 [.ref 164, .int x]) 1 = some (.int x) := rfl
  replace hm_z := rn_iload_n (am_cur_of (i := (0, 1, .iload_n 1, (0, 0, 0), 0)) (by decide +kernel)) g1_z hm_z
  replace hm_z := rn_if (am_cur_of (i := (1, 3, .ifCond .lt 15, (8, 0, 0), 0)) (by decide +kernel)) hm_z
  rcases hm_z with ⟨b570_z, hm_z⟩ | ⟨b570_z, hm_z⟩
  · replace b570_z : x.toInt < (0 : Int32).toInt := b570_z
    replace hm_z := rn_iconst (w := 0) (am_cur_of (i := (16, 1, .iconst 0, (0, 0, 0), 0)) (by decide +kernel)) (by decide) hm_z
    replace hm_z := rn_iret (am_cur_of (i := (17, 1, .ireturn, (0, 0, 0), 0)) (by decide +kernel)) hm_z
    obtain ⟨e571_z, e572_z⟩ := hm_z
    exact Or.inr ⟨by omega, e571_z, e572_z⟩
  · replace b570_z : (0 : Int32).toInt ≤ x.toInt := b570_z
    replace hm_z := rn_iload_n (am_cur_of (i := (4, 1, .iload_n 1, (0, 0, 0), 0)) (by decide +kernel)) g1_z hm_z
    replace hm_z := rn_aload_n (am_cur_of (i := (5, 1, .aload_n 0, (0, 0, 0), 0)) (by decide +kernel)) g0_z hm_z
    replace hm_z := rn_getI (v := nb) (am_cur_of (i := (6, 3, .getfield 219, (12, 12, 1396), 0)) (by decide +kernel)) (by decide +kernel) en hm_z
    replace hm_z := rn_cmp (am_cur_of (i := (9, 3, .if_icmp .ge 7, (8, 0, 0), 0)) (by decide +kernel)) hm_z
    rcases hm_z with ⟨b573_z, hm_z⟩ | ⟨b573_z, hm_z⟩
    · replace b573_z : nb.toInt ≤ x.toInt := b573_z
      replace hm_z := rn_iconst (w := 0) (am_cur_of (i := (16, 1, .iconst 0, (0, 0, 0), 0)) (by decide +kernel)) (by decide) hm_z
      replace hm_z := rn_iret (am_cur_of (i := (17, 1, .ireturn, (0, 0, 0), 0)) (by decide +kernel)) hm_z
      obtain ⟨e574_z, e575_z⟩ := hm_z
      exact Or.inr ⟨by omega, e574_z, e575_z⟩
    · replace b573_z : x.toInt < nb.toInt := b573_z
      replace hm_z := rn_iconst (w := 1) (am_cur_of (i := (12, 1, .iconst 1, (0, 0, 0), 0)) (by decide +kernel)) (by decide) hm_z
      replace hm_z := rn_goto (am_cur_of (i := (13, 3, .goto 4, (9, 0, 0), 0)) (by decide +kernel)) hm_z
      replace hm_z := rn_iret (am_cur_of (i := (17, 1, .ireturn, (0, 0, 0), 0)) (by decide +kernel)) hm_z
      obtain ⟨e576_z, e577_z⟩ := hm_z
      exact Or.inl ⟨by omega, e576_z, e577_z⟩
theorem kc_240_0 {n : Nat} {g g' : am_H} {r : Option Value} {nb s u y z : Int32} (es_z : rg_v g 164 73 = s) (s0_z : 0 ≤ s.toInt) (s4_z : s.toInt ≤ 24) (en : rg_v g 164 12 = nb) (nb0_z : 0 ≤ nb.toInt) (nb4_z : nb.toInt ≤ 4) (hm_z : rn n am_m240 0 (lv_args 0 [.ref 164, .int 0, .int y, .int z, .int u]) [] g r g') : (((0 : Int) < nb.toInt ∧ 1 ≤ y.toInt ∧ 0 ≤ z.toInt ∧ z.toInt ≤ 9999 ∧ y.toInt ≤ (rg_v g 170 2).toInt ∧ s.toInt < 24) ∧ r = some (.int ((s + 1) - 1)) ∧ rg_v g' 164 73 = s + 1) ∨ (¬ ((0 : Int) < nb.toInt ∧ 1 ≤ y.toInt ∧ 0 ≤ z.toInt ∧ z.toInt ≤ 9999 ∧ y.toInt ≤ (rg_v g 170 2).toInt ∧ s.toInt < 24) ∧ r = some (.int (-1)) ∧ rg_v g' 164 73 = s) := by
  have zm1_z : ((-1) : Int32).toInt = (-1) := by decide
  have z0_z : (0 : Int32).toInt = 0 := by decide
  have z1_z : (1 : Int32).toInt = 1 := by decide
  have z2_z : (2 : Int32).toInt = 2 := by decide
  have z3_z : (3 : Int32).toInt = 3 := by decide
  have z20_z : (20 : Int32).toInt = 20 := by decide
  have z24_z : (24 : Int32).toInt = 24 := by decide
  have z9999_z : (9999 : Int32).toInt = 9999 := by decide
  have g0_z : am_get (lv_args 0 [.ref 164, .int 0, .int y, .int z, .int u]) 0 = some (.ref 164) := rfl
  have g1_z : am_get (lv_args 0 [.ref 164, .int 0, .int y, .int z, .int u]) 1 = some (.int 0) := rfl
  have g2_z : am_get (lv_args 0 [.ref 164, .int 0, .int y, .int z, .int u]) 2 = some (.int y) := rfl
  have g3_z : am_get (lv_args 0 [.ref 164, .int 0, .int y, .int z, .int u]) 3 = some (.int z) := rfl
  have g4_z : am_get (lv_args 0 [.ref 164, .int 0, .int y, .int z, .int u]) 4 = some (.int u) := rfl
  replace hm_z := rn_aload_n (am_cur_of (i := (0, 1, .aload_n 0, (0, 0, 0), 0)) (by decide +kernel)) g0_z hm_z
  replace hm_z := rn_iconst (w := 0) (am_cur_of (i := (1, 1, .iconst 0, (0, 0, 0), 0)) (by decide +kernel)) (by decide) hm_z
  replace hm_z := rn_put (am_cur_of (i := (2, 3, .putfield 139, (12, 2, 1386), 0)) (by decide +kernel)) (by decide +kernel) hm_z
  replace hm_z := rn_aload_n (am_cur_of (i := (5, 1, .aload_n 0, (0, 0, 0), 0)) (by decide +kernel)) g0_z hm_z
  replace hm_z := rn_getI (v := s) (am_cur_of (i := (6, 3, .getfield 368, (12, 73, 1457), 0)) (by decide +kernel)) (by decide +kernel) (show rg_v (am_up g 164 2 (.int 0)) 164 73 = s from es_z) hm_z
  replace hm_z := rn_bipush (w := 24) (am_cur_of (i := (9, 2, .bipush 24, (0, 0, 0), 0)) (by decide +kernel)) (by decide) hm_z
  replace hm_z := rn_cmp (am_cur_of (i := (11, 3, .if_icmp .eq 41, (28, 0, 0), 0)) (by decide +kernel)) hm_z
  rcases hm_z with ⟨b578_z, hm_z⟩ | ⟨b578_z, hm_z⟩
  · replace b578_z : s = (24 : Int32) ∧ s.toInt = (24 : Int32).toInt := b578_z
    replace hm_z := rn_iconst (w := (-1)) (am_cur_of (i := (52, 1, .iconst (-1), (0, 0, 0), 0)) (by decide +kernel)) (by decide) hm_z
    replace hm_z := rn_goto (am_cur_of (i := (53, 3, .goto 20, (40, 0, 0), 0)) (by decide +kernel)) hm_z
    replace hm_z := rn_iret (am_cur_of (i := (73, 1, .ireturn, (0, 0, 0), 0)) (by decide +kernel)) hm_z
    obtain ⟨e579_z, e580_z⟩ := hm_z
    exact Or.inr ⟨by omega, e579_z, by rw [e580_z]; exact (show rg_v (am_up g 164 2 (.int 0)) 164 73 = s from es_z)⟩
  · replace b578_z : ¬ s = (24 : Int32) ∧ ¬ s.toInt = (24 : Int32).toInt := b578_z
    replace hm_z := rn_aload_n (am_cur_of (i := (14, 1, .aload_n 0, (0, 0, 0), 0)) (by decide +kernel)) g0_z hm_z
    replace hm_z := rn_iload_n (am_cur_of (i := (15, 1, .iload_n 1, (0, 0, 0), 0)) (by decide +kernel)) g1_z hm_z
    replace hm_z := rn_callV (M' := am_m185) (o := 164) (ar := [.int 0]) (rest := []) (L := lv_args 0 [.ref 164, .int 0]) (am_cur_of (i := (16, 3, .invokevirtual 420, (185, 1770, 3), 0)) (by decide +kernel)) rfl rfl rfl rfl hm_z
    obtain ⟨r581_z, h582_z, q583_z, hm_z⟩ := hm_z
    rcases kc_185 (nb := nb) (show rg_v (am_up g 164 2 (.int 0)) 164 12 = nb from en) nb0_z nb4_z q583_z with ⟨u584_z, rfl, y585_z⟩ | ⟨u584_z, rfl, y585_z⟩
    · replace y585_z := y585_z.symm
      subst y585_z
      replace hm_z : rn _ _ _ _ [.int 1] _ _ _ := hm_z
      replace hm_z := rn_ifF (am_cur_of (i := (19, 3, .ifCond .eq 33, (28, 0, 0), 0)) (by decide +kernel)) (by decide) hm_z
      replace hm_z := rn_iload_n (am_cur_of (i := (22, 1, .iload_n 2, (0, 0, 0), 0)) (by decide +kernel)) g2_z hm_z
      replace hm_z := rn_iconst (w := 1) (am_cur_of (i := (23, 1, .iconst 1, (0, 0, 0), 0)) (by decide +kernel)) (by decide) hm_z
      replace hm_z := rn_aload_n (am_cur_of (i := (24, 1, .aload_n 0, (0, 0, 0), 0)) (by decide +kernel)) g0_z hm_z
      replace hm_z := rn_getR (x := 170) (am_cur_of (i := (25, 3, .getfield 30, (12, 25, 1409), 0)) (by decide +kernel)) (by decide +kernel) hm_z
      replace hm_z := rn_bipush (w := 7) (am_cur_of (i := (28, 2, .bipush 7, (0, 0, 0), 0)) (by decide +kernel)) (by decide) hm_z
      replace hm_z := rn_iload_n (am_cur_of (i := (30, 1, .iload_n 1, (0, 0, 0), 0)) (by decide +kernel)) g1_z hm_z
      replace hm_z := rn_imul (w := 0) (am_cur_of (i := (31, 1, .imul, (0, 0, 0), 0)) (by decide +kernel)) (by decide) hm_z
      replace hm_z := rn_iconst (w := 2) (am_cur_of (i := (32, 1, .iconst 2, (0, 0, 0), 0)) (by decide +kernel)) (by decide) hm_z
      replace hm_z := rn_iadd (w := 2) (am_cur_of (i := (33, 1, .iadd, (0, 0, 0), 0)) (by decide +kernel)) (by decide) hm_z
      replace hm_z := rn_iaload (N := 56) (q := 2) (v := rg_v g 170 2) (am_cur_of (i := (34, 1, .iaload, (0, 0, 0), 0)) (by decide +kernel)) (by decide +kernel) rfl (show rg_v (am_up g 164 2 (.int 0)) 170 2 = rg_v g 170 2 from rfl) hm_z
      obtain ⟨p586_z, hm_z⟩ := hm_z
      replace hm_z := rn_callS (M' := am_m162) (ar := [.int (rg_v g 170 2), .int 1, .int y]) (rest := []) (L := lv_args 0 [.int y, .int 1, .int (rg_v g 170 2)]) (am_cur_of (i := (35, 3, .invokestatic 184, (162, 1681, 3), 0)) (by decide +kernel)) rfl rfl rfl rfl hm_z
      obtain ⟨r587_z, h588_z, q589_z, hm_z⟩ := hm_z
      rcases kc_162 q589_z with ⟨b590_z, rfl, y591_z⟩ | ⟨b592_z, b593_z, rfl, y594_z⟩ | ⟨b595_z, b596_z, rfl, y597_z⟩
      · replace y591_z := y591_z.symm
        subst y591_z
        replace b590_z : y.toInt < (1 : Int32).toInt := b590_z
        replace hm_z : rn _ _ _ _ [.int 0] _ _ _ := hm_z
        replace hm_z := rn_ifT (am_cur_of (i := (38, 3, .ifCond .eq 14, (28, 0, 0), 0)) (by decide +kernel)) (by decide) hm_z
        replace hm_z := rn_iconst (w := (-1)) (am_cur_of (i := (52, 1, .iconst (-1), (0, 0, 0), 0)) (by decide +kernel)) (by decide) hm_z
        replace hm_z := rn_goto (am_cur_of (i := (53, 3, .goto 20, (40, 0, 0), 0)) (by decide +kernel)) hm_z
        replace hm_z := rn_iret (am_cur_of (i := (73, 1, .ireturn, (0, 0, 0), 0)) (by decide +kernel)) hm_z
        obtain ⟨e598_z, e599_z⟩ := hm_z
        exact Or.inr ⟨by omega, e598_z, by rw [e599_z]; exact (show rg_v (am_up g 164 2 (.int 0)) 164 73 = s from es_z)⟩
      · replace y594_z := y594_z.symm
        subst y594_z
        replace b592_z : (1 : Int32).toInt ≤ y.toInt := b592_z
        replace b593_z : (rg_v g 170 2).toInt < y.toInt := b593_z
        replace hm_z : rn _ _ _ _ [.int 0] _ _ _ := hm_z
        replace hm_z := rn_ifT (am_cur_of (i := (38, 3, .ifCond .eq 14, (28, 0, 0), 0)) (by decide +kernel)) (by decide) hm_z
        replace hm_z := rn_iconst (w := (-1)) (am_cur_of (i := (52, 1, .iconst (-1), (0, 0, 0), 0)) (by decide +kernel)) (by decide) hm_z
        replace hm_z := rn_goto (am_cur_of (i := (53, 3, .goto 20, (40, 0, 0), 0)) (by decide +kernel)) hm_z
        replace hm_z := rn_iret (am_cur_of (i := (73, 1, .ireturn, (0, 0, 0), 0)) (by decide +kernel)) hm_z
        obtain ⟨e600_z, e601_z⟩ := hm_z
        exact Or.inr ⟨by omega, e600_z, by rw [e601_z]; exact (show rg_v (am_up g 164 2 (.int 0)) 164 73 = s from es_z)⟩
      · replace y597_z := y597_z.symm
        subst y597_z
        replace b595_z : (1 : Int32).toInt ≤ y.toInt := b595_z
        replace b596_z : y.toInt ≤ (rg_v g 170 2).toInt := b596_z
        replace hm_z : rn _ _ _ _ [.int 1] _ _ _ := hm_z
        replace hm_z := rn_ifF (am_cur_of (i := (38, 3, .ifCond .eq 14, (28, 0, 0), 0)) (by decide +kernel)) (by decide) hm_z
        replace hm_z := rn_iload_n (am_cur_of (i := (41, 1, .iload_n 3, (0, 0, 0), 0)) (by decide +kernel)) g3_z hm_z
        replace hm_z := rn_iconst (w := 0) (am_cur_of (i := (42, 1, .iconst 0, (0, 0, 0), 0)) (by decide +kernel)) (by decide) hm_z
        replace hm_z := rn_sipush (w := 9999) (am_cur_of (i := (43, 3, .sipush 9999, (0, 0, 0), 0)) (by decide +kernel)) (by decide) hm_z
        replace hm_z := rn_callS (M' := am_m162) (ar := [.int 9999, .int 0, .int z]) (rest := []) (L := lv_args 0 [.int z, .int 0, .int 9999]) (am_cur_of (i := (46, 3, .invokestatic 184, (162, 1681, 3), 0)) (by decide +kernel)) rfl rfl rfl rfl hm_z
        obtain ⟨r602_z, h603_z, q604_z, hm_z⟩ := hm_z
        rcases kc_162 q604_z with ⟨b605_z, rfl, y606_z⟩ | ⟨b607_z, b608_z, rfl, y609_z⟩ | ⟨b610_z, b611_z, rfl, y612_z⟩
        · replace y606_z := y606_z.symm
          subst y606_z
          replace b605_z : z.toInt < (0 : Int32).toInt := b605_z
          replace hm_z : rn _ _ _ _ [.int 0] _ _ _ := hm_z
          replace hm_z := rn_ifF (am_cur_of (i := (49, 3, .ifCond .ne 7, (30, 0, 0), 0)) (by decide +kernel)) (by decide) hm_z
          replace hm_z := rn_iconst (w := (-1)) (am_cur_of (i := (52, 1, .iconst (-1), (0, 0, 0), 0)) (by decide +kernel)) (by decide) hm_z
          replace hm_z := rn_goto (am_cur_of (i := (53, 3, .goto 20, (40, 0, 0), 0)) (by decide +kernel)) hm_z
          replace hm_z := rn_iret (am_cur_of (i := (73, 1, .ireturn, (0, 0, 0), 0)) (by decide +kernel)) hm_z
          obtain ⟨e613_z, e614_z⟩ := hm_z
          exact Or.inr ⟨by omega, e613_z, by rw [e614_z]; exact (show rg_v (am_up g 164 2 (.int 0)) 164 73 = s from es_z)⟩
        · replace y609_z := y609_z.symm
          subst y609_z
          replace b607_z : (0 : Int32).toInt ≤ z.toInt := b607_z
          replace b608_z : (9999 : Int32).toInt < z.toInt := b608_z
          replace hm_z : rn _ _ _ _ [.int 0] _ _ _ := hm_z
          replace hm_z := rn_ifF (am_cur_of (i := (49, 3, .ifCond .ne 7, (30, 0, 0), 0)) (by decide +kernel)) (by decide) hm_z
          replace hm_z := rn_iconst (w := (-1)) (am_cur_of (i := (52, 1, .iconst (-1), (0, 0, 0), 0)) (by decide +kernel)) (by decide) hm_z
          replace hm_z := rn_goto (am_cur_of (i := (53, 3, .goto 20, (40, 0, 0), 0)) (by decide +kernel)) hm_z
          replace hm_z := rn_iret (am_cur_of (i := (73, 1, .ireturn, (0, 0, 0), 0)) (by decide +kernel)) hm_z
          obtain ⟨e615_z, e616_z⟩ := hm_z
          exact Or.inr ⟨by omega, e615_z, by rw [e616_z]; exact (show rg_v (am_up g 164 2 (.int 0)) 164 73 = s from es_z)⟩
        · replace y612_z := y612_z.symm
          subst y612_z
          replace b610_z : (0 : Int32).toInt ≤ z.toInt := b610_z
          replace b611_z : z.toInt ≤ (9999 : Int32).toInt := b611_z
          replace hm_z : rn _ _ _ _ [.int 1] _ _ _ := hm_z
          replace hm_z := rn_ifT (am_cur_of (i := (49, 3, .ifCond .ne 7, (30, 0, 0), 0)) (by decide +kernel)) (by decide) hm_z
          replace hm_z := rn_aload_n (am_cur_of (i := (56, 1, .aload_n 0, (0, 0, 0), 0)) (by decide +kernel)) g0_z hm_z
          replace hm_z := rn_iload_n (am_cur_of (i := (57, 1, .iload_n 1, (0, 0, 0), 0)) (by decide +kernel)) g1_z hm_z
          replace hm_z := rn_iload_n (am_cur_of (i := (58, 1, .iload_n 2, (0, 0, 0), 0)) (by decide +kernel)) g2_z hm_z
          replace hm_z := rn_iload_n (am_cur_of (i := (59, 1, .iload_n 3, (0, 0, 0), 0)) (by decide +kernel)) g3_z hm_z
          replace hm_z := rn_iload (am_cur_of (i := (60, 2, .iload 4, (0, 0, 0), 0)) (by decide +kernel)) g4_z hm_z
          replace hm_z := rn_if (am_cur_of (i := (62, 3, .ifCond .eq 7, (38, 0, 0), 0)) (by decide +kernel)) hm_z
          rcases hm_z with ⟨b617_z, hm_z⟩ | ⟨b617_z, hm_z⟩
          · replace b617_z : u = (0 : Int32) ∧ u.toInt = (0 : Int32).toInt := b617_z
            replace hm_z := rn_iconst (w := 0) (am_cur_of (i := (69, 1, .iconst 0, (0, 0, 0), 0)) (by decide +kernel)) (by decide) hm_z
            replace hm_z := rn_callV (M' := am_m241) (o := 164) (ar := [.int 0, .int z, .int y, .int 0]) (rest := []) (L := lv_args 0 [.ref 164, .int 0, .int y, .int z, .int 0]) (am_cur_of (i := (70, 3, .invokevirtual 520, (241, 1995, 3), 0)) (by decide +kernel)) rfl rfl rfl rfl hm_z
            obtain ⟨r618_z, h619_z, q620_z, hm_z⟩ := hm_z
            obtain ⟨rfl, ez⟩ := kc_241 (show rg_v (am_up g 164 2 (.int 0)) 164 73 = s from es_z) s0_z s4_z q620_z
            replace hm_z : rn _ _ _ _ [.int ((s + 1) - 1)] _ _ _ := hm_z
            replace hm_z := rn_iret (am_cur_of (i := (73, 1, .ireturn, (0, 0, 0), 0)) (by decide +kernel)) hm_z
            obtain ⟨e621_z, e622_z⟩ := hm_z
            exact Or.inl ⟨by omega, e621_z, by rw [e622_z]; exact ez⟩
          · replace b617_z : ¬ u = (0 : Int32) ∧ ¬ u.toInt = (0 : Int32).toInt := b617_z
            replace hm_z := rn_iconst (w := 1) (am_cur_of (i := (65, 1, .iconst 1, (0, 0, 0), 0)) (by decide +kernel)) (by decide) hm_z
            replace hm_z := rn_goto (am_cur_of (i := (66, 3, .goto 4, (39, 0, 0), 0)) (by decide +kernel)) hm_z
            replace hm_z := rn_callV (M' := am_m241) (o := 164) (ar := [.int 1, .int z, .int y, .int 0]) (rest := []) (L := lv_args 0 [.ref 164, .int 0, .int y, .int z, .int 1]) (am_cur_of (i := (70, 3, .invokevirtual 520, (241, 1995, 3), 0)) (by decide +kernel)) rfl rfl rfl rfl hm_z
            obtain ⟨r623_z, h624_z, q625_z, hm_z⟩ := hm_z
            obtain ⟨rfl, ez⟩ := kc_241 (show rg_v (am_up g 164 2 (.int 0)) 164 73 = s from es_z) s0_z s4_z q625_z
            replace hm_z : rn _ _ _ _ [.int ((s + 1) - 1)] _ _ _ := hm_z
            replace hm_z := rn_iret (am_cur_of (i := (73, 1, .ireturn, (0, 0, 0), 0)) (by decide +kernel)) hm_z
            obtain ⟨e626_z, e627_z⟩ := hm_z
            exact Or.inl ⟨by omega, e626_z, by rw [e627_z]; exact ez⟩
    · replace y585_z := y585_z.symm
      subst y585_z
      replace hm_z : rn _ _ _ _ [.int 0] _ _ _ := hm_z
      replace hm_z := rn_ifT (am_cur_of (i := (19, 3, .ifCond .eq 33, (28, 0, 0), 0)) (by decide +kernel)) (by decide) hm_z
      replace hm_z := rn_iconst (w := (-1)) (am_cur_of (i := (52, 1, .iconst (-1), (0, 0, 0), 0)) (by decide +kernel)) (by decide) hm_z
      replace hm_z := rn_goto (am_cur_of (i := (53, 3, .goto 20, (40, 0, 0), 0)) (by decide +kernel)) hm_z
      replace hm_z := rn_iret (am_cur_of (i := (73, 1, .ireturn, (0, 0, 0), 0)) (by decide +kernel)) hm_z
      obtain ⟨e628_z, e629_z⟩ := hm_z
      exact Or.inr ⟨by omega, e628_z, by rw [e629_z]; exact (show rg_v (am_up g 164 2 (.int 0)) 164 73 = s from es_z)⟩
theorem kc_240_1 {n : Nat} {g g' : am_H} {r : Option Value} {nb s u y z : Int32} (es_z : rg_v g 164 73 = s) (s0_z : 0 ≤ s.toInt) (s4_z : s.toInt ≤ 24) (en : rg_v g 164 12 = nb) (nb0_z : 0 ≤ nb.toInt) (nb4_z : nb.toInt ≤ 4) (hm_z : rn n am_m240 0 (lv_args 0 [.ref 164, .int 1, .int y, .int z, .int u]) [] g r g') : (((1 : Int) < nb.toInt ∧ 1 ≤ y.toInt ∧ 0 ≤ z.toInt ∧ z.toInt ≤ 9999 ∧ y.toInt ≤ (rg_v g 170 9).toInt ∧ s.toInt < 24) ∧ r = some (.int ((s + 1) - 1)) ∧ rg_v g' 164 73 = s + 1) ∨ (¬ ((1 : Int) < nb.toInt ∧ 1 ≤ y.toInt ∧ 0 ≤ z.toInt ∧ z.toInt ≤ 9999 ∧ y.toInt ≤ (rg_v g 170 9).toInt ∧ s.toInt < 24) ∧ r = some (.int (-1)) ∧ rg_v g' 164 73 = s) := by
  have zm1_z : ((-1) : Int32).toInt = (-1) := by decide
  have z0_z : (0 : Int32).toInt = 0 := by decide
  have z1_z : (1 : Int32).toInt = 1 := by decide
  have z2_z : (2 : Int32).toInt = 2 := by decide
  have z3_z : (3 : Int32).toInt = 3 := by decide
  have z20_z : (20 : Int32).toInt = 20 := by decide
  have z24_z : (24 : Int32).toInt = 24 := by decide
  have z9999_z : (9999 : Int32).toInt = 9999 := by decide
  have g0_z : am_get (lv_args 0 [.ref 164, .int 1, .int y, .int z, .int u]) 0 = some (.ref 164) := rfl
  have g1_z : am_get (lv_args 0 [.ref 164, .int 1, .int y, .int z, .int u]) 1 = some (.int 1) := rfl
  have g2_z : am_get (lv_args 0 [.ref 164, .int 1, .int y, .int z, .int u]) 2 = some (.int y) := rfl
  have g3_z : am_get (lv_args 0 [.ref 164, .int 1, .int y, .int z, .int u]) 3 = some (.int z) := rfl
  have g4_z : am_get (lv_args 0 [.ref 164, .int 1, .int y, .int z, .int u]) 4 = some (.int u) := rfl
  replace hm_z := rn_aload_n (am_cur_of (i := (0, 1, .aload_n 0, (0, 0, 0), 0)) (by decide +kernel)) g0_z hm_z
  replace hm_z := rn_iconst (w := 0) (am_cur_of (i := (1, 1, .iconst 0, (0, 0, 0), 0)) (by decide +kernel)) (by decide) hm_z
  replace hm_z := rn_put (am_cur_of (i := (2, 3, .putfield 139, (12, 2, 1386), 0)) (by decide +kernel)) (by decide +kernel) hm_z
  replace hm_z := rn_aload_n (am_cur_of (i := (5, 1, .aload_n 0, (0, 0, 0), 0)) (by decide +kernel)) g0_z hm_z
  replace hm_z := rn_getI (v := s) (am_cur_of (i := (6, 3, .getfield 368, (12, 73, 1457), 0)) (by decide +kernel)) (by decide +kernel) (show rg_v (am_up g 164 2 (.int 0)) 164 73 = s from es_z) hm_z
  replace hm_z := rn_bipush (w := 24) (am_cur_of (i := (9, 2, .bipush 24, (0, 0, 0), 0)) (by decide +kernel)) (by decide) hm_z
  replace hm_z := rn_cmp (am_cur_of (i := (11, 3, .if_icmp .eq 41, (28, 0, 0), 0)) (by decide +kernel)) hm_z
  rcases hm_z with ⟨b630_z, hm_z⟩ | ⟨b630_z, hm_z⟩
  · replace b630_z : s = (24 : Int32) ∧ s.toInt = (24 : Int32).toInt := b630_z
    replace hm_z := rn_iconst (w := (-1)) (am_cur_of (i := (52, 1, .iconst (-1), (0, 0, 0), 0)) (by decide +kernel)) (by decide) hm_z
    replace hm_z := rn_goto (am_cur_of (i := (53, 3, .goto 20, (40, 0, 0), 0)) (by decide +kernel)) hm_z
    replace hm_z := rn_iret (am_cur_of (i := (73, 1, .ireturn, (0, 0, 0), 0)) (by decide +kernel)) hm_z
    obtain ⟨e631_z, e632_z⟩ := hm_z
    exact Or.inr ⟨by omega, e631_z, by rw [e632_z]; exact (show rg_v (am_up g 164 2 (.int 0)) 164 73 = s from es_z)⟩
  · replace b630_z : ¬ s = (24 : Int32) ∧ ¬ s.toInt = (24 : Int32).toInt := b630_z
    replace hm_z := rn_aload_n (am_cur_of (i := (14, 1, .aload_n 0, (0, 0, 0), 0)) (by decide +kernel)) g0_z hm_z
    replace hm_z := rn_iload_n (am_cur_of (i := (15, 1, .iload_n 1, (0, 0, 0), 0)) (by decide +kernel)) g1_z hm_z
    replace hm_z := rn_callV (M' := am_m185) (o := 164) (ar := [.int 1]) (rest := []) (L := lv_args 0 [.ref 164, .int 1]) (am_cur_of (i := (16, 3, .invokevirtual 420, (185, 1770, 3), 0)) (by decide +kernel)) rfl rfl rfl rfl hm_z
    obtain ⟨r633_z, h634_z, q635_z, hm_z⟩ := hm_z
    rcases kc_185 (nb := nb) (show rg_v (am_up g 164 2 (.int 0)) 164 12 = nb from en) nb0_z nb4_z q635_z with ⟨u636_z, rfl, y637_z⟩ | ⟨u636_z, rfl, y637_z⟩
    · replace y637_z := y637_z.symm
      subst y637_z
      replace hm_z : rn _ _ _ _ [.int 1] _ _ _ := hm_z
      replace hm_z := rn_ifF (am_cur_of (i := (19, 3, .ifCond .eq 33, (28, 0, 0), 0)) (by decide +kernel)) (by decide) hm_z
      replace hm_z := rn_iload_n (am_cur_of (i := (22, 1, .iload_n 2, (0, 0, 0), 0)) (by decide +kernel)) g2_z hm_z
      replace hm_z := rn_iconst (w := 1) (am_cur_of (i := (23, 1, .iconst 1, (0, 0, 0), 0)) (by decide +kernel)) (by decide) hm_z
      replace hm_z := rn_aload_n (am_cur_of (i := (24, 1, .aload_n 0, (0, 0, 0), 0)) (by decide +kernel)) g0_z hm_z
      replace hm_z := rn_getR (x := 170) (am_cur_of (i := (25, 3, .getfield 30, (12, 25, 1409), 0)) (by decide +kernel)) (by decide +kernel) hm_z
      replace hm_z := rn_bipush (w := 7) (am_cur_of (i := (28, 2, .bipush 7, (0, 0, 0), 0)) (by decide +kernel)) (by decide) hm_z
      replace hm_z := rn_iload_n (am_cur_of (i := (30, 1, .iload_n 1, (0, 0, 0), 0)) (by decide +kernel)) g1_z hm_z
      replace hm_z := rn_imul (w := 7) (am_cur_of (i := (31, 1, .imul, (0, 0, 0), 0)) (by decide +kernel)) (by decide) hm_z
      replace hm_z := rn_iconst (w := 2) (am_cur_of (i := (32, 1, .iconst 2, (0, 0, 0), 0)) (by decide +kernel)) (by decide) hm_z
      replace hm_z := rn_iadd (w := 9) (am_cur_of (i := (33, 1, .iadd, (0, 0, 0), 0)) (by decide +kernel)) (by decide) hm_z
      replace hm_z := rn_iaload (N := 56) (q := 9) (v := rg_v g 170 9) (am_cur_of (i := (34, 1, .iaload, (0, 0, 0), 0)) (by decide +kernel)) (by decide +kernel) rfl (show rg_v (am_up g 164 2 (.int 0)) 170 9 = rg_v g 170 9 from rfl) hm_z
      obtain ⟨p638_z, hm_z⟩ := hm_z
      replace hm_z := rn_callS (M' := am_m162) (ar := [.int (rg_v g 170 9), .int 1, .int y]) (rest := []) (L := lv_args 0 [.int y, .int 1, .int (rg_v g 170 9)]) (am_cur_of (i := (35, 3, .invokestatic 184, (162, 1681, 3), 0)) (by decide +kernel)) rfl rfl rfl rfl hm_z
      obtain ⟨r639_z, h640_z, q641_z, hm_z⟩ := hm_z
      rcases kc_162 q641_z with ⟨b642_z, rfl, y643_z⟩ | ⟨b644_z, b645_z, rfl, y646_z⟩ | ⟨b647_z, b648_z, rfl, y649_z⟩
      · replace y643_z := y643_z.symm
        subst y643_z
        replace b642_z : y.toInt < (1 : Int32).toInt := b642_z
        replace hm_z : rn _ _ _ _ [.int 0] _ _ _ := hm_z
        replace hm_z := rn_ifT (am_cur_of (i := (38, 3, .ifCond .eq 14, (28, 0, 0), 0)) (by decide +kernel)) (by decide) hm_z
        replace hm_z := rn_iconst (w := (-1)) (am_cur_of (i := (52, 1, .iconst (-1), (0, 0, 0), 0)) (by decide +kernel)) (by decide) hm_z
        replace hm_z := rn_goto (am_cur_of (i := (53, 3, .goto 20, (40, 0, 0), 0)) (by decide +kernel)) hm_z
        replace hm_z := rn_iret (am_cur_of (i := (73, 1, .ireturn, (0, 0, 0), 0)) (by decide +kernel)) hm_z
        obtain ⟨e650_z, e651_z⟩ := hm_z
        exact Or.inr ⟨by omega, e650_z, by rw [e651_z]; exact (show rg_v (am_up g 164 2 (.int 0)) 164 73 = s from es_z)⟩
      · replace y646_z := y646_z.symm
        subst y646_z
        replace b644_z : (1 : Int32).toInt ≤ y.toInt := b644_z
        replace b645_z : (rg_v g 170 9).toInt < y.toInt := b645_z
        replace hm_z : rn _ _ _ _ [.int 0] _ _ _ := hm_z
        replace hm_z := rn_ifT (am_cur_of (i := (38, 3, .ifCond .eq 14, (28, 0, 0), 0)) (by decide +kernel)) (by decide) hm_z
        replace hm_z := rn_iconst (w := (-1)) (am_cur_of (i := (52, 1, .iconst (-1), (0, 0, 0), 0)) (by decide +kernel)) (by decide) hm_z
        replace hm_z := rn_goto (am_cur_of (i := (53, 3, .goto 20, (40, 0, 0), 0)) (by decide +kernel)) hm_z
        replace hm_z := rn_iret (am_cur_of (i := (73, 1, .ireturn, (0, 0, 0), 0)) (by decide +kernel)) hm_z
        obtain ⟨e652_z, e653_z⟩ := hm_z
        exact Or.inr ⟨by omega, e652_z, by rw [e653_z]; exact (show rg_v (am_up g 164 2 (.int 0)) 164 73 = s from es_z)⟩
      · replace y649_z := y649_z.symm
        subst y649_z
        replace b647_z : (1 : Int32).toInt ≤ y.toInt := b647_z
        replace b648_z : y.toInt ≤ (rg_v g 170 9).toInt := b648_z
        replace hm_z : rn _ _ _ _ [.int 1] _ _ _ := hm_z
        replace hm_z := rn_ifF (am_cur_of (i := (38, 3, .ifCond .eq 14, (28, 0, 0), 0)) (by decide +kernel)) (by decide) hm_z
        replace hm_z := rn_iload_n (am_cur_of (i := (41, 1, .iload_n 3, (0, 0, 0), 0)) (by decide +kernel)) g3_z hm_z
        replace hm_z := rn_iconst (w := 0) (am_cur_of (i := (42, 1, .iconst 0, (0, 0, 0), 0)) (by decide +kernel)) (by decide) hm_z
        replace hm_z := rn_sipush (w := 9999) (am_cur_of (i := (43, 3, .sipush 9999, (0, 0, 0), 0)) (by decide +kernel)) (by decide) hm_z
        replace hm_z := rn_callS (M' := am_m162) (ar := [.int 9999, .int 0, .int z]) (rest := []) (L := lv_args 0 [.int z, .int 0, .int 9999]) (am_cur_of (i := (46, 3, .invokestatic 184, (162, 1681, 3), 0)) (by decide +kernel)) rfl rfl rfl rfl hm_z
        obtain ⟨r654_z, h655_z, q656_z, hm_z⟩ := hm_z
        rcases kc_162 q656_z with ⟨b657_z, rfl, y658_z⟩ | ⟨b659_z, b660_z, rfl, y661_z⟩ | ⟨b662_z, b663_z, rfl, y664_z⟩
        · replace y658_z := y658_z.symm
          subst y658_z
          replace b657_z : z.toInt < (0 : Int32).toInt := b657_z
          replace hm_z : rn _ _ _ _ [.int 0] _ _ _ := hm_z
          replace hm_z := rn_ifF (am_cur_of (i := (49, 3, .ifCond .ne 7, (30, 0, 0), 0)) (by decide +kernel)) (by decide) hm_z
          replace hm_z := rn_iconst (w := (-1)) (am_cur_of (i := (52, 1, .iconst (-1), (0, 0, 0), 0)) (by decide +kernel)) (by decide) hm_z
          replace hm_z := rn_goto (am_cur_of (i := (53, 3, .goto 20, (40, 0, 0), 0)) (by decide +kernel)) hm_z
          replace hm_z := rn_iret (am_cur_of (i := (73, 1, .ireturn, (0, 0, 0), 0)) (by decide +kernel)) hm_z
          obtain ⟨e665_z, e666_z⟩ := hm_z
          exact Or.inr ⟨by omega, e665_z, by rw [e666_z]; exact (show rg_v (am_up g 164 2 (.int 0)) 164 73 = s from es_z)⟩
        · replace y661_z := y661_z.symm
          subst y661_z
          replace b659_z : (0 : Int32).toInt ≤ z.toInt := b659_z
          replace b660_z : (9999 : Int32).toInt < z.toInt := b660_z
          replace hm_z : rn _ _ _ _ [.int 0] _ _ _ := hm_z
          replace hm_z := rn_ifF (am_cur_of (i := (49, 3, .ifCond .ne 7, (30, 0, 0), 0)) (by decide +kernel)) (by decide) hm_z
          replace hm_z := rn_iconst (w := (-1)) (am_cur_of (i := (52, 1, .iconst (-1), (0, 0, 0), 0)) (by decide +kernel)) (by decide) hm_z
          replace hm_z := rn_goto (am_cur_of (i := (53, 3, .goto 20, (40, 0, 0), 0)) (by decide +kernel)) hm_z
          replace hm_z := rn_iret (am_cur_of (i := (73, 1, .ireturn, (0, 0, 0), 0)) (by decide +kernel)) hm_z
          obtain ⟨e667_z, e668_z⟩ := hm_z
          exact Or.inr ⟨by omega, e667_z, by rw [e668_z]; exact (show rg_v (am_up g 164 2 (.int 0)) 164 73 = s from es_z)⟩
        · replace y664_z := y664_z.symm
          subst y664_z
          replace b662_z : (0 : Int32).toInt ≤ z.toInt := b662_z
          replace b663_z : z.toInt ≤ (9999 : Int32).toInt := b663_z
          replace hm_z : rn _ _ _ _ [.int 1] _ _ _ := hm_z
          replace hm_z := rn_ifT (am_cur_of (i := (49, 3, .ifCond .ne 7, (30, 0, 0), 0)) (by decide +kernel)) (by decide) hm_z
          replace hm_z := rn_aload_n (am_cur_of (i := (56, 1, .aload_n 0, (0, 0, 0), 0)) (by decide +kernel)) g0_z hm_z
          replace hm_z := rn_iload_n (am_cur_of (i := (57, 1, .iload_n 1, (0, 0, 0), 0)) (by decide +kernel)) g1_z hm_z
          replace hm_z := rn_iload_n (am_cur_of (i := (58, 1, .iload_n 2, (0, 0, 0), 0)) (by decide +kernel)) g2_z hm_z
          replace hm_z := rn_iload_n (am_cur_of (i := (59, 1, .iload_n 3, (0, 0, 0), 0)) (by decide +kernel)) g3_z hm_z
          replace hm_z := rn_iload (am_cur_of (i := (60, 2, .iload 4, (0, 0, 0), 0)) (by decide +kernel)) g4_z hm_z
          replace hm_z := rn_if (am_cur_of (i := (62, 3, .ifCond .eq 7, (38, 0, 0), 0)) (by decide +kernel)) hm_z
          rcases hm_z with ⟨b669_z, hm_z⟩ | ⟨b669_z, hm_z⟩
          · replace b669_z : u = (0 : Int32) ∧ u.toInt = (0 : Int32).toInt := b669_z
            replace hm_z := rn_iconst (w := 0) (am_cur_of (i := (69, 1, .iconst 0, (0, 0, 0), 0)) (by decide +kernel)) (by decide) hm_z
            replace hm_z := rn_callV (M' := am_m241) (o := 164) (ar := [.int 0, .int z, .int y, .int 1]) (rest := []) (L := lv_args 0 [.ref 164, .int 1, .int y, .int z, .int 0]) (am_cur_of (i := (70, 3, .invokevirtual 520, (241, 1995, 3), 0)) (by decide +kernel)) rfl rfl rfl rfl hm_z
            obtain ⟨r670_z, h671_z, q672_z, hm_z⟩ := hm_z
            obtain ⟨rfl, ez⟩ := kc_241 (show rg_v (am_up g 164 2 (.int 0)) 164 73 = s from es_z) s0_z s4_z q672_z
            replace hm_z : rn _ _ _ _ [.int ((s + 1) - 1)] _ _ _ := hm_z
            replace hm_z := rn_iret (am_cur_of (i := (73, 1, .ireturn, (0, 0, 0), 0)) (by decide +kernel)) hm_z
            obtain ⟨e673_z, e674_z⟩ := hm_z
            exact Or.inl ⟨by omega, e673_z, by rw [e674_z]; exact ez⟩
          · replace b669_z : ¬ u = (0 : Int32) ∧ ¬ u.toInt = (0 : Int32).toInt := b669_z
            replace hm_z := rn_iconst (w := 1) (am_cur_of (i := (65, 1, .iconst 1, (0, 0, 0), 0)) (by decide +kernel)) (by decide) hm_z
            replace hm_z := rn_goto (am_cur_of (i := (66, 3, .goto 4, (39, 0, 0), 0)) (by decide +kernel)) hm_z
            replace hm_z := rn_callV (M' := am_m241) (o := 164) (ar := [.int 1, .int z, .int y, .int 1]) (rest := []) (L := lv_args 0 [.ref 164, .int 1, .int y, .int z, .int 1]) (am_cur_of (i := (70, 3, .invokevirtual 520, (241, 1995, 3), 0)) (by decide +kernel)) rfl rfl rfl rfl hm_z
            obtain ⟨r675_z, h676_z, q677_z, hm_z⟩ := hm_z
            obtain ⟨rfl, ez⟩ := kc_241 (show rg_v (am_up g 164 2 (.int 0)) 164 73 = s from es_z) s0_z s4_z q677_z
            replace hm_z : rn _ _ _ _ [.int ((s + 1) - 1)] _ _ _ := hm_z
            replace hm_z := rn_iret (am_cur_of (i := (73, 1, .ireturn, (0, 0, 0), 0)) (by decide +kernel)) hm_z
            obtain ⟨e678_z, e679_z⟩ := hm_z
            exact Or.inl ⟨by omega, e678_z, by rw [e679_z]; exact ez⟩
    · replace y637_z := y637_z.symm
      subst y637_z
      replace hm_z : rn _ _ _ _ [.int 0] _ _ _ := hm_z
      replace hm_z := rn_ifT (am_cur_of (i := (19, 3, .ifCond .eq 33, (28, 0, 0), 0)) (by decide +kernel)) (by decide) hm_z
      replace hm_z := rn_iconst (w := (-1)) (am_cur_of (i := (52, 1, .iconst (-1), (0, 0, 0), 0)) (by decide +kernel)) (by decide) hm_z
      replace hm_z := rn_goto (am_cur_of (i := (53, 3, .goto 20, (40, 0, 0), 0)) (by decide +kernel)) hm_z
      replace hm_z := rn_iret (am_cur_of (i := (73, 1, .ireturn, (0, 0, 0), 0)) (by decide +kernel)) hm_z
      obtain ⟨e680_z, e681_z⟩ := hm_z
      exact Or.inr ⟨by omega, e680_z, by rw [e681_z]; exact (show rg_v (am_up g 164 2 (.int 0)) 164 73 = s from es_z)⟩
theorem kc_240_2 {n : Nat} {g g' : am_H} {r : Option Value} {nb s u y z : Int32} (es_z : rg_v g 164 73 = s) (s0_z : 0 ≤ s.toInt) (s4_z : s.toInt ≤ 24) (en : rg_v g 164 12 = nb) (nb0_z : 0 ≤ nb.toInt) (nb4_z : nb.toInt ≤ 4) (hm_z : rn n am_m240 0 (lv_args 0 [.ref 164, .int 2, .int y, .int z, .int u]) [] g r g') : (((2 : Int) < nb.toInt ∧ 1 ≤ y.toInt ∧ 0 ≤ z.toInt ∧ z.toInt ≤ 9999 ∧ y.toInt ≤ (rg_v g 170 16).toInt ∧ s.toInt < 24) ∧ r = some (.int ((s + 1) - 1)) ∧ rg_v g' 164 73 = s + 1) ∨ (¬ ((2 : Int) < nb.toInt ∧ 1 ≤ y.toInt ∧ 0 ≤ z.toInt ∧ z.toInt ≤ 9999 ∧ y.toInt ≤ (rg_v g 170 16).toInt ∧ s.toInt < 24) ∧ r = some (.int (-1)) ∧ rg_v g' 164 73 = s) := by
  have zm1_z : ((-1) : Int32).toInt = (-1) := by decide
  have z0_z : (0 : Int32).toInt = 0 := by decide
  have z1_z : (1 : Int32).toInt = 1 := by decide
  have z2_z : (2 : Int32).toInt = 2 := by decide
  have z3_z : (3 : Int32).toInt = 3 := by decide
  have z20_z : (20 : Int32).toInt = 20 := by decide
  have z24_z : (24 : Int32).toInt = 24 := by decide
  have z9999_z : (9999 : Int32).toInt = 9999 := by decide
  have g0_z : am_get (lv_args 0 [.ref 164, .int 2, .int y, .int z, .int u]) 0 = some (.ref 164) := rfl
  have g1_z : am_get (lv_args 0 [.ref 164, .int 2, .int y, .int z, .int u]) 1 = some (.int 2) := rfl
  have g2_z : am_get (lv_args 0 [.ref 164, .int 2, .int y, .int z, .int u]) 2 = some (.int y) := rfl
  have g3_z : am_get (lv_args 0 [.ref 164, .int 2, .int y, .int z, .int u]) 3 = some (.int z) := rfl
  have g4_z : am_get (lv_args 0 [.ref 164, .int 2, .int y, .int z, .int u]) 4 = some (.int u) := rfl
  replace hm_z := rn_aload_n (am_cur_of (i := (0, 1, .aload_n 0, (0, 0, 0), 0)) (by decide +kernel)) g0_z hm_z
  replace hm_z := rn_iconst (w := 0) (am_cur_of (i := (1, 1, .iconst 0, (0, 0, 0), 0)) (by decide +kernel)) (by decide) hm_z
  replace hm_z := rn_put (am_cur_of (i := (2, 3, .putfield 139, (12, 2, 1386), 0)) (by decide +kernel)) (by decide +kernel) hm_z
  replace hm_z := rn_aload_n (am_cur_of (i := (5, 1, .aload_n 0, (0, 0, 0), 0)) (by decide +kernel)) g0_z hm_z
  replace hm_z := rn_getI (v := s) (am_cur_of (i := (6, 3, .getfield 368, (12, 73, 1457), 0)) (by decide +kernel)) (by decide +kernel) (show rg_v (am_up g 164 2 (.int 0)) 164 73 = s from es_z) hm_z
  replace hm_z := rn_bipush (w := 24) (am_cur_of (i := (9, 2, .bipush 24, (0, 0, 0), 0)) (by decide +kernel)) (by decide) hm_z
  replace hm_z := rn_cmp (am_cur_of (i := (11, 3, .if_icmp .eq 41, (28, 0, 0), 0)) (by decide +kernel)) hm_z
  rcases hm_z with ⟨b682_z, hm_z⟩ | ⟨b682_z, hm_z⟩
  · replace b682_z : s = (24 : Int32) ∧ s.toInt = (24 : Int32).toInt := b682_z
    replace hm_z := rn_iconst (w := (-1)) (am_cur_of (i := (52, 1, .iconst (-1), (0, 0, 0), 0)) (by decide +kernel)) (by decide) hm_z
    replace hm_z := rn_goto (am_cur_of (i := (53, 3, .goto 20, (40, 0, 0), 0)) (by decide +kernel)) hm_z
    replace hm_z := rn_iret (am_cur_of (i := (73, 1, .ireturn, (0, 0, 0), 0)) (by decide +kernel)) hm_z
    obtain ⟨e683_z, e684_z⟩ := hm_z
    exact Or.inr ⟨by omega, e683_z, by rw [e684_z]; exact (show rg_v (am_up g 164 2 (.int 0)) 164 73 = s from es_z)⟩
  · replace b682_z : ¬ s = (24 : Int32) ∧ ¬ s.toInt = (24 : Int32).toInt := b682_z
    replace hm_z := rn_aload_n (am_cur_of (i := (14, 1, .aload_n 0, (0, 0, 0), 0)) (by decide +kernel)) g0_z hm_z
    replace hm_z := rn_iload_n (am_cur_of (i := (15, 1, .iload_n 1, (0, 0, 0), 0)) (by decide +kernel)) g1_z hm_z
    replace hm_z := rn_callV (M' := am_m185) (o := 164) (ar := [.int 2]) (rest := []) (L := lv_args 0 [.ref 164, .int 2]) (am_cur_of (i := (16, 3, .invokevirtual 420, (185, 1770, 3), 0)) (by decide +kernel)) rfl rfl rfl rfl hm_z
    obtain ⟨r685_z, h686_z, q687_z, hm_z⟩ := hm_z
    rcases kc_185 (nb := nb) (show rg_v (am_up g 164 2 (.int 0)) 164 12 = nb from en) nb0_z nb4_z q687_z with ⟨u688_z, rfl, y689_z⟩ | ⟨u688_z, rfl, y689_z⟩
    · replace y689_z := y689_z.symm
      subst y689_z
      replace hm_z : rn _ _ _ _ [.int 1] _ _ _ := hm_z
      replace hm_z := rn_ifF (am_cur_of (i := (19, 3, .ifCond .eq 33, (28, 0, 0), 0)) (by decide +kernel)) (by decide) hm_z
      replace hm_z := rn_iload_n (am_cur_of (i := (22, 1, .iload_n 2, (0, 0, 0), 0)) (by decide +kernel)) g2_z hm_z
      replace hm_z := rn_iconst (w := 1) (am_cur_of (i := (23, 1, .iconst 1, (0, 0, 0), 0)) (by decide +kernel)) (by decide) hm_z
      replace hm_z := rn_aload_n (am_cur_of (i := (24, 1, .aload_n 0, (0, 0, 0), 0)) (by decide +kernel)) g0_z hm_z
      replace hm_z := rn_getR (x := 170) (am_cur_of (i := (25, 3, .getfield 30, (12, 25, 1409), 0)) (by decide +kernel)) (by decide +kernel) hm_z
      replace hm_z := rn_bipush (w := 7) (am_cur_of (i := (28, 2, .bipush 7, (0, 0, 0), 0)) (by decide +kernel)) (by decide) hm_z
      replace hm_z := rn_iload_n (am_cur_of (i := (30, 1, .iload_n 1, (0, 0, 0), 0)) (by decide +kernel)) g1_z hm_z
      replace hm_z := rn_imul (w := 14) (am_cur_of (i := (31, 1, .imul, (0, 0, 0), 0)) (by decide +kernel)) (by decide) hm_z
      replace hm_z := rn_iconst (w := 2) (am_cur_of (i := (32, 1, .iconst 2, (0, 0, 0), 0)) (by decide +kernel)) (by decide) hm_z
      replace hm_z := rn_iadd (w := 16) (am_cur_of (i := (33, 1, .iadd, (0, 0, 0), 0)) (by decide +kernel)) (by decide) hm_z
      replace hm_z := rn_iaload (N := 56) (q := 16) (v := rg_v g 170 16) (am_cur_of (i := (34, 1, .iaload, (0, 0, 0), 0)) (by decide +kernel)) (by decide +kernel) rfl (show rg_v (am_up g 164 2 (.int 0)) 170 16 = rg_v g 170 16 from rfl) hm_z
      obtain ⟨p690_z, hm_z⟩ := hm_z
      replace hm_z := rn_callS (M' := am_m162) (ar := [.int (rg_v g 170 16), .int 1, .int y]) (rest := []) (L := lv_args 0 [.int y, .int 1, .int (rg_v g 170 16)]) (am_cur_of (i := (35, 3, .invokestatic 184, (162, 1681, 3), 0)) (by decide +kernel)) rfl rfl rfl rfl hm_z
      obtain ⟨r691_z, h692_z, q693_z, hm_z⟩ := hm_z
      rcases kc_162 q693_z with ⟨b694_z, rfl, y695_z⟩ | ⟨b696_z, b697_z, rfl, y698_z⟩ | ⟨b699_z, b700_z, rfl, y701_z⟩
      · replace y695_z := y695_z.symm
        subst y695_z
        replace b694_z : y.toInt < (1 : Int32).toInt := b694_z
        replace hm_z : rn _ _ _ _ [.int 0] _ _ _ := hm_z
        replace hm_z := rn_ifT (am_cur_of (i := (38, 3, .ifCond .eq 14, (28, 0, 0), 0)) (by decide +kernel)) (by decide) hm_z
        replace hm_z := rn_iconst (w := (-1)) (am_cur_of (i := (52, 1, .iconst (-1), (0, 0, 0), 0)) (by decide +kernel)) (by decide) hm_z
        replace hm_z := rn_goto (am_cur_of (i := (53, 3, .goto 20, (40, 0, 0), 0)) (by decide +kernel)) hm_z
        replace hm_z := rn_iret (am_cur_of (i := (73, 1, .ireturn, (0, 0, 0), 0)) (by decide +kernel)) hm_z
        obtain ⟨e702_z, e703_z⟩ := hm_z
        exact Or.inr ⟨by omega, e702_z, by rw [e703_z]; exact (show rg_v (am_up g 164 2 (.int 0)) 164 73 = s from es_z)⟩
      · replace y698_z := y698_z.symm
        subst y698_z
        replace b696_z : (1 : Int32).toInt ≤ y.toInt := b696_z
        replace b697_z : (rg_v g 170 16).toInt < y.toInt := b697_z
        replace hm_z : rn _ _ _ _ [.int 0] _ _ _ := hm_z
        replace hm_z := rn_ifT (am_cur_of (i := (38, 3, .ifCond .eq 14, (28, 0, 0), 0)) (by decide +kernel)) (by decide) hm_z
        replace hm_z := rn_iconst (w := (-1)) (am_cur_of (i := (52, 1, .iconst (-1), (0, 0, 0), 0)) (by decide +kernel)) (by decide) hm_z
        replace hm_z := rn_goto (am_cur_of (i := (53, 3, .goto 20, (40, 0, 0), 0)) (by decide +kernel)) hm_z
        replace hm_z := rn_iret (am_cur_of (i := (73, 1, .ireturn, (0, 0, 0), 0)) (by decide +kernel)) hm_z
        obtain ⟨e704_z, e705_z⟩ := hm_z
        exact Or.inr ⟨by omega, e704_z, by rw [e705_z]; exact (show rg_v (am_up g 164 2 (.int 0)) 164 73 = s from es_z)⟩
      · replace y701_z := y701_z.symm
        subst y701_z
        replace b699_z : (1 : Int32).toInt ≤ y.toInt := b699_z
        replace b700_z : y.toInt ≤ (rg_v g 170 16).toInt := b700_z
        replace hm_z : rn _ _ _ _ [.int 1] _ _ _ := hm_z
        replace hm_z := rn_ifF (am_cur_of (i := (38, 3, .ifCond .eq 14, (28, 0, 0), 0)) (by decide +kernel)) (by decide) hm_z
        replace hm_z := rn_iload_n (am_cur_of (i := (41, 1, .iload_n 3, (0, 0, 0), 0)) (by decide +kernel)) g3_z hm_z
        replace hm_z := rn_iconst (w := 0) (am_cur_of (i := (42, 1, .iconst 0, (0, 0, 0), 0)) (by decide +kernel)) (by decide) hm_z
        replace hm_z := rn_sipush (w := 9999) (am_cur_of (i := (43, 3, .sipush 9999, (0, 0, 0), 0)) (by decide +kernel)) (by decide) hm_z
        replace hm_z := rn_callS (M' := am_m162) (ar := [.int 9999, .int 0, .int z]) (rest := []) (L := lv_args 0 [.int z, .int 0, .int 9999]) (am_cur_of (i := (46, 3, .invokestatic 184, (162, 1681, 3), 0)) (by decide +kernel)) rfl rfl rfl rfl hm_z
        obtain ⟨r706_z, h707_z, q708_z, hm_z⟩ := hm_z
        rcases kc_162 q708_z with ⟨b709_z, rfl, y710_z⟩ | ⟨b711_z, b712_z, rfl, y713_z⟩ | ⟨b714_z, b715_z, rfl, y716_z⟩
        · replace y710_z := y710_z.symm
          subst y710_z
          replace b709_z : z.toInt < (0 : Int32).toInt := b709_z
          replace hm_z : rn _ _ _ _ [.int 0] _ _ _ := hm_z
          replace hm_z := rn_ifF (am_cur_of (i := (49, 3, .ifCond .ne 7, (30, 0, 0), 0)) (by decide +kernel)) (by decide) hm_z
          replace hm_z := rn_iconst (w := (-1)) (am_cur_of (i := (52, 1, .iconst (-1), (0, 0, 0), 0)) (by decide +kernel)) (by decide) hm_z
          replace hm_z := rn_goto (am_cur_of (i := (53, 3, .goto 20, (40, 0, 0), 0)) (by decide +kernel)) hm_z
          replace hm_z := rn_iret (am_cur_of (i := (73, 1, .ireturn, (0, 0, 0), 0)) (by decide +kernel)) hm_z
          obtain ⟨e717_z, e718_z⟩ := hm_z
          exact Or.inr ⟨by omega, e717_z, by rw [e718_z]; exact (show rg_v (am_up g 164 2 (.int 0)) 164 73 = s from es_z)⟩
        · replace y713_z := y713_z.symm
          subst y713_z
          replace b711_z : (0 : Int32).toInt ≤ z.toInt := b711_z
          replace b712_z : (9999 : Int32).toInt < z.toInt := b712_z
          replace hm_z : rn _ _ _ _ [.int 0] _ _ _ := hm_z
          replace hm_z := rn_ifF (am_cur_of (i := (49, 3, .ifCond .ne 7, (30, 0, 0), 0)) (by decide +kernel)) (by decide) hm_z
          replace hm_z := rn_iconst (w := (-1)) (am_cur_of (i := (52, 1, .iconst (-1), (0, 0, 0), 0)) (by decide +kernel)) (by decide) hm_z
          replace hm_z := rn_goto (am_cur_of (i := (53, 3, .goto 20, (40, 0, 0), 0)) (by decide +kernel)) hm_z
          replace hm_z := rn_iret (am_cur_of (i := (73, 1, .ireturn, (0, 0, 0), 0)) (by decide +kernel)) hm_z
          obtain ⟨e719_z, e720_z⟩ := hm_z
          exact Or.inr ⟨by omega, e719_z, by rw [e720_z]; exact (show rg_v (am_up g 164 2 (.int 0)) 164 73 = s from es_z)⟩
        · replace y716_z := y716_z.symm
          subst y716_z
          replace b714_z : (0 : Int32).toInt ≤ z.toInt := b714_z
          replace b715_z : z.toInt ≤ (9999 : Int32).toInt := b715_z
          replace hm_z : rn _ _ _ _ [.int 1] _ _ _ := hm_z
          replace hm_z := rn_ifT (am_cur_of (i := (49, 3, .ifCond .ne 7, (30, 0, 0), 0)) (by decide +kernel)) (by decide) hm_z
          replace hm_z := rn_aload_n (am_cur_of (i := (56, 1, .aload_n 0, (0, 0, 0), 0)) (by decide +kernel)) g0_z hm_z
          replace hm_z := rn_iload_n (am_cur_of (i := (57, 1, .iload_n 1, (0, 0, 0), 0)) (by decide +kernel)) g1_z hm_z
          replace hm_z := rn_iload_n (am_cur_of (i := (58, 1, .iload_n 2, (0, 0, 0), 0)) (by decide +kernel)) g2_z hm_z
          replace hm_z := rn_iload_n (am_cur_of (i := (59, 1, .iload_n 3, (0, 0, 0), 0)) (by decide +kernel)) g3_z hm_z
          replace hm_z := rn_iload (am_cur_of (i := (60, 2, .iload 4, (0, 0, 0), 0)) (by decide +kernel)) g4_z hm_z
          replace hm_z := rn_if (am_cur_of (i := (62, 3, .ifCond .eq 7, (38, 0, 0), 0)) (by decide +kernel)) hm_z
          rcases hm_z with ⟨b721_z, hm_z⟩ | ⟨b721_z, hm_z⟩
          · replace b721_z : u = (0 : Int32) ∧ u.toInt = (0 : Int32).toInt := b721_z
            replace hm_z := rn_iconst (w := 0) (am_cur_of (i := (69, 1, .iconst 0, (0, 0, 0), 0)) (by decide +kernel)) (by decide) hm_z
            replace hm_z := rn_callV (M' := am_m241) (o := 164) (ar := [.int 0, .int z, .int y, .int 2]) (rest := []) (L := lv_args 0 [.ref 164, .int 2, .int y, .int z, .int 0]) (am_cur_of (i := (70, 3, .invokevirtual 520, (241, 1995, 3), 0)) (by decide +kernel)) rfl rfl rfl rfl hm_z
            obtain ⟨r722_z, h723_z, q724_z, hm_z⟩ := hm_z
            obtain ⟨rfl, ez⟩ := kc_241 (show rg_v (am_up g 164 2 (.int 0)) 164 73 = s from es_z) s0_z s4_z q724_z
            replace hm_z : rn _ _ _ _ [.int ((s + 1) - 1)] _ _ _ := hm_z
            replace hm_z := rn_iret (am_cur_of (i := (73, 1, .ireturn, (0, 0, 0), 0)) (by decide +kernel)) hm_z
            obtain ⟨e725_z, e726_z⟩ := hm_z
            exact Or.inl ⟨by omega, e725_z, by rw [e726_z]; exact ez⟩
          · replace b721_z : ¬ u = (0 : Int32) ∧ ¬ u.toInt = (0 : Int32).toInt := b721_z
            replace hm_z := rn_iconst (w := 1) (am_cur_of (i := (65, 1, .iconst 1, (0, 0, 0), 0)) (by decide +kernel)) (by decide) hm_z
            replace hm_z := rn_goto (am_cur_of (i := (66, 3, .goto 4, (39, 0, 0), 0)) (by decide +kernel)) hm_z
            replace hm_z := rn_callV (M' := am_m241) (o := 164) (ar := [.int 1, .int z, .int y, .int 2]) (rest := []) (L := lv_args 0 [.ref 164, .int 2, .int y, .int z, .int 1]) (am_cur_of (i := (70, 3, .invokevirtual 520, (241, 1995, 3), 0)) (by decide +kernel)) rfl rfl rfl rfl hm_z
            obtain ⟨r727_z, h728_z, q729_z, hm_z⟩ := hm_z
            obtain ⟨rfl, ez⟩ := kc_241 (show rg_v (am_up g 164 2 (.int 0)) 164 73 = s from es_z) s0_z s4_z q729_z
            replace hm_z : rn _ _ _ _ [.int ((s + 1) - 1)] _ _ _ := hm_z
            replace hm_z := rn_iret (am_cur_of (i := (73, 1, .ireturn, (0, 0, 0), 0)) (by decide +kernel)) hm_z
            obtain ⟨e730_z, e731_z⟩ := hm_z
            exact Or.inl ⟨by omega, e730_z, by rw [e731_z]; exact ez⟩
    · replace y689_z := y689_z.symm
      subst y689_z
      replace hm_z : rn _ _ _ _ [.int 0] _ _ _ := hm_z
      replace hm_z := rn_ifT (am_cur_of (i := (19, 3, .ifCond .eq 33, (28, 0, 0), 0)) (by decide +kernel)) (by decide) hm_z
      replace hm_z := rn_iconst (w := (-1)) (am_cur_of (i := (52, 1, .iconst (-1), (0, 0, 0), 0)) (by decide +kernel)) (by decide) hm_z
      replace hm_z := rn_goto (am_cur_of (i := (53, 3, .goto 20, (40, 0, 0), 0)) (by decide +kernel)) hm_z
      replace hm_z := rn_iret (am_cur_of (i := (73, 1, .ireturn, (0, 0, 0), 0)) (by decide +kernel)) hm_z
      obtain ⟨e732_z, e733_z⟩ := hm_z
      exact Or.inr ⟨by omega, e732_z, by rw [e733_z]; exact (show rg_v (am_up g 164 2 (.int 0)) 164 73 = s from es_z)⟩
theorem kc_240_3 {n : Nat} {g g' : am_H} {r : Option Value} {nb s u y z : Int32} (es_z : rg_v g 164 73 = s) (s0_z : 0 ≤ s.toInt) (s4_z : s.toInt ≤ 24) (en : rg_v g 164 12 = nb) (nb0_z : 0 ≤ nb.toInt) (nb4_z : nb.toInt ≤ 4) (hm_z : rn n am_m240 0 (lv_args 0 [.ref 164, .int 3, .int y, .int z, .int u]) [] g r g') : (((3 : Int) < nb.toInt ∧ 1 ≤ y.toInt ∧ 0 ≤ z.toInt ∧ z.toInt ≤ 9999 ∧ y.toInt ≤ (rg_v g 170 23).toInt ∧ s.toInt < 24) ∧ r = some (.int ((s + 1) - 1)) ∧ rg_v g' 164 73 = s + 1) ∨ (¬ ((3 : Int) < nb.toInt ∧ 1 ≤ y.toInt ∧ 0 ≤ z.toInt ∧ z.toInt ≤ 9999 ∧ y.toInt ≤ (rg_v g 170 23).toInt ∧ s.toInt < 24) ∧ r = some (.int (-1)) ∧ rg_v g' 164 73 = s) := by
  have zm1_z : ((-1) : Int32).toInt = (-1) := by decide
  have z0_z : (0 : Int32).toInt = 0 := by decide
  have z1_z : (1 : Int32).toInt = 1 := by decide
  have z2_z : (2 : Int32).toInt = 2 := by decide
  have z3_z : (3 : Int32).toInt = 3 := by decide
  have z20_z : (20 : Int32).toInt = 20 := by decide
  have z24_z : (24 : Int32).toInt = 24 := by decide
  have z9999_z : (9999 : Int32).toInt = 9999 := by decide
  have g0_z : am_get (lv_args 0 [.ref 164, .int 3, .int y, .int z, .int u]) 0 = some (.ref 164) := rfl
  have g1_z : am_get (lv_args 0 [.ref 164, .int 3, .int y, .int z, .int u]) 1 = some (.int 3) := rfl
  have g2_z : am_get (lv_args 0 [.ref 164, .int 3, .int y, .int z, .int u]) 2 = some (.int y) := rfl
  have g3_z : am_get (lv_args 0 [.ref 164, .int 3, .int y, .int z, .int u]) 3 = some (.int z) := rfl
  have g4_z : am_get (lv_args 0 [.ref 164, .int 3, .int y, .int z, .int u]) 4 = some (.int u) := rfl
  replace hm_z := rn_aload_n (am_cur_of (i := (0, 1, .aload_n 0, (0, 0, 0), 0)) (by decide +kernel)) g0_z hm_z
  replace hm_z := rn_iconst (w := 0) (am_cur_of (i := (1, 1, .iconst 0, (0, 0, 0), 0)) (by decide +kernel)) (by decide) hm_z
  replace hm_z := rn_put (am_cur_of (i := (2, 3, .putfield 139, (12, 2, 1386), 0)) (by decide +kernel)) (by decide +kernel) hm_z
  replace hm_z := rn_aload_n (am_cur_of (i := (5, 1, .aload_n 0, (0, 0, 0), 0)) (by decide +kernel)) g0_z hm_z
  replace hm_z := rn_getI (v := s) (am_cur_of (i := (6, 3, .getfield 368, (12, 73, 1457), 0)) (by decide +kernel)) (by decide +kernel) (show rg_v (am_up g 164 2 (.int 0)) 164 73 = s from es_z) hm_z
  replace hm_z := rn_bipush (w := 24) (am_cur_of (i := (9, 2, .bipush 24, (0, 0, 0), 0)) (by decide +kernel)) (by decide) hm_z
  replace hm_z := rn_cmp (am_cur_of (i := (11, 3, .if_icmp .eq 41, (28, 0, 0), 0)) (by decide +kernel)) hm_z
  rcases hm_z with ⟨b734_z, hm_z⟩ | ⟨b734_z, hm_z⟩
  · replace b734_z : s = (24 : Int32) ∧ s.toInt = (24 : Int32).toInt := b734_z
    replace hm_z := rn_iconst (w := (-1)) (am_cur_of (i := (52, 1, .iconst (-1), (0, 0, 0), 0)) (by decide +kernel)) (by decide) hm_z
    replace hm_z := rn_goto (am_cur_of (i := (53, 3, .goto 20, (40, 0, 0), 0)) (by decide +kernel)) hm_z
    replace hm_z := rn_iret (am_cur_of (i := (73, 1, .ireturn, (0, 0, 0), 0)) (by decide +kernel)) hm_z
    obtain ⟨e735_z, e736_z⟩ := hm_z
    exact Or.inr ⟨by omega, e735_z, by rw [e736_z]; exact (show rg_v (am_up g 164 2 (.int 0)) 164 73 = s from es_z)⟩
  · replace b734_z : ¬ s = (24 : Int32) ∧ ¬ s.toInt = (24 : Int32).toInt := b734_z
    replace hm_z := rn_aload_n (am_cur_of (i := (14, 1, .aload_n 0, (0, 0, 0), 0)) (by decide +kernel)) g0_z hm_z
    replace hm_z := rn_iload_n (am_cur_of (i := (15, 1, .iload_n 1, (0, 0, 0), 0)) (by decide +kernel)) g1_z hm_z
    replace hm_z := rn_callV (M' := am_m185) (o := 164) (ar := [.int 3]) (rest := []) (L := lv_args 0 [.ref 164, .int 3]) (am_cur_of (i := (16, 3, .invokevirtual 420, (185, 1770, 3), 0)) (by decide +kernel)) rfl rfl rfl rfl hm_z
    obtain ⟨r737_z, h738_z, q739_z, hm_z⟩ := hm_z
    rcases kc_185 (nb := nb) (show rg_v (am_up g 164 2 (.int 0)) 164 12 = nb from en) nb0_z nb4_z q739_z with ⟨u740_z, rfl, y741_z⟩ | ⟨u740_z, rfl, y741_z⟩
    · replace y741_z := y741_z.symm
      subst y741_z
      replace hm_z : rn _ _ _ _ [.int 1] _ _ _ := hm_z
      replace hm_z := rn_ifF (am_cur_of (i := (19, 3, .ifCond .eq 33, (28, 0, 0), 0)) (by decide +kernel)) (by decide) hm_z
      replace hm_z := rn_iload_n (am_cur_of (i := (22, 1, .iload_n 2, (0, 0, 0), 0)) (by decide +kernel)) g2_z hm_z
      replace hm_z := rn_iconst (w := 1) (am_cur_of (i := (23, 1, .iconst 1, (0, 0, 0), 0)) (by decide +kernel)) (by decide) hm_z
      replace hm_z := rn_aload_n (am_cur_of (i := (24, 1, .aload_n 0, (0, 0, 0), 0)) (by decide +kernel)) g0_z hm_z
      replace hm_z := rn_getR (x := 170) (am_cur_of (i := (25, 3, .getfield 30, (12, 25, 1409), 0)) (by decide +kernel)) (by decide +kernel) hm_z
      replace hm_z := rn_bipush (w := 7) (am_cur_of (i := (28, 2, .bipush 7, (0, 0, 0), 0)) (by decide +kernel)) (by decide) hm_z
      replace hm_z := rn_iload_n (am_cur_of (i := (30, 1, .iload_n 1, (0, 0, 0), 0)) (by decide +kernel)) g1_z hm_z
      replace hm_z := rn_imul (w := 21) (am_cur_of (i := (31, 1, .imul, (0, 0, 0), 0)) (by decide +kernel)) (by decide) hm_z
      replace hm_z := rn_iconst (w := 2) (am_cur_of (i := (32, 1, .iconst 2, (0, 0, 0), 0)) (by decide +kernel)) (by decide) hm_z
      replace hm_z := rn_iadd (w := 23) (am_cur_of (i := (33, 1, .iadd, (0, 0, 0), 0)) (by decide +kernel)) (by decide) hm_z
      replace hm_z := rn_iaload (N := 56) (q := 23) (v := rg_v g 170 23) (am_cur_of (i := (34, 1, .iaload, (0, 0, 0), 0)) (by decide +kernel)) (by decide +kernel) rfl (show rg_v (am_up g 164 2 (.int 0)) 170 23 = rg_v g 170 23 from rfl) hm_z
      obtain ⟨p742_z, hm_z⟩ := hm_z
      replace hm_z := rn_callS (M' := am_m162) (ar := [.int (rg_v g 170 23), .int 1, .int y]) (rest := []) (L := lv_args 0 [.int y, .int 1, .int (rg_v g 170 23)]) (am_cur_of (i := (35, 3, .invokestatic 184, (162, 1681, 3), 0)) (by decide +kernel)) rfl rfl rfl rfl hm_z
      obtain ⟨r743_z, h744_z, q745_z, hm_z⟩ := hm_z
      rcases kc_162 q745_z with ⟨b746_z, rfl, y747_z⟩ | ⟨b748_z, b749_z, rfl, y750_z⟩ | ⟨b751_z, b752_z, rfl, y753_z⟩
      · replace y747_z := y747_z.symm
        subst y747_z
        replace b746_z : y.toInt < (1 : Int32).toInt := b746_z
        replace hm_z : rn _ _ _ _ [.int 0] _ _ _ := hm_z
        replace hm_z := rn_ifT (am_cur_of (i := (38, 3, .ifCond .eq 14, (28, 0, 0), 0)) (by decide +kernel)) (by decide) hm_z
        replace hm_z := rn_iconst (w := (-1)) (am_cur_of (i := (52, 1, .iconst (-1), (0, 0, 0), 0)) (by decide +kernel)) (by decide) hm_z
        replace hm_z := rn_goto (am_cur_of (i := (53, 3, .goto 20, (40, 0, 0), 0)) (by decide +kernel)) hm_z
        replace hm_z := rn_iret (am_cur_of (i := (73, 1, .ireturn, (0, 0, 0), 0)) (by decide +kernel)) hm_z
        obtain ⟨e754_z, e755_z⟩ := hm_z
        exact Or.inr ⟨by omega, e754_z, by rw [e755_z]; exact (show rg_v (am_up g 164 2 (.int 0)) 164 73 = s from es_z)⟩
      · replace y750_z := y750_z.symm
        subst y750_z
        replace b748_z : (1 : Int32).toInt ≤ y.toInt := b748_z
        replace b749_z : (rg_v g 170 23).toInt < y.toInt := b749_z
        replace hm_z : rn _ _ _ _ [.int 0] _ _ _ := hm_z
        replace hm_z := rn_ifT (am_cur_of (i := (38, 3, .ifCond .eq 14, (28, 0, 0), 0)) (by decide +kernel)) (by decide) hm_z
        replace hm_z := rn_iconst (w := (-1)) (am_cur_of (i := (52, 1, .iconst (-1), (0, 0, 0), 0)) (by decide +kernel)) (by decide) hm_z
        replace hm_z := rn_goto (am_cur_of (i := (53, 3, .goto 20, (40, 0, 0), 0)) (by decide +kernel)) hm_z
        replace hm_z := rn_iret (am_cur_of (i := (73, 1, .ireturn, (0, 0, 0), 0)) (by decide +kernel)) hm_z
        obtain ⟨e756_z, e757_z⟩ := hm_z
        exact Or.inr ⟨by omega, e756_z, by rw [e757_z]; exact (show rg_v (am_up g 164 2 (.int 0)) 164 73 = s from es_z)⟩
      · replace y753_z := y753_z.symm
        subst y753_z
        replace b751_z : (1 : Int32).toInt ≤ y.toInt := b751_z
        replace b752_z : y.toInt ≤ (rg_v g 170 23).toInt := b752_z
        replace hm_z : rn _ _ _ _ [.int 1] _ _ _ := hm_z
        replace hm_z := rn_ifF (am_cur_of (i := (38, 3, .ifCond .eq 14, (28, 0, 0), 0)) (by decide +kernel)) (by decide) hm_z
        replace hm_z := rn_iload_n (am_cur_of (i := (41, 1, .iload_n 3, (0, 0, 0), 0)) (by decide +kernel)) g3_z hm_z
        replace hm_z := rn_iconst (w := 0) (am_cur_of (i := (42, 1, .iconst 0, (0, 0, 0), 0)) (by decide +kernel)) (by decide) hm_z
        replace hm_z := rn_sipush (w := 9999) (am_cur_of (i := (43, 3, .sipush 9999, (0, 0, 0), 0)) (by decide +kernel)) (by decide) hm_z
        replace hm_z := rn_callS (M' := am_m162) (ar := [.int 9999, .int 0, .int z]) (rest := []) (L := lv_args 0 [.int z, .int 0, .int 9999]) (am_cur_of (i := (46, 3, .invokestatic 184, (162, 1681, 3), 0)) (by decide +kernel)) rfl rfl rfl rfl hm_z
        obtain ⟨r758_z, h759_z, q760_z, hm_z⟩ := hm_z
        rcases kc_162 q760_z with ⟨b761_z, rfl, y762_z⟩ | ⟨b763_z, b764_z, rfl, y765_z⟩ | ⟨b766_z, b767_z, rfl, y768_z⟩
        · replace y762_z := y762_z.symm
          subst y762_z
          replace b761_z : z.toInt < (0 : Int32).toInt := b761_z
          replace hm_z : rn _ _ _ _ [.int 0] _ _ _ := hm_z
          replace hm_z := rn_ifF (am_cur_of (i := (49, 3, .ifCond .ne 7, (30, 0, 0), 0)) (by decide +kernel)) (by decide) hm_z
          replace hm_z := rn_iconst (w := (-1)) (am_cur_of (i := (52, 1, .iconst (-1), (0, 0, 0), 0)) (by decide +kernel)) (by decide) hm_z
          replace hm_z := rn_goto (am_cur_of (i := (53, 3, .goto 20, (40, 0, 0), 0)) (by decide +kernel)) hm_z
          replace hm_z := rn_iret (am_cur_of (i := (73, 1, .ireturn, (0, 0, 0), 0)) (by decide +kernel)) hm_z
          obtain ⟨e769_z, e770_z⟩ := hm_z
          exact Or.inr ⟨by omega, e769_z, by rw [e770_z]; exact (show rg_v (am_up g 164 2 (.int 0)) 164 73 = s from es_z)⟩
        · replace y765_z := y765_z.symm
          subst y765_z
          replace b763_z : (0 : Int32).toInt ≤ z.toInt := b763_z
          replace b764_z : (9999 : Int32).toInt < z.toInt := b764_z
          replace hm_z : rn _ _ _ _ [.int 0] _ _ _ := hm_z
          replace hm_z := rn_ifF (am_cur_of (i := (49, 3, .ifCond .ne 7, (30, 0, 0), 0)) (by decide +kernel)) (by decide) hm_z
          replace hm_z := rn_iconst (w := (-1)) (am_cur_of (i := (52, 1, .iconst (-1), (0, 0, 0), 0)) (by decide +kernel)) (by decide) hm_z
          replace hm_z := rn_goto (am_cur_of (i := (53, 3, .goto 20, (40, 0, 0), 0)) (by decide +kernel)) hm_z
          replace hm_z := rn_iret (am_cur_of (i := (73, 1, .ireturn, (0, 0, 0), 0)) (by decide +kernel)) hm_z
          obtain ⟨e771_z, e772_z⟩ := hm_z
          exact Or.inr ⟨by omega, e771_z, by rw [e772_z]; exact (show rg_v (am_up g 164 2 (.int 0)) 164 73 = s from es_z)⟩
        · replace y768_z := y768_z.symm
          subst y768_z
          replace b766_z : (0 : Int32).toInt ≤ z.toInt := b766_z
          replace b767_z : z.toInt ≤ (9999 : Int32).toInt := b767_z
          replace hm_z : rn _ _ _ _ [.int 1] _ _ _ := hm_z
          replace hm_z := rn_ifT (am_cur_of (i := (49, 3, .ifCond .ne 7, (30, 0, 0), 0)) (by decide +kernel)) (by decide) hm_z
          replace hm_z := rn_aload_n (am_cur_of (i := (56, 1, .aload_n 0, (0, 0, 0), 0)) (by decide +kernel)) g0_z hm_z
          replace hm_z := rn_iload_n (am_cur_of (i := (57, 1, .iload_n 1, (0, 0, 0), 0)) (by decide +kernel)) g1_z hm_z
          replace hm_z := rn_iload_n (am_cur_of (i := (58, 1, .iload_n 2, (0, 0, 0), 0)) (by decide +kernel)) g2_z hm_z
          replace hm_z := rn_iload_n (am_cur_of (i := (59, 1, .iload_n 3, (0, 0, 0), 0)) (by decide +kernel)) g3_z hm_z
          replace hm_z := rn_iload (am_cur_of (i := (60, 2, .iload 4, (0, 0, 0), 0)) (by decide +kernel)) g4_z hm_z
          replace hm_z := rn_if (am_cur_of (i := (62, 3, .ifCond .eq 7, (38, 0, 0), 0)) (by decide +kernel)) hm_z
          rcases hm_z with ⟨b773_z, hm_z⟩ | ⟨b773_z, hm_z⟩
          · replace b773_z : u = (0 : Int32) ∧ u.toInt = (0 : Int32).toInt := b773_z
            replace hm_z := rn_iconst (w := 0) (am_cur_of (i := (69, 1, .iconst 0, (0, 0, 0), 0)) (by decide +kernel)) (by decide) hm_z
            replace hm_z := rn_callV (M' := am_m241) (o := 164) (ar := [.int 0, .int z, .int y, .int 3]) (rest := []) (L := lv_args 0 [.ref 164, .int 3, .int y, .int z, .int 0]) (am_cur_of (i := (70, 3, .invokevirtual 520, (241, 1995, 3), 0)) (by decide +kernel)) rfl rfl rfl rfl hm_z
            obtain ⟨r774_z, h775_z, q776_z, hm_z⟩ := hm_z
            obtain ⟨rfl, ez⟩ := kc_241 (show rg_v (am_up g 164 2 (.int 0)) 164 73 = s from es_z) s0_z s4_z q776_z
            replace hm_z : rn _ _ _ _ [.int ((s + 1) - 1)] _ _ _ := hm_z
            replace hm_z := rn_iret (am_cur_of (i := (73, 1, .ireturn, (0, 0, 0), 0)) (by decide +kernel)) hm_z
            obtain ⟨e777_z, e778_z⟩ := hm_z
            exact Or.inl ⟨by omega, e777_z, by rw [e778_z]; exact ez⟩
          · replace b773_z : ¬ u = (0 : Int32) ∧ ¬ u.toInt = (0 : Int32).toInt := b773_z
            replace hm_z := rn_iconst (w := 1) (am_cur_of (i := (65, 1, .iconst 1, (0, 0, 0), 0)) (by decide +kernel)) (by decide) hm_z
            replace hm_z := rn_goto (am_cur_of (i := (66, 3, .goto 4, (39, 0, 0), 0)) (by decide +kernel)) hm_z
            replace hm_z := rn_callV (M' := am_m241) (o := 164) (ar := [.int 1, .int z, .int y, .int 3]) (rest := []) (L := lv_args 0 [.ref 164, .int 3, .int y, .int z, .int 1]) (am_cur_of (i := (70, 3, .invokevirtual 520, (241, 1995, 3), 0)) (by decide +kernel)) rfl rfl rfl rfl hm_z
            obtain ⟨r779_z, h780_z, q781_z, hm_z⟩ := hm_z
            obtain ⟨rfl, ez⟩ := kc_241 (show rg_v (am_up g 164 2 (.int 0)) 164 73 = s from es_z) s0_z s4_z q781_z
            replace hm_z : rn _ _ _ _ [.int ((s + 1) - 1)] _ _ _ := hm_z
            replace hm_z := rn_iret (am_cur_of (i := (73, 1, .ireturn, (0, 0, 0), 0)) (by decide +kernel)) hm_z
            obtain ⟨e782_z, e783_z⟩ := hm_z
            exact Or.inl ⟨by omega, e782_z, by rw [e783_z]; exact ez⟩
    · replace y741_z := y741_z.symm
      subst y741_z
      replace hm_z : rn _ _ _ _ [.int 0] _ _ _ := hm_z
      replace hm_z := rn_ifT (am_cur_of (i := (19, 3, .ifCond .eq 33, (28, 0, 0), 0)) (by decide +kernel)) (by decide) hm_z
      replace hm_z := rn_iconst (w := (-1)) (am_cur_of (i := (52, 1, .iconst (-1), (0, 0, 0), 0)) (by decide +kernel)) (by decide) hm_z
      replace hm_z := rn_goto (am_cur_of (i := (53, 3, .goto 20, (40, 0, 0), 0)) (by decide +kernel)) hm_z
      replace hm_z := rn_iret (am_cur_of (i := (73, 1, .ireturn, (0, 0, 0), 0)) (by decide +kernel)) hm_z
      obtain ⟨e784_z, e785_z⟩ := hm_z
      exact Or.inr ⟨by omega, e784_z, by rw [e785_z]; exact (show rg_v (am_up g 164 2 (.int 0)) 164 73 = s from es_z)⟩
theorem kc_240_n {n : Nat} {g g' : am_H} {r : Option Value} {nb s u x y z : Int32} (es_z : rg_v g 164 73 = s) (s0_z : 0 ≤ s.toInt) (s4_z : s.toInt ≤ 24) (en : rg_v g 164 12 = nb) (nb0_z : 0 ≤ nb.toInt) (nb4_z : nb.toInt ≤ 4) (hn_z : ¬ (0 ≤ x.toInt ∧ x.toInt < nb.toInt)) (hm_z : rn n am_m240 0 (lv_args 0 [.ref 164, .int x, .int y, .int z, .int u]) [] g r g') : r = some (.int (-1)) ∧ rg_v g' 164 73 = s := by
  have zm1_z : ((-1) : Int32).toInt = (-1) := by decide
  have z0_z : (0 : Int32).toInt = 0 := by decide
  have z1_z : (1 : Int32).toInt = 1 := by decide
  have z2_z : (2 : Int32).toInt = 2 := by decide
  have z3_z : (3 : Int32).toInt = 3 := by decide
  have z20_z : (20 : Int32).toInt = 20 := by decide
  have z24_z : (24 : Int32).toInt = 24 := by decide
  have z9999_z : (9999 : Int32).toInt = 9999 := by decide
  have g0_z : am_get (lv_args 0 [.ref 164, .int x, .int y, .int z, .int u]) 0 = some (.ref 164) := rfl
  have g1_z : am_get (lv_args 0 [.ref 164, .int x, .int y, .int z, .int u]) 1 = some (.int x) := rfl
  have g2_z : am_get (lv_args 0 [.ref 164, .int x, .int y, .int z, .int u]) 2 = some (.int y) := rfl
  have g3_z : am_get (lv_args 0 [.ref 164, .int x, .int y, .int z, .int u]) 3 = some (.int z) := rfl
  have g4_z : am_get (lv_args 0 [.ref 164, .int x, .int y, .int z, .int u]) 4 = some (.int u) := rfl
  replace hm_z := rn_aload_n (am_cur_of (i := (0, 1, .aload_n 0, (0, 0, 0), 0)) (by decide +kernel)) g0_z hm_z
  replace hm_z := rn_iconst (w := 0) (am_cur_of (i := (1, 1, .iconst 0, (0, 0, 0), 0)) (by decide +kernel)) (by decide) hm_z
  replace hm_z := rn_put (am_cur_of (i := (2, 3, .putfield 139, (12, 2, 1386), 0)) (by decide +kernel)) (by decide +kernel) hm_z
  replace hm_z := rn_aload_n (am_cur_of (i := (5, 1, .aload_n 0, (0, 0, 0), 0)) (by decide +kernel)) g0_z hm_z
  replace hm_z := rn_getI (v := s) (am_cur_of (i := (6, 3, .getfield 368, (12, 73, 1457), 0)) (by decide +kernel)) (by decide +kernel) (show rg_v (am_up g 164 2 (.int 0)) 164 73 = s from es_z) hm_z
  replace hm_z := rn_bipush (w := 24) (am_cur_of (i := (9, 2, .bipush 24, (0, 0, 0), 0)) (by decide +kernel)) (by decide) hm_z
  replace hm_z := rn_cmp (am_cur_of (i := (11, 3, .if_icmp .eq 41, (28, 0, 0), 0)) (by decide +kernel)) hm_z
  rcases hm_z with ⟨b786_z, hm_z⟩ | ⟨b786_z, hm_z⟩
  · replace b786_z : s = (24 : Int32) ∧ s.toInt = (24 : Int32).toInt := b786_z
    replace hm_z := rn_iconst (w := (-1)) (am_cur_of (i := (52, 1, .iconst (-1), (0, 0, 0), 0)) (by decide +kernel)) (by decide) hm_z
    replace hm_z := rn_goto (am_cur_of (i := (53, 3, .goto 20, (40, 0, 0), 0)) (by decide +kernel)) hm_z
    replace hm_z := rn_iret (am_cur_of (i := (73, 1, .ireturn, (0, 0, 0), 0)) (by decide +kernel)) hm_z
    obtain ⟨e787_z, e788_z⟩ := hm_z
    exact ⟨e787_z, by rw [e788_z]; exact (show rg_v (am_up g 164 2 (.int 0)) 164 73 = s from es_z)⟩
  · replace b786_z : ¬ s = (24 : Int32) ∧ ¬ s.toInt = (24 : Int32).toInt := b786_z
    replace hm_z := rn_aload_n (am_cur_of (i := (14, 1, .aload_n 0, (0, 0, 0), 0)) (by decide +kernel)) g0_z hm_z
    replace hm_z := rn_iload_n (am_cur_of (i := (15, 1, .iload_n 1, (0, 0, 0), 0)) (by decide +kernel)) g1_z hm_z
    replace hm_z := rn_callV (M' := am_m185) (o := 164) (ar := [.int x]) (rest := []) (L := lv_args 0 [.ref 164, .int x]) (am_cur_of (i := (16, 3, .invokevirtual 420, (185, 1770, 3), 0)) (by decide +kernel)) rfl rfl rfl rfl hm_z
    obtain ⟨r789_z, h790_z, q791_z, hm_z⟩ := hm_z
    rcases kc_185 (nb := nb) (show rg_v (am_up g 164 2 (.int 0)) 164 12 = nb from en) nb0_z nb4_z q791_z with ⟨u792_z, rfl, y793_z⟩ | ⟨u792_z, rfl, y793_z⟩
    · exact absurd u792_z hn_z
    · replace y793_z := y793_z.symm
      subst y793_z
      replace hm_z : rn _ _ _ _ [.int 0] _ _ _ := hm_z
      replace hm_z := rn_ifT (am_cur_of (i := (19, 3, .ifCond .eq 33, (28, 0, 0), 0)) (by decide +kernel)) (by decide) hm_z
      replace hm_z := rn_iconst (w := (-1)) (am_cur_of (i := (52, 1, .iconst (-1), (0, 0, 0), 0)) (by decide +kernel)) (by decide) hm_z
      replace hm_z := rn_goto (am_cur_of (i := (53, 3, .goto 20, (40, 0, 0), 0)) (by decide +kernel)) hm_z
      replace hm_z := rn_iret (am_cur_of (i := (73, 1, .ireturn, (0, 0, 0), 0)) (by decide +kernel)) hm_z
      obtain ⟨e794_z, e795_z⟩ := hm_z
      exact ⟨e794_z, by rw [e795_z]; exact (show rg_v (am_up g 164 2 (.int 0)) 164 73 = s from es_z)⟩
