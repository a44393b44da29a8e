/-! ===== THE NOTES OF BOTH (wip/r/gen99rh.py) ===== -/
theorem kc_126 {n : Nat} {h h' : am_H} {r : Option Value} {s a b c d : Int32} (es_z : rg_v h 142 0 = s) (s0_z : 0 ≤ s.toInt) (s4_z : s.toInt ≤ 24) (hc_z : rn n am_m126 0 (lv_args 0 [.ref 142, .int a, .int b, .int c, .int d]) [] h r h') : ((s.toInt < 24) ∧ r = some (.int ((s + 1) - 1)) ∧ rg_v h' 142 0 = s + 1) ∨ (¬ (s.toInt < 24) ∧ r = some (.int (-1)) ∧ rg_v h' 142 0 = s) := by
  have zm1_z : ((-1) : Int32).toInt = (-1) := by decide
  have z0_z : (0 : Int32).toInt = 0 := by decide
  have z24_z : (24 : Int32).toInt = 24 := by decide
  have g0_z : am_get (lv_args 0 [.ref 142, .int a, .int b, .int c, .int d]) 0 = some (.ref 142) := rfl
  have g1_z : am_get (lv_args 0 [.ref 142, .int a, .int b, .int c, .int d]) 1 = some (.int a) := rfl
  have g2_z : am_get (lv_args 0 [.ref 142, .int a, .int b, .int c, .int d]) 2 = some (.int b) := rfl
  have g3_z : am_get (lv_args 0 [.ref 142, .int a, .int b, .int c, .int d]) 3 = some (.int c) := rfl
  have g4_z : am_get (lv_args 0 [.ref 142, .int a, .int b, .int c, .int d]) 4 = some (.int d) := rfl
  replace hc_z := rn_aload_n (am_cur_of (i := (0, 1, .aload_n 0, (0, 0, 0), 0)) (by decide +kernel)) g0_z hc_z
  replace hc_z := rn_getI (v := s) (am_cur_of (i := (1, 3, .getfield 32, (7, 0, 530), 0)) (by decide +kernel)) (by decide +kernel) es_z hc_z
  replace hc_z := rn_bipush (w := 24) (am_cur_of (i := (4, 2, .bipush 24, (0, 0, 0), 0)) (by decide +kernel)) (by decide) hc_z
  replace hc_z := rn_cmp (am_cur_of (i := (6, 3, .if_icmp .lt 5, (6, 0, 0), 0)) (by decide +kernel)) hc_z
  rcases hc_z with ⟨b1_z, hc_z⟩ | ⟨b1_z, hc_z⟩
  · replace b1_z : s.toInt < (24 : Int32).toInt := b1_z
    replace hc_z := rn_aload_n (am_cur_of (i := (11, 1, .aload_n 0, (0, 0, 0), 0)) (by decide +kernel)) g0_z hc_z
    replace hc_z := rn_getR (x := 143) (am_cur_of (i := (12, 3, .getfield 15, (7, 2, 534), 0)) (by decide +kernel)) (by decide +kernel) hc_z
    replace hc_z := rn_aload_n (am_cur_of (i := (15, 1, .aload_n 0, (0, 0, 0), 0)) (by decide +kernel)) g0_z hc_z
    replace hc_z := rn_getI (v := s) (am_cur_of (i := (16, 3, .getfield 32, (7, 0, 530), 0)) (by decide +kernel)) (by decide +kernel) es_z hc_z
    replace hc_z := rn_iload_n (am_cur_of (i := (19, 1, .iload_n 1, (0, 0, 0), 0)) (by decide +kernel)) g1_z hc_z
    replace hc_z := rn_iastore (N := 24) (q := s.toNatClampNeg) (am_cur_of (i := (20, 1, .iastore, (0, 0, 0), 0)) (by decide +kernel)) (by decide +kernel) rfl hc_z
    obtain ⟨p2_z, hc_z⟩ := hc_z
    replace hc_z := rn_aload_n (am_cur_of (i := (21, 1, .aload_n 0, (0, 0, 0), 0)) (by decide +kernel)) g0_z hc_z
    replace hc_z := rn_getR (x := 144) (am_cur_of (i := (22, 3, .getfield 19, (7, 3, 536), 0)) (by decide +kernel)) (by decide +kernel) hc_z
    replace hc_z := rn_aload_n (am_cur_of (i := (25, 1, .aload_n 0, (0, 0, 0), 0)) (by decide +kernel)) g0_z hc_z
    replace hc_z := rn_getI (v := s) (am_cur_of (i := (26, 3, .getfield 32, (7, 0, 530), 0)) (by decide +kernel)) (by decide +kernel) (show rg_v (am_up h 143 s.toNatClampNeg (.int a)) 142 0 = s from es_z) hc_z
    replace hc_z := rn_iload_n (am_cur_of (i := (29, 1, .iload_n 2, (0, 0, 0), 0)) (by decide +kernel)) g2_z hc_z
    replace hc_z := rn_iastore (N := 24) (q := s.toNatClampNeg) (am_cur_of (i := (30, 1, .iastore, (0, 0, 0), 0)) (by decide +kernel)) (by decide +kernel) rfl hc_z
    obtain ⟨p3_z, hc_z⟩ := hc_z
    replace hc_z := rn_aload_n (am_cur_of (i := (31, 1, .aload_n 0, (0, 0, 0), 0)) (by decide +kernel)) g0_z hc_z
    replace hc_z := rn_getR (x := 145) (am_cur_of (i := (32, 3, .getfield 22, (7, 4, 538), 0)) (by decide +kernel)) (by decide +kernel) hc_z
    replace hc_z := rn_aload_n (am_cur_of (i := (35, 1, .aload_n 0, (0, 0, 0), 0)) (by decide +kernel)) g0_z hc_z
    replace hc_z := rn_getI (v := s) (am_cur_of (i := (36, 3, .getfield 32, (7, 0, 530), 0)) (by decide +kernel)) (by decide +kernel) (show rg_v (am_up (am_up h 143 s.toNatClampNeg (.int a)) 144 s.toNatClampNeg (.int b)) 142 0 = s from es_z) hc_z
    replace hc_z := rn_iload_n (am_cur_of (i := (39, 1, .iload_n 3, (0, 0, 0), 0)) (by decide +kernel)) g3_z hc_z
    replace hc_z := rn_iastore (N := 24) (q := s.toNatClampNeg) (am_cur_of (i := (40, 1, .iastore, (0, 0, 0), 0)) (by decide +kernel)) (by decide +kernel) rfl hc_z
    obtain ⟨p4_z, hc_z⟩ := hc_z
    replace hc_z := rn_aload_n (am_cur_of (i := (41, 1, .aload_n 0, (0, 0, 0), 0)) (by decide +kernel)) g0_z hc_z
    replace hc_z := rn_getR (x := 146) (am_cur_of (i := (42, 3, .getfield 25, (7, 5, 540), 0)) (by decide +kernel)) (by decide +kernel) hc_z
    replace hc_z := rn_aload_n (am_cur_of (i := (45, 1, .aload_n 0, (0, 0, 0), 0)) (by decide +kernel)) g0_z hc_z
    replace hc_z := rn_getI (v := s) (am_cur_of (i := (46, 3, .getfield 32, (7, 0, 530), 0)) (by decide +kernel)) (by decide +kernel) (show rg_v (am_up (am_up (am_up h 143 s.toNatClampNeg (.int a)) 144 s.toNatClampNeg (.int b)) 145 s.toNatClampNeg (.int c)) 142 0 = s from es_z) hc_z
    replace hc_z := rn_iload (am_cur_of (i := (49, 2, .iload 4, (0, 0, 0), 0)) (by decide +kernel)) g4_z hc_z
    replace hc_z := rn_iastore (N := 24) (q := s.toNatClampNeg) (am_cur_of (i := (51, 1, .iastore, (0, 0, 0), 0)) (by decide +kernel)) (by decide +kernel) rfl hc_z
    obtain ⟨p5_z, hc_z⟩ := hc_z
    replace hc_z := rn_aload_n (am_cur_of (i := (52, 1, .aload_n 0, (0, 0, 0), 0)) (by decide +kernel)) g0_z hc_z
    replace hc_z := rn_dup (am_cur_of (i := (53, 1, .dup, (0, 0, 0), 0)) (by decide +kernel)) hc_z
    replace hc_z := rn_getI (v := s) (am_cur_of (i := (54, 3, .getfield 32, (7, 0, 530), 0)) (by decide +kernel)) (by decide +kernel) (show rg_v (am_up (am_up (am_up (am_up h 143 s.toNatClampNeg (.int a)) 144 s.toNatClampNeg (.int b)) 145 s.toNatClampNeg (.int c)) 146 s.toNatClampNeg (.int d)) 142 0 = s from es_z) hc_z
    replace hc_z := rn_iconst (w := 1) (am_cur_of (i := (57, 1, .iconst 1, (0, 0, 0), 0)) (by decide +kernel)) (by decide) hc_z
    replace hc_z := rn_iadd (w := s + 1) (am_cur_of (i := (58, 1, .iadd, (0, 0, 0), 0)) (by decide +kernel)) rfl hc_z
    replace hc_z := rn_put (am_cur_of (i := (59, 3, .putfield 32, (7, 0, 530), 0)) (by decide +kernel)) (by decide +kernel) hc_z
    replace hc_z := rn_aload_n (am_cur_of (i := (62, 1, .aload_n 0, (0, 0, 0), 0)) (by decide +kernel)) g0_z hc_z
    replace hc_z := rn_getI (v := s + 1) (am_cur_of (i := (63, 3, .getfield 32, (7, 0, 530), 0)) (by decide +kernel)) (by decide +kernel) (show rg_v (am_up (am_up (am_up (am_up (am_up h 143 s.toNatClampNeg (.int a)) 144 s.toNatClampNeg (.int b)) 145 s.toNatClampNeg (.int c)) 146 s.toNatClampNeg (.int d)) 142 0 (.int (s + 1))) 142 0 = s + 1 from rfl) hc_z
    replace hc_z := rn_iconst (w := 1) (am_cur_of (i := (66, 1, .iconst 1, (0, 0, 0), 0)) (by decide +kernel)) (by decide) hc_z
    replace hc_z := rn_isub (w := (s + 1) - 1) (am_cur_of (i := (67, 1, .isub, (0, 0, 0), 0)) (by decide +kernel)) rfl hc_z
    replace hc_z := rn_iret (am_cur_of (i := (68, 1, .ireturn, (0, 0, 0), 0)) (by decide +kernel)) hc_z
    obtain ⟨e6_z, e7_z⟩ := hc_z
    exact Or.inl ⟨by omega, e6_z, by rw [e7_z]; exact (show rg_v (am_up (am_up (am_up (am_up (am_up h 143 s.toNatClampNeg (.int a)) 144 s.toNatClampNeg (.int b)) 145 s.toNatClampNeg (.int c)) 146 s.toNatClampNeg (.int d)) 142 0 (.int (s + 1))) 142 0 = s + 1 from rfl)⟩
  · replace b1_z : (24 : Int32).toInt ≤ s.toInt := b1_z
    replace hc_z := rn_iconst (w := (-1)) (am_cur_of (i := (9, 1, .iconst (-1), (0, 0, 0), 0)) (by decide +kernel)) (by decide) hc_z
    replace hc_z := rn_iret (am_cur_of (i := (10, 1, .ireturn, (0, 0, 0), 0)) (by decide +kernel)) hc_z
    obtain ⟨e8_z, e9_z⟩ := hc_z
    exact Or.inr ⟨by omega, e8_z, by rw [e9_z]; exact es_z⟩
theorem kc_127 {n : Nat} {h h' : am_H} {r : Option Value} {s a : Int32} (es_z : rg_v h 142 0 = s) (s0_z : 0 ≤ s.toInt) (s4_z : s.toInt ≤ 24) (hc_z : rn n am_m127 0 (lv_args 0 [.ref 0, .int a]) [] h r h') : ((0 ≤ a.toInt ∧ a.toInt < s.toInt ∧ s.toInt < 24) ∧ r = some (.int ((s + 1) - 1)) ∧ rg_v h' 142 0 = s + 1) ∨ (¬ (0 ≤ a.toInt ∧ a.toInt < s.toInt ∧ s.toInt < 24) ∧ r = some (.int (-1)) ∧ rg_v h' 142 0 = s) := by
  have zm1_z : ((-1) : Int32).toInt = (-1) := by decide
  have z0_z : (0 : Int32).toInt = 0 := by decide
  have z24_z : (24 : Int32).toInt = 24 := by decide
  have g0_z : am_get (lv_args 0 [.ref 0, .int a]) 0 = some (.ref 0) := rfl
  have g1_z : am_get (lv_args 0 [.ref 0, .int a]) 1 = some (.int a) := rfl
  replace hc_z := rn_iload_n (am_cur_of (i := (0, 1, .iload_n 1, (0, 0, 0), 0)) (by decide +kernel)) g1_z hc_z
  replace hc_z := rn_if (am_cur_of (i := (1, 3, .ifCond .lt 14, (7, 0, 0), 0)) (by decide +kernel)) hc_z
  rcases hc_z with ⟨b10_z, hc_z⟩ | ⟨b10_z, hc_z⟩
  · replace b10_z : a.toInt < (0 : Int32).toInt := b10_z
    replace hc_z := rn_iconst (w := (-1)) (am_cur_of (i := (15, 1, .iconst (-1), (0, 0, 0), 0)) (by decide +kernel)) (by decide) hc_z
    replace hc_z := rn_iret (am_cur_of (i := (16, 1, .ireturn, (0, 0, 0), 0)) (by decide +kernel)) hc_z
    obtain ⟨e11_z, e12_z⟩ := hc_z
    exact Or.inr ⟨by omega, e11_z, by rw [e12_z]; exact es_z⟩
  · replace b10_z : (0 : Int32).toInt ≤ a.toInt := b10_z
    replace hc_z := rn_iload_n (am_cur_of (i := (4, 1, .iload_n 1, (0, 0, 0), 0)) (by decide +kernel)) g1_z hc_z
    replace hc_z := rn_aload_n (am_cur_of (i := (5, 1, .aload_n 0, (0, 0, 0), 0)) (by decide +kernel)) g0_z hc_z
    replace hc_z := rn_getR (x := 142) (am_cur_of (i := (6, 3, .getfield 57, (0, 10, 671), 0)) (by decide +kernel)) (by decide +kernel) hc_z
    replace hc_z := rn_getI (v := s) (am_cur_of (i := (9, 3, .getfield 331, (7, 0, 531), 0)) (by decide +kernel)) (by decide +kernel) es_z hc_z
    replace hc_z := rn_cmp (am_cur_of (i := (12, 3, .if_icmp .lt 5, (9, 0, 0), 0)) (by decide +kernel)) hc_z
    rcases hc_z with ⟨b13_z, hc_z⟩ | ⟨b13_z, hc_z⟩
    · replace b13_z : a.toInt < s.toInt := b13_z
      replace hc_z := rn_aload_n (am_cur_of (i := (17, 1, .aload_n 0, (0, 0, 0), 0)) (by decide +kernel)) g0_z hc_z
      replace hc_z := rn_getR (x := 142) (am_cur_of (i := (18, 3, .getfield 57, (0, 10, 671), 0)) (by decide +kernel)) (by decide +kernel) hc_z
      replace hc_z := rn_iconst (w := 2) (am_cur_of (i := (21, 1, .iconst 2, (0, 0, 0), 0)) (by decide +kernel)) (by decide) hc_z
      replace hc_z := rn_iload_n (am_cur_of (i := (22, 1, .iload_n 1, (0, 0, 0), 0)) (by decide +kernel)) g1_z hc_z
      replace hc_z := rn_iconst (w := 0) (am_cur_of (i := (23, 1, .iconst 0, (0, 0, 0), 0)) (by decide +kernel)) (by decide) hc_z
      replace hc_z := rn_iconst (w := 0) (am_cur_of (i := (24, 1, .iconst 0, (0, 0, 0), 0)) (by decide +kernel)) (by decide) hc_z
      replace hc_z := rn_callV (M' := am_m126) (o := 142) (ar := [.int 0, .int 0, .int a, .int 2]) (rest := []) (L := lv_args 0 [.ref 142, .int 2, .int a, .int 0, .int 0]) (am_cur_of (i := (25, 3, .invokevirtual 328, (126, 1189, 3), 0)) (by decide +kernel)) rfl rfl rfl rfl hc_z
      obtain ⟨r14_z, h15_z, q16_z, hc_z⟩ := hc_z
      rcases kc_126 es_z s0_z s4_z q16_z with ⟨lt, rfl, ez⟩ | ⟨lt, rfl, ez⟩
      · replace hc_z : rn _ _ _ _ [.int ((s + 1) - 1)] _ _ _ := hc_z
        replace hc_z := rn_iret (am_cur_of (i := (28, 1, .ireturn, (0, 0, 0), 0)) (by decide +kernel)) hc_z
        obtain ⟨e17_z, e18_z⟩ := hc_z
        exact Or.inl ⟨by omega, e17_z, by rw [e18_z]; exact ez⟩
      · replace hc_z : rn _ _ _ _ [.int (-1)] _ _ _ := hc_z
        replace hc_z := rn_iret (am_cur_of (i := (28, 1, .ireturn, (0, 0, 0), 0)) (by decide +kernel)) hc_z
        obtain ⟨e19_z, e20_z⟩ := hc_z
        exact Or.inr ⟨by omega, e19_z, by rw [e20_z]; exact ez⟩
    · replace b13_z : s.toInt ≤ a.toInt := b13_z
      replace hc_z := rn_iconst (w := (-1)) (am_cur_of (i := (15, 1, .iconst (-1), (0, 0, 0), 0)) (by decide +kernel)) (by decide) hc_z
      replace hc_z := rn_iret (am_cur_of (i := (16, 1, .ireturn, (0, 0, 0), 0)) (by decide +kernel)) hc_z
      obtain ⟨e21_z, e22_z⟩ := hc_z
      exact Or.inr ⟨by omega, e21_z, by rw [e22_z]; exact es_z⟩
theorem kc_241 {n : Nat} {g g' : am_H} {r : Option Value} {s a b c d : Int32} (es_z : rg_v g 164 73 = s) (s0_z : 0 ≤ s.toInt) (s4_z : s.toInt ≤ 24) (hm_z : rn n am_m241 0 (lv_args 0 [.ref 164, .int a, .int b, .int c, .int d]) [] g r g') : r = some (.int ((s + 1) - 1)) ∧ rg_v g' 164 73 = s + 1 := by
  have zm1_z : ((-1) : Int32).toInt = (-1) := by decide
  have z0_z : (0 : Int32).toInt = 0 := by decide
  have z24_z : (24 : Int32).toInt = 24 := by decide
  have g0_z : am_get (lv_args 0 [.ref 164, .int a, .int b, .int c, .int d]) 0 = some (.ref 164) := rfl
  have g1_z : am_get (lv_args 0 [.ref 164, .int a, .int b, .int c, .int d]) 1 = some (.int a) := rfl
  have g2_z : am_get (lv_args 0 [.ref 164, .int a, .int b, .int c, .int d]) 2 = some (.int b) := rfl
  have g3_z : am_get (lv_args 0 [.ref 164, .int a, .int b, .int c, .int d]) 3 = some (.int c) := rfl
  have g4_z : am_get (lv_args 0 [.ref 164, .int a, .int b, .int c, .int d]) 4 = some (.int d) := rfl
  replace hm_z := rn_aload_n (am_cur_of (i := (0, 1, .aload_n 0, (0, 0, 0), 0)) (by decide +kernel)) g0_z hm_z
  replace hm_z := rn_getR (x := 198) (am_cur_of (i := (1, 3, .getfield 121, (12, 75, 1459), 0)) (by decide +kernel)) (by decide +kernel) hm_z
  replace hm_z := rn_iconst (w := 4) (am_cur_of (i := (4, 1, .iconst 4, (0, 0, 0), 0)) (by decide +kernel)) (by decide) hm_z
  replace hm_z := rn_aload_n (am_cur_of (i := (5, 1, .aload_n 0, (0, 0, 0), 0)) (by decide +kernel)) g0_z hm_z
  replace hm_z := rn_getI (v := s) (am_cur_of (i := (6, 3, .getfield 368, (12, 73, 1457), 0)) (by decide +kernel)) (by decide +kernel) es_z hm_z
  replace hm_z := rn_imul (w := (4 : Int32) * s) (am_cur_of (i := (9, 1, .imul, (0, 0, 0), 0)) (by decide +kernel)) rfl hm_z
  replace hm_z := rn_iload_n (am_cur_of (i := (10, 1, .iload_n 1, (0, 0, 0), 0)) (by decide +kernel)) g1_z hm_z
  replace hm_z := rn_iastore (N := 96) (q := ((4 : Int32) * s).toNatClampNeg) (am_cur_of (i := (11, 1, .iastore, (0, 0, 0), 0)) (by decide +kernel)) (by decide +kernel) rfl hm_z
  obtain ⟨p23_z, hm_z⟩ := hm_z
  replace hm_z := rn_aload_n (am_cur_of (i := (12, 1, .aload_n 0, (0, 0, 0), 0)) (by decide +kernel)) g0_z hm_z
  replace hm_z := rn_getR (x := 198) (am_cur_of (i := (13, 3, .getfield 121, (12, 75, 1459), 0)) (by decide +kernel)) (by decide +kernel) hm_z
  replace hm_z := rn_iconst (w := 4) (am_cur_of (i := (16, 1, .iconst 4, (0, 0, 0), 0)) (by decide +kernel)) (by decide) hm_z
  replace hm_z := rn_aload_n (am_cur_of (i := (17, 1, .aload_n 0, (0, 0, 0), 0)) (by decide +kernel)) g0_z hm_z
  replace hm_z := rn_getI (v := s) (am_cur_of (i := (18, 3, .getfield 368, (12, 73, 1457), 0)) (by decide +kernel)) (by decide +kernel) (show rg_v (am_up g 198 (((4 : Int32) * s).toNatClampNeg) (.int a)) 164 73 = s from es_z) hm_z
  replace hm_z := rn_imul (w := (4 : Int32) * s) (am_cur_of (i := (21, 1, .imul, (0, 0, 0), 0)) (by decide +kernel)) rfl hm_z
  replace hm_z := rn_iconst (w := 1) (am_cur_of (i := (22, 1, .iconst 1, (0, 0, 0), 0)) (by decide +kernel)) (by decide) hm_z
  replace hm_z := rn_iadd (w := ((4 : Int32) * s) + 1) (am_cur_of (i := (23, 1, .iadd, (0, 0, 0), 0)) (by decide +kernel)) rfl hm_z
  replace hm_z := rn_iload_n (am_cur_of (i := (24, 1, .iload_n 2, (0, 0, 0), 0)) (by decide +kernel)) g2_z hm_z
  replace hm_z := rn_iastore (N := 96) (q := (((4 : Int32) * s) + 1).toNatClampNeg) (am_cur_of (i := (25, 1, .iastore, (0, 0, 0), 0)) (by decide +kernel)) (by decide +kernel) rfl hm_z
  obtain ⟨p24_z, hm_z⟩ := hm_z
  replace hm_z := rn_aload_n (am_cur_of (i := (26, 1, .aload_n 0, (0, 0, 0), 0)) (by decide +kernel)) g0_z hm_z
  replace hm_z := rn_getR (x := 198) (am_cur_of (i := (27, 3, .getfield 121, (12, 75, 1459), 0)) (by decide +kernel)) (by decide +kernel) hm_z
  replace hm_z := rn_iconst (w := 4) (am_cur_of (i := (30, 1, .iconst 4, (0, 0, 0), 0)) (by decide +kernel)) (by decide) hm_z
  replace hm_z := rn_aload_n (am_cur_of (i := (31, 1, .aload_n 0, (0, 0, 0), 0)) (by decide +kernel)) g0_z hm_z
  replace hm_z := rn_getI (v := s) (am_cur_of (i := (32, 3, .getfield 368, (12, 73, 1457), 0)) (by decide +kernel)) (by decide +kernel) (show rg_v (am_up (am_up g 198 (((4 : Int32) * s).toNatClampNeg) (.int a)) 198 ((((4 : Int32) * s) + 1).toNatClampNeg) (.int b)) 164 73 = s from es_z) hm_z
  replace hm_z := rn_imul (w := (4 : Int32) * s) (am_cur_of (i := (35, 1, .imul, (0, 0, 0), 0)) (by decide +kernel)) rfl hm_z
  replace hm_z := rn_iconst (w := 2) (am_cur_of (i := (36, 1, .iconst 2, (0, 0, 0), 0)) (by decide +kernel)) (by decide) hm_z
  replace hm_z := rn_iadd (w := ((4 : Int32) * s) + 2) (am_cur_of (i := (37, 1, .iadd, (0, 0, 0), 0)) (by decide +kernel)) rfl hm_z
  replace hm_z := rn_iload_n (am_cur_of (i := (38, 1, .iload_n 3, (0, 0, 0), 0)) (by decide +kernel)) g3_z hm_z
  replace hm_z := rn_iastore (N := 96) (q := (((4 : Int32) * s) + 2).toNatClampNeg) (am_cur_of (i := (39, 1, .iastore, (0, 0, 0), 0)) (by decide +kernel)) (by decide +kernel) rfl hm_z
  obtain ⟨p25_z, hm_z⟩ := hm_z
  replace hm_z := rn_aload_n (am_cur_of (i := (40, 1, .aload_n 0, (0, 0, 0), 0)) (by decide +kernel)) g0_z hm_z
  replace hm_z := rn_getR (x := 198) (am_cur_of (i := (41, 3, .getfield 121, (12, 75, 1459), 0)) (by decide +kernel)) (by decide +kernel) hm_z
  replace hm_z := rn_iconst (w := 4) (am_cur_of (i := (44, 1, .iconst 4, (0, 0, 0), 0)) (by decide +kernel)) (by decide) hm_z
  replace hm_z := rn_aload_n (am_cur_of (i := (45, 1, .aload_n 0, (0, 0, 0), 0)) (by decide +kernel)) g0_z hm_z
  replace hm_z := rn_getI (v := s) (am_cur_of (i := (46, 3, .getfield 368, (12, 73, 1457), 0)) (by decide +kernel)) (by decide +kernel) (show rg_v (am_up (am_up (am_up g 198 (((4 : Int32) * s).toNatClampNeg) (.int a)) 198 ((((4 : Int32) * s) + 1).toNatClampNeg) (.int b)) 198 ((((4 : Int32) * s) + 2).toNatClampNeg) (.int c)) 164 73 = s from es_z) hm_z
  replace hm_z := rn_imul (w := (4 : Int32) * s) (am_cur_of (i := (49, 1, .imul, (0, 0, 0), 0)) (by decide +kernel)) rfl hm_z
  replace hm_z := rn_iconst (w := 3) (am_cur_of (i := (50, 1, .iconst 3, (0, 0, 0), 0)) (by decide +kernel)) (by decide) hm_z
  replace hm_z := rn_iadd (w := ((4 : Int32) * s) + 3) (am_cur_of (i := (51, 1, .iadd, (0, 0, 0), 0)) (by decide +kernel)) rfl hm_z
  replace hm_z := rn_iload (am_cur_of (i := (52, 2, .iload 4, (0, 0, 0), 0)) (by decide +kernel)) g4_z hm_z
  replace hm_z := rn_iastore (N := 96) (q := (((4 : Int32) * s) + 3).toNatClampNeg) (am_cur_of (i := (54, 1, .iastore, (0, 0, 0), 0)) (by decide +kernel)) (by decide +kernel) rfl hm_z
  obtain ⟨p26_z, hm_z⟩ := hm_z
  replace hm_z := rn_aload_n (am_cur_of (i := (55, 1, .aload_n 0, (0, 0, 0), 0)) (by decide +kernel)) g0_z hm_z
  replace hm_z := rn_dup (am_cur_of (i := (56, 1, .dup, (0, 0, 0), 0)) (by decide +kernel)) hm_z
  replace hm_z := rn_getI (v := s) (am_cur_of (i := (57, 3, .getfield 368, (12, 73, 1457), 0)) (by decide +kernel)) (by decide +kernel) (show rg_v (am_up (am_up (am_up (am_up g 198 (((4 : Int32) * s).toNatClampNeg) (.int a)) 198 ((((4 : Int32) * s) + 1).toNatClampNeg) (.int b)) 198 ((((4 : Int32) * s) + 2).toNatClampNeg) (.int c)) 198 ((((4 : Int32) * s) + 3).toNatClampNeg) (.int d)) 164 73 = s from es_z) hm_z
  replace hm_z := rn_iconst (w := 1) (am_cur_of (i := (60, 1, .iconst 1, (0, 0, 0), 0)) (by decide +kernel)) (by decide) hm_z
  replace hm_z := rn_iadd (w := s + 1) (am_cur_of (i := (61, 1, .iadd, (0, 0, 0), 0)) (by decide +kernel)) rfl hm_z
  replace hm_z := rn_put (am_cur_of (i := (62, 3, .putfield 368, (12, 73, 1457), 0)) (by decide +kernel)) (by decide +kernel) hm_z
  replace hm_z := rn_aload_n (am_cur_of (i := (65, 1, .aload_n 0, (0, 0, 0), 0)) (by decide +kernel)) g0_z hm_z
  replace hm_z := rn_getI (v := s + 1) (am_cur_of (i := (66, 3, .getfield 368, (12, 73, 1457), 0)) (by decide +kernel)) (by decide +kernel) (show rg_v (am_up (am_up (am_up (am_up (am_up g 198 (((4 : Int32) * s).toNatClampNeg) (.int a)) 198 ((((4 : Int32) * s) + 1).toNatClampNeg) (.int b)) 198 ((((4 : Int32) * s) + 2).toNatClampNeg) (.int c)) 198 ((((4 : Int32) * s) + 3).toNatClampNeg) (.int d)) 164 73 (.int (s + 1))) 164 73 = s + 1 from rfl) hm_z
  replace hm_z := rn_iconst (w := 1) (am_cur_of (i := (69, 1, .iconst 1, (0, 0, 0), 0)) (by decide +kernel)) (by decide) hm_z
  replace hm_z := rn_isub (w := (s + 1) - 1) (am_cur_of (i := (70, 1, .isub, (0, 0, 0), 0)) (by decide +kernel)) rfl hm_z
  replace hm_z := rn_iret (am_cur_of (i := (71, 1, .ireturn, (0, 0, 0), 0)) (by decide +kernel)) hm_z
  obtain ⟨e27_z, e28_z⟩ := hm_z
  exact ⟨e27_z, by rw [e28_z]; exact (show rg_v (am_up (am_up (am_up (am_up (am_up g 198 (((4 : Int32) * s).toNatClampNeg) (.int a)) 198 ((((4 : Int32) * s) + 1).toNatClampNeg) (.int b)) 198 ((((4 : Int32) * s) + 2).toNatClampNeg) (.int c)) 198 ((((4 : Int32) * s) + 3).toNatClampNeg) (.int d)) 164 73 (.int (s + 1))) 164 73 = s + 1 from rfl)⟩
theorem kc_242 {n : Nat} {g g' : am_H} {r : Option Value} {s a : Int32} (es_z : rg_v g 164 73 = s) (s0_z : 0 ≤ s.toInt) (s4_z : s.toInt ≤ 24) (hm_z : rn n am_m242 0 (lv_args 0 [.ref 164, .int a]) [] g r g') : ((0 ≤ a.toInt ∧ a.toInt < s.toInt ∧ s.toInt < 24) ∧ r = some (.int ((s + 1) - 1)) ∧ rg_v g' 164 73 = s + 1) ∨ (¬ (0 ≤ a.toInt ∧ a.toInt < s.toInt ∧ s.toInt < 24) ∧ r = some (.int (-1)) ∧ rg_v g' 164 73 = s) := by
  have zm1_z : ((-1) : Int32).toInt = (-1) := by decide
  have z0_z : (0 : Int32).toInt = 0 := by decide
  have z24_z : (24 : Int32).toInt = 24 := by decide
  have g0_z : am_get (lv_args 0 [.ref 164, .int a]) 0 = some (.ref 164) := rfl
  have g1_z : am_get (lv_args 0 [.ref 164, .int a]) 1 = some (.int a) := rfl
  replace hm_z := rn_aload_n (am_cur_of (i := (0, 1, .aload_n 0, (0, 0, 0), 0)) (by decide +kernel)) g0_z hm_z
  replace hm_z := rn_iconst (w := 0) (am_cur_of (i := (1, 1, .iconst 0, (0, 0, 0), 0)) (by decide +kernel)) (by decide) hm_z
  replace hm_z := rn_put (am_cur_of (i := (2, 3, .putfield 139, (12, 2, 1386), 0)) (by decide +kernel)) (by decide +kernel) hm_z
  replace hm_z := rn_aload_n (am_cur_of (i := (5, 1, .aload_n 0, (0, 0, 0), 0)) (by decide +kernel)) g0_z hm_z
  replace hm_z := rn_getI (v := s) (am_cur_of (i := (6, 3, .getfield 368, (12, 73, 1457), 0)) (by decide +kernel)) (by decide +kernel) (show rg_v (am_up g 164 2 (.int 0)) 164 73 = s from es_z) hm_z
  replace hm_z := rn_bipush (w := 24) (am_cur_of (i := (9, 2, .bipush 24, (0, 0, 0), 0)) (by decide +kernel)) (by decide) hm_z
  replace hm_z := rn_cmp (am_cur_of (i := (11, 3, .if_icmp .eq 15, (13, 0, 0), 0)) (by decide +kernel)) hm_z
  rcases hm_z with ⟨b29_z, hm_z⟩ | ⟨b29_z, hm_z⟩
  · replace b29_z : s = (24 : Int32) ∧ s.toInt = (24 : Int32).toInt := b29_z
    replace hm_z := rn_iconst (w := (-1)) (am_cur_of (i := (26, 1, .iconst (-1), (0, 0, 0), 0)) (by decide +kernel)) (by decide) hm_z
    replace hm_z := rn_goto (am_cur_of (i := (27, 3, .goto 11, (21, 0, 0), 0)) (by decide +kernel)) hm_z
    replace hm_z := rn_iret (am_cur_of (i := (38, 1, .ireturn, (0, 0, 0), 0)) (by decide +kernel)) hm_z
    obtain ⟨e30_z, e31_z⟩ := hm_z
    exact Or.inr ⟨by omega, e30_z, by rw [e31_z]; exact (show rg_v (am_up g 164 2 (.int 0)) 164 73 = s from es_z)⟩
  · replace b29_z : ¬ s = (24 : Int32) ∧ ¬ s.toInt = (24 : Int32).toInt := b29_z
    replace hm_z := rn_iload_n (am_cur_of (i := (14, 1, .iload_n 1, (0, 0, 0), 0)) (by decide +kernel)) g1_z hm_z
    replace hm_z := rn_if (am_cur_of (i := (15, 3, .ifCond .lt 11, (13, 0, 0), 0)) (by decide +kernel)) hm_z
    rcases hm_z with ⟨b32_z, hm_z⟩ | ⟨b32_z, hm_z⟩
    · replace b32_z : a.toInt < (0 : Int32).toInt := b32_z
      replace hm_z := rn_iconst (w := (-1)) (am_cur_of (i := (26, 1, .iconst (-1), (0, 0, 0), 0)) (by decide +kernel)) (by decide) hm_z
      replace hm_z := rn_goto (am_cur_of (i := (27, 3, .goto 11, (21, 0, 0), 0)) (by decide +kernel)) hm_z
      replace hm_z := rn_iret (am_cur_of (i := (38, 1, .ireturn, (0, 0, 0), 0)) (by decide +kernel)) hm_z
      obtain ⟨e33_z, e34_z⟩ := hm_z
      exact Or.inr ⟨by omega, e33_z, by rw [e34_z]; exact (show rg_v (am_up g 164 2 (.int 0)) 164 73 = s from es_z)⟩
    · replace b32_z : (0 : Int32).toInt ≤ a.toInt := b32_z
      replace hm_z := rn_iload_n (am_cur_of (i := (18, 1, .iload_n 1, (0, 0, 0), 0)) (by decide +kernel)) g1_z hm_z
      replace hm_z := rn_aload_n (am_cur_of (i := (19, 1, .aload_n 0, (0, 0, 0), 0)) (by decide +kernel)) g0_z hm_z
      replace hm_z := rn_getI (v := s) (am_cur_of (i := (20, 3, .getfield 368, (12, 73, 1457), 0)) (by decide +kernel)) (by decide +kernel) (show rg_v (am_up g 164 2 (.int 0)) 164 73 = s from es_z) hm_z
      replace hm_z := rn_cmp (am_cur_of (i := (23, 3, .if_icmp .lt 7, (15, 0, 0), 0)) (by decide +kernel)) hm_z
      rcases hm_z with ⟨b35_z, hm_z⟩ | ⟨b35_z, hm_z⟩
      · replace b35_z : a.toInt < s.toInt := b35_z
        replace hm_z := rn_aload_n (am_cur_of (i := (30, 1, .aload_n 0, (0, 0, 0), 0)) (by decide +kernel)) g0_z hm_z
        replace hm_z := rn_iconst (w := (-1)) (am_cur_of (i := (31, 1, .iconst (-1), (0, 0, 0), 0)) (by decide +kernel)) (by decide) hm_z
        replace hm_z := rn_iload_n (am_cur_of (i := (32, 1, .iload_n 1, (0, 0, 0), 0)) (by decide +kernel)) g1_z hm_z
        replace hm_z := rn_iconst (w := 0) (am_cur_of (i := (33, 1, .iconst 0, (0, 0, 0), 0)) (by decide +kernel)) (by decide) hm_z
        replace hm_z := rn_iconst (w := 0) (am_cur_of (i := (34, 1, .iconst 0, (0, 0, 0), 0)) (by decide +kernel)) (by decide) hm_z
        replace hm_z := rn_callV (M' := am_m241) (o := 164) (ar := [.int 0, .int 0, .int a, .int (-1)]) (rest := []) (L := lv_args 0 [.ref 164, .int (-1), .int a, .int 0, .int 0]) (am_cur_of (i := (35, 3, .invokevirtual 520, (241, 1995, 3), 0)) (by decide +kernel)) rfl rfl rfl rfl hm_z
        obtain ⟨r36_z, h37_z, q38_z, hm_z⟩ := hm_z
        obtain ⟨rfl, ez⟩ := kc_241 (show rg_v (am_up g 164 2 (.int 0)) 164 73 = s from es_z) s0_z s4_z q38_z
        replace hm_z : rn _ _ _ _ [.int ((s + 1) - 1)] _ _ _ := hm_z
        replace hm_z := rn_iret (am_cur_of (i := (38, 1, .ireturn, (0, 0, 0), 0)) (by decide +kernel)) hm_z
        obtain ⟨e39_z, e40_z⟩ := hm_z
        exact Or.inl ⟨by omega, e39_z, by rw [e40_z]; exact ez⟩
      · replace b35_z : s.toInt ≤ a.toInt := b35_z
        replace hm_z := rn_iconst (w := (-1)) (am_cur_of (i := (26, 1, .iconst (-1), (0, 0, 0), 0)) (by decide +kernel)) (by decide) hm_z
        replace hm_z := rn_goto (am_cur_of (i := (27, 3, .goto 11, (21, 0, 0), 0)) (by decide +kernel)) hm_z
        replace hm_z := rn_iret (am_cur_of (i := (38, 1, .ireturn, (0, 0, 0), 0)) (by decide +kernel)) hm_z
        obtain ⟨e41_z, e42_z⟩ := hm_z
        exact Or.inr ⟨by omega, e41_z, by rw [e42_z]; exact (show rg_v (am_up g 164 2 (.int 0)) 164 73 = s from es_z)⟩
theorem kc_162 {n : Nat} {h h' : am_H} {r : Option Value} {a : Int32} {b : Int32} {c : Int32}  (hc_z : rn n am_m162 0 (lv_args 0 [.int a, .int b, .int c]) [] h r h') : ((a.toInt < b.toInt) ∧ r = some (.int 0) ∧ h' = h) ∨ ((b.toInt ≤ a.toInt) ∧ (c.toInt < a.toInt) ∧ r = some (.int 0) ∧ h' = h) ∨ ((b.toInt ≤ a.toInt) ∧ (a.toInt ≤ c.toInt) ∧ r = some (.int 1) ∧ h' = h) := by
  have g0_z : am_get (lv_args 0 [.int a, .int b, .int c]) 0 = some (.int a) := rfl
  have g1_z : am_get (lv_args 0 [.int a, .int b, .int c]) 1 = some (.int b) := rfl
  have g2_z : am_get (lv_args 0 [.int a, .int b, .int c]) 2 = some (.int c) := rfl
  replace hc_z := rn_iload_n (am_cur_of (i := (0, 1, .iload_n 0, (0, 0, 0), 0)) (by decide +kernel)) g0_z hc_z
  replace hc_z := rn_iload_n (am_cur_of (i := (1, 1, .iload_n 1, (0, 0, 0), 0)) (by decide +kernel)) g1_z hc_z
  replace hc_z := rn_cmp (am_cur_of (i := (2, 3, .if_icmp .lt 12, (8, 0, 0), 0)) (by decide +kernel)) hc_z
  rcases hc_z with ⟨b43_z, hc_z⟩ | ⟨b43_z, hc_z⟩
  · replace b43_z : a.toInt < b.toInt := b43_z
    replace hc_z := rn_iconst (w := 0) (am_cur_of (i := (14, 1, .iconst 0, (0, 0, 0), 0)) (by decide +kernel)) (by decide) hc_z
    replace hc_z := rn_iret (am_cur_of (i := (15, 1, .ireturn, (0, 0, 0), 0)) (by decide +kernel)) hc_z
    obtain ⟨e44_z, e45_z⟩ := hc_z
    exact Or.inl ⟨b43_z, e44_z, e45_z⟩
  · replace b43_z : b.toInt ≤ a.toInt := b43_z
    replace hc_z := rn_iload_n (am_cur_of (i := (5, 1, .iload_n 0, (0, 0, 0), 0)) (by decide +kernel)) g0_z hc_z
    replace hc_z := rn_iload_n (am_cur_of (i := (6, 1, .iload_n 2, (0, 0, 0), 0)) (by decide +kernel)) g2_z hc_z
    replace hc_z := rn_cmp (am_cur_of (i := (7, 3, .if_icmp .gt 7, (8, 0, 0), 0)) (by decide +kernel)) hc_z
    rcases hc_z with ⟨b46_z, hc_z⟩ | ⟨b46_z, hc_z⟩
    · replace b46_z : c.toInt < a.toInt := b46_z
      replace hc_z := rn_iconst (w := 0) (am_cur_of (i := (14, 1, .iconst 0, (0, 0, 0), 0)) (by decide +kernel)) (by decide) hc_z
      replace hc_z := rn_iret (am_cur_of (i := (15, 1, .ireturn, (0, 0, 0), 0)) (by decide +kernel)) hc_z
      obtain ⟨e47_z, e48_z⟩ := hc_z
      exact Or.inr (Or.inl ⟨b43_z, b46_z, e47_z, e48_z⟩)
    · replace b46_z : a.toInt ≤ c.toInt := b46_z
      replace hc_z := rn_iconst (w := 1) (am_cur_of (i := (10, 1, .iconst 1, (0, 0, 0), 0)) (by decide +kernel)) (by decide) hc_z
      replace hc_z := rn_goto (am_cur_of (i := (11, 3, .goto 4, (9, 0, 0), 0)) (by decide +kernel)) hc_z
      replace hc_z := rn_iret (am_cur_of (i := (15, 1, .ireturn, (0, 0, 0), 0)) (by decide +kernel)) hc_z
      obtain ⟨e49_z, e50_z⟩ := hc_z
      exact Or.inr (Or.inr (⟨b43_z, b46_z, e49_z, e50_z⟩))
theorem kc_128 {n : Nat} {h h' : am_H} {r : Option Value} {s a : Int32} (es_z : rg_v h 142 0 = s) (s0_z : 0 ≤ s.toInt) (s4_z : s.toInt ≤ 24) (hc_z : rn n am_m128 0 (lv_args 0 [.ref 0, .int a]) [] h r h') : (((-1 : Int) ≤ a.toInt ∧ a.toInt ≤ s.toInt) ∧ r = some (.int 1)) ∨ (¬ ((-1 : Int) ≤ a.toInt ∧ a.toInt ≤ s.toInt) ∧ r = some (.int 0)) := by
  have zm1_z : ((-1) : Int32).toInt = (-1) := by decide
  have z0_z : (0 : Int32).toInt = 0 := by decide
  have z24_z : (24 : Int32).toInt = 24 := by decide
  have g0_z : am_get (lv_args 0 [.ref 0, .int a]) 0 = some (.ref 0) := rfl
  have g1_z : am_get (lv_args 0 [.ref 0, .int a]) 1 = some (.int a) := rfl
  replace hc_z := rn_iload_n (am_cur_of (i := (0, 1, .iload_n 1, (0, 0, 0), 0)) (by decide +kernel)) g1_z hc_z
  replace hc_z := rn_iconst (w := (-1)) (am_cur_of (i := (1, 1, .iconst (-1), (0, 0, 0), 0)) (by decide +kernel)) (by decide) hc_z
  replace hc_z := rn_cmp (am_cur_of (i := (2, 3, .if_icmp .lt 14, (8, 0, 0), 0)) (by decide +kernel)) hc_z
  rcases hc_z with ⟨b51_z, hc_z⟩ | ⟨b51_z, hc_z⟩
  · replace b51_z : a.toInt < ((-1) : Int32).toInt := b51_z
    replace hc_z := rn_iconst (w := 0) (am_cur_of (i := (16, 1, .iconst 0, (0, 0, 0), 0)) (by decide +kernel)) (by decide) hc_z
    replace hc_z := rn_iret (am_cur_of (i := (17, 1, .ireturn, (0, 0, 0), 0)) (by decide +kernel)) hc_z
    obtain ⟨e52_z, e53_z⟩ := hc_z
    exact Or.inr ⟨by omega, e52_z⟩
  · replace b51_z : ((-1) : Int32).toInt ≤ a.toInt := b51_z
    replace hc_z := rn_iload_n (am_cur_of (i := (5, 1, .iload_n 1, (0, 0, 0), 0)) (by decide +kernel)) g1_z hc_z
    replace hc_z := rn_aload_n (am_cur_of (i := (6, 1, .aload_n 0, (0, 0, 0), 0)) (by decide +kernel)) g0_z hc_z
    replace hc_z := rn_getR (x := 142) (am_cur_of (i := (7, 3, .getfield 57, (0, 10, 671), 0)) (by decide +kernel)) (by decide +kernel) hc_z
    replace hc_z := rn_getI (v := s) (am_cur_of (i := (10, 3, .getfield 331, (7, 0, 531), 0)) (by decide +kernel)) (by decide +kernel) es_z hc_z
    replace hc_z := rn_cmp (am_cur_of (i := (13, 3, .if_icmp .le 5, (10, 0, 0), 0)) (by decide +kernel)) hc_z
    rcases hc_z with ⟨b54_z, hc_z⟩ | ⟨b54_z, hc_z⟩
    · replace b54_z : a.toInt ≤ s.toInt := b54_z
      replace hc_z := rn_aload_n (am_cur_of (i := (18, 1, .aload_n 0, (0, 0, 0), 0)) (by decide +kernel)) g0_z hc_z
      replace hc_z := rn_getR (x := 142) (am_cur_of (i := (19, 3, .getfield 57, (0, 10, 671), 0)) (by decide +kernel)) (by decide +kernel) hc_z
      replace hc_z := rn_iload_n (am_cur_of (i := (22, 1, .iload_n 1, (0, 0, 0), 0)) (by decide +kernel)) g1_z hc_z
      replace hc_z := rn_put (am_cur_of (i := (23, 3, .putfield 334, (7, 1, 533), 0)) (by decide +kernel)) (by decide +kernel) hc_z
      replace hc_z := rn_iconst (w := 1) (am_cur_of (i := (26, 1, .iconst 1, (0, 0, 0), 0)) (by decide +kernel)) (by decide) hc_z
      replace hc_z := rn_iret (am_cur_of (i := (27, 1, .ireturn, (0, 0, 0), 0)) (by decide +kernel)) hc_z
      obtain ⟨e55_z, e56_z⟩ := hc_z
      exact Or.inl ⟨by omega, e55_z⟩
    · replace b54_z : s.toInt < a.toInt := b54_z
      replace hc_z := rn_iconst (w := 0) (am_cur_of (i := (16, 1, .iconst 0, (0, 0, 0), 0)) (by decide +kernel)) (by decide) hc_z
      replace hc_z := rn_iret (am_cur_of (i := (17, 1, .ireturn, (0, 0, 0), 0)) (by decide +kernel)) hc_z
      obtain ⟨e57_z, e58_z⟩ := hc_z
      exact Or.inr ⟨by omega, e57_z⟩
theorem kc_243 {n : Nat} {g g' : am_H} {r : Option Value} {s a : Int32} (es_z : rg_v g 164 73 = s) (s0_z : 0 ≤ s.toInt) (s4_z : s.toInt ≤ 24) (hm_z : rn n am_m243 0 (lv_args 0 [.ref 164, .int a]) [] g r g') : (((-1 : Int) ≤ a.toInt ∧ a.toInt ≤ s.toInt) ∧ r = some (.int 1)) ∨ (¬ ((-1 : Int) ≤ a.toInt ∧ a.toInt ≤ s.toInt) ∧ r = some (.int 0)) := by
  have zm1_z : ((-1) : Int32).toInt = (-1) := by decide
  have z0_z : (0 : Int32).toInt = 0 := by decide
  have z24_z : (24 : Int32).toInt = 24 := by decide
  have g0_z : am_get (lv_args 0 [.ref 164, .int a]) 0 = some (.ref 164) := rfl
  have g1_z : am_get (lv_args 0 [.ref 164, .int a]) 1 = some (.int a) := rfl
  replace hm_z := rn_aload_n (am_cur_of (i := (0, 1, .aload_n 0, (0, 0, 0), 0)) (by decide +kernel)) g0_z hm_z
  replace hm_z := rn_iconst (w := 0) (am_cur_of (i := (1, 1, .iconst 0, (0, 0, 0), 0)) (by decide +kernel)) (by decide) hm_z
  replace hm_z := rn_put (am_cur_of (i := (2, 3, .putfield 139, (12, 2, 1386), 0)) (by decide +kernel)) (by decide +kernel) hm_z
  replace hm_z := rn_iload_n (am_cur_of (i := (5, 1, .iload_n 1, (0, 0, 0), 0)) (by decide +kernel)) g1_z hm_z
  replace hm_z := rn_iconst (w := (-1)) (am_cur_of (i := (6, 1, .iconst (-1), (0, 0, 0), 0)) (by decide +kernel)) (by decide) hm_z
  replace hm_z := rn_aload_n (am_cur_of (i := (7, 1, .aload_n 0, (0, 0, 0), 0)) (by decide +kernel)) g0_z hm_z
  replace hm_z := rn_getI (v := s) (am_cur_of (i := (8, 3, .getfield 368, (12, 73, 1457), 0)) (by decide +kernel)) (by decide +kernel) (show rg_v (am_up g 164 2 (.int 0)) 164 73 = s from es_z) hm_z
  replace hm_z := rn_callS (M' := am_m162) (ar := [.int s, .int (-1), .int a]) (rest := []) (L := lv_args 0 [.int a, .int (-1), .int s]) (am_cur_of (i := (11, 3, .invokestatic 184, (162, 1681, 3), 0)) (by decide +kernel)) rfl rfl rfl rfl hm_z
  obtain ⟨r59_z, h60_z, q61_z, hm_z⟩ := hm_z
  rcases kc_162 q61_z with ⟨b62_z, rfl, y63_z⟩ | ⟨b64_z, b65_z, rfl, y66_z⟩ | ⟨b67_z, b68_z, rfl, y69_z⟩
  · replace y63_z := y63_z.symm
    subst y63_z
    replace b62_z : a.toInt < ((-1) : Int32).toInt := b62_z
    replace hm_z : rn _ _ _ _ [.int 0] _ _ _ := hm_z
    replace hm_z := rn_ifF (am_cur_of (i := (14, 3, .ifCond .ne 5, (11, 0, 0), 0)) (by decide +kernel)) (by decide) hm_z
    replace hm_z := rn_iconst (w := 0) (am_cur_of (i := (17, 1, .iconst 0, (0, 0, 0), 0)) (by decide +kernel)) (by decide) hm_z
    replace hm_z := rn_iret (am_cur_of (i := (18, 1, .ireturn, (0, 0, 0), 0)) (by decide +kernel)) hm_z
    obtain ⟨e70_z, e71_z⟩ := hm_z
    exact Or.inr ⟨by omega, e70_z⟩
  · replace y66_z := y66_z.symm
    subst y66_z
    replace b64_z : ((-1) : Int32).toInt ≤ a.toInt := b64_z
    replace b65_z : s.toInt < a.toInt := b65_z
    replace hm_z : rn _ _ _ _ [.int 0] _ _ _ := hm_z
    replace hm_z := rn_ifF (am_cur_of (i := (14, 3, .ifCond .ne 5, (11, 0, 0), 0)) (by decide +kernel)) (by decide) hm_z
    replace hm_z := rn_iconst (w := 0) (am_cur_of (i := (17, 1, .iconst 0, (0, 0, 0), 0)) (by decide +kernel)) (by decide) hm_z
    replace hm_z := rn_iret (am_cur_of (i := (18, 1, .ireturn, (0, 0, 0), 0)) (by decide +kernel)) hm_z
    obtain ⟨e72_z, e73_z⟩ := hm_z
    exact Or.inr ⟨by omega, e72_z⟩
  · replace y69_z := y69_z.symm
    subst y69_z
    replace b67_z : ((-1) : Int32).toInt ≤ a.toInt := b67_z
    replace b68_z : a.toInt ≤ s.toInt := b68_z
    replace hm_z : rn _ _ _ _ [.int 1] _ _ _ := hm_z
    replace hm_z := rn_ifT (am_cur_of (i := (14, 3, .ifCond .ne 5, (11, 0, 0), 0)) (by decide +kernel)) (by decide) hm_z
    replace hm_z := rn_aload_n (am_cur_of (i := (19, 1, .aload_n 0, (0, 0, 0), 0)) (by decide +kernel)) g0_z hm_z
    replace hm_z := rn_iload_n (am_cur_of (i := (20, 1, .iload_n 1, (0, 0, 0), 0)) (by decide +kernel)) g1_z hm_z
    replace hm_z := rn_put (am_cur_of (i := (21, 3, .putfield 118, (12, 74, 1458), 0)) (by decide +kernel)) (by decide +kernel) hm_z
    replace hm_z := rn_iconst (w := 1) (am_cur_of (i := (24, 1, .iconst 1, (0, 0, 0), 0)) (by decide +kernel)) (by decide) hm_z
    replace hm_z := rn_iret (am_cur_of (i := (25, 1, .ireturn, (0, 0, 0), 0)) (by decide +kernel)) hm_z
    obtain ⟨e74_z, e75_z⟩ := hm_z
    exact Or.inl ⟨by omega, e74_z⟩
def ck_z (h g : am_H) : Prop := rg_v h 142 0 = rg_v g 164 73 ∧ 0 ≤ (rg_v h 142 0).toInt ∧ (rg_v h 142 0).toInt ≤ 24
theorem ck_strike {n n' : Nat} {h h' g g' : am_H} {r r' : Option Value} {a : Int32} (C : ck_z h g) (hc_z : rn n am_m127 0 (lv_args 0 [.ref 0, .int a]) [] h r h') (hm_z : rn n' am_m242 0 (lv_args 0 [.ref 164, .int a]) [] g r' g') : r = r' ∧ ck_z h' g' := by
  obtain ⟨e, s0_z, s4_z⟩ := C
  have z1_z : (1 : Int32).toInt = 1 := by decide
  rcases kc_127 rfl s0_z s4_z hc_z with ⟨p, x, y⟩ | ⟨p, x, y⟩
  · rcases kc_242 e.symm s0_z s4_z hm_z with ⟨q, x2_z, y2_z⟩ | ⟨q, x2_z, y2_z⟩
    · have w := ab_iadd (x := rg_v h 142 0) (y := 1) (by omega) (by omega)
      refine ⟨x.trans x2_z.symm, y.trans y2_z.symm, ?_, ?_⟩
      · rw [y, w]; omega
      · rw [y, w]; omega
    · exact absurd p q
  · rcases kc_242 e.symm s0_z s4_z hm_z with ⟨q, x2_z, y2_z⟩ | ⟨q, x2_z, y2_z⟩
    · exact absurd q p
    · refine ⟨x.trans x2_z.symm, y.trans y2_z.symm, ?_, ?_⟩
      · rw [y]; exact s0_z
      · rw [y]; exact s4_z
theorem ck_known {n n' : Nat} {h h' g g' : am_H} {r r' : Option Value} {a : Int32} (C : ck_z h g) (hc_z : rn n am_m128 0 (lv_args 0 [.ref 0, .int a]) [] h r h') (hm_z : rn n' am_m243 0 (lv_args 0 [.ref 164, .int a]) [] g r' g') : r = r' := by
  obtain ⟨e, s0_z, s4_z⟩ := C
  rcases kc_128 rfl s0_z s4_z hc_z with ⟨p, x⟩ | ⟨p, x⟩
  · rcases kc_243 e.symm s0_z s4_z hm_z with ⟨q, x2_z⟩ | ⟨q, x2_z⟩
    · exact x.trans x2_z.symm
    · exact absurd p q
  · rcases kc_243 e.symm s0_z s4_z hm_z with ⟨q, x2_z⟩ | ⟨q, x2_z⟩
    · exact absurd q p
    · exact x.trans x2_z.symm
