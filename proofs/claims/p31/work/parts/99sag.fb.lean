theorem fk_248 {nst : Nat} {r : Option Value} {g g' : am_H} {w : Int32} {i : Int32} {n : Int32}  (hm_z : rn nst am_m248 0 (lv_args 0 [.ref 164, .int w, .int i, .int n]) [] g r g') : bk g g' := by
  have z0_z : (0 : Int32).toInt = 0 := by decide
  have z4_z : (4 : Int32).toInt = 4 := by decide
  have g0_z : am_get (lv_args 0 [.ref 164, .int w, .int i, .int n]) 0 = some (.ref 164) := rfl
  have g1_z : am_get (lv_args 0 [.ref 164, .int w, .int i, .int n]) 1 = some (.int w) := rfl
  have g2_z : am_get (lv_args 0 [.ref 164, .int w, .int i, .int n]) 2 = some (.int i) := rfl
  have g3_z : am_get (lv_args 0 [.ref 164, .int w, .int i, .int n]) 3 = some (.int n) := rfl
  replace hm_z := rn_aload_n (am_cur_of (i := (0, 1, .aload_n 0, (0, 0, 0), 0)) (by decide +kernel)) g0_z hm_z
  replace hm_z := rn_iconst (w := 0) (am_cur_of (i := (1, 1, .iconst 0, (0, 0, 0), 0)) (by decide +kernel)) (by decide) hm_z
  replace hm_z := rn_put (am_cur_of (i := (2, 3, .putfield 139, (12, 2, 1386), 0)) (by decide +kernel)) (by decide +kernel) hm_z
  replace hm_z := rn_iload_n (am_cur_of (i := (5, 1, .iload_n 1, (0, 0, 0), 0)) (by decide +kernel)) g1_z hm_z
  replace hm_z := rn_iconst (w := 0) (am_cur_of (i := (6, 1, .iconst 0, (0, 0, 0), 0)) (by decide +kernel)) (by decide) hm_z
  replace hm_z := rn_iconst (w := 4) (am_cur_of (i := (7, 1, .iconst 4, (0, 0, 0), 0)) (by decide +kernel)) (by decide) hm_z
  replace hm_z := rn_callS (M' := am_m162) (ar := [.int 4, .int 0, .int w]) (rest := []) (L := lv_args 0 [.int w, .int 0, .int 4]) (am_cur_of (i := (8, 3, .invokestatic 184, (162, 1681, 3), 0)) (by decide +kernel)) rfl rfl rfl rfl hm_z
  obtain ⟨r2112_z, h2113_z, q2114_z, hm_z⟩ := hm_z
  have k2115_z := nq_162 q2114_z
  obtain ⟨v2116_z, rfl⟩ := rn_ret (M := am_m162) rfl (by decide) q2114_z
  replace hm_z : rn _ _ _ _ [.int v2116_z] _ _ _ := hm_z
  replace hm_z := rn_if (am_cur_of (i := (11, 3, .ifCond .eq 52, (33, 0, 0), 0)) (by decide +kernel)) hm_z
  rcases hm_z with ⟨b2117_z, hm_z⟩ | ⟨b2117_z, hm_z⟩
  · replace b2117_z : v2116_z = (0 : Int32) ∧ v2116_z.toInt = (0 : Int32).toInt := b2117_z
    have H33 := (fk_248_L (r := r) (g' := g') (w := w) (i := i) (n := n)  nst).2.1
    exact bk_t (bk_t (bk_u (by decide) bk_r) (bk_n k2115_z)) (H33 _ _ hm_z)
  · replace b2117_z : ¬ v2116_z = (0 : Int32) ∧ ¬ v2116_z.toInt = (0 : Int32).toInt := b2117_z
    replace hm_z := rn_iload_n (am_cur_of (i := (14, 1, .iload_n 3, (0, 0, 0), 0)) (by decide +kernel)) g3_z hm_z
    replace hm_z := rn_iconst (w := 0) (am_cur_of (i := (15, 1, .iconst 0, (0, 0, 0), 0)) (by decide +kernel)) (by decide) hm_z
    replace hm_z := rn_sipush (w := 3600) (am_cur_of (i := (16, 3, .sipush 3600, (0, 0, 0), 0)) (by decide +kernel)) (by decide) hm_z
    replace hm_z := rn_callS (M' := am_m162) (ar := [.int 3600, .int 0, .int n]) (rest := []) (L := lv_args 0 [.int n, .int 0, .int 3600]) (am_cur_of (i := (19, 3, .invokestatic 184, (162, 1681, 3), 0)) (by decide +kernel)) rfl rfl rfl rfl hm_z
    obtain ⟨r2118_z, h2119_z, q2120_z, hm_z⟩ := hm_z
    have k2121_z := nq_162 q2120_z
    obtain ⟨v2122_z, rfl⟩ := rn_ret (M := am_m162) rfl (by decide) q2120_z
    replace hm_z : rn _ _ _ _ [.int v2122_z] _ _ _ := hm_z
    replace hm_z := rn_if (am_cur_of (i := (22, 3, .ifCond .eq 41, (33, 0, 0), 0)) (by decide +kernel)) hm_z
    rcases hm_z with ⟨b2123_z, hm_z⟩ | ⟨b2123_z, hm_z⟩
    · replace b2123_z : v2122_z = (0 : Int32) ∧ v2122_z.toInt = (0 : Int32).toInt := b2123_z
      have H33 := (fk_248_L (r := r) (g' := g') (w := w) (i := i) (n := n)  nst).2.1
      exact bk_t (bk_t (bk_t (bk_u (by decide) bk_r) (bk_n k2115_z)) (bk_n k2121_z)) (H33 _ _ hm_z)
    · replace b2123_z : ¬ v2122_z = (0 : Int32) ∧ ¬ v2122_z.toInt = (0 : Int32).toInt := b2123_z
      replace hm_z := rn_iload_n (am_cur_of (i := (25, 1, .iload_n 1, (0, 0, 0), 0)) (by decide +kernel)) g1_z hm_z
      replace hm_z := rn_iconst (w := 4) (am_cur_of (i := (26, 1, .iconst 4, (0, 0, 0), 0)) (by decide +kernel)) (by decide) hm_z
      replace hm_z := rn_cmp (am_cur_of (i := (27, 3, .if_icmp .ne 18, (23, 0, 0), 0)) (by decide +kernel)) hm_z
      rcases hm_z with ⟨b2124_z, hm_z⟩ | ⟨b2124_z, hm_z⟩
      · replace b2124_z : ¬ w = (4 : Int32) ∧ ¬ w.toInt = (4 : Int32).toInt := b2124_z
        replace hm_z := rn_iload_n (am_cur_of (i := (45, 1, .iload_n 2, (0, 0, 0), 0)) (by decide +kernel)) g2_z hm_z
        replace hm_z := rn_if (am_cur_of (i := (46, 3, .ifCond .ne 17, (33, 0, 0), 0)) (by decide +kernel)) hm_z
        rcases hm_z with ⟨b2125_z, hm_z⟩ | ⟨b2125_z, hm_z⟩
        · replace b2125_z : ¬ i = (0 : Int32) ∧ ¬ i.toInt = (0 : Int32).toInt := b2125_z
          have H33 := (fk_248_L (r := r) (g' := g') (w := w) (i := i) (n := n)  nst).2.1
          exact bk_t (bk_t (bk_t (bk_u (by decide) bk_r) (bk_n k2115_z)) (bk_n k2121_z)) (H33 _ _ hm_z)
        · replace b2125_z : i = (0 : Int32) ∧ i.toInt = (0 : Int32).toInt := b2125_z
          have H25 := (fk_248_L (r := r) (g' := g') (w := w) (i := i) (n := n)  nst).1
          exact bk_t (bk_t (bk_t (bk_u (by decide) bk_r) (bk_n k2115_z)) (bk_n k2121_z)) (H25 _ _ g0_z g1_z g2_z g3_z hm_z)
      · replace b2124_z : w = (4 : Int32) ∧ w.toInt = (4 : Int32).toInt := b2124_z
        replace hm_z := rn_iload_n (am_cur_of (i := (30, 1, .iload_n 2, (0, 0, 0), 0)) (by decide +kernel)) g2_z hm_z
        replace hm_z := rn_if (am_cur_of (i := (31, 3, .ifCond .lt 32, (33, 0, 0), 0)) (by decide +kernel)) hm_z
        rcases hm_z with ⟨b2126_z, hm_z⟩ | ⟨b2126_z, hm_z⟩
        · replace b2126_z : i.toInt < (0 : Int32).toInt := b2126_z
          have H33 := (fk_248_L (r := r) (g' := g') (w := w) (i := i) (n := n)  nst).2.1
          exact bk_t (bk_t (bk_t (bk_u (by decide) bk_r) (bk_n k2115_z)) (bk_n k2121_z)) (H33 _ _ hm_z)
        · replace b2126_z : (0 : Int32).toInt ≤ i.toInt := b2126_z
          replace hm_z := rn_iload_n (am_cur_of (i := (34, 1, .iload_n 2, (0, 0, 0), 0)) (by decide +kernel)) g2_z hm_z
          replace hm_z := rn_aload_n (am_cur_of (i := (35, 1, .aload_n 0, (0, 0, 0), 0)) (by decide +kernel)) g0_z hm_z
          replace hm_z := rn_getI (v := rg_v h2119_z 164 14) (am_cur_of (i := (36, 3, .getfield 225, (12, 14, 1398), 0)) (by decide +kernel)) (by decide +kernel) rfl hm_z
          replace hm_z := rn_cmp (am_cur_of (i := (39, 3, .if_icmp .lt 10, (25, 0, 0), 0)) (by decide +kernel)) hm_z
          rcases hm_z with ⟨b2127_z, hm_z⟩ | ⟨b2127_z, hm_z⟩
          · replace b2127_z : i.toInt < (rg_v h2119_z 164 14).toInt := b2127_z
            have H25 := (fk_248_L (r := r) (g' := g') (w := w) (i := i) (n := n)  nst).1
            exact bk_t (bk_t (bk_t (bk_u (by decide) bk_r) (bk_n k2115_z)) (bk_n k2121_z)) (H25 _ _ g0_z g1_z g2_z g3_z hm_z)
          · replace b2127_z : (rg_v h2119_z 164 14).toInt ≤ i.toInt := b2127_z
            replace hm_z := rn_goto (am_cur_of (i := (42, 3, .goto 21, (33, 0, 0), 0)) (by decide +kernel)) hm_z
            have H33 := (fk_248_L (r := r) (g' := g') (w := w) (i := i) (n := n)  nst).2.1
            exact bk_t (bk_t (bk_t (bk_u (by decide) bk_r) (bk_n k2115_z)) (bk_n k2121_z)) (H33 _ _ hm_z)
