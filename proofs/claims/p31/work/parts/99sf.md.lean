/-! ===== WHAT THE MODEL'S CALLS LEAVE IN ITS BED (wip/r/gen99sf.py) ===== -/
def mrs (did t last rests : Int32) : Int32 := if 0 < did.toInt ∧ rests.toInt ≤ (t - last).toInt then 0 else did
theorem mrs_1 {d t l r : Int32} (h : 0 < d.toInt ∧ r.toInt ≤ (t - l).toInt) : mrs d t l r = 0 := if_pos h
theorem mrs_0 {d t l r : Int32} (h : ¬ (0 < d.toInt ∧ r.toInt ≤ (t - l).toInt)) : mrs d t l r = d := if_neg h
theorem mrs_ef {d t l r : Int32} (h : 0 ≤ d.toInt) : mrs d t l r = ef d l t r := by
  unfold mrs ef
  by_cases q : r.toInt ≤ (t - l).toInt
  · rw [if_pos q]
    by_cases z : 0 < d.toInt
    · rw [if_pos ⟨z, q⟩]
    · rw [if_neg (fun y => z y.1)]
      exact Int32.toInt_inj.mp (by rw [show (0 : Int32).toInt = 0 by decide]; omega)
  · rw [if_neg q, if_neg (fun y => q y.2)]
/-- index texts of the model's rows -/
theorem ix_7 {k : Int32} {c : Int32} (k0_z : 0 ≤ k.toInt) (k3_z : k.toInt ≤ 3) (c0_z : 0 ≤ c.toInt) (c6_z : c.toInt ≤ 6) : (((7 : Int32) * k) + c).toNatClampNeg = 7 * k.toNatClampNeg + c.toNatClampNeg := by
  have z7_z : (7 : Int32).toInt = 7 := by decide
  have a := ab_imul (x := 7) (y := k) (by rw [z7_z]; omega) (by rw [z7_z]; omega)
  rw [z7_z] at a
  have b := ab_iadd (x := (7 : Int32) * k) (y := c) (by omega) (by omega)
  have e := rt_cl (x := ((7 : Int32) * k) + c) (by omega)
  have f := rt_cl k0_z
  have g := rt_cl c0_z
  omega
theorem ix_4 {k : Int32} {c : Int32} (k0_z : 0 ≤ k.toInt) (k3_z : k.toInt ≤ 3) (c0_z : 0 ≤ c.toInt) (c6_z : c.toInt ≤ 99) : (c + k).toNatClampNeg = c.toNatClampNeg + k.toNatClampNeg := by
  have b := ab_iadd (x := c) (y := k) (by omega) (by omega)
  have e := rt_cl (x := c + k) (by omega)
  have f := rt_cl k0_z
  have g := rt_cl c0_z
  omega
theorem mf_204 {n : Nat} {r : Option Value} {g g' : am_H} {k t did en rs : Int32} (k0_z : 0 ≤ k.toInt) (k3_z : k.toInt ≤ 3) (E1 : rg_v g 189 1 = t) (Ed : rg_v g 191 (4 + k.toNatClampNeg) = did) (Ee : rg_v g 193 (4 + k.toNatClampNeg) = en) (Er : rg_v g 170 (7 * k.toNatClampNeg + 4) = rs) (hm_z : rn n am_m204 0 (lv_args 0 [.ref 164, .int 1, .int k]) [] g r g') : rg_v g' 191 (4 + k.toNatClampNeg) = mrs did t en rs ∧ ∀ o q, ¬ (o = 191 ∧ q = 4 + k.toNatClampNeg) → g' o q = g o q := by
  have z0_z : (0 : Int32).toInt = 0 := by decide
  have g0_z : am_get (lv_args 0 [.ref 164, .int 1, .int k]) 0 = some (.ref 164) := rfl
  have g1_z : am_get (lv_args 0 [.ref 164, .int 1, .int k]) 1 = some (.int 1) := rfl
  have g2_z : am_get (lv_args 0 [.ref 164, .int 1, .int k]) 2 = some (.int k) := rfl
  have y4_z : ((4 : Int32) + k).toNatClampNeg = 4 + k.toNatClampNeg := ix_4 (c := 4) k0_z k3_z (by decide) (by decide)
  have x2_z : (((7 : Int32) * k) + 2).toNatClampNeg = 7 * k.toNatClampNeg + 2 := ix_7 (c := 2) k0_z k3_z (by decide) (by decide)
  have x3_z : (((7 : Int32) * k) + 3).toNatClampNeg = 7 * k.toNatClampNeg + 3 := ix_7 (c := 3) k0_z k3_z (by decide) (by decide)
  have x4_z : (((7 : Int32) * k) + 4).toNatClampNeg = 7 * k.toNatClampNeg + 4 := ix_7 (c := 4) k0_z k3_z (by decide) (by decide)
  have x5_z : (((7 : Int32) * k) + 5).toNatClampNeg = 7 * k.toNatClampNeg + 5 := ix_7 (c := 5) k0_z k3_z (by decide) (by decide)
  replace hm_z := rn_aload_n (am_cur_of (i := (0, 1, .aload_n 0, (0, 0, 0), 0)) (by decide +kernel)) g0_z hm_z
  replace hm_z := rn_getR (x := 191) (am_cur_of (i := (1, 3, .getfield 94, (12, 53, 1437), 0)) (by decide +kernel)) (by decide +kernel) hm_z
  replace hm_z := rn_iconst (w := 4) (am_cur_of (i := (4, 1, .iconst 4, (0, 0, 0), 0)) (by decide +kernel)) (by decide) hm_z
  replace hm_z := rn_iload_n (am_cur_of (i := (5, 1, .iload_n 1, (0, 0, 0), 0)) (by decide +kernel)) g1_z hm_z
  replace hm_z := rn_imul (w := 4) (am_cur_of (i := (6, 1, .imul, (0, 0, 0), 0)) (by decide +kernel)) (by decide) hm_z
  replace hm_z := rn_iload_n (am_cur_of (i := (7, 1, .iload_n 2, (0, 0, 0), 0)) (by decide +kernel)) g2_z hm_z
  replace hm_z := rn_iadd (w := (4 : Int32) + k) (am_cur_of (i := (8, 1, .iadd, (0, 0, 0), 0)) (by decide +kernel)) rfl hm_z
  replace hm_z := rn_iaload (N := 16) (q := ((4 : Int32) + k).toNatClampNeg) (v := did) (am_cur_of (i := (9, 1, .iaload, (0, 0, 0), 0)) (by decide +kernel)) (by decide +kernel) rfl (by rw [y4_z]; exact Ed) hm_z
  obtain ⟨p1_z, hm_z⟩ := hm_z
  replace hm_z := rn_if (am_cur_of (i := (10, 3, .ifCond .le 45, (40, 0, 0), 0)) (by decide +kernel)) hm_z
  rcases hm_z with ⟨b2_z, hm_z⟩ | ⟨b2_z, hm_z⟩
  · replace b2_z : did.toInt ≤ (0 : Int32).toInt := b2_z
    replace hm_z := rn_vret (am_cur_of (i := (55, 1, .return_, (0, 0, 0), 0)) (by decide +kernel)) hm_z
    obtain ⟨e3_z, e4_z⟩ := hm_z
    rw [e4_z]
    exact ⟨Ed.trans (mrs_0 (by omega)).symm, fun o q ho => rfl⟩
  · replace b2_z : (0 : Int32).toInt < did.toInt := b2_z
    replace hm_z := rn_aload_n (am_cur_of (i := (13, 1, .aload_n 0, (0, 0, 0), 0)) (by decide +kernel)) g0_z hm_z
    replace hm_z := rn_getR (x := 189) (am_cur_of (i := (14, 3, .getfield 88, (12, 51, 1435), 0)) (by decide +kernel)) (by decide +kernel) hm_z
    replace hm_z := rn_iload_n (am_cur_of (i := (17, 1, .iload_n 1, (0, 0, 0), 0)) (by decide +kernel)) g1_z hm_z
    replace hm_z := rn_iaload (N := 4) (q := 1) (v := t) (am_cur_of (i := (18, 1, .iaload, (0, 0, 0), 0)) (by decide +kernel)) (by decide +kernel) rfl E1 hm_z
    obtain ⟨p5_z, hm_z⟩ := hm_z
    replace hm_z := rn_aload_n (am_cur_of (i := (19, 1, .aload_n 0, (0, 0, 0), 0)) (by decide +kernel)) g0_z hm_z
    replace hm_z := rn_getR (x := 193) (am_cur_of (i := (20, 3, .getfield 100, (12, 55, 1439), 0)) (by decide +kernel)) (by decide +kernel) hm_z
    replace hm_z := rn_iconst (w := 4) (am_cur_of (i := (23, 1, .iconst 4, (0, 0, 0), 0)) (by decide +kernel)) (by decide) hm_z
    replace hm_z := rn_iload_n (am_cur_of (i := (24, 1, .iload_n 1, (0, 0, 0), 0)) (by decide +kernel)) g1_z hm_z
    replace hm_z := rn_imul (w := 4) (am_cur_of (i := (25, 1, .imul, (0, 0, 0), 0)) (by decide +kernel)) (by decide) hm_z
    replace hm_z := rn_iload_n (am_cur_of (i := (26, 1, .iload_n 2, (0, 0, 0), 0)) (by decide +kernel)) g2_z hm_z
    replace hm_z := rn_iadd (w := (4 : Int32) + k) (am_cur_of (i := (27, 1, .iadd, (0, 0, 0), 0)) (by decide +kernel)) rfl hm_z
    replace hm_z := rn_iaload (N := 16) (q := ((4 : Int32) + k).toNatClampNeg) (v := en) (am_cur_of (i := (28, 1, .iaload, (0, 0, 0), 0)) (by decide +kernel)) (by decide +kernel) rfl (by rw [y4_z]; exact Ee) hm_z
    obtain ⟨p6_z, hm_z⟩ := hm_z
    replace hm_z := rn_isub (w := t - en) (am_cur_of (i := (29, 1, .isub, (0, 0, 0), 0)) (by decide +kernel)) rfl hm_z
    replace hm_z := rn_aload_n (am_cur_of (i := (30, 1, .aload_n 0, (0, 0, 0), 0)) (by decide +kernel)) g0_z hm_z
    replace hm_z := rn_getR (x := 170) (am_cur_of (i := (31, 3, .getfield 30, (12, 25, 1409), 0)) (by decide +kernel)) (by decide +kernel) hm_z
    replace hm_z := rn_bipush (w := 7) (am_cur_of (i := (34, 2, .bipush 7, (0, 0, 0), 0)) (by decide +kernel)) (by decide) hm_z
    replace hm_z := rn_iload_n (am_cur_of (i := (36, 1, .iload_n 2, (0, 0, 0), 0)) (by decide +kernel)) g2_z hm_z
    replace hm_z := rn_imul (w := (7 : Int32) * k) (am_cur_of (i := (37, 1, .imul, (0, 0, 0), 0)) (by decide +kernel)) rfl hm_z
    replace hm_z := rn_iconst (w := 4) (am_cur_of (i := (38, 1, .iconst 4, (0, 0, 0), 0)) (by decide +kernel)) (by decide) hm_z
    replace hm_z := rn_iadd (w := ((7 : Int32) * k) + 4) (am_cur_of (i := (39, 1, .iadd, (0, 0, 0), 0)) (by decide +kernel)) rfl hm_z
    replace hm_z := rn_iaload (N := 56) (q := (((7 : Int32) * k) + 4).toNatClampNeg) (v := rs) (am_cur_of (i := (40, 1, .iaload, (0, 0, 0), 0)) (by decide +kernel)) (by decide +kernel) rfl (by rw [x4_z]; exact Er) hm_z
    obtain ⟨p7_z, hm_z⟩ := hm_z
    replace hm_z := rn_cmp (am_cur_of (i := (41, 3, .if_icmp .lt 14, (40, 0, 0), 0)) (by decide +kernel)) hm_z
    rcases hm_z with ⟨b8_z, hm_z⟩ | ⟨b8_z, hm_z⟩
    · replace b8_z : (t - en).toInt < rs.toInt := b8_z
      replace hm_z := rn_vret (am_cur_of (i := (55, 1, .return_, (0, 0, 0), 0)) (by decide +kernel)) hm_z
      obtain ⟨e9_z, e10_z⟩ := hm_z
      rw [e10_z]
      exact ⟨Ed.trans (mrs_0 (by omega)).symm, fun o q ho => rfl⟩
    · replace b8_z : rs.toInt ≤ (t - en).toInt := b8_z
      replace hm_z := rn_aload_n (am_cur_of (i := (44, 1, .aload_n 0, (0, 0, 0), 0)) (by decide +kernel)) g0_z hm_z
      replace hm_z := rn_getR (x := 191) (am_cur_of (i := (45, 3, .getfield 94, (12, 53, 1437), 0)) (by decide +kernel)) (by decide +kernel) hm_z
      replace hm_z := rn_iconst (w := 4) (am_cur_of (i := (48, 1, .iconst 4, (0, 0, 0), 0)) (by decide +kernel)) (by decide) hm_z
      replace hm_z := rn_iload_n (am_cur_of (i := (49, 1, .iload_n 1, (0, 0, 0), 0)) (by decide +kernel)) g1_z hm_z
      replace hm_z := rn_imul (w := 4) (am_cur_of (i := (50, 1, .imul, (0, 0, 0), 0)) (by decide +kernel)) (by decide) hm_z
      replace hm_z := rn_iload_n (am_cur_of (i := (51, 1, .iload_n 2, (0, 0, 0), 0)) (by decide +kernel)) g2_z hm_z
      replace hm_z := rn_iadd (w := (4 : Int32) + k) (am_cur_of (i := (52, 1, .iadd, (0, 0, 0), 0)) (by decide +kernel)) rfl hm_z
      replace hm_z := rn_iconst (w := 0) (am_cur_of (i := (53, 1, .iconst 0, (0, 0, 0), 0)) (by decide +kernel)) (by decide) hm_z
      replace hm_z := rn_iastore (N := 16) (q := ((4 : Int32) + k).toNatClampNeg) (am_cur_of (i := (54, 1, .iastore, (0, 0, 0), 0)) (by decide +kernel)) (by decide +kernel) rfl hm_z
      obtain ⟨p11_z, hm_z⟩ := hm_z
      replace hm_z := rn_vret (am_cur_of (i := (55, 1, .return_, (0, 0, 0), 0)) (by decide +kernel)) hm_z
      obtain ⟨e12_z, e13_z⟩ := hm_z
      rw [e13_z, y4_z]
      exact ⟨rg_v_self.trans (mrs_1 (by omega)).symm, fun o q ho => up_ne ho⟩
theorem mf_203 {n : Nat} {r : Option Value} {g g' : am_H} {k t did en rs tm : Int32} (k0_z : 0 ≤ k.toInt) (k3_z : k.toInt ≤ 3) (E1 : rg_v g 189 1 = t) (Ed : rg_v g 191 (4 + k.toNatClampNeg) = did) (Ee : rg_v g 193 (4 + k.toNatClampNeg) = en) (Er : rg_v g 170 (7 * k.toNatClampNeg + 4) = rs) (Em : rg_v g 170 (7 * k.toNatClampNeg + 2) = tm) (hm_z : rn n am_m203 0 (lv_args 0 [.ref 164, .int 1, .int k]) [] g r g') : (∃ v : Int32, r = some (.int v) ∧ ((v = 1 ∧ tm.toInt ≤ (mrs did t en rs).toInt) ∨ (v = 0 ∧ ¬ tm.toInt ≤ (mrs did t en rs).toInt))) ∧ rg_v g' 191 (4 + k.toNatClampNeg) = mrs did t en rs ∧ ∀ o q, ¬ (o = 191 ∧ q = 4 + k.toNatClampNeg) → g' o q = g o q := by
  have g0_z : am_get (lv_args 0 [.ref 164, .int 1, .int k]) 0 = some (.ref 164) := rfl
  have g1_z : am_get (lv_args 0 [.ref 164, .int 1, .int k]) 1 = some (.int 1) := rfl
  have g2_z : am_get (lv_args 0 [.ref 164, .int 1, .int k]) 2 = some (.int k) := rfl
  have y4_z : ((4 : Int32) + k).toNatClampNeg = 4 + k.toNatClampNeg := ix_4 (c := 4) k0_z k3_z (by decide) (by decide)
  have x2_z : (((7 : Int32) * k) + 2).toNatClampNeg = 7 * k.toNatClampNeg + 2 := ix_7 (c := 2) k0_z k3_z (by decide) (by decide)
  have x3_z : (((7 : Int32) * k) + 3).toNatClampNeg = 7 * k.toNatClampNeg + 3 := ix_7 (c := 3) k0_z k3_z (by decide) (by decide)
  have x4_z : (((7 : Int32) * k) + 4).toNatClampNeg = 7 * k.toNatClampNeg + 4 := ix_7 (c := 4) k0_z k3_z (by decide) (by decide)
  have x5_z : (((7 : Int32) * k) + 5).toNatClampNeg = 7 * k.toNatClampNeg + 5 := ix_7 (c := 5) k0_z k3_z (by decide) (by decide)
  replace hm_z := rn_aload_n (am_cur_of (i := (0, 1, .aload_n 0, (0, 0, 0), 0)) (by decide +kernel)) g0_z hm_z
  replace hm_z := rn_iload_n (am_cur_of (i := (1, 1, .iload_n 1, (0, 0, 0), 0)) (by decide +kernel)) g1_z hm_z
  replace hm_z := rn_iload_n (am_cur_of (i := (2, 1, .iload_n 2, (0, 0, 0), 0)) (by decide +kernel)) g2_z hm_z
  replace hm_z := rn_callV (M' := am_m204) (o := 164) (ar := [.int k, .int 1]) (rest := []) (L := lv_args 0 [.ref 164, .int 1, .int k]) (am_cur_of (i := (3, 3, .invokevirtual 413, (204, 1847, 3), 0)) (by decide +kernel)) rfl rfl rfl rfl hm_z
  obtain ⟨r14_z, h15_z, q16_z, hm_z⟩ := hm_z
  have vo := rn_void rfl q16_z
  subst vo
  obtain ⟨d1_z, d2_z⟩ := mf_204 k0_z k3_z E1 Ed Ee Er q16_z
  have Em2 : rg_v h15_z 170 (7 * k.toNatClampNeg + 2) = tm := by
    unfold rg_v at Em ⊢
    rw [d2_z 170 _ (by omega)]
    exact Em
  replace hm_z : rn _ _ _ _ [] _ _ _ := hm_z
  replace hm_z := rn_aload_n (am_cur_of (i := (6, 1, .aload_n 0, (0, 0, 0), 0)) (by decide +kernel)) g0_z hm_z
  replace hm_z := rn_getR (x := 191) (am_cur_of (i := (7, 3, .getfield 94, (12, 53, 1437), 0)) (by decide +kernel)) (by decide +kernel) hm_z
  replace hm_z := rn_iconst (w := 4) (am_cur_of (i := (10, 1, .iconst 4, (0, 0, 0), 0)) (by decide +kernel)) (by decide) hm_z
  replace hm_z := rn_iload_n (am_cur_of (i := (11, 1, .iload_n 1, (0, 0, 0), 0)) (by decide +kernel)) g1_z hm_z
  replace hm_z := rn_imul (w := 4) (am_cur_of (i := (12, 1, .imul, (0, 0, 0), 0)) (by decide +kernel)) (by decide) hm_z
  replace hm_z := rn_iload_n (am_cur_of (i := (13, 1, .iload_n 2, (0, 0, 0), 0)) (by decide +kernel)) g2_z hm_z
  replace hm_z := rn_iadd (w := (4 : Int32) + k) (am_cur_of (i := (14, 1, .iadd, (0, 0, 0), 0)) (by decide +kernel)) rfl hm_z
  replace hm_z := rn_iaload (N := 16) (q := ((4 : Int32) + k).toNatClampNeg) (v := mrs did t en rs) (am_cur_of (i := (15, 1, .iaload, (0, 0, 0), 0)) (by decide +kernel)) (by decide +kernel) rfl (by rw [y4_z]; exact d1_z) hm_z
  obtain ⟨p17_z, hm_z⟩ := hm_z
  replace hm_z := rn_aload_n (am_cur_of (i := (16, 1, .aload_n 0, (0, 0, 0), 0)) (by decide +kernel)) g0_z hm_z
  replace hm_z := rn_getR (x := 170) (am_cur_of (i := (17, 3, .getfield 30, (12, 25, 1409), 0)) (by decide +kernel)) (by decide +kernel) hm_z
  replace hm_z := rn_bipush (w := 7) (am_cur_of (i := (20, 2, .bipush 7, (0, 0, 0), 0)) (by decide +kernel)) (by decide) hm_z
  replace hm_z := rn_iload_n (am_cur_of (i := (22, 1, .iload_n 2, (0, 0, 0), 0)) (by decide +kernel)) g2_z hm_z
  replace hm_z := rn_imul (w := (7 : Int32) * k) (am_cur_of (i := (23, 1, .imul, (0, 0, 0), 0)) (by decide +kernel)) rfl hm_z
  replace hm_z := rn_iconst (w := 2) (am_cur_of (i := (24, 1, .iconst 2, (0, 0, 0), 0)) (by decide +kernel)) (by decide) hm_z
  replace hm_z := rn_iadd (w := ((7 : Int32) * k) + 2) (am_cur_of (i := (25, 1, .iadd, (0, 0, 0), 0)) (by decide +kernel)) rfl hm_z
  replace hm_z := rn_iaload (N := 56) (q := (((7 : Int32) * k) + 2).toNatClampNeg) (v := tm) (am_cur_of (i := (26, 1, .iaload, (0, 0, 0), 0)) (by decide +kernel)) (by decide +kernel) rfl (by rw [x2_z]; exact Em2) hm_z
  obtain ⟨p18_z, hm_z⟩ := hm_z
  replace hm_z := rn_cmp (am_cur_of (i := (27, 3, .if_icmp .lt 7, (23, 0, 0), 0)) (by decide +kernel)) hm_z
  rcases hm_z with ⟨b19_z, hm_z⟩ | ⟨b19_z, hm_z⟩
  · replace b19_z : (mrs did t en rs).toInt < tm.toInt := b19_z
    replace hm_z := rn_iconst (w := 0) (am_cur_of (i := (34, 1, .iconst 0, (0, 0, 0), 0)) (by decide +kernel)) (by decide) hm_z
    replace hm_z := rn_iret (am_cur_of (i := (35, 1, .ireturn, (0, 0, 0), 0)) (by decide +kernel)) hm_z
    obtain ⟨e20_z, e21_z⟩ := hm_z
    rw [e21_z]
    exact ⟨⟨_, e20_z, Or.inr ⟨rfl, by omega⟩⟩, d1_z, d2_z⟩
  · replace b19_z : tm.toInt ≤ (mrs did t en rs).toInt := b19_z
    replace hm_z := rn_iconst (w := 1) (am_cur_of (i := (30, 1, .iconst 1, (0, 0, 0), 0)) (by decide +kernel)) (by decide) hm_z
    replace hm_z := rn_goto (am_cur_of (i := (31, 3, .goto 4, (24, 0, 0), 0)) (by decide +kernel)) hm_z
    replace hm_z := rn_iret (am_cur_of (i := (35, 1, .ireturn, (0, 0, 0), 0)) (by decide +kernel)) hm_z
    obtain ⟨e22_z, e23_z⟩ := hm_z
    rw [e23_z]
    exact ⟨⟨_, e22_z, Or.inl ⟨rfl, by omega⟩⟩, d1_z, d2_z⟩
theorem mf_199_0 {n : Nat} {r : Option Value} {g g' : am_H} {o p : Int32} (hm_z : rn n am_m199 0 (lv_args 0 [.ref 164, .int 0, .int o, .int p]) [] g r g') : rg_v g' 189 0 = rg_v g 189 0 + 1 ∧ ∀ o q, nB o q = false → ¬ (o = 188 ∧ q = 0) → ¬ (o = 189 ∧ q = 0) → g' o q = g o q := by
  have g0_z : am_get (lv_args 0 [.ref 164, .int 0, .int o, .int p]) 0 = some (.ref 164) := rfl
  have g1_z : am_get (lv_args 0 [.ref 164, .int 0, .int o, .int p]) 1 = some (.int 0) := rfl
  have g2_z : am_get (lv_args 0 [.ref 164, .int 0, .int o, .int p]) 2 = some (.int o) := rfl
  have g3_z : am_get (lv_args 0 [.ref 164, .int 0, .int o, .int p]) 3 = some (.int p) := rfl
  replace hm_z := rn_aload_n (am_cur_of (i := (0, 1, .aload_n 0, (0, 0, 0), 0)) (by decide +kernel)) g0_z hm_z
  replace hm_z := rn_getR (x := 188) (am_cur_of (i := (1, 3, .getfield 85, (12, 50, 1434), 0)) (by decide +kernel)) (by decide +kernel) hm_z
  replace hm_z := rn_iload_n (am_cur_of (i := (4, 1, .iload_n 1, (0, 0, 0), 0)) (by decide +kernel)) g1_z hm_z
  replace hm_z := rn_aload_n (am_cur_of (i := (5, 1, .aload_n 0, (0, 0, 0), 0)) (by decide +kernel)) g0_z hm_z
  replace hm_z := rn_iload_n (am_cur_of (i := (6, 1, .iload_n 1, (0, 0, 0), 0)) (by decide +kernel)) g1_z hm_z
  replace hm_z := rn_iload_n (am_cur_of (i := (7, 1, .iload_n 2, (0, 0, 0), 0)) (by decide +kernel)) g2_z hm_z
  replace hm_z := rn_iload_n (am_cur_of (i := (8, 1, .iload_n 3, (0, 0, 0), 0)) (by decide +kernel)) g3_z hm_z
  replace hm_z := rn_callV (M' := am_m200) (o := 164) (ar := [.int p, .int o, .int 0]) (rest := [.int 0, .ref 188]) (L := lv_args 0 [.ref 164, .int 0, .int o, .int p]) (am_cur_of (i := (9, 3, .invokevirtual 409, (200, 1832, 3), 0)) (by decide +kernel)) rfl rfl rfl rfl hm_z
  obtain ⟨r24_z, h25_z, q26_z, hm_z⟩ := hm_z
  obtain ⟨v27_z, rfl⟩ := rn_ret (M := am_m200) rfl (by decide) q26_z
  have nk1_z := nq_200 q26_z
  replace hm_z : rn _ _ _ _ [.int v27_z, .int 0, .ref 188] _ _ _ := hm_z
  replace hm_z := rn_iastore (N := 4) (q := 0) (am_cur_of (i := (12, 1, .iastore, (0, 0, 0), 0)) (by decide +kernel)) (by decide +kernel) rfl hm_z
  obtain ⟨p28_z, hm_z⟩ := hm_z
  replace hm_z := rn_aload_n (am_cur_of (i := (13, 1, .aload_n 0, (0, 0, 0), 0)) (by decide +kernel)) g0_z hm_z
  replace hm_z := rn_getR (x := 189) (am_cur_of (i := (14, 3, .getfield 88, (12, 51, 1435), 0)) (by decide +kernel)) (by decide +kernel) hm_z
  replace hm_z := rn_iload_n (am_cur_of (i := (17, 1, .iload_n 1, (0, 0, 0), 0)) (by decide +kernel)) g1_z hm_z
  replace hm_z := rn_dup2 (am_cur_of (i := (18, 1, .dup2, (0, 0, 0), 0)) (by decide +kernel)) hm_z
  replace hm_z := rn_iaload (N := 4) (q := 0) (v := rg_v h25_z 189 0) (am_cur_of (i := (19, 1, .iaload, (0, 0, 0), 0)) (by decide +kernel)) (by decide +kernel) rfl ((rg_v_other (by omega)).trans (rfl)) hm_z
  obtain ⟨p29_z, hm_z⟩ := hm_z
  replace hm_z := rn_iconst (w := 1) (am_cur_of (i := (20, 1, .iconst 1, (0, 0, 0), 0)) (by decide +kernel)) (by decide) hm_z
  replace hm_z := rn_iadd (w := (rg_v h25_z 189 0) + 1) (am_cur_of (i := (21, 1, .iadd, (0, 0, 0), 0)) (by decide +kernel)) rfl hm_z
  replace hm_z := rn_iastore (N := 4) (q := 0) (am_cur_of (i := (22, 1, .iastore, (0, 0, 0), 0)) (by decide +kernel)) (by decide +kernel) rfl hm_z
  obtain ⟨p30_z, hm_z⟩ := hm_z
  replace hm_z := rn_vret (am_cur_of (i := (23, 1, .return_, (0, 0, 0), 0)) (by decide +kernel)) hm_z
  obtain ⟨e31_z, e32_z⟩ := hm_z
  rw [e32_z]
  refine ⟨?_, fun o q e1_z e2_z e3_z => (up_ne e3_z).trans ((up_ne e2_z).trans (nk1_z o q e1_z))⟩
  refine Eq.trans (rg_v_self) ?_
  have e : rg_v h25_z 189 0 = rg_v g 189 0 := by
    unfold rg_v
    rw [nk1_z 189 0 rfl]
  rw [e]
theorem mf_199_1 {n : Nat} {r : Option Value} {g g' : am_H} {o p : Int32} (hm_z : rn n am_m199 0 (lv_args 0 [.ref 164, .int 1, .int o, .int p]) [] g r g') : rg_v g' 189 1 = rg_v g 189 1 + 1 ∧ ∀ o q, nB o q = false → ¬ (o = 188 ∧ q = 1) → ¬ (o = 189 ∧ q = 1) → g' o q = g o q := by
  have g0_z : am_get (lv_args 0 [.ref 164, .int 1, .int o, .int p]) 0 = some (.ref 164) := rfl
  have g1_z : am_get (lv_args 0 [.ref 164, .int 1, .int o, .int p]) 1 = some (.int 1) := rfl
  have g2_z : am_get (lv_args 0 [.ref 164, .int 1, .int o, .int p]) 2 = some (.int o) := rfl
  have g3_z : am_get (lv_args 0 [.ref 164, .int 1, .int o, .int p]) 3 = some (.int p) := rfl
  replace hm_z := rn_aload_n (am_cur_of (i := (0, 1, .aload_n 0, (0, 0, 0), 0)) (by decide +kernel)) g0_z hm_z
  replace hm_z := rn_getR (x := 188) (am_cur_of (i := (1, 3, .getfield 85, (12, 50, 1434), 0)) (by decide +kernel)) (by decide +kernel) hm_z
  replace hm_z := rn_iload_n (am_cur_of (i := (4, 1, .iload_n 1, (0, 0, 0), 0)) (by decide +kernel)) g1_z hm_z
  replace hm_z := rn_aload_n (am_cur_of (i := (5, 1, .aload_n 0, (0, 0, 0), 0)) (by decide +kernel)) g0_z hm_z
  replace hm_z := rn_iload_n (am_cur_of (i := (6, 1, .iload_n 1, (0, 0, 0), 0)) (by decide +kernel)) g1_z hm_z
  replace hm_z := rn_iload_n (am_cur_of (i := (7, 1, .iload_n 2, (0, 0, 0), 0)) (by decide +kernel)) g2_z hm_z
  replace hm_z := rn_iload_n (am_cur_of (i := (8, 1, .iload_n 3, (0, 0, 0), 0)) (by decide +kernel)) g3_z hm_z
  replace hm_z := rn_callV (M' := am_m200) (o := 164) (ar := [.int p, .int o, .int 1]) (rest := [.int 1, .ref 188]) (L := lv_args 0 [.ref 164, .int 1, .int o, .int p]) (am_cur_of (i := (9, 3, .invokevirtual 409, (200, 1832, 3), 0)) (by decide +kernel)) rfl rfl rfl rfl hm_z
  obtain ⟨r33_z, h34_z, q35_z, hm_z⟩ := hm_z
  obtain ⟨v36_z, rfl⟩ := rn_ret (M := am_m200) rfl (by decide) q35_z
  have nk1_z := nq_200 q35_z
  replace hm_z : rn _ _ _ _ [.int v36_z, .int 1, .ref 188] _ _ _ := hm_z
  replace hm_z := rn_iastore (N := 4) (q := 1) (am_cur_of (i := (12, 1, .iastore, (0, 0, 0), 0)) (by decide +kernel)) (by decide +kernel) rfl hm_z
  obtain ⟨p37_z, hm_z⟩ := hm_z
  replace hm_z := rn_aload_n (am_cur_of (i := (13, 1, .aload_n 0, (0, 0, 0), 0)) (by decide +kernel)) g0_z hm_z
  replace hm_z := rn_getR (x := 189) (am_cur_of (i := (14, 3, .getfield 88, (12, 51, 1435), 0)) (by decide +kernel)) (by decide +kernel) hm_z
  replace hm_z := rn_iload_n (am_cur_of (i := (17, 1, .iload_n 1, (0, 0, 0), 0)) (by decide +kernel)) g1_z hm_z
  replace hm_z := rn_dup2 (am_cur_of (i := (18, 1, .dup2, (0, 0, 0), 0)) (by decide +kernel)) hm_z
  replace hm_z := rn_iaload (N := 4) (q := 1) (v := rg_v h34_z 189 1) (am_cur_of (i := (19, 1, .iaload, (0, 0, 0), 0)) (by decide +kernel)) (by decide +kernel) rfl ((rg_v_other (by omega)).trans (rfl)) hm_z
  obtain ⟨p38_z, hm_z⟩ := hm_z
  replace hm_z := rn_iconst (w := 1) (am_cur_of (i := (20, 1, .iconst 1, (0, 0, 0), 0)) (by decide +kernel)) (by decide) hm_z
  replace hm_z := rn_iadd (w := (rg_v h34_z 189 1) + 1) (am_cur_of (i := (21, 1, .iadd, (0, 0, 0), 0)) (by decide +kernel)) rfl hm_z
  replace hm_z := rn_iastore (N := 4) (q := 1) (am_cur_of (i := (22, 1, .iastore, (0, 0, 0), 0)) (by decide +kernel)) (by decide +kernel) rfl hm_z
  obtain ⟨p39_z, hm_z⟩ := hm_z
  replace hm_z := rn_vret (am_cur_of (i := (23, 1, .return_, (0, 0, 0), 0)) (by decide +kernel)) hm_z
  obtain ⟨e40_z, e41_z⟩ := hm_z
  rw [e41_z]
  refine ⟨?_, fun o q e1_z e2_z e3_z => (up_ne e3_z).trans ((up_ne e2_z).trans (nk1_z o q e1_z))⟩
  refine Eq.trans (rg_v_self) ?_
  have e : rg_v h34_z 189 1 = rg_v g 189 1 := by
    unfold rg_v
    rw [nk1_z 189 1 rfl]
  rw [e]
theorem mf_205 {n : Nat} {r : Option Value} {g g' : am_H} {k : Int32} (k0_z : 0 ≤ k.toInt) (k3_z : k.toInt ≤ 3) (hm_z : rn n am_m205 0 (lv_args 0 [.ref 164, .int 1, .int k]) [] g r g') : rg_v g' 191 (4 + k.toNatClampNeg) = rg_v g 191 (4 + k.toNatClampNeg) + 1 ∧ rg_v g' 192 (4 + k.toNatClampNeg) = rg_v g 192 (4 + k.toNatClampNeg) + 1 ∧ rg_v g' 193 (4 + k.toNatClampNeg) = rg_v g 189 1 ∧ rg_v g' 190 1 = k ∧ ∀ o q, nB o q = false → ¬ (o = 188 ∧ q = 1) → ¬ (191 ≤ o ∧ o ≤ 193 ∧ q = 4 + k.toNatClampNeg) → ¬ (o = 190 ∧ q = 1) → g' o q = g o q := by
  have g0_z : am_get (lv_args 0 [.ref 164, .int 1, .int k]) 0 = some (.ref 164) := rfl
  have g1_z : am_get (lv_args 0 [.ref 164, .int 1, .int k]) 1 = some (.int 1) := rfl
  have g2_z : am_get (lv_args 0 [.ref 164, .int 1, .int k]) 2 = some (.int k) := rfl
  have y4_z : ((4 : Int32) + k).toNatClampNeg = 4 + k.toNatClampNeg := ix_4 (c := 4) k0_z k3_z (by decide) (by decide)
  have x2_z : (((7 : Int32) * k) + 2).toNatClampNeg = 7 * k.toNatClampNeg + 2 := ix_7 (c := 2) k0_z k3_z (by decide) (by decide)
  have x3_z : (((7 : Int32) * k) + 3).toNatClampNeg = 7 * k.toNatClampNeg + 3 := ix_7 (c := 3) k0_z k3_z (by decide) (by decide)
  have x4_z : (((7 : Int32) * k) + 4).toNatClampNeg = 7 * k.toNatClampNeg + 4 := ix_7 (c := 4) k0_z k3_z (by decide) (by decide)
  have x5_z : (((7 : Int32) * k) + 5).toNatClampNeg = 7 * k.toNatClampNeg + 5 := ix_7 (c := 5) k0_z k3_z (by decide) (by decide)
  replace hm_z := rn_aload_n (am_cur_of (i := (0, 1, .aload_n 0, (0, 0, 0), 0)) (by decide +kernel)) g0_z hm_z
  replace hm_z := rn_iload_n (am_cur_of (i := (1, 1, .iload_n 1, (0, 0, 0), 0)) (by decide +kernel)) g1_z hm_z
  replace hm_z := rn_iload_n (am_cur_of (i := (2, 1, .iload_n 2, (0, 0, 0), 0)) (by decide +kernel)) g2_z hm_z
  replace hm_z := rn_callV (M' := am_m206) (o := 164) (ar := [.int k, .int 1]) (rest := []) (L := lv_args 0 [.ref 164, .int 1, .int k]) (am_cur_of (i := (3, 3, .invokevirtual 417, (206, 1855, 3), 0)) (by decide +kernel)) rfl rfl rfl rfl hm_z
  obtain ⟨r42_z, h43_z, q44_z, hm_z⟩ := hm_z
  have k45_z := nq_206 q44_z
  obtain ⟨v46_z, rfl⟩ := rn_ret (M := am_m206) rfl (by decide) q44_z
  have nk45_z : nk g h43_z := k45_z
  replace hm_z : rn _ _ _ _ [.int v46_z] _ _ _ := hm_z
  replace hm_z := rn_istore_n (am_cur_of (i := (6, 1, .istore_n 3, (0, 0, 0), 0)) (by decide +kernel)) hm_z
  obtain ⟨_, s47_z, s48_z, g3_z, hm_z⟩ := hm_z
  replace g0_z := s47_z 0 _ (by decide) rfl g0_z
  replace g1_z := s47_z 1 _ (by decide) rfl g1_z
  replace g2_z := s47_z 2 _ (by decide) rfl g2_z
  clear s47_z s48_z
  replace hm_z := rn_aload_n (am_cur_of (i := (7, 1, .aload_n 0, (0, 0, 0), 0)) (by decide +kernel)) g0_z hm_z
  replace hm_z := rn_iload_n (am_cur_of (i := (8, 1, .iload_n 1, (0, 0, 0), 0)) (by decide +kernel)) g1_z hm_z
  replace hm_z := rn_iconst (w := 0) (am_cur_of (i := (9, 1, .iconst 0, (0, 0, 0), 0)) (by decide +kernel)) (by decide) hm_z
  replace hm_z := rn_callV (M' := am_m188) (o := 164) (ar := [.int 0, .int 1]) (rest := []) (L := lv_args 0 [.ref 164, .int 1, .int 0]) (am_cur_of (i := (10, 3, .invokevirtual 403, (188, 1783, 3), 0)) (by decide +kernel)) rfl rfl rfl rfl hm_z
  obtain ⟨r49_z, h50_z, q51_z, hm_z⟩ := hm_z
  have k52_z := nq_188 q51_z
  obtain ⟨v53_z, rfl⟩ := rn_ret (M := am_m188) rfl (by decide) q51_z
  have nk52_z : nk g h50_z := nk_t nk45_z k52_z
  replace hm_z : rn _ _ _ _ [.int v53_z] _ _ _ := hm_z
  replace hm_z := rn_istore (am_cur_of (i := (13, 2, .istore 4, (0, 0, 0), 0)) (by decide +kernel)) hm_z
  obtain ⟨_, s54_z, s55_z, g4_z, hm_z⟩ := hm_z
  replace g0_z := s54_z 0 _ (by decide) rfl g0_z
  replace g1_z := s54_z 1 _ (by decide) rfl g1_z
  replace g2_z := s54_z 2 _ (by decide) rfl g2_z
  replace g3_z := s54_z 3 _ (by decide) rfl g3_z
  clear s54_z s55_z
  replace hm_z := rn_aload_n (am_cur_of (i := (15, 1, .aload_n 0, (0, 0, 0), 0)) (by decide +kernel)) g0_z hm_z
  replace hm_z := rn_iload_n (am_cur_of (i := (16, 1, .iload_n 1, (0, 0, 0), 0)) (by decide +kernel)) g1_z hm_z
  replace hm_z := rn_iconst (w := 0) (am_cur_of (i := (17, 1, .iconst 0, (0, 0, 0), 0)) (by decide +kernel)) (by decide) hm_z
  replace hm_z := rn_iload (am_cur_of (i := (18, 2, .iload 4, (0, 0, 0), 0)) (by decide +kernel)) g4_z hm_z
  replace hm_z := rn_iload_n (am_cur_of (i := (20, 1, .iload_n 3, (0, 0, 0), 0)) (by decide +kernel)) g3_z hm_z
  replace hm_z := rn_callV (M' := am_m189) (o := 164) (ar := [.int v46_z, .int v53_z, .int 0, .int 1]) (rest := []) (L := lv_args 0 [.ref 164, .int 1, .int 0, .int v53_z, .int v46_z]) (am_cur_of (i := (21, 3, .invokevirtual 392, (189, 1787, 3), 0)) (by decide +kernel)) rfl rfl rfl rfl hm_z
  obtain ⟨r56_z, h57_z, q58_z, hm_z⟩ := hm_z
  have k59_z := nq_189 q58_z
  have vo := rn_void rfl q58_z
  subst vo
  have nk59_z : nk g h57_z := nk_t nk52_z k59_z
  replace hm_z : rn _ _ _ _ [] _ _ _ := hm_z
  replace hm_z := rn_aload_n (am_cur_of (i := (24, 1, .aload_n 0, (0, 0, 0), 0)) (by decide +kernel)) g0_z hm_z
  replace hm_z := rn_getR (x := 188) (am_cur_of (i := (25, 3, .getfield 85, (12, 50, 1434), 0)) (by decide +kernel)) (by decide +kernel) hm_z
  replace hm_z := rn_iload_n (am_cur_of (i := (28, 1, .iload_n 1, (0, 0, 0), 0)) (by decide +kernel)) g1_z hm_z
  replace hm_z := rn_iaload (N := 4) (q := 1) (v := rg_v h57_z 188 1) (am_cur_of (i := (29, 1, .iaload, (0, 0, 0), 0)) (by decide +kernel)) (by decide +kernel) rfl rfl hm_z
  obtain ⟨p60_z, hm_z⟩ := hm_z
  replace hm_z := rn_aload_n (am_cur_of (i := (30, 1, .aload_n 0, (0, 0, 0), 0)) (by decide +kernel)) g0_z hm_z
  replace hm_z := rn_iconst (w := 1) (am_cur_of (i := (31, 1, .iconst 1, (0, 0, 0), 0)) (by decide +kernel)) (by decide) hm_z
  replace hm_z := rn_iload_n (am_cur_of (i := (32, 1, .iload_n 3, (0, 0, 0), 0)) (by decide +kernel)) g3_z hm_z
  replace hm_z := rn_bipush (w := 99) (am_cur_of (i := (33, 2, .bipush 99, (0, 0, 0), 0)) (by decide +kernel)) (by decide) hm_z
  replace hm_z := rn_callV (M' := am_m190) (o := 164) (ar := [.int 99, .int v46_z, .int 1]) (rest := [.int (rg_v h57_z 188 1)]) (L := lv_args 0 [.ref 164, .int 1, .int v46_z, .int 99]) (am_cur_of (i := (35, 3, .invokevirtual 396, (190, 1791, 3), 0)) (by decide +kernel)) rfl rfl rfl rfl hm_z
  obtain ⟨r61_z, h62_z, q63_z, hm_z⟩ := hm_z
  have k64_z := nq_190 q63_z
  obtain ⟨v65_z, rfl⟩ := rn_ret (M := am_m190) rfl (by decide) q63_z
  have nk64_z : nk g h62_z := nk_t nk59_z k64_z
  replace hm_z : rn _ _ _ _ [.int v65_z, .int (rg_v h57_z 188 1)] _ _ _ := hm_z
  replace hm_z := rn_iadd (w := (rg_v h57_z 188 1) + v65_z) (am_cur_of (i := (38, 1, .iadd, (0, 0, 0), 0)) (by decide +kernel)) rfl hm_z
  replace hm_z := rn_istore (am_cur_of (i := (39, 2, .istore 5, (0, 0, 0), 0)) (by decide +kernel)) hm_z
  obtain ⟨_, s66_z, s67_z, g5_z, hm_z⟩ := hm_z
  replace g0_z := s66_z 0 _ (by decide) rfl g0_z
  replace g1_z := s66_z 1 _ (by decide) rfl g1_z
  replace g2_z := s66_z 2 _ (by decide) rfl g2_z
  replace g3_z := s66_z 3 _ (by decide) rfl g3_z
  replace g4_z := s66_z 4 _ (by decide) rfl g4_z
  clear s66_z s67_z
  replace hm_z := rn_aload_n (am_cur_of (i := (41, 1, .aload_n 0, (0, 0, 0), 0)) (by decide +kernel)) g0_z hm_z
  replace hm_z := rn_getR (x := 188) (am_cur_of (i := (42, 3, .getfield 85, (12, 50, 1434), 0)) (by decide +kernel)) (by decide +kernel) hm_z
  replace hm_z := rn_iload_n (am_cur_of (i := (45, 1, .iload_n 1, (0, 0, 0), 0)) (by decide +kernel)) g1_z hm_z
  replace hm_z := rn_iload (am_cur_of (i := (46, 2, .iload 5, (0, 0, 0), 0)) (by decide +kernel)) g5_z hm_z
  replace hm_z := rn_aload_n (am_cur_of (i := (48, 1, .aload_n 0, (0, 0, 0), 0)) (by decide +kernel)) g0_z hm_z
  replace hm_z := rn_getR (x := 168) (am_cur_of (i := (49, 3, .getfield 24, (12, 23, 1407), 0)) (by decide +kernel)) (by decide +kernel) hm_z
  replace hm_z := rn_iconst (w := 0) (am_cur_of (i := (52, 1, .iconst 0, (0, 0, 0), 0)) (by decide +kernel)) (by decide) hm_z
  replace hm_z := rn_iaload (N := 12) (q := 0) (v := rg_v h62_z 168 0) (am_cur_of (i := (53, 1, .iaload, (0, 0, 0), 0)) (by decide +kernel)) (by decide +kernel) rfl rfl hm_z
  obtain ⟨p68_z, hm_z⟩ := hm_z
  replace hm_z := rn_cmp (am_cur_of (i := (54, 3, .if_icmp .le 12, (41, 0, 0), 0)) (by decide +kernel)) hm_z
  rcases hm_z with ⟨b69_z, hm_z⟩ | ⟨b69_z, hm_z⟩
  · replace b69_z : ((rg_v h57_z 188 1) + v65_z).toInt ≤ (rg_v h62_z 168 0).toInt := b69_z
    replace hm_z := rn_iload (am_cur_of (i := (66, 2, .iload 5, (0, 0, 0), 0)) (by decide +kernel)) g5_z hm_z
    replace hm_z := rn_iastore (N := 4) (q := 1) (am_cur_of (i := (68, 1, .iastore, (0, 0, 0), 0)) (by decide +kernel)) (by decide +kernel) rfl hm_z
    obtain ⟨p70_z, hm_z⟩ := hm_z
    replace hm_z := rn_aload_n (am_cur_of (i := (69, 1, .aload_n 0, (0, 0, 0), 0)) (by decide +kernel)) g0_z hm_z
    replace hm_z := rn_getR (x := 191) (am_cur_of (i := (70, 3, .getfield 94, (12, 53, 1437), 0)) (by decide +kernel)) (by decide +kernel) hm_z
    replace hm_z := rn_iconst (w := 4) (am_cur_of (i := (73, 1, .iconst 4, (0, 0, 0), 0)) (by decide +kernel)) (by decide) hm_z
    replace hm_z := rn_iload_n (am_cur_of (i := (74, 1, .iload_n 1, (0, 0, 0), 0)) (by decide +kernel)) g1_z hm_z
    replace hm_z := rn_imul (w := 4) (am_cur_of (i := (75, 1, .imul, (0, 0, 0), 0)) (by decide +kernel)) (by decide) hm_z
    replace hm_z := rn_iload_n (am_cur_of (i := (76, 1, .iload_n 2, (0, 0, 0), 0)) (by decide +kernel)) g2_z hm_z
    replace hm_z := rn_iadd (w := (4 : Int32) + k) (am_cur_of (i := (77, 1, .iadd, (0, 0, 0), 0)) (by decide +kernel)) rfl hm_z
    replace hm_z := rn_dup2 (am_cur_of (i := (78, 1, .dup2, (0, 0, 0), 0)) (by decide +kernel)) hm_z
    replace hm_z := rn_iaload (N := 16) (q := ((4 : Int32) + k).toNatClampNeg) (v := rg_v h62_z 191 (((4 : Int32) + k).toNatClampNeg)) (am_cur_of (i := (79, 1, .iaload, (0, 0, 0), 0)) (by decide +kernel)) (by decide +kernel) rfl ((rg_v_other (by omega)).trans (rfl)) hm_z
    obtain ⟨p71_z, hm_z⟩ := hm_z
    replace hm_z := rn_iconst (w := 1) (am_cur_of (i := (80, 1, .iconst 1, (0, 0, 0), 0)) (by decide +kernel)) (by decide) hm_z
    replace hm_z := rn_iadd (w := (rg_v h62_z 191 (((4 : Int32) + k).toNatClampNeg)) + 1) (am_cur_of (i := (81, 1, .iadd, (0, 0, 0), 0)) (by decide +kernel)) rfl hm_z
    replace hm_z := rn_iastore (N := 16) (q := ((4 : Int32) + k).toNatClampNeg) (am_cur_of (i := (82, 1, .iastore, (0, 0, 0), 0)) (by decide +kernel)) (by decide +kernel) rfl hm_z
    obtain ⟨p72_z, hm_z⟩ := hm_z
    replace hm_z := rn_aload_n (am_cur_of (i := (83, 1, .aload_n 0, (0, 0, 0), 0)) (by decide +kernel)) g0_z hm_z
    replace hm_z := rn_getR (x := 192) (am_cur_of (i := (84, 3, .getfield 97, (12, 54, 1438), 0)) (by decide +kernel)) (by decide +kernel) hm_z
    replace hm_z := rn_iconst (w := 4) (am_cur_of (i := (87, 1, .iconst 4, (0, 0, 0), 0)) (by decide +kernel)) (by decide) hm_z
    replace hm_z := rn_iload_n (am_cur_of (i := (88, 1, .iload_n 1, (0, 0, 0), 0)) (by decide +kernel)) g1_z hm_z
    replace hm_z := rn_imul (w := 4) (am_cur_of (i := (89, 1, .imul, (0, 0, 0), 0)) (by decide +kernel)) (by decide) hm_z
    replace hm_z := rn_iload_n (am_cur_of (i := (90, 1, .iload_n 2, (0, 0, 0), 0)) (by decide +kernel)) g2_z hm_z
    replace hm_z := rn_iadd (w := (4 : Int32) + k) (am_cur_of (i := (91, 1, .iadd, (0, 0, 0), 0)) (by decide +kernel)) rfl hm_z
    replace hm_z := rn_dup2 (am_cur_of (i := (92, 1, .dup2, (0, 0, 0), 0)) (by decide +kernel)) hm_z
    replace hm_z := rn_iaload (N := 16) (q := ((4 : Int32) + k).toNatClampNeg) (v := rg_v h62_z 192 (((4 : Int32) + k).toNatClampNeg)) (am_cur_of (i := (93, 1, .iaload, (0, 0, 0), 0)) (by decide +kernel)) (by decide +kernel) rfl ((rg_v_other (by omega)).trans ((rg_v_other (by omega)).trans (rfl))) hm_z
    obtain ⟨p73_z, hm_z⟩ := hm_z
    replace hm_z := rn_iconst (w := 1) (am_cur_of (i := (94, 1, .iconst 1, (0, 0, 0), 0)) (by decide +kernel)) (by decide) hm_z
    replace hm_z := rn_iadd (w := (rg_v h62_z 192 (((4 : Int32) + k).toNatClampNeg)) + 1) (am_cur_of (i := (95, 1, .iadd, (0, 0, 0), 0)) (by decide +kernel)) rfl hm_z
    replace hm_z := rn_iastore (N := 16) (q := ((4 : Int32) + k).toNatClampNeg) (am_cur_of (i := (96, 1, .iastore, (0, 0, 0), 0)) (by decide +kernel)) (by decide +kernel) rfl hm_z
    obtain ⟨p74_z, hm_z⟩ := hm_z
    replace hm_z := rn_aload_n (am_cur_of (i := (97, 1, .aload_n 0, (0, 0, 0), 0)) (by decide +kernel)) g0_z hm_z
    replace hm_z := rn_getR (x := 193) (am_cur_of (i := (98, 3, .getfield 100, (12, 55, 1439), 0)) (by decide +kernel)) (by decide +kernel) hm_z
    replace hm_z := rn_iconst (w := 4) (am_cur_of (i := (101, 1, .iconst 4, (0, 0, 0), 0)) (by decide +kernel)) (by decide) hm_z
    replace hm_z := rn_iload_n (am_cur_of (i := (102, 1, .iload_n 1, (0, 0, 0), 0)) (by decide +kernel)) g1_z hm_z
    replace hm_z := rn_imul (w := 4) (am_cur_of (i := (103, 1, .imul, (0, 0, 0), 0)) (by decide +kernel)) (by decide) hm_z
    replace hm_z := rn_iload_n (am_cur_of (i := (104, 1, .iload_n 2, (0, 0, 0), 0)) (by decide +kernel)) g2_z hm_z
    replace hm_z := rn_iadd (w := (4 : Int32) + k) (am_cur_of (i := (105, 1, .iadd, (0, 0, 0), 0)) (by decide +kernel)) rfl hm_z
    replace hm_z := rn_aload_n (am_cur_of (i := (106, 1, .aload_n 0, (0, 0, 0), 0)) (by decide +kernel)) g0_z hm_z
    replace hm_z := rn_getR (x := 189) (am_cur_of (i := (107, 3, .getfield 88, (12, 51, 1435), 0)) (by decide +kernel)) (by decide +kernel) hm_z
    replace hm_z := rn_iload_n (am_cur_of (i := (110, 1, .iload_n 1, (0, 0, 0), 0)) (by decide +kernel)) g1_z hm_z
    replace hm_z := rn_iaload (N := 4) (q := 1) (v := rg_v h62_z 189 1) (am_cur_of (i := (111, 1, .iaload, (0, 0, 0), 0)) (by decide +kernel)) (by decide +kernel) rfl ((rg_v_other (by omega)).trans ((rg_v_other (by omega)).trans ((rg_v_other (by omega)).trans (rfl)))) hm_z
    obtain ⟨p75_z, hm_z⟩ := hm_z
    replace hm_z := rn_iastore (N := 16) (q := ((4 : Int32) + k).toNatClampNeg) (am_cur_of (i := (112, 1, .iastore, (0, 0, 0), 0)) (by decide +kernel)) (by decide +kernel) rfl hm_z
    obtain ⟨p76_z, hm_z⟩ := hm_z
    replace hm_z := rn_aload_n (am_cur_of (i := (113, 1, .aload_n 0, (0, 0, 0), 0)) (by decide +kernel)) g0_z hm_z
    replace hm_z := rn_getR (x := 190) (am_cur_of (i := (114, 3, .getfield 91, (12, 52, 1436), 0)) (by decide +kernel)) (by decide +kernel) hm_z
    replace hm_z := rn_iload_n (am_cur_of (i := (117, 1, .iload_n 1, (0, 0, 0), 0)) (by decide +kernel)) g1_z hm_z
    replace hm_z := rn_iload_n (am_cur_of (i := (118, 1, .iload_n 2, (0, 0, 0), 0)) (by decide +kernel)) g2_z hm_z
    replace hm_z := rn_iastore (N := 4) (q := 1) (am_cur_of (i := (119, 1, .iastore, (0, 0, 0), 0)) (by decide +kernel)) (by decide +kernel) rfl hm_z
    obtain ⟨p77_z, hm_z⟩ := hm_z
    replace hm_z := rn_vret (am_cur_of (i := (120, 1, .return_, (0, 0, 0), 0)) (by decide +kernel)) hm_z
    obtain ⟨e78_z, e79_z⟩ := hm_z
    rw [e79_z]
    have ev_z : ∀ o q, nB o q = false → rg_v h62_z o q = rg_v g o q := by
      intro o q e
      unfold rg_v
      rw [nk64_z o q e]
    refine ⟨?_, ?_, ?_, ?_, fun o q e1_z e2_z e3_z e4_z => ?_⟩
    · rw [← y4_z]
      refine Eq.trans (((rg_v_other (by omega)).trans ((rg_v_other (by omega)).trans ((rg_v_other (by omega)).trans (rg_v_self))))) ?_
      rw [ev_z 191 _ rfl]
    · rw [← y4_z]
      refine Eq.trans (((rg_v_other (by omega)).trans ((rg_v_other (by omega)).trans (rg_v_self)))) ?_
      rw [ev_z 192 _ rfl]
    · rw [← y4_z]
      refine Eq.trans (((rg_v_other (by omega)).trans (rg_v_self))) ?_
      rw [ev_z 189 _ rfl]
    · exact rg_v_self
    · rw [← y4_z] at e3_z
      exact (up_ne (by omega)).trans ((up_ne (by omega)).trans ((up_ne (by omega)).trans ((up_ne (by omega)).trans ((up_ne (by omega)).trans (nk64_z o q e1_z)))))
  · replace b69_z : (rg_v h62_z 168 0).toInt < ((rg_v h57_z 188 1) + v65_z).toInt := b69_z
    replace hm_z := rn_aload_n (am_cur_of (i := (57, 1, .aload_n 0, (0, 0, 0), 0)) (by decide +kernel)) g0_z hm_z
    replace hm_z := rn_getR (x := 168) (am_cur_of (i := (58, 3, .getfield 24, (12, 23, 1407), 0)) (by decide +kernel)) (by decide +kernel) hm_z
    replace hm_z := rn_iconst (w := 0) (am_cur_of (i := (61, 1, .iconst 0, (0, 0, 0), 0)) (by decide +kernel)) (by decide) hm_z
    replace hm_z := rn_iaload (N := 12) (q := 0) (v := rg_v h62_z 168 0) (am_cur_of (i := (62, 1, .iaload, (0, 0, 0), 0)) (by decide +kernel)) (by decide +kernel) rfl rfl hm_z
    obtain ⟨p80_z, hm_z⟩ := hm_z
    replace hm_z := rn_goto (am_cur_of (i := (63, 3, .goto 5, (42, 0, 0), 0)) (by decide +kernel)) hm_z
    replace hm_z := rn_iastore (N := 4) (q := 1) (am_cur_of (i := (68, 1, .iastore, (0, 0, 0), 0)) (by decide +kernel)) (by decide +kernel) rfl hm_z
    obtain ⟨p81_z, hm_z⟩ := hm_z
    replace hm_z := rn_aload_n (am_cur_of (i := (69, 1, .aload_n 0, (0, 0, 0), 0)) (by decide +kernel)) g0_z hm_z
    replace hm_z := rn_getR (x := 191) (am_cur_of (i := (70, 3, .getfield 94, (12, 53, 1437), 0)) (by decide +kernel)) (by decide +kernel) hm_z
    replace hm_z := rn_iconst (w := 4) (am_cur_of (i := (73, 1, .iconst 4, (0, 0, 0), 0)) (by decide +kernel)) (by decide) hm_z
    replace hm_z := rn_iload_n (am_cur_of (i := (74, 1, .iload_n 1, (0, 0, 0), 0)) (by decide +kernel)) g1_z hm_z
    replace hm_z := rn_imul (w := 4) (am_cur_of (i := (75, 1, .imul, (0, 0, 0), 0)) (by decide +kernel)) (by decide) hm_z
    replace hm_z := rn_iload_n (am_cur_of (i := (76, 1, .iload_n 2, (0, 0, 0), 0)) (by decide +kernel)) g2_z hm_z
    replace hm_z := rn_iadd (w := (4 : Int32) + k) (am_cur_of (i := (77, 1, .iadd, (0, 0, 0), 0)) (by decide +kernel)) rfl hm_z
    replace hm_z := rn_dup2 (am_cur_of (i := (78, 1, .dup2, (0, 0, 0), 0)) (by decide +kernel)) hm_z
    replace hm_z := rn_iaload (N := 16) (q := ((4 : Int32) + k).toNatClampNeg) (v := rg_v h62_z 191 (((4 : Int32) + k).toNatClampNeg)) (am_cur_of (i := (79, 1, .iaload, (0, 0, 0), 0)) (by decide +kernel)) (by decide +kernel) rfl ((rg_v_other (by omega)).trans (rfl)) hm_z
    obtain ⟨p82_z, hm_z⟩ := hm_z
    replace hm_z := rn_iconst (w := 1) (am_cur_of (i := (80, 1, .iconst 1, (0, 0, 0), 0)) (by decide +kernel)) (by decide) hm_z
    replace hm_z := rn_iadd (w := (rg_v h62_z 191 (((4 : Int32) + k).toNatClampNeg)) + 1) (am_cur_of (i := (81, 1, .iadd, (0, 0, 0), 0)) (by decide +kernel)) rfl hm_z
    replace hm_z := rn_iastore (N := 16) (q := ((4 : Int32) + k).toNatClampNeg) (am_cur_of (i := (82, 1, .iastore, (0, 0, 0), 0)) (by decide +kernel)) (by decide +kernel) rfl hm_z
    obtain ⟨p83_z, hm_z⟩ := hm_z
    replace hm_z := rn_aload_n (am_cur_of (i := (83, 1, .aload_n 0, (0, 0, 0), 0)) (by decide +kernel)) g0_z hm_z
    replace hm_z := rn_getR (x := 192) (am_cur_of (i := (84, 3, .getfield 97, (12, 54, 1438), 0)) (by decide +kernel)) (by decide +kernel) hm_z
    replace hm_z := rn_iconst (w := 4) (am_cur_of (i := (87, 1, .iconst 4, (0, 0, 0), 0)) (by decide +kernel)) (by decide) hm_z
    replace hm_z := rn_iload_n (am_cur_of (i := (88, 1, .iload_n 1, (0, 0, 0), 0)) (by decide +kernel)) g1_z hm_z
    replace hm_z := rn_imul (w := 4) (am_cur_of (i := (89, 1, .imul, (0, 0, 0), 0)) (by decide +kernel)) (by decide) hm_z
    replace hm_z := rn_iload_n (am_cur_of (i := (90, 1, .iload_n 2, (0, 0, 0), 0)) (by decide +kernel)) g2_z hm_z
    replace hm_z := rn_iadd (w := (4 : Int32) + k) (am_cur_of (i := (91, 1, .iadd, (0, 0, 0), 0)) (by decide +kernel)) rfl hm_z
    replace hm_z := rn_dup2 (am_cur_of (i := (92, 1, .dup2, (0, 0, 0), 0)) (by decide +kernel)) hm_z
    replace hm_z := rn_iaload (N := 16) (q := ((4 : Int32) + k).toNatClampNeg) (v := rg_v h62_z 192 (((4 : Int32) + k).toNatClampNeg)) (am_cur_of (i := (93, 1, .iaload, (0, 0, 0), 0)) (by decide +kernel)) (by decide +kernel) rfl ((rg_v_other (by omega)).trans ((rg_v_other (by omega)).trans (rfl))) hm_z
    obtain ⟨p84_z, hm_z⟩ := hm_z
    replace hm_z := rn_iconst (w := 1) (am_cur_of (i := (94, 1, .iconst 1, (0, 0, 0), 0)) (by decide +kernel)) (by decide) hm_z
    replace hm_z := rn_iadd (w := (rg_v h62_z 192 (((4 : Int32) + k).toNatClampNeg)) + 1) (am_cur_of (i := (95, 1, .iadd, (0, 0, 0), 0)) (by decide +kernel)) rfl hm_z
    replace hm_z := rn_iastore (N := 16) (q := ((4 : Int32) + k).toNatClampNeg) (am_cur_of (i := (96, 1, .iastore, (0, 0, 0), 0)) (by decide +kernel)) (by decide +kernel) rfl hm_z
    obtain ⟨p85_z, hm_z⟩ := hm_z
    replace hm_z := rn_aload_n (am_cur_of (i := (97, 1, .aload_n 0, (0, 0, 0), 0)) (by decide +kernel)) g0_z hm_z
    replace hm_z := rn_getR (x := 193) (am_cur_of (i := (98, 3, .getfield 100, (12, 55, 1439), 0)) (by decide +kernel)) (by decide +kernel) hm_z
    replace hm_z := rn_iconst (w := 4) (am_cur_of (i := (101, 1, .iconst 4, (0, 0, 0), 0)) (by decide +kernel)) (by decide) hm_z
    replace hm_z := rn_iload_n (am_cur_of (i := (102, 1, .iload_n 1, (0, 0, 0), 0)) (by decide +kernel)) g1_z hm_z
    replace hm_z := rn_imul (w := 4) (am_cur_of (i := (103, 1, .imul, (0, 0, 0), 0)) (by decide +kernel)) (by decide) hm_z
    replace hm_z := rn_iload_n (am_cur_of (i := (104, 1, .iload_n 2, (0, 0, 0), 0)) (by decide +kernel)) g2_z hm_z
    replace hm_z := rn_iadd (w := (4 : Int32) + k) (am_cur_of (i := (105, 1, .iadd, (0, 0, 0), 0)) (by decide +kernel)) rfl hm_z
    replace hm_z := rn_aload_n (am_cur_of (i := (106, 1, .aload_n 0, (0, 0, 0), 0)) (by decide +kernel)) g0_z hm_z
    replace hm_z := rn_getR (x := 189) (am_cur_of (i := (107, 3, .getfield 88, (12, 51, 1435), 0)) (by decide +kernel)) (by decide +kernel) hm_z
    replace hm_z := rn_iload_n (am_cur_of (i := (110, 1, .iload_n 1, (0, 0, 0), 0)) (by decide +kernel)) g1_z hm_z
    replace hm_z := rn_iaload (N := 4) (q := 1) (v := rg_v h62_z 189 1) (am_cur_of (i := (111, 1, .iaload, (0, 0, 0), 0)) (by decide +kernel)) (by decide +kernel) rfl ((rg_v_other (by omega)).trans ((rg_v_other (by omega)).trans ((rg_v_other (by omega)).trans (rfl)))) hm_z
    obtain ⟨p86_z, hm_z⟩ := hm_z
    replace hm_z := rn_iastore (N := 16) (q := ((4 : Int32) + k).toNatClampNeg) (am_cur_of (i := (112, 1, .iastore, (0, 0, 0), 0)) (by decide +kernel)) (by decide +kernel) rfl hm_z
    obtain ⟨p87_z, hm_z⟩ := hm_z
    replace hm_z := rn_aload_n (am_cur_of (i := (113, 1, .aload_n 0, (0, 0, 0), 0)) (by decide +kernel)) g0_z hm_z
    replace hm_z := rn_getR (x := 190) (am_cur_of (i := (114, 3, .getfield 91, (12, 52, 1436), 0)) (by decide +kernel)) (by decide +kernel) hm_z
    replace hm_z := rn_iload_n (am_cur_of (i := (117, 1, .iload_n 1, (0, 0, 0), 0)) (by decide +kernel)) g1_z hm_z
    replace hm_z := rn_iload_n (am_cur_of (i := (118, 1, .iload_n 2, (0, 0, 0), 0)) (by decide +kernel)) g2_z hm_z
    replace hm_z := rn_iastore (N := 4) (q := 1) (am_cur_of (i := (119, 1, .iastore, (0, 0, 0), 0)) (by decide +kernel)) (by decide +kernel) rfl hm_z
    obtain ⟨p88_z, hm_z⟩ := hm_z
    replace hm_z := rn_vret (am_cur_of (i := (120, 1, .return_, (0, 0, 0), 0)) (by decide +kernel)) hm_z
    obtain ⟨e89_z, e90_z⟩ := hm_z
    rw [e90_z]
    have ev_z : ∀ o q, nB o q = false → rg_v h62_z o q = rg_v g o q := by
      intro o q e
      unfold rg_v
      rw [nk64_z o q e]
    refine ⟨?_, ?_, ?_, ?_, fun o q e1_z e2_z e3_z e4_z => ?_⟩
    · rw [← y4_z]
      refine Eq.trans (((rg_v_other (by omega)).trans ((rg_v_other (by omega)).trans ((rg_v_other (by omega)).trans (rg_v_self))))) ?_
      rw [ev_z 191 _ rfl]
    · rw [← y4_z]
      refine Eq.trans (((rg_v_other (by omega)).trans ((rg_v_other (by omega)).trans (rg_v_self)))) ?_
      rw [ev_z 192 _ rfl]
    · rw [← y4_z]
      refine Eq.trans (((rg_v_other (by omega)).trans (rg_v_self))) ?_
      rw [ev_z 189 _ rfl]
    · exact rg_v_self
    · rw [← y4_z] at e3_z
      exact (up_ne (by omega)).trans ((up_ne (by omega)).trans ((up_ne (by omega)).trans ((up_ne (by omega)).trans ((up_ne (by omega)).trans (nk64_z o q e1_z)))))
def mB (rests takes : Int32) : Nat → Int32 → Int32 → Int32 → Int32
  | 0, d, _, _ => d
  | k + 1, d, e, t => mB rests takes k (mrs d t e rests + 1) (t + takes) (t + takes)
def mD (rests takes times : Int32) : Nat → Int32 → Int32 → Int32 → Prop
  | 0, _, _, _ => False
  | k + 1, d, e, t => times.toInt ≤ (mrs d t e rests).toInt ∨ mD rests takes times k (mrs d t e rests + 1) (t + takes) (t + takes)
def fz (k : Nat) (g g' : am_H) : Prop := ∀ o q, nB o q = false → ¬ (188 ≤ o ∧ o ≤ 190 ∧ q = 1) → ¬ (191 ≤ o ∧ o ≤ 193 ∧ q = 4 + k) → g' o q = g o q
def f1_z (g g' : am_H) : Prop := ∀ o q, nB o q = false → ¬ (o = 188 ∧ q = 1) → ¬ (o = 189 ∧ q = 1) → g' o q = g o q
theorem fz_r {k : Nat} {g : am_H} : fz k g g := fun _ _ _ _ _ => rfl
theorem fz_t {k : Nat} {g g' g'' : am_H} (a : fz k g g') (b : fz k g' g'') : fz k g g'' := fun o q e f h => (b o q e f h).trans (a o q e f h)
theorem fz_1 {k : Nat} {g g' : am_H} (a : f1_z g g') : fz k g g' := fun o q e f h => a o q e (by omega) (by omega)
theorem f1_r {g : am_H} : f1_z g g := fun _ _ _ _ _ => rfl
theorem f1_t {g g' g'' : am_H} (a : f1_z g g') (b : f1_z g' g'') : f1_z g g'' := fun o q e f h => (b o q e f h).trans (a o q e f h)
theorem f1_n {g g' : am_H} (a : nk g g') : f1_z g g' := fun o q e _ _ => a o q e
theorem f1_v {g g' : am_H} {o q : Nat} (a : f1_z g g') (e : nB o q = false) (h1_z : ¬ (o = 188 ∧ q = 1)) (h2_z : ¬ (o = 189 ∧ q = 1)) : rg_v g' o q = rg_v g o q := by
  unfold rg_v
  rw [a o q e h1_z h2_z]
theorem fz_v {k : Nat} {g g' : am_H} {o q : Nat} (a : fz k g g') (e : nB o q = false) (h1_z : ¬ (188 ≤ o ∧ o ≤ 190 ∧ q = 1)) (h2_z : ¬ (191 ≤ o ∧ o ≤ 193 ∧ q = 4 + k)) : rg_v g' o q = rg_v g o q := by
  unfold rg_v
  rw [a o q e h1_z h2_z]
theorem fz_d {k : Nat} {g g' : am_H} (a : ∀ o q, ¬ (o = 191 ∧ q = 4 + k) → g' o q = g o q) : fz k g g' := fun o q _ _ h => a o q (by omega)
theorem mf_198 {n : Nat} {h h' : am_H} {r : Option Value} {k : Int32}  (hc_z : rn n am_m198 0 (lv_args 0 [.ref 164, .int 1, .int k]) [] h r h') : (((rg_v h 190 1) = ((-1) : Int32) ∧ (rg_v h 190 1).toInt = ((-1) : Int32).toInt) ∧ r = some (.int 0) ∧ h' = h) ∨ ((¬ (rg_v h 190 1) = ((-1) : Int32) ∧ ¬ (rg_v h 190 1).toInt = ((-1) : Int32).toInt) ∧ ((rg_v h 190 1) = k ∧ (rg_v h 190 1).toInt = k.toInt) ∧ r = some (.int 0) ∧ h' = h) ∨ ((¬ (rg_v h 190 1) = ((-1) : Int32) ∧ ¬ (rg_v h 190 1).toInt = ((-1) : Int32).toInt) ∧ (¬ (rg_v h 190 1) = k ∧ ¬ (rg_v h 190 1).toInt = k.toInt) ∧ r = some (.int 1) ∧ h' = h) := by
  have g0_z : am_get (lv_args 0 [.ref 164, .int 1, .int k]) 0 = some (.ref 164) := rfl
  have g1_z : am_get (lv_args 0 [.ref 164, .int 1, .int k]) 1 = some (.int 1) := rfl
  have g2_z : am_get (lv_args 0 [.ref 164, .int 1, .int k]) 2 = some (.int k) := rfl
  replace hc_z := rn_aload_n (am_cur_of (i := (0, 1, .aload_n 0, (0, 0, 0), 0)) (by decide +kernel)) g0_z hc_z
  replace hc_z := rn_getR (x := 190) (am_cur_of (i := (1, 3, .getfield 91, (12, 52, 1436), 0)) (by decide +kernel)) (by decide +kernel) hc_z
  replace hc_z := rn_iload_n (am_cur_of (i := (4, 1, .iload_n 1, (0, 0, 0), 0)) (by decide +kernel)) g1_z hc_z
  replace hc_z := rn_iaload (N := 4) (q := 1) (v := rg_v h 190 1) (am_cur_of (i := (5, 1, .iaload, (0, 0, 0), 0)) (by decide +kernel)) (by decide +kernel) rfl rfl hc_z
  obtain ⟨p91_z, hc_z⟩ := hc_z
  replace hc_z := rn_iconst (w := (-1)) (am_cur_of (i := (6, 1, .iconst (-1), (0, 0, 0), 0)) (by decide +kernel)) (by decide) hc_z
  replace hc_z := rn_cmp (am_cur_of (i := (7, 3, .if_icmp .eq 17, (14, 0, 0), 0)) (by decide +kernel)) hc_z
  rcases hc_z with ⟨b92_z, hc_z⟩ | ⟨b92_z, hc_z⟩
  · replace b92_z : (rg_v h 190 1) = ((-1) : Int32) ∧ (rg_v h 190 1).toInt = ((-1) : Int32).toInt := b92_z
    replace hc_z := rn_iconst (w := 0) (am_cur_of (i := (24, 1, .iconst 0, (0, 0, 0), 0)) (by decide +kernel)) (by decide) hc_z
    replace hc_z := rn_iret (am_cur_of (i := (25, 1, .ireturn, (0, 0, 0), 0)) (by decide +kernel)) hc_z
    obtain ⟨e93_z, e94_z⟩ := hc_z
    exact Or.inl ⟨b92_z, e93_z, e94_z⟩
  · replace b92_z : ¬ (rg_v h 190 1) = ((-1) : Int32) ∧ ¬ (rg_v h 190 1).toInt = ((-1) : Int32).toInt := b92_z
    replace hc_z := rn_aload_n (am_cur_of (i := (10, 1, .aload_n 0, (0, 0, 0), 0)) (by decide +kernel)) g0_z hc_z
    replace hc_z := rn_getR (x := 190) (am_cur_of (i := (11, 3, .getfield 91, (12, 52, 1436), 0)) (by decide +kernel)) (by decide +kernel) hc_z
    replace hc_z := rn_iload_n (am_cur_of (i := (14, 1, .iload_n 1, (0, 0, 0), 0)) (by decide +kernel)) g1_z hc_z
    replace hc_z := rn_iaload (N := 4) (q := 1) (v := rg_v h 190 1) (am_cur_of (i := (15, 1, .iaload, (0, 0, 0), 0)) (by decide +kernel)) (by decide +kernel) rfl rfl hc_z
    obtain ⟨p95_z, hc_z⟩ := hc_z
    replace hc_z := rn_iload_n (am_cur_of (i := (16, 1, .iload_n 2, (0, 0, 0), 0)) (by decide +kernel)) g2_z hc_z
    replace hc_z := rn_cmp (am_cur_of (i := (17, 3, .if_icmp .eq 7, (14, 0, 0), 0)) (by decide +kernel)) hc_z
    rcases hc_z with ⟨b96_z, hc_z⟩ | ⟨b96_z, hc_z⟩
    · replace b96_z : (rg_v h 190 1) = k ∧ (rg_v h 190 1).toInt = k.toInt := b96_z
      replace hc_z := rn_iconst (w := 0) (am_cur_of (i := (24, 1, .iconst 0, (0, 0, 0), 0)) (by decide +kernel)) (by decide) hc_z
      replace hc_z := rn_iret (am_cur_of (i := (25, 1, .ireturn, (0, 0, 0), 0)) (by decide +kernel)) hc_z
      obtain ⟨e97_z, e98_z⟩ := hc_z
      exact Or.inr (Or.inl ⟨b92_z, b96_z, e97_z, e98_z⟩)
    · replace b96_z : ¬ (rg_v h 190 1) = k ∧ ¬ (rg_v h 190 1).toInt = k.toInt := b96_z
      replace hc_z := rn_iconst (w := 1) (am_cur_of (i := (20, 1, .iconst 1, (0, 0, 0), 0)) (by decide +kernel)) (by decide) hc_z
      replace hc_z := rn_goto (am_cur_of (i := (21, 3, .goto 4, (15, 0, 0), 0)) (by decide +kernel)) hc_z
      replace hc_z := rn_iret (am_cur_of (i := (25, 1, .ireturn, (0, 0, 0), 0)) (by decide +kernel)) hc_z
      obtain ⟨e99_z, e100_z⟩ := hc_z
      exact Or.inr (Or.inr (⟨b92_z, b96_z, e99_z, e100_z⟩))
theorem mf_h {r : Option Value} {g' : am_H} {k m hd_z bl : Int32} (k0_z : 0 ≤ k.toInt) (k3_z : k.toInt ≤ 3) (ov : ¬ (bl = -1 ∨ bl = k)) : ∀ (f j : Nat) (i t : Int32) (ls : am_L) (g : am_H), rg_v g 170 (7 * k.toNatClampNeg + 5) = hd_z → rg_v g 190 1 = bl → rg_v g 189 1 = t → am_get ls 0 = some (.ref 164) → am_get ls 1 = some (.int k) → am_get ls 2 = some (.int m) → am_get ls 3 = some (.int i) → i.toInt + j = hd_z.toInt → t.toInt + j < 2147483647 → 0 ≤ t.toInt → rn f am_m196 20 ls [] g r g' → ∃ l2_z g2_z, am_get l2_z 0 = some (.ref 164) ∧ am_get l2_z 1 = some (.int k) ∧ am_get l2_z 2 = some (.int m) ∧ rn f am_m196 42 l2_z [] g2_z r g' ∧ (rg_v g2_z 189 1).toInt = t.toInt + j ∧ f1_z g g2_z := by
  intro f
  induction f with
  | zero => intro j i t ls g Eh Eb E1 g0_z g1_z g2_z g3_z ij tj t0_z hm_z; exact absurd hm_z rn_0
  | succ f ih_z =>
    intro j i t ls g Eh Eb E1 g0_z g1_z g2_z g3_z ij tj t0_z hm_z
    have z1_z : (1 : Int32).toInt = 1 := by decide
    have y4_z : ((4 : Int32) + k).toNatClampNeg = 4 + k.toNatClampNeg := ix_4 (c := 4) k0_z k3_z (by decide) (by decide)
    have x2_z : (((7 : Int32) * k) + 2).toNatClampNeg = 7 * k.toNatClampNeg + 2 := ix_7 (c := 2) k0_z k3_z (by decide) (by decide)
    have x3_z : (((7 : Int32) * k) + 3).toNatClampNeg = 7 * k.toNatClampNeg + 3 := ix_7 (c := 3) k0_z k3_z (by decide) (by decide)
    have x4_z : (((7 : Int32) * k) + 4).toNatClampNeg = 7 * k.toNatClampNeg + 4 := ix_7 (c := 4) k0_z k3_z (by decide) (by decide)
    have x5_z : (((7 : Int32) * k) + 5).toNatClampNeg = 7 * k.toNatClampNeg + 5 := ix_7 (c := 5) k0_z k3_z (by decide) (by decide)
    replace hm_z := rn_iload_n (am_cur_of (i := (33, 1, .iload_n 3, (0, 0, 0), 0)) (by decide +kernel)) g3_z hm_z
    replace hm_z := rn_aload_n (am_cur_of (i := (34, 1, .aload_n 0, (0, 0, 0), 0)) (by decide +kernel)) g0_z hm_z
    replace hm_z := rn_getR (x := 170) (am_cur_of (i := (35, 3, .getfield 30, (12, 25, 1409), 0)) (by decide +kernel)) (by decide +kernel) hm_z
    replace hm_z := rn_bipush (w := 7) (am_cur_of (i := (38, 2, .bipush 7, (0, 0, 0), 0)) (by decide +kernel)) (by decide) hm_z
    replace hm_z := rn_iload_n (am_cur_of (i := (40, 1, .iload_n 1, (0, 0, 0), 0)) (by decide +kernel)) g1_z hm_z
    replace hm_z := rn_imul (w := (7 : Int32) * k) (am_cur_of (i := (41, 1, .imul, (0, 0, 0), 0)) (by decide +kernel)) rfl hm_z
    replace hm_z := rn_iconst (w := 5) (am_cur_of (i := (42, 1, .iconst 5, (0, 0, 0), 0)) (by decide +kernel)) (by decide) hm_z
    replace hm_z := rn_iadd (w := ((7 : Int32) * k) + 5) (am_cur_of (i := (43, 1, .iadd, (0, 0, 0), 0)) (by decide +kernel)) rfl hm_z
    replace hm_z := rn_iaload (N := 56) (q := (((7 : Int32) * k) + 5).toNatClampNeg) (v := hd_z) (am_cur_of (i := (44, 1, .iaload, (0, 0, 0), 0)) (by decide +kernel)) (by decide +kernel) rfl (by rw [x5_z]; exact Eh) hm_z
    obtain ⟨p101_z, hm_z⟩ := hm_z
    replace hm_z := rn_cmp (am_cur_of (i := (45, 3, .if_icmp .ge 25, (42, 0, 0), 0)) (by decide +kernel)) hm_z
    rcases hm_z with ⟨b102_z, hm_z⟩ | ⟨b102_z, hm_z⟩
    · replace b102_z : hd_z.toInt ≤ i.toInt := b102_z
      obtain rfl : j = 0 := by omega
      exact ⟨_, _, g0_z, g1_z, g2_z, hm_z, by rw [E1]; omega, f1_r⟩
    · replace b102_z : i.toInt < hd_z.toInt := b102_z
      obtain ⟨j, rfl⟩ : ∃ j2_z, j = j2_z + 1 := ⟨j - 1, by omega⟩
      have ci_z := fk_c1 b102_z
      have ct := ab_iadd (x := t) (y := 1) (by omega) (by omega)
      replace hm_z := rn_aload_n (am_cur_of (i := (48, 1, .aload_n 0, (0, 0, 0), 0)) (by decide +kernel)) g0_z hm_z
      replace hm_z := rn_iconst (w := 1) (am_cur_of (i := (49, 1, .iconst 1, (0, 0, 0), 0)) (by decide +kernel)) (by decide) hm_z
      replace hm_z := rn_iload_n (am_cur_of (i := (50, 1, .iload_n 1, (0, 0, 0), 0)) (by decide +kernel)) g1_z hm_z
      replace hm_z := rn_callV (M' := am_m198) (o := 164) (ar := [.int k, .int 1]) (rest := []) (L := lv_args 0 [.ref 164, .int 1, .int k]) (am_cur_of (i := (51, 3, .invokevirtual 431, (198, 1824, 3), 0)) (by decide +kernel)) rfl rfl rfl rfl hm_z
      obtain ⟨r103_z, h104_z, q105_z, hm_z⟩ := hm_z
      rcases mf_198 q105_z with ⟨c0_0, rfl, yy⟩ | ⟨c1_0, c1_1, rfl, yy⟩ | ⟨c2_0, c2_1, rfl, yy⟩
      · exact absurd (Or.inl (Eb.symm.trans c0_0.1)) ov
      · exact absurd (Or.inr (Eb.symm.trans c1_1.1)) ov
      · replace yy := yy.symm
        subst yy
        replace hm_z : rn _ _ _ _ [.int 1] _ _ _ := hm_z
        replace hm_z := rn_ifF (am_cur_of (i := (54, 3, .ifCond .eq 16, (42, 0, 0), 0)) (by decide +kernel)) (by decide) hm_z
        replace hm_z := rn_aload_n (am_cur_of (i := (57, 1, .aload_n 0, (0, 0, 0), 0)) (by decide +kernel)) g0_z hm_z
        replace hm_z := rn_iconst (w := 1) (am_cur_of (i := (58, 1, .iconst 1, (0, 0, 0), 0)) (by decide +kernel)) (by decide) hm_z
        replace hm_z := rn_iconst (w := 1) (am_cur_of (i := (59, 1, .iconst 1, (0, 0, 0), 0)) (by decide +kernel)) (by decide) hm_z
        replace hm_z := rn_iconst (w := 0) (am_cur_of (i := (60, 1, .iconst 0, (0, 0, 0), 0)) (by decide +kernel)) (by decide) hm_z
        replace hm_z := rn_callV (M' := am_m199) (o := 164) (ar := [.int 0, .int 1, .int 1]) (rest := []) (L := lv_args 0 [.ref 164, .int 1, .int 1, .int 0]) (am_cur_of (i := (61, 3, .invokevirtual 434, (199, 1828, 3), 0)) (by decide +kernel)) rfl rfl rfl rfl hm_z
        obtain ⟨r106_z, h107_z, q108_z, hm_z⟩ := hm_z
        have vo := rn_void rfl q108_z
        subst vo
        obtain ⟨a1_z, a2_z⟩ := mf_199_1 q108_z
        rw [E1] at a1_z
        have af : f1_z g h107_z := a2_z
        replace hm_z : rn _ _ _ _ [] _ _ _ := hm_z
        replace hm_z := rn_iinc (w := i + 1) (am_cur_of (i := (64, 3, .iinc 3 1, (0, 0, 0), 0)) (by decide +kernel)) g3_z rfl hm_z
        obtain ⟨_, s109_z, s110_z, g3_z, hm_z⟩ := hm_z
        replace g0_z := s109_z 0 _ (by decide) rfl g0_z
        replace g1_z := s109_z 1 _ (by decide) rfl g1_z
        replace g2_z := s109_z 2 _ (by decide) rfl g2_z
        clear s109_z s110_z
        replace hm_z := rn_gotoL (am_cur_of (i := (67, 3, .goto (-34), (20, 0, 0), 0)) (by decide +kernel)) hm_z
        obtain ⟨l2_z, g2_z, f0_z, f2_z, f3_z, f4_z, f5_z, f6_z⟩ := ih_z j (i + 1) (t + 1) _ h107_z ((f1_v af rfl (by omega) (by omega)).trans Eh) ((f1_v af rfl (by omega) (by omega)).trans Eb) a1_z g0_z g1_z g2_z g3_z (by omega) (by omega) (by omega) hm_z
        exact ⟨l2_z, g2_z, f0_z, f2_z, f3_z, rn_up (Nat.le_succ _) f4_z, by omega, f1_t af f6_z⟩
theorem mf_t {r : Option Value} {g' : am_H} {k m z tk : Int32} (k0_z : 0 ≤ k.toInt) (k3_z : k.toInt ≤ 3) : ∀ (f j : Nat) (i t : Int32) (ls : am_L) (g : am_H), rg_v g 170 (7 * k.toNatClampNeg + 3) = tk → rg_v g 189 1 = t → am_get ls 0 = some (.ref 164) → am_get ls 1 = some (.int k) → am_get ls 2 = some (.int m) → am_get ls 3 = some (.int z) → am_get ls 4 = some (.int i) → i.toInt + j = tk.toInt → t.toInt + j < 2147483647 → 0 ≤ t.toInt → rn f am_m196 56 ls [] g r g' → ∃ l2_z g2_z, am_get l2_z 0 = some (.ref 164) ∧ am_get l2_z 1 = some (.int k) ∧ am_get l2_z 2 = some (.int m) ∧ am_get l2_z 3 = some (.int z) ∧ rn f am_m196 73 l2_z [] g2_z r g' ∧ (rg_v g2_z 189 1).toInt = t.toInt + j ∧ f1_z g g2_z := by
  intro f
  induction f with
  | zero => intro j i t ls g Et E1 g0_z g1_z g2_z g3_z g4_z ij tj t0_z hm_z; exact absurd hm_z rn_0
  | succ f ih_z =>
    intro j i t ls g Et E1 g0_z g1_z g2_z g3_z g4_z ij tj t0_z hm_z
    have z1_z : (1 : Int32).toInt = 1 := by decide
    have y4_z : ((4 : Int32) + k).toNatClampNeg = 4 + k.toNatClampNeg := ix_4 (c := 4) k0_z k3_z (by decide) (by decide)
    have x2_z : (((7 : Int32) * k) + 2).toNatClampNeg = 7 * k.toNatClampNeg + 2 := ix_7 (c := 2) k0_z k3_z (by decide) (by decide)
    have x3_z : (((7 : Int32) * k) + 3).toNatClampNeg = 7 * k.toNatClampNeg + 3 := ix_7 (c := 3) k0_z k3_z (by decide) (by decide)
    have x4_z : (((7 : Int32) * k) + 4).toNatClampNeg = 7 * k.toNatClampNeg + 4 := ix_7 (c := 4) k0_z k3_z (by decide) (by decide)
    have x5_z : (((7 : Int32) * k) + 5).toNatClampNeg = 7 * k.toNatClampNeg + 5 := ix_7 (c := 5) k0_z k3_z (by decide) (by decide)
    replace hm_z := rn_iload (am_cur_of (i := (92, 2, .iload 4, (0, 0, 0), 0)) (by decide +kernel)) g4_z hm_z
    replace hm_z := rn_aload_n (am_cur_of (i := (94, 1, .aload_n 0, (0, 0, 0), 0)) (by decide +kernel)) g0_z hm_z
    replace hm_z := rn_getR (x := 170) (am_cur_of (i := (95, 3, .getfield 30, (12, 25, 1409), 0)) (by decide +kernel)) (by decide +kernel) hm_z
    replace hm_z := rn_bipush (w := 7) (am_cur_of (i := (98, 2, .bipush 7, (0, 0, 0), 0)) (by decide +kernel)) (by decide) hm_z
    replace hm_z := rn_iload_n (am_cur_of (i := (100, 1, .iload_n 1, (0, 0, 0), 0)) (by decide +kernel)) g1_z hm_z
    replace hm_z := rn_imul (w := (7 : Int32) * k) (am_cur_of (i := (101, 1, .imul, (0, 0, 0), 0)) (by decide +kernel)) rfl hm_z
    replace hm_z := rn_iconst (w := 3) (am_cur_of (i := (102, 1, .iconst 3, (0, 0, 0), 0)) (by decide +kernel)) (by decide) hm_z
    replace hm_z := rn_iadd (w := ((7 : Int32) * k) + 3) (am_cur_of (i := (103, 1, .iadd, (0, 0, 0), 0)) (by decide +kernel)) rfl hm_z
    replace hm_z := rn_iaload (N := 56) (q := (((7 : Int32) * k) + 3).toNatClampNeg) (v := tk) (am_cur_of (i := (104, 1, .iaload, (0, 0, 0), 0)) (by decide +kernel)) (by decide +kernel) rfl (by rw [x3_z]; exact Et) hm_z
    obtain ⟨p111_z, hm_z⟩ := hm_z
    replace hm_z := rn_cmp (am_cur_of (i := (105, 3, .if_icmp .ge 16, (73, 0, 0), 0)) (by decide +kernel)) hm_z
    rcases hm_z with ⟨b112_z, hm_z⟩ | ⟨b112_z, hm_z⟩
    · replace b112_z : tk.toInt ≤ i.toInt := b112_z
      obtain rfl : j = 0 := by omega
      exact ⟨_, _, g0_z, g1_z, g2_z, g3_z, hm_z, by rw [E1]; omega, f1_r⟩
    · replace b112_z : i.toInt < tk.toInt := b112_z
      obtain ⟨j, rfl⟩ : ∃ j2_z, j = j2_z + 1 := ⟨j - 1, by omega⟩
      have ci_z := fk_c1 b112_z
      have ct := ab_iadd (x := t) (y := 1) (by omega) (by omega)
      replace hm_z := rn_aload_n (am_cur_of (i := (108, 1, .aload_n 0, (0, 0, 0), 0)) (by decide +kernel)) g0_z hm_z
      replace hm_z := rn_iconst (w := 1) (am_cur_of (i := (109, 1, .iconst 1, (0, 0, 0), 0)) (by decide +kernel)) (by decide) hm_z
      replace hm_z := rn_iconst (w := 0) (am_cur_of (i := (110, 1, .iconst 0, (0, 0, 0), 0)) (by decide +kernel)) (by decide) hm_z
      replace hm_z := rn_iconst (w := 0) (am_cur_of (i := (111, 1, .iconst 0, (0, 0, 0), 0)) (by decide +kernel)) (by decide) hm_z
      replace hm_z := rn_callV (M' := am_m199) (o := 164) (ar := [.int 0, .int 0, .int 1]) (rest := []) (L := lv_args 0 [.ref 164, .int 1, .int 0, .int 0]) (am_cur_of (i := (112, 3, .invokevirtual 434, (199, 1828, 3), 0)) (by decide +kernel)) rfl rfl rfl rfl hm_z
      obtain ⟨r113_z, h114_z, q115_z, hm_z⟩ := hm_z
      have vo := rn_void rfl q115_z
      subst vo
      obtain ⟨a1_z, a2_z⟩ := mf_199_1 q115_z
      rw [E1] at a1_z
      have af : f1_z g h114_z := a2_z
      replace hm_z : rn _ _ _ _ [] _ _ _ := hm_z
      replace hm_z := rn_iinc (w := i + 1) (am_cur_of (i := (115, 3, .iinc 4 1, (0, 0, 0), 0)) (by decide +kernel)) g4_z rfl hm_z
      obtain ⟨_, s116_z, s117_z, g4_z, hm_z⟩ := hm_z
      replace g0_z := s116_z 0 _ (by decide) rfl g0_z
      replace g1_z := s116_z 1 _ (by decide) rfl g1_z
      replace g2_z := s116_z 2 _ (by decide) rfl g2_z
      replace g3_z := s116_z 3 _ (by decide) rfl g3_z
      clear s116_z s117_z
      replace hm_z := rn_gotoL (am_cur_of (i := (118, 3, .goto (-26), (56, 0, 0), 0)) (by decide +kernel)) hm_z
      obtain ⟨l2_z, g2_z, f0_z, f2_z, f3_z, f3b, f4_z, f5_z, f6_z⟩ := ih_z j (i + 1) (t + 1) _ h114_z ((f1_v af rfl (by omega) (by omega)).trans Et) a1_z g0_z g1_z g2_z g3_z g4_z (by omega) (by omega) (by omega) hm_z
      exact ⟨l2_z, g2_z, f0_z, f2_z, f3_z, f3b, rn_up (Nat.le_succ _) f4_z, by omega, f1_t af f6_z⟩
theorem mf_b {r : Option Value} {g' : am_H} {k m tm tk rs : Int32} (k0_z : 0 ≤ k.toInt) (k3_z : k.toInt ≤ 3) (tk0_z : 0 ≤ tk.toInt) : ∀ (f j : Nat) (i t did al en : Int32) (ls : am_L) (g : am_H), rg_v g 170 (7 * k.toNatClampNeg + 2) = tm → rg_v g 170 (7 * k.toNatClampNeg + 3) = tk → rg_v g 170 (7 * k.toNatClampNeg + 4) = rs → rg_v g 189 1 = t → rg_v g 191 (4 + k.toNatClampNeg) = did → rg_v g 192 (4 + k.toNatClampNeg) = al → rg_v g 193 (4 + k.toNatClampNeg) = en → am_get ls 0 = some (.ref 164) → am_get ls 1 = some (.int k) → am_get ls 2 = some (.int m) → am_get ls 3 = some (.int i) → i.toInt + j = m.toInt → t.toInt + j * tk.toInt < 2147483647 → 0 ≤ t.toInt → rn f am_m196 44 ls [] g r g' → (mD rs tk tm j did en t ∧ r = some (.int (-2)) ∧ fz k.toNatClampNeg g g') ∨ (¬ mD rs tk tm j did en t ∧ ∃ l2_z g2_z, am_get l2_z 0 = some (.ref 164) ∧ rn f am_m196 79 l2_z [] g2_z r g' ∧ rg_v g2_z 189 1 = bT tk j t ∧ rg_v g2_z 191 (4 + k.toNatClampNeg) = mB rs tk j did en t ∧ rg_v g2_z 192 (4 + k.toNatClampNeg) = ad1_z j al ∧ (0 < j → rg_v g2_z 193 (4 + k.toNatClampNeg) = bT tk j t ∧ rg_v g2_z 190 1 = k) ∧ (j = 0 → g2_z = g) ∧ fz k.toNatClampNeg g g2_z) := by
  intro f
  induction f with
  | zero => intro j i t did al en ls g Em Et Er E1 Ed Ea Ee g0_z g1_z g2_z g3_z ij tj t0_z hm_z; exact absurd hm_z rn_0
  | succ f ih_z =>
    intro j i t did al en ls g Em Et Er E1 Ed Ea Ee g0_z g1_z g2_z g3_z ij tj t0_z hm_z
    have z0_z : (0 : Int32).toInt = 0 := by decide
    replace hm_z := rn_iload_n (am_cur_of (i := (72, 1, .iload_n 3, (0, 0, 0), 0)) (by decide +kernel)) g3_z hm_z
    replace hm_z := rn_iload_n (am_cur_of (i := (73, 1, .iload_n 2, (0, 0, 0), 0)) (by decide +kernel)) g2_z hm_z
    replace hm_z := rn_cmp (am_cur_of (i := (74, 3, .if_icmp .ge 59, (79, 0, 0), 0)) (by decide +kernel)) hm_z
    rcases hm_z with ⟨b118_z, hm_z⟩ | ⟨b118_z, hm_z⟩
    · replace b118_z : m.toInt ≤ i.toInt := b118_z
      obtain rfl : j = 0 := by omega
      exact Or.inr ⟨fun q => q, _, _, g0_z, hm_z, E1, Ed, Ea, fun q => absurd q (by omega), fun _ => rfl, fz_r⟩
    · replace b118_z : i.toInt < m.toInt := b118_z
      obtain ⟨j, rfl⟩ : ∃ j2_z, j = j2_z + 1 := ⟨j - 1, by omega⟩
      have ci_z := fk_c1 b118_z
      rw [show ((j + 1 : Nat) : Int) * tk.toInt = j * tk.toInt + tk.toInt by rw [Int.natCast_add, Int.add_mul]; omega] at tj
      have jn : 0 ≤ (j : Int) * tk.toInt := Int.mul_nonneg (Int.natCast_nonneg j) tk0_z
      have ct := ab_iadd (x := t) (y := tk) (by omega) (by omega)
      replace hm_z := rn_aload_n (am_cur_of (i := (77, 1, .aload_n 0, (0, 0, 0), 0)) (by decide +kernel)) g0_z hm_z
      replace hm_z := rn_iconst (w := 1) (am_cur_of (i := (78, 1, .iconst 1, (0, 0, 0), 0)) (by decide +kernel)) (by decide) hm_z
      replace hm_z := rn_iload_n (am_cur_of (i := (79, 1, .iload_n 1, (0, 0, 0), 0)) (by decide +kernel)) g1_z hm_z
      replace hm_z := rn_callV (M' := am_m203) (o := 164) (ar := [.int k, .int 1]) (rest := []) (L := lv_args 0 [.ref 164, .int 1, .int k]) (am_cur_of (i := (80, 3, .invokevirtual 438, (203, 1843, 3), 0)) (by decide +kernel)) rfl rfl rfl rfl hm_z
      obtain ⟨r119_z, h120_z, q121_z, hm_z⟩ := hm_z
      obtain ⟨⟨dv, er, dq⟩, d1_z, d2_z⟩ := mf_203 k0_z k3_z E1 Ed Ee Er Em q121_z
      subst er
      have dv2_z : ∀ o q, ¬ (o = 191 ∧ q = 4 + k.toNatClampNeg) → rg_v h120_z o q = rg_v g o q := by
        intro o q e
        unfold rg_v
        rw [d2_z o q e]
      have df : fz k.toNatClampNeg g h120_z := fz_d d2_z
      have Em1 := (dv2_z 170 (7 * k.toNatClampNeg + 2) (by omega)).trans Em
      have Et1 := (dv2_z 170 (7 * k.toNatClampNeg + 3) (by omega)).trans Et
      have Er1 := (dv2_z 170 (7 * k.toNatClampNeg + 4) (by omega)).trans Er
      have E11 := (dv2_z 189 1 (by omega)).trans E1
      have Ea1 := (dv2_z 192 (4 + k.toNatClampNeg) (by omega)).trans Ea
      replace hm_z : rn _ _ _ _ [.int dv] _ _ _ := hm_z
      replace hm_z := rn_if (am_cur_of (i := (83, 3, .ifCond .eq 6, (54, 0, 0), 0)) (by decide +kernel)) hm_z
      rcases hm_z with ⟨b122_z, hm_z⟩ | ⟨b122_z, hm_z⟩
      · replace b122_z : dv = (0 : Int32) ∧ dv.toInt = (0 : Int32).toInt := b122_z
        replace hm_z := rn_iconst (w := 0) (am_cur_of (i := (89, 1, .iconst 0, (0, 0, 0), 0)) (by decide +kernel)) (by decide) hm_z
        replace hm_z := rn_istore (am_cur_of (i := (90, 2, .istore 4, (0, 0, 0), 0)) (by decide +kernel)) hm_z
        obtain ⟨_, s123_z, s124_z, g4_z, hm_z⟩ := hm_z
        replace g0_z := s123_z 0 _ (by decide) rfl g0_z
        replace g1_z := s123_z 1 _ (by decide) rfl g1_z
        replace g2_z := s123_z 2 _ (by decide) rfl g2_z
        replace g3_z := s123_z 3 _ (by decide) rfl g3_z
        clear s123_z s124_z
        obtain ⟨l2_z, g2x, p0_z, p1_z, p2_z, p3_z, hm2_z, p5_z, p6_z⟩ := mf_t k0_z k3_z _ tk.toInt.toNat 0 t _ _ Et1 E11 g0_z g1_z g2_z g3_z g4_z (by rw [show (0 : Int32).toInt = 0 by decide]; omega) (by omega) t0_z hm_z
        clear hm_z g0_z g1_z g2_z g3_z g4_z
        have g0_z := p0_z
        have g1_z := p1_z
        have g2_z := p2_z
        have g3_z := p3_z
        have hm_z := hm2_z
        replace hm_z := rn_aload_n (am_cur_of (i := (121, 1, .aload_n 0, (0, 0, 0), 0)) (by decide +kernel)) g0_z hm_z
        replace hm_z := rn_iconst (w := 1) (am_cur_of (i := (122, 1, .iconst 1, (0, 0, 0), 0)) (by decide +kernel)) (by decide) hm_z
        replace hm_z := rn_iload_n (am_cur_of (i := (123, 1, .iload_n 1, (0, 0, 0), 0)) (by decide +kernel)) g1_z hm_z
        replace hm_z := rn_callV (M' := am_m205) (o := 164) (ar := [.int k, .int 1]) (rest := []) (L := lv_args 0 [.ref 164, .int 1, .int k]) (am_cur_of (i := (124, 3, .invokevirtual 441, (205, 1851, 3), 0)) (by decide +kernel)) rfl rfl rfl rfl hm_z
        obtain ⟨r125_z, h126_z, q127_z, hm_z⟩ := hm_z
        have vo := rn_void rfl q127_z
        subst vo
        obtain ⟨q1_z, q2_z, q3_z, q4_z, q5_z⟩ := mf_205 k0_z k3_z q127_z
        have t2_z : rg_v g2x 189 1 = t + tk := Int32.toInt_inj.mp (by rw [p5_z, ct]; omega)
        have qv : ∀ o q, nB o q = false → ¬ (188 ≤ o ∧ o ≤ 190 ∧ q = 1) → ¬ (191 ≤ o ∧ o ≤ 193 ∧ q = 4 + k.toNatClampNeg) → h126_z o q = g2x o q := fun o q e f h => q5_z o q e (by omega) h (by omega)
        have qf : fz k.toNatClampNeg g h126_z := fz_t df (fz_t (fz_1 p6_z) qv)
        have A1 : rg_v h126_z 189 1 = t + tk := by
          have e : rg_v h126_z 189 1 = rg_v g2x 189 1 := by
            unfold rg_v
            rw [q5_z 189 1 rfl (by omega) (by omega) (by omega)]
          exact e.trans t2_z
        have Ad : rg_v h126_z 191 (4 + k.toNatClampNeg) = mrs did t en rs + 1 := q1_z.trans (congrArg (fun q => q + 1) ((f1_v p6_z rfl (by omega) (by omega)).trans d1_z))
        have Aa : rg_v h126_z 192 (4 + k.toNatClampNeg) = al + 1 := q2_z.trans (congrArg (fun q => q + 1) ((f1_v p6_z rfl (by omega) (by omega)).trans Ea1))
        have Ae : rg_v h126_z 193 (4 + k.toNatClampNeg) = t + tk := q3_z.trans t2_z
        have Am := (fz_v qf rfl (by omega) (by omega)).trans Em
        have At := (fz_v qf rfl (by omega) (by omega)).trans Et
        have Ar := (fz_v qf rfl (by omega) (by omega)).trans Er
        replace hm_z : rn _ _ _ _ [] _ _ _ := hm_z
        replace hm_z := rn_iinc (w := i + 1) (am_cur_of (i := (127, 3, .iinc 3 1, (0, 0, 0), 0)) (by decide +kernel)) g3_z rfl hm_z
        obtain ⟨_, s128_z, s129_z, g3_z, hm_z⟩ := hm_z
        replace g0_z := s128_z 0 _ (by decide) rfl g0_z
        replace g1_z := s128_z 1 _ (by decide) rfl g1_z
        replace g2_z := s128_z 2 _ (by decide) rfl g2_z
        clear s128_z s129_z
        replace hm_z := rn_gotoL (am_cur_of (i := (130, 3, .goto (-58), (44, 0, 0), 0)) (by decide +kernel)) hm_z
        have nd := (dq.resolve_left (fun q => absurd (q.1.symm.trans b122_z.1) (by decide))).2
        rcases ih_z j (i + 1) (t + tk) (mrs did t en rs + 1) (al + 1) (t + tk) _ h126_z Am At Ar A1 Ad Aa Ae g0_z g1_z g2_z g3_z (by omega) (by omega) (by omega) hm_z with ⟨z1_z, z2_z, z3_z⟩ | ⟨z1_z, l3_z, g3x, z2_z, z3_z, z4_z, z5_z, z6_z, z7_z, z8_z, z9_z⟩
        · exact Or.inl ⟨Or.inr z1_z, z2_z, fz_t qf z3_z⟩
        · refine Or.inr ⟨fun q => q.elim nd z1_z, l3_z, g3x, z2_z, rn_up (Nat.le_succ _) z3_z, z4_z, z5_z, z6_z, fun _ => ?_, fun q => absurd q (by omega), fz_t qf z9_z⟩
          by_cases j0_z : 0 < j
          · exact z7_z j0_z
          · obtain rfl : j = 0 := by omega
            rw [z8_z rfl]
            exact ⟨Ae, q4_z⟩
      · replace b122_z : ¬ dv = (0 : Int32) ∧ ¬ dv.toInt = (0 : Int32).toInt := b122_z
        replace hm_z := rn_bipush (w := (-2)) (am_cur_of (i := (86, 2, .bipush (-2), (0, 0, 0), 0)) (by decide +kernel)) (by decide) hm_z
        replace hm_z := rn_iret (am_cur_of (i := (88, 1, .ireturn, (0, 0, 0), 0)) (by decide +kernel)) hm_z
        obtain ⟨e130_z, e131_z⟩ := hm_z
        rw [e131_z]
        exact Or.inl ⟨Or.inl (dq.resolve_right (fun q => b122_z.1 q.1)).2, e130_z, df⟩
theorem mQ_le {a b : Nat} (h : ¬ a ≤ b) : Nat.ble a b = false := by
  cases q : Nat.ble a b with
  | false => rfl
  | true => exact absurd (Nat.le_of_ble_eq_true q) h
theorem mS_s {g : am_H} {b i : Nat} (hi_z : i < 4) : mS g b (5 + i) = rg_v g 191 (4 * b + i) := by
  rw [Nat.add_comm 5 i]
  show (if i < 4 then rg_v g 191 (4 * b + i) else if i < 8 then rg_v g 192 (4 * b + (i - 4)) else rg_v g 193 (4 * b + (i - 8))) = _
  rw [if_pos hi_z]
theorem mS_a {g : am_H} {b i : Nat} (hi_z : i < 4) : mS g b (9 + i) = rg_v g 192 (4 * b + i) := by
  rw [show 9 + i = (4 + i) + 5 by omega]
  show (if 4 + i < 4 then rg_v g 191 (4 * b + (4 + i)) else if 4 + i < 8 then rg_v g 192 (4 * b + ((4 + i) - 4)) else rg_v g 193 (4 * b + ((4 + i) - 8))) = _
  rw [if_neg (by omega), if_pos (by omega), show 4 + i - 4 = i by omega]
theorem mS_n {g : am_H} {b i : Nat} (hi_z : i < 4) : mS g b (13 + i) = rg_v g 193 (4 * b + i) := by
  rw [show 13 + i = (8 + i) + 5 by omega]
  show (if 8 + i < 4 then rg_v g 191 (4 * b + (8 + i)) else if 8 + i < 8 then rg_v g 192 (4 * b + ((8 + i) - 4)) else rg_v g 193 (4 * b + ((8 + i) - 8))) = _
  rw [if_neg (by omega), if_neg (by omega), show 8 + i - 8 = i by omega]
/-- what stands of the model between the calls -/
def mQ (o q : Nat) : Prop := (o = 164 ∧ (q = 57 ∨ q = 77 ∨ q = 79)) ∨ o = 200 ∨ o = 201 ∨ (188 ≤ o ∧ o ≤ 190 ∧ q = 0) ∨ (o = 194 ∧ q = 0) ∨ (191 ≤ o ∧ o ≤ 193 ∧ q < 4)
theorem mQ_n {o q : Nat} (h : mQ o q) : nB o q = false := by
  unfold mQ at h
  unfold nB
  split
  · rcases h with ⟨-, h⟩ | h
    · rcases h with rfl | rfl | rfl <;> rfl
    · omega
  · omega
  · omega
  · rfl
theorem mQ_b {o q : Nat} (h : mQ o q) : bB 1 o q = false := by
  unfold mQ at h
  unfold bB
  split
  · exact se_bn (by omega)
  · exact se_bn (by omega)
  · exact se_bn (by omega)
  · exact se_bn (by omega)
  · rw [mQ_le (by omega)]
    rfl
  · rw [mQ_le (by omega)]
    rfl
  · rw [mQ_le (by omega)]
    rfl
  · rfl
/-- the rows of undo behind a push of the bed of g0_z -/
def mpu (g0_z g g' : am_H) : Prop := (rg_v g' 164 77).toInt = min ((rg_v g 164 77).toInt + 1) 20 ∧ (∀ j, j < 17 → rg_v g' 200 (17 * (min (rg_v g 164 77).toInt 19).toNat + j) = mS g0_z 0 j) ∧ ((rg_v g 164 77).toInt < 20 → ∀ t : Nat, (t : Int) < 17 * (rg_v g 164 77).toInt → rg_v g' 200 t = rg_v g 200 t) ∧ ((rg_v g 164 77).toInt = 20 → ∀ t : Nat, t < 323 → rg_v g' 200 t = rg_v g 200 (t + 17))
def mW (f : Nat → Int32) (b : Int32) (n : Nat) (t rests takes : Int32) (j : Nat) : Int32 :=
  if j = 1 then bT takes n t else if j = 2 then b else if j = 5 + b.toNatClampNeg then mB rests takes n (f (5 + b.toNatClampNeg)) (f (13 + b.toNatClampNeg)) t else if j = 9 + b.toNatClampNeg then ad1_z n (f (9 + b.toNatClampNeg)) else if j = 13 + b.toNatClampNeg then bT takes n t else f j
theorem mS_x {g g' : am_H} {a i : Nat} (e : ∀ o k, bB a o k = true → ¬ (188 ≤ o ∧ o ≤ 190 ∧ k = a) → ¬ (191 ≤ o ∧ o ≤ 193 ∧ k = 4 * a + i) → g' o k = g o k) (e4_z : g' 164 57 = g 164 57) {j : Nat} (j3_z : 3 ≤ j) (j17_z : j < 17) (n1_z : ¬ j = 5 + i) (n2_z : ¬ j = 9 + i) (n3_z : ¬ j = 13 + i) : mS g' a j = mS g a j := by
  have ev_z : ∀ o k, bB a o k = true → ¬ (188 ≤ o ∧ o ≤ 190 ∧ k = a) → ¬ (191 ≤ o ∧ o ≤ 193 ∧ k = 4 * a + i) → rg_v g' o k = rg_v g o k := by
    intro o k h1_z h2_z h3_z
    unfold rg_v
    rw [e o k h1_z h2_z h3_z]
  match j, j3_z with
  | 3, _ => exact ev_z 194 a (by exact Nat.beq_refl a) (by omega) (by omega)
  | 4, _ =>
    show rg_v g' 164 57 = rg_v g 164 57
    unfold rg_v
    rw [e4_z]
  | j + 5, _ =>
    have bl : ∀ x, x < 4 → (Nat.ble (4 * a) (4 * a + x) && Nat.ble (4 * a + x) (4 * a + 3)) = true := by
      intro x hx_z
      rw [Nat.ble_eq_true_of_le (by omega), Nat.ble_eq_true_of_le (by omega)]
      rfl
    show (if j < 4 then rg_v g' 191 (4 * a + j) else if j < 8 then rg_v g' 192 (4 * a + (j - 4)) else rg_v g' 193 (4 * a + (j - 8))) = (if j < 4 then rg_v g 191 (4 * a + j) else if j < 8 then rg_v g 192 (4 * a + (j - 4)) else rg_v g 193 (4 * a + (j - 8)))
    by_cases c1_z : j < 4
    · rw [if_pos c1_z, if_pos c1_z, ev_z 191 _ (bl j c1_z) (by omega) (by omega)]
    · rw [if_neg c1_z, if_neg c1_z]
      by_cases c2_z : j < 8
      · rw [if_pos c2_z, if_pos c2_z, ev_z 192 _ (bl (j - 4) (by omega)) (by omega) (by omega)]
      · rw [if_neg c2_z, if_neg c2_z, ev_z 193 _ (bl (j - 8) (by omega)) (by omega) (by omega)]
theorem mf_h0 {n : Nat} {r : Option Value} {g g' : am_H} {ls : am_L} {k m hd_z bl : Int32} (k0_z : 0 ≤ k.toInt) (k3_z : k.toInt ≤ 3) (ov : bl = -1 ∨ bl = k) (Eh : rg_v g 170 (7 * k.toNatClampNeg + 5) = hd_z) (Eb : rg_v g 190 1 = bl) (g0_z : am_get ls 0 = some (.ref 164)) (g1_z : am_get ls 1 = some (.int k)) (g2_z : am_get ls 2 = some (.int m)) (g3_z : am_get ls 3 = some (.int 0)) (hm_z : rn n am_m196 20 ls [] g r g') : ∃ l2_z, am_get l2_z 0 = some (.ref 164) ∧ am_get l2_z 1 = some (.int k) ∧ am_get l2_z 2 = some (.int m) ∧ rn n am_m196 42 l2_z [] g r g' := by
  have z0_z : (0 : Int32).toInt = 0 := by decide
  have y4_z : ((4 : Int32) + k).toNatClampNeg = 4 + k.toNatClampNeg := ix_4 (c := 4) k0_z k3_z (by decide) (by decide)
  have x2_z : (((7 : Int32) * k) + 2).toNatClampNeg = 7 * k.toNatClampNeg + 2 := ix_7 (c := 2) k0_z k3_z (by decide) (by decide)
  have x3_z : (((7 : Int32) * k) + 3).toNatClampNeg = 7 * k.toNatClampNeg + 3 := ix_7 (c := 3) k0_z k3_z (by decide) (by decide)
  have x4_z : (((7 : Int32) * k) + 4).toNatClampNeg = 7 * k.toNatClampNeg + 4 := ix_7 (c := 4) k0_z k3_z (by decide) (by decide)
  have x5_z : (((7 : Int32) * k) + 5).toNatClampNeg = 7 * k.toNatClampNeg + 5 := ix_7 (c := 5) k0_z k3_z (by decide) (by decide)
  replace hm_z := rn_iload_n (am_cur_of (i := (33, 1, .iload_n 3, (0, 0, 0), 0)) (by decide +kernel)) g3_z hm_z
  replace hm_z := rn_aload_n (am_cur_of (i := (34, 1, .aload_n 0, (0, 0, 0), 0)) (by decide +kernel)) g0_z hm_z
  replace hm_z := rn_getR (x := 170) (am_cur_of (i := (35, 3, .getfield 30, (12, 25, 1409), 0)) (by decide +kernel)) (by decide +kernel) hm_z
  replace hm_z := rn_bipush (w := 7) (am_cur_of (i := (38, 2, .bipush 7, (0, 0, 0), 0)) (by decide +kernel)) (by decide) hm_z
  replace hm_z := rn_iload_n (am_cur_of (i := (40, 1, .iload_n 1, (0, 0, 0), 0)) (by decide +kernel)) g1_z hm_z
  replace hm_z := rn_imul (w := (7 : Int32) * k) (am_cur_of (i := (41, 1, .imul, (0, 0, 0), 0)) (by decide +kernel)) rfl hm_z
  replace hm_z := rn_iconst (w := 5) (am_cur_of (i := (42, 1, .iconst 5, (0, 0, 0), 0)) (by decide +kernel)) (by decide) hm_z
  replace hm_z := rn_iadd (w := ((7 : Int32) * k) + 5) (am_cur_of (i := (43, 1, .iadd, (0, 0, 0), 0)) (by decide +kernel)) rfl hm_z
  replace hm_z := rn_iaload (N := 56) (q := (((7 : Int32) * k) + 5).toNatClampNeg) (v := hd_z) (am_cur_of (i := (44, 1, .iaload, (0, 0, 0), 0)) (by decide +kernel)) (by decide +kernel) rfl (by rw [x5_z]; exact Eh) hm_z
  obtain ⟨p132_z, hm_z⟩ := hm_z
  replace hm_z := rn_cmp (am_cur_of (i := (45, 3, .if_icmp .ge 25, (42, 0, 0), 0)) (by decide +kernel)) hm_z
  rcases hm_z with ⟨b133_z, hm_z⟩ | ⟨b133_z, hm_z⟩
  · replace b133_z : hd_z.toInt ≤ (0 : Int32).toInt := b133_z
    exact ⟨_, g0_z, g1_z, g2_z, hm_z⟩
  · replace b133_z : (0 : Int32).toInt < hd_z.toInt := b133_z
    replace hm_z := rn_aload_n (am_cur_of (i := (48, 1, .aload_n 0, (0, 0, 0), 0)) (by decide +kernel)) g0_z hm_z
    replace hm_z := rn_iconst (w := 1) (am_cur_of (i := (49, 1, .iconst 1, (0, 0, 0), 0)) (by decide +kernel)) (by decide) hm_z
    replace hm_z := rn_iload_n (am_cur_of (i := (50, 1, .iload_n 1, (0, 0, 0), 0)) (by decide +kernel)) g1_z hm_z
    replace hm_z := rn_callV (M' := am_m198) (o := 164) (ar := [.int k, .int 1]) (rest := []) (L := lv_args 0 [.ref 164, .int 1, .int k]) (am_cur_of (i := (51, 3, .invokevirtual 431, (198, 1824, 3), 0)) (by decide +kernel)) rfl rfl rfl rfl hm_z
    obtain ⟨r134_z, h135_z, q136_z, hm_z⟩ := hm_z
    rcases mf_198 q136_z with ⟨c0_0, rfl, yy⟩ | ⟨c1_0, c1_1, rfl, yy⟩ | ⟨c2_0, c2_1, rfl, yy⟩
    · replace yy := yy.symm
      subst yy
      replace hm_z : rn _ _ _ _ [.int 0] _ _ _ := hm_z
      replace hm_z := rn_ifT (am_cur_of (i := (54, 3, .ifCond .eq 16, (42, 0, 0), 0)) (by decide +kernel)) (by decide) hm_z
      exact ⟨_, g0_z, g1_z, g2_z, hm_z⟩
    · replace yy := yy.symm
      subst yy
      replace hm_z : rn _ _ _ _ [.int 0] _ _ _ := hm_z
      replace hm_z := rn_ifT (am_cur_of (i := (54, 3, .ifCond .eq 16, (42, 0, 0), 0)) (by decide +kernel)) (by decide) hm_z
      exact ⟨_, g0_z, g1_z, g2_z, hm_z⟩
    · exact absurd ov (fun q => q.elim (fun y => c2_0.1 (Eb.trans y)) (fun y => c2_1.1 (Eb.trans y)))
/-- the hands, whoever blew last -/
theorem mf_hh {n : Nat} {r : Option Value} {g g' : am_H} {ls : am_L} {k m hd_z bl t : Int32} (k0_z : 0 ≤ k.toInt) (k3_z : k.toInt ≤ 3) (h0_z : 0 ≤ hd_z.toInt) (h9_z : hd_z.toInt ≤ 99) (t0_z : 0 ≤ t.toInt) (t9_z : t.toInt ≤ 99999) (Eh : rg_v g 170 (7 * k.toNatClampNeg + 5) = hd_z) (Eb : rg_v g 190 1 = bl) (E1 : rg_v g 189 1 = t) (g0_z : am_get ls 0 = some (.ref 164)) (g1_z : am_get ls 1 = some (.int k)) (g2_z : am_get ls 2 = some (.int m)) (g3_z : am_get ls 3 = some (.int 0)) (hm_z : rn n am_m196 20 ls [] g r g') : ∃ l2_z gx, am_get l2_z 0 = some (.ref 164) ∧ am_get l2_z 1 = some (.int k) ∧ am_get l2_z 2 = some (.int m) ∧ rn n am_m196 42 l2_z [] gx r g' ∧ rg_v gx 189 1 = t + hn_z bl k hd_z ∧ f1_z g gx := by
  by_cases ov : bl = -1 ∨ bl = k
  · obtain ⟨l2_z, a, b, c, d⟩ := mf_h0 k0_z k3_z ov Eh Eb g0_z g1_z g2_z g3_z hm_z
    exact ⟨l2_z, g, a, b, c, d, by rw [hn_1 ov, Int32.add_zero]; exact E1, f1_r⟩
  · obtain ⟨l2_z, gx, a, b, c, d, e, f⟩ := mf_h k0_z k3_z ov n hd_z.toInt.toNat 0 t ls g Eh Eb E1 g0_z g1_z g2_z g3_z (by rw [show (0 : Int32).toInt = 0 by decide]; omega) (by omega) t0_z hm_z
    refine ⟨l2_z, gx, a, b, c, d, ?_, f⟩
    rw [hn_0 ov]
    exact Int32.toInt_inj.mp (by rw [e, ab_iadd (by omega) (by omega)]; omega)
theorem mf_162 {n : Nat} {h h' : am_H} {r : Option Value} {x : Int32} {y : Int32} {z : Int32}  (hc_z : rn n am_m162 0 (lv_args 0 [.int x, .int y, .int z]) [] h r h') : ((x.toInt < y.toInt) ∧ r = some (.int 0) ∧ h' = h) ∨ ((y.toInt ≤ x.toInt) ∧ (z.toInt < x.toInt) ∧ r = some (.int 0) ∧ h' = h) ∨ ((y.toInt ≤ x.toInt) ∧ (x.toInt ≤ z.toInt) ∧ r = some (.int 1) ∧ h' = h) := by
  have g0_z : am_get (lv_args 0 [.int x, .int y, .int z]) 0 = some (.int x) := rfl
  have g1_z : am_get (lv_args 0 [.int x, .int y, .int z]) 1 = some (.int y) := rfl
  have g2_z : am_get (lv_args 0 [.int x, .int y, .int z]) 2 = some (.int z) := rfl
  replace hc_z := rn_iload_n (am_cur_of (i := (0, 1, .iload_n 0, (0, 0, 0), 0)) (by decide +kernel)) g0_z hc_z
  replace hc_z := rn_iload_n (am_cur_of (i := (1, 1, .iload_n 1, (0, 0, 0), 0)) (by decide +kernel)) g1_z hc_z
  replace hc_z := rn_cmp (am_cur_of (i := (2, 3, .if_icmp .lt 12, (8, 0, 0), 0)) (by decide +kernel)) hc_z
  rcases hc_z with ⟨b137_z, hc_z⟩ | ⟨b137_z, hc_z⟩
  · replace b137_z : x.toInt < y.toInt := b137_z
    replace hc_z := rn_iconst (w := 0) (am_cur_of (i := (14, 1, .iconst 0, (0, 0, 0), 0)) (by decide +kernel)) (by decide) hc_z
    replace hc_z := rn_iret (am_cur_of (i := (15, 1, .ireturn, (0, 0, 0), 0)) (by decide +kernel)) hc_z
    obtain ⟨e138_z, e139_z⟩ := hc_z
    exact Or.inl ⟨b137_z, e138_z, e139_z⟩
  · replace b137_z : y.toInt ≤ x.toInt := b137_z
    replace hc_z := rn_iload_n (am_cur_of (i := (5, 1, .iload_n 0, (0, 0, 0), 0)) (by decide +kernel)) g0_z hc_z
    replace hc_z := rn_iload_n (am_cur_of (i := (6, 1, .iload_n 2, (0, 0, 0), 0)) (by decide +kernel)) g2_z hc_z
    replace hc_z := rn_cmp (am_cur_of (i := (7, 3, .if_icmp .gt 7, (8, 0, 0), 0)) (by decide +kernel)) hc_z
    rcases hc_z with ⟨b140_z, hc_z⟩ | ⟨b140_z, hc_z⟩
    · replace b140_z : z.toInt < x.toInt := b140_z
      replace hc_z := rn_iconst (w := 0) (am_cur_of (i := (14, 1, .iconst 0, (0, 0, 0), 0)) (by decide +kernel)) (by decide) hc_z
      replace hc_z := rn_iret (am_cur_of (i := (15, 1, .ireturn, (0, 0, 0), 0)) (by decide +kernel)) hc_z
      obtain ⟨e141_z, e142_z⟩ := hc_z
      exact Or.inr (Or.inl ⟨b137_z, b140_z, e141_z, e142_z⟩)
    · replace b140_z : x.toInt ≤ z.toInt := b140_z
      replace hc_z := rn_iconst (w := 1) (am_cur_of (i := (10, 1, .iconst 1, (0, 0, 0), 0)) (by decide +kernel)) (by decide) hc_z
      replace hc_z := rn_goto (am_cur_of (i := (11, 3, .goto 4, (9, 0, 0), 0)) (by decide +kernel)) hc_z
      replace hc_z := rn_iret (am_cur_of (i := (15, 1, .ireturn, (0, 0, 0), 0)) (by decide +kernel)) hc_z
      obtain ⟨e143_z, e144_z⟩ := hc_z
      exact Or.inr (Or.inr (⟨b137_z, b140_z, e143_z, e144_z⟩))
theorem mS_q {g g' : am_H} (e : ∀ o q, mQ o q → g' o q = g o q) {j : Nat} (hj_z : j < 17) : mS g' 0 j = mS g 0 j := by
  · have ev_z : ∀ o q, mQ o q → rg_v g' o q = rg_v g o q := by
      intro o q h
      unfold rg_v
      rw [e o q h]
    match j, hj_z with
    | 0, _ => exact ev_z 188 0 (by unfold mQ; omega)
    | 1, _ => exact ev_z 189 0 (by unfold mQ; omega)
    | 2, _ => exact ev_z 190 0 (by unfold mQ; omega)
    | 3, _ => exact ev_z 194 0 (by unfold mQ; omega)
    | 4, _ => exact ev_z 164 57 (by unfold mQ; omega)
    | j + 5, hj_z =>
      show (if j < 4 then rg_v g' 191 (4 * 0 + j) else if j < 8 then rg_v g' 192 (4 * 0 + (j - 4)) else rg_v g' 193 (4 * 0 + (j - 8))) = (if j < 4 then rg_v g 191 (4 * 0 + j) else if j < 8 then rg_v g 192 (4 * 0 + (j - 4)) else rg_v g 193 (4 * 0 + (j - 8)))
      by_cases c1_z : j < 4
      · rw [if_pos c1_z, if_pos c1_z, ev_z 191 _ (by unfold mQ; omega)]
      · rw [if_neg c1_z, if_neg c1_z]
        by_cases c2_z : j < 8
        · rw [if_pos c2_z, if_pos c2_z, ev_z 192 _ (by unfold mQ; omega)]
        · rw [if_neg c2_z, if_neg c2_z, ev_z 193 _ (by unfold mQ; omega)]
theorem mQ_v {g g' : am_H} {o q : Nat} (e : ∀ o q, mQ o q → g' o q = g o q) (h : mQ o q) : rg_v g' o q = rg_v g o q := by
  unfold rg_v
  rw [e o q h]
theorem bB_n {a o k : Nat} (h : bB a o k = true) : nB o k = false := by
  unfold bB at h
  split at h
  all_goals first | rfl | cases h
theorem mf_196 {n : Nat} {r : Option Value} {g g' : am_H} {k m s1_z s2_z did al en tm tk rs hd_z : Int32} (nb4_z : (rg_v g 164 12).toInt ≤ 4) (E1 : rg_v g 189 0 = s1_z) (E2 : rg_v g 190 0 = s2_z) (Ed : rg_v g 191 k.toNatClampNeg = did) (Ea : rg_v g 192 k.toNatClampNeg = al) (Ee : rg_v g 193 k.toNatClampNeg = en) (Em : rg_v g 170 (7 * k.toNatClampNeg + 2) = tm) (Et : rg_v g 170 (7 * k.toNatClampNeg + 3) = tk) (Er : rg_v g 170 (7 * k.toNatClampNeg + 4) = rs) (Eh : rg_v g 170 (7 * k.toNatClampNeg + 5) = hd_z) (s10_z : 0 ≤ s1_z.toInt) (s19_z : s1_z.toInt ≤ 99999) (HB : 0 ≤ k.toInt → k.toInt < (rg_v g 164 12).toInt → (0 ≤ hd_z.toInt ∧ hd_z.toInt ≤ 99) ∧ (0 ≤ tk.toInt ∧ tk.toInt ≤ 99)) (u0_z : 0 ≤ (rg_v g 164 77).toInt) (u20_z : (rg_v g 164 77).toInt ≤ 20) (hm_z : rn n am_m196 0 (lv_args 0 [.ref 164, .int k, .int m]) [] g r g') : (¬ (0 ≤ k.toInt ∧ k.toInt < (rg_v g 164 12).toInt ∧ 1 ≤ m.toInt ∧ m.toInt ≤ 20) ∧ r = some (.int (-1)) ∧ (∀ o q, mQ o q → g' o q = g o q)) ∨ ((0 ≤ k.toInt ∧ k.toInt < (rg_v g 164 12).toInt ∧ 1 ≤ m.toInt ∧ m.toInt ≤ 20) ∧ mD rs tk tm m.toInt.toNat did en (s1_z + hn_z s2_z k hd_z) ∧ r = some (.int (-2)) ∧ (∀ o q, mQ o q → g' o q = g o q)) ∨ ((0 ≤ k.toInt ∧ k.toInt < (rg_v g 164 12).toInt ∧ 1 ≤ m.toInt ∧ m.toInt ≤ 20) ∧ ¬ mD rs tk tm m.toInt.toNat did en (s1_z + hn_z s2_z k hd_z) ∧ 99999 < (bT tk m.toInt.toNat (s1_z + hn_z s2_z k hd_z)).toInt ∧ r = some (.int (-1)) ∧ (∀ o q, mQ o q → g' o q = g o q)) ∨ ((0 ≤ k.toInt ∧ k.toInt < (rg_v g 164 12).toInt ∧ 1 ≤ m.toInt ∧ m.toInt ≤ 20) ∧ ¬ mD rs tk tm m.toInt.toNat did en (s1_z + hn_z s2_z k hd_z) ∧ ¬ 99999 < (bT tk m.toInt.toNat (s1_z + hn_z s2_z k hd_z)).toInt ∧ (∃ v : Int32, r = some (.int v)) ∧ mpu g g g' ∧ ∀ j, 1 ≤ j → j < 17 → mS g' 0 j = mW (mS g 0) k m.toInt.toNat (s1_z + hn_z s2_z k hd_z) rs tk j) := by
  have z0_z : (0 : Int32).toInt = 0 := by decide
  have z1_z : (1 : Int32).toInt = 1 := by decide
  have z20_z : (20 : Int32).toInt = 20 := by decide
  have z99999_z : (99999 : Int32).toInt = 99999 := by decide
  have g0_z : am_get (lv_args 0 [.ref 164, .int k, .int m]) 0 = some (.ref 164) := rfl
  have g1_z : am_get (lv_args 0 [.ref 164, .int k, .int m]) 1 = some (.int k) := rfl
  have g2_z : am_get (lv_args 0 [.ref 164, .int k, .int m]) 2 = some (.int m) := rfl
  replace hm_z := rn_aload_n (am_cur_of (i := (0, 1, .aload_n 0, (0, 0, 0), 0)) (by decide +kernel)) g0_z hm_z
  replace hm_z := rn_iconst (w := 0) (am_cur_of (i := (1, 1, .iconst 0, (0, 0, 0), 0)) (by decide +kernel)) (by decide) hm_z
  replace hm_z := rn_put (am_cur_of (i := (2, 3, .putfield 139, (12, 2, 1386), 0)) (by decide +kernel)) (by decide +kernel) hm_z
  replace hm_z := rn_aload_n (am_cur_of (i := (5, 1, .aload_n 0, (0, 0, 0), 0)) (by decide +kernel)) g0_z hm_z
  replace hm_z := rn_iload_n (am_cur_of (i := (6, 1, .iload_n 1, (0, 0, 0), 0)) (by decide +kernel)) g1_z hm_z
  replace hm_z := rn_callV (M' := am_m185) (o := 164) (ar := [.int k]) (rest := []) (L := lv_args 0 [.ref 164, .int k]) (am_cur_of (i := (7, 3, .invokevirtual 420, (185, 1770, 3), 0)) (by decide +kernel)) rfl rfl rfl rfl hm_z
  obtain ⟨r153_z, h154_z, q155_z, hm_z⟩ := hm_z
  rcases fk_185 q155_z with ⟨b156_z, rfl, y157_z⟩ | ⟨b158_z, b159_z, rfl, y160_z⟩ | ⟨b161_z, b162_z, rfl, y163_z⟩
  · replace y157_z := y157_z.symm
    subst y157_z
    replace b156_z : k.toInt < (0 : Int32).toInt := b156_z
    replace hm_z : rn _ _ _ _ [.int 0] _ _ _ := hm_z
    replace hm_z := rn_ifT (am_cur_of (i := (10, 3, .ifCond .eq 13, (12, 0, 0), 0)) (by decide +kernel)) (by decide) hm_z
    replace hm_z := rn_iconst (w := (-1)) (am_cur_of (i := (23, 1, .iconst (-1), (0, 0, 0), 0)) (by decide +kernel)) (by decide) hm_z
    replace hm_z := rn_iret (am_cur_of (i := (24, 1, .ireturn, (0, 0, 0), 0)) (by decide +kernel)) hm_z
    obtain ⟨e164_z, e165_z⟩ := hm_z
    exact Or.inl ⟨by omega, e164_z, fun o q e => by rw [e165_z]; exact up_ne (by unfold mQ at e; omega)⟩
  · replace y160_z := y160_z.symm
    subst y160_z
    replace b158_z : (0 : Int32).toInt ≤ k.toInt := b158_z
    replace b159_z : ((rg_v g 164 12)).toInt ≤ k.toInt := b159_z
    replace hm_z : rn _ _ _ _ [.int 0] _ _ _ := hm_z
    replace hm_z := rn_ifT (am_cur_of (i := (10, 3, .ifCond .eq 13, (12, 0, 0), 0)) (by decide +kernel)) (by decide) hm_z
    replace hm_z := rn_iconst (w := (-1)) (am_cur_of (i := (23, 1, .iconst (-1), (0, 0, 0), 0)) (by decide +kernel)) (by decide) hm_z
    replace hm_z := rn_iret (am_cur_of (i := (24, 1, .ireturn, (0, 0, 0), 0)) (by decide +kernel)) hm_z
    obtain ⟨e166_z, e167_z⟩ := hm_z
    exact Or.inl ⟨by omega, e166_z, fun o q e => by rw [e167_z]; exact up_ne (by unfold mQ at e; omega)⟩
  · replace y163_z := y163_z.symm
    subst y163_z
    replace b161_z : (0 : Int32).toInt ≤ k.toInt := b161_z
    replace b162_z : k.toInt < ((rg_v g 164 12)).toInt := b162_z
    replace hm_z : rn _ _ _ _ [.int 1] _ _ _ := hm_z
    replace hm_z := rn_ifF (am_cur_of (i := (10, 3, .ifCond .eq 13, (12, 0, 0), 0)) (by decide +kernel)) (by decide) hm_z
    replace hm_z := rn_iload_n (am_cur_of (i := (13, 1, .iload_n 2, (0, 0, 0), 0)) (by decide +kernel)) g2_z hm_z
    replace hm_z := rn_iconst (w := 1) (am_cur_of (i := (14, 1, .iconst 1, (0, 0, 0), 0)) (by decide +kernel)) (by decide) hm_z
    replace hm_z := rn_bipush (w := 20) (am_cur_of (i := (15, 2, .bipush 20, (0, 0, 0), 0)) (by decide +kernel)) (by decide) hm_z
    replace hm_z := rn_callS (M' := am_m162) (ar := [.int 20, .int 1, .int m]) (rest := []) (L := lv_args 0 [.int m, .int 1, .int 20]) (am_cur_of (i := (17, 3, .invokestatic 184, (162, 1681, 3), 0)) (by decide +kernel)) rfl rfl rfl rfl hm_z
    obtain ⟨r168_z, h169_z, q170_z, hm_z⟩ := hm_z
    rcases mf_162 q170_z with ⟨b171_z, rfl, y172_z⟩ | ⟨b173_z, b174_z, rfl, y175_z⟩ | ⟨b176_z, b177_z, rfl, y178_z⟩
    · replace y172_z := y172_z.symm
      subst y172_z
      replace b171_z : m.toInt < (1 : Int32).toInt := b171_z
      replace hm_z : rn _ _ _ _ [.int 0] _ _ _ := hm_z
      replace hm_z := rn_ifF (am_cur_of (i := (20, 3, .ifCond .ne 5, (14, 0, 0), 0)) (by decide +kernel)) (by decide) hm_z
      replace hm_z := rn_iconst (w := (-1)) (am_cur_of (i := (23, 1, .iconst (-1), (0, 0, 0), 0)) (by decide +kernel)) (by decide) hm_z
      replace hm_z := rn_iret (am_cur_of (i := (24, 1, .ireturn, (0, 0, 0), 0)) (by decide +kernel)) hm_z
      obtain ⟨e179_z, e180_z⟩ := hm_z
      exact Or.inl ⟨by omega, e179_z, fun o q e => by rw [e180_z]; exact up_ne (by unfold mQ at e; omega)⟩
    · replace y175_z := y175_z.symm
      subst y175_z
      replace b173_z : (1 : Int32).toInt ≤ m.toInt := b173_z
      replace b174_z : (20 : Int32).toInt < m.toInt := b174_z
      replace hm_z : rn _ _ _ _ [.int 0] _ _ _ := hm_z
      replace hm_z := rn_ifF (am_cur_of (i := (20, 3, .ifCond .ne 5, (14, 0, 0), 0)) (by decide +kernel)) (by decide) hm_z
      replace hm_z := rn_iconst (w := (-1)) (am_cur_of (i := (23, 1, .iconst (-1), (0, 0, 0), 0)) (by decide +kernel)) (by decide) hm_z
      replace hm_z := rn_iret (am_cur_of (i := (24, 1, .ireturn, (0, 0, 0), 0)) (by decide +kernel)) hm_z
      obtain ⟨e181_z, e182_z⟩ := hm_z
      exact Or.inl ⟨by omega, e181_z, fun o q e => by rw [e182_z]; exact up_ne (by unfold mQ at e; omega)⟩
    · replace y178_z := y178_z.symm
      subst y178_z
      replace b176_z : (1 : Int32).toInt ≤ m.toInt := b176_z
      replace b177_z : m.toInt ≤ (20 : Int32).toInt := b177_z
      replace hm_z : rn _ _ _ _ [.int 1] _ _ _ := hm_z
      replace hm_z := rn_ifT (am_cur_of (i := (20, 3, .ifCond .ne 5, (14, 0, 0), 0)) (by decide +kernel)) (by decide) hm_z
      replace hm_z := rn_aload_n (am_cur_of (i := (25, 1, .aload_n 0, (0, 0, 0), 0)) (by decide +kernel)) g0_z hm_z
      replace hm_z := rn_iconst (w := 1) (am_cur_of (i := (26, 1, .iconst 1, (0, 0, 0), 0)) (by decide +kernel)) (by decide) hm_z
      replace hm_z := rn_iconst (w := 0) (am_cur_of (i := (27, 1, .iconst 0, (0, 0, 0), 0)) (by decide +kernel)) (by decide) hm_z
      replace hm_z := rn_callV (M' := am_m197) (o := 164) (ar := [.int 0, .int 1]) (rest := []) (L := lv_args 0 [.ref 164, .int 1, .int 0]) (am_cur_of (i := (28, 3, .invokevirtual 428, (197, 1820, 3), 0)) (by decide +kernel)) rfl rfl rfl rfl hm_z
      obtain ⟨r183_z, h184_z, q185_z, hm_z⟩ := hm_z
      have vo := rn_void rfl q185_z
      subst vo
      have k0_z : 0 ≤ k.toInt := by omega
      have k3_z : k.toInt ≤ 3 := by omega
      have ck_z := rt_cl k0_z
      have k4_z : k.toNatClampNeg < 4 := by omega
      obtain ⟨⟨hd0_z, hd9_z⟩, ⟨tk0_z, tk9_z⟩⟩ := HB (by omega) (by omega)
      obtain ⟨c1_z, c2_z⟩ := cb_197_10 q185_z
      have gs : ∀ j, mS (am_up g 164 2 (.int 0)) 0 j = mS g 0 j := fun j => mS_e (fun o q h => up_ne (by omega)) j
      have a1_z : rg_v h184_z 189 1 = s1_z := (c1_z 1 (by decide)).trans ((gs 1).trans E1)
      have a2_z : rg_v h184_z 190 1 = s2_z := (c1_z 2 (by decide)).trans ((gs 2).trans E2)
      have ad : rg_v h184_z 191 (4 + k.toNatClampNeg) = did := (mS_s (b := 1) k4_z).symm.trans ((c1_z _ (by omega)).trans ((gs _).trans ((mS_s k4_z).trans (by rw [show 4 * 0 + k.toNatClampNeg = k.toNatClampNeg by omega]; exact Ed))))
      have aa : rg_v h184_z 192 (4 + k.toNatClampNeg) = al := (mS_a (b := 1) k4_z).symm.trans ((c1_z _ (by omega)).trans ((gs _).trans ((mS_a k4_z).trans (by rw [show 4 * 0 + k.toNatClampNeg = k.toNatClampNeg by omega]; exact Ea))))
      have ae : rg_v h184_z 193 (4 + k.toNatClampNeg) = en := (mS_n (b := 1) k4_z).symm.trans ((c1_z _ (by omega)).trans ((gs _).trans ((mS_n k4_z).trans (by rw [show 4 * 0 + k.toNatClampNeg = k.toNatClampNeg by omega]; exact Ee))))
      have r7_z : ∀ q, rg_v h184_z 170 q = rg_v g 170 q := by
        intro q
        unfold rg_v
        rw [c2_z 170 q rfl, up_ne (by omega)]
      have am := (r7_z _).trans Em
      have at_ := (r7_z _).trans Et
      have ar := (r7_z _).trans Er
      have ah := (r7_z _).trans Eh
      have fq : ∀ o q, mQ o q → h184_z o q = g o q := fun o q e => (c2_z o q (mQ_b e)).trans (up_ne (by unfold mQ at e; omega))
      replace hm_z : rn _ _ _ _ [] _ _ _ := hm_z
      replace hm_z := rn_iconst (w := 0) (am_cur_of (i := (31, 1, .iconst 0, (0, 0, 0), 0)) (by decide +kernel)) (by decide) hm_z
      replace hm_z := rn_istore_n (am_cur_of (i := (32, 1, .istore_n 3, (0, 0, 0), 0)) (by decide +kernel)) hm_z
      obtain ⟨_, s186_z, s187_z, g3_z, hm_z⟩ := hm_z
      replace g0_z := s186_z 0 _ (by decide) rfl g0_z
      replace g1_z := s186_z 1 _ (by decide) rfl g1_z
      replace g2_z := s186_z 2 _ (by decide) rfl g2_z
      clear s186_z s187_z
      have hr := hn_r (l := s2_z) (b := k) hd0_z hd9_z
      obtain ⟨l2_z, gx, p0_z, p1_z, p2_z, hm2_z, p4_z, p5_z⟩ := mf_hh k0_z k3_z hd0_z hd9_z s10_z s19_z ah a2_z a1_z g0_z g1_z g2_z g3_z hm_z
      clear hm_z g0_z g1_z g2_z g3_z
      have g0_z := p0_z
      have g1_z := p1_z
      have g2_z := p2_z
      have hm_z := hm2_z
      have bd := (f1_v p5_z (o := 191) (q := 4 + k.toNatClampNeg) rfl (by omega) (by omega)).trans ad
      have ba := (f1_v p5_z (o := 192) (q := 4 + k.toNatClampNeg) rfl (by omega) (by omega)).trans aa
      have be := (f1_v p5_z (o := 193) (q := 4 + k.toNatClampNeg) rfl (by omega) (by omega)).trans ae
      have bm := (f1_v p5_z rfl (by omega) (by omega)).trans am
      have bt := (f1_v p5_z rfl (by omega) (by omega)).trans at_
      have br := (f1_v p5_z rfl (by omega) (by omega)).trans ar
      replace hm_z := rn_iconst (w := 0) (am_cur_of (i := (70, 1, .iconst 0, (0, 0, 0), 0)) (by decide +kernel)) (by decide) hm_z
      replace hm_z := rn_istore_n (am_cur_of (i := (71, 1, .istore_n 3, (0, 0, 0), 0)) (by decide +kernel)) hm_z
      obtain ⟨_, s188_z, s189_z, g3_z, hm_z⟩ := hm_z
      replace g0_z := s188_z 0 _ (by decide) rfl g0_z
      replace g1_z := s188_z 1 _ (by decide) rfl g1_z
      replace g2_z := s188_z 2 _ (by decide) rfl g2_z
      clear s188_z s189_z
      have em : ((m.toInt.toNat : Nat) : Int) = m.toInt := by omega
      have mt := se_mt (m := m) (t := tk) (by omega) (by omega) tk0_z tk9_z
      have la := ab_iadd (x := s1_z) (y := hn_z s2_z k hd_z) (by omega) (by omega)
      have bti := bT_i tk0_z m.toInt.toNat (s1_z + hn_z s2_z k hd_z) (by omega) (by rw [em]; omega)
      rw [em] at bti
      rcases mf_b k0_z k3_z tk0_z _ m.toInt.toNat 0 (s1_z + hn_z s2_z k hd_z) did al en _ gx bm bt br p4_z bd ba be g0_z g1_z g2_z g3_z (by rw [show (0 : Int32).toInt = 0 by decide]; omega) (by rw [em]; omega) (by omega) hm_z with ⟨z1_z, z2_z, z3_z⟩ | ⟨z1_z, l3_z, g3x, f0_z, hm3_z, z4_z, z5_z, z6_z, z7_z, -, z9_z⟩
      · exact Or.inr (Or.inl ⟨⟨by omega, by omega, by omega, by omega⟩, z1_z, z2_z, fun o q e => ((z3_z o q (mQ_n e) (by unfold mQ at e; omega) (by unfold mQ at e; omega)).trans (p5_z o q (mQ_n e) (by unfold mQ at e; omega) (by unfold mQ at e; omega))).trans (fq o q e)⟩)
      obtain ⟨z7a, z7b⟩ := z7_z (by omega)
      have gq : ∀ o q, mQ o q → g3x o q = g o q := fun o q e => ((z9_z o q (mQ_n e) (by unfold mQ at e; omega) (by unfold mQ at e; omega)).trans (p5_z o q (mQ_n e) (by unfold mQ at e; omega) (by unfold mQ at e; omega))).trans (fq o q e)
      clear hm_z g0_z g1_z g2_z g3_z
      have g0_z := f0_z
      have hm_z := hm3_z
      replace hm_z := rn_aload_n (am_cur_of (i := (133, 1, .aload_n 0, (0, 0, 0), 0)) (by decide +kernel)) g0_z hm_z
      replace hm_z := rn_getR (x := 189) (am_cur_of (i := (134, 3, .getfield 88, (12, 51, 1435), 0)) (by decide +kernel)) (by decide +kernel) hm_z
      replace hm_z := rn_iconst (w := 1) (am_cur_of (i := (137, 1, .iconst 1, (0, 0, 0), 0)) (by decide +kernel)) (by decide) hm_z
      replace hm_z := rn_iaload (N := 4) (q := 1) (v := (bT tk m.toInt.toNat (s1_z + hn_z s2_z k hd_z))) (am_cur_of (i := (138, 1, .iaload, (0, 0, 0), 0)) (by decide +kernel)) (by decide +kernel) rfl z4_z hm_z
      obtain ⟨p190_z, hm_z⟩ := hm_z
      replace hm_z := rn_ldc (w := 99999) (am_cur_of (i := (139, 2, .ldc 177, (0, 0, 1656), 99999)) (by decide +kernel)) (by decide) hm_z
      replace hm_z := rn_cmp (am_cur_of (i := (141, 3, .if_icmp .le 5, (87, 0, 0), 0)) (by decide +kernel)) hm_z
      rcases hm_z with ⟨b191_z, hm_z⟩ | ⟨b191_z, hm_z⟩
      · replace b191_z : (bT tk m.toInt.toNat (s1_z + hn_z s2_z k hd_z)).toInt ≤ (99999 : Int32).toInt := b191_z
        replace hm_z := rn_aload_n (am_cur_of (i := (146, 1, .aload_n 0, (0, 0, 0), 0)) (by decide +kernel)) g0_z hm_z
        replace hm_z := rn_callV (M' := am_m207) (o := 164) (ar := []) (rest := []) (L := lv_args 0 [.ref 164]) (am_cur_of (i := (147, 3, .invokevirtual 444, (207, 1859, 3), 0)) (by decide +kernel)) rfl rfl rfl rfl hm_z
        obtain ⟨r192_z, h193_z, q194_z, hm_z⟩ := hm_z
        have vo := rn_void rfl q194_z
        subst vo
        have eu : rg_v g3x 164 77 = rg_v g 164 77 := by
          unfold rg_v
          rw [gq 164 77 (by unfold mQ; omega)]
        have zz := rm_207 eu u0_z u20_z q194_z
        obtain ⟨y1_z, y2_z, y3_z, y4_z, y5_z⟩ := zz
        have gm : ∀ j, j < 17 → mS g3x 0 j = mS g 0 j := fun j hj_z => mS_q gq hj_z
        replace hm_z : rn _ _ _ _ [] _ _ _ := hm_z
        replace hm_z := rn_aload_n (am_cur_of (i := (150, 1, .aload_n 0, (0, 0, 0), 0)) (by decide +kernel)) g0_z hm_z
        replace hm_z := rn_iconst (w := 0) (am_cur_of (i := (151, 1, .iconst 0, (0, 0, 0), 0)) (by decide +kernel)) (by decide) hm_z
        replace hm_z := rn_iconst (w := 1) (am_cur_of (i := (152, 1, .iconst 1, (0, 0, 0), 0)) (by decide +kernel)) (by decide) hm_z
        replace hm_z := rn_callV (M' := am_m197) (o := 164) (ar := [.int 1, .int 0]) (rest := []) (L := lv_args 0 [.ref 164, .int 0, .int 1]) (am_cur_of (i := (153, 3, .invokevirtual 428, (197, 1820, 3), 0)) (by decide +kernel)) rfl rfl rfl rfl hm_z
        obtain ⟨r195_z, h196_z, q197_z, hm_z⟩ := hm_z
        have vo := rn_void rfl q197_z
        subst vo
        obtain ⟨d1_z, d2_z⟩ := cb_197_01 q197_z
        replace hm_z : rn _ _ _ _ [] _ _ _ := hm_z
        replace hm_z := rn_aload_n (am_cur_of (i := (156, 1, .aload_n 0, (0, 0, 0), 0)) (by decide +kernel)) g0_z hm_z
        replace hm_z := rn_getR (x := 188) (am_cur_of (i := (157, 3, .getfield 85, (12, 50, 1434), 0)) (by decide +kernel)) (by decide +kernel) hm_z
        replace hm_z := rn_iconst (w := 0) (am_cur_of (i := (160, 1, .iconst 0, (0, 0, 0), 0)) (by decide +kernel)) (by decide) hm_z
        replace hm_z := rn_iaload (N := 4) (q := 0) (v := rg_v h196_z 188 0) (am_cur_of (i := (161, 1, .iaload, (0, 0, 0), 0)) (by decide +kernel)) (by decide +kernel) rfl rfl hm_z
        obtain ⟨p198_z, hm_z⟩ := hm_z
        replace hm_z := rn_iret (am_cur_of (i := (162, 1, .ireturn, (0, 0, 0), 0)) (by decide +kernel)) hm_z
        obtain ⟨e199_z, e200_z⟩ := hm_z
        rw [e200_z]
        have n2_z : ∀ q, bB 0 200 q = false := fun _ => rfl
        have e4_z : ∀ o q, (o = 200 ∨ (o = 164 ∧ q = 77)) → rg_v h196_z o q = rg_v h193_z o q := by
          intro o q h
          unfold rg_v
          rcases h with rfl | ⟨rfl, rfl⟩
          · rw [d2_z 200 q rfl]
          · rw [d2_z 164 77 rfl]
        refine Or.inr (Or.inr (Or.inr ⟨⟨by omega, by omega, by omega, by omega⟩, z1_z, by omega, ⟨_, e199_z⟩, ⟨?_, fun j hj_z => ?_, fun hu t ht => ?_, fun hu t ht => ?_⟩, fun j j1_z j17_z => ?_⟩))
        · rw [e4_z 164 77 (by omega)]
          exact y1_z
        · rw [e4_z 200 _ (by omega)]
          exact (y2_z j hj_z).trans (gm j hj_z)
        · rw [e4_z 200 _ (by omega)]
          exact (y3_z hu t ht).trans (mQ_v gq (by unfold mQ; omega))
        · rw [e4_z 200 _ (by omega)]
          exact (y4_z hu t ht).trans (mQ_v gq (by unfold mQ; omega))
        refine (d1_z j j17_z).trans ?_
        have m5_z : ∀ j, mS h193_z 1 j = mS g3x 1 j := fun j => mS_e (fun o q h => y5_z o q (by omega) (by omega)) j
        rw [m5_z j]
        unfold mW
        by_cases c1_z' : j = 1
        · rw [if_pos c1_z', c1_z']
          exact z4_z
        · rw [if_neg c1_z']
          by_cases c2_z' : j = 2
          · rw [if_pos c2_z', c2_z']
            exact z7b
          · rw [if_neg c2_z']
            by_cases c3_z : j = 5 + k.toNatClampNeg
            · rw [if_pos c3_z, c3_z, mS_s k4_z, mS_s k4_z, mS_n k4_z, show 4 * 0 + k.toNatClampNeg = k.toNatClampNeg by omega, Ed, Ee]
              exact z5_z
            · rw [if_neg c3_z]
              by_cases c4_z : j = 9 + k.toNatClampNeg
              · rw [if_pos c4_z, c4_z, mS_a k4_z, mS_a k4_z, show 4 * 0 + k.toNatClampNeg = k.toNatClampNeg by omega, Ea]
                exact z6_z
              · rw [if_neg c4_z]
                by_cases c5_z : j = 13 + k.toNatClampNeg
                · rw [if_pos c5_z, c5_z, mS_n k4_z]
                  exact z7a
                · rw [if_neg c5_z]
                  refine Eq.trans (mS_x (a := 1) (i := k.toNatClampNeg) (fun o q e e2_z e3_z => ?_) ?_ (by omega) j17_z c3_z c4_z c5_z) ((c1_z j j17_z).trans (gs j))
                  · exact (z9_z o q (bB_n e) (by omega) (by omega)).trans (p5_z o q (bB_n e) (by omega) (by omega))
                  · exact (z9_z 164 57 rfl (by omega) (by omega)).trans (p5_z 164 57 rfl (by omega) (by omega))
      · replace b191_z : (99999 : Int32).toInt < (bT tk m.toInt.toNat (s1_z + hn_z s2_z k hd_z)).toInt := b191_z
        replace hm_z := rn_iconst (w := (-1)) (am_cur_of (i := (144, 1, .iconst (-1), (0, 0, 0), 0)) (by decide +kernel)) (by decide) hm_z
        replace hm_z := rn_iret (am_cur_of (i := (145, 1, .ireturn, (0, 0, 0), 0)) (by decide +kernel)) hm_z
        obtain ⟨e201_z, e202_z⟩ := hm_z
        rw [e202_z]
        exact Or.inr (Or.inr (Or.inl ⟨⟨by omega, by omega, by omega, by omega⟩, z1_z, by omega, e201_z, gq⟩))
/-- what SECONDS change of bed 0 -/
def f0_z (g g' : am_H) : Prop := ∀ o q, nB o q = false → ¬ (o = 188 ∧ q = 0) → ¬ (o = 189 ∧ q = 0) → g' o q = g o q
theorem f0_r {g : am_H} : f0_z g g := fun _ _ _ _ _ => rfl
theorem f0_t {g g' g'' : am_H} (a : f0_z g g') (b : f0_z g' g'') : f0_z g g'' := fun o q e f h => (b o q e f h).trans (a o q e f h)
theorem f0_v {g g' : am_H} {o q : Nat} (a : f0_z g g') (e : nB o q = false) (h1_z : ¬ (o = 188 ∧ q = 0)) (h2_z : ¬ (o = 189 ∧ q = 0)) : rg_v g' o q = rg_v g o q := by
  unfold rg_v
  rw [a o q e h1_z h2_z]
theorem mf_l209 {r : Option Value} {g' : am_H} {m o : Int32} : ∀ (f j : Nat) (i t : Int32) (ls : am_L) (g : am_H), rg_v g 189 0 = t → am_get ls 0 = some (.ref 164) → am_get ls 1 = some (.int m) → am_get ls 2 = some (.int o) → am_get ls 3 = some (.int i) → i.toInt + j = m.toInt → t.toInt + j < 2147483647 → 0 ≤ t.toInt → rn f am_m209 22 ls [] g r g' → ∃ l2_z g2_z, am_get l2_z 0 = some (.ref 164) ∧ am_get l2_z 1 = some (.int m) ∧ rn f am_m209 32 l2_z [] g2_z r g' ∧ (rg_v g2_z 189 0).toInt = t.toInt + j ∧ f0_z g g2_z := by
  intro f
  induction f with
  | zero => intro j i t ls g E1 g0_z g1_z g2_z g3_z ij tj t0_z hm_z; exact absurd hm_z rn_0
  | succ f ih_z =>
    intro j i t ls g E1 g0_z g1_z g2_z g3_z ij tj t0_z hm_z
    have z1_z : (1 : Int32).toInt = 1 := by decide
    replace hm_z := rn_iload_n (am_cur_of (i := (37, 1, .iload_n 3, (0, 0, 0), 0)) (by decide +kernel)) g3_z hm_z
    replace hm_z := rn_iload_n (am_cur_of (i := (38, 1, .iload_n 1, (0, 0, 0), 0)) (by decide +kernel)) g1_z hm_z
    replace hm_z := rn_cmp (am_cur_of (i := (39, 3, .if_icmp .ge 16, (32, 0, 0), 0)) (by decide +kernel)) hm_z
    rcases hm_z with ⟨b203_z, hm_z⟩ | ⟨b203_z, hm_z⟩
    · replace b203_z : m.toInt ≤ i.toInt := b203_z
      obtain rfl : j = 0 := by omega
      exact ⟨_, _, g0_z, g1_z, hm_z, by rw [E1]; omega, f0_r⟩
    · replace b203_z : i.toInt < m.toInt := b203_z
      obtain ⟨j, rfl⟩ : ∃ j2_z, j = j2_z + 1 := ⟨j - 1, by omega⟩
      have ci_z := fk_c1 b203_z
      have ct := ab_iadd (x := t) (y := 1) (by omega) (by omega)
      replace hm_z := rn_aload_n (am_cur_of (i := (42, 1, .aload_n 0, (0, 0, 0), 0)) (by decide +kernel)) g0_z hm_z
      replace hm_z := rn_iconst (w := 0) (am_cur_of (i := (43, 1, .iconst 0, (0, 0, 0), 0)) (by decide +kernel)) (by decide) hm_z
      replace hm_z := rn_iload_n (am_cur_of (i := (44, 1, .iload_n 2, (0, 0, 0), 0)) (by decide +kernel)) g2_z hm_z
      replace hm_z := rn_iconst (w := 0) (am_cur_of (i := (45, 1, .iconst 0, (0, 0, 0), 0)) (by decide +kernel)) (by decide) hm_z
      replace hm_z := rn_callV (M' := am_m199) (o := 164) (ar := [.int 0, .int o, .int 0]) (rest := []) (L := lv_args 0 [.ref 164, .int 0, .int o, .int 0]) (am_cur_of (i := (46, 3, .invokevirtual 434, (199, 1828, 3), 0)) (by decide +kernel)) rfl rfl rfl rfl hm_z
      obtain ⟨r204_z, h205_z, q206_z, hm_z⟩ := hm_z
      have vo := rn_void rfl q206_z
      subst vo
      obtain ⟨a1_z, a2_z⟩ := mf_199_0 q206_z
      rw [E1] at a1_z
      have af : f0_z g h205_z := a2_z
      replace hm_z : rn _ _ _ _ [] _ _ _ := hm_z
      replace hm_z := rn_iinc (w := i + 1) (am_cur_of (i := (49, 3, .iinc 3 1, (0, 0, 0), 0)) (by decide +kernel)) g3_z rfl hm_z
      obtain ⟨_, s207_z, s208_z, g3_z, hm_z⟩ := hm_z
      replace g0_z := s207_z 0 _ (by decide) rfl g0_z
      replace g1_z := s207_z 1 _ (by decide) rfl g1_z
      replace g2_z := s207_z 2 _ (by decide) rfl g2_z
      clear s207_z s208_z
      replace hm_z := rn_gotoL (am_cur_of (i := (52, 3, .goto (-15), (22, 0, 0), 0)) (by decide +kernel)) hm_z
      obtain ⟨l2_z, gx, q0_z, q1_z, q2_z, q3_z, q4_z⟩ := ih_z j (i + 1) (t + 1) _ h205_z a1_z g0_z g1_z g2_z g3_z (by omega) (by omega) (by omega) hm_z
      exact ⟨l2_z, gx, q0_z, q1_z, rn_up (Nat.le_succ _) q2_z, by omega, f0_t af q4_z⟩
theorem mf_sm {a b : Int32} (h0_z : 0 ≤ a.toInt) (h9_z : a.toInt ≤ 99999) : (b.toInt ≤ 2147383647 → (a + b).toInt = a.toInt + b.toInt) := by
  intro h
  have hb_z := ab_32 b
  exact ab_iadd (by omega) (by omega)
theorem mf_n {o q : Nat} (h : (188 ≤ o ∧ o ≤ 194) ∨ (o = 164 ∧ q = 57)) : nB o q = false := by
  unfold nB
  split
  · exact se_bn (by omega)
  · omega
  · omega
  · rfl
theorem mS_y {g g' : am_H} (e : ∀ o q, ((188 ≤ o ∧ o ≤ 194) ∨ (o = 164 ∧ q = 57)) → ¬ (o = 188 ∧ q = 0) → ¬ (o = 189 ∧ q = 0) → g' o q = g o q) {j : Nat} (j2_z : 2 ≤ j) : mS g' 0 j = mS g 0 j := by
  have ev_z : ∀ o q, ((188 ≤ o ∧ o ≤ 194) ∨ (o = 164 ∧ q = 57)) → ¬ (o = 188 ∧ q = 0) → ¬ (o = 189 ∧ q = 0) → rg_v g' o q = rg_v g o q := by
    intro o q h1_z h2_z h3_z
    unfold rg_v
    rw [e o q h1_z h2_z h3_z]
  match j, j2_z with
  | 2, _ => exact ev_z 190 0 (by omega) (by omega) (by omega)
  | 3, _ => exact ev_z 194 0 (by omega) (by omega) (by omega)
  | 4, _ => exact ev_z 164 57 (by omega) (by omega) (by omega)
  | j + 5, _ =>
    show (if j < 4 then rg_v g' 191 (4 * 0 + j) else if j < 8 then rg_v g' 192 (4 * 0 + (j - 4)) else rg_v g' 193 (4 * 0 + (j - 8))) = (if j < 4 then rg_v g 191 (4 * 0 + j) else if j < 8 then rg_v g 192 (4 * 0 + (j - 4)) else rg_v g 193 (4 * 0 + (j - 8)))
    rw [ev_z 191 _ (by omega) (by omega) (by omega), ev_z 192 _ (by omega) (by omega) (by omega), ev_z 193 _ (by omega) (by omega) (by omega)]
theorem mS_4 {g g' : am_H} (e : ∀ o q, ((188 ≤ o ∧ o ≤ 194) ∨ (o = 164 ∧ q = 57)) → ¬ (o = 188 ∧ q = 0) → ¬ (o = 189 ∧ q = 0) → ¬ (o = 190 ∧ q = 0) → ¬ (o = 194 ∧ q = 0) → g' o q = g o q) {j : Nat} (j2_z : 4 ≤ j) : mS g' 0 j = mS g 0 j := by
  have ev_z : ∀ o q, ((191 ≤ o ∧ o ≤ 193) ∨ (o = 164 ∧ q = 57)) → rg_v g' o q = rg_v g o q := by
    intro o q h1_z
    unfold rg_v
    rw [e o q (by omega) (by omega) (by omega) (by omega) (by omega)]
  match j, j2_z with
  | 4, _ => exact ev_z 164 57 (by omega)
  | j + 5, _ =>
    show (if j < 4 then rg_v g' 191 (4 * 0 + j) else if j < 8 then rg_v g' 192 (4 * 0 + (j - 4)) else rg_v g' 193 (4 * 0 + (j - 8))) = (if j < 4 then rg_v g 191 (4 * 0 + j) else if j < 8 then rg_v g 192 (4 * 0 + (j - 4)) else rg_v g 193 (4 * 0 + (j - 8)))
    rw [ev_z 191 _ (by omega), ev_z 192 _ (by omega), ev_z 193 _ (by omega)]
theorem mf_209 {n : Nat} {r : Option Value} {g g' : am_H} {m o s1_z : Int32} (E1 : rg_v g 189 0 = s1_z) (s10_z : 0 ≤ s1_z.toInt) (s19_z : s1_z.toInt ≤ 99999) (u0_z : 0 ≤ (rg_v g 164 77).toInt) (u20_z : (rg_v g 164 77).toInt ≤ 20) (hm_z : rn n am_m209 0 (lv_args 0 [.ref 164, .int m, .int o]) [] g r g') : (¬ (1 ≤ m.toInt ∧ m.toInt ≤ 999 ∧ s1_z.toInt + m.toInt ≤ 99999) ∧ r = some (.int (-1)) ∧ (∀ o q, mQ o q → g' o q = g o q)) ∨ ((1 ≤ m.toInt ∧ m.toInt ≤ 999 ∧ s1_z.toInt + m.toInt ≤ 99999) ∧ (∃ v : Int32, r = some (.int v)) ∧ mpu g g g' ∧ ∀ j, 1 ≤ j → j < 17 → mS g' 0 j = wW (mS g 0) m j) := by
  have z0_z : (0 : Int32).toInt = 0 := by decide
  have z1_z : (1 : Int32).toInt = 1 := by decide
  have z999_z : (999 : Int32).toInt = 999 := by decide
  have z99999_z : (99999 : Int32).toInt = 99999 := by decide
  have g0_z : am_get (lv_args 0 [.ref 164, .int m, .int o]) 0 = some (.ref 164) := rfl
  have g1_z : am_get (lv_args 0 [.ref 164, .int m, .int o]) 1 = some (.int m) := rfl
  have g2_z : am_get (lv_args 0 [.ref 164, .int m, .int o]) 2 = some (.int o) := rfl
  replace hm_z := rn_aload_n (am_cur_of (i := (0, 1, .aload_n 0, (0, 0, 0), 0)) (by decide +kernel)) g0_z hm_z
  replace hm_z := rn_iconst (w := 0) (am_cur_of (i := (1, 1, .iconst 0, (0, 0, 0), 0)) (by decide +kernel)) (by decide) hm_z
  replace hm_z := rn_put (am_cur_of (i := (2, 3, .putfield 139, (12, 2, 1386), 0)) (by decide +kernel)) (by decide +kernel) hm_z
  replace hm_z := rn_iload_n (am_cur_of (i := (5, 1, .iload_n 1, (0, 0, 0), 0)) (by decide +kernel)) g1_z hm_z
  replace hm_z := rn_iconst (w := 1) (am_cur_of (i := (6, 1, .iconst 1, (0, 0, 0), 0)) (by decide +kernel)) (by decide) hm_z
  replace hm_z := rn_sipush (w := 999) (am_cur_of (i := (7, 3, .sipush 999, (0, 0, 0), 0)) (by decide +kernel)) (by decide) hm_z
  replace hm_z := rn_callS (M' := am_m162) (ar := [.int 999, .int 1, .int m]) (rest := []) (L := lv_args 0 [.int m, .int 1, .int 999]) (am_cur_of (i := (10, 3, .invokestatic 184, (162, 1681, 3), 0)) (by decide +kernel)) rfl rfl rfl rfl hm_z
  obtain ⟨r209_z, h210_z, q211_z, hm_z⟩ := hm_z
  rcases mf_162 q211_z with ⟨b212_z, rfl, y213_z⟩ | ⟨b214_z, b215_z, rfl, y216_z⟩ | ⟨b217_z, b218_z, rfl, y219_z⟩
  · replace y213_z := y213_z.symm
    subst y213_z
    replace b212_z : m.toInt < (1 : Int32).toInt := b212_z
    replace hm_z : rn _ _ _ _ [.int 0] _ _ _ := hm_z
    replace hm_z := rn_ifT (am_cur_of (i := (13, 3, .ifCond .eq 16, (16, 0, 0), 0)) (by decide +kernel)) (by decide) hm_z
    replace hm_z := rn_iconst (w := (-1)) (am_cur_of (i := (29, 1, .iconst (-1), (0, 0, 0), 0)) (by decide +kernel)) (by decide) hm_z
    replace hm_z := rn_iret (am_cur_of (i := (30, 1, .ireturn, (0, 0, 0), 0)) (by decide +kernel)) hm_z
    obtain ⟨e220_z, e221_z⟩ := hm_z
    have sm := mf_sm (a := s1_z) (b := m) s10_z s19_z
    exact Or.inl ⟨by omega, e220_z, fun o q e => by rw [e221_z]; exact up_ne (by unfold mQ at e; omega)⟩
  · replace y216_z := y216_z.symm
    subst y216_z
    replace b214_z : (1 : Int32).toInt ≤ m.toInt := b214_z
    replace b215_z : (999 : Int32).toInt < m.toInt := b215_z
    replace hm_z : rn _ _ _ _ [.int 0] _ _ _ := hm_z
    replace hm_z := rn_ifT (am_cur_of (i := (13, 3, .ifCond .eq 16, (16, 0, 0), 0)) (by decide +kernel)) (by decide) hm_z
    replace hm_z := rn_iconst (w := (-1)) (am_cur_of (i := (29, 1, .iconst (-1), (0, 0, 0), 0)) (by decide +kernel)) (by decide) hm_z
    replace hm_z := rn_iret (am_cur_of (i := (30, 1, .ireturn, (0, 0, 0), 0)) (by decide +kernel)) hm_z
    obtain ⟨e222_z, e223_z⟩ := hm_z
    have sm := mf_sm (a := s1_z) (b := m) s10_z s19_z
    exact Or.inl ⟨by omega, e222_z, fun o q e => by rw [e223_z]; exact up_ne (by unfold mQ at e; omega)⟩
  · replace y219_z := y219_z.symm
    subst y219_z
    replace b217_z : (1 : Int32).toInt ≤ m.toInt := b217_z
    replace b218_z : m.toInt ≤ (999 : Int32).toInt := b218_z
    replace hm_z : rn _ _ _ _ [.int 1] _ _ _ := hm_z
    replace hm_z := rn_ifF (am_cur_of (i := (13, 3, .ifCond .eq 16, (16, 0, 0), 0)) (by decide +kernel)) (by decide) hm_z
    replace hm_z := rn_aload_n (am_cur_of (i := (16, 1, .aload_n 0, (0, 0, 0), 0)) (by decide +kernel)) g0_z hm_z
    replace hm_z := rn_getR (x := 189) (am_cur_of (i := (17, 3, .getfield 88, (12, 51, 1435), 0)) (by decide +kernel)) (by decide +kernel) hm_z
    replace hm_z := rn_iconst (w := 0) (am_cur_of (i := (20, 1, .iconst 0, (0, 0, 0), 0)) (by decide +kernel)) (by decide) hm_z
    replace hm_z := rn_iaload (N := 4) (q := 0) (v := s1_z) (am_cur_of (i := (21, 1, .iaload, (0, 0, 0), 0)) (by decide +kernel)) (by decide +kernel) rfl ((rg_v_other (by omega)).trans (E1)) hm_z
    obtain ⟨p224_z, hm_z⟩ := hm_z
    replace hm_z := rn_iload_n (am_cur_of (i := (22, 1, .iload_n 1, (0, 0, 0), 0)) (by decide +kernel)) g1_z hm_z
    replace hm_z := rn_iadd (w := s1_z + m) (am_cur_of (i := (23, 1, .iadd, (0, 0, 0), 0)) (by decide +kernel)) rfl hm_z
    replace hm_z := rn_ldc (w := 99999) (am_cur_of (i := (24, 2, .ldc 177, (0, 0, 1656), 99999)) (by decide +kernel)) (by decide) hm_z
    replace hm_z := rn_cmp (am_cur_of (i := (26, 3, .if_icmp .le 5, (18, 0, 0), 0)) (by decide +kernel)) hm_z
    rcases hm_z with ⟨b225_z, hm_z⟩ | ⟨b225_z, hm_z⟩
    · replace b225_z : (s1_z + m).toInt ≤ (99999 : Int32).toInt := b225_z
      replace hm_z := rn_aload_n (am_cur_of (i := (31, 1, .aload_n 0, (0, 0, 0), 0)) (by decide +kernel)) g0_z hm_z
      replace hm_z := rn_callV (M' := am_m207) (o := 164) (ar := []) (rest := []) (L := lv_args 0 [.ref 164]) (am_cur_of (i := (32, 3, .invokevirtual 444, (207, 1859, 3), 0)) (by decide +kernel)) rfl rfl rfl rfl hm_z
      obtain ⟨r226_z, h227_z, q228_z, hm_z⟩ := hm_z
      have vo := rn_void rfl q228_z
      subst vo
      have eu : rg_v ((am_up g 164 2 (.int 0))) 164 77 = rg_v g 164 77 := rg_v_other (by omega)
      obtain ⟨y1_z, y2_z, y3_z, y4_z, y5_z⟩ := rm_207 eu u0_z u20_z q228_z
      have gs : ∀ j, mS ((am_up g 164 2 (.int 0))) 0 j = mS g 0 j := fun j => mS_e (fun o q h => up_ne (by omega)) j
      have x1_z : rg_v h227_z 189 0 = s1_z := by
        have e : rg_v h227_z 189 0 = rg_v g 189 0 := by
          unfold rg_v
          rw [y5_z 189 0 (by omega) (by omega), up_ne (by omega)]
        exact e.trans E1
      replace hm_z : rn _ _ _ _ [] _ _ _ := hm_z
      replace hm_z := rn_iconst (w := 0) (am_cur_of (i := (35, 1, .iconst 0, (0, 0, 0), 0)) (by decide +kernel)) (by decide) hm_z
      replace hm_z := rn_istore_n (am_cur_of (i := (36, 1, .istore_n 3, (0, 0, 0), 0)) (by decide +kernel)) hm_z
      obtain ⟨_, s229_z, s230_z, g3_z, hm_z⟩ := hm_z
      replace g0_z := s229_z 0 _ (by decide) rfl g0_z
      replace g1_z := s229_z 1 _ (by decide) rfl g1_z
      replace g2_z := s229_z 2 _ (by decide) rfl g2_z
      clear s229_z s230_z
      obtain ⟨l2_z, gx, q0_z, q1_z, hm2_z, q3_z, q4_z⟩ := mf_l209 _ m.toInt.toNat 0 s1_z _ h227_z x1_z g0_z g1_z g2_z g3_z (by rw [show (0 : Int32).toInt = 0 by decide]; omega) (by omega) s10_z hm_z
      have t1_z : rg_v gx 189 0 = s1_z + m := Int32.toInt_inj.mp (by rw [q3_z, ab_iadd (by omega) (by omega)]; omega)
      clear hm_z g0_z g1_z
      have g0_z := q0_z
      have g1_z := q1_z
      have hm_z := hm2_z
      replace hm_z := rn_aload_n (am_cur_of (i := (55, 1, .aload_n 0, (0, 0, 0), 0)) (by decide +kernel)) g0_z hm_z
      replace hm_z := rn_getR (x := 188) (am_cur_of (i := (56, 3, .getfield 85, (12, 50, 1434), 0)) (by decide +kernel)) (by decide +kernel) hm_z
      replace hm_z := rn_iconst (w := 0) (am_cur_of (i := (59, 1, .iconst 0, (0, 0, 0), 0)) (by decide +kernel)) (by decide) hm_z
      replace hm_z := rn_iaload (N := 4) (q := 0) (v := rg_v gx 188 0) (am_cur_of (i := (60, 1, .iaload, (0, 0, 0), 0)) (by decide +kernel)) (by decide +kernel) rfl rfl hm_z
      obtain ⟨p231_z, hm_z⟩ := hm_z
      replace hm_z := rn_iret (am_cur_of (i := (61, 1, .ireturn, (0, 0, 0), 0)) (by decide +kernel)) hm_z
      obtain ⟨e232_z, e233_z⟩ := hm_z
      have sm := mf_sm (a := s1_z) (b := m) s10_z s19_z
      have e4_z : ∀ o q, (o = 200 ∨ (o = 164 ∧ q = 77)) → rg_v gx o q = rg_v h227_z o q := by
        intro o q h
        unfold rg_v
        have n : nB o q = false := by
          rcases h with rfl | ⟨rfl, rfl⟩
          · rfl
          · rfl
        rw [show gx o q = gx o q from rfl, q4_z o q n (by omega) (by omega)]
      rw [e233_z]
      refine Or.inr ⟨⟨by omega, by omega, by omega⟩, ⟨_, e232_z⟩, ⟨?_, fun j hj_z => ?_, fun hu t ht => ?_, fun hu t ht => ?_⟩, fun j j1_z j17_z => ?_⟩
      · rw [e4_z 164 77 (by omega)]
        exact y1_z
      · rw [e4_z 200 _ (by omega)]
        exact (y2_z j hj_z).trans (gs j)
      · rw [e4_z 200 _ (by omega)]
        exact (y3_z hu t ht).trans (rg_v_other (by omega))
      · rw [e4_z 200 _ (by omega)]
        exact (y4_z hu t ht).trans (rg_v_other (by omega))
      have fin : ∀ o q, ((188 ≤ o ∧ o ≤ 194) ∨ (o = 164 ∧ q = 57)) → ¬ (o = 188 ∧ q = 0) → ¬ (o = 189 ∧ q = 0) → gx o q = g o q := fun o q h e1_z e2_z => (q4_z o q (mf_n h) e1_z e2_z).trans ((y5_z o q (by omega) (by omega)).trans (up_ne (by omega)))
      unfold wW
      by_cases c1_z : j = 1
      · rw [if_pos c1_z, c1_z]
        exact t1_z.trans (congrArg (fun q => q + m) E1.symm)
      · rw [if_neg c1_z]
        exact mS_y fin (by omega)
    · replace b225_z : (99999 : Int32).toInt < (s1_z + m).toInt := b225_z
      replace hm_z := rn_iconst (w := (-1)) (am_cur_of (i := (29, 1, .iconst (-1), (0, 0, 0), 0)) (by decide +kernel)) (by decide) hm_z
      replace hm_z := rn_iret (am_cur_of (i := (30, 1, .ireturn, (0, 0, 0), 0)) (by decide +kernel)) hm_z
      obtain ⟨e234_z, e235_z⟩ := hm_z
      have sm := mf_sm (a := s1_z) (b := m) s10_z s19_z
      exact Or.inl ⟨by omega, e234_z, fun o q e => by rw [e235_z]; exact up_ne (by unfold mQ at e; omega)⟩
theorem mf_l210 {r : Option Value} {g' : am_H} {m : Int32} : ∀ (f j : Nat) (i t : Int32) (ls : am_L) (g : am_H), rg_v g 189 0 = t → am_get ls 0 = some (.ref 164) → am_get ls 1 = some (.int m) → am_get ls 2 = some (.int i) → i.toInt + j = m.toInt → t.toInt + j < 2147483647 → 0 ≤ t.toInt → rn f am_m210 35 ls [] g r g' → ∃ l2_z g2_z, am_get l2_z 0 = some (.ref 164) ∧ am_get l2_z 1 = some (.int m) ∧ rn f am_m210 45 l2_z [] g2_z r g' ∧ (rg_v g2_z 189 0).toInt = t.toInt + j ∧ f0_z g g2_z := by
  intro f
  induction f with
  | zero => intro j i t ls g E1 g0_z g1_z g2_z ij tj t0_z hm_z; exact absurd hm_z rn_0
  | succ f ih_z =>
    intro j i t ls g E1 g0_z g1_z g2_z ij tj t0_z hm_z
    have z1_z : (1 : Int32).toInt = 1 := by decide
    replace hm_z := rn_iload_n (am_cur_of (i := (55, 1, .iload_n 2, (0, 0, 0), 0)) (by decide +kernel)) g2_z hm_z
    replace hm_z := rn_iload_n (am_cur_of (i := (56, 1, .iload_n 1, (0, 0, 0), 0)) (by decide +kernel)) g1_z hm_z
    replace hm_z := rn_cmp (am_cur_of (i := (57, 3, .if_icmp .ge 16, (45, 0, 0), 0)) (by decide +kernel)) hm_z
    rcases hm_z with ⟨b236_z, hm_z⟩ | ⟨b236_z, hm_z⟩
    · replace b236_z : m.toInt ≤ i.toInt := b236_z
      obtain rfl : j = 0 := by omega
      exact ⟨_, _, g0_z, g1_z, hm_z, by rw [E1]; omega, f0_r⟩
    · replace b236_z : i.toInt < m.toInt := b236_z
      obtain ⟨j, rfl⟩ : ∃ j2_z, j = j2_z + 1 := ⟨j - 1, by omega⟩
      have ci_z := fk_c1 b236_z
      have ct := ab_iadd (x := t) (y := 1) (by omega) (by omega)
      replace hm_z := rn_aload_n (am_cur_of (i := (60, 1, .aload_n 0, (0, 0, 0), 0)) (by decide +kernel)) g0_z hm_z
      replace hm_z := rn_iconst (w := 0) (am_cur_of (i := (61, 1, .iconst 0, (0, 0, 0), 0)) (by decide +kernel)) (by decide) hm_z
      replace hm_z := rn_iconst (w := 0) (am_cur_of (i := (62, 1, .iconst 0, (0, 0, 0), 0)) (by decide +kernel)) (by decide) hm_z
      replace hm_z := rn_iconst (w := 1) (am_cur_of (i := (63, 1, .iconst 1, (0, 0, 0), 0)) (by decide +kernel)) (by decide) hm_z
      replace hm_z := rn_callV (M' := am_m199) (o := 164) (ar := [.int 1, .int 0, .int 0]) (rest := []) (L := lv_args 0 [.ref 164, .int 0, .int 0, .int 1]) (am_cur_of (i := (64, 3, .invokevirtual 434, (199, 1828, 3), 0)) (by decide +kernel)) rfl rfl rfl rfl hm_z
      obtain ⟨r237_z, h238_z, q239_z, hm_z⟩ := hm_z
      have vo := rn_void rfl q239_z
      subst vo
      obtain ⟨a1_z, a2_z⟩ := mf_199_0 q239_z
      rw [E1] at a1_z
      have af : f0_z g h238_z := a2_z
      replace hm_z : rn _ _ _ _ [] _ _ _ := hm_z
      replace hm_z := rn_iinc (w := i + 1) (am_cur_of (i := (67, 3, .iinc 2 1, (0, 0, 0), 0)) (by decide +kernel)) g2_z rfl hm_z
      obtain ⟨_, s240_z, s241_z, g2_z, hm_z⟩ := hm_z
      replace g0_z := s240_z 0 _ (by decide) rfl g0_z
      replace g1_z := s240_z 1 _ (by decide) rfl g1_z
      clear s240_z s241_z
      replace hm_z := rn_gotoL (am_cur_of (i := (70, 3, .goto (-15), (35, 0, 0), 0)) (by decide +kernel)) hm_z
      obtain ⟨l2_z, gx, q0_z, q1_z, q2_z, q3_z, q4_z⟩ := ih_z j (i + 1) (t + 1) _ h238_z a1_z g0_z g1_z g2_z (by omega) (by omega) (by omega) hm_z
      exact ⟨l2_z, gx, q0_z, q1_z, rn_up (Nat.le_succ _) q2_z, by omega, f0_t af q4_z⟩
theorem mf_210 {n : Nat} {r : Option Value} {g g' : am_H} {m s1_z lf : Int32} (E1 : rg_v g 189 0 = s1_z) (s10_z : 0 ≤ s1_z.toInt) (s19_z : s1_z.toInt ≤ 99999) (u0_z : 0 ≤ (rg_v g 164 77).toInt) (u20_z : (rg_v g 164 77).toInt ≤ 20) (E3 : rg_v g 194 0 = lf) (l0_z : 0 ≤ lf.toInt) (l9_z : lf.toInt ≤ 99) (hm_z : rn n am_m210 0 (lv_args 0 [.ref 164, .int m]) [] g r g') : (¬ (¬ (rg_v g 168 2).toInt = 0 ∧ 1 ≤ m.toInt) ∧ r = some (.int (-1)) ∧ (∀ o q, mQ o q → g' o q = g o q)) ∨ ((¬ (rg_v g 168 2).toInt = 0 ∧ 1 ≤ m.toInt) ∧ ¬ (m.toInt ≤ lf.toInt) ∧ r = some (.int (-2)) ∧ (∀ o q, mQ o q → g' o q = g o q)) ∨ (((¬ (rg_v g 168 2).toInt = 0 ∧ 1 ≤ m.toInt) ∧ (m.toInt ≤ lf.toInt)) ∧ ¬ (s1_z.toInt + m.toInt ≤ 99999) ∧ r = some (.int (-1)) ∧ (∀ o q, mQ o q → g' o q = g o q)) ∨ ((¬ (rg_v g 168 2).toInt = 0 ∧ 1 ≤ m.toInt) ∧ (m.toInt ≤ lf.toInt) ∧ (s1_z.toInt + m.toInt ≤ 99999) ∧ (∃ v : Int32, r = some (.int v)) ∧ mpu g g g' ∧ ∀ j, 1 ≤ j → j < 17 → mS g' 0 j = pW (mS g 0) m j) := by
  have z0_z : (0 : Int32).toInt = 0 := by decide
  have z1_z : (1 : Int32).toInt = 1 := by decide
  have z99999_z : (99999 : Int32).toInt = 99999 := by decide
  have g0_z : am_get (lv_args 0 [.ref 164, .int m]) 0 = some (.ref 164) := rfl
  have g1_z : am_get (lv_args 0 [.ref 164, .int m]) 1 = some (.int m) := rfl
  replace hm_z := rn_aload_n (am_cur_of (i := (0, 1, .aload_n 0, (0, 0, 0), 0)) (by decide +kernel)) g0_z hm_z
  replace hm_z := rn_iconst (w := 0) (am_cur_of (i := (1, 1, .iconst 0, (0, 0, 0), 0)) (by decide +kernel)) (by decide) hm_z
  replace hm_z := rn_put (am_cur_of (i := (2, 3, .putfield 139, (12, 2, 1386), 0)) (by decide +kernel)) (by decide +kernel) hm_z
  replace hm_z := rn_aload_n (am_cur_of (i := (5, 1, .aload_n 0, (0, 0, 0), 0)) (by decide +kernel)) g0_z hm_z
  replace hm_z := rn_getR (x := 168) (am_cur_of (i := (6, 3, .getfield 24, (12, 23, 1407), 0)) (by decide +kernel)) (by decide +kernel) hm_z
  replace hm_z := rn_iconst (w := 2) (am_cur_of (i := (9, 1, .iconst 2, (0, 0, 0), 0)) (by decide +kernel)) (by decide) hm_z
  replace hm_z := rn_iaload (N := 12) (q := 2) (v := rg_v g 168 2) (am_cur_of (i := (10, 1, .iaload, (0, 0, 0), 0)) (by decide +kernel)) (by decide +kernel) rfl ((rg_v_other (by omega)).trans (rfl)) hm_z
  obtain ⟨p242_z, hm_z⟩ := hm_z
  replace hm_z := rn_if (am_cur_of (i := (11, 3, .ifCond .eq 8, (11, 0, 0), 0)) (by decide +kernel)) hm_z
  rcases hm_z with ⟨b243_z, hm_z⟩ | ⟨b243_z, hm_z⟩
  · replace b243_z : (rg_v g 168 2) = (0 : Int32) ∧ (rg_v g 168 2).toInt = (0 : Int32).toInt := b243_z
    replace hm_z := rn_iconst (w := (-1)) (am_cur_of (i := (19, 1, .iconst (-1), (0, 0, 0), 0)) (by decide +kernel)) (by decide) hm_z
    replace hm_z := rn_iret (am_cur_of (i := (20, 1, .ireturn, (0, 0, 0), 0)) (by decide +kernel)) hm_z
    obtain ⟨e244_z, e245_z⟩ := hm_z
    have sm := mf_sm (a := s1_z) (b := m) s10_z s19_z
    refine pm_l ?_ e244_z (fun o q e => by rw [e245_z]; exact up_ne (by unfold mQ at e; omega))
    omega
  · replace b243_z : ¬ (rg_v g 168 2) = (0 : Int32) ∧ ¬ (rg_v g 168 2).toInt = (0 : Int32).toInt := b243_z
    replace hm_z := rn_iload_n (am_cur_of (i := (14, 1, .iload_n 1, (0, 0, 0), 0)) (by decide +kernel)) g1_z hm_z
    replace hm_z := rn_iconst (w := 1) (am_cur_of (i := (15, 1, .iconst 1, (0, 0, 0), 0)) (by decide +kernel)) (by decide) hm_z
    replace hm_z := rn_cmp (am_cur_of (i := (16, 3, .if_icmp .ge 5, (13, 0, 0), 0)) (by decide +kernel)) hm_z
    rcases hm_z with ⟨b246_z, hm_z⟩ | ⟨b246_z, hm_z⟩
    · replace b246_z : (1 : Int32).toInt ≤ m.toInt := b246_z
      replace hm_z := rn_iload_n (am_cur_of (i := (21, 1, .iload_n 1, (0, 0, 0), 0)) (by decide +kernel)) g1_z hm_z
      replace hm_z := rn_aload_n (am_cur_of (i := (22, 1, .aload_n 0, (0, 0, 0), 0)) (by decide +kernel)) g0_z hm_z
      replace hm_z := rn_getR (x := 194) (am_cur_of (i := (23, 3, .getfield 103, (12, 56, 1440), 0)) (by decide +kernel)) (by decide +kernel) hm_z
      replace hm_z := rn_iconst (w := 0) (am_cur_of (i := (26, 1, .iconst 0, (0, 0, 0), 0)) (by decide +kernel)) (by decide) hm_z
      replace hm_z := rn_iaload (N := 4) (q := 0) (v := lf) (am_cur_of (i := (27, 1, .iaload, (0, 0, 0), 0)) (by decide +kernel)) (by decide +kernel) rfl ((rg_v_other (by omega)).trans (E3)) hm_z
      obtain ⟨p247_z, hm_z⟩ := hm_z
      replace hm_z := rn_cmp (am_cur_of (i := (28, 3, .if_icmp .le 6, (21, 0, 0), 0)) (by decide +kernel)) hm_z
      rcases hm_z with ⟨b248_z, hm_z⟩ | ⟨b248_z, hm_z⟩
      · replace b248_z : m.toInt ≤ lf.toInt := b248_z
        replace hm_z := rn_aload_n (am_cur_of (i := (34, 1, .aload_n 0, (0, 0, 0), 0)) (by decide +kernel)) g0_z hm_z
        replace hm_z := rn_getR (x := 189) (am_cur_of (i := (35, 3, .getfield 88, (12, 51, 1435), 0)) (by decide +kernel)) (by decide +kernel) hm_z
        replace hm_z := rn_iconst (w := 0) (am_cur_of (i := (38, 1, .iconst 0, (0, 0, 0), 0)) (by decide +kernel)) (by decide) hm_z
        replace hm_z := rn_iaload (N := 4) (q := 0) (v := s1_z) (am_cur_of (i := (39, 1, .iaload, (0, 0, 0), 0)) (by decide +kernel)) (by decide +kernel) rfl ((rg_v_other (by omega)).trans (E1)) hm_z
        obtain ⟨p249_z, hm_z⟩ := hm_z
        replace hm_z := rn_iload_n (am_cur_of (i := (40, 1, .iload_n 1, (0, 0, 0), 0)) (by decide +kernel)) g1_z hm_z
        replace hm_z := rn_iadd (w := s1_z + m) (am_cur_of (i := (41, 1, .iadd, (0, 0, 0), 0)) (by decide +kernel)) rfl hm_z
        replace hm_z := rn_ldc (w := 99999) (am_cur_of (i := (42, 2, .ldc 177, (0, 0, 1656), 99999)) (by decide +kernel)) (by decide) hm_z
        replace hm_z := rn_cmp (am_cur_of (i := (44, 3, .if_icmp .le 5, (31, 0, 0), 0)) (by decide +kernel)) hm_z
        rcases hm_z with ⟨b250_z, hm_z⟩ | ⟨b250_z, hm_z⟩
        · replace b250_z : (s1_z + m).toInt ≤ (99999 : Int32).toInt := b250_z
          replace hm_z := rn_aload_n (am_cur_of (i := (49, 1, .aload_n 0, (0, 0, 0), 0)) (by decide +kernel)) g0_z hm_z
          replace hm_z := rn_callV (M' := am_m207) (o := 164) (ar := []) (rest := []) (L := lv_args 0 [.ref 164]) (am_cur_of (i := (50, 3, .invokevirtual 444, (207, 1859, 3), 0)) (by decide +kernel)) rfl rfl rfl rfl hm_z
          obtain ⟨r251_z, h252_z, q253_z, hm_z⟩ := hm_z
          have vo := rn_void rfl q253_z
          subst vo
          have eu : rg_v ((am_up g 164 2 (.int 0))) 164 77 = rg_v g 164 77 := rg_v_other (by omega)
          obtain ⟨y1_z, y2_z, y3_z, y4_z, y5_z⟩ := rm_207 eu u0_z u20_z q253_z
          have gs : ∀ j, mS ((am_up g 164 2 (.int 0))) 0 j = mS g 0 j := fun j => mS_e (fun o q h => up_ne (by omega)) j
          have x1_z : rg_v h252_z 189 0 = s1_z := by
            have e : rg_v h252_z 189 0 = rg_v g 189 0 := by
              unfold rg_v
              rw [y5_z 189 0 (by omega) (by omega), up_ne (by omega)]
            exact e.trans E1
          replace hm_z : rn _ _ _ _ [] _ _ _ := hm_z
          replace hm_z := rn_iconst (w := 0) (am_cur_of (i := (53, 1, .iconst 0, (0, 0, 0), 0)) (by decide +kernel)) (by decide) hm_z
          replace hm_z := rn_istore_n (am_cur_of (i := (54, 1, .istore_n 2, (0, 0, 0), 0)) (by decide +kernel)) hm_z
          obtain ⟨_, s254_z, s255_z, g2_z, hm_z⟩ := hm_z
          replace g0_z := s254_z 0 _ (by decide) rfl g0_z
          replace g1_z := s254_z 1 _ (by decide) rfl g1_z
          clear s254_z s255_z
          obtain ⟨l2_z, gx, q0_z, q1_z, hm2_z, q3_z, q4_z⟩ := mf_l210 _ m.toInt.toNat 0 s1_z _ h252_z x1_z g0_z g1_z g2_z (by rw [show (0 : Int32).toInt = 0 by decide]; omega) (by omega) s10_z hm_z
          have t1_z : rg_v gx 189 0 = s1_z + m := Int32.toInt_inj.mp (by rw [q3_z, ab_iadd (by omega) (by omega)]; omega)
          clear hm_z g0_z g1_z
          have g0_z := q0_z
          have g1_z := q1_z
          have hm_z := hm2_z
          have t3_z : rg_v gx 194 0 = lf := by
            have e : rg_v gx 194 0 = rg_v g 194 0 := by
              unfold rg_v
              rw [q4_z 194 0 rfl (by omega) (by omega), y5_z 194 0 (by omega) (by omega), up_ne (by omega)]
            exact e.trans E3
          replace hm_z := rn_aload_n (am_cur_of (i := (73, 1, .aload_n 0, (0, 0, 0), 0)) (by decide +kernel)) g0_z hm_z
          replace hm_z := rn_getR (x := 194) (am_cur_of (i := (74, 3, .getfield 103, (12, 56, 1440), 0)) (by decide +kernel)) (by decide +kernel) hm_z
          replace hm_z := rn_iconst (w := 0) (am_cur_of (i := (77, 1, .iconst 0, (0, 0, 0), 0)) (by decide +kernel)) (by decide) hm_z
          replace hm_z := rn_dup2 (am_cur_of (i := (78, 1, .dup2, (0, 0, 0), 0)) (by decide +kernel)) hm_z
          replace hm_z := rn_iaload (N := 4) (q := 0) (v := lf) (am_cur_of (i := (79, 1, .iaload, (0, 0, 0), 0)) (by decide +kernel)) (by decide +kernel) rfl t3_z hm_z
          obtain ⟨p256_z, hm_z⟩ := hm_z
          replace hm_z := rn_iload_n (am_cur_of (i := (80, 1, .iload_n 1, (0, 0, 0), 0)) (by decide +kernel)) g1_z hm_z
          replace hm_z := rn_isub (w := lf - m) (am_cur_of (i := (81, 1, .isub, (0, 0, 0), 0)) (by decide +kernel)) rfl hm_z
          replace hm_z := rn_iastore (N := 4) (q := 0) (am_cur_of (i := (82, 1, .iastore, (0, 0, 0), 0)) (by decide +kernel)) (by decide +kernel) rfl hm_z
          obtain ⟨p257_z, hm_z⟩ := hm_z
          replace hm_z := rn_aload_n (am_cur_of (i := (83, 1, .aload_n 0, (0, 0, 0), 0)) (by decide +kernel)) g0_z hm_z
          replace hm_z := rn_getR (x := 190) (am_cur_of (i := (84, 3, .getfield 91, (12, 52, 1436), 0)) (by decide +kernel)) (by decide +kernel) hm_z
          replace hm_z := rn_iconst (w := 0) (am_cur_of (i := (87, 1, .iconst 0, (0, 0, 0), 0)) (by decide +kernel)) (by decide) hm_z
          replace hm_z := rn_bipush (w := (-2)) (am_cur_of (i := (88, 2, .bipush (-2), (0, 0, 0), 0)) (by decide +kernel)) (by decide) hm_z
          replace hm_z := rn_iastore (N := 4) (q := 0) (am_cur_of (i := (90, 1, .iastore, (0, 0, 0), 0)) (by decide +kernel)) (by decide +kernel) rfl hm_z
          obtain ⟨p258_z, hm_z⟩ := hm_z
          replace hm_z := rn_aload_n (am_cur_of (i := (91, 1, .aload_n 0, (0, 0, 0), 0)) (by decide +kernel)) g0_z hm_z
          replace hm_z := rn_getR (x := 188) (am_cur_of (i := (92, 3, .getfield 85, (12, 50, 1434), 0)) (by decide +kernel)) (by decide +kernel) hm_z
          replace hm_z := rn_iconst (w := 0) (am_cur_of (i := (95, 1, .iconst 0, (0, 0, 0), 0)) (by decide +kernel)) (by decide) hm_z
          replace hm_z := rn_iaload (N := 4) (q := 0) (v := rg_v gx 188 0) (am_cur_of (i := (96, 1, .iaload, (0, 0, 0), 0)) (by decide +kernel)) (by decide +kernel) rfl ((rg_v_other (by omega)).trans ((rg_v_other (by omega)).trans (rfl))) hm_z
          obtain ⟨p259_z, hm_z⟩ := hm_z
          replace hm_z := rn_iret (am_cur_of (i := (97, 1, .ireturn, (0, 0, 0), 0)) (by decide +kernel)) hm_z
          obtain ⟨e260_z, e261_z⟩ := hm_z
          have sm := mf_sm (a := s1_z) (b := m) s10_z s19_z
          have e4_z : ∀ o q, (o = 200 ∨ (o = 164 ∧ q = 77)) → rg_v (am_up (am_up gx 194 0 (.int (lf - m))) 190 0 (.int (-2))) o q = rg_v h252_z o q := by
            intro o q h
            unfold rg_v
            have n : nB o q = false := by
              rcases h with rfl | ⟨rfl, rfl⟩
              · rfl
              · rfl
            rw [show (am_up (am_up gx 194 0 (.int (lf - m))) 190 0 (.int (-2))) o q = gx o q from (up_ne (by omega)).trans ((up_ne (by omega)).trans (rfl)), q4_z o q n (by omega) (by omega)]
          rw [e261_z]
          refine Or.inr (Or.inr (Or.inr ⟨⟨by omega, by omega⟩, by omega, by omega, ⟨_, e260_z⟩, ⟨?_, fun j hj_z => ?_, fun hu t ht => ?_, fun hu t ht => ?_⟩, fun j j1_z j17_z => ?_⟩))
          · rw [e4_z 164 77 (by omega)]
            exact y1_z
          · rw [e4_z 200 _ (by omega)]
            exact (y2_z j hj_z).trans (gs j)
          · rw [e4_z 200 _ (by omega)]
            exact (y3_z hu t ht).trans (rg_v_other (by omega))
          · rw [e4_z 200 _ (by omega)]
            exact (y4_z hu t ht).trans (rg_v_other (by omega))
          have fin : ∀ o q, ((188 ≤ o ∧ o ≤ 194) ∨ (o = 164 ∧ q = 57)) → ¬ (o = 188 ∧ q = 0) → ¬ (o = 189 ∧ q = 0) → gx o q = g o q := fun o q h e1_z e2_z => (q4_z o q (mf_n h) e1_z e2_z).trans ((y5_z o q (by omega) (by omega)).trans (up_ne (by omega)))
          unfold pW
          by_cases c1_z : j = 1
          · rw [if_pos c1_z, c1_z]
            exact Eq.trans (((rg_v_other (by omega)).trans ((rg_v_other (by omega)).trans (t1_z)))) (congrArg (fun q => q + m) E1.symm)
          · rw [if_neg c1_z]
            by_cases c2_z : j = 2
            · rw [if_pos c2_z, c2_z]
              exact (show rg_v (am_up (am_up gx 194 0 (.int (lf - m))) 190 0 (.int (-2))) 190 0 = (-2) from rg_v_self)
            · rw [if_neg c2_z]
              by_cases c3_z : j = 3
              · rw [if_pos c3_z, c3_z]
                exact Eq.trans (show rg_v (am_up (am_up gx 194 0 (.int (lf - m))) 190 0 (.int (-2))) 194 0 = lf - m from ((rg_v_other (by omega)).trans (rg_v_self))) (congrArg (fun q => q - m) E3.symm)
              · rw [if_neg c3_z]
                refine mS_4 (fun o q h e1_z e2_z e3_z e4_z' => (up_ne (by omega)).trans ((up_ne (by omega)).trans (fin o q h e1_z e2_z))) (by omega)
        · replace b250_z : (99999 : Int32).toInt < (s1_z + m).toInt := b250_z
          replace hm_z := rn_iconst (w := (-1)) (am_cur_of (i := (47, 1, .iconst (-1), (0, 0, 0), 0)) (by decide +kernel)) (by decide) hm_z
          replace hm_z := rn_iret (am_cur_of (i := (48, 1, .ireturn, (0, 0, 0), 0)) (by decide +kernel)) hm_z
          obtain ⟨e262_z, e263_z⟩ := hm_z
          have sm := mf_sm (a := s1_z) (b := m) s10_z s19_z
          refine pm_l ?_ e262_z (fun o q e => by rw [e263_z]; exact up_ne (by unfold mQ at e; omega))
          omega
      · replace b248_z : lf.toInt < m.toInt := b248_z
        replace hm_z := rn_bipush (w := (-2)) (am_cur_of (i := (31, 2, .bipush (-2), (0, 0, 0), 0)) (by decide +kernel)) (by decide) hm_z
        replace hm_z := rn_iret (am_cur_of (i := (33, 1, .ireturn, (0, 0, 0), 0)) (by decide +kernel)) hm_z
        obtain ⟨e264_z, e265_z⟩ := hm_z
        exact Or.inr (Or.inl ⟨⟨by omega, by omega⟩, by omega, e264_z, fun o q e => by rw [e265_z]; exact up_ne (by unfold mQ at e; omega)⟩)
    · replace b246_z : m.toInt < (1 : Int32).toInt := b246_z
      replace hm_z := rn_iconst (w := (-1)) (am_cur_of (i := (19, 1, .iconst (-1), (0, 0, 0), 0)) (by decide +kernel)) (by decide) hm_z
      replace hm_z := rn_iret (am_cur_of (i := (20, 1, .ireturn, (0, 0, 0), 0)) (by decide +kernel)) hm_z
      obtain ⟨e266_z, e267_z⟩ := hm_z
      have sm := mf_sm (a := s1_z) (b := m) s10_z s19_z
      refine pm_l ?_ e266_z (fun o q e => by rw [e267_z]; exact up_ne (by unfold mQ at e; omega))
      omega
theorem mf_202 {n : Nat} {h h' : am_H} {r : Option Value} {x : Int32} {y : Int32}  (hc_z : rn n am_m202 0 (lv_args 0 [.int x, .int y]) [] h r h') : ((¬ ((x >>> (y &&& 31)) &&& 1) = (1 : Int32) ∧ ¬ ((x >>> (y &&& 31)) &&& 1).toInt = (1 : Int32).toInt) ∧ r = some (.int 0) ∧ h' = h) ∨ ((((x >>> (y &&& 31)) &&& 1) = (1 : Int32) ∧ ((x >>> (y &&& 31)) &&& 1).toInt = (1 : Int32).toInt) ∧ r = some (.int 1) ∧ h' = h) := by
  have g0_z : am_get (lv_args 0 [.int x, .int y]) 0 = some (.int x) := rfl
  have g1_z : am_get (lv_args 0 [.int x, .int y]) 1 = some (.int y) := rfl
  replace hc_z := rn_iload_n (am_cur_of (i := (0, 1, .iload_n 0, (0, 0, 0), 0)) (by decide +kernel)) g0_z hc_z
  replace hc_z := rn_iload_n (am_cur_of (i := (1, 1, .iload_n 1, (0, 0, 0), 0)) (by decide +kernel)) g1_z hc_z
  replace hc_z := rn_ishr (w := x >>> (y &&& 31)) (am_cur_of (i := (2, 1, .ishr, (0, 0, 0), 0)) (by decide +kernel)) rfl hc_z
  replace hc_z := rn_iconst (w := 1) (am_cur_of (i := (3, 1, .iconst 1, (0, 0, 0), 0)) (by decide +kernel)) (by decide) hc_z
  replace hc_z := rn_iand (w := (x >>> (y &&& 31)) &&& 1) (am_cur_of (i := (4, 1, .iand, (0, 0, 0), 0)) (by decide +kernel)) rfl hc_z
  replace hc_z := rn_iconst (w := 1) (am_cur_of (i := (5, 1, .iconst 1, (0, 0, 0), 0)) (by decide +kernel)) (by decide) hc_z
  replace hc_z := rn_cmp (am_cur_of (i := (6, 3, .if_icmp .ne 7, (9, 0, 0), 0)) (by decide +kernel)) hc_z
  rcases hc_z with ⟨b268_z, hc_z⟩ | ⟨b268_z, hc_z⟩
  · replace b268_z : ¬ ((x >>> (y &&& 31)) &&& 1) = (1 : Int32) ∧ ¬ ((x >>> (y &&& 31)) &&& 1).toInt = (1 : Int32).toInt := b268_z
    replace hc_z := rn_iconst (w := 0) (am_cur_of (i := (13, 1, .iconst 0, (0, 0, 0), 0)) (by decide +kernel)) (by decide) hc_z
    replace hc_z := rn_iret (am_cur_of (i := (14, 1, .ireturn, (0, 0, 0), 0)) (by decide +kernel)) hc_z
    obtain ⟨e269_z, e270_z⟩ := hc_z
    exact Or.inl ⟨b268_z, e269_z, e270_z⟩
  · replace b268_z : ((x >>> (y &&& 31)) &&& 1) = (1 : Int32) ∧ ((x >>> (y &&& 31)) &&& 1).toInt = (1 : Int32).toInt := b268_z
    replace hc_z := rn_iconst (w := 1) (am_cur_of (i := (9, 1, .iconst 1, (0, 0, 0), 0)) (by decide +kernel)) (by decide) hc_z
    replace hc_z := rn_goto (am_cur_of (i := (10, 3, .goto 4, (10, 0, 0), 0)) (by decide +kernel)) hc_z
    replace hc_z := rn_iret (am_cur_of (i := (14, 1, .ireturn, (0, 0, 0), 0)) (by decide +kernel)) hc_z
    obtain ⟨e271_z, e272_z⟩ := hc_z
    exact Or.inr (⟨b268_z, e271_z, e272_z⟩)
theorem mf_bit {x : Int32} : (x &&& 1).toInt = 0 ∨ (x &&& 1).toInt = 1 := by
  have h1_z : (x &&& 1).toBitVec.toNat ≤ 1 := by
    rw [Int32.toBitVec_and, BitVec.toNat_and]
    exact Nat.and_le_right
  have h2_z : (x &&& 1).toInt = (x &&& 1).toBitVec.toInt := rfl
  rw [h2_z, BitVec.toInt_eq_toNat_of_lt (by omega)]
  omega
theorem mS_57 {g g' : am_H} (e : ∀ o q, (188 ≤ o ∧ o ≤ 194) → g' o q = g o q) {j : Nat} (j2_z : ¬ j = 4) : mS g' 0 j = mS g 0 j := by
  have ev_z : ∀ o q, (188 ≤ o ∧ o ≤ 194) → rg_v g' o q = rg_v g o q := by
    intro o q h1_z
    unfold rg_v
    rw [e o q h1_z]
  match j, j2_z with
  | 0, _ => exact ev_z 188 0 (by omega)
  | 1, _ => exact ev_z 189 0 (by omega)
  | 2, _ => exact ev_z 190 0 (by omega)
  | 3, _ => exact ev_z 194 0 (by omega)
  | 4, h => exact absurd rfl h
  | j + 5, _ =>
    show (if j < 4 then rg_v g' 191 (4 * 0 + j) else if j < 8 then rg_v g' 192 (4 * 0 + (j - 4)) else rg_v g' 193 (4 * 0 + (j - 8))) = (if j < 4 then rg_v g 191 (4 * 0 + j) else if j < 8 then rg_v g 192 (4 * 0 + (j - 4)) else rg_v g 193 (4 * 0 + (j - 8)))
    rw [ev_z 191 _ (by omega), ev_z 192 _ (by omega), ev_z 193 _ (by omega)]
theorem mf_211 {n : Nat} {r : Option Value} {g g' : am_H} {m : Int32} (u0_z : 0 ≤ (rg_v g 164 77).toInt) (u20_z : (rg_v g 164 77).toInt ≤ 20) (hm_z : rn n am_m211 0 (lv_args 0 [.ref 164, .int m]) [] g r g') : (¬ (0 ≤ m.toInt ∧ m.toInt < (rg_v g 164 14).toInt ∧ (((rg_v g 164 57) >>> (m &&& 31)) &&& 1).toInt = 0) ∧ r = some (.int (-1)) ∧ (∀ o q, mQ o q → g' o q = g o q)) ∨ ((0 ≤ m.toInt ∧ m.toInt < (rg_v g 164 14).toInt ∧ (((rg_v g 164 57) >>> (m &&& 31)) &&& 1).toInt = 0) ∧ r = some (.int (if m = rg_v g 164 58 then 1 else 0)) ∧ mpu g g g' ∧ ∀ j, 0 ≤ j → j < 17 → mS g' 0 j = tW (mS g 0) m j) := by
  have z0_z : (0 : Int32).toInt = 0 := by decide
  have z1_z : (1 : Int32).toInt = 1 := by decide
  have g0_z : am_get (lv_args 0 [.ref 164, .int m]) 0 = some (.ref 164) := rfl
  have g1_z : am_get (lv_args 0 [.ref 164, .int m]) 1 = some (.int m) := rfl
  replace hm_z := rn_aload_n (am_cur_of (i := (0, 1, .aload_n 0, (0, 0, 0), 0)) (by decide +kernel)) g0_z hm_z
  replace hm_z := rn_iconst (w := 0) (am_cur_of (i := (1, 1, .iconst 0, (0, 0, 0), 0)) (by decide +kernel)) (by decide) hm_z
  replace hm_z := rn_put (am_cur_of (i := (2, 3, .putfield 139, (12, 2, 1386), 0)) (by decide +kernel)) (by decide +kernel) hm_z
  replace hm_z := rn_iload_n (am_cur_of (i := (5, 1, .iload_n 1, (0, 0, 0), 0)) (by decide +kernel)) g1_z hm_z
  replace hm_z := rn_if (am_cur_of (i := (6, 3, .ifCond .lt 22, (14, 0, 0), 0)) (by decide +kernel)) hm_z
  rcases hm_z with ⟨b273_z, hm_z⟩ | ⟨b273_z, hm_z⟩
  · replace b273_z : m.toInt < (0 : Int32).toInt := b273_z
    replace hm_z := rn_iconst (w := (-1)) (am_cur_of (i := (28, 1, .iconst (-1), (0, 0, 0), 0)) (by decide +kernel)) (by decide) hm_z
    replace hm_z := rn_iret (am_cur_of (i := (29, 1, .ireturn, (0, 0, 0), 0)) (by decide +kernel)) hm_z
    obtain ⟨e274_z, e275_z⟩ := hm_z
    have ab := mf_bit (x := rg_v g 164 57 >>> (m &&& 31))
    exact Or.inl ⟨fun q => by omega, e274_z, fun o q e => by rw [e275_z]; exact up_ne (by unfold mQ at e; omega)⟩
  · replace b273_z : (0 : Int32).toInt ≤ m.toInt := b273_z
    replace hm_z := rn_iload_n (am_cur_of (i := (9, 1, .iload_n 1, (0, 0, 0), 0)) (by decide +kernel)) g1_z hm_z
    replace hm_z := rn_aload_n (am_cur_of (i := (10, 1, .aload_n 0, (0, 0, 0), 0)) (by decide +kernel)) g0_z hm_z
    replace hm_z := rn_getI (v := rg_v g 164 14) (am_cur_of (i := (11, 3, .getfield 225, (12, 14, 1398), 0)) (by decide +kernel)) (by decide +kernel) ((rg_v_other (by omega)).trans (rfl)) hm_z
    replace hm_z := rn_cmp (am_cur_of (i := (14, 3, .if_icmp .ge 14, (14, 0, 0), 0)) (by decide +kernel)) hm_z
    rcases hm_z with ⟨b276_z, hm_z⟩ | ⟨b276_z, hm_z⟩
    · replace b276_z : (rg_v g 164 14).toInt ≤ m.toInt := b276_z
      replace hm_z := rn_iconst (w := (-1)) (am_cur_of (i := (28, 1, .iconst (-1), (0, 0, 0), 0)) (by decide +kernel)) (by decide) hm_z
      replace hm_z := rn_iret (am_cur_of (i := (29, 1, .ireturn, (0, 0, 0), 0)) (by decide +kernel)) hm_z
      obtain ⟨e277_z, e278_z⟩ := hm_z
      have ab := mf_bit (x := rg_v g 164 57 >>> (m &&& 31))
      exact Or.inl ⟨fun q => by omega, e277_z, fun o q e => by rw [e278_z]; exact up_ne (by unfold mQ at e; omega)⟩
    · replace b276_z : m.toInt < (rg_v g 164 14).toInt := b276_z
      replace hm_z := rn_aload_n (am_cur_of (i := (17, 1, .aload_n 0, (0, 0, 0), 0)) (by decide +kernel)) g0_z hm_z
      replace hm_z := rn_getI (v := rg_v g 164 57) (am_cur_of (i := (18, 3, .getfield 349, (12, 57, 1441), 0)) (by decide +kernel)) (by decide +kernel) ((rg_v_other (by omega)).trans (rfl)) hm_z
      replace hm_z := rn_iload_n (am_cur_of (i := (21, 1, .iload_n 1, (0, 0, 0), 0)) (by decide +kernel)) g1_z hm_z
      replace hm_z := rn_callS (M' := am_m202) (ar := [.int m, .int (rg_v g 164 57)]) (rest := []) (L := lv_args 0 [.int (rg_v g 164 57), .int m]) (am_cur_of (i := (22, 3, .invokestatic 400, (202, 1840, 3), 0)) (by decide +kernel)) rfl rfl rfl rfl hm_z
      obtain ⟨r279_z, h280_z, q281_z, hm_z⟩ := hm_z
      rcases mf_202 q281_z with ⟨b282_z, rfl, y283_z⟩ | ⟨b284_z, rfl, y285_z⟩
      · replace y283_z := y283_z.symm
        subst y283_z
        replace b282_z : ¬ (((rg_v g 164 57) >>> (m &&& 31)) &&& 1) = (1 : Int32) ∧ ¬ (((rg_v g 164 57) >>> (m &&& 31)) &&& 1).toInt = (1 : Int32).toInt := b282_z
        replace hm_z : rn _ _ _ _ [.int 0] _ _ _ := hm_z
        replace hm_z := rn_ifT (am_cur_of (i := (25, 3, .ifCond .eq 5, (16, 0, 0), 0)) (by decide +kernel)) (by decide) hm_z
        replace hm_z := rn_aload_n (am_cur_of (i := (30, 1, .aload_n 0, (0, 0, 0), 0)) (by decide +kernel)) g0_z hm_z
        replace hm_z := rn_callV (M' := am_m207) (o := 164) (ar := []) (rest := []) (L := lv_args 0 [.ref 164]) (am_cur_of (i := (31, 3, .invokevirtual 444, (207, 1859, 3), 0)) (by decide +kernel)) rfl rfl rfl rfl hm_z
        obtain ⟨r286_z, h287_z, q288_z, hm_z⟩ := hm_z
        have vo := rn_void rfl q288_z
        subst vo
        have eu : rg_v ((am_up g 164 2 (.int 0))) 164 77 = rg_v g 164 77 := rg_v_other (by omega)
        obtain ⟨y1_z, y2_z, y3_z, y4_z, y5_z⟩ := rm_207 eu u0_z u20_z q288_z
        have gs : ∀ j, mS ((am_up g 164 2 (.int 0))) 0 j = mS g 0 j := fun j => mS_e (fun o q h => up_ne (by omega)) j
        have x57_z : rg_v h287_z 164 57 = rg_v g 164 57 := by
          unfold rg_v
          rw [y5_z 164 57 (by omega) (by omega), up_ne (by omega)]
        have x58_z : rg_v h287_z 164 58 = rg_v g 164 58 := by
          unfold rg_v
          rw [y5_z 164 58 (by omega) (by omega), up_ne (by omega)]
        replace hm_z : rn _ _ _ _ [] _ _ _ := hm_z
        replace hm_z := rn_aload_n (am_cur_of (i := (34, 1, .aload_n 0, (0, 0, 0), 0)) (by decide +kernel)) g0_z hm_z
        replace hm_z := rn_dup (am_cur_of (i := (35, 1, .dup, (0, 0, 0), 0)) (by decide +kernel)) hm_z
        replace hm_z := rn_getI (v := (rg_v g 164 57)) (am_cur_of (i := (36, 3, .getfield 349, (12, 57, 1441), 0)) (by decide +kernel)) (by decide +kernel) x57_z hm_z
        replace hm_z := rn_iconst (w := 1) (am_cur_of (i := (39, 1, .iconst 1, (0, 0, 0), 0)) (by decide +kernel)) (by decide) hm_z
        replace hm_z := rn_iload_n (am_cur_of (i := (40, 1, .iload_n 1, (0, 0, 0), 0)) (by decide +kernel)) g1_z hm_z
        replace hm_z := rn_ishl (w := (1 : Int32) <<< (m &&& 31)) (am_cur_of (i := (41, 1, .ishl, (0, 0, 0), 0)) (by decide +kernel)) rfl hm_z
        replace hm_z := rn_ior (w := (rg_v g 164 57) ||| ((1 : Int32) <<< (m &&& 31))) (am_cur_of (i := (42, 1, .ior, (0, 0, 0), 0)) (by decide +kernel)) rfl hm_z
        replace hm_z := rn_put (am_cur_of (i := (43, 3, .putfield 349, (12, 57, 1441), 0)) (by decide +kernel)) (by decide +kernel) hm_z
        replace hm_z := rn_iload_n (am_cur_of (i := (46, 1, .iload_n 1, (0, 0, 0), 0)) (by decide +kernel)) g1_z hm_z
        replace hm_z := rn_aload_n (am_cur_of (i := (47, 1, .aload_n 0, (0, 0, 0), 0)) (by decide +kernel)) g0_z hm_z
        replace hm_z := rn_getI (v := (rg_v g 164 58)) (am_cur_of (i := (48, 3, .getfield 362, (12, 58, 1442), 0)) (by decide +kernel)) (by decide +kernel) ((rg_v_other (by omega)).trans (x58_z)) hm_z
        replace hm_z := rn_cmp (am_cur_of (i := (51, 3, .if_icmp .ne 7, (32, 0, 0), 0)) (by decide +kernel)) hm_z
        rcases hm_z with ⟨b289_z, hm_z⟩ | ⟨b289_z, hm_z⟩
        · replace b289_z : ¬ m = (rg_v g 164 58) ∧ ¬ m.toInt = (rg_v g 164 58).toInt := b289_z
          replace hm_z := rn_iconst (w := 0) (am_cur_of (i := (58, 1, .iconst 0, (0, 0, 0), 0)) (by decide +kernel)) (by decide) hm_z
          replace hm_z := rn_iret (am_cur_of (i := (59, 1, .ireturn, (0, 0, 0), 0)) (by decide +kernel)) hm_z
          obtain ⟨e290_z, e291_z⟩ := hm_z
          have ab := mf_bit (x := rg_v g 164 57 >>> (m &&& 31))
          rw [e291_z]
          refine Or.inr ⟨⟨by omega, by omega, by omega⟩, e290_z.trans (congrArg (fun q => some (Value.int q)) (if_neg b289_z.1).symm), ⟨?_, fun j hj_z => ?_, fun hu t ht => ?_, fun hu t ht => ?_⟩, fun j j1_z j17_z => ?_⟩
          · exact (congrArg Int32.toInt (rg_v_other (by omega))).trans y1_z
          · exact (rg_v_other (by omega)).trans ((y2_z j hj_z).trans (gs j))
          · exact (rg_v_other (by omega)).trans ((y3_z hu t ht).trans (rg_v_other (by omega)))
          · exact (rg_v_other (by omega)).trans ((y4_z hu t ht).trans (rg_v_other (by omega)))
          unfold tW
          by_cases c1_z : j = 4
          · rw [if_pos c1_z, c1_z]
            refine Eq.trans (show _ = rg_v (am_up h287_z 164 57 (.int ((rg_v g 164 57) ||| ((1 : Int32) <<< (m &&& 31))))) 164 57 from rfl) (rg_v_self.trans rfl)
          · rw [if_neg c1_z]
            exact mS_57 (fun o q h => (up_ne (by omega)).trans ((y5_z o q (by omega) (by omega)).trans (up_ne (by omega)))) c1_z
        · replace b289_z : m = (rg_v g 164 58) ∧ m.toInt = (rg_v g 164 58).toInt := b289_z
          replace hm_z := rn_iconst (w := 1) (am_cur_of (i := (54, 1, .iconst 1, (0, 0, 0), 0)) (by decide +kernel)) (by decide) hm_z
          replace hm_z := rn_goto (am_cur_of (i := (55, 3, .goto 4, (33, 0, 0), 0)) (by decide +kernel)) hm_z
          replace hm_z := rn_iret (am_cur_of (i := (59, 1, .ireturn, (0, 0, 0), 0)) (by decide +kernel)) hm_z
          obtain ⟨e292_z, e293_z⟩ := hm_z
          have ab := mf_bit (x := rg_v g 164 57 >>> (m &&& 31))
          rw [e293_z]
          refine Or.inr ⟨⟨by omega, by omega, by omega⟩, e292_z.trans (congrArg (fun q => some (Value.int q)) (if_pos b289_z.1).symm), ⟨?_, fun j hj_z => ?_, fun hu t ht => ?_, fun hu t ht => ?_⟩, fun j j1_z j17_z => ?_⟩
          · exact (congrArg Int32.toInt (rg_v_other (by omega))).trans y1_z
          · exact (rg_v_other (by omega)).trans ((y2_z j hj_z).trans (gs j))
          · exact (rg_v_other (by omega)).trans ((y3_z hu t ht).trans (rg_v_other (by omega)))
          · exact (rg_v_other (by omega)).trans ((y4_z hu t ht).trans (rg_v_other (by omega)))
          unfold tW
          by_cases c1_z : j = 4
          · rw [if_pos c1_z, c1_z]
            refine Eq.trans (show _ = rg_v (am_up h287_z 164 57 (.int ((rg_v g 164 57) ||| ((1 : Int32) <<< (m &&& 31))))) 164 57 from rfl) (rg_v_self.trans rfl)
          · rw [if_neg c1_z]
            exact mS_57 (fun o q h => (up_ne (by omega)).trans ((y5_z o q (by omega) (by omega)).trans (up_ne (by omega)))) c1_z
      · replace y285_z := y285_z.symm
        subst y285_z
        replace b284_z : (((rg_v g 164 57) >>> (m &&& 31)) &&& 1) = (1 : Int32) ∧ (((rg_v g 164 57) >>> (m &&& 31)) &&& 1).toInt = (1 : Int32).toInt := b284_z
        replace hm_z : rn _ _ _ _ [.int 1] _ _ _ := hm_z
        replace hm_z := rn_ifF (am_cur_of (i := (25, 3, .ifCond .eq 5, (16, 0, 0), 0)) (by decide +kernel)) (by decide) hm_z
        replace hm_z := rn_iconst (w := (-1)) (am_cur_of (i := (28, 1, .iconst (-1), (0, 0, 0), 0)) (by decide +kernel)) (by decide) hm_z
        replace hm_z := rn_iret (am_cur_of (i := (29, 1, .ireturn, (0, 0, 0), 0)) (by decide +kernel)) hm_z
        obtain ⟨e294_z, e295_z⟩ := hm_z
        have ab := mf_bit (x := rg_v g 164 57 >>> (m &&& 31))
        exact Or.inl ⟨fun q => by omega, e294_z, fun o q e => by rw [e295_z]; exact up_ne (by unfold mQ at e; omega)⟩
theorem mf_249 {n : Nat} {r : Option Value} {g g' : am_H} (u0_z : 0 ≤ (rg_v g 164 77).toInt) (u20_z : (rg_v g 164 77).toInt ≤ 20) (hm_z : rn n am_m249 0 (lv_args 0 [.ref 164]) [] g r g') : (rg_v g 164 77 = 0 ∧ r = some (.int (-1)) ∧ (∀ o q, mQ o q → g' o q = g o q)) ∨ (¬ rg_v g 164 77 = 0 ∧ r = some (.int (rg_v g' 164 77)) ∧ (rg_v g' 164 77).toInt = (rg_v g 164 77).toInt - 1 ∧ (∀ j, j < 17 → mS g' 0 j = rg_v g 200 (17 * ((rg_v g 164 77).toInt.toNat - 1) + j)) ∧ ∀ q, rg_v g' 200 q = rg_v g 200 q) := by
  have z0_z : (0 : Int32).toInt = 0 := by decide
  have z1_z : (1 : Int32).toInt = 1 := by decide
  have z17_z : (17 : Int32).toInt = 17 := by decide
  have g0_z : am_get (lv_args 0 [.ref 164]) 0 = some (.ref 164) := rfl
  replace hm_z := rn_aload_n (am_cur_of (i := (0, 1, .aload_n 0, (0, 0, 0), 0)) (by decide +kernel)) g0_z hm_z
  replace hm_z := rn_iconst (w := 0) (am_cur_of (i := (1, 1, .iconst 0, (0, 0, 0), 0)) (by decide +kernel)) (by decide) hm_z
  replace hm_z := rn_put (am_cur_of (i := (2, 3, .putfield 139, (12, 2, 1386), 0)) (by decide +kernel)) (by decide +kernel) hm_z
  replace hm_z := rn_aload_n (am_cur_of (i := (5, 1, .aload_n 0, (0, 0, 0), 0)) (by decide +kernel)) g0_z hm_z
  replace hm_z := rn_getI (v := (rg_v g 164 77)) (am_cur_of (i := (6, 3, .getfield 371, (12, 77, 1461), 0)) (by decide +kernel)) (by decide +kernel) ((rg_v_other (by omega)).trans (rfl)) hm_z
  replace hm_z := rn_if (am_cur_of (i := (9, 3, .ifCond .ne 5, (8, 0, 0), 0)) (by decide +kernel)) hm_z
  rcases hm_z with ⟨b296_z, hm_z⟩ | ⟨b296_z, hm_z⟩
  · replace b296_z : ¬ (rg_v g 164 77) = (0 : Int32) ∧ ¬ (rg_v g 164 77).toInt = (0 : Int32).toInt := b296_z
    replace hm_z := rn_aload_n (am_cur_of (i := (14, 1, .aload_n 0, (0, 0, 0), 0)) (by decide +kernel)) g0_z hm_z
    replace hm_z := rn_dup (am_cur_of (i := (15, 1, .dup, (0, 0, 0), 0)) (by decide +kernel)) hm_z
    replace hm_z := rn_getI (v := (rg_v g 164 77)) (am_cur_of (i := (16, 3, .getfield 371, (12, 77, 1461), 0)) (by decide +kernel)) (by decide +kernel) ((rg_v_other (by omega)).trans (rfl)) hm_z
    replace hm_z := rn_iconst (w := 1) (am_cur_of (i := (19, 1, .iconst 1, (0, 0, 0), 0)) (by decide +kernel)) (by decide) hm_z
    replace hm_z := rn_isub (w := (rg_v g 164 77) - 1) (am_cur_of (i := (20, 1, .isub, (0, 0, 0), 0)) (by decide +kernel)) rfl hm_z
    replace hm_z := rn_put (am_cur_of (i := (21, 3, .putfield 371, (12, 77, 1461), 0)) (by decide +kernel)) (by decide +kernel) hm_z
    replace hm_z := rn_aload_n (am_cur_of (i := (24, 1, .aload_n 0, (0, 0, 0), 0)) (by decide +kernel)) g0_z hm_z
    replace hm_z := rn_aload_n (am_cur_of (i := (25, 1, .aload_n 0, (0, 0, 0), 0)) (by decide +kernel)) g0_z hm_z
    replace hm_z := rn_getR (x := 200) (am_cur_of (i := (26, 3, .getfield 127, (12, 78, 1462), 0)) (by decide +kernel)) (by decide +kernel) hm_z
    replace hm_z := rn_bipush (w := 17) (am_cur_of (i := (29, 2, .bipush 17, (0, 0, 0), 0)) (by decide +kernel)) (by decide) hm_z
    replace hm_z := rn_aload_n (am_cur_of (i := (31, 1, .aload_n 0, (0, 0, 0), 0)) (by decide +kernel)) g0_z hm_z
    replace hm_z := rn_getI (v := (rg_v g 164 77) - 1) (am_cur_of (i := (32, 3, .getfield 371, (12, 77, 1461), 0)) (by decide +kernel)) (by decide +kernel) rg_v_self hm_z
    replace hm_z := rn_imul (w := (17 : Int32) * ((rg_v g 164 77) - 1)) (am_cur_of (i := (35, 1, .imul, (0, 0, 0), 0)) (by decide +kernel)) rfl hm_z
    replace hm_z := rn_callV (M' := am_m250) (o := 164) (ar := [.int ((17 : Int32) * ((rg_v g 164 77) - 1)), .ref 200]) (rest := []) (L := lv_args 0 [.ref 164, .ref 200, .int ((17 : Int32) * ((rg_v g 164 77) - 1))]) (am_cur_of (i := (36, 3, .invokevirtual 533, (250, 2031, 3), 0)) (by decide +kernel)) rfl rfl rfl rfl hm_z
    obtain ⟨r297_z, h298_z, q299_z, hm_z⟩ := hm_z
    have nz : ¬ (rg_v g 164 77).toInt = 0 := fun q => b296_z.1 (Int32.toInt_inj.mp (q.trans (by decide)))
    have us := ab_isub (x := rg_v g 164 77) (y := 1) (by omega) (by omega)
    have ui := ab_imul (x := 17) (y := rg_v g 164 77 - 1) (by rw [z17_z]; omega) (by rw [z17_z]; omega)
    rw [z17_z] at ui
    have cu := rt_cl (x := 17 * (rg_v g 164 77 - 1)) (by omega)
    have vo := rn_void rfl q299_z
    subst vo
    obtain ⟨t1_z, t2_z⟩ := tk_250_200 (by omega) (by omega) q299_z
    have e77_z : rg_v h298_z 164 77 = rg_v g 164 77 - 1 := by
      unfold rg_v
      rw [t2_z 164 77 rfl (by omega), am_up_self]
      rfl
    replace hm_z : rn _ _ _ _ [] _ _ _ := hm_z
    replace hm_z := rn_aload_n (am_cur_of (i := (39, 1, .aload_n 0, (0, 0, 0), 0)) (by decide +kernel)) g0_z hm_z
    replace hm_z := rn_getI (v := (rg_v g 164 77 - 1)) (am_cur_of (i := (40, 3, .getfield 371, (12, 77, 1461), 0)) (by decide +kernel)) (by decide +kernel) e77_z hm_z
    replace hm_z := rn_iret (am_cur_of (i := (43, 1, .ireturn, (0, 0, 0), 0)) (by decide +kernel)) hm_z
    obtain ⟨e300_z, e301_z⟩ := hm_z
    rw [e301_z]
    refine Or.inr ⟨b296_z.1, e300_z.trans (congrArg (fun q => some (Value.int q)) e77_z.symm), by rw [e77_z]; exact us, fun j hj_z => ?_, fun q => ?_⟩
    · refine (t1_z j hj_z).trans ?_
      rw [show (17 * (rg_v g 164 77 - 1)).toNatClampNeg + j = 17 * ((rg_v g 164 77).toInt.toNat - 1) + j by omega]
      exact (rg_v_other (by omega)).trans (rg_v_other (by omega))
    · unfold rg_v
      rw [t2_z 200 q rfl (by omega), up_ne (by omega), up_ne (by omega)]
  · replace b296_z : (rg_v g 164 77) = (0 : Int32) ∧ (rg_v g 164 77).toInt = (0 : Int32).toInt := b296_z
    replace hm_z := rn_iconst (w := (-1)) (am_cur_of (i := (12, 1, .iconst (-1), (0, 0, 0), 0)) (by decide +kernel)) (by decide) hm_z
    replace hm_z := rn_iret (am_cur_of (i := (13, 1, .ireturn, (0, 0, 0), 0)) (by decide +kernel)) hm_z
    obtain ⟨e302_z, e303_z⟩ := hm_z
    exact Or.inl ⟨b296_z.1, e302_z, fun o q e => by rw [e303_z]; exact up_ne (by unfold mQ at e; omega)⟩
theorem mf_251 {n : Nat} {r : Option Value} {g g' : am_H} (hm_z : rn n am_m251 0 (lv_args 0 [.ref 164]) [] g r g') : r = some (.int (rg_v g 189 0)) ∧ rg_v g' 164 79 = 1 ∧ (∀ j, j < 17 → rg_v g' 201 j = mS g 0 j) ∧ ∀ j, mS g' 0 j = mS g 0 j := by
  have g0_z : am_get (lv_args 0 [.ref 164]) 0 = some (.ref 164) := rfl
  replace hm_z := rn_aload_n (am_cur_of (i := (0, 1, .aload_n 0, (0, 0, 0), 0)) (by decide +kernel)) g0_z hm_z
  replace hm_z := rn_iconst (w := 0) (am_cur_of (i := (1, 1, .iconst 0, (0, 0, 0), 0)) (by decide +kernel)) (by decide) hm_z
  replace hm_z := rn_put (am_cur_of (i := (2, 3, .putfield 139, (12, 2, 1386), 0)) (by decide +kernel)) (by decide +kernel) hm_z
  replace hm_z := rn_aload_n (am_cur_of (i := (5, 1, .aload_n 0, (0, 0, 0), 0)) (by decide +kernel)) g0_z hm_z
  replace hm_z := rn_iconst (w := 1) (am_cur_of (i := (6, 1, .iconst 1, (0, 0, 0), 0)) (by decide +kernel)) (by decide) hm_z
  replace hm_z := rn_put (am_cur_of (i := (7, 3, .putfield 374, (12, 79, 1463), 0)) (by decide +kernel)) (by decide +kernel) hm_z
  replace hm_z := rn_aload_n (am_cur_of (i := (10, 1, .aload_n 0, (0, 0, 0), 0)) (by decide +kernel)) g0_z hm_z
  replace hm_z := rn_aload_n (am_cur_of (i := (11, 1, .aload_n 0, (0, 0, 0), 0)) (by decide +kernel)) g0_z hm_z
  replace hm_z := rn_getR (x := 201) (am_cur_of (i := (12, 3, .getfield 130, (12, 80, 1464), 0)) (by decide +kernel)) (by decide +kernel) hm_z
  replace hm_z := rn_iconst (w := 0) (am_cur_of (i := (15, 1, .iconst 0, (0, 0, 0), 0)) (by decide +kernel)) (by decide) hm_z
  replace hm_z := rn_callV (M' := am_m208) (o := 164) (ar := [.int 0, .ref 201]) (rest := []) (L := lv_args 0 [.ref 164, .ref 201, .int 0]) (am_cur_of (i := (16, 3, .invokevirtual 530, (208, 1863, 3), 0)) (by decide +kernel)) rfl rfl rfl rfl hm_z
  obtain ⟨r304_z, h305_z, q306_z, hm_z⟩ := hm_z
  have vo := rn_void rfl q306_z
  subst vo
  obtain ⟨t1_z, t2_z⟩ := pt_208_201 q306_z
  have gs : ∀ j, mS ((am_up (am_up g 164 2 (.int 0)) 164 79 (.int 1))) 0 j = mS g 0 j := fun j => mS_e (fun o q h => (up_ne (by omega)).trans (up_ne (by omega))) j
  have e1_z : rg_v h305_z 189 0 = rg_v g 189 0 := by
    unfold rg_v
    rw [t2_z 189 0 (by omega), up_ne (by omega), up_ne (by omega)]
  replace hm_z : rn _ _ _ _ [] _ _ _ := hm_z
  replace hm_z := rn_aload_n (am_cur_of (i := (19, 1, .aload_n 0, (0, 0, 0), 0)) (by decide +kernel)) g0_z hm_z
  replace hm_z := rn_getR (x := 189) (am_cur_of (i := (20, 3, .getfield 88, (12, 51, 1435), 0)) (by decide +kernel)) (by decide +kernel) hm_z
  replace hm_z := rn_iconst (w := 0) (am_cur_of (i := (23, 1, .iconst 0, (0, 0, 0), 0)) (by decide +kernel)) (by decide) hm_z
  replace hm_z := rn_iaload (N := 4) (q := 0) (v := (rg_v g 189 0)) (am_cur_of (i := (24, 1, .iaload, (0, 0, 0), 0)) (by decide +kernel)) (by decide +kernel) rfl e1_z hm_z
  obtain ⟨p307_z, hm_z⟩ := hm_z
  replace hm_z := rn_iret (am_cur_of (i := (25, 1, .ireturn, (0, 0, 0), 0)) (by decide +kernel)) hm_z
  obtain ⟨e308_z, e309_z⟩ := hm_z
  rw [e309_z]
  refine ⟨e308_z, ?_, fun j hj_z => (t1_z j hj_z).trans (gs j), fun j => ?_⟩
  · unfold rg_v
    rw [t2_z 164 79 (by omega), am_up_self]
  · exact mS_e (fun o q h => (t2_z o q (by omega)).trans ((up_ne (by omega)).trans (up_ne (by omega)))) j
theorem mf_252 {n : Nat} {r : Option Value} {g g' : am_H} (hm_z : rn n am_m252 0 (lv_args 0 [.ref 164]) [] g r g') : (rg_v g 164 79 = 0 ∧ r = some (.int (-1)) ∧ (∀ o q, mQ o q → g' o q = g o q)) ∨ (¬ rg_v g 164 79 = 0 ∧ r = some (.int (rg_v g' 189 0)) ∧ rg_v g' 164 77 = 0 ∧ ∀ j, j < 17 → mS g' 0 j = rg_v g 201 j) := by
  have z0_z : (0 : Int32).toInt = 0 := by decide
  have g0_z : am_get (lv_args 0 [.ref 164]) 0 = some (.ref 164) := rfl
  replace hm_z := rn_aload_n (am_cur_of (i := (0, 1, .aload_n 0, (0, 0, 0), 0)) (by decide +kernel)) g0_z hm_z
  replace hm_z := rn_iconst (w := 0) (am_cur_of (i := (1, 1, .iconst 0, (0, 0, 0), 0)) (by decide +kernel)) (by decide) hm_z
  replace hm_z := rn_put (am_cur_of (i := (2, 3, .putfield 139, (12, 2, 1386), 0)) (by decide +kernel)) (by decide +kernel) hm_z
  replace hm_z := rn_aload_n (am_cur_of (i := (5, 1, .aload_n 0, (0, 0, 0), 0)) (by decide +kernel)) g0_z hm_z
  replace hm_z := rn_getI (v := rg_v g 164 79) (am_cur_of (i := (6, 3, .getfield 374, (12, 79, 1463), 0)) (by decide +kernel)) (by decide +kernel) ((rg_v_other (by omega)).trans (rfl)) hm_z
  replace hm_z := rn_if (am_cur_of (i := (9, 3, .ifCond .ne 5, (8, 0, 0), 0)) (by decide +kernel)) hm_z
  rcases hm_z with ⟨b310_z, hm_z⟩ | ⟨b310_z, hm_z⟩
  · replace b310_z : ¬ (rg_v g 164 79) = (0 : Int32) ∧ ¬ (rg_v g 164 79).toInt = (0 : Int32).toInt := b310_z
    replace hm_z := rn_aload_n (am_cur_of (i := (14, 1, .aload_n 0, (0, 0, 0), 0)) (by decide +kernel)) g0_z hm_z
    replace hm_z := rn_aload_n (am_cur_of (i := (15, 1, .aload_n 0, (0, 0, 0), 0)) (by decide +kernel)) g0_z hm_z
    replace hm_z := rn_getR (x := 201) (am_cur_of (i := (16, 3, .getfield 130, (12, 80, 1464), 0)) (by decide +kernel)) (by decide +kernel) hm_z
    replace hm_z := rn_iconst (w := 0) (am_cur_of (i := (19, 1, .iconst 0, (0, 0, 0), 0)) (by decide +kernel)) (by decide) hm_z
    replace hm_z := rn_callV (M' := am_m250) (o := 164) (ar := [.int 0, .ref 201]) (rest := []) (L := lv_args 0 [.ref 164, .ref 201, .int 0]) (am_cur_of (i := (20, 3, .invokevirtual 533, (250, 2031, 3), 0)) (by decide +kernel)) rfl rfl rfl rfl hm_z
    obtain ⟨r311_z, h312_z, q313_z, hm_z⟩ := hm_z
    have vo := rn_void rfl q313_z
    subst vo
    obtain ⟨t1_z, t2_z⟩ := tk_250_201 q313_z
    replace hm_z : rn _ _ _ _ [] _ _ _ := hm_z
    replace hm_z := rn_aload_n (am_cur_of (i := (23, 1, .aload_n 0, (0, 0, 0), 0)) (by decide +kernel)) g0_z hm_z
    replace hm_z := rn_iconst (w := 0) (am_cur_of (i := (24, 1, .iconst 0, (0, 0, 0), 0)) (by decide +kernel)) (by decide) hm_z
    replace hm_z := rn_put (am_cur_of (i := (25, 3, .putfield 371, (12, 77, 1461), 0)) (by decide +kernel)) (by decide +kernel) hm_z
    replace hm_z := rn_aload_n (am_cur_of (i := (28, 1, .aload_n 0, (0, 0, 0), 0)) (by decide +kernel)) g0_z hm_z
    replace hm_z := rn_getR (x := 189) (am_cur_of (i := (29, 3, .getfield 88, (12, 51, 1435), 0)) (by decide +kernel)) (by decide +kernel) hm_z
    replace hm_z := rn_iconst (w := 0) (am_cur_of (i := (32, 1, .iconst 0, (0, 0, 0), 0)) (by decide +kernel)) (by decide) hm_z
    replace hm_z := rn_iaload (N := 4) (q := 0) (v := rg_v h312_z 189 0) (am_cur_of (i := (33, 1, .iaload, (0, 0, 0), 0)) (by decide +kernel)) (by decide +kernel) rfl ((rg_v_other (by omega)).trans (rfl)) hm_z
    obtain ⟨p314_z, hm_z⟩ := hm_z
    replace hm_z := rn_iret (am_cur_of (i := (34, 1, .ireturn, (0, 0, 0), 0)) (by decide +kernel)) hm_z
    obtain ⟨e315_z, e316_z⟩ := hm_z
    rw [e316_z]
    refine Or.inr ⟨b310_z.1, e315_z.trans (congrArg (fun q => some (Value.int q)) (rg_v_other (by omega)).symm), rg_v_self, fun j hj_z => ?_⟩
    refine Eq.trans (mS_e (fun o q h => up_ne (by omega)) j) ((t1_z j hj_z).trans ?_)
    exact rg_v_other (by omega)
  · replace b310_z : (rg_v g 164 79) = (0 : Int32) ∧ (rg_v g 164 79).toInt = (0 : Int32).toInt := b310_z
    replace hm_z := rn_iconst (w := (-1)) (am_cur_of (i := (12, 1, .iconst (-1), (0, 0, 0), 0)) (by decide +kernel)) (by decide) hm_z
    replace hm_z := rn_iret (am_cur_of (i := (13, 1, .ireturn, (0, 0, 0), 0)) (by decide +kernel)) hm_z
    obtain ⟨e317_z, e318_z⟩ := hm_z
    exact Or.inl ⟨b310_z.1, e317_z, fun o q e => by rw [e318_z]; exact up_ne (by unfold mQ at e; omega)⟩
