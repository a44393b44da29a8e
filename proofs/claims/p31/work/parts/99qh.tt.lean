/-! ===== A TOKEN OF BOTH SIDES (wip/r/gen99qh.py) ===== -/
def rt_tC (T : Nat → Int32) (S x p y kd vl : Int32) : Prop := p.toNatClampNeg = rd_end rd_ws T S.toNatClampNeg x.toNatClampNeg ∧ 0 ≤ p.toInt ∧ p.toInt ≤ S.toInt ∧ ((p = S ∧ y = p ∧ kd = 0)
  ∨ (p.toInt < S.toInt ∧ rd_sm (T p.toNatClampNeg) = true ∧ y.toNatClampNeg = rd_end rd_sm T S.toNatClampNeg p.toNatClampNeg ∧ ((6 < y.toInt - p.toInt ∧ kd = 1) ∨ (y.toInt - p.toInt ≤ 6 ∧ rt_wd (rt_lt T p.toNatClampNeg (y.toNatClampNeg - p.toNatClampNeg)) kd vl)))
  ∨ (p.toInt < S.toInt ∧ rd_sm (T p.toNatClampNeg) = false ∧ rd_dg (T p.toNatClampNeg) = true ∧ y.toNatClampNeg = rd_end rd_dg T S.toNatClampNeg p.toNatClampNeg ∧ kd = 4 ∧ vl.toInt = rt_cv T p.toNatClampNeg (y.toNatClampNeg - p.toNatClampNeg))
  ∨ (p.toInt < S.toInt ∧ rd_sm (T p.toNatClampNeg) = false ∧ rd_dg (T p.toNatClampNeg) = false ∧ y = p + 1 + (rt_sC (T p.toNatClampNeg) (rt_nx T S.toNatClampNeg (p.toNatClampNeg + 1))).2.2 ∧ kd = (rt_sC (T p.toNatClampNeg) (rt_nx T S.toNatClampNeg (p.toNatClampNeg + 1))).1 ∧ vl = (rt_sC (T p.toNatClampNeg) (rt_nx T S.toNatClampNeg (p.toNatClampNeg + 1))).2.1))
def rt_tM (T : Nat → Int32) (S x p y kd vl : Int32) : Prop := p.toNatClampNeg = rd_end rd_ws T S.toNatClampNeg x.toNatClampNeg ∧ 0 ≤ p.toInt ∧ p.toInt ≤ S.toInt ∧ ((p = S ∧ y = p ∧ kd = 0)
  ∨ (p.toInt < S.toInt ∧ rd_sm (T p.toNatClampNeg) = true ∧ y.toNatClampNeg = rd_end rd_sm T S.toNatClampNeg p.toNatClampNeg ∧ ((∃ k : Nat, k < 20 ∧ kd = 1 ∧ vl = Int32.ofNat k ∧ rt_is T p.toNatClampNeg y.toNatClampNeg k) ∨ ((∀ k, k < 20 → ¬ rt_is T p.toNatClampNeg y.toNatClampNeg k) ∧ ((6 < y.toInt - p.toInt ∧ kd = 6) ∨ (y.toInt - p.toInt ≤ 6 ∧ kd = 2 ∧ vl = rt_mp T p.toNatClampNeg y.toNatClampNeg 6)))))
  ∨ (p.toInt < S.toInt ∧ rd_sm (T p.toNatClampNeg) = false ∧ rd_dg (T p.toNatClampNeg) = true ∧ y.toNatClampNeg = rd_end rd_dg T S.toNatClampNeg p.toNatClampNeg ∧ kd = 3 ∧ vl.toInt = rt_mv T p.toNatClampNeg (y.toNatClampNeg - p.toNatClampNeg))
  ∨ (p.toInt < S.toInt ∧ rd_sm (T p.toNatClampNeg) = false ∧ rd_dg (T p.toNatClampNeg) = false ∧ y = p + 1 + (rt_sM (T p.toNatClampNeg) (rt_nx T S.toNatClampNeg (p.toNatClampNeg + 1))).2.2 ∧ kd = (rt_sM (T p.toNatClampNeg) (rt_nx T S.toNatClampNeg (p.toNatClampNeg + 1))).1 ∧ vl = (rt_sM (T p.toNatClampNeg) (rt_nx T S.toNatClampNeg (p.toNatClampNeg + 1))).2.1))
theorem rt_advC {T : Nat → Int32} {S x : Int32} {n : Nat} {h h' : am_H} {r : Option Value} (hC : rt_C T S x h) (hc_z : rn n am_m19 0 (lv_args 0 [.ref 44]) [] h r h') : r = none ∧ ∃ p y, rt_C T S y h' ∧ ab_Fr rt_mC h h' ∧ rg_v h' 44 9 = p ∧ rt_tC T S x p y (rg_v h' 44 10) (rg_v h' 44 11) := by
  have g0_z : am_get (lv_args 0 [.ref 44]) 0 = some (.ref 44) := rfl
  obtain ⟨n2_z, p, h2_z, q1_z, q2_z, q3_z, hc_z⟩ := rt_wsC _ _ _ _ hC g0_z hc_z
  have q1_z' := q1_z
  obtain ⟨r1_z, r2_z, r3_z, r4_z, r5_z, r6_z, r7_z, r8_z⟩ := q1_z
  have cp_z := rt_cl r4_z
  have cS_z := rt_cl (x := S) (by omega)
  replace hc_z := rn_aload_n (am_cur_of (i := (52, 1, .aload_n 0, (0, 0, 0), 0)) (by decide +kernel)) g0_z hc_z
  replace hc_z := rn_aload_n (am_cur_of (i := (53, 1, .aload_n 0, (0, 0, 0), 0)) (by decide +kernel)) g0_z hc_z
  replace hc_z := rn_getI (v := p) (am_cur_of (i := (54, 3, .getfield 54, (4, 8, 417), 0)) (by decide +kernel)) (by decide +kernel) r3_z hc_z
  replace hc_z := rn_put (am_cur_of (i := (57, 3, .putfield 72, (4, 9, 418), 0)) (by decide +kernel)) (by decide +kernel) hc_z
  replace hc_z := rn_aload_n (am_cur_of (i := (60, 1, .aload_n 0, (0, 0, 0), 0)) (by decide +kernel)) g0_z hc_z
  replace hc_z := rn_getI (v := p) (am_cur_of (i := (61, 3, .getfield 54, (4, 8, 417), 0)) (by decide +kernel)) (by decide +kernel) (show rg_v (am_up h2_z 44 9 (.int p)) 44 8 = p from r3_z) hc_z
  replace hc_z := rn_aload_n (am_cur_of (i := (64, 1, .aload_n 0, (0, 0, 0), 0)) (by decide +kernel)) g0_z hc_z
  replace hc_z := rn_getI (v := S) (am_cur_of (i := (65, 3, .getfield 37, (4, 5, 414), 0)) (by decide +kernel)) (by decide +kernel) (show rg_v (am_up h2_z 44 9 (.int p)) 44 5 = S from r2_z) hc_z
  replace hc_z := rn_cmp (am_cur_of (i := (68, 3, .if_icmp .lt 11, (39, 0, 0), 0)) (by decide +kernel)) hc_z
  rcases hc_z with ⟨b399_z, hc_z⟩ | ⟨b399_z, hc_z⟩
  · replace b399_z : p.toInt < S.toInt := b399_z
    replace hc_z := rn_aload_n (am_cur_of (i := (79, 1, .aload_n 0, (0, 0, 0), 0)) (by decide +kernel)) g0_z hc_z
    replace hc_z := rn_getM (x := 1) (am_cur_of (i := (80, 3, .getfield 19, (4, 4, 413), 0)) (by decide +kernel)) (show (am_up h2_z 44 9 (.int p)) 44 4 = .ref 1 from r1_z) hc_z
    replace hc_z := rn_aload_n (am_cur_of (i := (83, 1, .aload_n 0, (0, 0, 0), 0)) (by decide +kernel)) g0_z hc_z
    replace hc_z := rn_getI (v := p) (am_cur_of (i := (84, 3, .getfield 54, (4, 8, 417), 0)) (by decide +kernel)) (by decide +kernel) (show rg_v (am_up h2_z 44 9 (.int p)) 44 8 = p from r3_z) hc_z
    replace hc_z := rn_iaload (N := 700) (q := p.toNatClampNeg) (v := T p.toNatClampNeg) (am_cur_of (i := (87, 1, .iaload, (0, 0, 0), 0)) (by decide +kernel)) (by decide +kernel) rfl (show rg_v (am_up h2_z 44 9 (.int p)) 1 p.toNatClampNeg = T p.toNatClampNeg from (r7_z _ (by omega))) hc_z
    obtain ⟨p400_z, hc_z⟩ := hc_z
    replace hc_z := rn_callS (M' := am_m20) (ar := [.int (T p.toNatClampNeg)]) (rest := []) (L := lv_args 0 [.int (T p.toNatClampNeg)]) (am_cur_of (i := (88, 3, .invokestatic 75, (20, 731, 3), 0)) (by decide +kernel)) rfl rfl rfl rfl hc_z
    obtain ⟨r401_z, h402_z, q403_z, hc_z⟩ := hc_z
    rcases rt_isLetter q403_z with ⟨rfl, l404h, l404_z⟩ | ⟨rfl, l404h, l404_z⟩
    · replace l404h := l404h.symm
      subst l404h
      replace hc_z : rn _ _ _ _ [.int 1] _ _ _ := hc_z
      replace hc_z := rn_ifF (am_cur_of (i := (91, 3, .ifCond .eq 10, (49, 0, 0), 0)) (by decide +kernel)) (by decide) hc_z
      replace hc_z := rn_aload_n (am_cur_of (i := (94, 1, .aload_n 0, (0, 0, 0), 0)) (by decide +kernel)) g0_z hc_z
      replace hc_z := rn_callV (M' := am_m21) (o := 44) (ar := []) (rest := []) (L := lv_args 0 [.ref 44]) (am_cur_of (i := (95, 3, .invokevirtual 79, (21, 734, 3), 0)) (by decide +kernel)) rfl rfl rfl rfl hc_z
      obtain ⟨r405_z, h406_z, q407_z, hc_z⟩ := hc_z
      have hC2 : rt_C T S p (am_up h2_z 44 9 (.int p)) := ⟨r1_z, r2_z, r3_z, r4_z, r5_z, r6_z, fun k hk_z => r7_z k hk_z, fun k hk_z => r8_z k hk_z⟩
      obtain ⟨rfl, y, s1_z, s2_z, s3_z, s4_z, s5_z⟩ := rt_awC hC2 rfl q407_z
      replace hc_z : rn _ _ _ _ [] _ _ _ := hc_z
      replace hc_z := rn_goto (am_cur_of (i := (98, 3, .goto 29, (61, 0, 0), 0)) (by decide +kernel)) hc_z
      replace hc_z := rn_vret (am_cur_of (i := (127, 1, .return_, (0, 0, 0), 0)) (by decide +kernel)) hc_z
      obtain ⟨e408_z, e409_z⟩ := hc_z
      subst e408_z e409_z
      exact ⟨rfl, p, y, s1_z, ab_Fr_trans q3_z (ab_Fr_trans (ab_Fr_up (by decide) ab_Fr_refl) s3_z), s4_z, q2_z, r4_z, r5_z, Or.inr (Or.inl ⟨by omega, l404_z, s2_z, s5_z⟩)⟩
    · replace l404h := l404h.symm
      subst l404h
      replace hc_z : rn _ _ _ _ [.int 0] _ _ _ := hc_z
      replace hc_z := rn_ifT (am_cur_of (i := (91, 3, .ifCond .eq 10, (49, 0, 0), 0)) (by decide +kernel)) (by decide) hc_z
      replace hc_z := rn_aload_n (am_cur_of (i := (101, 1, .aload_n 0, (0, 0, 0), 0)) (by decide +kernel)) g0_z hc_z
      replace hc_z := rn_getM (x := 1) (am_cur_of (i := (102, 3, .getfield 19, (4, 4, 413), 0)) (by decide +kernel)) (show (am_up h2_z 44 9 (.int p)) 44 4 = .ref 1 from r1_z) hc_z
      replace hc_z := rn_aload_n (am_cur_of (i := (105, 1, .aload_n 0, (0, 0, 0), 0)) (by decide +kernel)) g0_z hc_z
      replace hc_z := rn_getI (v := p) (am_cur_of (i := (106, 3, .getfield 54, (4, 8, 417), 0)) (by decide +kernel)) (by decide +kernel) (show rg_v (am_up h2_z 44 9 (.int p)) 44 8 = p from r3_z) hc_z
      replace hc_z := rn_iaload (N := 700) (q := p.toNatClampNeg) (v := T p.toNatClampNeg) (am_cur_of (i := (109, 1, .iaload, (0, 0, 0), 0)) (by decide +kernel)) (by decide +kernel) rfl (show rg_v (am_up h2_z 44 9 (.int p)) 1 p.toNatClampNeg = T p.toNatClampNeg from (r7_z _ (by omega))) hc_z
      obtain ⟨p410_z, hc_z⟩ := hc_z
      replace hc_z := rn_callS (M' := am_m22) (ar := [.int (T p.toNatClampNeg)]) (rest := []) (L := lv_args 0 [.int (T p.toNatClampNeg)]) (am_cur_of (i := (110, 3, .invokestatic 82, (22, 738, 3), 0)) (by decide +kernel)) rfl rfl rfl rfl hc_z
      obtain ⟨r411_z, h412_z, q413_z, hc_z⟩ := hc_z
      rcases rt_isDigit q413_z with ⟨rfl, l414h, l414_z⟩ | ⟨rfl, l414h, l414_z⟩
      · replace l414h := l414h.symm
        subst l414h
        replace hc_z : rn _ _ _ _ [.int 1] _ _ _ := hc_z
        replace hc_z := rn_ifF (am_cur_of (i := (113, 3, .ifCond .eq 10, (59, 0, 0), 0)) (by decide +kernel)) (by decide) hc_z
        replace hc_z := rn_aload_n (am_cur_of (i := (116, 1, .aload_n 0, (0, 0, 0), 0)) (by decide +kernel)) g0_z hc_z
        replace hc_z := rn_callV (M' := am_m23) (o := 44) (ar := []) (rest := []) (L := lv_args 0 [.ref 44]) (am_cur_of (i := (117, 3, .invokevirtual 85, (23, 741, 3), 0)) (by decide +kernel)) rfl rfl rfl rfl hc_z
        obtain ⟨r415_z, h416_z, q417_z, hc_z⟩ := hc_z
        have hC2 : rt_C T S p (am_up h2_z 44 9 (.int p)) := ⟨r1_z, r2_z, r3_z, r4_z, r5_z, r6_z, fun k hk_z => r7_z k hk_z, fun k hk_z => r8_z k hk_z⟩
        obtain ⟨rfl, y, s1_z, s2_z, s3_z, s4_z, s5_z, s6_z⟩ := rt_anC hC2 q417_z
        replace hc_z : rn _ _ _ _ [] _ _ _ := hc_z
        replace hc_z := rn_goto (am_cur_of (i := (120, 3, .goto 7, (61, 0, 0), 0)) (by decide +kernel)) hc_z
        replace hc_z := rn_vret (am_cur_of (i := (127, 1, .return_, (0, 0, 0), 0)) (by decide +kernel)) hc_z
        obtain ⟨e418_z, e419_z⟩ := hc_z
        subst e418_z e419_z
        exact ⟨rfl, p, y, s1_z, ab_Fr_trans q3_z (ab_Fr_trans (ab_Fr_up (by decide) ab_Fr_refl) s3_z), s4_z, q2_z, r4_z, r5_z, Or.inr (Or.inr (Or.inl ⟨by omega, l404_z, l414_z, s2_z, s5_z, s6_z⟩))⟩
      · replace l414h := l414h.symm
        subst l414h
        replace hc_z : rn _ _ _ _ [.int 0] _ _ _ := hc_z
        replace hc_z := rn_ifT (am_cur_of (i := (113, 3, .ifCond .eq 10, (59, 0, 0), 0)) (by decide +kernel)) (by decide) hc_z
        replace hc_z := rn_aload_n (am_cur_of (i := (123, 1, .aload_n 0, (0, 0, 0), 0)) (by decide +kernel)) g0_z hc_z
        replace hc_z := rn_callV (M' := am_m24) (o := 44) (ar := []) (rest := []) (L := lv_args 0 [.ref 44]) (am_cur_of (i := (124, 3, .invokevirtual 88, (24, 749, 3), 0)) (by decide +kernel)) rfl rfl rfl rfl hc_z
        obtain ⟨r420_z, h421_z, q422_z, hc_z⟩ := hc_z
        have hC2 : rt_C T S p (am_up h2_z 44 9 (.int p)) := ⟨r1_z, r2_z, r3_z, r4_z, r5_z, r6_z, fun k hk_z => r7_z k hk_z, fun k hk_z => r8_z k hk_z⟩
        obtain ⟨rfl, s1_z, s3_z, s4_z, s5_z, s6_z, s7_z⟩ := rt_asC hC2 (by omega) q422_z
        replace hc_z : rn _ _ _ _ [] _ _ _ := hc_z
        replace hc_z := rn_vret (am_cur_of (i := (127, 1, .return_, (0, 0, 0), 0)) (by decide +kernel)) hc_z
        obtain ⟨e423_z, e424_z⟩ := hc_z
        subst e423_z e424_z
        exact ⟨rfl, p, _, s1_z, ab_Fr_trans q3_z (ab_Fr_trans (ab_Fr_up (by decide) ab_Fr_refl) s3_z), s4_z, q2_z, r4_z, r5_z, Or.inr (Or.inr (Or.inr ⟨by omega, l404_z, l414_z, rfl, s5_z, s6_z⟩))⟩
  · replace b399_z : S.toInt ≤ p.toInt := b399_z
    replace hc_z := rn_aload_n (am_cur_of (i := (71, 1, .aload_n 0, (0, 0, 0), 0)) (by decide +kernel)) g0_z hc_z
    replace hc_z := rn_iconst (w := 0) (am_cur_of (i := (72, 1, .iconst 0, (0, 0, 0), 0)) (by decide +kernel)) (by decide) hc_z
    replace hc_z := rn_put (am_cur_of (i := (73, 3, .putfield 60, (4, 10, 419), 0)) (by decide +kernel)) (by decide +kernel) hc_z
    replace hc_z := rn_goto (am_cur_of (i := (76, 3, .goto 51, (61, 0, 0), 0)) (by decide +kernel)) hc_z
    replace hc_z := rn_vret (am_cur_of (i := (127, 1, .return_, (0, 0, 0), 0)) (by decide +kernel)) hc_z
    obtain ⟨e425_z, e426_z⟩ := hc_z
    have hp_z : p = S := Int32.toInt_inj.mp (by omega)
    subst e425_z e426_z
    exact ⟨rfl, p, p, ⟨r1_z, r2_z, r3_z, r4_z, r5_z, r6_z, fun k hk_z => r7_z k hk_z, fun k hk_z => r8_z k hk_z⟩, ab_Fr_trans q3_z (ab_Fr_up (by decide) (ab_Fr_up (by decide) ab_Fr_refl)), rfl, q2_z, r4_z, r5_z, Or.inl ⟨hp_z, rfl, rfl⟩⟩
theorem rt_tokM {T : Nat → Int32} {S x : Int32} {n : Nat} {h h' : am_H} {r : Option Value} (hC : rt_M T S x h) (hc_z : rn n am_m151 0 (lv_args 0 [.ref 164]) [] h r h') : r = none ∧ ∃ p y, rt_M T S y h' ∧ ab_Fr rt_mM h h' ∧ rg_v h' 164 10 = p ∧ rt_tM T S x p y (rg_v h' 164 8) (rg_v h' 164 9) := by
  have z0_z : (0 : Int32).toInt = 0 := by decide
  have z6_z : (6 : Int32).toInt = 6 := by decide
  have g0_z : am_get (lv_args 0 [.ref 164]) 0 = some (.ref 164) := rfl
  obtain ⟨n2_z, p, h2_z, q1_z, q2_z, q3_z, hc_z⟩ := rt_wsM _ _ _ _ hC g0_z hc_z
  have q1_z' := q1_z
  obtain ⟨r2_z, r3_z, r4_z, r5_z, r6_z, r7_z, r8_z⟩ := q1_z
  have cp_z := rt_cl r4_z
  have cS_z := rt_cl (x := S) (by omega)
  replace hc_z := rn_aload_n (am_cur_of (i := (52, 1, .aload_n 0, (0, 0, 0), 0)) (by decide +kernel)) g0_z hc_z
  replace hc_z := rn_aload_n (am_cur_of (i := (53, 1, .aload_n 0, (0, 0, 0), 0)) (by decide +kernel)) g0_z hc_z
  replace hc_z := rn_getI (v := p) (am_cur_of (i := (54, 3, .getfield 154, (12, 7, 1391), 0)) (by decide +kernel)) (by decide +kernel) r3_z hc_z
  replace hc_z := rn_put (am_cur_of (i := (57, 3, .putfield 148, (12, 10, 1394), 0)) (by decide +kernel)) (by decide +kernel) hc_z
  replace hc_z := rn_aload_n (am_cur_of (i := (60, 1, .aload_n 0, (0, 0, 0), 0)) (by decide +kernel)) g0_z hc_z
  replace hc_z := rn_getI (v := p) (am_cur_of (i := (61, 3, .getfield 154, (12, 7, 1391), 0)) (by decide +kernel)) (by decide +kernel) (show rg_v (am_up h2_z 164 10 (.int p)) 164 7 = p from r3_z) hc_z
  replace hc_z := rn_aload_n (am_cur_of (i := (64, 1, .aload_n 0, (0, 0, 0), 0)) (by decide +kernel)) g0_z hc_z
  replace hc_z := rn_getI (v := S) (am_cur_of (i := (65, 3, .getfield 151, (12, 6, 1390), 0)) (by decide +kernel)) (by decide +kernel) (show rg_v (am_up h2_z 164 10 (.int p)) 164 6 = S from r2_z) hc_z
  replace hc_z := rn_cmp (am_cur_of (i := (68, 3, .if_icmp .ne 11, (39, 0, 0), 0)) (by decide +kernel)) hc_z
  rcases hc_z with ⟨b427_z, hc_z⟩ | ⟨b427_z, hc_z⟩
  · replace b427_z : ¬ p = S ∧ ¬ p.toInt = S.toInt := b427_z
    replace hc_z := rn_aload_n (am_cur_of (i := (79, 1, .aload_n 0, (0, 0, 0), 0)) (by decide +kernel)) g0_z hc_z
    replace hc_z := rn_aload_n (am_cur_of (i := (80, 1, .aload_n 0, (0, 0, 0), 0)) (by decide +kernel)) g0_z hc_z
    replace hc_z := rn_getI (v := p) (am_cur_of (i := (81, 3, .getfield 154, (12, 7, 1391), 0)) (by decide +kernel)) (by decide +kernel) (show rg_v (am_up h2_z 164 10 (.int p)) 164 7 = p from r3_z) hc_z
    replace hc_z := rn_callV (M' := am_m152) (o := 164) (ar := [.int p]) (rest := []) (L := lv_args 0 [.ref 164, .int p]) (am_cur_of (i := (84, 3, .invokevirtual 160, (152, 1640, 3), 0)) (by decide +kernel)) rfl rfl rfl rfl hc_z
    obtain ⟨r428_z, h429_z, q430_z, hc_z⟩ := hc_z
    have hC2 : rt_M T S p (am_up h2_z 164 10 (.int p)) := ⟨r2_z, r3_z, r4_z, r5_z, r6_z, fun k hk_z => r7_z k hk_z, fun k hk_z => r8_z k hk_z⟩
    rcases rt_misSmall hC2 r4_z q430_z with ⟨rfl, l431h, l431_z, l432_z⟩ | ⟨rfl, l431h, l431_z⟩
    · replace l431h := l431h.symm
      subst l431h
      replace hc_z : rn _ _ _ _ [.int 1] _ _ _ := hc_z
      replace hc_z := rn_ifF (am_cur_of (i := (87, 3, .ifCond .eq 105, (94, 0, 0), 0)) (by decide +kernel)) (by decide) hc_z
      obtain ⟨n3_z, y, h3_z, s1_z, s2_z, s3_z, s4_z, hc_z⟩ := rt_mwd _ _ _ _ hC2 g0_z hc_z
      have s1_z' := s1_z
      obtain ⟨r2_z, r3_z, y0_z, y1_z, -, r7_z, r8_z⟩ := s1_z
      have cy_z := rt_cl y0_z
      have hle := (rd_end_le (f := rd_sm) (T := T) (s := S.toNatClampNeg) (p := p.toNatClampNeg) (by omega)).1
      have hsub := ab_isub (x := y) (y := p) (by omega) (by omega)
      replace s4_z : rg_v h3_z 164 10 = p := s4_z
      replace hc_z := rn_aload_n (am_cur_of (i := (114, 1, .aload_n 0, (0, 0, 0), 0)) (by decide +kernel)) g0_z hc_z
      replace hc_z := rn_aload_n (am_cur_of (i := (115, 1, .aload_n 0, (0, 0, 0), 0)) (by decide +kernel)) g0_z hc_z
      replace hc_z := rn_aload_n (am_cur_of (i := (116, 1, .aload_n 0, (0, 0, 0), 0)) (by decide +kernel)) g0_z hc_z
      replace hc_z := rn_getI (v := p) (am_cur_of (i := (117, 3, .getfield 148, (12, 10, 1394), 0)) (by decide +kernel)) (by decide +kernel) s4_z hc_z
      replace hc_z := rn_aload_n (am_cur_of (i := (120, 1, .aload_n 0, (0, 0, 0), 0)) (by decide +kernel)) g0_z hc_z
      replace hc_z := rn_getI (v := y) (am_cur_of (i := (121, 3, .getfield 154, (12, 7, 1391), 0)) (by decide +kernel)) (by decide +kernel) r3_z hc_z
      replace hc_z := rn_callV (M' := am_m153) (o := 164) (ar := [.int y, .int p]) (rest := [.ref 164]) (L := lv_args 0 [.ref 164, .int p, .int y]) (am_cur_of (i := (124, 3, .invokevirtual 164, (153, 1644, 3), 0)) (by decide +kernel)) rfl rfl rfl rfl hc_z
      obtain ⟨r433_z, h434_z, q435_z, hc_z⟩ := hc_z
      obtain ⟨eh, hw_z⟩ := rt_wat s1_z' r4_z y1_z (by omega) q435_z
      replace eh := eh.symm
      subst eh
      rcases hw_z with ⟨k, hk_z, rfl, hw_z⟩ | ⟨rfl, hw_z⟩
      · have hk0_z : (Int32.ofNat k).toInt = k := Int32.toInt_ofNat_of_lt (by omega)
        replace hc_z : rn _ _ _ _ [.int (Int32.ofNat k), .ref 164] _ _ _ := hc_z
        replace hc_z := rn_put (am_cur_of (i := (127, 3, .putfield 168, (12, 9, 1393), 0)) (by decide +kernel)) (by decide +kernel) hc_z
        replace hc_z := rn_aload_n (am_cur_of (i := (130, 1, .aload_n 0, (0, 0, 0), 0)) (by decide +kernel)) g0_z hc_z
        replace hc_z := rn_aload_n (am_cur_of (i := (131, 1, .aload_n 0, (0, 0, 0), 0)) (by decide +kernel)) g0_z hc_z
        replace hc_z := rn_getI (v := Int32.ofNat k) (am_cur_of (i := (132, 3, .getfield 168, (12, 9, 1393), 0)) (by decide +kernel)) (by decide +kernel) rfl hc_z
        replace hc_z := rn_if (am_cur_of (i := (135, 3, .ifCond .lt 7, (70, 0, 0), 0)) (by decide +kernel)) hc_z
        rcases hc_z with ⟨b436_z, hc_z⟩ | ⟨b436_z, hc_z⟩
        · replace b436_z : (Int32.ofNat k).toInt < (0 : Int32).toInt := b436_z
          omega
        · replace b436_z : (0 : Int32).toInt ≤ (Int32.ofNat k).toInt := b436_z
          replace hc_z := rn_iconst (w := 1) (am_cur_of (i := (138, 1, .iconst 1, (0, 0, 0), 0)) (by decide +kernel)) (by decide) hc_z
          replace hc_z := rn_goto (am_cur_of (i := (139, 3, .goto 23, (80, 0, 0), 0)) (by decide +kernel)) hc_z
          replace hc_z := rn_put (am_cur_of (i := (162, 3, .putfield 157, (12, 8, 1392), 0)) (by decide +kernel)) (by decide +kernel) hc_z
          replace hc_z := rn_aload_n (am_cur_of (i := (165, 1, .aload_n 0, (0, 0, 0), 0)) (by decide +kernel)) g0_z hc_z
          replace hc_z := rn_getI (v := 1) (am_cur_of (i := (166, 3, .getfield 157, (12, 8, 1392), 0)) (by decide +kernel)) (by decide +kernel) rfl hc_z
          replace hc_z := rn_iconst (w := 2) (am_cur_of (i := (169, 1, .iconst 2, (0, 0, 0), 0)) (by decide +kernel)) (by decide) hc_z
          replace hc_z := rn_cmpT (am_cur_of (i := (170, 3, .if_icmp .ne 111, (140, 0, 0), 0)) (by decide +kernel)) (by decide) hc_z
          replace hc_z := rn_vret (am_cur_of (i := (281, 1, .return_, (0, 0, 0), 0)) (by decide +kernel)) hc_z
          obtain ⟨e437_z, e438_z⟩ := hc_z
          subst e437_z e438_z
          exact ⟨rfl, p, y, ⟨r2_z, r3_z, y0_z, y1_z, r6_z, fun k hk_z => r7_z k hk_z, fun k hk_z => r8_z k hk_z⟩, ab_Fr_trans q3_z (ab_Fr_trans (ab_Fr_up (by decide) ab_Fr_refl) (ab_Fr_trans s3_z (ab_Fr_up (by decide) (ab_Fr_up (by decide) ab_Fr_refl)))), s4_z, q2_z, r4_z, r5_z, Or.inr (Or.inl ⟨by omega, l432_z, s2_z, Or.inl ⟨k, hk_z, rfl, rfl, hw_z⟩⟩)⟩
      · replace hc_z : rn _ _ _ _ [.int (-1), .ref 164] _ _ _ := hc_z
        replace hc_z := rn_put (am_cur_of (i := (127, 3, .putfield 168, (12, 9, 1393), 0)) (by decide +kernel)) (by decide +kernel) hc_z
        replace hc_z := rn_aload_n (am_cur_of (i := (130, 1, .aload_n 0, (0, 0, 0), 0)) (by decide +kernel)) g0_z hc_z
        replace hc_z := rn_aload_n (am_cur_of (i := (131, 1, .aload_n 0, (0, 0, 0), 0)) (by decide +kernel)) g0_z hc_z
        replace hc_z := rn_getI (v := (-1)) (am_cur_of (i := (132, 3, .getfield 168, (12, 9, 1393), 0)) (by decide +kernel)) (by decide +kernel) rfl hc_z
        replace hc_z := rn_ifT (am_cur_of (i := (135, 3, .ifCond .lt 7, (70, 0, 0), 0)) (by decide +kernel)) (by decide) hc_z
        replace hc_z := rn_aload_n (am_cur_of (i := (142, 1, .aload_n 0, (0, 0, 0), 0)) (by decide +kernel)) g0_z hc_z
        replace hc_z := rn_getI (v := y) (am_cur_of (i := (143, 3, .getfield 154, (12, 7, 1391), 0)) (by decide +kernel)) (by decide +kernel) (show rg_v (am_up h3_z 164 9 (.int (-1))) 164 7 = y from r3_z) hc_z
        replace hc_z := rn_aload_n (am_cur_of (i := (146, 1, .aload_n 0, (0, 0, 0), 0)) (by decide +kernel)) g0_z hc_z
        replace hc_z := rn_getI (v := p) (am_cur_of (i := (147, 3, .getfield 148, (12, 10, 1394), 0)) (by decide +kernel)) (by decide +kernel) (show rg_v (am_up h3_z 164 9 (.int (-1))) 164 10 = p from s4_z) hc_z
        replace hc_z := rn_isub (w := y - p) (am_cur_of (i := (150, 1, .isub, (0, 0, 0), 0)) (by decide +kernel)) rfl hc_z
        replace hc_z := rn_bipush (w := 6) (am_cur_of (i := (151, 2, .bipush 6, (0, 0, 0), 0)) (by decide +kernel)) (by decide) hc_z
        replace hc_z := rn_cmp (am_cur_of (i := (153, 3, .if_icmp .le 8, (79, 0, 0), 0)) (by decide +kernel)) hc_z
        rcases hc_z with ⟨b439_z, hc_z⟩ | ⟨b439_z, hc_z⟩
        · replace b439_z : (y - p).toInt ≤ (6 : Int32).toInt := b439_z
          replace hc_z := rn_iconst (w := 2) (am_cur_of (i := (161, 1, .iconst 2, (0, 0, 0), 0)) (by decide +kernel)) (by decide) hc_z
          replace hc_z := rn_put (am_cur_of (i := (162, 3, .putfield 157, (12, 8, 1392), 0)) (by decide +kernel)) (by decide +kernel) hc_z
          replace hc_z := rn_aload_n (am_cur_of (i := (165, 1, .aload_n 0, (0, 0, 0), 0)) (by decide +kernel)) g0_z hc_z
          replace hc_z := rn_getI (v := 2) (am_cur_of (i := (166, 3, .getfield 157, (12, 8, 1392), 0)) (by decide +kernel)) (by decide +kernel) rfl hc_z
          replace hc_z := rn_iconst (w := 2) (am_cur_of (i := (169, 1, .iconst 2, (0, 0, 0), 0)) (by decide +kernel)) (by decide) hc_z
          replace hc_z := rn_cmpF (am_cur_of (i := (170, 3, .if_icmp .ne 111, (140, 0, 0), 0)) (by decide +kernel)) (by decide) hc_z
          replace hc_z := rn_aload_n (am_cur_of (i := (173, 1, .aload_n 0, (0, 0, 0), 0)) (by decide +kernel)) g0_z hc_z
          replace hc_z := rn_aload_n (am_cur_of (i := (174, 1, .aload_n 0, (0, 0, 0), 0)) (by decide +kernel)) g0_z hc_z
          replace hc_z := rn_aload_n (am_cur_of (i := (175, 1, .aload_n 0, (0, 0, 0), 0)) (by decide +kernel)) g0_z hc_z
          replace hc_z := rn_getI (v := p) (am_cur_of (i := (176, 3, .getfield 148, (12, 10, 1394), 0)) (by decide +kernel)) (by decide +kernel) (show rg_v (am_up (am_up h3_z 164 9 (.int (-1))) 164 8 (.int 2)) 164 10 = p from s4_z) hc_z
          replace hc_z := rn_aload_n (am_cur_of (i := (179, 1, .aload_n 0, (0, 0, 0), 0)) (by decide +kernel)) g0_z hc_z
          replace hc_z := rn_getI (v := y) (am_cur_of (i := (180, 3, .getfield 154, (12, 7, 1391), 0)) (by decide +kernel)) (by decide +kernel) (show rg_v (am_up (am_up h3_z 164 9 (.int (-1))) 164 8 (.int 2)) 164 7 = y from r3_z) hc_z
          replace hc_z := rn_callV (M' := am_m154) (o := 164) (ar := [.int y, .int p]) (rest := [.ref 164]) (L := lv_args 0 [.ref 164, .int p, .int y]) (am_cur_of (i := (183, 3, .invokevirtual 171, (154, 1648, 3), 0)) (by decide +kernel)) rfl rfl rfl rfl hc_z
          obtain ⟨r440_z, h441_z, q442_z, hc_z⟩ := hc_z
          obtain ⟨rfl, eh⟩ := rt_pack (X := y) (S := S) (⟨r2_z, r3_z, y0_z, y1_z, r6_z, fun k hk_z => r7_z k hk_z, fun k hk_z => r8_z k hk_z⟩ : rt_M T S y (am_up (am_up h3_z 164 9 (.int (-1))) 164 8 (.int 2))) r4_z y0_z y1_z r5_z q442_z
          replace eh := eh.symm
          subst eh
          replace hc_z : rn _ _ _ _ [.int (rt_mp T p.toNatClampNeg y.toNatClampNeg 6), .ref 164] _ _ _ := hc_z
          replace hc_z := rn_put (am_cur_of (i := (186, 3, .putfield 168, (12, 9, 1393), 0)) (by decide +kernel)) (by decide +kernel) hc_z
          replace hc_z := rn_goto (am_cur_of (i := (189, 3, .goto 92, (140, 0, 0), 0)) (by decide +kernel)) hc_z
          replace hc_z := rn_vret (am_cur_of (i := (281, 1, .return_, (0, 0, 0), 0)) (by decide +kernel)) hc_z
          obtain ⟨e443_z, e444_z⟩ := hc_z
          subst e443_z e444_z
          exact ⟨rfl, p, y, ⟨r2_z, r3_z, y0_z, y1_z, r6_z, fun k hk_z => r7_z k hk_z, fun k hk_z => r8_z k hk_z⟩, ab_Fr_trans q3_z (ab_Fr_trans (ab_Fr_up (by decide) ab_Fr_refl) (ab_Fr_trans s3_z (ab_Fr_up (by decide) (ab_Fr_up (by decide) (ab_Fr_up (by decide) ab_Fr_refl))))), s4_z, q2_z, r4_z, r5_z, Or.inr (Or.inl ⟨by omega, l432_z, s2_z, Or.inr ⟨hw_z, Or.inr ⟨by omega, rfl, rfl⟩⟩⟩)⟩
        · replace b439_z : (6 : Int32).toInt < (y - p).toInt := b439_z
          replace hc_z := rn_bipush (w := 6) (am_cur_of (i := (156, 2, .bipush 6, (0, 0, 0), 0)) (by decide +kernel)) (by decide) hc_z
          replace hc_z := rn_goto (am_cur_of (i := (158, 3, .goto 4, (80, 0, 0), 0)) (by decide +kernel)) hc_z
          replace hc_z := rn_put (am_cur_of (i := (162, 3, .putfield 157, (12, 8, 1392), 0)) (by decide +kernel)) (by decide +kernel) hc_z
          replace hc_z := rn_aload_n (am_cur_of (i := (165, 1, .aload_n 0, (0, 0, 0), 0)) (by decide +kernel)) g0_z hc_z
          replace hc_z := rn_getI (v := 6) (am_cur_of (i := (166, 3, .getfield 157, (12, 8, 1392), 0)) (by decide +kernel)) (by decide +kernel) rfl hc_z
          replace hc_z := rn_iconst (w := 2) (am_cur_of (i := (169, 1, .iconst 2, (0, 0, 0), 0)) (by decide +kernel)) (by decide) hc_z
          replace hc_z := rn_cmpT (am_cur_of (i := (170, 3, .if_icmp .ne 111, (140, 0, 0), 0)) (by decide +kernel)) (by decide) hc_z
          replace hc_z := rn_vret (am_cur_of (i := (281, 1, .return_, (0, 0, 0), 0)) (by decide +kernel)) hc_z
          obtain ⟨e445_z, e446_z⟩ := hc_z
          subst e445_z e446_z
          exact ⟨rfl, p, y, ⟨r2_z, r3_z, y0_z, y1_z, r6_z, fun k hk_z => r7_z k hk_z, fun k hk_z => r8_z k hk_z⟩, ab_Fr_trans q3_z (ab_Fr_trans (ab_Fr_up (by decide) ab_Fr_refl) (ab_Fr_trans s3_z (ab_Fr_up (by decide) (ab_Fr_up (by decide) ab_Fr_refl)))), s4_z, q2_z, r4_z, r5_z, Or.inr (Or.inl ⟨by omega, l432_z, s2_z, Or.inr ⟨hw_z, Or.inl ⟨by omega, rfl⟩⟩⟩)⟩
    · replace l431h := l431h.symm
      subst l431h
      replace l431_z : rd_sm (T p.toNatClampNeg) = false := by
        cases q : rd_sm (T p.toNatClampNeg) with
        | false => rfl
        | true => exact absurd ⟨by omega, q⟩ l431_z
      replace hc_z : rn _ _ _ _ [.int 0] _ _ _ := hc_z
      replace hc_z := rn_ifT (am_cur_of (i := (87, 3, .ifCond .eq 105, (94, 0, 0), 0)) (by decide +kernel)) (by decide) hc_z
      replace hc_z := rn_aload_n (am_cur_of (i := (192, 1, .aload_n 0, (0, 0, 0), 0)) (by decide +kernel)) g0_z hc_z
      replace hc_z := rn_aload_n (am_cur_of (i := (193, 1, .aload_n 0, (0, 0, 0), 0)) (by decide +kernel)) g0_z hc_z
      replace hc_z := rn_getI (v := p) (am_cur_of (i := (194, 3, .getfield 154, (12, 7, 1391), 0)) (by decide +kernel)) (by decide +kernel) (show rg_v (am_up h2_z 164 10 (.int p)) 164 7 = p from r3_z) hc_z
      replace hc_z := rn_callV (M' := am_m155) (o := 164) (ar := [.int p]) (rest := []) (L := lv_args 0 [.ref 164, .int p]) (am_cur_of (i := (197, 3, .invokevirtual 174, (155, 1652, 3), 0)) (by decide +kernel)) rfl rfl rfl rfl hc_z
      obtain ⟨r447_z, h448_z, q449_z, hc_z⟩ := hc_z
      have hC2 : rt_M T S p (am_up h2_z 164 10 (.int p)) := ⟨r2_z, r3_z, r4_z, r5_z, r6_z, fun k hk_z => r7_z k hk_z, fun k hk_z => r8_z k hk_z⟩
      rcases rt_misDigit hC2 r4_z q449_z with ⟨rfl, l450h, l450_z, l451_z⟩ | ⟨rfl, l450h, l450_z⟩
      · replace l450h := l450h.symm
        subst l450h
        replace hc_z : rn _ _ _ _ [.int 1] _ _ _ := hc_z
        replace hc_z := rn_ifF (am_cur_of (i := (200, 3, .ifCond .eq 77, (138, 0, 0), 0)) (by decide +kernel)) (by decide) hc_z
        replace hc_z := rn_aload_n (am_cur_of (i := (203, 1, .aload_n 0, (0, 0, 0), 0)) (by decide +kernel)) g0_z hc_z
        replace hc_z := rn_iconst (w := 3) (am_cur_of (i := (204, 1, .iconst 3, (0, 0, 0), 0)) (by decide +kernel)) (by decide) hc_z
        replace hc_z := rn_put (am_cur_of (i := (205, 3, .putfield 157, (12, 8, 1392), 0)) (by decide +kernel)) (by decide +kernel) hc_z
        replace hc_z := rn_aload_n (am_cur_of (i := (208, 1, .aload_n 0, (0, 0, 0), 0)) (by decide +kernel)) g0_z hc_z
        replace hc_z := rn_iconst (w := 0) (am_cur_of (i := (209, 1, .iconst 0, (0, 0, 0), 0)) (by decide +kernel)) (by decide) hc_z
        replace hc_z := rn_put (am_cur_of (i := (210, 3, .putfield 168, (12, 9, 1393), 0)) (by decide +kernel)) (by decide +kernel) hc_z
        have hC3 : rt_M T S p (am_up (am_up (am_up h2_z 164 10 (.int p)) 164 8 (.int 3)) 164 9 (.int 0)) := ⟨r2_z, r3_z, r4_z, r5_z, r6_z, fun k hk_z => r7_z k hk_z, fun k hk_z => r8_z k hk_z⟩
        obtain ⟨q0_z, y, s1_z, s2_z, s3_z, s4_z, s5_z, s6_z⟩ := rt_mnum (p := p.toNatClampNeg) _ p 0 _ _ hC3 rfl (by decide) (by decide) (Nat.le_refl _) (by rw [Nat.sub_self]; rfl) g0_z hc_z
        exact ⟨q0_z, p, y, s1_z, ab_Fr_trans q3_z (ab_Fr_trans (ab_Fr_up (by decide) (ab_Fr_up (by decide) (ab_Fr_up (by decide) ab_Fr_refl))) s3_z), s4_z, q2_z, r4_z, r5_z, Or.inr (Or.inr (Or.inl ⟨by omega, l431_z, l451_z, s2_z, s5_z, s6_z⟩))⟩
      · replace l450h := l450h.symm
        subst l450h
        replace l450_z : rd_dg (T p.toNatClampNeg) = false := by
          cases q : rd_dg (T p.toNatClampNeg) with
          | false => rfl
          | true => exact absurd ⟨by omega, q⟩ l450_z
        replace hc_z : rn _ _ _ _ [.int 0] _ _ _ := hc_z
        replace hc_z := rn_ifT (am_cur_of (i := (200, 3, .ifCond .eq 77, (138, 0, 0), 0)) (by decide +kernel)) (by decide) hc_z
        replace hc_z := rn_aload_n (am_cur_of (i := (277, 1, .aload_n 0, (0, 0, 0), 0)) (by decide +kernel)) g0_z hc_z
        replace hc_z := rn_callV (M' := am_m156) (o := 164) (ar := []) (rest := []) (L := lv_args 0 [.ref 164]) (am_cur_of (i := (278, 3, .invokevirtual 178, (156, 1657, 3), 0)) (by decide +kernel)) rfl rfl rfl rfl hc_z
        obtain ⟨r452_z, h453_z, q454_z, hc_z⟩ := hc_z
        obtain ⟨rfl, s1_z, s3_z, s4_z, s5_z, s6_z, s7_z⟩ := rt_asM (x := p) (S := S) (T := T) (⟨r2_z, r3_z, r4_z, r5_z, r6_z, fun k hk_z => r7_z k hk_z, fun k hk_z => r8_z k hk_z⟩ : rt_M T S p (am_up h2_z 164 10 (.int p))) (by omega) q454_z
        replace hc_z : rn _ _ _ _ [] _ _ _ := hc_z
        replace hc_z := rn_vret (am_cur_of (i := (281, 1, .return_, (0, 0, 0), 0)) (by decide +kernel)) hc_z
        obtain ⟨e455_z, e456_z⟩ := hc_z
        subst e455_z e456_z
        exact ⟨rfl, p, _, s1_z, ab_Fr_trans q3_z (ab_Fr_trans (ab_Fr_up (by decide) ab_Fr_refl) s3_z), s4_z, q2_z, r4_z, r5_z, Or.inr (Or.inr (Or.inr ⟨by omega, l431_z, l450_z, rfl, s5_z, s6_z⟩))⟩
  · replace b427_z : p = S ∧ p.toInt = S.toInt := b427_z
    replace hc_z := rn_aload_n (am_cur_of (i := (71, 1, .aload_n 0, (0, 0, 0), 0)) (by decide +kernel)) g0_z hc_z
    replace hc_z := rn_iconst (w := 0) (am_cur_of (i := (72, 1, .iconst 0, (0, 0, 0), 0)) (by decide +kernel)) (by decide) hc_z
    replace hc_z := rn_put (am_cur_of (i := (73, 3, .putfield 157, (12, 8, 1392), 0)) (by decide +kernel)) (by decide +kernel) hc_z
    replace hc_z := rn_goto (am_cur_of (i := (76, 3, .goto 205, (140, 0, 0), 0)) (by decide +kernel)) hc_z
    replace hc_z := rn_vret (am_cur_of (i := (281, 1, .return_, (0, 0, 0), 0)) (by decide +kernel)) hc_z
    obtain ⟨e457_z, e458_z⟩ := hc_z
    subst e457_z e458_z
    exact ⟨rfl, p, p, ⟨r2_z, r3_z, r4_z, r5_z, r6_z, fun k hk_z => r7_z k hk_z, fun k hk_z => r8_z k hk_z⟩, ab_Fr_trans q3_z (ab_Fr_up (by decide) (ab_Fr_up (by decide) ab_Fr_refl)), rfl, q2_z, r4_z, r5_z, Or.inl ⟨b427_z.1, rfl, rfl⟩⟩
