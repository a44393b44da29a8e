/-! ===== THE MODEL'S WORDS AND NUMBERS; SIGNS OF BOTH (wip/r/gen99qf.py) ===== -/
theorem rt_mwd {T : Nat → Int32} {S : Int32} {r : Option Value} {h' : am_H} : ∀ (n : Nat) (x : Int32) (h : am_H) (ls : am_L), rt_M T S x h → am_get ls 0 = some (.ref 164) → rn n am_m151 44 ls [] h r h' → ∃ n2_z x2_z h2_z, rt_M T S x2_z h2_z ∧ x2_z.toNatClampNeg = rd_end rd_sm T S.toNatClampNeg x.toNatClampNeg ∧ ab_Fr rt_mM h h2_z ∧ rg_v h2_z 164 10 = rg_v h 164 10 ∧ rn n2_z am_m151 56 ls [] h2_z r h' := by
  intro n
  induction n with
  | zero => intro x h ls hC g0_z hc_z; exact absurd hc_z rn_0
  | succ n ih_z =>
    intro x h ls hC g0_z hc_z
    have hC' := hC
    obtain ⟨r2_z, r3_z, r4_z, r5_z, r6_z, r7_z, r8_z⟩ := hC
    have cx_z := rt_cl r4_z
    have cS_z := rt_cl (x := S) (by omega)
    replace hc_z := rn_aload_n (am_cur_of (i := (90, 1, .aload_n 0, (0, 0, 0), 0)) (by decide +kernel)) g0_z hc_z
    replace hc_z := rn_aload_n (am_cur_of (i := (91, 1, .aload_n 0, (0, 0, 0), 0)) (by decide +kernel)) g0_z hc_z
    replace hc_z := rn_getI (v := x) (am_cur_of (i := (92, 3, .getfield 154, (12, 7, 1391), 0)) (by decide +kernel)) (by decide +kernel) r3_z hc_z
    replace hc_z := rn_callV (M' := am_m152) (o := 164) (ar := [.int x]) (rest := []) (L := lv_args 0 [.ref 164, .int x]) (am_cur_of (i := (95, 3, .invokevirtual 160, (152, 1640, 3), 0)) (by decide +kernel)) rfl rfl rfl rfl hc_z
    obtain ⟨r102_z, h103_z, q104_z, hc_z⟩ := hc_z
    rcases rt_misSmall hC' (by omega) q104_z with ⟨rfl, l105h, l105_z, l106_z⟩ | ⟨rfl, l105h, l105_z⟩
    · replace l105h := l105h.symm
      subst l105h
      replace hc_z : rn _ _ _ _ [.int 1] _ _ _ := hc_z
      replace hc_z := rn_ifF (am_cur_of (i := (98, 3, .ifCond .eq 16, (56, 0, 0), 0)) (by decide +kernel)) (by decide) hc_z
      replace hc_z := rn_aload_n (am_cur_of (i := (101, 1, .aload_n 0, (0, 0, 0), 0)) (by decide +kernel)) g0_z hc_z
      replace hc_z := rn_dup (am_cur_of (i := (102, 1, .dup, (0, 0, 0), 0)) (by decide +kernel)) hc_z
      replace hc_z := rn_getI (v := x) (am_cur_of (i := (103, 3, .getfield 154, (12, 7, 1391), 0)) (by decide +kernel)) (by decide +kernel) r3_z hc_z
      replace hc_z := rn_iconst (w := 1) (am_cur_of (i := (106, 1, .iconst 1, (0, 0, 0), 0)) (by decide +kernel)) (by decide) hc_z
      replace hc_z := rn_iadd (w := x + 1) (am_cur_of (i := (107, 1, .iadd, (0, 0, 0), 0)) (by decide +kernel)) rfl hc_z
      replace hc_z := rn_put (am_cur_of (i := (108, 3, .putfield 154, (12, 7, 1391), 0)) (by decide +kernel)) (by decide +kernel) hc_z
      replace hc_z := rn_gotoL (am_cur_of (i := (111, 3, .goto (-21), (44, 0, 0), 0)) (by decide +kernel)) hc_z
      have e1_z := rt_c1 r4_z (by omega)
      have cx1_z := rt_cl (x := x + 1) (by omega)
      have hC1 : rt_M T S (x + 1) (am_up h 164 7 (.int (x + 1))) := ⟨r2_z, rfl, by omega, by omega, r6_z, fun k hk_z => r7_z k hk_z, fun k hk_z => r8_z k hk_z⟩
      obtain ⟨n2_z, x2_z, h2_z, q1_z, q2_z, q3_z, q4_z, q5_z⟩ := ih_z (x + 1) _ ls hC1 g0_z hc_z
      refine ⟨n2_z, x2_z, h2_z, q1_z, ?_, ab_Fr_trans (ab_Fr_up (by decide) ab_Fr_refl) q3_z, q4_z, q5_z⟩
      rw [q2_z, rd_end_on (by omega) l106_z, show x.toNatClampNeg + 1 = (x + 1).toNatClampNeg by omega]
    · replace l105h := l105h.symm
      subst l105h
      replace hc_z : rn _ _ _ _ [.int 0] _ _ _ := hc_z
      replace hc_z := rn_ifT (am_cur_of (i := (98, 3, .ifCond .eq 16, (56, 0, 0), 0)) (by decide +kernel)) (by decide) hc_z
      exact ⟨_, x, h, hC', (rd_end_off l105_z).symm, ab_Fr_refl, rfl, hc_z⟩
theorem rt_mnum {T : Nat → Int32} {S : Int32} {r : Option Value} {h' : am_H} {p : Nat} : ∀ (n : Nat) (x v : Int32) (h : am_H) (ls : am_L), rt_M T S x h → rg_v h 164 9 = v → 0 ≤ v.toInt → v.toInt ≤ 1000000 → p ≤ x.toNatClampNeg → v.toInt = rt_mv T p (x.toNatClampNeg - p) → am_get ls 0 = some (.ref 164) → rn n am_m151 105 ls [] h r h' → r = none ∧ ∃ x2_z, rt_M T S x2_z h' ∧ x2_z.toNatClampNeg = rd_end rd_dg T S.toNatClampNeg x.toNatClampNeg ∧ ab_Fr rt_mM h h' ∧ rg_v h' 164 10 = rg_v h 164 10 ∧ rg_v h' 164 8 = rg_v h 164 8 ∧ (rg_v h' 164 9).toInt = rt_mv T p (x2_z.toNatClampNeg - p) := by
  intro n
  induction n with
  | zero => intro x v h ls hC ev_z v0_z v1_z hp_z hv_z g0_z hc_z; exact absurd hc_z rn_0
  | succ n ih_z =>
    intro x v h ls hC ev_z v0_z v1_z hp_z hv_z g0_z hc_z
    have hC' := hC
    have z99999_z : (99999 : Int32).toInt = 99999 := by decide
    obtain ⟨r2_z, r3_z, r4_z, r5_z, r6_z, r7_z, r8_z⟩ := hC
    have cx_z := rt_cl r4_z
    have cS_z := rt_cl (x := S) (by omega)
    replace hc_z := rn_aload_n (am_cur_of (i := (213, 1, .aload_n 0, (0, 0, 0), 0)) (by decide +kernel)) g0_z hc_z
    replace hc_z := rn_aload_n (am_cur_of (i := (214, 1, .aload_n 0, (0, 0, 0), 0)) (by decide +kernel)) g0_z hc_z
    replace hc_z := rn_getI (v := x) (am_cur_of (i := (215, 3, .getfield 154, (12, 7, 1391), 0)) (by decide +kernel)) (by decide +kernel) r3_z hc_z
    replace hc_z := rn_callV (M' := am_m155) (o := 164) (ar := [.int x]) (rest := []) (L := lv_args 0 [.ref 164, .int x]) (am_cur_of (i := (218, 3, .invokevirtual 174, (155, 1652, 3), 0)) (by decide +kernel)) rfl rfl rfl rfl hc_z
    obtain ⟨r107_z, h108_z, q109_z, hc_z⟩ := hc_z
    rcases rt_misDigit hC' (by omega) q109_z with ⟨rfl, l110h, l110_z, l111_z⟩ | ⟨rfl, l110h, l110_z⟩
    · replace l110h := l110h.symm
      subst l110h
      replace hc_z : rn _ _ _ _ [.int 1] _ _ _ := hc_z
      replace hc_z := rn_ifF (am_cur_of (i := (221, 3, .ifCond .eq 60, (140, 0, 0), 0)) (by decide +kernel)) (by decide) hc_z
      replace hc_z := rn_aload_n (am_cur_of (i := (224, 1, .aload_n 0, (0, 0, 0), 0)) (by decide +kernel)) g0_z hc_z
      replace hc_z := rn_aload_n (am_cur_of (i := (225, 1, .aload_n 0, (0, 0, 0), 0)) (by decide +kernel)) g0_z hc_z
      replace hc_z := rn_getI (v := v) (am_cur_of (i := (226, 3, .getfield 168, (12, 9, 1393), 0)) (by decide +kernel)) (by decide +kernel) ev_z hc_z
      replace hc_z := rn_ldc (w := 99999) (am_cur_of (i := (229, 2, .ldc 177, (0, 0, 1656), 99999)) (by decide +kernel)) (by decide) hc_z
      replace hc_z := rn_cmp (am_cur_of (i := (231, 3, .if_icmp .le 10, (118, 0, 0), 0)) (by decide +kernel)) hc_z
      rcases hc_z with ⟨b112_z, hc_z⟩ | ⟨b112_z, hc_z⟩
      · replace b112_z : v.toInt ≤ (99999 : Int32).toInt := b112_z
        replace hc_z := rn_bipush (w := 10) (am_cur_of (i := (241, 2, .bipush 10, (0, 0, 0), 0)) (by decide +kernel)) (by decide) hc_z
        replace hc_z := rn_aload_n (am_cur_of (i := (243, 1, .aload_n 0, (0, 0, 0), 0)) (by decide +kernel)) g0_z hc_z
        replace hc_z := rn_getI (v := v) (am_cur_of (i := (244, 3, .getfield 168, (12, 9, 1393), 0)) (by decide +kernel)) (by decide +kernel) ev_z hc_z
        replace hc_z := rn_imul (w := (10 : Int32) * v) (am_cur_of (i := (247, 1, .imul, (0, 0, 0), 0)) (by decide +kernel)) rfl hc_z
        replace hc_z := rn_aload_n (am_cur_of (i := (248, 1, .aload_n 0, (0, 0, 0), 0)) (by decide +kernel)) g0_z hc_z
        replace hc_z := rn_getR (x := 165) (am_cur_of (i := (249, 3, .getfield 7, (12, 0, 1384), 0)) (by decide +kernel)) (by decide +kernel) hc_z
        replace hc_z := rn_aload_n (am_cur_of (i := (252, 1, .aload_n 0, (0, 0, 0), 0)) (by decide +kernel)) g0_z hc_z
        replace hc_z := rn_getI (v := x) (am_cur_of (i := (253, 3, .getfield 154, (12, 7, 1391), 0)) (by decide +kernel)) (by decide +kernel) r3_z hc_z
        replace hc_z := rn_iaload (N := 700) (q := x.toNatClampNeg) (v := T x.toNatClampNeg) (am_cur_of (i := (256, 1, .iaload, (0, 0, 0), 0)) (by decide +kernel)) (by decide +kernel) rfl (r7_z _ (by omega)) hc_z
        obtain ⟨p113_z, hc_z⟩ := hc_z
        replace hc_z := rn_iadd (w := ((10 : Int32) * v) + (T x.toNatClampNeg)) (am_cur_of (i := (257, 1, .iadd, (0, 0, 0), 0)) (by decide +kernel)) rfl hc_z
        replace hc_z := rn_bipush (w := 48) (am_cur_of (i := (258, 2, .bipush 48, (0, 0, 0), 0)) (by decide +kernel)) (by decide) hc_z
        replace hc_z := rn_isub (w := (((10 : Int32) * v) + (T x.toNatClampNeg)) - 48) (am_cur_of (i := (260, 1, .isub, (0, 0, 0), 0)) (by decide +kernel)) rfl hc_z
        replace hc_z := rn_put (am_cur_of (i := (261, 3, .putfield 168, (12, 9, 1393), 0)) (by decide +kernel)) (by decide +kernel) hc_z
        replace hc_z := rn_aload_n (am_cur_of (i := (264, 1, .aload_n 0, (0, 0, 0), 0)) (by decide +kernel)) g0_z hc_z
        replace hc_z := rn_dup (am_cur_of (i := (265, 1, .dup, (0, 0, 0), 0)) (by decide +kernel)) hc_z
        replace hc_z := rn_getI (v := x) (am_cur_of (i := (266, 3, .getfield 154, (12, 7, 1391), 0)) (by decide +kernel)) (by decide +kernel) (show rg_v (am_up h 164 9 (.int ((((10 : Int32) * v) + (T x.toNatClampNeg)) - 48))) 164 7 = x from r3_z) hc_z
        replace hc_z := rn_iconst (w := 1) (am_cur_of (i := (269, 1, .iconst 1, (0, 0, 0), 0)) (by decide +kernel)) (by decide) hc_z
        replace hc_z := rn_iadd (w := x + 1) (am_cur_of (i := (270, 1, .iadd, (0, 0, 0), 0)) (by decide +kernel)) rfl hc_z
        replace hc_z := rn_put (am_cur_of (i := (271, 3, .putfield 154, (12, 7, 1391), 0)) (by decide +kernel)) (by decide +kernel) hc_z
        replace hc_z := rn_gotoL (am_cur_of (i := (274, 3, .goto (-61), (105, 0, 0), 0)) (by decide +kernel)) hc_z
        have e1_z := rt_c1 r4_z (by omega)
        have cx1_z := rt_cl (x := x + 1) (by omega)
        have hd_z := rd_dg_iff.mp l111_z
        have hj_z : (x + 1).toNatClampNeg - p = (x.toNatClampNeg - p) + 1 := by omega
        have z10_z : (10 : Int32).toInt = 10 := by decide
        have z48_z : (48 : Int32).toInt = 48 := by decide
        have m1_z : (10 * v).toInt = 10 * v.toInt := by
          rw [Int32.toInt_mul, z10_z]
          exact ab_bm (by omega) (by omega)
        have m2_z := ab_iadd (x := 10 * v) (y := T x.toNatClampNeg) (by omega) (by omega)
        have m3_z : (10 * v + T x.toNatClampNeg - 48).toInt = 10 * v.toInt + (T x.toNatClampNeg).toInt - 48 := by
          rw [ab_isub (by omega) (by omega)]
          omega
        have hm_z : (10 * v + T x.toNatClampNeg - 48).toInt = rt_mv T p ((x + 1).toNatClampNeg - p) := by
          rw [hj_z]
          show _ = (if 99999 < rt_mv T p (x.toNatClampNeg - p) then _ else _ + (T (p + (x.toNatClampNeg - p))).toInt - 48)
          rw [if_neg (by omega), show p + (x.toNatClampNeg - p) = x.toNatClampNeg by omega]
          omega
        have hb_z : 0 ≤ (10 * v + T x.toNatClampNeg - 48).toInt ∧ (10 * v + T x.toNatClampNeg - 48).toInt ≤ 1000000 := by omega
        have hC1 : rt_M T S (x + 1) (am_up (am_up h 164 9 (.int ((((10 : Int32) * v) + (T x.toNatClampNeg)) - 48))) 164 7 (.int (x + 1))) := ⟨r2_z, rfl, by omega, by omega, r6_z, fun k hk_z => r7_z k hk_z, fun k hk_z => r8_z k hk_z⟩
        obtain ⟨q0_z, x2_z, q1_z, q2_z, q3_z, q4_z, q5_z, q6_z⟩ := ih_z (x + 1) _ _ ls hC1 rfl hb_z.1 hb_z.2 (by omega) hm_z g0_z hc_z
        refine ⟨q0_z, x2_z, q1_z, ?_, ab_Fr_trans (ab_Fr_up (by decide) (ab_Fr_up (by decide) ab_Fr_refl)) q3_z, q4_z, q5_z, q6_z⟩
        rw [q2_z, rd_end_on (by omega) l111_z, show x.toNatClampNeg + 1 = (x + 1).toNatClampNeg by omega]
      · replace b112_z : (99999 : Int32).toInt < v.toInt := b112_z
        replace hc_z := rn_aload_n (am_cur_of (i := (234, 1, .aload_n 0, (0, 0, 0), 0)) (by decide +kernel)) g0_z hc_z
        replace hc_z := rn_getI (v := v) (am_cur_of (i := (235, 3, .getfield 168, (12, 9, 1393), 0)) (by decide +kernel)) (by decide +kernel) ev_z hc_z
        replace hc_z := rn_goto (am_cur_of (i := (238, 3, .goto 23, (130, 0, 0), 0)) (by decide +kernel)) hc_z
        replace hc_z := rn_put (am_cur_of (i := (261, 3, .putfield 168, (12, 9, 1393), 0)) (by decide +kernel)) (by decide +kernel) hc_z
        replace hc_z := rn_aload_n (am_cur_of (i := (264, 1, .aload_n 0, (0, 0, 0), 0)) (by decide +kernel)) g0_z hc_z
        replace hc_z := rn_dup (am_cur_of (i := (265, 1, .dup, (0, 0, 0), 0)) (by decide +kernel)) hc_z
        replace hc_z := rn_getI (v := x) (am_cur_of (i := (266, 3, .getfield 154, (12, 7, 1391), 0)) (by decide +kernel)) (by decide +kernel) (show rg_v (am_up h 164 9 (.int v)) 164 7 = x from r3_z) hc_z
        replace hc_z := rn_iconst (w := 1) (am_cur_of (i := (269, 1, .iconst 1, (0, 0, 0), 0)) (by decide +kernel)) (by decide) hc_z
        replace hc_z := rn_iadd (w := x + 1) (am_cur_of (i := (270, 1, .iadd, (0, 0, 0), 0)) (by decide +kernel)) rfl hc_z
        replace hc_z := rn_put (am_cur_of (i := (271, 3, .putfield 154, (12, 7, 1391), 0)) (by decide +kernel)) (by decide +kernel) hc_z
        replace hc_z := rn_gotoL (am_cur_of (i := (274, 3, .goto (-61), (105, 0, 0), 0)) (by decide +kernel)) hc_z
        have e1_z := rt_c1 r4_z (by omega)
        have cx1_z := rt_cl (x := x + 1) (by omega)
        have hd_z := rd_dg_iff.mp l111_z
        have hj_z : (x + 1).toNatClampNeg - p = (x.toNatClampNeg - p) + 1 := by omega
        have hm_z : v.toInt = rt_mv T p ((x + 1).toNatClampNeg - p) := by
          rw [hj_z]
          show _ = (if 99999 < rt_mv T p (x.toNatClampNeg - p) then _ else _)
          rw [if_pos (by omega)]
          exact hv_z
        have hb_z : 0 ≤ v.toInt ∧ v.toInt ≤ 1000000 := by omega
        have hC1 : rt_M T S (x + 1) (am_up (am_up h 164 9 (.int v)) 164 7 (.int (x + 1))) := ⟨r2_z, rfl, by omega, by omega, r6_z, fun k hk_z => r7_z k hk_z, fun k hk_z => r8_z k hk_z⟩
        obtain ⟨q0_z, x2_z, q1_z, q2_z, q3_z, q4_z, q5_z, q6_z⟩ := ih_z (x + 1) _ _ ls hC1 rfl hb_z.1 hb_z.2 (by omega) hm_z g0_z hc_z
        refine ⟨q0_z, x2_z, q1_z, ?_, ab_Fr_trans (ab_Fr_up (by decide) (ab_Fr_up (by decide) ab_Fr_refl)) q3_z, q4_z, q5_z, q6_z⟩
        rw [q2_z, rd_end_on (by omega) l111_z, show x.toNatClampNeg + 1 = (x + 1).toNatClampNeg by omega]
    · replace l110h := l110h.symm
      subst l110h
      replace hc_z : rn _ _ _ _ [.int 0] _ _ _ := hc_z
      replace hc_z := rn_ifT (am_cur_of (i := (221, 3, .ifCond .eq 60, (140, 0, 0), 0)) (by decide +kernel)) (by decide) hc_z
      replace hc_z := rn_vret (am_cur_of (i := (281, 1, .return_, (0, 0, 0), 0)) (by decide +kernel)) hc_z
      obtain ⟨e114_z, e115_z⟩ := hc_z
      subst e114_z e115_z
      have hz_z := rd_end_off (f := rd_dg) (T := T) (s := S.toNatClampNeg) (p := x.toNatClampNeg) l110_z
      exact ⟨rfl, x, hC', hz_z.symm, ab_Fr_refl, rfl, rfl, by rw [ev_z]; exact hv_z⟩
theorem rt_pkl {T : Nat → Int32} {S X a e : Int32} {r : Option Value} {h h' : am_H} (hC : rt_M T S X h) (a0_z : 0 ≤ a.toInt) (e0_z : 0 ≤ e.toInt) (e1_z : e.toInt ≤ S.toInt) (a1_z : a.toInt ≤ S.toInt) : ∀ (n : Nat) (j : Nat) (k v : Int32) (ls : am_L), j ≤ 6 → k.toInt = a.toInt + j → v = rt_mp T a.toNatClampNeg e.toNatClampNeg j → am_get ls 0 = some (.ref 164) → am_get ls 1 = some (.int a) → am_get ls 2 = some (.int e) → am_get ls 3 = some (.int v) → am_get ls 4 = some (.int k) → rn n am_m154 4 ls [] h r h' → r = some (.int (rt_mp T a.toNatClampNeg e.toNatClampNeg 6)) ∧ h' = h := by
  obtain ⟨r2_z, r3_z, r4_z, r5_z, r6_z, r7_z, r8_z⟩ := hC
  have cS_z := rt_cl (x := S) (by omega)
  have ca_z := rt_cl a0_z
  have ce_z := rt_cl e0_z
  intro n
  induction n with
  | zero => intro j k v ls hj_z hk_z hv_z g0_z g1_z g2_z g3_z g4_z hc_z; exact absurd hc_z rn_0
  | succ n ih_z =>
    intro j k v ls hj_z hk_z hv_z g0_z g1_z g2_z g3_z g4_z hc_z
    have ck_z := rt_cl (x := k) (by omega)
    have z6_z : (6 : Int32).toInt = 6 := by decide
    have ha6_z := ab_iadd (x := a) (y := 6) (by omega) (by omega)
    replace hc_z := rn_iload (am_cur_of (i := (5, 2, .iload 4, (0, 0, 0), 0)) (by decide +kernel)) g4_z hc_z
    replace hc_z := rn_iload_n (am_cur_of (i := (7, 1, .iload_n 1, (0, 0, 0), 0)) (by decide +kernel)) g1_z hc_z
    replace hc_z := rn_bipush (w := 6) (am_cur_of (i := (8, 2, .bipush 6, (0, 0, 0), 0)) (by decide +kernel)) (by decide) hc_z
    replace hc_z := rn_iadd (w := a + 6) (am_cur_of (i := (10, 1, .iadd, (0, 0, 0), 0)) (by decide +kernel)) rfl hc_z
    replace hc_z := rn_cmp (am_cur_of (i := (11, 3, .if_icmp .ge 34, (27, 0, 0), 0)) (by decide +kernel)) hc_z
    rcases hc_z with ⟨b116_z, hc_z⟩ | ⟨b116_z, hc_z⟩
    · replace b116_z : (a + 6).toInt ≤ k.toInt := b116_z
      replace hc_z := rn_iload_n (am_cur_of (i := (45, 1, .iload_n 3, (0, 0, 0), 0)) (by decide +kernel)) g3_z hc_z
      replace hc_z := rn_iret (am_cur_of (i := (46, 1, .ireturn, (0, 0, 0), 0)) (by decide +kernel)) hc_z
      obtain ⟨e117_z, e118_z⟩ := hc_z
      subst e117_z e118_z
      refine ⟨?_, rfl⟩
      rw [hv_z, show j = 6 by omega]
    · replace b116_z : k.toInt < (a + 6).toInt := b116_z
      replace hc_z := rn_iload_n (am_cur_of (i := (14, 1, .iload_n 3, (0, 0, 0), 0)) (by decide +kernel)) g3_z hc_z
      replace hc_z := rn_iconst (w := 5) (am_cur_of (i := (15, 1, .iconst 5, (0, 0, 0), 0)) (by decide +kernel)) (by decide) hc_z
      replace hc_z := rn_ishl (w := v <<< (5 &&& 31)) (am_cur_of (i := (16, 1, .ishl, (0, 0, 0), 0)) (by decide +kernel)) rfl hc_z
      replace hc_z := rn_iload (am_cur_of (i := (17, 2, .iload 4, (0, 0, 0), 0)) (by decide +kernel)) g4_z hc_z
      replace hc_z := rn_iload_n (am_cur_of (i := (19, 1, .iload_n 2, (0, 0, 0), 0)) (by decide +kernel)) g2_z hc_z
      replace hc_z := rn_cmp (am_cur_of (i := (20, 3, .if_icmp .ge 16, (22, 0, 0), 0)) (by decide +kernel)) hc_z
      rcases hc_z with ⟨b119_z, hc_z⟩ | ⟨b119_z, hc_z⟩
      · replace b119_z : e.toInt ≤ k.toInt := b119_z
        replace hc_z := rn_iconst (w := 0) (am_cur_of (i := (36, 1, .iconst 0, (0, 0, 0), 0)) (by decide +kernel)) (by decide) hc_z
        replace hc_z := rn_ior (w := (v <<< (5 &&& 31)) ||| 0) (am_cur_of (i := (37, 1, .ior, (0, 0, 0), 0)) (by decide +kernel)) rfl hc_z
        replace hc_z := rn_istore_n (am_cur_of (i := (38, 1, .istore_n 3, (0, 0, 0), 0)) (by decide +kernel)) hc_z
        obtain ⟨_, s120_z, s121_z, g3_z, hc_z⟩ := hc_z
        replace g0_z := s120_z 0 _ (by decide) rfl g0_z
        replace g1_z := s120_z 1 _ (by decide) rfl g1_z
        replace g2_z := s120_z 2 _ (by decide) rfl g2_z
        replace g4_z := s120_z 4 _ (by decide) rfl g4_z
        clear s120_z s121_z
        replace hc_z := rn_iinc (w := k + 1) (am_cur_of (i := (39, 3, .iinc 4 1, (0, 0, 0), 0)) (by decide +kernel)) g4_z rfl hc_z
        obtain ⟨_, s122_z, s123_z, g4_z, hc_z⟩ := hc_z
        replace g0_z := s122_z 0 _ (by decide) rfl g0_z
        replace g1_z := s122_z 1 _ (by decide) rfl g1_z
        replace g2_z := s122_z 2 _ (by decide) rfl g2_z
        replace g3_z := s122_z 3 _ (by decide) rfl g3_z
        clear s122_z s123_z
        replace hc_z := rn_gotoL (am_cur_of (i := (42, 3, .goto (-37), (4, 0, 0), 0)) (by decide +kernel)) hc_z
        have hk1_z := rt_c1 (x := k) (by omega) (by omega)
        have hv1_z : (v <<< (5 &&& 31)) ||| 0 = rt_mp T a.toNatClampNeg e.toNatClampNeg (j + 1) := by
          show _ = (rt_mp T a.toNatClampNeg e.toNatClampNeg j <<< (5 &&& 31)) ||| (if a.toNatClampNeg + j < e.toNatClampNeg then T (a.toNatClampNeg + j) - 96 else 0)
          rw [if_neg (by omega), ← hv_z]
        exact ih_z (j + 1) (k + 1) _ _ (by omega) (by omega) hv1_z g0_z g1_z g2_z g3_z g4_z hc_z
      · replace b119_z : k.toInt < e.toInt := b119_z
        replace hc_z := rn_aload_n (am_cur_of (i := (23, 1, .aload_n 0, (0, 0, 0), 0)) (by decide +kernel)) g0_z hc_z
        replace hc_z := rn_getR (x := 165) (am_cur_of (i := (24, 3, .getfield 7, (12, 0, 1384), 0)) (by decide +kernel)) (by decide +kernel) hc_z
        replace hc_z := rn_iload (am_cur_of (i := (27, 2, .iload 4, (0, 0, 0), 0)) (by decide +kernel)) g4_z hc_z
        replace hc_z := rn_iaload (N := 700) (q := k.toNatClampNeg) (v := T k.toNatClampNeg) (am_cur_of (i := (29, 1, .iaload, (0, 0, 0), 0)) (by decide +kernel)) (by decide +kernel) rfl (r7_z _ (by omega)) hc_z
        obtain ⟨p124_z, hc_z⟩ := hc_z
        replace hc_z := rn_bipush (w := 96) (am_cur_of (i := (30, 2, .bipush 96, (0, 0, 0), 0)) (by decide +kernel)) (by decide) hc_z
        replace hc_z := rn_isub (w := (T k.toNatClampNeg) - 96) (am_cur_of (i := (32, 1, .isub, (0, 0, 0), 0)) (by decide +kernel)) rfl hc_z
        replace hc_z := rn_goto (am_cur_of (i := (33, 3, .goto 4, (23, 0, 0), 0)) (by decide +kernel)) hc_z
        replace hc_z := rn_ior (w := (v <<< (5 &&& 31)) ||| ((T k.toNatClampNeg) - 96)) (am_cur_of (i := (37, 1, .ior, (0, 0, 0), 0)) (by decide +kernel)) rfl hc_z
        replace hc_z := rn_istore_n (am_cur_of (i := (38, 1, .istore_n 3, (0, 0, 0), 0)) (by decide +kernel)) hc_z
        obtain ⟨_, s125_z, s126_z, g3_z, hc_z⟩ := hc_z
        replace g0_z := s125_z 0 _ (by decide) rfl g0_z
        replace g1_z := s125_z 1 _ (by decide) rfl g1_z
        replace g2_z := s125_z 2 _ (by decide) rfl g2_z
        replace g4_z := s125_z 4 _ (by decide) rfl g4_z
        clear s125_z s126_z
        replace hc_z := rn_iinc (w := k + 1) (am_cur_of (i := (39, 3, .iinc 4 1, (0, 0, 0), 0)) (by decide +kernel)) g4_z rfl hc_z
        obtain ⟨_, s127_z, s128_z, g4_z, hc_z⟩ := hc_z
        replace g0_z := s127_z 0 _ (by decide) rfl g0_z
        replace g1_z := s127_z 1 _ (by decide) rfl g1_z
        replace g2_z := s127_z 2 _ (by decide) rfl g2_z
        replace g3_z := s127_z 3 _ (by decide) rfl g3_z
        clear s127_z s128_z
        replace hc_z := rn_gotoL (am_cur_of (i := (42, 3, .goto (-37), (4, 0, 0), 0)) (by decide +kernel)) hc_z
        have hk1_z := rt_c1 (x := k) (by omega) (by omega)
        have hv1_z : (v <<< (5 &&& 31)) ||| ((T k.toNatClampNeg) - 96) = rt_mp T a.toNatClampNeg e.toNatClampNeg (j + 1) := by
          show _ = (rt_mp T a.toNatClampNeg e.toNatClampNeg j <<< (5 &&& 31)) ||| (if a.toNatClampNeg + j < e.toNatClampNeg then T (a.toNatClampNeg + j) - 96 else 0)
          rw [if_pos (by omega), ← hv_z, show a.toNatClampNeg + j = k.toNatClampNeg by omega]
        exact ih_z (j + 1) (k + 1) _ _ (by omega) (by omega) hv1_z g0_z g1_z g2_z g3_z g4_z hc_z
theorem rt_pack {T : Nat → Int32} {S X a e : Int32} {n : Nat} {r : Option Value} {h h' : am_H} (hC : rt_M T S X h) (a0_z : 0 ≤ a.toInt) (e0_z : 0 ≤ e.toInt) (e1_z : e.toInt ≤ S.toInt) (a1_z : a.toInt ≤ S.toInt) (hc_z : rn n am_m154 0 (lv_args 0 [.ref 164, .int a, .int e]) [] h r h') : r = some (.int (rt_mp T a.toNatClampNeg e.toNatClampNeg 6)) ∧ h' = h := by
  have g0_z : am_get (lv_args 0 [.ref 164, .int a, .int e]) 0 = some (.ref 164) := rfl
  have g1_z : am_get (lv_args 0 [.ref 164, .int a, .int e]) 1 = some (.int a) := rfl
  have g2_z : am_get (lv_args 0 [.ref 164, .int a, .int e]) 2 = some (.int e) := rfl
  replace hc_z := rn_iconst (w := 0) (am_cur_of (i := (0, 1, .iconst 0, (0, 0, 0), 0)) (by decide +kernel)) (by decide) hc_z
  replace hc_z := rn_istore_n (am_cur_of (i := (1, 1, .istore_n 3, (0, 0, 0), 0)) (by decide +kernel)) hc_z
  obtain ⟨_, s129_z, s130_z, g3_z, hc_z⟩ := hc_z
  replace g0_z := s129_z 0 _ (by decide) rfl g0_z
  replace g1_z := s129_z 1 _ (by decide) rfl g1_z
  replace g2_z := s129_z 2 _ (by decide) rfl g2_z
  clear s129_z s130_z
  replace hc_z := rn_iload_n (am_cur_of (i := (2, 1, .iload_n 1, (0, 0, 0), 0)) (by decide +kernel)) g1_z hc_z
  replace hc_z := rn_istore (am_cur_of (i := (3, 2, .istore 4, (0, 0, 0), 0)) (by decide +kernel)) hc_z
  obtain ⟨_, s131_z, s132_z, g4_z, hc_z⟩ := hc_z
  replace g0_z := s131_z 0 _ (by decide) rfl g0_z
  replace g1_z := s131_z 1 _ (by decide) rfl g1_z
  replace g2_z := s131_z 2 _ (by decide) rfl g2_z
  replace g3_z := s131_z 3 _ (by decide) rfl g3_z
  clear s131_z s132_z
  exact rt_pkl hC a0_z e0_z e1_z a1_z _ 0 a 0 _ (by decide) (by omega) rfl g0_z g1_z g2_z g3_z g4_z hc_z
/-- where the k-th of the model's words begins, how long it is -/
def rt_off (k : Nat) : Nat := ([0, 4, 11, 16, 21, 26, 32, 37, 42, 46, 51, 56, 61, 65, 68, 72, 77, 82, 87, 94, 101] : List Nat).getD k 0
def rt_ln (k : Nat) : Nat := ([3, 6, 4, 4, 4, 5, 4, 4, 3, 4, 4, 4, 3, 2, 3, 4, 4, 4, 6, 6] : List Nat).getD k 0
def rt_is (T : Nat → Int32) (a e : Nat) (k : Nat) : Prop := a + rt_ln k = e ∧ ∀ j, j < rt_ln k → ab_words (rt_off k + j) = T (a + j)
theorem rt_wA {T : Nat → Int32} {S X a e f : Int32} {r : Option Value} {h h' : am_H} {o l : Nat} {k : Int32} (hC : rt_M T S X h) (a0_z : 0 ≤ a.toInt) (e1_z : e.toInt ≤ S.toInt) (a1_z : a.toInt ≤ e.toInt) (hf_z : f.toInt = o) (hol : o + l < 101) (hw_z : ∀ j, j < l → ¬ ab_words (o + j) = 32) (hz_z : ab_words (o + l) = 32) : ∀ (n j : Nat) (c : Int32) (ls : am_L), c.toInt = j → j ≤ l → am_get ls 0 = some (.ref 164) → am_get ls 1 = some (.int a) → am_get ls 2 = some (.int e) → am_get ls 3 = some (.int k) → am_get ls 4 = some (.int f) → am_get ls 5 = some (.int c) → rn n am_m153 11 ls [] h r h' → ∃ n2_z ls2_z c2_z, c2_z.toInt = (l : Int) ∧ am_get ls2_z 0 = some (.ref 164) ∧ am_get ls2_z 1 = some (.int a) ∧ am_get ls2_z 2 = some (.int e) ∧ am_get ls2_z 3 = some (.int k) ∧ am_get ls2_z 4 = some (.int f) ∧ am_get ls2_z 5 = some (.int c2_z) ∧ rn n2_z am_m153 21 ls2_z [] h r h' := by
  obtain ⟨r2_z, r3_z, r4_z, r5_z, r6_z, r7_z, r8_z⟩ := hC
  have cS_z := rt_cl (x := S) (by omega)
  have ca_z := rt_cl a0_z
  have ce_z := rt_cl (x := e) (by omega)
  have cf_z := rt_cl (x := f) (by omega)
  intro n
  induction n with
  | zero => intro j c ls hj_z hl_z g0_z g1_z g2_z g3_z g4_z g5_z hc_z; exact absurd hc_z rn_0
  | succ n ih_z =>
    intro j c ls hj_z hl_z g0_z g1_z g2_z g3_z g4_z g5_z hc_z
    have cc_z := rt_cl (x := c) (by omega)
    have hfc := ab_iadd (x := f) (y := c) (by omega) (by omega)
    have cfc := rt_cl (x := f + c) (by omega)
    have z32_z : (32 : Int32).toInt = 32 := by decide
    replace hc_z := rn_aload_n (am_cur_of (i := (18, 1, .aload_n 0, (0, 0, 0), 0)) (by decide +kernel)) g0_z hc_z
    replace hc_z := rn_getR (x := 166) (am_cur_of (i := (19, 3, .getfield 13, (12, 3, 1387), 0)) (by decide +kernel)) (by decide +kernel) hc_z
    replace hc_z := rn_iload (am_cur_of (i := (22, 2, .iload 4, (0, 0, 0), 0)) (by decide +kernel)) g4_z hc_z
    replace hc_z := rn_iload (am_cur_of (i := (24, 2, .iload 5, (0, 0, 0), 0)) (by decide +kernel)) g5_z hc_z
    replace hc_z := rn_iadd (w := f + c) (am_cur_of (i := (26, 1, .iadd, (0, 0, 0), 0)) (by decide +kernel)) rfl hc_z
    replace hc_z := rn_iaload (N := 101) (q := (f + c).toNatClampNeg) (v := ab_words (o + j)) (am_cur_of (i := (27, 1, .iaload, (0, 0, 0), 0)) (by decide +kernel)) (by decide +kernel) rfl (by rw [show (f + c).toNatClampNeg = o + j by omega]; exact r8_z _ (by omega)) hc_z
    obtain ⟨p133_z, hc_z⟩ := hc_z
    replace hc_z := rn_bipush (w := 32) (am_cur_of (i := (28, 2, .bipush 32, (0, 0, 0), 0)) (by decide +kernel)) (by decide) hc_z
    replace hc_z := rn_cmp (am_cur_of (i := (30, 3, .if_icmp .eq 9, (21, 0, 0), 0)) (by decide +kernel)) hc_z
    rcases hc_z with ⟨b134_z, hc_z⟩ | ⟨b134_z, hc_z⟩
    · replace b134_z : (ab_words (o + j)) = (32 : Int32) ∧ (ab_words (o + j)).toInt = (32 : Int32).toInt := b134_z
      have hjl : j = l := Nat.le_antisymm hl_z (Nat.le_of_not_lt (fun q => hw_z j q b134_z.1))
      exact ⟨_, ls, c, by omega, g0_z, g1_z, g2_z, g3_z, g4_z, g5_z, hc_z⟩
    · replace b134_z : ¬ (ab_words (o + j)) = (32 : Int32) ∧ ¬ (ab_words (o + j)).toInt = (32 : Int32).toInt := b134_z
      replace hc_z := rn_iinc (w := c + 1) (am_cur_of (i := (33, 3, .iinc 5 1, (0, 0, 0), 0)) (by decide +kernel)) g5_z rfl hc_z
      obtain ⟨_, s135_z, s136_z, g5_z, hc_z⟩ := hc_z
      replace g0_z := s135_z 0 _ (by decide) rfl g0_z
      replace g1_z := s135_z 1 _ (by decide) rfl g1_z
      replace g2_z := s135_z 2 _ (by decide) rfl g2_z
      replace g3_z := s135_z 3 _ (by decide) rfl g3_z
      replace g4_z := s135_z 4 _ (by decide) rfl g4_z
      clear s135_z s136_z
      replace hc_z := rn_gotoL (am_cur_of (i := (36, 3, .goto (-18), (11, 0, 0), 0)) (by decide +kernel)) hc_z
      have hjl : ¬ j = l := fun q => b134_z.1 (q ▸ hz_z)
      have hc1_z := rt_c1 (x := c) (by omega) (by omega)
      exact ih_z (j + 1) (c + 1) _ (by omega) (by omega) g0_z g1_z g2_z g3_z g4_z g5_z hc_z
def rt_wi (T : Nat → Int32) (a e o l : Nat) : Prop := a + l = e ∧ ∀ j, j < l → ab_words (o + j) = T (a + j)
theorem rt_wB {T : Nat → Int32} {S X a e f : Int32} {r : Option Value} {h h' : am_H} {o l : Nat} {k : Int32} (hC : rt_M T S X h) (a0_z : 0 ≤ a.toInt) (e1_z : e.toInt ≤ S.toInt) (a1_z : a.toInt ≤ e.toInt) (hf_z : f.toInt = o) (hol : o + l < 101) (hw_z : ∀ j, j < l → ¬ ab_words (o + j) = 32) (hz_z : ab_words (o + l) = 32) : ∀ (n j : Nat) (c l2_z s : Int32) (ls : am_L), c.toInt = j → j ≤ l → l2_z.toInt = l → ((s = 1 ∧ a.toNatClampNeg + l = e.toNatClampNeg ∧ ∀ j', j' < j → ab_words (o + j') = T (a.toNatClampNeg + j')) ∨ (s = 0 ∧ ¬ rt_wi T a.toNatClampNeg e.toNatClampNeg o l)) → am_get ls 0 = some (.ref 164) → am_get ls 1 = some (.int a) → am_get ls 2 = some (.int e) → am_get ls 3 = some (.int k) → am_get ls 4 = some (.int f) → am_get ls 5 = some (.int l2_z) → am_get ls 6 = some (.int s) → am_get ls 7 = some (.int c) → rn n am_m153 32 ls [] h r h' → ∃ n2_z ls2_z s2_z, ((s2_z = 1 ∧ rt_wi T a.toNatClampNeg e.toNatClampNeg o l) ∨ (s2_z = 0 ∧ ¬ rt_wi T a.toNatClampNeg e.toNatClampNeg o l)) ∧ am_get ls2_z 0 = some (.ref 164) ∧ am_get ls2_z 1 = some (.int a) ∧ am_get ls2_z 2 = some (.int e) ∧ am_get ls2_z 3 = some (.int k) ∧ am_get ls2_z 4 = some (.int f) ∧ am_get ls2_z 5 = some (.int l2_z) ∧ am_get ls2_z 6 = some (.int s2_z) ∧ rn n2_z am_m153 56 ls2_z [] h r h' := by
  obtain ⟨r2_z, r3_z, r4_z, r5_z, r6_z, r7_z, r8_z⟩ := hC
  have cS_z := rt_cl (x := S) (by omega)
  have ca_z := rt_cl a0_z
  have ce_z := rt_cl (x := e) (by omega)
  have cf_z := rt_cl (x := f) (by omega)
  intro n
  induction n with
  | zero => intro j c l2_z s ls hj_z hl_z hl2_z hs_z g0_z g1_z g2_z g3_z g4_z g5_z g6_z g7_z hc_z; exact absurd hc_z rn_0
  | succ n ih_z =>
    intro j c l2_z s ls hj_z hl_z hl2_z hs_z g0_z g1_z g2_z g3_z g4_z g5_z g6_z g7_z hc_z
    have cc_z := rt_cl (x := c) (by omega)
    have hfc := ab_iadd (x := f) (y := c) (by omega) (by omega)
    have cfc := rt_cl (x := f + c) (by omega)
    have hac := ab_iadd (x := a) (y := c) (by omega) (by omega)
    have cac := rt_cl (x := a + c) (by omega)
    have z0_z : (0 : Int32).toInt = 0 := by decide
    replace hc_z := rn_iload (am_cur_of (i := (57, 2, .iload 7, (0, 0, 0), 0)) (by decide +kernel)) g7_z hc_z
    replace hc_z := rn_iload (am_cur_of (i := (59, 2, .iload 5, (0, 0, 0), 0)) (by decide +kernel)) g5_z hc_z
    replace hc_z := rn_cmp (am_cur_of (i := (61, 3, .if_icmp .ge 43, (56, 0, 0), 0)) (by decide +kernel)) hc_z
    rcases hc_z with ⟨b137_z, hc_z⟩ | ⟨b137_z, hc_z⟩
    · replace b137_z : l2_z.toInt ≤ c.toInt := b137_z
      refine ⟨_, ls, s, ?_, g0_z, g1_z, g2_z, g3_z, g4_z, g5_z, g6_z, hc_z⟩
      rcases hs_z with ⟨h1_z, h2_z, h3_z⟩ | hs_z
      · exact Or.inl ⟨h1_z, h2_z, fun j' hj_z' => h3_z j' (by omega)⟩
      · exact Or.inr hs_z
    · replace b137_z : c.toInt < l2_z.toInt := b137_z
      replace hc_z := rn_iload (am_cur_of (i := (64, 2, .iload 6, (0, 0, 0), 0)) (by decide +kernel)) g6_z hc_z
      replace hc_z := rn_if (am_cur_of (i := (66, 3, .ifCond .eq 38, (56, 0, 0), 0)) (by decide +kernel)) hc_z
      rcases hc_z with ⟨b138_z, hc_z⟩ | ⟨b138_z, hc_z⟩
      · replace b138_z : s = (0 : Int32) ∧ s.toInt = (0 : Int32).toInt := b138_z
        rcases hs_z with ⟨h1_z, -⟩ | hs_z
        · exact absurd (h1_z.symm.trans b138_z.1) (by decide)
        · exact ⟨_, ls, s, Or.inr hs_z, g0_z, g1_z, g2_z, g3_z, g4_z, g5_z, g6_z, hc_z⟩
      · replace b138_z : ¬ s = (0 : Int32) ∧ ¬ s.toInt = (0 : Int32).toInt := b138_z
        rcases hs_z with ⟨h1_z, h2_z, h3_z⟩ | ⟨hs_z, -⟩
        rotate_left
        · exact absurd hs_z b138_z.1
        replace hc_z := rn_aload_n (am_cur_of (i := (69, 1, .aload_n 0, (0, 0, 0), 0)) (by decide +kernel)) g0_z hc_z
        replace hc_z := rn_getR (x := 166) (am_cur_of (i := (70, 3, .getfield 13, (12, 3, 1387), 0)) (by decide +kernel)) (by decide +kernel) hc_z
        replace hc_z := rn_iload (am_cur_of (i := (73, 2, .iload 4, (0, 0, 0), 0)) (by decide +kernel)) g4_z hc_z
        replace hc_z := rn_iload (am_cur_of (i := (75, 2, .iload 7, (0, 0, 0), 0)) (by decide +kernel)) g7_z hc_z
        replace hc_z := rn_iadd (w := f + c) (am_cur_of (i := (77, 1, .iadd, (0, 0, 0), 0)) (by decide +kernel)) rfl hc_z
        replace hc_z := rn_iaload (N := 101) (q := (f + c).toNatClampNeg) (v := ab_words (o + j)) (am_cur_of (i := (78, 1, .iaload, (0, 0, 0), 0)) (by decide +kernel)) (by decide +kernel) rfl (by rw [show (f + c).toNatClampNeg = o + j by omega]; exact r8_z _ (by omega)) hc_z
        obtain ⟨p139_z, hc_z⟩ := hc_z
        replace hc_z := rn_aload_n (am_cur_of (i := (79, 1, .aload_n 0, (0, 0, 0), 0)) (by decide +kernel)) g0_z hc_z
        replace hc_z := rn_getR (x := 165) (am_cur_of (i := (80, 3, .getfield 7, (12, 0, 1384), 0)) (by decide +kernel)) (by decide +kernel) hc_z
        replace hc_z := rn_iload_n (am_cur_of (i := (83, 1, .iload_n 1, (0, 0, 0), 0)) (by decide +kernel)) g1_z hc_z
        replace hc_z := rn_iload (am_cur_of (i := (84, 2, .iload 7, (0, 0, 0), 0)) (by decide +kernel)) g7_z hc_z
        replace hc_z := rn_iadd (w := a + c) (am_cur_of (i := (86, 1, .iadd, (0, 0, 0), 0)) (by decide +kernel)) rfl hc_z
        replace hc_z := rn_iaload (N := 700) (q := (a + c).toNatClampNeg) (v := T (a.toNatClampNeg + j)) (am_cur_of (i := (87, 1, .iaload, (0, 0, 0), 0)) (by decide +kernel)) (by decide +kernel) rfl (by rw [show (a + c).toNatClampNeg = a.toNatClampNeg + j by omega]; exact r7_z _ (by omega)) hc_z
        obtain ⟨p140_z, hc_z⟩ := hc_z
        replace hc_z := rn_cmp (am_cur_of (i := (88, 3, .if_icmp .ne 7, (52, 0, 0), 0)) (by decide +kernel)) hc_z
        rcases hc_z with ⟨b141_z, hc_z⟩ | ⟨b141_z, hc_z⟩
        · replace b141_z : ¬ (ab_words (o + j)) = (T (a.toNatClampNeg + j)) ∧ ¬ (ab_words (o + j)).toInt = (T (a.toNatClampNeg + j)).toInt := b141_z
          replace hc_z := rn_iconst (w := 0) (am_cur_of (i := (95, 1, .iconst 0, (0, 0, 0), 0)) (by decide +kernel)) (by decide) hc_z
          replace hc_z := rn_istore (am_cur_of (i := (96, 2, .istore 6, (0, 0, 0), 0)) (by decide +kernel)) hc_z
          obtain ⟨_, s142_z, s143_z, g6_z, hc_z⟩ := hc_z
          replace g0_z := s142_z 0 _ (by decide) rfl g0_z
          replace g1_z := s142_z 1 _ (by decide) rfl g1_z
          replace g2_z := s142_z 2 _ (by decide) rfl g2_z
          replace g3_z := s142_z 3 _ (by decide) rfl g3_z
          replace g4_z := s142_z 4 _ (by decide) rfl g4_z
          replace g5_z := s142_z 5 _ (by decide) rfl g5_z
          replace g7_z := s142_z 7 _ (by decide) rfl g7_z
          clear s142_z s143_z
          replace hc_z := rn_iinc (w := c + 1) (am_cur_of (i := (98, 3, .iinc 7 1, (0, 0, 0), 0)) (by decide +kernel)) g7_z rfl hc_z
          obtain ⟨_, s144_z, s145_z, g7_z, hc_z⟩ := hc_z
          replace g0_z := s144_z 0 _ (by decide) rfl g0_z
          replace g1_z := s144_z 1 _ (by decide) rfl g1_z
          replace g2_z := s144_z 2 _ (by decide) rfl g2_z
          replace g3_z := s144_z 3 _ (by decide) rfl g3_z
          replace g4_z := s144_z 4 _ (by decide) rfl g4_z
          replace g5_z := s144_z 5 _ (by decide) rfl g5_z
          replace g6_z := s144_z 6 _ (by decide) rfl g6_z
          clear s144_z s145_z
          replace hc_z := rn_gotoL (am_cur_of (i := (101, 3, .goto (-44), (32, 0, 0), 0)) (by decide +kernel)) hc_z
          have hc1_z := rt_c1 (x := c) (by omega) (by omega)
          exact ih_z (j + 1) (c + 1) l2_z _ _ (by omega) (by omega) hl2_z (Or.inr ⟨rfl, fun q => b141_z.1 (q.2 j (by omega))⟩) g0_z g1_z g2_z g3_z g4_z g5_z g6_z g7_z hc_z
        · replace b141_z : (ab_words (o + j)) = (T (a.toNatClampNeg + j)) ∧ (ab_words (o + j)).toInt = (T (a.toNatClampNeg + j)).toInt := b141_z
          replace hc_z := rn_iconst (w := 1) (am_cur_of (i := (91, 1, .iconst 1, (0, 0, 0), 0)) (by decide +kernel)) (by decide) hc_z
          replace hc_z := rn_goto (am_cur_of (i := (92, 3, .goto 4, (53, 0, 0), 0)) (by decide +kernel)) hc_z
          replace hc_z := rn_istore (am_cur_of (i := (96, 2, .istore 6, (0, 0, 0), 0)) (by decide +kernel)) hc_z
          obtain ⟨_, s146_z, s147_z, g6_z, hc_z⟩ := hc_z
          replace g0_z := s146_z 0 _ (by decide) rfl g0_z
          replace g1_z := s146_z 1 _ (by decide) rfl g1_z
          replace g2_z := s146_z 2 _ (by decide) rfl g2_z
          replace g3_z := s146_z 3 _ (by decide) rfl g3_z
          replace g4_z := s146_z 4 _ (by decide) rfl g4_z
          replace g5_z := s146_z 5 _ (by decide) rfl g5_z
          replace g7_z := s146_z 7 _ (by decide) rfl g7_z
          clear s146_z s147_z
          replace hc_z := rn_iinc (w := c + 1) (am_cur_of (i := (98, 3, .iinc 7 1, (0, 0, 0), 0)) (by decide +kernel)) g7_z rfl hc_z
          obtain ⟨_, s148_z, s149_z, g7_z, hc_z⟩ := hc_z
          replace g0_z := s148_z 0 _ (by decide) rfl g0_z
          replace g1_z := s148_z 1 _ (by decide) rfl g1_z
          replace g2_z := s148_z 2 _ (by decide) rfl g2_z
          replace g3_z := s148_z 3 _ (by decide) rfl g3_z
          replace g4_z := s148_z 4 _ (by decide) rfl g4_z
          replace g5_z := s148_z 5 _ (by decide) rfl g5_z
          replace g6_z := s148_z 6 _ (by decide) rfl g6_z
          clear s148_z s149_z
          replace hc_z := rn_gotoL (am_cur_of (i := (101, 3, .goto (-44), (32, 0, 0), 0)) (by decide +kernel)) hc_z
          have hc1_z := rt_c1 (x := c) (by omega) (by omega)
          have hs1_z : ∀ j', j' < j + 1 → ab_words (o + j') = T (a.toNatClampNeg + j') := by
            intro j' hj_z'
            by_cases q : j' = j
            · rw [q]; exact b141_z.1
            · exact h3_z j' (by omega)
          exact ih_z (j + 1) (c + 1) l2_z _ _ (by omega) (by omega) hl2_z (Or.inl ⟨rfl, h2_z, hs1_z⟩) g0_z g1_z g2_z g3_z g4_z g5_z g6_z g7_z hc_z
theorem rt_wa {T : Nat → Int32} {S X a e f : Int32} {r : Option Value} {h h' : am_H} {o l : Nat} {k f2_z : Int32} {n : Nat} {ls : am_L} (hC : rt_M T S X h) (a0_z : 0 ≤ a.toInt) (e1_z : e.toInt ≤ S.toInt) (a1_z : a.toInt ≤ e.toInt) (hf_z : f.toInt = o) (hol : o + l < 101) (hw_z : ∀ j, j < l → ¬ ab_words (o + j) = 32) (hz_z : ab_words (o + l) = 32) (hf2_z : f2_z.toInt = o + l + 1) (g0_z : am_get ls 0 = some (.ref 164)) (g1_z : am_get ls 1 = some (.int a)) (g2_z : am_get ls 2 = some (.int e)) (g3_z : am_get ls 3 = some (.int k)) (g4_z : am_get ls 4 = some (.int f)) (hc_z : rn n am_m153 4 ls [] h r h') : (r = some (.int k) ∧ h' = h ∧ rt_wi T a.toNatClampNeg e.toNatClampNeg o l) ∨ (¬ rt_wi T a.toNatClampNeg e.toNatClampNeg o l ∧ ∃ n2_z ls2_z, am_get ls2_z 0 = some (.ref 164) ∧ am_get ls2_z 1 = some (.int a) ∧ am_get ls2_z 2 = some (.int e) ∧ am_get ls2_z 3 = some (.int (k + 1)) ∧ am_get ls2_z 4 = some (.int f2_z) ∧ rn n2_z am_m153 4 ls2_z [] h r h') := by
  have z0_z : (0 : Int32).toInt = 0 := by decide
  have hC2 := hC
  obtain ⟨r2_z, r3_z, r4_z, r5_z, r6_z, r7_z, r8_z⟩ := hC2
  have cS_z := rt_cl (x := S) (by omega)
  have ca_z := rt_cl a0_z
  have ce_z := rt_cl (x := e) (by omega)
  have hsub := ab_isub (x := e) (y := a) (by omega) (by omega)
  have z101_z : (101 : Int32).toInt = 101 := by decide
  replace hc_z := rn_iload (am_cur_of (i := (5, 2, .iload 4, (0, 0, 0), 0)) (by decide +kernel)) g4_z hc_z
  replace hc_z := rn_aload_n (am_cur_of (i := (7, 1, .aload_n 0, (0, 0, 0), 0)) (by decide +kernel)) g0_z hc_z
  replace hc_z := rn_getR (x := 166) (am_cur_of (i := (8, 3, .getfield 13, (12, 3, 1387), 0)) (by decide +kernel)) (by decide +kernel) hc_z
  replace hc_z := rn_len (ty := .int) (N := 101) (w := 101) (am_cur_of (i := (11, 1, .arraylength, (0, 0, 0), 0)) (by decide +kernel)) (by decide +kernel) (by decide) hc_z
  replace hc_z := rn_cmp (am_cur_of (i := (12, 3, .if_icmp .ge 114, (68, 0, 0), 0)) (by decide +kernel)) hc_z
  rcases hc_z with ⟨b150_z, hc_z⟩ | ⟨b150_z, hc_z⟩
  · replace b150_z : (101 : Int32).toInt ≤ f.toInt := b150_z
    omega
  · replace b150_z : f.toInt < (101 : Int32).toInt := b150_z
    replace hc_z := rn_iconst (w := 0) (am_cur_of (i := (15, 1, .iconst 0, (0, 0, 0), 0)) (by decide +kernel)) (by decide) hc_z
    replace hc_z := rn_istore (am_cur_of (i := (16, 2, .istore 5, (0, 0, 0), 0)) (by decide +kernel)) hc_z
    obtain ⟨_, s151_z, s152_z, g5_z, hc_z⟩ := hc_z
    replace g0_z := s151_z 0 _ (by decide) rfl g0_z
    replace g1_z := s151_z 1 _ (by decide) rfl g1_z
    replace g2_z := s151_z 2 _ (by decide) rfl g2_z
    replace g3_z := s151_z 3 _ (by decide) rfl g3_z
    replace g4_z := s151_z 4 _ (by decide) rfl g4_z
    clear s151_z s152_z
    obtain ⟨n2_z, ls2_z, c2_z, hc2_z, g0_z, g1_z, g2_z, g3_z, g4_z, g5_z, hc_z⟩ := rt_wA hC a0_z e1_z a1_z hf_z hol hw_z hz_z _ 0 0 _ rfl (Nat.zero_le _) g0_z g1_z g2_z g3_z g4_z g5_z hc_z
    replace hc_z := rn_iload (am_cur_of (i := (39, 2, .iload 5, (0, 0, 0), 0)) (by decide +kernel)) g5_z hc_z
    replace hc_z := rn_iload_n (am_cur_of (i := (41, 1, .iload_n 2, (0, 0, 0), 0)) (by decide +kernel)) g2_z hc_z
    replace hc_z := rn_iload_n (am_cur_of (i := (42, 1, .iload_n 1, (0, 0, 0), 0)) (by decide +kernel)) g1_z hc_z
    replace hc_z := rn_isub (w := e - a) (am_cur_of (i := (43, 1, .isub, (0, 0, 0), 0)) (by decide +kernel)) rfl hc_z
    replace hc_z := rn_cmp (am_cur_of (i := (44, 3, .if_icmp .ne 7, (28, 0, 0), 0)) (by decide +kernel)) hc_z
    rcases hc_z with ⟨b153_z, hc_z⟩ | ⟨b153_z, hc_z⟩
    · replace b153_z : ¬ c2_z = (e - a) ∧ ¬ c2_z.toInt = (e - a).toInt := b153_z
      replace hc_z := rn_iconst (w := 0) (am_cur_of (i := (51, 1, .iconst 0, (0, 0, 0), 0)) (by decide +kernel)) (by decide) hc_z
      replace hc_z := rn_istore (am_cur_of (i := (52, 2, .istore 6, (0, 0, 0), 0)) (by decide +kernel)) hc_z
      obtain ⟨_, s154_z, s155_z, g6_z, hc_z⟩ := hc_z
      replace g0_z := s154_z 0 _ (by decide) rfl g0_z
      replace g1_z := s154_z 1 _ (by decide) rfl g1_z
      replace g2_z := s154_z 2 _ (by decide) rfl g2_z
      replace g3_z := s154_z 3 _ (by decide) rfl g3_z
      replace g4_z := s154_z 4 _ (by decide) rfl g4_z
      replace g5_z := s154_z 5 _ (by decide) rfl g5_z
      clear s154_z s155_z
      replace hc_z := rn_iconst (w := 0) (am_cur_of (i := (54, 1, .iconst 0, (0, 0, 0), 0)) (by decide +kernel)) (by decide) hc_z
      replace hc_z := rn_istore (am_cur_of (i := (55, 2, .istore 7, (0, 0, 0), 0)) (by decide +kernel)) hc_z
      obtain ⟨_, s156_z, s157_z, g7_z, hc_z⟩ := hc_z
      replace g0_z := s156_z 0 _ (by decide) rfl g0_z
      replace g1_z := s156_z 1 _ (by decide) rfl g1_z
      replace g2_z := s156_z 2 _ (by decide) rfl g2_z
      replace g3_z := s156_z 3 _ (by decide) rfl g3_z
      replace g4_z := s156_z 4 _ (by decide) rfl g4_z
      replace g5_z := s156_z 5 _ (by decide) rfl g5_z
      replace g6_z := s156_z 6 _ (by decide) rfl g6_z
      clear s156_z s157_z
      obtain ⟨n3_z, ls3_z, s3_z, hs3_z, g0_z, g1_z, g2_z, g3_z, g4_z, g5_z, g6_z, hc_z⟩ := rt_wB hC a0_z e1_z a1_z hf_z hol hw_z hz_z _ 0 0 c2_z 0 _ rfl (Nat.zero_le _) hc2_z (Or.inr ⟨rfl, fun q => by have := q.1; omega⟩) g0_z g1_z g2_z g3_z g4_z g5_z g6_z g7_z hc_z
      replace hc_z := rn_iload (am_cur_of (i := (104, 2, .iload 6, (0, 0, 0), 0)) (by decide +kernel)) g6_z hc_z
      replace hc_z := rn_if (am_cur_of (i := (106, 3, .ifCond .eq 5, (60, 0, 0), 0)) (by decide +kernel)) hc_z
      rcases hc_z with ⟨b158_z, hc_z⟩ | ⟨b158_z, hc_z⟩
      · replace b158_z : s3_z = (0 : Int32) ∧ s3_z.toInt = (0 : Int32).toInt := b158_z
        replace hc_z := rn_iload (am_cur_of (i := (111, 2, .iload 4, (0, 0, 0), 0)) (by decide +kernel)) g4_z hc_z
        replace hc_z := rn_iload (am_cur_of (i := (113, 2, .iload 5, (0, 0, 0), 0)) (by decide +kernel)) g5_z hc_z
        replace hc_z := rn_iconst (w := 1) (am_cur_of (i := (115, 1, .iconst 1, (0, 0, 0), 0)) (by decide +kernel)) (by decide) hc_z
        replace hc_z := rn_iadd (w := c2_z + 1) (am_cur_of (i := (116, 1, .iadd, (0, 0, 0), 0)) (by decide +kernel)) rfl hc_z
        replace hc_z := rn_iadd (w := f + (c2_z + 1)) (am_cur_of (i := (117, 1, .iadd, (0, 0, 0), 0)) (by decide +kernel)) rfl hc_z
        replace hc_z := rn_istore (am_cur_of (i := (118, 2, .istore 4, (0, 0, 0), 0)) (by decide +kernel)) hc_z
        obtain ⟨_, s159_z, s160_z, g4_z, hc_z⟩ := hc_z
        replace g0_z := s159_z 0 _ (by decide) rfl g0_z
        replace g1_z := s159_z 1 _ (by decide) rfl g1_z
        replace g2_z := s159_z 2 _ (by decide) rfl g2_z
        replace g3_z := s159_z 3 _ (by decide) rfl g3_z
        replace g5_z := s159_z 5 _ (by decide) rfl g5_z
        replace g6_z := s159_z 6 _ (by decide) rfl g6_z
        clear s159_z s160_z
        replace hc_z := rn_iinc (w := k + 1) (am_cur_of (i := (120, 3, .iinc 3 1, (0, 0, 0), 0)) (by decide +kernel)) g3_z rfl hc_z
        obtain ⟨_, s161_z, s162_z, g3_z, hc_z⟩ := hc_z
        replace g0_z := s161_z 0 _ (by decide) rfl g0_z
        replace g1_z := s161_z 1 _ (by decide) rfl g1_z
        replace g2_z := s161_z 2 _ (by decide) rfl g2_z
        replace g4_z := s161_z 4 _ (by decide) rfl g4_z
        replace g5_z := s161_z 5 _ (by decide) rfl g5_z
        replace g6_z := s161_z 6 _ (by decide) rfl g6_z
        clear s161_z s162_z
        replace hc_z := rn_goto (am_cur_of (i := (123, 3, .goto (-118), (4, 0, 0), 0)) (by decide +kernel)) hc_z
        rcases hs3_z with ⟨q, -⟩ | ⟨-, q⟩
        · exact absurd (q.symm.trans b158_z.1) (by decide)
        · refine Or.inr ⟨q, _, _, g0_z, g1_z, g2_z, g3_z, ?_, hc_z⟩
          rw [g4_z]
          have z1_z : (1 : Int32).toInt = 1 := by decide
          have y1_z : (c2_z + 1).toInt = c2_z.toInt + 1 := rt_c1 (by omega) (by omega)
          have y2_z : (f + (c2_z + 1)).toInt = f.toInt + (c2_z.toInt + 1) := by rw [ab_iadd (by omega) (by omega), y1_z]
          have y3_z : f + (c2_z + 1) = f2_z := Int32.toInt_inj.mp (by omega)
          rw [y3_z]
      · replace b158_z : ¬ s3_z = (0 : Int32) ∧ ¬ s3_z.toInt = (0 : Int32).toInt := b158_z
        replace hc_z := rn_iload_n (am_cur_of (i := (109, 1, .iload_n 3, (0, 0, 0), 0)) (by decide +kernel)) g3_z hc_z
        replace hc_z := rn_iret (am_cur_of (i := (110, 1, .ireturn, (0, 0, 0), 0)) (by decide +kernel)) hc_z
        obtain ⟨e163_z, e164_z⟩ := hc_z
        rcases hs3_z with ⟨-, q⟩ | ⟨q, -⟩
        · exact Or.inl ⟨e163_z, e164_z, q⟩
        · exact absurd q b158_z.1
    · replace b153_z : c2_z = (e - a) ∧ c2_z.toInt = (e - a).toInt := b153_z
      replace hc_z := rn_iconst (w := 1) (am_cur_of (i := (47, 1, .iconst 1, (0, 0, 0), 0)) (by decide +kernel)) (by decide) hc_z
      replace hc_z := rn_goto (am_cur_of (i := (48, 3, .goto 4, (29, 0, 0), 0)) (by decide +kernel)) hc_z
      replace hc_z := rn_istore (am_cur_of (i := (52, 2, .istore 6, (0, 0, 0), 0)) (by decide +kernel)) hc_z
      obtain ⟨_, s165_z, s166_z, g6_z, hc_z⟩ := hc_z
      replace g0_z := s165_z 0 _ (by decide) rfl g0_z
      replace g1_z := s165_z 1 _ (by decide) rfl g1_z
      replace g2_z := s165_z 2 _ (by decide) rfl g2_z
      replace g3_z := s165_z 3 _ (by decide) rfl g3_z
      replace g4_z := s165_z 4 _ (by decide) rfl g4_z
      replace g5_z := s165_z 5 _ (by decide) rfl g5_z
      clear s165_z s166_z
      replace hc_z := rn_iconst (w := 0) (am_cur_of (i := (54, 1, .iconst 0, (0, 0, 0), 0)) (by decide +kernel)) (by decide) hc_z
      replace hc_z := rn_istore (am_cur_of (i := (55, 2, .istore 7, (0, 0, 0), 0)) (by decide +kernel)) hc_z
      obtain ⟨_, s167_z, s168_z, g7_z, hc_z⟩ := hc_z
      replace g0_z := s167_z 0 _ (by decide) rfl g0_z
      replace g1_z := s167_z 1 _ (by decide) rfl g1_z
      replace g2_z := s167_z 2 _ (by decide) rfl g2_z
      replace g3_z := s167_z 3 _ (by decide) rfl g3_z
      replace g4_z := s167_z 4 _ (by decide) rfl g4_z
      replace g5_z := s167_z 5 _ (by decide) rfl g5_z
      replace g6_z := s167_z 6 _ (by decide) rfl g6_z
      clear s167_z s168_z
      obtain ⟨n3_z, ls3_z, s3_z, hs3_z, g0_z, g1_z, g2_z, g3_z, g4_z, g5_z, g6_z, hc_z⟩ := rt_wB hC a0_z e1_z a1_z hf_z hol hw_z hz_z _ 0 0 c2_z 1 _ rfl (Nat.zero_le _) hc2_z (Or.inl ⟨rfl, by omega, fun j' hj_z' => absurd hj_z' (Nat.not_lt_zero _)⟩) g0_z g1_z g2_z g3_z g4_z g5_z g6_z g7_z hc_z
      replace hc_z := rn_iload (am_cur_of (i := (104, 2, .iload 6, (0, 0, 0), 0)) (by decide +kernel)) g6_z hc_z
      replace hc_z := rn_if (am_cur_of (i := (106, 3, .ifCond .eq 5, (60, 0, 0), 0)) (by decide +kernel)) hc_z
      rcases hc_z with ⟨b169_z, hc_z⟩ | ⟨b169_z, hc_z⟩
      · replace b169_z : s3_z = (0 : Int32) ∧ s3_z.toInt = (0 : Int32).toInt := b169_z
        replace hc_z := rn_iload (am_cur_of (i := (111, 2, .iload 4, (0, 0, 0), 0)) (by decide +kernel)) g4_z hc_z
        replace hc_z := rn_iload (am_cur_of (i := (113, 2, .iload 5, (0, 0, 0), 0)) (by decide +kernel)) g5_z hc_z
        replace hc_z := rn_iconst (w := 1) (am_cur_of (i := (115, 1, .iconst 1, (0, 0, 0), 0)) (by decide +kernel)) (by decide) hc_z
        replace hc_z := rn_iadd (w := c2_z + 1) (am_cur_of (i := (116, 1, .iadd, (0, 0, 0), 0)) (by decide +kernel)) rfl hc_z
        replace hc_z := rn_iadd (w := f + (c2_z + 1)) (am_cur_of (i := (117, 1, .iadd, (0, 0, 0), 0)) (by decide +kernel)) rfl hc_z
        replace hc_z := rn_istore (am_cur_of (i := (118, 2, .istore 4, (0, 0, 0), 0)) (by decide +kernel)) hc_z
        obtain ⟨_, s170_z, s171_z, g4_z, hc_z⟩ := hc_z
        replace g0_z := s170_z 0 _ (by decide) rfl g0_z
        replace g1_z := s170_z 1 _ (by decide) rfl g1_z
        replace g2_z := s170_z 2 _ (by decide) rfl g2_z
        replace g3_z := s170_z 3 _ (by decide) rfl g3_z
        replace g5_z := s170_z 5 _ (by decide) rfl g5_z
        replace g6_z := s170_z 6 _ (by decide) rfl g6_z
        clear s170_z s171_z
        replace hc_z := rn_iinc (w := k + 1) (am_cur_of (i := (120, 3, .iinc 3 1, (0, 0, 0), 0)) (by decide +kernel)) g3_z rfl hc_z
        obtain ⟨_, s172_z, s173_z, g3_z, hc_z⟩ := hc_z
        replace g0_z := s172_z 0 _ (by decide) rfl g0_z
        replace g1_z := s172_z 1 _ (by decide) rfl g1_z
        replace g2_z := s172_z 2 _ (by decide) rfl g2_z
        replace g4_z := s172_z 4 _ (by decide) rfl g4_z
        replace g5_z := s172_z 5 _ (by decide) rfl g5_z
        replace g6_z := s172_z 6 _ (by decide) rfl g6_z
        clear s172_z s173_z
        replace hc_z := rn_goto (am_cur_of (i := (123, 3, .goto (-118), (4, 0, 0), 0)) (by decide +kernel)) hc_z
        rcases hs3_z with ⟨q, -⟩ | ⟨-, q⟩
        · exact absurd (q.symm.trans b169_z.1) (by decide)
        · refine Or.inr ⟨q, _, _, g0_z, g1_z, g2_z, g3_z, ?_, hc_z⟩
          rw [g4_z]
          have z1_z : (1 : Int32).toInt = 1 := by decide
          have y1_z : (c2_z + 1).toInt = c2_z.toInt + 1 := rt_c1 (by omega) (by omega)
          have y2_z : (f + (c2_z + 1)).toInt = f.toInt + (c2_z.toInt + 1) := by rw [ab_iadd (by omega) (by omega), y1_z]
          have y3_z : f + (c2_z + 1) = f2_z := Int32.toInt_inj.mp (by omega)
          rw [y3_z]
      · replace b169_z : ¬ s3_z = (0 : Int32) ∧ ¬ s3_z.toInt = (0 : Int32).toInt := b169_z
        replace hc_z := rn_iload_n (am_cur_of (i := (109, 1, .iload_n 3, (0, 0, 0), 0)) (by decide +kernel)) g3_z hc_z
        replace hc_z := rn_iret (am_cur_of (i := (110, 1, .ireturn, (0, 0, 0), 0)) (by decide +kernel)) hc_z
        obtain ⟨e174_z, e175_z⟩ := hc_z
        rcases hs3_z with ⟨-, q⟩ | ⟨q, -⟩
        · exact Or.inl ⟨e174_z, e175_z, q⟩
        · exact absurd q b169_z.1
theorem rt_wat {T : Nat → Int32} {S X a e : Int32} {r : Option Value} {n : Nat} {h h' : am_H} (hC : rt_M T S X h) (a0_z : 0 ≤ a.toInt) (e1_z : e.toInt ≤ S.toInt) (a1_z : a.toInt ≤ e.toInt) (hc_z : rn n am_m153 0 (lv_args 0 [.ref 164, .int a, .int e]) [] h r h') : h' = h ∧ ((∃ k : Nat, k < 20 ∧ r = some (.int (Int32.ofNat k)) ∧ rt_is T a.toNatClampNeg e.toNatClampNeg k) ∨ (r = some (.int (-1)) ∧ ∀ k, k < 20 → ¬ rt_is T a.toNatClampNeg e.toNatClampNeg k)) := by
  have g0_z : am_get (lv_args 0 [.ref 164, .int a, .int e]) 0 = some (.ref 164) := rfl
  have g1_z : am_get (lv_args 0 [.ref 164, .int a, .int e]) 1 = some (.int a) := rfl
  have g2_z : am_get (lv_args 0 [.ref 164, .int a, .int e]) 2 = some (.int e) := rfl
  replace hc_z := rn_iconst (w := 0) (am_cur_of (i := (0, 1, .iconst 0, (0, 0, 0), 0)) (by decide +kernel)) (by decide) hc_z
  replace hc_z := rn_istore_n (am_cur_of (i := (1, 1, .istore_n 3, (0, 0, 0), 0)) (by decide +kernel)) hc_z
  obtain ⟨_, s176_z, s177_z, g3_z, hc_z⟩ := hc_z
  replace g0_z := s176_z 0 _ (by decide) rfl g0_z
  replace g1_z := s176_z 1 _ (by decide) rfl g1_z
  replace g2_z := s176_z 2 _ (by decide) rfl g2_z
  clear s176_z s177_z
  replace hc_z := rn_iconst (w := 0) (am_cur_of (i := (2, 1, .iconst 0, (0, 0, 0), 0)) (by decide +kernel)) (by decide) hc_z
  replace hc_z := rn_istore (am_cur_of (i := (3, 2, .istore 4, (0, 0, 0), 0)) (by decide +kernel)) hc_z
  obtain ⟨_, s178_z, s179_z, g4_z, hc_z⟩ := hc_z
  replace g0_z := s178_z 0 _ (by decide) rfl g0_z
  replace g1_z := s178_z 1 _ (by decide) rfl g1_z
  replace g2_z := s178_z 2 _ (by decide) rfl g2_z
  replace g3_z := s178_z 3 _ (by decide) rfl g3_z
  clear s178_z s179_z
  obtain ⟨e1_z', e2_z', q⟩ | ⟨k0_z, n0_z, ls0_z, g0_z, g1_z, g2_z, g3_z, g4_z, hc_z⟩ := rt_wa (f := 0) (f2_z := 4) (k := 0) (o := 0) (l := 3) hC a0_z e1_z a1_z (by decide) (by decide) (by decide) (by decide) (by decide) g0_z g1_z g2_z g3_z g4_z hc_z
  · exact ⟨e2_z', Or.inl ⟨0, by decide, e1_z', q⟩⟩
  replace g3_z : am_get ls0_z 3 = some (.int 1) := g3_z
  obtain ⟨e1_z', e2_z', q⟩ | ⟨k1_z, n1_z, ls1_z, g0_z, g1_z, g2_z, g3_z, g4_z, hc_z⟩ := rt_wa (f := 4) (f2_z := 11) (k := 1) (o := 4) (l := 6) hC a0_z e1_z a1_z (by decide) (by decide) (by decide) (by decide) (by decide) g0_z g1_z g2_z g3_z g4_z hc_z
  · exact ⟨e2_z', Or.inl ⟨1, by decide, e1_z', q⟩⟩
  replace g3_z : am_get ls1_z 3 = some (.int 2) := g3_z
  obtain ⟨e1_z', e2_z', q⟩ | ⟨k2_z, n2_z, ls2_z, g0_z, g1_z, g2_z, g3_z, g4_z, hc_z⟩ := rt_wa (f := 11) (f2_z := 16) (k := 2) (o := 11) (l := 4) hC a0_z e1_z a1_z (by decide) (by decide) (by decide) (by decide) (by decide) g0_z g1_z g2_z g3_z g4_z hc_z
  · exact ⟨e2_z', Or.inl ⟨2, by decide, e1_z', q⟩⟩
  replace g3_z : am_get ls2_z 3 = some (.int 3) := g3_z
  obtain ⟨e1_z', e2_z', q⟩ | ⟨k3_z, n3_z, ls3_z, g0_z, g1_z, g2_z, g3_z, g4_z, hc_z⟩ := rt_wa (f := 16) (f2_z := 21) (k := 3) (o := 16) (l := 4) hC a0_z e1_z a1_z (by decide) (by decide) (by decide) (by decide) (by decide) g0_z g1_z g2_z g3_z g4_z hc_z
  · exact ⟨e2_z', Or.inl ⟨3, by decide, e1_z', q⟩⟩
  replace g3_z : am_get ls3_z 3 = some (.int 4) := g3_z
  obtain ⟨e1_z', e2_z', q⟩ | ⟨k4_z, n4_z, ls4_z, g0_z, g1_z, g2_z, g3_z, g4_z, hc_z⟩ := rt_wa (f := 21) (f2_z := 26) (k := 4) (o := 21) (l := 4) hC a0_z e1_z a1_z (by decide) (by decide) (by decide) (by decide) (by decide) g0_z g1_z g2_z g3_z g4_z hc_z
  · exact ⟨e2_z', Or.inl ⟨4, by decide, e1_z', q⟩⟩
  replace g3_z : am_get ls4_z 3 = some (.int 5) := g3_z
  obtain ⟨e1_z', e2_z', q⟩ | ⟨k5_z, n5_z, ls5_z, g0_z, g1_z, g2_z, g3_z, g4_z, hc_z⟩ := rt_wa (f := 26) (f2_z := 32) (k := 5) (o := 26) (l := 5) hC a0_z e1_z a1_z (by decide) (by decide) (by decide) (by decide) (by decide) g0_z g1_z g2_z g3_z g4_z hc_z
  · exact ⟨e2_z', Or.inl ⟨5, by decide, e1_z', q⟩⟩
  replace g3_z : am_get ls5_z 3 = some (.int 6) := g3_z
  obtain ⟨e1_z', e2_z', q⟩ | ⟨k6_z, n6_z, ls6_z, g0_z, g1_z, g2_z, g3_z, g4_z, hc_z⟩ := rt_wa (f := 32) (f2_z := 37) (k := 6) (o := 32) (l := 4) hC a0_z e1_z a1_z (by decide) (by decide) (by decide) (by decide) (by decide) g0_z g1_z g2_z g3_z g4_z hc_z
  · exact ⟨e2_z', Or.inl ⟨6, by decide, e1_z', q⟩⟩
  replace g3_z : am_get ls6_z 3 = some (.int 7) := g3_z
  obtain ⟨e1_z', e2_z', q⟩ | ⟨k7_z, n7_z, ls7_z, g0_z, g1_z, g2_z, g3_z, g4_z, hc_z⟩ := rt_wa (f := 37) (f2_z := 42) (k := 7) (o := 37) (l := 4) hC a0_z e1_z a1_z (by decide) (by decide) (by decide) (by decide) (by decide) g0_z g1_z g2_z g3_z g4_z hc_z
  · exact ⟨e2_z', Or.inl ⟨7, by decide, e1_z', q⟩⟩
  replace g3_z : am_get ls7_z 3 = some (.int 8) := g3_z
  obtain ⟨e1_z', e2_z', q⟩ | ⟨k8_z, n8_z, ls8_z, g0_z, g1_z, g2_z, g3_z, g4_z, hc_z⟩ := rt_wa (f := 42) (f2_z := 46) (k := 8) (o := 42) (l := 3) hC a0_z e1_z a1_z (by decide) (by decide) (by decide) (by decide) (by decide) g0_z g1_z g2_z g3_z g4_z hc_z
  · exact ⟨e2_z', Or.inl ⟨8, by decide, e1_z', q⟩⟩
  replace g3_z : am_get ls8_z 3 = some (.int 9) := g3_z
  obtain ⟨e1_z', e2_z', q⟩ | ⟨k9_z, n9_z, ls9_z, g0_z, g1_z, g2_z, g3_z, g4_z, hc_z⟩ := rt_wa (f := 46) (f2_z := 51) (k := 9) (o := 46) (l := 4) hC a0_z e1_z a1_z (by decide) (by decide) (by decide) (by decide) (by decide) g0_z g1_z g2_z g3_z g4_z hc_z
  · exact ⟨e2_z', Or.inl ⟨9, by decide, e1_z', q⟩⟩
  replace g3_z : am_get ls9_z 3 = some (.int 10) := g3_z
  obtain ⟨e1_z', e2_z', q⟩ | ⟨k10_z, n10_z, ls10_z, g0_z, g1_z, g2_z, g3_z, g4_z, hc_z⟩ := rt_wa (f := 51) (f2_z := 56) (k := 10) (o := 51) (l := 4) hC a0_z e1_z a1_z (by decide) (by decide) (by decide) (by decide) (by decide) g0_z g1_z g2_z g3_z g4_z hc_z
  · exact ⟨e2_z', Or.inl ⟨10, by decide, e1_z', q⟩⟩
  replace g3_z : am_get ls10_z 3 = some (.int 11) := g3_z
  obtain ⟨e1_z', e2_z', q⟩ | ⟨k11_z, n11_z, ls11_z, g0_z, g1_z, g2_z, g3_z, g4_z, hc_z⟩ := rt_wa (f := 56) (f2_z := 61) (k := 11) (o := 56) (l := 4) hC a0_z e1_z a1_z (by decide) (by decide) (by decide) (by decide) (by decide) g0_z g1_z g2_z g3_z g4_z hc_z
  · exact ⟨e2_z', Or.inl ⟨11, by decide, e1_z', q⟩⟩
  replace g3_z : am_get ls11_z 3 = some (.int 12) := g3_z
  obtain ⟨e1_z', e2_z', q⟩ | ⟨k12_z, n12_z, ls12_z, g0_z, g1_z, g2_z, g3_z, g4_z, hc_z⟩ := rt_wa (f := 61) (f2_z := 65) (k := 12) (o := 61) (l := 3) hC a0_z e1_z a1_z (by decide) (by decide) (by decide) (by decide) (by decide) g0_z g1_z g2_z g3_z g4_z hc_z
  · exact ⟨e2_z', Or.inl ⟨12, by decide, e1_z', q⟩⟩
  replace g3_z : am_get ls12_z 3 = some (.int 13) := g3_z
  obtain ⟨e1_z', e2_z', q⟩ | ⟨k13_z, n13_z, ls13_z, g0_z, g1_z, g2_z, g3_z, g4_z, hc_z⟩ := rt_wa (f := 65) (f2_z := 68) (k := 13) (o := 65) (l := 2) hC a0_z e1_z a1_z (by decide) (by decide) (by decide) (by decide) (by decide) g0_z g1_z g2_z g3_z g4_z hc_z
  · exact ⟨e2_z', Or.inl ⟨13, by decide, e1_z', q⟩⟩
  replace g3_z : am_get ls13_z 3 = some (.int 14) := g3_z
  obtain ⟨e1_z', e2_z', q⟩ | ⟨k14_z, n14_z, ls14_z, g0_z, g1_z, g2_z, g3_z, g4_z, hc_z⟩ := rt_wa (f := 68) (f2_z := 72) (k := 14) (o := 68) (l := 3) hC a0_z e1_z a1_z (by decide) (by decide) (by decide) (by decide) (by decide) g0_z g1_z g2_z g3_z g4_z hc_z
  · exact ⟨e2_z', Or.inl ⟨14, by decide, e1_z', q⟩⟩
  replace g3_z : am_get ls14_z 3 = some (.int 15) := g3_z
  obtain ⟨e1_z', e2_z', q⟩ | ⟨k15_z, n15_z, ls15_z, g0_z, g1_z, g2_z, g3_z, g4_z, hc_z⟩ := rt_wa (f := 72) (f2_z := 77) (k := 15) (o := 72) (l := 4) hC a0_z e1_z a1_z (by decide) (by decide) (by decide) (by decide) (by decide) g0_z g1_z g2_z g3_z g4_z hc_z
  · exact ⟨e2_z', Or.inl ⟨15, by decide, e1_z', q⟩⟩
  replace g3_z : am_get ls15_z 3 = some (.int 16) := g3_z
  obtain ⟨e1_z', e2_z', q⟩ | ⟨k16_z, n16_z, ls16_z, g0_z, g1_z, g2_z, g3_z, g4_z, hc_z⟩ := rt_wa (f := 77) (f2_z := 82) (k := 16) (o := 77) (l := 4) hC a0_z e1_z a1_z (by decide) (by decide) (by decide) (by decide) (by decide) g0_z g1_z g2_z g3_z g4_z hc_z
  · exact ⟨e2_z', Or.inl ⟨16, by decide, e1_z', q⟩⟩
  replace g3_z : am_get ls16_z 3 = some (.int 17) := g3_z
  obtain ⟨e1_z', e2_z', q⟩ | ⟨k17_z, n17_z, ls17_z, g0_z, g1_z, g2_z, g3_z, g4_z, hc_z⟩ := rt_wa (f := 82) (f2_z := 87) (k := 17) (o := 82) (l := 4) hC a0_z e1_z a1_z (by decide) (by decide) (by decide) (by decide) (by decide) g0_z g1_z g2_z g3_z g4_z hc_z
  · exact ⟨e2_z', Or.inl ⟨17, by decide, e1_z', q⟩⟩
  replace g3_z : am_get ls17_z 3 = some (.int 18) := g3_z
  obtain ⟨e1_z', e2_z', q⟩ | ⟨k18_z, n18_z, ls18_z, g0_z, g1_z, g2_z, g3_z, g4_z, hc_z⟩ := rt_wa (f := 87) (f2_z := 94) (k := 18) (o := 87) (l := 6) hC a0_z e1_z a1_z (by decide) (by decide) (by decide) (by decide) (by decide) g0_z g1_z g2_z g3_z g4_z hc_z
  · exact ⟨e2_z', Or.inl ⟨18, by decide, e1_z', q⟩⟩
  replace g3_z : am_get ls18_z 3 = some (.int 19) := g3_z
  obtain ⟨e1_z', e2_z', q⟩ | ⟨k19_z, n19_z, ls19_z, g0_z, g1_z, g2_z, g3_z, g4_z, hc_z⟩ := rt_wa (f := 94) (f2_z := 101) (k := 19) (o := 94) (l := 6) hC a0_z e1_z a1_z (by decide) (by decide) (by decide) (by decide) (by decide) g0_z g1_z g2_z g3_z g4_z hc_z
  · exact ⟨e2_z', Or.inl ⟨19, by decide, e1_z', q⟩⟩
  replace g3_z : am_get ls19_z 3 = some (.int 20) := g3_z
  replace hc_z := rn_iload (am_cur_of (i := (5, 2, .iload 4, (0, 0, 0), 0)) (by decide +kernel)) g4_z hc_z
  replace hc_z := rn_aload_n (am_cur_of (i := (7, 1, .aload_n 0, (0, 0, 0), 0)) (by decide +kernel)) g0_z hc_z
  replace hc_z := rn_getR (x := 166) (am_cur_of (i := (8, 3, .getfield 13, (12, 3, 1387), 0)) (by decide +kernel)) (by decide +kernel) hc_z
  replace hc_z := rn_len (ty := .int) (N := 101) (w := 101) (am_cur_of (i := (11, 1, .arraylength, (0, 0, 0), 0)) (by decide +kernel)) (by decide +kernel) (by decide) hc_z
  replace hc_z := rn_cmpT (am_cur_of (i := (12, 3, .if_icmp .ge 114, (68, 0, 0), 0)) (by decide +kernel)) (by decide) hc_z
  replace hc_z := rn_iconst (w := (-1)) (am_cur_of (i := (126, 1, .iconst (-1), (0, 0, 0), 0)) (by decide +kernel)) (by decide) hc_z
  replace hc_z := rn_iret (am_cur_of (i := (127, 1, .ireturn, (0, 0, 0), 0)) (by decide +kernel)) hc_z
  obtain ⟨e180_z, e181_z⟩ := hc_z
  refine ⟨e181_z, Or.inr ⟨e180_z, fun k hk_z => ?_⟩⟩
  match k, hk_z with
  | 0, _ => exact k0_z
  | 1, _ => exact k1_z
  | 2, _ => exact k2_z
  | 3, _ => exact k3_z
  | 4, _ => exact k4_z
  | 5, _ => exact k5_z
  | 6, _ => exact k6_z
  | 7, _ => exact k7_z
  | 8, _ => exact k8_z
  | 9, _ => exact k9_z
  | 10, _ => exact k10_z
  | 11, _ => exact k11_z
  | 12, _ => exact k12_z
  | 13, _ => exact k13_z
  | 14, _ => exact k14_z
  | 15, _ => exact k15_z
  | 16, _ => exact k16_z
  | 17, _ => exact k17_z
  | 18, _ => exact k18_z
  | 19, _ => exact k19_z
  | k + 20, hk_z => exact absurd hk_z (by omega)
