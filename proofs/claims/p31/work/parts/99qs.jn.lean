/-! ===== A LAW'S SIGN IN BOTH READERS: readJoin, signs (wip/r/gen99qs.py) ===== -/
theorem rs_o64 {a b : Int32} (h : rs_o a b) : ((rk_C a).toInt = 6 ↔ (rk_M b).toInt = 4) := (by decide +kernel : ∀ q ∈ rs_L, ((rk_C q.1).toInt = 6 ↔ (rk_M q.2).toInt = 4)) (a, b) (rs_oL h)
theorem rs_o2 {a b : Int32} (h : rs_o a b) (hr : (rk_C a).toInt < (rk_C 3).toInt) : b = 0 := (by decide +kernel : ∀ q ∈ rs_L, (rk_C q.1).toInt < (rk_C 3).toInt → q.2 = 0) (a, b) (rs_oL h) hr
theorem rz_rq2 {T : Nat → Int32} {S x p : Int32} {h h' g g' : am_H} (R : rq T S x p 2 h g) (FC : ab_Fr (rz_MC2.drop 1) h h') (FM : ab_Fr rz_MM g g') : rq T S x p 2 h' g' := by
  have q := rz_q02 (rq_0 R) (ab_Fr_sub (by decide) FC) FM
  obtain ⟨R1, R2, R3, R4, R5, R6, R7, R8, R9, R10⟩ := R
  have e10_z : rg_v h' 44 10 = rg_v h 44 10 := rg_v_fr FC (by decide)
  have e11_z : rg_v h' 44 11 = rg_v h 44 11 := rg_v_fr FC (by decide)
  have f8_z : rg_v g' 164 8 = rg_v g 164 8 := rg_v_fr FM (by decide)
  have f9_z : rg_v g' 164 9 = rg_v g 164 9 := rg_v_fr FM (by decide)
  exact ⟨q.1, q.2.1, q.2.2.1, q.2.2.2, (rg_v_fr FC (by decide)).trans R5, (rg_v_fr FM (by decide)).trans R6, R7, R8, by rw [e10_z]; exact R9, by rw [e10_z, e11_z, f8_z, f9_z]; exact R10⟩
theorem rz_set2 {T : Nat → Int32} {S x p : Int32} {n n' : Nat} {h h' g g' : am_H} {r r' : Option Value} {op least : Int32} (hl_z : rs_l op least) (l1_z : 1 ≤ least.toInt) (R : rq T S x p 2 h g) (A : rp 2 h g) (B : rp_t h g) (Z : rs 2 h g) (hc_z : rn n am_m46 0 (lv_args 0 [.ref 44, .int op]) [] h r h') (hm_z : rn n' am_m179 0 (lv_args 0 [.ref 164, .int least]) [] g r' g') :
    r = none ∧ r' = none ∧ ab_Fr rs_mS2 h h' ∧ ab_Fr rs_mB g g' ∧ rq T S x p 2 h' g' ∧ rp 2 h' g' ∧ rp_t h' g' ∧ rs 2 h' g' ∧ ∃ np : Int32, rg_v h' 44 13 = np ∧ (np.toInt = 0 ∨ (rk_C (rg_v h' 47 (np.toNatClampNeg - 1))).toInt < (rk_C op).toInt) := by
  obtain ⟨np, o, z1_z, z2_z, z3_z, z4_z, z5_z, z6_z, z7_z, z8_z, z9_z, z10_z⟩ := Z
  obtain ⟨e1_z, e2_z, FC, FM, np', e3_z, e4_z, e5_z, e6_z, e7_z, e8_z⟩ := rs_set2 hl_z l1_z _ _ np h g _ _ z1_z z2_z z3_z z9_z R.2.2.1 rfl rfl rfl rfl hc_z hm_z
  have FC' : ab_Fr (rz_MC2.drop 1) h h' := ab_Fr_sub (by decide) FC
  have FM' : ab_Fr rz_MM g g' := ab_Fr_sub (by decide) FM
  have ek : rg_v h' 11 0 = rg_v h 11 0 := rg_v_fr FC (by decide)
  have k := A.2.2.2.2.2.1
  have k1_z : rg_v h 11 0 = rg_v g 164 44 := k.1
  have k2_z : 0 ≤ (rg_v h 11 0).toInt := k.2.1
  have k3_z : (rg_v h 11 0).toInt ≤ 64 := k.2.2
  have z8_z' : np.toInt ≤ (rg_v h 11 0).toInt + o.toInt := z8_z
  refine ⟨e1_z, e2_z, FC, FM, rz_rq2 R FC' FM', rz_p2 A (ab_Fr_sub (by decide) FC') FM' ?_ (by rw [ek]; exact k2_z) (by rw [ek]; exact k3_z), rz_t2 B FC' FM', ?_, np', e3_z, ?_⟩
  · rw [ek, k1_z]
    exact (rg_v_fr FM (by decide)).symm
  · refine ⟨np', o, e3_z, e4_z, e5_z, (rg_v_fr FC (by decide)).trans z4_z, (rg_v_fr FM (by decide)).trans z5_z, z6_z, z7_z, ?_, fun i hi_z => ?_, ?_⟩
    · show np'.toInt ≤ (rg_v h' 11 0).toInt + o.toInt
      rw [ek]
      omega
    · rw [rg_v_fr FC (rg_v_in (by decide) i), rg_v_fr FM (rg_v_in (by decide) i)]
      exact z9_z i (by omega)
    · rw [rs_cnt_fr (fun k => rg_v_fr FM (rg_v_in (by decide) k)), e7_z]
      exact z10_z
  · rw [rg_v_fr FC (rg_v_in (by decide) _)]
    exact e8_z
theorem rz_rq23 {T : Nat → Int32} {S x p : Int32} {h h' g g' : am_H} (R : rq T S x p 23 h g) (FC : ab_Fr (rz_MC23.drop 1) h h') (FM : ab_Fr rz_MM g g') : rq T S x p 23 h' g' := by
  have q := rz_q023 (rq_0 R) (ab_Fr_sub (by decide) FC) FM
  obtain ⟨R1, R2, R3, R4, R5, R6, R7, R8, R9, R10⟩ := R
  have e10_z : rg_v h' 44 10 = rg_v h 44 10 := rg_v_fr FC (by decide)
  have e11_z : rg_v h' 44 11 = rg_v h 44 11 := rg_v_fr FC (by decide)
  have f8_z : rg_v g' 164 8 = rg_v g 164 8 := rg_v_fr FM (by decide)
  have f9_z : rg_v g' 164 9 = rg_v g 164 9 := rg_v_fr FM (by decide)
  exact ⟨q.1, q.2.1, q.2.2.1, q.2.2.2, (rg_v_fr FC (by decide)).trans R5, (rg_v_fr FM (by decide)).trans R6, R7, R8, by rw [e10_z]; exact R9, by rw [e10_z, e11_z, f8_z, f9_z]; exact R10⟩
theorem rz_set23 {T : Nat → Int32} {S x p : Int32} {n n' : Nat} {h h' g g' : am_H} {r r' : Option Value} {op least : Int32} (hl_z : rs_l op least) (l1_z : 1 ≤ least.toInt) (R : rq T S x p 23 h g) (A : rp 23 h g) (B : rp_t h g) (Z : rs 23 h g) (hc_z : rn n am_m46 0 (lv_args 0 [.ref 44, .int op]) [] h r h') (hm_z : rn n' am_m179 0 (lv_args 0 [.ref 164, .int least]) [] g r' g') :
    r = none ∧ r' = none ∧ ab_Fr rs_mS23 h h' ∧ ab_Fr rs_mB g g' ∧ rq T S x p 23 h' g' ∧ rp 23 h' g' ∧ rp_t h' g' ∧ rs 23 h' g' ∧ ∃ np : Int32, rg_v h' 44 13 = np ∧ (np.toInt = 0 ∨ (rk_C (rg_v h' 47 (np.toNatClampNeg - 1))).toInt < (rk_C op).toInt) := by
  obtain ⟨np, o, z1_z, z2_z, z3_z, z4_z, z5_z, z6_z, z7_z, z8_z, z9_z, z10_z⟩ := Z
  obtain ⟨e1_z, e2_z, FC, FM, np', e3_z, e4_z, e5_z, e6_z, e7_z, e8_z⟩ := rs_set23 hl_z l1_z _ _ np h g _ _ z1_z z2_z z3_z z9_z R.2.2.1 rfl rfl rfl rfl hc_z hm_z
  have FC' : ab_Fr (rz_MC23.drop 1) h h' := ab_Fr_sub (by decide) FC
  have FM' : ab_Fr rz_MM g g' := ab_Fr_sub (by decide) FM
  have ek : rg_v h' 32 0 = rg_v h 32 0 := rg_v_fr FC (by decide)
  have k := A.2.2.2.2.2.1
  have k1_z : rg_v h 32 0 = rg_v g 164 44 := k.1
  have k2_z : 0 ≤ (rg_v h 32 0).toInt := k.2.1
  have k3_z : (rg_v h 32 0).toInt ≤ 64 := k.2.2
  have z8_z' : np.toInt ≤ (rg_v h 32 0).toInt + o.toInt := z8_z
  refine ⟨e1_z, e2_z, FC, FM, rz_rq23 R FC' FM', rz_p23 A (ab_Fr_sub (by decide) FC') FM' ?_ (by rw [ek]; exact k2_z) (by rw [ek]; exact k3_z), rz_t23 B FC' FM', ?_, np', e3_z, ?_⟩
  · rw [ek, k1_z]
    exact (rg_v_fr FM (by decide)).symm
  · refine ⟨np', o, e3_z, e4_z, e5_z, (rg_v_fr FC (by decide)).trans z4_z, (rg_v_fr FM (by decide)).trans z5_z, z6_z, z7_z, ?_, fun i hi_z => ?_, ?_⟩
    · show np'.toInt ≤ (rg_v h' 32 0).toInt + o.toInt
      rw [ek]
      omega
    · rw [rg_v_fr FC (rg_v_in (by decide) i), rg_v_fr FM (rg_v_in (by decide) i)]
      exact z9_z i (by omega)
    · rw [rs_cnt_fr (fun k => rg_v_fr FM (rg_v_in (by decide) k)), e7_z]
      exact z10_z
  · rw [rg_v_fr FC (rg_v_in (by decide) _)]
    exact e8_z
theorem rj_t3_2 {T : Nat → Int32} {S x p : Int32} {n n' : Nat} {h h' g g' : am_H} {r r' : Option Value} {ls ls2_z : am_L} (R : rq T S x p 2 h g) (A : rp 2 h g) (B : rp_t h g) (Z : rs 2 h g) (g0_z : am_get ls 0 = some (.ref 44)) (g1_z : am_get ls 1 = some (.int 3)) (g0m : am_get ls2_z 0 = some (.ref 164)) (g1m : am_get ls2_z 1 = some (.int 4)) (hc_z : rn n am_m44 76 ls [] h r h') (hm_z : rn n' am_m178 110 ls2_z [] g r' g') : rv_Q T S x p 2 h' g' r r' := by
  have Rk := R
  have Zk := Z
  obtain ⟨⟨c1_z, c2_z, c3_z, c4_z, c5_z, c6_z, c7_z, c8_z⟩, ⟨m2_z, m3_z, m4_z, m5_z, m6_z, m7_z, m8_z⟩, R3, R4, R5, R6, R7, R8, R9, R10⟩ := (R : rq T S x p 2 h g)
  obtain ⟨np, op, z1_z, z2_z, z3_z, z4_z, z5_z, z6_z, z7_z, z8_z, z9_z, z10_z⟩ := (Z : rs 2 h g)
  obtain ⟨nk1_z, nk2_z, nk3_z⟩ := A.2.2.2.2.2.1
  replace nk1_z : rg_v h 11 0 = rg_v g 164 44 := nk1_z
  replace nk2_z : 0 ≤ (rg_v h 11 0).toInt := nk2_z
  replace nk3_z : (rg_v h 11 0).toInt ≤ 64 := nk3_z
  replace z8_z : np.toInt ≤ (rg_v h 11 0).toInt + op.toInt := z8_z
  obtain ⟨kn, ekn⟩ : ∃ v, rg_v h 11 0 = v := ⟨_, rfl⟩
  rw [ekn] at nk1_z nk2_z nk3_z z8_z
  have e9_z := rt_c1 (x := kn) (by omega) (by omega)
  replace hc_z := rn_aload_n (am_cur_of (i := (147, 1, .aload_n 0, (0, 0, 0), 0)) (by decide +kernel)) g0_z hc_z
  replace hc_z := rn_callV (M' := am_m49) (o := 44) (ar := []) (rest := []) (L := lv_args 0 [.ref 44]) (am_cur_of (i := (148, 3, .invokevirtual 270, (49, 852, 3), 0)) (by decide +kernel)) rfl rfl rfl rfl hc_z
  obtain ⟨r3904_z, h3905_z, q3906_z, hc_z⟩ := hc_z
  rcases rs_ck2 R4 (show h 44 6 = .ref 2 from R3) q3906_z with ⟨ge, rfl, eh⟩ | ⟨lt, rfl, eh⟩
  · subst eh
    replace ge : 64 ≤ kn.toInt := by rw [← ekn]; exact ge
    replace hc_z : rn _ _ _ _ [] _ _ _ := hc_z
    have K := rs_stick (w := 2) (q := p) (a := 44) (by decide) (by decide) rfl (by decide) rfl (show rg_v (am_up (am_up h 44 1 (.int 2)) 44 2 (.int (rg_v h 44 9))) 44 2 = p from R5) hc_z
    replace hm_z := rn_aload_n (am_cur_of (i := (217, 1, .aload_n 0, (0, 0, 0), 0)) (by decide +kernel)) g0m hm_z
    replace hm_z := rn_callV (M' := am_m175) (o := 164) (ar := []) (rest := []) (L := lv_args 0 [.ref 164]) (am_cur_of (i := (218, 3, .invokevirtual 309, (175, 1731, 3), 0)) (by decide +kernel)) rfl rfl rfl rfl hm_z
    obtain ⟨r3907_z, h3908_z, q3909_z, hm_z⟩ := hm_z
    rcases rs_ic q3909_z with ⟨i1_z, rfl, i3_z⟩ | ⟨i1_z, -⟩
    · subst i3_z
      replace hm_z : rn _ _ _ _ [.int 0] _ _ _ := hm_z
      replace hm_z := rn_ifF (am_cur_of (i := (221, 3, .ifCond .ne 5, (115, 0, 0), 0)) (by decide +kernel)) (by decide) hm_z
      replace hm_z := rn_iconst (w := 0) (am_cur_of (i := (224, 1, .iconst 0, (0, 0, 0), 0)) (by decide +kernel)) (by decide) hm_z
      replace hm_z := rn_iret (am_cur_of (i := (225, 1, .ireturn, (0, 0, 0), 0)) (by decide +kernel)) hm_z
      obtain ⟨e3910_z, e3911_z⟩ := hm_z
      subst e3910_z e3911_z
      exact (Or.inr ⟨rfl, 2, by decide, K.1, K.2, rfl, R6⟩)
    · exact absurd (Int32.toInt_inj.mp (show (rg_v g 164 44).toInt = (64 : Int32).toInt from by rw [show rg_v g 164 44 = kn from nk1_z.symm, show (64 : Int32).toInt = 64 by decide]; omega)) i1_z
  · subst eh
    replace lt : kn.toInt < 64 := by rw [← ekn]; exact lt
    rw [show rg_v h 11 0 = kn from ekn] at hc_z
    replace hm_z := rn_aload_n (am_cur_of (i := (217, 1, .aload_n 0, (0, 0, 0), 0)) (by decide +kernel)) g0m hm_z
    replace hm_z := rn_callV (M' := am_m175) (o := 164) (ar := []) (rest := []) (L := lv_args 0 [.ref 164]) (am_cur_of (i := (218, 3, .invokevirtual 309, (175, 1731, 3), 0)) (by decide +kernel)) rfl rfl rfl rfl hm_z
    obtain ⟨r3912_z, h3913_z, q3914_z, hm_z⟩ := hm_z
    rcases rs_ic q3914_z with ⟨i1_z, -⟩ | ⟨i1_z, rfl, i3_z⟩
    · exfalso
      have zz := congrArg Int32.toInt i1_z
      rw [show rg_v g 164 44 = kn from nk1_z.symm, show (64 : Int32).toInt = 64 by decide] at zz
      omega
    · subst i3_z
      rw [show rg_v g 164 44 = kn from nk1_z.symm] at hm_z
      replace hm_z : rn _ _ _ _ [.int 1] _ _ _ := hm_z
      replace hc_z : rn _ _ _ _ [] _ _ _ := hc_z
      replace hc_z := rn_aload_n (am_cur_of (i := (151, 1, .aload_n 0, (0, 0, 0), 0)) (by decide +kernel)) g0_z hc_z
      replace hc_z := rn_iload_n (am_cur_of (i := (152, 1, .iload_n 1, (0, 0, 0), 0)) (by decide +kernel)) g1_z hc_z
      replace hc_z := rn_callV (M' := am_m50) (o := 44) (ar := [.int 3]) (rest := []) (L := lv_args 0 [.ref 44, .int 3]) (am_cur_of (i := (153, 3, .invokevirtual 273, (50, 856, 3), 0)) (by decide +kernel)) rfl rfl rfl rfl hc_z
      obtain ⟨r3915_z, h3916_z, q3917_z, hc_z⟩ := hc_z
      obtain ⟨rfl, eh⟩ := rs_hold (np := np) (show rg_v (am_up h 11 0 (.int (kn + 1))) 44 13 = np from z1_z) (by omega) q3917_z
      subst eh
      replace hc_z : rn _ _ _ _ [] _ _ _ := hc_z
      replace hc_z := rn_aload_n (am_cur_of (i := (156, 1, .aload_n 0, (0, 0, 0), 0)) (by decide +kernel)) g0_z hc_z
      replace hc_z := rn_callV (M' := am_m19) (o := 44) (ar := []) (rest := []) (L := lv_args 0 [.ref 44]) (am_cur_of (i := (157, 3, .invokevirtual 57, (19, 727, 3), 0)) (by decide +kernel)) rfl rfl rfl rfl hc_z
      obtain ⟨r3918_z, h3919_z, q3920_z, hc_z⟩ := hc_z
      have vo := rn_void rfl q3920_z
      subst vo
      replace hm_z := rn_ifT (am_cur_of (i := (221, 3, .ifCond .ne 5, (115, 0, 0), 0)) (by decide +kernel)) (by decide) hm_z
      replace hm_z := rn_aload_n (am_cur_of (i := (226, 1, .aload_n 0, (0, 0, 0), 0)) (by decide +kernel)) g0m hm_z
      replace hm_z := rn_iload_n (am_cur_of (i := (227, 1, .iload_n 1, (0, 0, 0), 0)) (by decide +kernel)) g1m hm_z
      replace hm_z := rn_callV (M' := am_m173) (o := 164) (ar := [.int 4]) (rest := []) (L := lv_args 0 [.ref 164, .int 4]) (am_cur_of (i := (228, 3, .invokevirtual 298, (173, 1723, 3), 0)) (by decide +kernel)) rfl rfl rfl rfl hm_z
      obtain ⟨r3921_z, h3922_z, q3923_z, hm_z⟩ := hm_z
      obtain ⟨rfl, eh⟩ := rs_wf (np := np) (show rg_v (am_up g 164 44 (.int (kn + 1))) 164 41 = np from z2_z) q3923_z
      subst eh
      replace hm_z : rn _ _ _ _ [] _ _ _ := hm_z
      replace hm_z := rn_aload_n (am_cur_of (i := (231, 1, .aload_n 0, (0, 0, 0), 0)) (by decide +kernel)) g0m hm_z
      replace hm_z := rn_iconst (w := 1) (am_cur_of (i := (232, 1, .iconst 1, (0, 0, 0), 0)) (by decide +kernel)) (by decide) hm_z
      replace hm_z := rn_put (am_cur_of (i := (233, 3, .putfield 315, (12, 45, 1429), 0)) (by decide +kernel)) (by decide +kernel) hm_z
      replace hm_z := rn_aload_n (am_cur_of (i := (236, 1, .aload_n 0, (0, 0, 0), 0)) (by decide +kernel)) g0m hm_z
      replace hm_z := rn_iload_n (am_cur_of (i := (237, 1, .iload_n 1, (0, 0, 0), 0)) (by decide +kernel)) g1m hm_z
      replace hm_z := rn_callS (M' := am_m180) (ar := [.int 4]) (rest := [.ref 164]) (L := lv_args 0 [.int 4]) (am_cur_of (i := (238, 3, .invokestatic 283, (180, 1751, 3), 0)) (by decide +kernel)) rfl rfl rfl rfl hm_z
      obtain ⟨r3924_z, h3925_z, q3926_z, hm_z⟩ := hm_z
      obtain ⟨rfl, yq3926_z⟩ := rs_rankM q3926_z
      replace yq3926_z := yq3926_z.symm
      subst yq3926_z
      rw [show rk_M 4 = 1 by decide] at hm_z
      replace hm_z : rn _ _ _ _ [.int 1, .ref 164] _ _ _ := hm_z
      replace hm_z := rn_iconst (w := 3) (am_cur_of (i := (241, 1, .iconst 3, (0, 0, 0), 0)) (by decide +kernel)) (by decide) hm_z
      replace hm_z := rn_cmpF (am_cur_of (i := (242, 3, .if_icmp .ge 7, (128, 0, 0), 0)) (by decide +kernel)) (by decide) hm_z
      replace hm_z := rn_iconst (w := 1) (am_cur_of (i := (245, 1, .iconst 1, (0, 0, 0), 0)) (by decide +kernel)) (by decide) hm_z
      replace hm_z := rn_goto (am_cur_of (i := (246, 3, .goto 4, (129, 0, 0), 0)) (by decide +kernel)) hm_z
      replace hm_z := rn_put (am_cur_of (i := (250, 3, .putfield 302, (12, 46, 1430), 0)) (by decide +kernel)) (by decide +kernel) hm_z
      replace hm_z := rn_aload_n (am_cur_of (i := (253, 1, .aload_n 0, (0, 0, 0), 0)) (by decide +kernel)) g0m hm_z
      replace hm_z := rn_callV (M' := am_m151) (o := 164) (ar := []) (rest := []) (L := lv_args 0 [.ref 164]) (am_cur_of (i := (254, 3, .invokevirtual 191, (151, 1636, 3), 0)) (by decide +kernel)) rfl rfl rfl rfl hm_z
      obtain ⟨r3927_z, h3928_z, q3929_z, hm_z⟩ := hm_z
      have vo := rn_void rfl q3929_z
      subst vo
      have FC : ab_Fr (rz_MC2.drop 1) h (am_up (am_up (am_up h 11 0 (.int (kn + 1))) 47 np.toNatClampNeg (.int 3)) 44 13 (.int (np + 1))) := ab_Fr_up rfl (ab_Fr_up rfl (ab_Fr_up rfl ab_Fr_refl))
      have FC' : ab_Fr rz_MC2 h (am_up (am_up (am_up h 11 0 (.int (kn + 1))) 47 np.toNatClampNeg (.int 3)) 44 13 (.int (np + 1))) := ab_Fr_sub (by decide) FC
      have FM : ab_Fr rz_MM g (am_up (am_up (am_up (am_up (am_up g 164 44 (.int (kn + 1))) 184 np.toNatClampNeg (.int 4)) 164 41 (.int (np + 1))) 164 45 (.int 1)) 164 46 (.int 1)) := ab_Fr_up rfl (ab_Fr_up rfl (ab_Fr_up rfl (ab_Fr_up rfl (ab_Fr_up rfl ab_Fr_refl))))
      obtain ⟨-, -, x2_z, p2_z, R2, le2_z, t5_z, t6_z⟩ := pr_tok (rz_q02 (rq_0 Rk) FC' FM) q3920_z q3929_z
      have A2 := rp_x (by decide) (rz_p2 A FC' FM ((show rg_v (am_up (am_up (am_up h 11 0 (.int (kn + 1))) 47 np.toNatClampNeg (.int 3)) 44 13 (.int (np + 1))) 11 0 = kn + 1 from (show rg_v (am_up (am_up (am_up h 11 0 (.int (kn + 1))) 47 np.toNatClampNeg (.int 3)) 44 13 (.int (np + 1))) 11 0 = kn + 1 from rfl)).trans (show rg_v (am_up (am_up (am_up (am_up (am_up g 164 44 (.int (kn + 1))) 184 np.toNatClampNeg (.int 4)) 164 41 (.int (np + 1))) 164 45 (.int 1)) 164 46 (.int 1)) 164 44 = kn + 1 from (show rg_v (am_up (am_up (am_up (am_up (am_up g 164 44 (.int (kn + 1))) 184 np.toNatClampNeg (.int 4)) 164 41 (.int (np + 1))) 164 45 (.int 1)) 164 46 (.int 1)) 164 44 = kn + 1 from rfl)).symm) (by rw [show rg_v (am_up (am_up (am_up h 11 0 (.int (kn + 1))) 47 np.toNatClampNeg (.int 3)) 44 13 (.int (np + 1))) 11 0 = kn + 1 from (show rg_v (am_up (am_up (am_up h 11 0 (.int (kn + 1))) 47 np.toNatClampNeg (.int 3)) 44 13 (.int (np + 1))) 11 0 = kn + 1 from rfl)]; omega) (by rw [show rg_v (am_up (am_up (am_up h 11 0 (.int (kn + 1))) 47 np.toNatClampNeg (.int 3)) 44 13 (.int (np + 1))) 11 0 = kn + 1 from (show rg_v (am_up (am_up (am_up h 11 0 (.int (kn + 1))) 47 np.toNatClampNeg (.int 3)) 44 13 (.int (np + 1))) 11 0 = kn + 1 from rfl)]; omega)) (rx_C_f t5_z) (rx_M_f t6_z)
      have B2 := rp_tk (rz_t2 B FC FM) (rg_v_fr t5_z (by decide)) (fun k => rg_v_fr t6_z (rg_v_in (by decide) k)) (rx_M_f t6_z)
      have Z2 : rs 2 (am_up (am_up (am_up h 11 0 (.int (kn + 1))) 47 np.toNatClampNeg (.int 3)) 44 13 (.int (np + 1))) (am_up (am_up (am_up (am_up (am_up g 164 44 (.int (kn + 1))) 184 np.toNatClampNeg (.int 4)) 164 41 (.int (np + 1))) 164 45 (.int 1)) 164 46 (.int 1)) := rs_push (o := 3) (k := 4) (np := np) (op := op) Zk (by unfold rs_o; decide) z1_z z4_z (show rg_v (am_up (am_up (am_up h 11 0 (.int (kn + 1))) 47 np.toNatClampNeg (.int 3)) 44 13 (.int (np + 1))) 44 13 = np + 1 from (show rg_v (am_up (am_up (am_up h 11 0 (.int (kn + 1))) 47 np.toNatClampNeg (.int 3)) 44 13 (.int (np + 1))) 44 13 = np + 1 from rfl)) (show rg_v (am_up (am_up (am_up (am_up (am_up g 164 44 (.int (kn + 1))) 184 np.toNatClampNeg (.int 4)) 164 41 (.int (np + 1))) 164 45 (.int 1)) 164 46 (.int 1)) 164 41 = np + 1 from (show rg_v (am_up (am_up (am_up (am_up (am_up g 164 44 (.int (kn + 1))) 184 np.toNatClampNeg (.int 4)) 164 41 (.int (np + 1))) 164 45 (.int 1)) 164 46 (.int 1)) 164 41 = np + 1 from rfl)) (fun i hi_z => (show rg_v (am_up (am_up (am_up h 11 0 (.int (kn + 1))) 47 np.toNatClampNeg (.int 3)) 44 13 (.int (np + 1))) 47 i = rg_v h 47 i from rg_v_other (h := h) (o := 47) (k := np.toNatClampNeg) (v := .int 3) (by omega))) (show rg_v (am_up (am_up (am_up h 11 0 (.int (kn + 1))) 47 np.toNatClampNeg (.int 3)) 44 13 (.int (np + 1))) 47 np.toNatClampNeg = 3 from rg_v_self (h := h) (o := 47) (k := np.toNatClampNeg)) (fun i hi_z => (show rg_v (am_up (am_up (am_up (am_up (am_up g 164 44 (.int (kn + 1))) 184 np.toNatClampNeg (.int 4)) 164 41 (.int (np + 1))) 164 45 (.int 1)) 164 46 (.int 1)) 184 i = rg_v g 184 i from rg_v_other (h := g) (o := 184) (k := np.toNatClampNeg) (v := .int 4) (by omega))) (show rg_v (am_up (am_up (am_up (am_up (am_up g 164 44 (.int (kn + 1))) 184 np.toNatClampNeg (.int 4)) 164 41 (.int (np + 1))) 164 45 (.int 1)) 164 46 (.int 1)) 184 np.toNatClampNeg = 4 from rg_v_self (h := g) (o := 184) (k := np.toNatClampNeg)) (show (rg_v h 11 0).toInt ≤ 64 by rw [ekn]; exact nk3_z) (Or.inl ⟨by decide, (show rg_v (am_up (am_up (am_up h 11 0 (.int (kn + 1))) 47 np.toNatClampNeg (.int 3)) 44 13 (.int (np + 1))) 44 14 = op from (show rg_v (am_up (am_up (am_up h 11 0 (.int (kn + 1))) 47 np.toNatClampNeg (.int 3)) 44 13 (.int (np + 1))) 44 14 = op from z4_z)), (show rg_v (am_up (am_up (am_up (am_up (am_up g 164 44 (.int (kn + 1))) 184 np.toNatClampNeg (.int 4)) 164 41 (.int (np + 1))) 164 45 (.int 1)) 164 46 (.int 1)) 164 43 = op from (show rg_v (am_up (am_up (am_up (am_up (am_up g 164 44 (.int (kn + 1))) 184 np.toNatClampNeg (.int 4)) 164 41 (.int (np + 1))) 164 45 (.int 1)) 164 46 (.int 1)) 164 43 = op from z5_z)), (show (rg_v (am_up (am_up (am_up h 11 0 (.int (kn + 1))) 47 np.toNatClampNeg (.int 3)) 44 13 (.int (np + 1))) 11 0).toInt = (rg_v h 11 0).toInt + 1 by rw [(show rg_v (am_up (am_up (am_up h 11 0 (.int (kn + 1))) 47 np.toNatClampNeg (.int 3)) 44 13 (.int (np + 1))) 11 0 = kn + 1 from (show rg_v (am_up (am_up (am_up h 11 0 (.int (kn + 1))) 47 np.toNatClampNeg (.int 3)) 44 13 (.int (np + 1))) 11 0 = kn + 1 from rfl)), ekn]; exact e9_z)⟩)
      replace Z2 := rs_fr (by decide) Z2 t5_z t6_z
      have e45_z : rg_v h3928_z 164 45 = 1 := (rg_v_fr t6_z (by decide)).trans (show rg_v (am_up (am_up (am_up (am_up (am_up g 164 44 (.int (kn + 1))) 184 np.toNatClampNeg (.int 4)) 164 41 (.int (np + 1))) 164 45 (.int 1)) 164 46 (.int 1)) 164 45 = 1 from (show rg_v (am_up (am_up (am_up (am_up (am_up g 164 44 (.int (kn + 1))) 184 np.toNatClampNeg (.int 4)) 164 41 (.int (np + 1))) 164 45 (.int 1)) 164 46 (.int 1)) 164 45 = 1 from rfl))
      have e46_z : rg_v h3928_z 164 46 = 1 := (rg_v_fr t6_z (by decide)).trans (show rg_v (am_up (am_up (am_up (am_up (am_up g 164 44 (.int (kn + 1))) 184 np.toNatClampNeg (.int 4)) 164 41 (.int (np + 1))) 164 45 (.int 1)) 164 46 (.int 1)) 164 46 = 1 from (show rg_v (am_up (am_up (am_up (am_up (am_up g 164 44 (.int (kn + 1))) 184 np.toNatClampNeg (.int 4)) 164 41 (.int (np + 1))) 164 45 (.int 1)) 164 46 (.int 1)) 164 46 = 1 from rfl))
      replace hm_z : rn _ _ _ _ [] _ _ _ := hm_z
      replace hc_z : rn _ _ _ _ [] _ _ _ := hc_z
      replace hc_z := rn_iload_n (am_cur_of (i := (160, 1, .iload_n 1, (0, 0, 0), 0)) (by decide +kernel)) g1_z hc_z
      replace hc_z := rn_iconst (w := 3) (am_cur_of (i := (161, 1, .iconst 3, (0, 0, 0), 0)) (by decide +kernel)) (by decide) hc_z
      replace hc_z := rn_cmpT (am_cur_of (i := (162, 3, .if_icmp .eq 8, (89, 0, 0), 0)) (by decide +kernel)) (by decide) hc_z
      replace hc_z := rn_iconst (w := 0) (am_cur_of (i := (170, 1, .iconst 0, (0, 0, 0), 0)) (by decide +kernel)) (by decide) hc_z
      replace hc_z := rn_goto (am_cur_of (i := (171, 3, .goto 4, (92, 0, 0), 0)) (by decide +kernel)) hc_z
      replace hc_z := rn_iret (am_cur_of (i := (175, 1, .ireturn, (0, 0, 0), 0)) (by decide +kernel)) hc_z
      obtain ⟨e3930_z, e3931_z⟩ := hc_z
      replace hm_z := rn_iconst (w := 1) (am_cur_of (i := (257, 1, .iconst 1, (0, 0, 0), 0)) (by decide +kernel)) (by decide) hm_z
      replace hm_z := rn_iret (am_cur_of (i := (258, 1, .ireturn, (0, 0, 0), 0)) (by decide +kernel)) hm_z
      obtain ⟨e3932_z, e3933_z⟩ := hm_z
      subst e3930_z e3931_z e3932_z e3933_z
      exact Or.inl ⟨_, x2_z, p2_z, rfl, rfl, R2, le2_z, A2, B2, Z2, Or.inl ⟨rfl, e45_z, e46_z⟩⟩
theorem rj_t4_2 {T : Nat → Int32} {S x p : Int32} {n n' : Nat} {h h' g g' : am_H} {r r' : Option Value} {ls ls2_z : am_L} (R : rq T S x p 2 h g) (A : rp 2 h g) (B : rp_t h g) (Z : rs 2 h g) (g0_z : am_get ls 0 = some (.ref 44)) (g1_z : am_get ls 1 = some (.int 4)) (g0m : am_get ls2_z 0 = some (.ref 164)) (g1m : am_get ls2_z 1 = some (.int 3)) (hc_z : rn n am_m44 76 ls [] h r h') (hm_z : rn n' am_m178 110 ls2_z [] g r' g') : rv_Q T S x p 2 h' g' r r' := by
  have Rk := R
  have Zk := Z
  obtain ⟨⟨c1_z, c2_z, c3_z, c4_z, c5_z, c6_z, c7_z, c8_z⟩, ⟨m2_z, m3_z, m4_z, m5_z, m6_z, m7_z, m8_z⟩, R3, R4, R5, R6, R7, R8, R9, R10⟩ := (R : rq T S x p 2 h g)
  obtain ⟨np, op, z1_z, z2_z, z3_z, z4_z, z5_z, z6_z, z7_z, z8_z, z9_z, z10_z⟩ := (Z : rs 2 h g)
  obtain ⟨nk1_z, nk2_z, nk3_z⟩ := A.2.2.2.2.2.1
  replace nk1_z : rg_v h 11 0 = rg_v g 164 44 := nk1_z
  replace nk2_z : 0 ≤ (rg_v h 11 0).toInt := nk2_z
  replace nk3_z : (rg_v h 11 0).toInt ≤ 64 := nk3_z
  replace z8_z : np.toInt ≤ (rg_v h 11 0).toInt + op.toInt := z8_z
  obtain ⟨kn, ekn⟩ : ∃ v, rg_v h 11 0 = v := ⟨_, rfl⟩
  rw [ekn] at nk1_z nk2_z nk3_z z8_z
  have e9_z := rt_c1 (x := kn) (by omega) (by omega)
  replace hc_z := rn_aload_n (am_cur_of (i := (147, 1, .aload_n 0, (0, 0, 0), 0)) (by decide +kernel)) g0_z hc_z
  replace hc_z := rn_callV (M' := am_m49) (o := 44) (ar := []) (rest := []) (L := lv_args 0 [.ref 44]) (am_cur_of (i := (148, 3, .invokevirtual 270, (49, 852, 3), 0)) (by decide +kernel)) rfl rfl rfl rfl hc_z
  obtain ⟨r3934_z, h3935_z, q3936_z, hc_z⟩ := hc_z
  rcases rs_ck2 R4 (show h 44 6 = .ref 2 from R3) q3936_z with ⟨ge, rfl, eh⟩ | ⟨lt, rfl, eh⟩
  · subst eh
    replace ge : 64 ≤ kn.toInt := by rw [← ekn]; exact ge
    replace hc_z : rn _ _ _ _ [] _ _ _ := hc_z
    have K := rs_stick (w := 2) (q := p) (a := 44) (by decide) (by decide) rfl (by decide) rfl (show rg_v (am_up (am_up h 44 1 (.int 2)) 44 2 (.int (rg_v h 44 9))) 44 2 = p from R5) hc_z
    replace hm_z := rn_aload_n (am_cur_of (i := (217, 1, .aload_n 0, (0, 0, 0), 0)) (by decide +kernel)) g0m hm_z
    replace hm_z := rn_callV (M' := am_m175) (o := 164) (ar := []) (rest := []) (L := lv_args 0 [.ref 164]) (am_cur_of (i := (218, 3, .invokevirtual 309, (175, 1731, 3), 0)) (by decide +kernel)) rfl rfl rfl rfl hm_z
    obtain ⟨r3937_z, h3938_z, q3939_z, hm_z⟩ := hm_z
    rcases rs_ic q3939_z with ⟨i1_z, rfl, i3_z⟩ | ⟨i1_z, -⟩
    · subst i3_z
      replace hm_z : rn _ _ _ _ [.int 0] _ _ _ := hm_z
      replace hm_z := rn_ifF (am_cur_of (i := (221, 3, .ifCond .ne 5, (115, 0, 0), 0)) (by decide +kernel)) (by decide) hm_z
      replace hm_z := rn_iconst (w := 0) (am_cur_of (i := (224, 1, .iconst 0, (0, 0, 0), 0)) (by decide +kernel)) (by decide) hm_z
      replace hm_z := rn_iret (am_cur_of (i := (225, 1, .ireturn, (0, 0, 0), 0)) (by decide +kernel)) hm_z
      obtain ⟨e3940_z, e3941_z⟩ := hm_z
      subst e3940_z e3941_z
      exact (Or.inr ⟨rfl, 2, by decide, K.1, K.2, rfl, R6⟩)
    · exact absurd (Int32.toInt_inj.mp (show (rg_v g 164 44).toInt = (64 : Int32).toInt from by rw [show rg_v g 164 44 = kn from nk1_z.symm, show (64 : Int32).toInt = 64 by decide]; omega)) i1_z
  · subst eh
    replace lt : kn.toInt < 64 := by rw [← ekn]; exact lt
    rw [show rg_v h 11 0 = kn from ekn] at hc_z
    replace hm_z := rn_aload_n (am_cur_of (i := (217, 1, .aload_n 0, (0, 0, 0), 0)) (by decide +kernel)) g0m hm_z
    replace hm_z := rn_callV (M' := am_m175) (o := 164) (ar := []) (rest := []) (L := lv_args 0 [.ref 164]) (am_cur_of (i := (218, 3, .invokevirtual 309, (175, 1731, 3), 0)) (by decide +kernel)) rfl rfl rfl rfl hm_z
    obtain ⟨r3942_z, h3943_z, q3944_z, hm_z⟩ := hm_z
    rcases rs_ic q3944_z with ⟨i1_z, -⟩ | ⟨i1_z, rfl, i3_z⟩
    · exfalso
      have zz := congrArg Int32.toInt i1_z
      rw [show rg_v g 164 44 = kn from nk1_z.symm, show (64 : Int32).toInt = 64 by decide] at zz
      omega
    · subst i3_z
      rw [show rg_v g 164 44 = kn from nk1_z.symm] at hm_z
      replace hm_z : rn _ _ _ _ [.int 1] _ _ _ := hm_z
      replace hc_z : rn _ _ _ _ [] _ _ _ := hc_z
      replace hc_z := rn_aload_n (am_cur_of (i := (151, 1, .aload_n 0, (0, 0, 0), 0)) (by decide +kernel)) g0_z hc_z
      replace hc_z := rn_iload_n (am_cur_of (i := (152, 1, .iload_n 1, (0, 0, 0), 0)) (by decide +kernel)) g1_z hc_z
      replace hc_z := rn_callV (M' := am_m50) (o := 44) (ar := [.int 4]) (rest := []) (L := lv_args 0 [.ref 44, .int 4]) (am_cur_of (i := (153, 3, .invokevirtual 273, (50, 856, 3), 0)) (by decide +kernel)) rfl rfl rfl rfl hc_z
      obtain ⟨r3945_z, h3946_z, q3947_z, hc_z⟩ := hc_z
      obtain ⟨rfl, eh⟩ := rs_hold (np := np) (show rg_v (am_up h 11 0 (.int (kn + 1))) 44 13 = np from z1_z) (by omega) q3947_z
      subst eh
      replace hc_z : rn _ _ _ _ [] _ _ _ := hc_z
      replace hc_z := rn_aload_n (am_cur_of (i := (156, 1, .aload_n 0, (0, 0, 0), 0)) (by decide +kernel)) g0_z hc_z
      replace hc_z := rn_callV (M' := am_m19) (o := 44) (ar := []) (rest := []) (L := lv_args 0 [.ref 44]) (am_cur_of (i := (157, 3, .invokevirtual 57, (19, 727, 3), 0)) (by decide +kernel)) rfl rfl rfl rfl hc_z
      obtain ⟨r3948_z, h3949_z, q3950_z, hc_z⟩ := hc_z
      have vo := rn_void rfl q3950_z
      subst vo
      replace hm_z := rn_ifT (am_cur_of (i := (221, 3, .ifCond .ne 5, (115, 0, 0), 0)) (by decide +kernel)) (by decide) hm_z
      replace hm_z := rn_aload_n (am_cur_of (i := (226, 1, .aload_n 0, (0, 0, 0), 0)) (by decide +kernel)) g0m hm_z
      replace hm_z := rn_iload_n (am_cur_of (i := (227, 1, .iload_n 1, (0, 0, 0), 0)) (by decide +kernel)) g1m hm_z
      replace hm_z := rn_callV (M' := am_m173) (o := 164) (ar := [.int 3]) (rest := []) (L := lv_args 0 [.ref 164, .int 3]) (am_cur_of (i := (228, 3, .invokevirtual 298, (173, 1723, 3), 0)) (by decide +kernel)) rfl rfl rfl rfl hm_z
      obtain ⟨r3951_z, h3952_z, q3953_z, hm_z⟩ := hm_z
      obtain ⟨rfl, eh⟩ := rs_wf (np := np) (show rg_v (am_up g 164 44 (.int (kn + 1))) 164 41 = np from z2_z) q3953_z
      subst eh
      replace hm_z : rn _ _ _ _ [] _ _ _ := hm_z
      replace hm_z := rn_aload_n (am_cur_of (i := (231, 1, .aload_n 0, (0, 0, 0), 0)) (by decide +kernel)) g0m hm_z
      replace hm_z := rn_iconst (w := 1) (am_cur_of (i := (232, 1, .iconst 1, (0, 0, 0), 0)) (by decide +kernel)) (by decide) hm_z
      replace hm_z := rn_put (am_cur_of (i := (233, 3, .putfield 315, (12, 45, 1429), 0)) (by decide +kernel)) (by decide +kernel) hm_z
      replace hm_z := rn_aload_n (am_cur_of (i := (236, 1, .aload_n 0, (0, 0, 0), 0)) (by decide +kernel)) g0m hm_z
      replace hm_z := rn_iload_n (am_cur_of (i := (237, 1, .iload_n 1, (0, 0, 0), 0)) (by decide +kernel)) g1m hm_z
      replace hm_z := rn_callS (M' := am_m180) (ar := [.int 3]) (rest := [.ref 164]) (L := lv_args 0 [.int 3]) (am_cur_of (i := (238, 3, .invokestatic 283, (180, 1751, 3), 0)) (by decide +kernel)) rfl rfl rfl rfl hm_z
      obtain ⟨r3954_z, h3955_z, q3956_z, hm_z⟩ := hm_z
      obtain ⟨rfl, yq3956_z⟩ := rs_rankM q3956_z
      replace yq3956_z := yq3956_z.symm
      subst yq3956_z
      rw [show rk_M 3 = 2 by decide] at hm_z
      replace hm_z : rn _ _ _ _ [.int 2, .ref 164] _ _ _ := hm_z
      replace hm_z := rn_iconst (w := 3) (am_cur_of (i := (241, 1, .iconst 3, (0, 0, 0), 0)) (by decide +kernel)) (by decide) hm_z
      replace hm_z := rn_cmpF (am_cur_of (i := (242, 3, .if_icmp .ge 7, (128, 0, 0), 0)) (by decide +kernel)) (by decide) hm_z
      replace hm_z := rn_iconst (w := 1) (am_cur_of (i := (245, 1, .iconst 1, (0, 0, 0), 0)) (by decide +kernel)) (by decide) hm_z
      replace hm_z := rn_goto (am_cur_of (i := (246, 3, .goto 4, (129, 0, 0), 0)) (by decide +kernel)) hm_z
      replace hm_z := rn_put (am_cur_of (i := (250, 3, .putfield 302, (12, 46, 1430), 0)) (by decide +kernel)) (by decide +kernel) hm_z
      replace hm_z := rn_aload_n (am_cur_of (i := (253, 1, .aload_n 0, (0, 0, 0), 0)) (by decide +kernel)) g0m hm_z
      replace hm_z := rn_callV (M' := am_m151) (o := 164) (ar := []) (rest := []) (L := lv_args 0 [.ref 164]) (am_cur_of (i := (254, 3, .invokevirtual 191, (151, 1636, 3), 0)) (by decide +kernel)) rfl rfl rfl rfl hm_z
      obtain ⟨r3957_z, h3958_z, q3959_z, hm_z⟩ := hm_z
      have vo := rn_void rfl q3959_z
      subst vo
      have FC : ab_Fr (rz_MC2.drop 1) h (am_up (am_up (am_up h 11 0 (.int (kn + 1))) 47 np.toNatClampNeg (.int 4)) 44 13 (.int (np + 1))) := ab_Fr_up rfl (ab_Fr_up rfl (ab_Fr_up rfl ab_Fr_refl))
      have FC' : ab_Fr rz_MC2 h (am_up (am_up (am_up h 11 0 (.int (kn + 1))) 47 np.toNatClampNeg (.int 4)) 44 13 (.int (np + 1))) := ab_Fr_sub (by decide) FC
      have FM : ab_Fr rz_MM g (am_up (am_up (am_up (am_up (am_up g 164 44 (.int (kn + 1))) 184 np.toNatClampNeg (.int 3)) 164 41 (.int (np + 1))) 164 45 (.int 1)) 164 46 (.int 1)) := ab_Fr_up rfl (ab_Fr_up rfl (ab_Fr_up rfl (ab_Fr_up rfl (ab_Fr_up rfl ab_Fr_refl))))
      obtain ⟨-, -, x2_z, p2_z, R2, le2_z, t5_z, t6_z⟩ := pr_tok (rz_q02 (rq_0 Rk) FC' FM) q3950_z q3959_z
      have A2 := rp_x (by decide) (rz_p2 A FC' FM ((show rg_v (am_up (am_up (am_up h 11 0 (.int (kn + 1))) 47 np.toNatClampNeg (.int 4)) 44 13 (.int (np + 1))) 11 0 = kn + 1 from (show rg_v (am_up (am_up (am_up h 11 0 (.int (kn + 1))) 47 np.toNatClampNeg (.int 4)) 44 13 (.int (np + 1))) 11 0 = kn + 1 from rfl)).trans (show rg_v (am_up (am_up (am_up (am_up (am_up g 164 44 (.int (kn + 1))) 184 np.toNatClampNeg (.int 3)) 164 41 (.int (np + 1))) 164 45 (.int 1)) 164 46 (.int 1)) 164 44 = kn + 1 from (show rg_v (am_up (am_up (am_up (am_up (am_up g 164 44 (.int (kn + 1))) 184 np.toNatClampNeg (.int 3)) 164 41 (.int (np + 1))) 164 45 (.int 1)) 164 46 (.int 1)) 164 44 = kn + 1 from rfl)).symm) (by rw [show rg_v (am_up (am_up (am_up h 11 0 (.int (kn + 1))) 47 np.toNatClampNeg (.int 4)) 44 13 (.int (np + 1))) 11 0 = kn + 1 from (show rg_v (am_up (am_up (am_up h 11 0 (.int (kn + 1))) 47 np.toNatClampNeg (.int 4)) 44 13 (.int (np + 1))) 11 0 = kn + 1 from rfl)]; omega) (by rw [show rg_v (am_up (am_up (am_up h 11 0 (.int (kn + 1))) 47 np.toNatClampNeg (.int 4)) 44 13 (.int (np + 1))) 11 0 = kn + 1 from (show rg_v (am_up (am_up (am_up h 11 0 (.int (kn + 1))) 47 np.toNatClampNeg (.int 4)) 44 13 (.int (np + 1))) 11 0 = kn + 1 from rfl)]; omega)) (rx_C_f t5_z) (rx_M_f t6_z)
      have B2 := rp_tk (rz_t2 B FC FM) (rg_v_fr t5_z (by decide)) (fun k => rg_v_fr t6_z (rg_v_in (by decide) k)) (rx_M_f t6_z)
      have Z2 : rs 2 (am_up (am_up (am_up h 11 0 (.int (kn + 1))) 47 np.toNatClampNeg (.int 4)) 44 13 (.int (np + 1))) (am_up (am_up (am_up (am_up (am_up g 164 44 (.int (kn + 1))) 184 np.toNatClampNeg (.int 3)) 164 41 (.int (np + 1))) 164 45 (.int 1)) 164 46 (.int 1)) := rs_push (o := 4) (k := 3) (np := np) (op := op) Zk (by unfold rs_o; decide) z1_z z4_z (show rg_v (am_up (am_up (am_up h 11 0 (.int (kn + 1))) 47 np.toNatClampNeg (.int 4)) 44 13 (.int (np + 1))) 44 13 = np + 1 from (show rg_v (am_up (am_up (am_up h 11 0 (.int (kn + 1))) 47 np.toNatClampNeg (.int 4)) 44 13 (.int (np + 1))) 44 13 = np + 1 from rfl)) (show rg_v (am_up (am_up (am_up (am_up (am_up g 164 44 (.int (kn + 1))) 184 np.toNatClampNeg (.int 3)) 164 41 (.int (np + 1))) 164 45 (.int 1)) 164 46 (.int 1)) 164 41 = np + 1 from (show rg_v (am_up (am_up (am_up (am_up (am_up g 164 44 (.int (kn + 1))) 184 np.toNatClampNeg (.int 3)) 164 41 (.int (np + 1))) 164 45 (.int 1)) 164 46 (.int 1)) 164 41 = np + 1 from rfl)) (fun i hi_z => (show rg_v (am_up (am_up (am_up h 11 0 (.int (kn + 1))) 47 np.toNatClampNeg (.int 4)) 44 13 (.int (np + 1))) 47 i = rg_v h 47 i from rg_v_other (h := h) (o := 47) (k := np.toNatClampNeg) (v := .int 4) (by omega))) (show rg_v (am_up (am_up (am_up h 11 0 (.int (kn + 1))) 47 np.toNatClampNeg (.int 4)) 44 13 (.int (np + 1))) 47 np.toNatClampNeg = 4 from rg_v_self (h := h) (o := 47) (k := np.toNatClampNeg)) (fun i hi_z => (show rg_v (am_up (am_up (am_up (am_up (am_up g 164 44 (.int (kn + 1))) 184 np.toNatClampNeg (.int 3)) 164 41 (.int (np + 1))) 164 45 (.int 1)) 164 46 (.int 1)) 184 i = rg_v g 184 i from rg_v_other (h := g) (o := 184) (k := np.toNatClampNeg) (v := .int 3) (by omega))) (show rg_v (am_up (am_up (am_up (am_up (am_up g 164 44 (.int (kn + 1))) 184 np.toNatClampNeg (.int 3)) 164 41 (.int (np + 1))) 164 45 (.int 1)) 164 46 (.int 1)) 184 np.toNatClampNeg = 3 from rg_v_self (h := g) (o := 184) (k := np.toNatClampNeg)) (show (rg_v h 11 0).toInt ≤ 64 by rw [ekn]; exact nk3_z) (Or.inl ⟨by decide, (show rg_v (am_up (am_up (am_up h 11 0 (.int (kn + 1))) 47 np.toNatClampNeg (.int 4)) 44 13 (.int (np + 1))) 44 14 = op from (show rg_v (am_up (am_up (am_up h 11 0 (.int (kn + 1))) 47 np.toNatClampNeg (.int 4)) 44 13 (.int (np + 1))) 44 14 = op from z4_z)), (show rg_v (am_up (am_up (am_up (am_up (am_up g 164 44 (.int (kn + 1))) 184 np.toNatClampNeg (.int 3)) 164 41 (.int (np + 1))) 164 45 (.int 1)) 164 46 (.int 1)) 164 43 = op from (show rg_v (am_up (am_up (am_up (am_up (am_up g 164 44 (.int (kn + 1))) 184 np.toNatClampNeg (.int 3)) 164 41 (.int (np + 1))) 164 45 (.int 1)) 164 46 (.int 1)) 164 43 = op from z5_z)), (show (rg_v (am_up (am_up (am_up h 11 0 (.int (kn + 1))) 47 np.toNatClampNeg (.int 4)) 44 13 (.int (np + 1))) 11 0).toInt = (rg_v h 11 0).toInt + 1 by rw [(show rg_v (am_up (am_up (am_up h 11 0 (.int (kn + 1))) 47 np.toNatClampNeg (.int 4)) 44 13 (.int (np + 1))) 11 0 = kn + 1 from (show rg_v (am_up (am_up (am_up h 11 0 (.int (kn + 1))) 47 np.toNatClampNeg (.int 4)) 44 13 (.int (np + 1))) 11 0 = kn + 1 from rfl)), ekn]; exact e9_z)⟩)
      replace Z2 := rs_fr (by decide) Z2 t5_z t6_z
      have e45_z : rg_v h3958_z 164 45 = 1 := (rg_v_fr t6_z (by decide)).trans (show rg_v (am_up (am_up (am_up (am_up (am_up g 164 44 (.int (kn + 1))) 184 np.toNatClampNeg (.int 3)) 164 41 (.int (np + 1))) 164 45 (.int 1)) 164 46 (.int 1)) 164 45 = 1 from (show rg_v (am_up (am_up (am_up (am_up (am_up g 164 44 (.int (kn + 1))) 184 np.toNatClampNeg (.int 3)) 164 41 (.int (np + 1))) 164 45 (.int 1)) 164 46 (.int 1)) 164 45 = 1 from rfl))
      have e46_z : rg_v h3958_z 164 46 = 1 := (rg_v_fr t6_z (by decide)).trans (show rg_v (am_up (am_up (am_up (am_up (am_up g 164 44 (.int (kn + 1))) 184 np.toNatClampNeg (.int 3)) 164 41 (.int (np + 1))) 164 45 (.int 1)) 164 46 (.int 1)) 164 46 = 1 from (show rg_v (am_up (am_up (am_up (am_up (am_up g 164 44 (.int (kn + 1))) 184 np.toNatClampNeg (.int 3)) 164 41 (.int (np + 1))) 164 45 (.int 1)) 164 46 (.int 1)) 164 46 = 1 from rfl))
      replace hm_z : rn _ _ _ _ [] _ _ _ := hm_z
      replace hc_z : rn _ _ _ _ [] _ _ _ := hc_z
      replace hc_z := rn_iload_n (am_cur_of (i := (160, 1, .iload_n 1, (0, 0, 0), 0)) (by decide +kernel)) g1_z hc_z
      replace hc_z := rn_iconst (w := 3) (am_cur_of (i := (161, 1, .iconst 3, (0, 0, 0), 0)) (by decide +kernel)) (by decide) hc_z
      replace hc_z := rn_cmpF (am_cur_of (i := (162, 3, .if_icmp .eq 8, (89, 0, 0), 0)) (by decide +kernel)) (by decide) hc_z
      replace hc_z := rn_iload_n (am_cur_of (i := (165, 1, .iload_n 1, (0, 0, 0), 0)) (by decide +kernel)) g1_z hc_z
      replace hc_z := rn_iconst (w := 4) (am_cur_of (i := (166, 1, .iconst 4, (0, 0, 0), 0)) (by decide +kernel)) (by decide) hc_z
      replace hc_z := rn_cmpF (am_cur_of (i := (167, 3, .if_icmp .ne 7, (91, 0, 0), 0)) (by decide +kernel)) (by decide) hc_z
      replace hc_z := rn_iconst (w := 0) (am_cur_of (i := (170, 1, .iconst 0, (0, 0, 0), 0)) (by decide +kernel)) (by decide) hc_z
      replace hc_z := rn_goto (am_cur_of (i := (171, 3, .goto 4, (92, 0, 0), 0)) (by decide +kernel)) hc_z
      replace hc_z := rn_iret (am_cur_of (i := (175, 1, .ireturn, (0, 0, 0), 0)) (by decide +kernel)) hc_z
      obtain ⟨e3960_z, e3961_z⟩ := hc_z
      replace hm_z := rn_iconst (w := 1) (am_cur_of (i := (257, 1, .iconst 1, (0, 0, 0), 0)) (by decide +kernel)) (by decide) hm_z
      replace hm_z := rn_iret (am_cur_of (i := (258, 1, .ireturn, (0, 0, 0), 0)) (by decide +kernel)) hm_z
      obtain ⟨e3962_z, e3963_z⟩ := hm_z
      subst e3960_z e3961_z e3962_z e3963_z
      exact Or.inl ⟨_, x2_z, p2_z, rfl, rfl, R2, le2_z, A2, B2, Z2, Or.inl ⟨rfl, e45_z, e46_z⟩⟩
theorem rj_t6_2 {T : Nat → Int32} {S x p : Int32} {n n' : Nat} {h h' g g' : am_H} {r r' : Option Value} {ls ls2_z : am_L} (R : rq T S x p 2 h g) (A : rp 2 h g) (B : rp_t h g) (Z : rs 2 h g) (g0_z : am_get ls 0 = some (.ref 44)) (g1_z : am_get ls 1 = some (.int 6)) (g0m : am_get ls2_z 0 = some (.ref 164)) (g1m : am_get ls2_z 1 = some (.int 5)) (hc_z : rn n am_m44 76 ls [] h r h') (hm_z : rn n' am_m178 110 ls2_z [] g r' g') : rv_Q T S x p 2 h' g' r r' := by
  have Rk := R
  have Zk := Z
  obtain ⟨⟨c1_z, c2_z, c3_z, c4_z, c5_z, c6_z, c7_z, c8_z⟩, ⟨m2_z, m3_z, m4_z, m5_z, m6_z, m7_z, m8_z⟩, R3, R4, R5, R6, R7, R8, R9, R10⟩ := (R : rq T S x p 2 h g)
  obtain ⟨np, op, z1_z, z2_z, z3_z, z4_z, z5_z, z6_z, z7_z, z8_z, z9_z, z10_z⟩ := (Z : rs 2 h g)
  obtain ⟨nk1_z, nk2_z, nk3_z⟩ := A.2.2.2.2.2.1
  replace nk1_z : rg_v h 11 0 = rg_v g 164 44 := nk1_z
  replace nk2_z : 0 ≤ (rg_v h 11 0).toInt := nk2_z
  replace nk3_z : (rg_v h 11 0).toInt ≤ 64 := nk3_z
  replace z8_z : np.toInt ≤ (rg_v h 11 0).toInt + op.toInt := z8_z
  obtain ⟨kn, ekn⟩ : ∃ v, rg_v h 11 0 = v := ⟨_, rfl⟩
  rw [ekn] at nk1_z nk2_z nk3_z z8_z
  have e9_z := rt_c1 (x := kn) (by omega) (by omega)
  replace hc_z := rn_aload_n (am_cur_of (i := (147, 1, .aload_n 0, (0, 0, 0), 0)) (by decide +kernel)) g0_z hc_z
  replace hc_z := rn_callV (M' := am_m49) (o := 44) (ar := []) (rest := []) (L := lv_args 0 [.ref 44]) (am_cur_of (i := (148, 3, .invokevirtual 270, (49, 852, 3), 0)) (by decide +kernel)) rfl rfl rfl rfl hc_z
  obtain ⟨r3964_z, h3965_z, q3966_z, hc_z⟩ := hc_z
  rcases rs_ck2 R4 (show h 44 6 = .ref 2 from R3) q3966_z with ⟨ge, rfl, eh⟩ | ⟨lt, rfl, eh⟩
  · subst eh
    replace ge : 64 ≤ kn.toInt := by rw [← ekn]; exact ge
    replace hc_z : rn _ _ _ _ [] _ _ _ := hc_z
    have K := rs_stick (w := 2) (q := p) (a := 44) (by decide) (by decide) rfl (by decide) rfl (show rg_v (am_up (am_up h 44 1 (.int 2)) 44 2 (.int (rg_v h 44 9))) 44 2 = p from R5) hc_z
    replace hm_z := rn_aload_n (am_cur_of (i := (217, 1, .aload_n 0, (0, 0, 0), 0)) (by decide +kernel)) g0m hm_z
    replace hm_z := rn_callV (M' := am_m175) (o := 164) (ar := []) (rest := []) (L := lv_args 0 [.ref 164]) (am_cur_of (i := (218, 3, .invokevirtual 309, (175, 1731, 3), 0)) (by decide +kernel)) rfl rfl rfl rfl hm_z
    obtain ⟨r3967_z, h3968_z, q3969_z, hm_z⟩ := hm_z
    rcases rs_ic q3969_z with ⟨i1_z, rfl, i3_z⟩ | ⟨i1_z, -⟩
    · subst i3_z
      replace hm_z : rn _ _ _ _ [.int 0] _ _ _ := hm_z
      replace hm_z := rn_ifF (am_cur_of (i := (221, 3, .ifCond .ne 5, (115, 0, 0), 0)) (by decide +kernel)) (by decide) hm_z
      replace hm_z := rn_iconst (w := 0) (am_cur_of (i := (224, 1, .iconst 0, (0, 0, 0), 0)) (by decide +kernel)) (by decide) hm_z
      replace hm_z := rn_iret (am_cur_of (i := (225, 1, .ireturn, (0, 0, 0), 0)) (by decide +kernel)) hm_z
      obtain ⟨e3970_z, e3971_z⟩ := hm_z
      subst e3970_z e3971_z
      exact (Or.inr ⟨rfl, 2, by decide, K.1, K.2, rfl, R6⟩)
    · exact absurd (Int32.toInt_inj.mp (show (rg_v g 164 44).toInt = (64 : Int32).toInt from by rw [show rg_v g 164 44 = kn from nk1_z.symm, show (64 : Int32).toInt = 64 by decide]; omega)) i1_z
  · subst eh
    replace lt : kn.toInt < 64 := by rw [← ekn]; exact lt
    rw [show rg_v h 11 0 = kn from ekn] at hc_z
    replace hm_z := rn_aload_n (am_cur_of (i := (217, 1, .aload_n 0, (0, 0, 0), 0)) (by decide +kernel)) g0m hm_z
    replace hm_z := rn_callV (M' := am_m175) (o := 164) (ar := []) (rest := []) (L := lv_args 0 [.ref 164]) (am_cur_of (i := (218, 3, .invokevirtual 309, (175, 1731, 3), 0)) (by decide +kernel)) rfl rfl rfl rfl hm_z
    obtain ⟨r3972_z, h3973_z, q3974_z, hm_z⟩ := hm_z
    rcases rs_ic q3974_z with ⟨i1_z, -⟩ | ⟨i1_z, rfl, i3_z⟩
    · exfalso
      have zz := congrArg Int32.toInt i1_z
      rw [show rg_v g 164 44 = kn from nk1_z.symm, show (64 : Int32).toInt = 64 by decide] at zz
      omega
    · subst i3_z
      rw [show rg_v g 164 44 = kn from nk1_z.symm] at hm_z
      replace hm_z : rn _ _ _ _ [.int 1] _ _ _ := hm_z
      replace hc_z : rn _ _ _ _ [] _ _ _ := hc_z
      replace hc_z := rn_aload_n (am_cur_of (i := (151, 1, .aload_n 0, (0, 0, 0), 0)) (by decide +kernel)) g0_z hc_z
      replace hc_z := rn_iload_n (am_cur_of (i := (152, 1, .iload_n 1, (0, 0, 0), 0)) (by decide +kernel)) g1_z hc_z
      replace hc_z := rn_callV (M' := am_m50) (o := 44) (ar := [.int 6]) (rest := []) (L := lv_args 0 [.ref 44, .int 6]) (am_cur_of (i := (153, 3, .invokevirtual 273, (50, 856, 3), 0)) (by decide +kernel)) rfl rfl rfl rfl hc_z
      obtain ⟨r3975_z, h3976_z, q3977_z, hc_z⟩ := hc_z
      obtain ⟨rfl, eh⟩ := rs_hold (np := np) (show rg_v (am_up h 11 0 (.int (kn + 1))) 44 13 = np from z1_z) (by omega) q3977_z
      subst eh
      replace hc_z : rn _ _ _ _ [] _ _ _ := hc_z
      replace hc_z := rn_aload_n (am_cur_of (i := (156, 1, .aload_n 0, (0, 0, 0), 0)) (by decide +kernel)) g0_z hc_z
      replace hc_z := rn_callV (M' := am_m19) (o := 44) (ar := []) (rest := []) (L := lv_args 0 [.ref 44]) (am_cur_of (i := (157, 3, .invokevirtual 57, (19, 727, 3), 0)) (by decide +kernel)) rfl rfl rfl rfl hc_z
      obtain ⟨r3978_z, h3979_z, q3980_z, hc_z⟩ := hc_z
      have vo := rn_void rfl q3980_z
      subst vo
      replace hm_z := rn_ifT (am_cur_of (i := (221, 3, .ifCond .ne 5, (115, 0, 0), 0)) (by decide +kernel)) (by decide) hm_z
      replace hm_z := rn_aload_n (am_cur_of (i := (226, 1, .aload_n 0, (0, 0, 0), 0)) (by decide +kernel)) g0m hm_z
      replace hm_z := rn_iload_n (am_cur_of (i := (227, 1, .iload_n 1, (0, 0, 0), 0)) (by decide +kernel)) g1m hm_z
      replace hm_z := rn_callV (M' := am_m173) (o := 164) (ar := [.int 5]) (rest := []) (L := lv_args 0 [.ref 164, .int 5]) (am_cur_of (i := (228, 3, .invokevirtual 298, (173, 1723, 3), 0)) (by decide +kernel)) rfl rfl rfl rfl hm_z
      obtain ⟨r3981_z, h3982_z, q3983_z, hm_z⟩ := hm_z
      obtain ⟨rfl, eh⟩ := rs_wf (np := np) (show rg_v (am_up g 164 44 (.int (kn + 1))) 164 41 = np from z2_z) q3983_z
      subst eh
      replace hm_z : rn _ _ _ _ [] _ _ _ := hm_z
      replace hm_z := rn_aload_n (am_cur_of (i := (231, 1, .aload_n 0, (0, 0, 0), 0)) (by decide +kernel)) g0m hm_z
      replace hm_z := rn_iconst (w := 1) (am_cur_of (i := (232, 1, .iconst 1, (0, 0, 0), 0)) (by decide +kernel)) (by decide) hm_z
      replace hm_z := rn_put (am_cur_of (i := (233, 3, .putfield 315, (12, 45, 1429), 0)) (by decide +kernel)) (by decide +kernel) hm_z
      replace hm_z := rn_aload_n (am_cur_of (i := (236, 1, .aload_n 0, (0, 0, 0), 0)) (by decide +kernel)) g0m hm_z
      replace hm_z := rn_iload_n (am_cur_of (i := (237, 1, .iload_n 1, (0, 0, 0), 0)) (by decide +kernel)) g1m hm_z
      replace hm_z := rn_callS (M' := am_m180) (ar := [.int 5]) (rest := [.ref 164]) (L := lv_args 0 [.int 5]) (am_cur_of (i := (238, 3, .invokestatic 283, (180, 1751, 3), 0)) (by decide +kernel)) rfl rfl rfl rfl hm_z
      obtain ⟨r3984_z, h3985_z, q3986_z, hm_z⟩ := hm_z
      obtain ⟨rfl, yq3986_z⟩ := rs_rankM q3986_z
      replace yq3986_z := yq3986_z.symm
      subst yq3986_z
      rw [show rk_M 5 = 4 by decide] at hm_z
      replace hm_z : rn _ _ _ _ [.int 4, .ref 164] _ _ _ := hm_z
      replace hm_z := rn_iconst (w := 3) (am_cur_of (i := (241, 1, .iconst 3, (0, 0, 0), 0)) (by decide +kernel)) (by decide) hm_z
      replace hm_z := rn_cmpT (am_cur_of (i := (242, 3, .if_icmp .ge 7, (128, 0, 0), 0)) (by decide +kernel)) (by decide) hm_z
      replace hm_z := rn_iconst (w := 0) (am_cur_of (i := (249, 1, .iconst 0, (0, 0, 0), 0)) (by decide +kernel)) (by decide) hm_z
      replace hm_z := rn_put (am_cur_of (i := (250, 3, .putfield 302, (12, 46, 1430), 0)) (by decide +kernel)) (by decide +kernel) hm_z
      replace hm_z := rn_aload_n (am_cur_of (i := (253, 1, .aload_n 0, (0, 0, 0), 0)) (by decide +kernel)) g0m hm_z
      replace hm_z := rn_callV (M' := am_m151) (o := 164) (ar := []) (rest := []) (L := lv_args 0 [.ref 164]) (am_cur_of (i := (254, 3, .invokevirtual 191, (151, 1636, 3), 0)) (by decide +kernel)) rfl rfl rfl rfl hm_z
      obtain ⟨r3987_z, h3988_z, q3989_z, hm_z⟩ := hm_z
      have vo := rn_void rfl q3989_z
      subst vo
      have FC : ab_Fr (rz_MC2.drop 1) h (am_up (am_up (am_up h 11 0 (.int (kn + 1))) 47 np.toNatClampNeg (.int 6)) 44 13 (.int (np + 1))) := ab_Fr_up rfl (ab_Fr_up rfl (ab_Fr_up rfl ab_Fr_refl))
      have FC' : ab_Fr rz_MC2 h (am_up (am_up (am_up h 11 0 (.int (kn + 1))) 47 np.toNatClampNeg (.int 6)) 44 13 (.int (np + 1))) := ab_Fr_sub (by decide) FC
      have FM : ab_Fr rz_MM g (am_up (am_up (am_up (am_up (am_up g 164 44 (.int (kn + 1))) 184 np.toNatClampNeg (.int 5)) 164 41 (.int (np + 1))) 164 45 (.int 1)) 164 46 (.int 0)) := ab_Fr_up rfl (ab_Fr_up rfl (ab_Fr_up rfl (ab_Fr_up rfl (ab_Fr_up rfl ab_Fr_refl))))
      obtain ⟨-, -, x2_z, p2_z, R2, le2_z, t5_z, t6_z⟩ := pr_tok (rz_q02 (rq_0 Rk) FC' FM) q3980_z q3989_z
      have A2 := rp_x (by decide) (rz_p2 A FC' FM ((show rg_v (am_up (am_up (am_up h 11 0 (.int (kn + 1))) 47 np.toNatClampNeg (.int 6)) 44 13 (.int (np + 1))) 11 0 = kn + 1 from (show rg_v (am_up (am_up (am_up h 11 0 (.int (kn + 1))) 47 np.toNatClampNeg (.int 6)) 44 13 (.int (np + 1))) 11 0 = kn + 1 from rfl)).trans (show rg_v (am_up (am_up (am_up (am_up (am_up g 164 44 (.int (kn + 1))) 184 np.toNatClampNeg (.int 5)) 164 41 (.int (np + 1))) 164 45 (.int 1)) 164 46 (.int 0)) 164 44 = kn + 1 from (show rg_v (am_up (am_up (am_up (am_up (am_up g 164 44 (.int (kn + 1))) 184 np.toNatClampNeg (.int 5)) 164 41 (.int (np + 1))) 164 45 (.int 1)) 164 46 (.int 0)) 164 44 = kn + 1 from rfl)).symm) (by rw [show rg_v (am_up (am_up (am_up h 11 0 (.int (kn + 1))) 47 np.toNatClampNeg (.int 6)) 44 13 (.int (np + 1))) 11 0 = kn + 1 from (show rg_v (am_up (am_up (am_up h 11 0 (.int (kn + 1))) 47 np.toNatClampNeg (.int 6)) 44 13 (.int (np + 1))) 11 0 = kn + 1 from rfl)]; omega) (by rw [show rg_v (am_up (am_up (am_up h 11 0 (.int (kn + 1))) 47 np.toNatClampNeg (.int 6)) 44 13 (.int (np + 1))) 11 0 = kn + 1 from (show rg_v (am_up (am_up (am_up h 11 0 (.int (kn + 1))) 47 np.toNatClampNeg (.int 6)) 44 13 (.int (np + 1))) 11 0 = kn + 1 from rfl)]; omega)) (rx_C_f t5_z) (rx_M_f t6_z)
      have B2 := rp_tk (rz_t2 B FC FM) (rg_v_fr t5_z (by decide)) (fun k => rg_v_fr t6_z (rg_v_in (by decide) k)) (rx_M_f t6_z)
      have Z2 : rs 2 (am_up (am_up (am_up h 11 0 (.int (kn + 1))) 47 np.toNatClampNeg (.int 6)) 44 13 (.int (np + 1))) (am_up (am_up (am_up (am_up (am_up g 164 44 (.int (kn + 1))) 184 np.toNatClampNeg (.int 5)) 164 41 (.int (np + 1))) 164 45 (.int 1)) 164 46 (.int 0)) := rs_push (o := 6) (k := 5) (np := np) (op := op) Zk (by unfold rs_o; decide) z1_z z4_z (show rg_v (am_up (am_up (am_up h 11 0 (.int (kn + 1))) 47 np.toNatClampNeg (.int 6)) 44 13 (.int (np + 1))) 44 13 = np + 1 from (show rg_v (am_up (am_up (am_up h 11 0 (.int (kn + 1))) 47 np.toNatClampNeg (.int 6)) 44 13 (.int (np + 1))) 44 13 = np + 1 from rfl)) (show rg_v (am_up (am_up (am_up (am_up (am_up g 164 44 (.int (kn + 1))) 184 np.toNatClampNeg (.int 5)) 164 41 (.int (np + 1))) 164 45 (.int 1)) 164 46 (.int 0)) 164 41 = np + 1 from (show rg_v (am_up (am_up (am_up (am_up (am_up g 164 44 (.int (kn + 1))) 184 np.toNatClampNeg (.int 5)) 164 41 (.int (np + 1))) 164 45 (.int 1)) 164 46 (.int 0)) 164 41 = np + 1 from rfl)) (fun i hi_z => (show rg_v (am_up (am_up (am_up h 11 0 (.int (kn + 1))) 47 np.toNatClampNeg (.int 6)) 44 13 (.int (np + 1))) 47 i = rg_v h 47 i from rg_v_other (h := h) (o := 47) (k := np.toNatClampNeg) (v := .int 6) (by omega))) (show rg_v (am_up (am_up (am_up h 11 0 (.int (kn + 1))) 47 np.toNatClampNeg (.int 6)) 44 13 (.int (np + 1))) 47 np.toNatClampNeg = 6 from rg_v_self (h := h) (o := 47) (k := np.toNatClampNeg)) (fun i hi_z => (show rg_v (am_up (am_up (am_up (am_up (am_up g 164 44 (.int (kn + 1))) 184 np.toNatClampNeg (.int 5)) 164 41 (.int (np + 1))) 164 45 (.int 1)) 164 46 (.int 0)) 184 i = rg_v g 184 i from rg_v_other (h := g) (o := 184) (k := np.toNatClampNeg) (v := .int 5) (by omega))) (show rg_v (am_up (am_up (am_up (am_up (am_up g 164 44 (.int (kn + 1))) 184 np.toNatClampNeg (.int 5)) 164 41 (.int (np + 1))) 164 45 (.int 1)) 164 46 (.int 0)) 184 np.toNatClampNeg = 5 from rg_v_self (h := g) (o := 184) (k := np.toNatClampNeg)) (show (rg_v h 11 0).toInt ≤ 64 by rw [ekn]; exact nk3_z) (Or.inl ⟨by decide, (show rg_v (am_up (am_up (am_up h 11 0 (.int (kn + 1))) 47 np.toNatClampNeg (.int 6)) 44 13 (.int (np + 1))) 44 14 = op from (show rg_v (am_up (am_up (am_up h 11 0 (.int (kn + 1))) 47 np.toNatClampNeg (.int 6)) 44 13 (.int (np + 1))) 44 14 = op from z4_z)), (show rg_v (am_up (am_up (am_up (am_up (am_up g 164 44 (.int (kn + 1))) 184 np.toNatClampNeg (.int 5)) 164 41 (.int (np + 1))) 164 45 (.int 1)) 164 46 (.int 0)) 164 43 = op from (show rg_v (am_up (am_up (am_up (am_up (am_up g 164 44 (.int (kn + 1))) 184 np.toNatClampNeg (.int 5)) 164 41 (.int (np + 1))) 164 45 (.int 1)) 164 46 (.int 0)) 164 43 = op from z5_z)), (show (rg_v (am_up (am_up (am_up h 11 0 (.int (kn + 1))) 47 np.toNatClampNeg (.int 6)) 44 13 (.int (np + 1))) 11 0).toInt = (rg_v h 11 0).toInt + 1 by rw [(show rg_v (am_up (am_up (am_up h 11 0 (.int (kn + 1))) 47 np.toNatClampNeg (.int 6)) 44 13 (.int (np + 1))) 11 0 = kn + 1 from (show rg_v (am_up (am_up (am_up h 11 0 (.int (kn + 1))) 47 np.toNatClampNeg (.int 6)) 44 13 (.int (np + 1))) 11 0 = kn + 1 from rfl)), ekn]; exact e9_z)⟩)
      replace Z2 := rs_fr (by decide) Z2 t5_z t6_z
      have e45_z : rg_v h3988_z 164 45 = 1 := (rg_v_fr t6_z (by decide)).trans (show rg_v (am_up (am_up (am_up (am_up (am_up g 164 44 (.int (kn + 1))) 184 np.toNatClampNeg (.int 5)) 164 41 (.int (np + 1))) 164 45 (.int 1)) 164 46 (.int 0)) 164 45 = 1 from (show rg_v (am_up (am_up (am_up (am_up (am_up g 164 44 (.int (kn + 1))) 184 np.toNatClampNeg (.int 5)) 164 41 (.int (np + 1))) 164 45 (.int 1)) 164 46 (.int 0)) 164 45 = 1 from rfl))
      have e46_z : rg_v h3988_z 164 46 = 0 := (rg_v_fr t6_z (by decide)).trans (show rg_v (am_up (am_up (am_up (am_up (am_up g 164 44 (.int (kn + 1))) 184 np.toNatClampNeg (.int 5)) 164 41 (.int (np + 1))) 164 45 (.int 1)) 164 46 (.int 0)) 164 46 = 0 from (show rg_v (am_up (am_up (am_up (am_up (am_up g 164 44 (.int (kn + 1))) 184 np.toNatClampNeg (.int 5)) 164 41 (.int (np + 1))) 164 45 (.int 1)) 164 46 (.int 0)) 164 46 = 0 from rfl))
      replace hm_z : rn _ _ _ _ [] _ _ _ := hm_z
      replace hc_z : rn _ _ _ _ [] _ _ _ := hc_z
      replace hc_z := rn_iload_n (am_cur_of (i := (160, 1, .iload_n 1, (0, 0, 0), 0)) (by decide +kernel)) g1_z hc_z
      replace hc_z := rn_iconst (w := 3) (am_cur_of (i := (161, 1, .iconst 3, (0, 0, 0), 0)) (by decide +kernel)) (by decide) hc_z
      replace hc_z := rn_cmpF (am_cur_of (i := (162, 3, .if_icmp .eq 8, (89, 0, 0), 0)) (by decide +kernel)) (by decide) hc_z
      replace hc_z := rn_iload_n (am_cur_of (i := (165, 1, .iload_n 1, (0, 0, 0), 0)) (by decide +kernel)) g1_z hc_z
      replace hc_z := rn_iconst (w := 4) (am_cur_of (i := (166, 1, .iconst 4, (0, 0, 0), 0)) (by decide +kernel)) (by decide) hc_z
      replace hc_z := rn_cmpT (am_cur_of (i := (167, 3, .if_icmp .ne 7, (91, 0, 0), 0)) (by decide +kernel)) (by decide) hc_z
      replace hc_z := rn_iconst (w := 1) (am_cur_of (i := (174, 1, .iconst 1, (0, 0, 0), 0)) (by decide +kernel)) (by decide) hc_z
      replace hc_z := rn_iret (am_cur_of (i := (175, 1, .ireturn, (0, 0, 0), 0)) (by decide +kernel)) hc_z
      obtain ⟨e3990_z, e3991_z⟩ := hc_z
      replace hm_z := rn_iconst (w := 1) (am_cur_of (i := (257, 1, .iconst 1, (0, 0, 0), 0)) (by decide +kernel)) (by decide) hm_z
      replace hm_z := rn_iret (am_cur_of (i := (258, 1, .ireturn, (0, 0, 0), 0)) (by decide +kernel)) hm_z
      obtain ⟨e3992_z, e3993_z⟩ := hm_z
      subst e3990_z e3991_z e3992_z e3993_z
      exact Or.inl ⟨_, x2_z, p2_z, rfl, rfl, R2, le2_z, A2, B2, Z2, Or.inr (Or.inl ⟨rfl, e45_z, e46_z⟩)⟩
theorem rj_t7_2 {T : Nat → Int32} {S x p : Int32} {n n' : Nat} {h h' g g' : am_H} {r r' : Option Value} {ls ls2_z : am_L} (R : rq T S x p 2 h g) (A : rp 2 h g) (B : rp_t h g) (Z : rs 2 h g) (g0_z : am_get ls 0 = some (.ref 44)) (g1_z : am_get ls 1 = some (.int 7)) (g0m : am_get ls2_z 0 = some (.ref 164)) (g1m : am_get ls2_z 1 = some (.int 6)) (hc_z : rn n am_m44 76 ls [] h r h') (hm_z : rn n' am_m178 110 ls2_z [] g r' g') : rv_Q T S x p 2 h' g' r r' := by
  have Rk := R
  have Zk := Z
  obtain ⟨⟨c1_z, c2_z, c3_z, c4_z, c5_z, c6_z, c7_z, c8_z⟩, ⟨m2_z, m3_z, m4_z, m5_z, m6_z, m7_z, m8_z⟩, R3, R4, R5, R6, R7, R8, R9, R10⟩ := (R : rq T S x p 2 h g)
  obtain ⟨np, op, z1_z, z2_z, z3_z, z4_z, z5_z, z6_z, z7_z, z8_z, z9_z, z10_z⟩ := (Z : rs 2 h g)
  obtain ⟨nk1_z, nk2_z, nk3_z⟩ := A.2.2.2.2.2.1
  replace nk1_z : rg_v h 11 0 = rg_v g 164 44 := nk1_z
  replace nk2_z : 0 ≤ (rg_v h 11 0).toInt := nk2_z
  replace nk3_z : (rg_v h 11 0).toInt ≤ 64 := nk3_z
  replace z8_z : np.toInt ≤ (rg_v h 11 0).toInt + op.toInt := z8_z
  obtain ⟨kn, ekn⟩ : ∃ v, rg_v h 11 0 = v := ⟨_, rfl⟩
  rw [ekn] at nk1_z nk2_z nk3_z z8_z
  have e9_z := rt_c1 (x := kn) (by omega) (by omega)
  replace hc_z := rn_aload_n (am_cur_of (i := (147, 1, .aload_n 0, (0, 0, 0), 0)) (by decide +kernel)) g0_z hc_z
  replace hc_z := rn_callV (M' := am_m49) (o := 44) (ar := []) (rest := []) (L := lv_args 0 [.ref 44]) (am_cur_of (i := (148, 3, .invokevirtual 270, (49, 852, 3), 0)) (by decide +kernel)) rfl rfl rfl rfl hc_z
  obtain ⟨r3994_z, h3995_z, q3996_z, hc_z⟩ := hc_z
  rcases rs_ck2 R4 (show h 44 6 = .ref 2 from R3) q3996_z with ⟨ge, rfl, eh⟩ | ⟨lt, rfl, eh⟩
  · subst eh
    replace ge : 64 ≤ kn.toInt := by rw [← ekn]; exact ge
    replace hc_z : rn _ _ _ _ [] _ _ _ := hc_z
    have K := rs_stick (w := 2) (q := p) (a := 44) (by decide) (by decide) rfl (by decide) rfl (show rg_v (am_up (am_up h 44 1 (.int 2)) 44 2 (.int (rg_v h 44 9))) 44 2 = p from R5) hc_z
    replace hm_z := rn_aload_n (am_cur_of (i := (217, 1, .aload_n 0, (0, 0, 0), 0)) (by decide +kernel)) g0m hm_z
    replace hm_z := rn_callV (M' := am_m175) (o := 164) (ar := []) (rest := []) (L := lv_args 0 [.ref 164]) (am_cur_of (i := (218, 3, .invokevirtual 309, (175, 1731, 3), 0)) (by decide +kernel)) rfl rfl rfl rfl hm_z
    obtain ⟨r3997_z, h3998_z, q3999_z, hm_z⟩ := hm_z
    rcases rs_ic q3999_z with ⟨i1_z, rfl, i3_z⟩ | ⟨i1_z, -⟩
    · subst i3_z
      replace hm_z : rn _ _ _ _ [.int 0] _ _ _ := hm_z
      replace hm_z := rn_ifF (am_cur_of (i := (221, 3, .ifCond .ne 5, (115, 0, 0), 0)) (by decide +kernel)) (by decide) hm_z
      replace hm_z := rn_iconst (w := 0) (am_cur_of (i := (224, 1, .iconst 0, (0, 0, 0), 0)) (by decide +kernel)) (by decide) hm_z
      replace hm_z := rn_iret (am_cur_of (i := (225, 1, .ireturn, (0, 0, 0), 0)) (by decide +kernel)) hm_z
      obtain ⟨e4000_z, e4001_z⟩ := hm_z
      subst e4000_z e4001_z
      exact (Or.inr ⟨rfl, 2, by decide, K.1, K.2, rfl, R6⟩)
    · exact absurd (Int32.toInt_inj.mp (show (rg_v g 164 44).toInt = (64 : Int32).toInt from by rw [show rg_v g 164 44 = kn from nk1_z.symm, show (64 : Int32).toInt = 64 by decide]; omega)) i1_z
  · subst eh
    replace lt : kn.toInt < 64 := by rw [← ekn]; exact lt
    rw [show rg_v h 11 0 = kn from ekn] at hc_z
    replace hm_z := rn_aload_n (am_cur_of (i := (217, 1, .aload_n 0, (0, 0, 0), 0)) (by decide +kernel)) g0m hm_z
    replace hm_z := rn_callV (M' := am_m175) (o := 164) (ar := []) (rest := []) (L := lv_args 0 [.ref 164]) (am_cur_of (i := (218, 3, .invokevirtual 309, (175, 1731, 3), 0)) (by decide +kernel)) rfl rfl rfl rfl hm_z
    obtain ⟨r4002_z, h4003_z, q4004_z, hm_z⟩ := hm_z
    rcases rs_ic q4004_z with ⟨i1_z, -⟩ | ⟨i1_z, rfl, i3_z⟩
    · exfalso
      have zz := congrArg Int32.toInt i1_z
      rw [show rg_v g 164 44 = kn from nk1_z.symm, show (64 : Int32).toInt = 64 by decide] at zz
      omega
    · subst i3_z
      rw [show rg_v g 164 44 = kn from nk1_z.symm] at hm_z
      replace hm_z : rn _ _ _ _ [.int 1] _ _ _ := hm_z
      replace hc_z : rn _ _ _ _ [] _ _ _ := hc_z
      replace hc_z := rn_aload_n (am_cur_of (i := (151, 1, .aload_n 0, (0, 0, 0), 0)) (by decide +kernel)) g0_z hc_z
      replace hc_z := rn_iload_n (am_cur_of (i := (152, 1, .iload_n 1, (0, 0, 0), 0)) (by decide +kernel)) g1_z hc_z
      replace hc_z := rn_callV (M' := am_m50) (o := 44) (ar := [.int 7]) (rest := []) (L := lv_args 0 [.ref 44, .int 7]) (am_cur_of (i := (153, 3, .invokevirtual 273, (50, 856, 3), 0)) (by decide +kernel)) rfl rfl rfl rfl hc_z
      obtain ⟨r4005_z, h4006_z, q4007_z, hc_z⟩ := hc_z
      obtain ⟨rfl, eh⟩ := rs_hold (np := np) (show rg_v (am_up h 11 0 (.int (kn + 1))) 44 13 = np from z1_z) (by omega) q4007_z
      subst eh
      replace hc_z : rn _ _ _ _ [] _ _ _ := hc_z
      replace hc_z := rn_aload_n (am_cur_of (i := (156, 1, .aload_n 0, (0, 0, 0), 0)) (by decide +kernel)) g0_z hc_z
      replace hc_z := rn_callV (M' := am_m19) (o := 44) (ar := []) (rest := []) (L := lv_args 0 [.ref 44]) (am_cur_of (i := (157, 3, .invokevirtual 57, (19, 727, 3), 0)) (by decide +kernel)) rfl rfl rfl rfl hc_z
      obtain ⟨r4008_z, h4009_z, q4010_z, hc_z⟩ := hc_z
      have vo := rn_void rfl q4010_z
      subst vo
      replace hm_z := rn_ifT (am_cur_of (i := (221, 3, .ifCond .ne 5, (115, 0, 0), 0)) (by decide +kernel)) (by decide) hm_z
      replace hm_z := rn_aload_n (am_cur_of (i := (226, 1, .aload_n 0, (0, 0, 0), 0)) (by decide +kernel)) g0m hm_z
      replace hm_z := rn_iload_n (am_cur_of (i := (227, 1, .iload_n 1, (0, 0, 0), 0)) (by decide +kernel)) g1m hm_z
      replace hm_z := rn_callV (M' := am_m173) (o := 164) (ar := [.int 6]) (rest := []) (L := lv_args 0 [.ref 164, .int 6]) (am_cur_of (i := (228, 3, .invokevirtual 298, (173, 1723, 3), 0)) (by decide +kernel)) rfl rfl rfl rfl hm_z
      obtain ⟨r4011_z, h4012_z, q4013_z, hm_z⟩ := hm_z
      obtain ⟨rfl, eh⟩ := rs_wf (np := np) (show rg_v (am_up g 164 44 (.int (kn + 1))) 164 41 = np from z2_z) q4013_z
      subst eh
      replace hm_z : rn _ _ _ _ [] _ _ _ := hm_z
      replace hm_z := rn_aload_n (am_cur_of (i := (231, 1, .aload_n 0, (0, 0, 0), 0)) (by decide +kernel)) g0m hm_z
      replace hm_z := rn_iconst (w := 1) (am_cur_of (i := (232, 1, .iconst 1, (0, 0, 0), 0)) (by decide +kernel)) (by decide) hm_z
      replace hm_z := rn_put (am_cur_of (i := (233, 3, .putfield 315, (12, 45, 1429), 0)) (by decide +kernel)) (by decide +kernel) hm_z
      replace hm_z := rn_aload_n (am_cur_of (i := (236, 1, .aload_n 0, (0, 0, 0), 0)) (by decide +kernel)) g0m hm_z
      replace hm_z := rn_iload_n (am_cur_of (i := (237, 1, .iload_n 1, (0, 0, 0), 0)) (by decide +kernel)) g1m hm_z
      replace hm_z := rn_callS (M' := am_m180) (ar := [.int 6]) (rest := [.ref 164]) (L := lv_args 0 [.int 6]) (am_cur_of (i := (238, 3, .invokestatic 283, (180, 1751, 3), 0)) (by decide +kernel)) rfl rfl rfl rfl hm_z
      obtain ⟨r4014_z, h4015_z, q4016_z, hm_z⟩ := hm_z
      obtain ⟨rfl, yq4016_z⟩ := rs_rankM q4016_z
      replace yq4016_z := yq4016_z.symm
      subst yq4016_z
      rw [show rk_M 6 = 4 by decide] at hm_z
      replace hm_z : rn _ _ _ _ [.int 4, .ref 164] _ _ _ := hm_z
      replace hm_z := rn_iconst (w := 3) (am_cur_of (i := (241, 1, .iconst 3, (0, 0, 0), 0)) (by decide +kernel)) (by decide) hm_z
      replace hm_z := rn_cmpT (am_cur_of (i := (242, 3, .if_icmp .ge 7, (128, 0, 0), 0)) (by decide +kernel)) (by decide) hm_z
      replace hm_z := rn_iconst (w := 0) (am_cur_of (i := (249, 1, .iconst 0, (0, 0, 0), 0)) (by decide +kernel)) (by decide) hm_z
      replace hm_z := rn_put (am_cur_of (i := (250, 3, .putfield 302, (12, 46, 1430), 0)) (by decide +kernel)) (by decide +kernel) hm_z
      replace hm_z := rn_aload_n (am_cur_of (i := (253, 1, .aload_n 0, (0, 0, 0), 0)) (by decide +kernel)) g0m hm_z
      replace hm_z := rn_callV (M' := am_m151) (o := 164) (ar := []) (rest := []) (L := lv_args 0 [.ref 164]) (am_cur_of (i := (254, 3, .invokevirtual 191, (151, 1636, 3), 0)) (by decide +kernel)) rfl rfl rfl rfl hm_z
      obtain ⟨r4017_z, h4018_z, q4019_z, hm_z⟩ := hm_z
      have vo := rn_void rfl q4019_z
      subst vo
      have FC : ab_Fr (rz_MC2.drop 1) h (am_up (am_up (am_up h 11 0 (.int (kn + 1))) 47 np.toNatClampNeg (.int 7)) 44 13 (.int (np + 1))) := ab_Fr_up rfl (ab_Fr_up rfl (ab_Fr_up rfl ab_Fr_refl))
      have FC' : ab_Fr rz_MC2 h (am_up (am_up (am_up h 11 0 (.int (kn + 1))) 47 np.toNatClampNeg (.int 7)) 44 13 (.int (np + 1))) := ab_Fr_sub (by decide) FC
      have FM : ab_Fr rz_MM g (am_up (am_up (am_up (am_up (am_up g 164 44 (.int (kn + 1))) 184 np.toNatClampNeg (.int 6)) 164 41 (.int (np + 1))) 164 45 (.int 1)) 164 46 (.int 0)) := ab_Fr_up rfl (ab_Fr_up rfl (ab_Fr_up rfl (ab_Fr_up rfl (ab_Fr_up rfl ab_Fr_refl))))
      obtain ⟨-, -, x2_z, p2_z, R2, le2_z, t5_z, t6_z⟩ := pr_tok (rz_q02 (rq_0 Rk) FC' FM) q4010_z q4019_z
      have A2 := rp_x (by decide) (rz_p2 A FC' FM ((show rg_v (am_up (am_up (am_up h 11 0 (.int (kn + 1))) 47 np.toNatClampNeg (.int 7)) 44 13 (.int (np + 1))) 11 0 = kn + 1 from (show rg_v (am_up (am_up (am_up h 11 0 (.int (kn + 1))) 47 np.toNatClampNeg (.int 7)) 44 13 (.int (np + 1))) 11 0 = kn + 1 from rfl)).trans (show rg_v (am_up (am_up (am_up (am_up (am_up g 164 44 (.int (kn + 1))) 184 np.toNatClampNeg (.int 6)) 164 41 (.int (np + 1))) 164 45 (.int 1)) 164 46 (.int 0)) 164 44 = kn + 1 from (show rg_v (am_up (am_up (am_up (am_up (am_up g 164 44 (.int (kn + 1))) 184 np.toNatClampNeg (.int 6)) 164 41 (.int (np + 1))) 164 45 (.int 1)) 164 46 (.int 0)) 164 44 = kn + 1 from rfl)).symm) (by rw [show rg_v (am_up (am_up (am_up h 11 0 (.int (kn + 1))) 47 np.toNatClampNeg (.int 7)) 44 13 (.int (np + 1))) 11 0 = kn + 1 from (show rg_v (am_up (am_up (am_up h 11 0 (.int (kn + 1))) 47 np.toNatClampNeg (.int 7)) 44 13 (.int (np + 1))) 11 0 = kn + 1 from rfl)]; omega) (by rw [show rg_v (am_up (am_up (am_up h 11 0 (.int (kn + 1))) 47 np.toNatClampNeg (.int 7)) 44 13 (.int (np + 1))) 11 0 = kn + 1 from (show rg_v (am_up (am_up (am_up h 11 0 (.int (kn + 1))) 47 np.toNatClampNeg (.int 7)) 44 13 (.int (np + 1))) 11 0 = kn + 1 from rfl)]; omega)) (rx_C_f t5_z) (rx_M_f t6_z)
      have B2 := rp_tk (rz_t2 B FC FM) (rg_v_fr t5_z (by decide)) (fun k => rg_v_fr t6_z (rg_v_in (by decide) k)) (rx_M_f t6_z)
      have Z2 : rs 2 (am_up (am_up (am_up h 11 0 (.int (kn + 1))) 47 np.toNatClampNeg (.int 7)) 44 13 (.int (np + 1))) (am_up (am_up (am_up (am_up (am_up g 164 44 (.int (kn + 1))) 184 np.toNatClampNeg (.int 6)) 164 41 (.int (np + 1))) 164 45 (.int 1)) 164 46 (.int 0)) := rs_push (o := 7) (k := 6) (np := np) (op := op) Zk (by unfold rs_o; decide) z1_z z4_z (show rg_v (am_up (am_up (am_up h 11 0 (.int (kn + 1))) 47 np.toNatClampNeg (.int 7)) 44 13 (.int (np + 1))) 44 13 = np + 1 from (show rg_v (am_up (am_up (am_up h 11 0 (.int (kn + 1))) 47 np.toNatClampNeg (.int 7)) 44 13 (.int (np + 1))) 44 13 = np + 1 from rfl)) (show rg_v (am_up (am_up (am_up (am_up (am_up g 164 44 (.int (kn + 1))) 184 np.toNatClampNeg (.int 6)) 164 41 (.int (np + 1))) 164 45 (.int 1)) 164 46 (.int 0)) 164 41 = np + 1 from (show rg_v (am_up (am_up (am_up (am_up (am_up g 164 44 (.int (kn + 1))) 184 np.toNatClampNeg (.int 6)) 164 41 (.int (np + 1))) 164 45 (.int 1)) 164 46 (.int 0)) 164 41 = np + 1 from rfl)) (fun i hi_z => (show rg_v (am_up (am_up (am_up h 11 0 (.int (kn + 1))) 47 np.toNatClampNeg (.int 7)) 44 13 (.int (np + 1))) 47 i = rg_v h 47 i from rg_v_other (h := h) (o := 47) (k := np.toNatClampNeg) (v := .int 7) (by omega))) (show rg_v (am_up (am_up (am_up h 11 0 (.int (kn + 1))) 47 np.toNatClampNeg (.int 7)) 44 13 (.int (np + 1))) 47 np.toNatClampNeg = 7 from rg_v_self (h := h) (o := 47) (k := np.toNatClampNeg)) (fun i hi_z => (show rg_v (am_up (am_up (am_up (am_up (am_up g 164 44 (.int (kn + 1))) 184 np.toNatClampNeg (.int 6)) 164 41 (.int (np + 1))) 164 45 (.int 1)) 164 46 (.int 0)) 184 i = rg_v g 184 i from rg_v_other (h := g) (o := 184) (k := np.toNatClampNeg) (v := .int 6) (by omega))) (show rg_v (am_up (am_up (am_up (am_up (am_up g 164 44 (.int (kn + 1))) 184 np.toNatClampNeg (.int 6)) 164 41 (.int (np + 1))) 164 45 (.int 1)) 164 46 (.int 0)) 184 np.toNatClampNeg = 6 from rg_v_self (h := g) (o := 184) (k := np.toNatClampNeg)) (show (rg_v h 11 0).toInt ≤ 64 by rw [ekn]; exact nk3_z) (Or.inl ⟨by decide, (show rg_v (am_up (am_up (am_up h 11 0 (.int (kn + 1))) 47 np.toNatClampNeg (.int 7)) 44 13 (.int (np + 1))) 44 14 = op from (show rg_v (am_up (am_up (am_up h 11 0 (.int (kn + 1))) 47 np.toNatClampNeg (.int 7)) 44 13 (.int (np + 1))) 44 14 = op from z4_z)), (show rg_v (am_up (am_up (am_up (am_up (am_up g 164 44 (.int (kn + 1))) 184 np.toNatClampNeg (.int 6)) 164 41 (.int (np + 1))) 164 45 (.int 1)) 164 46 (.int 0)) 164 43 = op from (show rg_v (am_up (am_up (am_up (am_up (am_up g 164 44 (.int (kn + 1))) 184 np.toNatClampNeg (.int 6)) 164 41 (.int (np + 1))) 164 45 (.int 1)) 164 46 (.int 0)) 164 43 = op from z5_z)), (show (rg_v (am_up (am_up (am_up h 11 0 (.int (kn + 1))) 47 np.toNatClampNeg (.int 7)) 44 13 (.int (np + 1))) 11 0).toInt = (rg_v h 11 0).toInt + 1 by rw [(show rg_v (am_up (am_up (am_up h 11 0 (.int (kn + 1))) 47 np.toNatClampNeg (.int 7)) 44 13 (.int (np + 1))) 11 0 = kn + 1 from (show rg_v (am_up (am_up (am_up h 11 0 (.int (kn + 1))) 47 np.toNatClampNeg (.int 7)) 44 13 (.int (np + 1))) 11 0 = kn + 1 from rfl)), ekn]; exact e9_z)⟩)
      replace Z2 := rs_fr (by decide) Z2 t5_z t6_z
      have e45_z : rg_v h4018_z 164 45 = 1 := (rg_v_fr t6_z (by decide)).trans (show rg_v (am_up (am_up (am_up (am_up (am_up g 164 44 (.int (kn + 1))) 184 np.toNatClampNeg (.int 6)) 164 41 (.int (np + 1))) 164 45 (.int 1)) 164 46 (.int 0)) 164 45 = 1 from (show rg_v (am_up (am_up (am_up (am_up (am_up g 164 44 (.int (kn + 1))) 184 np.toNatClampNeg (.int 6)) 164 41 (.int (np + 1))) 164 45 (.int 1)) 164 46 (.int 0)) 164 45 = 1 from rfl))
      have e46_z : rg_v h4018_z 164 46 = 0 := (rg_v_fr t6_z (by decide)).trans (show rg_v (am_up (am_up (am_up (am_up (am_up g 164 44 (.int (kn + 1))) 184 np.toNatClampNeg (.int 6)) 164 41 (.int (np + 1))) 164 45 (.int 1)) 164 46 (.int 0)) 164 46 = 0 from (show rg_v (am_up (am_up (am_up (am_up (am_up g 164 44 (.int (kn + 1))) 184 np.toNatClampNeg (.int 6)) 164 41 (.int (np + 1))) 164 45 (.int 1)) 164 46 (.int 0)) 164 46 = 0 from rfl))
      replace hm_z : rn _ _ _ _ [] _ _ _ := hm_z
      replace hc_z : rn _ _ _ _ [] _ _ _ := hc_z
      replace hc_z := rn_iload_n (am_cur_of (i := (160, 1, .iload_n 1, (0, 0, 0), 0)) (by decide +kernel)) g1_z hc_z
      replace hc_z := rn_iconst (w := 3) (am_cur_of (i := (161, 1, .iconst 3, (0, 0, 0), 0)) (by decide +kernel)) (by decide) hc_z
      replace hc_z := rn_cmpF (am_cur_of (i := (162, 3, .if_icmp .eq 8, (89, 0, 0), 0)) (by decide +kernel)) (by decide) hc_z
      replace hc_z := rn_iload_n (am_cur_of (i := (165, 1, .iload_n 1, (0, 0, 0), 0)) (by decide +kernel)) g1_z hc_z
      replace hc_z := rn_iconst (w := 4) (am_cur_of (i := (166, 1, .iconst 4, (0, 0, 0), 0)) (by decide +kernel)) (by decide) hc_z
      replace hc_z := rn_cmpT (am_cur_of (i := (167, 3, .if_icmp .ne 7, (91, 0, 0), 0)) (by decide +kernel)) (by decide) hc_z
      replace hc_z := rn_iconst (w := 1) (am_cur_of (i := (174, 1, .iconst 1, (0, 0, 0), 0)) (by decide +kernel)) (by decide) hc_z
      replace hc_z := rn_iret (am_cur_of (i := (175, 1, .ireturn, (0, 0, 0), 0)) (by decide +kernel)) hc_z
      obtain ⟨e4020_z, e4021_z⟩ := hc_z
      replace hm_z := rn_iconst (w := 1) (am_cur_of (i := (257, 1, .iconst 1, (0, 0, 0), 0)) (by decide +kernel)) (by decide) hm_z
      replace hm_z := rn_iret (am_cur_of (i := (258, 1, .ireturn, (0, 0, 0), 0)) (by decide +kernel)) hm_z
      obtain ⟨e4022_z, e4023_z⟩ := hm_z
      subst e4020_z e4021_z e4022_z e4023_z
      exact Or.inl ⟨_, x2_z, p2_z, rfl, rfl, R2, le2_z, A2, B2, Z2, Or.inr (Or.inl ⟨rfl, e45_z, e46_z⟩)⟩
theorem rj_t8_2 {T : Nat → Int32} {S x p : Int32} {n n' : Nat} {h h' g g' : am_H} {r r' : Option Value} {ls ls2_z : am_L} (R : rq T S x p 2 h g) (A : rp 2 h g) (B : rp_t h g) (Z : rs 2 h g) (g0_z : am_get ls 0 = some (.ref 44)) (g1_z : am_get ls 1 = some (.int 8)) (g0m : am_get ls2_z 0 = some (.ref 164)) (g1m : am_get ls2_z 1 = some (.int 7)) (hc_z : rn n am_m44 76 ls [] h r h') (hm_z : rn n' am_m178 110 ls2_z [] g r' g') : rv_Q T S x p 2 h' g' r r' := by
  have Rk := R
  have Zk := Z
  obtain ⟨⟨c1_z, c2_z, c3_z, c4_z, c5_z, c6_z, c7_z, c8_z⟩, ⟨m2_z, m3_z, m4_z, m5_z, m6_z, m7_z, m8_z⟩, R3, R4, R5, R6, R7, R8, R9, R10⟩ := (R : rq T S x p 2 h g)
  obtain ⟨np, op, z1_z, z2_z, z3_z, z4_z, z5_z, z6_z, z7_z, z8_z, z9_z, z10_z⟩ := (Z : rs 2 h g)
  obtain ⟨nk1_z, nk2_z, nk3_z⟩ := A.2.2.2.2.2.1
  replace nk1_z : rg_v h 11 0 = rg_v g 164 44 := nk1_z
  replace nk2_z : 0 ≤ (rg_v h 11 0).toInt := nk2_z
  replace nk3_z : (rg_v h 11 0).toInt ≤ 64 := nk3_z
  replace z8_z : np.toInt ≤ (rg_v h 11 0).toInt + op.toInt := z8_z
  obtain ⟨kn, ekn⟩ : ∃ v, rg_v h 11 0 = v := ⟨_, rfl⟩
  rw [ekn] at nk1_z nk2_z nk3_z z8_z
  have e9_z := rt_c1 (x := kn) (by omega) (by omega)
  replace hc_z := rn_aload_n (am_cur_of (i := (147, 1, .aload_n 0, (0, 0, 0), 0)) (by decide +kernel)) g0_z hc_z
  replace hc_z := rn_callV (M' := am_m49) (o := 44) (ar := []) (rest := []) (L := lv_args 0 [.ref 44]) (am_cur_of (i := (148, 3, .invokevirtual 270, (49, 852, 3), 0)) (by decide +kernel)) rfl rfl rfl rfl hc_z
  obtain ⟨r4024_z, h4025_z, q4026_z, hc_z⟩ := hc_z
  rcases rs_ck2 R4 (show h 44 6 = .ref 2 from R3) q4026_z with ⟨ge, rfl, eh⟩ | ⟨lt, rfl, eh⟩
  · subst eh
    replace ge : 64 ≤ kn.toInt := by rw [← ekn]; exact ge
    replace hc_z : rn _ _ _ _ [] _ _ _ := hc_z
    have K := rs_stick (w := 2) (q := p) (a := 44) (by decide) (by decide) rfl (by decide) rfl (show rg_v (am_up (am_up h 44 1 (.int 2)) 44 2 (.int (rg_v h 44 9))) 44 2 = p from R5) hc_z
    replace hm_z := rn_aload_n (am_cur_of (i := (217, 1, .aload_n 0, (0, 0, 0), 0)) (by decide +kernel)) g0m hm_z
    replace hm_z := rn_callV (M' := am_m175) (o := 164) (ar := []) (rest := []) (L := lv_args 0 [.ref 164]) (am_cur_of (i := (218, 3, .invokevirtual 309, (175, 1731, 3), 0)) (by decide +kernel)) rfl rfl rfl rfl hm_z
    obtain ⟨r4027_z, h4028_z, q4029_z, hm_z⟩ := hm_z
    rcases rs_ic q4029_z with ⟨i1_z, rfl, i3_z⟩ | ⟨i1_z, -⟩
    · subst i3_z
      replace hm_z : rn _ _ _ _ [.int 0] _ _ _ := hm_z
      replace hm_z := rn_ifF (am_cur_of (i := (221, 3, .ifCond .ne 5, (115, 0, 0), 0)) (by decide +kernel)) (by decide) hm_z
      replace hm_z := rn_iconst (w := 0) (am_cur_of (i := (224, 1, .iconst 0, (0, 0, 0), 0)) (by decide +kernel)) (by decide) hm_z
      replace hm_z := rn_iret (am_cur_of (i := (225, 1, .ireturn, (0, 0, 0), 0)) (by decide +kernel)) hm_z
      obtain ⟨e4030_z, e4031_z⟩ := hm_z
      subst e4030_z e4031_z
      exact (Or.inr ⟨rfl, 2, by decide, K.1, K.2, rfl, R6⟩)
    · exact absurd (Int32.toInt_inj.mp (show (rg_v g 164 44).toInt = (64 : Int32).toInt from by rw [show rg_v g 164 44 = kn from nk1_z.symm, show (64 : Int32).toInt = 64 by decide]; omega)) i1_z
  · subst eh
    replace lt : kn.toInt < 64 := by rw [← ekn]; exact lt
    rw [show rg_v h 11 0 = kn from ekn] at hc_z
    replace hm_z := rn_aload_n (am_cur_of (i := (217, 1, .aload_n 0, (0, 0, 0), 0)) (by decide +kernel)) g0m hm_z
    replace hm_z := rn_callV (M' := am_m175) (o := 164) (ar := []) (rest := []) (L := lv_args 0 [.ref 164]) (am_cur_of (i := (218, 3, .invokevirtual 309, (175, 1731, 3), 0)) (by decide +kernel)) rfl rfl rfl rfl hm_z
    obtain ⟨r4032_z, h4033_z, q4034_z, hm_z⟩ := hm_z
    rcases rs_ic q4034_z with ⟨i1_z, -⟩ | ⟨i1_z, rfl, i3_z⟩
    · exfalso
      have zz := congrArg Int32.toInt i1_z
      rw [show rg_v g 164 44 = kn from nk1_z.symm, show (64 : Int32).toInt = 64 by decide] at zz
      omega
    · subst i3_z
      rw [show rg_v g 164 44 = kn from nk1_z.symm] at hm_z
      replace hm_z : rn _ _ _ _ [.int 1] _ _ _ := hm_z
      replace hc_z : rn _ _ _ _ [] _ _ _ := hc_z
      replace hc_z := rn_aload_n (am_cur_of (i := (151, 1, .aload_n 0, (0, 0, 0), 0)) (by decide +kernel)) g0_z hc_z
      replace hc_z := rn_iload_n (am_cur_of (i := (152, 1, .iload_n 1, (0, 0, 0), 0)) (by decide +kernel)) g1_z hc_z
      replace hc_z := rn_callV (M' := am_m50) (o := 44) (ar := [.int 8]) (rest := []) (L := lv_args 0 [.ref 44, .int 8]) (am_cur_of (i := (153, 3, .invokevirtual 273, (50, 856, 3), 0)) (by decide +kernel)) rfl rfl rfl rfl hc_z
      obtain ⟨r4035_z, h4036_z, q4037_z, hc_z⟩ := hc_z
      obtain ⟨rfl, eh⟩ := rs_hold (np := np) (show rg_v (am_up h 11 0 (.int (kn + 1))) 44 13 = np from z1_z) (by omega) q4037_z
      subst eh
      replace hc_z : rn _ _ _ _ [] _ _ _ := hc_z
      replace hc_z := rn_aload_n (am_cur_of (i := (156, 1, .aload_n 0, (0, 0, 0), 0)) (by decide +kernel)) g0_z hc_z
      replace hc_z := rn_callV (M' := am_m19) (o := 44) (ar := []) (rest := []) (L := lv_args 0 [.ref 44]) (am_cur_of (i := (157, 3, .invokevirtual 57, (19, 727, 3), 0)) (by decide +kernel)) rfl rfl rfl rfl hc_z
      obtain ⟨r4038_z, h4039_z, q4040_z, hc_z⟩ := hc_z
      have vo := rn_void rfl q4040_z
      subst vo
      replace hm_z := rn_ifT (am_cur_of (i := (221, 3, .ifCond .ne 5, (115, 0, 0), 0)) (by decide +kernel)) (by decide) hm_z
      replace hm_z := rn_aload_n (am_cur_of (i := (226, 1, .aload_n 0, (0, 0, 0), 0)) (by decide +kernel)) g0m hm_z
      replace hm_z := rn_iload_n (am_cur_of (i := (227, 1, .iload_n 1, (0, 0, 0), 0)) (by decide +kernel)) g1m hm_z
      replace hm_z := rn_callV (M' := am_m173) (o := 164) (ar := [.int 7]) (rest := []) (L := lv_args 0 [.ref 164, .int 7]) (am_cur_of (i := (228, 3, .invokevirtual 298, (173, 1723, 3), 0)) (by decide +kernel)) rfl rfl rfl rfl hm_z
      obtain ⟨r4041_z, h4042_z, q4043_z, hm_z⟩ := hm_z
      obtain ⟨rfl, eh⟩ := rs_wf (np := np) (show rg_v (am_up g 164 44 (.int (kn + 1))) 164 41 = np from z2_z) q4043_z
      subst eh
      replace hm_z : rn _ _ _ _ [] _ _ _ := hm_z
      replace hm_z := rn_aload_n (am_cur_of (i := (231, 1, .aload_n 0, (0, 0, 0), 0)) (by decide +kernel)) g0m hm_z
      replace hm_z := rn_iconst (w := 1) (am_cur_of (i := (232, 1, .iconst 1, (0, 0, 0), 0)) (by decide +kernel)) (by decide) hm_z
      replace hm_z := rn_put (am_cur_of (i := (233, 3, .putfield 315, (12, 45, 1429), 0)) (by decide +kernel)) (by decide +kernel) hm_z
      replace hm_z := rn_aload_n (am_cur_of (i := (236, 1, .aload_n 0, (0, 0, 0), 0)) (by decide +kernel)) g0m hm_z
      replace hm_z := rn_iload_n (am_cur_of (i := (237, 1, .iload_n 1, (0, 0, 0), 0)) (by decide +kernel)) g1m hm_z
      replace hm_z := rn_callS (M' := am_m180) (ar := [.int 7]) (rest := [.ref 164]) (L := lv_args 0 [.int 7]) (am_cur_of (i := (238, 3, .invokestatic 283, (180, 1751, 3), 0)) (by decide +kernel)) rfl rfl rfl rfl hm_z
      obtain ⟨r4044_z, h4045_z, q4046_z, hm_z⟩ := hm_z
      obtain ⟨rfl, yq4046_z⟩ := rs_rankM q4046_z
      replace yq4046_z := yq4046_z.symm
      subst yq4046_z
      rw [show rk_M 7 = 4 by decide] at hm_z
      replace hm_z : rn _ _ _ _ [.int 4, .ref 164] _ _ _ := hm_z
      replace hm_z := rn_iconst (w := 3) (am_cur_of (i := (241, 1, .iconst 3, (0, 0, 0), 0)) (by decide +kernel)) (by decide) hm_z
      replace hm_z := rn_cmpT (am_cur_of (i := (242, 3, .if_icmp .ge 7, (128, 0, 0), 0)) (by decide +kernel)) (by decide) hm_z
      replace hm_z := rn_iconst (w := 0) (am_cur_of (i := (249, 1, .iconst 0, (0, 0, 0), 0)) (by decide +kernel)) (by decide) hm_z
      replace hm_z := rn_put (am_cur_of (i := (250, 3, .putfield 302, (12, 46, 1430), 0)) (by decide +kernel)) (by decide +kernel) hm_z
      replace hm_z := rn_aload_n (am_cur_of (i := (253, 1, .aload_n 0, (0, 0, 0), 0)) (by decide +kernel)) g0m hm_z
      replace hm_z := rn_callV (M' := am_m151) (o := 164) (ar := []) (rest := []) (L := lv_args 0 [.ref 164]) (am_cur_of (i := (254, 3, .invokevirtual 191, (151, 1636, 3), 0)) (by decide +kernel)) rfl rfl rfl rfl hm_z
      obtain ⟨r4047_z, h4048_z, q4049_z, hm_z⟩ := hm_z
      have vo := rn_void rfl q4049_z
      subst vo
      have FC : ab_Fr (rz_MC2.drop 1) h (am_up (am_up (am_up h 11 0 (.int (kn + 1))) 47 np.toNatClampNeg (.int 8)) 44 13 (.int (np + 1))) := ab_Fr_up rfl (ab_Fr_up rfl (ab_Fr_up rfl ab_Fr_refl))
      have FC' : ab_Fr rz_MC2 h (am_up (am_up (am_up h 11 0 (.int (kn + 1))) 47 np.toNatClampNeg (.int 8)) 44 13 (.int (np + 1))) := ab_Fr_sub (by decide) FC
      have FM : ab_Fr rz_MM g (am_up (am_up (am_up (am_up (am_up g 164 44 (.int (kn + 1))) 184 np.toNatClampNeg (.int 7)) 164 41 (.int (np + 1))) 164 45 (.int 1)) 164 46 (.int 0)) := ab_Fr_up rfl (ab_Fr_up rfl (ab_Fr_up rfl (ab_Fr_up rfl (ab_Fr_up rfl ab_Fr_refl))))
      obtain ⟨-, -, x2_z, p2_z, R2, le2_z, t5_z, t6_z⟩ := pr_tok (rz_q02 (rq_0 Rk) FC' FM) q4040_z q4049_z
      have A2 := rp_x (by decide) (rz_p2 A FC' FM ((show rg_v (am_up (am_up (am_up h 11 0 (.int (kn + 1))) 47 np.toNatClampNeg (.int 8)) 44 13 (.int (np + 1))) 11 0 = kn + 1 from (show rg_v (am_up (am_up (am_up h 11 0 (.int (kn + 1))) 47 np.toNatClampNeg (.int 8)) 44 13 (.int (np + 1))) 11 0 = kn + 1 from rfl)).trans (show rg_v (am_up (am_up (am_up (am_up (am_up g 164 44 (.int (kn + 1))) 184 np.toNatClampNeg (.int 7)) 164 41 (.int (np + 1))) 164 45 (.int 1)) 164 46 (.int 0)) 164 44 = kn + 1 from (show rg_v (am_up (am_up (am_up (am_up (am_up g 164 44 (.int (kn + 1))) 184 np.toNatClampNeg (.int 7)) 164 41 (.int (np + 1))) 164 45 (.int 1)) 164 46 (.int 0)) 164 44 = kn + 1 from rfl)).symm) (by rw [show rg_v (am_up (am_up (am_up h 11 0 (.int (kn + 1))) 47 np.toNatClampNeg (.int 8)) 44 13 (.int (np + 1))) 11 0 = kn + 1 from (show rg_v (am_up (am_up (am_up h 11 0 (.int (kn + 1))) 47 np.toNatClampNeg (.int 8)) 44 13 (.int (np + 1))) 11 0 = kn + 1 from rfl)]; omega) (by rw [show rg_v (am_up (am_up (am_up h 11 0 (.int (kn + 1))) 47 np.toNatClampNeg (.int 8)) 44 13 (.int (np + 1))) 11 0 = kn + 1 from (show rg_v (am_up (am_up (am_up h 11 0 (.int (kn + 1))) 47 np.toNatClampNeg (.int 8)) 44 13 (.int (np + 1))) 11 0 = kn + 1 from rfl)]; omega)) (rx_C_f t5_z) (rx_M_f t6_z)
      have B2 := rp_tk (rz_t2 B FC FM) (rg_v_fr t5_z (by decide)) (fun k => rg_v_fr t6_z (rg_v_in (by decide) k)) (rx_M_f t6_z)
      have Z2 : rs 2 (am_up (am_up (am_up h 11 0 (.int (kn + 1))) 47 np.toNatClampNeg (.int 8)) 44 13 (.int (np + 1))) (am_up (am_up (am_up (am_up (am_up g 164 44 (.int (kn + 1))) 184 np.toNatClampNeg (.int 7)) 164 41 (.int (np + 1))) 164 45 (.int 1)) 164 46 (.int 0)) := rs_push (o := 8) (k := 7) (np := np) (op := op) Zk (by unfold rs_o; decide) z1_z z4_z (show rg_v (am_up (am_up (am_up h 11 0 (.int (kn + 1))) 47 np.toNatClampNeg (.int 8)) 44 13 (.int (np + 1))) 44 13 = np + 1 from (show rg_v (am_up (am_up (am_up h 11 0 (.int (kn + 1))) 47 np.toNatClampNeg (.int 8)) 44 13 (.int (np + 1))) 44 13 = np + 1 from rfl)) (show rg_v (am_up (am_up (am_up (am_up (am_up g 164 44 (.int (kn + 1))) 184 np.toNatClampNeg (.int 7)) 164 41 (.int (np + 1))) 164 45 (.int 1)) 164 46 (.int 0)) 164 41 = np + 1 from (show rg_v (am_up (am_up (am_up (am_up (am_up g 164 44 (.int (kn + 1))) 184 np.toNatClampNeg (.int 7)) 164 41 (.int (np + 1))) 164 45 (.int 1)) 164 46 (.int 0)) 164 41 = np + 1 from rfl)) (fun i hi_z => (show rg_v (am_up (am_up (am_up h 11 0 (.int (kn + 1))) 47 np.toNatClampNeg (.int 8)) 44 13 (.int (np + 1))) 47 i = rg_v h 47 i from rg_v_other (h := h) (o := 47) (k := np.toNatClampNeg) (v := .int 8) (by omega))) (show rg_v (am_up (am_up (am_up h 11 0 (.int (kn + 1))) 47 np.toNatClampNeg (.int 8)) 44 13 (.int (np + 1))) 47 np.toNatClampNeg = 8 from rg_v_self (h := h) (o := 47) (k := np.toNatClampNeg)) (fun i hi_z => (show rg_v (am_up (am_up (am_up (am_up (am_up g 164 44 (.int (kn + 1))) 184 np.toNatClampNeg (.int 7)) 164 41 (.int (np + 1))) 164 45 (.int 1)) 164 46 (.int 0)) 184 i = rg_v g 184 i from rg_v_other (h := g) (o := 184) (k := np.toNatClampNeg) (v := .int 7) (by omega))) (show rg_v (am_up (am_up (am_up (am_up (am_up g 164 44 (.int (kn + 1))) 184 np.toNatClampNeg (.int 7)) 164 41 (.int (np + 1))) 164 45 (.int 1)) 164 46 (.int 0)) 184 np.toNatClampNeg = 7 from rg_v_self (h := g) (o := 184) (k := np.toNatClampNeg)) (show (rg_v h 11 0).toInt ≤ 64 by rw [ekn]; exact nk3_z) (Or.inl ⟨by decide, (show rg_v (am_up (am_up (am_up h 11 0 (.int (kn + 1))) 47 np.toNatClampNeg (.int 8)) 44 13 (.int (np + 1))) 44 14 = op from (show rg_v (am_up (am_up (am_up h 11 0 (.int (kn + 1))) 47 np.toNatClampNeg (.int 8)) 44 13 (.int (np + 1))) 44 14 = op from z4_z)), (show rg_v (am_up (am_up (am_up (am_up (am_up g 164 44 (.int (kn + 1))) 184 np.toNatClampNeg (.int 7)) 164 41 (.int (np + 1))) 164 45 (.int 1)) 164 46 (.int 0)) 164 43 = op from (show rg_v (am_up (am_up (am_up (am_up (am_up g 164 44 (.int (kn + 1))) 184 np.toNatClampNeg (.int 7)) 164 41 (.int (np + 1))) 164 45 (.int 1)) 164 46 (.int 0)) 164 43 = op from z5_z)), (show (rg_v (am_up (am_up (am_up h 11 0 (.int (kn + 1))) 47 np.toNatClampNeg (.int 8)) 44 13 (.int (np + 1))) 11 0).toInt = (rg_v h 11 0).toInt + 1 by rw [(show rg_v (am_up (am_up (am_up h 11 0 (.int (kn + 1))) 47 np.toNatClampNeg (.int 8)) 44 13 (.int (np + 1))) 11 0 = kn + 1 from (show rg_v (am_up (am_up (am_up h 11 0 (.int (kn + 1))) 47 np.toNatClampNeg (.int 8)) 44 13 (.int (np + 1))) 11 0 = kn + 1 from rfl)), ekn]; exact e9_z)⟩)
      replace Z2 := rs_fr (by decide) Z2 t5_z t6_z
      have e45_z : rg_v h4048_z 164 45 = 1 := (rg_v_fr t6_z (by decide)).trans (show rg_v (am_up (am_up (am_up (am_up (am_up g 164 44 (.int (kn + 1))) 184 np.toNatClampNeg (.int 7)) 164 41 (.int (np + 1))) 164 45 (.int 1)) 164 46 (.int 0)) 164 45 = 1 from (show rg_v (am_up (am_up (am_up (am_up (am_up g 164 44 (.int (kn + 1))) 184 np.toNatClampNeg (.int 7)) 164 41 (.int (np + 1))) 164 45 (.int 1)) 164 46 (.int 0)) 164 45 = 1 from rfl))
      have e46_z : rg_v h4048_z 164 46 = 0 := (rg_v_fr t6_z (by decide)).trans (show rg_v (am_up (am_up (am_up (am_up (am_up g 164 44 (.int (kn + 1))) 184 np.toNatClampNeg (.int 7)) 164 41 (.int (np + 1))) 164 45 (.int 1)) 164 46 (.int 0)) 164 46 = 0 from (show rg_v (am_up (am_up (am_up (am_up (am_up g 164 44 (.int (kn + 1))) 184 np.toNatClampNeg (.int 7)) 164 41 (.int (np + 1))) 164 45 (.int 1)) 164 46 (.int 0)) 164 46 = 0 from rfl))
      replace hm_z : rn _ _ _ _ [] _ _ _ := hm_z
      replace hc_z : rn _ _ _ _ [] _ _ _ := hc_z
      replace hc_z := rn_iload_n (am_cur_of (i := (160, 1, .iload_n 1, (0, 0, 0), 0)) (by decide +kernel)) g1_z hc_z
      replace hc_z := rn_iconst (w := 3) (am_cur_of (i := (161, 1, .iconst 3, (0, 0, 0), 0)) (by decide +kernel)) (by decide) hc_z
      replace hc_z := rn_cmpF (am_cur_of (i := (162, 3, .if_icmp .eq 8, (89, 0, 0), 0)) (by decide +kernel)) (by decide) hc_z
      replace hc_z := rn_iload_n (am_cur_of (i := (165, 1, .iload_n 1, (0, 0, 0), 0)) (by decide +kernel)) g1_z hc_z
      replace hc_z := rn_iconst (w := 4) (am_cur_of (i := (166, 1, .iconst 4, (0, 0, 0), 0)) (by decide +kernel)) (by decide) hc_z
      replace hc_z := rn_cmpT (am_cur_of (i := (167, 3, .if_icmp .ne 7, (91, 0, 0), 0)) (by decide +kernel)) (by decide) hc_z
      replace hc_z := rn_iconst (w := 1) (am_cur_of (i := (174, 1, .iconst 1, (0, 0, 0), 0)) (by decide +kernel)) (by decide) hc_z
      replace hc_z := rn_iret (am_cur_of (i := (175, 1, .ireturn, (0, 0, 0), 0)) (by decide +kernel)) hc_z
      obtain ⟨e4050_z, e4051_z⟩ := hc_z
      replace hm_z := rn_iconst (w := 1) (am_cur_of (i := (257, 1, .iconst 1, (0, 0, 0), 0)) (by decide +kernel)) (by decide) hm_z
      replace hm_z := rn_iret (am_cur_of (i := (258, 1, .ireturn, (0, 0, 0), 0)) (by decide +kernel)) hm_z
      obtain ⟨e4052_z, e4053_z⟩ := hm_z
      subst e4050_z e4051_z e4052_z e4053_z
      exact Or.inl ⟨_, x2_z, p2_z, rfl, rfl, R2, le2_z, A2, B2, Z2, Or.inr (Or.inl ⟨rfl, e45_z, e46_z⟩)⟩
theorem rj_t9_2 {T : Nat → Int32} {S x p : Int32} {n n' : Nat} {h h' g g' : am_H} {r r' : Option Value} {ls ls2_z : am_L} (R : rq T S x p 2 h g) (A : rp 2 h g) (B : rp_t h g) (Z : rs 2 h g) (g0_z : am_get ls 0 = some (.ref 44)) (g1_z : am_get ls 1 = some (.int 9)) (g0m : am_get ls2_z 0 = some (.ref 164)) (g1m : am_get ls2_z 1 = some (.int 8)) (hc_z : rn n am_m44 76 ls [] h r h') (hm_z : rn n' am_m178 110 ls2_z [] g r' g') : rv_Q T S x p 2 h' g' r r' := by
  have Rk := R
  have Zk := Z
  obtain ⟨⟨c1_z, c2_z, c3_z, c4_z, c5_z, c6_z, c7_z, c8_z⟩, ⟨m2_z, m3_z, m4_z, m5_z, m6_z, m7_z, m8_z⟩, R3, R4, R5, R6, R7, R8, R9, R10⟩ := (R : rq T S x p 2 h g)
  obtain ⟨np, op, z1_z, z2_z, z3_z, z4_z, z5_z, z6_z, z7_z, z8_z, z9_z, z10_z⟩ := (Z : rs 2 h g)
  obtain ⟨nk1_z, nk2_z, nk3_z⟩ := A.2.2.2.2.2.1
  replace nk1_z : rg_v h 11 0 = rg_v g 164 44 := nk1_z
  replace nk2_z : 0 ≤ (rg_v h 11 0).toInt := nk2_z
  replace nk3_z : (rg_v h 11 0).toInt ≤ 64 := nk3_z
  replace z8_z : np.toInt ≤ (rg_v h 11 0).toInt + op.toInt := z8_z
  obtain ⟨kn, ekn⟩ : ∃ v, rg_v h 11 0 = v := ⟨_, rfl⟩
  rw [ekn] at nk1_z nk2_z nk3_z z8_z
  have e9_z := rt_c1 (x := kn) (by omega) (by omega)
  replace hc_z := rn_aload_n (am_cur_of (i := (147, 1, .aload_n 0, (0, 0, 0), 0)) (by decide +kernel)) g0_z hc_z
  replace hc_z := rn_callV (M' := am_m49) (o := 44) (ar := []) (rest := []) (L := lv_args 0 [.ref 44]) (am_cur_of (i := (148, 3, .invokevirtual 270, (49, 852, 3), 0)) (by decide +kernel)) rfl rfl rfl rfl hc_z
  obtain ⟨r4054_z, h4055_z, q4056_z, hc_z⟩ := hc_z
  rcases rs_ck2 R4 (show h 44 6 = .ref 2 from R3) q4056_z with ⟨ge, rfl, eh⟩ | ⟨lt, rfl, eh⟩
  · subst eh
    replace ge : 64 ≤ kn.toInt := by rw [← ekn]; exact ge
    replace hc_z : rn _ _ _ _ [] _ _ _ := hc_z
    have K := rs_stick (w := 2) (q := p) (a := 44) (by decide) (by decide) rfl (by decide) rfl (show rg_v (am_up (am_up h 44 1 (.int 2)) 44 2 (.int (rg_v h 44 9))) 44 2 = p from R5) hc_z
    replace hm_z := rn_aload_n (am_cur_of (i := (217, 1, .aload_n 0, (0, 0, 0), 0)) (by decide +kernel)) g0m hm_z
    replace hm_z := rn_callV (M' := am_m175) (o := 164) (ar := []) (rest := []) (L := lv_args 0 [.ref 164]) (am_cur_of (i := (218, 3, .invokevirtual 309, (175, 1731, 3), 0)) (by decide +kernel)) rfl rfl rfl rfl hm_z
    obtain ⟨r4057_z, h4058_z, q4059_z, hm_z⟩ := hm_z
    rcases rs_ic q4059_z with ⟨i1_z, rfl, i3_z⟩ | ⟨i1_z, -⟩
    · subst i3_z
      replace hm_z : rn _ _ _ _ [.int 0] _ _ _ := hm_z
      replace hm_z := rn_ifF (am_cur_of (i := (221, 3, .ifCond .ne 5, (115, 0, 0), 0)) (by decide +kernel)) (by decide) hm_z
      replace hm_z := rn_iconst (w := 0) (am_cur_of (i := (224, 1, .iconst 0, (0, 0, 0), 0)) (by decide +kernel)) (by decide) hm_z
      replace hm_z := rn_iret (am_cur_of (i := (225, 1, .ireturn, (0, 0, 0), 0)) (by decide +kernel)) hm_z
      obtain ⟨e4060_z, e4061_z⟩ := hm_z
      subst e4060_z e4061_z
      exact (Or.inr ⟨rfl, 2, by decide, K.1, K.2, rfl, R6⟩)
    · exact absurd (Int32.toInt_inj.mp (show (rg_v g 164 44).toInt = (64 : Int32).toInt from by rw [show rg_v g 164 44 = kn from nk1_z.symm, show (64 : Int32).toInt = 64 by decide]; omega)) i1_z
  · subst eh
    replace lt : kn.toInt < 64 := by rw [← ekn]; exact lt
    rw [show rg_v h 11 0 = kn from ekn] at hc_z
    replace hm_z := rn_aload_n (am_cur_of (i := (217, 1, .aload_n 0, (0, 0, 0), 0)) (by decide +kernel)) g0m hm_z
    replace hm_z := rn_callV (M' := am_m175) (o := 164) (ar := []) (rest := []) (L := lv_args 0 [.ref 164]) (am_cur_of (i := (218, 3, .invokevirtual 309, (175, 1731, 3), 0)) (by decide +kernel)) rfl rfl rfl rfl hm_z
    obtain ⟨r4062_z, h4063_z, q4064_z, hm_z⟩ := hm_z
    rcases rs_ic q4064_z with ⟨i1_z, -⟩ | ⟨i1_z, rfl, i3_z⟩
    · exfalso
      have zz := congrArg Int32.toInt i1_z
      rw [show rg_v g 164 44 = kn from nk1_z.symm, show (64 : Int32).toInt = 64 by decide] at zz
      omega
    · subst i3_z
      rw [show rg_v g 164 44 = kn from nk1_z.symm] at hm_z
      replace hm_z : rn _ _ _ _ [.int 1] _ _ _ := hm_z
      replace hc_z : rn _ _ _ _ [] _ _ _ := hc_z
      replace hc_z := rn_aload_n (am_cur_of (i := (151, 1, .aload_n 0, (0, 0, 0), 0)) (by decide +kernel)) g0_z hc_z
      replace hc_z := rn_iload_n (am_cur_of (i := (152, 1, .iload_n 1, (0, 0, 0), 0)) (by decide +kernel)) g1_z hc_z
      replace hc_z := rn_callV (M' := am_m50) (o := 44) (ar := [.int 9]) (rest := []) (L := lv_args 0 [.ref 44, .int 9]) (am_cur_of (i := (153, 3, .invokevirtual 273, (50, 856, 3), 0)) (by decide +kernel)) rfl rfl rfl rfl hc_z
      obtain ⟨r4065_z, h4066_z, q4067_z, hc_z⟩ := hc_z
      obtain ⟨rfl, eh⟩ := rs_hold (np := np) (show rg_v (am_up h 11 0 (.int (kn + 1))) 44 13 = np from z1_z) (by omega) q4067_z
      subst eh
      replace hc_z : rn _ _ _ _ [] _ _ _ := hc_z
      replace hc_z := rn_aload_n (am_cur_of (i := (156, 1, .aload_n 0, (0, 0, 0), 0)) (by decide +kernel)) g0_z hc_z
      replace hc_z := rn_callV (M' := am_m19) (o := 44) (ar := []) (rest := []) (L := lv_args 0 [.ref 44]) (am_cur_of (i := (157, 3, .invokevirtual 57, (19, 727, 3), 0)) (by decide +kernel)) rfl rfl rfl rfl hc_z
      obtain ⟨r4068_z, h4069_z, q4070_z, hc_z⟩ := hc_z
      have vo := rn_void rfl q4070_z
      subst vo
      replace hm_z := rn_ifT (am_cur_of (i := (221, 3, .ifCond .ne 5, (115, 0, 0), 0)) (by decide +kernel)) (by decide) hm_z
      replace hm_z := rn_aload_n (am_cur_of (i := (226, 1, .aload_n 0, (0, 0, 0), 0)) (by decide +kernel)) g0m hm_z
      replace hm_z := rn_iload_n (am_cur_of (i := (227, 1, .iload_n 1, (0, 0, 0), 0)) (by decide +kernel)) g1m hm_z
      replace hm_z := rn_callV (M' := am_m173) (o := 164) (ar := [.int 8]) (rest := []) (L := lv_args 0 [.ref 164, .int 8]) (am_cur_of (i := (228, 3, .invokevirtual 298, (173, 1723, 3), 0)) (by decide +kernel)) rfl rfl rfl rfl hm_z
      obtain ⟨r4071_z, h4072_z, q4073_z, hm_z⟩ := hm_z
      obtain ⟨rfl, eh⟩ := rs_wf (np := np) (show rg_v (am_up g 164 44 (.int (kn + 1))) 164 41 = np from z2_z) q4073_z
      subst eh
      replace hm_z : rn _ _ _ _ [] _ _ _ := hm_z
      replace hm_z := rn_aload_n (am_cur_of (i := (231, 1, .aload_n 0, (0, 0, 0), 0)) (by decide +kernel)) g0m hm_z
      replace hm_z := rn_iconst (w := 1) (am_cur_of (i := (232, 1, .iconst 1, (0, 0, 0), 0)) (by decide +kernel)) (by decide) hm_z
      replace hm_z := rn_put (am_cur_of (i := (233, 3, .putfield 315, (12, 45, 1429), 0)) (by decide +kernel)) (by decide +kernel) hm_z
      replace hm_z := rn_aload_n (am_cur_of (i := (236, 1, .aload_n 0, (0, 0, 0), 0)) (by decide +kernel)) g0m hm_z
      replace hm_z := rn_iload_n (am_cur_of (i := (237, 1, .iload_n 1, (0, 0, 0), 0)) (by decide +kernel)) g1m hm_z
      replace hm_z := rn_callS (M' := am_m180) (ar := [.int 8]) (rest := [.ref 164]) (L := lv_args 0 [.int 8]) (am_cur_of (i := (238, 3, .invokestatic 283, (180, 1751, 3), 0)) (by decide +kernel)) rfl rfl rfl rfl hm_z
      obtain ⟨r4074_z, h4075_z, q4076_z, hm_z⟩ := hm_z
      obtain ⟨rfl, yq4076_z⟩ := rs_rankM q4076_z
      replace yq4076_z := yq4076_z.symm
      subst yq4076_z
      rw [show rk_M 8 = 4 by decide] at hm_z
      replace hm_z : rn _ _ _ _ [.int 4, .ref 164] _ _ _ := hm_z
      replace hm_z := rn_iconst (w := 3) (am_cur_of (i := (241, 1, .iconst 3, (0, 0, 0), 0)) (by decide +kernel)) (by decide) hm_z
      replace hm_z := rn_cmpT (am_cur_of (i := (242, 3, .if_icmp .ge 7, (128, 0, 0), 0)) (by decide +kernel)) (by decide) hm_z
      replace hm_z := rn_iconst (w := 0) (am_cur_of (i := (249, 1, .iconst 0, (0, 0, 0), 0)) (by decide +kernel)) (by decide) hm_z
      replace hm_z := rn_put (am_cur_of (i := (250, 3, .putfield 302, (12, 46, 1430), 0)) (by decide +kernel)) (by decide +kernel) hm_z
      replace hm_z := rn_aload_n (am_cur_of (i := (253, 1, .aload_n 0, (0, 0, 0), 0)) (by decide +kernel)) g0m hm_z
      replace hm_z := rn_callV (M' := am_m151) (o := 164) (ar := []) (rest := []) (L := lv_args 0 [.ref 164]) (am_cur_of (i := (254, 3, .invokevirtual 191, (151, 1636, 3), 0)) (by decide +kernel)) rfl rfl rfl rfl hm_z
      obtain ⟨r4077_z, h4078_z, q4079_z, hm_z⟩ := hm_z
      have vo := rn_void rfl q4079_z
      subst vo
      have FC : ab_Fr (rz_MC2.drop 1) h (am_up (am_up (am_up h 11 0 (.int (kn + 1))) 47 np.toNatClampNeg (.int 9)) 44 13 (.int (np + 1))) := ab_Fr_up rfl (ab_Fr_up rfl (ab_Fr_up rfl ab_Fr_refl))
      have FC' : ab_Fr rz_MC2 h (am_up (am_up (am_up h 11 0 (.int (kn + 1))) 47 np.toNatClampNeg (.int 9)) 44 13 (.int (np + 1))) := ab_Fr_sub (by decide) FC
      have FM : ab_Fr rz_MM g (am_up (am_up (am_up (am_up (am_up g 164 44 (.int (kn + 1))) 184 np.toNatClampNeg (.int 8)) 164 41 (.int (np + 1))) 164 45 (.int 1)) 164 46 (.int 0)) := ab_Fr_up rfl (ab_Fr_up rfl (ab_Fr_up rfl (ab_Fr_up rfl (ab_Fr_up rfl ab_Fr_refl))))
      obtain ⟨-, -, x2_z, p2_z, R2, le2_z, t5_z, t6_z⟩ := pr_tok (rz_q02 (rq_0 Rk) FC' FM) q4070_z q4079_z
      have A2 := rp_x (by decide) (rz_p2 A FC' FM ((show rg_v (am_up (am_up (am_up h 11 0 (.int (kn + 1))) 47 np.toNatClampNeg (.int 9)) 44 13 (.int (np + 1))) 11 0 = kn + 1 from (show rg_v (am_up (am_up (am_up h 11 0 (.int (kn + 1))) 47 np.toNatClampNeg (.int 9)) 44 13 (.int (np + 1))) 11 0 = kn + 1 from rfl)).trans (show rg_v (am_up (am_up (am_up (am_up (am_up g 164 44 (.int (kn + 1))) 184 np.toNatClampNeg (.int 8)) 164 41 (.int (np + 1))) 164 45 (.int 1)) 164 46 (.int 0)) 164 44 = kn + 1 from (show rg_v (am_up (am_up (am_up (am_up (am_up g 164 44 (.int (kn + 1))) 184 np.toNatClampNeg (.int 8)) 164 41 (.int (np + 1))) 164 45 (.int 1)) 164 46 (.int 0)) 164 44 = kn + 1 from rfl)).symm) (by rw [show rg_v (am_up (am_up (am_up h 11 0 (.int (kn + 1))) 47 np.toNatClampNeg (.int 9)) 44 13 (.int (np + 1))) 11 0 = kn + 1 from (show rg_v (am_up (am_up (am_up h 11 0 (.int (kn + 1))) 47 np.toNatClampNeg (.int 9)) 44 13 (.int (np + 1))) 11 0 = kn + 1 from rfl)]; omega) (by rw [show rg_v (am_up (am_up (am_up h 11 0 (.int (kn + 1))) 47 np.toNatClampNeg (.int 9)) 44 13 (.int (np + 1))) 11 0 = kn + 1 from (show rg_v (am_up (am_up (am_up h 11 0 (.int (kn + 1))) 47 np.toNatClampNeg (.int 9)) 44 13 (.int (np + 1))) 11 0 = kn + 1 from rfl)]; omega)) (rx_C_f t5_z) (rx_M_f t6_z)
      have B2 := rp_tk (rz_t2 B FC FM) (rg_v_fr t5_z (by decide)) (fun k => rg_v_fr t6_z (rg_v_in (by decide) k)) (rx_M_f t6_z)
      have Z2 : rs 2 (am_up (am_up (am_up h 11 0 (.int (kn + 1))) 47 np.toNatClampNeg (.int 9)) 44 13 (.int (np + 1))) (am_up (am_up (am_up (am_up (am_up g 164 44 (.int (kn + 1))) 184 np.toNatClampNeg (.int 8)) 164 41 (.int (np + 1))) 164 45 (.int 1)) 164 46 (.int 0)) := rs_push (o := 9) (k := 8) (np := np) (op := op) Zk (by unfold rs_o; decide) z1_z z4_z (show rg_v (am_up (am_up (am_up h 11 0 (.int (kn + 1))) 47 np.toNatClampNeg (.int 9)) 44 13 (.int (np + 1))) 44 13 = np + 1 from (show rg_v (am_up (am_up (am_up h 11 0 (.int (kn + 1))) 47 np.toNatClampNeg (.int 9)) 44 13 (.int (np + 1))) 44 13 = np + 1 from rfl)) (show rg_v (am_up (am_up (am_up (am_up (am_up g 164 44 (.int (kn + 1))) 184 np.toNatClampNeg (.int 8)) 164 41 (.int (np + 1))) 164 45 (.int 1)) 164 46 (.int 0)) 164 41 = np + 1 from (show rg_v (am_up (am_up (am_up (am_up (am_up g 164 44 (.int (kn + 1))) 184 np.toNatClampNeg (.int 8)) 164 41 (.int (np + 1))) 164 45 (.int 1)) 164 46 (.int 0)) 164 41 = np + 1 from rfl)) (fun i hi_z => (show rg_v (am_up (am_up (am_up h 11 0 (.int (kn + 1))) 47 np.toNatClampNeg (.int 9)) 44 13 (.int (np + 1))) 47 i = rg_v h 47 i from rg_v_other (h := h) (o := 47) (k := np.toNatClampNeg) (v := .int 9) (by omega))) (show rg_v (am_up (am_up (am_up h 11 0 (.int (kn + 1))) 47 np.toNatClampNeg (.int 9)) 44 13 (.int (np + 1))) 47 np.toNatClampNeg = 9 from rg_v_self (h := h) (o := 47) (k := np.toNatClampNeg)) (fun i hi_z => (show rg_v (am_up (am_up (am_up (am_up (am_up g 164 44 (.int (kn + 1))) 184 np.toNatClampNeg (.int 8)) 164 41 (.int (np + 1))) 164 45 (.int 1)) 164 46 (.int 0)) 184 i = rg_v g 184 i from rg_v_other (h := g) (o := 184) (k := np.toNatClampNeg) (v := .int 8) (by omega))) (show rg_v (am_up (am_up (am_up (am_up (am_up g 164 44 (.int (kn + 1))) 184 np.toNatClampNeg (.int 8)) 164 41 (.int (np + 1))) 164 45 (.int 1)) 164 46 (.int 0)) 184 np.toNatClampNeg = 8 from rg_v_self (h := g) (o := 184) (k := np.toNatClampNeg)) (show (rg_v h 11 0).toInt ≤ 64 by rw [ekn]; exact nk3_z) (Or.inl ⟨by decide, (show rg_v (am_up (am_up (am_up h 11 0 (.int (kn + 1))) 47 np.toNatClampNeg (.int 9)) 44 13 (.int (np + 1))) 44 14 = op from (show rg_v (am_up (am_up (am_up h 11 0 (.int (kn + 1))) 47 np.toNatClampNeg (.int 9)) 44 13 (.int (np + 1))) 44 14 = op from z4_z)), (show rg_v (am_up (am_up (am_up (am_up (am_up g 164 44 (.int (kn + 1))) 184 np.toNatClampNeg (.int 8)) 164 41 (.int (np + 1))) 164 45 (.int 1)) 164 46 (.int 0)) 164 43 = op from (show rg_v (am_up (am_up (am_up (am_up (am_up g 164 44 (.int (kn + 1))) 184 np.toNatClampNeg (.int 8)) 164 41 (.int (np + 1))) 164 45 (.int 1)) 164 46 (.int 0)) 164 43 = op from z5_z)), (show (rg_v (am_up (am_up (am_up h 11 0 (.int (kn + 1))) 47 np.toNatClampNeg (.int 9)) 44 13 (.int (np + 1))) 11 0).toInt = (rg_v h 11 0).toInt + 1 by rw [(show rg_v (am_up (am_up (am_up h 11 0 (.int (kn + 1))) 47 np.toNatClampNeg (.int 9)) 44 13 (.int (np + 1))) 11 0 = kn + 1 from (show rg_v (am_up (am_up (am_up h 11 0 (.int (kn + 1))) 47 np.toNatClampNeg (.int 9)) 44 13 (.int (np + 1))) 11 0 = kn + 1 from rfl)), ekn]; exact e9_z)⟩)
      replace Z2 := rs_fr (by decide) Z2 t5_z t6_z
      have e45_z : rg_v h4078_z 164 45 = 1 := (rg_v_fr t6_z (by decide)).trans (show rg_v (am_up (am_up (am_up (am_up (am_up g 164 44 (.int (kn + 1))) 184 np.toNatClampNeg (.int 8)) 164 41 (.int (np + 1))) 164 45 (.int 1)) 164 46 (.int 0)) 164 45 = 1 from (show rg_v (am_up (am_up (am_up (am_up (am_up g 164 44 (.int (kn + 1))) 184 np.toNatClampNeg (.int 8)) 164 41 (.int (np + 1))) 164 45 (.int 1)) 164 46 (.int 0)) 164 45 = 1 from rfl))
      have e46_z : rg_v h4078_z 164 46 = 0 := (rg_v_fr t6_z (by decide)).trans (show rg_v (am_up (am_up (am_up (am_up (am_up g 164 44 (.int (kn + 1))) 184 np.toNatClampNeg (.int 8)) 164 41 (.int (np + 1))) 164 45 (.int 1)) 164 46 (.int 0)) 164 46 = 0 from (show rg_v (am_up (am_up (am_up (am_up (am_up g 164 44 (.int (kn + 1))) 184 np.toNatClampNeg (.int 8)) 164 41 (.int (np + 1))) 164 45 (.int 1)) 164 46 (.int 0)) 164 46 = 0 from rfl))
      replace hm_z : rn _ _ _ _ [] _ _ _ := hm_z
      replace hc_z : rn _ _ _ _ [] _ _ _ := hc_z
      replace hc_z := rn_iload_n (am_cur_of (i := (160, 1, .iload_n 1, (0, 0, 0), 0)) (by decide +kernel)) g1_z hc_z
      replace hc_z := rn_iconst (w := 3) (am_cur_of (i := (161, 1, .iconst 3, (0, 0, 0), 0)) (by decide +kernel)) (by decide) hc_z
      replace hc_z := rn_cmpF (am_cur_of (i := (162, 3, .if_icmp .eq 8, (89, 0, 0), 0)) (by decide +kernel)) (by decide) hc_z
      replace hc_z := rn_iload_n (am_cur_of (i := (165, 1, .iload_n 1, (0, 0, 0), 0)) (by decide +kernel)) g1_z hc_z
      replace hc_z := rn_iconst (w := 4) (am_cur_of (i := (166, 1, .iconst 4, (0, 0, 0), 0)) (by decide +kernel)) (by decide) hc_z
      replace hc_z := rn_cmpT (am_cur_of (i := (167, 3, .if_icmp .ne 7, (91, 0, 0), 0)) (by decide +kernel)) (by decide) hc_z
      replace hc_z := rn_iconst (w := 1) (am_cur_of (i := (174, 1, .iconst 1, (0, 0, 0), 0)) (by decide +kernel)) (by decide) hc_z
      replace hc_z := rn_iret (am_cur_of (i := (175, 1, .ireturn, (0, 0, 0), 0)) (by decide +kernel)) hc_z
      obtain ⟨e4080_z, e4081_z⟩ := hc_z
      replace hm_z := rn_iconst (w := 1) (am_cur_of (i := (257, 1, .iconst 1, (0, 0, 0), 0)) (by decide +kernel)) (by decide) hm_z
      replace hm_z := rn_iret (am_cur_of (i := (258, 1, .ireturn, (0, 0, 0), 0)) (by decide +kernel)) hm_z
      obtain ⟨e4082_z, e4083_z⟩ := hm_z
      subst e4080_z e4081_z e4082_z e4083_z
      exact Or.inl ⟨_, x2_z, p2_z, rfl, rfl, R2, le2_z, A2, B2, Z2, Or.inr (Or.inl ⟨rfl, e45_z, e46_z⟩)⟩
theorem rj_t10_2 {T : Nat → Int32} {S x p : Int32} {n n' : Nat} {h h' g g' : am_H} {r r' : Option Value} {ls ls2_z : am_L} (R : rq T S x p 2 h g) (A : rp 2 h g) (B : rp_t h g) (Z : rs 2 h g) (g0_z : am_get ls 0 = some (.ref 44)) (g1_z : am_get ls 1 = some (.int 10)) (g0m : am_get ls2_z 0 = some (.ref 164)) (g1m : am_get ls2_z 1 = some (.int 9)) (hc_z : rn n am_m44 76 ls [] h r h') (hm_z : rn n' am_m178 110 ls2_z [] g r' g') : rv_Q T S x p 2 h' g' r r' := by
  have Rk := R
  have Zk := Z
  obtain ⟨⟨c1_z, c2_z, c3_z, c4_z, c5_z, c6_z, c7_z, c8_z⟩, ⟨m2_z, m3_z, m4_z, m5_z, m6_z, m7_z, m8_z⟩, R3, R4, R5, R6, R7, R8, R9, R10⟩ := (R : rq T S x p 2 h g)
  obtain ⟨np, op, z1_z, z2_z, z3_z, z4_z, z5_z, z6_z, z7_z, z8_z, z9_z, z10_z⟩ := (Z : rs 2 h g)
  obtain ⟨nk1_z, nk2_z, nk3_z⟩ := A.2.2.2.2.2.1
  replace nk1_z : rg_v h 11 0 = rg_v g 164 44 := nk1_z
  replace nk2_z : 0 ≤ (rg_v h 11 0).toInt := nk2_z
  replace nk3_z : (rg_v h 11 0).toInt ≤ 64 := nk3_z
  replace z8_z : np.toInt ≤ (rg_v h 11 0).toInt + op.toInt := z8_z
  obtain ⟨kn, ekn⟩ : ∃ v, rg_v h 11 0 = v := ⟨_, rfl⟩
  rw [ekn] at nk1_z nk2_z nk3_z z8_z
  have e9_z := rt_c1 (x := kn) (by omega) (by omega)
  replace hc_z := rn_aload_n (am_cur_of (i := (147, 1, .aload_n 0, (0, 0, 0), 0)) (by decide +kernel)) g0_z hc_z
  replace hc_z := rn_callV (M' := am_m49) (o := 44) (ar := []) (rest := []) (L := lv_args 0 [.ref 44]) (am_cur_of (i := (148, 3, .invokevirtual 270, (49, 852, 3), 0)) (by decide +kernel)) rfl rfl rfl rfl hc_z
  obtain ⟨r4084_z, h4085_z, q4086_z, hc_z⟩ := hc_z
  rcases rs_ck2 R4 (show h 44 6 = .ref 2 from R3) q4086_z with ⟨ge, rfl, eh⟩ | ⟨lt, rfl, eh⟩
  · subst eh
    replace ge : 64 ≤ kn.toInt := by rw [← ekn]; exact ge
    replace hc_z : rn _ _ _ _ [] _ _ _ := hc_z
    have K := rs_stick (w := 2) (q := p) (a := 44) (by decide) (by decide) rfl (by decide) rfl (show rg_v (am_up (am_up h 44 1 (.int 2)) 44 2 (.int (rg_v h 44 9))) 44 2 = p from R5) hc_z
    replace hm_z := rn_aload_n (am_cur_of (i := (217, 1, .aload_n 0, (0, 0, 0), 0)) (by decide +kernel)) g0m hm_z
    replace hm_z := rn_callV (M' := am_m175) (o := 164) (ar := []) (rest := []) (L := lv_args 0 [.ref 164]) (am_cur_of (i := (218, 3, .invokevirtual 309, (175, 1731, 3), 0)) (by decide +kernel)) rfl rfl rfl rfl hm_z
    obtain ⟨r4087_z, h4088_z, q4089_z, hm_z⟩ := hm_z
    rcases rs_ic q4089_z with ⟨i1_z, rfl, i3_z⟩ | ⟨i1_z, -⟩
    · subst i3_z
      replace hm_z : rn _ _ _ _ [.int 0] _ _ _ := hm_z
      replace hm_z := rn_ifF (am_cur_of (i := (221, 3, .ifCond .ne 5, (115, 0, 0), 0)) (by decide +kernel)) (by decide) hm_z
      replace hm_z := rn_iconst (w := 0) (am_cur_of (i := (224, 1, .iconst 0, (0, 0, 0), 0)) (by decide +kernel)) (by decide) hm_z
      replace hm_z := rn_iret (am_cur_of (i := (225, 1, .ireturn, (0, 0, 0), 0)) (by decide +kernel)) hm_z
      obtain ⟨e4090_z, e4091_z⟩ := hm_z
      subst e4090_z e4091_z
      exact (Or.inr ⟨rfl, 2, by decide, K.1, K.2, rfl, R6⟩)
    · exact absurd (Int32.toInt_inj.mp (show (rg_v g 164 44).toInt = (64 : Int32).toInt from by rw [show rg_v g 164 44 = kn from nk1_z.symm, show (64 : Int32).toInt = 64 by decide]; omega)) i1_z
  · subst eh
    replace lt : kn.toInt < 64 := by rw [← ekn]; exact lt
    rw [show rg_v h 11 0 = kn from ekn] at hc_z
    replace hm_z := rn_aload_n (am_cur_of (i := (217, 1, .aload_n 0, (0, 0, 0), 0)) (by decide +kernel)) g0m hm_z
    replace hm_z := rn_callV (M' := am_m175) (o := 164) (ar := []) (rest := []) (L := lv_args 0 [.ref 164]) (am_cur_of (i := (218, 3, .invokevirtual 309, (175, 1731, 3), 0)) (by decide +kernel)) rfl rfl rfl rfl hm_z
    obtain ⟨r4092_z, h4093_z, q4094_z, hm_z⟩ := hm_z
    rcases rs_ic q4094_z with ⟨i1_z, -⟩ | ⟨i1_z, rfl, i3_z⟩
    · exfalso
      have zz := congrArg Int32.toInt i1_z
      rw [show rg_v g 164 44 = kn from nk1_z.symm, show (64 : Int32).toInt = 64 by decide] at zz
      omega
    · subst i3_z
      rw [show rg_v g 164 44 = kn from nk1_z.symm] at hm_z
      replace hm_z : rn _ _ _ _ [.int 1] _ _ _ := hm_z
      replace hc_z : rn _ _ _ _ [] _ _ _ := hc_z
      replace hc_z := rn_aload_n (am_cur_of (i := (151, 1, .aload_n 0, (0, 0, 0), 0)) (by decide +kernel)) g0_z hc_z
      replace hc_z := rn_iload_n (am_cur_of (i := (152, 1, .iload_n 1, (0, 0, 0), 0)) (by decide +kernel)) g1_z hc_z
      replace hc_z := rn_callV (M' := am_m50) (o := 44) (ar := [.int 10]) (rest := []) (L := lv_args 0 [.ref 44, .int 10]) (am_cur_of (i := (153, 3, .invokevirtual 273, (50, 856, 3), 0)) (by decide +kernel)) rfl rfl rfl rfl hc_z
      obtain ⟨r4095_z, h4096_z, q4097_z, hc_z⟩ := hc_z
      obtain ⟨rfl, eh⟩ := rs_hold (np := np) (show rg_v (am_up h 11 0 (.int (kn + 1))) 44 13 = np from z1_z) (by omega) q4097_z
      subst eh
      replace hc_z : rn _ _ _ _ [] _ _ _ := hc_z
      replace hc_z := rn_aload_n (am_cur_of (i := (156, 1, .aload_n 0, (0, 0, 0), 0)) (by decide +kernel)) g0_z hc_z
      replace hc_z := rn_callV (M' := am_m19) (o := 44) (ar := []) (rest := []) (L := lv_args 0 [.ref 44]) (am_cur_of (i := (157, 3, .invokevirtual 57, (19, 727, 3), 0)) (by decide +kernel)) rfl rfl rfl rfl hc_z
      obtain ⟨r4098_z, h4099_z, q4100_z, hc_z⟩ := hc_z
      have vo := rn_void rfl q4100_z
      subst vo
      replace hm_z := rn_ifT (am_cur_of (i := (221, 3, .ifCond .ne 5, (115, 0, 0), 0)) (by decide +kernel)) (by decide) hm_z
      replace hm_z := rn_aload_n (am_cur_of (i := (226, 1, .aload_n 0, (0, 0, 0), 0)) (by decide +kernel)) g0m hm_z
      replace hm_z := rn_iload_n (am_cur_of (i := (227, 1, .iload_n 1, (0, 0, 0), 0)) (by decide +kernel)) g1m hm_z
      replace hm_z := rn_callV (M' := am_m173) (o := 164) (ar := [.int 9]) (rest := []) (L := lv_args 0 [.ref 164, .int 9]) (am_cur_of (i := (228, 3, .invokevirtual 298, (173, 1723, 3), 0)) (by decide +kernel)) rfl rfl rfl rfl hm_z
      obtain ⟨r4101_z, h4102_z, q4103_z, hm_z⟩ := hm_z
      obtain ⟨rfl, eh⟩ := rs_wf (np := np) (show rg_v (am_up g 164 44 (.int (kn + 1))) 164 41 = np from z2_z) q4103_z
      subst eh
      replace hm_z : rn _ _ _ _ [] _ _ _ := hm_z
      replace hm_z := rn_aload_n (am_cur_of (i := (231, 1, .aload_n 0, (0, 0, 0), 0)) (by decide +kernel)) g0m hm_z
      replace hm_z := rn_iconst (w := 1) (am_cur_of (i := (232, 1, .iconst 1, (0, 0, 0), 0)) (by decide +kernel)) (by decide) hm_z
      replace hm_z := rn_put (am_cur_of (i := (233, 3, .putfield 315, (12, 45, 1429), 0)) (by decide +kernel)) (by decide +kernel) hm_z
      replace hm_z := rn_aload_n (am_cur_of (i := (236, 1, .aload_n 0, (0, 0, 0), 0)) (by decide +kernel)) g0m hm_z
      replace hm_z := rn_iload_n (am_cur_of (i := (237, 1, .iload_n 1, (0, 0, 0), 0)) (by decide +kernel)) g1m hm_z
      replace hm_z := rn_callS (M' := am_m180) (ar := [.int 9]) (rest := [.ref 164]) (L := lv_args 0 [.int 9]) (am_cur_of (i := (238, 3, .invokestatic 283, (180, 1751, 3), 0)) (by decide +kernel)) rfl rfl rfl rfl hm_z
      obtain ⟨r4104_z, h4105_z, q4106_z, hm_z⟩ := hm_z
      obtain ⟨rfl, yq4106_z⟩ := rs_rankM q4106_z
      replace yq4106_z := yq4106_z.symm
      subst yq4106_z
      rw [show rk_M 9 = 4 by decide] at hm_z
      replace hm_z : rn _ _ _ _ [.int 4, .ref 164] _ _ _ := hm_z
      replace hm_z := rn_iconst (w := 3) (am_cur_of (i := (241, 1, .iconst 3, (0, 0, 0), 0)) (by decide +kernel)) (by decide) hm_z
      replace hm_z := rn_cmpT (am_cur_of (i := (242, 3, .if_icmp .ge 7, (128, 0, 0), 0)) (by decide +kernel)) (by decide) hm_z
      replace hm_z := rn_iconst (w := 0) (am_cur_of (i := (249, 1, .iconst 0, (0, 0, 0), 0)) (by decide +kernel)) (by decide) hm_z
      replace hm_z := rn_put (am_cur_of (i := (250, 3, .putfield 302, (12, 46, 1430), 0)) (by decide +kernel)) (by decide +kernel) hm_z
      replace hm_z := rn_aload_n (am_cur_of (i := (253, 1, .aload_n 0, (0, 0, 0), 0)) (by decide +kernel)) g0m hm_z
      replace hm_z := rn_callV (M' := am_m151) (o := 164) (ar := []) (rest := []) (L := lv_args 0 [.ref 164]) (am_cur_of (i := (254, 3, .invokevirtual 191, (151, 1636, 3), 0)) (by decide +kernel)) rfl rfl rfl rfl hm_z
      obtain ⟨r4107_z, h4108_z, q4109_z, hm_z⟩ := hm_z
      have vo := rn_void rfl q4109_z
      subst vo
      have FC : ab_Fr (rz_MC2.drop 1) h (am_up (am_up (am_up h 11 0 (.int (kn + 1))) 47 np.toNatClampNeg (.int 10)) 44 13 (.int (np + 1))) := ab_Fr_up rfl (ab_Fr_up rfl (ab_Fr_up rfl ab_Fr_refl))
      have FC' : ab_Fr rz_MC2 h (am_up (am_up (am_up h 11 0 (.int (kn + 1))) 47 np.toNatClampNeg (.int 10)) 44 13 (.int (np + 1))) := ab_Fr_sub (by decide) FC
      have FM : ab_Fr rz_MM g (am_up (am_up (am_up (am_up (am_up g 164 44 (.int (kn + 1))) 184 np.toNatClampNeg (.int 9)) 164 41 (.int (np + 1))) 164 45 (.int 1)) 164 46 (.int 0)) := ab_Fr_up rfl (ab_Fr_up rfl (ab_Fr_up rfl (ab_Fr_up rfl (ab_Fr_up rfl ab_Fr_refl))))
      obtain ⟨-, -, x2_z, p2_z, R2, le2_z, t5_z, t6_z⟩ := pr_tok (rz_q02 (rq_0 Rk) FC' FM) q4100_z q4109_z
      have A2 := rp_x (by decide) (rz_p2 A FC' FM ((show rg_v (am_up (am_up (am_up h 11 0 (.int (kn + 1))) 47 np.toNatClampNeg (.int 10)) 44 13 (.int (np + 1))) 11 0 = kn + 1 from (show rg_v (am_up (am_up (am_up h 11 0 (.int (kn + 1))) 47 np.toNatClampNeg (.int 10)) 44 13 (.int (np + 1))) 11 0 = kn + 1 from rfl)).trans (show rg_v (am_up (am_up (am_up (am_up (am_up g 164 44 (.int (kn + 1))) 184 np.toNatClampNeg (.int 9)) 164 41 (.int (np + 1))) 164 45 (.int 1)) 164 46 (.int 0)) 164 44 = kn + 1 from (show rg_v (am_up (am_up (am_up (am_up (am_up g 164 44 (.int (kn + 1))) 184 np.toNatClampNeg (.int 9)) 164 41 (.int (np + 1))) 164 45 (.int 1)) 164 46 (.int 0)) 164 44 = kn + 1 from rfl)).symm) (by rw [show rg_v (am_up (am_up (am_up h 11 0 (.int (kn + 1))) 47 np.toNatClampNeg (.int 10)) 44 13 (.int (np + 1))) 11 0 = kn + 1 from (show rg_v (am_up (am_up (am_up h 11 0 (.int (kn + 1))) 47 np.toNatClampNeg (.int 10)) 44 13 (.int (np + 1))) 11 0 = kn + 1 from rfl)]; omega) (by rw [show rg_v (am_up (am_up (am_up h 11 0 (.int (kn + 1))) 47 np.toNatClampNeg (.int 10)) 44 13 (.int (np + 1))) 11 0 = kn + 1 from (show rg_v (am_up (am_up (am_up h 11 0 (.int (kn + 1))) 47 np.toNatClampNeg (.int 10)) 44 13 (.int (np + 1))) 11 0 = kn + 1 from rfl)]; omega)) (rx_C_f t5_z) (rx_M_f t6_z)
      have B2 := rp_tk (rz_t2 B FC FM) (rg_v_fr t5_z (by decide)) (fun k => rg_v_fr t6_z (rg_v_in (by decide) k)) (rx_M_f t6_z)
      have Z2 : rs 2 (am_up (am_up (am_up h 11 0 (.int (kn + 1))) 47 np.toNatClampNeg (.int 10)) 44 13 (.int (np + 1))) (am_up (am_up (am_up (am_up (am_up g 164 44 (.int (kn + 1))) 184 np.toNatClampNeg (.int 9)) 164 41 (.int (np + 1))) 164 45 (.int 1)) 164 46 (.int 0)) := rs_push (o := 10) (k := 9) (np := np) (op := op) Zk (by unfold rs_o; decide) z1_z z4_z (show rg_v (am_up (am_up (am_up h 11 0 (.int (kn + 1))) 47 np.toNatClampNeg (.int 10)) 44 13 (.int (np + 1))) 44 13 = np + 1 from (show rg_v (am_up (am_up (am_up h 11 0 (.int (kn + 1))) 47 np.toNatClampNeg (.int 10)) 44 13 (.int (np + 1))) 44 13 = np + 1 from rfl)) (show rg_v (am_up (am_up (am_up (am_up (am_up g 164 44 (.int (kn + 1))) 184 np.toNatClampNeg (.int 9)) 164 41 (.int (np + 1))) 164 45 (.int 1)) 164 46 (.int 0)) 164 41 = np + 1 from (show rg_v (am_up (am_up (am_up (am_up (am_up g 164 44 (.int (kn + 1))) 184 np.toNatClampNeg (.int 9)) 164 41 (.int (np + 1))) 164 45 (.int 1)) 164 46 (.int 0)) 164 41 = np + 1 from rfl)) (fun i hi_z => (show rg_v (am_up (am_up (am_up h 11 0 (.int (kn + 1))) 47 np.toNatClampNeg (.int 10)) 44 13 (.int (np + 1))) 47 i = rg_v h 47 i from rg_v_other (h := h) (o := 47) (k := np.toNatClampNeg) (v := .int 10) (by omega))) (show rg_v (am_up (am_up (am_up h 11 0 (.int (kn + 1))) 47 np.toNatClampNeg (.int 10)) 44 13 (.int (np + 1))) 47 np.toNatClampNeg = 10 from rg_v_self (h := h) (o := 47) (k := np.toNatClampNeg)) (fun i hi_z => (show rg_v (am_up (am_up (am_up (am_up (am_up g 164 44 (.int (kn + 1))) 184 np.toNatClampNeg (.int 9)) 164 41 (.int (np + 1))) 164 45 (.int 1)) 164 46 (.int 0)) 184 i = rg_v g 184 i from rg_v_other (h := g) (o := 184) (k := np.toNatClampNeg) (v := .int 9) (by omega))) (show rg_v (am_up (am_up (am_up (am_up (am_up g 164 44 (.int (kn + 1))) 184 np.toNatClampNeg (.int 9)) 164 41 (.int (np + 1))) 164 45 (.int 1)) 164 46 (.int 0)) 184 np.toNatClampNeg = 9 from rg_v_self (h := g) (o := 184) (k := np.toNatClampNeg)) (show (rg_v h 11 0).toInt ≤ 64 by rw [ekn]; exact nk3_z) (Or.inl ⟨by decide, (show rg_v (am_up (am_up (am_up h 11 0 (.int (kn + 1))) 47 np.toNatClampNeg (.int 10)) 44 13 (.int (np + 1))) 44 14 = op from (show rg_v (am_up (am_up (am_up h 11 0 (.int (kn + 1))) 47 np.toNatClampNeg (.int 10)) 44 13 (.int (np + 1))) 44 14 = op from z4_z)), (show rg_v (am_up (am_up (am_up (am_up (am_up g 164 44 (.int (kn + 1))) 184 np.toNatClampNeg (.int 9)) 164 41 (.int (np + 1))) 164 45 (.int 1)) 164 46 (.int 0)) 164 43 = op from (show rg_v (am_up (am_up (am_up (am_up (am_up g 164 44 (.int (kn + 1))) 184 np.toNatClampNeg (.int 9)) 164 41 (.int (np + 1))) 164 45 (.int 1)) 164 46 (.int 0)) 164 43 = op from z5_z)), (show (rg_v (am_up (am_up (am_up h 11 0 (.int (kn + 1))) 47 np.toNatClampNeg (.int 10)) 44 13 (.int (np + 1))) 11 0).toInt = (rg_v h 11 0).toInt + 1 by rw [(show rg_v (am_up (am_up (am_up h 11 0 (.int (kn + 1))) 47 np.toNatClampNeg (.int 10)) 44 13 (.int (np + 1))) 11 0 = kn + 1 from (show rg_v (am_up (am_up (am_up h 11 0 (.int (kn + 1))) 47 np.toNatClampNeg (.int 10)) 44 13 (.int (np + 1))) 11 0 = kn + 1 from rfl)), ekn]; exact e9_z)⟩)
      replace Z2 := rs_fr (by decide) Z2 t5_z t6_z
      have e45_z : rg_v h4108_z 164 45 = 1 := (rg_v_fr t6_z (by decide)).trans (show rg_v (am_up (am_up (am_up (am_up (am_up g 164 44 (.int (kn + 1))) 184 np.toNatClampNeg (.int 9)) 164 41 (.int (np + 1))) 164 45 (.int 1)) 164 46 (.int 0)) 164 45 = 1 from (show rg_v (am_up (am_up (am_up (am_up (am_up g 164 44 (.int (kn + 1))) 184 np.toNatClampNeg (.int 9)) 164 41 (.int (np + 1))) 164 45 (.int 1)) 164 46 (.int 0)) 164 45 = 1 from rfl))
      have e46_z : rg_v h4108_z 164 46 = 0 := (rg_v_fr t6_z (by decide)).trans (show rg_v (am_up (am_up (am_up (am_up (am_up g 164 44 (.int (kn + 1))) 184 np.toNatClampNeg (.int 9)) 164 41 (.int (np + 1))) 164 45 (.int 1)) 164 46 (.int 0)) 164 46 = 0 from (show rg_v (am_up (am_up (am_up (am_up (am_up g 164 44 (.int (kn + 1))) 184 np.toNatClampNeg (.int 9)) 164 41 (.int (np + 1))) 164 45 (.int 1)) 164 46 (.int 0)) 164 46 = 0 from rfl))
      replace hm_z : rn _ _ _ _ [] _ _ _ := hm_z
      replace hc_z : rn _ _ _ _ [] _ _ _ := hc_z
      replace hc_z := rn_iload_n (am_cur_of (i := (160, 1, .iload_n 1, (0, 0, 0), 0)) (by decide +kernel)) g1_z hc_z
      replace hc_z := rn_iconst (w := 3) (am_cur_of (i := (161, 1, .iconst 3, (0, 0, 0), 0)) (by decide +kernel)) (by decide) hc_z
      replace hc_z := rn_cmpF (am_cur_of (i := (162, 3, .if_icmp .eq 8, (89, 0, 0), 0)) (by decide +kernel)) (by decide) hc_z
      replace hc_z := rn_iload_n (am_cur_of (i := (165, 1, .iload_n 1, (0, 0, 0), 0)) (by decide +kernel)) g1_z hc_z
      replace hc_z := rn_iconst (w := 4) (am_cur_of (i := (166, 1, .iconst 4, (0, 0, 0), 0)) (by decide +kernel)) (by decide) hc_z
      replace hc_z := rn_cmpT (am_cur_of (i := (167, 3, .if_icmp .ne 7, (91, 0, 0), 0)) (by decide +kernel)) (by decide) hc_z
      replace hc_z := rn_iconst (w := 1) (am_cur_of (i := (174, 1, .iconst 1, (0, 0, 0), 0)) (by decide +kernel)) (by decide) hc_z
      replace hc_z := rn_iret (am_cur_of (i := (175, 1, .ireturn, (0, 0, 0), 0)) (by decide +kernel)) hc_z
      obtain ⟨e4110_z, e4111_z⟩ := hc_z
      replace hm_z := rn_iconst (w := 1) (am_cur_of (i := (257, 1, .iconst 1, (0, 0, 0), 0)) (by decide +kernel)) (by decide) hm_z
      replace hm_z := rn_iret (am_cur_of (i := (258, 1, .ireturn, (0, 0, 0), 0)) (by decide +kernel)) hm_z
      obtain ⟨e4112_z, e4113_z⟩ := hm_z
      subst e4110_z e4111_z e4112_z e4113_z
      exact Or.inl ⟨_, x2_z, p2_z, rfl, rfl, R2, le2_z, A2, B2, Z2, Or.inr (Or.inl ⟨rfl, e45_z, e46_z⟩)⟩
theorem rj_t11_2 {T : Nat → Int32} {S x p : Int32} {n n' : Nat} {h h' g g' : am_H} {r r' : Option Value} {ls ls2_z : am_L} (R : rq T S x p 2 h g) (A : rp 2 h g) (B : rp_t h g) (Z : rs 2 h g) (g0_z : am_get ls 0 = some (.ref 44)) (g1_z : am_get ls 1 = some (.int 11)) (g0m : am_get ls2_z 0 = some (.ref 164)) (g1m : am_get ls2_z 1 = some (.int 10)) (hc_z : rn n am_m44 76 ls [] h r h') (hm_z : rn n' am_m178 110 ls2_z [] g r' g') : rv_Q T S x p 2 h' g' r r' := by
  have Rk := R
  have Zk := Z
  obtain ⟨⟨c1_z, c2_z, c3_z, c4_z, c5_z, c6_z, c7_z, c8_z⟩, ⟨m2_z, m3_z, m4_z, m5_z, m6_z, m7_z, m8_z⟩, R3, R4, R5, R6, R7, R8, R9, R10⟩ := (R : rq T S x p 2 h g)
  obtain ⟨np, op, z1_z, z2_z, z3_z, z4_z, z5_z, z6_z, z7_z, z8_z, z9_z, z10_z⟩ := (Z : rs 2 h g)
  obtain ⟨nk1_z, nk2_z, nk3_z⟩ := A.2.2.2.2.2.1
  replace nk1_z : rg_v h 11 0 = rg_v g 164 44 := nk1_z
  replace nk2_z : 0 ≤ (rg_v h 11 0).toInt := nk2_z
  replace nk3_z : (rg_v h 11 0).toInt ≤ 64 := nk3_z
  replace z8_z : np.toInt ≤ (rg_v h 11 0).toInt + op.toInt := z8_z
  obtain ⟨kn, ekn⟩ : ∃ v, rg_v h 11 0 = v := ⟨_, rfl⟩
  rw [ekn] at nk1_z nk2_z nk3_z z8_z
  have e9_z := rt_c1 (x := kn) (by omega) (by omega)
  replace hc_z := rn_aload_n (am_cur_of (i := (147, 1, .aload_n 0, (0, 0, 0), 0)) (by decide +kernel)) g0_z hc_z
  replace hc_z := rn_callV (M' := am_m49) (o := 44) (ar := []) (rest := []) (L := lv_args 0 [.ref 44]) (am_cur_of (i := (148, 3, .invokevirtual 270, (49, 852, 3), 0)) (by decide +kernel)) rfl rfl rfl rfl hc_z
  obtain ⟨r4114_z, h4115_z, q4116_z, hc_z⟩ := hc_z
  rcases rs_ck2 R4 (show h 44 6 = .ref 2 from R3) q4116_z with ⟨ge, rfl, eh⟩ | ⟨lt, rfl, eh⟩
  · subst eh
    replace ge : 64 ≤ kn.toInt := by rw [← ekn]; exact ge
    replace hc_z : rn _ _ _ _ [] _ _ _ := hc_z
    have K := rs_stick (w := 2) (q := p) (a := 44) (by decide) (by decide) rfl (by decide) rfl (show rg_v (am_up (am_up h 44 1 (.int 2)) 44 2 (.int (rg_v h 44 9))) 44 2 = p from R5) hc_z
    replace hm_z := rn_aload_n (am_cur_of (i := (217, 1, .aload_n 0, (0, 0, 0), 0)) (by decide +kernel)) g0m hm_z
    replace hm_z := rn_callV (M' := am_m175) (o := 164) (ar := []) (rest := []) (L := lv_args 0 [.ref 164]) (am_cur_of (i := (218, 3, .invokevirtual 309, (175, 1731, 3), 0)) (by decide +kernel)) rfl rfl rfl rfl hm_z
    obtain ⟨r4117_z, h4118_z, q4119_z, hm_z⟩ := hm_z
    rcases rs_ic q4119_z with ⟨i1_z, rfl, i3_z⟩ | ⟨i1_z, -⟩
    · subst i3_z
      replace hm_z : rn _ _ _ _ [.int 0] _ _ _ := hm_z
      replace hm_z := rn_ifF (am_cur_of (i := (221, 3, .ifCond .ne 5, (115, 0, 0), 0)) (by decide +kernel)) (by decide) hm_z
      replace hm_z := rn_iconst (w := 0) (am_cur_of (i := (224, 1, .iconst 0, (0, 0, 0), 0)) (by decide +kernel)) (by decide) hm_z
      replace hm_z := rn_iret (am_cur_of (i := (225, 1, .ireturn, (0, 0, 0), 0)) (by decide +kernel)) hm_z
      obtain ⟨e4120_z, e4121_z⟩ := hm_z
      subst e4120_z e4121_z
      exact (Or.inr ⟨rfl, 2, by decide, K.1, K.2, rfl, R6⟩)
    · exact absurd (Int32.toInt_inj.mp (show (rg_v g 164 44).toInt = (64 : Int32).toInt from by rw [show rg_v g 164 44 = kn from nk1_z.symm, show (64 : Int32).toInt = 64 by decide]; omega)) i1_z
  · subst eh
    replace lt : kn.toInt < 64 := by rw [← ekn]; exact lt
    rw [show rg_v h 11 0 = kn from ekn] at hc_z
    replace hm_z := rn_aload_n (am_cur_of (i := (217, 1, .aload_n 0, (0, 0, 0), 0)) (by decide +kernel)) g0m hm_z
    replace hm_z := rn_callV (M' := am_m175) (o := 164) (ar := []) (rest := []) (L := lv_args 0 [.ref 164]) (am_cur_of (i := (218, 3, .invokevirtual 309, (175, 1731, 3), 0)) (by decide +kernel)) rfl rfl rfl rfl hm_z
    obtain ⟨r4122_z, h4123_z, q4124_z, hm_z⟩ := hm_z
    rcases rs_ic q4124_z with ⟨i1_z, -⟩ | ⟨i1_z, rfl, i3_z⟩
    · exfalso
      have zz := congrArg Int32.toInt i1_z
      rw [show rg_v g 164 44 = kn from nk1_z.symm, show (64 : Int32).toInt = 64 by decide] at zz
      omega
    · subst i3_z
      rw [show rg_v g 164 44 = kn from nk1_z.symm] at hm_z
      replace hm_z : rn _ _ _ _ [.int 1] _ _ _ := hm_z
      replace hc_z : rn _ _ _ _ [] _ _ _ := hc_z
      replace hc_z := rn_aload_n (am_cur_of (i := (151, 1, .aload_n 0, (0, 0, 0), 0)) (by decide +kernel)) g0_z hc_z
      replace hc_z := rn_iload_n (am_cur_of (i := (152, 1, .iload_n 1, (0, 0, 0), 0)) (by decide +kernel)) g1_z hc_z
      replace hc_z := rn_callV (M' := am_m50) (o := 44) (ar := [.int 11]) (rest := []) (L := lv_args 0 [.ref 44, .int 11]) (am_cur_of (i := (153, 3, .invokevirtual 273, (50, 856, 3), 0)) (by decide +kernel)) rfl rfl rfl rfl hc_z
      obtain ⟨r4125_z, h4126_z, q4127_z, hc_z⟩ := hc_z
      obtain ⟨rfl, eh⟩ := rs_hold (np := np) (show rg_v (am_up h 11 0 (.int (kn + 1))) 44 13 = np from z1_z) (by omega) q4127_z
      subst eh
      replace hc_z : rn _ _ _ _ [] _ _ _ := hc_z
      replace hc_z := rn_aload_n (am_cur_of (i := (156, 1, .aload_n 0, (0, 0, 0), 0)) (by decide +kernel)) g0_z hc_z
      replace hc_z := rn_callV (M' := am_m19) (o := 44) (ar := []) (rest := []) (L := lv_args 0 [.ref 44]) (am_cur_of (i := (157, 3, .invokevirtual 57, (19, 727, 3), 0)) (by decide +kernel)) rfl rfl rfl rfl hc_z
      obtain ⟨r4128_z, h4129_z, q4130_z, hc_z⟩ := hc_z
      have vo := rn_void rfl q4130_z
      subst vo
      replace hm_z := rn_ifT (am_cur_of (i := (221, 3, .ifCond .ne 5, (115, 0, 0), 0)) (by decide +kernel)) (by decide) hm_z
      replace hm_z := rn_aload_n (am_cur_of (i := (226, 1, .aload_n 0, (0, 0, 0), 0)) (by decide +kernel)) g0m hm_z
      replace hm_z := rn_iload_n (am_cur_of (i := (227, 1, .iload_n 1, (0, 0, 0), 0)) (by decide +kernel)) g1m hm_z
      replace hm_z := rn_callV (M' := am_m173) (o := 164) (ar := [.int 10]) (rest := []) (L := lv_args 0 [.ref 164, .int 10]) (am_cur_of (i := (228, 3, .invokevirtual 298, (173, 1723, 3), 0)) (by decide +kernel)) rfl rfl rfl rfl hm_z
      obtain ⟨r4131_z, h4132_z, q4133_z, hm_z⟩ := hm_z
      obtain ⟨rfl, eh⟩ := rs_wf (np := np) (show rg_v (am_up g 164 44 (.int (kn + 1))) 164 41 = np from z2_z) q4133_z
      subst eh
      replace hm_z : rn _ _ _ _ [] _ _ _ := hm_z
      replace hm_z := rn_aload_n (am_cur_of (i := (231, 1, .aload_n 0, (0, 0, 0), 0)) (by decide +kernel)) g0m hm_z
      replace hm_z := rn_iconst (w := 1) (am_cur_of (i := (232, 1, .iconst 1, (0, 0, 0), 0)) (by decide +kernel)) (by decide) hm_z
      replace hm_z := rn_put (am_cur_of (i := (233, 3, .putfield 315, (12, 45, 1429), 0)) (by decide +kernel)) (by decide +kernel) hm_z
      replace hm_z := rn_aload_n (am_cur_of (i := (236, 1, .aload_n 0, (0, 0, 0), 0)) (by decide +kernel)) g0m hm_z
      replace hm_z := rn_iload_n (am_cur_of (i := (237, 1, .iload_n 1, (0, 0, 0), 0)) (by decide +kernel)) g1m hm_z
      replace hm_z := rn_callS (M' := am_m180) (ar := [.int 10]) (rest := [.ref 164]) (L := lv_args 0 [.int 10]) (am_cur_of (i := (238, 3, .invokestatic 283, (180, 1751, 3), 0)) (by decide +kernel)) rfl rfl rfl rfl hm_z
      obtain ⟨r4134_z, h4135_z, q4136_z, hm_z⟩ := hm_z
      obtain ⟨rfl, yq4136_z⟩ := rs_rankM q4136_z
      replace yq4136_z := yq4136_z.symm
      subst yq4136_z
      rw [show rk_M 10 = 4 by decide] at hm_z
      replace hm_z : rn _ _ _ _ [.int 4, .ref 164] _ _ _ := hm_z
      replace hm_z := rn_iconst (w := 3) (am_cur_of (i := (241, 1, .iconst 3, (0, 0, 0), 0)) (by decide +kernel)) (by decide) hm_z
      replace hm_z := rn_cmpT (am_cur_of (i := (242, 3, .if_icmp .ge 7, (128, 0, 0), 0)) (by decide +kernel)) (by decide) hm_z
      replace hm_z := rn_iconst (w := 0) (am_cur_of (i := (249, 1, .iconst 0, (0, 0, 0), 0)) (by decide +kernel)) (by decide) hm_z
      replace hm_z := rn_put (am_cur_of (i := (250, 3, .putfield 302, (12, 46, 1430), 0)) (by decide +kernel)) (by decide +kernel) hm_z
      replace hm_z := rn_aload_n (am_cur_of (i := (253, 1, .aload_n 0, (0, 0, 0), 0)) (by decide +kernel)) g0m hm_z
      replace hm_z := rn_callV (M' := am_m151) (o := 164) (ar := []) (rest := []) (L := lv_args 0 [.ref 164]) (am_cur_of (i := (254, 3, .invokevirtual 191, (151, 1636, 3), 0)) (by decide +kernel)) rfl rfl rfl rfl hm_z
      obtain ⟨r4137_z, h4138_z, q4139_z, hm_z⟩ := hm_z
      have vo := rn_void rfl q4139_z
      subst vo
      have FC : ab_Fr (rz_MC2.drop 1) h (am_up (am_up (am_up h 11 0 (.int (kn + 1))) 47 np.toNatClampNeg (.int 11)) 44 13 (.int (np + 1))) := ab_Fr_up rfl (ab_Fr_up rfl (ab_Fr_up rfl ab_Fr_refl))
      have FC' : ab_Fr rz_MC2 h (am_up (am_up (am_up h 11 0 (.int (kn + 1))) 47 np.toNatClampNeg (.int 11)) 44 13 (.int (np + 1))) := ab_Fr_sub (by decide) FC
      have FM : ab_Fr rz_MM g (am_up (am_up (am_up (am_up (am_up g 164 44 (.int (kn + 1))) 184 np.toNatClampNeg (.int 10)) 164 41 (.int (np + 1))) 164 45 (.int 1)) 164 46 (.int 0)) := ab_Fr_up rfl (ab_Fr_up rfl (ab_Fr_up rfl (ab_Fr_up rfl (ab_Fr_up rfl ab_Fr_refl))))
      obtain ⟨-, -, x2_z, p2_z, R2, le2_z, t5_z, t6_z⟩ := pr_tok (rz_q02 (rq_0 Rk) FC' FM) q4130_z q4139_z
      have A2 := rp_x (by decide) (rz_p2 A FC' FM ((show rg_v (am_up (am_up (am_up h 11 0 (.int (kn + 1))) 47 np.toNatClampNeg (.int 11)) 44 13 (.int (np + 1))) 11 0 = kn + 1 from (show rg_v (am_up (am_up (am_up h 11 0 (.int (kn + 1))) 47 np.toNatClampNeg (.int 11)) 44 13 (.int (np + 1))) 11 0 = kn + 1 from rfl)).trans (show rg_v (am_up (am_up (am_up (am_up (am_up g 164 44 (.int (kn + 1))) 184 np.toNatClampNeg (.int 10)) 164 41 (.int (np + 1))) 164 45 (.int 1)) 164 46 (.int 0)) 164 44 = kn + 1 from (show rg_v (am_up (am_up (am_up (am_up (am_up g 164 44 (.int (kn + 1))) 184 np.toNatClampNeg (.int 10)) 164 41 (.int (np + 1))) 164 45 (.int 1)) 164 46 (.int 0)) 164 44 = kn + 1 from rfl)).symm) (by rw [show rg_v (am_up (am_up (am_up h 11 0 (.int (kn + 1))) 47 np.toNatClampNeg (.int 11)) 44 13 (.int (np + 1))) 11 0 = kn + 1 from (show rg_v (am_up (am_up (am_up h 11 0 (.int (kn + 1))) 47 np.toNatClampNeg (.int 11)) 44 13 (.int (np + 1))) 11 0 = kn + 1 from rfl)]; omega) (by rw [show rg_v (am_up (am_up (am_up h 11 0 (.int (kn + 1))) 47 np.toNatClampNeg (.int 11)) 44 13 (.int (np + 1))) 11 0 = kn + 1 from (show rg_v (am_up (am_up (am_up h 11 0 (.int (kn + 1))) 47 np.toNatClampNeg (.int 11)) 44 13 (.int (np + 1))) 11 0 = kn + 1 from rfl)]; omega)) (rx_C_f t5_z) (rx_M_f t6_z)
      have B2 := rp_tk (rz_t2 B FC FM) (rg_v_fr t5_z (by decide)) (fun k => rg_v_fr t6_z (rg_v_in (by decide) k)) (rx_M_f t6_z)
      have Z2 : rs 2 (am_up (am_up (am_up h 11 0 (.int (kn + 1))) 47 np.toNatClampNeg (.int 11)) 44 13 (.int (np + 1))) (am_up (am_up (am_up (am_up (am_up g 164 44 (.int (kn + 1))) 184 np.toNatClampNeg (.int 10)) 164 41 (.int (np + 1))) 164 45 (.int 1)) 164 46 (.int 0)) := rs_push (o := 11) (k := 10) (np := np) (op := op) Zk (by unfold rs_o; decide) z1_z z4_z (show rg_v (am_up (am_up (am_up h 11 0 (.int (kn + 1))) 47 np.toNatClampNeg (.int 11)) 44 13 (.int (np + 1))) 44 13 = np + 1 from (show rg_v (am_up (am_up (am_up h 11 0 (.int (kn + 1))) 47 np.toNatClampNeg (.int 11)) 44 13 (.int (np + 1))) 44 13 = np + 1 from rfl)) (show rg_v (am_up (am_up (am_up (am_up (am_up g 164 44 (.int (kn + 1))) 184 np.toNatClampNeg (.int 10)) 164 41 (.int (np + 1))) 164 45 (.int 1)) 164 46 (.int 0)) 164 41 = np + 1 from (show rg_v (am_up (am_up (am_up (am_up (am_up g 164 44 (.int (kn + 1))) 184 np.toNatClampNeg (.int 10)) 164 41 (.int (np + 1))) 164 45 (.int 1)) 164 46 (.int 0)) 164 41 = np + 1 from rfl)) (fun i hi_z => (show rg_v (am_up (am_up (am_up h 11 0 (.int (kn + 1))) 47 np.toNatClampNeg (.int 11)) 44 13 (.int (np + 1))) 47 i = rg_v h 47 i from rg_v_other (h := h) (o := 47) (k := np.toNatClampNeg) (v := .int 11) (by omega))) (show rg_v (am_up (am_up (am_up h 11 0 (.int (kn + 1))) 47 np.toNatClampNeg (.int 11)) 44 13 (.int (np + 1))) 47 np.toNatClampNeg = 11 from rg_v_self (h := h) (o := 47) (k := np.toNatClampNeg)) (fun i hi_z => (show rg_v (am_up (am_up (am_up (am_up (am_up g 164 44 (.int (kn + 1))) 184 np.toNatClampNeg (.int 10)) 164 41 (.int (np + 1))) 164 45 (.int 1)) 164 46 (.int 0)) 184 i = rg_v g 184 i from rg_v_other (h := g) (o := 184) (k := np.toNatClampNeg) (v := .int 10) (by omega))) (show rg_v (am_up (am_up (am_up (am_up (am_up g 164 44 (.int (kn + 1))) 184 np.toNatClampNeg (.int 10)) 164 41 (.int (np + 1))) 164 45 (.int 1)) 164 46 (.int 0)) 184 np.toNatClampNeg = 10 from rg_v_self (h := g) (o := 184) (k := np.toNatClampNeg)) (show (rg_v h 11 0).toInt ≤ 64 by rw [ekn]; exact nk3_z) (Or.inl ⟨by decide, (show rg_v (am_up (am_up (am_up h 11 0 (.int (kn + 1))) 47 np.toNatClampNeg (.int 11)) 44 13 (.int (np + 1))) 44 14 = op from (show rg_v (am_up (am_up (am_up h 11 0 (.int (kn + 1))) 47 np.toNatClampNeg (.int 11)) 44 13 (.int (np + 1))) 44 14 = op from z4_z)), (show rg_v (am_up (am_up (am_up (am_up (am_up g 164 44 (.int (kn + 1))) 184 np.toNatClampNeg (.int 10)) 164 41 (.int (np + 1))) 164 45 (.int 1)) 164 46 (.int 0)) 164 43 = op from (show rg_v (am_up (am_up (am_up (am_up (am_up g 164 44 (.int (kn + 1))) 184 np.toNatClampNeg (.int 10)) 164 41 (.int (np + 1))) 164 45 (.int 1)) 164 46 (.int 0)) 164 43 = op from z5_z)), (show (rg_v (am_up (am_up (am_up h 11 0 (.int (kn + 1))) 47 np.toNatClampNeg (.int 11)) 44 13 (.int (np + 1))) 11 0).toInt = (rg_v h 11 0).toInt + 1 by rw [(show rg_v (am_up (am_up (am_up h 11 0 (.int (kn + 1))) 47 np.toNatClampNeg (.int 11)) 44 13 (.int (np + 1))) 11 0 = kn + 1 from (show rg_v (am_up (am_up (am_up h 11 0 (.int (kn + 1))) 47 np.toNatClampNeg (.int 11)) 44 13 (.int (np + 1))) 11 0 = kn + 1 from rfl)), ekn]; exact e9_z)⟩)
      replace Z2 := rs_fr (by decide) Z2 t5_z t6_z
      have e45_z : rg_v h4138_z 164 45 = 1 := (rg_v_fr t6_z (by decide)).trans (show rg_v (am_up (am_up (am_up (am_up (am_up g 164 44 (.int (kn + 1))) 184 np.toNatClampNeg (.int 10)) 164 41 (.int (np + 1))) 164 45 (.int 1)) 164 46 (.int 0)) 164 45 = 1 from (show rg_v (am_up (am_up (am_up (am_up (am_up g 164 44 (.int (kn + 1))) 184 np.toNatClampNeg (.int 10)) 164 41 (.int (np + 1))) 164 45 (.int 1)) 164 46 (.int 0)) 164 45 = 1 from rfl))
      have e46_z : rg_v h4138_z 164 46 = 0 := (rg_v_fr t6_z (by decide)).trans (show rg_v (am_up (am_up (am_up (am_up (am_up g 164 44 (.int (kn + 1))) 184 np.toNatClampNeg (.int 10)) 164 41 (.int (np + 1))) 164 45 (.int 1)) 164 46 (.int 0)) 164 46 = 0 from (show rg_v (am_up (am_up (am_up (am_up (am_up g 164 44 (.int (kn + 1))) 184 np.toNatClampNeg (.int 10)) 164 41 (.int (np + 1))) 164 45 (.int 1)) 164 46 (.int 0)) 164 46 = 0 from rfl))
      replace hm_z : rn _ _ _ _ [] _ _ _ := hm_z
      replace hc_z : rn _ _ _ _ [] _ _ _ := hc_z
      replace hc_z := rn_iload_n (am_cur_of (i := (160, 1, .iload_n 1, (0, 0, 0), 0)) (by decide +kernel)) g1_z hc_z
      replace hc_z := rn_iconst (w := 3) (am_cur_of (i := (161, 1, .iconst 3, (0, 0, 0), 0)) (by decide +kernel)) (by decide) hc_z
      replace hc_z := rn_cmpF (am_cur_of (i := (162, 3, .if_icmp .eq 8, (89, 0, 0), 0)) (by decide +kernel)) (by decide) hc_z
      replace hc_z := rn_iload_n (am_cur_of (i := (165, 1, .iload_n 1, (0, 0, 0), 0)) (by decide +kernel)) g1_z hc_z
      replace hc_z := rn_iconst (w := 4) (am_cur_of (i := (166, 1, .iconst 4, (0, 0, 0), 0)) (by decide +kernel)) (by decide) hc_z
      replace hc_z := rn_cmpT (am_cur_of (i := (167, 3, .if_icmp .ne 7, (91, 0, 0), 0)) (by decide +kernel)) (by decide) hc_z
      replace hc_z := rn_iconst (w := 1) (am_cur_of (i := (174, 1, .iconst 1, (0, 0, 0), 0)) (by decide +kernel)) (by decide) hc_z
      replace hc_z := rn_iret (am_cur_of (i := (175, 1, .ireturn, (0, 0, 0), 0)) (by decide +kernel)) hc_z
      obtain ⟨e4140_z, e4141_z⟩ := hc_z
      replace hm_z := rn_iconst (w := 1) (am_cur_of (i := (257, 1, .iconst 1, (0, 0, 0), 0)) (by decide +kernel)) (by decide) hm_z
      replace hm_z := rn_iret (am_cur_of (i := (258, 1, .ireturn, (0, 0, 0), 0)) (by decide +kernel)) hm_z
      obtain ⟨e4142_z, e4143_z⟩ := hm_z
      subst e4140_z e4141_z e4142_z e4143_z
      exact Or.inl ⟨_, x2_z, p2_z, rfl, rfl, R2, le2_z, A2, B2, Z2, Or.inr (Or.inl ⟨rfl, e45_z, e46_z⟩)⟩
theorem rj_t12_2 {T : Nat → Int32} {S x p : Int32} {n n' : Nat} {h h' g g' : am_H} {r r' : Option Value} {ls ls2_z : am_L} (R : rq T S x p 2 h g) (A : rp 2 h g) (B : rp_t h g) (Z : rs 2 h g) (g0_z : am_get ls 0 = some (.ref 44)) (g1_z : am_get ls 1 = some (.int 12)) (g0m : am_get ls2_z 0 = some (.ref 164)) (g1m : am_get ls2_z 1 = some (.int 11)) (hc_z : rn n am_m44 76 ls [] h r h') (hm_z : rn n' am_m178 110 ls2_z [] g r' g') : rv_Q T S x p 2 h' g' r r' := by
  have Rk := R
  have Zk := Z
  obtain ⟨⟨c1_z, c2_z, c3_z, c4_z, c5_z, c6_z, c7_z, c8_z⟩, ⟨m2_z, m3_z, m4_z, m5_z, m6_z, m7_z, m8_z⟩, R3, R4, R5, R6, R7, R8, R9, R10⟩ := (R : rq T S x p 2 h g)
  obtain ⟨np, op, z1_z, z2_z, z3_z, z4_z, z5_z, z6_z, z7_z, z8_z, z9_z, z10_z⟩ := (Z : rs 2 h g)
  obtain ⟨nk1_z, nk2_z, nk3_z⟩ := A.2.2.2.2.2.1
  replace nk1_z : rg_v h 11 0 = rg_v g 164 44 := nk1_z
  replace nk2_z : 0 ≤ (rg_v h 11 0).toInt := nk2_z
  replace nk3_z : (rg_v h 11 0).toInt ≤ 64 := nk3_z
  replace z8_z : np.toInt ≤ (rg_v h 11 0).toInt + op.toInt := z8_z
  obtain ⟨kn, ekn⟩ : ∃ v, rg_v h 11 0 = v := ⟨_, rfl⟩
  rw [ekn] at nk1_z nk2_z nk3_z z8_z
  have e9_z := rt_c1 (x := kn) (by omega) (by omega)
  replace hc_z := rn_aload_n (am_cur_of (i := (147, 1, .aload_n 0, (0, 0, 0), 0)) (by decide +kernel)) g0_z hc_z
  replace hc_z := rn_callV (M' := am_m49) (o := 44) (ar := []) (rest := []) (L := lv_args 0 [.ref 44]) (am_cur_of (i := (148, 3, .invokevirtual 270, (49, 852, 3), 0)) (by decide +kernel)) rfl rfl rfl rfl hc_z
  obtain ⟨r4144_z, h4145_z, q4146_z, hc_z⟩ := hc_z
  rcases rs_ck2 R4 (show h 44 6 = .ref 2 from R3) q4146_z with ⟨ge, rfl, eh⟩ | ⟨lt, rfl, eh⟩
  · subst eh
    replace ge : 64 ≤ kn.toInt := by rw [← ekn]; exact ge
    replace hc_z : rn _ _ _ _ [] _ _ _ := hc_z
    have K := rs_stick (w := 2) (q := p) (a := 44) (by decide) (by decide) rfl (by decide) rfl (show rg_v (am_up (am_up h 44 1 (.int 2)) 44 2 (.int (rg_v h 44 9))) 44 2 = p from R5) hc_z
    replace hm_z := rn_aload_n (am_cur_of (i := (217, 1, .aload_n 0, (0, 0, 0), 0)) (by decide +kernel)) g0m hm_z
    replace hm_z := rn_callV (M' := am_m175) (o := 164) (ar := []) (rest := []) (L := lv_args 0 [.ref 164]) (am_cur_of (i := (218, 3, .invokevirtual 309, (175, 1731, 3), 0)) (by decide +kernel)) rfl rfl rfl rfl hm_z
    obtain ⟨r4147_z, h4148_z, q4149_z, hm_z⟩ := hm_z
    rcases rs_ic q4149_z with ⟨i1_z, rfl, i3_z⟩ | ⟨i1_z, -⟩
    · subst i3_z
      replace hm_z : rn _ _ _ _ [.int 0] _ _ _ := hm_z
      replace hm_z := rn_ifF (am_cur_of (i := (221, 3, .ifCond .ne 5, (115, 0, 0), 0)) (by decide +kernel)) (by decide) hm_z
      replace hm_z := rn_iconst (w := 0) (am_cur_of (i := (224, 1, .iconst 0, (0, 0, 0), 0)) (by decide +kernel)) (by decide) hm_z
      replace hm_z := rn_iret (am_cur_of (i := (225, 1, .ireturn, (0, 0, 0), 0)) (by decide +kernel)) hm_z
      obtain ⟨e4150_z, e4151_z⟩ := hm_z
      subst e4150_z e4151_z
      exact (Or.inr ⟨rfl, 2, by decide, K.1, K.2, rfl, R6⟩)
    · exact absurd (Int32.toInt_inj.mp (show (rg_v g 164 44).toInt = (64 : Int32).toInt from by rw [show rg_v g 164 44 = kn from nk1_z.symm, show (64 : Int32).toInt = 64 by decide]; omega)) i1_z
  · subst eh
    replace lt : kn.toInt < 64 := by rw [← ekn]; exact lt
    rw [show rg_v h 11 0 = kn from ekn] at hc_z
    replace hm_z := rn_aload_n (am_cur_of (i := (217, 1, .aload_n 0, (0, 0, 0), 0)) (by decide +kernel)) g0m hm_z
    replace hm_z := rn_callV (M' := am_m175) (o := 164) (ar := []) (rest := []) (L := lv_args 0 [.ref 164]) (am_cur_of (i := (218, 3, .invokevirtual 309, (175, 1731, 3), 0)) (by decide +kernel)) rfl rfl rfl rfl hm_z
    obtain ⟨r4152_z, h4153_z, q4154_z, hm_z⟩ := hm_z
    rcases rs_ic q4154_z with ⟨i1_z, -⟩ | ⟨i1_z, rfl, i3_z⟩
    · exfalso
      have zz := congrArg Int32.toInt i1_z
      rw [show rg_v g 164 44 = kn from nk1_z.symm, show (64 : Int32).toInt = 64 by decide] at zz
      omega
    · subst i3_z
      rw [show rg_v g 164 44 = kn from nk1_z.symm] at hm_z
      replace hm_z : rn _ _ _ _ [.int 1] _ _ _ := hm_z
      replace hc_z : rn _ _ _ _ [] _ _ _ := hc_z
      replace hc_z := rn_aload_n (am_cur_of (i := (151, 1, .aload_n 0, (0, 0, 0), 0)) (by decide +kernel)) g0_z hc_z
      replace hc_z := rn_iload_n (am_cur_of (i := (152, 1, .iload_n 1, (0, 0, 0), 0)) (by decide +kernel)) g1_z hc_z
      replace hc_z := rn_callV (M' := am_m50) (o := 44) (ar := [.int 12]) (rest := []) (L := lv_args 0 [.ref 44, .int 12]) (am_cur_of (i := (153, 3, .invokevirtual 273, (50, 856, 3), 0)) (by decide +kernel)) rfl rfl rfl rfl hc_z
      obtain ⟨r4155_z, h4156_z, q4157_z, hc_z⟩ := hc_z
      obtain ⟨rfl, eh⟩ := rs_hold (np := np) (show rg_v (am_up h 11 0 (.int (kn + 1))) 44 13 = np from z1_z) (by omega) q4157_z
      subst eh
      replace hc_z : rn _ _ _ _ [] _ _ _ := hc_z
      replace hc_z := rn_aload_n (am_cur_of (i := (156, 1, .aload_n 0, (0, 0, 0), 0)) (by decide +kernel)) g0_z hc_z
      replace hc_z := rn_callV (M' := am_m19) (o := 44) (ar := []) (rest := []) (L := lv_args 0 [.ref 44]) (am_cur_of (i := (157, 3, .invokevirtual 57, (19, 727, 3), 0)) (by decide +kernel)) rfl rfl rfl rfl hc_z
      obtain ⟨r4158_z, h4159_z, q4160_z, hc_z⟩ := hc_z
      have vo := rn_void rfl q4160_z
      subst vo
      replace hm_z := rn_ifT (am_cur_of (i := (221, 3, .ifCond .ne 5, (115, 0, 0), 0)) (by decide +kernel)) (by decide) hm_z
      replace hm_z := rn_aload_n (am_cur_of (i := (226, 1, .aload_n 0, (0, 0, 0), 0)) (by decide +kernel)) g0m hm_z
      replace hm_z := rn_iload_n (am_cur_of (i := (227, 1, .iload_n 1, (0, 0, 0), 0)) (by decide +kernel)) g1m hm_z
      replace hm_z := rn_callV (M' := am_m173) (o := 164) (ar := [.int 11]) (rest := []) (L := lv_args 0 [.ref 164, .int 11]) (am_cur_of (i := (228, 3, .invokevirtual 298, (173, 1723, 3), 0)) (by decide +kernel)) rfl rfl rfl rfl hm_z
      obtain ⟨r4161_z, h4162_z, q4163_z, hm_z⟩ := hm_z
      obtain ⟨rfl, eh⟩ := rs_wf (np := np) (show rg_v (am_up g 164 44 (.int (kn + 1))) 164 41 = np from z2_z) q4163_z
      subst eh
      replace hm_z : rn _ _ _ _ [] _ _ _ := hm_z
      replace hm_z := rn_aload_n (am_cur_of (i := (231, 1, .aload_n 0, (0, 0, 0), 0)) (by decide +kernel)) g0m hm_z
      replace hm_z := rn_iconst (w := 1) (am_cur_of (i := (232, 1, .iconst 1, (0, 0, 0), 0)) (by decide +kernel)) (by decide) hm_z
      replace hm_z := rn_put (am_cur_of (i := (233, 3, .putfield 315, (12, 45, 1429), 0)) (by decide +kernel)) (by decide +kernel) hm_z
      replace hm_z := rn_aload_n (am_cur_of (i := (236, 1, .aload_n 0, (0, 0, 0), 0)) (by decide +kernel)) g0m hm_z
      replace hm_z := rn_iload_n (am_cur_of (i := (237, 1, .iload_n 1, (0, 0, 0), 0)) (by decide +kernel)) g1m hm_z
      replace hm_z := rn_callS (M' := am_m180) (ar := [.int 11]) (rest := [.ref 164]) (L := lv_args 0 [.int 11]) (am_cur_of (i := (238, 3, .invokestatic 283, (180, 1751, 3), 0)) (by decide +kernel)) rfl rfl rfl rfl hm_z
      obtain ⟨r4164_z, h4165_z, q4166_z, hm_z⟩ := hm_z
      obtain ⟨rfl, yq4166_z⟩ := rs_rankM q4166_z
      replace yq4166_z := yq4166_z.symm
      subst yq4166_z
      rw [show rk_M 11 = 5 by decide] at hm_z
      replace hm_z : rn _ _ _ _ [.int 5, .ref 164] _ _ _ := hm_z
      replace hm_z := rn_iconst (w := 3) (am_cur_of (i := (241, 1, .iconst 3, (0, 0, 0), 0)) (by decide +kernel)) (by decide) hm_z
      replace hm_z := rn_cmpT (am_cur_of (i := (242, 3, .if_icmp .ge 7, (128, 0, 0), 0)) (by decide +kernel)) (by decide) hm_z
      replace hm_z := rn_iconst (w := 0) (am_cur_of (i := (249, 1, .iconst 0, (0, 0, 0), 0)) (by decide +kernel)) (by decide) hm_z
      replace hm_z := rn_put (am_cur_of (i := (250, 3, .putfield 302, (12, 46, 1430), 0)) (by decide +kernel)) (by decide +kernel) hm_z
      replace hm_z := rn_aload_n (am_cur_of (i := (253, 1, .aload_n 0, (0, 0, 0), 0)) (by decide +kernel)) g0m hm_z
      replace hm_z := rn_callV (M' := am_m151) (o := 164) (ar := []) (rest := []) (L := lv_args 0 [.ref 164]) (am_cur_of (i := (254, 3, .invokevirtual 191, (151, 1636, 3), 0)) (by decide +kernel)) rfl rfl rfl rfl hm_z
      obtain ⟨r4167_z, h4168_z, q4169_z, hm_z⟩ := hm_z
      have vo := rn_void rfl q4169_z
      subst vo
      have FC : ab_Fr (rz_MC2.drop 1) h (am_up (am_up (am_up h 11 0 (.int (kn + 1))) 47 np.toNatClampNeg (.int 12)) 44 13 (.int (np + 1))) := ab_Fr_up rfl (ab_Fr_up rfl (ab_Fr_up rfl ab_Fr_refl))
      have FC' : ab_Fr rz_MC2 h (am_up (am_up (am_up h 11 0 (.int (kn + 1))) 47 np.toNatClampNeg (.int 12)) 44 13 (.int (np + 1))) := ab_Fr_sub (by decide) FC
      have FM : ab_Fr rz_MM g (am_up (am_up (am_up (am_up (am_up g 164 44 (.int (kn + 1))) 184 np.toNatClampNeg (.int 11)) 164 41 (.int (np + 1))) 164 45 (.int 1)) 164 46 (.int 0)) := ab_Fr_up rfl (ab_Fr_up rfl (ab_Fr_up rfl (ab_Fr_up rfl (ab_Fr_up rfl ab_Fr_refl))))
      obtain ⟨-, -, x2_z, p2_z, R2, le2_z, t5_z, t6_z⟩ := pr_tok (rz_q02 (rq_0 Rk) FC' FM) q4160_z q4169_z
      have A2 := rp_x (by decide) (rz_p2 A FC' FM ((show rg_v (am_up (am_up (am_up h 11 0 (.int (kn + 1))) 47 np.toNatClampNeg (.int 12)) 44 13 (.int (np + 1))) 11 0 = kn + 1 from (show rg_v (am_up (am_up (am_up h 11 0 (.int (kn + 1))) 47 np.toNatClampNeg (.int 12)) 44 13 (.int (np + 1))) 11 0 = kn + 1 from rfl)).trans (show rg_v (am_up (am_up (am_up (am_up (am_up g 164 44 (.int (kn + 1))) 184 np.toNatClampNeg (.int 11)) 164 41 (.int (np + 1))) 164 45 (.int 1)) 164 46 (.int 0)) 164 44 = kn + 1 from (show rg_v (am_up (am_up (am_up (am_up (am_up g 164 44 (.int (kn + 1))) 184 np.toNatClampNeg (.int 11)) 164 41 (.int (np + 1))) 164 45 (.int 1)) 164 46 (.int 0)) 164 44 = kn + 1 from rfl)).symm) (by rw [show rg_v (am_up (am_up (am_up h 11 0 (.int (kn + 1))) 47 np.toNatClampNeg (.int 12)) 44 13 (.int (np + 1))) 11 0 = kn + 1 from (show rg_v (am_up (am_up (am_up h 11 0 (.int (kn + 1))) 47 np.toNatClampNeg (.int 12)) 44 13 (.int (np + 1))) 11 0 = kn + 1 from rfl)]; omega) (by rw [show rg_v (am_up (am_up (am_up h 11 0 (.int (kn + 1))) 47 np.toNatClampNeg (.int 12)) 44 13 (.int (np + 1))) 11 0 = kn + 1 from (show rg_v (am_up (am_up (am_up h 11 0 (.int (kn + 1))) 47 np.toNatClampNeg (.int 12)) 44 13 (.int (np + 1))) 11 0 = kn + 1 from rfl)]; omega)) (rx_C_f t5_z) (rx_M_f t6_z)
      have B2 := rp_tk (rz_t2 B FC FM) (rg_v_fr t5_z (by decide)) (fun k => rg_v_fr t6_z (rg_v_in (by decide) k)) (rx_M_f t6_z)
      have Z2 : rs 2 (am_up (am_up (am_up h 11 0 (.int (kn + 1))) 47 np.toNatClampNeg (.int 12)) 44 13 (.int (np + 1))) (am_up (am_up (am_up (am_up (am_up g 164 44 (.int (kn + 1))) 184 np.toNatClampNeg (.int 11)) 164 41 (.int (np + 1))) 164 45 (.int 1)) 164 46 (.int 0)) := rs_push (o := 12) (k := 11) (np := np) (op := op) Zk (by unfold rs_o; decide) z1_z z4_z (show rg_v (am_up (am_up (am_up h 11 0 (.int (kn + 1))) 47 np.toNatClampNeg (.int 12)) 44 13 (.int (np + 1))) 44 13 = np + 1 from (show rg_v (am_up (am_up (am_up h 11 0 (.int (kn + 1))) 47 np.toNatClampNeg (.int 12)) 44 13 (.int (np + 1))) 44 13 = np + 1 from rfl)) (show rg_v (am_up (am_up (am_up (am_up (am_up g 164 44 (.int (kn + 1))) 184 np.toNatClampNeg (.int 11)) 164 41 (.int (np + 1))) 164 45 (.int 1)) 164 46 (.int 0)) 164 41 = np + 1 from (show rg_v (am_up (am_up (am_up (am_up (am_up g 164 44 (.int (kn + 1))) 184 np.toNatClampNeg (.int 11)) 164 41 (.int (np + 1))) 164 45 (.int 1)) 164 46 (.int 0)) 164 41 = np + 1 from rfl)) (fun i hi_z => (show rg_v (am_up (am_up (am_up h 11 0 (.int (kn + 1))) 47 np.toNatClampNeg (.int 12)) 44 13 (.int (np + 1))) 47 i = rg_v h 47 i from rg_v_other (h := h) (o := 47) (k := np.toNatClampNeg) (v := .int 12) (by omega))) (show rg_v (am_up (am_up (am_up h 11 0 (.int (kn + 1))) 47 np.toNatClampNeg (.int 12)) 44 13 (.int (np + 1))) 47 np.toNatClampNeg = 12 from rg_v_self (h := h) (o := 47) (k := np.toNatClampNeg)) (fun i hi_z => (show rg_v (am_up (am_up (am_up (am_up (am_up g 164 44 (.int (kn + 1))) 184 np.toNatClampNeg (.int 11)) 164 41 (.int (np + 1))) 164 45 (.int 1)) 164 46 (.int 0)) 184 i = rg_v g 184 i from rg_v_other (h := g) (o := 184) (k := np.toNatClampNeg) (v := .int 11) (by omega))) (show rg_v (am_up (am_up (am_up (am_up (am_up g 164 44 (.int (kn + 1))) 184 np.toNatClampNeg (.int 11)) 164 41 (.int (np + 1))) 164 45 (.int 1)) 164 46 (.int 0)) 184 np.toNatClampNeg = 11 from rg_v_self (h := g) (o := 184) (k := np.toNatClampNeg)) (show (rg_v h 11 0).toInt ≤ 64 by rw [ekn]; exact nk3_z) (Or.inl ⟨by decide, (show rg_v (am_up (am_up (am_up h 11 0 (.int (kn + 1))) 47 np.toNatClampNeg (.int 12)) 44 13 (.int (np + 1))) 44 14 = op from (show rg_v (am_up (am_up (am_up h 11 0 (.int (kn + 1))) 47 np.toNatClampNeg (.int 12)) 44 13 (.int (np + 1))) 44 14 = op from z4_z)), (show rg_v (am_up (am_up (am_up (am_up (am_up g 164 44 (.int (kn + 1))) 184 np.toNatClampNeg (.int 11)) 164 41 (.int (np + 1))) 164 45 (.int 1)) 164 46 (.int 0)) 164 43 = op from (show rg_v (am_up (am_up (am_up (am_up (am_up g 164 44 (.int (kn + 1))) 184 np.toNatClampNeg (.int 11)) 164 41 (.int (np + 1))) 164 45 (.int 1)) 164 46 (.int 0)) 164 43 = op from z5_z)), (show (rg_v (am_up (am_up (am_up h 11 0 (.int (kn + 1))) 47 np.toNatClampNeg (.int 12)) 44 13 (.int (np + 1))) 11 0).toInt = (rg_v h 11 0).toInt + 1 by rw [(show rg_v (am_up (am_up (am_up h 11 0 (.int (kn + 1))) 47 np.toNatClampNeg (.int 12)) 44 13 (.int (np + 1))) 11 0 = kn + 1 from (show rg_v (am_up (am_up (am_up h 11 0 (.int (kn + 1))) 47 np.toNatClampNeg (.int 12)) 44 13 (.int (np + 1))) 11 0 = kn + 1 from rfl)), ekn]; exact e9_z)⟩)
      replace Z2 := rs_fr (by decide) Z2 t5_z t6_z
      have e45_z : rg_v h4168_z 164 45 = 1 := (rg_v_fr t6_z (by decide)).trans (show rg_v (am_up (am_up (am_up (am_up (am_up g 164 44 (.int (kn + 1))) 184 np.toNatClampNeg (.int 11)) 164 41 (.int (np + 1))) 164 45 (.int 1)) 164 46 (.int 0)) 164 45 = 1 from (show rg_v (am_up (am_up (am_up (am_up (am_up g 164 44 (.int (kn + 1))) 184 np.toNatClampNeg (.int 11)) 164 41 (.int (np + 1))) 164 45 (.int 1)) 164 46 (.int 0)) 164 45 = 1 from rfl))
      have e46_z : rg_v h4168_z 164 46 = 0 := (rg_v_fr t6_z (by decide)).trans (show rg_v (am_up (am_up (am_up (am_up (am_up g 164 44 (.int (kn + 1))) 184 np.toNatClampNeg (.int 11)) 164 41 (.int (np + 1))) 164 45 (.int 1)) 164 46 (.int 0)) 164 46 = 0 from (show rg_v (am_up (am_up (am_up (am_up (am_up g 164 44 (.int (kn + 1))) 184 np.toNatClampNeg (.int 11)) 164 41 (.int (np + 1))) 164 45 (.int 1)) 164 46 (.int 0)) 164 46 = 0 from rfl))
      replace hm_z : rn _ _ _ _ [] _ _ _ := hm_z
      replace hc_z : rn _ _ _ _ [] _ _ _ := hc_z
      replace hc_z := rn_iload_n (am_cur_of (i := (160, 1, .iload_n 1, (0, 0, 0), 0)) (by decide +kernel)) g1_z hc_z
      replace hc_z := rn_iconst (w := 3) (am_cur_of (i := (161, 1, .iconst 3, (0, 0, 0), 0)) (by decide +kernel)) (by decide) hc_z
      replace hc_z := rn_cmpF (am_cur_of (i := (162, 3, .if_icmp .eq 8, (89, 0, 0), 0)) (by decide +kernel)) (by decide) hc_z
      replace hc_z := rn_iload_n (am_cur_of (i := (165, 1, .iload_n 1, (0, 0, 0), 0)) (by decide +kernel)) g1_z hc_z
      replace hc_z := rn_iconst (w := 4) (am_cur_of (i := (166, 1, .iconst 4, (0, 0, 0), 0)) (by decide +kernel)) (by decide) hc_z
      replace hc_z := rn_cmpT (am_cur_of (i := (167, 3, .if_icmp .ne 7, (91, 0, 0), 0)) (by decide +kernel)) (by decide) hc_z
      replace hc_z := rn_iconst (w := 1) (am_cur_of (i := (174, 1, .iconst 1, (0, 0, 0), 0)) (by decide +kernel)) (by decide) hc_z
      replace hc_z := rn_iret (am_cur_of (i := (175, 1, .ireturn, (0, 0, 0), 0)) (by decide +kernel)) hc_z
      obtain ⟨e4170_z, e4171_z⟩ := hc_z
      replace hm_z := rn_iconst (w := 1) (am_cur_of (i := (257, 1, .iconst 1, (0, 0, 0), 0)) (by decide +kernel)) (by decide) hm_z
      replace hm_z := rn_iret (am_cur_of (i := (258, 1, .ireturn, (0, 0, 0), 0)) (by decide +kernel)) hm_z
      obtain ⟨e4172_z, e4173_z⟩ := hm_z
      subst e4170_z e4171_z e4172_z e4173_z
      exact Or.inl ⟨_, x2_z, p2_z, rfl, rfl, R2, le2_z, A2, B2, Z2, Or.inr (Or.inl ⟨rfl, e45_z, e46_z⟩)⟩
theorem rj_t13_2 {T : Nat → Int32} {S x p : Int32} {n n' : Nat} {h h' g g' : am_H} {r r' : Option Value} {ls ls2_z : am_L} (R : rq T S x p 2 h g) (A : rp 2 h g) (B : rp_t h g) (Z : rs 2 h g) (g0_z : am_get ls 0 = some (.ref 44)) (g1_z : am_get ls 1 = some (.int 13)) (g0m : am_get ls2_z 0 = some (.ref 164)) (g1m : am_get ls2_z 1 = some (.int 12)) (hc_z : rn n am_m44 76 ls [] h r h') (hm_z : rn n' am_m178 110 ls2_z [] g r' g') : rv_Q T S x p 2 h' g' r r' := by
  have Rk := R
  have Zk := Z
  obtain ⟨⟨c1_z, c2_z, c3_z, c4_z, c5_z, c6_z, c7_z, c8_z⟩, ⟨m2_z, m3_z, m4_z, m5_z, m6_z, m7_z, m8_z⟩, R3, R4, R5, R6, R7, R8, R9, R10⟩ := (R : rq T S x p 2 h g)
  obtain ⟨np, op, z1_z, z2_z, z3_z, z4_z, z5_z, z6_z, z7_z, z8_z, z9_z, z10_z⟩ := (Z : rs 2 h g)
  obtain ⟨nk1_z, nk2_z, nk3_z⟩ := A.2.2.2.2.2.1
  replace nk1_z : rg_v h 11 0 = rg_v g 164 44 := nk1_z
  replace nk2_z : 0 ≤ (rg_v h 11 0).toInt := nk2_z
  replace nk3_z : (rg_v h 11 0).toInt ≤ 64 := nk3_z
  replace z8_z : np.toInt ≤ (rg_v h 11 0).toInt + op.toInt := z8_z
  obtain ⟨kn, ekn⟩ : ∃ v, rg_v h 11 0 = v := ⟨_, rfl⟩
  rw [ekn] at nk1_z nk2_z nk3_z z8_z
  have e9_z := rt_c1 (x := kn) (by omega) (by omega)
  replace hc_z := rn_aload_n (am_cur_of (i := (147, 1, .aload_n 0, (0, 0, 0), 0)) (by decide +kernel)) g0_z hc_z
  replace hc_z := rn_callV (M' := am_m49) (o := 44) (ar := []) (rest := []) (L := lv_args 0 [.ref 44]) (am_cur_of (i := (148, 3, .invokevirtual 270, (49, 852, 3), 0)) (by decide +kernel)) rfl rfl rfl rfl hc_z
  obtain ⟨r4174_z, h4175_z, q4176_z, hc_z⟩ := hc_z
  rcases rs_ck2 R4 (show h 44 6 = .ref 2 from R3) q4176_z with ⟨ge, rfl, eh⟩ | ⟨lt, rfl, eh⟩
  · subst eh
    replace ge : 64 ≤ kn.toInt := by rw [← ekn]; exact ge
    replace hc_z : rn _ _ _ _ [] _ _ _ := hc_z
    have K := rs_stick (w := 2) (q := p) (a := 44) (by decide) (by decide) rfl (by decide) rfl (show rg_v (am_up (am_up h 44 1 (.int 2)) 44 2 (.int (rg_v h 44 9))) 44 2 = p from R5) hc_z
    replace hm_z := rn_aload_n (am_cur_of (i := (217, 1, .aload_n 0, (0, 0, 0), 0)) (by decide +kernel)) g0m hm_z
    replace hm_z := rn_callV (M' := am_m175) (o := 164) (ar := []) (rest := []) (L := lv_args 0 [.ref 164]) (am_cur_of (i := (218, 3, .invokevirtual 309, (175, 1731, 3), 0)) (by decide +kernel)) rfl rfl rfl rfl hm_z
    obtain ⟨r4177_z, h4178_z, q4179_z, hm_z⟩ := hm_z
    rcases rs_ic q4179_z with ⟨i1_z, rfl, i3_z⟩ | ⟨i1_z, -⟩
    · subst i3_z
      replace hm_z : rn _ _ _ _ [.int 0] _ _ _ := hm_z
      replace hm_z := rn_ifF (am_cur_of (i := (221, 3, .ifCond .ne 5, (115, 0, 0), 0)) (by decide +kernel)) (by decide) hm_z
      replace hm_z := rn_iconst (w := 0) (am_cur_of (i := (224, 1, .iconst 0, (0, 0, 0), 0)) (by decide +kernel)) (by decide) hm_z
      replace hm_z := rn_iret (am_cur_of (i := (225, 1, .ireturn, (0, 0, 0), 0)) (by decide +kernel)) hm_z
      obtain ⟨e4180_z, e4181_z⟩ := hm_z
      subst e4180_z e4181_z
      exact (Or.inr ⟨rfl, 2, by decide, K.1, K.2, rfl, R6⟩)
    · exact absurd (Int32.toInt_inj.mp (show (rg_v g 164 44).toInt = (64 : Int32).toInt from by rw [show rg_v g 164 44 = kn from nk1_z.symm, show (64 : Int32).toInt = 64 by decide]; omega)) i1_z
  · subst eh
    replace lt : kn.toInt < 64 := by rw [← ekn]; exact lt
    rw [show rg_v h 11 0 = kn from ekn] at hc_z
    replace hm_z := rn_aload_n (am_cur_of (i := (217, 1, .aload_n 0, (0, 0, 0), 0)) (by decide +kernel)) g0m hm_z
    replace hm_z := rn_callV (M' := am_m175) (o := 164) (ar := []) (rest := []) (L := lv_args 0 [.ref 164]) (am_cur_of (i := (218, 3, .invokevirtual 309, (175, 1731, 3), 0)) (by decide +kernel)) rfl rfl rfl rfl hm_z
    obtain ⟨r4182_z, h4183_z, q4184_z, hm_z⟩ := hm_z
    rcases rs_ic q4184_z with ⟨i1_z, -⟩ | ⟨i1_z, rfl, i3_z⟩
    · exfalso
      have zz := congrArg Int32.toInt i1_z
      rw [show rg_v g 164 44 = kn from nk1_z.symm, show (64 : Int32).toInt = 64 by decide] at zz
      omega
    · subst i3_z
      rw [show rg_v g 164 44 = kn from nk1_z.symm] at hm_z
      replace hm_z : rn _ _ _ _ [.int 1] _ _ _ := hm_z
      replace hc_z : rn _ _ _ _ [] _ _ _ := hc_z
      replace hc_z := rn_aload_n (am_cur_of (i := (151, 1, .aload_n 0, (0, 0, 0), 0)) (by decide +kernel)) g0_z hc_z
      replace hc_z := rn_iload_n (am_cur_of (i := (152, 1, .iload_n 1, (0, 0, 0), 0)) (by decide +kernel)) g1_z hc_z
      replace hc_z := rn_callV (M' := am_m50) (o := 44) (ar := [.int 13]) (rest := []) (L := lv_args 0 [.ref 44, .int 13]) (am_cur_of (i := (153, 3, .invokevirtual 273, (50, 856, 3), 0)) (by decide +kernel)) rfl rfl rfl rfl hc_z
      obtain ⟨r4185_z, h4186_z, q4187_z, hc_z⟩ := hc_z
      obtain ⟨rfl, eh⟩ := rs_hold (np := np) (show rg_v (am_up h 11 0 (.int (kn + 1))) 44 13 = np from z1_z) (by omega) q4187_z
      subst eh
      replace hc_z : rn _ _ _ _ [] _ _ _ := hc_z
      replace hc_z := rn_aload_n (am_cur_of (i := (156, 1, .aload_n 0, (0, 0, 0), 0)) (by decide +kernel)) g0_z hc_z
      replace hc_z := rn_callV (M' := am_m19) (o := 44) (ar := []) (rest := []) (L := lv_args 0 [.ref 44]) (am_cur_of (i := (157, 3, .invokevirtual 57, (19, 727, 3), 0)) (by decide +kernel)) rfl rfl rfl rfl hc_z
      obtain ⟨r4188_z, h4189_z, q4190_z, hc_z⟩ := hc_z
      have vo := rn_void rfl q4190_z
      subst vo
      replace hm_z := rn_ifT (am_cur_of (i := (221, 3, .ifCond .ne 5, (115, 0, 0), 0)) (by decide +kernel)) (by decide) hm_z
      replace hm_z := rn_aload_n (am_cur_of (i := (226, 1, .aload_n 0, (0, 0, 0), 0)) (by decide +kernel)) g0m hm_z
      replace hm_z := rn_iload_n (am_cur_of (i := (227, 1, .iload_n 1, (0, 0, 0), 0)) (by decide +kernel)) g1m hm_z
      replace hm_z := rn_callV (M' := am_m173) (o := 164) (ar := [.int 12]) (rest := []) (L := lv_args 0 [.ref 164, .int 12]) (am_cur_of (i := (228, 3, .invokevirtual 298, (173, 1723, 3), 0)) (by decide +kernel)) rfl rfl rfl rfl hm_z
      obtain ⟨r4191_z, h4192_z, q4193_z, hm_z⟩ := hm_z
      obtain ⟨rfl, eh⟩ := rs_wf (np := np) (show rg_v (am_up g 164 44 (.int (kn + 1))) 164 41 = np from z2_z) q4193_z
      subst eh
      replace hm_z : rn _ _ _ _ [] _ _ _ := hm_z
      replace hm_z := rn_aload_n (am_cur_of (i := (231, 1, .aload_n 0, (0, 0, 0), 0)) (by decide +kernel)) g0m hm_z
      replace hm_z := rn_iconst (w := 1) (am_cur_of (i := (232, 1, .iconst 1, (0, 0, 0), 0)) (by decide +kernel)) (by decide) hm_z
      replace hm_z := rn_put (am_cur_of (i := (233, 3, .putfield 315, (12, 45, 1429), 0)) (by decide +kernel)) (by decide +kernel) hm_z
      replace hm_z := rn_aload_n (am_cur_of (i := (236, 1, .aload_n 0, (0, 0, 0), 0)) (by decide +kernel)) g0m hm_z
      replace hm_z := rn_iload_n (am_cur_of (i := (237, 1, .iload_n 1, (0, 0, 0), 0)) (by decide +kernel)) g1m hm_z
      replace hm_z := rn_callS (M' := am_m180) (ar := [.int 12]) (rest := [.ref 164]) (L := lv_args 0 [.int 12]) (am_cur_of (i := (238, 3, .invokestatic 283, (180, 1751, 3), 0)) (by decide +kernel)) rfl rfl rfl rfl hm_z
      obtain ⟨r4194_z, h4195_z, q4196_z, hm_z⟩ := hm_z
      obtain ⟨rfl, yq4196_z⟩ := rs_rankM q4196_z
      replace yq4196_z := yq4196_z.symm
      subst yq4196_z
      rw [show rk_M 12 = 5 by decide] at hm_z
      replace hm_z : rn _ _ _ _ [.int 5, .ref 164] _ _ _ := hm_z
      replace hm_z := rn_iconst (w := 3) (am_cur_of (i := (241, 1, .iconst 3, (0, 0, 0), 0)) (by decide +kernel)) (by decide) hm_z
      replace hm_z := rn_cmpT (am_cur_of (i := (242, 3, .if_icmp .ge 7, (128, 0, 0), 0)) (by decide +kernel)) (by decide) hm_z
      replace hm_z := rn_iconst (w := 0) (am_cur_of (i := (249, 1, .iconst 0, (0, 0, 0), 0)) (by decide +kernel)) (by decide) hm_z
      replace hm_z := rn_put (am_cur_of (i := (250, 3, .putfield 302, (12, 46, 1430), 0)) (by decide +kernel)) (by decide +kernel) hm_z
      replace hm_z := rn_aload_n (am_cur_of (i := (253, 1, .aload_n 0, (0, 0, 0), 0)) (by decide +kernel)) g0m hm_z
      replace hm_z := rn_callV (M' := am_m151) (o := 164) (ar := []) (rest := []) (L := lv_args 0 [.ref 164]) (am_cur_of (i := (254, 3, .invokevirtual 191, (151, 1636, 3), 0)) (by decide +kernel)) rfl rfl rfl rfl hm_z
      obtain ⟨r4197_z, h4198_z, q4199_z, hm_z⟩ := hm_z
      have vo := rn_void rfl q4199_z
      subst vo
      have FC : ab_Fr (rz_MC2.drop 1) h (am_up (am_up (am_up h 11 0 (.int (kn + 1))) 47 np.toNatClampNeg (.int 13)) 44 13 (.int (np + 1))) := ab_Fr_up rfl (ab_Fr_up rfl (ab_Fr_up rfl ab_Fr_refl))
      have FC' : ab_Fr rz_MC2 h (am_up (am_up (am_up h 11 0 (.int (kn + 1))) 47 np.toNatClampNeg (.int 13)) 44 13 (.int (np + 1))) := ab_Fr_sub (by decide) FC
      have FM : ab_Fr rz_MM g (am_up (am_up (am_up (am_up (am_up g 164 44 (.int (kn + 1))) 184 np.toNatClampNeg (.int 12)) 164 41 (.int (np + 1))) 164 45 (.int 1)) 164 46 (.int 0)) := ab_Fr_up rfl (ab_Fr_up rfl (ab_Fr_up rfl (ab_Fr_up rfl (ab_Fr_up rfl ab_Fr_refl))))
      obtain ⟨-, -, x2_z, p2_z, R2, le2_z, t5_z, t6_z⟩ := pr_tok (rz_q02 (rq_0 Rk) FC' FM) q4190_z q4199_z
      have A2 := rp_x (by decide) (rz_p2 A FC' FM ((show rg_v (am_up (am_up (am_up h 11 0 (.int (kn + 1))) 47 np.toNatClampNeg (.int 13)) 44 13 (.int (np + 1))) 11 0 = kn + 1 from (show rg_v (am_up (am_up (am_up h 11 0 (.int (kn + 1))) 47 np.toNatClampNeg (.int 13)) 44 13 (.int (np + 1))) 11 0 = kn + 1 from rfl)).trans (show rg_v (am_up (am_up (am_up (am_up (am_up g 164 44 (.int (kn + 1))) 184 np.toNatClampNeg (.int 12)) 164 41 (.int (np + 1))) 164 45 (.int 1)) 164 46 (.int 0)) 164 44 = kn + 1 from (show rg_v (am_up (am_up (am_up (am_up (am_up g 164 44 (.int (kn + 1))) 184 np.toNatClampNeg (.int 12)) 164 41 (.int (np + 1))) 164 45 (.int 1)) 164 46 (.int 0)) 164 44 = kn + 1 from rfl)).symm) (by rw [show rg_v (am_up (am_up (am_up h 11 0 (.int (kn + 1))) 47 np.toNatClampNeg (.int 13)) 44 13 (.int (np + 1))) 11 0 = kn + 1 from (show rg_v (am_up (am_up (am_up h 11 0 (.int (kn + 1))) 47 np.toNatClampNeg (.int 13)) 44 13 (.int (np + 1))) 11 0 = kn + 1 from rfl)]; omega) (by rw [show rg_v (am_up (am_up (am_up h 11 0 (.int (kn + 1))) 47 np.toNatClampNeg (.int 13)) 44 13 (.int (np + 1))) 11 0 = kn + 1 from (show rg_v (am_up (am_up (am_up h 11 0 (.int (kn + 1))) 47 np.toNatClampNeg (.int 13)) 44 13 (.int (np + 1))) 11 0 = kn + 1 from rfl)]; omega)) (rx_C_f t5_z) (rx_M_f t6_z)
      have B2 := rp_tk (rz_t2 B FC FM) (rg_v_fr t5_z (by decide)) (fun k => rg_v_fr t6_z (rg_v_in (by decide) k)) (rx_M_f t6_z)
      have Z2 : rs 2 (am_up (am_up (am_up h 11 0 (.int (kn + 1))) 47 np.toNatClampNeg (.int 13)) 44 13 (.int (np + 1))) (am_up (am_up (am_up (am_up (am_up g 164 44 (.int (kn + 1))) 184 np.toNatClampNeg (.int 12)) 164 41 (.int (np + 1))) 164 45 (.int 1)) 164 46 (.int 0)) := rs_push (o := 13) (k := 12) (np := np) (op := op) Zk (by unfold rs_o; decide) z1_z z4_z (show rg_v (am_up (am_up (am_up h 11 0 (.int (kn + 1))) 47 np.toNatClampNeg (.int 13)) 44 13 (.int (np + 1))) 44 13 = np + 1 from (show rg_v (am_up (am_up (am_up h 11 0 (.int (kn + 1))) 47 np.toNatClampNeg (.int 13)) 44 13 (.int (np + 1))) 44 13 = np + 1 from rfl)) (show rg_v (am_up (am_up (am_up (am_up (am_up g 164 44 (.int (kn + 1))) 184 np.toNatClampNeg (.int 12)) 164 41 (.int (np + 1))) 164 45 (.int 1)) 164 46 (.int 0)) 164 41 = np + 1 from (show rg_v (am_up (am_up (am_up (am_up (am_up g 164 44 (.int (kn + 1))) 184 np.toNatClampNeg (.int 12)) 164 41 (.int (np + 1))) 164 45 (.int 1)) 164 46 (.int 0)) 164 41 = np + 1 from rfl)) (fun i hi_z => (show rg_v (am_up (am_up (am_up h 11 0 (.int (kn + 1))) 47 np.toNatClampNeg (.int 13)) 44 13 (.int (np + 1))) 47 i = rg_v h 47 i from rg_v_other (h := h) (o := 47) (k := np.toNatClampNeg) (v := .int 13) (by omega))) (show rg_v (am_up (am_up (am_up h 11 0 (.int (kn + 1))) 47 np.toNatClampNeg (.int 13)) 44 13 (.int (np + 1))) 47 np.toNatClampNeg = 13 from rg_v_self (h := h) (o := 47) (k := np.toNatClampNeg)) (fun i hi_z => (show rg_v (am_up (am_up (am_up (am_up (am_up g 164 44 (.int (kn + 1))) 184 np.toNatClampNeg (.int 12)) 164 41 (.int (np + 1))) 164 45 (.int 1)) 164 46 (.int 0)) 184 i = rg_v g 184 i from rg_v_other (h := g) (o := 184) (k := np.toNatClampNeg) (v := .int 12) (by omega))) (show rg_v (am_up (am_up (am_up (am_up (am_up g 164 44 (.int (kn + 1))) 184 np.toNatClampNeg (.int 12)) 164 41 (.int (np + 1))) 164 45 (.int 1)) 164 46 (.int 0)) 184 np.toNatClampNeg = 12 from rg_v_self (h := g) (o := 184) (k := np.toNatClampNeg)) (show (rg_v h 11 0).toInt ≤ 64 by rw [ekn]; exact nk3_z) (Or.inl ⟨by decide, (show rg_v (am_up (am_up (am_up h 11 0 (.int (kn + 1))) 47 np.toNatClampNeg (.int 13)) 44 13 (.int (np + 1))) 44 14 = op from (show rg_v (am_up (am_up (am_up h 11 0 (.int (kn + 1))) 47 np.toNatClampNeg (.int 13)) 44 13 (.int (np + 1))) 44 14 = op from z4_z)), (show rg_v (am_up (am_up (am_up (am_up (am_up g 164 44 (.int (kn + 1))) 184 np.toNatClampNeg (.int 12)) 164 41 (.int (np + 1))) 164 45 (.int 1)) 164 46 (.int 0)) 164 43 = op from (show rg_v (am_up (am_up (am_up (am_up (am_up g 164 44 (.int (kn + 1))) 184 np.toNatClampNeg (.int 12)) 164 41 (.int (np + 1))) 164 45 (.int 1)) 164 46 (.int 0)) 164 43 = op from z5_z)), (show (rg_v (am_up (am_up (am_up h 11 0 (.int (kn + 1))) 47 np.toNatClampNeg (.int 13)) 44 13 (.int (np + 1))) 11 0).toInt = (rg_v h 11 0).toInt + 1 by rw [(show rg_v (am_up (am_up (am_up h 11 0 (.int (kn + 1))) 47 np.toNatClampNeg (.int 13)) 44 13 (.int (np + 1))) 11 0 = kn + 1 from (show rg_v (am_up (am_up (am_up h 11 0 (.int (kn + 1))) 47 np.toNatClampNeg (.int 13)) 44 13 (.int (np + 1))) 11 0 = kn + 1 from rfl)), ekn]; exact e9_z)⟩)
      replace Z2 := rs_fr (by decide) Z2 t5_z t6_z
      have e45_z : rg_v h4198_z 164 45 = 1 := (rg_v_fr t6_z (by decide)).trans (show rg_v (am_up (am_up (am_up (am_up (am_up g 164 44 (.int (kn + 1))) 184 np.toNatClampNeg (.int 12)) 164 41 (.int (np + 1))) 164 45 (.int 1)) 164 46 (.int 0)) 164 45 = 1 from (show rg_v (am_up (am_up (am_up (am_up (am_up g 164 44 (.int (kn + 1))) 184 np.toNatClampNeg (.int 12)) 164 41 (.int (np + 1))) 164 45 (.int 1)) 164 46 (.int 0)) 164 45 = 1 from rfl))
      have e46_z : rg_v h4198_z 164 46 = 0 := (rg_v_fr t6_z (by decide)).trans (show rg_v (am_up (am_up (am_up (am_up (am_up g 164 44 (.int (kn + 1))) 184 np.toNatClampNeg (.int 12)) 164 41 (.int (np + 1))) 164 45 (.int 1)) 164 46 (.int 0)) 164 46 = 0 from (show rg_v (am_up (am_up (am_up (am_up (am_up g 164 44 (.int (kn + 1))) 184 np.toNatClampNeg (.int 12)) 164 41 (.int (np + 1))) 164 45 (.int 1)) 164 46 (.int 0)) 164 46 = 0 from rfl))
      replace hm_z : rn _ _ _ _ [] _ _ _ := hm_z
      replace hc_z : rn _ _ _ _ [] _ _ _ := hc_z
      replace hc_z := rn_iload_n (am_cur_of (i := (160, 1, .iload_n 1, (0, 0, 0), 0)) (by decide +kernel)) g1_z hc_z
      replace hc_z := rn_iconst (w := 3) (am_cur_of (i := (161, 1, .iconst 3, (0, 0, 0), 0)) (by decide +kernel)) (by decide) hc_z
      replace hc_z := rn_cmpF (am_cur_of (i := (162, 3, .if_icmp .eq 8, (89, 0, 0), 0)) (by decide +kernel)) (by decide) hc_z
      replace hc_z := rn_iload_n (am_cur_of (i := (165, 1, .iload_n 1, (0, 0, 0), 0)) (by decide +kernel)) g1_z hc_z
      replace hc_z := rn_iconst (w := 4) (am_cur_of (i := (166, 1, .iconst 4, (0, 0, 0), 0)) (by decide +kernel)) (by decide) hc_z
      replace hc_z := rn_cmpT (am_cur_of (i := (167, 3, .if_icmp .ne 7, (91, 0, 0), 0)) (by decide +kernel)) (by decide) hc_z
      replace hc_z := rn_iconst (w := 1) (am_cur_of (i := (174, 1, .iconst 1, (0, 0, 0), 0)) (by decide +kernel)) (by decide) hc_z
      replace hc_z := rn_iret (am_cur_of (i := (175, 1, .ireturn, (0, 0, 0), 0)) (by decide +kernel)) hc_z
      obtain ⟨e4200_z, e4201_z⟩ := hc_z
      replace hm_z := rn_iconst (w := 1) (am_cur_of (i := (257, 1, .iconst 1, (0, 0, 0), 0)) (by decide +kernel)) (by decide) hm_z
      replace hm_z := rn_iret (am_cur_of (i := (258, 1, .ireturn, (0, 0, 0), 0)) (by decide +kernel)) hm_z
      obtain ⟨e4202_z, e4203_z⟩ := hm_z
      subst e4200_z e4201_z e4202_z e4203_z
      exact Or.inl ⟨_, x2_z, p2_z, rfl, rfl, R2, le2_z, A2, B2, Z2, Or.inr (Or.inl ⟨rfl, e45_z, e46_z⟩)⟩
theorem rj_t14_2 {T : Nat → Int32} {S x p : Int32} {n n' : Nat} {h h' g g' : am_H} {r r' : Option Value} {ls ls2_z : am_L} (R : rq T S x p 2 h g) (A : rp 2 h g) (B : rp_t h g) (Z : rs 2 h g) (g0_z : am_get ls 0 = some (.ref 44)) (g1_z : am_get ls 1 = some (.int 14)) (g0m : am_get ls2_z 0 = some (.ref 164)) (g1m : am_get ls2_z 1 = some (.int 13)) (hc_z : rn n am_m44 76 ls [] h r h') (hm_z : rn n' am_m178 110 ls2_z [] g r' g') : rv_Q T S x p 2 h' g' r r' := by
  have Rk := R
  have Zk := Z
  obtain ⟨⟨c1_z, c2_z, c3_z, c4_z, c5_z, c6_z, c7_z, c8_z⟩, ⟨m2_z, m3_z, m4_z, m5_z, m6_z, m7_z, m8_z⟩, R3, R4, R5, R6, R7, R8, R9, R10⟩ := (R : rq T S x p 2 h g)
  obtain ⟨np, op, z1_z, z2_z, z3_z, z4_z, z5_z, z6_z, z7_z, z8_z, z9_z, z10_z⟩ := (Z : rs 2 h g)
  obtain ⟨nk1_z, nk2_z, nk3_z⟩ := A.2.2.2.2.2.1
  replace nk1_z : rg_v h 11 0 = rg_v g 164 44 := nk1_z
  replace nk2_z : 0 ≤ (rg_v h 11 0).toInt := nk2_z
  replace nk3_z : (rg_v h 11 0).toInt ≤ 64 := nk3_z
  replace z8_z : np.toInt ≤ (rg_v h 11 0).toInt + op.toInt := z8_z
  obtain ⟨kn, ekn⟩ : ∃ v, rg_v h 11 0 = v := ⟨_, rfl⟩
  rw [ekn] at nk1_z nk2_z nk3_z z8_z
  have e9_z := rt_c1 (x := kn) (by omega) (by omega)
  replace hc_z := rn_aload_n (am_cur_of (i := (147, 1, .aload_n 0, (0, 0, 0), 0)) (by decide +kernel)) g0_z hc_z
  replace hc_z := rn_callV (M' := am_m49) (o := 44) (ar := []) (rest := []) (L := lv_args 0 [.ref 44]) (am_cur_of (i := (148, 3, .invokevirtual 270, (49, 852, 3), 0)) (by decide +kernel)) rfl rfl rfl rfl hc_z
  obtain ⟨r4204_z, h4205_z, q4206_z, hc_z⟩ := hc_z
  rcases rs_ck2 R4 (show h 44 6 = .ref 2 from R3) q4206_z with ⟨ge, rfl, eh⟩ | ⟨lt, rfl, eh⟩
  · subst eh
    replace ge : 64 ≤ kn.toInt := by rw [← ekn]; exact ge
    replace hc_z : rn _ _ _ _ [] _ _ _ := hc_z
    have K := rs_stick (w := 2) (q := p) (a := 44) (by decide) (by decide) rfl (by decide) rfl (show rg_v (am_up (am_up h 44 1 (.int 2)) 44 2 (.int (rg_v h 44 9))) 44 2 = p from R5) hc_z
    replace hm_z := rn_aload_n (am_cur_of (i := (217, 1, .aload_n 0, (0, 0, 0), 0)) (by decide +kernel)) g0m hm_z
    replace hm_z := rn_callV (M' := am_m175) (o := 164) (ar := []) (rest := []) (L := lv_args 0 [.ref 164]) (am_cur_of (i := (218, 3, .invokevirtual 309, (175, 1731, 3), 0)) (by decide +kernel)) rfl rfl rfl rfl hm_z
    obtain ⟨r4207_z, h4208_z, q4209_z, hm_z⟩ := hm_z
    rcases rs_ic q4209_z with ⟨i1_z, rfl, i3_z⟩ | ⟨i1_z, -⟩
    · subst i3_z
      replace hm_z : rn _ _ _ _ [.int 0] _ _ _ := hm_z
      replace hm_z := rn_ifF (am_cur_of (i := (221, 3, .ifCond .ne 5, (115, 0, 0), 0)) (by decide +kernel)) (by decide) hm_z
      replace hm_z := rn_iconst (w := 0) (am_cur_of (i := (224, 1, .iconst 0, (0, 0, 0), 0)) (by decide +kernel)) (by decide) hm_z
      replace hm_z := rn_iret (am_cur_of (i := (225, 1, .ireturn, (0, 0, 0), 0)) (by decide +kernel)) hm_z
      obtain ⟨e4210_z, e4211_z⟩ := hm_z
      subst e4210_z e4211_z
      exact (Or.inr ⟨rfl, 2, by decide, K.1, K.2, rfl, R6⟩)
    · exact absurd (Int32.toInt_inj.mp (show (rg_v g 164 44).toInt = (64 : Int32).toInt from by rw [show rg_v g 164 44 = kn from nk1_z.symm, show (64 : Int32).toInt = 64 by decide]; omega)) i1_z
  · subst eh
    replace lt : kn.toInt < 64 := by rw [← ekn]; exact lt
    rw [show rg_v h 11 0 = kn from ekn] at hc_z
    replace hm_z := rn_aload_n (am_cur_of (i := (217, 1, .aload_n 0, (0, 0, 0), 0)) (by decide +kernel)) g0m hm_z
    replace hm_z := rn_callV (M' := am_m175) (o := 164) (ar := []) (rest := []) (L := lv_args 0 [.ref 164]) (am_cur_of (i := (218, 3, .invokevirtual 309, (175, 1731, 3), 0)) (by decide +kernel)) rfl rfl rfl rfl hm_z
    obtain ⟨r4212_z, h4213_z, q4214_z, hm_z⟩ := hm_z
    rcases rs_ic q4214_z with ⟨i1_z, -⟩ | ⟨i1_z, rfl, i3_z⟩
    · exfalso
      have zz := congrArg Int32.toInt i1_z
      rw [show rg_v g 164 44 = kn from nk1_z.symm, show (64 : Int32).toInt = 64 by decide] at zz
      omega
    · subst i3_z
      rw [show rg_v g 164 44 = kn from nk1_z.symm] at hm_z
      replace hm_z : rn _ _ _ _ [.int 1] _ _ _ := hm_z
      replace hc_z : rn _ _ _ _ [] _ _ _ := hc_z
      replace hc_z := rn_aload_n (am_cur_of (i := (151, 1, .aload_n 0, (0, 0, 0), 0)) (by decide +kernel)) g0_z hc_z
      replace hc_z := rn_iload_n (am_cur_of (i := (152, 1, .iload_n 1, (0, 0, 0), 0)) (by decide +kernel)) g1_z hc_z
      replace hc_z := rn_callV (M' := am_m50) (o := 44) (ar := [.int 14]) (rest := []) (L := lv_args 0 [.ref 44, .int 14]) (am_cur_of (i := (153, 3, .invokevirtual 273, (50, 856, 3), 0)) (by decide +kernel)) rfl rfl rfl rfl hc_z
      obtain ⟨r4215_z, h4216_z, q4217_z, hc_z⟩ := hc_z
      obtain ⟨rfl, eh⟩ := rs_hold (np := np) (show rg_v (am_up h 11 0 (.int (kn + 1))) 44 13 = np from z1_z) (by omega) q4217_z
      subst eh
      replace hc_z : rn _ _ _ _ [] _ _ _ := hc_z
      replace hc_z := rn_aload_n (am_cur_of (i := (156, 1, .aload_n 0, (0, 0, 0), 0)) (by decide +kernel)) g0_z hc_z
      replace hc_z := rn_callV (M' := am_m19) (o := 44) (ar := []) (rest := []) (L := lv_args 0 [.ref 44]) (am_cur_of (i := (157, 3, .invokevirtual 57, (19, 727, 3), 0)) (by decide +kernel)) rfl rfl rfl rfl hc_z
      obtain ⟨r4218_z, h4219_z, q4220_z, hc_z⟩ := hc_z
      have vo := rn_void rfl q4220_z
      subst vo
      replace hm_z := rn_ifT (am_cur_of (i := (221, 3, .ifCond .ne 5, (115, 0, 0), 0)) (by decide +kernel)) (by decide) hm_z
      replace hm_z := rn_aload_n (am_cur_of (i := (226, 1, .aload_n 0, (0, 0, 0), 0)) (by decide +kernel)) g0m hm_z
      replace hm_z := rn_iload_n (am_cur_of (i := (227, 1, .iload_n 1, (0, 0, 0), 0)) (by decide +kernel)) g1m hm_z
      replace hm_z := rn_callV (M' := am_m173) (o := 164) (ar := [.int 13]) (rest := []) (L := lv_args 0 [.ref 164, .int 13]) (am_cur_of (i := (228, 3, .invokevirtual 298, (173, 1723, 3), 0)) (by decide +kernel)) rfl rfl rfl rfl hm_z
      obtain ⟨r4221_z, h4222_z, q4223_z, hm_z⟩ := hm_z
      obtain ⟨rfl, eh⟩ := rs_wf (np := np) (show rg_v (am_up g 164 44 (.int (kn + 1))) 164 41 = np from z2_z) q4223_z
      subst eh
      replace hm_z : rn _ _ _ _ [] _ _ _ := hm_z
      replace hm_z := rn_aload_n (am_cur_of (i := (231, 1, .aload_n 0, (0, 0, 0), 0)) (by decide +kernel)) g0m hm_z
      replace hm_z := rn_iconst (w := 1) (am_cur_of (i := (232, 1, .iconst 1, (0, 0, 0), 0)) (by decide +kernel)) (by decide) hm_z
      replace hm_z := rn_put (am_cur_of (i := (233, 3, .putfield 315, (12, 45, 1429), 0)) (by decide +kernel)) (by decide +kernel) hm_z
      replace hm_z := rn_aload_n (am_cur_of (i := (236, 1, .aload_n 0, (0, 0, 0), 0)) (by decide +kernel)) g0m hm_z
      replace hm_z := rn_iload_n (am_cur_of (i := (237, 1, .iload_n 1, (0, 0, 0), 0)) (by decide +kernel)) g1m hm_z
      replace hm_z := rn_callS (M' := am_m180) (ar := [.int 13]) (rest := [.ref 164]) (L := lv_args 0 [.int 13]) (am_cur_of (i := (238, 3, .invokestatic 283, (180, 1751, 3), 0)) (by decide +kernel)) rfl rfl rfl rfl hm_z
      obtain ⟨r4224_z, h4225_z, q4226_z, hm_z⟩ := hm_z
      obtain ⟨rfl, yq4226_z⟩ := rs_rankM q4226_z
      replace yq4226_z := yq4226_z.symm
      subst yq4226_z
      rw [show rk_M 13 = 6 by decide] at hm_z
      replace hm_z : rn _ _ _ _ [.int 6, .ref 164] _ _ _ := hm_z
      replace hm_z := rn_iconst (w := 3) (am_cur_of (i := (241, 1, .iconst 3, (0, 0, 0), 0)) (by decide +kernel)) (by decide) hm_z
      replace hm_z := rn_cmpT (am_cur_of (i := (242, 3, .if_icmp .ge 7, (128, 0, 0), 0)) (by decide +kernel)) (by decide) hm_z
      replace hm_z := rn_iconst (w := 0) (am_cur_of (i := (249, 1, .iconst 0, (0, 0, 0), 0)) (by decide +kernel)) (by decide) hm_z
      replace hm_z := rn_put (am_cur_of (i := (250, 3, .putfield 302, (12, 46, 1430), 0)) (by decide +kernel)) (by decide +kernel) hm_z
      replace hm_z := rn_aload_n (am_cur_of (i := (253, 1, .aload_n 0, (0, 0, 0), 0)) (by decide +kernel)) g0m hm_z
      replace hm_z := rn_callV (M' := am_m151) (o := 164) (ar := []) (rest := []) (L := lv_args 0 [.ref 164]) (am_cur_of (i := (254, 3, .invokevirtual 191, (151, 1636, 3), 0)) (by decide +kernel)) rfl rfl rfl rfl hm_z
      obtain ⟨r4227_z, h4228_z, q4229_z, hm_z⟩ := hm_z
      have vo := rn_void rfl q4229_z
      subst vo
      have FC : ab_Fr (rz_MC2.drop 1) h (am_up (am_up (am_up h 11 0 (.int (kn + 1))) 47 np.toNatClampNeg (.int 14)) 44 13 (.int (np + 1))) := ab_Fr_up rfl (ab_Fr_up rfl (ab_Fr_up rfl ab_Fr_refl))
      have FC' : ab_Fr rz_MC2 h (am_up (am_up (am_up h 11 0 (.int (kn + 1))) 47 np.toNatClampNeg (.int 14)) 44 13 (.int (np + 1))) := ab_Fr_sub (by decide) FC
      have FM : ab_Fr rz_MM g (am_up (am_up (am_up (am_up (am_up g 164 44 (.int (kn + 1))) 184 np.toNatClampNeg (.int 13)) 164 41 (.int (np + 1))) 164 45 (.int 1)) 164 46 (.int 0)) := ab_Fr_up rfl (ab_Fr_up rfl (ab_Fr_up rfl (ab_Fr_up rfl (ab_Fr_up rfl ab_Fr_refl))))
      obtain ⟨-, -, x2_z, p2_z, R2, le2_z, t5_z, t6_z⟩ := pr_tok (rz_q02 (rq_0 Rk) FC' FM) q4220_z q4229_z
      have A2 := rp_x (by decide) (rz_p2 A FC' FM ((show rg_v (am_up (am_up (am_up h 11 0 (.int (kn + 1))) 47 np.toNatClampNeg (.int 14)) 44 13 (.int (np + 1))) 11 0 = kn + 1 from (show rg_v (am_up (am_up (am_up h 11 0 (.int (kn + 1))) 47 np.toNatClampNeg (.int 14)) 44 13 (.int (np + 1))) 11 0 = kn + 1 from rfl)).trans (show rg_v (am_up (am_up (am_up (am_up (am_up g 164 44 (.int (kn + 1))) 184 np.toNatClampNeg (.int 13)) 164 41 (.int (np + 1))) 164 45 (.int 1)) 164 46 (.int 0)) 164 44 = kn + 1 from (show rg_v (am_up (am_up (am_up (am_up (am_up g 164 44 (.int (kn + 1))) 184 np.toNatClampNeg (.int 13)) 164 41 (.int (np + 1))) 164 45 (.int 1)) 164 46 (.int 0)) 164 44 = kn + 1 from rfl)).symm) (by rw [show rg_v (am_up (am_up (am_up h 11 0 (.int (kn + 1))) 47 np.toNatClampNeg (.int 14)) 44 13 (.int (np + 1))) 11 0 = kn + 1 from (show rg_v (am_up (am_up (am_up h 11 0 (.int (kn + 1))) 47 np.toNatClampNeg (.int 14)) 44 13 (.int (np + 1))) 11 0 = kn + 1 from rfl)]; omega) (by rw [show rg_v (am_up (am_up (am_up h 11 0 (.int (kn + 1))) 47 np.toNatClampNeg (.int 14)) 44 13 (.int (np + 1))) 11 0 = kn + 1 from (show rg_v (am_up (am_up (am_up h 11 0 (.int (kn + 1))) 47 np.toNatClampNeg (.int 14)) 44 13 (.int (np + 1))) 11 0 = kn + 1 from rfl)]; omega)) (rx_C_f t5_z) (rx_M_f t6_z)
      have B2 := rp_tk (rz_t2 B FC FM) (rg_v_fr t5_z (by decide)) (fun k => rg_v_fr t6_z (rg_v_in (by decide) k)) (rx_M_f t6_z)
      have Z2 : rs 2 (am_up (am_up (am_up h 11 0 (.int (kn + 1))) 47 np.toNatClampNeg (.int 14)) 44 13 (.int (np + 1))) (am_up (am_up (am_up (am_up (am_up g 164 44 (.int (kn + 1))) 184 np.toNatClampNeg (.int 13)) 164 41 (.int (np + 1))) 164 45 (.int 1)) 164 46 (.int 0)) := rs_push (o := 14) (k := 13) (np := np) (op := op) Zk (by unfold rs_o; decide) z1_z z4_z (show rg_v (am_up (am_up (am_up h 11 0 (.int (kn + 1))) 47 np.toNatClampNeg (.int 14)) 44 13 (.int (np + 1))) 44 13 = np + 1 from (show rg_v (am_up (am_up (am_up h 11 0 (.int (kn + 1))) 47 np.toNatClampNeg (.int 14)) 44 13 (.int (np + 1))) 44 13 = np + 1 from rfl)) (show rg_v (am_up (am_up (am_up (am_up (am_up g 164 44 (.int (kn + 1))) 184 np.toNatClampNeg (.int 13)) 164 41 (.int (np + 1))) 164 45 (.int 1)) 164 46 (.int 0)) 164 41 = np + 1 from (show rg_v (am_up (am_up (am_up (am_up (am_up g 164 44 (.int (kn + 1))) 184 np.toNatClampNeg (.int 13)) 164 41 (.int (np + 1))) 164 45 (.int 1)) 164 46 (.int 0)) 164 41 = np + 1 from rfl)) (fun i hi_z => (show rg_v (am_up (am_up (am_up h 11 0 (.int (kn + 1))) 47 np.toNatClampNeg (.int 14)) 44 13 (.int (np + 1))) 47 i = rg_v h 47 i from rg_v_other (h := h) (o := 47) (k := np.toNatClampNeg) (v := .int 14) (by omega))) (show rg_v (am_up (am_up (am_up h 11 0 (.int (kn + 1))) 47 np.toNatClampNeg (.int 14)) 44 13 (.int (np + 1))) 47 np.toNatClampNeg = 14 from rg_v_self (h := h) (o := 47) (k := np.toNatClampNeg)) (fun i hi_z => (show rg_v (am_up (am_up (am_up (am_up (am_up g 164 44 (.int (kn + 1))) 184 np.toNatClampNeg (.int 13)) 164 41 (.int (np + 1))) 164 45 (.int 1)) 164 46 (.int 0)) 184 i = rg_v g 184 i from rg_v_other (h := g) (o := 184) (k := np.toNatClampNeg) (v := .int 13) (by omega))) (show rg_v (am_up (am_up (am_up (am_up (am_up g 164 44 (.int (kn + 1))) 184 np.toNatClampNeg (.int 13)) 164 41 (.int (np + 1))) 164 45 (.int 1)) 164 46 (.int 0)) 184 np.toNatClampNeg = 13 from rg_v_self (h := g) (o := 184) (k := np.toNatClampNeg)) (show (rg_v h 11 0).toInt ≤ 64 by rw [ekn]; exact nk3_z) (Or.inl ⟨by decide, (show rg_v (am_up (am_up (am_up h 11 0 (.int (kn + 1))) 47 np.toNatClampNeg (.int 14)) 44 13 (.int (np + 1))) 44 14 = op from (show rg_v (am_up (am_up (am_up h 11 0 (.int (kn + 1))) 47 np.toNatClampNeg (.int 14)) 44 13 (.int (np + 1))) 44 14 = op from z4_z)), (show rg_v (am_up (am_up (am_up (am_up (am_up g 164 44 (.int (kn + 1))) 184 np.toNatClampNeg (.int 13)) 164 41 (.int (np + 1))) 164 45 (.int 1)) 164 46 (.int 0)) 164 43 = op from (show rg_v (am_up (am_up (am_up (am_up (am_up g 164 44 (.int (kn + 1))) 184 np.toNatClampNeg (.int 13)) 164 41 (.int (np + 1))) 164 45 (.int 1)) 164 46 (.int 0)) 164 43 = op from z5_z)), (show (rg_v (am_up (am_up (am_up h 11 0 (.int (kn + 1))) 47 np.toNatClampNeg (.int 14)) 44 13 (.int (np + 1))) 11 0).toInt = (rg_v h 11 0).toInt + 1 by rw [(show rg_v (am_up (am_up (am_up h 11 0 (.int (kn + 1))) 47 np.toNatClampNeg (.int 14)) 44 13 (.int (np + 1))) 11 0 = kn + 1 from (show rg_v (am_up (am_up (am_up h 11 0 (.int (kn + 1))) 47 np.toNatClampNeg (.int 14)) 44 13 (.int (np + 1))) 11 0 = kn + 1 from rfl)), ekn]; exact e9_z)⟩)
      replace Z2 := rs_fr (by decide) Z2 t5_z t6_z
      have e45_z : rg_v h4228_z 164 45 = 1 := (rg_v_fr t6_z (by decide)).trans (show rg_v (am_up (am_up (am_up (am_up (am_up g 164 44 (.int (kn + 1))) 184 np.toNatClampNeg (.int 13)) 164 41 (.int (np + 1))) 164 45 (.int 1)) 164 46 (.int 0)) 164 45 = 1 from (show rg_v (am_up (am_up (am_up (am_up (am_up g 164 44 (.int (kn + 1))) 184 np.toNatClampNeg (.int 13)) 164 41 (.int (np + 1))) 164 45 (.int 1)) 164 46 (.int 0)) 164 45 = 1 from rfl))
      have e46_z : rg_v h4228_z 164 46 = 0 := (rg_v_fr t6_z (by decide)).trans (show rg_v (am_up (am_up (am_up (am_up (am_up g 164 44 (.int (kn + 1))) 184 np.toNatClampNeg (.int 13)) 164 41 (.int (np + 1))) 164 45 (.int 1)) 164 46 (.int 0)) 164 46 = 0 from (show rg_v (am_up (am_up (am_up (am_up (am_up g 164 44 (.int (kn + 1))) 184 np.toNatClampNeg (.int 13)) 164 41 (.int (np + 1))) 164 45 (.int 1)) 164 46 (.int 0)) 164 46 = 0 from rfl))
      replace hm_z : rn _ _ _ _ [] _ _ _ := hm_z
      replace hc_z : rn _ _ _ _ [] _ _ _ := hc_z
      replace hc_z := rn_iload_n (am_cur_of (i := (160, 1, .iload_n 1, (0, 0, 0), 0)) (by decide +kernel)) g1_z hc_z
      replace hc_z := rn_iconst (w := 3) (am_cur_of (i := (161, 1, .iconst 3, (0, 0, 0), 0)) (by decide +kernel)) (by decide) hc_z
      replace hc_z := rn_cmpF (am_cur_of (i := (162, 3, .if_icmp .eq 8, (89, 0, 0), 0)) (by decide +kernel)) (by decide) hc_z
      replace hc_z := rn_iload_n (am_cur_of (i := (165, 1, .iload_n 1, (0, 0, 0), 0)) (by decide +kernel)) g1_z hc_z
      replace hc_z := rn_iconst (w := 4) (am_cur_of (i := (166, 1, .iconst 4, (0, 0, 0), 0)) (by decide +kernel)) (by decide) hc_z
      replace hc_z := rn_cmpT (am_cur_of (i := (167, 3, .if_icmp .ne 7, (91, 0, 0), 0)) (by decide +kernel)) (by decide) hc_z
      replace hc_z := rn_iconst (w := 1) (am_cur_of (i := (174, 1, .iconst 1, (0, 0, 0), 0)) (by decide +kernel)) (by decide) hc_z
      replace hc_z := rn_iret (am_cur_of (i := (175, 1, .ireturn, (0, 0, 0), 0)) (by decide +kernel)) hc_z
      obtain ⟨e4230_z, e4231_z⟩ := hc_z
      replace hm_z := rn_iconst (w := 1) (am_cur_of (i := (257, 1, .iconst 1, (0, 0, 0), 0)) (by decide +kernel)) (by decide) hm_z
      replace hm_z := rn_iret (am_cur_of (i := (258, 1, .ireturn, (0, 0, 0), 0)) (by decide +kernel)) hm_z
      obtain ⟨e4232_z, e4233_z⟩ := hm_z
      subst e4230_z e4231_z e4232_z e4233_z
      exact Or.inl ⟨_, x2_z, p2_z, rfl, rfl, R2, le2_z, A2, B2, Z2, Or.inr (Or.inl ⟨rfl, e45_z, e46_z⟩)⟩
theorem rj_t15_2 {T : Nat → Int32} {S x p : Int32} {n n' : Nat} {h h' g g' : am_H} {r r' : Option Value} {ls ls2_z : am_L} (R : rq T S x p 2 h g) (A : rp 2 h g) (B : rp_t h g) (Z : rs 2 h g) (g0_z : am_get ls 0 = some (.ref 44)) (g1_z : am_get ls 1 = some (.int 15)) (g0m : am_get ls2_z 0 = some (.ref 164)) (g1m : am_get ls2_z 1 = some (.int 14)) (hc_z : rn n am_m44 76 ls [] h r h') (hm_z : rn n' am_m178 110 ls2_z [] g r' g') : rv_Q T S x p 2 h' g' r r' := by
  have Rk := R
  have Zk := Z
  obtain ⟨⟨c1_z, c2_z, c3_z, c4_z, c5_z, c6_z, c7_z, c8_z⟩, ⟨m2_z, m3_z, m4_z, m5_z, m6_z, m7_z, m8_z⟩, R3, R4, R5, R6, R7, R8, R9, R10⟩ := (R : rq T S x p 2 h g)
  obtain ⟨np, op, z1_z, z2_z, z3_z, z4_z, z5_z, z6_z, z7_z, z8_z, z9_z, z10_z⟩ := (Z : rs 2 h g)
  obtain ⟨nk1_z, nk2_z, nk3_z⟩ := A.2.2.2.2.2.1
  replace nk1_z : rg_v h 11 0 = rg_v g 164 44 := nk1_z
  replace nk2_z : 0 ≤ (rg_v h 11 0).toInt := nk2_z
  replace nk3_z : (rg_v h 11 0).toInt ≤ 64 := nk3_z
  replace z8_z : np.toInt ≤ (rg_v h 11 0).toInt + op.toInt := z8_z
  obtain ⟨kn, ekn⟩ : ∃ v, rg_v h 11 0 = v := ⟨_, rfl⟩
  rw [ekn] at nk1_z nk2_z nk3_z z8_z
  have e9_z := rt_c1 (x := kn) (by omega) (by omega)
  replace hc_z := rn_aload_n (am_cur_of (i := (147, 1, .aload_n 0, (0, 0, 0), 0)) (by decide +kernel)) g0_z hc_z
  replace hc_z := rn_callV (M' := am_m49) (o := 44) (ar := []) (rest := []) (L := lv_args 0 [.ref 44]) (am_cur_of (i := (148, 3, .invokevirtual 270, (49, 852, 3), 0)) (by decide +kernel)) rfl rfl rfl rfl hc_z
  obtain ⟨r4234_z, h4235_z, q4236_z, hc_z⟩ := hc_z
  rcases rs_ck2 R4 (show h 44 6 = .ref 2 from R3) q4236_z with ⟨ge, rfl, eh⟩ | ⟨lt, rfl, eh⟩
  · subst eh
    replace ge : 64 ≤ kn.toInt := by rw [← ekn]; exact ge
    replace hc_z : rn _ _ _ _ [] _ _ _ := hc_z
    have K := rs_stick (w := 2) (q := p) (a := 44) (by decide) (by decide) rfl (by decide) rfl (show rg_v (am_up (am_up h 44 1 (.int 2)) 44 2 (.int (rg_v h 44 9))) 44 2 = p from R5) hc_z
    replace hm_z := rn_aload_n (am_cur_of (i := (217, 1, .aload_n 0, (0, 0, 0), 0)) (by decide +kernel)) g0m hm_z
    replace hm_z := rn_callV (M' := am_m175) (o := 164) (ar := []) (rest := []) (L := lv_args 0 [.ref 164]) (am_cur_of (i := (218, 3, .invokevirtual 309, (175, 1731, 3), 0)) (by decide +kernel)) rfl rfl rfl rfl hm_z
    obtain ⟨r4237_z, h4238_z, q4239_z, hm_z⟩ := hm_z
    rcases rs_ic q4239_z with ⟨i1_z, rfl, i3_z⟩ | ⟨i1_z, -⟩
    · subst i3_z
      replace hm_z : rn _ _ _ _ [.int 0] _ _ _ := hm_z
      replace hm_z := rn_ifF (am_cur_of (i := (221, 3, .ifCond .ne 5, (115, 0, 0), 0)) (by decide +kernel)) (by decide) hm_z
      replace hm_z := rn_iconst (w := 0) (am_cur_of (i := (224, 1, .iconst 0, (0, 0, 0), 0)) (by decide +kernel)) (by decide) hm_z
      replace hm_z := rn_iret (am_cur_of (i := (225, 1, .ireturn, (0, 0, 0), 0)) (by decide +kernel)) hm_z
      obtain ⟨e4240_z, e4241_z⟩ := hm_z
      subst e4240_z e4241_z
      exact (Or.inr ⟨rfl, 2, by decide, K.1, K.2, rfl, R6⟩)
    · exact absurd (Int32.toInt_inj.mp (show (rg_v g 164 44).toInt = (64 : Int32).toInt from by rw [show rg_v g 164 44 = kn from nk1_z.symm, show (64 : Int32).toInt = 64 by decide]; omega)) i1_z
  · subst eh
    replace lt : kn.toInt < 64 := by rw [← ekn]; exact lt
    rw [show rg_v h 11 0 = kn from ekn] at hc_z
    replace hm_z := rn_aload_n (am_cur_of (i := (217, 1, .aload_n 0, (0, 0, 0), 0)) (by decide +kernel)) g0m hm_z
    replace hm_z := rn_callV (M' := am_m175) (o := 164) (ar := []) (rest := []) (L := lv_args 0 [.ref 164]) (am_cur_of (i := (218, 3, .invokevirtual 309, (175, 1731, 3), 0)) (by decide +kernel)) rfl rfl rfl rfl hm_z
    obtain ⟨r4242_z, h4243_z, q4244_z, hm_z⟩ := hm_z
    rcases rs_ic q4244_z with ⟨i1_z, -⟩ | ⟨i1_z, rfl, i3_z⟩
    · exfalso
      have zz := congrArg Int32.toInt i1_z
      rw [show rg_v g 164 44 = kn from nk1_z.symm, show (64 : Int32).toInt = 64 by decide] at zz
      omega
    · subst i3_z
      rw [show rg_v g 164 44 = kn from nk1_z.symm] at hm_z
      replace hm_z : rn _ _ _ _ [.int 1] _ _ _ := hm_z
      replace hc_z : rn _ _ _ _ [] _ _ _ := hc_z
      replace hc_z := rn_aload_n (am_cur_of (i := (151, 1, .aload_n 0, (0, 0, 0), 0)) (by decide +kernel)) g0_z hc_z
      replace hc_z := rn_iload_n (am_cur_of (i := (152, 1, .iload_n 1, (0, 0, 0), 0)) (by decide +kernel)) g1_z hc_z
      replace hc_z := rn_callV (M' := am_m50) (o := 44) (ar := [.int 15]) (rest := []) (L := lv_args 0 [.ref 44, .int 15]) (am_cur_of (i := (153, 3, .invokevirtual 273, (50, 856, 3), 0)) (by decide +kernel)) rfl rfl rfl rfl hc_z
      obtain ⟨r4245_z, h4246_z, q4247_z, hc_z⟩ := hc_z
      obtain ⟨rfl, eh⟩ := rs_hold (np := np) (show rg_v (am_up h 11 0 (.int (kn + 1))) 44 13 = np from z1_z) (by omega) q4247_z
      subst eh
      replace hc_z : rn _ _ _ _ [] _ _ _ := hc_z
      replace hc_z := rn_aload_n (am_cur_of (i := (156, 1, .aload_n 0, (0, 0, 0), 0)) (by decide +kernel)) g0_z hc_z
      replace hc_z := rn_callV (M' := am_m19) (o := 44) (ar := []) (rest := []) (L := lv_args 0 [.ref 44]) (am_cur_of (i := (157, 3, .invokevirtual 57, (19, 727, 3), 0)) (by decide +kernel)) rfl rfl rfl rfl hc_z
      obtain ⟨r4248_z, h4249_z, q4250_z, hc_z⟩ := hc_z
      have vo := rn_void rfl q4250_z
      subst vo
      replace hm_z := rn_ifT (am_cur_of (i := (221, 3, .ifCond .ne 5, (115, 0, 0), 0)) (by decide +kernel)) (by decide) hm_z
      replace hm_z := rn_aload_n (am_cur_of (i := (226, 1, .aload_n 0, (0, 0, 0), 0)) (by decide +kernel)) g0m hm_z
      replace hm_z := rn_iload_n (am_cur_of (i := (227, 1, .iload_n 1, (0, 0, 0), 0)) (by decide +kernel)) g1m hm_z
      replace hm_z := rn_callV (M' := am_m173) (o := 164) (ar := [.int 14]) (rest := []) (L := lv_args 0 [.ref 164, .int 14]) (am_cur_of (i := (228, 3, .invokevirtual 298, (173, 1723, 3), 0)) (by decide +kernel)) rfl rfl rfl rfl hm_z
      obtain ⟨r4251_z, h4252_z, q4253_z, hm_z⟩ := hm_z
      obtain ⟨rfl, eh⟩ := rs_wf (np := np) (show rg_v (am_up g 164 44 (.int (kn + 1))) 164 41 = np from z2_z) q4253_z
      subst eh
      replace hm_z : rn _ _ _ _ [] _ _ _ := hm_z
      replace hm_z := rn_aload_n (am_cur_of (i := (231, 1, .aload_n 0, (0, 0, 0), 0)) (by decide +kernel)) g0m hm_z
      replace hm_z := rn_iconst (w := 1) (am_cur_of (i := (232, 1, .iconst 1, (0, 0, 0), 0)) (by decide +kernel)) (by decide) hm_z
      replace hm_z := rn_put (am_cur_of (i := (233, 3, .putfield 315, (12, 45, 1429), 0)) (by decide +kernel)) (by decide +kernel) hm_z
      replace hm_z := rn_aload_n (am_cur_of (i := (236, 1, .aload_n 0, (0, 0, 0), 0)) (by decide +kernel)) g0m hm_z
      replace hm_z := rn_iload_n (am_cur_of (i := (237, 1, .iload_n 1, (0, 0, 0), 0)) (by decide +kernel)) g1m hm_z
      replace hm_z := rn_callS (M' := am_m180) (ar := [.int 14]) (rest := [.ref 164]) (L := lv_args 0 [.int 14]) (am_cur_of (i := (238, 3, .invokestatic 283, (180, 1751, 3), 0)) (by decide +kernel)) rfl rfl rfl rfl hm_z
      obtain ⟨r4254_z, h4255_z, q4256_z, hm_z⟩ := hm_z
      obtain ⟨rfl, yq4256_z⟩ := rs_rankM q4256_z
      replace yq4256_z := yq4256_z.symm
      subst yq4256_z
      rw [show rk_M 14 = 6 by decide] at hm_z
      replace hm_z : rn _ _ _ _ [.int 6, .ref 164] _ _ _ := hm_z
      replace hm_z := rn_iconst (w := 3) (am_cur_of (i := (241, 1, .iconst 3, (0, 0, 0), 0)) (by decide +kernel)) (by decide) hm_z
      replace hm_z := rn_cmpT (am_cur_of (i := (242, 3, .if_icmp .ge 7, (128, 0, 0), 0)) (by decide +kernel)) (by decide) hm_z
      replace hm_z := rn_iconst (w := 0) (am_cur_of (i := (249, 1, .iconst 0, (0, 0, 0), 0)) (by decide +kernel)) (by decide) hm_z
      replace hm_z := rn_put (am_cur_of (i := (250, 3, .putfield 302, (12, 46, 1430), 0)) (by decide +kernel)) (by decide +kernel) hm_z
      replace hm_z := rn_aload_n (am_cur_of (i := (253, 1, .aload_n 0, (0, 0, 0), 0)) (by decide +kernel)) g0m hm_z
      replace hm_z := rn_callV (M' := am_m151) (o := 164) (ar := []) (rest := []) (L := lv_args 0 [.ref 164]) (am_cur_of (i := (254, 3, .invokevirtual 191, (151, 1636, 3), 0)) (by decide +kernel)) rfl rfl rfl rfl hm_z
      obtain ⟨r4257_z, h4258_z, q4259_z, hm_z⟩ := hm_z
      have vo := rn_void rfl q4259_z
      subst vo
      have FC : ab_Fr (rz_MC2.drop 1) h (am_up (am_up (am_up h 11 0 (.int (kn + 1))) 47 np.toNatClampNeg (.int 15)) 44 13 (.int (np + 1))) := ab_Fr_up rfl (ab_Fr_up rfl (ab_Fr_up rfl ab_Fr_refl))
      have FC' : ab_Fr rz_MC2 h (am_up (am_up (am_up h 11 0 (.int (kn + 1))) 47 np.toNatClampNeg (.int 15)) 44 13 (.int (np + 1))) := ab_Fr_sub (by decide) FC
      have FM : ab_Fr rz_MM g (am_up (am_up (am_up (am_up (am_up g 164 44 (.int (kn + 1))) 184 np.toNatClampNeg (.int 14)) 164 41 (.int (np + 1))) 164 45 (.int 1)) 164 46 (.int 0)) := ab_Fr_up rfl (ab_Fr_up rfl (ab_Fr_up rfl (ab_Fr_up rfl (ab_Fr_up rfl ab_Fr_refl))))
      obtain ⟨-, -, x2_z, p2_z, R2, le2_z, t5_z, t6_z⟩ := pr_tok (rz_q02 (rq_0 Rk) FC' FM) q4250_z q4259_z
      have A2 := rp_x (by decide) (rz_p2 A FC' FM ((show rg_v (am_up (am_up (am_up h 11 0 (.int (kn + 1))) 47 np.toNatClampNeg (.int 15)) 44 13 (.int (np + 1))) 11 0 = kn + 1 from (show rg_v (am_up (am_up (am_up h 11 0 (.int (kn + 1))) 47 np.toNatClampNeg (.int 15)) 44 13 (.int (np + 1))) 11 0 = kn + 1 from rfl)).trans (show rg_v (am_up (am_up (am_up (am_up (am_up g 164 44 (.int (kn + 1))) 184 np.toNatClampNeg (.int 14)) 164 41 (.int (np + 1))) 164 45 (.int 1)) 164 46 (.int 0)) 164 44 = kn + 1 from (show rg_v (am_up (am_up (am_up (am_up (am_up g 164 44 (.int (kn + 1))) 184 np.toNatClampNeg (.int 14)) 164 41 (.int (np + 1))) 164 45 (.int 1)) 164 46 (.int 0)) 164 44 = kn + 1 from rfl)).symm) (by rw [show rg_v (am_up (am_up (am_up h 11 0 (.int (kn + 1))) 47 np.toNatClampNeg (.int 15)) 44 13 (.int (np + 1))) 11 0 = kn + 1 from (show rg_v (am_up (am_up (am_up h 11 0 (.int (kn + 1))) 47 np.toNatClampNeg (.int 15)) 44 13 (.int (np + 1))) 11 0 = kn + 1 from rfl)]; omega) (by rw [show rg_v (am_up (am_up (am_up h 11 0 (.int (kn + 1))) 47 np.toNatClampNeg (.int 15)) 44 13 (.int (np + 1))) 11 0 = kn + 1 from (show rg_v (am_up (am_up (am_up h 11 0 (.int (kn + 1))) 47 np.toNatClampNeg (.int 15)) 44 13 (.int (np + 1))) 11 0 = kn + 1 from rfl)]; omega)) (rx_C_f t5_z) (rx_M_f t6_z)
      have B2 := rp_tk (rz_t2 B FC FM) (rg_v_fr t5_z (by decide)) (fun k => rg_v_fr t6_z (rg_v_in (by decide) k)) (rx_M_f t6_z)
      have Z2 : rs 2 (am_up (am_up (am_up h 11 0 (.int (kn + 1))) 47 np.toNatClampNeg (.int 15)) 44 13 (.int (np + 1))) (am_up (am_up (am_up (am_up (am_up g 164 44 (.int (kn + 1))) 184 np.toNatClampNeg (.int 14)) 164 41 (.int (np + 1))) 164 45 (.int 1)) 164 46 (.int 0)) := rs_push (o := 15) (k := 14) (np := np) (op := op) Zk (by unfold rs_o; decide) z1_z z4_z (show rg_v (am_up (am_up (am_up h 11 0 (.int (kn + 1))) 47 np.toNatClampNeg (.int 15)) 44 13 (.int (np + 1))) 44 13 = np + 1 from (show rg_v (am_up (am_up (am_up h 11 0 (.int (kn + 1))) 47 np.toNatClampNeg (.int 15)) 44 13 (.int (np + 1))) 44 13 = np + 1 from rfl)) (show rg_v (am_up (am_up (am_up (am_up (am_up g 164 44 (.int (kn + 1))) 184 np.toNatClampNeg (.int 14)) 164 41 (.int (np + 1))) 164 45 (.int 1)) 164 46 (.int 0)) 164 41 = np + 1 from (show rg_v (am_up (am_up (am_up (am_up (am_up g 164 44 (.int (kn + 1))) 184 np.toNatClampNeg (.int 14)) 164 41 (.int (np + 1))) 164 45 (.int 1)) 164 46 (.int 0)) 164 41 = np + 1 from rfl)) (fun i hi_z => (show rg_v (am_up (am_up (am_up h 11 0 (.int (kn + 1))) 47 np.toNatClampNeg (.int 15)) 44 13 (.int (np + 1))) 47 i = rg_v h 47 i from rg_v_other (h := h) (o := 47) (k := np.toNatClampNeg) (v := .int 15) (by omega))) (show rg_v (am_up (am_up (am_up h 11 0 (.int (kn + 1))) 47 np.toNatClampNeg (.int 15)) 44 13 (.int (np + 1))) 47 np.toNatClampNeg = 15 from rg_v_self (h := h) (o := 47) (k := np.toNatClampNeg)) (fun i hi_z => (show rg_v (am_up (am_up (am_up (am_up (am_up g 164 44 (.int (kn + 1))) 184 np.toNatClampNeg (.int 14)) 164 41 (.int (np + 1))) 164 45 (.int 1)) 164 46 (.int 0)) 184 i = rg_v g 184 i from rg_v_other (h := g) (o := 184) (k := np.toNatClampNeg) (v := .int 14) (by omega))) (show rg_v (am_up (am_up (am_up (am_up (am_up g 164 44 (.int (kn + 1))) 184 np.toNatClampNeg (.int 14)) 164 41 (.int (np + 1))) 164 45 (.int 1)) 164 46 (.int 0)) 184 np.toNatClampNeg = 14 from rg_v_self (h := g) (o := 184) (k := np.toNatClampNeg)) (show (rg_v h 11 0).toInt ≤ 64 by rw [ekn]; exact nk3_z) (Or.inl ⟨by decide, (show rg_v (am_up (am_up (am_up h 11 0 (.int (kn + 1))) 47 np.toNatClampNeg (.int 15)) 44 13 (.int (np + 1))) 44 14 = op from (show rg_v (am_up (am_up (am_up h 11 0 (.int (kn + 1))) 47 np.toNatClampNeg (.int 15)) 44 13 (.int (np + 1))) 44 14 = op from z4_z)), (show rg_v (am_up (am_up (am_up (am_up (am_up g 164 44 (.int (kn + 1))) 184 np.toNatClampNeg (.int 14)) 164 41 (.int (np + 1))) 164 45 (.int 1)) 164 46 (.int 0)) 164 43 = op from (show rg_v (am_up (am_up (am_up (am_up (am_up g 164 44 (.int (kn + 1))) 184 np.toNatClampNeg (.int 14)) 164 41 (.int (np + 1))) 164 45 (.int 1)) 164 46 (.int 0)) 164 43 = op from z5_z)), (show (rg_v (am_up (am_up (am_up h 11 0 (.int (kn + 1))) 47 np.toNatClampNeg (.int 15)) 44 13 (.int (np + 1))) 11 0).toInt = (rg_v h 11 0).toInt + 1 by rw [(show rg_v (am_up (am_up (am_up h 11 0 (.int (kn + 1))) 47 np.toNatClampNeg (.int 15)) 44 13 (.int (np + 1))) 11 0 = kn + 1 from (show rg_v (am_up (am_up (am_up h 11 0 (.int (kn + 1))) 47 np.toNatClampNeg (.int 15)) 44 13 (.int (np + 1))) 11 0 = kn + 1 from rfl)), ekn]; exact e9_z)⟩)
      replace Z2 := rs_fr (by decide) Z2 t5_z t6_z
      have e45_z : rg_v h4258_z 164 45 = 1 := (rg_v_fr t6_z (by decide)).trans (show rg_v (am_up (am_up (am_up (am_up (am_up g 164 44 (.int (kn + 1))) 184 np.toNatClampNeg (.int 14)) 164 41 (.int (np + 1))) 164 45 (.int 1)) 164 46 (.int 0)) 164 45 = 1 from (show rg_v (am_up (am_up (am_up (am_up (am_up g 164 44 (.int (kn + 1))) 184 np.toNatClampNeg (.int 14)) 164 41 (.int (np + 1))) 164 45 (.int 1)) 164 46 (.int 0)) 164 45 = 1 from rfl))
      have e46_z : rg_v h4258_z 164 46 = 0 := (rg_v_fr t6_z (by decide)).trans (show rg_v (am_up (am_up (am_up (am_up (am_up g 164 44 (.int (kn + 1))) 184 np.toNatClampNeg (.int 14)) 164 41 (.int (np + 1))) 164 45 (.int 1)) 164 46 (.int 0)) 164 46 = 0 from (show rg_v (am_up (am_up (am_up (am_up (am_up g 164 44 (.int (kn + 1))) 184 np.toNatClampNeg (.int 14)) 164 41 (.int (np + 1))) 164 45 (.int 1)) 164 46 (.int 0)) 164 46 = 0 from rfl))
      replace hm_z : rn _ _ _ _ [] _ _ _ := hm_z
      replace hc_z : rn _ _ _ _ [] _ _ _ := hc_z
      replace hc_z := rn_iload_n (am_cur_of (i := (160, 1, .iload_n 1, (0, 0, 0), 0)) (by decide +kernel)) g1_z hc_z
      replace hc_z := rn_iconst (w := 3) (am_cur_of (i := (161, 1, .iconst 3, (0, 0, 0), 0)) (by decide +kernel)) (by decide) hc_z
      replace hc_z := rn_cmpF (am_cur_of (i := (162, 3, .if_icmp .eq 8, (89, 0, 0), 0)) (by decide +kernel)) (by decide) hc_z
      replace hc_z := rn_iload_n (am_cur_of (i := (165, 1, .iload_n 1, (0, 0, 0), 0)) (by decide +kernel)) g1_z hc_z
      replace hc_z := rn_iconst (w := 4) (am_cur_of (i := (166, 1, .iconst 4, (0, 0, 0), 0)) (by decide +kernel)) (by decide) hc_z
      replace hc_z := rn_cmpT (am_cur_of (i := (167, 3, .if_icmp .ne 7, (91, 0, 0), 0)) (by decide +kernel)) (by decide) hc_z
      replace hc_z := rn_iconst (w := 1) (am_cur_of (i := (174, 1, .iconst 1, (0, 0, 0), 0)) (by decide +kernel)) (by decide) hc_z
      replace hc_z := rn_iret (am_cur_of (i := (175, 1, .ireturn, (0, 0, 0), 0)) (by decide +kernel)) hc_z
      obtain ⟨e4260_z, e4261_z⟩ := hc_z
      replace hm_z := rn_iconst (w := 1) (am_cur_of (i := (257, 1, .iconst 1, (0, 0, 0), 0)) (by decide +kernel)) (by decide) hm_z
      replace hm_z := rn_iret (am_cur_of (i := (258, 1, .ireturn, (0, 0, 0), 0)) (by decide +kernel)) hm_z
      obtain ⟨e4262_z, e4263_z⟩ := hm_z
      subst e4260_z e4261_z e4262_z e4263_z
      exact Or.inl ⟨_, x2_z, p2_z, rfl, rfl, R2, le2_z, A2, B2, Z2, Or.inr (Or.inl ⟨rfl, e45_z, e46_z⟩)⟩
theorem rj_t3_23 {T : Nat → Int32} {S x p : Int32} {n n' : Nat} {h h' g g' : am_H} {r r' : Option Value} {ls ls2_z : am_L} (R : rq T S x p 23 h g) (A : rp 23 h g) (B : rp_t h g) (Z : rs 23 h g) (g0_z : am_get ls 0 = some (.ref 44)) (g1_z : am_get ls 1 = some (.int 3)) (g0m : am_get ls2_z 0 = some (.ref 164)) (g1m : am_get ls2_z 1 = some (.int 4)) (hc_z : rn n am_m44 76 ls [] h r h') (hm_z : rn n' am_m178 110 ls2_z [] g r' g') : rv_Q T S x p 23 h' g' r r' := by
  have Rk := R
  have Zk := Z
  obtain ⟨⟨c1_z, c2_z, c3_z, c4_z, c5_z, c6_z, c7_z, c8_z⟩, ⟨m2_z, m3_z, m4_z, m5_z, m6_z, m7_z, m8_z⟩, R3, R4, R5, R6, R7, R8, R9, R10⟩ := (R : rq T S x p 23 h g)
  obtain ⟨np, op, z1_z, z2_z, z3_z, z4_z, z5_z, z6_z, z7_z, z8_z, z9_z, z10_z⟩ := (Z : rs 23 h g)
  obtain ⟨nk1_z, nk2_z, nk3_z⟩ := A.2.2.2.2.2.1
  replace nk1_z : rg_v h 32 0 = rg_v g 164 44 := nk1_z
  replace nk2_z : 0 ≤ (rg_v h 32 0).toInt := nk2_z
  replace nk3_z : (rg_v h 32 0).toInt ≤ 64 := nk3_z
  replace z8_z : np.toInt ≤ (rg_v h 32 0).toInt + op.toInt := z8_z
  obtain ⟨kn, ekn⟩ : ∃ v, rg_v h 32 0 = v := ⟨_, rfl⟩
  rw [ekn] at nk1_z nk2_z nk3_z z8_z
  have e9_z := rt_c1 (x := kn) (by omega) (by omega)
  replace hc_z := rn_aload_n (am_cur_of (i := (147, 1, .aload_n 0, (0, 0, 0), 0)) (by decide +kernel)) g0_z hc_z
  replace hc_z := rn_callV (M' := am_m49) (o := 44) (ar := []) (rest := []) (L := lv_args 0 [.ref 44]) (am_cur_of (i := (148, 3, .invokevirtual 270, (49, 852, 3), 0)) (by decide +kernel)) rfl rfl rfl rfl hc_z
  obtain ⟨r4264_z, h4265_z, q4266_z, hc_z⟩ := hc_z
  rcases rs_ck23 R4 (show h 44 6 = .ref 23 from R3) q4266_z with ⟨ge, rfl, eh⟩ | ⟨lt, rfl, eh⟩
  · subst eh
    replace ge : 64 ≤ kn.toInt := by rw [← ekn]; exact ge
    replace hc_z : rn _ _ _ _ [] _ _ _ := hc_z
    have K := rs_stick (w := 2) (q := p) (a := 44) (by decide) (by decide) rfl (by decide) rfl (show rg_v (am_up (am_up h 44 1 (.int 2)) 44 2 (.int (rg_v h 44 9))) 44 2 = p from R5) hc_z
    replace hm_z := rn_aload_n (am_cur_of (i := (217, 1, .aload_n 0, (0, 0, 0), 0)) (by decide +kernel)) g0m hm_z
    replace hm_z := rn_callV (M' := am_m175) (o := 164) (ar := []) (rest := []) (L := lv_args 0 [.ref 164]) (am_cur_of (i := (218, 3, .invokevirtual 309, (175, 1731, 3), 0)) (by decide +kernel)) rfl rfl rfl rfl hm_z
    obtain ⟨r4267_z, h4268_z, q4269_z, hm_z⟩ := hm_z
    rcases rs_ic q4269_z with ⟨i1_z, rfl, i3_z⟩ | ⟨i1_z, -⟩
    · subst i3_z
      replace hm_z : rn _ _ _ _ [.int 0] _ _ _ := hm_z
      replace hm_z := rn_ifF (am_cur_of (i := (221, 3, .ifCond .ne 5, (115, 0, 0), 0)) (by decide +kernel)) (by decide) hm_z
      replace hm_z := rn_iconst (w := 0) (am_cur_of (i := (224, 1, .iconst 0, (0, 0, 0), 0)) (by decide +kernel)) (by decide) hm_z
      replace hm_z := rn_iret (am_cur_of (i := (225, 1, .ireturn, (0, 0, 0), 0)) (by decide +kernel)) hm_z
      obtain ⟨e4270_z, e4271_z⟩ := hm_z
      subst e4270_z e4271_z
      exact (Or.inr ⟨rfl, 2, by decide, K.1, K.2, rfl, R6⟩)
    · exact absurd (Int32.toInt_inj.mp (show (rg_v g 164 44).toInt = (64 : Int32).toInt from by rw [show rg_v g 164 44 = kn from nk1_z.symm, show (64 : Int32).toInt = 64 by decide]; omega)) i1_z
  · subst eh
    replace lt : kn.toInt < 64 := by rw [← ekn]; exact lt
    rw [show rg_v h 32 0 = kn from ekn] at hc_z
    replace hm_z := rn_aload_n (am_cur_of (i := (217, 1, .aload_n 0, (0, 0, 0), 0)) (by decide +kernel)) g0m hm_z
    replace hm_z := rn_callV (M' := am_m175) (o := 164) (ar := []) (rest := []) (L := lv_args 0 [.ref 164]) (am_cur_of (i := (218, 3, .invokevirtual 309, (175, 1731, 3), 0)) (by decide +kernel)) rfl rfl rfl rfl hm_z
    obtain ⟨r4272_z, h4273_z, q4274_z, hm_z⟩ := hm_z
    rcases rs_ic q4274_z with ⟨i1_z, -⟩ | ⟨i1_z, rfl, i3_z⟩
    · exfalso
      have zz := congrArg Int32.toInt i1_z
      rw [show rg_v g 164 44 = kn from nk1_z.symm, show (64 : Int32).toInt = 64 by decide] at zz
      omega
    · subst i3_z
      rw [show rg_v g 164 44 = kn from nk1_z.symm] at hm_z
      replace hm_z : rn _ _ _ _ [.int 1] _ _ _ := hm_z
      replace hc_z : rn _ _ _ _ [] _ _ _ := hc_z
      replace hc_z := rn_aload_n (am_cur_of (i := (151, 1, .aload_n 0, (0, 0, 0), 0)) (by decide +kernel)) g0_z hc_z
      replace hc_z := rn_iload_n (am_cur_of (i := (152, 1, .iload_n 1, (0, 0, 0), 0)) (by decide +kernel)) g1_z hc_z
      replace hc_z := rn_callV (M' := am_m50) (o := 44) (ar := [.int 3]) (rest := []) (L := lv_args 0 [.ref 44, .int 3]) (am_cur_of (i := (153, 3, .invokevirtual 273, (50, 856, 3), 0)) (by decide +kernel)) rfl rfl rfl rfl hc_z
      obtain ⟨r4275_z, h4276_z, q4277_z, hc_z⟩ := hc_z
      obtain ⟨rfl, eh⟩ := rs_hold (np := np) (show rg_v (am_up h 32 0 (.int (kn + 1))) 44 13 = np from z1_z) (by omega) q4277_z
      subst eh
      replace hc_z : rn _ _ _ _ [] _ _ _ := hc_z
      replace hc_z := rn_aload_n (am_cur_of (i := (156, 1, .aload_n 0, (0, 0, 0), 0)) (by decide +kernel)) g0_z hc_z
      replace hc_z := rn_callV (M' := am_m19) (o := 44) (ar := []) (rest := []) (L := lv_args 0 [.ref 44]) (am_cur_of (i := (157, 3, .invokevirtual 57, (19, 727, 3), 0)) (by decide +kernel)) rfl rfl rfl rfl hc_z
      obtain ⟨r4278_z, h4279_z, q4280_z, hc_z⟩ := hc_z
      have vo := rn_void rfl q4280_z
      subst vo
      replace hm_z := rn_ifT (am_cur_of (i := (221, 3, .ifCond .ne 5, (115, 0, 0), 0)) (by decide +kernel)) (by decide) hm_z
      replace hm_z := rn_aload_n (am_cur_of (i := (226, 1, .aload_n 0, (0, 0, 0), 0)) (by decide +kernel)) g0m hm_z
      replace hm_z := rn_iload_n (am_cur_of (i := (227, 1, .iload_n 1, (0, 0, 0), 0)) (by decide +kernel)) g1m hm_z
      replace hm_z := rn_callV (M' := am_m173) (o := 164) (ar := [.int 4]) (rest := []) (L := lv_args 0 [.ref 164, .int 4]) (am_cur_of (i := (228, 3, .invokevirtual 298, (173, 1723, 3), 0)) (by decide +kernel)) rfl rfl rfl rfl hm_z
      obtain ⟨r4281_z, h4282_z, q4283_z, hm_z⟩ := hm_z
      obtain ⟨rfl, eh⟩ := rs_wf (np := np) (show rg_v (am_up g 164 44 (.int (kn + 1))) 164 41 = np from z2_z) q4283_z
      subst eh
      replace hm_z : rn _ _ _ _ [] _ _ _ := hm_z
      replace hm_z := rn_aload_n (am_cur_of (i := (231, 1, .aload_n 0, (0, 0, 0), 0)) (by decide +kernel)) g0m hm_z
      replace hm_z := rn_iconst (w := 1) (am_cur_of (i := (232, 1, .iconst 1, (0, 0, 0), 0)) (by decide +kernel)) (by decide) hm_z
      replace hm_z := rn_put (am_cur_of (i := (233, 3, .putfield 315, (12, 45, 1429), 0)) (by decide +kernel)) (by decide +kernel) hm_z
      replace hm_z := rn_aload_n (am_cur_of (i := (236, 1, .aload_n 0, (0, 0, 0), 0)) (by decide +kernel)) g0m hm_z
      replace hm_z := rn_iload_n (am_cur_of (i := (237, 1, .iload_n 1, (0, 0, 0), 0)) (by decide +kernel)) g1m hm_z
      replace hm_z := rn_callS (M' := am_m180) (ar := [.int 4]) (rest := [.ref 164]) (L := lv_args 0 [.int 4]) (am_cur_of (i := (238, 3, .invokestatic 283, (180, 1751, 3), 0)) (by decide +kernel)) rfl rfl rfl rfl hm_z
      obtain ⟨r4284_z, h4285_z, q4286_z, hm_z⟩ := hm_z
      obtain ⟨rfl, yq4286_z⟩ := rs_rankM q4286_z
      replace yq4286_z := yq4286_z.symm
      subst yq4286_z
      rw [show rk_M 4 = 1 by decide] at hm_z
      replace hm_z : rn _ _ _ _ [.int 1, .ref 164] _ _ _ := hm_z
      replace hm_z := rn_iconst (w := 3) (am_cur_of (i := (241, 1, .iconst 3, (0, 0, 0), 0)) (by decide +kernel)) (by decide) hm_z
      replace hm_z := rn_cmpF (am_cur_of (i := (242, 3, .if_icmp .ge 7, (128, 0, 0), 0)) (by decide +kernel)) (by decide) hm_z
      replace hm_z := rn_iconst (w := 1) (am_cur_of (i := (245, 1, .iconst 1, (0, 0, 0), 0)) (by decide +kernel)) (by decide) hm_z
      replace hm_z := rn_goto (am_cur_of (i := (246, 3, .goto 4, (129, 0, 0), 0)) (by decide +kernel)) hm_z
      replace hm_z := rn_put (am_cur_of (i := (250, 3, .putfield 302, (12, 46, 1430), 0)) (by decide +kernel)) (by decide +kernel) hm_z
      replace hm_z := rn_aload_n (am_cur_of (i := (253, 1, .aload_n 0, (0, 0, 0), 0)) (by decide +kernel)) g0m hm_z
      replace hm_z := rn_callV (M' := am_m151) (o := 164) (ar := []) (rest := []) (L := lv_args 0 [.ref 164]) (am_cur_of (i := (254, 3, .invokevirtual 191, (151, 1636, 3), 0)) (by decide +kernel)) rfl rfl rfl rfl hm_z
      obtain ⟨r4287_z, h4288_z, q4289_z, hm_z⟩ := hm_z
      have vo := rn_void rfl q4289_z
      subst vo
      have FC : ab_Fr (rz_MC23.drop 1) h (am_up (am_up (am_up h 32 0 (.int (kn + 1))) 47 np.toNatClampNeg (.int 3)) 44 13 (.int (np + 1))) := ab_Fr_up rfl (ab_Fr_up rfl (ab_Fr_up rfl ab_Fr_refl))
      have FC' : ab_Fr rz_MC23 h (am_up (am_up (am_up h 32 0 (.int (kn + 1))) 47 np.toNatClampNeg (.int 3)) 44 13 (.int (np + 1))) := ab_Fr_sub (by decide) FC
      have FM : ab_Fr rz_MM g (am_up (am_up (am_up (am_up (am_up g 164 44 (.int (kn + 1))) 184 np.toNatClampNeg (.int 4)) 164 41 (.int (np + 1))) 164 45 (.int 1)) 164 46 (.int 1)) := ab_Fr_up rfl (ab_Fr_up rfl (ab_Fr_up rfl (ab_Fr_up rfl (ab_Fr_up rfl ab_Fr_refl))))
      obtain ⟨-, -, x2_z, p2_z, R2, le2_z, t5_z, t6_z⟩ := pr_tok (rz_q023 (rq_0 Rk) FC' FM) q4280_z q4289_z
      have A2 := rp_x (by decide) (rz_p23 A FC' FM ((show rg_v (am_up (am_up (am_up h 32 0 (.int (kn + 1))) 47 np.toNatClampNeg (.int 3)) 44 13 (.int (np + 1))) 32 0 = kn + 1 from (show rg_v (am_up (am_up (am_up h 32 0 (.int (kn + 1))) 47 np.toNatClampNeg (.int 3)) 44 13 (.int (np + 1))) 32 0 = kn + 1 from rfl)).trans (show rg_v (am_up (am_up (am_up (am_up (am_up g 164 44 (.int (kn + 1))) 184 np.toNatClampNeg (.int 4)) 164 41 (.int (np + 1))) 164 45 (.int 1)) 164 46 (.int 1)) 164 44 = kn + 1 from (show rg_v (am_up (am_up (am_up (am_up (am_up g 164 44 (.int (kn + 1))) 184 np.toNatClampNeg (.int 4)) 164 41 (.int (np + 1))) 164 45 (.int 1)) 164 46 (.int 1)) 164 44 = kn + 1 from rfl)).symm) (by rw [show rg_v (am_up (am_up (am_up h 32 0 (.int (kn + 1))) 47 np.toNatClampNeg (.int 3)) 44 13 (.int (np + 1))) 32 0 = kn + 1 from (show rg_v (am_up (am_up (am_up h 32 0 (.int (kn + 1))) 47 np.toNatClampNeg (.int 3)) 44 13 (.int (np + 1))) 32 0 = kn + 1 from rfl)]; omega) (by rw [show rg_v (am_up (am_up (am_up h 32 0 (.int (kn + 1))) 47 np.toNatClampNeg (.int 3)) 44 13 (.int (np + 1))) 32 0 = kn + 1 from (show rg_v (am_up (am_up (am_up h 32 0 (.int (kn + 1))) 47 np.toNatClampNeg (.int 3)) 44 13 (.int (np + 1))) 32 0 = kn + 1 from rfl)]; omega)) (rx_C_f t5_z) (rx_M_f t6_z)
      have B2 := rp_tk (rz_t23 B FC FM) (rg_v_fr t5_z (by decide)) (fun k => rg_v_fr t6_z (rg_v_in (by decide) k)) (rx_M_f t6_z)
      have Z2 : rs 23 (am_up (am_up (am_up h 32 0 (.int (kn + 1))) 47 np.toNatClampNeg (.int 3)) 44 13 (.int (np + 1))) (am_up (am_up (am_up (am_up (am_up g 164 44 (.int (kn + 1))) 184 np.toNatClampNeg (.int 4)) 164 41 (.int (np + 1))) 164 45 (.int 1)) 164 46 (.int 1)) := rs_push (o := 3) (k := 4) (np := np) (op := op) Zk (by unfold rs_o; decide) z1_z z4_z (show rg_v (am_up (am_up (am_up h 32 0 (.int (kn + 1))) 47 np.toNatClampNeg (.int 3)) 44 13 (.int (np + 1))) 44 13 = np + 1 from (show rg_v (am_up (am_up (am_up h 32 0 (.int (kn + 1))) 47 np.toNatClampNeg (.int 3)) 44 13 (.int (np + 1))) 44 13 = np + 1 from rfl)) (show rg_v (am_up (am_up (am_up (am_up (am_up g 164 44 (.int (kn + 1))) 184 np.toNatClampNeg (.int 4)) 164 41 (.int (np + 1))) 164 45 (.int 1)) 164 46 (.int 1)) 164 41 = np + 1 from (show rg_v (am_up (am_up (am_up (am_up (am_up g 164 44 (.int (kn + 1))) 184 np.toNatClampNeg (.int 4)) 164 41 (.int (np + 1))) 164 45 (.int 1)) 164 46 (.int 1)) 164 41 = np + 1 from rfl)) (fun i hi_z => (show rg_v (am_up (am_up (am_up h 32 0 (.int (kn + 1))) 47 np.toNatClampNeg (.int 3)) 44 13 (.int (np + 1))) 47 i = rg_v h 47 i from rg_v_other (h := h) (o := 47) (k := np.toNatClampNeg) (v := .int 3) (by omega))) (show rg_v (am_up (am_up (am_up h 32 0 (.int (kn + 1))) 47 np.toNatClampNeg (.int 3)) 44 13 (.int (np + 1))) 47 np.toNatClampNeg = 3 from rg_v_self (h := h) (o := 47) (k := np.toNatClampNeg)) (fun i hi_z => (show rg_v (am_up (am_up (am_up (am_up (am_up g 164 44 (.int (kn + 1))) 184 np.toNatClampNeg (.int 4)) 164 41 (.int (np + 1))) 164 45 (.int 1)) 164 46 (.int 1)) 184 i = rg_v g 184 i from rg_v_other (h := g) (o := 184) (k := np.toNatClampNeg) (v := .int 4) (by omega))) (show rg_v (am_up (am_up (am_up (am_up (am_up g 164 44 (.int (kn + 1))) 184 np.toNatClampNeg (.int 4)) 164 41 (.int (np + 1))) 164 45 (.int 1)) 164 46 (.int 1)) 184 np.toNatClampNeg = 4 from rg_v_self (h := g) (o := 184) (k := np.toNatClampNeg)) (show (rg_v h 32 0).toInt ≤ 64 by rw [ekn]; exact nk3_z) (Or.inl ⟨by decide, (show rg_v (am_up (am_up (am_up h 32 0 (.int (kn + 1))) 47 np.toNatClampNeg (.int 3)) 44 13 (.int (np + 1))) 44 14 = op from (show rg_v (am_up (am_up (am_up h 32 0 (.int (kn + 1))) 47 np.toNatClampNeg (.int 3)) 44 13 (.int (np + 1))) 44 14 = op from z4_z)), (show rg_v (am_up (am_up (am_up (am_up (am_up g 164 44 (.int (kn + 1))) 184 np.toNatClampNeg (.int 4)) 164 41 (.int (np + 1))) 164 45 (.int 1)) 164 46 (.int 1)) 164 43 = op from (show rg_v (am_up (am_up (am_up (am_up (am_up g 164 44 (.int (kn + 1))) 184 np.toNatClampNeg (.int 4)) 164 41 (.int (np + 1))) 164 45 (.int 1)) 164 46 (.int 1)) 164 43 = op from z5_z)), (show (rg_v (am_up (am_up (am_up h 32 0 (.int (kn + 1))) 47 np.toNatClampNeg (.int 3)) 44 13 (.int (np + 1))) 32 0).toInt = (rg_v h 32 0).toInt + 1 by rw [(show rg_v (am_up (am_up (am_up h 32 0 (.int (kn + 1))) 47 np.toNatClampNeg (.int 3)) 44 13 (.int (np + 1))) 32 0 = kn + 1 from (show rg_v (am_up (am_up (am_up h 32 0 (.int (kn + 1))) 47 np.toNatClampNeg (.int 3)) 44 13 (.int (np + 1))) 32 0 = kn + 1 from rfl)), ekn]; exact e9_z)⟩)
      replace Z2 := rs_fr (by decide) Z2 t5_z t6_z
      have e45_z : rg_v h4288_z 164 45 = 1 := (rg_v_fr t6_z (by decide)).trans (show rg_v (am_up (am_up (am_up (am_up (am_up g 164 44 (.int (kn + 1))) 184 np.toNatClampNeg (.int 4)) 164 41 (.int (np + 1))) 164 45 (.int 1)) 164 46 (.int 1)) 164 45 = 1 from (show rg_v (am_up (am_up (am_up (am_up (am_up g 164 44 (.int (kn + 1))) 184 np.toNatClampNeg (.int 4)) 164 41 (.int (np + 1))) 164 45 (.int 1)) 164 46 (.int 1)) 164 45 = 1 from rfl))
      have e46_z : rg_v h4288_z 164 46 = 1 := (rg_v_fr t6_z (by decide)).trans (show rg_v (am_up (am_up (am_up (am_up (am_up g 164 44 (.int (kn + 1))) 184 np.toNatClampNeg (.int 4)) 164 41 (.int (np + 1))) 164 45 (.int 1)) 164 46 (.int 1)) 164 46 = 1 from (show rg_v (am_up (am_up (am_up (am_up (am_up g 164 44 (.int (kn + 1))) 184 np.toNatClampNeg (.int 4)) 164 41 (.int (np + 1))) 164 45 (.int 1)) 164 46 (.int 1)) 164 46 = 1 from rfl))
      replace hm_z : rn _ _ _ _ [] _ _ _ := hm_z
      replace hc_z : rn _ _ _ _ [] _ _ _ := hc_z
      replace hc_z := rn_iload_n (am_cur_of (i := (160, 1, .iload_n 1, (0, 0, 0), 0)) (by decide +kernel)) g1_z hc_z
      replace hc_z := rn_iconst (w := 3) (am_cur_of (i := (161, 1, .iconst 3, (0, 0, 0), 0)) (by decide +kernel)) (by decide) hc_z
      replace hc_z := rn_cmpT (am_cur_of (i := (162, 3, .if_icmp .eq 8, (89, 0, 0), 0)) (by decide +kernel)) (by decide) hc_z
      replace hc_z := rn_iconst (w := 0) (am_cur_of (i := (170, 1, .iconst 0, (0, 0, 0), 0)) (by decide +kernel)) (by decide) hc_z
      replace hc_z := rn_goto (am_cur_of (i := (171, 3, .goto 4, (92, 0, 0), 0)) (by decide +kernel)) hc_z
      replace hc_z := rn_iret (am_cur_of (i := (175, 1, .ireturn, (0, 0, 0), 0)) (by decide +kernel)) hc_z
      obtain ⟨e4290_z, e4291_z⟩ := hc_z
      replace hm_z := rn_iconst (w := 1) (am_cur_of (i := (257, 1, .iconst 1, (0, 0, 0), 0)) (by decide +kernel)) (by decide) hm_z
      replace hm_z := rn_iret (am_cur_of (i := (258, 1, .ireturn, (0, 0, 0), 0)) (by decide +kernel)) hm_z
      obtain ⟨e4292_z, e4293_z⟩ := hm_z
      subst e4290_z e4291_z e4292_z e4293_z
      exact Or.inl ⟨_, x2_z, p2_z, rfl, rfl, R2, le2_z, A2, B2, Z2, Or.inl ⟨rfl, e45_z, e46_z⟩⟩
theorem rj_t4_23 {T : Nat → Int32} {S x p : Int32} {n n' : Nat} {h h' g g' : am_H} {r r' : Option Value} {ls ls2_z : am_L} (R : rq T S x p 23 h g) (A : rp 23 h g) (B : rp_t h g) (Z : rs 23 h g) (g0_z : am_get ls 0 = some (.ref 44)) (g1_z : am_get ls 1 = some (.int 4)) (g0m : am_get ls2_z 0 = some (.ref 164)) (g1m : am_get ls2_z 1 = some (.int 3)) (hc_z : rn n am_m44 76 ls [] h r h') (hm_z : rn n' am_m178 110 ls2_z [] g r' g') : rv_Q T S x p 23 h' g' r r' := by
  have Rk := R
  have Zk := Z
  obtain ⟨⟨c1_z, c2_z, c3_z, c4_z, c5_z, c6_z, c7_z, c8_z⟩, ⟨m2_z, m3_z, m4_z, m5_z, m6_z, m7_z, m8_z⟩, R3, R4, R5, R6, R7, R8, R9, R10⟩ := (R : rq T S x p 23 h g)
  obtain ⟨np, op, z1_z, z2_z, z3_z, z4_z, z5_z, z6_z, z7_z, z8_z, z9_z, z10_z⟩ := (Z : rs 23 h g)
  obtain ⟨nk1_z, nk2_z, nk3_z⟩ := A.2.2.2.2.2.1
  replace nk1_z : rg_v h 32 0 = rg_v g 164 44 := nk1_z
  replace nk2_z : 0 ≤ (rg_v h 32 0).toInt := nk2_z
  replace nk3_z : (rg_v h 32 0).toInt ≤ 64 := nk3_z
  replace z8_z : np.toInt ≤ (rg_v h 32 0).toInt + op.toInt := z8_z
  obtain ⟨kn, ekn⟩ : ∃ v, rg_v h 32 0 = v := ⟨_, rfl⟩
  rw [ekn] at nk1_z nk2_z nk3_z z8_z
  have e9_z := rt_c1 (x := kn) (by omega) (by omega)
  replace hc_z := rn_aload_n (am_cur_of (i := (147, 1, .aload_n 0, (0, 0, 0), 0)) (by decide +kernel)) g0_z hc_z
  replace hc_z := rn_callV (M' := am_m49) (o := 44) (ar := []) (rest := []) (L := lv_args 0 [.ref 44]) (am_cur_of (i := (148, 3, .invokevirtual 270, (49, 852, 3), 0)) (by decide +kernel)) rfl rfl rfl rfl hc_z
  obtain ⟨r4294_z, h4295_z, q4296_z, hc_z⟩ := hc_z
  rcases rs_ck23 R4 (show h 44 6 = .ref 23 from R3) q4296_z with ⟨ge, rfl, eh⟩ | ⟨lt, rfl, eh⟩
  · subst eh
    replace ge : 64 ≤ kn.toInt := by rw [← ekn]; exact ge
    replace hc_z : rn _ _ _ _ [] _ _ _ := hc_z
    have K := rs_stick (w := 2) (q := p) (a := 44) (by decide) (by decide) rfl (by decide) rfl (show rg_v (am_up (am_up h 44 1 (.int 2)) 44 2 (.int (rg_v h 44 9))) 44 2 = p from R5) hc_z
    replace hm_z := rn_aload_n (am_cur_of (i := (217, 1, .aload_n 0, (0, 0, 0), 0)) (by decide +kernel)) g0m hm_z
    replace hm_z := rn_callV (M' := am_m175) (o := 164) (ar := []) (rest := []) (L := lv_args 0 [.ref 164]) (am_cur_of (i := (218, 3, .invokevirtual 309, (175, 1731, 3), 0)) (by decide +kernel)) rfl rfl rfl rfl hm_z
    obtain ⟨r4297_z, h4298_z, q4299_z, hm_z⟩ := hm_z
    rcases rs_ic q4299_z with ⟨i1_z, rfl, i3_z⟩ | ⟨i1_z, -⟩
    · subst i3_z
      replace hm_z : rn _ _ _ _ [.int 0] _ _ _ := hm_z
      replace hm_z := rn_ifF (am_cur_of (i := (221, 3, .ifCond .ne 5, (115, 0, 0), 0)) (by decide +kernel)) (by decide) hm_z
      replace hm_z := rn_iconst (w := 0) (am_cur_of (i := (224, 1, .iconst 0, (0, 0, 0), 0)) (by decide +kernel)) (by decide) hm_z
      replace hm_z := rn_iret (am_cur_of (i := (225, 1, .ireturn, (0, 0, 0), 0)) (by decide +kernel)) hm_z
      obtain ⟨e4300_z, e4301_z⟩ := hm_z
      subst e4300_z e4301_z
      exact (Or.inr ⟨rfl, 2, by decide, K.1, K.2, rfl, R6⟩)
    · exact absurd (Int32.toInt_inj.mp (show (rg_v g 164 44).toInt = (64 : Int32).toInt from by rw [show rg_v g 164 44 = kn from nk1_z.symm, show (64 : Int32).toInt = 64 by decide]; omega)) i1_z
  · subst eh
    replace lt : kn.toInt < 64 := by rw [← ekn]; exact lt
    rw [show rg_v h 32 0 = kn from ekn] at hc_z
    replace hm_z := rn_aload_n (am_cur_of (i := (217, 1, .aload_n 0, (0, 0, 0), 0)) (by decide +kernel)) g0m hm_z
    replace hm_z := rn_callV (M' := am_m175) (o := 164) (ar := []) (rest := []) (L := lv_args 0 [.ref 164]) (am_cur_of (i := (218, 3, .invokevirtual 309, (175, 1731, 3), 0)) (by decide +kernel)) rfl rfl rfl rfl hm_z
    obtain ⟨r4302_z, h4303_z, q4304_z, hm_z⟩ := hm_z
    rcases rs_ic q4304_z with ⟨i1_z, -⟩ | ⟨i1_z, rfl, i3_z⟩
    · exfalso
      have zz := congrArg Int32.toInt i1_z
      rw [show rg_v g 164 44 = kn from nk1_z.symm, show (64 : Int32).toInt = 64 by decide] at zz
      omega
    · subst i3_z
      rw [show rg_v g 164 44 = kn from nk1_z.symm] at hm_z
      replace hm_z : rn _ _ _ _ [.int 1] _ _ _ := hm_z
      replace hc_z : rn _ _ _ _ [] _ _ _ := hc_z
      replace hc_z := rn_aload_n (am_cur_of (i := (151, 1, .aload_n 0, (0, 0, 0), 0)) (by decide +kernel)) g0_z hc_z
      replace hc_z := rn_iload_n (am_cur_of (i := (152, 1, .iload_n 1, (0, 0, 0), 0)) (by decide +kernel)) g1_z hc_z
      replace hc_z := rn_callV (M' := am_m50) (o := 44) (ar := [.int 4]) (rest := []) (L := lv_args 0 [.ref 44, .int 4]) (am_cur_of (i := (153, 3, .invokevirtual 273, (50, 856, 3), 0)) (by decide +kernel)) rfl rfl rfl rfl hc_z
      obtain ⟨r4305_z, h4306_z, q4307_z, hc_z⟩ := hc_z
      obtain ⟨rfl, eh⟩ := rs_hold (np := np) (show rg_v (am_up h 32 0 (.int (kn + 1))) 44 13 = np from z1_z) (by omega) q4307_z
      subst eh
      replace hc_z : rn _ _ _ _ [] _ _ _ := hc_z
      replace hc_z := rn_aload_n (am_cur_of (i := (156, 1, .aload_n 0, (0, 0, 0), 0)) (by decide +kernel)) g0_z hc_z
      replace hc_z := rn_callV (M' := am_m19) (o := 44) (ar := []) (rest := []) (L := lv_args 0 [.ref 44]) (am_cur_of (i := (157, 3, .invokevirtual 57, (19, 727, 3), 0)) (by decide +kernel)) rfl rfl rfl rfl hc_z
      obtain ⟨r4308_z, h4309_z, q4310_z, hc_z⟩ := hc_z
      have vo := rn_void rfl q4310_z
      subst vo
      replace hm_z := rn_ifT (am_cur_of (i := (221, 3, .ifCond .ne 5, (115, 0, 0), 0)) (by decide +kernel)) (by decide) hm_z
      replace hm_z := rn_aload_n (am_cur_of (i := (226, 1, .aload_n 0, (0, 0, 0), 0)) (by decide +kernel)) g0m hm_z
      replace hm_z := rn_iload_n (am_cur_of (i := (227, 1, .iload_n 1, (0, 0, 0), 0)) (by decide +kernel)) g1m hm_z
      replace hm_z := rn_callV (M' := am_m173) (o := 164) (ar := [.int 3]) (rest := []) (L := lv_args 0 [.ref 164, .int 3]) (am_cur_of (i := (228, 3, .invokevirtual 298, (173, 1723, 3), 0)) (by decide +kernel)) rfl rfl rfl rfl hm_z
      obtain ⟨r4311_z, h4312_z, q4313_z, hm_z⟩ := hm_z
      obtain ⟨rfl, eh⟩ := rs_wf (np := np) (show rg_v (am_up g 164 44 (.int (kn + 1))) 164 41 = np from z2_z) q4313_z
      subst eh
      replace hm_z : rn _ _ _ _ [] _ _ _ := hm_z
      replace hm_z := rn_aload_n (am_cur_of (i := (231, 1, .aload_n 0, (0, 0, 0), 0)) (by decide +kernel)) g0m hm_z
      replace hm_z := rn_iconst (w := 1) (am_cur_of (i := (232, 1, .iconst 1, (0, 0, 0), 0)) (by decide +kernel)) (by decide) hm_z
      replace hm_z := rn_put (am_cur_of (i := (233, 3, .putfield 315, (12, 45, 1429), 0)) (by decide +kernel)) (by decide +kernel) hm_z
      replace hm_z := rn_aload_n (am_cur_of (i := (236, 1, .aload_n 0, (0, 0, 0), 0)) (by decide +kernel)) g0m hm_z
      replace hm_z := rn_iload_n (am_cur_of (i := (237, 1, .iload_n 1, (0, 0, 0), 0)) (by decide +kernel)) g1m hm_z
      replace hm_z := rn_callS (M' := am_m180) (ar := [.int 3]) (rest := [.ref 164]) (L := lv_args 0 [.int 3]) (am_cur_of (i := (238, 3, .invokestatic 283, (180, 1751, 3), 0)) (by decide +kernel)) rfl rfl rfl rfl hm_z
      obtain ⟨r4314_z, h4315_z, q4316_z, hm_z⟩ := hm_z
      obtain ⟨rfl, yq4316_z⟩ := rs_rankM q4316_z
      replace yq4316_z := yq4316_z.symm
      subst yq4316_z
      rw [show rk_M 3 = 2 by decide] at hm_z
      replace hm_z : rn _ _ _ _ [.int 2, .ref 164] _ _ _ := hm_z
      replace hm_z := rn_iconst (w := 3) (am_cur_of (i := (241, 1, .iconst 3, (0, 0, 0), 0)) (by decide +kernel)) (by decide) hm_z
      replace hm_z := rn_cmpF (am_cur_of (i := (242, 3, .if_icmp .ge 7, (128, 0, 0), 0)) (by decide +kernel)) (by decide) hm_z
      replace hm_z := rn_iconst (w := 1) (am_cur_of (i := (245, 1, .iconst 1, (0, 0, 0), 0)) (by decide +kernel)) (by decide) hm_z
      replace hm_z := rn_goto (am_cur_of (i := (246, 3, .goto 4, (129, 0, 0), 0)) (by decide +kernel)) hm_z
      replace hm_z := rn_put (am_cur_of (i := (250, 3, .putfield 302, (12, 46, 1430), 0)) (by decide +kernel)) (by decide +kernel) hm_z
      replace hm_z := rn_aload_n (am_cur_of (i := (253, 1, .aload_n 0, (0, 0, 0), 0)) (by decide +kernel)) g0m hm_z
      replace hm_z := rn_callV (M' := am_m151) (o := 164) (ar := []) (rest := []) (L := lv_args 0 [.ref 164]) (am_cur_of (i := (254, 3, .invokevirtual 191, (151, 1636, 3), 0)) (by decide +kernel)) rfl rfl rfl rfl hm_z
      obtain ⟨r4317_z, h4318_z, q4319_z, hm_z⟩ := hm_z
      have vo := rn_void rfl q4319_z
      subst vo
      have FC : ab_Fr (rz_MC23.drop 1) h (am_up (am_up (am_up h 32 0 (.int (kn + 1))) 47 np.toNatClampNeg (.int 4)) 44 13 (.int (np + 1))) := ab_Fr_up rfl (ab_Fr_up rfl (ab_Fr_up rfl ab_Fr_refl))
      have FC' : ab_Fr rz_MC23 h (am_up (am_up (am_up h 32 0 (.int (kn + 1))) 47 np.toNatClampNeg (.int 4)) 44 13 (.int (np + 1))) := ab_Fr_sub (by decide) FC
      have FM : ab_Fr rz_MM g (am_up (am_up (am_up (am_up (am_up g 164 44 (.int (kn + 1))) 184 np.toNatClampNeg (.int 3)) 164 41 (.int (np + 1))) 164 45 (.int 1)) 164 46 (.int 1)) := ab_Fr_up rfl (ab_Fr_up rfl (ab_Fr_up rfl (ab_Fr_up rfl (ab_Fr_up rfl ab_Fr_refl))))
      obtain ⟨-, -, x2_z, p2_z, R2, le2_z, t5_z, t6_z⟩ := pr_tok (rz_q023 (rq_0 Rk) FC' FM) q4310_z q4319_z
      have A2 := rp_x (by decide) (rz_p23 A FC' FM ((show rg_v (am_up (am_up (am_up h 32 0 (.int (kn + 1))) 47 np.toNatClampNeg (.int 4)) 44 13 (.int (np + 1))) 32 0 = kn + 1 from (show rg_v (am_up (am_up (am_up h 32 0 (.int (kn + 1))) 47 np.toNatClampNeg (.int 4)) 44 13 (.int (np + 1))) 32 0 = kn + 1 from rfl)).trans (show rg_v (am_up (am_up (am_up (am_up (am_up g 164 44 (.int (kn + 1))) 184 np.toNatClampNeg (.int 3)) 164 41 (.int (np + 1))) 164 45 (.int 1)) 164 46 (.int 1)) 164 44 = kn + 1 from (show rg_v (am_up (am_up (am_up (am_up (am_up g 164 44 (.int (kn + 1))) 184 np.toNatClampNeg (.int 3)) 164 41 (.int (np + 1))) 164 45 (.int 1)) 164 46 (.int 1)) 164 44 = kn + 1 from rfl)).symm) (by rw [show rg_v (am_up (am_up (am_up h 32 0 (.int (kn + 1))) 47 np.toNatClampNeg (.int 4)) 44 13 (.int (np + 1))) 32 0 = kn + 1 from (show rg_v (am_up (am_up (am_up h 32 0 (.int (kn + 1))) 47 np.toNatClampNeg (.int 4)) 44 13 (.int (np + 1))) 32 0 = kn + 1 from rfl)]; omega) (by rw [show rg_v (am_up (am_up (am_up h 32 0 (.int (kn + 1))) 47 np.toNatClampNeg (.int 4)) 44 13 (.int (np + 1))) 32 0 = kn + 1 from (show rg_v (am_up (am_up (am_up h 32 0 (.int (kn + 1))) 47 np.toNatClampNeg (.int 4)) 44 13 (.int (np + 1))) 32 0 = kn + 1 from rfl)]; omega)) (rx_C_f t5_z) (rx_M_f t6_z)
      have B2 := rp_tk (rz_t23 B FC FM) (rg_v_fr t5_z (by decide)) (fun k => rg_v_fr t6_z (rg_v_in (by decide) k)) (rx_M_f t6_z)
      have Z2 : rs 23 (am_up (am_up (am_up h 32 0 (.int (kn + 1))) 47 np.toNatClampNeg (.int 4)) 44 13 (.int (np + 1))) (am_up (am_up (am_up (am_up (am_up g 164 44 (.int (kn + 1))) 184 np.toNatClampNeg (.int 3)) 164 41 (.int (np + 1))) 164 45 (.int 1)) 164 46 (.int 1)) := rs_push (o := 4) (k := 3) (np := np) (op := op) Zk (by unfold rs_o; decide) z1_z z4_z (show rg_v (am_up (am_up (am_up h 32 0 (.int (kn + 1))) 47 np.toNatClampNeg (.int 4)) 44 13 (.int (np + 1))) 44 13 = np + 1 from (show rg_v (am_up (am_up (am_up h 32 0 (.int (kn + 1))) 47 np.toNatClampNeg (.int 4)) 44 13 (.int (np + 1))) 44 13 = np + 1 from rfl)) (show rg_v (am_up (am_up (am_up (am_up (am_up g 164 44 (.int (kn + 1))) 184 np.toNatClampNeg (.int 3)) 164 41 (.int (np + 1))) 164 45 (.int 1)) 164 46 (.int 1)) 164 41 = np + 1 from (show rg_v (am_up (am_up (am_up (am_up (am_up g 164 44 (.int (kn + 1))) 184 np.toNatClampNeg (.int 3)) 164 41 (.int (np + 1))) 164 45 (.int 1)) 164 46 (.int 1)) 164 41 = np + 1 from rfl)) (fun i hi_z => (show rg_v (am_up (am_up (am_up h 32 0 (.int (kn + 1))) 47 np.toNatClampNeg (.int 4)) 44 13 (.int (np + 1))) 47 i = rg_v h 47 i from rg_v_other (h := h) (o := 47) (k := np.toNatClampNeg) (v := .int 4) (by omega))) (show rg_v (am_up (am_up (am_up h 32 0 (.int (kn + 1))) 47 np.toNatClampNeg (.int 4)) 44 13 (.int (np + 1))) 47 np.toNatClampNeg = 4 from rg_v_self (h := h) (o := 47) (k := np.toNatClampNeg)) (fun i hi_z => (show rg_v (am_up (am_up (am_up (am_up (am_up g 164 44 (.int (kn + 1))) 184 np.toNatClampNeg (.int 3)) 164 41 (.int (np + 1))) 164 45 (.int 1)) 164 46 (.int 1)) 184 i = rg_v g 184 i from rg_v_other (h := g) (o := 184) (k := np.toNatClampNeg) (v := .int 3) (by omega))) (show rg_v (am_up (am_up (am_up (am_up (am_up g 164 44 (.int (kn + 1))) 184 np.toNatClampNeg (.int 3)) 164 41 (.int (np + 1))) 164 45 (.int 1)) 164 46 (.int 1)) 184 np.toNatClampNeg = 3 from rg_v_self (h := g) (o := 184) (k := np.toNatClampNeg)) (show (rg_v h 32 0).toInt ≤ 64 by rw [ekn]; exact nk3_z) (Or.inl ⟨by decide, (show rg_v (am_up (am_up (am_up h 32 0 (.int (kn + 1))) 47 np.toNatClampNeg (.int 4)) 44 13 (.int (np + 1))) 44 14 = op from (show rg_v (am_up (am_up (am_up h 32 0 (.int (kn + 1))) 47 np.toNatClampNeg (.int 4)) 44 13 (.int (np + 1))) 44 14 = op from z4_z)), (show rg_v (am_up (am_up (am_up (am_up (am_up g 164 44 (.int (kn + 1))) 184 np.toNatClampNeg (.int 3)) 164 41 (.int (np + 1))) 164 45 (.int 1)) 164 46 (.int 1)) 164 43 = op from (show rg_v (am_up (am_up (am_up (am_up (am_up g 164 44 (.int (kn + 1))) 184 np.toNatClampNeg (.int 3)) 164 41 (.int (np + 1))) 164 45 (.int 1)) 164 46 (.int 1)) 164 43 = op from z5_z)), (show (rg_v (am_up (am_up (am_up h 32 0 (.int (kn + 1))) 47 np.toNatClampNeg (.int 4)) 44 13 (.int (np + 1))) 32 0).toInt = (rg_v h 32 0).toInt + 1 by rw [(show rg_v (am_up (am_up (am_up h 32 0 (.int (kn + 1))) 47 np.toNatClampNeg (.int 4)) 44 13 (.int (np + 1))) 32 0 = kn + 1 from (show rg_v (am_up (am_up (am_up h 32 0 (.int (kn + 1))) 47 np.toNatClampNeg (.int 4)) 44 13 (.int (np + 1))) 32 0 = kn + 1 from rfl)), ekn]; exact e9_z)⟩)
      replace Z2 := rs_fr (by decide) Z2 t5_z t6_z
      have e45_z : rg_v h4318_z 164 45 = 1 := (rg_v_fr t6_z (by decide)).trans (show rg_v (am_up (am_up (am_up (am_up (am_up g 164 44 (.int (kn + 1))) 184 np.toNatClampNeg (.int 3)) 164 41 (.int (np + 1))) 164 45 (.int 1)) 164 46 (.int 1)) 164 45 = 1 from (show rg_v (am_up (am_up (am_up (am_up (am_up g 164 44 (.int (kn + 1))) 184 np.toNatClampNeg (.int 3)) 164 41 (.int (np + 1))) 164 45 (.int 1)) 164 46 (.int 1)) 164 45 = 1 from rfl))
      have e46_z : rg_v h4318_z 164 46 = 1 := (rg_v_fr t6_z (by decide)).trans (show rg_v (am_up (am_up (am_up (am_up (am_up g 164 44 (.int (kn + 1))) 184 np.toNatClampNeg (.int 3)) 164 41 (.int (np + 1))) 164 45 (.int 1)) 164 46 (.int 1)) 164 46 = 1 from (show rg_v (am_up (am_up (am_up (am_up (am_up g 164 44 (.int (kn + 1))) 184 np.toNatClampNeg (.int 3)) 164 41 (.int (np + 1))) 164 45 (.int 1)) 164 46 (.int 1)) 164 46 = 1 from rfl))
      replace hm_z : rn _ _ _ _ [] _ _ _ := hm_z
      replace hc_z : rn _ _ _ _ [] _ _ _ := hc_z
      replace hc_z := rn_iload_n (am_cur_of (i := (160, 1, .iload_n 1, (0, 0, 0), 0)) (by decide +kernel)) g1_z hc_z
      replace hc_z := rn_iconst (w := 3) (am_cur_of (i := (161, 1, .iconst 3, (0, 0, 0), 0)) (by decide +kernel)) (by decide) hc_z
      replace hc_z := rn_cmpF (am_cur_of (i := (162, 3, .if_icmp .eq 8, (89, 0, 0), 0)) (by decide +kernel)) (by decide) hc_z
      replace hc_z := rn_iload_n (am_cur_of (i := (165, 1, .iload_n 1, (0, 0, 0), 0)) (by decide +kernel)) g1_z hc_z
      replace hc_z := rn_iconst (w := 4) (am_cur_of (i := (166, 1, .iconst 4, (0, 0, 0), 0)) (by decide +kernel)) (by decide) hc_z
      replace hc_z := rn_cmpF (am_cur_of (i := (167, 3, .if_icmp .ne 7, (91, 0, 0), 0)) (by decide +kernel)) (by decide) hc_z
      replace hc_z := rn_iconst (w := 0) (am_cur_of (i := (170, 1, .iconst 0, (0, 0, 0), 0)) (by decide +kernel)) (by decide) hc_z
      replace hc_z := rn_goto (am_cur_of (i := (171, 3, .goto 4, (92, 0, 0), 0)) (by decide +kernel)) hc_z
      replace hc_z := rn_iret (am_cur_of (i := (175, 1, .ireturn, (0, 0, 0), 0)) (by decide +kernel)) hc_z
      obtain ⟨e4320_z, e4321_z⟩ := hc_z
      replace hm_z := rn_iconst (w := 1) (am_cur_of (i := (257, 1, .iconst 1, (0, 0, 0), 0)) (by decide +kernel)) (by decide) hm_z
      replace hm_z := rn_iret (am_cur_of (i := (258, 1, .ireturn, (0, 0, 0), 0)) (by decide +kernel)) hm_z
      obtain ⟨e4322_z, e4323_z⟩ := hm_z
      subst e4320_z e4321_z e4322_z e4323_z
      exact Or.inl ⟨_, x2_z, p2_z, rfl, rfl, R2, le2_z, A2, B2, Z2, Or.inl ⟨rfl, e45_z, e46_z⟩⟩
theorem rj_t6_23 {T : Nat → Int32} {S x p : Int32} {n n' : Nat} {h h' g g' : am_H} {r r' : Option Value} {ls ls2_z : am_L} (R : rq T S x p 23 h g) (A : rp 23 h g) (B : rp_t h g) (Z : rs 23 h g) (g0_z : am_get ls 0 = some (.ref 44)) (g1_z : am_get ls 1 = some (.int 6)) (g0m : am_get ls2_z 0 = some (.ref 164)) (g1m : am_get ls2_z 1 = some (.int 5)) (hc_z : rn n am_m44 76 ls [] h r h') (hm_z : rn n' am_m178 110 ls2_z [] g r' g') : rv_Q T S x p 23 h' g' r r' := by
  have Rk := R
  have Zk := Z
  obtain ⟨⟨c1_z, c2_z, c3_z, c4_z, c5_z, c6_z, c7_z, c8_z⟩, ⟨m2_z, m3_z, m4_z, m5_z, m6_z, m7_z, m8_z⟩, R3, R4, R5, R6, R7, R8, R9, R10⟩ := (R : rq T S x p 23 h g)
  obtain ⟨np, op, z1_z, z2_z, z3_z, z4_z, z5_z, z6_z, z7_z, z8_z, z9_z, z10_z⟩ := (Z : rs 23 h g)
  obtain ⟨nk1_z, nk2_z, nk3_z⟩ := A.2.2.2.2.2.1
  replace nk1_z : rg_v h 32 0 = rg_v g 164 44 := nk1_z
  replace nk2_z : 0 ≤ (rg_v h 32 0).toInt := nk2_z
  replace nk3_z : (rg_v h 32 0).toInt ≤ 64 := nk3_z
  replace z8_z : np.toInt ≤ (rg_v h 32 0).toInt + op.toInt := z8_z
  obtain ⟨kn, ekn⟩ : ∃ v, rg_v h 32 0 = v := ⟨_, rfl⟩
  rw [ekn] at nk1_z nk2_z nk3_z z8_z
  have e9_z := rt_c1 (x := kn) (by omega) (by omega)
  replace hc_z := rn_aload_n (am_cur_of (i := (147, 1, .aload_n 0, (0, 0, 0), 0)) (by decide +kernel)) g0_z hc_z
  replace hc_z := rn_callV (M' := am_m49) (o := 44) (ar := []) (rest := []) (L := lv_args 0 [.ref 44]) (am_cur_of (i := (148, 3, .invokevirtual 270, (49, 852, 3), 0)) (by decide +kernel)) rfl rfl rfl rfl hc_z
  obtain ⟨r4324_z, h4325_z, q4326_z, hc_z⟩ := hc_z
  rcases rs_ck23 R4 (show h 44 6 = .ref 23 from R3) q4326_z with ⟨ge, rfl, eh⟩ | ⟨lt, rfl, eh⟩
  · subst eh
    replace ge : 64 ≤ kn.toInt := by rw [← ekn]; exact ge
    replace hc_z : rn _ _ _ _ [] _ _ _ := hc_z
    have K := rs_stick (w := 2) (q := p) (a := 44) (by decide) (by decide) rfl (by decide) rfl (show rg_v (am_up (am_up h 44 1 (.int 2)) 44 2 (.int (rg_v h 44 9))) 44 2 = p from R5) hc_z
    replace hm_z := rn_aload_n (am_cur_of (i := (217, 1, .aload_n 0, (0, 0, 0), 0)) (by decide +kernel)) g0m hm_z
    replace hm_z := rn_callV (M' := am_m175) (o := 164) (ar := []) (rest := []) (L := lv_args 0 [.ref 164]) (am_cur_of (i := (218, 3, .invokevirtual 309, (175, 1731, 3), 0)) (by decide +kernel)) rfl rfl rfl rfl hm_z
    obtain ⟨r4327_z, h4328_z, q4329_z, hm_z⟩ := hm_z
    rcases rs_ic q4329_z with ⟨i1_z, rfl, i3_z⟩ | ⟨i1_z, -⟩
    · subst i3_z
      replace hm_z : rn _ _ _ _ [.int 0] _ _ _ := hm_z
      replace hm_z := rn_ifF (am_cur_of (i := (221, 3, .ifCond .ne 5, (115, 0, 0), 0)) (by decide +kernel)) (by decide) hm_z
      replace hm_z := rn_iconst (w := 0) (am_cur_of (i := (224, 1, .iconst 0, (0, 0, 0), 0)) (by decide +kernel)) (by decide) hm_z
      replace hm_z := rn_iret (am_cur_of (i := (225, 1, .ireturn, (0, 0, 0), 0)) (by decide +kernel)) hm_z
      obtain ⟨e4330_z, e4331_z⟩ := hm_z
      subst e4330_z e4331_z
      exact (Or.inr ⟨rfl, 2, by decide, K.1, K.2, rfl, R6⟩)
    · exact absurd (Int32.toInt_inj.mp (show (rg_v g 164 44).toInt = (64 : Int32).toInt from by rw [show rg_v g 164 44 = kn from nk1_z.symm, show (64 : Int32).toInt = 64 by decide]; omega)) i1_z
  · subst eh
    replace lt : kn.toInt < 64 := by rw [← ekn]; exact lt
    rw [show rg_v h 32 0 = kn from ekn] at hc_z
    replace hm_z := rn_aload_n (am_cur_of (i := (217, 1, .aload_n 0, (0, 0, 0), 0)) (by decide +kernel)) g0m hm_z
    replace hm_z := rn_callV (M' := am_m175) (o := 164) (ar := []) (rest := []) (L := lv_args 0 [.ref 164]) (am_cur_of (i := (218, 3, .invokevirtual 309, (175, 1731, 3), 0)) (by decide +kernel)) rfl rfl rfl rfl hm_z
    obtain ⟨r4332_z, h4333_z, q4334_z, hm_z⟩ := hm_z
    rcases rs_ic q4334_z with ⟨i1_z, -⟩ | ⟨i1_z, rfl, i3_z⟩
    · exfalso
      have zz := congrArg Int32.toInt i1_z
      rw [show rg_v g 164 44 = kn from nk1_z.symm, show (64 : Int32).toInt = 64 by decide] at zz
      omega
    · subst i3_z
      rw [show rg_v g 164 44 = kn from nk1_z.symm] at hm_z
      replace hm_z : rn _ _ _ _ [.int 1] _ _ _ := hm_z
      replace hc_z : rn _ _ _ _ [] _ _ _ := hc_z
      replace hc_z := rn_aload_n (am_cur_of (i := (151, 1, .aload_n 0, (0, 0, 0), 0)) (by decide +kernel)) g0_z hc_z
      replace hc_z := rn_iload_n (am_cur_of (i := (152, 1, .iload_n 1, (0, 0, 0), 0)) (by decide +kernel)) g1_z hc_z
      replace hc_z := rn_callV (M' := am_m50) (o := 44) (ar := [.int 6]) (rest := []) (L := lv_args 0 [.ref 44, .int 6]) (am_cur_of (i := (153, 3, .invokevirtual 273, (50, 856, 3), 0)) (by decide +kernel)) rfl rfl rfl rfl hc_z
      obtain ⟨r4335_z, h4336_z, q4337_z, hc_z⟩ := hc_z
      obtain ⟨rfl, eh⟩ := rs_hold (np := np) (show rg_v (am_up h 32 0 (.int (kn + 1))) 44 13 = np from z1_z) (by omega) q4337_z
      subst eh
      replace hc_z : rn _ _ _ _ [] _ _ _ := hc_z
      replace hc_z := rn_aload_n (am_cur_of (i := (156, 1, .aload_n 0, (0, 0, 0), 0)) (by decide +kernel)) g0_z hc_z
      replace hc_z := rn_callV (M' := am_m19) (o := 44) (ar := []) (rest := []) (L := lv_args 0 [.ref 44]) (am_cur_of (i := (157, 3, .invokevirtual 57, (19, 727, 3), 0)) (by decide +kernel)) rfl rfl rfl rfl hc_z
      obtain ⟨r4338_z, h4339_z, q4340_z, hc_z⟩ := hc_z
      have vo := rn_void rfl q4340_z
      subst vo
      replace hm_z := rn_ifT (am_cur_of (i := (221, 3, .ifCond .ne 5, (115, 0, 0), 0)) (by decide +kernel)) (by decide) hm_z
      replace hm_z := rn_aload_n (am_cur_of (i := (226, 1, .aload_n 0, (0, 0, 0), 0)) (by decide +kernel)) g0m hm_z
      replace hm_z := rn_iload_n (am_cur_of (i := (227, 1, .iload_n 1, (0, 0, 0), 0)) (by decide +kernel)) g1m hm_z
      replace hm_z := rn_callV (M' := am_m173) (o := 164) (ar := [.int 5]) (rest := []) (L := lv_args 0 [.ref 164, .int 5]) (am_cur_of (i := (228, 3, .invokevirtual 298, (173, 1723, 3), 0)) (by decide +kernel)) rfl rfl rfl rfl hm_z
      obtain ⟨r4341_z, h4342_z, q4343_z, hm_z⟩ := hm_z
      obtain ⟨rfl, eh⟩ := rs_wf (np := np) (show rg_v (am_up g 164 44 (.int (kn + 1))) 164 41 = np from z2_z) q4343_z
      subst eh
      replace hm_z : rn _ _ _ _ [] _ _ _ := hm_z
      replace hm_z := rn_aload_n (am_cur_of (i := (231, 1, .aload_n 0, (0, 0, 0), 0)) (by decide +kernel)) g0m hm_z
      replace hm_z := rn_iconst (w := 1) (am_cur_of (i := (232, 1, .iconst 1, (0, 0, 0), 0)) (by decide +kernel)) (by decide) hm_z
      replace hm_z := rn_put (am_cur_of (i := (233, 3, .putfield 315, (12, 45, 1429), 0)) (by decide +kernel)) (by decide +kernel) hm_z
      replace hm_z := rn_aload_n (am_cur_of (i := (236, 1, .aload_n 0, (0, 0, 0), 0)) (by decide +kernel)) g0m hm_z
      replace hm_z := rn_iload_n (am_cur_of (i := (237, 1, .iload_n 1, (0, 0, 0), 0)) (by decide +kernel)) g1m hm_z
      replace hm_z := rn_callS (M' := am_m180) (ar := [.int 5]) (rest := [.ref 164]) (L := lv_args 0 [.int 5]) (am_cur_of (i := (238, 3, .invokestatic 283, (180, 1751, 3), 0)) (by decide +kernel)) rfl rfl rfl rfl hm_z
      obtain ⟨r4344_z, h4345_z, q4346_z, hm_z⟩ := hm_z
      obtain ⟨rfl, yq4346_z⟩ := rs_rankM q4346_z
      replace yq4346_z := yq4346_z.symm
      subst yq4346_z
      rw [show rk_M 5 = 4 by decide] at hm_z
      replace hm_z : rn _ _ _ _ [.int 4, .ref 164] _ _ _ := hm_z
      replace hm_z := rn_iconst (w := 3) (am_cur_of (i := (241, 1, .iconst 3, (0, 0, 0), 0)) (by decide +kernel)) (by decide) hm_z
      replace hm_z := rn_cmpT (am_cur_of (i := (242, 3, .if_icmp .ge 7, (128, 0, 0), 0)) (by decide +kernel)) (by decide) hm_z
      replace hm_z := rn_iconst (w := 0) (am_cur_of (i := (249, 1, .iconst 0, (0, 0, 0), 0)) (by decide +kernel)) (by decide) hm_z
      replace hm_z := rn_put (am_cur_of (i := (250, 3, .putfield 302, (12, 46, 1430), 0)) (by decide +kernel)) (by decide +kernel) hm_z
      replace hm_z := rn_aload_n (am_cur_of (i := (253, 1, .aload_n 0, (0, 0, 0), 0)) (by decide +kernel)) g0m hm_z
      replace hm_z := rn_callV (M' := am_m151) (o := 164) (ar := []) (rest := []) (L := lv_args 0 [.ref 164]) (am_cur_of (i := (254, 3, .invokevirtual 191, (151, 1636, 3), 0)) (by decide +kernel)) rfl rfl rfl rfl hm_z
      obtain ⟨r4347_z, h4348_z, q4349_z, hm_z⟩ := hm_z
      have vo := rn_void rfl q4349_z
      subst vo
      have FC : ab_Fr (rz_MC23.drop 1) h (am_up (am_up (am_up h 32 0 (.int (kn + 1))) 47 np.toNatClampNeg (.int 6)) 44 13 (.int (np + 1))) := ab_Fr_up rfl (ab_Fr_up rfl (ab_Fr_up rfl ab_Fr_refl))
      have FC' : ab_Fr rz_MC23 h (am_up (am_up (am_up h 32 0 (.int (kn + 1))) 47 np.toNatClampNeg (.int 6)) 44 13 (.int (np + 1))) := ab_Fr_sub (by decide) FC
      have FM : ab_Fr rz_MM g (am_up (am_up (am_up (am_up (am_up g 164 44 (.int (kn + 1))) 184 np.toNatClampNeg (.int 5)) 164 41 (.int (np + 1))) 164 45 (.int 1)) 164 46 (.int 0)) := ab_Fr_up rfl (ab_Fr_up rfl (ab_Fr_up rfl (ab_Fr_up rfl (ab_Fr_up rfl ab_Fr_refl))))
      obtain ⟨-, -, x2_z, p2_z, R2, le2_z, t5_z, t6_z⟩ := pr_tok (rz_q023 (rq_0 Rk) FC' FM) q4340_z q4349_z
      have A2 := rp_x (by decide) (rz_p23 A FC' FM ((show rg_v (am_up (am_up (am_up h 32 0 (.int (kn + 1))) 47 np.toNatClampNeg (.int 6)) 44 13 (.int (np + 1))) 32 0 = kn + 1 from (show rg_v (am_up (am_up (am_up h 32 0 (.int (kn + 1))) 47 np.toNatClampNeg (.int 6)) 44 13 (.int (np + 1))) 32 0 = kn + 1 from rfl)).trans (show rg_v (am_up (am_up (am_up (am_up (am_up g 164 44 (.int (kn + 1))) 184 np.toNatClampNeg (.int 5)) 164 41 (.int (np + 1))) 164 45 (.int 1)) 164 46 (.int 0)) 164 44 = kn + 1 from (show rg_v (am_up (am_up (am_up (am_up (am_up g 164 44 (.int (kn + 1))) 184 np.toNatClampNeg (.int 5)) 164 41 (.int (np + 1))) 164 45 (.int 1)) 164 46 (.int 0)) 164 44 = kn + 1 from rfl)).symm) (by rw [show rg_v (am_up (am_up (am_up h 32 0 (.int (kn + 1))) 47 np.toNatClampNeg (.int 6)) 44 13 (.int (np + 1))) 32 0 = kn + 1 from (show rg_v (am_up (am_up (am_up h 32 0 (.int (kn + 1))) 47 np.toNatClampNeg (.int 6)) 44 13 (.int (np + 1))) 32 0 = kn + 1 from rfl)]; omega) (by rw [show rg_v (am_up (am_up (am_up h 32 0 (.int (kn + 1))) 47 np.toNatClampNeg (.int 6)) 44 13 (.int (np + 1))) 32 0 = kn + 1 from (show rg_v (am_up (am_up (am_up h 32 0 (.int (kn + 1))) 47 np.toNatClampNeg (.int 6)) 44 13 (.int (np + 1))) 32 0 = kn + 1 from rfl)]; omega)) (rx_C_f t5_z) (rx_M_f t6_z)
      have B2 := rp_tk (rz_t23 B FC FM) (rg_v_fr t5_z (by decide)) (fun k => rg_v_fr t6_z (rg_v_in (by decide) k)) (rx_M_f t6_z)
      have Z2 : rs 23 (am_up (am_up (am_up h 32 0 (.int (kn + 1))) 47 np.toNatClampNeg (.int 6)) 44 13 (.int (np + 1))) (am_up (am_up (am_up (am_up (am_up g 164 44 (.int (kn + 1))) 184 np.toNatClampNeg (.int 5)) 164 41 (.int (np + 1))) 164 45 (.int 1)) 164 46 (.int 0)) := rs_push (o := 6) (k := 5) (np := np) (op := op) Zk (by unfold rs_o; decide) z1_z z4_z (show rg_v (am_up (am_up (am_up h 32 0 (.int (kn + 1))) 47 np.toNatClampNeg (.int 6)) 44 13 (.int (np + 1))) 44 13 = np + 1 from (show rg_v (am_up (am_up (am_up h 32 0 (.int (kn + 1))) 47 np.toNatClampNeg (.int 6)) 44 13 (.int (np + 1))) 44 13 = np + 1 from rfl)) (show rg_v (am_up (am_up (am_up (am_up (am_up g 164 44 (.int (kn + 1))) 184 np.toNatClampNeg (.int 5)) 164 41 (.int (np + 1))) 164 45 (.int 1)) 164 46 (.int 0)) 164 41 = np + 1 from (show rg_v (am_up (am_up (am_up (am_up (am_up g 164 44 (.int (kn + 1))) 184 np.toNatClampNeg (.int 5)) 164 41 (.int (np + 1))) 164 45 (.int 1)) 164 46 (.int 0)) 164 41 = np + 1 from rfl)) (fun i hi_z => (show rg_v (am_up (am_up (am_up h 32 0 (.int (kn + 1))) 47 np.toNatClampNeg (.int 6)) 44 13 (.int (np + 1))) 47 i = rg_v h 47 i from rg_v_other (h := h) (o := 47) (k := np.toNatClampNeg) (v := .int 6) (by omega))) (show rg_v (am_up (am_up (am_up h 32 0 (.int (kn + 1))) 47 np.toNatClampNeg (.int 6)) 44 13 (.int (np + 1))) 47 np.toNatClampNeg = 6 from rg_v_self (h := h) (o := 47) (k := np.toNatClampNeg)) (fun i hi_z => (show rg_v (am_up (am_up (am_up (am_up (am_up g 164 44 (.int (kn + 1))) 184 np.toNatClampNeg (.int 5)) 164 41 (.int (np + 1))) 164 45 (.int 1)) 164 46 (.int 0)) 184 i = rg_v g 184 i from rg_v_other (h := g) (o := 184) (k := np.toNatClampNeg) (v := .int 5) (by omega))) (show rg_v (am_up (am_up (am_up (am_up (am_up g 164 44 (.int (kn + 1))) 184 np.toNatClampNeg (.int 5)) 164 41 (.int (np + 1))) 164 45 (.int 1)) 164 46 (.int 0)) 184 np.toNatClampNeg = 5 from rg_v_self (h := g) (o := 184) (k := np.toNatClampNeg)) (show (rg_v h 32 0).toInt ≤ 64 by rw [ekn]; exact nk3_z) (Or.inl ⟨by decide, (show rg_v (am_up (am_up (am_up h 32 0 (.int (kn + 1))) 47 np.toNatClampNeg (.int 6)) 44 13 (.int (np + 1))) 44 14 = op from (show rg_v (am_up (am_up (am_up h 32 0 (.int (kn + 1))) 47 np.toNatClampNeg (.int 6)) 44 13 (.int (np + 1))) 44 14 = op from z4_z)), (show rg_v (am_up (am_up (am_up (am_up (am_up g 164 44 (.int (kn + 1))) 184 np.toNatClampNeg (.int 5)) 164 41 (.int (np + 1))) 164 45 (.int 1)) 164 46 (.int 0)) 164 43 = op from (show rg_v (am_up (am_up (am_up (am_up (am_up g 164 44 (.int (kn + 1))) 184 np.toNatClampNeg (.int 5)) 164 41 (.int (np + 1))) 164 45 (.int 1)) 164 46 (.int 0)) 164 43 = op from z5_z)), (show (rg_v (am_up (am_up (am_up h 32 0 (.int (kn + 1))) 47 np.toNatClampNeg (.int 6)) 44 13 (.int (np + 1))) 32 0).toInt = (rg_v h 32 0).toInt + 1 by rw [(show rg_v (am_up (am_up (am_up h 32 0 (.int (kn + 1))) 47 np.toNatClampNeg (.int 6)) 44 13 (.int (np + 1))) 32 0 = kn + 1 from (show rg_v (am_up (am_up (am_up h 32 0 (.int (kn + 1))) 47 np.toNatClampNeg (.int 6)) 44 13 (.int (np + 1))) 32 0 = kn + 1 from rfl)), ekn]; exact e9_z)⟩)
      replace Z2 := rs_fr (by decide) Z2 t5_z t6_z
      have e45_z : rg_v h4348_z 164 45 = 1 := (rg_v_fr t6_z (by decide)).trans (show rg_v (am_up (am_up (am_up (am_up (am_up g 164 44 (.int (kn + 1))) 184 np.toNatClampNeg (.int 5)) 164 41 (.int (np + 1))) 164 45 (.int 1)) 164 46 (.int 0)) 164 45 = 1 from (show rg_v (am_up (am_up (am_up (am_up (am_up g 164 44 (.int (kn + 1))) 184 np.toNatClampNeg (.int 5)) 164 41 (.int (np + 1))) 164 45 (.int 1)) 164 46 (.int 0)) 164 45 = 1 from rfl))
      have e46_z : rg_v h4348_z 164 46 = 0 := (rg_v_fr t6_z (by decide)).trans (show rg_v (am_up (am_up (am_up (am_up (am_up g 164 44 (.int (kn + 1))) 184 np.toNatClampNeg (.int 5)) 164 41 (.int (np + 1))) 164 45 (.int 1)) 164 46 (.int 0)) 164 46 = 0 from (show rg_v (am_up (am_up (am_up (am_up (am_up g 164 44 (.int (kn + 1))) 184 np.toNatClampNeg (.int 5)) 164 41 (.int (np + 1))) 164 45 (.int 1)) 164 46 (.int 0)) 164 46 = 0 from rfl))
      replace hm_z : rn _ _ _ _ [] _ _ _ := hm_z
      replace hc_z : rn _ _ _ _ [] _ _ _ := hc_z
      replace hc_z := rn_iload_n (am_cur_of (i := (160, 1, .iload_n 1, (0, 0, 0), 0)) (by decide +kernel)) g1_z hc_z
      replace hc_z := rn_iconst (w := 3) (am_cur_of (i := (161, 1, .iconst 3, (0, 0, 0), 0)) (by decide +kernel)) (by decide) hc_z
      replace hc_z := rn_cmpF (am_cur_of (i := (162, 3, .if_icmp .eq 8, (89, 0, 0), 0)) (by decide +kernel)) (by decide) hc_z
      replace hc_z := rn_iload_n (am_cur_of (i := (165, 1, .iload_n 1, (0, 0, 0), 0)) (by decide +kernel)) g1_z hc_z
      replace hc_z := rn_iconst (w := 4) (am_cur_of (i := (166, 1, .iconst 4, (0, 0, 0), 0)) (by decide +kernel)) (by decide) hc_z
      replace hc_z := rn_cmpT (am_cur_of (i := (167, 3, .if_icmp .ne 7, (91, 0, 0), 0)) (by decide +kernel)) (by decide) hc_z
      replace hc_z := rn_iconst (w := 1) (am_cur_of (i := (174, 1, .iconst 1, (0, 0, 0), 0)) (by decide +kernel)) (by decide) hc_z
      replace hc_z := rn_iret (am_cur_of (i := (175, 1, .ireturn, (0, 0, 0), 0)) (by decide +kernel)) hc_z
      obtain ⟨e4350_z, e4351_z⟩ := hc_z
      replace hm_z := rn_iconst (w := 1) (am_cur_of (i := (257, 1, .iconst 1, (0, 0, 0), 0)) (by decide +kernel)) (by decide) hm_z
      replace hm_z := rn_iret (am_cur_of (i := (258, 1, .ireturn, (0, 0, 0), 0)) (by decide +kernel)) hm_z
      obtain ⟨e4352_z, e4353_z⟩ := hm_z
      subst e4350_z e4351_z e4352_z e4353_z
      exact Or.inl ⟨_, x2_z, p2_z, rfl, rfl, R2, le2_z, A2, B2, Z2, Or.inr (Or.inl ⟨rfl, e45_z, e46_z⟩)⟩
theorem rj_t7_23 {T : Nat → Int32} {S x p : Int32} {n n' : Nat} {h h' g g' : am_H} {r r' : Option Value} {ls ls2_z : am_L} (R : rq T S x p 23 h g) (A : rp 23 h g) (B : rp_t h g) (Z : rs 23 h g) (g0_z : am_get ls 0 = some (.ref 44)) (g1_z : am_get ls 1 = some (.int 7)) (g0m : am_get ls2_z 0 = some (.ref 164)) (g1m : am_get ls2_z 1 = some (.int 6)) (hc_z : rn n am_m44 76 ls [] h r h') (hm_z : rn n' am_m178 110 ls2_z [] g r' g') : rv_Q T S x p 23 h' g' r r' := by
  have Rk := R
  have Zk := Z
  obtain ⟨⟨c1_z, c2_z, c3_z, c4_z, c5_z, c6_z, c7_z, c8_z⟩, ⟨m2_z, m3_z, m4_z, m5_z, m6_z, m7_z, m8_z⟩, R3, R4, R5, R6, R7, R8, R9, R10⟩ := (R : rq T S x p 23 h g)
  obtain ⟨np, op, z1_z, z2_z, z3_z, z4_z, z5_z, z6_z, z7_z, z8_z, z9_z, z10_z⟩ := (Z : rs 23 h g)
  obtain ⟨nk1_z, nk2_z, nk3_z⟩ := A.2.2.2.2.2.1
  replace nk1_z : rg_v h 32 0 = rg_v g 164 44 := nk1_z
  replace nk2_z : 0 ≤ (rg_v h 32 0).toInt := nk2_z
  replace nk3_z : (rg_v h 32 0).toInt ≤ 64 := nk3_z
  replace z8_z : np.toInt ≤ (rg_v h 32 0).toInt + op.toInt := z8_z
  obtain ⟨kn, ekn⟩ : ∃ v, rg_v h 32 0 = v := ⟨_, rfl⟩
  rw [ekn] at nk1_z nk2_z nk3_z z8_z
  have e9_z := rt_c1 (x := kn) (by omega) (by omega)
  replace hc_z := rn_aload_n (am_cur_of (i := (147, 1, .aload_n 0, (0, 0, 0), 0)) (by decide +kernel)) g0_z hc_z
  replace hc_z := rn_callV (M' := am_m49) (o := 44) (ar := []) (rest := []) (L := lv_args 0 [.ref 44]) (am_cur_of (i := (148, 3, .invokevirtual 270, (49, 852, 3), 0)) (by decide +kernel)) rfl rfl rfl rfl hc_z
  obtain ⟨r4354_z, h4355_z, q4356_z, hc_z⟩ := hc_z
  rcases rs_ck23 R4 (show h 44 6 = .ref 23 from R3) q4356_z with ⟨ge, rfl, eh⟩ | ⟨lt, rfl, eh⟩
  · subst eh
    replace ge : 64 ≤ kn.toInt := by rw [← ekn]; exact ge
    replace hc_z : rn _ _ _ _ [] _ _ _ := hc_z
    have K := rs_stick (w := 2) (q := p) (a := 44) (by decide) (by decide) rfl (by decide) rfl (show rg_v (am_up (am_up h 44 1 (.int 2)) 44 2 (.int (rg_v h 44 9))) 44 2 = p from R5) hc_z
    replace hm_z := rn_aload_n (am_cur_of (i := (217, 1, .aload_n 0, (0, 0, 0), 0)) (by decide +kernel)) g0m hm_z
    replace hm_z := rn_callV (M' := am_m175) (o := 164) (ar := []) (rest := []) (L := lv_args 0 [.ref 164]) (am_cur_of (i := (218, 3, .invokevirtual 309, (175, 1731, 3), 0)) (by decide +kernel)) rfl rfl rfl rfl hm_z
    obtain ⟨r4357_z, h4358_z, q4359_z, hm_z⟩ := hm_z
    rcases rs_ic q4359_z with ⟨i1_z, rfl, i3_z⟩ | ⟨i1_z, -⟩
    · subst i3_z
      replace hm_z : rn _ _ _ _ [.int 0] _ _ _ := hm_z
      replace hm_z := rn_ifF (am_cur_of (i := (221, 3, .ifCond .ne 5, (115, 0, 0), 0)) (by decide +kernel)) (by decide) hm_z
      replace hm_z := rn_iconst (w := 0) (am_cur_of (i := (224, 1, .iconst 0, (0, 0, 0), 0)) (by decide +kernel)) (by decide) hm_z
      replace hm_z := rn_iret (am_cur_of (i := (225, 1, .ireturn, (0, 0, 0), 0)) (by decide +kernel)) hm_z
      obtain ⟨e4360_z, e4361_z⟩ := hm_z
      subst e4360_z e4361_z
      exact (Or.inr ⟨rfl, 2, by decide, K.1, K.2, rfl, R6⟩)
    · exact absurd (Int32.toInt_inj.mp (show (rg_v g 164 44).toInt = (64 : Int32).toInt from by rw [show rg_v g 164 44 = kn from nk1_z.symm, show (64 : Int32).toInt = 64 by decide]; omega)) i1_z
  · subst eh
    replace lt : kn.toInt < 64 := by rw [← ekn]; exact lt
    rw [show rg_v h 32 0 = kn from ekn] at hc_z
    replace hm_z := rn_aload_n (am_cur_of (i := (217, 1, .aload_n 0, (0, 0, 0), 0)) (by decide +kernel)) g0m hm_z
    replace hm_z := rn_callV (M' := am_m175) (o := 164) (ar := []) (rest := []) (L := lv_args 0 [.ref 164]) (am_cur_of (i := (218, 3, .invokevirtual 309, (175, 1731, 3), 0)) (by decide +kernel)) rfl rfl rfl rfl hm_z
    obtain ⟨r4362_z, h4363_z, q4364_z, hm_z⟩ := hm_z
    rcases rs_ic q4364_z with ⟨i1_z, -⟩ | ⟨i1_z, rfl, i3_z⟩
    · exfalso
      have zz := congrArg Int32.toInt i1_z
      rw [show rg_v g 164 44 = kn from nk1_z.symm, show (64 : Int32).toInt = 64 by decide] at zz
      omega
    · subst i3_z
      rw [show rg_v g 164 44 = kn from nk1_z.symm] at hm_z
      replace hm_z : rn _ _ _ _ [.int 1] _ _ _ := hm_z
      replace hc_z : rn _ _ _ _ [] _ _ _ := hc_z
      replace hc_z := rn_aload_n (am_cur_of (i := (151, 1, .aload_n 0, (0, 0, 0), 0)) (by decide +kernel)) g0_z hc_z
      replace hc_z := rn_iload_n (am_cur_of (i := (152, 1, .iload_n 1, (0, 0, 0), 0)) (by decide +kernel)) g1_z hc_z
      replace hc_z := rn_callV (M' := am_m50) (o := 44) (ar := [.int 7]) (rest := []) (L := lv_args 0 [.ref 44, .int 7]) (am_cur_of (i := (153, 3, .invokevirtual 273, (50, 856, 3), 0)) (by decide +kernel)) rfl rfl rfl rfl hc_z
      obtain ⟨r4365_z, h4366_z, q4367_z, hc_z⟩ := hc_z
      obtain ⟨rfl, eh⟩ := rs_hold (np := np) (show rg_v (am_up h 32 0 (.int (kn + 1))) 44 13 = np from z1_z) (by omega) q4367_z
      subst eh
      replace hc_z : rn _ _ _ _ [] _ _ _ := hc_z
      replace hc_z := rn_aload_n (am_cur_of (i := (156, 1, .aload_n 0, (0, 0, 0), 0)) (by decide +kernel)) g0_z hc_z
      replace hc_z := rn_callV (M' := am_m19) (o := 44) (ar := []) (rest := []) (L := lv_args 0 [.ref 44]) (am_cur_of (i := (157, 3, .invokevirtual 57, (19, 727, 3), 0)) (by decide +kernel)) rfl rfl rfl rfl hc_z
      obtain ⟨r4368_z, h4369_z, q4370_z, hc_z⟩ := hc_z
      have vo := rn_void rfl q4370_z
      subst vo
      replace hm_z := rn_ifT (am_cur_of (i := (221, 3, .ifCond .ne 5, (115, 0, 0), 0)) (by decide +kernel)) (by decide) hm_z
      replace hm_z := rn_aload_n (am_cur_of (i := (226, 1, .aload_n 0, (0, 0, 0), 0)) (by decide +kernel)) g0m hm_z
      replace hm_z := rn_iload_n (am_cur_of (i := (227, 1, .iload_n 1, (0, 0, 0), 0)) (by decide +kernel)) g1m hm_z
      replace hm_z := rn_callV (M' := am_m173) (o := 164) (ar := [.int 6]) (rest := []) (L := lv_args 0 [.ref 164, .int 6]) (am_cur_of (i := (228, 3, .invokevirtual 298, (173, 1723, 3), 0)) (by decide +kernel)) rfl rfl rfl rfl hm_z
      obtain ⟨r4371_z, h4372_z, q4373_z, hm_z⟩ := hm_z
      obtain ⟨rfl, eh⟩ := rs_wf (np := np) (show rg_v (am_up g 164 44 (.int (kn + 1))) 164 41 = np from z2_z) q4373_z
      subst eh
      replace hm_z : rn _ _ _ _ [] _ _ _ := hm_z
      replace hm_z := rn_aload_n (am_cur_of (i := (231, 1, .aload_n 0, (0, 0, 0), 0)) (by decide +kernel)) g0m hm_z
      replace hm_z := rn_iconst (w := 1) (am_cur_of (i := (232, 1, .iconst 1, (0, 0, 0), 0)) (by decide +kernel)) (by decide) hm_z
      replace hm_z := rn_put (am_cur_of (i := (233, 3, .putfield 315, (12, 45, 1429), 0)) (by decide +kernel)) (by decide +kernel) hm_z
      replace hm_z := rn_aload_n (am_cur_of (i := (236, 1, .aload_n 0, (0, 0, 0), 0)) (by decide +kernel)) g0m hm_z
      replace hm_z := rn_iload_n (am_cur_of (i := (237, 1, .iload_n 1, (0, 0, 0), 0)) (by decide +kernel)) g1m hm_z
      replace hm_z := rn_callS (M' := am_m180) (ar := [.int 6]) (rest := [.ref 164]) (L := lv_args 0 [.int 6]) (am_cur_of (i := (238, 3, .invokestatic 283, (180, 1751, 3), 0)) (by decide +kernel)) rfl rfl rfl rfl hm_z
      obtain ⟨r4374_z, h4375_z, q4376_z, hm_z⟩ := hm_z
      obtain ⟨rfl, yq4376_z⟩ := rs_rankM q4376_z
      replace yq4376_z := yq4376_z.symm
      subst yq4376_z
      rw [show rk_M 6 = 4 by decide] at hm_z
      replace hm_z : rn _ _ _ _ [.int 4, .ref 164] _ _ _ := hm_z
      replace hm_z := rn_iconst (w := 3) (am_cur_of (i := (241, 1, .iconst 3, (0, 0, 0), 0)) (by decide +kernel)) (by decide) hm_z
      replace hm_z := rn_cmpT (am_cur_of (i := (242, 3, .if_icmp .ge 7, (128, 0, 0), 0)) (by decide +kernel)) (by decide) hm_z
      replace hm_z := rn_iconst (w := 0) (am_cur_of (i := (249, 1, .iconst 0, (0, 0, 0), 0)) (by decide +kernel)) (by decide) hm_z
      replace hm_z := rn_put (am_cur_of (i := (250, 3, .putfield 302, (12, 46, 1430), 0)) (by decide +kernel)) (by decide +kernel) hm_z
      replace hm_z := rn_aload_n (am_cur_of (i := (253, 1, .aload_n 0, (0, 0, 0), 0)) (by decide +kernel)) g0m hm_z
      replace hm_z := rn_callV (M' := am_m151) (o := 164) (ar := []) (rest := []) (L := lv_args 0 [.ref 164]) (am_cur_of (i := (254, 3, .invokevirtual 191, (151, 1636, 3), 0)) (by decide +kernel)) rfl rfl rfl rfl hm_z
      obtain ⟨r4377_z, h4378_z, q4379_z, hm_z⟩ := hm_z
      have vo := rn_void rfl q4379_z
      subst vo
      have FC : ab_Fr (rz_MC23.drop 1) h (am_up (am_up (am_up h 32 0 (.int (kn + 1))) 47 np.toNatClampNeg (.int 7)) 44 13 (.int (np + 1))) := ab_Fr_up rfl (ab_Fr_up rfl (ab_Fr_up rfl ab_Fr_refl))
      have FC' : ab_Fr rz_MC23 h (am_up (am_up (am_up h 32 0 (.int (kn + 1))) 47 np.toNatClampNeg (.int 7)) 44 13 (.int (np + 1))) := ab_Fr_sub (by decide) FC
      have FM : ab_Fr rz_MM g (am_up (am_up (am_up (am_up (am_up g 164 44 (.int (kn + 1))) 184 np.toNatClampNeg (.int 6)) 164 41 (.int (np + 1))) 164 45 (.int 1)) 164 46 (.int 0)) := ab_Fr_up rfl (ab_Fr_up rfl (ab_Fr_up rfl (ab_Fr_up rfl (ab_Fr_up rfl ab_Fr_refl))))
      obtain ⟨-, -, x2_z, p2_z, R2, le2_z, t5_z, t6_z⟩ := pr_tok (rz_q023 (rq_0 Rk) FC' FM) q4370_z q4379_z
      have A2 := rp_x (by decide) (rz_p23 A FC' FM ((show rg_v (am_up (am_up (am_up h 32 0 (.int (kn + 1))) 47 np.toNatClampNeg (.int 7)) 44 13 (.int (np + 1))) 32 0 = kn + 1 from (show rg_v (am_up (am_up (am_up h 32 0 (.int (kn + 1))) 47 np.toNatClampNeg (.int 7)) 44 13 (.int (np + 1))) 32 0 = kn + 1 from rfl)).trans (show rg_v (am_up (am_up (am_up (am_up (am_up g 164 44 (.int (kn + 1))) 184 np.toNatClampNeg (.int 6)) 164 41 (.int (np + 1))) 164 45 (.int 1)) 164 46 (.int 0)) 164 44 = kn + 1 from (show rg_v (am_up (am_up (am_up (am_up (am_up g 164 44 (.int (kn + 1))) 184 np.toNatClampNeg (.int 6)) 164 41 (.int (np + 1))) 164 45 (.int 1)) 164 46 (.int 0)) 164 44 = kn + 1 from rfl)).symm) (by rw [show rg_v (am_up (am_up (am_up h 32 0 (.int (kn + 1))) 47 np.toNatClampNeg (.int 7)) 44 13 (.int (np + 1))) 32 0 = kn + 1 from (show rg_v (am_up (am_up (am_up h 32 0 (.int (kn + 1))) 47 np.toNatClampNeg (.int 7)) 44 13 (.int (np + 1))) 32 0 = kn + 1 from rfl)]; omega) (by rw [show rg_v (am_up (am_up (am_up h 32 0 (.int (kn + 1))) 47 np.toNatClampNeg (.int 7)) 44 13 (.int (np + 1))) 32 0 = kn + 1 from (show rg_v (am_up (am_up (am_up h 32 0 (.int (kn + 1))) 47 np.toNatClampNeg (.int 7)) 44 13 (.int (np + 1))) 32 0 = kn + 1 from rfl)]; omega)) (rx_C_f t5_z) (rx_M_f t6_z)
      have B2 := rp_tk (rz_t23 B FC FM) (rg_v_fr t5_z (by decide)) (fun k => rg_v_fr t6_z (rg_v_in (by decide) k)) (rx_M_f t6_z)
      have Z2 : rs 23 (am_up (am_up (am_up h 32 0 (.int (kn + 1))) 47 np.toNatClampNeg (.int 7)) 44 13 (.int (np + 1))) (am_up (am_up (am_up (am_up (am_up g 164 44 (.int (kn + 1))) 184 np.toNatClampNeg (.int 6)) 164 41 (.int (np + 1))) 164 45 (.int 1)) 164 46 (.int 0)) := rs_push (o := 7) (k := 6) (np := np) (op := op) Zk (by unfold rs_o; decide) z1_z z4_z (show rg_v (am_up (am_up (am_up h 32 0 (.int (kn + 1))) 47 np.toNatClampNeg (.int 7)) 44 13 (.int (np + 1))) 44 13 = np + 1 from (show rg_v (am_up (am_up (am_up h 32 0 (.int (kn + 1))) 47 np.toNatClampNeg (.int 7)) 44 13 (.int (np + 1))) 44 13 = np + 1 from rfl)) (show rg_v (am_up (am_up (am_up (am_up (am_up g 164 44 (.int (kn + 1))) 184 np.toNatClampNeg (.int 6)) 164 41 (.int (np + 1))) 164 45 (.int 1)) 164 46 (.int 0)) 164 41 = np + 1 from (show rg_v (am_up (am_up (am_up (am_up (am_up g 164 44 (.int (kn + 1))) 184 np.toNatClampNeg (.int 6)) 164 41 (.int (np + 1))) 164 45 (.int 1)) 164 46 (.int 0)) 164 41 = np + 1 from rfl)) (fun i hi_z => (show rg_v (am_up (am_up (am_up h 32 0 (.int (kn + 1))) 47 np.toNatClampNeg (.int 7)) 44 13 (.int (np + 1))) 47 i = rg_v h 47 i from rg_v_other (h := h) (o := 47) (k := np.toNatClampNeg) (v := .int 7) (by omega))) (show rg_v (am_up (am_up (am_up h 32 0 (.int (kn + 1))) 47 np.toNatClampNeg (.int 7)) 44 13 (.int (np + 1))) 47 np.toNatClampNeg = 7 from rg_v_self (h := h) (o := 47) (k := np.toNatClampNeg)) (fun i hi_z => (show rg_v (am_up (am_up (am_up (am_up (am_up g 164 44 (.int (kn + 1))) 184 np.toNatClampNeg (.int 6)) 164 41 (.int (np + 1))) 164 45 (.int 1)) 164 46 (.int 0)) 184 i = rg_v g 184 i from rg_v_other (h := g) (o := 184) (k := np.toNatClampNeg) (v := .int 6) (by omega))) (show rg_v (am_up (am_up (am_up (am_up (am_up g 164 44 (.int (kn + 1))) 184 np.toNatClampNeg (.int 6)) 164 41 (.int (np + 1))) 164 45 (.int 1)) 164 46 (.int 0)) 184 np.toNatClampNeg = 6 from rg_v_self (h := g) (o := 184) (k := np.toNatClampNeg)) (show (rg_v h 32 0).toInt ≤ 64 by rw [ekn]; exact nk3_z) (Or.inl ⟨by decide, (show rg_v (am_up (am_up (am_up h 32 0 (.int (kn + 1))) 47 np.toNatClampNeg (.int 7)) 44 13 (.int (np + 1))) 44 14 = op from (show rg_v (am_up (am_up (am_up h 32 0 (.int (kn + 1))) 47 np.toNatClampNeg (.int 7)) 44 13 (.int (np + 1))) 44 14 = op from z4_z)), (show rg_v (am_up (am_up (am_up (am_up (am_up g 164 44 (.int (kn + 1))) 184 np.toNatClampNeg (.int 6)) 164 41 (.int (np + 1))) 164 45 (.int 1)) 164 46 (.int 0)) 164 43 = op from (show rg_v (am_up (am_up (am_up (am_up (am_up g 164 44 (.int (kn + 1))) 184 np.toNatClampNeg (.int 6)) 164 41 (.int (np + 1))) 164 45 (.int 1)) 164 46 (.int 0)) 164 43 = op from z5_z)), (show (rg_v (am_up (am_up (am_up h 32 0 (.int (kn + 1))) 47 np.toNatClampNeg (.int 7)) 44 13 (.int (np + 1))) 32 0).toInt = (rg_v h 32 0).toInt + 1 by rw [(show rg_v (am_up (am_up (am_up h 32 0 (.int (kn + 1))) 47 np.toNatClampNeg (.int 7)) 44 13 (.int (np + 1))) 32 0 = kn + 1 from (show rg_v (am_up (am_up (am_up h 32 0 (.int (kn + 1))) 47 np.toNatClampNeg (.int 7)) 44 13 (.int (np + 1))) 32 0 = kn + 1 from rfl)), ekn]; exact e9_z)⟩)
      replace Z2 := rs_fr (by decide) Z2 t5_z t6_z
      have e45_z : rg_v h4378_z 164 45 = 1 := (rg_v_fr t6_z (by decide)).trans (show rg_v (am_up (am_up (am_up (am_up (am_up g 164 44 (.int (kn + 1))) 184 np.toNatClampNeg (.int 6)) 164 41 (.int (np + 1))) 164 45 (.int 1)) 164 46 (.int 0)) 164 45 = 1 from (show rg_v (am_up (am_up (am_up (am_up (am_up g 164 44 (.int (kn + 1))) 184 np.toNatClampNeg (.int 6)) 164 41 (.int (np + 1))) 164 45 (.int 1)) 164 46 (.int 0)) 164 45 = 1 from rfl))
      have e46_z : rg_v h4378_z 164 46 = 0 := (rg_v_fr t6_z (by decide)).trans (show rg_v (am_up (am_up (am_up (am_up (am_up g 164 44 (.int (kn + 1))) 184 np.toNatClampNeg (.int 6)) 164 41 (.int (np + 1))) 164 45 (.int 1)) 164 46 (.int 0)) 164 46 = 0 from (show rg_v (am_up (am_up (am_up (am_up (am_up g 164 44 (.int (kn + 1))) 184 np.toNatClampNeg (.int 6)) 164 41 (.int (np + 1))) 164 45 (.int 1)) 164 46 (.int 0)) 164 46 = 0 from rfl))
      replace hm_z : rn _ _ _ _ [] _ _ _ := hm_z
      replace hc_z : rn _ _ _ _ [] _ _ _ := hc_z
      replace hc_z := rn_iload_n (am_cur_of (i := (160, 1, .iload_n 1, (0, 0, 0), 0)) (by decide +kernel)) g1_z hc_z
      replace hc_z := rn_iconst (w := 3) (am_cur_of (i := (161, 1, .iconst 3, (0, 0, 0), 0)) (by decide +kernel)) (by decide) hc_z
      replace hc_z := rn_cmpF (am_cur_of (i := (162, 3, .if_icmp .eq 8, (89, 0, 0), 0)) (by decide +kernel)) (by decide) hc_z
      replace hc_z := rn_iload_n (am_cur_of (i := (165, 1, .iload_n 1, (0, 0, 0), 0)) (by decide +kernel)) g1_z hc_z
      replace hc_z := rn_iconst (w := 4) (am_cur_of (i := (166, 1, .iconst 4, (0, 0, 0), 0)) (by decide +kernel)) (by decide) hc_z
      replace hc_z := rn_cmpT (am_cur_of (i := (167, 3, .if_icmp .ne 7, (91, 0, 0), 0)) (by decide +kernel)) (by decide) hc_z
      replace hc_z := rn_iconst (w := 1) (am_cur_of (i := (174, 1, .iconst 1, (0, 0, 0), 0)) (by decide +kernel)) (by decide) hc_z
      replace hc_z := rn_iret (am_cur_of (i := (175, 1, .ireturn, (0, 0, 0), 0)) (by decide +kernel)) hc_z
      obtain ⟨e4380_z, e4381_z⟩ := hc_z
      replace hm_z := rn_iconst (w := 1) (am_cur_of (i := (257, 1, .iconst 1, (0, 0, 0), 0)) (by decide +kernel)) (by decide) hm_z
      replace hm_z := rn_iret (am_cur_of (i := (258, 1, .ireturn, (0, 0, 0), 0)) (by decide +kernel)) hm_z
      obtain ⟨e4382_z, e4383_z⟩ := hm_z
      subst e4380_z e4381_z e4382_z e4383_z
      exact Or.inl ⟨_, x2_z, p2_z, rfl, rfl, R2, le2_z, A2, B2, Z2, Or.inr (Or.inl ⟨rfl, e45_z, e46_z⟩)⟩
theorem rj_t8_23 {T : Nat → Int32} {S x p : Int32} {n n' : Nat} {h h' g g' : am_H} {r r' : Option Value} {ls ls2_z : am_L} (R : rq T S x p 23 h g) (A : rp 23 h g) (B : rp_t h g) (Z : rs 23 h g) (g0_z : am_get ls 0 = some (.ref 44)) (g1_z : am_get ls 1 = some (.int 8)) (g0m : am_get ls2_z 0 = some (.ref 164)) (g1m : am_get ls2_z 1 = some (.int 7)) (hc_z : rn n am_m44 76 ls [] h r h') (hm_z : rn n' am_m178 110 ls2_z [] g r' g') : rv_Q T S x p 23 h' g' r r' := by
  have Rk := R
  have Zk := Z
  obtain ⟨⟨c1_z, c2_z, c3_z, c4_z, c5_z, c6_z, c7_z, c8_z⟩, ⟨m2_z, m3_z, m4_z, m5_z, m6_z, m7_z, m8_z⟩, R3, R4, R5, R6, R7, R8, R9, R10⟩ := (R : rq T S x p 23 h g)
  obtain ⟨np, op, z1_z, z2_z, z3_z, z4_z, z5_z, z6_z, z7_z, z8_z, z9_z, z10_z⟩ := (Z : rs 23 h g)
  obtain ⟨nk1_z, nk2_z, nk3_z⟩ := A.2.2.2.2.2.1
  replace nk1_z : rg_v h 32 0 = rg_v g 164 44 := nk1_z
  replace nk2_z : 0 ≤ (rg_v h 32 0).toInt := nk2_z
  replace nk3_z : (rg_v h 32 0).toInt ≤ 64 := nk3_z
  replace z8_z : np.toInt ≤ (rg_v h 32 0).toInt + op.toInt := z8_z
  obtain ⟨kn, ekn⟩ : ∃ v, rg_v h 32 0 = v := ⟨_, rfl⟩
  rw [ekn] at nk1_z nk2_z nk3_z z8_z
  have e9_z := rt_c1 (x := kn) (by omega) (by omega)
  replace hc_z := rn_aload_n (am_cur_of (i := (147, 1, .aload_n 0, (0, 0, 0), 0)) (by decide +kernel)) g0_z hc_z
  replace hc_z := rn_callV (M' := am_m49) (o := 44) (ar := []) (rest := []) (L := lv_args 0 [.ref 44]) (am_cur_of (i := (148, 3, .invokevirtual 270, (49, 852, 3), 0)) (by decide +kernel)) rfl rfl rfl rfl hc_z
  obtain ⟨r4384_z, h4385_z, q4386_z, hc_z⟩ := hc_z
  rcases rs_ck23 R4 (show h 44 6 = .ref 23 from R3) q4386_z with ⟨ge, rfl, eh⟩ | ⟨lt, rfl, eh⟩
  · subst eh
    replace ge : 64 ≤ kn.toInt := by rw [← ekn]; exact ge
    replace hc_z : rn _ _ _ _ [] _ _ _ := hc_z
    have K := rs_stick (w := 2) (q := p) (a := 44) (by decide) (by decide) rfl (by decide) rfl (show rg_v (am_up (am_up h 44 1 (.int 2)) 44 2 (.int (rg_v h 44 9))) 44 2 = p from R5) hc_z
    replace hm_z := rn_aload_n (am_cur_of (i := (217, 1, .aload_n 0, (0, 0, 0), 0)) (by decide +kernel)) g0m hm_z
    replace hm_z := rn_callV (M' := am_m175) (o := 164) (ar := []) (rest := []) (L := lv_args 0 [.ref 164]) (am_cur_of (i := (218, 3, .invokevirtual 309, (175, 1731, 3), 0)) (by decide +kernel)) rfl rfl rfl rfl hm_z
    obtain ⟨r4387_z, h4388_z, q4389_z, hm_z⟩ := hm_z
    rcases rs_ic q4389_z with ⟨i1_z, rfl, i3_z⟩ | ⟨i1_z, -⟩
    · subst i3_z
      replace hm_z : rn _ _ _ _ [.int 0] _ _ _ := hm_z
      replace hm_z := rn_ifF (am_cur_of (i := (221, 3, .ifCond .ne 5, (115, 0, 0), 0)) (by decide +kernel)) (by decide) hm_z
      replace hm_z := rn_iconst (w := 0) (am_cur_of (i := (224, 1, .iconst 0, (0, 0, 0), 0)) (by decide +kernel)) (by decide) hm_z
      replace hm_z := rn_iret (am_cur_of (i := (225, 1, .ireturn, (0, 0, 0), 0)) (by decide +kernel)) hm_z
      obtain ⟨e4390_z, e4391_z⟩ := hm_z
      subst e4390_z e4391_z
      exact (Or.inr ⟨rfl, 2, by decide, K.1, K.2, rfl, R6⟩)
    · exact absurd (Int32.toInt_inj.mp (show (rg_v g 164 44).toInt = (64 : Int32).toInt from by rw [show rg_v g 164 44 = kn from nk1_z.symm, show (64 : Int32).toInt = 64 by decide]; omega)) i1_z
  · subst eh
    replace lt : kn.toInt < 64 := by rw [← ekn]; exact lt
    rw [show rg_v h 32 0 = kn from ekn] at hc_z
    replace hm_z := rn_aload_n (am_cur_of (i := (217, 1, .aload_n 0, (0, 0, 0), 0)) (by decide +kernel)) g0m hm_z
    replace hm_z := rn_callV (M' := am_m175) (o := 164) (ar := []) (rest := []) (L := lv_args 0 [.ref 164]) (am_cur_of (i := (218, 3, .invokevirtual 309, (175, 1731, 3), 0)) (by decide +kernel)) rfl rfl rfl rfl hm_z
    obtain ⟨r4392_z, h4393_z, q4394_z, hm_z⟩ := hm_z
    rcases rs_ic q4394_z with ⟨i1_z, -⟩ | ⟨i1_z, rfl, i3_z⟩
    · exfalso
      have zz := congrArg Int32.toInt i1_z
      rw [show rg_v g 164 44 = kn from nk1_z.symm, show (64 : Int32).toInt = 64 by decide] at zz
      omega
    · subst i3_z
      rw [show rg_v g 164 44 = kn from nk1_z.symm] at hm_z
      replace hm_z : rn _ _ _ _ [.int 1] _ _ _ := hm_z
      replace hc_z : rn _ _ _ _ [] _ _ _ := hc_z
      replace hc_z := rn_aload_n (am_cur_of (i := (151, 1, .aload_n 0, (0, 0, 0), 0)) (by decide +kernel)) g0_z hc_z
      replace hc_z := rn_iload_n (am_cur_of (i := (152, 1, .iload_n 1, (0, 0, 0), 0)) (by decide +kernel)) g1_z hc_z
      replace hc_z := rn_callV (M' := am_m50) (o := 44) (ar := [.int 8]) (rest := []) (L := lv_args 0 [.ref 44, .int 8]) (am_cur_of (i := (153, 3, .invokevirtual 273, (50, 856, 3), 0)) (by decide +kernel)) rfl rfl rfl rfl hc_z
      obtain ⟨r4395_z, h4396_z, q4397_z, hc_z⟩ := hc_z
      obtain ⟨rfl, eh⟩ := rs_hold (np := np) (show rg_v (am_up h 32 0 (.int (kn + 1))) 44 13 = np from z1_z) (by omega) q4397_z
      subst eh
      replace hc_z : rn _ _ _ _ [] _ _ _ := hc_z
      replace hc_z := rn_aload_n (am_cur_of (i := (156, 1, .aload_n 0, (0, 0, 0), 0)) (by decide +kernel)) g0_z hc_z
      replace hc_z := rn_callV (M' := am_m19) (o := 44) (ar := []) (rest := []) (L := lv_args 0 [.ref 44]) (am_cur_of (i := (157, 3, .invokevirtual 57, (19, 727, 3), 0)) (by decide +kernel)) rfl rfl rfl rfl hc_z
      obtain ⟨r4398_z, h4399_z, q4400_z, hc_z⟩ := hc_z
      have vo := rn_void rfl q4400_z
      subst vo
      replace hm_z := rn_ifT (am_cur_of (i := (221, 3, .ifCond .ne 5, (115, 0, 0), 0)) (by decide +kernel)) (by decide) hm_z
      replace hm_z := rn_aload_n (am_cur_of (i := (226, 1, .aload_n 0, (0, 0, 0), 0)) (by decide +kernel)) g0m hm_z
      replace hm_z := rn_iload_n (am_cur_of (i := (227, 1, .iload_n 1, (0, 0, 0), 0)) (by decide +kernel)) g1m hm_z
      replace hm_z := rn_callV (M' := am_m173) (o := 164) (ar := [.int 7]) (rest := []) (L := lv_args 0 [.ref 164, .int 7]) (am_cur_of (i := (228, 3, .invokevirtual 298, (173, 1723, 3), 0)) (by decide +kernel)) rfl rfl rfl rfl hm_z
      obtain ⟨r4401_z, h4402_z, q4403_z, hm_z⟩ := hm_z
      obtain ⟨rfl, eh⟩ := rs_wf (np := np) (show rg_v (am_up g 164 44 (.int (kn + 1))) 164 41 = np from z2_z) q4403_z
      subst eh
      replace hm_z : rn _ _ _ _ [] _ _ _ := hm_z
      replace hm_z := rn_aload_n (am_cur_of (i := (231, 1, .aload_n 0, (0, 0, 0), 0)) (by decide +kernel)) g0m hm_z
      replace hm_z := rn_iconst (w := 1) (am_cur_of (i := (232, 1, .iconst 1, (0, 0, 0), 0)) (by decide +kernel)) (by decide) hm_z
      replace hm_z := rn_put (am_cur_of (i := (233, 3, .putfield 315, (12, 45, 1429), 0)) (by decide +kernel)) (by decide +kernel) hm_z
      replace hm_z := rn_aload_n (am_cur_of (i := (236, 1, .aload_n 0, (0, 0, 0), 0)) (by decide +kernel)) g0m hm_z
      replace hm_z := rn_iload_n (am_cur_of (i := (237, 1, .iload_n 1, (0, 0, 0), 0)) (by decide +kernel)) g1m hm_z
      replace hm_z := rn_callS (M' := am_m180) (ar := [.int 7]) (rest := [.ref 164]) (L := lv_args 0 [.int 7]) (am_cur_of (i := (238, 3, .invokestatic 283, (180, 1751, 3), 0)) (by decide +kernel)) rfl rfl rfl rfl hm_z
      obtain ⟨r4404_z, h4405_z, q4406_z, hm_z⟩ := hm_z
      obtain ⟨rfl, yq4406_z⟩ := rs_rankM q4406_z
      replace yq4406_z := yq4406_z.symm
      subst yq4406_z
      rw [show rk_M 7 = 4 by decide] at hm_z
      replace hm_z : rn _ _ _ _ [.int 4, .ref 164] _ _ _ := hm_z
      replace hm_z := rn_iconst (w := 3) (am_cur_of (i := (241, 1, .iconst 3, (0, 0, 0), 0)) (by decide +kernel)) (by decide) hm_z
      replace hm_z := rn_cmpT (am_cur_of (i := (242, 3, .if_icmp .ge 7, (128, 0, 0), 0)) (by decide +kernel)) (by decide) hm_z
      replace hm_z := rn_iconst (w := 0) (am_cur_of (i := (249, 1, .iconst 0, (0, 0, 0), 0)) (by decide +kernel)) (by decide) hm_z
      replace hm_z := rn_put (am_cur_of (i := (250, 3, .putfield 302, (12, 46, 1430), 0)) (by decide +kernel)) (by decide +kernel) hm_z
      replace hm_z := rn_aload_n (am_cur_of (i := (253, 1, .aload_n 0, (0, 0, 0), 0)) (by decide +kernel)) g0m hm_z
      replace hm_z := rn_callV (M' := am_m151) (o := 164) (ar := []) (rest := []) (L := lv_args 0 [.ref 164]) (am_cur_of (i := (254, 3, .invokevirtual 191, (151, 1636, 3), 0)) (by decide +kernel)) rfl rfl rfl rfl hm_z
      obtain ⟨r4407_z, h4408_z, q4409_z, hm_z⟩ := hm_z
      have vo := rn_void rfl q4409_z
      subst vo
      have FC : ab_Fr (rz_MC23.drop 1) h (am_up (am_up (am_up h 32 0 (.int (kn + 1))) 47 np.toNatClampNeg (.int 8)) 44 13 (.int (np + 1))) := ab_Fr_up rfl (ab_Fr_up rfl (ab_Fr_up rfl ab_Fr_refl))
      have FC' : ab_Fr rz_MC23 h (am_up (am_up (am_up h 32 0 (.int (kn + 1))) 47 np.toNatClampNeg (.int 8)) 44 13 (.int (np + 1))) := ab_Fr_sub (by decide) FC
      have FM : ab_Fr rz_MM g (am_up (am_up (am_up (am_up (am_up g 164 44 (.int (kn + 1))) 184 np.toNatClampNeg (.int 7)) 164 41 (.int (np + 1))) 164 45 (.int 1)) 164 46 (.int 0)) := ab_Fr_up rfl (ab_Fr_up rfl (ab_Fr_up rfl (ab_Fr_up rfl (ab_Fr_up rfl ab_Fr_refl))))
      obtain ⟨-, -, x2_z, p2_z, R2, le2_z, t5_z, t6_z⟩ := pr_tok (rz_q023 (rq_0 Rk) FC' FM) q4400_z q4409_z
      have A2 := rp_x (by decide) (rz_p23 A FC' FM ((show rg_v (am_up (am_up (am_up h 32 0 (.int (kn + 1))) 47 np.toNatClampNeg (.int 8)) 44 13 (.int (np + 1))) 32 0 = kn + 1 from (show rg_v (am_up (am_up (am_up h 32 0 (.int (kn + 1))) 47 np.toNatClampNeg (.int 8)) 44 13 (.int (np + 1))) 32 0 = kn + 1 from rfl)).trans (show rg_v (am_up (am_up (am_up (am_up (am_up g 164 44 (.int (kn + 1))) 184 np.toNatClampNeg (.int 7)) 164 41 (.int (np + 1))) 164 45 (.int 1)) 164 46 (.int 0)) 164 44 = kn + 1 from (show rg_v (am_up (am_up (am_up (am_up (am_up g 164 44 (.int (kn + 1))) 184 np.toNatClampNeg (.int 7)) 164 41 (.int (np + 1))) 164 45 (.int 1)) 164 46 (.int 0)) 164 44 = kn + 1 from rfl)).symm) (by rw [show rg_v (am_up (am_up (am_up h 32 0 (.int (kn + 1))) 47 np.toNatClampNeg (.int 8)) 44 13 (.int (np + 1))) 32 0 = kn + 1 from (show rg_v (am_up (am_up (am_up h 32 0 (.int (kn + 1))) 47 np.toNatClampNeg (.int 8)) 44 13 (.int (np + 1))) 32 0 = kn + 1 from rfl)]; omega) (by rw [show rg_v (am_up (am_up (am_up h 32 0 (.int (kn + 1))) 47 np.toNatClampNeg (.int 8)) 44 13 (.int (np + 1))) 32 0 = kn + 1 from (show rg_v (am_up (am_up (am_up h 32 0 (.int (kn + 1))) 47 np.toNatClampNeg (.int 8)) 44 13 (.int (np + 1))) 32 0 = kn + 1 from rfl)]; omega)) (rx_C_f t5_z) (rx_M_f t6_z)
      have B2 := rp_tk (rz_t23 B FC FM) (rg_v_fr t5_z (by decide)) (fun k => rg_v_fr t6_z (rg_v_in (by decide) k)) (rx_M_f t6_z)
      have Z2 : rs 23 (am_up (am_up (am_up h 32 0 (.int (kn + 1))) 47 np.toNatClampNeg (.int 8)) 44 13 (.int (np + 1))) (am_up (am_up (am_up (am_up (am_up g 164 44 (.int (kn + 1))) 184 np.toNatClampNeg (.int 7)) 164 41 (.int (np + 1))) 164 45 (.int 1)) 164 46 (.int 0)) := rs_push (o := 8) (k := 7) (np := np) (op := op) Zk (by unfold rs_o; decide) z1_z z4_z (show rg_v (am_up (am_up (am_up h 32 0 (.int (kn + 1))) 47 np.toNatClampNeg (.int 8)) 44 13 (.int (np + 1))) 44 13 = np + 1 from (show rg_v (am_up (am_up (am_up h 32 0 (.int (kn + 1))) 47 np.toNatClampNeg (.int 8)) 44 13 (.int (np + 1))) 44 13 = np + 1 from rfl)) (show rg_v (am_up (am_up (am_up (am_up (am_up g 164 44 (.int (kn + 1))) 184 np.toNatClampNeg (.int 7)) 164 41 (.int (np + 1))) 164 45 (.int 1)) 164 46 (.int 0)) 164 41 = np + 1 from (show rg_v (am_up (am_up (am_up (am_up (am_up g 164 44 (.int (kn + 1))) 184 np.toNatClampNeg (.int 7)) 164 41 (.int (np + 1))) 164 45 (.int 1)) 164 46 (.int 0)) 164 41 = np + 1 from rfl)) (fun i hi_z => (show rg_v (am_up (am_up (am_up h 32 0 (.int (kn + 1))) 47 np.toNatClampNeg (.int 8)) 44 13 (.int (np + 1))) 47 i = rg_v h 47 i from rg_v_other (h := h) (o := 47) (k := np.toNatClampNeg) (v := .int 8) (by omega))) (show rg_v (am_up (am_up (am_up h 32 0 (.int (kn + 1))) 47 np.toNatClampNeg (.int 8)) 44 13 (.int (np + 1))) 47 np.toNatClampNeg = 8 from rg_v_self (h := h) (o := 47) (k := np.toNatClampNeg)) (fun i hi_z => (show rg_v (am_up (am_up (am_up (am_up (am_up g 164 44 (.int (kn + 1))) 184 np.toNatClampNeg (.int 7)) 164 41 (.int (np + 1))) 164 45 (.int 1)) 164 46 (.int 0)) 184 i = rg_v g 184 i from rg_v_other (h := g) (o := 184) (k := np.toNatClampNeg) (v := .int 7) (by omega))) (show rg_v (am_up (am_up (am_up (am_up (am_up g 164 44 (.int (kn + 1))) 184 np.toNatClampNeg (.int 7)) 164 41 (.int (np + 1))) 164 45 (.int 1)) 164 46 (.int 0)) 184 np.toNatClampNeg = 7 from rg_v_self (h := g) (o := 184) (k := np.toNatClampNeg)) (show (rg_v h 32 0).toInt ≤ 64 by rw [ekn]; exact nk3_z) (Or.inl ⟨by decide, (show rg_v (am_up (am_up (am_up h 32 0 (.int (kn + 1))) 47 np.toNatClampNeg (.int 8)) 44 13 (.int (np + 1))) 44 14 = op from (show rg_v (am_up (am_up (am_up h 32 0 (.int (kn + 1))) 47 np.toNatClampNeg (.int 8)) 44 13 (.int (np + 1))) 44 14 = op from z4_z)), (show rg_v (am_up (am_up (am_up (am_up (am_up g 164 44 (.int (kn + 1))) 184 np.toNatClampNeg (.int 7)) 164 41 (.int (np + 1))) 164 45 (.int 1)) 164 46 (.int 0)) 164 43 = op from (show rg_v (am_up (am_up (am_up (am_up (am_up g 164 44 (.int (kn + 1))) 184 np.toNatClampNeg (.int 7)) 164 41 (.int (np + 1))) 164 45 (.int 1)) 164 46 (.int 0)) 164 43 = op from z5_z)), (show (rg_v (am_up (am_up (am_up h 32 0 (.int (kn + 1))) 47 np.toNatClampNeg (.int 8)) 44 13 (.int (np + 1))) 32 0).toInt = (rg_v h 32 0).toInt + 1 by rw [(show rg_v (am_up (am_up (am_up h 32 0 (.int (kn + 1))) 47 np.toNatClampNeg (.int 8)) 44 13 (.int (np + 1))) 32 0 = kn + 1 from (show rg_v (am_up (am_up (am_up h 32 0 (.int (kn + 1))) 47 np.toNatClampNeg (.int 8)) 44 13 (.int (np + 1))) 32 0 = kn + 1 from rfl)), ekn]; exact e9_z)⟩)
      replace Z2 := rs_fr (by decide) Z2 t5_z t6_z
      have e45_z : rg_v h4408_z 164 45 = 1 := (rg_v_fr t6_z (by decide)).trans (show rg_v (am_up (am_up (am_up (am_up (am_up g 164 44 (.int (kn + 1))) 184 np.toNatClampNeg (.int 7)) 164 41 (.int (np + 1))) 164 45 (.int 1)) 164 46 (.int 0)) 164 45 = 1 from (show rg_v (am_up (am_up (am_up (am_up (am_up g 164 44 (.int (kn + 1))) 184 np.toNatClampNeg (.int 7)) 164 41 (.int (np + 1))) 164 45 (.int 1)) 164 46 (.int 0)) 164 45 = 1 from rfl))
      have e46_z : rg_v h4408_z 164 46 = 0 := (rg_v_fr t6_z (by decide)).trans (show rg_v (am_up (am_up (am_up (am_up (am_up g 164 44 (.int (kn + 1))) 184 np.toNatClampNeg (.int 7)) 164 41 (.int (np + 1))) 164 45 (.int 1)) 164 46 (.int 0)) 164 46 = 0 from (show rg_v (am_up (am_up (am_up (am_up (am_up g 164 44 (.int (kn + 1))) 184 np.toNatClampNeg (.int 7)) 164 41 (.int (np + 1))) 164 45 (.int 1)) 164 46 (.int 0)) 164 46 = 0 from rfl))
      replace hm_z : rn _ _ _ _ [] _ _ _ := hm_z
      replace hc_z : rn _ _ _ _ [] _ _ _ := hc_z
      replace hc_z := rn_iload_n (am_cur_of (i := (160, 1, .iload_n 1, (0, 0, 0), 0)) (by decide +kernel)) g1_z hc_z
      replace hc_z := rn_iconst (w := 3) (am_cur_of (i := (161, 1, .iconst 3, (0, 0, 0), 0)) (by decide +kernel)) (by decide) hc_z
      replace hc_z := rn_cmpF (am_cur_of (i := (162, 3, .if_icmp .eq 8, (89, 0, 0), 0)) (by decide +kernel)) (by decide) hc_z
      replace hc_z := rn_iload_n (am_cur_of (i := (165, 1, .iload_n 1, (0, 0, 0), 0)) (by decide +kernel)) g1_z hc_z
      replace hc_z := rn_iconst (w := 4) (am_cur_of (i := (166, 1, .iconst 4, (0, 0, 0), 0)) (by decide +kernel)) (by decide) hc_z
      replace hc_z := rn_cmpT (am_cur_of (i := (167, 3, .if_icmp .ne 7, (91, 0, 0), 0)) (by decide +kernel)) (by decide) hc_z
      replace hc_z := rn_iconst (w := 1) (am_cur_of (i := (174, 1, .iconst 1, (0, 0, 0), 0)) (by decide +kernel)) (by decide) hc_z
      replace hc_z := rn_iret (am_cur_of (i := (175, 1, .ireturn, (0, 0, 0), 0)) (by decide +kernel)) hc_z
      obtain ⟨e4410_z, e4411_z⟩ := hc_z
      replace hm_z := rn_iconst (w := 1) (am_cur_of (i := (257, 1, .iconst 1, (0, 0, 0), 0)) (by decide +kernel)) (by decide) hm_z
      replace hm_z := rn_iret (am_cur_of (i := (258, 1, .ireturn, (0, 0, 0), 0)) (by decide +kernel)) hm_z
      obtain ⟨e4412_z, e4413_z⟩ := hm_z
      subst e4410_z e4411_z e4412_z e4413_z
      exact Or.inl ⟨_, x2_z, p2_z, rfl, rfl, R2, le2_z, A2, B2, Z2, Or.inr (Or.inl ⟨rfl, e45_z, e46_z⟩)⟩
theorem rj_t9_23 {T : Nat → Int32} {S x p : Int32} {n n' : Nat} {h h' g g' : am_H} {r r' : Option Value} {ls ls2_z : am_L} (R : rq T S x p 23 h g) (A : rp 23 h g) (B : rp_t h g) (Z : rs 23 h g) (g0_z : am_get ls 0 = some (.ref 44)) (g1_z : am_get ls 1 = some (.int 9)) (g0m : am_get ls2_z 0 = some (.ref 164)) (g1m : am_get ls2_z 1 = some (.int 8)) (hc_z : rn n am_m44 76 ls [] h r h') (hm_z : rn n' am_m178 110 ls2_z [] g r' g') : rv_Q T S x p 23 h' g' r r' := by
  have Rk := R
  have Zk := Z
  obtain ⟨⟨c1_z, c2_z, c3_z, c4_z, c5_z, c6_z, c7_z, c8_z⟩, ⟨m2_z, m3_z, m4_z, m5_z, m6_z, m7_z, m8_z⟩, R3, R4, R5, R6, R7, R8, R9, R10⟩ := (R : rq T S x p 23 h g)
  obtain ⟨np, op, z1_z, z2_z, z3_z, z4_z, z5_z, z6_z, z7_z, z8_z, z9_z, z10_z⟩ := (Z : rs 23 h g)
  obtain ⟨nk1_z, nk2_z, nk3_z⟩ := A.2.2.2.2.2.1
  replace nk1_z : rg_v h 32 0 = rg_v g 164 44 := nk1_z
  replace nk2_z : 0 ≤ (rg_v h 32 0).toInt := nk2_z
  replace nk3_z : (rg_v h 32 0).toInt ≤ 64 := nk3_z
  replace z8_z : np.toInt ≤ (rg_v h 32 0).toInt + op.toInt := z8_z
  obtain ⟨kn, ekn⟩ : ∃ v, rg_v h 32 0 = v := ⟨_, rfl⟩
  rw [ekn] at nk1_z nk2_z nk3_z z8_z
  have e9_z := rt_c1 (x := kn) (by omega) (by omega)
  replace hc_z := rn_aload_n (am_cur_of (i := (147, 1, .aload_n 0, (0, 0, 0), 0)) (by decide +kernel)) g0_z hc_z
  replace hc_z := rn_callV (M' := am_m49) (o := 44) (ar := []) (rest := []) (L := lv_args 0 [.ref 44]) (am_cur_of (i := (148, 3, .invokevirtual 270, (49, 852, 3), 0)) (by decide +kernel)) rfl rfl rfl rfl hc_z
  obtain ⟨r4414_z, h4415_z, q4416_z, hc_z⟩ := hc_z
  rcases rs_ck23 R4 (show h 44 6 = .ref 23 from R3) q4416_z with ⟨ge, rfl, eh⟩ | ⟨lt, rfl, eh⟩
  · subst eh
    replace ge : 64 ≤ kn.toInt := by rw [← ekn]; exact ge
    replace hc_z : rn _ _ _ _ [] _ _ _ := hc_z
    have K := rs_stick (w := 2) (q := p) (a := 44) (by decide) (by decide) rfl (by decide) rfl (show rg_v (am_up (am_up h 44 1 (.int 2)) 44 2 (.int (rg_v h 44 9))) 44 2 = p from R5) hc_z
    replace hm_z := rn_aload_n (am_cur_of (i := (217, 1, .aload_n 0, (0, 0, 0), 0)) (by decide +kernel)) g0m hm_z
    replace hm_z := rn_callV (M' := am_m175) (o := 164) (ar := []) (rest := []) (L := lv_args 0 [.ref 164]) (am_cur_of (i := (218, 3, .invokevirtual 309, (175, 1731, 3), 0)) (by decide +kernel)) rfl rfl rfl rfl hm_z
    obtain ⟨r4417_z, h4418_z, q4419_z, hm_z⟩ := hm_z
    rcases rs_ic q4419_z with ⟨i1_z, rfl, i3_z⟩ | ⟨i1_z, -⟩
    · subst i3_z
      replace hm_z : rn _ _ _ _ [.int 0] _ _ _ := hm_z
      replace hm_z := rn_ifF (am_cur_of (i := (221, 3, .ifCond .ne 5, (115, 0, 0), 0)) (by decide +kernel)) (by decide) hm_z
      replace hm_z := rn_iconst (w := 0) (am_cur_of (i := (224, 1, .iconst 0, (0, 0, 0), 0)) (by decide +kernel)) (by decide) hm_z
      replace hm_z := rn_iret (am_cur_of (i := (225, 1, .ireturn, (0, 0, 0), 0)) (by decide +kernel)) hm_z
      obtain ⟨e4420_z, e4421_z⟩ := hm_z
      subst e4420_z e4421_z
      exact (Or.inr ⟨rfl, 2, by decide, K.1, K.2, rfl, R6⟩)
    · exact absurd (Int32.toInt_inj.mp (show (rg_v g 164 44).toInt = (64 : Int32).toInt from by rw [show rg_v g 164 44 = kn from nk1_z.symm, show (64 : Int32).toInt = 64 by decide]; omega)) i1_z
  · subst eh
    replace lt : kn.toInt < 64 := by rw [← ekn]; exact lt
    rw [show rg_v h 32 0 = kn from ekn] at hc_z
    replace hm_z := rn_aload_n (am_cur_of (i := (217, 1, .aload_n 0, (0, 0, 0), 0)) (by decide +kernel)) g0m hm_z
    replace hm_z := rn_callV (M' := am_m175) (o := 164) (ar := []) (rest := []) (L := lv_args 0 [.ref 164]) (am_cur_of (i := (218, 3, .invokevirtual 309, (175, 1731, 3), 0)) (by decide +kernel)) rfl rfl rfl rfl hm_z
    obtain ⟨r4422_z, h4423_z, q4424_z, hm_z⟩ := hm_z
    rcases rs_ic q4424_z with ⟨i1_z, -⟩ | ⟨i1_z, rfl, i3_z⟩
    · exfalso
      have zz := congrArg Int32.toInt i1_z
      rw [show rg_v g 164 44 = kn from nk1_z.symm, show (64 : Int32).toInt = 64 by decide] at zz
      omega
    · subst i3_z
      rw [show rg_v g 164 44 = kn from nk1_z.symm] at hm_z
      replace hm_z : rn _ _ _ _ [.int 1] _ _ _ := hm_z
      replace hc_z : rn _ _ _ _ [] _ _ _ := hc_z
      replace hc_z := rn_aload_n (am_cur_of (i := (151, 1, .aload_n 0, (0, 0, 0), 0)) (by decide +kernel)) g0_z hc_z
      replace hc_z := rn_iload_n (am_cur_of (i := (152, 1, .iload_n 1, (0, 0, 0), 0)) (by decide +kernel)) g1_z hc_z
      replace hc_z := rn_callV (M' := am_m50) (o := 44) (ar := [.int 9]) (rest := []) (L := lv_args 0 [.ref 44, .int 9]) (am_cur_of (i := (153, 3, .invokevirtual 273, (50, 856, 3), 0)) (by decide +kernel)) rfl rfl rfl rfl hc_z
      obtain ⟨r4425_z, h4426_z, q4427_z, hc_z⟩ := hc_z
      obtain ⟨rfl, eh⟩ := rs_hold (np := np) (show rg_v (am_up h 32 0 (.int (kn + 1))) 44 13 = np from z1_z) (by omega) q4427_z
      subst eh
      replace hc_z : rn _ _ _ _ [] _ _ _ := hc_z
      replace hc_z := rn_aload_n (am_cur_of (i := (156, 1, .aload_n 0, (0, 0, 0), 0)) (by decide +kernel)) g0_z hc_z
      replace hc_z := rn_callV (M' := am_m19) (o := 44) (ar := []) (rest := []) (L := lv_args 0 [.ref 44]) (am_cur_of (i := (157, 3, .invokevirtual 57, (19, 727, 3), 0)) (by decide +kernel)) rfl rfl rfl rfl hc_z
      obtain ⟨r4428_z, h4429_z, q4430_z, hc_z⟩ := hc_z
      have vo := rn_void rfl q4430_z
      subst vo
      replace hm_z := rn_ifT (am_cur_of (i := (221, 3, .ifCond .ne 5, (115, 0, 0), 0)) (by decide +kernel)) (by decide) hm_z
      replace hm_z := rn_aload_n (am_cur_of (i := (226, 1, .aload_n 0, (0, 0, 0), 0)) (by decide +kernel)) g0m hm_z
      replace hm_z := rn_iload_n (am_cur_of (i := (227, 1, .iload_n 1, (0, 0, 0), 0)) (by decide +kernel)) g1m hm_z
      replace hm_z := rn_callV (M' := am_m173) (o := 164) (ar := [.int 8]) (rest := []) (L := lv_args 0 [.ref 164, .int 8]) (am_cur_of (i := (228, 3, .invokevirtual 298, (173, 1723, 3), 0)) (by decide +kernel)) rfl rfl rfl rfl hm_z
      obtain ⟨r4431_z, h4432_z, q4433_z, hm_z⟩ := hm_z
      obtain ⟨rfl, eh⟩ := rs_wf (np := np) (show rg_v (am_up g 164 44 (.int (kn + 1))) 164 41 = np from z2_z) q4433_z
      subst eh
      replace hm_z : rn _ _ _ _ [] _ _ _ := hm_z
      replace hm_z := rn_aload_n (am_cur_of (i := (231, 1, .aload_n 0, (0, 0, 0), 0)) (by decide +kernel)) g0m hm_z
      replace hm_z := rn_iconst (w := 1) (am_cur_of (i := (232, 1, .iconst 1, (0, 0, 0), 0)) (by decide +kernel)) (by decide) hm_z
      replace hm_z := rn_put (am_cur_of (i := (233, 3, .putfield 315, (12, 45, 1429), 0)) (by decide +kernel)) (by decide +kernel) hm_z
      replace hm_z := rn_aload_n (am_cur_of (i := (236, 1, .aload_n 0, (0, 0, 0), 0)) (by decide +kernel)) g0m hm_z
      replace hm_z := rn_iload_n (am_cur_of (i := (237, 1, .iload_n 1, (0, 0, 0), 0)) (by decide +kernel)) g1m hm_z
      replace hm_z := rn_callS (M' := am_m180) (ar := [.int 8]) (rest := [.ref 164]) (L := lv_args 0 [.int 8]) (am_cur_of (i := (238, 3, .invokestatic 283, (180, 1751, 3), 0)) (by decide +kernel)) rfl rfl rfl rfl hm_z
      obtain ⟨r4434_z, h4435_z, q4436_z, hm_z⟩ := hm_z
      obtain ⟨rfl, yq4436_z⟩ := rs_rankM q4436_z
      replace yq4436_z := yq4436_z.symm
      subst yq4436_z
      rw [show rk_M 8 = 4 by decide] at hm_z
      replace hm_z : rn _ _ _ _ [.int 4, .ref 164] _ _ _ := hm_z
      replace hm_z := rn_iconst (w := 3) (am_cur_of (i := (241, 1, .iconst 3, (0, 0, 0), 0)) (by decide +kernel)) (by decide) hm_z
      replace hm_z := rn_cmpT (am_cur_of (i := (242, 3, .if_icmp .ge 7, (128, 0, 0), 0)) (by decide +kernel)) (by decide) hm_z
      replace hm_z := rn_iconst (w := 0) (am_cur_of (i := (249, 1, .iconst 0, (0, 0, 0), 0)) (by decide +kernel)) (by decide) hm_z
      replace hm_z := rn_put (am_cur_of (i := (250, 3, .putfield 302, (12, 46, 1430), 0)) (by decide +kernel)) (by decide +kernel) hm_z
      replace hm_z := rn_aload_n (am_cur_of (i := (253, 1, .aload_n 0, (0, 0, 0), 0)) (by decide +kernel)) g0m hm_z
      replace hm_z := rn_callV (M' := am_m151) (o := 164) (ar := []) (rest := []) (L := lv_args 0 [.ref 164]) (am_cur_of (i := (254, 3, .invokevirtual 191, (151, 1636, 3), 0)) (by decide +kernel)) rfl rfl rfl rfl hm_z
      obtain ⟨r4437_z, h4438_z, q4439_z, hm_z⟩ := hm_z
      have vo := rn_void rfl q4439_z
      subst vo
      have FC : ab_Fr (rz_MC23.drop 1) h (am_up (am_up (am_up h 32 0 (.int (kn + 1))) 47 np.toNatClampNeg (.int 9)) 44 13 (.int (np + 1))) := ab_Fr_up rfl (ab_Fr_up rfl (ab_Fr_up rfl ab_Fr_refl))
      have FC' : ab_Fr rz_MC23 h (am_up (am_up (am_up h 32 0 (.int (kn + 1))) 47 np.toNatClampNeg (.int 9)) 44 13 (.int (np + 1))) := ab_Fr_sub (by decide) FC
      have FM : ab_Fr rz_MM g (am_up (am_up (am_up (am_up (am_up g 164 44 (.int (kn + 1))) 184 np.toNatClampNeg (.int 8)) 164 41 (.int (np + 1))) 164 45 (.int 1)) 164 46 (.int 0)) := ab_Fr_up rfl (ab_Fr_up rfl (ab_Fr_up rfl (ab_Fr_up rfl (ab_Fr_up rfl ab_Fr_refl))))
      obtain ⟨-, -, x2_z, p2_z, R2, le2_z, t5_z, t6_z⟩ := pr_tok (rz_q023 (rq_0 Rk) FC' FM) q4430_z q4439_z
      have A2 := rp_x (by decide) (rz_p23 A FC' FM ((show rg_v (am_up (am_up (am_up h 32 0 (.int (kn + 1))) 47 np.toNatClampNeg (.int 9)) 44 13 (.int (np + 1))) 32 0 = kn + 1 from (show rg_v (am_up (am_up (am_up h 32 0 (.int (kn + 1))) 47 np.toNatClampNeg (.int 9)) 44 13 (.int (np + 1))) 32 0 = kn + 1 from rfl)).trans (show rg_v (am_up (am_up (am_up (am_up (am_up g 164 44 (.int (kn + 1))) 184 np.toNatClampNeg (.int 8)) 164 41 (.int (np + 1))) 164 45 (.int 1)) 164 46 (.int 0)) 164 44 = kn + 1 from (show rg_v (am_up (am_up (am_up (am_up (am_up g 164 44 (.int (kn + 1))) 184 np.toNatClampNeg (.int 8)) 164 41 (.int (np + 1))) 164 45 (.int 1)) 164 46 (.int 0)) 164 44 = kn + 1 from rfl)).symm) (by rw [show rg_v (am_up (am_up (am_up h 32 0 (.int (kn + 1))) 47 np.toNatClampNeg (.int 9)) 44 13 (.int (np + 1))) 32 0 = kn + 1 from (show rg_v (am_up (am_up (am_up h 32 0 (.int (kn + 1))) 47 np.toNatClampNeg (.int 9)) 44 13 (.int (np + 1))) 32 0 = kn + 1 from rfl)]; omega) (by rw [show rg_v (am_up (am_up (am_up h 32 0 (.int (kn + 1))) 47 np.toNatClampNeg (.int 9)) 44 13 (.int (np + 1))) 32 0 = kn + 1 from (show rg_v (am_up (am_up (am_up h 32 0 (.int (kn + 1))) 47 np.toNatClampNeg (.int 9)) 44 13 (.int (np + 1))) 32 0 = kn + 1 from rfl)]; omega)) (rx_C_f t5_z) (rx_M_f t6_z)
      have B2 := rp_tk (rz_t23 B FC FM) (rg_v_fr t5_z (by decide)) (fun k => rg_v_fr t6_z (rg_v_in (by decide) k)) (rx_M_f t6_z)
      have Z2 : rs 23 (am_up (am_up (am_up h 32 0 (.int (kn + 1))) 47 np.toNatClampNeg (.int 9)) 44 13 (.int (np + 1))) (am_up (am_up (am_up (am_up (am_up g 164 44 (.int (kn + 1))) 184 np.toNatClampNeg (.int 8)) 164 41 (.int (np + 1))) 164 45 (.int 1)) 164 46 (.int 0)) := rs_push (o := 9) (k := 8) (np := np) (op := op) Zk (by unfold rs_o; decide) z1_z z4_z (show rg_v (am_up (am_up (am_up h 32 0 (.int (kn + 1))) 47 np.toNatClampNeg (.int 9)) 44 13 (.int (np + 1))) 44 13 = np + 1 from (show rg_v (am_up (am_up (am_up h 32 0 (.int (kn + 1))) 47 np.toNatClampNeg (.int 9)) 44 13 (.int (np + 1))) 44 13 = np + 1 from rfl)) (show rg_v (am_up (am_up (am_up (am_up (am_up g 164 44 (.int (kn + 1))) 184 np.toNatClampNeg (.int 8)) 164 41 (.int (np + 1))) 164 45 (.int 1)) 164 46 (.int 0)) 164 41 = np + 1 from (show rg_v (am_up (am_up (am_up (am_up (am_up g 164 44 (.int (kn + 1))) 184 np.toNatClampNeg (.int 8)) 164 41 (.int (np + 1))) 164 45 (.int 1)) 164 46 (.int 0)) 164 41 = np + 1 from rfl)) (fun i hi_z => (show rg_v (am_up (am_up (am_up h 32 0 (.int (kn + 1))) 47 np.toNatClampNeg (.int 9)) 44 13 (.int (np + 1))) 47 i = rg_v h 47 i from rg_v_other (h := h) (o := 47) (k := np.toNatClampNeg) (v := .int 9) (by omega))) (show rg_v (am_up (am_up (am_up h 32 0 (.int (kn + 1))) 47 np.toNatClampNeg (.int 9)) 44 13 (.int (np + 1))) 47 np.toNatClampNeg = 9 from rg_v_self (h := h) (o := 47) (k := np.toNatClampNeg)) (fun i hi_z => (show rg_v (am_up (am_up (am_up (am_up (am_up g 164 44 (.int (kn + 1))) 184 np.toNatClampNeg (.int 8)) 164 41 (.int (np + 1))) 164 45 (.int 1)) 164 46 (.int 0)) 184 i = rg_v g 184 i from rg_v_other (h := g) (o := 184) (k := np.toNatClampNeg) (v := .int 8) (by omega))) (show rg_v (am_up (am_up (am_up (am_up (am_up g 164 44 (.int (kn + 1))) 184 np.toNatClampNeg (.int 8)) 164 41 (.int (np + 1))) 164 45 (.int 1)) 164 46 (.int 0)) 184 np.toNatClampNeg = 8 from rg_v_self (h := g) (o := 184) (k := np.toNatClampNeg)) (show (rg_v h 32 0).toInt ≤ 64 by rw [ekn]; exact nk3_z) (Or.inl ⟨by decide, (show rg_v (am_up (am_up (am_up h 32 0 (.int (kn + 1))) 47 np.toNatClampNeg (.int 9)) 44 13 (.int (np + 1))) 44 14 = op from (show rg_v (am_up (am_up (am_up h 32 0 (.int (kn + 1))) 47 np.toNatClampNeg (.int 9)) 44 13 (.int (np + 1))) 44 14 = op from z4_z)), (show rg_v (am_up (am_up (am_up (am_up (am_up g 164 44 (.int (kn + 1))) 184 np.toNatClampNeg (.int 8)) 164 41 (.int (np + 1))) 164 45 (.int 1)) 164 46 (.int 0)) 164 43 = op from (show rg_v (am_up (am_up (am_up (am_up (am_up g 164 44 (.int (kn + 1))) 184 np.toNatClampNeg (.int 8)) 164 41 (.int (np + 1))) 164 45 (.int 1)) 164 46 (.int 0)) 164 43 = op from z5_z)), (show (rg_v (am_up (am_up (am_up h 32 0 (.int (kn + 1))) 47 np.toNatClampNeg (.int 9)) 44 13 (.int (np + 1))) 32 0).toInt = (rg_v h 32 0).toInt + 1 by rw [(show rg_v (am_up (am_up (am_up h 32 0 (.int (kn + 1))) 47 np.toNatClampNeg (.int 9)) 44 13 (.int (np + 1))) 32 0 = kn + 1 from (show rg_v (am_up (am_up (am_up h 32 0 (.int (kn + 1))) 47 np.toNatClampNeg (.int 9)) 44 13 (.int (np + 1))) 32 0 = kn + 1 from rfl)), ekn]; exact e9_z)⟩)
      replace Z2 := rs_fr (by decide) Z2 t5_z t6_z
      have e45_z : rg_v h4438_z 164 45 = 1 := (rg_v_fr t6_z (by decide)).trans (show rg_v (am_up (am_up (am_up (am_up (am_up g 164 44 (.int (kn + 1))) 184 np.toNatClampNeg (.int 8)) 164 41 (.int (np + 1))) 164 45 (.int 1)) 164 46 (.int 0)) 164 45 = 1 from (show rg_v (am_up (am_up (am_up (am_up (am_up g 164 44 (.int (kn + 1))) 184 np.toNatClampNeg (.int 8)) 164 41 (.int (np + 1))) 164 45 (.int 1)) 164 46 (.int 0)) 164 45 = 1 from rfl))
      have e46_z : rg_v h4438_z 164 46 = 0 := (rg_v_fr t6_z (by decide)).trans (show rg_v (am_up (am_up (am_up (am_up (am_up g 164 44 (.int (kn + 1))) 184 np.toNatClampNeg (.int 8)) 164 41 (.int (np + 1))) 164 45 (.int 1)) 164 46 (.int 0)) 164 46 = 0 from (show rg_v (am_up (am_up (am_up (am_up (am_up g 164 44 (.int (kn + 1))) 184 np.toNatClampNeg (.int 8)) 164 41 (.int (np + 1))) 164 45 (.int 1)) 164 46 (.int 0)) 164 46 = 0 from rfl))
      replace hm_z : rn _ _ _ _ [] _ _ _ := hm_z
      replace hc_z : rn _ _ _ _ [] _ _ _ := hc_z
      replace hc_z := rn_iload_n (am_cur_of (i := (160, 1, .iload_n 1, (0, 0, 0), 0)) (by decide +kernel)) g1_z hc_z
      replace hc_z := rn_iconst (w := 3) (am_cur_of (i := (161, 1, .iconst 3, (0, 0, 0), 0)) (by decide +kernel)) (by decide) hc_z
      replace hc_z := rn_cmpF (am_cur_of (i := (162, 3, .if_icmp .eq 8, (89, 0, 0), 0)) (by decide +kernel)) (by decide) hc_z
      replace hc_z := rn_iload_n (am_cur_of (i := (165, 1, .iload_n 1, (0, 0, 0), 0)) (by decide +kernel)) g1_z hc_z
      replace hc_z := rn_iconst (w := 4) (am_cur_of (i := (166, 1, .iconst 4, (0, 0, 0), 0)) (by decide +kernel)) (by decide) hc_z
      replace hc_z := rn_cmpT (am_cur_of (i := (167, 3, .if_icmp .ne 7, (91, 0, 0), 0)) (by decide +kernel)) (by decide) hc_z
      replace hc_z := rn_iconst (w := 1) (am_cur_of (i := (174, 1, .iconst 1, (0, 0, 0), 0)) (by decide +kernel)) (by decide) hc_z
      replace hc_z := rn_iret (am_cur_of (i := (175, 1, .ireturn, (0, 0, 0), 0)) (by decide +kernel)) hc_z
      obtain ⟨e4440_z, e4441_z⟩ := hc_z
      replace hm_z := rn_iconst (w := 1) (am_cur_of (i := (257, 1, .iconst 1, (0, 0, 0), 0)) (by decide +kernel)) (by decide) hm_z
      replace hm_z := rn_iret (am_cur_of (i := (258, 1, .ireturn, (0, 0, 0), 0)) (by decide +kernel)) hm_z
      obtain ⟨e4442_z, e4443_z⟩ := hm_z
      subst e4440_z e4441_z e4442_z e4443_z
      exact Or.inl ⟨_, x2_z, p2_z, rfl, rfl, R2, le2_z, A2, B2, Z2, Or.inr (Or.inl ⟨rfl, e45_z, e46_z⟩)⟩
theorem rj_t10_23 {T : Nat → Int32} {S x p : Int32} {n n' : Nat} {h h' g g' : am_H} {r r' : Option Value} {ls ls2_z : am_L} (R : rq T S x p 23 h g) (A : rp 23 h g) (B : rp_t h g) (Z : rs 23 h g) (g0_z : am_get ls 0 = some (.ref 44)) (g1_z : am_get ls 1 = some (.int 10)) (g0m : am_get ls2_z 0 = some (.ref 164)) (g1m : am_get ls2_z 1 = some (.int 9)) (hc_z : rn n am_m44 76 ls [] h r h') (hm_z : rn n' am_m178 110 ls2_z [] g r' g') : rv_Q T S x p 23 h' g' r r' := by
  have Rk := R
  have Zk := Z
  obtain ⟨⟨c1_z, c2_z, c3_z, c4_z, c5_z, c6_z, c7_z, c8_z⟩, ⟨m2_z, m3_z, m4_z, m5_z, m6_z, m7_z, m8_z⟩, R3, R4, R5, R6, R7, R8, R9, R10⟩ := (R : rq T S x p 23 h g)
  obtain ⟨np, op, z1_z, z2_z, z3_z, z4_z, z5_z, z6_z, z7_z, z8_z, z9_z, z10_z⟩ := (Z : rs 23 h g)
  obtain ⟨nk1_z, nk2_z, nk3_z⟩ := A.2.2.2.2.2.1
  replace nk1_z : rg_v h 32 0 = rg_v g 164 44 := nk1_z
  replace nk2_z : 0 ≤ (rg_v h 32 0).toInt := nk2_z
  replace nk3_z : (rg_v h 32 0).toInt ≤ 64 := nk3_z
  replace z8_z : np.toInt ≤ (rg_v h 32 0).toInt + op.toInt := z8_z
  obtain ⟨kn, ekn⟩ : ∃ v, rg_v h 32 0 = v := ⟨_, rfl⟩
  rw [ekn] at nk1_z nk2_z nk3_z z8_z
  have e9_z := rt_c1 (x := kn) (by omega) (by omega)
  replace hc_z := rn_aload_n (am_cur_of (i := (147, 1, .aload_n 0, (0, 0, 0), 0)) (by decide +kernel)) g0_z hc_z
  replace hc_z := rn_callV (M' := am_m49) (o := 44) (ar := []) (rest := []) (L := lv_args 0 [.ref 44]) (am_cur_of (i := (148, 3, .invokevirtual 270, (49, 852, 3), 0)) (by decide +kernel)) rfl rfl rfl rfl hc_z
  obtain ⟨r4444_z, h4445_z, q4446_z, hc_z⟩ := hc_z
  rcases rs_ck23 R4 (show h 44 6 = .ref 23 from R3) q4446_z with ⟨ge, rfl, eh⟩ | ⟨lt, rfl, eh⟩
  · subst eh
    replace ge : 64 ≤ kn.toInt := by rw [← ekn]; exact ge
    replace hc_z : rn _ _ _ _ [] _ _ _ := hc_z
    have K := rs_stick (w := 2) (q := p) (a := 44) (by decide) (by decide) rfl (by decide) rfl (show rg_v (am_up (am_up h 44 1 (.int 2)) 44 2 (.int (rg_v h 44 9))) 44 2 = p from R5) hc_z
    replace hm_z := rn_aload_n (am_cur_of (i := (217, 1, .aload_n 0, (0, 0, 0), 0)) (by decide +kernel)) g0m hm_z
    replace hm_z := rn_callV (M' := am_m175) (o := 164) (ar := []) (rest := []) (L := lv_args 0 [.ref 164]) (am_cur_of (i := (218, 3, .invokevirtual 309, (175, 1731, 3), 0)) (by decide +kernel)) rfl rfl rfl rfl hm_z
    obtain ⟨r4447_z, h4448_z, q4449_z, hm_z⟩ := hm_z
    rcases rs_ic q4449_z with ⟨i1_z, rfl, i3_z⟩ | ⟨i1_z, -⟩
    · subst i3_z
      replace hm_z : rn _ _ _ _ [.int 0] _ _ _ := hm_z
      replace hm_z := rn_ifF (am_cur_of (i := (221, 3, .ifCond .ne 5, (115, 0, 0), 0)) (by decide +kernel)) (by decide) hm_z
      replace hm_z := rn_iconst (w := 0) (am_cur_of (i := (224, 1, .iconst 0, (0, 0, 0), 0)) (by decide +kernel)) (by decide) hm_z
      replace hm_z := rn_iret (am_cur_of (i := (225, 1, .ireturn, (0, 0, 0), 0)) (by decide +kernel)) hm_z
      obtain ⟨e4450_z, e4451_z⟩ := hm_z
      subst e4450_z e4451_z
      exact (Or.inr ⟨rfl, 2, by decide, K.1, K.2, rfl, R6⟩)
    · exact absurd (Int32.toInt_inj.mp (show (rg_v g 164 44).toInt = (64 : Int32).toInt from by rw [show rg_v g 164 44 = kn from nk1_z.symm, show (64 : Int32).toInt = 64 by decide]; omega)) i1_z
  · subst eh
    replace lt : kn.toInt < 64 := by rw [← ekn]; exact lt
    rw [show rg_v h 32 0 = kn from ekn] at hc_z
    replace hm_z := rn_aload_n (am_cur_of (i := (217, 1, .aload_n 0, (0, 0, 0), 0)) (by decide +kernel)) g0m hm_z
    replace hm_z := rn_callV (M' := am_m175) (o := 164) (ar := []) (rest := []) (L := lv_args 0 [.ref 164]) (am_cur_of (i := (218, 3, .invokevirtual 309, (175, 1731, 3), 0)) (by decide +kernel)) rfl rfl rfl rfl hm_z
    obtain ⟨r4452_z, h4453_z, q4454_z, hm_z⟩ := hm_z
    rcases rs_ic q4454_z with ⟨i1_z, -⟩ | ⟨i1_z, rfl, i3_z⟩
    · exfalso
      have zz := congrArg Int32.toInt i1_z
      rw [show rg_v g 164 44 = kn from nk1_z.symm, show (64 : Int32).toInt = 64 by decide] at zz
      omega
    · subst i3_z
      rw [show rg_v g 164 44 = kn from nk1_z.symm] at hm_z
      replace hm_z : rn _ _ _ _ [.int 1] _ _ _ := hm_z
      replace hc_z : rn _ _ _ _ [] _ _ _ := hc_z
      replace hc_z := rn_aload_n (am_cur_of (i := (151, 1, .aload_n 0, (0, 0, 0), 0)) (by decide +kernel)) g0_z hc_z
      replace hc_z := rn_iload_n (am_cur_of (i := (152, 1, .iload_n 1, (0, 0, 0), 0)) (by decide +kernel)) g1_z hc_z
      replace hc_z := rn_callV (M' := am_m50) (o := 44) (ar := [.int 10]) (rest := []) (L := lv_args 0 [.ref 44, .int 10]) (am_cur_of (i := (153, 3, .invokevirtual 273, (50, 856, 3), 0)) (by decide +kernel)) rfl rfl rfl rfl hc_z
      obtain ⟨r4455_z, h4456_z, q4457_z, hc_z⟩ := hc_z
      obtain ⟨rfl, eh⟩ := rs_hold (np := np) (show rg_v (am_up h 32 0 (.int (kn + 1))) 44 13 = np from z1_z) (by omega) q4457_z
      subst eh
      replace hc_z : rn _ _ _ _ [] _ _ _ := hc_z
      replace hc_z := rn_aload_n (am_cur_of (i := (156, 1, .aload_n 0, (0, 0, 0), 0)) (by decide +kernel)) g0_z hc_z
      replace hc_z := rn_callV (M' := am_m19) (o := 44) (ar := []) (rest := []) (L := lv_args 0 [.ref 44]) (am_cur_of (i := (157, 3, .invokevirtual 57, (19, 727, 3), 0)) (by decide +kernel)) rfl rfl rfl rfl hc_z
      obtain ⟨r4458_z, h4459_z, q4460_z, hc_z⟩ := hc_z
      have vo := rn_void rfl q4460_z
      subst vo
      replace hm_z := rn_ifT (am_cur_of (i := (221, 3, .ifCond .ne 5, (115, 0, 0), 0)) (by decide +kernel)) (by decide) hm_z
      replace hm_z := rn_aload_n (am_cur_of (i := (226, 1, .aload_n 0, (0, 0, 0), 0)) (by decide +kernel)) g0m hm_z
      replace hm_z := rn_iload_n (am_cur_of (i := (227, 1, .iload_n 1, (0, 0, 0), 0)) (by decide +kernel)) g1m hm_z
      replace hm_z := rn_callV (M' := am_m173) (o := 164) (ar := [.int 9]) (rest := []) (L := lv_args 0 [.ref 164, .int 9]) (am_cur_of (i := (228, 3, .invokevirtual 298, (173, 1723, 3), 0)) (by decide +kernel)) rfl rfl rfl rfl hm_z
      obtain ⟨r4461_z, h4462_z, q4463_z, hm_z⟩ := hm_z
      obtain ⟨rfl, eh⟩ := rs_wf (np := np) (show rg_v (am_up g 164 44 (.int (kn + 1))) 164 41 = np from z2_z) q4463_z
      subst eh
      replace hm_z : rn _ _ _ _ [] _ _ _ := hm_z
      replace hm_z := rn_aload_n (am_cur_of (i := (231, 1, .aload_n 0, (0, 0, 0), 0)) (by decide +kernel)) g0m hm_z
      replace hm_z := rn_iconst (w := 1) (am_cur_of (i := (232, 1, .iconst 1, (0, 0, 0), 0)) (by decide +kernel)) (by decide) hm_z
      replace hm_z := rn_put (am_cur_of (i := (233, 3, .putfield 315, (12, 45, 1429), 0)) (by decide +kernel)) (by decide +kernel) hm_z
      replace hm_z := rn_aload_n (am_cur_of (i := (236, 1, .aload_n 0, (0, 0, 0), 0)) (by decide +kernel)) g0m hm_z
      replace hm_z := rn_iload_n (am_cur_of (i := (237, 1, .iload_n 1, (0, 0, 0), 0)) (by decide +kernel)) g1m hm_z
      replace hm_z := rn_callS (M' := am_m180) (ar := [.int 9]) (rest := [.ref 164]) (L := lv_args 0 [.int 9]) (am_cur_of (i := (238, 3, .invokestatic 283, (180, 1751, 3), 0)) (by decide +kernel)) rfl rfl rfl rfl hm_z
      obtain ⟨r4464_z, h4465_z, q4466_z, hm_z⟩ := hm_z
      obtain ⟨rfl, yq4466_z⟩ := rs_rankM q4466_z
      replace yq4466_z := yq4466_z.symm
      subst yq4466_z
      rw [show rk_M 9 = 4 by decide] at hm_z
      replace hm_z : rn _ _ _ _ [.int 4, .ref 164] _ _ _ := hm_z
      replace hm_z := rn_iconst (w := 3) (am_cur_of (i := (241, 1, .iconst 3, (0, 0, 0), 0)) (by decide +kernel)) (by decide) hm_z
      replace hm_z := rn_cmpT (am_cur_of (i := (242, 3, .if_icmp .ge 7, (128, 0, 0), 0)) (by decide +kernel)) (by decide) hm_z
      replace hm_z := rn_iconst (w := 0) (am_cur_of (i := (249, 1, .iconst 0, (0, 0, 0), 0)) (by decide +kernel)) (by decide) hm_z
      replace hm_z := rn_put (am_cur_of (i := (250, 3, .putfield 302, (12, 46, 1430), 0)) (by decide +kernel)) (by decide +kernel) hm_z
      replace hm_z := rn_aload_n (am_cur_of (i := (253, 1, .aload_n 0, (0, 0, 0), 0)) (by decide +kernel)) g0m hm_z
      replace hm_z := rn_callV (M' := am_m151) (o := 164) (ar := []) (rest := []) (L := lv_args 0 [.ref 164]) (am_cur_of (i := (254, 3, .invokevirtual 191, (151, 1636, 3), 0)) (by decide +kernel)) rfl rfl rfl rfl hm_z
      obtain ⟨r4467_z, h4468_z, q4469_z, hm_z⟩ := hm_z
      have vo := rn_void rfl q4469_z
      subst vo
      have FC : ab_Fr (rz_MC23.drop 1) h (am_up (am_up (am_up h 32 0 (.int (kn + 1))) 47 np.toNatClampNeg (.int 10)) 44 13 (.int (np + 1))) := ab_Fr_up rfl (ab_Fr_up rfl (ab_Fr_up rfl ab_Fr_refl))
      have FC' : ab_Fr rz_MC23 h (am_up (am_up (am_up h 32 0 (.int (kn + 1))) 47 np.toNatClampNeg (.int 10)) 44 13 (.int (np + 1))) := ab_Fr_sub (by decide) FC
      have FM : ab_Fr rz_MM g (am_up (am_up (am_up (am_up (am_up g 164 44 (.int (kn + 1))) 184 np.toNatClampNeg (.int 9)) 164 41 (.int (np + 1))) 164 45 (.int 1)) 164 46 (.int 0)) := ab_Fr_up rfl (ab_Fr_up rfl (ab_Fr_up rfl (ab_Fr_up rfl (ab_Fr_up rfl ab_Fr_refl))))
      obtain ⟨-, -, x2_z, p2_z, R2, le2_z, t5_z, t6_z⟩ := pr_tok (rz_q023 (rq_0 Rk) FC' FM) q4460_z q4469_z
      have A2 := rp_x (by decide) (rz_p23 A FC' FM ((show rg_v (am_up (am_up (am_up h 32 0 (.int (kn + 1))) 47 np.toNatClampNeg (.int 10)) 44 13 (.int (np + 1))) 32 0 = kn + 1 from (show rg_v (am_up (am_up (am_up h 32 0 (.int (kn + 1))) 47 np.toNatClampNeg (.int 10)) 44 13 (.int (np + 1))) 32 0 = kn + 1 from rfl)).trans (show rg_v (am_up (am_up (am_up (am_up (am_up g 164 44 (.int (kn + 1))) 184 np.toNatClampNeg (.int 9)) 164 41 (.int (np + 1))) 164 45 (.int 1)) 164 46 (.int 0)) 164 44 = kn + 1 from (show rg_v (am_up (am_up (am_up (am_up (am_up g 164 44 (.int (kn + 1))) 184 np.toNatClampNeg (.int 9)) 164 41 (.int (np + 1))) 164 45 (.int 1)) 164 46 (.int 0)) 164 44 = kn + 1 from rfl)).symm) (by rw [show rg_v (am_up (am_up (am_up h 32 0 (.int (kn + 1))) 47 np.toNatClampNeg (.int 10)) 44 13 (.int (np + 1))) 32 0 = kn + 1 from (show rg_v (am_up (am_up (am_up h 32 0 (.int (kn + 1))) 47 np.toNatClampNeg (.int 10)) 44 13 (.int (np + 1))) 32 0 = kn + 1 from rfl)]; omega) (by rw [show rg_v (am_up (am_up (am_up h 32 0 (.int (kn + 1))) 47 np.toNatClampNeg (.int 10)) 44 13 (.int (np + 1))) 32 0 = kn + 1 from (show rg_v (am_up (am_up (am_up h 32 0 (.int (kn + 1))) 47 np.toNatClampNeg (.int 10)) 44 13 (.int (np + 1))) 32 0 = kn + 1 from rfl)]; omega)) (rx_C_f t5_z) (rx_M_f t6_z)
      have B2 := rp_tk (rz_t23 B FC FM) (rg_v_fr t5_z (by decide)) (fun k => rg_v_fr t6_z (rg_v_in (by decide) k)) (rx_M_f t6_z)
      have Z2 : rs 23 (am_up (am_up (am_up h 32 0 (.int (kn + 1))) 47 np.toNatClampNeg (.int 10)) 44 13 (.int (np + 1))) (am_up (am_up (am_up (am_up (am_up g 164 44 (.int (kn + 1))) 184 np.toNatClampNeg (.int 9)) 164 41 (.int (np + 1))) 164 45 (.int 1)) 164 46 (.int 0)) := rs_push (o := 10) (k := 9) (np := np) (op := op) Zk (by unfold rs_o; decide) z1_z z4_z (show rg_v (am_up (am_up (am_up h 32 0 (.int (kn + 1))) 47 np.toNatClampNeg (.int 10)) 44 13 (.int (np + 1))) 44 13 = np + 1 from (show rg_v (am_up (am_up (am_up h 32 0 (.int (kn + 1))) 47 np.toNatClampNeg (.int 10)) 44 13 (.int (np + 1))) 44 13 = np + 1 from rfl)) (show rg_v (am_up (am_up (am_up (am_up (am_up g 164 44 (.int (kn + 1))) 184 np.toNatClampNeg (.int 9)) 164 41 (.int (np + 1))) 164 45 (.int 1)) 164 46 (.int 0)) 164 41 = np + 1 from (show rg_v (am_up (am_up (am_up (am_up (am_up g 164 44 (.int (kn + 1))) 184 np.toNatClampNeg (.int 9)) 164 41 (.int (np + 1))) 164 45 (.int 1)) 164 46 (.int 0)) 164 41 = np + 1 from rfl)) (fun i hi_z => (show rg_v (am_up (am_up (am_up h 32 0 (.int (kn + 1))) 47 np.toNatClampNeg (.int 10)) 44 13 (.int (np + 1))) 47 i = rg_v h 47 i from rg_v_other (h := h) (o := 47) (k := np.toNatClampNeg) (v := .int 10) (by omega))) (show rg_v (am_up (am_up (am_up h 32 0 (.int (kn + 1))) 47 np.toNatClampNeg (.int 10)) 44 13 (.int (np + 1))) 47 np.toNatClampNeg = 10 from rg_v_self (h := h) (o := 47) (k := np.toNatClampNeg)) (fun i hi_z => (show rg_v (am_up (am_up (am_up (am_up (am_up g 164 44 (.int (kn + 1))) 184 np.toNatClampNeg (.int 9)) 164 41 (.int (np + 1))) 164 45 (.int 1)) 164 46 (.int 0)) 184 i = rg_v g 184 i from rg_v_other (h := g) (o := 184) (k := np.toNatClampNeg) (v := .int 9) (by omega))) (show rg_v (am_up (am_up (am_up (am_up (am_up g 164 44 (.int (kn + 1))) 184 np.toNatClampNeg (.int 9)) 164 41 (.int (np + 1))) 164 45 (.int 1)) 164 46 (.int 0)) 184 np.toNatClampNeg = 9 from rg_v_self (h := g) (o := 184) (k := np.toNatClampNeg)) (show (rg_v h 32 0).toInt ≤ 64 by rw [ekn]; exact nk3_z) (Or.inl ⟨by decide, (show rg_v (am_up (am_up (am_up h 32 0 (.int (kn + 1))) 47 np.toNatClampNeg (.int 10)) 44 13 (.int (np + 1))) 44 14 = op from (show rg_v (am_up (am_up (am_up h 32 0 (.int (kn + 1))) 47 np.toNatClampNeg (.int 10)) 44 13 (.int (np + 1))) 44 14 = op from z4_z)), (show rg_v (am_up (am_up (am_up (am_up (am_up g 164 44 (.int (kn + 1))) 184 np.toNatClampNeg (.int 9)) 164 41 (.int (np + 1))) 164 45 (.int 1)) 164 46 (.int 0)) 164 43 = op from (show rg_v (am_up (am_up (am_up (am_up (am_up g 164 44 (.int (kn + 1))) 184 np.toNatClampNeg (.int 9)) 164 41 (.int (np + 1))) 164 45 (.int 1)) 164 46 (.int 0)) 164 43 = op from z5_z)), (show (rg_v (am_up (am_up (am_up h 32 0 (.int (kn + 1))) 47 np.toNatClampNeg (.int 10)) 44 13 (.int (np + 1))) 32 0).toInt = (rg_v h 32 0).toInt + 1 by rw [(show rg_v (am_up (am_up (am_up h 32 0 (.int (kn + 1))) 47 np.toNatClampNeg (.int 10)) 44 13 (.int (np + 1))) 32 0 = kn + 1 from (show rg_v (am_up (am_up (am_up h 32 0 (.int (kn + 1))) 47 np.toNatClampNeg (.int 10)) 44 13 (.int (np + 1))) 32 0 = kn + 1 from rfl)), ekn]; exact e9_z)⟩)
      replace Z2 := rs_fr (by decide) Z2 t5_z t6_z
      have e45_z : rg_v h4468_z 164 45 = 1 := (rg_v_fr t6_z (by decide)).trans (show rg_v (am_up (am_up (am_up (am_up (am_up g 164 44 (.int (kn + 1))) 184 np.toNatClampNeg (.int 9)) 164 41 (.int (np + 1))) 164 45 (.int 1)) 164 46 (.int 0)) 164 45 = 1 from (show rg_v (am_up (am_up (am_up (am_up (am_up g 164 44 (.int (kn + 1))) 184 np.toNatClampNeg (.int 9)) 164 41 (.int (np + 1))) 164 45 (.int 1)) 164 46 (.int 0)) 164 45 = 1 from rfl))
      have e46_z : rg_v h4468_z 164 46 = 0 := (rg_v_fr t6_z (by decide)).trans (show rg_v (am_up (am_up (am_up (am_up (am_up g 164 44 (.int (kn + 1))) 184 np.toNatClampNeg (.int 9)) 164 41 (.int (np + 1))) 164 45 (.int 1)) 164 46 (.int 0)) 164 46 = 0 from (show rg_v (am_up (am_up (am_up (am_up (am_up g 164 44 (.int (kn + 1))) 184 np.toNatClampNeg (.int 9)) 164 41 (.int (np + 1))) 164 45 (.int 1)) 164 46 (.int 0)) 164 46 = 0 from rfl))
      replace hm_z : rn _ _ _ _ [] _ _ _ := hm_z
      replace hc_z : rn _ _ _ _ [] _ _ _ := hc_z
      replace hc_z := rn_iload_n (am_cur_of (i := (160, 1, .iload_n 1, (0, 0, 0), 0)) (by decide +kernel)) g1_z hc_z
      replace hc_z := rn_iconst (w := 3) (am_cur_of (i := (161, 1, .iconst 3, (0, 0, 0), 0)) (by decide +kernel)) (by decide) hc_z
      replace hc_z := rn_cmpF (am_cur_of (i := (162, 3, .if_icmp .eq 8, (89, 0, 0), 0)) (by decide +kernel)) (by decide) hc_z
      replace hc_z := rn_iload_n (am_cur_of (i := (165, 1, .iload_n 1, (0, 0, 0), 0)) (by decide +kernel)) g1_z hc_z
      replace hc_z := rn_iconst (w := 4) (am_cur_of (i := (166, 1, .iconst 4, (0, 0, 0), 0)) (by decide +kernel)) (by decide) hc_z
      replace hc_z := rn_cmpT (am_cur_of (i := (167, 3, .if_icmp .ne 7, (91, 0, 0), 0)) (by decide +kernel)) (by decide) hc_z
      replace hc_z := rn_iconst (w := 1) (am_cur_of (i := (174, 1, .iconst 1, (0, 0, 0), 0)) (by decide +kernel)) (by decide) hc_z
      replace hc_z := rn_iret (am_cur_of (i := (175, 1, .ireturn, (0, 0, 0), 0)) (by decide +kernel)) hc_z
      obtain ⟨e4470_z, e4471_z⟩ := hc_z
      replace hm_z := rn_iconst (w := 1) (am_cur_of (i := (257, 1, .iconst 1, (0, 0, 0), 0)) (by decide +kernel)) (by decide) hm_z
      replace hm_z := rn_iret (am_cur_of (i := (258, 1, .ireturn, (0, 0, 0), 0)) (by decide +kernel)) hm_z
      obtain ⟨e4472_z, e4473_z⟩ := hm_z
      subst e4470_z e4471_z e4472_z e4473_z
      exact Or.inl ⟨_, x2_z, p2_z, rfl, rfl, R2, le2_z, A2, B2, Z2, Or.inr (Or.inl ⟨rfl, e45_z, e46_z⟩)⟩
theorem rj_t11_23 {T : Nat → Int32} {S x p : Int32} {n n' : Nat} {h h' g g' : am_H} {r r' : Option Value} {ls ls2_z : am_L} (R : rq T S x p 23 h g) (A : rp 23 h g) (B : rp_t h g) (Z : rs 23 h g) (g0_z : am_get ls 0 = some (.ref 44)) (g1_z : am_get ls 1 = some (.int 11)) (g0m : am_get ls2_z 0 = some (.ref 164)) (g1m : am_get ls2_z 1 = some (.int 10)) (hc_z : rn n am_m44 76 ls [] h r h') (hm_z : rn n' am_m178 110 ls2_z [] g r' g') : rv_Q T S x p 23 h' g' r r' := by
  have Rk := R
  have Zk := Z
  obtain ⟨⟨c1_z, c2_z, c3_z, c4_z, c5_z, c6_z, c7_z, c8_z⟩, ⟨m2_z, m3_z, m4_z, m5_z, m6_z, m7_z, m8_z⟩, R3, R4, R5, R6, R7, R8, R9, R10⟩ := (R : rq T S x p 23 h g)
  obtain ⟨np, op, z1_z, z2_z, z3_z, z4_z, z5_z, z6_z, z7_z, z8_z, z9_z, z10_z⟩ := (Z : rs 23 h g)
  obtain ⟨nk1_z, nk2_z, nk3_z⟩ := A.2.2.2.2.2.1
  replace nk1_z : rg_v h 32 0 = rg_v g 164 44 := nk1_z
  replace nk2_z : 0 ≤ (rg_v h 32 0).toInt := nk2_z
  replace nk3_z : (rg_v h 32 0).toInt ≤ 64 := nk3_z
  replace z8_z : np.toInt ≤ (rg_v h 32 0).toInt + op.toInt := z8_z
  obtain ⟨kn, ekn⟩ : ∃ v, rg_v h 32 0 = v := ⟨_, rfl⟩
  rw [ekn] at nk1_z nk2_z nk3_z z8_z
  have e9_z := rt_c1 (x := kn) (by omega) (by omega)
  replace hc_z := rn_aload_n (am_cur_of (i := (147, 1, .aload_n 0, (0, 0, 0), 0)) (by decide +kernel)) g0_z hc_z
  replace hc_z := rn_callV (M' := am_m49) (o := 44) (ar := []) (rest := []) (L := lv_args 0 [.ref 44]) (am_cur_of (i := (148, 3, .invokevirtual 270, (49, 852, 3), 0)) (by decide +kernel)) rfl rfl rfl rfl hc_z
  obtain ⟨r4474_z, h4475_z, q4476_z, hc_z⟩ := hc_z
  rcases rs_ck23 R4 (show h 44 6 = .ref 23 from R3) q4476_z with ⟨ge, rfl, eh⟩ | ⟨lt, rfl, eh⟩
  · subst eh
    replace ge : 64 ≤ kn.toInt := by rw [← ekn]; exact ge
    replace hc_z : rn _ _ _ _ [] _ _ _ := hc_z
    have K := rs_stick (w := 2) (q := p) (a := 44) (by decide) (by decide) rfl (by decide) rfl (show rg_v (am_up (am_up h 44 1 (.int 2)) 44 2 (.int (rg_v h 44 9))) 44 2 = p from R5) hc_z
    replace hm_z := rn_aload_n (am_cur_of (i := (217, 1, .aload_n 0, (0, 0, 0), 0)) (by decide +kernel)) g0m hm_z
    replace hm_z := rn_callV (M' := am_m175) (o := 164) (ar := []) (rest := []) (L := lv_args 0 [.ref 164]) (am_cur_of (i := (218, 3, .invokevirtual 309, (175, 1731, 3), 0)) (by decide +kernel)) rfl rfl rfl rfl hm_z
    obtain ⟨r4477_z, h4478_z, q4479_z, hm_z⟩ := hm_z
    rcases rs_ic q4479_z with ⟨i1_z, rfl, i3_z⟩ | ⟨i1_z, -⟩
    · subst i3_z
      replace hm_z : rn _ _ _ _ [.int 0] _ _ _ := hm_z
      replace hm_z := rn_ifF (am_cur_of (i := (221, 3, .ifCond .ne 5, (115, 0, 0), 0)) (by decide +kernel)) (by decide) hm_z
      replace hm_z := rn_iconst (w := 0) (am_cur_of (i := (224, 1, .iconst 0, (0, 0, 0), 0)) (by decide +kernel)) (by decide) hm_z
      replace hm_z := rn_iret (am_cur_of (i := (225, 1, .ireturn, (0, 0, 0), 0)) (by decide +kernel)) hm_z
      obtain ⟨e4480_z, e4481_z⟩ := hm_z
      subst e4480_z e4481_z
      exact (Or.inr ⟨rfl, 2, by decide, K.1, K.2, rfl, R6⟩)
    · exact absurd (Int32.toInt_inj.mp (show (rg_v g 164 44).toInt = (64 : Int32).toInt from by rw [show rg_v g 164 44 = kn from nk1_z.symm, show (64 : Int32).toInt = 64 by decide]; omega)) i1_z
  · subst eh
    replace lt : kn.toInt < 64 := by rw [← ekn]; exact lt
    rw [show rg_v h 32 0 = kn from ekn] at hc_z
    replace hm_z := rn_aload_n (am_cur_of (i := (217, 1, .aload_n 0, (0, 0, 0), 0)) (by decide +kernel)) g0m hm_z
    replace hm_z := rn_callV (M' := am_m175) (o := 164) (ar := []) (rest := []) (L := lv_args 0 [.ref 164]) (am_cur_of (i := (218, 3, .invokevirtual 309, (175, 1731, 3), 0)) (by decide +kernel)) rfl rfl rfl rfl hm_z
    obtain ⟨r4482_z, h4483_z, q4484_z, hm_z⟩ := hm_z
    rcases rs_ic q4484_z with ⟨i1_z, -⟩ | ⟨i1_z, rfl, i3_z⟩
    · exfalso
      have zz := congrArg Int32.toInt i1_z
      rw [show rg_v g 164 44 = kn from nk1_z.symm, show (64 : Int32).toInt = 64 by decide] at zz
      omega
    · subst i3_z
      rw [show rg_v g 164 44 = kn from nk1_z.symm] at hm_z
      replace hm_z : rn _ _ _ _ [.int 1] _ _ _ := hm_z
      replace hc_z : rn _ _ _ _ [] _ _ _ := hc_z
      replace hc_z := rn_aload_n (am_cur_of (i := (151, 1, .aload_n 0, (0, 0, 0), 0)) (by decide +kernel)) g0_z hc_z
      replace hc_z := rn_iload_n (am_cur_of (i := (152, 1, .iload_n 1, (0, 0, 0), 0)) (by decide +kernel)) g1_z hc_z
      replace hc_z := rn_callV (M' := am_m50) (o := 44) (ar := [.int 11]) (rest := []) (L := lv_args 0 [.ref 44, .int 11]) (am_cur_of (i := (153, 3, .invokevirtual 273, (50, 856, 3), 0)) (by decide +kernel)) rfl rfl rfl rfl hc_z
      obtain ⟨r4485_z, h4486_z, q4487_z, hc_z⟩ := hc_z
      obtain ⟨rfl, eh⟩ := rs_hold (np := np) (show rg_v (am_up h 32 0 (.int (kn + 1))) 44 13 = np from z1_z) (by omega) q4487_z
      subst eh
      replace hc_z : rn _ _ _ _ [] _ _ _ := hc_z
      replace hc_z := rn_aload_n (am_cur_of (i := (156, 1, .aload_n 0, (0, 0, 0), 0)) (by decide +kernel)) g0_z hc_z
      replace hc_z := rn_callV (M' := am_m19) (o := 44) (ar := []) (rest := []) (L := lv_args 0 [.ref 44]) (am_cur_of (i := (157, 3, .invokevirtual 57, (19, 727, 3), 0)) (by decide +kernel)) rfl rfl rfl rfl hc_z
      obtain ⟨r4488_z, h4489_z, q4490_z, hc_z⟩ := hc_z
      have vo := rn_void rfl q4490_z
      subst vo
      replace hm_z := rn_ifT (am_cur_of (i := (221, 3, .ifCond .ne 5, (115, 0, 0), 0)) (by decide +kernel)) (by decide) hm_z
      replace hm_z := rn_aload_n (am_cur_of (i := (226, 1, .aload_n 0, (0, 0, 0), 0)) (by decide +kernel)) g0m hm_z
      replace hm_z := rn_iload_n (am_cur_of (i := (227, 1, .iload_n 1, (0, 0, 0), 0)) (by decide +kernel)) g1m hm_z
      replace hm_z := rn_callV (M' := am_m173) (o := 164) (ar := [.int 10]) (rest := []) (L := lv_args 0 [.ref 164, .int 10]) (am_cur_of (i := (228, 3, .invokevirtual 298, (173, 1723, 3), 0)) (by decide +kernel)) rfl rfl rfl rfl hm_z
      obtain ⟨r4491_z, h4492_z, q4493_z, hm_z⟩ := hm_z
      obtain ⟨rfl, eh⟩ := rs_wf (np := np) (show rg_v (am_up g 164 44 (.int (kn + 1))) 164 41 = np from z2_z) q4493_z
      subst eh
      replace hm_z : rn _ _ _ _ [] _ _ _ := hm_z
      replace hm_z := rn_aload_n (am_cur_of (i := (231, 1, .aload_n 0, (0, 0, 0), 0)) (by decide +kernel)) g0m hm_z
      replace hm_z := rn_iconst (w := 1) (am_cur_of (i := (232, 1, .iconst 1, (0, 0, 0), 0)) (by decide +kernel)) (by decide) hm_z
      replace hm_z := rn_put (am_cur_of (i := (233, 3, .putfield 315, (12, 45, 1429), 0)) (by decide +kernel)) (by decide +kernel) hm_z
      replace hm_z := rn_aload_n (am_cur_of (i := (236, 1, .aload_n 0, (0, 0, 0), 0)) (by decide +kernel)) g0m hm_z
      replace hm_z := rn_iload_n (am_cur_of (i := (237, 1, .iload_n 1, (0, 0, 0), 0)) (by decide +kernel)) g1m hm_z
      replace hm_z := rn_callS (M' := am_m180) (ar := [.int 10]) (rest := [.ref 164]) (L := lv_args 0 [.int 10]) (am_cur_of (i := (238, 3, .invokestatic 283, (180, 1751, 3), 0)) (by decide +kernel)) rfl rfl rfl rfl hm_z
      obtain ⟨r4494_z, h4495_z, q4496_z, hm_z⟩ := hm_z
      obtain ⟨rfl, yq4496_z⟩ := rs_rankM q4496_z
      replace yq4496_z := yq4496_z.symm
      subst yq4496_z
      rw [show rk_M 10 = 4 by decide] at hm_z
      replace hm_z : rn _ _ _ _ [.int 4, .ref 164] _ _ _ := hm_z
      replace hm_z := rn_iconst (w := 3) (am_cur_of (i := (241, 1, .iconst 3, (0, 0, 0), 0)) (by decide +kernel)) (by decide) hm_z
      replace hm_z := rn_cmpT (am_cur_of (i := (242, 3, .if_icmp .ge 7, (128, 0, 0), 0)) (by decide +kernel)) (by decide) hm_z
      replace hm_z := rn_iconst (w := 0) (am_cur_of (i := (249, 1, .iconst 0, (0, 0, 0), 0)) (by decide +kernel)) (by decide) hm_z
      replace hm_z := rn_put (am_cur_of (i := (250, 3, .putfield 302, (12, 46, 1430), 0)) (by decide +kernel)) (by decide +kernel) hm_z
      replace hm_z := rn_aload_n (am_cur_of (i := (253, 1, .aload_n 0, (0, 0, 0), 0)) (by decide +kernel)) g0m hm_z
      replace hm_z := rn_callV (M' := am_m151) (o := 164) (ar := []) (rest := []) (L := lv_args 0 [.ref 164]) (am_cur_of (i := (254, 3, .invokevirtual 191, (151, 1636, 3), 0)) (by decide +kernel)) rfl rfl rfl rfl hm_z
      obtain ⟨r4497_z, h4498_z, q4499_z, hm_z⟩ := hm_z
      have vo := rn_void rfl q4499_z
      subst vo
      have FC : ab_Fr (rz_MC23.drop 1) h (am_up (am_up (am_up h 32 0 (.int (kn + 1))) 47 np.toNatClampNeg (.int 11)) 44 13 (.int (np + 1))) := ab_Fr_up rfl (ab_Fr_up rfl (ab_Fr_up rfl ab_Fr_refl))
      have FC' : ab_Fr rz_MC23 h (am_up (am_up (am_up h 32 0 (.int (kn + 1))) 47 np.toNatClampNeg (.int 11)) 44 13 (.int (np + 1))) := ab_Fr_sub (by decide) FC
      have FM : ab_Fr rz_MM g (am_up (am_up (am_up (am_up (am_up g 164 44 (.int (kn + 1))) 184 np.toNatClampNeg (.int 10)) 164 41 (.int (np + 1))) 164 45 (.int 1)) 164 46 (.int 0)) := ab_Fr_up rfl (ab_Fr_up rfl (ab_Fr_up rfl (ab_Fr_up rfl (ab_Fr_up rfl ab_Fr_refl))))
      obtain ⟨-, -, x2_z, p2_z, R2, le2_z, t5_z, t6_z⟩ := pr_tok (rz_q023 (rq_0 Rk) FC' FM) q4490_z q4499_z
      have A2 := rp_x (by decide) (rz_p23 A FC' FM ((show rg_v (am_up (am_up (am_up h 32 0 (.int (kn + 1))) 47 np.toNatClampNeg (.int 11)) 44 13 (.int (np + 1))) 32 0 = kn + 1 from (show rg_v (am_up (am_up (am_up h 32 0 (.int (kn + 1))) 47 np.toNatClampNeg (.int 11)) 44 13 (.int (np + 1))) 32 0 = kn + 1 from rfl)).trans (show rg_v (am_up (am_up (am_up (am_up (am_up g 164 44 (.int (kn + 1))) 184 np.toNatClampNeg (.int 10)) 164 41 (.int (np + 1))) 164 45 (.int 1)) 164 46 (.int 0)) 164 44 = kn + 1 from (show rg_v (am_up (am_up (am_up (am_up (am_up g 164 44 (.int (kn + 1))) 184 np.toNatClampNeg (.int 10)) 164 41 (.int (np + 1))) 164 45 (.int 1)) 164 46 (.int 0)) 164 44 = kn + 1 from rfl)).symm) (by rw [show rg_v (am_up (am_up (am_up h 32 0 (.int (kn + 1))) 47 np.toNatClampNeg (.int 11)) 44 13 (.int (np + 1))) 32 0 = kn + 1 from (show rg_v (am_up (am_up (am_up h 32 0 (.int (kn + 1))) 47 np.toNatClampNeg (.int 11)) 44 13 (.int (np + 1))) 32 0 = kn + 1 from rfl)]; omega) (by rw [show rg_v (am_up (am_up (am_up h 32 0 (.int (kn + 1))) 47 np.toNatClampNeg (.int 11)) 44 13 (.int (np + 1))) 32 0 = kn + 1 from (show rg_v (am_up (am_up (am_up h 32 0 (.int (kn + 1))) 47 np.toNatClampNeg (.int 11)) 44 13 (.int (np + 1))) 32 0 = kn + 1 from rfl)]; omega)) (rx_C_f t5_z) (rx_M_f t6_z)
      have B2 := rp_tk (rz_t23 B FC FM) (rg_v_fr t5_z (by decide)) (fun k => rg_v_fr t6_z (rg_v_in (by decide) k)) (rx_M_f t6_z)
      have Z2 : rs 23 (am_up (am_up (am_up h 32 0 (.int (kn + 1))) 47 np.toNatClampNeg (.int 11)) 44 13 (.int (np + 1))) (am_up (am_up (am_up (am_up (am_up g 164 44 (.int (kn + 1))) 184 np.toNatClampNeg (.int 10)) 164 41 (.int (np + 1))) 164 45 (.int 1)) 164 46 (.int 0)) := rs_push (o := 11) (k := 10) (np := np) (op := op) Zk (by unfold rs_o; decide) z1_z z4_z (show rg_v (am_up (am_up (am_up h 32 0 (.int (kn + 1))) 47 np.toNatClampNeg (.int 11)) 44 13 (.int (np + 1))) 44 13 = np + 1 from (show rg_v (am_up (am_up (am_up h 32 0 (.int (kn + 1))) 47 np.toNatClampNeg (.int 11)) 44 13 (.int (np + 1))) 44 13 = np + 1 from rfl)) (show rg_v (am_up (am_up (am_up (am_up (am_up g 164 44 (.int (kn + 1))) 184 np.toNatClampNeg (.int 10)) 164 41 (.int (np + 1))) 164 45 (.int 1)) 164 46 (.int 0)) 164 41 = np + 1 from (show rg_v (am_up (am_up (am_up (am_up (am_up g 164 44 (.int (kn + 1))) 184 np.toNatClampNeg (.int 10)) 164 41 (.int (np + 1))) 164 45 (.int 1)) 164 46 (.int 0)) 164 41 = np + 1 from rfl)) (fun i hi_z => (show rg_v (am_up (am_up (am_up h 32 0 (.int (kn + 1))) 47 np.toNatClampNeg (.int 11)) 44 13 (.int (np + 1))) 47 i = rg_v h 47 i from rg_v_other (h := h) (o := 47) (k := np.toNatClampNeg) (v := .int 11) (by omega))) (show rg_v (am_up (am_up (am_up h 32 0 (.int (kn + 1))) 47 np.toNatClampNeg (.int 11)) 44 13 (.int (np + 1))) 47 np.toNatClampNeg = 11 from rg_v_self (h := h) (o := 47) (k := np.toNatClampNeg)) (fun i hi_z => (show rg_v (am_up (am_up (am_up (am_up (am_up g 164 44 (.int (kn + 1))) 184 np.toNatClampNeg (.int 10)) 164 41 (.int (np + 1))) 164 45 (.int 1)) 164 46 (.int 0)) 184 i = rg_v g 184 i from rg_v_other (h := g) (o := 184) (k := np.toNatClampNeg) (v := .int 10) (by omega))) (show rg_v (am_up (am_up (am_up (am_up (am_up g 164 44 (.int (kn + 1))) 184 np.toNatClampNeg (.int 10)) 164 41 (.int (np + 1))) 164 45 (.int 1)) 164 46 (.int 0)) 184 np.toNatClampNeg = 10 from rg_v_self (h := g) (o := 184) (k := np.toNatClampNeg)) (show (rg_v h 32 0).toInt ≤ 64 by rw [ekn]; exact nk3_z) (Or.inl ⟨by decide, (show rg_v (am_up (am_up (am_up h 32 0 (.int (kn + 1))) 47 np.toNatClampNeg (.int 11)) 44 13 (.int (np + 1))) 44 14 = op from (show rg_v (am_up (am_up (am_up h 32 0 (.int (kn + 1))) 47 np.toNatClampNeg (.int 11)) 44 13 (.int (np + 1))) 44 14 = op from z4_z)), (show rg_v (am_up (am_up (am_up (am_up (am_up g 164 44 (.int (kn + 1))) 184 np.toNatClampNeg (.int 10)) 164 41 (.int (np + 1))) 164 45 (.int 1)) 164 46 (.int 0)) 164 43 = op from (show rg_v (am_up (am_up (am_up (am_up (am_up g 164 44 (.int (kn + 1))) 184 np.toNatClampNeg (.int 10)) 164 41 (.int (np + 1))) 164 45 (.int 1)) 164 46 (.int 0)) 164 43 = op from z5_z)), (show (rg_v (am_up (am_up (am_up h 32 0 (.int (kn + 1))) 47 np.toNatClampNeg (.int 11)) 44 13 (.int (np + 1))) 32 0).toInt = (rg_v h 32 0).toInt + 1 by rw [(show rg_v (am_up (am_up (am_up h 32 0 (.int (kn + 1))) 47 np.toNatClampNeg (.int 11)) 44 13 (.int (np + 1))) 32 0 = kn + 1 from (show rg_v (am_up (am_up (am_up h 32 0 (.int (kn + 1))) 47 np.toNatClampNeg (.int 11)) 44 13 (.int (np + 1))) 32 0 = kn + 1 from rfl)), ekn]; exact e9_z)⟩)
      replace Z2 := rs_fr (by decide) Z2 t5_z t6_z
      have e45_z : rg_v h4498_z 164 45 = 1 := (rg_v_fr t6_z (by decide)).trans (show rg_v (am_up (am_up (am_up (am_up (am_up g 164 44 (.int (kn + 1))) 184 np.toNatClampNeg (.int 10)) 164 41 (.int (np + 1))) 164 45 (.int 1)) 164 46 (.int 0)) 164 45 = 1 from (show rg_v (am_up (am_up (am_up (am_up (am_up g 164 44 (.int (kn + 1))) 184 np.toNatClampNeg (.int 10)) 164 41 (.int (np + 1))) 164 45 (.int 1)) 164 46 (.int 0)) 164 45 = 1 from rfl))
      have e46_z : rg_v h4498_z 164 46 = 0 := (rg_v_fr t6_z (by decide)).trans (show rg_v (am_up (am_up (am_up (am_up (am_up g 164 44 (.int (kn + 1))) 184 np.toNatClampNeg (.int 10)) 164 41 (.int (np + 1))) 164 45 (.int 1)) 164 46 (.int 0)) 164 46 = 0 from (show rg_v (am_up (am_up (am_up (am_up (am_up g 164 44 (.int (kn + 1))) 184 np.toNatClampNeg (.int 10)) 164 41 (.int (np + 1))) 164 45 (.int 1)) 164 46 (.int 0)) 164 46 = 0 from rfl))
      replace hm_z : rn _ _ _ _ [] _ _ _ := hm_z
      replace hc_z : rn _ _ _ _ [] _ _ _ := hc_z
      replace hc_z := rn_iload_n (am_cur_of (i := (160, 1, .iload_n 1, (0, 0, 0), 0)) (by decide +kernel)) g1_z hc_z
      replace hc_z := rn_iconst (w := 3) (am_cur_of (i := (161, 1, .iconst 3, (0, 0, 0), 0)) (by decide +kernel)) (by decide) hc_z
      replace hc_z := rn_cmpF (am_cur_of (i := (162, 3, .if_icmp .eq 8, (89, 0, 0), 0)) (by decide +kernel)) (by decide) hc_z
      replace hc_z := rn_iload_n (am_cur_of (i := (165, 1, .iload_n 1, (0, 0, 0), 0)) (by decide +kernel)) g1_z hc_z
      replace hc_z := rn_iconst (w := 4) (am_cur_of (i := (166, 1, .iconst 4, (0, 0, 0), 0)) (by decide +kernel)) (by decide) hc_z
      replace hc_z := rn_cmpT (am_cur_of (i := (167, 3, .if_icmp .ne 7, (91, 0, 0), 0)) (by decide +kernel)) (by decide) hc_z
      replace hc_z := rn_iconst (w := 1) (am_cur_of (i := (174, 1, .iconst 1, (0, 0, 0), 0)) (by decide +kernel)) (by decide) hc_z
      replace hc_z := rn_iret (am_cur_of (i := (175, 1, .ireturn, (0, 0, 0), 0)) (by decide +kernel)) hc_z
      obtain ⟨e4500_z, e4501_z⟩ := hc_z
      replace hm_z := rn_iconst (w := 1) (am_cur_of (i := (257, 1, .iconst 1, (0, 0, 0), 0)) (by decide +kernel)) (by decide) hm_z
      replace hm_z := rn_iret (am_cur_of (i := (258, 1, .ireturn, (0, 0, 0), 0)) (by decide +kernel)) hm_z
      obtain ⟨e4502_z, e4503_z⟩ := hm_z
      subst e4500_z e4501_z e4502_z e4503_z
      exact Or.inl ⟨_, x2_z, p2_z, rfl, rfl, R2, le2_z, A2, B2, Z2, Or.inr (Or.inl ⟨rfl, e45_z, e46_z⟩)⟩
theorem rj_t12_23 {T : Nat → Int32} {S x p : Int32} {n n' : Nat} {h h' g g' : am_H} {r r' : Option Value} {ls ls2_z : am_L} (R : rq T S x p 23 h g) (A : rp 23 h g) (B : rp_t h g) (Z : rs 23 h g) (g0_z : am_get ls 0 = some (.ref 44)) (g1_z : am_get ls 1 = some (.int 12)) (g0m : am_get ls2_z 0 = some (.ref 164)) (g1m : am_get ls2_z 1 = some (.int 11)) (hc_z : rn n am_m44 76 ls [] h r h') (hm_z : rn n' am_m178 110 ls2_z [] g r' g') : rv_Q T S x p 23 h' g' r r' := by
  have Rk := R
  have Zk := Z
  obtain ⟨⟨c1_z, c2_z, c3_z, c4_z, c5_z, c6_z, c7_z, c8_z⟩, ⟨m2_z, m3_z, m4_z, m5_z, m6_z, m7_z, m8_z⟩, R3, R4, R5, R6, R7, R8, R9, R10⟩ := (R : rq T S x p 23 h g)
  obtain ⟨np, op, z1_z, z2_z, z3_z, z4_z, z5_z, z6_z, z7_z, z8_z, z9_z, z10_z⟩ := (Z : rs 23 h g)
  obtain ⟨nk1_z, nk2_z, nk3_z⟩ := A.2.2.2.2.2.1
  replace nk1_z : rg_v h 32 0 = rg_v g 164 44 := nk1_z
  replace nk2_z : 0 ≤ (rg_v h 32 0).toInt := nk2_z
  replace nk3_z : (rg_v h 32 0).toInt ≤ 64 := nk3_z
  replace z8_z : np.toInt ≤ (rg_v h 32 0).toInt + op.toInt := z8_z
  obtain ⟨kn, ekn⟩ : ∃ v, rg_v h 32 0 = v := ⟨_, rfl⟩
  rw [ekn] at nk1_z nk2_z nk3_z z8_z
  have e9_z := rt_c1 (x := kn) (by omega) (by omega)
  replace hc_z := rn_aload_n (am_cur_of (i := (147, 1, .aload_n 0, (0, 0, 0), 0)) (by decide +kernel)) g0_z hc_z
  replace hc_z := rn_callV (M' := am_m49) (o := 44) (ar := []) (rest := []) (L := lv_args 0 [.ref 44]) (am_cur_of (i := (148, 3, .invokevirtual 270, (49, 852, 3), 0)) (by decide +kernel)) rfl rfl rfl rfl hc_z
  obtain ⟨r4504_z, h4505_z, q4506_z, hc_z⟩ := hc_z
  rcases rs_ck23 R4 (show h 44 6 = .ref 23 from R3) q4506_z with ⟨ge, rfl, eh⟩ | ⟨lt, rfl, eh⟩
  · subst eh
    replace ge : 64 ≤ kn.toInt := by rw [← ekn]; exact ge
    replace hc_z : rn _ _ _ _ [] _ _ _ := hc_z
    have K := rs_stick (w := 2) (q := p) (a := 44) (by decide) (by decide) rfl (by decide) rfl (show rg_v (am_up (am_up h 44 1 (.int 2)) 44 2 (.int (rg_v h 44 9))) 44 2 = p from R5) hc_z
    replace hm_z := rn_aload_n (am_cur_of (i := (217, 1, .aload_n 0, (0, 0, 0), 0)) (by decide +kernel)) g0m hm_z
    replace hm_z := rn_callV (M' := am_m175) (o := 164) (ar := []) (rest := []) (L := lv_args 0 [.ref 164]) (am_cur_of (i := (218, 3, .invokevirtual 309, (175, 1731, 3), 0)) (by decide +kernel)) rfl rfl rfl rfl hm_z
    obtain ⟨r4507_z, h4508_z, q4509_z, hm_z⟩ := hm_z
    rcases rs_ic q4509_z with ⟨i1_z, rfl, i3_z⟩ | ⟨i1_z, -⟩
    · subst i3_z
      replace hm_z : rn _ _ _ _ [.int 0] _ _ _ := hm_z
      replace hm_z := rn_ifF (am_cur_of (i := (221, 3, .ifCond .ne 5, (115, 0, 0), 0)) (by decide +kernel)) (by decide) hm_z
      replace hm_z := rn_iconst (w := 0) (am_cur_of (i := (224, 1, .iconst 0, (0, 0, 0), 0)) (by decide +kernel)) (by decide) hm_z
      replace hm_z := rn_iret (am_cur_of (i := (225, 1, .ireturn, (0, 0, 0), 0)) (by decide +kernel)) hm_z
      obtain ⟨e4510_z, e4511_z⟩ := hm_z
      subst e4510_z e4511_z
      exact (Or.inr ⟨rfl, 2, by decide, K.1, K.2, rfl, R6⟩)
    · exact absurd (Int32.toInt_inj.mp (show (rg_v g 164 44).toInt = (64 : Int32).toInt from by rw [show rg_v g 164 44 = kn from nk1_z.symm, show (64 : Int32).toInt = 64 by decide]; omega)) i1_z
  · subst eh
    replace lt : kn.toInt < 64 := by rw [← ekn]; exact lt
    rw [show rg_v h 32 0 = kn from ekn] at hc_z
    replace hm_z := rn_aload_n (am_cur_of (i := (217, 1, .aload_n 0, (0, 0, 0), 0)) (by decide +kernel)) g0m hm_z
    replace hm_z := rn_callV (M' := am_m175) (o := 164) (ar := []) (rest := []) (L := lv_args 0 [.ref 164]) (am_cur_of (i := (218, 3, .invokevirtual 309, (175, 1731, 3), 0)) (by decide +kernel)) rfl rfl rfl rfl hm_z
    obtain ⟨r4512_z, h4513_z, q4514_z, hm_z⟩ := hm_z
    rcases rs_ic q4514_z with ⟨i1_z, -⟩ | ⟨i1_z, rfl, i3_z⟩
    · exfalso
      have zz := congrArg Int32.toInt i1_z
      rw [show rg_v g 164 44 = kn from nk1_z.symm, show (64 : Int32).toInt = 64 by decide] at zz
      omega
    · subst i3_z
      rw [show rg_v g 164 44 = kn from nk1_z.symm] at hm_z
      replace hm_z : rn _ _ _ _ [.int 1] _ _ _ := hm_z
      replace hc_z : rn _ _ _ _ [] _ _ _ := hc_z
      replace hc_z := rn_aload_n (am_cur_of (i := (151, 1, .aload_n 0, (0, 0, 0), 0)) (by decide +kernel)) g0_z hc_z
      replace hc_z := rn_iload_n (am_cur_of (i := (152, 1, .iload_n 1, (0, 0, 0), 0)) (by decide +kernel)) g1_z hc_z
      replace hc_z := rn_callV (M' := am_m50) (o := 44) (ar := [.int 12]) (rest := []) (L := lv_args 0 [.ref 44, .int 12]) (am_cur_of (i := (153, 3, .invokevirtual 273, (50, 856, 3), 0)) (by decide +kernel)) rfl rfl rfl rfl hc_z
      obtain ⟨r4515_z, h4516_z, q4517_z, hc_z⟩ := hc_z
      obtain ⟨rfl, eh⟩ := rs_hold (np := np) (show rg_v (am_up h 32 0 (.int (kn + 1))) 44 13 = np from z1_z) (by omega) q4517_z
      subst eh
      replace hc_z : rn _ _ _ _ [] _ _ _ := hc_z
      replace hc_z := rn_aload_n (am_cur_of (i := (156, 1, .aload_n 0, (0, 0, 0), 0)) (by decide +kernel)) g0_z hc_z
      replace hc_z := rn_callV (M' := am_m19) (o := 44) (ar := []) (rest := []) (L := lv_args 0 [.ref 44]) (am_cur_of (i := (157, 3, .invokevirtual 57, (19, 727, 3), 0)) (by decide +kernel)) rfl rfl rfl rfl hc_z
      obtain ⟨r4518_z, h4519_z, q4520_z, hc_z⟩ := hc_z
      have vo := rn_void rfl q4520_z
      subst vo
      replace hm_z := rn_ifT (am_cur_of (i := (221, 3, .ifCond .ne 5, (115, 0, 0), 0)) (by decide +kernel)) (by decide) hm_z
      replace hm_z := rn_aload_n (am_cur_of (i := (226, 1, .aload_n 0, (0, 0, 0), 0)) (by decide +kernel)) g0m hm_z
      replace hm_z := rn_iload_n (am_cur_of (i := (227, 1, .iload_n 1, (0, 0, 0), 0)) (by decide +kernel)) g1m hm_z
      replace hm_z := rn_callV (M' := am_m173) (o := 164) (ar := [.int 11]) (rest := []) (L := lv_args 0 [.ref 164, .int 11]) (am_cur_of (i := (228, 3, .invokevirtual 298, (173, 1723, 3), 0)) (by decide +kernel)) rfl rfl rfl rfl hm_z
      obtain ⟨r4521_z, h4522_z, q4523_z, hm_z⟩ := hm_z
      obtain ⟨rfl, eh⟩ := rs_wf (np := np) (show rg_v (am_up g 164 44 (.int (kn + 1))) 164 41 = np from z2_z) q4523_z
      subst eh
      replace hm_z : rn _ _ _ _ [] _ _ _ := hm_z
      replace hm_z := rn_aload_n (am_cur_of (i := (231, 1, .aload_n 0, (0, 0, 0), 0)) (by decide +kernel)) g0m hm_z
      replace hm_z := rn_iconst (w := 1) (am_cur_of (i := (232, 1, .iconst 1, (0, 0, 0), 0)) (by decide +kernel)) (by decide) hm_z
      replace hm_z := rn_put (am_cur_of (i := (233, 3, .putfield 315, (12, 45, 1429), 0)) (by decide +kernel)) (by decide +kernel) hm_z
      replace hm_z := rn_aload_n (am_cur_of (i := (236, 1, .aload_n 0, (0, 0, 0), 0)) (by decide +kernel)) g0m hm_z
      replace hm_z := rn_iload_n (am_cur_of (i := (237, 1, .iload_n 1, (0, 0, 0), 0)) (by decide +kernel)) g1m hm_z
      replace hm_z := rn_callS (M' := am_m180) (ar := [.int 11]) (rest := [.ref 164]) (L := lv_args 0 [.int 11]) (am_cur_of (i := (238, 3, .invokestatic 283, (180, 1751, 3), 0)) (by decide +kernel)) rfl rfl rfl rfl hm_z
      obtain ⟨r4524_z, h4525_z, q4526_z, hm_z⟩ := hm_z
      obtain ⟨rfl, yq4526_z⟩ := rs_rankM q4526_z
      replace yq4526_z := yq4526_z.symm
      subst yq4526_z
      rw [show rk_M 11 = 5 by decide] at hm_z
      replace hm_z : rn _ _ _ _ [.int 5, .ref 164] _ _ _ := hm_z
      replace hm_z := rn_iconst (w := 3) (am_cur_of (i := (241, 1, .iconst 3, (0, 0, 0), 0)) (by decide +kernel)) (by decide) hm_z
      replace hm_z := rn_cmpT (am_cur_of (i := (242, 3, .if_icmp .ge 7, (128, 0, 0), 0)) (by decide +kernel)) (by decide) hm_z
      replace hm_z := rn_iconst (w := 0) (am_cur_of (i := (249, 1, .iconst 0, (0, 0, 0), 0)) (by decide +kernel)) (by decide) hm_z
      replace hm_z := rn_put (am_cur_of (i := (250, 3, .putfield 302, (12, 46, 1430), 0)) (by decide +kernel)) (by decide +kernel) hm_z
      replace hm_z := rn_aload_n (am_cur_of (i := (253, 1, .aload_n 0, (0, 0, 0), 0)) (by decide +kernel)) g0m hm_z
      replace hm_z := rn_callV (M' := am_m151) (o := 164) (ar := []) (rest := []) (L := lv_args 0 [.ref 164]) (am_cur_of (i := (254, 3, .invokevirtual 191, (151, 1636, 3), 0)) (by decide +kernel)) rfl rfl rfl rfl hm_z
      obtain ⟨r4527_z, h4528_z, q4529_z, hm_z⟩ := hm_z
      have vo := rn_void rfl q4529_z
      subst vo
      have FC : ab_Fr (rz_MC23.drop 1) h (am_up (am_up (am_up h 32 0 (.int (kn + 1))) 47 np.toNatClampNeg (.int 12)) 44 13 (.int (np + 1))) := ab_Fr_up rfl (ab_Fr_up rfl (ab_Fr_up rfl ab_Fr_refl))
      have FC' : ab_Fr rz_MC23 h (am_up (am_up (am_up h 32 0 (.int (kn + 1))) 47 np.toNatClampNeg (.int 12)) 44 13 (.int (np + 1))) := ab_Fr_sub (by decide) FC
      have FM : ab_Fr rz_MM g (am_up (am_up (am_up (am_up (am_up g 164 44 (.int (kn + 1))) 184 np.toNatClampNeg (.int 11)) 164 41 (.int (np + 1))) 164 45 (.int 1)) 164 46 (.int 0)) := ab_Fr_up rfl (ab_Fr_up rfl (ab_Fr_up rfl (ab_Fr_up rfl (ab_Fr_up rfl ab_Fr_refl))))
      obtain ⟨-, -, x2_z, p2_z, R2, le2_z, t5_z, t6_z⟩ := pr_tok (rz_q023 (rq_0 Rk) FC' FM) q4520_z q4529_z
      have A2 := rp_x (by decide) (rz_p23 A FC' FM ((show rg_v (am_up (am_up (am_up h 32 0 (.int (kn + 1))) 47 np.toNatClampNeg (.int 12)) 44 13 (.int (np + 1))) 32 0 = kn + 1 from (show rg_v (am_up (am_up (am_up h 32 0 (.int (kn + 1))) 47 np.toNatClampNeg (.int 12)) 44 13 (.int (np + 1))) 32 0 = kn + 1 from rfl)).trans (show rg_v (am_up (am_up (am_up (am_up (am_up g 164 44 (.int (kn + 1))) 184 np.toNatClampNeg (.int 11)) 164 41 (.int (np + 1))) 164 45 (.int 1)) 164 46 (.int 0)) 164 44 = kn + 1 from (show rg_v (am_up (am_up (am_up (am_up (am_up g 164 44 (.int (kn + 1))) 184 np.toNatClampNeg (.int 11)) 164 41 (.int (np + 1))) 164 45 (.int 1)) 164 46 (.int 0)) 164 44 = kn + 1 from rfl)).symm) (by rw [show rg_v (am_up (am_up (am_up h 32 0 (.int (kn + 1))) 47 np.toNatClampNeg (.int 12)) 44 13 (.int (np + 1))) 32 0 = kn + 1 from (show rg_v (am_up (am_up (am_up h 32 0 (.int (kn + 1))) 47 np.toNatClampNeg (.int 12)) 44 13 (.int (np + 1))) 32 0 = kn + 1 from rfl)]; omega) (by rw [show rg_v (am_up (am_up (am_up h 32 0 (.int (kn + 1))) 47 np.toNatClampNeg (.int 12)) 44 13 (.int (np + 1))) 32 0 = kn + 1 from (show rg_v (am_up (am_up (am_up h 32 0 (.int (kn + 1))) 47 np.toNatClampNeg (.int 12)) 44 13 (.int (np + 1))) 32 0 = kn + 1 from rfl)]; omega)) (rx_C_f t5_z) (rx_M_f t6_z)
      have B2 := rp_tk (rz_t23 B FC FM) (rg_v_fr t5_z (by decide)) (fun k => rg_v_fr t6_z (rg_v_in (by decide) k)) (rx_M_f t6_z)
      have Z2 : rs 23 (am_up (am_up (am_up h 32 0 (.int (kn + 1))) 47 np.toNatClampNeg (.int 12)) 44 13 (.int (np + 1))) (am_up (am_up (am_up (am_up (am_up g 164 44 (.int (kn + 1))) 184 np.toNatClampNeg (.int 11)) 164 41 (.int (np + 1))) 164 45 (.int 1)) 164 46 (.int 0)) := rs_push (o := 12) (k := 11) (np := np) (op := op) Zk (by unfold rs_o; decide) z1_z z4_z (show rg_v (am_up (am_up (am_up h 32 0 (.int (kn + 1))) 47 np.toNatClampNeg (.int 12)) 44 13 (.int (np + 1))) 44 13 = np + 1 from (show rg_v (am_up (am_up (am_up h 32 0 (.int (kn + 1))) 47 np.toNatClampNeg (.int 12)) 44 13 (.int (np + 1))) 44 13 = np + 1 from rfl)) (show rg_v (am_up (am_up (am_up (am_up (am_up g 164 44 (.int (kn + 1))) 184 np.toNatClampNeg (.int 11)) 164 41 (.int (np + 1))) 164 45 (.int 1)) 164 46 (.int 0)) 164 41 = np + 1 from (show rg_v (am_up (am_up (am_up (am_up (am_up g 164 44 (.int (kn + 1))) 184 np.toNatClampNeg (.int 11)) 164 41 (.int (np + 1))) 164 45 (.int 1)) 164 46 (.int 0)) 164 41 = np + 1 from rfl)) (fun i hi_z => (show rg_v (am_up (am_up (am_up h 32 0 (.int (kn + 1))) 47 np.toNatClampNeg (.int 12)) 44 13 (.int (np + 1))) 47 i = rg_v h 47 i from rg_v_other (h := h) (o := 47) (k := np.toNatClampNeg) (v := .int 12) (by omega))) (show rg_v (am_up (am_up (am_up h 32 0 (.int (kn + 1))) 47 np.toNatClampNeg (.int 12)) 44 13 (.int (np + 1))) 47 np.toNatClampNeg = 12 from rg_v_self (h := h) (o := 47) (k := np.toNatClampNeg)) (fun i hi_z => (show rg_v (am_up (am_up (am_up (am_up (am_up g 164 44 (.int (kn + 1))) 184 np.toNatClampNeg (.int 11)) 164 41 (.int (np + 1))) 164 45 (.int 1)) 164 46 (.int 0)) 184 i = rg_v g 184 i from rg_v_other (h := g) (o := 184) (k := np.toNatClampNeg) (v := .int 11) (by omega))) (show rg_v (am_up (am_up (am_up (am_up (am_up g 164 44 (.int (kn + 1))) 184 np.toNatClampNeg (.int 11)) 164 41 (.int (np + 1))) 164 45 (.int 1)) 164 46 (.int 0)) 184 np.toNatClampNeg = 11 from rg_v_self (h := g) (o := 184) (k := np.toNatClampNeg)) (show (rg_v h 32 0).toInt ≤ 64 by rw [ekn]; exact nk3_z) (Or.inl ⟨by decide, (show rg_v (am_up (am_up (am_up h 32 0 (.int (kn + 1))) 47 np.toNatClampNeg (.int 12)) 44 13 (.int (np + 1))) 44 14 = op from (show rg_v (am_up (am_up (am_up h 32 0 (.int (kn + 1))) 47 np.toNatClampNeg (.int 12)) 44 13 (.int (np + 1))) 44 14 = op from z4_z)), (show rg_v (am_up (am_up (am_up (am_up (am_up g 164 44 (.int (kn + 1))) 184 np.toNatClampNeg (.int 11)) 164 41 (.int (np + 1))) 164 45 (.int 1)) 164 46 (.int 0)) 164 43 = op from (show rg_v (am_up (am_up (am_up (am_up (am_up g 164 44 (.int (kn + 1))) 184 np.toNatClampNeg (.int 11)) 164 41 (.int (np + 1))) 164 45 (.int 1)) 164 46 (.int 0)) 164 43 = op from z5_z)), (show (rg_v (am_up (am_up (am_up h 32 0 (.int (kn + 1))) 47 np.toNatClampNeg (.int 12)) 44 13 (.int (np + 1))) 32 0).toInt = (rg_v h 32 0).toInt + 1 by rw [(show rg_v (am_up (am_up (am_up h 32 0 (.int (kn + 1))) 47 np.toNatClampNeg (.int 12)) 44 13 (.int (np + 1))) 32 0 = kn + 1 from (show rg_v (am_up (am_up (am_up h 32 0 (.int (kn + 1))) 47 np.toNatClampNeg (.int 12)) 44 13 (.int (np + 1))) 32 0 = kn + 1 from rfl)), ekn]; exact e9_z)⟩)
      replace Z2 := rs_fr (by decide) Z2 t5_z t6_z
      have e45_z : rg_v h4528_z 164 45 = 1 := (rg_v_fr t6_z (by decide)).trans (show rg_v (am_up (am_up (am_up (am_up (am_up g 164 44 (.int (kn + 1))) 184 np.toNatClampNeg (.int 11)) 164 41 (.int (np + 1))) 164 45 (.int 1)) 164 46 (.int 0)) 164 45 = 1 from (show rg_v (am_up (am_up (am_up (am_up (am_up g 164 44 (.int (kn + 1))) 184 np.toNatClampNeg (.int 11)) 164 41 (.int (np + 1))) 164 45 (.int 1)) 164 46 (.int 0)) 164 45 = 1 from rfl))
      have e46_z : rg_v h4528_z 164 46 = 0 := (rg_v_fr t6_z (by decide)).trans (show rg_v (am_up (am_up (am_up (am_up (am_up g 164 44 (.int (kn + 1))) 184 np.toNatClampNeg (.int 11)) 164 41 (.int (np + 1))) 164 45 (.int 1)) 164 46 (.int 0)) 164 46 = 0 from (show rg_v (am_up (am_up (am_up (am_up (am_up g 164 44 (.int (kn + 1))) 184 np.toNatClampNeg (.int 11)) 164 41 (.int (np + 1))) 164 45 (.int 1)) 164 46 (.int 0)) 164 46 = 0 from rfl))
      replace hm_z : rn _ _ _ _ [] _ _ _ := hm_z
      replace hc_z : rn _ _ _ _ [] _ _ _ := hc_z
      replace hc_z := rn_iload_n (am_cur_of (i := (160, 1, .iload_n 1, (0, 0, 0), 0)) (by decide +kernel)) g1_z hc_z
      replace hc_z := rn_iconst (w := 3) (am_cur_of (i := (161, 1, .iconst 3, (0, 0, 0), 0)) (by decide +kernel)) (by decide) hc_z
      replace hc_z := rn_cmpF (am_cur_of (i := (162, 3, .if_icmp .eq 8, (89, 0, 0), 0)) (by decide +kernel)) (by decide) hc_z
      replace hc_z := rn_iload_n (am_cur_of (i := (165, 1, .iload_n 1, (0, 0, 0), 0)) (by decide +kernel)) g1_z hc_z
      replace hc_z := rn_iconst (w := 4) (am_cur_of (i := (166, 1, .iconst 4, (0, 0, 0), 0)) (by decide +kernel)) (by decide) hc_z
      replace hc_z := rn_cmpT (am_cur_of (i := (167, 3, .if_icmp .ne 7, (91, 0, 0), 0)) (by decide +kernel)) (by decide) hc_z
      replace hc_z := rn_iconst (w := 1) (am_cur_of (i := (174, 1, .iconst 1, (0, 0, 0), 0)) (by decide +kernel)) (by decide) hc_z
      replace hc_z := rn_iret (am_cur_of (i := (175, 1, .ireturn, (0, 0, 0), 0)) (by decide +kernel)) hc_z
      obtain ⟨e4530_z, e4531_z⟩ := hc_z
      replace hm_z := rn_iconst (w := 1) (am_cur_of (i := (257, 1, .iconst 1, (0, 0, 0), 0)) (by decide +kernel)) (by decide) hm_z
      replace hm_z := rn_iret (am_cur_of (i := (258, 1, .ireturn, (0, 0, 0), 0)) (by decide +kernel)) hm_z
      obtain ⟨e4532_z, e4533_z⟩ := hm_z
      subst e4530_z e4531_z e4532_z e4533_z
      exact Or.inl ⟨_, x2_z, p2_z, rfl, rfl, R2, le2_z, A2, B2, Z2, Or.inr (Or.inl ⟨rfl, e45_z, e46_z⟩)⟩
theorem rj_t13_23 {T : Nat → Int32} {S x p : Int32} {n n' : Nat} {h h' g g' : am_H} {r r' : Option Value} {ls ls2_z : am_L} (R : rq T S x p 23 h g) (A : rp 23 h g) (B : rp_t h g) (Z : rs 23 h g) (g0_z : am_get ls 0 = some (.ref 44)) (g1_z : am_get ls 1 = some (.int 13)) (g0m : am_get ls2_z 0 = some (.ref 164)) (g1m : am_get ls2_z 1 = some (.int 12)) (hc_z : rn n am_m44 76 ls [] h r h') (hm_z : rn n' am_m178 110 ls2_z [] g r' g') : rv_Q T S x p 23 h' g' r r' := by
  have Rk := R
  have Zk := Z
  obtain ⟨⟨c1_z, c2_z, c3_z, c4_z, c5_z, c6_z, c7_z, c8_z⟩, ⟨m2_z, m3_z, m4_z, m5_z, m6_z, m7_z, m8_z⟩, R3, R4, R5, R6, R7, R8, R9, R10⟩ := (R : rq T S x p 23 h g)
  obtain ⟨np, op, z1_z, z2_z, z3_z, z4_z, z5_z, z6_z, z7_z, z8_z, z9_z, z10_z⟩ := (Z : rs 23 h g)
  obtain ⟨nk1_z, nk2_z, nk3_z⟩ := A.2.2.2.2.2.1
  replace nk1_z : rg_v h 32 0 = rg_v g 164 44 := nk1_z
  replace nk2_z : 0 ≤ (rg_v h 32 0).toInt := nk2_z
  replace nk3_z : (rg_v h 32 0).toInt ≤ 64 := nk3_z
  replace z8_z : np.toInt ≤ (rg_v h 32 0).toInt + op.toInt := z8_z
  obtain ⟨kn, ekn⟩ : ∃ v, rg_v h 32 0 = v := ⟨_, rfl⟩
  rw [ekn] at nk1_z nk2_z nk3_z z8_z
  have e9_z := rt_c1 (x := kn) (by omega) (by omega)
  replace hc_z := rn_aload_n (am_cur_of (i := (147, 1, .aload_n 0, (0, 0, 0), 0)) (by decide +kernel)) g0_z hc_z
  replace hc_z := rn_callV (M' := am_m49) (o := 44) (ar := []) (rest := []) (L := lv_args 0 [.ref 44]) (am_cur_of (i := (148, 3, .invokevirtual 270, (49, 852, 3), 0)) (by decide +kernel)) rfl rfl rfl rfl hc_z
  obtain ⟨r4534_z, h4535_z, q4536_z, hc_z⟩ := hc_z
  rcases rs_ck23 R4 (show h 44 6 = .ref 23 from R3) q4536_z with ⟨ge, rfl, eh⟩ | ⟨lt, rfl, eh⟩
  · subst eh
    replace ge : 64 ≤ kn.toInt := by rw [← ekn]; exact ge
    replace hc_z : rn _ _ _ _ [] _ _ _ := hc_z
    have K := rs_stick (w := 2) (q := p) (a := 44) (by decide) (by decide) rfl (by decide) rfl (show rg_v (am_up (am_up h 44 1 (.int 2)) 44 2 (.int (rg_v h 44 9))) 44 2 = p from R5) hc_z
    replace hm_z := rn_aload_n (am_cur_of (i := (217, 1, .aload_n 0, (0, 0, 0), 0)) (by decide +kernel)) g0m hm_z
    replace hm_z := rn_callV (M' := am_m175) (o := 164) (ar := []) (rest := []) (L := lv_args 0 [.ref 164]) (am_cur_of (i := (218, 3, .invokevirtual 309, (175, 1731, 3), 0)) (by decide +kernel)) rfl rfl rfl rfl hm_z
    obtain ⟨r4537_z, h4538_z, q4539_z, hm_z⟩ := hm_z
    rcases rs_ic q4539_z with ⟨i1_z, rfl, i3_z⟩ | ⟨i1_z, -⟩
    · subst i3_z
      replace hm_z : rn _ _ _ _ [.int 0] _ _ _ := hm_z
      replace hm_z := rn_ifF (am_cur_of (i := (221, 3, .ifCond .ne 5, (115, 0, 0), 0)) (by decide +kernel)) (by decide) hm_z
      replace hm_z := rn_iconst (w := 0) (am_cur_of (i := (224, 1, .iconst 0, (0, 0, 0), 0)) (by decide +kernel)) (by decide) hm_z
      replace hm_z := rn_iret (am_cur_of (i := (225, 1, .ireturn, (0, 0, 0), 0)) (by decide +kernel)) hm_z
      obtain ⟨e4540_z, e4541_z⟩ := hm_z
      subst e4540_z e4541_z
      exact (Or.inr ⟨rfl, 2, by decide, K.1, K.2, rfl, R6⟩)
    · exact absurd (Int32.toInt_inj.mp (show (rg_v g 164 44).toInt = (64 : Int32).toInt from by rw [show rg_v g 164 44 = kn from nk1_z.symm, show (64 : Int32).toInt = 64 by decide]; omega)) i1_z
  · subst eh
    replace lt : kn.toInt < 64 := by rw [← ekn]; exact lt
    rw [show rg_v h 32 0 = kn from ekn] at hc_z
    replace hm_z := rn_aload_n (am_cur_of (i := (217, 1, .aload_n 0, (0, 0, 0), 0)) (by decide +kernel)) g0m hm_z
    replace hm_z := rn_callV (M' := am_m175) (o := 164) (ar := []) (rest := []) (L := lv_args 0 [.ref 164]) (am_cur_of (i := (218, 3, .invokevirtual 309, (175, 1731, 3), 0)) (by decide +kernel)) rfl rfl rfl rfl hm_z
    obtain ⟨r4542_z, h4543_z, q4544_z, hm_z⟩ := hm_z
    rcases rs_ic q4544_z with ⟨i1_z, -⟩ | ⟨i1_z, rfl, i3_z⟩
    · exfalso
      have zz := congrArg Int32.toInt i1_z
      rw [show rg_v g 164 44 = kn from nk1_z.symm, show (64 : Int32).toInt = 64 by decide] at zz
      omega
    · subst i3_z
      rw [show rg_v g 164 44 = kn from nk1_z.symm] at hm_z
      replace hm_z : rn _ _ _ _ [.int 1] _ _ _ := hm_z
      replace hc_z : rn _ _ _ _ [] _ _ _ := hc_z
      replace hc_z := rn_aload_n (am_cur_of (i := (151, 1, .aload_n 0, (0, 0, 0), 0)) (by decide +kernel)) g0_z hc_z
      replace hc_z := rn_iload_n (am_cur_of (i := (152, 1, .iload_n 1, (0, 0, 0), 0)) (by decide +kernel)) g1_z hc_z
      replace hc_z := rn_callV (M' := am_m50) (o := 44) (ar := [.int 13]) (rest := []) (L := lv_args 0 [.ref 44, .int 13]) (am_cur_of (i := (153, 3, .invokevirtual 273, (50, 856, 3), 0)) (by decide +kernel)) rfl rfl rfl rfl hc_z
      obtain ⟨r4545_z, h4546_z, q4547_z, hc_z⟩ := hc_z
      obtain ⟨rfl, eh⟩ := rs_hold (np := np) (show rg_v (am_up h 32 0 (.int (kn + 1))) 44 13 = np from z1_z) (by omega) q4547_z
      subst eh
      replace hc_z : rn _ _ _ _ [] _ _ _ := hc_z
      replace hc_z := rn_aload_n (am_cur_of (i := (156, 1, .aload_n 0, (0, 0, 0), 0)) (by decide +kernel)) g0_z hc_z
      replace hc_z := rn_callV (M' := am_m19) (o := 44) (ar := []) (rest := []) (L := lv_args 0 [.ref 44]) (am_cur_of (i := (157, 3, .invokevirtual 57, (19, 727, 3), 0)) (by decide +kernel)) rfl rfl rfl rfl hc_z
      obtain ⟨r4548_z, h4549_z, q4550_z, hc_z⟩ := hc_z
      have vo := rn_void rfl q4550_z
      subst vo
      replace hm_z := rn_ifT (am_cur_of (i := (221, 3, .ifCond .ne 5, (115, 0, 0), 0)) (by decide +kernel)) (by decide) hm_z
      replace hm_z := rn_aload_n (am_cur_of (i := (226, 1, .aload_n 0, (0, 0, 0), 0)) (by decide +kernel)) g0m hm_z
      replace hm_z := rn_iload_n (am_cur_of (i := (227, 1, .iload_n 1, (0, 0, 0), 0)) (by decide +kernel)) g1m hm_z
      replace hm_z := rn_callV (M' := am_m173) (o := 164) (ar := [.int 12]) (rest := []) (L := lv_args 0 [.ref 164, .int 12]) (am_cur_of (i := (228, 3, .invokevirtual 298, (173, 1723, 3), 0)) (by decide +kernel)) rfl rfl rfl rfl hm_z
      obtain ⟨r4551_z, h4552_z, q4553_z, hm_z⟩ := hm_z
      obtain ⟨rfl, eh⟩ := rs_wf (np := np) (show rg_v (am_up g 164 44 (.int (kn + 1))) 164 41 = np from z2_z) q4553_z
      subst eh
      replace hm_z : rn _ _ _ _ [] _ _ _ := hm_z
      replace hm_z := rn_aload_n (am_cur_of (i := (231, 1, .aload_n 0, (0, 0, 0), 0)) (by decide +kernel)) g0m hm_z
      replace hm_z := rn_iconst (w := 1) (am_cur_of (i := (232, 1, .iconst 1, (0, 0, 0), 0)) (by decide +kernel)) (by decide) hm_z
      replace hm_z := rn_put (am_cur_of (i := (233, 3, .putfield 315, (12, 45, 1429), 0)) (by decide +kernel)) (by decide +kernel) hm_z
      replace hm_z := rn_aload_n (am_cur_of (i := (236, 1, .aload_n 0, (0, 0, 0), 0)) (by decide +kernel)) g0m hm_z
      replace hm_z := rn_iload_n (am_cur_of (i := (237, 1, .iload_n 1, (0, 0, 0), 0)) (by decide +kernel)) g1m hm_z
      replace hm_z := rn_callS (M' := am_m180) (ar := [.int 12]) (rest := [.ref 164]) (L := lv_args 0 [.int 12]) (am_cur_of (i := (238, 3, .invokestatic 283, (180, 1751, 3), 0)) (by decide +kernel)) rfl rfl rfl rfl hm_z
      obtain ⟨r4554_z, h4555_z, q4556_z, hm_z⟩ := hm_z
      obtain ⟨rfl, yq4556_z⟩ := rs_rankM q4556_z
      replace yq4556_z := yq4556_z.symm
      subst yq4556_z
      rw [show rk_M 12 = 5 by decide] at hm_z
      replace hm_z : rn _ _ _ _ [.int 5, .ref 164] _ _ _ := hm_z
      replace hm_z := rn_iconst (w := 3) (am_cur_of (i := (241, 1, .iconst 3, (0, 0, 0), 0)) (by decide +kernel)) (by decide) hm_z
      replace hm_z := rn_cmpT (am_cur_of (i := (242, 3, .if_icmp .ge 7, (128, 0, 0), 0)) (by decide +kernel)) (by decide) hm_z
      replace hm_z := rn_iconst (w := 0) (am_cur_of (i := (249, 1, .iconst 0, (0, 0, 0), 0)) (by decide +kernel)) (by decide) hm_z
      replace hm_z := rn_put (am_cur_of (i := (250, 3, .putfield 302, (12, 46, 1430), 0)) (by decide +kernel)) (by decide +kernel) hm_z
      replace hm_z := rn_aload_n (am_cur_of (i := (253, 1, .aload_n 0, (0, 0, 0), 0)) (by decide +kernel)) g0m hm_z
      replace hm_z := rn_callV (M' := am_m151) (o := 164) (ar := []) (rest := []) (L := lv_args 0 [.ref 164]) (am_cur_of (i := (254, 3, .invokevirtual 191, (151, 1636, 3), 0)) (by decide +kernel)) rfl rfl rfl rfl hm_z
      obtain ⟨r4557_z, h4558_z, q4559_z, hm_z⟩ := hm_z
      have vo := rn_void rfl q4559_z
      subst vo
      have FC : ab_Fr (rz_MC23.drop 1) h (am_up (am_up (am_up h 32 0 (.int (kn + 1))) 47 np.toNatClampNeg (.int 13)) 44 13 (.int (np + 1))) := ab_Fr_up rfl (ab_Fr_up rfl (ab_Fr_up rfl ab_Fr_refl))
      have FC' : ab_Fr rz_MC23 h (am_up (am_up (am_up h 32 0 (.int (kn + 1))) 47 np.toNatClampNeg (.int 13)) 44 13 (.int (np + 1))) := ab_Fr_sub (by decide) FC
      have FM : ab_Fr rz_MM g (am_up (am_up (am_up (am_up (am_up g 164 44 (.int (kn + 1))) 184 np.toNatClampNeg (.int 12)) 164 41 (.int (np + 1))) 164 45 (.int 1)) 164 46 (.int 0)) := ab_Fr_up rfl (ab_Fr_up rfl (ab_Fr_up rfl (ab_Fr_up rfl (ab_Fr_up rfl ab_Fr_refl))))
      obtain ⟨-, -, x2_z, p2_z, R2, le2_z, t5_z, t6_z⟩ := pr_tok (rz_q023 (rq_0 Rk) FC' FM) q4550_z q4559_z
      have A2 := rp_x (by decide) (rz_p23 A FC' FM ((show rg_v (am_up (am_up (am_up h 32 0 (.int (kn + 1))) 47 np.toNatClampNeg (.int 13)) 44 13 (.int (np + 1))) 32 0 = kn + 1 from (show rg_v (am_up (am_up (am_up h 32 0 (.int (kn + 1))) 47 np.toNatClampNeg (.int 13)) 44 13 (.int (np + 1))) 32 0 = kn + 1 from rfl)).trans (show rg_v (am_up (am_up (am_up (am_up (am_up g 164 44 (.int (kn + 1))) 184 np.toNatClampNeg (.int 12)) 164 41 (.int (np + 1))) 164 45 (.int 1)) 164 46 (.int 0)) 164 44 = kn + 1 from (show rg_v (am_up (am_up (am_up (am_up (am_up g 164 44 (.int (kn + 1))) 184 np.toNatClampNeg (.int 12)) 164 41 (.int (np + 1))) 164 45 (.int 1)) 164 46 (.int 0)) 164 44 = kn + 1 from rfl)).symm) (by rw [show rg_v (am_up (am_up (am_up h 32 0 (.int (kn + 1))) 47 np.toNatClampNeg (.int 13)) 44 13 (.int (np + 1))) 32 0 = kn + 1 from (show rg_v (am_up (am_up (am_up h 32 0 (.int (kn + 1))) 47 np.toNatClampNeg (.int 13)) 44 13 (.int (np + 1))) 32 0 = kn + 1 from rfl)]; omega) (by rw [show rg_v (am_up (am_up (am_up h 32 0 (.int (kn + 1))) 47 np.toNatClampNeg (.int 13)) 44 13 (.int (np + 1))) 32 0 = kn + 1 from (show rg_v (am_up (am_up (am_up h 32 0 (.int (kn + 1))) 47 np.toNatClampNeg (.int 13)) 44 13 (.int (np + 1))) 32 0 = kn + 1 from rfl)]; omega)) (rx_C_f t5_z) (rx_M_f t6_z)
      have B2 := rp_tk (rz_t23 B FC FM) (rg_v_fr t5_z (by decide)) (fun k => rg_v_fr t6_z (rg_v_in (by decide) k)) (rx_M_f t6_z)
      have Z2 : rs 23 (am_up (am_up (am_up h 32 0 (.int (kn + 1))) 47 np.toNatClampNeg (.int 13)) 44 13 (.int (np + 1))) (am_up (am_up (am_up (am_up (am_up g 164 44 (.int (kn + 1))) 184 np.toNatClampNeg (.int 12)) 164 41 (.int (np + 1))) 164 45 (.int 1)) 164 46 (.int 0)) := rs_push (o := 13) (k := 12) (np := np) (op := op) Zk (by unfold rs_o; decide) z1_z z4_z (show rg_v (am_up (am_up (am_up h 32 0 (.int (kn + 1))) 47 np.toNatClampNeg (.int 13)) 44 13 (.int (np + 1))) 44 13 = np + 1 from (show rg_v (am_up (am_up (am_up h 32 0 (.int (kn + 1))) 47 np.toNatClampNeg (.int 13)) 44 13 (.int (np + 1))) 44 13 = np + 1 from rfl)) (show rg_v (am_up (am_up (am_up (am_up (am_up g 164 44 (.int (kn + 1))) 184 np.toNatClampNeg (.int 12)) 164 41 (.int (np + 1))) 164 45 (.int 1)) 164 46 (.int 0)) 164 41 = np + 1 from (show rg_v (am_up (am_up (am_up (am_up (am_up g 164 44 (.int (kn + 1))) 184 np.toNatClampNeg (.int 12)) 164 41 (.int (np + 1))) 164 45 (.int 1)) 164 46 (.int 0)) 164 41 = np + 1 from rfl)) (fun i hi_z => (show rg_v (am_up (am_up (am_up h 32 0 (.int (kn + 1))) 47 np.toNatClampNeg (.int 13)) 44 13 (.int (np + 1))) 47 i = rg_v h 47 i from rg_v_other (h := h) (o := 47) (k := np.toNatClampNeg) (v := .int 13) (by omega))) (show rg_v (am_up (am_up (am_up h 32 0 (.int (kn + 1))) 47 np.toNatClampNeg (.int 13)) 44 13 (.int (np + 1))) 47 np.toNatClampNeg = 13 from rg_v_self (h := h) (o := 47) (k := np.toNatClampNeg)) (fun i hi_z => (show rg_v (am_up (am_up (am_up (am_up (am_up g 164 44 (.int (kn + 1))) 184 np.toNatClampNeg (.int 12)) 164 41 (.int (np + 1))) 164 45 (.int 1)) 164 46 (.int 0)) 184 i = rg_v g 184 i from rg_v_other (h := g) (o := 184) (k := np.toNatClampNeg) (v := .int 12) (by omega))) (show rg_v (am_up (am_up (am_up (am_up (am_up g 164 44 (.int (kn + 1))) 184 np.toNatClampNeg (.int 12)) 164 41 (.int (np + 1))) 164 45 (.int 1)) 164 46 (.int 0)) 184 np.toNatClampNeg = 12 from rg_v_self (h := g) (o := 184) (k := np.toNatClampNeg)) (show (rg_v h 32 0).toInt ≤ 64 by rw [ekn]; exact nk3_z) (Or.inl ⟨by decide, (show rg_v (am_up (am_up (am_up h 32 0 (.int (kn + 1))) 47 np.toNatClampNeg (.int 13)) 44 13 (.int (np + 1))) 44 14 = op from (show rg_v (am_up (am_up (am_up h 32 0 (.int (kn + 1))) 47 np.toNatClampNeg (.int 13)) 44 13 (.int (np + 1))) 44 14 = op from z4_z)), (show rg_v (am_up (am_up (am_up (am_up (am_up g 164 44 (.int (kn + 1))) 184 np.toNatClampNeg (.int 12)) 164 41 (.int (np + 1))) 164 45 (.int 1)) 164 46 (.int 0)) 164 43 = op from (show rg_v (am_up (am_up (am_up (am_up (am_up g 164 44 (.int (kn + 1))) 184 np.toNatClampNeg (.int 12)) 164 41 (.int (np + 1))) 164 45 (.int 1)) 164 46 (.int 0)) 164 43 = op from z5_z)), (show (rg_v (am_up (am_up (am_up h 32 0 (.int (kn + 1))) 47 np.toNatClampNeg (.int 13)) 44 13 (.int (np + 1))) 32 0).toInt = (rg_v h 32 0).toInt + 1 by rw [(show rg_v (am_up (am_up (am_up h 32 0 (.int (kn + 1))) 47 np.toNatClampNeg (.int 13)) 44 13 (.int (np + 1))) 32 0 = kn + 1 from (show rg_v (am_up (am_up (am_up h 32 0 (.int (kn + 1))) 47 np.toNatClampNeg (.int 13)) 44 13 (.int (np + 1))) 32 0 = kn + 1 from rfl)), ekn]; exact e9_z)⟩)
      replace Z2 := rs_fr (by decide) Z2 t5_z t6_z
      have e45_z : rg_v h4558_z 164 45 = 1 := (rg_v_fr t6_z (by decide)).trans (show rg_v (am_up (am_up (am_up (am_up (am_up g 164 44 (.int (kn + 1))) 184 np.toNatClampNeg (.int 12)) 164 41 (.int (np + 1))) 164 45 (.int 1)) 164 46 (.int 0)) 164 45 = 1 from (show rg_v (am_up (am_up (am_up (am_up (am_up g 164 44 (.int (kn + 1))) 184 np.toNatClampNeg (.int 12)) 164 41 (.int (np + 1))) 164 45 (.int 1)) 164 46 (.int 0)) 164 45 = 1 from rfl))
      have e46_z : rg_v h4558_z 164 46 = 0 := (rg_v_fr t6_z (by decide)).trans (show rg_v (am_up (am_up (am_up (am_up (am_up g 164 44 (.int (kn + 1))) 184 np.toNatClampNeg (.int 12)) 164 41 (.int (np + 1))) 164 45 (.int 1)) 164 46 (.int 0)) 164 46 = 0 from (show rg_v (am_up (am_up (am_up (am_up (am_up g 164 44 (.int (kn + 1))) 184 np.toNatClampNeg (.int 12)) 164 41 (.int (np + 1))) 164 45 (.int 1)) 164 46 (.int 0)) 164 46 = 0 from rfl))
      replace hm_z : rn _ _ _ _ [] _ _ _ := hm_z
      replace hc_z : rn _ _ _ _ [] _ _ _ := hc_z
      replace hc_z := rn_iload_n (am_cur_of (i := (160, 1, .iload_n 1, (0, 0, 0), 0)) (by decide +kernel)) g1_z hc_z
      replace hc_z := rn_iconst (w := 3) (am_cur_of (i := (161, 1, .iconst 3, (0, 0, 0), 0)) (by decide +kernel)) (by decide) hc_z
      replace hc_z := rn_cmpF (am_cur_of (i := (162, 3, .if_icmp .eq 8, (89, 0, 0), 0)) (by decide +kernel)) (by decide) hc_z
      replace hc_z := rn_iload_n (am_cur_of (i := (165, 1, .iload_n 1, (0, 0, 0), 0)) (by decide +kernel)) g1_z hc_z
      replace hc_z := rn_iconst (w := 4) (am_cur_of (i := (166, 1, .iconst 4, (0, 0, 0), 0)) (by decide +kernel)) (by decide) hc_z
      replace hc_z := rn_cmpT (am_cur_of (i := (167, 3, .if_icmp .ne 7, (91, 0, 0), 0)) (by decide +kernel)) (by decide) hc_z
      replace hc_z := rn_iconst (w := 1) (am_cur_of (i := (174, 1, .iconst 1, (0, 0, 0), 0)) (by decide +kernel)) (by decide) hc_z
      replace hc_z := rn_iret (am_cur_of (i := (175, 1, .ireturn, (0, 0, 0), 0)) (by decide +kernel)) hc_z
      obtain ⟨e4560_z, e4561_z⟩ := hc_z
      replace hm_z := rn_iconst (w := 1) (am_cur_of (i := (257, 1, .iconst 1, (0, 0, 0), 0)) (by decide +kernel)) (by decide) hm_z
      replace hm_z := rn_iret (am_cur_of (i := (258, 1, .ireturn, (0, 0, 0), 0)) (by decide +kernel)) hm_z
      obtain ⟨e4562_z, e4563_z⟩ := hm_z
      subst e4560_z e4561_z e4562_z e4563_z
      exact Or.inl ⟨_, x2_z, p2_z, rfl, rfl, R2, le2_z, A2, B2, Z2, Or.inr (Or.inl ⟨rfl, e45_z, e46_z⟩)⟩
theorem rj_t14_23 {T : Nat → Int32} {S x p : Int32} {n n' : Nat} {h h' g g' : am_H} {r r' : Option Value} {ls ls2_z : am_L} (R : rq T S x p 23 h g) (A : rp 23 h g) (B : rp_t h g) (Z : rs 23 h g) (g0_z : am_get ls 0 = some (.ref 44)) (g1_z : am_get ls 1 = some (.int 14)) (g0m : am_get ls2_z 0 = some (.ref 164)) (g1m : am_get ls2_z 1 = some (.int 13)) (hc_z : rn n am_m44 76 ls [] h r h') (hm_z : rn n' am_m178 110 ls2_z [] g r' g') : rv_Q T S x p 23 h' g' r r' := by
  have Rk := R
  have Zk := Z
  obtain ⟨⟨c1_z, c2_z, c3_z, c4_z, c5_z, c6_z, c7_z, c8_z⟩, ⟨m2_z, m3_z, m4_z, m5_z, m6_z, m7_z, m8_z⟩, R3, R4, R5, R6, R7, R8, R9, R10⟩ := (R : rq T S x p 23 h g)
  obtain ⟨np, op, z1_z, z2_z, z3_z, z4_z, z5_z, z6_z, z7_z, z8_z, z9_z, z10_z⟩ := (Z : rs 23 h g)
  obtain ⟨nk1_z, nk2_z, nk3_z⟩ := A.2.2.2.2.2.1
  replace nk1_z : rg_v h 32 0 = rg_v g 164 44 := nk1_z
  replace nk2_z : 0 ≤ (rg_v h 32 0).toInt := nk2_z
  replace nk3_z : (rg_v h 32 0).toInt ≤ 64 := nk3_z
  replace z8_z : np.toInt ≤ (rg_v h 32 0).toInt + op.toInt := z8_z
  obtain ⟨kn, ekn⟩ : ∃ v, rg_v h 32 0 = v := ⟨_, rfl⟩
  rw [ekn] at nk1_z nk2_z nk3_z z8_z
  have e9_z := rt_c1 (x := kn) (by omega) (by omega)
  replace hc_z := rn_aload_n (am_cur_of (i := (147, 1, .aload_n 0, (0, 0, 0), 0)) (by decide +kernel)) g0_z hc_z
  replace hc_z := rn_callV (M' := am_m49) (o := 44) (ar := []) (rest := []) (L := lv_args 0 [.ref 44]) (am_cur_of (i := (148, 3, .invokevirtual 270, (49, 852, 3), 0)) (by decide +kernel)) rfl rfl rfl rfl hc_z
  obtain ⟨r4564_z, h4565_z, q4566_z, hc_z⟩ := hc_z
  rcases rs_ck23 R4 (show h 44 6 = .ref 23 from R3) q4566_z with ⟨ge, rfl, eh⟩ | ⟨lt, rfl, eh⟩
  · subst eh
    replace ge : 64 ≤ kn.toInt := by rw [← ekn]; exact ge
    replace hc_z : rn _ _ _ _ [] _ _ _ := hc_z
    have K := rs_stick (w := 2) (q := p) (a := 44) (by decide) (by decide) rfl (by decide) rfl (show rg_v (am_up (am_up h 44 1 (.int 2)) 44 2 (.int (rg_v h 44 9))) 44 2 = p from R5) hc_z
    replace hm_z := rn_aload_n (am_cur_of (i := (217, 1, .aload_n 0, (0, 0, 0), 0)) (by decide +kernel)) g0m hm_z
    replace hm_z := rn_callV (M' := am_m175) (o := 164) (ar := []) (rest := []) (L := lv_args 0 [.ref 164]) (am_cur_of (i := (218, 3, .invokevirtual 309, (175, 1731, 3), 0)) (by decide +kernel)) rfl rfl rfl rfl hm_z
    obtain ⟨r4567_z, h4568_z, q4569_z, hm_z⟩ := hm_z
    rcases rs_ic q4569_z with ⟨i1_z, rfl, i3_z⟩ | ⟨i1_z, -⟩
    · subst i3_z
      replace hm_z : rn _ _ _ _ [.int 0] _ _ _ := hm_z
      replace hm_z := rn_ifF (am_cur_of (i := (221, 3, .ifCond .ne 5, (115, 0, 0), 0)) (by decide +kernel)) (by decide) hm_z
      replace hm_z := rn_iconst (w := 0) (am_cur_of (i := (224, 1, .iconst 0, (0, 0, 0), 0)) (by decide +kernel)) (by decide) hm_z
      replace hm_z := rn_iret (am_cur_of (i := (225, 1, .ireturn, (0, 0, 0), 0)) (by decide +kernel)) hm_z
      obtain ⟨e4570_z, e4571_z⟩ := hm_z
      subst e4570_z e4571_z
      exact (Or.inr ⟨rfl, 2, by decide, K.1, K.2, rfl, R6⟩)
    · exact absurd (Int32.toInt_inj.mp (show (rg_v g 164 44).toInt = (64 : Int32).toInt from by rw [show rg_v g 164 44 = kn from nk1_z.symm, show (64 : Int32).toInt = 64 by decide]; omega)) i1_z
  · subst eh
    replace lt : kn.toInt < 64 := by rw [← ekn]; exact lt
    rw [show rg_v h 32 0 = kn from ekn] at hc_z
    replace hm_z := rn_aload_n (am_cur_of (i := (217, 1, .aload_n 0, (0, 0, 0), 0)) (by decide +kernel)) g0m hm_z
    replace hm_z := rn_callV (M' := am_m175) (o := 164) (ar := []) (rest := []) (L := lv_args 0 [.ref 164]) (am_cur_of (i := (218, 3, .invokevirtual 309, (175, 1731, 3), 0)) (by decide +kernel)) rfl rfl rfl rfl hm_z
    obtain ⟨r4572_z, h4573_z, q4574_z, hm_z⟩ := hm_z
    rcases rs_ic q4574_z with ⟨i1_z, -⟩ | ⟨i1_z, rfl, i3_z⟩
    · exfalso
      have zz := congrArg Int32.toInt i1_z
      rw [show rg_v g 164 44 = kn from nk1_z.symm, show (64 : Int32).toInt = 64 by decide] at zz
      omega
    · subst i3_z
      rw [show rg_v g 164 44 = kn from nk1_z.symm] at hm_z
      replace hm_z : rn _ _ _ _ [.int 1] _ _ _ := hm_z
      replace hc_z : rn _ _ _ _ [] _ _ _ := hc_z
      replace hc_z := rn_aload_n (am_cur_of (i := (151, 1, .aload_n 0, (0, 0, 0), 0)) (by decide +kernel)) g0_z hc_z
      replace hc_z := rn_iload_n (am_cur_of (i := (152, 1, .iload_n 1, (0, 0, 0), 0)) (by decide +kernel)) g1_z hc_z
      replace hc_z := rn_callV (M' := am_m50) (o := 44) (ar := [.int 14]) (rest := []) (L := lv_args 0 [.ref 44, .int 14]) (am_cur_of (i := (153, 3, .invokevirtual 273, (50, 856, 3), 0)) (by decide +kernel)) rfl rfl rfl rfl hc_z
      obtain ⟨r4575_z, h4576_z, q4577_z, hc_z⟩ := hc_z
      obtain ⟨rfl, eh⟩ := rs_hold (np := np) (show rg_v (am_up h 32 0 (.int (kn + 1))) 44 13 = np from z1_z) (by omega) q4577_z
      subst eh
      replace hc_z : rn _ _ _ _ [] _ _ _ := hc_z
      replace hc_z := rn_aload_n (am_cur_of (i := (156, 1, .aload_n 0, (0, 0, 0), 0)) (by decide +kernel)) g0_z hc_z
      replace hc_z := rn_callV (M' := am_m19) (o := 44) (ar := []) (rest := []) (L := lv_args 0 [.ref 44]) (am_cur_of (i := (157, 3, .invokevirtual 57, (19, 727, 3), 0)) (by decide +kernel)) rfl rfl rfl rfl hc_z
      obtain ⟨r4578_z, h4579_z, q4580_z, hc_z⟩ := hc_z
      have vo := rn_void rfl q4580_z
      subst vo
      replace hm_z := rn_ifT (am_cur_of (i := (221, 3, .ifCond .ne 5, (115, 0, 0), 0)) (by decide +kernel)) (by decide) hm_z
      replace hm_z := rn_aload_n (am_cur_of (i := (226, 1, .aload_n 0, (0, 0, 0), 0)) (by decide +kernel)) g0m hm_z
      replace hm_z := rn_iload_n (am_cur_of (i := (227, 1, .iload_n 1, (0, 0, 0), 0)) (by decide +kernel)) g1m hm_z
      replace hm_z := rn_callV (M' := am_m173) (o := 164) (ar := [.int 13]) (rest := []) (L := lv_args 0 [.ref 164, .int 13]) (am_cur_of (i := (228, 3, .invokevirtual 298, (173, 1723, 3), 0)) (by decide +kernel)) rfl rfl rfl rfl hm_z
      obtain ⟨r4581_z, h4582_z, q4583_z, hm_z⟩ := hm_z
      obtain ⟨rfl, eh⟩ := rs_wf (np := np) (show rg_v (am_up g 164 44 (.int (kn + 1))) 164 41 = np from z2_z) q4583_z
      subst eh
      replace hm_z : rn _ _ _ _ [] _ _ _ := hm_z
      replace hm_z := rn_aload_n (am_cur_of (i := (231, 1, .aload_n 0, (0, 0, 0), 0)) (by decide +kernel)) g0m hm_z
      replace hm_z := rn_iconst (w := 1) (am_cur_of (i := (232, 1, .iconst 1, (0, 0, 0), 0)) (by decide +kernel)) (by decide) hm_z
      replace hm_z := rn_put (am_cur_of (i := (233, 3, .putfield 315, (12, 45, 1429), 0)) (by decide +kernel)) (by decide +kernel) hm_z
      replace hm_z := rn_aload_n (am_cur_of (i := (236, 1, .aload_n 0, (0, 0, 0), 0)) (by decide +kernel)) g0m hm_z
      replace hm_z := rn_iload_n (am_cur_of (i := (237, 1, .iload_n 1, (0, 0, 0), 0)) (by decide +kernel)) g1m hm_z
      replace hm_z := rn_callS (M' := am_m180) (ar := [.int 13]) (rest := [.ref 164]) (L := lv_args 0 [.int 13]) (am_cur_of (i := (238, 3, .invokestatic 283, (180, 1751, 3), 0)) (by decide +kernel)) rfl rfl rfl rfl hm_z
      obtain ⟨r4584_z, h4585_z, q4586_z, hm_z⟩ := hm_z
      obtain ⟨rfl, yq4586_z⟩ := rs_rankM q4586_z
      replace yq4586_z := yq4586_z.symm
      subst yq4586_z
      rw [show rk_M 13 = 6 by decide] at hm_z
      replace hm_z : rn _ _ _ _ [.int 6, .ref 164] _ _ _ := hm_z
      replace hm_z := rn_iconst (w := 3) (am_cur_of (i := (241, 1, .iconst 3, (0, 0, 0), 0)) (by decide +kernel)) (by decide) hm_z
      replace hm_z := rn_cmpT (am_cur_of (i := (242, 3, .if_icmp .ge 7, (128, 0, 0), 0)) (by decide +kernel)) (by decide) hm_z
      replace hm_z := rn_iconst (w := 0) (am_cur_of (i := (249, 1, .iconst 0, (0, 0, 0), 0)) (by decide +kernel)) (by decide) hm_z
      replace hm_z := rn_put (am_cur_of (i := (250, 3, .putfield 302, (12, 46, 1430), 0)) (by decide +kernel)) (by decide +kernel) hm_z
      replace hm_z := rn_aload_n (am_cur_of (i := (253, 1, .aload_n 0, (0, 0, 0), 0)) (by decide +kernel)) g0m hm_z
      replace hm_z := rn_callV (M' := am_m151) (o := 164) (ar := []) (rest := []) (L := lv_args 0 [.ref 164]) (am_cur_of (i := (254, 3, .invokevirtual 191, (151, 1636, 3), 0)) (by decide +kernel)) rfl rfl rfl rfl hm_z
      obtain ⟨r4587_z, h4588_z, q4589_z, hm_z⟩ := hm_z
      have vo := rn_void rfl q4589_z
      subst vo
      have FC : ab_Fr (rz_MC23.drop 1) h (am_up (am_up (am_up h 32 0 (.int (kn + 1))) 47 np.toNatClampNeg (.int 14)) 44 13 (.int (np + 1))) := ab_Fr_up rfl (ab_Fr_up rfl (ab_Fr_up rfl ab_Fr_refl))
      have FC' : ab_Fr rz_MC23 h (am_up (am_up (am_up h 32 0 (.int (kn + 1))) 47 np.toNatClampNeg (.int 14)) 44 13 (.int (np + 1))) := ab_Fr_sub (by decide) FC
      have FM : ab_Fr rz_MM g (am_up (am_up (am_up (am_up (am_up g 164 44 (.int (kn + 1))) 184 np.toNatClampNeg (.int 13)) 164 41 (.int (np + 1))) 164 45 (.int 1)) 164 46 (.int 0)) := ab_Fr_up rfl (ab_Fr_up rfl (ab_Fr_up rfl (ab_Fr_up rfl (ab_Fr_up rfl ab_Fr_refl))))
      obtain ⟨-, -, x2_z, p2_z, R2, le2_z, t5_z, t6_z⟩ := pr_tok (rz_q023 (rq_0 Rk) FC' FM) q4580_z q4589_z
      have A2 := rp_x (by decide) (rz_p23 A FC' FM ((show rg_v (am_up (am_up (am_up h 32 0 (.int (kn + 1))) 47 np.toNatClampNeg (.int 14)) 44 13 (.int (np + 1))) 32 0 = kn + 1 from (show rg_v (am_up (am_up (am_up h 32 0 (.int (kn + 1))) 47 np.toNatClampNeg (.int 14)) 44 13 (.int (np + 1))) 32 0 = kn + 1 from rfl)).trans (show rg_v (am_up (am_up (am_up (am_up (am_up g 164 44 (.int (kn + 1))) 184 np.toNatClampNeg (.int 13)) 164 41 (.int (np + 1))) 164 45 (.int 1)) 164 46 (.int 0)) 164 44 = kn + 1 from (show rg_v (am_up (am_up (am_up (am_up (am_up g 164 44 (.int (kn + 1))) 184 np.toNatClampNeg (.int 13)) 164 41 (.int (np + 1))) 164 45 (.int 1)) 164 46 (.int 0)) 164 44 = kn + 1 from rfl)).symm) (by rw [show rg_v (am_up (am_up (am_up h 32 0 (.int (kn + 1))) 47 np.toNatClampNeg (.int 14)) 44 13 (.int (np + 1))) 32 0 = kn + 1 from (show rg_v (am_up (am_up (am_up h 32 0 (.int (kn + 1))) 47 np.toNatClampNeg (.int 14)) 44 13 (.int (np + 1))) 32 0 = kn + 1 from rfl)]; omega) (by rw [show rg_v (am_up (am_up (am_up h 32 0 (.int (kn + 1))) 47 np.toNatClampNeg (.int 14)) 44 13 (.int (np + 1))) 32 0 = kn + 1 from (show rg_v (am_up (am_up (am_up h 32 0 (.int (kn + 1))) 47 np.toNatClampNeg (.int 14)) 44 13 (.int (np + 1))) 32 0 = kn + 1 from rfl)]; omega)) (rx_C_f t5_z) (rx_M_f t6_z)
      have B2 := rp_tk (rz_t23 B FC FM) (rg_v_fr t5_z (by decide)) (fun k => rg_v_fr t6_z (rg_v_in (by decide) k)) (rx_M_f t6_z)
      have Z2 : rs 23 (am_up (am_up (am_up h 32 0 (.int (kn + 1))) 47 np.toNatClampNeg (.int 14)) 44 13 (.int (np + 1))) (am_up (am_up (am_up (am_up (am_up g 164 44 (.int (kn + 1))) 184 np.toNatClampNeg (.int 13)) 164 41 (.int (np + 1))) 164 45 (.int 1)) 164 46 (.int 0)) := rs_push (o := 14) (k := 13) (np := np) (op := op) Zk (by unfold rs_o; decide) z1_z z4_z (show rg_v (am_up (am_up (am_up h 32 0 (.int (kn + 1))) 47 np.toNatClampNeg (.int 14)) 44 13 (.int (np + 1))) 44 13 = np + 1 from (show rg_v (am_up (am_up (am_up h 32 0 (.int (kn + 1))) 47 np.toNatClampNeg (.int 14)) 44 13 (.int (np + 1))) 44 13 = np + 1 from rfl)) (show rg_v (am_up (am_up (am_up (am_up (am_up g 164 44 (.int (kn + 1))) 184 np.toNatClampNeg (.int 13)) 164 41 (.int (np + 1))) 164 45 (.int 1)) 164 46 (.int 0)) 164 41 = np + 1 from (show rg_v (am_up (am_up (am_up (am_up (am_up g 164 44 (.int (kn + 1))) 184 np.toNatClampNeg (.int 13)) 164 41 (.int (np + 1))) 164 45 (.int 1)) 164 46 (.int 0)) 164 41 = np + 1 from rfl)) (fun i hi_z => (show rg_v (am_up (am_up (am_up h 32 0 (.int (kn + 1))) 47 np.toNatClampNeg (.int 14)) 44 13 (.int (np + 1))) 47 i = rg_v h 47 i from rg_v_other (h := h) (o := 47) (k := np.toNatClampNeg) (v := .int 14) (by omega))) (show rg_v (am_up (am_up (am_up h 32 0 (.int (kn + 1))) 47 np.toNatClampNeg (.int 14)) 44 13 (.int (np + 1))) 47 np.toNatClampNeg = 14 from rg_v_self (h := h) (o := 47) (k := np.toNatClampNeg)) (fun i hi_z => (show rg_v (am_up (am_up (am_up (am_up (am_up g 164 44 (.int (kn + 1))) 184 np.toNatClampNeg (.int 13)) 164 41 (.int (np + 1))) 164 45 (.int 1)) 164 46 (.int 0)) 184 i = rg_v g 184 i from rg_v_other (h := g) (o := 184) (k := np.toNatClampNeg) (v := .int 13) (by omega))) (show rg_v (am_up (am_up (am_up (am_up (am_up g 164 44 (.int (kn + 1))) 184 np.toNatClampNeg (.int 13)) 164 41 (.int (np + 1))) 164 45 (.int 1)) 164 46 (.int 0)) 184 np.toNatClampNeg = 13 from rg_v_self (h := g) (o := 184) (k := np.toNatClampNeg)) (show (rg_v h 32 0).toInt ≤ 64 by rw [ekn]; exact nk3_z) (Or.inl ⟨by decide, (show rg_v (am_up (am_up (am_up h 32 0 (.int (kn + 1))) 47 np.toNatClampNeg (.int 14)) 44 13 (.int (np + 1))) 44 14 = op from (show rg_v (am_up (am_up (am_up h 32 0 (.int (kn + 1))) 47 np.toNatClampNeg (.int 14)) 44 13 (.int (np + 1))) 44 14 = op from z4_z)), (show rg_v (am_up (am_up (am_up (am_up (am_up g 164 44 (.int (kn + 1))) 184 np.toNatClampNeg (.int 13)) 164 41 (.int (np + 1))) 164 45 (.int 1)) 164 46 (.int 0)) 164 43 = op from (show rg_v (am_up (am_up (am_up (am_up (am_up g 164 44 (.int (kn + 1))) 184 np.toNatClampNeg (.int 13)) 164 41 (.int (np + 1))) 164 45 (.int 1)) 164 46 (.int 0)) 164 43 = op from z5_z)), (show (rg_v (am_up (am_up (am_up h 32 0 (.int (kn + 1))) 47 np.toNatClampNeg (.int 14)) 44 13 (.int (np + 1))) 32 0).toInt = (rg_v h 32 0).toInt + 1 by rw [(show rg_v (am_up (am_up (am_up h 32 0 (.int (kn + 1))) 47 np.toNatClampNeg (.int 14)) 44 13 (.int (np + 1))) 32 0 = kn + 1 from (show rg_v (am_up (am_up (am_up h 32 0 (.int (kn + 1))) 47 np.toNatClampNeg (.int 14)) 44 13 (.int (np + 1))) 32 0 = kn + 1 from rfl)), ekn]; exact e9_z)⟩)
      replace Z2 := rs_fr (by decide) Z2 t5_z t6_z
      have e45_z : rg_v h4588_z 164 45 = 1 := (rg_v_fr t6_z (by decide)).trans (show rg_v (am_up (am_up (am_up (am_up (am_up g 164 44 (.int (kn + 1))) 184 np.toNatClampNeg (.int 13)) 164 41 (.int (np + 1))) 164 45 (.int 1)) 164 46 (.int 0)) 164 45 = 1 from (show rg_v (am_up (am_up (am_up (am_up (am_up g 164 44 (.int (kn + 1))) 184 np.toNatClampNeg (.int 13)) 164 41 (.int (np + 1))) 164 45 (.int 1)) 164 46 (.int 0)) 164 45 = 1 from rfl))
      have e46_z : rg_v h4588_z 164 46 = 0 := (rg_v_fr t6_z (by decide)).trans (show rg_v (am_up (am_up (am_up (am_up (am_up g 164 44 (.int (kn + 1))) 184 np.toNatClampNeg (.int 13)) 164 41 (.int (np + 1))) 164 45 (.int 1)) 164 46 (.int 0)) 164 46 = 0 from (show rg_v (am_up (am_up (am_up (am_up (am_up g 164 44 (.int (kn + 1))) 184 np.toNatClampNeg (.int 13)) 164 41 (.int (np + 1))) 164 45 (.int 1)) 164 46 (.int 0)) 164 46 = 0 from rfl))
      replace hm_z : rn _ _ _ _ [] _ _ _ := hm_z
      replace hc_z : rn _ _ _ _ [] _ _ _ := hc_z
      replace hc_z := rn_iload_n (am_cur_of (i := (160, 1, .iload_n 1, (0, 0, 0), 0)) (by decide +kernel)) g1_z hc_z
      replace hc_z := rn_iconst (w := 3) (am_cur_of (i := (161, 1, .iconst 3, (0, 0, 0), 0)) (by decide +kernel)) (by decide) hc_z
      replace hc_z := rn_cmpF (am_cur_of (i := (162, 3, .if_icmp .eq 8, (89, 0, 0), 0)) (by decide +kernel)) (by decide) hc_z
      replace hc_z := rn_iload_n (am_cur_of (i := (165, 1, .iload_n 1, (0, 0, 0), 0)) (by decide +kernel)) g1_z hc_z
      replace hc_z := rn_iconst (w := 4) (am_cur_of (i := (166, 1, .iconst 4, (0, 0, 0), 0)) (by decide +kernel)) (by decide) hc_z
      replace hc_z := rn_cmpT (am_cur_of (i := (167, 3, .if_icmp .ne 7, (91, 0, 0), 0)) (by decide +kernel)) (by decide) hc_z
      replace hc_z := rn_iconst (w := 1) (am_cur_of (i := (174, 1, .iconst 1, (0, 0, 0), 0)) (by decide +kernel)) (by decide) hc_z
      replace hc_z := rn_iret (am_cur_of (i := (175, 1, .ireturn, (0, 0, 0), 0)) (by decide +kernel)) hc_z
      obtain ⟨e4590_z, e4591_z⟩ := hc_z
      replace hm_z := rn_iconst (w := 1) (am_cur_of (i := (257, 1, .iconst 1, (0, 0, 0), 0)) (by decide +kernel)) (by decide) hm_z
      replace hm_z := rn_iret (am_cur_of (i := (258, 1, .ireturn, (0, 0, 0), 0)) (by decide +kernel)) hm_z
      obtain ⟨e4592_z, e4593_z⟩ := hm_z
      subst e4590_z e4591_z e4592_z e4593_z
      exact Or.inl ⟨_, x2_z, p2_z, rfl, rfl, R2, le2_z, A2, B2, Z2, Or.inr (Or.inl ⟨rfl, e45_z, e46_z⟩)⟩
theorem rj_t15_23 {T : Nat → Int32} {S x p : Int32} {n n' : Nat} {h h' g g' : am_H} {r r' : Option Value} {ls ls2_z : am_L} (R : rq T S x p 23 h g) (A : rp 23 h g) (B : rp_t h g) (Z : rs 23 h g) (g0_z : am_get ls 0 = some (.ref 44)) (g1_z : am_get ls 1 = some (.int 15)) (g0m : am_get ls2_z 0 = some (.ref 164)) (g1m : am_get ls2_z 1 = some (.int 14)) (hc_z : rn n am_m44 76 ls [] h r h') (hm_z : rn n' am_m178 110 ls2_z [] g r' g') : rv_Q T S x p 23 h' g' r r' := by
  have Rk := R
  have Zk := Z
  obtain ⟨⟨c1_z, c2_z, c3_z, c4_z, c5_z, c6_z, c7_z, c8_z⟩, ⟨m2_z, m3_z, m4_z, m5_z, m6_z, m7_z, m8_z⟩, R3, R4, R5, R6, R7, R8, R9, R10⟩ := (R : rq T S x p 23 h g)
  obtain ⟨np, op, z1_z, z2_z, z3_z, z4_z, z5_z, z6_z, z7_z, z8_z, z9_z, z10_z⟩ := (Z : rs 23 h g)
  obtain ⟨nk1_z, nk2_z, nk3_z⟩ := A.2.2.2.2.2.1
  replace nk1_z : rg_v h 32 0 = rg_v g 164 44 := nk1_z
  replace nk2_z : 0 ≤ (rg_v h 32 0).toInt := nk2_z
  replace nk3_z : (rg_v h 32 0).toInt ≤ 64 := nk3_z
  replace z8_z : np.toInt ≤ (rg_v h 32 0).toInt + op.toInt := z8_z
  obtain ⟨kn, ekn⟩ : ∃ v, rg_v h 32 0 = v := ⟨_, rfl⟩
  rw [ekn] at nk1_z nk2_z nk3_z z8_z
  have e9_z := rt_c1 (x := kn) (by omega) (by omega)
  replace hc_z := rn_aload_n (am_cur_of (i := (147, 1, .aload_n 0, (0, 0, 0), 0)) (by decide +kernel)) g0_z hc_z
  replace hc_z := rn_callV (M' := am_m49) (o := 44) (ar := []) (rest := []) (L := lv_args 0 [.ref 44]) (am_cur_of (i := (148, 3, .invokevirtual 270, (49, 852, 3), 0)) (by decide +kernel)) rfl rfl rfl rfl hc_z
  obtain ⟨r4594_z, h4595_z, q4596_z, hc_z⟩ := hc_z
  rcases rs_ck23 R4 (show h 44 6 = .ref 23 from R3) q4596_z with ⟨ge, rfl, eh⟩ | ⟨lt, rfl, eh⟩
  · subst eh
    replace ge : 64 ≤ kn.toInt := by rw [← ekn]; exact ge
    replace hc_z : rn _ _ _ _ [] _ _ _ := hc_z
    have K := rs_stick (w := 2) (q := p) (a := 44) (by decide) (by decide) rfl (by decide) rfl (show rg_v (am_up (am_up h 44 1 (.int 2)) 44 2 (.int (rg_v h 44 9))) 44 2 = p from R5) hc_z
    replace hm_z := rn_aload_n (am_cur_of (i := (217, 1, .aload_n 0, (0, 0, 0), 0)) (by decide +kernel)) g0m hm_z
    replace hm_z := rn_callV (M' := am_m175) (o := 164) (ar := []) (rest := []) (L := lv_args 0 [.ref 164]) (am_cur_of (i := (218, 3, .invokevirtual 309, (175, 1731, 3), 0)) (by decide +kernel)) rfl rfl rfl rfl hm_z
    obtain ⟨r4597_z, h4598_z, q4599_z, hm_z⟩ := hm_z
    rcases rs_ic q4599_z with ⟨i1_z, rfl, i3_z⟩ | ⟨i1_z, -⟩
    · subst i3_z
      replace hm_z : rn _ _ _ _ [.int 0] _ _ _ := hm_z
      replace hm_z := rn_ifF (am_cur_of (i := (221, 3, .ifCond .ne 5, (115, 0, 0), 0)) (by decide +kernel)) (by decide) hm_z
      replace hm_z := rn_iconst (w := 0) (am_cur_of (i := (224, 1, .iconst 0, (0, 0, 0), 0)) (by decide +kernel)) (by decide) hm_z
      replace hm_z := rn_iret (am_cur_of (i := (225, 1, .ireturn, (0, 0, 0), 0)) (by decide +kernel)) hm_z
      obtain ⟨e4600_z, e4601_z⟩ := hm_z
      subst e4600_z e4601_z
      exact (Or.inr ⟨rfl, 2, by decide, K.1, K.2, rfl, R6⟩)
    · exact absurd (Int32.toInt_inj.mp (show (rg_v g 164 44).toInt = (64 : Int32).toInt from by rw [show rg_v g 164 44 = kn from nk1_z.symm, show (64 : Int32).toInt = 64 by decide]; omega)) i1_z
  · subst eh
    replace lt : kn.toInt < 64 := by rw [← ekn]; exact lt
    rw [show rg_v h 32 0 = kn from ekn] at hc_z
    replace hm_z := rn_aload_n (am_cur_of (i := (217, 1, .aload_n 0, (0, 0, 0), 0)) (by decide +kernel)) g0m hm_z
    replace hm_z := rn_callV (M' := am_m175) (o := 164) (ar := []) (rest := []) (L := lv_args 0 [.ref 164]) (am_cur_of (i := (218, 3, .invokevirtual 309, (175, 1731, 3), 0)) (by decide +kernel)) rfl rfl rfl rfl hm_z
    obtain ⟨r4602_z, h4603_z, q4604_z, hm_z⟩ := hm_z
    rcases rs_ic q4604_z with ⟨i1_z, -⟩ | ⟨i1_z, rfl, i3_z⟩
    · exfalso
      have zz := congrArg Int32.toInt i1_z
      rw [show rg_v g 164 44 = kn from nk1_z.symm, show (64 : Int32).toInt = 64 by decide] at zz
      omega
    · subst i3_z
      rw [show rg_v g 164 44 = kn from nk1_z.symm] at hm_z
      replace hm_z : rn _ _ _ _ [.int 1] _ _ _ := hm_z
      replace hc_z : rn _ _ _ _ [] _ _ _ := hc_z
      replace hc_z := rn_aload_n (am_cur_of (i := (151, 1, .aload_n 0, (0, 0, 0), 0)) (by decide +kernel)) g0_z hc_z
      replace hc_z := rn_iload_n (am_cur_of (i := (152, 1, .iload_n 1, (0, 0, 0), 0)) (by decide +kernel)) g1_z hc_z
      replace hc_z := rn_callV (M' := am_m50) (o := 44) (ar := [.int 15]) (rest := []) (L := lv_args 0 [.ref 44, .int 15]) (am_cur_of (i := (153, 3, .invokevirtual 273, (50, 856, 3), 0)) (by decide +kernel)) rfl rfl rfl rfl hc_z
      obtain ⟨r4605_z, h4606_z, q4607_z, hc_z⟩ := hc_z
      obtain ⟨rfl, eh⟩ := rs_hold (np := np) (show rg_v (am_up h 32 0 (.int (kn + 1))) 44 13 = np from z1_z) (by omega) q4607_z
      subst eh
      replace hc_z : rn _ _ _ _ [] _ _ _ := hc_z
      replace hc_z := rn_aload_n (am_cur_of (i := (156, 1, .aload_n 0, (0, 0, 0), 0)) (by decide +kernel)) g0_z hc_z
      replace hc_z := rn_callV (M' := am_m19) (o := 44) (ar := []) (rest := []) (L := lv_args 0 [.ref 44]) (am_cur_of (i := (157, 3, .invokevirtual 57, (19, 727, 3), 0)) (by decide +kernel)) rfl rfl rfl rfl hc_z
      obtain ⟨r4608_z, h4609_z, q4610_z, hc_z⟩ := hc_z
      have vo := rn_void rfl q4610_z
      subst vo
      replace hm_z := rn_ifT (am_cur_of (i := (221, 3, .ifCond .ne 5, (115, 0, 0), 0)) (by decide +kernel)) (by decide) hm_z
      replace hm_z := rn_aload_n (am_cur_of (i := (226, 1, .aload_n 0, (0, 0, 0), 0)) (by decide +kernel)) g0m hm_z
      replace hm_z := rn_iload_n (am_cur_of (i := (227, 1, .iload_n 1, (0, 0, 0), 0)) (by decide +kernel)) g1m hm_z
      replace hm_z := rn_callV (M' := am_m173) (o := 164) (ar := [.int 14]) (rest := []) (L := lv_args 0 [.ref 164, .int 14]) (am_cur_of (i := (228, 3, .invokevirtual 298, (173, 1723, 3), 0)) (by decide +kernel)) rfl rfl rfl rfl hm_z
      obtain ⟨r4611_z, h4612_z, q4613_z, hm_z⟩ := hm_z
      obtain ⟨rfl, eh⟩ := rs_wf (np := np) (show rg_v (am_up g 164 44 (.int (kn + 1))) 164 41 = np from z2_z) q4613_z
      subst eh
      replace hm_z : rn _ _ _ _ [] _ _ _ := hm_z
      replace hm_z := rn_aload_n (am_cur_of (i := (231, 1, .aload_n 0, (0, 0, 0), 0)) (by decide +kernel)) g0m hm_z
      replace hm_z := rn_iconst (w := 1) (am_cur_of (i := (232, 1, .iconst 1, (0, 0, 0), 0)) (by decide +kernel)) (by decide) hm_z
      replace hm_z := rn_put (am_cur_of (i := (233, 3, .putfield 315, (12, 45, 1429), 0)) (by decide +kernel)) (by decide +kernel) hm_z
      replace hm_z := rn_aload_n (am_cur_of (i := (236, 1, .aload_n 0, (0, 0, 0), 0)) (by decide +kernel)) g0m hm_z
      replace hm_z := rn_iload_n (am_cur_of (i := (237, 1, .iload_n 1, (0, 0, 0), 0)) (by decide +kernel)) g1m hm_z
      replace hm_z := rn_callS (M' := am_m180) (ar := [.int 14]) (rest := [.ref 164]) (L := lv_args 0 [.int 14]) (am_cur_of (i := (238, 3, .invokestatic 283, (180, 1751, 3), 0)) (by decide +kernel)) rfl rfl rfl rfl hm_z
      obtain ⟨r4614_z, h4615_z, q4616_z, hm_z⟩ := hm_z
      obtain ⟨rfl, yq4616_z⟩ := rs_rankM q4616_z
      replace yq4616_z := yq4616_z.symm
      subst yq4616_z
      rw [show rk_M 14 = 6 by decide] at hm_z
      replace hm_z : rn _ _ _ _ [.int 6, .ref 164] _ _ _ := hm_z
      replace hm_z := rn_iconst (w := 3) (am_cur_of (i := (241, 1, .iconst 3, (0, 0, 0), 0)) (by decide +kernel)) (by decide) hm_z
      replace hm_z := rn_cmpT (am_cur_of (i := (242, 3, .if_icmp .ge 7, (128, 0, 0), 0)) (by decide +kernel)) (by decide) hm_z
      replace hm_z := rn_iconst (w := 0) (am_cur_of (i := (249, 1, .iconst 0, (0, 0, 0), 0)) (by decide +kernel)) (by decide) hm_z
      replace hm_z := rn_put (am_cur_of (i := (250, 3, .putfield 302, (12, 46, 1430), 0)) (by decide +kernel)) (by decide +kernel) hm_z
      replace hm_z := rn_aload_n (am_cur_of (i := (253, 1, .aload_n 0, (0, 0, 0), 0)) (by decide +kernel)) g0m hm_z
      replace hm_z := rn_callV (M' := am_m151) (o := 164) (ar := []) (rest := []) (L := lv_args 0 [.ref 164]) (am_cur_of (i := (254, 3, .invokevirtual 191, (151, 1636, 3), 0)) (by decide +kernel)) rfl rfl rfl rfl hm_z
      obtain ⟨r4617_z, h4618_z, q4619_z, hm_z⟩ := hm_z
      have vo := rn_void rfl q4619_z
      subst vo
      have FC : ab_Fr (rz_MC23.drop 1) h (am_up (am_up (am_up h 32 0 (.int (kn + 1))) 47 np.toNatClampNeg (.int 15)) 44 13 (.int (np + 1))) := ab_Fr_up rfl (ab_Fr_up rfl (ab_Fr_up rfl ab_Fr_refl))
      have FC' : ab_Fr rz_MC23 h (am_up (am_up (am_up h 32 0 (.int (kn + 1))) 47 np.toNatClampNeg (.int 15)) 44 13 (.int (np + 1))) := ab_Fr_sub (by decide) FC
      have FM : ab_Fr rz_MM g (am_up (am_up (am_up (am_up (am_up g 164 44 (.int (kn + 1))) 184 np.toNatClampNeg (.int 14)) 164 41 (.int (np + 1))) 164 45 (.int 1)) 164 46 (.int 0)) := ab_Fr_up rfl (ab_Fr_up rfl (ab_Fr_up rfl (ab_Fr_up rfl (ab_Fr_up rfl ab_Fr_refl))))
      obtain ⟨-, -, x2_z, p2_z, R2, le2_z, t5_z, t6_z⟩ := pr_tok (rz_q023 (rq_0 Rk) FC' FM) q4610_z q4619_z
      have A2 := rp_x (by decide) (rz_p23 A FC' FM ((show rg_v (am_up (am_up (am_up h 32 0 (.int (kn + 1))) 47 np.toNatClampNeg (.int 15)) 44 13 (.int (np + 1))) 32 0 = kn + 1 from (show rg_v (am_up (am_up (am_up h 32 0 (.int (kn + 1))) 47 np.toNatClampNeg (.int 15)) 44 13 (.int (np + 1))) 32 0 = kn + 1 from rfl)).trans (show rg_v (am_up (am_up (am_up (am_up (am_up g 164 44 (.int (kn + 1))) 184 np.toNatClampNeg (.int 14)) 164 41 (.int (np + 1))) 164 45 (.int 1)) 164 46 (.int 0)) 164 44 = kn + 1 from (show rg_v (am_up (am_up (am_up (am_up (am_up g 164 44 (.int (kn + 1))) 184 np.toNatClampNeg (.int 14)) 164 41 (.int (np + 1))) 164 45 (.int 1)) 164 46 (.int 0)) 164 44 = kn + 1 from rfl)).symm) (by rw [show rg_v (am_up (am_up (am_up h 32 0 (.int (kn + 1))) 47 np.toNatClampNeg (.int 15)) 44 13 (.int (np + 1))) 32 0 = kn + 1 from (show rg_v (am_up (am_up (am_up h 32 0 (.int (kn + 1))) 47 np.toNatClampNeg (.int 15)) 44 13 (.int (np + 1))) 32 0 = kn + 1 from rfl)]; omega) (by rw [show rg_v (am_up (am_up (am_up h 32 0 (.int (kn + 1))) 47 np.toNatClampNeg (.int 15)) 44 13 (.int (np + 1))) 32 0 = kn + 1 from (show rg_v (am_up (am_up (am_up h 32 0 (.int (kn + 1))) 47 np.toNatClampNeg (.int 15)) 44 13 (.int (np + 1))) 32 0 = kn + 1 from rfl)]; omega)) (rx_C_f t5_z) (rx_M_f t6_z)
      have B2 := rp_tk (rz_t23 B FC FM) (rg_v_fr t5_z (by decide)) (fun k => rg_v_fr t6_z (rg_v_in (by decide) k)) (rx_M_f t6_z)
      have Z2 : rs 23 (am_up (am_up (am_up h 32 0 (.int (kn + 1))) 47 np.toNatClampNeg (.int 15)) 44 13 (.int (np + 1))) (am_up (am_up (am_up (am_up (am_up g 164 44 (.int (kn + 1))) 184 np.toNatClampNeg (.int 14)) 164 41 (.int (np + 1))) 164 45 (.int 1)) 164 46 (.int 0)) := rs_push (o := 15) (k := 14) (np := np) (op := op) Zk (by unfold rs_o; decide) z1_z z4_z (show rg_v (am_up (am_up (am_up h 32 0 (.int (kn + 1))) 47 np.toNatClampNeg (.int 15)) 44 13 (.int (np + 1))) 44 13 = np + 1 from (show rg_v (am_up (am_up (am_up h 32 0 (.int (kn + 1))) 47 np.toNatClampNeg (.int 15)) 44 13 (.int (np + 1))) 44 13 = np + 1 from rfl)) (show rg_v (am_up (am_up (am_up (am_up (am_up g 164 44 (.int (kn + 1))) 184 np.toNatClampNeg (.int 14)) 164 41 (.int (np + 1))) 164 45 (.int 1)) 164 46 (.int 0)) 164 41 = np + 1 from (show rg_v (am_up (am_up (am_up (am_up (am_up g 164 44 (.int (kn + 1))) 184 np.toNatClampNeg (.int 14)) 164 41 (.int (np + 1))) 164 45 (.int 1)) 164 46 (.int 0)) 164 41 = np + 1 from rfl)) (fun i hi_z => (show rg_v (am_up (am_up (am_up h 32 0 (.int (kn + 1))) 47 np.toNatClampNeg (.int 15)) 44 13 (.int (np + 1))) 47 i = rg_v h 47 i from rg_v_other (h := h) (o := 47) (k := np.toNatClampNeg) (v := .int 15) (by omega))) (show rg_v (am_up (am_up (am_up h 32 0 (.int (kn + 1))) 47 np.toNatClampNeg (.int 15)) 44 13 (.int (np + 1))) 47 np.toNatClampNeg = 15 from rg_v_self (h := h) (o := 47) (k := np.toNatClampNeg)) (fun i hi_z => (show rg_v (am_up (am_up (am_up (am_up (am_up g 164 44 (.int (kn + 1))) 184 np.toNatClampNeg (.int 14)) 164 41 (.int (np + 1))) 164 45 (.int 1)) 164 46 (.int 0)) 184 i = rg_v g 184 i from rg_v_other (h := g) (o := 184) (k := np.toNatClampNeg) (v := .int 14) (by omega))) (show rg_v (am_up (am_up (am_up (am_up (am_up g 164 44 (.int (kn + 1))) 184 np.toNatClampNeg (.int 14)) 164 41 (.int (np + 1))) 164 45 (.int 1)) 164 46 (.int 0)) 184 np.toNatClampNeg = 14 from rg_v_self (h := g) (o := 184) (k := np.toNatClampNeg)) (show (rg_v h 32 0).toInt ≤ 64 by rw [ekn]; exact nk3_z) (Or.inl ⟨by decide, (show rg_v (am_up (am_up (am_up h 32 0 (.int (kn + 1))) 47 np.toNatClampNeg (.int 15)) 44 13 (.int (np + 1))) 44 14 = op from (show rg_v (am_up (am_up (am_up h 32 0 (.int (kn + 1))) 47 np.toNatClampNeg (.int 15)) 44 13 (.int (np + 1))) 44 14 = op from z4_z)), (show rg_v (am_up (am_up (am_up (am_up (am_up g 164 44 (.int (kn + 1))) 184 np.toNatClampNeg (.int 14)) 164 41 (.int (np + 1))) 164 45 (.int 1)) 164 46 (.int 0)) 164 43 = op from (show rg_v (am_up (am_up (am_up (am_up (am_up g 164 44 (.int (kn + 1))) 184 np.toNatClampNeg (.int 14)) 164 41 (.int (np + 1))) 164 45 (.int 1)) 164 46 (.int 0)) 164 43 = op from z5_z)), (show (rg_v (am_up (am_up (am_up h 32 0 (.int (kn + 1))) 47 np.toNatClampNeg (.int 15)) 44 13 (.int (np + 1))) 32 0).toInt = (rg_v h 32 0).toInt + 1 by rw [(show rg_v (am_up (am_up (am_up h 32 0 (.int (kn + 1))) 47 np.toNatClampNeg (.int 15)) 44 13 (.int (np + 1))) 32 0 = kn + 1 from (show rg_v (am_up (am_up (am_up h 32 0 (.int (kn + 1))) 47 np.toNatClampNeg (.int 15)) 44 13 (.int (np + 1))) 32 0 = kn + 1 from rfl)), ekn]; exact e9_z)⟩)
      replace Z2 := rs_fr (by decide) Z2 t5_z t6_z
      have e45_z : rg_v h4618_z 164 45 = 1 := (rg_v_fr t6_z (by decide)).trans (show rg_v (am_up (am_up (am_up (am_up (am_up g 164 44 (.int (kn + 1))) 184 np.toNatClampNeg (.int 14)) 164 41 (.int (np + 1))) 164 45 (.int 1)) 164 46 (.int 0)) 164 45 = 1 from (show rg_v (am_up (am_up (am_up (am_up (am_up g 164 44 (.int (kn + 1))) 184 np.toNatClampNeg (.int 14)) 164 41 (.int (np + 1))) 164 45 (.int 1)) 164 46 (.int 0)) 164 45 = 1 from rfl))
      have e46_z : rg_v h4618_z 164 46 = 0 := (rg_v_fr t6_z (by decide)).trans (show rg_v (am_up (am_up (am_up (am_up (am_up g 164 44 (.int (kn + 1))) 184 np.toNatClampNeg (.int 14)) 164 41 (.int (np + 1))) 164 45 (.int 1)) 164 46 (.int 0)) 164 46 = 0 from (show rg_v (am_up (am_up (am_up (am_up (am_up g 164 44 (.int (kn + 1))) 184 np.toNatClampNeg (.int 14)) 164 41 (.int (np + 1))) 164 45 (.int 1)) 164 46 (.int 0)) 164 46 = 0 from rfl))
      replace hm_z : rn _ _ _ _ [] _ _ _ := hm_z
      replace hc_z : rn _ _ _ _ [] _ _ _ := hc_z
      replace hc_z := rn_iload_n (am_cur_of (i := (160, 1, .iload_n 1, (0, 0, 0), 0)) (by decide +kernel)) g1_z hc_z
      replace hc_z := rn_iconst (w := 3) (am_cur_of (i := (161, 1, .iconst 3, (0, 0, 0), 0)) (by decide +kernel)) (by decide) hc_z
      replace hc_z := rn_cmpF (am_cur_of (i := (162, 3, .if_icmp .eq 8, (89, 0, 0), 0)) (by decide +kernel)) (by decide) hc_z
      replace hc_z := rn_iload_n (am_cur_of (i := (165, 1, .iload_n 1, (0, 0, 0), 0)) (by decide +kernel)) g1_z hc_z
      replace hc_z := rn_iconst (w := 4) (am_cur_of (i := (166, 1, .iconst 4, (0, 0, 0), 0)) (by decide +kernel)) (by decide) hc_z
      replace hc_z := rn_cmpT (am_cur_of (i := (167, 3, .if_icmp .ne 7, (91, 0, 0), 0)) (by decide +kernel)) (by decide) hc_z
      replace hc_z := rn_iconst (w := 1) (am_cur_of (i := (174, 1, .iconst 1, (0, 0, 0), 0)) (by decide +kernel)) (by decide) hc_z
      replace hc_z := rn_iret (am_cur_of (i := (175, 1, .ireturn, (0, 0, 0), 0)) (by decide +kernel)) hc_z
      obtain ⟨e4620_z, e4621_z⟩ := hc_z
      replace hm_z := rn_iconst (w := 1) (am_cur_of (i := (257, 1, .iconst 1, (0, 0, 0), 0)) (by decide +kernel)) (by decide) hm_z
      replace hm_z := rn_iret (am_cur_of (i := (258, 1, .ireturn, (0, 0, 0), 0)) (by decide +kernel)) hm_z
      obtain ⟨e4622_z, e4623_z⟩ := hm_z
      subst e4620_z e4621_z e4622_z e4623_z
      exact Or.inl ⟨_, x2_z, p2_z, rfl, rfl, R2, le2_z, A2, B2, Z2, Or.inr (Or.inl ⟨rfl, e45_z, e46_z⟩)⟩
