/-! ===== A BRACKET CLOSED, in both readers (wip/r/gen99qt.py) ===== -/
theorem rs_pop {d : Nat} {h g H G : am_H} {np op : Int32} (Z : rs d h g) (en : rg_v h 44 13 = np) (eo : rg_v h 44 14 = op) (n1_z : 1 ≤ np.toInt) (o1_z : 1 ≤ op.toInt) (top : rg_v g 184 (np.toNatClampNeg - 1) = 0) (e13_z : rg_v H 44 13 = np - 1) (e41_z : rg_v G 164 41 = np - 1) (e14_z : rg_v H 44 14 = op - 1) (e43_z : rg_v G 164 43 = op - 1) (ek : (rg_v H (d + 9) 0).toInt = (rg_v h (d + 9) 0).toInt) (e47_z : ∀ k, rg_v H 47 k = rg_v h 47 k) (e184_z : ∀ k, rg_v G 184 k = rg_v g 184 k) : rs d H G := by
  obtain ⟨np', op', z1_z, z2_z, z3_z, z4_z, z5_z, z6_z, z7_z, z8_z, z9_z, z10_z⟩ := Z
  obtain rfl : np' = np := z1_z.symm.trans en
  obtain rfl : op' = op := z4_z.symm.trans eo
  have zz1_z : (1 : Int32).toInt = 1 := by decide
  have n31_z := (ab_32 np').2
  have y1_z := ab_isub (x := np') (y := 1) (by omega) (by omega)
  have y2_z := ab_isub (x := op') (y := 1) (by omega) (by omega)
  have cn := rt_cl z3_z
  have cn1_z := rt_cl (x := np' - 1) (by omega)
  refine ⟨np' - 1, op' - 1, e13_z, e41_z, by omega, e14_z, e43_z, by omega, by omega, by omega, fun i hi_z => ?_, ?_⟩
  · rw [e47_z, e184_z]
    exact z9_z i (by omega)
  · rw [rs_cnt_fr e184_z]
    rw [show np'.toNatClampNeg = (np' - 1).toNatClampNeg + 1 by omega] at z10_z top
    have z11_z : ((rs_cnt g (np' - 1).toNatClampNeg + (if rg_v g 184 (np' - 1).toNatClampNeg = 0 then 1 else 0) : Nat) : Int) = op'.toInt := z10_z
    have top2 : rg_v g 184 (np' - 1).toNatClampNeg = 0 := top
    rw [if_pos top2] at z11_z
    omega
theorem rj_p2 {T : Nat → Int32} {S x p nq oq : Int32} {n n' : Nat} {h h' g g' : am_H} {r r' : Option Value} {ls ls2_z : am_L} (R : rq T S x p 2 h g) (A : rp 2 h g) (B : rp_t h g) (Z : rs 2 h g) (w0_z : rg_v g 164 45 = 0) (en : rg_v h 44 13 = nq) (n1_z : 1 ≤ nq.toInt) (top : rg_v g 184 (nq.toNatClampNeg - 1) = 0) (eo : rg_v h 44 14 = oq) (o1_z : 1 ≤ oq.toInt) (g0_z : am_get ls 0 = some (.ref 44)) (g0m : am_get ls2_z 0 = some (.ref 164)) (hc_z : rn n am_m44 10 ls [] h r h') (hm_z : rn n' am_m178 10 ls2_z [] g r' g') : rv_Q T S x p 2 h' g' r r' := by
  have Rk := R
  have Zk := Z
  obtain ⟨⟨c1_z, c2_z, c3_z, c4_z, c5_z, c6_z, c7_z, c8_z⟩, ⟨m2_z, m3_z, m4_z, m5_z, m6_z, m7_z, m8_z⟩, R3, R4, R5, R6, R7, R8, R9, R10⟩ := (R : rq T S x p 2 h g)
  obtain ⟨np, op, z1_z, z2_z, z3_z, z4_z, z5_z, z6_z, z7_z, z8_z, z9_z, z10_z⟩ := (Z : rs 2 h g)
  obtain ⟨nk1_z, nk2_z, nk3_z⟩ := A.2.2.2.2.2.1
  replace nk1_z : rg_v h 11 0 = rg_v g 164 44 := nk1_z
  replace nk2_z : 0 ≤ (rg_v h 11 0).toInt := nk2_z
  replace nk3_z : (rg_v h 11 0).toInt ≤ 64 := nk3_z
  replace z8_z : np.toInt ≤ (rg_v h 11 0).toInt + op.toInt := z8_z
  obtain ⟨kn, ekn⟩ : ∃ v, rg_v h 11 0 = v := ⟨_, rfl⟩
  rw [ekn] at nk1_z nk2_z nk3_z z8_z
  have e9_z := rt_c1 (x := kn) (by omega) (by omega)
  obtain rfl : np = nq := z1_z.symm.trans en
  obtain rfl : op = oq := z4_z.symm.trans eo
  have zz1_z : (1 : Int32).toInt = 1 := by decide
  have n31_z := (ab_32 np).2
  have y1_z := ab_isub (x := np) (y := 1) (by omega) (by omega)
  replace hc_z := rn_aload_n (am_cur_of (i := (21, 1, .aload_n 0, (0, 0, 0), 0)) (by decide +kernel)) g0_z hc_z
  replace hc_z := rn_aload_n (am_cur_of (i := (22, 1, .aload_n 0, (0, 0, 0), 0)) (by decide +kernel)) g0_z hc_z
  replace hc_z := rn_getI (v := np) (am_cur_of (i := (23, 3, .getfield 251, (4, 13, 422), 0)) (by decide +kernel)) (by decide +kernel) z1_z hc_z
  replace hc_z := rn_iconst (w := 1) (am_cur_of (i := (26, 1, .iconst 1, (0, 0, 0), 0)) (by decide +kernel)) (by decide) hc_z
  replace hc_z := rn_isub (w := np - 1) (am_cur_of (i := (27, 1, .isub, (0, 0, 0), 0)) (by decide +kernel)) rfl hc_z
  replace hc_z := rn_iconst (w := 0) (am_cur_of (i := (28, 1, .iconst 0, (0, 0, 0), 0)) (by decide +kernel)) (by decide) hc_z
  replace hc_z := rn_max (w := np - 1) (am_cur_of (i := (29, 3, .invokestatic 280, (0, 849, 1), 0)) (by decide +kernel)) (if_neg (by rw [Int32.lt_iff_toInt_lt, show (0 : Int32).toInt = 0 by decide]; omega)) hc_z
  replace hc_z := rn_put (am_cur_of (i := (32, 3, .putfield 251, (4, 13, 422), 0)) (by decide +kernel)) (by decide +kernel) hc_z
  replace hc_z := rn_aload_n (am_cur_of (i := (35, 1, .aload_n 0, (0, 0, 0), 0)) (by decide +kernel)) g0_z hc_z
  replace hc_z := rn_dup (am_cur_of (i := (36, 1, .dup, (0, 0, 0), 0)) (by decide +kernel)) hc_z
  replace hc_z := rn_getI (v := op) (am_cur_of (i := (37, 3, .getfield 254, (4, 14, 423), 0)) (by decide +kernel)) (by decide +kernel) (show rg_v (am_up h 44 13 (.int (np - 1))) 44 14 = op from z4_z) hc_z
  replace hc_z := rn_iconst (w := 1) (am_cur_of (i := (40, 1, .iconst 1, (0, 0, 0), 0)) (by decide +kernel)) (by decide) hc_z
  replace hc_z := rn_isub (w := op - 1) (am_cur_of (i := (41, 1, .isub, (0, 0, 0), 0)) (by decide +kernel)) rfl hc_z
  replace hc_z := rn_put (am_cur_of (i := (42, 3, .putfield 254, (4, 14, 423), 0)) (by decide +kernel)) (by decide +kernel) hc_z
  replace hc_z := rn_aload_n (am_cur_of (i := (45, 1, .aload_n 0, (0, 0, 0), 0)) (by decide +kernel)) g0_z hc_z
  replace hc_z := rn_callV (M' := am_m19) (o := 44) (ar := []) (rest := []) (L := lv_args 0 [.ref 44]) (am_cur_of (i := (46, 3, .invokevirtual 57, (19, 727, 3), 0)) (by decide +kernel)) rfl rfl rfl rfl hc_z
  obtain ⟨r3904_z, h3905_z, q3906_z, hc_z⟩ := hc_z
  have vo := rn_void rfl q3906_z
  subst vo
  replace hm_z := rn_aload_n (am_cur_of (i := (21, 1, .aload_n 0, (0, 0, 0), 0)) (by decide +kernel)) g0m hm_z
  replace hm_z := rn_dup (am_cur_of (i := (22, 1, .dup, (0, 0, 0), 0)) (by decide +kernel)) hm_z
  replace hm_z := rn_getI (v := np) (am_cur_of (i := (23, 3, .getfield 280, (12, 41, 1425), 0)) (by decide +kernel)) (by decide +kernel) z2_z hm_z
  replace hm_z := rn_iconst (w := 1) (am_cur_of (i := (26, 1, .iconst 1, (0, 0, 0), 0)) (by decide +kernel)) (by decide) hm_z
  replace hm_z := rn_isub (w := np - 1) (am_cur_of (i := (27, 1, .isub, (0, 0, 0), 0)) (by decide +kernel)) rfl hm_z
  replace hm_z := rn_put (am_cur_of (i := (28, 3, .putfield 280, (12, 41, 1425), 0)) (by decide +kernel)) (by decide +kernel) hm_z
  replace hm_z := rn_aload_n (am_cur_of (i := (31, 1, .aload_n 0, (0, 0, 0), 0)) (by decide +kernel)) g0m hm_z
  replace hm_z := rn_dup (am_cur_of (i := (32, 1, .dup, (0, 0, 0), 0)) (by decide +kernel)) hm_z
  replace hm_z := rn_getI (v := op) (am_cur_of (i := (33, 3, .getfield 295, (12, 43, 1427), 0)) (by decide +kernel)) (by decide +kernel) (show rg_v (am_up g 164 41 (.int (np - 1))) 164 43 = op from z5_z) hm_z
  replace hm_z := rn_iconst (w := 1) (am_cur_of (i := (36, 1, .iconst 1, (0, 0, 0), 0)) (by decide +kernel)) (by decide) hm_z
  replace hm_z := rn_isub (w := op - 1) (am_cur_of (i := (37, 1, .isub, (0, 0, 0), 0)) (by decide +kernel)) rfl hm_z
  replace hm_z := rn_put (am_cur_of (i := (38, 3, .putfield 295, (12, 43, 1427), 0)) (by decide +kernel)) (by decide +kernel) hm_z
  replace hm_z := rn_aload_n (am_cur_of (i := (41, 1, .aload_n 0, (0, 0, 0), 0)) (by decide +kernel)) g0m hm_z
  replace hm_z := rn_callV (M' := am_m151) (o := 164) (ar := []) (rest := []) (L := lv_args 0 [.ref 164]) (am_cur_of (i := (42, 3, .invokevirtual 191, (151, 1636, 3), 0)) (by decide +kernel)) rfl rfl rfl rfl hm_z
  obtain ⟨r3907_z, h3908_z, q3909_z, hm_z⟩ := hm_z
  have vo := rn_void rfl q3909_z
  subst vo
  have FC : ab_Fr (rz_MC2.drop 1) h (am_up (am_up h 44 13 (.int (np - 1))) 44 14 (.int (op - 1))) := ab_Fr_up rfl (ab_Fr_up rfl ab_Fr_refl)
  have FC' : ab_Fr rz_MC2 h (am_up (am_up h 44 13 (.int (np - 1))) 44 14 (.int (op - 1))) := ab_Fr_sub (by decide) FC
  have FM : ab_Fr rz_MM g (am_up (am_up g 164 41 (.int (np - 1))) 164 43 (.int (op - 1))) := ab_Fr_up rfl (ab_Fr_up rfl ab_Fr_refl)
  obtain ⟨-, -, x2_z, p2_z, R2, le2_z, t5_z, t6_z⟩ := pr_tok (rz_q02 (rq_0 Rk) FC' FM) q3906_z q3909_z
  have A2 := rp_x (by decide) (rz_p2 A FC' FM ((show rg_v (am_up (am_up h 44 13 (.int (np - 1))) 44 14 (.int (op - 1))) 11 0 = kn from (show rg_v (am_up (am_up h 44 13 (.int (np - 1))) 44 14 (.int (op - 1))) 11 0 = kn from ekn)).trans (show rg_v (am_up (am_up g 164 41 (.int (np - 1))) 164 43 (.int (op - 1))) 164 44 = kn from (show rg_v (am_up (am_up g 164 41 (.int (np - 1))) 164 43 (.int (op - 1))) 164 44 = kn from nk1_z.symm)).symm) (by rw [show rg_v (am_up (am_up h 44 13 (.int (np - 1))) 44 14 (.int (op - 1))) 11 0 = kn from (show rg_v (am_up (am_up h 44 13 (.int (np - 1))) 44 14 (.int (op - 1))) 11 0 = kn from ekn)]; omega) (by rw [show rg_v (am_up (am_up h 44 13 (.int (np - 1))) 44 14 (.int (op - 1))) 11 0 = kn from (show rg_v (am_up (am_up h 44 13 (.int (np - 1))) 44 14 (.int (op - 1))) 11 0 = kn from ekn)]; omega)) (rx_C_f t5_z) (rx_M_f t6_z)
  have B2 := rp_tk (rz_t2 B FC FM) (rg_v_fr t5_z (by decide)) (fun k => rg_v_fr t6_z (rg_v_in (by decide) k)) (rx_M_f t6_z)
  have FC47 : ab_Fr [(44, 14), (44, 15)] h (am_up (am_up h 44 13 (.int (np - 1))) 44 14 (.int (op - 1))) := ab_Fr_up rfl (ab_Fr_up rfl ab_Fr_refl)
  have FM184 : ab_Fr [(164, 42), (164, 44)] g (am_up (am_up g 164 41 (.int (np - 1))) 164 43 (.int (op - 1))) := ab_Fr_up rfl (ab_Fr_up rfl ab_Fr_refl)
  have Z2 : rs 2 (am_up (am_up h 44 13 (.int (np - 1))) 44 14 (.int (op - 1))) (am_up (am_up g 164 41 (.int (np - 1))) 164 43 (.int (op - 1))) := rs_pop (np := np) (op := op) Zk z1_z z4_z n1_z o1_z top (show rg_v (am_up (am_up h 44 13 (.int (np - 1))) 44 14 (.int (op - 1))) 44 13 = np - 1 from (show rg_v (am_up (am_up h 44 13 (.int (np - 1))) 44 14 (.int (op - 1))) 44 13 = np - 1 from rfl)) (show rg_v (am_up (am_up g 164 41 (.int (np - 1))) 164 43 (.int (op - 1))) 164 41 = np - 1 from (show rg_v (am_up (am_up g 164 41 (.int (np - 1))) 164 43 (.int (op - 1))) 164 41 = np - 1 from rfl)) (show rg_v (am_up (am_up h 44 13 (.int (np - 1))) 44 14 (.int (op - 1))) 44 14 = op - 1 from (show rg_v (am_up (am_up h 44 13 (.int (np - 1))) 44 14 (.int (op - 1))) 44 14 = op - 1 from rfl)) (show rg_v (am_up (am_up g 164 41 (.int (np - 1))) 164 43 (.int (op - 1))) 164 43 = op - 1 from (show rg_v (am_up (am_up g 164 41 (.int (np - 1))) 164 43 (.int (op - 1))) 164 43 = op - 1 from rfl)) rfl (fun k => rg_v_fr FC47 (rg_v_in (by decide) k)) (fun k => rg_v_fr FM184 (rg_v_in (by decide) k))
  replace Z2 := rs_fr (by decide) Z2 t5_z t6_z
  have e45_z : rg_v h3908_z 164 45 = 0 := (rg_v_fr t6_z (by decide)).trans (show rg_v (am_up (am_up g 164 41 (.int (np - 1))) 164 43 (.int (op - 1))) 164 45 = 0 from (show rg_v (am_up (am_up g 164 41 (.int (np - 1))) 164 43 (.int (op - 1))) 164 45 = 0 from w0_z))
  have e46_z : rg_v h3908_z 164 46 = rg_v g 164 46 := (rg_v_fr t6_z (by decide)).trans (show rg_v (am_up (am_up g 164 41 (.int (np - 1))) 164 43 (.int (op - 1))) 164 46 = rg_v g 164 46 from (show rg_v (am_up (am_up g 164 41 (.int (np - 1))) 164 43 (.int (op - 1))) 164 46 = rg_v g 164 46 from rfl))
  replace hm_z : rn _ _ _ _ [] _ _ _ := hm_z
  replace hc_z : rn _ _ _ _ [] _ _ _ := hc_z
  replace hc_z := rn_iconst (w := 2) (am_cur_of (i := (49, 1, .iconst 2, (0, 0, 0), 0)) (by decide +kernel)) (by decide) hc_z
  replace hc_z := rn_iret (am_cur_of (i := (50, 1, .ireturn, (0, 0, 0), 0)) (by decide +kernel)) hc_z
  obtain ⟨e3910_z, e3911_z⟩ := hc_z
  replace hm_z := rn_iconst (w := 1) (am_cur_of (i := (45, 1, .iconst 1, (0, 0, 0), 0)) (by decide +kernel)) (by decide) hm_z
  replace hm_z := rn_iret (am_cur_of (i := (46, 1, .ireturn, (0, 0, 0), 0)) (by decide +kernel)) hm_z
  obtain ⟨e3912_z, e3913_z⟩ := hm_z
  subst e3910_z e3911_z e3912_z e3913_z
  exact Or.inl ⟨_, x2_z, p2_z, rfl, rfl, R2, le2_z, A2, B2, Z2, Or.inr (Or.inr ⟨rfl, e45_z⟩)⟩
theorem rj_p23 {T : Nat → Int32} {S x p nq oq : Int32} {n n' : Nat} {h h' g g' : am_H} {r r' : Option Value} {ls ls2_z : am_L} (R : rq T S x p 23 h g) (A : rp 23 h g) (B : rp_t h g) (Z : rs 23 h g) (w0_z : rg_v g 164 45 = 0) (en : rg_v h 44 13 = nq) (n1_z : 1 ≤ nq.toInt) (top : rg_v g 184 (nq.toNatClampNeg - 1) = 0) (eo : rg_v h 44 14 = oq) (o1_z : 1 ≤ oq.toInt) (g0_z : am_get ls 0 = some (.ref 44)) (g0m : am_get ls2_z 0 = some (.ref 164)) (hc_z : rn n am_m44 10 ls [] h r h') (hm_z : rn n' am_m178 10 ls2_z [] g r' g') : rv_Q T S x p 23 h' g' r r' := by
  have Rk := R
  have Zk := Z
  obtain ⟨⟨c1_z, c2_z, c3_z, c4_z, c5_z, c6_z, c7_z, c8_z⟩, ⟨m2_z, m3_z, m4_z, m5_z, m6_z, m7_z, m8_z⟩, R3, R4, R5, R6, R7, R8, R9, R10⟩ := (R : rq T S x p 23 h g)
  obtain ⟨np, op, z1_z, z2_z, z3_z, z4_z, z5_z, z6_z, z7_z, z8_z, z9_z, z10_z⟩ := (Z : rs 23 h g)
  obtain ⟨nk1_z, nk2_z, nk3_z⟩ := A.2.2.2.2.2.1
  replace nk1_z : rg_v h 32 0 = rg_v g 164 44 := nk1_z
  replace nk2_z : 0 ≤ (rg_v h 32 0).toInt := nk2_z
  replace nk3_z : (rg_v h 32 0).toInt ≤ 64 := nk3_z
  replace z8_z : np.toInt ≤ (rg_v h 32 0).toInt + op.toInt := z8_z
  obtain ⟨kn, ekn⟩ : ∃ v, rg_v h 32 0 = v := ⟨_, rfl⟩
  rw [ekn] at nk1_z nk2_z nk3_z z8_z
  have e9_z := rt_c1 (x := kn) (by omega) (by omega)
  obtain rfl : np = nq := z1_z.symm.trans en
  obtain rfl : op = oq := z4_z.symm.trans eo
  have zz1_z : (1 : Int32).toInt = 1 := by decide
  have n31_z := (ab_32 np).2
  have y1_z := ab_isub (x := np) (y := 1) (by omega) (by omega)
  replace hc_z := rn_aload_n (am_cur_of (i := (21, 1, .aload_n 0, (0, 0, 0), 0)) (by decide +kernel)) g0_z hc_z
  replace hc_z := rn_aload_n (am_cur_of (i := (22, 1, .aload_n 0, (0, 0, 0), 0)) (by decide +kernel)) g0_z hc_z
  replace hc_z := rn_getI (v := np) (am_cur_of (i := (23, 3, .getfield 251, (4, 13, 422), 0)) (by decide +kernel)) (by decide +kernel) z1_z hc_z
  replace hc_z := rn_iconst (w := 1) (am_cur_of (i := (26, 1, .iconst 1, (0, 0, 0), 0)) (by decide +kernel)) (by decide) hc_z
  replace hc_z := rn_isub (w := np - 1) (am_cur_of (i := (27, 1, .isub, (0, 0, 0), 0)) (by decide +kernel)) rfl hc_z
  replace hc_z := rn_iconst (w := 0) (am_cur_of (i := (28, 1, .iconst 0, (0, 0, 0), 0)) (by decide +kernel)) (by decide) hc_z
  replace hc_z := rn_max (w := np - 1) (am_cur_of (i := (29, 3, .invokestatic 280, (0, 849, 1), 0)) (by decide +kernel)) (if_neg (by rw [Int32.lt_iff_toInt_lt, show (0 : Int32).toInt = 0 by decide]; omega)) hc_z
  replace hc_z := rn_put (am_cur_of (i := (32, 3, .putfield 251, (4, 13, 422), 0)) (by decide +kernel)) (by decide +kernel) hc_z
  replace hc_z := rn_aload_n (am_cur_of (i := (35, 1, .aload_n 0, (0, 0, 0), 0)) (by decide +kernel)) g0_z hc_z
  replace hc_z := rn_dup (am_cur_of (i := (36, 1, .dup, (0, 0, 0), 0)) (by decide +kernel)) hc_z
  replace hc_z := rn_getI (v := op) (am_cur_of (i := (37, 3, .getfield 254, (4, 14, 423), 0)) (by decide +kernel)) (by decide +kernel) (show rg_v (am_up h 44 13 (.int (np - 1))) 44 14 = op from z4_z) hc_z
  replace hc_z := rn_iconst (w := 1) (am_cur_of (i := (40, 1, .iconst 1, (0, 0, 0), 0)) (by decide +kernel)) (by decide) hc_z
  replace hc_z := rn_isub (w := op - 1) (am_cur_of (i := (41, 1, .isub, (0, 0, 0), 0)) (by decide +kernel)) rfl hc_z
  replace hc_z := rn_put (am_cur_of (i := (42, 3, .putfield 254, (4, 14, 423), 0)) (by decide +kernel)) (by decide +kernel) hc_z
  replace hc_z := rn_aload_n (am_cur_of (i := (45, 1, .aload_n 0, (0, 0, 0), 0)) (by decide +kernel)) g0_z hc_z
  replace hc_z := rn_callV (M' := am_m19) (o := 44) (ar := []) (rest := []) (L := lv_args 0 [.ref 44]) (am_cur_of (i := (46, 3, .invokevirtual 57, (19, 727, 3), 0)) (by decide +kernel)) rfl rfl rfl rfl hc_z
  obtain ⟨r3914_z, h3915_z, q3916_z, hc_z⟩ := hc_z
  have vo := rn_void rfl q3916_z
  subst vo
  replace hm_z := rn_aload_n (am_cur_of (i := (21, 1, .aload_n 0, (0, 0, 0), 0)) (by decide +kernel)) g0m hm_z
  replace hm_z := rn_dup (am_cur_of (i := (22, 1, .dup, (0, 0, 0), 0)) (by decide +kernel)) hm_z
  replace hm_z := rn_getI (v := np) (am_cur_of (i := (23, 3, .getfield 280, (12, 41, 1425), 0)) (by decide +kernel)) (by decide +kernel) z2_z hm_z
  replace hm_z := rn_iconst (w := 1) (am_cur_of (i := (26, 1, .iconst 1, (0, 0, 0), 0)) (by decide +kernel)) (by decide) hm_z
  replace hm_z := rn_isub (w := np - 1) (am_cur_of (i := (27, 1, .isub, (0, 0, 0), 0)) (by decide +kernel)) rfl hm_z
  replace hm_z := rn_put (am_cur_of (i := (28, 3, .putfield 280, (12, 41, 1425), 0)) (by decide +kernel)) (by decide +kernel) hm_z
  replace hm_z := rn_aload_n (am_cur_of (i := (31, 1, .aload_n 0, (0, 0, 0), 0)) (by decide +kernel)) g0m hm_z
  replace hm_z := rn_dup (am_cur_of (i := (32, 1, .dup, (0, 0, 0), 0)) (by decide +kernel)) hm_z
  replace hm_z := rn_getI (v := op) (am_cur_of (i := (33, 3, .getfield 295, (12, 43, 1427), 0)) (by decide +kernel)) (by decide +kernel) (show rg_v (am_up g 164 41 (.int (np - 1))) 164 43 = op from z5_z) hm_z
  replace hm_z := rn_iconst (w := 1) (am_cur_of (i := (36, 1, .iconst 1, (0, 0, 0), 0)) (by decide +kernel)) (by decide) hm_z
  replace hm_z := rn_isub (w := op - 1) (am_cur_of (i := (37, 1, .isub, (0, 0, 0), 0)) (by decide +kernel)) rfl hm_z
  replace hm_z := rn_put (am_cur_of (i := (38, 3, .putfield 295, (12, 43, 1427), 0)) (by decide +kernel)) (by decide +kernel) hm_z
  replace hm_z := rn_aload_n (am_cur_of (i := (41, 1, .aload_n 0, (0, 0, 0), 0)) (by decide +kernel)) g0m hm_z
  replace hm_z := rn_callV (M' := am_m151) (o := 164) (ar := []) (rest := []) (L := lv_args 0 [.ref 164]) (am_cur_of (i := (42, 3, .invokevirtual 191, (151, 1636, 3), 0)) (by decide +kernel)) rfl rfl rfl rfl hm_z
  obtain ⟨r3917_z, h3918_z, q3919_z, hm_z⟩ := hm_z
  have vo := rn_void rfl q3919_z
  subst vo
  have FC : ab_Fr (rz_MC23.drop 1) h (am_up (am_up h 44 13 (.int (np - 1))) 44 14 (.int (op - 1))) := ab_Fr_up rfl (ab_Fr_up rfl ab_Fr_refl)
  have FC' : ab_Fr rz_MC23 h (am_up (am_up h 44 13 (.int (np - 1))) 44 14 (.int (op - 1))) := ab_Fr_sub (by decide) FC
  have FM : ab_Fr rz_MM g (am_up (am_up g 164 41 (.int (np - 1))) 164 43 (.int (op - 1))) := ab_Fr_up rfl (ab_Fr_up rfl ab_Fr_refl)
  obtain ⟨-, -, x2_z, p2_z, R2, le2_z, t5_z, t6_z⟩ := pr_tok (rz_q023 (rq_0 Rk) FC' FM) q3916_z q3919_z
  have A2 := rp_x (by decide) (rz_p23 A FC' FM ((show rg_v (am_up (am_up h 44 13 (.int (np - 1))) 44 14 (.int (op - 1))) 32 0 = kn from (show rg_v (am_up (am_up h 44 13 (.int (np - 1))) 44 14 (.int (op - 1))) 32 0 = kn from ekn)).trans (show rg_v (am_up (am_up g 164 41 (.int (np - 1))) 164 43 (.int (op - 1))) 164 44 = kn from (show rg_v (am_up (am_up g 164 41 (.int (np - 1))) 164 43 (.int (op - 1))) 164 44 = kn from nk1_z.symm)).symm) (by rw [show rg_v (am_up (am_up h 44 13 (.int (np - 1))) 44 14 (.int (op - 1))) 32 0 = kn from (show rg_v (am_up (am_up h 44 13 (.int (np - 1))) 44 14 (.int (op - 1))) 32 0 = kn from ekn)]; omega) (by rw [show rg_v (am_up (am_up h 44 13 (.int (np - 1))) 44 14 (.int (op - 1))) 32 0 = kn from (show rg_v (am_up (am_up h 44 13 (.int (np - 1))) 44 14 (.int (op - 1))) 32 0 = kn from ekn)]; omega)) (rx_C_f t5_z) (rx_M_f t6_z)
  have B2 := rp_tk (rz_t23 B FC FM) (rg_v_fr t5_z (by decide)) (fun k => rg_v_fr t6_z (rg_v_in (by decide) k)) (rx_M_f t6_z)
  have FC47 : ab_Fr [(44, 14), (44, 15)] h (am_up (am_up h 44 13 (.int (np - 1))) 44 14 (.int (op - 1))) := ab_Fr_up rfl (ab_Fr_up rfl ab_Fr_refl)
  have FM184 : ab_Fr [(164, 42), (164, 44)] g (am_up (am_up g 164 41 (.int (np - 1))) 164 43 (.int (op - 1))) := ab_Fr_up rfl (ab_Fr_up rfl ab_Fr_refl)
  have Z2 : rs 23 (am_up (am_up h 44 13 (.int (np - 1))) 44 14 (.int (op - 1))) (am_up (am_up g 164 41 (.int (np - 1))) 164 43 (.int (op - 1))) := rs_pop (np := np) (op := op) Zk z1_z z4_z n1_z o1_z top (show rg_v (am_up (am_up h 44 13 (.int (np - 1))) 44 14 (.int (op - 1))) 44 13 = np - 1 from (show rg_v (am_up (am_up h 44 13 (.int (np - 1))) 44 14 (.int (op - 1))) 44 13 = np - 1 from rfl)) (show rg_v (am_up (am_up g 164 41 (.int (np - 1))) 164 43 (.int (op - 1))) 164 41 = np - 1 from (show rg_v (am_up (am_up g 164 41 (.int (np - 1))) 164 43 (.int (op - 1))) 164 41 = np - 1 from rfl)) (show rg_v (am_up (am_up h 44 13 (.int (np - 1))) 44 14 (.int (op - 1))) 44 14 = op - 1 from (show rg_v (am_up (am_up h 44 13 (.int (np - 1))) 44 14 (.int (op - 1))) 44 14 = op - 1 from rfl)) (show rg_v (am_up (am_up g 164 41 (.int (np - 1))) 164 43 (.int (op - 1))) 164 43 = op - 1 from (show rg_v (am_up (am_up g 164 41 (.int (np - 1))) 164 43 (.int (op - 1))) 164 43 = op - 1 from rfl)) rfl (fun k => rg_v_fr FC47 (rg_v_in (by decide) k)) (fun k => rg_v_fr FM184 (rg_v_in (by decide) k))
  replace Z2 := rs_fr (by decide) Z2 t5_z t6_z
  have e45_z : rg_v h3918_z 164 45 = 0 := (rg_v_fr t6_z (by decide)).trans (show rg_v (am_up (am_up g 164 41 (.int (np - 1))) 164 43 (.int (op - 1))) 164 45 = 0 from (show rg_v (am_up (am_up g 164 41 (.int (np - 1))) 164 43 (.int (op - 1))) 164 45 = 0 from w0_z))
  have e46_z : rg_v h3918_z 164 46 = rg_v g 164 46 := (rg_v_fr t6_z (by decide)).trans (show rg_v (am_up (am_up g 164 41 (.int (np - 1))) 164 43 (.int (op - 1))) 164 46 = rg_v g 164 46 from (show rg_v (am_up (am_up g 164 41 (.int (np - 1))) 164 43 (.int (op - 1))) 164 46 = rg_v g 164 46 from rfl))
  replace hm_z : rn _ _ _ _ [] _ _ _ := hm_z
  replace hc_z : rn _ _ _ _ [] _ _ _ := hc_z
  replace hc_z := rn_iconst (w := 2) (am_cur_of (i := (49, 1, .iconst 2, (0, 0, 0), 0)) (by decide +kernel)) (by decide) hc_z
  replace hc_z := rn_iret (am_cur_of (i := (50, 1, .ireturn, (0, 0, 0), 0)) (by decide +kernel)) hc_z
  obtain ⟨e3920_z, e3921_z⟩ := hc_z
  replace hm_z := rn_iconst (w := 1) (am_cur_of (i := (45, 1, .iconst 1, (0, 0, 0), 0)) (by decide +kernel)) (by decide) hm_z
  replace hm_z := rn_iret (am_cur_of (i := (46, 1, .ireturn, (0, 0, 0), 0)) (by decide +kernel)) hm_z
  obtain ⟨e3922_z, e3923_z⟩ := hm_z
  subst e3920_z e3921_z e3922_z e3923_z
  exact Or.inl ⟨_, x2_z, p2_z, rfl, rfl, R2, le2_z, A2, B2, Z2, Or.inr (Or.inr ⟨rfl, e45_z⟩)⟩
