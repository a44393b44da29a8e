/-! ===== TRIALS OF BOTH READERS, 2 (wip/r/gen99qn.py) ===== -/
theorem pl_trial2 {T : Nat → Int32} {S x p : Int32} {n n' : Nat} {h h' g g' : am_H} {r r' : Option Value} (R : rq T S x p 2 h g) (A : rp 2 h g) (B : rp_t h g) (hc_z : rn n am_m38 0 (lv_args 0 [.ref 44]) [] h r h') (hm_z : rn n' am_m169 0 (lv_args 0 [.ref 164]) [] g r' g') : pl_Q T S x 2 h' g' r' := by
  have zm1_z : ((-1) : Int32).toInt = (-1) := by decide
  have z1_z : (1 : Int32).toInt = 1 := by decide
  have z3_z : (3 : Int32).toInt = 3 := by decide
  have z99_z : (99 : Int32).toInt = 99 := by decide
  have z100_z : (100 : Int32).toInt = 100 := by decide
  have g0_z : am_get (lv_args 0 [.ref 44]) 0 = some (.ref 44) := rfl
  have g0m : am_get (lv_args 0 [.ref 164]) 0 = some (.ref 164) := rfl
  obtain ⟨⟨⟨a1_z, a2_z, a3_z, a4_z, a5_z, a6_z⟩, ⟨nb1_z, nb2_z, nb3_z⟩, ⟨nt1_z, nt2_z, nt3_z⟩, ⟨nl1_z, nl2_z, nl3_z⟩, ⟨nr1_z, nr2_z, nr3_z⟩, ⟨nk1_z, nk2_z, nk3_z⟩, ⟨AC0, AC1, AC2, AC3⟩, AD, AE, AG⟩, ⟨⟨c1_z, c2_z, c3_z, c4_z, c5_z, c6_z, c7_z, c8_z⟩, ⟨m2_z, m3_z, m4_z, m5_z, m6_z, m7_z, m8_z⟩, R3, R4, R5, R6, R7, R8, R9, R10⟩⟩ := (⟨A, R⟩ : rp 2 h g ∧ rq T S x p 2 h g)
  obtain ⟨cb, ecb⟩ : ∃ v, rg_v h 2 2 = v := ⟨_, rfl⟩
  have cb0_z : 0 ≤ cb.toInt := by rw [← ecb]; exact nb2_z
  have cb9_z : cb.toInt ≤ 4 := by rw [← ecb]; exact nb3_z
  have cbn := rt_cl cb0_z
  obtain ⟨ct, ect⟩ : ∃ v, rg_v h 2 4 = v := ⟨_, rfl⟩
  have ct0_z : 0 ≤ ct.toInt := by rw [← ect]; exact nt2_z
  have ct9_z : ct.toInt ≤ 8 := by rw [← ect]; exact nt3_z
  have ctn := rt_cl ct0_z
  obtain ⟨cl, ecl⟩ : ∃ v, rg_v h 2 9 = v := ⟨_, rfl⟩
  have cl0_z : 0 ≤ cl.toInt := by rw [← ecl]; exact nl2_z
  have cl9_z : cl.toInt ≤ 6 := by rw [← ecl]; exact nl3_z
  have cln := rt_cl cl0_z
  obtain ⟨cr, ecr⟩ : ∃ v, rg_v h 2 12 = v := ⟨_, rfl⟩
  have cr0_z : 0 ≤ cr.toInt := by rw [← ecr]; exact nr2_z
  have cr9_z : cr.toInt ≤ 3 := by rw [← ecr]; exact nr3_z
  have crn := rt_cl cr0_z
  have z3_z : (3 : Int32).toInt = 3 := by decide
  have y3cr := ab_iadd (x := 3) (y := cr) (by omega) (by omega)
  have n3cr : ((3 : Int32) + cr).toNatClampNeg = 3 + cr.toNatClampNeg := by have := rt_cl (x := 3 + cr) (by omega); omega
  replace hc_z := rn_aload_n (am_cur_of (i := (0, 1, .aload_n 0, (0, 0, 0), 0)) (by decide +kernel)) g0_z hc_z
  replace hc_z := rn_aload_n (am_cur_of (i := (1, 1, .aload_n 0, (0, 0, 0), 0)) (by decide +kernel)) g0_z hc_z
  replace hc_z := rn_getM (x := 2) (am_cur_of (i := (2, 3, .getfield 25, (4, 6, 415), 0)) (by decide +kernel)) R3 hc_z
  replace hc_z := rn_getI (v := cr) (am_cur_of (i := (5, 3, .getfield 220, (1, 12, 296), 0)) (by decide +kernel)) (by decide +kernel) ecr hc_z
  replace hc_z := rn_iconst (w := 3) (am_cur_of (i := (8, 1, .iconst 3, (0, 0, 0), 0)) (by decide +kernel)) (by decide) hc_z
  replace hc_z := rn_callV (M' := am_m32) (o := 44) (ar := [.int 3, .int cr]) (rest := []) (L := lv_args 0 [.ref 44, .int cr, .int 3]) (am_cur_of (i := (9, 3, .invokevirtual 154, (32, 781, 3), 0)) (by decide +kernel)) rfl rfl rfl rfl hc_z
  obtain ⟨r587_z, h588_z, q589_z, hc_z⟩ := hc_z
  rcases rp_more R4 q589_z with ⟨ge, f1_z, f2_z⟩ | ⟨lt, n2_z, r2_z, hq2_z, e2_z⟩
  · have K := rs_stick (a := 38) (by decide) (by decide) rfl (by decide) f1_z f2_z hc_z
    replace hm_z := rn_aload_n (am_cur_of (i := (0, 1, .aload_n 0, (0, 0, 0), 0)) (by decide +kernel)) g0m hm_z
    replace hm_z := rn_getI (v := cr) (am_cur_of (i := (1, 3, .getfield 210, (12, 20, 1404), 0)) (by decide +kernel)) (by decide +kernel) (nr1_z.symm.trans ecr) hm_z
    replace hm_z := rn_iconst (w := 3) (am_cur_of (i := (4, 1, .iconst 3, (0, 0, 0), 0)) (by decide +kernel)) (by decide) hm_z
    replace hm_z := rn_cmp (am_cur_of (i := (5, 3, .if_icmp .ne 9, (8, 0, 0), 0)) (by decide +kernel)) hm_z
    rcases hm_z with ⟨b590_z, hm_z⟩ | ⟨b590_z, hm_z⟩
    · replace b590_z : ¬ cr = (3 : Int32) ∧ ¬ cr.toInt = (3 : Int32).toInt := b590_z
      omega
    · replace b590_z : cr = (3 : Int32) ∧ cr.toInt = (3 : Int32).toInt := b590_z
      replace hm_z := rn_aload_n (am_cur_of (i := (8, 1, .aload_n 0, (0, 0, 0), 0)) (by decide +kernel)) g0m hm_z
      replace hm_z := rn_iconst (w := 2) (am_cur_of (i := (9, 1, .iconst 2, (0, 0, 0), 0)) (by decide +kernel)) (by decide) hm_z
      replace hm_z := rn_callV (M' := am_m158) (o := 164) (ar := [.int 2]) (rest := []) (L := lv_args 0 [.ref 164, .int 2]) (am_cur_of (i := (10, 3, .invokevirtual 181, (158, 1665, 3), 0)) (by decide +kernel)) rfl rfl rfl rfl hm_z
      obtain ⟨r591_z, h592_z, q593_z, hm_z⟩ := hm_z
      obtain ⟨rfl, yq593_z⟩ := rp_wrong q593_z
      subst yq593_z
      replace hm_z : rn _ _ _ _ [.int 0] _ _ _ := hm_z
      replace hm_z := rn_iret (am_cur_of (i := (13, 1, .ireturn, (0, 0, 0), 0)) (by decide +kernel)) hm_z
      obtain ⟨e594_z, e595_z⟩ := hm_z
      subst e594_z e595_z
      exact Or.inr ⟨rfl, _, 2, by decide, K.1, K.2.trans R5, rfl, R6⟩
  · replace hm_z := rn_aload_n (am_cur_of (i := (0, 1, .aload_n 0, (0, 0, 0), 0)) (by decide +kernel)) g0m hm_z
    replace hm_z := rn_getI (v := cr) (am_cur_of (i := (1, 3, .getfield 210, (12, 20, 1404), 0)) (by decide +kernel)) (by decide +kernel) (nr1_z.symm.trans ecr) hm_z
    replace hm_z := rn_iconst (w := 3) (am_cur_of (i := (4, 1, .iconst 3, (0, 0, 0), 0)) (by decide +kernel)) (by decide) hm_z
    replace hm_z := rn_cmp (am_cur_of (i := (5, 3, .if_icmp .ne 9, (8, 0, 0), 0)) (by decide +kernel)) hm_z
    rcases hm_z with ⟨b596_z, hm_z⟩ | ⟨b596_z, hm_z⟩
    · replace b596_z : ¬ cr = (3 : Int32) ∧ ¬ cr.toInt = (3 : Int32).toInt := b596_z
      replace hm_z := rn_aload_n (am_cur_of (i := (14, 1, .aload_n 0, (0, 0, 0), 0)) (by decide +kernel)) g0m hm_z
      replace hm_z := rn_callV (M' := am_m151) (o := 164) (ar := []) (rest := []) (L := lv_args 0 [.ref 164]) (am_cur_of (i := (15, 3, .invokevirtual 191, (151, 1636, 3), 0)) (by decide +kernel)) rfl rfl rfl rfl hm_z
      obtain ⟨r597_z, h598_z, q599_z, hm_z⟩ := hm_z
      have vo := rn_void rfl q599_z
      subst vo
      have R' : rq T S x p 2 h g := ⟨⟨c1_z, c2_z, c3_z, c4_z, c5_z, c6_z, fun k hk_z => c7_z k hk_z, fun k hk_z => c8_z k hk_z⟩, ⟨m2_z, m3_z, m4_z, m5_z, m6_z, fun k hk_z => m7_z k hk_z, fun k hk_z => m8_z k hk_z⟩, R3, R4, R5, R6, R7, R8, R9, R10⟩
      have A' : rp 2 h g := ⟨⟨a1_z, a2_z, a3_z, a4_z, a5_z, a6_z⟩, ⟨nb1_z, nb2_z, nb3_z⟩, ⟨nt1_z, nt2_z, nt3_z⟩, ⟨nl1_z, nl2_z, nl3_z⟩, ⟨nr1_z, nr2_z, nr3_z⟩, ⟨nk1_z, nk2_z, nk3_z⟩, ⟨fun hb_z k hk_z => AC0 hb_z k hk_z, fun hb_z k hk_z => AC1 hb_z k hk_z, fun hb_z k hk_z => AC2 hb_z k hk_z, fun hb_z k hk_z => AC3 hb_z k hk_z⟩, fun t ht => AD t ht, fun t ht => AE t ht, fun t ht => AG t ht⟩
      have B' : rp_t h g := by
        obtain ⟨b0_z, b1_z, b2_z, b3_z, b4_z, b5_z, b6_z, t, o0_z, o1_z, o2_z, o3_z, o4_z, o5_z, o6_z⟩ := B
        exact ⟨b0_z, b1_z, b2_z, b3_z, b4_z, b5_z, b6_z, t, o0_z, o1_z, o2_z, o3_z, o4_z, o5_z, o6_z⟩
      obtain ⟨-, -, x1_z, p1_z, R, le1_z, t5_z, t6_z⟩ := pr_tok (rq_0 R') hq2_z q599_z
      replace A := rp_x (by decide) A' (rx_C_f t5_z) (rx_M_f t6_z)
      replace B := rp_tk B' (rg_v_fr t5_z (by decide)) (fun k => rg_v_fr t6_z (rg_v_in (by decide) k)) (rx_M_f t6_z)
      clear A' B' R'
      replace ecb : rg_v h588_z 2 2 = cb := (rx_v (rx_C_f t5_z) (o := 2) (k := 2) (by decide)).trans ecb
      replace ect : rg_v h588_z 2 4 = ct := (rx_v (rx_C_f t5_z) (o := 2) (k := 4) (by decide)).trans ect
      replace ecl : rg_v h588_z 2 9 = cl := (rx_v (rx_C_f t5_z) (o := 2) (k := 9) (by decide)).trans ecl
      replace ecr : rg_v h588_z 2 12 = cr := (rx_v (rx_C_f t5_z) (o := 2) (k := 12) (by decide)).trans ecr
      rcases e2_z with ⟨-, rfl⟩ | ⟨e2_z, -⟩
      rotate_left
      · exact absurd R.2.2.2.1 e2_z
      replace hm_z : rn _ _ _ _ [] _ _ _ := hm_z
      replace hc_z : rn _ _ _ _ [.int 1] _ _ _ := hc_z
      clear a1_z a2_z a3_z a4_z a5_z a6_z nb1_z nb2_z nb3_z nt1_z nt2_z nt3_z nl1_z nl2_z nl3_z nr1_z nr2_z nr3_z nk1_z nk2_z nk3_z AC0 AC1 AC2 AC3 AD AE AG c1_z c2_z c3_z c4_z c5_z c6_z c7_z c8_z m2_z m3_z m4_z m5_z m6_z m7_z m8_z R3 R4 R5 R6 R7 R8 R9 R10
      obtain ⟨⟨⟨a1_z, a2_z, a3_z, a4_z, a5_z, a6_z⟩, ⟨nb1_z, nb2_z, nb3_z⟩, ⟨nt1_z, nt2_z, nt3_z⟩, ⟨nl1_z, nl2_z, nl3_z⟩, ⟨nr1_z, nr2_z, nr3_z⟩, ⟨nk1_z, nk2_z, nk3_z⟩, ⟨AC0, AC1, AC2, AC3⟩, AD, AE, AG⟩, ⟨⟨c1_z, c2_z, c3_z, c4_z, c5_z, c6_z, c7_z, c8_z⟩, ⟨m2_z, m3_z, m4_z, m5_z, m6_z, m7_z, m8_z⟩, R3, R4, R5, R6, R7, R8, R9, R10⟩⟩ := (⟨A, R⟩ : rp 2 h588_z h598_z ∧ rq T S x1_z p1_z 2 h588_z h598_z)
      replace hc_z := rn_ifF (am_cur_of (i := (12, 3, .ifCond .eq 10, (10, 0, 0), 0)) (by decide +kernel)) (by decide) hc_z
      replace hc_z := rn_aload_n (am_cur_of (i := (15, 1, .aload_n 0, (0, 0, 0), 0)) (by decide +kernel)) g0_z hc_z
      replace hc_z := rn_callV (M' := am_m33) (o := 44) (ar := []) (rest := []) (L := lv_args 0 [.ref 44]) (am_cur_of (i := (16, 3, .invokevirtual 158, (33, 785, 3), 0)) (by decide +kernel)) rfl rfl rfl rfl hc_z
      obtain ⟨r600_z, h601_z, q602_z, hc_z⟩ := hc_z
      rcases rp_own R4 q602_z with ⟨k3_z, rfl, eh⟩ | ⟨k3_z, f1_z, f2_z⟩
      · replace eh := eh.symm
        subst eh
        have k2_z := tk_3 R10 k3_z
        replace hc_z : rn _ _ _ _ [.int 1] _ _ _ := hc_z
        replace hc_z := rn_ifT (am_cur_of (i := (19, 3, .ifCond .ne 4, (11, 0, 0), 0)) (by decide +kernel)) (by decide) hc_z
        replace hc_z := rn_aload_n (am_cur_of (i := (23, 1, .aload_n 0, (0, 0, 0), 0)) (by decide +kernel)) g0_z hc_z
        replace hc_z := rn_getM (x := 2) (am_cur_of (i := (24, 3, .getfield 25, (4, 6, 415), 0)) (by decide +kernel)) R3 hc_z
        replace hc_z := rn_aload_n (am_cur_of (i := (27, 1, .aload_n 0, (0, 0, 0), 0)) (by decide +kernel)) g0_z hc_z
        replace hc_z := rn_getI (v := rg_v h588_z 44 11) (am_cur_of (i := (28, 3, .getfield 91, (4, 11, 420), 0)) (by decide +kernel)) (by decide +kernel) rfl hc_z
        replace hc_z := rn_callV (M' := am_m39) (o := 2) (ar := [.int (rg_v h588_z 44 11)]) (rest := []) (L := lv_args 0 [.ref 2, .int (rg_v h588_z 44 11)]) (am_cur_of (i := (31, 3, .invokevirtual 223, (39, 809, 3), 0)) (by decide +kernel)) rfl rfl rfl rfl hc_z
        obtain ⟨r603_z, h604_z, q605_z, hc_z⟩ := hc_z
        obtain ⟨eh, i2_z, rfl, hi2_z⟩ := rp_tn2 ecr (by omega) q605_z
        replace eh := eh.symm
        subst eh
        have hib := rp_fm_b hi2_z (by omega)
        have names : ∀ b : Nat, (b : Int) < cr.toInt → rg_v h588_z (2 + 6) b = rg_v h598_z 175 (3 + b) := fun b hb_z => (AG b (by rw [ecr]; exact hb_z)).1
        replace hc_z : rn _ _ _ _ [.int i2_z] _ _ _ := hc_z
        replace hc_z := rn_iconst (w := (-1)) (am_cur_of (i := (34, 1, .iconst (-1), (0, 0, 0), 0)) (by decide +kernel)) (by decide) hc_z
        replace hc_z := rn_cmp (am_cur_of (i := (35, 3, .if_icmp .eq 9, (22, 0, 0), 0)) (by decide +kernel)) hc_z
        rcases hc_z with ⟨b606_z, hc_z⟩ | ⟨b606_z, hc_z⟩
        · replace b606_z : i2_z = ((-1) : Int32) ∧ i2_z.toInt = ((-1) : Int32).toInt := b606_z
          replace hc_z := rn_aload_n (am_cur_of (i := (44, 1, .aload_n 0, (0, 0, 0), 0)) (by decide +kernel)) g0_z hc_z
          replace hc_z := rn_getM (x := 2) (am_cur_of (i := (45, 3, .getfield 25, (4, 6, 415), 0)) (by decide +kernel)) R3 hc_z
          replace hc_z := rn_getR (x := 8) (am_cur_of (i := (48, 3, .getfield 226, (1, 13, 299), 0)) (by decide +kernel)) (by decide +kernel) hc_z
          replace hc_z := rn_aload_n (am_cur_of (i := (51, 1, .aload_n 0, (0, 0, 0), 0)) (by decide +kernel)) g0_z hc_z
          replace hc_z := rn_getM (x := 2) (am_cur_of (i := (52, 3, .getfield 25, (4, 6, 415), 0)) (by decide +kernel)) R3 hc_z
          replace hc_z := rn_getI (v := cr) (am_cur_of (i := (55, 3, .getfield 220, (1, 12, 296), 0)) (by decide +kernel)) (by decide +kernel) ecr hc_z
          replace hc_z := rn_aload_n (am_cur_of (i := (58, 1, .aload_n 0, (0, 0, 0), 0)) (by decide +kernel)) g0_z hc_z
          replace hc_z := rn_getI (v := rg_v h588_z 44 11) (am_cur_of (i := (59, 3, .getfield 91, (4, 11, 420), 0)) (by decide +kernel)) (by decide +kernel) rfl hc_z
          replace hc_z := rn_iastore (N := 3) (q := cr.toNatClampNeg) (am_cur_of (i := (62, 1, .iastore, (0, 0, 0), 0)) (by decide +kernel)) (by decide +kernel) rfl hc_z
          obtain ⟨p607_z, hc_z⟩ := hc_z
          replace hc_z := rn_aload_n (am_cur_of (i := (63, 1, .aload_n 0, (0, 0, 0), 0)) (by decide +kernel)) g0_z hc_z
          replace hc_z := rn_callV (M' := am_m19) (o := 44) (ar := []) (rest := []) (L := lv_args 0 [.ref 44]) (am_cur_of (i := (64, 3, .invokevirtual 57, (19, 727, 3), 0)) (by decide +kernel)) rfl rfl rfl rfl hc_z
          obtain ⟨r608_z, h609_z, q610_z, hc_z⟩ := hc_z
          have vo := rn_void rfl q610_z
          subst vo
          replace hm_z := rn_aload_n (am_cur_of (i := (18, 1, .aload_n 0, (0, 0, 0), 0)) (by decide +kernel)) g0m hm_z
          replace hm_z := rn_aload_n (am_cur_of (i := (19, 1, .aload_n 0, (0, 0, 0), 0)) (by decide +kernel)) g0m hm_z
          replace hm_z := rn_getR (x := 175) (am_cur_of (i := (20, 3, .getfield 45, (12, 30, 1414), 0)) (by decide +kernel)) (by decide +kernel) hm_z
          replace hm_z := rn_iconst (w := 3) (am_cur_of (i := (23, 1, .iconst 3, (0, 0, 0), 0)) (by decide +kernel)) (by decide) hm_z
          replace hm_z := rn_aload_n (am_cur_of (i := (24, 1, .aload_n 0, (0, 0, 0), 0)) (by decide +kernel)) g0m hm_z
          replace hm_z := rn_getI (v := cr) (am_cur_of (i := (25, 3, .getfield 210, (12, 20, 1404), 0)) (by decide +kernel)) (by decide +kernel) (nr1_z.symm.trans ecr) hm_z
          replace hm_z := rn_callV (M' := am_m164) (o := 164) (ar := [.int cr, .int 3, .ref 175]) (rest := []) (L := lv_args 0 [.ref 164, .ref 175, .int 3, .int cr]) (am_cur_of (i := (28, 3, .invokevirtual 248, (164, 1688, 3), 0)) (by decide +kernel)) rfl rfl rfl rfl hm_z
          obtain ⟨r611_z, h612_z, q613_z, hm_z⟩ := hm_z
          rcases rp_newT (nb := cr) cr0_z (by omega) q613_z with ⟨y1_z, rfl, y3_z⟩ | ⟨y1_z, rfl, y3_z, y4_z, y5_z, y6_z⟩ | ⟨y1_z, rfl, y5_z, y4_z, y6_z, y7_z⟩
          · exact absurd k2_z.1 y1_z
          · have ei := rp_fm_u hi2_z (k2_z.2 ▸ y5_z) names
            rw [← ei] at y6_z
            omega
          · have vo := rn_void rfl y7_z
            subst vo
            have R' : rq T S x1_z p1_z 2 (am_up h588_z 8 cr.toNatClampNeg (.int (rg_v h588_z 44 11))) (am_up h598_z 175 (3 + cr.toNatClampNeg) (.int (rg_v h598_z 164 9))) := ⟨⟨c1_z, c2_z, c3_z, c4_z, c5_z, c6_z, fun k hk_z => c7_z k hk_z, fun k hk_z => c8_z k hk_z⟩, ⟨m2_z, m3_z, m4_z, m5_z, m6_z, fun k hk_z => m7_z k hk_z, fun k hk_z => m8_z k hk_z⟩, R3, R4, R5, R6, R7, R8, R9, R10⟩
            have AG' : ∀ t : Nat, (t : Int) < (rg_v (am_up h588_z 8 cr.toNatClampNeg (.int (rg_v h588_z 44 11))) 2 12).toInt → rg_v (am_up h588_z 8 cr.toNatClampNeg (.int (rg_v h588_z 44 11))) (2 + 6) t = rg_v (am_up h598_z 175 (3 + cr.toNatClampNeg) (.int (rg_v h598_z 164 9))) 175 (3 + t) ∧ rg_v (am_up h588_z 8 cr.toNatClampNeg (.int (rg_v h588_z 44 11))) (2 + 7) t = rg_v (am_up h598_z 175 (3 + cr.toNatClampNeg) (.int (rg_v h598_z 164 9))) 176 (3 + t) ∧ rg_v (am_up h588_z 8 cr.toNatClampNeg (.int (rg_v h588_z 44 11))) (2 + 8) t = rg_v (am_up h598_z 175 (3 + cr.toNatClampNeg) (.int (rg_v h598_z 164 9))) 177 (3 + t) := by
              intro t ht
              have ht' : (t : Int) < cr.toInt := by rw [← ecr]; exact ht
              have o := AG t (by rw [ecr]; omega)
              exact ⟨(show rg_v (am_up h588_z 8 cr.toNatClampNeg (.int (rg_v h588_z 44 11))) 8 t = rg_v h588_z 8 t from rg_v_other (h := h588_z) (o := 8) (k := cr.toNatClampNeg) (v := .int (rg_v h588_z 44 11)) (by omega)).trans (o.1.trans (show rg_v (am_up h598_z 175 (3 + cr.toNatClampNeg) (.int (rg_v h598_z 164 9))) 175 (3 + t) = rg_v h598_z 175 (3 + t) from rg_v_other (h := h598_z) (o := 175) (k := 3 + cr.toNatClampNeg) (v := .int (rg_v h598_z 164 9)) (by omega)).symm), (show rg_v (am_up h588_z 8 cr.toNatClampNeg (.int (rg_v h588_z 44 11))) 9 t = rg_v h588_z 9 t from rfl).trans (o.2.1.trans (show rg_v (am_up h598_z 175 (3 + cr.toNatClampNeg) (.int (rg_v h598_z 164 9))) 176 (3 + t) = rg_v h598_z 176 (3 + t) from rfl).symm), (show rg_v (am_up h588_z 8 cr.toNatClampNeg (.int (rg_v h588_z 44 11))) 10 t = rg_v h588_z 10 t from rfl).trans (o.2.2.trans (show rg_v (am_up h598_z 175 (3 + cr.toNatClampNeg) (.int (rg_v h598_z 164 9))) 177 (3 + t) = rg_v h598_z 177 (3 + t) from rfl).symm)⟩
            have A' : rp 2 (am_up h588_z 8 cr.toNatClampNeg (.int (rg_v h588_z 44 11))) (am_up h598_z 175 (3 + cr.toNatClampNeg) (.int (rg_v h598_z 164 9))) := ⟨⟨a1_z, a2_z, a3_z, a4_z, a5_z, a6_z⟩, ⟨nb1_z, nb2_z, nb3_z⟩, ⟨nt1_z, nt2_z, nt3_z⟩, ⟨nl1_z, nl2_z, nl3_z⟩, ⟨nr1_z, nr2_z, nr3_z⟩, ⟨nk1_z, nk2_z, nk3_z⟩, ⟨fun hb_z k hk_z => AC0 hb_z k hk_z, fun hb_z k hk_z => AC1 hb_z k hk_z, fun hb_z k hk_z => AC2 hb_z k hk_z, fun hb_z k hk_z => AC3 hb_z k hk_z⟩, fun t ht => AD t ht, fun t ht => AE t ht, AG'⟩
            have B' : rp_t (am_up h588_z 8 cr.toNatClampNeg (.int (rg_v h588_z 44 11))) (am_up h598_z 175 (3 + cr.toNatClampNeg) (.int (rg_v h598_z 164 9))) := by
              obtain ⟨b0_z, b1_z, b2_z, b3_z, b4_z, b5_z, b6_z, t, o0_z, o1_z, o2_z, o3_z, o4_z, o5_z, o6_z⟩ := B
              exact ⟨b0_z, b1_z, b2_z, b3_z, b4_z, b5_z, b6_z, t, o0_z, o1_z, o2_z, o3_z, o4_z, o5_z, o6_z⟩
            obtain ⟨-, -, x2_z, p2_z, R, le2_z, t5_z, t6_z⟩ := pr_tok (rq_0 R') q610_z y7_z
            replace A := rp_x (by decide) A' (rx_C_f t5_z) (rx_M_f t6_z)
            replace B := rp_tk B' (rg_v_fr t5_z (by decide)) (fun k => rg_v_fr t6_z (rg_v_in (by decide) k)) (rx_M_f t6_z)
            clear A' B' R'
            replace le2_z : x.toInt ≤ p2_z.toInt := Int.le_trans (Int.le_trans le1_z R8) le2_z
            replace ecb : rg_v h609_z 2 2 = cb := (rx_v (rx_C_f t5_z) (o := 2) (k := 2) (by decide)).trans ecb
            replace ect : rg_v h609_z 2 4 = ct := (rx_v (rx_C_f t5_z) (o := 2) (k := 4) (by decide)).trans ect
            replace ecl : rg_v h609_z 2 9 = cl := (rx_v (rx_C_f t5_z) (o := 2) (k := 9) (by decide)).trans ecl
            replace ecr : rg_v h609_z 2 12 = cr := (rx_v (rx_C_f t5_z) (o := 2) (k := 12) (by decide)).trans ecr
            have E1 : rg_v h609_z 8 cr.toNatClampNeg = rg_v h612_z 175 (3 + cr.toNatClampNeg) := (rx_v (rx_C_f t5_z) (o := 8) (k := cr.toNatClampNeg) (by decide)).trans (Eq.trans ((show rg_v (am_up h588_z 8 cr.toNatClampNeg (.int (rg_v h588_z 44 11))) 8 cr.toNatClampNeg = rg_v h588_z 44 11 from rg_v_self (h := h588_z) (o := 8) (k := cr.toNatClampNeg)).trans (k2_z.2.trans (show rg_v (am_up h598_z 175 (3 + cr.toNatClampNeg) (.int (rg_v h598_z 164 9))) 175 (3 + cr.toNatClampNeg) = rg_v h598_z 164 9 from rg_v_self).symm)) (rx_w (rx_M_f t6_z) (o := 175) (k := 3 + cr.toNatClampNeg) (by omega) (by decide)).symm)
            replace hm_z : rn _ _ _ _ [.int 1] _ _ _ := hm_z
            replace hc_z : rn _ _ _ _ [] _ _ _ := hc_z
            clear a1_z a2_z a3_z a4_z a5_z a6_z nb1_z nb2_z nb3_z nt1_z nt2_z nt3_z nl1_z nl2_z nl3_z nr1_z nr2_z nr3_z nk1_z nk2_z nk3_z AC0 AC1 AC2 AC3 AD AE AG c1_z c2_z c3_z c4_z c5_z c6_z c7_z c8_z m2_z m3_z m4_z m5_z m6_z m7_z m8_z R3 R4 R5 R6 R7 R8 R9 R10
            obtain ⟨⟨⟨a1_z, a2_z, a3_z, a4_z, a5_z, a6_z⟩, ⟨nb1_z, nb2_z, nb3_z⟩, ⟨nt1_z, nt2_z, nt3_z⟩, ⟨nl1_z, nl2_z, nl3_z⟩, ⟨nr1_z, nr2_z, nr3_z⟩, ⟨nk1_z, nk2_z, nk3_z⟩, ⟨AC0, AC1, AC2, AC3⟩, AD, AE, AG⟩, ⟨⟨c1_z, c2_z, c3_z, c4_z, c5_z, c6_z, c7_z, c8_z⟩, ⟨m2_z, m3_z, m4_z, m5_z, m6_z, m7_z, m8_z⟩, R3, R4, R5, R6, R7, R8, R9, R10⟩⟩ := (⟨A, R⟩ : rp 2 h609_z h612_z ∧ rq T S x2_z p2_z 2 h609_z h612_z)
            replace hc_z := rn_aload_n (am_cur_of (i := (67, 1, .aload_n 0, (0, 0, 0), 0)) (by decide +kernel)) g0_z hc_z
            replace hc_z := rn_getM (x := 2) (am_cur_of (i := (68, 3, .getfield 25, (4, 6, 415), 0)) (by decide +kernel)) R3 hc_z
            replace hc_z := rn_getR (x := 9) (am_cur_of (i := (71, 3, .getfield 229, (1, 14, 302), 0)) (by decide +kernel)) (by decide +kernel) hc_z
            replace hc_z := rn_aload_n (am_cur_of (i := (74, 1, .aload_n 0, (0, 0, 0), 0)) (by decide +kernel)) g0_z hc_z
            replace hc_z := rn_getM (x := 2) (am_cur_of (i := (75, 3, .getfield 25, (4, 6, 415), 0)) (by decide +kernel)) R3 hc_z
            replace hc_z := rn_getI (v := cr) (am_cur_of (i := (78, 3, .getfield 220, (1, 12, 296), 0)) (by decide +kernel)) (by decide +kernel) ecr hc_z
            replace hc_z := rn_aload_n (am_cur_of (i := (81, 1, .aload_n 0, (0, 0, 0), 0)) (by decide +kernel)) g0_z hc_z
            replace hc_z := rn_iconst (w := 1) (am_cur_of (i := (82, 1, .iconst 1, (0, 0, 0), 0)) (by decide +kernel)) (by decide) hc_z
            replace hc_z := rn_bipush (w := 100) (am_cur_of (i := (83, 2, .bipush 100, (0, 0, 0), 0)) (by decide +kernel)) (by decide) hc_z
            replace hc_z := rn_callV (M' := am_m30) (o := 44) (ar := [.int 100, .int 1]) (rest := [.int cr, .ref 9]) (L := lv_args 0 [.ref 44, .int 1, .int 100]) (am_cur_of (i := (85, 3, .invokevirtual 142, (30, 773, 3), 0)) (by decide +kernel)) rfl rfl rfl rfl hc_z
            obtain ⟨r614_z, h615_z, q616_z, hc_z⟩ := hc_z
            replace hm_z := rn_ifF (am_cur_of (i := (31, 3, .ifCond .eq 13, (23, 0, 0), 0)) (by decide +kernel)) (by decide) hm_z
            replace hm_z := rn_aload_n (am_cur_of (i := (34, 1, .aload_n 0, (0, 0, 0), 0)) (by decide +kernel)) g0m hm_z
            replace hm_z := rn_iconst (w := 1) (am_cur_of (i := (35, 1, .iconst 1, (0, 0, 0), 0)) (by decide +kernel)) (by decide) hm_z
            replace hm_z := rn_bipush (w := 100) (am_cur_of (i := (36, 2, .bipush 100, (0, 0, 0), 0)) (by decide +kernel)) (by decide) hm_z
            replace hm_z := rn_callV (M' := am_m161) (o := 164) (ar := [.int 100, .int 1]) (rest := []) (L := lv_args 0 [.ref 164, .int 1, .int 100]) (am_cur_of (i := (38, 3, .invokevirtual 197, (161, 1677, 3), 0)) (by decide +kernel)) rfl rfl rfl rfl hm_z
            obtain ⟨r617_z, h618_z, q619_z, hm_z⟩ := hm_z
            have R' : rq T S x2_z p2_z 2 h609_z h612_z := ⟨⟨c1_z, c2_z, c3_z, c4_z, c5_z, c6_z, fun k hk_z => c7_z k hk_z, fun k hk_z => c8_z k hk_z⟩, ⟨m2_z, m3_z, m4_z, m5_z, m6_z, fun k hk_z => m7_z k hk_z, fun k hk_z => m8_z k hk_z⟩, R3, R4, R5, R6, R7, R8, R9, R10⟩
            have A' : rp 2 h609_z h612_z := ⟨⟨a1_z, a2_z, a3_z, a4_z, a5_z, a6_z⟩, ⟨nb1_z, nb2_z, nb3_z⟩, ⟨nt1_z, nt2_z, nt3_z⟩, ⟨nl1_z, nl2_z, nl3_z⟩, ⟨nr1_z, nr2_z, nr3_z⟩, ⟨nk1_z, nk2_z, nk3_z⟩, ⟨fun hb_z k hk_z => AC0 hb_z k hk_z, fun hb_z k hk_z => AC1 hb_z k hk_z, fun hb_z k hk_z => AC2 hb_z k hk_z, fun hb_z k hk_z => AC3 hb_z k hk_z⟩, fun t ht => AD t ht, fun t ht => AE t ht, fun t ht => AG t ht⟩
            have B' : rp_t h609_z h612_z := by
              obtain ⟨b0_z, b1_z, b2_z, b3_z, b4_z, b5_z, b6_z, t, o0_z, o1_z, o2_z, o3_z, o4_z, o5_z, o6_z⟩ := B
              exact ⟨b0_z, b1_z, b2_z, b3_z, b4_z, b5_z, b6_z, t, o0_z, o1_z, o2_z, o3_z, o4_z, o5_z, o6_z⟩
            rcases pr_num R' (by decide) (by decide) q616_z q619_z with ⟨v3_z, x3_z, p3_z, rfl, rfl, lo3_z, hi3_z, R, le3_z, got, X, Y, t7_z, t167_z⟩ | ⟨rfl, F⟩
            · replace A := rp_x (by decide) A' X Y
              replace B := rp_tk B' t7_z t167_z Y
              clear A' B' R'
              replace le3_z : x.toInt ≤ p3_z.toInt := Int.le_trans (Int.le_trans le2_z R8) le3_z
              replace ecb : rg_v h615_z 2 2 = cb := (rx_v X (o := 2) (k := 2) (by decide)).trans ecb
              replace ect : rg_v h615_z 2 4 = ct := (rx_v X (o := 2) (k := 4) (by decide)).trans ect
              replace ecl : rg_v h615_z 2 9 = cl := (rx_v X (o := 2) (k := 9) (by decide)).trans ecl
              replace ecr : rg_v h615_z 2 12 = cr := (rx_v X (o := 2) (k := 12) (by decide)).trans ecr
              replace E1 : rg_v h615_z 8 cr.toNatClampNeg = rg_v h618_z 175 (3 + cr.toNatClampNeg) := (rx_v X (o := 8) (k := cr.toNatClampNeg) (by decide)).trans (E1.trans (rx_w Y (o := 175) (k := 3 + cr.toNatClampNeg) (by omega) (by decide)).symm)
              replace hm_z : rn _ _ _ _ [.int 1] _ _ _ := hm_z
              replace hc_z : rn _ _ _ _ [.int v3_z, .int cr, .ref 9] _ _ _ := hc_z
              clear a1_z a2_z a3_z a4_z a5_z a6_z nb1_z nb2_z nb3_z nt1_z nt2_z nt3_z nl1_z nl2_z nl3_z nr1_z nr2_z nr3_z nk1_z nk2_z nk3_z AC0 AC1 AC2 AC3 AD AE AG c1_z c2_z c3_z c4_z c5_z c6_z c7_z c8_z m2_z m3_z m4_z m5_z m6_z m7_z m8_z R3 R4 R5 R6 R7 R8 R9 R10
              obtain ⟨⟨⟨a1_z, a2_z, a3_z, a4_z, a5_z, a6_z⟩, ⟨nb1_z, nb2_z, nb3_z⟩, ⟨nt1_z, nt2_z, nt3_z⟩, ⟨nl1_z, nl2_z, nl3_z⟩, ⟨nr1_z, nr2_z, nr3_z⟩, ⟨nk1_z, nk2_z, nk3_z⟩, ⟨AC0, AC1, AC2, AC3⟩, AD, AE, AG⟩, ⟨⟨c1_z, c2_z, c3_z, c4_z, c5_z, c6_z, c7_z, c8_z⟩, ⟨m2_z, m3_z, m4_z, m5_z, m6_z, m7_z, m8_z⟩, R3, R4, R5, R6, R7, R8, R9, R10⟩⟩ := (⟨A, R⟩ : rp 2 h615_z h618_z ∧ rq T S x3_z p3_z 2 h615_z h618_z)
              replace hc_z := rn_iastore (N := 3) (q := cr.toNatClampNeg) (am_cur_of (i := (88, 1, .iastore, (0, 0, 0), 0)) (by decide +kernel)) (by decide +kernel) rfl hc_z
              obtain ⟨p620_z, hc_z⟩ := hc_z
              replace hc_z := rn_aload_n (am_cur_of (i := (89, 1, .aload_n 0, (0, 0, 0), 0)) (by decide +kernel)) g0_z hc_z
              replace hc_z := rn_getM (x := 2) (am_cur_of (i := (90, 3, .getfield 25, (4, 6, 415), 0)) (by decide +kernel)) (show (am_up h615_z 9 cr.toNatClampNeg (.int v3_z)) 44 6 = .ref 2 from R3) hc_z
              replace hc_z := rn_getR (x := 10) (am_cur_of (i := (93, 3, .getfield 232, (1, 15, 305), 0)) (by decide +kernel)) (by decide +kernel) hc_z
              replace hc_z := rn_aload_n (am_cur_of (i := (96, 1, .aload_n 0, (0, 0, 0), 0)) (by decide +kernel)) g0_z hc_z
              replace hc_z := rn_getM (x := 2) (am_cur_of (i := (97, 3, .getfield 25, (4, 6, 415), 0)) (by decide +kernel)) (show (am_up h615_z 9 cr.toNatClampNeg (.int v3_z)) 44 6 = .ref 2 from R3) hc_z
              replace hc_z := rn_getI (v := cr) (am_cur_of (i := (100, 3, .getfield 220, (1, 12, 296), 0)) (by decide +kernel)) (by decide +kernel) (show rg_v (am_up h615_z 9 cr.toNatClampNeg (.int v3_z)) 2 12 = cr from ecr) hc_z
              replace hc_z := rn_aload_n (am_cur_of (i := (103, 1, .aload_n 0, (0, 0, 0), 0)) (by decide +kernel)) g0_z hc_z
              replace hc_z := rn_iconst (w := 1) (am_cur_of (i := (104, 1, .iconst 1, (0, 0, 0), 0)) (by decide +kernel)) (by decide) hc_z
              replace hc_z := rn_bipush (w := 99) (am_cur_of (i := (105, 2, .bipush 99, (0, 0, 0), 0)) (by decide +kernel)) (by decide) hc_z
              replace hc_z := rn_callV (M' := am_m30) (o := 44) (ar := [.int 99, .int 1]) (rest := [.int cr, .ref 10]) (L := lv_args 0 [.ref 44, .int 1, .int 99]) (am_cur_of (i := (107, 3, .invokevirtual 142, (30, 773, 3), 0)) (by decide +kernel)) rfl rfl rfl rfl hc_z
              obtain ⟨r621_z, h622_z, q623_z, hc_z⟩ := hc_z
              replace hm_z := rn_ifT (am_cur_of (i := (41, 3, .ifCond .ne 5, (25, 0, 0), 0)) (by decide +kernel)) (by decide) hm_z
              replace hm_z := rn_aload_n (am_cur_of (i := (46, 1, .aload_n 0, (0, 0, 0), 0)) (by decide +kernel)) g0m hm_z
              replace hm_z := rn_getR (x := 176) (am_cur_of (i := (47, 3, .getfield 48, (12, 31, 1415), 0)) (by decide +kernel)) (by decide +kernel) hm_z
              replace hm_z := rn_iconst (w := 3) (am_cur_of (i := (50, 1, .iconst 3, (0, 0, 0), 0)) (by decide +kernel)) (by decide) hm_z
              replace hm_z := rn_aload_n (am_cur_of (i := (51, 1, .aload_n 0, (0, 0, 0), 0)) (by decide +kernel)) g0m hm_z
              replace hm_z := rn_getI (v := cr) (am_cur_of (i := (52, 3, .getfield 210, (12, 20, 1404), 0)) (by decide +kernel)) (by decide +kernel) (nr1_z.symm.trans ecr) hm_z
              replace hm_z := rn_iadd (w := (3 : Int32) + cr) (am_cur_of (i := (55, 1, .iadd, (0, 0, 0), 0)) (by decide +kernel)) rfl hm_z
              replace hm_z := rn_aload_n (am_cur_of (i := (56, 1, .aload_n 0, (0, 0, 0), 0)) (by decide +kernel)) g0m hm_z
              replace hm_z := rn_getI (v := v3_z) (am_cur_of (i := (57, 3, .getfield 188, (12, 11, 1395), 0)) (by decide +kernel)) (by decide +kernel) got hm_z
              replace hm_z := rn_iastore (N := 6) (q := ((3 : Int32) + cr).toNatClampNeg) (am_cur_of (i := (60, 1, .iastore, (0, 0, 0), 0)) (by decide +kernel)) (by decide +kernel) rfl hm_z
              obtain ⟨p624_z, hm_z⟩ := hm_z
              replace hm_z := rn_aload_n (am_cur_of (i := (61, 1, .aload_n 0, (0, 0, 0), 0)) (by decide +kernel)) g0m hm_z
              replace hm_z := rn_iconst (w := 1) (am_cur_of (i := (62, 1, .iconst 1, (0, 0, 0), 0)) (by decide +kernel)) (by decide) hm_z
              replace hm_z := rn_bipush (w := 99) (am_cur_of (i := (63, 2, .bipush 99, (0, 0, 0), 0)) (by decide +kernel)) (by decide) hm_z
              replace hm_z := rn_callV (M' := am_m161) (o := 164) (ar := [.int 99, .int 1]) (rest := []) (L := lv_args 0 [.ref 164, .int 1, .int 99]) (am_cur_of (i := (65, 3, .invokevirtual 197, (161, 1677, 3), 0)) (by decide +kernel)) rfl rfl rfl rfl hm_z
              obtain ⟨r625_z, h626_z, q627_z, hm_z⟩ := hm_z
              have R' : rq T S x3_z p3_z 2 (am_up h615_z 9 cr.toNatClampNeg (.int v3_z)) (am_up h618_z 176 (((3 : Int32) + cr).toNatClampNeg) (.int v3_z)) := ⟨⟨c1_z, c2_z, c3_z, c4_z, c5_z, c6_z, fun k hk_z => c7_z k hk_z, fun k hk_z => c8_z k hk_z⟩, ⟨m2_z, m3_z, m4_z, m5_z, m6_z, fun k hk_z => m7_z k hk_z, fun k hk_z => m8_z k hk_z⟩, R3, R4, R5, R6, R7, R8, R9, R10⟩
              have AG' : ∀ t : Nat, (t : Int) < (rg_v (am_up h615_z 9 cr.toNatClampNeg (.int v3_z)) 2 12).toInt → rg_v (am_up h615_z 9 cr.toNatClampNeg (.int v3_z)) (2 + 6) t = rg_v (am_up h618_z 176 (((3 : Int32) + cr).toNatClampNeg) (.int v3_z)) 175 (3 + t) ∧ rg_v (am_up h615_z 9 cr.toNatClampNeg (.int v3_z)) (2 + 7) t = rg_v (am_up h618_z 176 (((3 : Int32) + cr).toNatClampNeg) (.int v3_z)) 176 (3 + t) ∧ rg_v (am_up h615_z 9 cr.toNatClampNeg (.int v3_z)) (2 + 8) t = rg_v (am_up h618_z 176 (((3 : Int32) + cr).toNatClampNeg) (.int v3_z)) 177 (3 + t) := by
                intro t ht
                have ht' : (t : Int) < cr.toInt := by rw [← ecr]; exact ht
                have o := AG t (by rw [ecr]; omega)
                exact ⟨(show rg_v (am_up h615_z 9 cr.toNatClampNeg (.int v3_z)) 8 t = rg_v h615_z 8 t from rfl).trans (o.1.trans (show rg_v (am_up h618_z 176 (((3 : Int32) + cr).toNatClampNeg) (.int v3_z)) 175 (3 + t) = rg_v h618_z 175 (3 + t) from rfl).symm), (show rg_v (am_up h615_z 9 cr.toNatClampNeg (.int v3_z)) 9 t = rg_v h615_z 9 t from rg_v_other (h := h615_z) (o := 9) (k := cr.toNatClampNeg) (v := .int v3_z) (by omega)).trans (o.2.1.trans (show rg_v (am_up h618_z 176 (((3 : Int32) + cr).toNatClampNeg) (.int v3_z)) 176 (3 + t) = rg_v h618_z 176 (3 + t) from rg_v_other (h := h618_z) (o := 176) (k := ((3 : Int32) + cr).toNatClampNeg) (v := .int v3_z) (by omega)).symm), (show rg_v (am_up h615_z 9 cr.toNatClampNeg (.int v3_z)) 10 t = rg_v h615_z 10 t from rfl).trans (o.2.2.trans (show rg_v (am_up h618_z 176 (((3 : Int32) + cr).toNatClampNeg) (.int v3_z)) 177 (3 + t) = rg_v h618_z 177 (3 + t) from rfl).symm)⟩
              have A' : rp 2 (am_up h615_z 9 cr.toNatClampNeg (.int v3_z)) (am_up h618_z 176 (((3 : Int32) + cr).toNatClampNeg) (.int v3_z)) := ⟨⟨a1_z, a2_z, a3_z, a4_z, a5_z, a6_z⟩, ⟨nb1_z, nb2_z, nb3_z⟩, ⟨nt1_z, nt2_z, nt3_z⟩, ⟨nl1_z, nl2_z, nl3_z⟩, ⟨nr1_z, nr2_z, nr3_z⟩, ⟨nk1_z, nk2_z, nk3_z⟩, ⟨fun hb_z k hk_z => AC0 hb_z k hk_z, fun hb_z k hk_z => AC1 hb_z k hk_z, fun hb_z k hk_z => AC2 hb_z k hk_z, fun hb_z k hk_z => AC3 hb_z k hk_z⟩, fun t ht => AD t ht, fun t ht => AE t ht, AG'⟩
              have B' : rp_t (am_up h615_z 9 cr.toNatClampNeg (.int v3_z)) (am_up h618_z 176 (((3 : Int32) + cr).toNatClampNeg) (.int v3_z)) := by
                obtain ⟨b0_z, b1_z, b2_z, b3_z, b4_z, b5_z, b6_z, t, o0_z, o1_z, o2_z, o3_z, o4_z, o5_z, o6_z⟩ := B
                exact ⟨b0_z, b1_z, b2_z, b3_z, b4_z, b5_z, b6_z, t, o0_z, o1_z, o2_z, o3_z, o4_z, o5_z, o6_z⟩
              rcases pr_num R' (by decide) (by decide) q623_z q627_z with ⟨v4_z, x4_z, p4_z, rfl, rfl, lo4_z, hi4_z, R, le4_z, got, X, Y, t7_z, t167_z⟩ | ⟨rfl, F⟩
              · replace A := rp_x (by decide) A' X Y
                replace B := rp_tk B' t7_z t167_z Y
                clear A' B' R'
                replace le4_z : x.toInt ≤ p4_z.toInt := Int.le_trans (Int.le_trans le3_z R8) le4_z
                replace ecb : rg_v h622_z 2 2 = cb := (rx_v X (o := 2) (k := 2) (by decide)).trans ecb
                replace ect : rg_v h622_z 2 4 = ct := (rx_v X (o := 2) (k := 4) (by decide)).trans ect
                replace ecl : rg_v h622_z 2 9 = cl := (rx_v X (o := 2) (k := 9) (by decide)).trans ecl
                replace ecr : rg_v h622_z 2 12 = cr := (rx_v X (o := 2) (k := 12) (by decide)).trans ecr
                replace E1 : rg_v h622_z 8 cr.toNatClampNeg = rg_v h626_z 175 (3 + cr.toNatClampNeg) := (rx_v X (o := 8) (k := cr.toNatClampNeg) (by decide)).trans (E1.trans (rx_w Y (o := 175) (k := 3 + cr.toNatClampNeg) (by omega) (by decide)).symm)
                have E2 : rg_v h622_z 9 cr.toNatClampNeg = rg_v h626_z 176 (3 + cr.toNatClampNeg) := (rx_v X (o := 9) (k := cr.toNatClampNeg) (by decide)).trans (Eq.trans ((show rg_v (am_up h615_z 9 cr.toNatClampNeg (.int v3_z)) 9 cr.toNatClampNeg = v3_z from rg_v_self (h := h615_z) (o := 9) (k := cr.toNatClampNeg)).trans (show rg_v (am_up h618_z 176 (((3 : Int32) + cr).toNatClampNeg) (.int v3_z)) 176 (3 + cr.toNatClampNeg) = v3_z from by rw [← n3cr]; exact rg_v_self (h := h618_z) (o := 176) (k := ((3 : Int32) + cr).toNatClampNeg)).symm) (rx_w Y (o := 176) (k := 3 + cr.toNatClampNeg) (by omega) (by decide)).symm)
                replace hm_z : rn _ _ _ _ [.int 1] _ _ _ := hm_z
                replace hc_z : rn _ _ _ _ [.int v4_z, .int cr, .ref 10] _ _ _ := hc_z
                clear a1_z a2_z a3_z a4_z a5_z a6_z nb1_z nb2_z nb3_z nt1_z nt2_z nt3_z nl1_z nl2_z nl3_z nr1_z nr2_z nr3_z nk1_z nk2_z nk3_z AC0 AC1 AC2 AC3 AD AE AG c1_z c2_z c3_z c4_z c5_z c6_z c7_z c8_z m2_z m3_z m4_z m5_z m6_z m7_z m8_z R3 R4 R5 R6 R7 R8 R9 R10
                obtain ⟨⟨⟨a1_z, a2_z, a3_z, a4_z, a5_z, a6_z⟩, ⟨nb1_z, nb2_z, nb3_z⟩, ⟨nt1_z, nt2_z, nt3_z⟩, ⟨nl1_z, nl2_z, nl3_z⟩, ⟨nr1_z, nr2_z, nr3_z⟩, ⟨nk1_z, nk2_z, nk3_z⟩, ⟨AC0, AC1, AC2, AC3⟩, AD, AE, AG⟩, ⟨⟨c1_z, c2_z, c3_z, c4_z, c5_z, c6_z, c7_z, c8_z⟩, ⟨m2_z, m3_z, m4_z, m5_z, m6_z, m7_z, m8_z⟩, R3, R4, R5, R6, R7, R8, R9, R10⟩⟩ := (⟨A, R⟩ : rp 2 h622_z h626_z ∧ rq T S x4_z p4_z 2 h622_z h626_z)
                replace hc_z := rn_iastore (N := 3) (q := cr.toNatClampNeg) (am_cur_of (i := (110, 1, .iastore, (0, 0, 0), 0)) (by decide +kernel)) (by decide +kernel) rfl hc_z
                obtain ⟨p628_z, hc_z⟩ := hc_z
                replace hc_z := rn_aload_n (am_cur_of (i := (111, 1, .aload_n 0, (0, 0, 0), 0)) (by decide +kernel)) g0_z hc_z
                replace hc_z := rn_getM (x := 2) (am_cur_of (i := (112, 3, .getfield 25, (4, 6, 415), 0)) (by decide +kernel)) (show (am_up h622_z 10 cr.toNatClampNeg (.int v4_z)) 44 6 = .ref 2 from R3) hc_z
                replace hc_z := rn_dup (am_cur_of (i := (115, 1, .dup, (0, 0, 0), 0)) (by decide +kernel)) hc_z
                replace hc_z := rn_getI (v := cr) (am_cur_of (i := (116, 3, .getfield 220, (1, 12, 296), 0)) (by decide +kernel)) (by decide +kernel) (show rg_v (am_up h622_z 10 cr.toNatClampNeg (.int v4_z)) 2 12 = cr from ecr) hc_z
                replace hc_z := rn_iconst (w := 1) (am_cur_of (i := (119, 1, .iconst 1, (0, 0, 0), 0)) (by decide +kernel)) (by decide) hc_z
                replace hc_z := rn_iadd (w := cr + 1) (am_cur_of (i := (120, 1, .iadd, (0, 0, 0), 0)) (by decide +kernel)) rfl hc_z
                replace hc_z := rn_put (am_cur_of (i := (121, 3, .putfield 220, (1, 12, 296), 0)) (by decide +kernel)) (by decide +kernel) hc_z
                replace hc_z := rn_vret (am_cur_of (i := (124, 1, .return_, (0, 0, 0), 0)) (by decide +kernel)) hc_z
                obtain ⟨e629_z, e630_z⟩ := hc_z
                subst e629_z e630_z
                replace hm_z := rn_ifT (am_cur_of (i := (68, 3, .ifCond .ne 5, (41, 0, 0), 0)) (by decide +kernel)) (by decide) hm_z
                replace hm_z := rn_aload_n (am_cur_of (i := (73, 1, .aload_n 0, (0, 0, 0), 0)) (by decide +kernel)) g0m hm_z
                replace hm_z := rn_getR (x := 177) (am_cur_of (i := (74, 3, .getfield 51, (12, 32, 1416), 0)) (by decide +kernel)) (by decide +kernel) hm_z
                replace hm_z := rn_iconst (w := 3) (am_cur_of (i := (77, 1, .iconst 3, (0, 0, 0), 0)) (by decide +kernel)) (by decide) hm_z
                replace hm_z := rn_aload_n (am_cur_of (i := (78, 1, .aload_n 0, (0, 0, 0), 0)) (by decide +kernel)) g0m hm_z
                replace hm_z := rn_getI (v := cr) (am_cur_of (i := (79, 3, .getfield 210, (12, 20, 1404), 0)) (by decide +kernel)) (by decide +kernel) (nr1_z.symm.trans ecr) hm_z
                replace hm_z := rn_iadd (w := (3 : Int32) + cr) (am_cur_of (i := (82, 1, .iadd, (0, 0, 0), 0)) (by decide +kernel)) rfl hm_z
                replace hm_z := rn_aload_n (am_cur_of (i := (83, 1, .aload_n 0, (0, 0, 0), 0)) (by decide +kernel)) g0m hm_z
                replace hm_z := rn_getI (v := v4_z) (am_cur_of (i := (84, 3, .getfield 188, (12, 11, 1395), 0)) (by decide +kernel)) (by decide +kernel) got hm_z
                replace hm_z := rn_iastore (N := 6) (q := ((3 : Int32) + cr).toNatClampNeg) (am_cur_of (i := (87, 1, .iastore, (0, 0, 0), 0)) (by decide +kernel)) (by decide +kernel) rfl hm_z
                obtain ⟨p631_z, hm_z⟩ := hm_z
                replace hm_z := rn_aload_n (am_cur_of (i := (88, 1, .aload_n 0, (0, 0, 0), 0)) (by decide +kernel)) g0m hm_z
                replace hm_z := rn_dup (am_cur_of (i := (89, 1, .dup, (0, 0, 0), 0)) (by decide +kernel)) hm_z
                replace hm_z := rn_getI (v := cr) (am_cur_of (i := (90, 3, .getfield 210, (12, 20, 1404), 0)) (by decide +kernel)) (by decide +kernel) (show rg_v (am_up h626_z 177 (((3 : Int32) + cr).toNatClampNeg) (.int v4_z)) 164 20 = cr from (nr1_z.symm.trans ecr)) hm_z
                replace hm_z := rn_iconst (w := 1) (am_cur_of (i := (93, 1, .iconst 1, (0, 0, 0), 0)) (by decide +kernel)) (by decide) hm_z
                replace hm_z := rn_iadd (w := cr + 1) (am_cur_of (i := (94, 1, .iadd, (0, 0, 0), 0)) (by decide +kernel)) rfl hm_z
                replace hm_z := rn_put (am_cur_of (i := (95, 3, .putfield 210, (12, 20, 1404), 0)) (by decide +kernel)) (by decide +kernel) hm_z
                replace hm_z := rn_iconst (w := 1) (am_cur_of (i := (98, 1, .iconst 1, (0, 0, 0), 0)) (by decide +kernel)) (by decide) hm_z
                replace hm_z := rn_iret (am_cur_of (i := (99, 1, .ireturn, (0, 0, 0), 0)) (by decide +kernel)) hm_z
                obtain ⟨e632_z, e633_z⟩ := hm_z
                subst e632_z e633_z
                have R' : rq T S x4_z p4_z 2 (am_up (am_up h622_z 10 cr.toNatClampNeg (.int v4_z)) 2 12 (.int (cr + 1))) (am_up (am_up h626_z 177 (((3 : Int32) + cr).toNatClampNeg) (.int v4_z)) 164 20 (.int (cr + 1))) := ⟨⟨c1_z, c2_z, c3_z, c4_z, c5_z, c6_z, fun k hk_z => c7_z k hk_z, fun k hk_z => c8_z k hk_z⟩, ⟨m2_z, m3_z, m4_z, m5_z, m6_z, fun k hk_z => m7_z k hk_z, fun k hk_z => m8_z k hk_z⟩, R3, R4, R5, R6, R7, R8, R9, R10⟩
                have e1_z := rt_c1 cr0_z (by omega)
                have AG' : ∀ t : Nat, (t : Int) < (rg_v (am_up (am_up h622_z 10 cr.toNatClampNeg (.int v4_z)) 2 12 (.int (cr + 1))) 2 12).toInt → rg_v (am_up (am_up h622_z 10 cr.toNatClampNeg (.int v4_z)) 2 12 (.int (cr + 1))) (2 + 6) t = rg_v (am_up (am_up h626_z 177 (((3 : Int32) + cr).toNatClampNeg) (.int v4_z)) 164 20 (.int (cr + 1))) 175 (3 + t) ∧ rg_v (am_up (am_up h622_z 10 cr.toNatClampNeg (.int v4_z)) 2 12 (.int (cr + 1))) (2 + 7) t = rg_v (am_up (am_up h626_z 177 (((3 : Int32) + cr).toNatClampNeg) (.int v4_z)) 164 20 (.int (cr + 1))) 176 (3 + t) ∧ rg_v (am_up (am_up h622_z 10 cr.toNatClampNeg (.int v4_z)) 2 12 (.int (cr + 1))) (2 + 8) t = rg_v (am_up (am_up h626_z 177 (((3 : Int32) + cr).toNatClampNeg) (.int v4_z)) 164 20 (.int (cr + 1))) 177 (3 + t) := by
                  intro t ht
                  have ht' : (t : Int) < (cr + 1).toInt := ht
                  by_cases q : t = cr.toNatClampNeg
                  · subst q
                    exact ⟨E1, E2, (show rg_v (am_up (am_up h622_z 10 cr.toNatClampNeg (.int v4_z)) 2 12 (.int (cr + 1))) 10 cr.toNatClampNeg = v4_z from rg_v_self (h := h622_z) (o := 10) (k := cr.toNatClampNeg)).trans (show rg_v (am_up (am_up h626_z 177 (((3 : Int32) + cr).toNatClampNeg) (.int v4_z)) 164 20 (.int (cr + 1))) 177 (3 + cr.toNatClampNeg) = v4_z from by rw [← n3cr]; exact rg_v_self (h := h626_z) (o := 177) (k := ((3 : Int32) + cr).toNatClampNeg)).symm⟩
                  · have o := AG t (by rw [ecr]; omega)
                    exact ⟨(show rg_v (am_up (am_up h622_z 10 cr.toNatClampNeg (.int v4_z)) 2 12 (.int (cr + 1))) 8 t = rg_v h622_z 8 t from rfl).trans (o.1.trans (show rg_v (am_up (am_up h626_z 177 (((3 : Int32) + cr).toNatClampNeg) (.int v4_z)) 164 20 (.int (cr + 1))) 175 (3 + t) = rg_v h626_z 175 (3 + t) from rfl).symm), (show rg_v (am_up (am_up h622_z 10 cr.toNatClampNeg (.int v4_z)) 2 12 (.int (cr + 1))) 9 t = rg_v h622_z 9 t from rfl).trans (o.2.1.trans (show rg_v (am_up (am_up h626_z 177 (((3 : Int32) + cr).toNatClampNeg) (.int v4_z)) 164 20 (.int (cr + 1))) 176 (3 + t) = rg_v h626_z 176 (3 + t) from rfl).symm), (show rg_v (am_up (am_up h622_z 10 cr.toNatClampNeg (.int v4_z)) 2 12 (.int (cr + 1))) 10 t = rg_v h622_z 10 t from rg_v_other (h := h622_z) (o := 10) (k := cr.toNatClampNeg) (v := .int v4_z) (by omega)).trans (o.2.2.trans (show rg_v (am_up (am_up h626_z 177 (((3 : Int32) + cr).toNatClampNeg) (.int v4_z)) 164 20 (.int (cr + 1))) 177 (3 + t) = rg_v h626_z 177 (3 + t) from rg_v_other (h := h626_z) (o := 177) (k := ((3 : Int32) + cr).toNatClampNeg) (v := .int v4_z) (by omega)).symm)⟩
                have A' : rp 2 (am_up (am_up h622_z 10 cr.toNatClampNeg (.int v4_z)) 2 12 (.int (cr + 1))) (am_up (am_up h626_z 177 (((3 : Int32) + cr).toNatClampNeg) (.int v4_z)) 164 20 (.int (cr + 1))) := ⟨⟨a1_z, a2_z, a3_z, a4_z, a5_z, a6_z⟩, ⟨nb1_z, nb2_z, nb3_z⟩, ⟨nt1_z, nt2_z, nt3_z⟩, ⟨nl1_z, nl2_z, nl3_z⟩, ⟨rfl, (show 0 ≤ (cr + 1).toInt by omega), (show (cr + 1).toInt ≤ 3 by omega)⟩, ⟨nk1_z, nk2_z, nk3_z⟩, ⟨fun hb_z k hk_z => AC0 hb_z k hk_z, fun hb_z k hk_z => AC1 hb_z k hk_z, fun hb_z k hk_z => AC2 hb_z k hk_z, fun hb_z k hk_z => AC3 hb_z k hk_z⟩, fun t ht => AD t ht, fun t ht => AE t ht, AG'⟩
                have B' : rp_t (am_up (am_up h622_z 10 cr.toNatClampNeg (.int v4_z)) 2 12 (.int (cr + 1))) (am_up (am_up h626_z 177 (((3 : Int32) + cr).toNatClampNeg) (.int v4_z)) 164 20 (.int (cr + 1))) := by
                  obtain ⟨b0_z, b1_z, b2_z, b3_z, b4_z, b5_z, b6_z, t, o0_z, o1_z, o2_z, o3_z, o4_z, o5_z, o6_z⟩ := B
                  exact ⟨b0_z, b1_z, b2_z, b3_z, b4_z, b5_z, b6_z, t, o0_z, o1_z, o2_z, o3_z, o4_z, o5_z, o6_z⟩
                exact Or.inl ⟨rfl, _, _, R', le4_z, A', B'⟩
              · obtain ⟨wv, w0_z, f1_z, f2_z, f3_z, f4_z⟩ := F
                have K := rs_stick (a := 38) (by decide) (by decide) rfl w0_z f1_z f2_z hc_z
                replace hm_z : rn _ _ _ _ [.int 0] _ _ _ := hm_z
                replace hm_z := rn_ifF (am_cur_of (i := (68, 3, .ifCond .ne 5, (41, 0, 0), 0)) (by decide +kernel)) (by decide) hm_z
                replace hm_z := rn_iconst (w := 0) (am_cur_of (i := (71, 1, .iconst 0, (0, 0, 0), 0)) (by decide +kernel)) (by decide) hm_z
                replace hm_z := rn_iret (am_cur_of (i := (72, 1, .ireturn, (0, 0, 0), 0)) (by decide +kernel)) hm_z
                obtain ⟨e634_z, e635_z⟩ := hm_z
                subst e634_z e635_z
                exact Or.inr ⟨rfl, _, wv, w0_z, K.1, K.2, f3_z, f4_z⟩
            · obtain ⟨wv, w0_z, f1_z, f2_z, f3_z, f4_z⟩ := F
              have K := rs_stick (a := 38) (by decide) (by decide) rfl w0_z f1_z f2_z hc_z
              replace hm_z : rn _ _ _ _ [.int 0] _ _ _ := hm_z
              replace hm_z := rn_ifF (am_cur_of (i := (41, 3, .ifCond .ne 5, (25, 0, 0), 0)) (by decide +kernel)) (by decide) hm_z
              replace hm_z := rn_iconst (w := 0) (am_cur_of (i := (44, 1, .iconst 0, (0, 0, 0), 0)) (by decide +kernel)) (by decide) hm_z
              replace hm_z := rn_iret (am_cur_of (i := (45, 1, .ireturn, (0, 0, 0), 0)) (by decide +kernel)) hm_z
              obtain ⟨e636_z, e637_z⟩ := hm_z
              subst e636_z e637_z
              exact Or.inr ⟨rfl, _, wv, w0_z, K.1, K.2, f3_z, f4_z⟩
        · replace b606_z : ¬ i2_z = ((-1) : Int32) ∧ ¬ i2_z.toInt = ((-1) : Int32).toInt := b606_z
          replace hc_z := rn_aload_n (am_cur_of (i := (38, 1, .aload_n 0, (0, 0, 0), 0)) (by decide +kernel)) g0_z hc_z
          replace hc_z := rn_iconst (w := 3) (am_cur_of (i := (39, 1, .iconst 3, (0, 0, 0), 0)) (by decide +kernel)) (by decide) hc_z
          replace hc_z := rn_callV (M' := am_m29) (o := 44) (ar := [.int 3]) (rest := []) (L := lv_args 0 [.ref 44, .int 3]) (am_cur_of (i := (40, 3, .invokevirtual 108, (29, 769, 3), 0)) (by decide +kernel)) rfl rfl rfl rfl hc_z
          obtain ⟨r638_z, h639_z, q640_z, hc_z⟩ := hc_z
          obtain ⟨rfl, yq640_z⟩ := rp_fail R4 q640_z
          subst yq640_z
          replace hc_z : rn _ _ _ _ [] _ _ _ := hc_z
          have K := rs_stick (w := 3) (a := 38) (by decide) (by decide) rfl (by decide) rfl rfl hc_z
          replace hm_z := rn_aload_n (am_cur_of (i := (18, 1, .aload_n 0, (0, 0, 0), 0)) (by decide +kernel)) g0m hm_z
          replace hm_z := rn_aload_n (am_cur_of (i := (19, 1, .aload_n 0, (0, 0, 0), 0)) (by decide +kernel)) g0m hm_z
          replace hm_z := rn_getR (x := 175) (am_cur_of (i := (20, 3, .getfield 45, (12, 30, 1414), 0)) (by decide +kernel)) (by decide +kernel) hm_z
          replace hm_z := rn_iconst (w := 3) (am_cur_of (i := (23, 1, .iconst 3, (0, 0, 0), 0)) (by decide +kernel)) (by decide) hm_z
          replace hm_z := rn_aload_n (am_cur_of (i := (24, 1, .aload_n 0, (0, 0, 0), 0)) (by decide +kernel)) g0m hm_z
          replace hm_z := rn_getI (v := cr) (am_cur_of (i := (25, 3, .getfield 210, (12, 20, 1404), 0)) (by decide +kernel)) (by decide +kernel) (nr1_z.symm.trans ecr) hm_z
          replace hm_z := rn_callV (M' := am_m164) (o := 164) (ar := [.int cr, .int 3, .ref 175]) (rest := []) (L := lv_args 0 [.ref 164, .ref 175, .int 3, .int cr]) (am_cur_of (i := (28, 3, .invokevirtual 248, (164, 1688, 3), 0)) (by decide +kernel)) rfl rfl rfl rfl hm_z
          obtain ⟨r641_z, h642_z, q643_z, hm_z⟩ := hm_z
          rcases rp_newT (nb := cr) cr0_z (by omega) q643_z with ⟨y1_z, rfl, y3_z⟩ | ⟨y1_z, rfl, y3_z, y4_z, y5_z, y6_z⟩ | ⟨y1_z, rfl, y5_z, y4_z, y6_z, y7_z⟩
          · exact absurd k2_z.1 y1_z
          · subst y3_z
            replace hm_z : rn _ _ _ _ [.int 0] _ _ _ := hm_z
            replace hm_z := rn_ifT (am_cur_of (i := (31, 3, .ifCond .eq 13, (23, 0, 0), 0)) (by decide +kernel)) (by decide) hm_z
            replace hm_z := rn_iconst (w := 0) (am_cur_of (i := (44, 1, .iconst 0, (0, 0, 0), 0)) (by decide +kernel)) (by decide) hm_z
            replace hm_z := rn_iret (am_cur_of (i := (45, 1, .ireturn, (0, 0, 0), 0)) (by decide +kernel)) hm_z
            obtain ⟨e644_z, e645_z⟩ := hm_z
            subst e644_z e645_z
            exact Or.inr ⟨rfl, _, 3, by decide, K.1, K.2.trans R5, rfl, R6⟩
          · exact absurd (rp_fm_u hi2_z (k2_z.2 ▸ y5_z) names) b606_z.1
      · have K := rs_stick (a := 38) (by decide) (by decide) rfl (by decide) f1_z f2_z hc_z
        have k2_z := tk_n3 R10 k3_z
        replace hm_z := rn_aload_n (am_cur_of (i := (18, 1, .aload_n 0, (0, 0, 0), 0)) (by decide +kernel)) g0m hm_z
        replace hm_z := rn_aload_n (am_cur_of (i := (19, 1, .aload_n 0, (0, 0, 0), 0)) (by decide +kernel)) g0m hm_z
        replace hm_z := rn_getR (x := 175) (am_cur_of (i := (20, 3, .getfield 45, (12, 30, 1414), 0)) (by decide +kernel)) (by decide +kernel) hm_z
        replace hm_z := rn_iconst (w := 3) (am_cur_of (i := (23, 1, .iconst 3, (0, 0, 0), 0)) (by decide +kernel)) (by decide) hm_z
        replace hm_z := rn_aload_n (am_cur_of (i := (24, 1, .aload_n 0, (0, 0, 0), 0)) (by decide +kernel)) g0m hm_z
        replace hm_z := rn_getI (v := cr) (am_cur_of (i := (25, 3, .getfield 210, (12, 20, 1404), 0)) (by decide +kernel)) (by decide +kernel) (nr1_z.symm.trans ecr) hm_z
        replace hm_z := rn_callV (M' := am_m164) (o := 164) (ar := [.int cr, .int 3, .ref 175]) (rest := []) (L := lv_args 0 [.ref 164, .ref 175, .int 3, .int cr]) (am_cur_of (i := (28, 3, .invokevirtual 248, (164, 1688, 3), 0)) (by decide +kernel)) rfl rfl rfl rfl hm_z
        obtain ⟨r646_z, h647_z, q648_z, hm_z⟩ := hm_z
        rcases rp_newT (nb := cr) cr0_z (by omega) q648_z with ⟨y1_z, rfl, y3_z⟩ | ⟨y1_z, rfl, y3_z, y4_z, y5_z, y6_z⟩ | ⟨y1_z, rfl, y5_z, y4_z, y6_z, y7_z⟩
        · subst y3_z
          replace hm_z : rn _ _ _ _ [.int 0] _ _ _ := hm_z
          replace hm_z := rn_ifT (am_cur_of (i := (31, 3, .ifCond .eq 13, (23, 0, 0), 0)) (by decide +kernel)) (by decide) hm_z
          replace hm_z := rn_iconst (w := 0) (am_cur_of (i := (44, 1, .iconst 0, (0, 0, 0), 0)) (by decide +kernel)) (by decide) hm_z
          replace hm_z := rn_iret (am_cur_of (i := (45, 1, .ireturn, (0, 0, 0), 0)) (by decide +kernel)) hm_z
          obtain ⟨e649_z, e650_z⟩ := hm_z
          subst e649_z e650_z
          exact Or.inr ⟨rfl, _, 1, by decide, K.1, K.2.trans R5, rfl, R6⟩
        · exact absurd y1_z k2_z
        · exact absurd y1_z k2_z
    · replace b596_z : cr = (3 : Int32) ∧ cr.toInt = (3 : Int32).toInt := b596_z
      omega
