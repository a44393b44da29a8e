/-! ===== TURNS OF BOTH READERS, 2 (wip/r/gen99qm.py) ===== -/
theorem pl_turn2 {T : Nat → Int32} {S x p : Int32} {n n' : Nat} {h h' g g' : am_H} {r r' : Option Value} (R : rq T S x p 2 h g) (A : rp 2 h g) (B : rp_t h g) (hc_z : rn n am_m35 0 (lv_args 0 [.ref 44]) [] h r h') (hm_z : rn n' am_m166 0 (lv_args 0 [.ref 164]) [] g r' g') : pl_Q T S x 2 h' g' r' := by
  have zm1_z : ((-1) : Int32).toInt = (-1) := by decide
  have z0_z : (0 : Int32).toInt = 0 := by decide
  have z1_z : (1 : Int32).toInt = 1 := by decide
  have z2_z : (2 : Int32).toInt = 2 := by decide
  have z8_z : (8 : Int32).toInt = 8 := by decide
  have z20_z : (20 : Int32).toInt = 20 := by decide
  have g0_z : am_get (lv_args 0 [.ref 44]) 0 = some (.ref 44) := rfl
  have g0m : am_get (lv_args 0 [.ref 164]) 0 = some (.ref 164) := rfl
  obtain ⟨⟨⟨a1_z, a2_z, a3_z, a4_z, a5_z, a6_z⟩, ⟨nb1_z, nb2_z, nb3_z⟩, ⟨nt1_z, nt2_z, nt3_z⟩, ⟨nl1_z, nl2_z, nl3_z⟩, ⟨nr1_z, nr2_z, nr3_z⟩, ⟨nk1_z, nk2_z, nk3_z⟩, ⟨AC0, AC1, AC2, AC3⟩, AD, AE, AG⟩, ⟨⟨c1_z, c2_z, c3_z, c4_z, c5_z, c6_z, c7_z, c8_z⟩, ⟨m2_z, m3_z, m4_z, m5_z, m6_z, m7_z, m8_z⟩, R3, R4, R5, R6, R7, R8, R9, R10⟩⟩ := (⟨A, R⟩ : rp 2 h g ∧ rq T S x p 2 h g)
  obtain ⟨cb, ecb⟩ : ∃ v, rg_v h 2 2 = v := ⟨_, rfl⟩
  have cb0_z : 0 ≤ cb.toInt := by rw [← ecb]; exact nb2_z
  have cb9_z : cb.toInt ≤ 4 := by rw [← ecb]; exact nb3_z
  have cbn := rt_cl cb0_z
  obtain ⟨ct, ect⟩ : ∃ v, rg_v h 2 4 = v := ⟨_, rfl⟩
  have ct0_z : 0 ≤ ct.toInt := by rw [← ect]; exact nt2_z
  have ct9_z : ct.toInt ≤ 8 := by rw [← ect]; exact nt3_z
  have ctn := rt_cl ct0_z
  obtain ⟨cl, ecl⟩ : ∃ v, rg_v h 2 9 = v := ⟨_, rfl⟩
  have cl0_z : 0 ≤ cl.toInt := by rw [← ecl]; exact nl2_z
  have cl9_z : cl.toInt ≤ 6 := by rw [← ecl]; exact nl3_z
  have cln := rt_cl cl0_z
  obtain ⟨cr, ecr⟩ : ∃ v, rg_v h 2 12 = v := ⟨_, rfl⟩
  have cr0_z : 0 ≤ cr.toInt := by rw [← ecr]; exact nr2_z
  have cr9_z : cr.toInt ≤ 3 := by rw [← ecr]; exact nr3_z
  have crn := rt_cl cr0_z
  have z8_z : (8 : Int32).toInt = 8 := by decide
  have y8ct := ab_iadd (x := 8) (y := ct) (by omega) (by omega)
  have n8ct : ((8 : Int32) + ct).toNatClampNeg = 8 + ct.toNatClampNeg := by have := rt_cl (x := 8 + ct) (by omega); omega
  replace hc_z := rn_aload_n (am_cur_of (i := (0, 1, .aload_n 0, (0, 0, 0), 0)) (by decide +kernel)) g0_z hc_z
  replace hc_z := rn_aload_n (am_cur_of (i := (1, 1, .aload_n 0, (0, 0, 0), 0)) (by decide +kernel)) g0_z hc_z
  replace hc_z := rn_getM (x := 2) (am_cur_of (i := (2, 3, .getfield 25, (4, 6, 415), 0)) (by decide +kernel)) R3 hc_z
  replace hc_z := rn_getI (v := ct) (am_cur_of (i := (5, 3, .getfield 196, (1, 4, 269), 0)) (by decide +kernel)) (by decide +kernel) ect hc_z
  replace hc_z := rn_bipush (w := 8) (am_cur_of (i := (8, 2, .bipush 8, (0, 0, 0), 0)) (by decide +kernel)) (by decide) hc_z
  replace hc_z := rn_callV (M' := am_m32) (o := 44) (ar := [.int 8, .int ct]) (rest := []) (L := lv_args 0 [.ref 44, .int ct, .int 8]) (am_cur_of (i := (10, 3, .invokevirtual 154, (32, 781, 3), 0)) (by decide +kernel)) rfl rfl rfl rfl hc_z
  obtain ⟨r406_z, h407_z, q408_z, hc_z⟩ := hc_z
  rcases rp_more R4 q408_z with ⟨ge, f1_z, f2_z⟩ | ⟨lt, n2_z, r2_z, hq2_z, e2_z⟩
  · have K := rs_stick (a := 35) (by decide) (by decide) rfl (by decide) f1_z f2_z hc_z
    replace hm_z := rn_aload_n (am_cur_of (i := (0, 1, .aload_n 0, (0, 0, 0), 0)) (by decide +kernel)) g0m hm_z
    replace hm_z := rn_getI (v := ct) (am_cur_of (i := (1, 3, .getfield 204, (12, 18, 1402), 0)) (by decide +kernel)) (by decide +kernel) (nt1_z.symm.trans ect) hm_z
    replace hm_z := rn_bipush (w := 8) (am_cur_of (i := (4, 2, .bipush 8, (0, 0, 0), 0)) (by decide +kernel)) (by decide) hm_z
    replace hm_z := rn_cmp (am_cur_of (i := (6, 3, .if_icmp .ne 9, (8, 0, 0), 0)) (by decide +kernel)) hm_z
    rcases hm_z with ⟨b409_z, hm_z⟩ | ⟨b409_z, hm_z⟩
    · replace b409_z : ¬ ct = (8 : Int32) ∧ ¬ ct.toInt = (8 : Int32).toInt := b409_z
      omega
    · replace b409_z : ct = (8 : Int32) ∧ ct.toInt = (8 : Int32).toInt := b409_z
      replace hm_z := rn_aload_n (am_cur_of (i := (9, 1, .aload_n 0, (0, 0, 0), 0)) (by decide +kernel)) g0m hm_z
      replace hm_z := rn_iconst (w := 2) (am_cur_of (i := (10, 1, .iconst 2, (0, 0, 0), 0)) (by decide +kernel)) (by decide) hm_z
      replace hm_z := rn_callV (M' := am_m158) (o := 164) (ar := [.int 2]) (rest := []) (L := lv_args 0 [.ref 164, .int 2]) (am_cur_of (i := (11, 3, .invokevirtual 181, (158, 1665, 3), 0)) (by decide +kernel)) rfl rfl rfl rfl hm_z
      obtain ⟨r410_z, h411_z, q412_z, hm_z⟩ := hm_z
      obtain ⟨rfl, yq412_z⟩ := rp_wrong q412_z
      subst yq412_z
      replace hm_z : rn _ _ _ _ [.int 0] _ _ _ := hm_z
      replace hm_z := rn_iret (am_cur_of (i := (14, 1, .ireturn, (0, 0, 0), 0)) (by decide +kernel)) hm_z
      obtain ⟨e413_z, e414_z⟩ := hm_z
      subst e413_z e414_z
      exact Or.inr ⟨rfl, _, 2, by decide, K.1, K.2.trans R5, rfl, R6⟩
  · replace hm_z := rn_aload_n (am_cur_of (i := (0, 1, .aload_n 0, (0, 0, 0), 0)) (by decide +kernel)) g0m hm_z
    replace hm_z := rn_getI (v := ct) (am_cur_of (i := (1, 3, .getfield 204, (12, 18, 1402), 0)) (by decide +kernel)) (by decide +kernel) (nt1_z.symm.trans ect) hm_z
    replace hm_z := rn_bipush (w := 8) (am_cur_of (i := (4, 2, .bipush 8, (0, 0, 0), 0)) (by decide +kernel)) (by decide) hm_z
    replace hm_z := rn_cmp (am_cur_of (i := (6, 3, .if_icmp .ne 9, (8, 0, 0), 0)) (by decide +kernel)) hm_z
    rcases hm_z with ⟨b415_z, hm_z⟩ | ⟨b415_z, hm_z⟩
    · replace b415_z : ¬ ct = (8 : Int32) ∧ ¬ ct.toInt = (8 : Int32).toInt := b415_z
      replace hm_z := rn_aload_n (am_cur_of (i := (15, 1, .aload_n 0, (0, 0, 0), 0)) (by decide +kernel)) g0m hm_z
      replace hm_z := rn_callV (M' := am_m151) (o := 164) (ar := []) (rest := []) (L := lv_args 0 [.ref 164]) (am_cur_of (i := (16, 3, .invokevirtual 191, (151, 1636, 3), 0)) (by decide +kernel)) rfl rfl rfl rfl hm_z
      obtain ⟨r416_z, h417_z, q418_z, hm_z⟩ := hm_z
      have vo := rn_void rfl q418_z
      subst vo
      have R' : rq T S x p 2 h g := ⟨⟨c1_z, c2_z, c3_z, c4_z, c5_z, c6_z, fun k hk_z => c7_z k hk_z, fun k hk_z => c8_z k hk_z⟩, ⟨m2_z, m3_z, m4_z, m5_z, m6_z, fun k hk_z => m7_z k hk_z, fun k hk_z => m8_z k hk_z⟩, R3, R4, R5, R6, R7, R8, R9, R10⟩
      have A' : rp 2 h g := ⟨⟨a1_z, a2_z, a3_z, a4_z, a5_z, a6_z⟩, ⟨nb1_z, nb2_z, nb3_z⟩, ⟨nt1_z, nt2_z, nt3_z⟩, ⟨nl1_z, nl2_z, nl3_z⟩, ⟨nr1_z, nr2_z, nr3_z⟩, ⟨nk1_z, nk2_z, nk3_z⟩, ⟨fun hb_z k hk_z => AC0 hb_z k hk_z, fun hb_z k hk_z => AC1 hb_z k hk_z, fun hb_z k hk_z => AC2 hb_z k hk_z, fun hb_z k hk_z => AC3 hb_z k hk_z⟩, fun t ht => AD t ht, fun t ht => AE t ht, fun t ht => AG t ht⟩
      have B' : rp_t h g := by
        obtain ⟨b0_z, b1_z, b2_z, b3_z, b4_z, b5_z, b6_z, t, o0_z, o1_z, o2_z, o3_z, o4_z, o5_z, o6_z⟩ := B
        exact ⟨b0_z, b1_z, b2_z, b3_z, b4_z, b5_z, b6_z, t, o0_z, o1_z, o2_z, o3_z, o4_z, o5_z, o6_z⟩
      obtain ⟨-, -, x1_z, p1_z, R, le1_z, t5_z, t6_z⟩ := pr_tok (rq_0 R') hq2_z q418_z
      replace A := rp_x (by decide) A' (rx_C_f t5_z) (rx_M_f t6_z)
      replace B := rp_tk B' (rg_v_fr t5_z (by decide)) (fun k => rg_v_fr t6_z (rg_v_in (by decide) k)) (rx_M_f t6_z)
      clear A' B' R'
      replace ecb : rg_v h407_z 2 2 = cb := (rx_v (rx_C_f t5_z) (o := 2) (k := 2) (by decide)).trans ecb
      replace ect : rg_v h407_z 2 4 = ct := (rx_v (rx_C_f t5_z) (o := 2) (k := 4) (by decide)).trans ect
      replace ecl : rg_v h407_z 2 9 = cl := (rx_v (rx_C_f t5_z) (o := 2) (k := 9) (by decide)).trans ecl
      replace ecr : rg_v h407_z 2 12 = cr := (rx_v (rx_C_f t5_z) (o := 2) (k := 12) (by decide)).trans ecr
      rcases e2_z with ⟨-, rfl⟩ | ⟨e2_z, -⟩
      rotate_left
      · exact absurd R.2.2.2.1 e2_z
      replace hm_z : rn _ _ _ _ [] _ _ _ := hm_z
      replace hc_z : rn _ _ _ _ [.int 1] _ _ _ := hc_z
      clear a1_z a2_z a3_z a4_z a5_z a6_z nb1_z nb2_z nb3_z nt1_z nt2_z nt3_z nl1_z nl2_z nl3_z nr1_z nr2_z nr3_z nk1_z nk2_z nk3_z AC0 AC1 AC2 AC3 AD AE AG c1_z c2_z c3_z c4_z c5_z c6_z c7_z c8_z m2_z m3_z m4_z m5_z m6_z m7_z m8_z R3 R4 R5 R6 R7 R8 R9 R10
      obtain ⟨⟨⟨a1_z, a2_z, a3_z, a4_z, a5_z, a6_z⟩, ⟨nb1_z, nb2_z, nb3_z⟩, ⟨nt1_z, nt2_z, nt3_z⟩, ⟨nl1_z, nl2_z, nl3_z⟩, ⟨nr1_z, nr2_z, nr3_z⟩, ⟨nk1_z, nk2_z, nk3_z⟩, ⟨AC0, AC1, AC2, AC3⟩, AD, AE, AG⟩, ⟨⟨c1_z, c2_z, c3_z, c4_z, c5_z, c6_z, c7_z, c8_z⟩, ⟨m2_z, m3_z, m4_z, m5_z, m6_z, m7_z, m8_z⟩, R3, R4, R5, R6, R7, R8, R9, R10⟩⟩ := (⟨A, R⟩ : rp 2 h407_z h417_z ∧ rq T S x1_z p1_z 2 h407_z h417_z)
      replace hc_z := rn_ifF (am_cur_of (i := (13, 3, .ifCond .eq 10, (10, 0, 0), 0)) (by decide +kernel)) (by decide) hc_z
      replace hc_z := rn_aload_n (am_cur_of (i := (16, 1, .aload_n 0, (0, 0, 0), 0)) (by decide +kernel)) g0_z hc_z
      replace hc_z := rn_callV (M' := am_m33) (o := 44) (ar := []) (rest := []) (L := lv_args 0 [.ref 44]) (am_cur_of (i := (17, 3, .invokevirtual 158, (33, 785, 3), 0)) (by decide +kernel)) rfl rfl rfl rfl hc_z
      obtain ⟨r419_z, h420_z, q421_z, hc_z⟩ := hc_z
      rcases rp_own R4 q421_z with ⟨k3_z, rfl, eh⟩ | ⟨k3_z, f1_z, f2_z⟩
      · replace eh := eh.symm
        subst eh
        have k2_z := tk_3 R10 k3_z
        replace hc_z : rn _ _ _ _ [.int 1] _ _ _ := hc_z
        replace hc_z := rn_ifT (am_cur_of (i := (20, 3, .ifCond .ne 4, (11, 0, 0), 0)) (by decide +kernel)) (by decide) hc_z
        replace hc_z := rn_aload_n (am_cur_of (i := (24, 1, .aload_n 0, (0, 0, 0), 0)) (by decide +kernel)) g0_z hc_z
        replace hc_z := rn_getM (x := 2) (am_cur_of (i := (25, 3, .getfield 25, (4, 6, 415), 0)) (by decide +kernel)) R3 hc_z
        replace hc_z := rn_aload_n (am_cur_of (i := (28, 1, .aload_n 0, (0, 0, 0), 0)) (by decide +kernel)) g0_z hc_z
        replace hc_z := rn_getI (v := rg_v h407_z 44 11) (am_cur_of (i := (29, 3, .getfield 91, (4, 11, 420), 0)) (by decide +kernel)) (by decide +kernel) rfl hc_z
        replace hc_z := rn_callV (M' := am_m34) (o := 2) (ar := [.int (rg_v h407_z 44 11)]) (rest := []) (L := lv_args 0 [.ref 2, .int (rg_v h407_z 44 11)]) (am_cur_of (i := (32, 3, .invokevirtual 162, (34, 789, 3), 0)) (by decide +kernel)) rfl rfl rfl rfl hc_z
        obtain ⟨r422_z, h423_z, q424_z, hc_z⟩ := hc_z
        obtain ⟨eh, i2_z, rfl, hi2_z⟩ := rp_bn2 ecb (by omega) q424_z
        replace eh := eh.symm
        subst eh
        have hib := rp_fm_b hi2_z (by omega)
        have names : ∀ b : Nat, (b : Int) < cb.toInt → rg_v h407_z (19 + b) 0 = rg_v h417_z 169 (4 + b) := by
          intro b hb_z
          match b with
          | 0 => exact AC0 (by rw [ecb]; exact hb_z) 0 (by decide)
          | 1 => exact AC1 (by rw [ecb]; exact hb_z) 0 (by decide)
          | 2 => exact AC2 (by rw [ecb]; exact hb_z) 0 (by decide)
          | 3 => exact AC3 (by rw [ecb]; exact hb_z) 0 (by decide)
          | b + 4 => omega
        replace hc_z : rn _ _ _ _ [.int i2_z] _ _ _ := hc_z
        replace hc_z := rn_istore_n (am_cur_of (i := (35, 1, .istore_n 1, (0, 0, 0), 0)) (by decide +kernel)) hc_z
        obtain ⟨_, s425_z, s426_z, g1_z, hc_z⟩ := hc_z
        replace g0_z := s425_z 0 _ (by decide) rfl g0_z
        clear s425_z s426_z
        replace hc_z := rn_iload_n (am_cur_of (i := (36, 1, .iload_n 1, (0, 0, 0), 0)) (by decide +kernel)) g1_z hc_z
        replace hc_z := rn_iconst (w := (-1)) (am_cur_of (i := (37, 1, .iconst (-1), (0, 0, 0), 0)) (by decide +kernel)) (by decide) hc_z
        replace hc_z := rn_cmp (am_cur_of (i := (38, 3, .if_icmp .ne 9, (24, 0, 0), 0)) (by decide +kernel)) hc_z
        rcases hc_z with ⟨b427_z, hc_z⟩ | ⟨b427_z, hc_z⟩
        · replace b427_z : ¬ i2_z = ((-1) : Int32) ∧ ¬ i2_z.toInt = ((-1) : Int32).toInt := b427_z
          replace hc_z := rn_aload_n (am_cur_of (i := (47, 1, .aload_n 0, (0, 0, 0), 0)) (by decide +kernel)) g0_z hc_z
          replace hc_z := rn_callV (M' := am_m19) (o := 44) (ar := []) (rest := []) (L := lv_args 0 [.ref 44]) (am_cur_of (i := (48, 3, .invokevirtual 57, (19, 727, 3), 0)) (by decide +kernel)) rfl rfl rfl rfl hc_z
          obtain ⟨r428_z, h429_z, q430_z, hc_z⟩ := hc_z
          have vo := rn_void rfl q430_z
          subst vo
          replace hm_z := rn_aload_n (am_cur_of (i := (19, 1, .aload_n 0, (0, 0, 0), 0)) (by decide +kernel)) g0m hm_z
          replace hm_z := rn_getI (v := rg_v h417_z 164 8) (am_cur_of (i := (20, 3, .getfield 157, (12, 8, 1392), 0)) (by decide +kernel)) (by decide +kernel) rfl hm_z
          replace hm_z := rn_iconst (w := 2) (am_cur_of (i := (23, 1, .iconst 2, (0, 0, 0), 0)) (by decide +kernel)) (by decide) hm_z
          replace hm_z := rn_cmp (am_cur_of (i := (24, 3, .if_icmp .eq 9, (18, 0, 0), 0)) (by decide +kernel)) hm_z
          rcases hm_z with ⟨b431_z, hm_z⟩ | ⟨b431_z, hm_z⟩
          · replace b431_z : (rg_v h417_z 164 8) = (2 : Int32) ∧ (rg_v h417_z 164 8).toInt = (2 : Int32).toInt := b431_z
            replace hm_z := rn_aload_n (am_cur_of (i := (33, 1, .aload_n 0, (0, 0, 0), 0)) (by decide +kernel)) g0m hm_z
            replace hm_z := rn_getR (x := 169) (am_cur_of (i := (34, 3, .getfield 27, (12, 24, 1408), 0)) (by decide +kernel)) (by decide +kernel) hm_z
            replace hm_z := rn_iconst (w := 4) (am_cur_of (i := (37, 1, .iconst 4, (0, 0, 0), 0)) (by decide +kernel)) (by decide) hm_z
            replace hm_z := rn_aload_n (am_cur_of (i := (38, 1, .aload_n 0, (0, 0, 0), 0)) (by decide +kernel)) g0m hm_z
            replace hm_z := rn_getI (v := cb) (am_cur_of (i := (39, 3, .getfield 201, (12, 17, 1401), 0)) (by decide +kernel)) (by decide +kernel) (nb1_z.symm.trans ecb) hm_z
            replace hm_z := rn_aload_n (am_cur_of (i := (42, 1, .aload_n 0, (0, 0, 0), 0)) (by decide +kernel)) g0m hm_z
            replace hm_z := rn_getI (v := rg_v h417_z 164 9) (am_cur_of (i := (43, 3, .getfield 168, (12, 9, 1393), 0)) (by decide +kernel)) (by decide +kernel) rfl hm_z
            replace hm_z := rn_callS (M' := am_m165) (ar := [.int (rg_v h417_z 164 9), .int cb, .int 4, .ref 169]) (rest := []) (L := lv_args 0 [.ref 169, .int 4, .int cb, .int (rg_v h417_z 164 9)]) (am_cur_of (i := (46, 3, .invokestatic 241, (165, 1692, 3), 0)) (by decide +kernel)) rfl rfl rfl rfl hm_z
            obtain ⟨r432_z, h433_z, q434_z, hm_z⟩ := hm_z
            obtain ⟨eh, i3_z, rfl, hi3_z⟩ := rp_find (N := 8) (by decide +kernel) (by decide) (by omega) (by decide) q434_z
            replace eh := eh.symm
            subst eh
            obtain rfl : i2_z = i3_z := rp_fm_u hi2_z (k2_z.2 ▸ hi3_z) names
            replace hm_z : rn _ _ _ _ [.int i2_z] _ _ _ := hm_z
            replace hm_z := rn_istore_n (am_cur_of (i := (49, 1, .istore_n 1, (0, 0, 0), 0)) (by decide +kernel)) hm_z
            obtain ⟨_, s435_z, s436_z, g1m, hm_z⟩ := hm_z
            replace g0m := s435_z 0 _ (by decide) rfl g0m
            clear s435_z s436_z
            replace hm_z := rn_iload_n (am_cur_of (i := (50, 1, .iload_n 1, (0, 0, 0), 0)) (by decide +kernel)) g1m hm_z
            replace hm_z := rn_if (am_cur_of (i := (51, 3, .ifCond .ge 9, (33, 0, 0), 0)) (by decide +kernel)) hm_z
            rcases hm_z with ⟨b437_z, hm_z⟩ | ⟨b437_z, hm_z⟩
            · replace b437_z : (0 : Int32).toInt ≤ i2_z.toInt := b437_z
              replace hm_z := rn_aload_n (am_cur_of (i := (60, 1, .aload_n 0, (0, 0, 0), 0)) (by decide +kernel)) g0m hm_z
              replace hm_z := rn_callV (M' := am_m151) (o := 164) (ar := []) (rest := []) (L := lv_args 0 [.ref 164]) (am_cur_of (i := (61, 3, .invokevirtual 191, (151, 1636, 3), 0)) (by decide +kernel)) rfl rfl rfl rfl hm_z
              obtain ⟨r438_z, h439_z, q440_z, hm_z⟩ := hm_z
              have vo := rn_void rfl q440_z
              subst vo
              have R' : rq T S x1_z p1_z 2 h407_z h417_z := ⟨⟨c1_z, c2_z, c3_z, c4_z, c5_z, c6_z, fun k hk_z => c7_z k hk_z, fun k hk_z => c8_z k hk_z⟩, ⟨m2_z, m3_z, m4_z, m5_z, m6_z, fun k hk_z => m7_z k hk_z, fun k hk_z => m8_z k hk_z⟩, R3, R4, R5, R6, R7, R8, R9, R10⟩
              have A' : rp 2 h407_z h417_z := ⟨⟨a1_z, a2_z, a3_z, a4_z, a5_z, a6_z⟩, ⟨nb1_z, nb2_z, nb3_z⟩, ⟨nt1_z, nt2_z, nt3_z⟩, ⟨nl1_z, nl2_z, nl3_z⟩, ⟨nr1_z, nr2_z, nr3_z⟩, ⟨nk1_z, nk2_z, nk3_z⟩, ⟨fun hb_z k hk_z => AC0 hb_z k hk_z, fun hb_z k hk_z => AC1 hb_z k hk_z, fun hb_z k hk_z => AC2 hb_z k hk_z, fun hb_z k hk_z => AC3 hb_z k hk_z⟩, fun t ht => AD t ht, fun t ht => AE t ht, fun t ht => AG t ht⟩
              have B' : rp_t h407_z h417_z := by
                obtain ⟨b0_z, b1_z, b2_z, b3_z, b4_z, b5_z, b6_z, t, o0_z, o1_z, o2_z, o3_z, o4_z, o5_z, o6_z⟩ := B
                exact ⟨b0_z, b1_z, b2_z, b3_z, b4_z, b5_z, b6_z, t, o0_z, o1_z, o2_z, o3_z, o4_z, o5_z, o6_z⟩
              obtain ⟨-, -, x2_z, p2_z, R, le2_z, t5_z, t6_z⟩ := pr_tok (rq_0 R') q430_z q440_z
              replace A := rp_x (by decide) A' (rx_C_f t5_z) (rx_M_f t6_z)
              replace B := rp_tk B' (rg_v_fr t5_z (by decide)) (fun k => rg_v_fr t6_z (rg_v_in (by decide) k)) (rx_M_f t6_z)
              clear A' B' R'
              replace le2_z : x.toInt ≤ p2_z.toInt := Int.le_trans (Int.le_trans le1_z R8) le2_z
              replace ecb : rg_v h429_z 2 2 = cb := (rx_v (rx_C_f t5_z) (o := 2) (k := 2) (by decide)).trans ecb
              replace ect : rg_v h429_z 2 4 = ct := (rx_v (rx_C_f t5_z) (o := 2) (k := 4) (by decide)).trans ect
              replace ecl : rg_v h429_z 2 9 = cl := (rx_v (rx_C_f t5_z) (o := 2) (k := 9) (by decide)).trans ecl
              replace ecr : rg_v h429_z 2 12 = cr := (rx_v (rx_C_f t5_z) (o := 2) (k := 12) (by decide)).trans ecr
              replace hm_z : rn _ _ _ _ [] _ _ _ := hm_z
              replace hc_z : rn _ _ _ _ [] _ _ _ := hc_z
              clear a1_z a2_z a3_z a4_z a5_z a6_z nb1_z nb2_z nb3_z nt1_z nt2_z nt3_z nl1_z nl2_z nl3_z nr1_z nr2_z nr3_z nk1_z nk2_z nk3_z AC0 AC1 AC2 AC3 AD AE AG c1_z c2_z c3_z c4_z c5_z c6_z c7_z c8_z m2_z m3_z m4_z m5_z m6_z m7_z m8_z R3 R4 R5 R6 R7 R8 R9 R10
              obtain ⟨⟨⟨a1_z, a2_z, a3_z, a4_z, a5_z, a6_z⟩, ⟨nb1_z, nb2_z, nb3_z⟩, ⟨nt1_z, nt2_z, nt3_z⟩, ⟨nl1_z, nl2_z, nl3_z⟩, ⟨nr1_z, nr2_z, nr3_z⟩, ⟨nk1_z, nk2_z, nk3_z⟩, ⟨AC0, AC1, AC2, AC3⟩, AD, AE, AG⟩, ⟨⟨c1_z, c2_z, c3_z, c4_z, c5_z, c6_z, c7_z, c8_z⟩, ⟨m2_z, m3_z, m4_z, m5_z, m6_z, m7_z, m8_z⟩, R3, R4, R5, R6, R7, R8, R9, R10⟩⟩ := (⟨A, R⟩ : rp 2 h429_z h439_z ∧ rq T S x2_z p2_z 2 h429_z h439_z)
              replace hc_z := rn_aload_n (am_cur_of (i := (51, 1, .aload_n 0, (0, 0, 0), 0)) (by decide +kernel)) g0_z hc_z
              replace hc_z := rn_getM (x := 2) (am_cur_of (i := (52, 3, .getfield 25, (4, 6, 415), 0)) (by decide +kernel)) R3 hc_z
              replace hc_z := rn_getR (x := 4) (am_cur_of (i := (55, 3, .getfield 199, (1, 5, 272), 0)) (by decide +kernel)) (by decide +kernel) hc_z
              replace hc_z := rn_aload_n (am_cur_of (i := (58, 1, .aload_n 0, (0, 0, 0), 0)) (by decide +kernel)) g0_z hc_z
              replace hc_z := rn_getM (x := 2) (am_cur_of (i := (59, 3, .getfield 25, (4, 6, 415), 0)) (by decide +kernel)) R3 hc_z
              replace hc_z := rn_getI (v := ct) (am_cur_of (i := (62, 3, .getfield 196, (1, 4, 269), 0)) (by decide +kernel)) (by decide +kernel) ect hc_z
              replace hc_z := rn_iload_n (am_cur_of (i := (65, 1, .iload_n 1, (0, 0, 0), 0)) (by decide +kernel)) g1_z hc_z
              replace hc_z := rn_iastore (N := 8) (q := ct.toNatClampNeg) (am_cur_of (i := (66, 1, .iastore, (0, 0, 0), 0)) (by decide +kernel)) (by decide +kernel) rfl hc_z
              obtain ⟨p441_z, hc_z⟩ := hc_z
              replace hc_z := rn_aload_n (am_cur_of (i := (67, 1, .aload_n 0, (0, 0, 0), 0)) (by decide +kernel)) g0_z hc_z
              replace hc_z := rn_getM (x := 2) (am_cur_of (i := (68, 3, .getfield 25, (4, 6, 415), 0)) (by decide +kernel)) (show (am_up h429_z 4 ct.toNatClampNeg (.int i2_z)) 44 6 = .ref 2 from R3) hc_z
              replace hc_z := rn_getR (x := 5) (am_cur_of (i := (71, 3, .getfield 202, (1, 6, 275), 0)) (by decide +kernel)) (by decide +kernel) hc_z
              replace hc_z := rn_aload_n (am_cur_of (i := (74, 1, .aload_n 0, (0, 0, 0), 0)) (by decide +kernel)) g0_z hc_z
              replace hc_z := rn_getM (x := 2) (am_cur_of (i := (75, 3, .getfield 25, (4, 6, 415), 0)) (by decide +kernel)) (show (am_up h429_z 4 ct.toNatClampNeg (.int i2_z)) 44 6 = .ref 2 from R3) hc_z
              replace hc_z := rn_getI (v := ct) (am_cur_of (i := (78, 3, .getfield 196, (1, 4, 269), 0)) (by decide +kernel)) (by decide +kernel) (show rg_v (am_up h429_z 4 ct.toNatClampNeg (.int i2_z)) 2 4 = ct from ect) hc_z
              replace hc_z := rn_aload_n (am_cur_of (i := (81, 1, .aload_n 0, (0, 0, 0), 0)) (by decide +kernel)) g0_z hc_z
              replace hc_z := rn_iconst (w := 1) (am_cur_of (i := (82, 1, .iconst 1, (0, 0, 0), 0)) (by decide +kernel)) (by decide) hc_z
              replace hc_z := rn_bipush (w := 20) (am_cur_of (i := (83, 2, .bipush 20, (0, 0, 0), 0)) (by decide +kernel)) (by decide) hc_z
              replace hc_z := rn_callV (M' := am_m30) (o := 44) (ar := [.int 20, .int 1]) (rest := [.int ct, .ref 5]) (L := lv_args 0 [.ref 44, .int 1, .int 20]) (am_cur_of (i := (85, 3, .invokevirtual 142, (30, 773, 3), 0)) (by decide +kernel)) rfl rfl rfl rfl hc_z
              obtain ⟨r442_z, h443_z, q444_z, hc_z⟩ := hc_z
              have k1_z : rg_v (am_up h429_z 4 ct.toNatClampNeg (.int i2_z)) 4 ct.toNatClampNeg = i2_z := rg_v_self
              replace hm_z := rn_aload_n (am_cur_of (i := (64, 1, .aload_n 0, (0, 0, 0), 0)) (by decide +kernel)) g0m hm_z
              replace hm_z := rn_iconst (w := 1) (am_cur_of (i := (65, 1, .iconst 1, (0, 0, 0), 0)) (by decide +kernel)) (by decide) hm_z
              replace hm_z := rn_bipush (w := 20) (am_cur_of (i := (66, 2, .bipush 20, (0, 0, 0), 0)) (by decide +kernel)) (by decide) hm_z
              replace hm_z := rn_callV (M' := am_m161) (o := 164) (ar := [.int 20, .int 1]) (rest := []) (L := lv_args 0 [.ref 164, .int 1, .int 20]) (am_cur_of (i := (68, 3, .invokevirtual 197, (161, 1677, 3), 0)) (by decide +kernel)) rfl rfl rfl rfl hm_z
              obtain ⟨r445_z, h446_z, q447_z, hm_z⟩ := hm_z
              have R' : rq T S x2_z p2_z 2 (am_up h429_z 4 ct.toNatClampNeg (.int i2_z)) h439_z := ⟨⟨c1_z, c2_z, c3_z, c4_z, c5_z, c6_z, fun k hk_z => c7_z k hk_z, fun k hk_z => c8_z k hk_z⟩, ⟨m2_z, m3_z, m4_z, m5_z, m6_z, fun k hk_z => m7_z k hk_z, fun k hk_z => m8_z k hk_z⟩, R3, R4, R5, R6, R7, R8, R9, R10⟩
              have AD' : ∀ t : Nat, (t : Int) < (rg_v (am_up h429_z 4 ct.toNatClampNeg (.int i2_z)) 2 4).toInt → rg_v (am_up h429_z 4 ct.toNatClampNeg (.int i2_z)) (2 + 2) t = rg_v h439_z 171 (8 + t) ∧ rg_v (am_up h429_z 4 ct.toNatClampNeg (.int i2_z)) (2 + 3) t = rg_v h439_z 172 (8 + t) := by
                intro t ht
                have ht' : (t : Int) < ct.toInt := by rw [← ect]; exact ht
                have o := AD t (by rw [ect]; omega)
                exact ⟨(show rg_v (am_up h429_z 4 ct.toNatClampNeg (.int i2_z)) 4 t = rg_v h429_z 4 t from rg_v_other (h := h429_z) (o := 4) (k := ct.toNatClampNeg) (v := .int i2_z) (by omega)).trans (o.1.trans (show rg_v h439_z 171 (8 + t) = rg_v h439_z 171 (8 + t) from rfl).symm), (show rg_v (am_up h429_z 4 ct.toNatClampNeg (.int i2_z)) 5 t = rg_v h429_z 5 t from rfl).trans (o.2.trans (show rg_v h439_z 172 (8 + t) = rg_v h439_z 172 (8 + t) from rfl).symm)⟩
              have A' : rp 2 (am_up h429_z 4 ct.toNatClampNeg (.int i2_z)) h439_z := ⟨⟨a1_z, a2_z, a3_z, a4_z, a5_z, a6_z⟩, ⟨nb1_z, nb2_z, nb3_z⟩, ⟨nt1_z, nt2_z, nt3_z⟩, ⟨nl1_z, nl2_z, nl3_z⟩, ⟨nr1_z, nr2_z, nr3_z⟩, ⟨nk1_z, nk2_z, nk3_z⟩, ⟨fun hb_z k hk_z => AC0 hb_z k hk_z, fun hb_z k hk_z => AC1 hb_z k hk_z, fun hb_z k hk_z => AC2 hb_z k hk_z, fun hb_z k hk_z => AC3 hb_z k hk_z⟩, AD', fun t ht => AE t ht, fun t ht => AG t ht⟩
              have B' : rp_t (am_up h429_z 4 ct.toNatClampNeg (.int i2_z)) h439_z := by
                obtain ⟨b0_z, b1_z, b2_z, b3_z, b4_z, b5_z, b6_z, t, o0_z, o1_z, o2_z, o3_z, o4_z, o5_z, o6_z⟩ := B
                exact ⟨b0_z, b1_z, b2_z, b3_z, b4_z, b5_z, b6_z, t, o0_z, o1_z, o2_z, o3_z, o4_z, o5_z, o6_z⟩
              rcases pr_num R' (by decide) (by decide) q444_z q447_z with ⟨v3_z, x3_z, p3_z, rfl, rfl, lo3_z, hi3_z, R, le3_z, got, X, Y, t7_z, t167_z⟩ | ⟨rfl, F⟩
              · replace A := rp_x (by decide) A' X Y
                replace B := rp_tk B' t7_z t167_z Y
                clear A' B' R'
                replace le3_z : x.toInt ≤ p3_z.toInt := Int.le_trans (Int.le_trans le2_z R8) le3_z
                replace ecb : rg_v h443_z 2 2 = cb := (rx_v X (o := 2) (k := 2) (by decide)).trans ecb
                replace ect : rg_v h443_z 2 4 = ct := (rx_v X (o := 2) (k := 4) (by decide)).trans ect
                replace ecl : rg_v h443_z 2 9 = cl := (rx_v X (o := 2) (k := 9) (by decide)).trans ecl
                replace ecr : rg_v h443_z 2 12 = cr := (rx_v X (o := 2) (k := 12) (by decide)).trans ecr
                replace k1_z := (rx_v X (o := 4) (k := ct.toNatClampNeg) (by decide)).trans k1_z
                replace hm_z : rn _ _ _ _ [.int 1] _ _ _ := hm_z
                replace hc_z : rn _ _ _ _ [.int v3_z, .int ct, .ref 5] _ _ _ := hc_z
                clear a1_z a2_z a3_z a4_z a5_z a6_z nb1_z nb2_z nb3_z nt1_z nt2_z nt3_z nl1_z nl2_z nl3_z nr1_z nr2_z nr3_z nk1_z nk2_z nk3_z AC0 AC1 AC2 AC3 AD AE AG c1_z c2_z c3_z c4_z c5_z c6_z c7_z c8_z m2_z m3_z m4_z m5_z m6_z m7_z m8_z R3 R4 R5 R6 R7 R8 R9 R10
                obtain ⟨⟨⟨a1_z, a2_z, a3_z, a4_z, a5_z, a6_z⟩, ⟨nb1_z, nb2_z, nb3_z⟩, ⟨nt1_z, nt2_z, nt3_z⟩, ⟨nl1_z, nl2_z, nl3_z⟩, ⟨nr1_z, nr2_z, nr3_z⟩, ⟨nk1_z, nk2_z, nk3_z⟩, ⟨AC0, AC1, AC2, AC3⟩, AD, AE, AG⟩, ⟨⟨c1_z, c2_z, c3_z, c4_z, c5_z, c6_z, c7_z, c8_z⟩, ⟨m2_z, m3_z, m4_z, m5_z, m6_z, m7_z, m8_z⟩, R3, R4, R5, R6, R7, R8, R9, R10⟩⟩ := (⟨A, R⟩ : rp 2 h443_z h446_z ∧ rq T S x3_z p3_z 2 h443_z h446_z)
                replace hc_z := rn_iastore (N := 8) (q := ct.toNatClampNeg) (am_cur_of (i := (88, 1, .iastore, (0, 0, 0), 0)) (by decide +kernel)) (by decide +kernel) rfl hc_z
                obtain ⟨p448_z, hc_z⟩ := hc_z
                replace hc_z := rn_aload_n (am_cur_of (i := (89, 1, .aload_n 0, (0, 0, 0), 0)) (by decide +kernel)) g0_z hc_z
                replace hc_z := rn_getM (x := 2) (am_cur_of (i := (90, 3, .getfield 25, (4, 6, 415), 0)) (by decide +kernel)) (show (am_up h443_z 5 ct.toNatClampNeg (.int v3_z)) 44 6 = .ref 2 from R3) hc_z
                replace hc_z := rn_dup (am_cur_of (i := (93, 1, .dup, (0, 0, 0), 0)) (by decide +kernel)) hc_z
                replace hc_z := rn_getI (v := ct) (am_cur_of (i := (94, 3, .getfield 196, (1, 4, 269), 0)) (by decide +kernel)) (by decide +kernel) (show rg_v (am_up h443_z 5 ct.toNatClampNeg (.int v3_z)) 2 4 = ct from ect) hc_z
                replace hc_z := rn_iconst (w := 1) (am_cur_of (i := (97, 1, .iconst 1, (0, 0, 0), 0)) (by decide +kernel)) (by decide) hc_z
                replace hc_z := rn_iadd (w := ct + 1) (am_cur_of (i := (98, 1, .iadd, (0, 0, 0), 0)) (by decide +kernel)) rfl hc_z
                replace hc_z := rn_put (am_cur_of (i := (99, 3, .putfield 196, (1, 4, 269), 0)) (by decide +kernel)) (by decide +kernel) hc_z
                replace hc_z := rn_vret (am_cur_of (i := (102, 1, .return_, (0, 0, 0), 0)) (by decide +kernel)) hc_z
                obtain ⟨e449_z, e450_z⟩ := hc_z
                subst e449_z e450_z
                replace hm_z := rn_ifT (am_cur_of (i := (71, 3, .ifCond .ne 5, (42, 0, 0), 0)) (by decide +kernel)) (by decide) hm_z
                replace hm_z := rn_aload_n (am_cur_of (i := (76, 1, .aload_n 0, (0, 0, 0), 0)) (by decide +kernel)) g0m hm_z
                replace hm_z := rn_getR (x := 171) (am_cur_of (i := (77, 3, .getfield 33, (12, 26, 1410), 0)) (by decide +kernel)) (by decide +kernel) hm_z
                replace hm_z := rn_bipush (w := 8) (am_cur_of (i := (80, 2, .bipush 8, (0, 0, 0), 0)) (by decide +kernel)) (by decide) hm_z
                replace hm_z := rn_aload_n (am_cur_of (i := (82, 1, .aload_n 0, (0, 0, 0), 0)) (by decide +kernel)) g0m hm_z
                replace hm_z := rn_getI (v := ct) (am_cur_of (i := (83, 3, .getfield 204, (12, 18, 1402), 0)) (by decide +kernel)) (by decide +kernel) (nt1_z.symm.trans ect) hm_z
                replace hm_z := rn_iadd (w := (8 : Int32) + ct) (am_cur_of (i := (86, 1, .iadd, (0, 0, 0), 0)) (by decide +kernel)) rfl hm_z
                replace hm_z := rn_iload_n (am_cur_of (i := (87, 1, .iload_n 1, (0, 0, 0), 0)) (by decide +kernel)) g1m hm_z
                replace hm_z := rn_iastore (N := 16) (q := ((8 : Int32) + ct).toNatClampNeg) (am_cur_of (i := (88, 1, .iastore, (0, 0, 0), 0)) (by decide +kernel)) (by decide +kernel) rfl hm_z
                obtain ⟨p451_z, hm_z⟩ := hm_z
                replace hm_z := rn_aload_n (am_cur_of (i := (89, 1, .aload_n 0, (0, 0, 0), 0)) (by decide +kernel)) g0m hm_z
                replace hm_z := rn_getR (x := 172) (am_cur_of (i := (90, 3, .getfield 36, (12, 27, 1411), 0)) (by decide +kernel)) (by decide +kernel) hm_z
                replace hm_z := rn_bipush (w := 8) (am_cur_of (i := (93, 2, .bipush 8, (0, 0, 0), 0)) (by decide +kernel)) (by decide) hm_z
                replace hm_z := rn_aload_n (am_cur_of (i := (95, 1, .aload_n 0, (0, 0, 0), 0)) (by decide +kernel)) g0m hm_z
                replace hm_z := rn_getI (v := ct) (am_cur_of (i := (96, 3, .getfield 204, (12, 18, 1402), 0)) (by decide +kernel)) (by decide +kernel) (show rg_v (am_up h446_z 171 (((8 : Int32) + ct).toNatClampNeg) (.int i2_z)) 164 18 = ct from (nt1_z.symm.trans ect)) hm_z
                replace hm_z := rn_iadd (w := (8 : Int32) + ct) (am_cur_of (i := (99, 1, .iadd, (0, 0, 0), 0)) (by decide +kernel)) rfl hm_z
                replace hm_z := rn_aload_n (am_cur_of (i := (100, 1, .aload_n 0, (0, 0, 0), 0)) (by decide +kernel)) g0m hm_z
                replace hm_z := rn_getI (v := v3_z) (am_cur_of (i := (101, 3, .getfield 188, (12, 11, 1395), 0)) (by decide +kernel)) (by decide +kernel) (show rg_v (am_up h446_z 171 (((8 : Int32) + ct).toNatClampNeg) (.int i2_z)) 164 11 = v3_z from got) hm_z
                replace hm_z := rn_iastore (N := 16) (q := ((8 : Int32) + ct).toNatClampNeg) (am_cur_of (i := (104, 1, .iastore, (0, 0, 0), 0)) (by decide +kernel)) (by decide +kernel) rfl hm_z
                obtain ⟨p452_z, hm_z⟩ := hm_z
                replace hm_z := rn_aload_n (am_cur_of (i := (105, 1, .aload_n 0, (0, 0, 0), 0)) (by decide +kernel)) g0m hm_z
                replace hm_z := rn_dup (am_cur_of (i := (106, 1, .dup, (0, 0, 0), 0)) (by decide +kernel)) hm_z
                replace hm_z := rn_getI (v := ct) (am_cur_of (i := (107, 3, .getfield 204, (12, 18, 1402), 0)) (by decide +kernel)) (by decide +kernel) (show rg_v (am_up (am_up h446_z 171 (((8 : Int32) + ct).toNatClampNeg) (.int i2_z)) 172 (((8 : Int32) + ct).toNatClampNeg) (.int v3_z)) 164 18 = ct from (nt1_z.symm.trans ect)) hm_z
                replace hm_z := rn_iconst (w := 1) (am_cur_of (i := (110, 1, .iconst 1, (0, 0, 0), 0)) (by decide +kernel)) (by decide) hm_z
                replace hm_z := rn_iadd (w := ct + 1) (am_cur_of (i := (111, 1, .iadd, (0, 0, 0), 0)) (by decide +kernel)) rfl hm_z
                replace hm_z := rn_put (am_cur_of (i := (112, 3, .putfield 204, (12, 18, 1402), 0)) (by decide +kernel)) (by decide +kernel) hm_z
                replace hm_z := rn_iconst (w := 1) (am_cur_of (i := (115, 1, .iconst 1, (0, 0, 0), 0)) (by decide +kernel)) (by decide) hm_z
                replace hm_z := rn_iret (am_cur_of (i := (116, 1, .ireturn, (0, 0, 0), 0)) (by decide +kernel)) hm_z
                obtain ⟨e453_z, e454_z⟩ := hm_z
                subst e453_z e454_z
                have R' : rq T S x3_z p3_z 2 (am_up (am_up h443_z 5 ct.toNatClampNeg (.int v3_z)) 2 4 (.int (ct + 1))) (am_up (am_up (am_up h446_z 171 (((8 : Int32) + ct).toNatClampNeg) (.int i2_z)) 172 (((8 : Int32) + ct).toNatClampNeg) (.int v3_z)) 164 18 (.int (ct + 1))) := ⟨⟨c1_z, c2_z, c3_z, c4_z, c5_z, c6_z, fun k hk_z => c7_z k hk_z, fun k hk_z => c8_z k hk_z⟩, ⟨m2_z, m3_z, m4_z, m5_z, m6_z, fun k hk_z => m7_z k hk_z, fun k hk_z => m8_z k hk_z⟩, R3, R4, R5, R6, R7, R8, R9, R10⟩
                have e1_z := rt_c1 ct0_z (by omega)
                have AD' : ∀ t : Nat, (t : Int) < (rg_v (am_up (am_up h443_z 5 ct.toNatClampNeg (.int v3_z)) 2 4 (.int (ct + 1))) 2 4).toInt → rg_v (am_up (am_up h443_z 5 ct.toNatClampNeg (.int v3_z)) 2 4 (.int (ct + 1))) (2 + 2) t = rg_v (am_up (am_up (am_up h446_z 171 (((8 : Int32) + ct).toNatClampNeg) (.int i2_z)) 172 (((8 : Int32) + ct).toNatClampNeg) (.int v3_z)) 164 18 (.int (ct + 1))) 171 (8 + t) ∧ rg_v (am_up (am_up h443_z 5 ct.toNatClampNeg (.int v3_z)) 2 4 (.int (ct + 1))) (2 + 3) t = rg_v (am_up (am_up (am_up h446_z 171 (((8 : Int32) + ct).toNatClampNeg) (.int i2_z)) 172 (((8 : Int32) + ct).toNatClampNeg) (.int v3_z)) 164 18 (.int (ct + 1))) 172 (8 + t) := by
                  intro t ht
                  have ht' : (t : Int) < (ct + 1).toInt := ht
                  by_cases q : t = ct.toNatClampNeg
                  · subst q
                    exact ⟨(show rg_v (am_up (am_up h443_z 5 ct.toNatClampNeg (.int v3_z)) 2 4 (.int (ct + 1))) 4 ct.toNatClampNeg = i2_z from k1_z).trans (show rg_v (am_up (am_up (am_up h446_z 171 (((8 : Int32) + ct).toNatClampNeg) (.int i2_z)) 172 (((8 : Int32) + ct).toNatClampNeg) (.int v3_z)) 164 18 (.int (ct + 1))) 171 (8 + ct.toNatClampNeg) = i2_z from by rw [← n8ct]; exact rg_v_self (h := h446_z) (o := 171) (k := ((8 : Int32) + ct).toNatClampNeg)).symm, (show rg_v (am_up (am_up h443_z 5 ct.toNatClampNeg (.int v3_z)) 2 4 (.int (ct + 1))) 5 ct.toNatClampNeg = v3_z from rg_v_self (h := h443_z) (o := 5) (k := ct.toNatClampNeg)).trans (show rg_v (am_up (am_up (am_up h446_z 171 (((8 : Int32) + ct).toNatClampNeg) (.int i2_z)) 172 (((8 : Int32) + ct).toNatClampNeg) (.int v3_z)) 164 18 (.int (ct + 1))) 172 (8 + ct.toNatClampNeg) = v3_z from by rw [← n8ct]; exact rg_v_self (h := h446_z) (o := 172) (k := ((8 : Int32) + ct).toNatClampNeg)).symm⟩
                  · have o := AD t (by rw [ect]; omega)
                    exact ⟨(show rg_v (am_up (am_up h443_z 5 ct.toNatClampNeg (.int v3_z)) 2 4 (.int (ct + 1))) 4 t = rg_v h443_z 4 t from rfl).trans (o.1.trans (show rg_v (am_up (am_up (am_up h446_z 171 (((8 : Int32) + ct).toNatClampNeg) (.int i2_z)) 172 (((8 : Int32) + ct).toNatClampNeg) (.int v3_z)) 164 18 (.int (ct + 1))) 171 (8 + t) = rg_v h446_z 171 (8 + t) from rg_v_other (h := h446_z) (o := 171) (k := ((8 : Int32) + ct).toNatClampNeg) (v := .int i2_z) (by omega)).symm), (show rg_v (am_up (am_up h443_z 5 ct.toNatClampNeg (.int v3_z)) 2 4 (.int (ct + 1))) 5 t = rg_v h443_z 5 t from rg_v_other (h := h443_z) (o := 5) (k := ct.toNatClampNeg) (v := .int v3_z) (by omega)).trans (o.2.trans (show rg_v (am_up (am_up (am_up h446_z 171 (((8 : Int32) + ct).toNatClampNeg) (.int i2_z)) 172 (((8 : Int32) + ct).toNatClampNeg) (.int v3_z)) 164 18 (.int (ct + 1))) 172 (8 + t) = rg_v h446_z 172 (8 + t) from rg_v_other (h := h446_z) (o := 172) (k := ((8 : Int32) + ct).toNatClampNeg) (v := .int v3_z) (by omega)).symm)⟩
                have A' : rp 2 (am_up (am_up h443_z 5 ct.toNatClampNeg (.int v3_z)) 2 4 (.int (ct + 1))) (am_up (am_up (am_up h446_z 171 (((8 : Int32) + ct).toNatClampNeg) (.int i2_z)) 172 (((8 : Int32) + ct).toNatClampNeg) (.int v3_z)) 164 18 (.int (ct + 1))) := ⟨⟨a1_z, a2_z, a3_z, a4_z, a5_z, a6_z⟩, ⟨nb1_z, nb2_z, nb3_z⟩, ⟨rfl, (show 0 ≤ (ct + 1).toInt by omega), (show (ct + 1).toInt ≤ 8 by omega)⟩, ⟨nl1_z, nl2_z, nl3_z⟩, ⟨nr1_z, nr2_z, nr3_z⟩, ⟨nk1_z, nk2_z, nk3_z⟩, ⟨fun hb_z k hk_z => AC0 hb_z k hk_z, fun hb_z k hk_z => AC1 hb_z k hk_z, fun hb_z k hk_z => AC2 hb_z k hk_z, fun hb_z k hk_z => AC3 hb_z k hk_z⟩, AD', fun t ht => AE t ht, fun t ht => AG t ht⟩
                have B' : rp_t (am_up (am_up h443_z 5 ct.toNatClampNeg (.int v3_z)) 2 4 (.int (ct + 1))) (am_up (am_up (am_up h446_z 171 (((8 : Int32) + ct).toNatClampNeg) (.int i2_z)) 172 (((8 : Int32) + ct).toNatClampNeg) (.int v3_z)) 164 18 (.int (ct + 1))) := by
                  obtain ⟨b0_z, b1_z, b2_z, b3_z, b4_z, b5_z, b6_z, t, o0_z, o1_z, o2_z, o3_z, o4_z, o5_z, o6_z⟩ := B
                  exact ⟨b0_z, b1_z, b2_z, b3_z, b4_z, b5_z, b6_z, t, o0_z, o1_z, o2_z, o3_z, o4_z, o5_z, o6_z⟩
                exact Or.inl ⟨rfl, _, _, R', le3_z, A', B'⟩
              · obtain ⟨wv, w0_z, f1_z, f2_z, f3_z, f4_z⟩ := F
                have K := rs_stick (a := 35) (by decide) (by decide) rfl w0_z f1_z f2_z hc_z
                replace hm_z : rn _ _ _ _ [.int 0] _ _ _ := hm_z
                replace hm_z := rn_ifF (am_cur_of (i := (71, 3, .ifCond .ne 5, (42, 0, 0), 0)) (by decide +kernel)) (by decide) hm_z
                replace hm_z := rn_iconst (w := 0) (am_cur_of (i := (74, 1, .iconst 0, (0, 0, 0), 0)) (by decide +kernel)) (by decide) hm_z
                replace hm_z := rn_iret (am_cur_of (i := (75, 1, .ireturn, (0, 0, 0), 0)) (by decide +kernel)) hm_z
                obtain ⟨e455_z, e456_z⟩ := hm_z
                subst e455_z e456_z
                exact Or.inr ⟨rfl, _, wv, w0_z, K.1, K.2, f3_z, f4_z⟩
            · replace b437_z : i2_z.toInt < (0 : Int32).toInt := b437_z
              omega
          · replace b431_z : ¬ (rg_v h417_z 164 8) = (2 : Int32) ∧ ¬ (rg_v h417_z 164 8).toInt = (2 : Int32).toInt := b431_z
            exact absurd k2_z.1 b431_z.1
        · replace b427_z : i2_z = ((-1) : Int32) ∧ i2_z.toInt = ((-1) : Int32).toInt := b427_z
          replace hc_z := rn_aload_n (am_cur_of (i := (41, 1, .aload_n 0, (0, 0, 0), 0)) (by decide +kernel)) g0_z hc_z
          replace hc_z := rn_iconst (w := 4) (am_cur_of (i := (42, 1, .iconst 4, (0, 0, 0), 0)) (by decide +kernel)) (by decide) hc_z
          replace hc_z := rn_callV (M' := am_m29) (o := 44) (ar := [.int 4]) (rest := []) (L := lv_args 0 [.ref 44, .int 4]) (am_cur_of (i := (43, 3, .invokevirtual 108, (29, 769, 3), 0)) (by decide +kernel)) rfl rfl rfl rfl hc_z
          obtain ⟨r457_z, h458_z, q459_z, hc_z⟩ := hc_z
          obtain ⟨rfl, yq459_z⟩ := rp_fail R4 q459_z
          subst yq459_z
          replace hc_z : rn _ _ _ _ [] _ _ _ := hc_z
          have K := rs_stick (w := 4) (a := 35) (by decide) (by decide) rfl (by decide) rfl rfl hc_z
          replace hm_z := rn_aload_n (am_cur_of (i := (19, 1, .aload_n 0, (0, 0, 0), 0)) (by decide +kernel)) g0m hm_z
          replace hm_z := rn_getI (v := rg_v h417_z 164 8) (am_cur_of (i := (20, 3, .getfield 157, (12, 8, 1392), 0)) (by decide +kernel)) (by decide +kernel) rfl hm_z
          replace hm_z := rn_iconst (w := 2) (am_cur_of (i := (23, 1, .iconst 2, (0, 0, 0), 0)) (by decide +kernel)) (by decide) hm_z
          replace hm_z := rn_cmp (am_cur_of (i := (24, 3, .if_icmp .eq 9, (18, 0, 0), 0)) (by decide +kernel)) hm_z
          rcases hm_z with ⟨b460_z, hm_z⟩ | ⟨b460_z, hm_z⟩
          · replace b460_z : (rg_v h417_z 164 8) = (2 : Int32) ∧ (rg_v h417_z 164 8).toInt = (2 : Int32).toInt := b460_z
            replace hm_z := rn_aload_n (am_cur_of (i := (33, 1, .aload_n 0, (0, 0, 0), 0)) (by decide +kernel)) g0m hm_z
            replace hm_z := rn_getR (x := 169) (am_cur_of (i := (34, 3, .getfield 27, (12, 24, 1408), 0)) (by decide +kernel)) (by decide +kernel) hm_z
            replace hm_z := rn_iconst (w := 4) (am_cur_of (i := (37, 1, .iconst 4, (0, 0, 0), 0)) (by decide +kernel)) (by decide) hm_z
            replace hm_z := rn_aload_n (am_cur_of (i := (38, 1, .aload_n 0, (0, 0, 0), 0)) (by decide +kernel)) g0m hm_z
            replace hm_z := rn_getI (v := cb) (am_cur_of (i := (39, 3, .getfield 201, (12, 17, 1401), 0)) (by decide +kernel)) (by decide +kernel) (nb1_z.symm.trans ecb) hm_z
            replace hm_z := rn_aload_n (am_cur_of (i := (42, 1, .aload_n 0, (0, 0, 0), 0)) (by decide +kernel)) g0m hm_z
            replace hm_z := rn_getI (v := rg_v h417_z 164 9) (am_cur_of (i := (43, 3, .getfield 168, (12, 9, 1393), 0)) (by decide +kernel)) (by decide +kernel) rfl hm_z
            replace hm_z := rn_callS (M' := am_m165) (ar := [.int (rg_v h417_z 164 9), .int cb, .int 4, .ref 169]) (rest := []) (L := lv_args 0 [.ref 169, .int 4, .int cb, .int (rg_v h417_z 164 9)]) (am_cur_of (i := (46, 3, .invokestatic 241, (165, 1692, 3), 0)) (by decide +kernel)) rfl rfl rfl rfl hm_z
            obtain ⟨r461_z, h462_z, q463_z, hm_z⟩ := hm_z
            obtain ⟨eh, i3_z, rfl, hi3_z⟩ := rp_find (N := 8) (by decide +kernel) (by decide) (by omega) (by decide) q463_z
            replace eh := eh.symm
            subst eh
            obtain rfl : i2_z = i3_z := rp_fm_u hi2_z (k2_z.2 ▸ hi3_z) names
            replace hm_z : rn _ _ _ _ [.int i2_z] _ _ _ := hm_z
            replace hm_z := rn_istore_n (am_cur_of (i := (49, 1, .istore_n 1, (0, 0, 0), 0)) (by decide +kernel)) hm_z
            obtain ⟨_, s464_z, s465_z, g1m, hm_z⟩ := hm_z
            replace g0m := s464_z 0 _ (by decide) rfl g0m
            clear s464_z s465_z
            replace hm_z := rn_iload_n (am_cur_of (i := (50, 1, .iload_n 1, (0, 0, 0), 0)) (by decide +kernel)) g1m hm_z
            replace hm_z := rn_if (am_cur_of (i := (51, 3, .ifCond .ge 9, (33, 0, 0), 0)) (by decide +kernel)) hm_z
            rcases hm_z with ⟨b466_z, hm_z⟩ | ⟨b466_z, hm_z⟩
            · replace b466_z : (0 : Int32).toInt ≤ i2_z.toInt := b466_z
              omega
            · replace b466_z : i2_z.toInt < (0 : Int32).toInt := b466_z
              replace hm_z := rn_aload_n (am_cur_of (i := (54, 1, .aload_n 0, (0, 0, 0), 0)) (by decide +kernel)) g0m hm_z
              replace hm_z := rn_iconst (w := 4) (am_cur_of (i := (55, 1, .iconst 4, (0, 0, 0), 0)) (by decide +kernel)) (by decide) hm_z
              replace hm_z := rn_callV (M' := am_m158) (o := 164) (ar := [.int 4]) (rest := []) (L := lv_args 0 [.ref 164, .int 4]) (am_cur_of (i := (56, 3, .invokevirtual 181, (158, 1665, 3), 0)) (by decide +kernel)) rfl rfl rfl rfl hm_z
              obtain ⟨r467_z, h468_z, q469_z, hm_z⟩ := hm_z
              obtain ⟨rfl, yq469_z⟩ := rp_wrong q469_z
              subst yq469_z
              replace hm_z : rn _ _ _ _ [.int 0] _ _ _ := hm_z
              replace hm_z := rn_iret (am_cur_of (i := (59, 1, .ireturn, (0, 0, 0), 0)) (by decide +kernel)) hm_z
              obtain ⟨e470_z, e471_z⟩ := hm_z
              subst e470_z e471_z
              exact Or.inr ⟨rfl, _, 4, by decide, K.1, K.2.trans R5, rfl, R6⟩
          · replace b460_z : ¬ (rg_v h417_z 164 8) = (2 : Int32) ∧ ¬ (rg_v h417_z 164 8).toInt = (2 : Int32).toInt := b460_z
            exact absurd k2_z.1 b460_z.1
      · have K := rs_stick (a := 35) (by decide) (by decide) rfl (by decide) f1_z f2_z hc_z
        have k2_z := tk_n3 R10 k3_z
        replace hm_z := rn_aload_n (am_cur_of (i := (19, 1, .aload_n 0, (0, 0, 0), 0)) (by decide +kernel)) g0m hm_z
        replace hm_z := rn_getI (v := rg_v h417_z 164 8) (am_cur_of (i := (20, 3, .getfield 157, (12, 8, 1392), 0)) (by decide +kernel)) (by decide +kernel) rfl hm_z
        replace hm_z := rn_iconst (w := 2) (am_cur_of (i := (23, 1, .iconst 2, (0, 0, 0), 0)) (by decide +kernel)) (by decide) hm_z
        replace hm_z := rn_cmp (am_cur_of (i := (24, 3, .if_icmp .eq 9, (18, 0, 0), 0)) (by decide +kernel)) hm_z
        rcases hm_z with ⟨b472_z, hm_z⟩ | ⟨b472_z, hm_z⟩
        · replace b472_z : (rg_v h417_z 164 8) = (2 : Int32) ∧ (rg_v h417_z 164 8).toInt = (2 : Int32).toInt := b472_z
          exact absurd b472_z.1 k2_z
        · replace b472_z : ¬ (rg_v h417_z 164 8) = (2 : Int32) ∧ ¬ (rg_v h417_z 164 8).toInt = (2 : Int32).toInt := b472_z
          replace hm_z := rn_aload_n (am_cur_of (i := (27, 1, .aload_n 0, (0, 0, 0), 0)) (by decide +kernel)) g0m hm_z
          replace hm_z := rn_iconst (w := 1) (am_cur_of (i := (28, 1, .iconst 1, (0, 0, 0), 0)) (by decide +kernel)) (by decide) hm_z
          replace hm_z := rn_callV (M' := am_m158) (o := 164) (ar := [.int 1]) (rest := []) (L := lv_args 0 [.ref 164, .int 1]) (am_cur_of (i := (29, 3, .invokevirtual 181, (158, 1665, 3), 0)) (by decide +kernel)) rfl rfl rfl rfl hm_z
          obtain ⟨r473_z, h474_z, q475_z, hm_z⟩ := hm_z
          obtain ⟨rfl, yq475_z⟩ := rp_wrong q475_z
          subst yq475_z
          replace hm_z : rn _ _ _ _ [.int 0] _ _ _ := hm_z
          replace hm_z := rn_iret (am_cur_of (i := (32, 1, .ireturn, (0, 0, 0), 0)) (by decide +kernel)) hm_z
          obtain ⟨e476_z, e477_z⟩ := hm_z
          subst e476_z e477_z
          exact Or.inr ⟨rfl, _, 1, by decide, K.1, K.2.trans R5, rfl, R6⟩
    · replace b415_z : ct = (8 : Int32) ∧ ct.toInt = (8 : Int32).toInt := b415_z
      omega
