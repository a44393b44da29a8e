/-! ===== BLOWERS OF BOTH READERS, 23 (wip/r/gen99qn.py) ===== -/
theorem pl_blower23 {T : Nat → Int32} {S x p : Int32} {n n' : Nat} {h h' g g' : am_H} {r r' : Option Value} (R : rq T S x p 23 h g) (A : rp 23 h g) (B : rp_t h g) (hc_z : rn n am_m31 0 (lv_args 0 [.ref 44]) [] h r h') (hm_z : rn n' am_m163 0 (lv_args 0 [.ref 164]) [] g r' g') : pl_Q T S x 23 h' g' r' := by
  have zm1_z : ((-1) : Int32).toInt = (-1) := by decide
  have z0_z : (0 : Int32).toInt = 0 := by decide
  have z1_z : (1 : Int32).toInt = 1 := by decide
  have z2_z : (2 : Int32).toInt = 2 := by decide
  have z3_z : (3 : Int32).toInt = 3 := by decide
  have z4_z : (4 : Int32).toInt = 4 := by decide
  have z9_z : (9 : Int32).toInt = 9 := by decide
  have z20_z : (20 : Int32).toInt = 20 := by decide
  have z99_z : (99 : Int32).toInt = 99 := by decide
  have g0_z : am_get (lv_args 0 [.ref 44]) 0 = some (.ref 44) := rfl
  have g0m : am_get (lv_args 0 [.ref 164]) 0 = some (.ref 164) := rfl
  obtain ⟨⟨⟨a1_z, a2_z, a3_z, a4_z, a5_z, a6_z⟩, ⟨nb1_z, nb2_z, nb3_z⟩, ⟨nt1_z, nt2_z, nt3_z⟩, ⟨nl1_z, nl2_z, nl3_z⟩, ⟨nr1_z, nr2_z, nr3_z⟩, ⟨nk1_z, nk2_z, nk3_z⟩, ⟨AC0, AC1, AC2, AC3⟩, AD, AE, AG⟩, ⟨⟨c1_z, c2_z, c3_z, c4_z, c5_z, c6_z, c7_z, c8_z⟩, ⟨m2_z, m3_z, m4_z, m5_z, m6_z, m7_z, m8_z⟩, R3, R4, R5, R6, R7, R8, R9, R10⟩⟩ := (⟨A, R⟩ : rp 23 h g ∧ rq T S x p 23 h g)
  obtain ⟨cb, ecb⟩ : ∃ v, rg_v h 23 2 = v := ⟨_, rfl⟩
  have cb0_z : 0 ≤ cb.toInt := by rw [← ecb]; exact nb2_z
  have cb9_z : cb.toInt ≤ 4 := by rw [← ecb]; exact nb3_z
  have cbn := rt_cl cb0_z
  obtain ⟨ct, ect⟩ : ∃ v, rg_v h 23 4 = v := ⟨_, rfl⟩
  have ct0_z : 0 ≤ ct.toInt := by rw [← ect]; exact nt2_z
  have ct9_z : ct.toInt ≤ 8 := by rw [← ect]; exact nt3_z
  have ctn := rt_cl ct0_z
  obtain ⟨cl, ecl⟩ : ∃ v, rg_v h 23 9 = v := ⟨_, rfl⟩
  have cl0_z : 0 ≤ cl.toInt := by rw [← ecl]; exact nl2_z
  have cl9_z : cl.toInt ≤ 6 := by rw [← ecl]; exact nl3_z
  have cln := rt_cl cl0_z
  obtain ⟨cr, ecr⟩ : ∃ v, rg_v h 23 12 = v := ⟨_, rfl⟩
  have cr0_z : 0 ≤ cr.toInt := by rw [← ecr]; exact nr2_z
  have cr9_z : cr.toInt ≤ 3 := by rw [← ecr]; exact nr3_z
  have crn := rt_cl cr0_z
  replace hc_z := rn_aload_n (am_cur_of (i := (0, 1, .aload_n 0, (0, 0, 0), 0)) (by decide +kernel)) g0_z hc_z
  replace hc_z := rn_aload_n (am_cur_of (i := (1, 1, .aload_n 0, (0, 0, 0), 0)) (by decide +kernel)) g0_z hc_z
  replace hc_z := rn_getM (x := 23) (am_cur_of (i := (2, 3, .getfield 25, (4, 6, 415), 0)) (by decide +kernel)) R3 hc_z
  replace hc_z := rn_getI (v := cb) (am_cur_of (i := (5, 3, .getfield 151, (1, 2, 259), 0)) (by decide +kernel)) (by decide +kernel) ecb hc_z
  replace hc_z := rn_iconst (w := 4) (am_cur_of (i := (8, 1, .iconst 4, (0, 0, 0), 0)) (by decide +kernel)) (by decide) hc_z
  replace hc_z := rn_callV (M' := am_m32) (o := 44) (ar := [.int 4, .int cb]) (rest := []) (L := lv_args 0 [.ref 44, .int cb, .int 4]) (am_cur_of (i := (9, 3, .invokevirtual 154, (32, 781, 3), 0)) (by decide +kernel)) rfl rfl rfl rfl hc_z
  obtain ⟨r1296_z, h1297_z, q1298_z, hc_z⟩ := hc_z
  rcases rp_more R4 q1298_z with ⟨ge, f1_z, f2_z⟩ | ⟨lt, n2_z, r2_z, hq2_z, e2_z⟩
  · have K := rs_stick (a := 31) (by decide) (by decide) rfl (by decide) f1_z f2_z hc_z
    replace hm_z := rn_aload_n (am_cur_of (i := (0, 1, .aload_n 0, (0, 0, 0), 0)) (by decide +kernel)) g0m hm_z
    replace hm_z := rn_getI (v := cb) (am_cur_of (i := (1, 3, .getfield 201, (12, 17, 1401), 0)) (by decide +kernel)) (by decide +kernel) (nb1_z.symm.trans ecb) hm_z
    replace hm_z := rn_iconst (w := 4) (am_cur_of (i := (4, 1, .iconst 4, (0, 0, 0), 0)) (by decide +kernel)) (by decide) hm_z
    replace hm_z := rn_cmp (am_cur_of (i := (5, 3, .if_icmp .ne 9, (8, 0, 0), 0)) (by decide +kernel)) hm_z
    rcases hm_z with ⟨b1299_z, hm_z⟩ | ⟨b1299_z, hm_z⟩
    · replace b1299_z : ¬ cb = (4 : Int32) ∧ ¬ cb.toInt = (4 : Int32).toInt := b1299_z
      omega
    · replace b1299_z : cb = (4 : Int32) ∧ cb.toInt = (4 : Int32).toInt := b1299_z
      replace hm_z := rn_aload_n (am_cur_of (i := (8, 1, .aload_n 0, (0, 0, 0), 0)) (by decide +kernel)) g0m hm_z
      replace hm_z := rn_iconst (w := 2) (am_cur_of (i := (9, 1, .iconst 2, (0, 0, 0), 0)) (by decide +kernel)) (by decide) hm_z
      replace hm_z := rn_callV (M' := am_m158) (o := 164) (ar := [.int 2]) (rest := []) (L := lv_args 0 [.ref 164, .int 2]) (am_cur_of (i := (10, 3, .invokevirtual 181, (158, 1665, 3), 0)) (by decide +kernel)) rfl rfl rfl rfl hm_z
      obtain ⟨r1300_z, h1301_z, q1302_z, hm_z⟩ := hm_z
      obtain ⟨rfl, yq1302_z⟩ := rp_wrong q1302_z
      subst yq1302_z
      replace hm_z : rn _ _ _ _ [.int 0] _ _ _ := hm_z
      replace hm_z := rn_iret (am_cur_of (i := (13, 1, .ireturn, (0, 0, 0), 0)) (by decide +kernel)) hm_z
      obtain ⟨e1303_z, e1304_z⟩ := hm_z
      subst e1303_z e1304_z
      exact Or.inr ⟨rfl, _, 2, by decide, K.1, K.2.trans R5, rfl, R6⟩
  · replace hm_z := rn_aload_n (am_cur_of (i := (0, 1, .aload_n 0, (0, 0, 0), 0)) (by decide +kernel)) g0m hm_z
    replace hm_z := rn_getI (v := cb) (am_cur_of (i := (1, 3, .getfield 201, (12, 17, 1401), 0)) (by decide +kernel)) (by decide +kernel) (nb1_z.symm.trans ecb) hm_z
    replace hm_z := rn_iconst (w := 4) (am_cur_of (i := (4, 1, .iconst 4, (0, 0, 0), 0)) (by decide +kernel)) (by decide) hm_z
    replace hm_z := rn_cmp (am_cur_of (i := (5, 3, .if_icmp .ne 9, (8, 0, 0), 0)) (by decide +kernel)) hm_z
    rcases hm_z with ⟨b1305_z, hm_z⟩ | ⟨b1305_z, hm_z⟩
    · replace b1305_z : ¬ cb = (4 : Int32) ∧ ¬ cb.toInt = (4 : Int32).toInt := b1305_z
      replace hm_z := rn_aload_n (am_cur_of (i := (14, 1, .aload_n 0, (0, 0, 0), 0)) (by decide +kernel)) g0m hm_z
      replace hm_z := rn_callV (M' := am_m151) (o := 164) (ar := []) (rest := []) (L := lv_args 0 [.ref 164]) (am_cur_of (i := (15, 3, .invokevirtual 191, (151, 1636, 3), 0)) (by decide +kernel)) rfl rfl rfl rfl hm_z
      obtain ⟨r1306_z, h1307_z, q1308_z, hm_z⟩ := hm_z
      have vo := rn_void rfl q1308_z
      subst vo
      have R' : rq T S x p 23 h g := ⟨⟨c1_z, c2_z, c3_z, c4_z, c5_z, c6_z, fun k hk_z => c7_z k hk_z, fun k hk_z => c8_z k hk_z⟩, ⟨m2_z, m3_z, m4_z, m5_z, m6_z, fun k hk_z => m7_z k hk_z, fun k hk_z => m8_z k hk_z⟩, R3, R4, R5, R6, R7, R8, R9, R10⟩
      have A' : rp 23 h g := ⟨⟨a1_z, a2_z, a3_z, a4_z, a5_z, a6_z⟩, ⟨nb1_z, nb2_z, nb3_z⟩, ⟨nt1_z, nt2_z, nt3_z⟩, ⟨nl1_z, nl2_z, nl3_z⟩, ⟨nr1_z, nr2_z, nr3_z⟩, ⟨nk1_z, nk2_z, nk3_z⟩, ⟨fun hb_z k hk_z => AC0 hb_z k hk_z, fun hb_z k hk_z => AC1 hb_z k hk_z, fun hb_z k hk_z => AC2 hb_z k hk_z, fun hb_z k hk_z => AC3 hb_z k hk_z⟩, fun t ht => AD t ht, fun t ht => AE t ht, fun t ht => AG t ht⟩
      have B' : rp_t h g := by
        obtain ⟨b0_z, b1_z, b2_z, b3_z, b4_z, b5_z, b6_z, t, o0_z, o1_z, o2_z, o3_z, o4_z, o5_z, o6_z⟩ := B
        exact ⟨b0_z, b1_z, b2_z, b3_z, b4_z, b5_z, b6_z, t, o0_z, o1_z, o2_z, o3_z, o4_z, o5_z, o6_z⟩
      obtain ⟨-, -, x1_z, p1_z, R, le1_z, t5_z, t6_z⟩ := pr_tok (rq_0 R') hq2_z q1308_z
      replace A := rp_x (by decide) A' (rx_C_f t5_z) (rx_M_f t6_z)
      replace B := rp_tk B' (rg_v_fr t5_z (by decide)) (fun k => rg_v_fr t6_z (rg_v_in (by decide) k)) (rx_M_f t6_z)
      clear A' B' R'
      replace ecb : rg_v h1297_z 23 2 = cb := (rx_v (rx_C_f t5_z) (o := 23) (k := 2) (by decide)).trans ecb
      replace ect : rg_v h1297_z 23 4 = ct := (rx_v (rx_C_f t5_z) (o := 23) (k := 4) (by decide)).trans ect
      replace ecl : rg_v h1297_z 23 9 = cl := (rx_v (rx_C_f t5_z) (o := 23) (k := 9) (by decide)).trans ecl
      replace ecr : rg_v h1297_z 23 12 = cr := (rx_v (rx_C_f t5_z) (o := 23) (k := 12) (by decide)).trans ecr
      rcases e2_z with ⟨-, rfl⟩ | ⟨e2_z, -⟩
      rotate_left
      · exact absurd R.2.2.2.1 e2_z
      replace hm_z : rn _ _ _ _ [] _ _ _ := hm_z
      replace hc_z : rn _ _ _ _ [.int 1] _ _ _ := hc_z
      clear a1_z a2_z a3_z a4_z a5_z a6_z nb1_z nb2_z nb3_z nt1_z nt2_z nt3_z nl1_z nl2_z nl3_z nr1_z nr2_z nr3_z nk1_z nk2_z nk3_z AC0 AC1 AC2 AC3 AD AE AG c1_z c2_z c3_z c4_z c5_z c6_z c7_z c8_z m2_z m3_z m4_z m5_z m6_z m7_z m8_z R3 R4 R5 R6 R7 R8 R9 R10
      obtain ⟨⟨⟨a1_z, a2_z, a3_z, a4_z, a5_z, a6_z⟩, ⟨nb1_z, nb2_z, nb3_z⟩, ⟨nt1_z, nt2_z, nt3_z⟩, ⟨nl1_z, nl2_z, nl3_z⟩, ⟨nr1_z, nr2_z, nr3_z⟩, ⟨nk1_z, nk2_z, nk3_z⟩, ⟨AC0, AC1, AC2, AC3⟩, AD, AE, AG⟩, ⟨⟨c1_z, c2_z, c3_z, c4_z, c5_z, c6_z, c7_z, c8_z⟩, ⟨m2_z, m3_z, m4_z, m5_z, m6_z, m7_z, m8_z⟩, R3, R4, R5, R6, R7, R8, R9, R10⟩⟩ := (⟨A, R⟩ : rp 23 h1297_z h1307_z ∧ rq T S x1_z p1_z 23 h1297_z h1307_z)
      have q4_z : cb.toInt = 0 ∨ cb.toInt = 1 ∨ cb.toInt = 2 ∨ cb.toInt = 3 := by omega
      rcases q4_z with q4_z | q4_z | q4_z | q4_z
      · obtain rfl : cb = 0 := rt_i32 (q4_z.trans (by decide))
        replace hc_z := rn_ifF (am_cur_of (i := (12, 3, .ifCond .eq 10, (10, 0, 0), 0)) (by decide +kernel)) (by decide) hc_z
        replace hc_z := rn_aload_n (am_cur_of (i := (15, 1, .aload_n 0, (0, 0, 0), 0)) (by decide +kernel)) g0_z hc_z
        replace hc_z := rn_callV (M' := am_m33) (o := 44) (ar := []) (rest := []) (L := lv_args 0 [.ref 44]) (am_cur_of (i := (16, 3, .invokevirtual 158, (33, 785, 3), 0)) (by decide +kernel)) rfl rfl rfl rfl hc_z
        obtain ⟨r1309_z, h1310_z, q1311_z, hc_z⟩ := hc_z
        rcases rp_own R4 q1311_z with ⟨k3_z, rfl, eh⟩ | ⟨k3_z, f1_z, f2_z⟩
        · replace eh := eh.symm
          subst eh
          have k2_z := tk_3 R10 k3_z
          replace hc_z : rn _ _ _ _ [.int 1] _ _ _ := hc_z
          replace hc_z := rn_ifT (am_cur_of (i := (19, 3, .ifCond .ne 4, (11, 0, 0), 0)) (by decide +kernel)) (by decide) hc_z
          replace hc_z := rn_aload_n (am_cur_of (i := (23, 1, .aload_n 0, (0, 0, 0), 0)) (by decide +kernel)) g0_z hc_z
          replace hc_z := rn_getM (x := 23) (am_cur_of (i := (24, 3, .getfield 25, (4, 6, 415), 0)) (by decide +kernel)) R3 hc_z
          replace hc_z := rn_aload_n (am_cur_of (i := (27, 1, .aload_n 0, (0, 0, 0), 0)) (by decide +kernel)) g0_z hc_z
          replace hc_z := rn_getI (v := rg_v h1297_z 44 11) (am_cur_of (i := (28, 3, .getfield 91, (4, 11, 420), 0)) (by decide +kernel)) (by decide +kernel) rfl hc_z
          replace hc_z := rn_callV (M' := am_m34) (o := 23) (ar := [.int (rg_v h1297_z 44 11)]) (rest := []) (L := lv_args 0 [.ref 23, .int (rg_v h1297_z 44 11)]) (am_cur_of (i := (31, 3, .invokevirtual 162, (34, 789, 3), 0)) (by decide +kernel)) rfl rfl rfl rfl hc_z
          obtain ⟨r1312_z, h1313_z, q1314_z, hc_z⟩ := hc_z
          obtain ⟨eh, i2_z, rfl, hi2_z⟩ := rp_bn23 ecb (by omega) q1314_z
          replace eh := eh.symm
          subst eh
          have hib := rp_fm_b hi2_z (by omega)
          have names : ∀ b : Nat, (b : Int) < (0 : Int32).toInt → rg_v h1297_z (40 + b) 0 = rg_v h1307_z 169 (4 + b) := by
            intro b hb_z
            match b with
            | 0 => exact AC0 (by rw [ecb]; exact hb_z) 0 (by decide)
            | 1 => exact AC1 (by rw [ecb]; exact hb_z) 0 (by decide)
            | 2 => exact AC2 (by rw [ecb]; exact hb_z) 0 (by decide)
            | 3 => exact AC3 (by rw [ecb]; exact hb_z) 0 (by decide)
            | b + 4 => omega
          replace hc_z : rn _ _ _ _ [.int i2_z] _ _ _ := hc_z
          replace hc_z := rn_iconst (w := (-1)) (am_cur_of (i := (34, 1, .iconst (-1), (0, 0, 0), 0)) (by decide +kernel)) (by decide) hc_z
          replace hc_z := rn_cmp (am_cur_of (i := (35, 3, .if_icmp .eq 9, (22, 0, 0), 0)) (by decide +kernel)) hc_z
          rcases hc_z with ⟨b1315_z, hc_z⟩ | ⟨b1315_z, hc_z⟩
          · replace b1315_z : i2_z = ((-1) : Int32) ∧ i2_z.toInt = ((-1) : Int32).toInt := b1315_z
            replace hc_z := rn_aload_n (am_cur_of (i := (44, 1, .aload_n 0, (0, 0, 0), 0)) (by decide +kernel)) g0_z hc_z
            replace hc_z := rn_getM (x := 23) (am_cur_of (i := (45, 3, .getfield 25, (4, 6, 415), 0)) (by decide +kernel)) R3 hc_z
            replace hc_z := rn_getR (x := 24) (am_cur_of (i := (48, 3, .getfield 166, (1, 3, 265), 0)) (by decide +kernel)) (by decide +kernel) hc_z
            replace hc_z := rn_aload_n (am_cur_of (i := (51, 1, .aload_n 0, (0, 0, 0), 0)) (by decide +kernel)) g0_z hc_z
            replace hc_z := rn_getM (x := 23) (am_cur_of (i := (52, 3, .getfield 25, (4, 6, 415), 0)) (by decide +kernel)) R3 hc_z
            replace hc_z := rn_getI (v := 0) (am_cur_of (i := (55, 3, .getfield 151, (1, 2, 259), 0)) (by decide +kernel)) (by decide +kernel) ecb hc_z
            replace hc_z := rn_aaload (s := "AirBed$Blower") (N := 4) (q := 0) (am_cur_of (i := (58, 1, .aaload, (0, 0, 0), 0)) (by decide +kernel)) (by decide +kernel) rfl hc_z
            obtain ⟨p1316_z, hc_z⟩ := hc_z
            rw [show rg_r h1297_z 24 0 = 40 from rp_bc23 (rn_G hc_z) (q := 0) (by decide)] at hc_z
            replace hc_z := rn_astore_n (am_cur_of (i := (59, 1, .astore_n 1, (0, 0, 0), 0)) (by decide +kernel)) hc_z
            obtain ⟨_, s1317_z, s1318_z, g1_z, hc_z⟩ := hc_z
            replace g0_z := s1317_z 0 _ (by decide) rfl g0_z
            clear s1317_z s1318_z
            replace hc_z := rn_aload_n (am_cur_of (i := (60, 1, .aload_n 1, (0, 0, 0), 0)) (by decide +kernel)) g1_z hc_z
            replace hc_z := rn_aload_n (am_cur_of (i := (61, 1, .aload_n 0, (0, 0, 0), 0)) (by decide +kernel)) g0_z hc_z
            replace hc_z := rn_getI (v := rg_v h1297_z 44 11) (am_cur_of (i := (62, 3, .getfield 91, (4, 11, 420), 0)) (by decide +kernel)) (by decide +kernel) rfl hc_z
            replace hc_z := rn_put (am_cur_of (i := (65, 3, .putfield 170, (3, 0, 204), 0)) (by decide +kernel)) (by decide +kernel) hc_z
            replace hc_z := rn_aload_n (am_cur_of (i := (68, 1, .aload_n 0, (0, 0, 0), 0)) (by decide +kernel)) g0_z hc_z
            replace hc_z := rn_callV (M' := am_m19) (o := 44) (ar := []) (rest := []) (L := lv_args 0 [.ref 44]) (am_cur_of (i := (69, 3, .invokevirtual 57, (19, 727, 3), 0)) (by decide +kernel)) rfl rfl rfl rfl hc_z
            obtain ⟨r1319_z, h1320_z, q1321_z, hc_z⟩ := hc_z
            have vo := rn_void rfl q1321_z
            subst vo
            replace hm_z := rn_aload_n (am_cur_of (i := (18, 1, .aload_n 0, (0, 0, 0), 0)) (by decide +kernel)) g0m hm_z
            replace hm_z := rn_aload_n (am_cur_of (i := (19, 1, .aload_n 0, (0, 0, 0), 0)) (by decide +kernel)) g0m hm_z
            replace hm_z := rn_getR (x := 169) (am_cur_of (i := (20, 3, .getfield 27, (12, 24, 1408), 0)) (by decide +kernel)) (by decide +kernel) hm_z
            replace hm_z := rn_iconst (w := 4) (am_cur_of (i := (23, 1, .iconst 4, (0, 0, 0), 0)) (by decide +kernel)) (by decide) hm_z
            replace hm_z := rn_aload_n (am_cur_of (i := (24, 1, .aload_n 0, (0, 0, 0), 0)) (by decide +kernel)) g0m hm_z
            replace hm_z := rn_getI (v := 0) (am_cur_of (i := (25, 3, .getfield 201, (12, 17, 1401), 0)) (by decide +kernel)) (by decide +kernel) (nb1_z.symm.trans ecb) hm_z
            replace hm_z := rn_callV (M' := am_m164) (o := 164) (ar := [.int 0, .int 4, .ref 169]) (rest := []) (L := lv_args 0 [.ref 164, .ref 169, .int 4, .int 0]) (am_cur_of (i := (28, 3, .invokevirtual 248, (164, 1688, 3), 0)) (by decide +kernel)) rfl rfl rfl rfl hm_z
            obtain ⟨r1322_z, h1323_z, q1324_z, hm_z⟩ := hm_z
            rcases rp_newB (nb := 0) (by omega) (by omega) q1324_z with ⟨y1_z, rfl, y3_z⟩ | ⟨y1_z, rfl, y3_z, y4_z, y5_z, y6_z⟩ | ⟨y1_z, rfl, y5_z, y4_z, y6_z, y7_z⟩
            · exact absurd k2_z.1 y1_z
            · have ei := rp_fm_u hi2_z (k2_z.2 ▸ y5_z) names
              rw [← ei] at y6_z
              omega
            · have vo := rn_void rfl y7_z
              subst vo
              have R' : rq T S x1_z p1_z 23 (am_up h1297_z 40 0 (.int (rg_v h1297_z 44 11))) (am_up h1307_z 169 4 (.int (rg_v h1307_z 164 9))) := ⟨⟨c1_z, c2_z, c3_z, c4_z, c5_z, c6_z, fun k hk_z => c7_z k hk_z, fun k hk_z => c8_z k hk_z⟩, ⟨m2_z, m3_z, m4_z, m5_z, m6_z, fun k hk_z => m7_z k hk_z, fun k hk_z => m8_z k hk_z⟩, R3, R4, R5, R6, R7, R8, R9, R10⟩
              have A' : rp 23 (am_up h1297_z 40 0 (.int (rg_v h1297_z 44 11))) (am_up h1307_z 169 4 (.int (rg_v h1307_z 164 9))) := ⟨⟨a1_z, a2_z, a3_z, a4_z, a5_z, a6_z⟩, ⟨nb1_z, nb2_z, nb3_z⟩, ⟨nt1_z, nt2_z, nt3_z⟩, ⟨nl1_z, nl2_z, nl3_z⟩, ⟨nr1_z, nr2_z, nr3_z⟩, ⟨nk1_z, nk2_z, nk3_z⟩, ⟨fun hb_z => absurd hb_z (by rw [show rg_v (am_up h1297_z 40 0 (.int (rg_v h1297_z 44 11))) 23 2 = 0 from ecb]; decide), fun hb_z => absurd hb_z (by rw [show rg_v (am_up h1297_z 40 0 (.int (rg_v h1297_z 44 11))) 23 2 = 0 from ecb]; decide), fun hb_z => absurd hb_z (by rw [show rg_v (am_up h1297_z 40 0 (.int (rg_v h1297_z 44 11))) 23 2 = 0 from ecb]; decide), fun hb_z => absurd hb_z (by rw [show rg_v (am_up h1297_z 40 0 (.int (rg_v h1297_z 44 11))) 23 2 = 0 from ecb]; decide)⟩, fun t ht => AD t ht, fun t ht => AE t ht, fun t ht => AG t ht⟩
              have B' : rp_t (am_up h1297_z 40 0 (.int (rg_v h1297_z 44 11))) (am_up h1307_z 169 4 (.int (rg_v h1307_z 164 9))) := by
                obtain ⟨b0_z, b1_z, b2_z, b3_z, b4_z, b5_z, b6_z, t, o0_z, o1_z, o2_z, o3_z, o4_z, o5_z, o6_z⟩ := B
                exact ⟨b0_z, b1_z, b2_z, b3_z, b4_z, b5_z, b6_z, t, o0_z, o1_z, o2_z, o3_z, o4_z, o5_z, o6_z⟩
              obtain ⟨-, -, x2_z, p2_z, R, le2_z, t5_z, t6_z⟩ := pr_tok (rq_0 R') q1321_z y7_z
              replace A := rp_x (by decide) A' (rx_C_f t5_z) (rx_M_f t6_z)
              replace B := rp_tk B' (rg_v_fr t5_z (by decide)) (fun k => rg_v_fr t6_z (rg_v_in (by decide) k)) (rx_M_f t6_z)
              clear A' B' R'
              replace le2_z : x.toInt ≤ p2_z.toInt := Int.le_trans (Int.le_trans le1_z R8) le2_z
              replace ecb : rg_v h1320_z 23 2 = 0 := (rx_v (rx_C_f t5_z) (o := 23) (k := 2) (by decide)).trans ecb
              replace ect : rg_v h1320_z 23 4 = ct := (rx_v (rx_C_f t5_z) (o := 23) (k := 4) (by decide)).trans ect
              replace ecl : rg_v h1320_z 23 9 = cl := (rx_v (rx_C_f t5_z) (o := 23) (k := 9) (by decide)).trans ecl
              replace ecr : rg_v h1320_z 23 12 = cr := (rx_v (rx_C_f t5_z) (o := 23) (k := 12) (by decide)).trans ecr
              have E0 : rg_v h1320_z 40 0 = rg_v h1323_z 169 4 := (rx_v (rx_C_f t5_z) (o := 40) (k := 0) (by decide)).trans (Eq.trans (k2_z.2) (rx_w (rx_M_f t6_z) (o := 169) (k := 4) (by omega) (by decide)).symm)
              replace hm_z : rn _ _ _ _ [.int 1] _ _ _ := hm_z
              replace hc_z : rn _ _ _ _ [] _ _ _ := hc_z
              clear a1_z a2_z a3_z a4_z a5_z a6_z nb1_z nb2_z nb3_z nt1_z nt2_z nt3_z nl1_z nl2_z nl3_z nr1_z nr2_z nr3_z nk1_z nk2_z nk3_z AC0 AC1 AC2 AC3 AD AE AG c1_z c2_z c3_z c4_z c5_z c6_z c7_z c8_z m2_z m3_z m4_z m5_z m6_z m7_z m8_z R3 R4 R5 R6 R7 R8 R9 R10
              obtain ⟨⟨⟨a1_z, a2_z, a3_z, a4_z, a5_z, a6_z⟩, ⟨nb1_z, nb2_z, nb3_z⟩, ⟨nt1_z, nt2_z, nt3_z⟩, ⟨nl1_z, nl2_z, nl3_z⟩, ⟨nr1_z, nr2_z, nr3_z⟩, ⟨nk1_z, nk2_z, nk3_z⟩, ⟨AC0, AC1, AC2, AC3⟩, AD, AE, AG⟩, ⟨⟨c1_z, c2_z, c3_z, c4_z, c5_z, c6_z, c7_z, c8_z⟩, ⟨m2_z, m3_z, m4_z, m5_z, m6_z, m7_z, m8_z⟩, R3, R4, R5, R6, R7, R8, R9, R10⟩⟩ := (⟨A, R⟩ : rp 23 h1320_z h1323_z ∧ rq T S x2_z p2_z 23 h1320_z h1323_z)
              replace hc_z := rn_aload_n (am_cur_of (i := (72, 1, .aload_n 1, (0, 0, 0), 0)) (by decide +kernel)) g1_z hc_z
              replace hc_z := rn_aload_n (am_cur_of (i := (73, 1, .aload_n 0, (0, 0, 0), 0)) (by decide +kernel)) g0_z hc_z
              replace hc_z := rn_iconst (w := 1) (am_cur_of (i := (74, 1, .iconst 1, (0, 0, 0), 0)) (by decide +kernel)) (by decide) hc_z
              replace hc_z := rn_bipush (w := 99) (am_cur_of (i := (75, 2, .bipush 99, (0, 0, 0), 0)) (by decide +kernel)) (by decide) hc_z
              replace hc_z := rn_callV (M' := am_m30) (o := 44) (ar := [.int 99, .int 1]) (rest := [.ref 40]) (L := lv_args 0 [.ref 44, .int 1, .int 99]) (am_cur_of (i := (77, 3, .invokevirtual 142, (30, 773, 3), 0)) (by decide +kernel)) rfl rfl rfl rfl hc_z
              obtain ⟨r1325_z, h1326_z, q1327_z, hc_z⟩ := hc_z
              replace hm_z := rn_ifT (am_cur_of (i := (31, 3, .ifCond .ne 5, (20, 0, 0), 0)) (by decide +kernel)) (by decide) hm_z
              replace hm_z := rn_bipush (w := 28) (am_cur_of (i := (36, 2, .bipush 28, (0, 0, 0), 0)) (by decide +kernel)) (by decide) hm_z
              replace hm_z := rn_bipush (w := 7) (am_cur_of (i := (38, 2, .bipush 7, (0, 0, 0), 0)) (by decide +kernel)) (by decide) hm_z
              replace hm_z := rn_aload_n (am_cur_of (i := (40, 1, .aload_n 0, (0, 0, 0), 0)) (by decide +kernel)) g0m hm_z
              replace hm_z := rn_getI (v := 0) (am_cur_of (i := (41, 3, .getfield 201, (12, 17, 1401), 0)) (by decide +kernel)) (by decide +kernel) (nb1_z.symm.trans ecb) hm_z
              replace hm_z := rn_imul (w := 0) (am_cur_of (i := (44, 1, .imul, (0, 0, 0), 0)) (by decide +kernel)) (by decide) hm_z
              replace hm_z := rn_iadd (w := 28) (am_cur_of (i := (45, 1, .iadd, (0, 0, 0), 0)) (by decide +kernel)) (by decide) hm_z
              replace hm_z := rn_istore_n (am_cur_of (i := (46, 1, .istore_n 1, (0, 0, 0), 0)) (by decide +kernel)) hm_z
              obtain ⟨_, s1328_z, s1329_z, g1m, hm_z⟩ := hm_z
              replace g0m := s1328_z 0 _ (by decide) rfl g0m
              clear s1328_z s1329_z
              replace hm_z := rn_iconst (w := 0) (am_cur_of (i := (47, 1, .iconst 0, (0, 0, 0), 0)) (by decide +kernel)) (by decide) hm_z
              replace hm_z := rn_istore_n (am_cur_of (i := (48, 1, .istore_n 2, (0, 0, 0), 0)) (by decide +kernel)) hm_z
              obtain ⟨_, s1330_z, s1331_z, g2m, hm_z⟩ := hm_z
              replace g0m := s1330_z 0 _ (by decide) rfl g0m
              replace g1m := s1330_z 1 _ (by decide) rfl g1m
              clear s1330_z s1331_z
              replace hm_z := rn_iload_n (am_cur_of (i := (49, 1, .iload_n 2, (0, 0, 0), 0)) (by decide +kernel)) g2m hm_z
              replace hm_z := rn_bipush (w := 7) (am_cur_of (i := (50, 2, .bipush 7, (0, 0, 0), 0)) (by decide +kernel)) (by decide) hm_z
              replace hm_z := rn_cmpF (am_cur_of (i := (52, 3, .if_icmp .ge 87, (79, 0, 0), 0)) (by decide +kernel)) (by decide) hm_z
              replace hm_z := rn_iload_n (am_cur_of (i := (55, 1, .iload_n 2, (0, 0, 0), 0)) (by decide +kernel)) g2m hm_z
              replace hm_z := rn_ifT (am_cur_of (i := (56, 3, .ifCond .eq 13, (40, 0, 0), 0)) (by decide +kernel)) (by decide) hm_z
              replace hm_z := rn_iconst (w := 1) (am_cur_of (i := (69, 1, .iconst 1, (0, 0, 0), 0)) (by decide +kernel)) (by decide) hm_z
              replace hm_z := rn_goto (am_cur_of (i := (70, 3, .goto 4, (43, 0, 0), 0)) (by decide +kernel)) hm_z
              replace hm_z := rn_istore_n (am_cur_of (i := (74, 1, .istore_n 3, (0, 0, 0), 0)) (by decide +kernel)) hm_z
              obtain ⟨_, s1332_z, s1333_z, g3m, hm_z⟩ := hm_z
              replace g0m := s1332_z 0 _ (by decide) rfl g0m
              replace g1m := s1332_z 1 _ (by decide) rfl g1m
              replace g2m := s1332_z 2 _ (by decide) rfl g2m
              clear s1332_z s1333_z
              replace hm_z := rn_iload_n (am_cur_of (i := (75, 1, .iload_n 2, (0, 0, 0), 0)) (by decide +kernel)) g2m hm_z
              replace hm_z := rn_iconst (w := 1) (am_cur_of (i := (76, 1, .iconst 1, (0, 0, 0), 0)) (by decide +kernel)) (by decide) hm_z
              replace hm_z := rn_cmpF (am_cur_of (i := (77, 3, .if_icmp .eq 8, (50, 0, 0), 0)) (by decide +kernel)) (by decide) hm_z
              replace hm_z := rn_iload_n (am_cur_of (i := (80, 1, .iload_n 2, (0, 0, 0), 0)) (by decide +kernel)) g2m hm_z
              replace hm_z := rn_iconst (w := 2) (am_cur_of (i := (81, 1, .iconst 2, (0, 0, 0), 0)) (by decide +kernel)) (by decide) hm_z
              replace hm_z := rn_cmpT (am_cur_of (i := (82, 3, .if_icmp .ne 8, (52, 0, 0), 0)) (by decide +kernel)) (by decide) hm_z
              replace hm_z := rn_iload_n (am_cur_of (i := (90, 1, .iload_n 2, (0, 0, 0), 0)) (by decide +kernel)) g2m hm_z
              replace hm_z := rn_iconst (w := 3) (am_cur_of (i := (91, 1, .iconst 3, (0, 0, 0), 0)) (by decide +kernel)) (by decide) hm_z
              replace hm_z := rn_cmpF (am_cur_of (i := (92, 3, .if_icmp .eq 8, (58, 0, 0), 0)) (by decide +kernel)) (by decide) hm_z
              replace hm_z := rn_iload_n (am_cur_of (i := (95, 1, .iload_n 2, (0, 0, 0), 0)) (by decide +kernel)) g2m hm_z
              replace hm_z := rn_iconst (w := 5) (am_cur_of (i := (96, 1, .iconst 5, (0, 0, 0), 0)) (by decide +kernel)) (by decide) hm_z
              replace hm_z := rn_cmpT (am_cur_of (i := (97, 3, .if_icmp .ne 8, (60, 0, 0), 0)) (by decide +kernel)) (by decide) hm_z
              replace hm_z := rn_bipush (w := 99) (am_cur_of (i := (105, 2, .bipush 99, (0, 0, 0), 0)) (by decide +kernel)) (by decide) hm_z
              replace hm_z := rn_istore (am_cur_of (i := (107, 2, .istore 4, (0, 0, 0), 0)) (by decide +kernel)) hm_z
              obtain ⟨_, s1334_z, s1335_z, g4m, hm_z⟩ := hm_z
              replace g0m := s1334_z 0 _ (by decide) rfl g0m
              replace g1m := s1334_z 1 _ (by decide) rfl g1m
              replace g2m := s1334_z 2 _ (by decide) rfl g2m
              replace g3m := s1334_z 3 _ (by decide) rfl g3m
              clear s1334_z s1335_z
              replace hm_z := rn_aload_n (am_cur_of (i := (109, 1, .aload_n 0, (0, 0, 0), 0)) (by decide +kernel)) g0m hm_z
              replace hm_z := rn_iload_n (am_cur_of (i := (110, 1, .iload_n 3, (0, 0, 0), 0)) (by decide +kernel)) g3m hm_z
              replace hm_z := rn_iload (am_cur_of (i := (111, 2, .iload 4, (0, 0, 0), 0)) (by decide +kernel)) g4m hm_z
              replace hm_z := rn_callV (M' := am_m161) (o := 164) (ar := [.int 99, .int 1]) (rest := []) (L := lv_args 0 [.ref 164, .int 1, .int 99]) (am_cur_of (i := (113, 3, .invokevirtual 197, (161, 1677, 3), 0)) (by decide +kernel)) rfl rfl rfl rfl hm_z
              obtain ⟨r1336_z, h1337_z, q1338_z, hm_z⟩ := hm_z
              have R' : rq T S x2_z p2_z 23 h1320_z h1323_z := ⟨⟨c1_z, c2_z, c3_z, c4_z, c5_z, c6_z, fun k hk_z => c7_z k hk_z, fun k hk_z => c8_z k hk_z⟩, ⟨m2_z, m3_z, m4_z, m5_z, m6_z, fun k hk_z => m7_z k hk_z, fun k hk_z => m8_z k hk_z⟩, R3, R4, R5, R6, R7, R8, R9, R10⟩
              have A' : rp 23 h1320_z h1323_z := ⟨⟨a1_z, a2_z, a3_z, a4_z, a5_z, a6_z⟩, ⟨nb1_z, nb2_z, nb3_z⟩, ⟨nt1_z, nt2_z, nt3_z⟩, ⟨nl1_z, nl2_z, nl3_z⟩, ⟨nr1_z, nr2_z, nr3_z⟩, ⟨nk1_z, nk2_z, nk3_z⟩, ⟨fun hb_z => absurd hb_z (by rw [show rg_v h1320_z 23 2 = 0 from ecb]; decide), fun hb_z => absurd hb_z (by rw [show rg_v h1320_z 23 2 = 0 from ecb]; decide), fun hb_z => absurd hb_z (by rw [show rg_v h1320_z 23 2 = 0 from ecb]; decide), fun hb_z => absurd hb_z (by rw [show rg_v h1320_z 23 2 = 0 from ecb]; decide)⟩, fun t ht => AD t ht, fun t ht => AE t ht, fun t ht => AG t ht⟩
              have B' : rp_t h1320_z h1323_z := by
                obtain ⟨b0_z, b1_z, b2_z, b3_z, b4_z, b5_z, b6_z, t, o0_z, o1_z, o2_z, o3_z, o4_z, o5_z, o6_z⟩ := B
                exact ⟨b0_z, b1_z, b2_z, b3_z, b4_z, b5_z, b6_z, t, o0_z, o1_z, o2_z, o3_z, o4_z, o5_z, o6_z⟩
              rcases pr_num R' (by decide) (by decide) q1327_z q1338_z with ⟨v3_z, x3_z, p3_z, rfl, rfl, lo3_z, hi3_z, R, le3_z, got, X, Y, t7_z, t167_z⟩ | ⟨rfl, F⟩
              · replace A := rp_x (by decide) A' X Y
                replace B := rp_tk B' t7_z t167_z Y
                clear A' B' R'
                replace le3_z : x.toInt ≤ p3_z.toInt := Int.le_trans (Int.le_trans le2_z R8) le3_z
                replace ecb : rg_v h1326_z 23 2 = 0 := (rx_v X (o := 23) (k := 2) (by decide)).trans ecb
                replace ect : rg_v h1326_z 23 4 = ct := (rx_v X (o := 23) (k := 4) (by decide)).trans ect
                replace ecl : rg_v h1326_z 23 9 = cl := (rx_v X (o := 23) (k := 9) (by decide)).trans ecl
                replace ecr : rg_v h1326_z 23 12 = cr := (rx_v X (o := 23) (k := 12) (by decide)).trans ecr
                replace E0 : rg_v h1326_z 40 0 = rg_v h1337_z 169 4 := (rx_v X (o := 40) (k := 0) (by decide)).trans (E0.trans (rx_w Y (o := 169) (k := 4) (by omega) (by decide)).symm)
                replace hm_z : rn _ _ _ _ [.int 1] _ _ _ := hm_z
                replace hc_z : rn _ _ _ _ [.int v3_z, .ref 40] _ _ _ := hc_z
                clear a1_z a2_z a3_z a4_z a5_z a6_z nb1_z nb2_z nb3_z nt1_z nt2_z nt3_z nl1_z nl2_z nl3_z nr1_z nr2_z nr3_z nk1_z nk2_z nk3_z AC0 AC1 AC2 AC3 AD AE AG c1_z c2_z c3_z c4_z c5_z c6_z c7_z c8_z m2_z m3_z m4_z m5_z m6_z m7_z m8_z R3 R4 R5 R6 R7 R8 R9 R10
                obtain ⟨⟨⟨a1_z, a2_z, a3_z, a4_z, a5_z, a6_z⟩, ⟨nb1_z, nb2_z, nb3_z⟩, ⟨nt1_z, nt2_z, nt3_z⟩, ⟨nl1_z, nl2_z, nl3_z⟩, ⟨nr1_z, nr2_z, nr3_z⟩, ⟨nk1_z, nk2_z, nk3_z⟩, ⟨AC0, AC1, AC2, AC3⟩, AD, AE, AG⟩, ⟨⟨c1_z, c2_z, c3_z, c4_z, c5_z, c6_z, c7_z, c8_z⟩, ⟨m2_z, m3_z, m4_z, m5_z, m6_z, m7_z, m8_z⟩, R3, R4, R5, R6, R7, R8, R9, R10⟩⟩ := (⟨A, R⟩ : rp 23 h1326_z h1337_z ∧ rq T S x3_z p3_z 23 h1326_z h1337_z)
                replace hc_z := rn_put (am_cur_of (i := (80, 3, .putfield 175, (3, 1, 206), 0)) (by decide +kernel)) (by decide +kernel) hc_z
                replace hc_z := rn_aload_n (am_cur_of (i := (83, 1, .aload_n 1, (0, 0, 0), 0)) (by decide +kernel)) g1_z hc_z
                replace hc_z := rn_aload_n (am_cur_of (i := (84, 1, .aload_n 0, (0, 0, 0), 0)) (by decide +kernel)) g0_z hc_z
                replace hc_z := rn_iconst (w := 0) (am_cur_of (i := (85, 1, .iconst 0, (0, 0, 0), 0)) (by decide +kernel)) (by decide) hc_z
                replace hc_z := rn_bipush (w := 20) (am_cur_of (i := (86, 2, .bipush 20, (0, 0, 0), 0)) (by decide +kernel)) (by decide) hc_z
                replace hc_z := rn_callV (M' := am_m30) (o := 44) (ar := [.int 20, .int 0]) (rest := [.ref 40]) (L := lv_args 0 [.ref 44, .int 0, .int 20]) (am_cur_of (i := (88, 3, .invokevirtual 142, (30, 773, 3), 0)) (by decide +kernel)) rfl rfl rfl rfl hc_z
                obtain ⟨r1339_z, h1340_z, q1341_z, hc_z⟩ := hc_z
                replace hm_z := rn_ifT (am_cur_of (i := (116, 3, .ifCond .ne 5, (69, 0, 0), 0)) (by decide +kernel)) (by decide) hm_z
                replace hm_z := rn_aload_n (am_cur_of (i := (121, 1, .aload_n 0, (0, 0, 0), 0)) (by decide +kernel)) g0m hm_z
                replace hm_z := rn_getR (x := 170) (am_cur_of (i := (122, 3, .getfield 30, (12, 25, 1409), 0)) (by decide +kernel)) (by decide +kernel) hm_z
                replace hm_z := rn_iload_n (am_cur_of (i := (125, 1, .iload_n 1, (0, 0, 0), 0)) (by decide +kernel)) g1m hm_z
                replace hm_z := rn_iload_n (am_cur_of (i := (126, 1, .iload_n 2, (0, 0, 0), 0)) (by decide +kernel)) g2m hm_z
                replace hm_z := rn_iadd (w := 28) (am_cur_of (i := (127, 1, .iadd, (0, 0, 0), 0)) (by decide +kernel)) (by decide) hm_z
                replace hm_z := rn_aload_n (am_cur_of (i := (128, 1, .aload_n 0, (0, 0, 0), 0)) (by decide +kernel)) g0m hm_z
                replace hm_z := rn_getI (v := v3_z) (am_cur_of (i := (129, 3, .getfield 188, (12, 11, 1395), 0)) (by decide +kernel)) (by decide +kernel) got hm_z
                replace hm_z := rn_iastore (N := 56) (q := 28) (am_cur_of (i := (132, 1, .iastore, (0, 0, 0), 0)) (by decide +kernel)) (by decide +kernel) rfl hm_z
                obtain ⟨p1342_z, hm_z⟩ := hm_z
                replace hm_z := rn_iinc (w := 1) (am_cur_of (i := (133, 3, .iinc 2 1, (0, 0, 0), 0)) (by decide +kernel)) g2m (by decide) hm_z
                obtain ⟨_, s1343_z, s1344_z, g2m, hm_z⟩ := hm_z
                replace g0m := s1343_z 0 _ (by decide) rfl g0m
                replace g1m := s1343_z 1 _ (by decide) rfl g1m
                replace g3m := s1343_z 3 _ (by decide) rfl g3m
                replace g4m := s1343_z 4 _ (by decide) rfl g4m
                clear s1343_z s1344_z
                replace hm_z := rn_goto (am_cur_of (i := (136, 3, .goto (-87), (29, 0, 0), 0)) (by decide +kernel)) hm_z
                replace hm_z := rn_iload_n (am_cur_of (i := (49, 1, .iload_n 2, (0, 0, 0), 0)) (by decide +kernel)) g2m hm_z
                replace hm_z := rn_bipush (w := 7) (am_cur_of (i := (50, 2, .bipush 7, (0, 0, 0), 0)) (by decide +kernel)) (by decide) hm_z
                replace hm_z := rn_cmpF (am_cur_of (i := (52, 3, .if_icmp .ge 87, (79, 0, 0), 0)) (by decide +kernel)) (by decide) hm_z
                replace hm_z := rn_iload_n (am_cur_of (i := (55, 1, .iload_n 2, (0, 0, 0), 0)) (by decide +kernel)) g2m hm_z
                replace hm_z := rn_ifF (am_cur_of (i := (56, 3, .ifCond .eq 13, (40, 0, 0), 0)) (by decide +kernel)) (by decide) hm_z
                replace hm_z := rn_iload_n (am_cur_of (i := (59, 1, .iload_n 2, (0, 0, 0), 0)) (by decide +kernel)) g2m hm_z
                replace hm_z := rn_iconst (w := 2) (am_cur_of (i := (60, 1, .iconst 2, (0, 0, 0), 0)) (by decide +kernel)) (by decide) hm_z
                replace hm_z := rn_cmpF (am_cur_of (i := (61, 3, .if_icmp .eq 8, (40, 0, 0), 0)) (by decide +kernel)) (by decide) hm_z
                replace hm_z := rn_iload_n (am_cur_of (i := (64, 1, .iload_n 2, (0, 0, 0), 0)) (by decide +kernel)) g2m hm_z
                replace hm_z := rn_iconst (w := 3) (am_cur_of (i := (65, 1, .iconst 3, (0, 0, 0), 0)) (by decide +kernel)) (by decide) hm_z
                replace hm_z := rn_cmpT (am_cur_of (i := (66, 3, .if_icmp .ne 7, (42, 0, 0), 0)) (by decide +kernel)) (by decide) hm_z
                replace hm_z := rn_iconst (w := 0) (am_cur_of (i := (73, 1, .iconst 0, (0, 0, 0), 0)) (by decide +kernel)) (by decide) hm_z
                replace hm_z := rn_istore_n (am_cur_of (i := (74, 1, .istore_n 3, (0, 0, 0), 0)) (by decide +kernel)) hm_z
                obtain ⟨_, s1345_z, s1346_z, g3m, hm_z⟩ := hm_z
                replace g0m := s1345_z 0 _ (by decide) rfl g0m
                replace g1m := s1345_z 1 _ (by decide) rfl g1m
                replace g2m := s1345_z 2 _ (by decide) rfl g2m
                replace g4m := s1345_z 4 _ (by decide) rfl g4m
                clear s1345_z s1346_z
                replace hm_z := rn_iload_n (am_cur_of (i := (75, 1, .iload_n 2, (0, 0, 0), 0)) (by decide +kernel)) g2m hm_z
                replace hm_z := rn_iconst (w := 1) (am_cur_of (i := (76, 1, .iconst 1, (0, 0, 0), 0)) (by decide +kernel)) (by decide) hm_z
                replace hm_z := rn_cmpT (am_cur_of (i := (77, 3, .if_icmp .eq 8, (50, 0, 0), 0)) (by decide +kernel)) (by decide) hm_z
                replace hm_z := rn_bipush (w := 20) (am_cur_of (i := (85, 2, .bipush 20, (0, 0, 0), 0)) (by decide +kernel)) (by decide) hm_z
                replace hm_z := rn_goto (am_cur_of (i := (87, 3, .goto 20, (61, 0, 0), 0)) (by decide +kernel)) hm_z
                replace hm_z := rn_istore (am_cur_of (i := (107, 2, .istore 4, (0, 0, 0), 0)) (by decide +kernel)) hm_z
                obtain ⟨_, s1347_z, s1348_z, g4m, hm_z⟩ := hm_z
                replace g0m := s1347_z 0 _ (by decide) rfl g0m
                replace g1m := s1347_z 1 _ (by decide) rfl g1m
                replace g2m := s1347_z 2 _ (by decide) rfl g2m
                replace g3m := s1347_z 3 _ (by decide) rfl g3m
                clear s1347_z s1348_z
                replace hm_z := rn_aload_n (am_cur_of (i := (109, 1, .aload_n 0, (0, 0, 0), 0)) (by decide +kernel)) g0m hm_z
                replace hm_z := rn_iload_n (am_cur_of (i := (110, 1, .iload_n 3, (0, 0, 0), 0)) (by decide +kernel)) g3m hm_z
                replace hm_z := rn_iload (am_cur_of (i := (111, 2, .iload 4, (0, 0, 0), 0)) (by decide +kernel)) g4m hm_z
                replace hm_z := rn_callV (M' := am_m161) (o := 164) (ar := [.int 20, .int 0]) (rest := []) (L := lv_args 0 [.ref 164, .int 0, .int 20]) (am_cur_of (i := (113, 3, .invokevirtual 197, (161, 1677, 3), 0)) (by decide +kernel)) rfl rfl rfl rfl hm_z
                obtain ⟨r1349_z, h1350_z, q1351_z, hm_z⟩ := hm_z
                have R' : rq T S x3_z p3_z 23 (am_up h1326_z 40 1 (.int v3_z)) (am_up h1337_z 170 28 (.int v3_z)) := ⟨⟨c1_z, c2_z, c3_z, c4_z, c5_z, c6_z, fun k hk_z => c7_z k hk_z, fun k hk_z => c8_z k hk_z⟩, ⟨m2_z, m3_z, m4_z, m5_z, m6_z, fun k hk_z => m7_z k hk_z, fun k hk_z => m8_z k hk_z⟩, R3, R4, R5, R6, R7, R8, R9, R10⟩
                have A' : rp 23 (am_up h1326_z 40 1 (.int v3_z)) (am_up h1337_z 170 28 (.int v3_z)) := ⟨⟨a1_z, a2_z, a3_z, a4_z, a5_z, a6_z⟩, ⟨nb1_z, nb2_z, nb3_z⟩, ⟨nt1_z, nt2_z, nt3_z⟩, ⟨nl1_z, nl2_z, nl3_z⟩, ⟨nr1_z, nr2_z, nr3_z⟩, ⟨nk1_z, nk2_z, nk3_z⟩, ⟨fun hb_z => absurd hb_z (by rw [show rg_v (am_up h1326_z 40 1 (.int v3_z)) 23 2 = 0 from ecb]; decide), fun hb_z => absurd hb_z (by rw [show rg_v (am_up h1326_z 40 1 (.int v3_z)) 23 2 = 0 from ecb]; decide), fun hb_z => absurd hb_z (by rw [show rg_v (am_up h1326_z 40 1 (.int v3_z)) 23 2 = 0 from ecb]; decide), fun hb_z => absurd hb_z (by rw [show rg_v (am_up h1326_z 40 1 (.int v3_z)) 23 2 = 0 from ecb]; decide)⟩, fun t ht => AD t ht, fun t ht => AE t ht, fun t ht => AG t ht⟩
                have B' : rp_t (am_up h1326_z 40 1 (.int v3_z)) (am_up h1337_z 170 28 (.int v3_z)) := by
                  obtain ⟨b0_z, b1_z, b2_z, b3_z, b4_z, b5_z, b6_z, t, o0_z, o1_z, o2_z, o3_z, o4_z, o5_z, o6_z⟩ := B
                  exact ⟨b0_z, b1_z, b2_z, b3_z, b4_z, b5_z, b6_z, t, o0_z, o1_z, o2_z, o3_z, o4_z, o5_z, o6_z⟩
                rcases pr_num R' (by decide) (by decide) q1341_z q1351_z with ⟨v4_z, x4_z, p4_z, rfl, rfl, lo4_z, hi4_z, R, le4_z, got, X, Y, t7_z, t167_z⟩ | ⟨rfl, F⟩
                · replace A := rp_x (by decide) A' X Y
                  replace B := rp_tk B' t7_z t167_z Y
                  clear A' B' R'
                  replace le4_z : x.toInt ≤ p4_z.toInt := Int.le_trans (Int.le_trans le3_z R8) le4_z
                  replace ecb : rg_v h1340_z 23 2 = 0 := (rx_v X (o := 23) (k := 2) (by decide)).trans ecb
                  replace ect : rg_v h1340_z 23 4 = ct := (rx_v X (o := 23) (k := 4) (by decide)).trans ect
                  replace ecl : rg_v h1340_z 23 9 = cl := (rx_v X (o := 23) (k := 9) (by decide)).trans ecl
                  replace ecr : rg_v h1340_z 23 12 = cr := (rx_v X (o := 23) (k := 12) (by decide)).trans ecr
                  replace E0 : rg_v h1340_z 40 0 = rg_v h1350_z 169 4 := (rx_v X (o := 40) (k := 0) (by decide)).trans (E0.trans (rx_w Y (o := 169) (k := 4) (by omega) (by decide)).symm)
                  have E1 : rg_v h1340_z 40 1 = rg_v h1350_z 170 28 := (rx_v X (o := 40) (k := 1) (by decide)).trans (Eq.trans (rfl) (rx_w Y (o := 170) (k := 28) (by omega) (by decide)).symm)
                  replace hm_z : rn _ _ _ _ [.int 1] _ _ _ := hm_z
                  replace hc_z : rn _ _ _ _ [.int v4_z, .ref 40] _ _ _ := hc_z
                  clear a1_z a2_z a3_z a4_z a5_z a6_z nb1_z nb2_z nb3_z nt1_z nt2_z nt3_z nl1_z nl2_z nl3_z nr1_z nr2_z nr3_z nk1_z nk2_z nk3_z AC0 AC1 AC2 AC3 AD AE AG c1_z c2_z c3_z c4_z c5_z c6_z c7_z c8_z m2_z m3_z m4_z m5_z m6_z m7_z m8_z R3 R4 R5 R6 R7 R8 R9 R10
                  obtain ⟨⟨⟨a1_z, a2_z, a3_z, a4_z, a5_z, a6_z⟩, ⟨nb1_z, nb2_z, nb3_z⟩, ⟨nt1_z, nt2_z, nt3_z⟩, ⟨nl1_z, nl2_z, nl3_z⟩, ⟨nr1_z, nr2_z, nr3_z⟩, ⟨nk1_z, nk2_z, nk3_z⟩, ⟨AC0, AC1, AC2, AC3⟩, AD, AE, AG⟩, ⟨⟨c1_z, c2_z, c3_z, c4_z, c5_z, c6_z, c7_z, c8_z⟩, ⟨m2_z, m3_z, m4_z, m5_z, m6_z, m7_z, m8_z⟩, R3, R4, R5, R6, R7, R8, R9, R10⟩⟩ := (⟨A, R⟩ : rp 23 h1340_z h1350_z ∧ rq T S x4_z p4_z 23 h1340_z h1350_z)
                  replace hc_z := rn_put (am_cur_of (i := (91, 3, .putfield 178, (3, 2, 208), 0)) (by decide +kernel)) (by decide +kernel) hc_z
                  replace hc_z := rn_aload_n (am_cur_of (i := (94, 1, .aload_n 1, (0, 0, 0), 0)) (by decide +kernel)) g1_z hc_z
                  replace hc_z := rn_aload_n (am_cur_of (i := (95, 1, .aload_n 0, (0, 0, 0), 0)) (by decide +kernel)) g0_z hc_z
                  replace hc_z := rn_iconst (w := 1) (am_cur_of (i := (96, 1, .iconst 1, (0, 0, 0), 0)) (by decide +kernel)) (by decide) hc_z
                  replace hc_z := rn_bipush (w := 20) (am_cur_of (i := (97, 2, .bipush 20, (0, 0, 0), 0)) (by decide +kernel)) (by decide) hc_z
                  replace hc_z := rn_callV (M' := am_m30) (o := 44) (ar := [.int 20, .int 1]) (rest := [.ref 40]) (L := lv_args 0 [.ref 44, .int 1, .int 20]) (am_cur_of (i := (99, 3, .invokevirtual 142, (30, 773, 3), 0)) (by decide +kernel)) rfl rfl rfl rfl hc_z
                  obtain ⟨r1352_z, h1353_z, q1354_z, hc_z⟩ := hc_z
                  replace hm_z := rn_ifT (am_cur_of (i := (116, 3, .ifCond .ne 5, (69, 0, 0), 0)) (by decide +kernel)) (by decide) hm_z
                  replace hm_z := rn_aload_n (am_cur_of (i := (121, 1, .aload_n 0, (0, 0, 0), 0)) (by decide +kernel)) g0m hm_z
                  replace hm_z := rn_getR (x := 170) (am_cur_of (i := (122, 3, .getfield 30, (12, 25, 1409), 0)) (by decide +kernel)) (by decide +kernel) hm_z
                  replace hm_z := rn_iload_n (am_cur_of (i := (125, 1, .iload_n 1, (0, 0, 0), 0)) (by decide +kernel)) g1m hm_z
                  replace hm_z := rn_iload_n (am_cur_of (i := (126, 1, .iload_n 2, (0, 0, 0), 0)) (by decide +kernel)) g2m hm_z
                  replace hm_z := rn_iadd (w := 29) (am_cur_of (i := (127, 1, .iadd, (0, 0, 0), 0)) (by decide +kernel)) (by decide) hm_z
                  replace hm_z := rn_aload_n (am_cur_of (i := (128, 1, .aload_n 0, (0, 0, 0), 0)) (by decide +kernel)) g0m hm_z
                  replace hm_z := rn_getI (v := v4_z) (am_cur_of (i := (129, 3, .getfield 188, (12, 11, 1395), 0)) (by decide +kernel)) (by decide +kernel) got hm_z
                  replace hm_z := rn_iastore (N := 56) (q := 29) (am_cur_of (i := (132, 1, .iastore, (0, 0, 0), 0)) (by decide +kernel)) (by decide +kernel) rfl hm_z
                  obtain ⟨p1355_z, hm_z⟩ := hm_z
                  replace hm_z := rn_iinc (w := 2) (am_cur_of (i := (133, 3, .iinc 2 1, (0, 0, 0), 0)) (by decide +kernel)) g2m (by decide) hm_z
                  obtain ⟨_, s1356_z, s1357_z, g2m, hm_z⟩ := hm_z
                  replace g0m := s1356_z 0 _ (by decide) rfl g0m
                  replace g1m := s1356_z 1 _ (by decide) rfl g1m
                  replace g3m := s1356_z 3 _ (by decide) rfl g3m
                  replace g4m := s1356_z 4 _ (by decide) rfl g4m
                  clear s1356_z s1357_z
                  replace hm_z := rn_goto (am_cur_of (i := (136, 3, .goto (-87), (29, 0, 0), 0)) (by decide +kernel)) hm_z
                  replace hm_z := rn_iload_n (am_cur_of (i := (49, 1, .iload_n 2, (0, 0, 0), 0)) (by decide +kernel)) g2m hm_z
                  replace hm_z := rn_bipush (w := 7) (am_cur_of (i := (50, 2, .bipush 7, (0, 0, 0), 0)) (by decide +kernel)) (by decide) hm_z
                  replace hm_z := rn_cmpF (am_cur_of (i := (52, 3, .if_icmp .ge 87, (79, 0, 0), 0)) (by decide +kernel)) (by decide) hm_z
                  replace hm_z := rn_iload_n (am_cur_of (i := (55, 1, .iload_n 2, (0, 0, 0), 0)) (by decide +kernel)) g2m hm_z
                  replace hm_z := rn_ifF (am_cur_of (i := (56, 3, .ifCond .eq 13, (40, 0, 0), 0)) (by decide +kernel)) (by decide) hm_z
                  replace hm_z := rn_iload_n (am_cur_of (i := (59, 1, .iload_n 2, (0, 0, 0), 0)) (by decide +kernel)) g2m hm_z
                  replace hm_z := rn_iconst (w := 2) (am_cur_of (i := (60, 1, .iconst 2, (0, 0, 0), 0)) (by decide +kernel)) (by decide) hm_z
                  replace hm_z := rn_cmpT (am_cur_of (i := (61, 3, .if_icmp .eq 8, (40, 0, 0), 0)) (by decide +kernel)) (by decide) hm_z
                  replace hm_z := rn_iconst (w := 1) (am_cur_of (i := (69, 1, .iconst 1, (0, 0, 0), 0)) (by decide +kernel)) (by decide) hm_z
                  replace hm_z := rn_goto (am_cur_of (i := (70, 3, .goto 4, (43, 0, 0), 0)) (by decide +kernel)) hm_z
                  replace hm_z := rn_istore_n (am_cur_of (i := (74, 1, .istore_n 3, (0, 0, 0), 0)) (by decide +kernel)) hm_z
                  obtain ⟨_, s1358_z, s1359_z, g3m, hm_z⟩ := hm_z
                  replace g0m := s1358_z 0 _ (by decide) rfl g0m
                  replace g1m := s1358_z 1 _ (by decide) rfl g1m
                  replace g2m := s1358_z 2 _ (by decide) rfl g2m
                  replace g4m := s1358_z 4 _ (by decide) rfl g4m
                  clear s1358_z s1359_z
                  replace hm_z := rn_iload_n (am_cur_of (i := (75, 1, .iload_n 2, (0, 0, 0), 0)) (by decide +kernel)) g2m hm_z
                  replace hm_z := rn_iconst (w := 1) (am_cur_of (i := (76, 1, .iconst 1, (0, 0, 0), 0)) (by decide +kernel)) (by decide) hm_z
                  replace hm_z := rn_cmpF (am_cur_of (i := (77, 3, .if_icmp .eq 8, (50, 0, 0), 0)) (by decide +kernel)) (by decide) hm_z
                  replace hm_z := rn_iload_n (am_cur_of (i := (80, 1, .iload_n 2, (0, 0, 0), 0)) (by decide +kernel)) g2m hm_z
                  replace hm_z := rn_iconst (w := 2) (am_cur_of (i := (81, 1, .iconst 2, (0, 0, 0), 0)) (by decide +kernel)) (by decide) hm_z
                  replace hm_z := rn_cmpF (am_cur_of (i := (82, 3, .if_icmp .ne 8, (52, 0, 0), 0)) (by decide +kernel)) (by decide) hm_z
                  replace hm_z := rn_bipush (w := 20) (am_cur_of (i := (85, 2, .bipush 20, (0, 0, 0), 0)) (by decide +kernel)) (by decide) hm_z
                  replace hm_z := rn_goto (am_cur_of (i := (87, 3, .goto 20, (61, 0, 0), 0)) (by decide +kernel)) hm_z
                  replace hm_z := rn_istore (am_cur_of (i := (107, 2, .istore 4, (0, 0, 0), 0)) (by decide +kernel)) hm_z
                  obtain ⟨_, s1360_z, s1361_z, g4m, hm_z⟩ := hm_z
                  replace g0m := s1360_z 0 _ (by decide) rfl g0m
                  replace g1m := s1360_z 1 _ (by decide) rfl g1m
                  replace g2m := s1360_z 2 _ (by decide) rfl g2m
                  replace g3m := s1360_z 3 _ (by decide) rfl g3m
                  clear s1360_z s1361_z
                  replace hm_z := rn_aload_n (am_cur_of (i := (109, 1, .aload_n 0, (0, 0, 0), 0)) (by decide +kernel)) g0m hm_z
                  replace hm_z := rn_iload_n (am_cur_of (i := (110, 1, .iload_n 3, (0, 0, 0), 0)) (by decide +kernel)) g3m hm_z
                  replace hm_z := rn_iload (am_cur_of (i := (111, 2, .iload 4, (0, 0, 0), 0)) (by decide +kernel)) g4m hm_z
                  replace hm_z := rn_callV (M' := am_m161) (o := 164) (ar := [.int 20, .int 1]) (rest := []) (L := lv_args 0 [.ref 164, .int 1, .int 20]) (am_cur_of (i := (113, 3, .invokevirtual 197, (161, 1677, 3), 0)) (by decide +kernel)) rfl rfl rfl rfl hm_z
                  obtain ⟨r1362_z, h1363_z, q1364_z, hm_z⟩ := hm_z
                  have R' : rq T S x4_z p4_z 23 (am_up h1340_z 40 2 (.int v4_z)) (am_up h1350_z 170 29 (.int v4_z)) := ⟨⟨c1_z, c2_z, c3_z, c4_z, c5_z, c6_z, fun k hk_z => c7_z k hk_z, fun k hk_z => c8_z k hk_z⟩, ⟨m2_z, m3_z, m4_z, m5_z, m6_z, fun k hk_z => m7_z k hk_z, fun k hk_z => m8_z k hk_z⟩, R3, R4, R5, R6, R7, R8, R9, R10⟩
                  have A' : rp 23 (am_up h1340_z 40 2 (.int v4_z)) (am_up h1350_z 170 29 (.int v4_z)) := ⟨⟨a1_z, a2_z, a3_z, a4_z, a5_z, a6_z⟩, ⟨nb1_z, nb2_z, nb3_z⟩, ⟨nt1_z, nt2_z, nt3_z⟩, ⟨nl1_z, nl2_z, nl3_z⟩, ⟨nr1_z, nr2_z, nr3_z⟩, ⟨nk1_z, nk2_z, nk3_z⟩, ⟨fun hb_z => absurd hb_z (by rw [show rg_v (am_up h1340_z 40 2 (.int v4_z)) 23 2 = 0 from ecb]; decide), fun hb_z => absurd hb_z (by rw [show rg_v (am_up h1340_z 40 2 (.int v4_z)) 23 2 = 0 from ecb]; decide), fun hb_z => absurd hb_z (by rw [show rg_v (am_up h1340_z 40 2 (.int v4_z)) 23 2 = 0 from ecb]; decide), fun hb_z => absurd hb_z (by rw [show rg_v (am_up h1340_z 40 2 (.int v4_z)) 23 2 = 0 from ecb]; decide)⟩, fun t ht => AD t ht, fun t ht => AE t ht, fun t ht => AG t ht⟩
                  have B' : rp_t (am_up h1340_z 40 2 (.int v4_z)) (am_up h1350_z 170 29 (.int v4_z)) := by
                    obtain ⟨b0_z, b1_z, b2_z, b3_z, b4_z, b5_z, b6_z, t, o0_z, o1_z, o2_z, o3_z, o4_z, o5_z, o6_z⟩ := B
                    exact ⟨b0_z, b1_z, b2_z, b3_z, b4_z, b5_z, b6_z, t, o0_z, o1_z, o2_z, o3_z, o4_z, o5_z, o6_z⟩
                  rcases pr_num R' (by decide) (by decide) q1354_z q1364_z with ⟨v5_z, x5_z, p5_z, rfl, rfl, lo5_z, hi5_z, R, le5_z, got, X, Y, t7_z, t167_z⟩ | ⟨rfl, F⟩
                  · replace A := rp_x (by decide) A' X Y
                    replace B := rp_tk B' t7_z t167_z Y
                    clear A' B' R'
                    replace le5_z : x.toInt ≤ p5_z.toInt := Int.le_trans (Int.le_trans le4_z R8) le5_z
                    replace ecb : rg_v h1353_z 23 2 = 0 := (rx_v X (o := 23) (k := 2) (by decide)).trans ecb
                    replace ect : rg_v h1353_z 23 4 = ct := (rx_v X (o := 23) (k := 4) (by decide)).trans ect
                    replace ecl : rg_v h1353_z 23 9 = cl := (rx_v X (o := 23) (k := 9) (by decide)).trans ecl
                    replace ecr : rg_v h1353_z 23 12 = cr := (rx_v X (o := 23) (k := 12) (by decide)).trans ecr
                    replace E0 : rg_v h1353_z 40 0 = rg_v h1363_z 169 4 := (rx_v X (o := 40) (k := 0) (by decide)).trans (E0.trans (rx_w Y (o := 169) (k := 4) (by omega) (by decide)).symm)
                    replace E1 : rg_v h1353_z 40 1 = rg_v h1363_z 170 28 := (rx_v X (o := 40) (k := 1) (by decide)).trans (E1.trans (rx_w Y (o := 170) (k := 28) (by omega) (by decide)).symm)
                    have E2 : rg_v h1353_z 40 2 = rg_v h1363_z 170 29 := (rx_v X (o := 40) (k := 2) (by decide)).trans (Eq.trans (rfl) (rx_w Y (o := 170) (k := 29) (by omega) (by decide)).symm)
                    replace hm_z : rn _ _ _ _ [.int 1] _ _ _ := hm_z
                    replace hc_z : rn _ _ _ _ [.int v5_z, .ref 40] _ _ _ := hc_z
                    clear a1_z a2_z a3_z a4_z a5_z a6_z nb1_z nb2_z nb3_z nt1_z nt2_z nt3_z nl1_z nl2_z nl3_z nr1_z nr2_z nr3_z nk1_z nk2_z nk3_z AC0 AC1 AC2 AC3 AD AE AG c1_z c2_z c3_z c4_z c5_z c6_z c7_z c8_z m2_z m3_z m4_z m5_z m6_z m7_z m8_z R3 R4 R5 R6 R7 R8 R9 R10
                    obtain ⟨⟨⟨a1_z, a2_z, a3_z, a4_z, a5_z, a6_z⟩, ⟨nb1_z, nb2_z, nb3_z⟩, ⟨nt1_z, nt2_z, nt3_z⟩, ⟨nl1_z, nl2_z, nl3_z⟩, ⟨nr1_z, nr2_z, nr3_z⟩, ⟨nk1_z, nk2_z, nk3_z⟩, ⟨AC0, AC1, AC2, AC3⟩, AD, AE, AG⟩, ⟨⟨c1_z, c2_z, c3_z, c4_z, c5_z, c6_z, c7_z, c8_z⟩, ⟨m2_z, m3_z, m4_z, m5_z, m6_z, m7_z, m8_z⟩, R3, R4, R5, R6, R7, R8, R9, R10⟩⟩ := (⟨A, R⟩ : rp 23 h1353_z h1363_z ∧ rq T S x5_z p5_z 23 h1353_z h1363_z)
                    replace hc_z := rn_put (am_cur_of (i := (102, 3, .putfield 181, (3, 3, 211), 0)) (by decide +kernel)) (by decide +kernel) hc_z
                    replace hc_z := rn_aload_n (am_cur_of (i := (105, 1, .aload_n 1, (0, 0, 0), 0)) (by decide +kernel)) g1_z hc_z
                    replace hc_z := rn_aload_n (am_cur_of (i := (106, 1, .aload_n 0, (0, 0, 0), 0)) (by decide +kernel)) g0_z hc_z
                    replace hc_z := rn_iconst (w := 1) (am_cur_of (i := (107, 1, .iconst 1, (0, 0, 0), 0)) (by decide +kernel)) (by decide) hc_z
                    replace hc_z := rn_bipush (w := 9) (am_cur_of (i := (108, 2, .bipush 9, (0, 0, 0), 0)) (by decide +kernel)) (by decide) hc_z
                    replace hc_z := rn_callV (M' := am_m30) (o := 44) (ar := [.int 9, .int 1]) (rest := [.ref 40]) (L := lv_args 0 [.ref 44, .int 1, .int 9]) (am_cur_of (i := (110, 3, .invokevirtual 142, (30, 773, 3), 0)) (by decide +kernel)) rfl rfl rfl rfl hc_z
                    obtain ⟨r1365_z, h1366_z, q1367_z, hc_z⟩ := hc_z
                    replace hm_z := rn_ifT (am_cur_of (i := (116, 3, .ifCond .ne 5, (69, 0, 0), 0)) (by decide +kernel)) (by decide) hm_z
                    replace hm_z := rn_aload_n (am_cur_of (i := (121, 1, .aload_n 0, (0, 0, 0), 0)) (by decide +kernel)) g0m hm_z
                    replace hm_z := rn_getR (x := 170) (am_cur_of (i := (122, 3, .getfield 30, (12, 25, 1409), 0)) (by decide +kernel)) (by decide +kernel) hm_z
                    replace hm_z := rn_iload_n (am_cur_of (i := (125, 1, .iload_n 1, (0, 0, 0), 0)) (by decide +kernel)) g1m hm_z
                    replace hm_z := rn_iload_n (am_cur_of (i := (126, 1, .iload_n 2, (0, 0, 0), 0)) (by decide +kernel)) g2m hm_z
                    replace hm_z := rn_iadd (w := 30) (am_cur_of (i := (127, 1, .iadd, (0, 0, 0), 0)) (by decide +kernel)) (by decide) hm_z
                    replace hm_z := rn_aload_n (am_cur_of (i := (128, 1, .aload_n 0, (0, 0, 0), 0)) (by decide +kernel)) g0m hm_z
                    replace hm_z := rn_getI (v := v5_z) (am_cur_of (i := (129, 3, .getfield 188, (12, 11, 1395), 0)) (by decide +kernel)) (by decide +kernel) got hm_z
                    replace hm_z := rn_iastore (N := 56) (q := 30) (am_cur_of (i := (132, 1, .iastore, (0, 0, 0), 0)) (by decide +kernel)) (by decide +kernel) rfl hm_z
                    obtain ⟨p1368_z, hm_z⟩ := hm_z
                    replace hm_z := rn_iinc (w := 3) (am_cur_of (i := (133, 3, .iinc 2 1, (0, 0, 0), 0)) (by decide +kernel)) g2m (by decide) hm_z
                    obtain ⟨_, s1369_z, s1370_z, g2m, hm_z⟩ := hm_z
                    replace g0m := s1369_z 0 _ (by decide) rfl g0m
                    replace g1m := s1369_z 1 _ (by decide) rfl g1m
                    replace g3m := s1369_z 3 _ (by decide) rfl g3m
                    replace g4m := s1369_z 4 _ (by decide) rfl g4m
                    clear s1369_z s1370_z
                    replace hm_z := rn_goto (am_cur_of (i := (136, 3, .goto (-87), (29, 0, 0), 0)) (by decide +kernel)) hm_z
                    replace hm_z := rn_iload_n (am_cur_of (i := (49, 1, .iload_n 2, (0, 0, 0), 0)) (by decide +kernel)) g2m hm_z
                    replace hm_z := rn_bipush (w := 7) (am_cur_of (i := (50, 2, .bipush 7, (0, 0, 0), 0)) (by decide +kernel)) (by decide) hm_z
                    replace hm_z := rn_cmpF (am_cur_of (i := (52, 3, .if_icmp .ge 87, (79, 0, 0), 0)) (by decide +kernel)) (by decide) hm_z
                    replace hm_z := rn_iload_n (am_cur_of (i := (55, 1, .iload_n 2, (0, 0, 0), 0)) (by decide +kernel)) g2m hm_z
                    replace hm_z := rn_ifF (am_cur_of (i := (56, 3, .ifCond .eq 13, (40, 0, 0), 0)) (by decide +kernel)) (by decide) hm_z
                    replace hm_z := rn_iload_n (am_cur_of (i := (59, 1, .iload_n 2, (0, 0, 0), 0)) (by decide +kernel)) g2m hm_z
                    replace hm_z := rn_iconst (w := 2) (am_cur_of (i := (60, 1, .iconst 2, (0, 0, 0), 0)) (by decide +kernel)) (by decide) hm_z
                    replace hm_z := rn_cmpF (am_cur_of (i := (61, 3, .if_icmp .eq 8, (40, 0, 0), 0)) (by decide +kernel)) (by decide) hm_z
                    replace hm_z := rn_iload_n (am_cur_of (i := (64, 1, .iload_n 2, (0, 0, 0), 0)) (by decide +kernel)) g2m hm_z
                    replace hm_z := rn_iconst (w := 3) (am_cur_of (i := (65, 1, .iconst 3, (0, 0, 0), 0)) (by decide +kernel)) (by decide) hm_z
                    replace hm_z := rn_cmpF (am_cur_of (i := (66, 3, .if_icmp .ne 7, (42, 0, 0), 0)) (by decide +kernel)) (by decide) hm_z
                    replace hm_z := rn_iconst (w := 1) (am_cur_of (i := (69, 1, .iconst 1, (0, 0, 0), 0)) (by decide +kernel)) (by decide) hm_z
                    replace hm_z := rn_goto (am_cur_of (i := (70, 3, .goto 4, (43, 0, 0), 0)) (by decide +kernel)) hm_z
                    replace hm_z := rn_istore_n (am_cur_of (i := (74, 1, .istore_n 3, (0, 0, 0), 0)) (by decide +kernel)) hm_z
                    obtain ⟨_, s1371_z, s1372_z, g3m, hm_z⟩ := hm_z
                    replace g0m := s1371_z 0 _ (by decide) rfl g0m
                    replace g1m := s1371_z 1 _ (by decide) rfl g1m
                    replace g2m := s1371_z 2 _ (by decide) rfl g2m
                    replace g4m := s1371_z 4 _ (by decide) rfl g4m
                    clear s1371_z s1372_z
                    replace hm_z := rn_iload_n (am_cur_of (i := (75, 1, .iload_n 2, (0, 0, 0), 0)) (by decide +kernel)) g2m hm_z
                    replace hm_z := rn_iconst (w := 1) (am_cur_of (i := (76, 1, .iconst 1, (0, 0, 0), 0)) (by decide +kernel)) (by decide) hm_z
                    replace hm_z := rn_cmpF (am_cur_of (i := (77, 3, .if_icmp .eq 8, (50, 0, 0), 0)) (by decide +kernel)) (by decide) hm_z
                    replace hm_z := rn_iload_n (am_cur_of (i := (80, 1, .iload_n 2, (0, 0, 0), 0)) (by decide +kernel)) g2m hm_z
                    replace hm_z := rn_iconst (w := 2) (am_cur_of (i := (81, 1, .iconst 2, (0, 0, 0), 0)) (by decide +kernel)) (by decide) hm_z
                    replace hm_z := rn_cmpT (am_cur_of (i := (82, 3, .if_icmp .ne 8, (52, 0, 0), 0)) (by decide +kernel)) (by decide) hm_z
                    replace hm_z := rn_iload_n (am_cur_of (i := (90, 1, .iload_n 2, (0, 0, 0), 0)) (by decide +kernel)) g2m hm_z
                    replace hm_z := rn_iconst (w := 3) (am_cur_of (i := (91, 1, .iconst 3, (0, 0, 0), 0)) (by decide +kernel)) (by decide) hm_z
                    replace hm_z := rn_cmpT (am_cur_of (i := (92, 3, .if_icmp .eq 8, (58, 0, 0), 0)) (by decide +kernel)) (by decide) hm_z
                    replace hm_z := rn_bipush (w := 9) (am_cur_of (i := (100, 2, .bipush 9, (0, 0, 0), 0)) (by decide +kernel)) (by decide) hm_z
                    replace hm_z := rn_goto (am_cur_of (i := (102, 3, .goto 5, (61, 0, 0), 0)) (by decide +kernel)) hm_z
                    replace hm_z := rn_istore (am_cur_of (i := (107, 2, .istore 4, (0, 0, 0), 0)) (by decide +kernel)) hm_z
                    obtain ⟨_, s1373_z, s1374_z, g4m, hm_z⟩ := hm_z
                    replace g0m := s1373_z 0 _ (by decide) rfl g0m
                    replace g1m := s1373_z 1 _ (by decide) rfl g1m
                    replace g2m := s1373_z 2 _ (by decide) rfl g2m
                    replace g3m := s1373_z 3 _ (by decide) rfl g3m
                    clear s1373_z s1374_z
                    replace hm_z := rn_aload_n (am_cur_of (i := (109, 1, .aload_n 0, (0, 0, 0), 0)) (by decide +kernel)) g0m hm_z
                    replace hm_z := rn_iload_n (am_cur_of (i := (110, 1, .iload_n 3, (0, 0, 0), 0)) (by decide +kernel)) g3m hm_z
                    replace hm_z := rn_iload (am_cur_of (i := (111, 2, .iload 4, (0, 0, 0), 0)) (by decide +kernel)) g4m hm_z
                    replace hm_z := rn_callV (M' := am_m161) (o := 164) (ar := [.int 9, .int 1]) (rest := []) (L := lv_args 0 [.ref 164, .int 1, .int 9]) (am_cur_of (i := (113, 3, .invokevirtual 197, (161, 1677, 3), 0)) (by decide +kernel)) rfl rfl rfl rfl hm_z
                    obtain ⟨r1375_z, h1376_z, q1377_z, hm_z⟩ := hm_z
                    have R' : rq T S x5_z p5_z 23 (am_up h1353_z 40 3 (.int v5_z)) (am_up h1363_z 170 30 (.int v5_z)) := ⟨⟨c1_z, c2_z, c3_z, c4_z, c5_z, c6_z, fun k hk_z => c7_z k hk_z, fun k hk_z => c8_z k hk_z⟩, ⟨m2_z, m3_z, m4_z, m5_z, m6_z, fun k hk_z => m7_z k hk_z, fun k hk_z => m8_z k hk_z⟩, R3, R4, R5, R6, R7, R8, R9, R10⟩
                    have A' : rp 23 (am_up h1353_z 40 3 (.int v5_z)) (am_up h1363_z 170 30 (.int v5_z)) := ⟨⟨a1_z, a2_z, a3_z, a4_z, a5_z, a6_z⟩, ⟨nb1_z, nb2_z, nb3_z⟩, ⟨nt1_z, nt2_z, nt3_z⟩, ⟨nl1_z, nl2_z, nl3_z⟩, ⟨nr1_z, nr2_z, nr3_z⟩, ⟨nk1_z, nk2_z, nk3_z⟩, ⟨fun hb_z => absurd hb_z (by rw [show rg_v (am_up h1353_z 40 3 (.int v5_z)) 23 2 = 0 from ecb]; decide), fun hb_z => absurd hb_z (by rw [show rg_v (am_up h1353_z 40 3 (.int v5_z)) 23 2 = 0 from ecb]; decide), fun hb_z => absurd hb_z (by rw [show rg_v (am_up h1353_z 40 3 (.int v5_z)) 23 2 = 0 from ecb]; decide), fun hb_z => absurd hb_z (by rw [show rg_v (am_up h1353_z 40 3 (.int v5_z)) 23 2 = 0 from ecb]; decide)⟩, fun t ht => AD t ht, fun t ht => AE t ht, fun t ht => AG t ht⟩
                    have B' : rp_t (am_up h1353_z 40 3 (.int v5_z)) (am_up h1363_z 170 30 (.int v5_z)) := by
                      obtain ⟨b0_z, b1_z, b2_z, b3_z, b4_z, b5_z, b6_z, t, o0_z, o1_z, o2_z, o3_z, o4_z, o5_z, o6_z⟩ := B
                      exact ⟨b0_z, b1_z, b2_z, b3_z, b4_z, b5_z, b6_z, t, o0_z, o1_z, o2_z, o3_z, o4_z, o5_z, o6_z⟩
                    rcases pr_num R' (by decide) (by decide) q1367_z q1377_z with ⟨v6_z, x6_z, p6_z, rfl, rfl, lo6_z, hi6_z, R, le6_z, got, X, Y, t7_z, t167_z⟩ | ⟨rfl, F⟩
                    · replace A := rp_x (by decide) A' X Y
                      replace B := rp_tk B' t7_z t167_z Y
                      clear A' B' R'
                      replace le6_z : x.toInt ≤ p6_z.toInt := Int.le_trans (Int.le_trans le5_z R8) le6_z
                      replace ecb : rg_v h1366_z 23 2 = 0 := (rx_v X (o := 23) (k := 2) (by decide)).trans ecb
                      replace ect : rg_v h1366_z 23 4 = ct := (rx_v X (o := 23) (k := 4) (by decide)).trans ect
                      replace ecl : rg_v h1366_z 23 9 = cl := (rx_v X (o := 23) (k := 9) (by decide)).trans ecl
                      replace ecr : rg_v h1366_z 23 12 = cr := (rx_v X (o := 23) (k := 12) (by decide)).trans ecr
                      replace E0 : rg_v h1366_z 40 0 = rg_v h1376_z 169 4 := (rx_v X (o := 40) (k := 0) (by decide)).trans (E0.trans (rx_w Y (o := 169) (k := 4) (by omega) (by decide)).symm)
                      replace E1 : rg_v h1366_z 40 1 = rg_v h1376_z 170 28 := (rx_v X (o := 40) (k := 1) (by decide)).trans (E1.trans (rx_w Y (o := 170) (k := 28) (by omega) (by decide)).symm)
                      replace E2 : rg_v h1366_z 40 2 = rg_v h1376_z 170 29 := (rx_v X (o := 40) (k := 2) (by decide)).trans (E2.trans (rx_w Y (o := 170) (k := 29) (by omega) (by decide)).symm)
                      have E3 : rg_v h1366_z 40 3 = rg_v h1376_z 170 30 := (rx_v X (o := 40) (k := 3) (by decide)).trans (Eq.trans (rfl) (rx_w Y (o := 170) (k := 30) (by omega) (by decide)).symm)
                      replace hm_z : rn _ _ _ _ [.int 1] _ _ _ := hm_z
                      replace hc_z : rn _ _ _ _ [.int v6_z, .ref 40] _ _ _ := hc_z
                      clear a1_z a2_z a3_z a4_z a5_z a6_z nb1_z nb2_z nb3_z nt1_z nt2_z nt3_z nl1_z nl2_z nl3_z nr1_z nr2_z nr3_z nk1_z nk2_z nk3_z AC0 AC1 AC2 AC3 AD AE AG c1_z c2_z c3_z c4_z c5_z c6_z c7_z c8_z m2_z m3_z m4_z m5_z m6_z m7_z m8_z R3 R4 R5 R6 R7 R8 R9 R10
                      obtain ⟨⟨⟨a1_z, a2_z, a3_z, a4_z, a5_z, a6_z⟩, ⟨nb1_z, nb2_z, nb3_z⟩, ⟨nt1_z, nt2_z, nt3_z⟩, ⟨nl1_z, nl2_z, nl3_z⟩, ⟨nr1_z, nr2_z, nr3_z⟩, ⟨nk1_z, nk2_z, nk3_z⟩, ⟨AC0, AC1, AC2, AC3⟩, AD, AE, AG⟩, ⟨⟨c1_z, c2_z, c3_z, c4_z, c5_z, c6_z, c7_z, c8_z⟩, ⟨m2_z, m3_z, m4_z, m5_z, m6_z, m7_z, m8_z⟩, R3, R4, R5, R6, R7, R8, R9, R10⟩⟩ := (⟨A, R⟩ : rp 23 h1366_z h1376_z ∧ rq T S x6_z p6_z 23 h1366_z h1376_z)
                      replace hc_z := rn_put (am_cur_of (i := (113, 3, .putfield 184, (3, 4, 216), 0)) (by decide +kernel)) (by decide +kernel) hc_z
                      replace hc_z := rn_aload_n (am_cur_of (i := (116, 1, .aload_n 1, (0, 0, 0), 0)) (by decide +kernel)) g1_z hc_z
                      replace hc_z := rn_aload_n (am_cur_of (i := (117, 1, .aload_n 0, (0, 0, 0), 0)) (by decide +kernel)) g0_z hc_z
                      replace hc_z := rn_iconst (w := 0) (am_cur_of (i := (118, 1, .iconst 0, (0, 0, 0), 0)) (by decide +kernel)) (by decide) hc_z
                      replace hc_z := rn_bipush (w := 99) (am_cur_of (i := (119, 2, .bipush 99, (0, 0, 0), 0)) (by decide +kernel)) (by decide) hc_z
                      replace hc_z := rn_callV (M' := am_m30) (o := 44) (ar := [.int 99, .int 0]) (rest := [.ref 40]) (L := lv_args 0 [.ref 44, .int 0, .int 99]) (am_cur_of (i := (121, 3, .invokevirtual 142, (30, 773, 3), 0)) (by decide +kernel)) rfl rfl rfl rfl hc_z
                      obtain ⟨r1378_z, h1379_z, q1380_z, hc_z⟩ := hc_z
                      replace hm_z := rn_ifT (am_cur_of (i := (116, 3, .ifCond .ne 5, (69, 0, 0), 0)) (by decide +kernel)) (by decide) hm_z
                      replace hm_z := rn_aload_n (am_cur_of (i := (121, 1, .aload_n 0, (0, 0, 0), 0)) (by decide +kernel)) g0m hm_z
                      replace hm_z := rn_getR (x := 170) (am_cur_of (i := (122, 3, .getfield 30, (12, 25, 1409), 0)) (by decide +kernel)) (by decide +kernel) hm_z
                      replace hm_z := rn_iload_n (am_cur_of (i := (125, 1, .iload_n 1, (0, 0, 0), 0)) (by decide +kernel)) g1m hm_z
                      replace hm_z := rn_iload_n (am_cur_of (i := (126, 1, .iload_n 2, (0, 0, 0), 0)) (by decide +kernel)) g2m hm_z
                      replace hm_z := rn_iadd (w := 31) (am_cur_of (i := (127, 1, .iadd, (0, 0, 0), 0)) (by decide +kernel)) (by decide) hm_z
                      replace hm_z := rn_aload_n (am_cur_of (i := (128, 1, .aload_n 0, (0, 0, 0), 0)) (by decide +kernel)) g0m hm_z
                      replace hm_z := rn_getI (v := v6_z) (am_cur_of (i := (129, 3, .getfield 188, (12, 11, 1395), 0)) (by decide +kernel)) (by decide +kernel) got hm_z
                      replace hm_z := rn_iastore (N := 56) (q := 31) (am_cur_of (i := (132, 1, .iastore, (0, 0, 0), 0)) (by decide +kernel)) (by decide +kernel) rfl hm_z
                      obtain ⟨p1381_z, hm_z⟩ := hm_z
                      replace hm_z := rn_iinc (w := 4) (am_cur_of (i := (133, 3, .iinc 2 1, (0, 0, 0), 0)) (by decide +kernel)) g2m (by decide) hm_z
                      obtain ⟨_, s1382_z, s1383_z, g2m, hm_z⟩ := hm_z
                      replace g0m := s1382_z 0 _ (by decide) rfl g0m
                      replace g1m := s1382_z 1 _ (by decide) rfl g1m
                      replace g3m := s1382_z 3 _ (by decide) rfl g3m
                      replace g4m := s1382_z 4 _ (by decide) rfl g4m
                      clear s1382_z s1383_z
                      replace hm_z := rn_goto (am_cur_of (i := (136, 3, .goto (-87), (29, 0, 0), 0)) (by decide +kernel)) hm_z
                      replace hm_z := rn_iload_n (am_cur_of (i := (49, 1, .iload_n 2, (0, 0, 0), 0)) (by decide +kernel)) g2m hm_z
                      replace hm_z := rn_bipush (w := 7) (am_cur_of (i := (50, 2, .bipush 7, (0, 0, 0), 0)) (by decide +kernel)) (by decide) hm_z
                      replace hm_z := rn_cmpF (am_cur_of (i := (52, 3, .if_icmp .ge 87, (79, 0, 0), 0)) (by decide +kernel)) (by decide) hm_z
                      replace hm_z := rn_iload_n (am_cur_of (i := (55, 1, .iload_n 2, (0, 0, 0), 0)) (by decide +kernel)) g2m hm_z
                      replace hm_z := rn_ifF (am_cur_of (i := (56, 3, .ifCond .eq 13, (40, 0, 0), 0)) (by decide +kernel)) (by decide) hm_z
                      replace hm_z := rn_iload_n (am_cur_of (i := (59, 1, .iload_n 2, (0, 0, 0), 0)) (by decide +kernel)) g2m hm_z
                      replace hm_z := rn_iconst (w := 2) (am_cur_of (i := (60, 1, .iconst 2, (0, 0, 0), 0)) (by decide +kernel)) (by decide) hm_z
                      replace hm_z := rn_cmpF (am_cur_of (i := (61, 3, .if_icmp .eq 8, (40, 0, 0), 0)) (by decide +kernel)) (by decide) hm_z
                      replace hm_z := rn_iload_n (am_cur_of (i := (64, 1, .iload_n 2, (0, 0, 0), 0)) (by decide +kernel)) g2m hm_z
                      replace hm_z := rn_iconst (w := 3) (am_cur_of (i := (65, 1, .iconst 3, (0, 0, 0), 0)) (by decide +kernel)) (by decide) hm_z
                      replace hm_z := rn_cmpT (am_cur_of (i := (66, 3, .if_icmp .ne 7, (42, 0, 0), 0)) (by decide +kernel)) (by decide) hm_z
                      replace hm_z := rn_iconst (w := 0) (am_cur_of (i := (73, 1, .iconst 0, (0, 0, 0), 0)) (by decide +kernel)) (by decide) hm_z
                      replace hm_z := rn_istore_n (am_cur_of (i := (74, 1, .istore_n 3, (0, 0, 0), 0)) (by decide +kernel)) hm_z
                      obtain ⟨_, s1384_z, s1385_z, g3m, hm_z⟩ := hm_z
                      replace g0m := s1384_z 0 _ (by decide) rfl g0m
                      replace g1m := s1384_z 1 _ (by decide) rfl g1m
                      replace g2m := s1384_z 2 _ (by decide) rfl g2m
                      replace g4m := s1384_z 4 _ (by decide) rfl g4m
                      clear s1384_z s1385_z
                      replace hm_z := rn_iload_n (am_cur_of (i := (75, 1, .iload_n 2, (0, 0, 0), 0)) (by decide +kernel)) g2m hm_z
                      replace hm_z := rn_iconst (w := 1) (am_cur_of (i := (76, 1, .iconst 1, (0, 0, 0), 0)) (by decide +kernel)) (by decide) hm_z
                      replace hm_z := rn_cmpF (am_cur_of (i := (77, 3, .if_icmp .eq 8, (50, 0, 0), 0)) (by decide +kernel)) (by decide) hm_z
                      replace hm_z := rn_iload_n (am_cur_of (i := (80, 1, .iload_n 2, (0, 0, 0), 0)) (by decide +kernel)) g2m hm_z
                      replace hm_z := rn_iconst (w := 2) (am_cur_of (i := (81, 1, .iconst 2, (0, 0, 0), 0)) (by decide +kernel)) (by decide) hm_z
                      replace hm_z := rn_cmpT (am_cur_of (i := (82, 3, .if_icmp .ne 8, (52, 0, 0), 0)) (by decide +kernel)) (by decide) hm_z
                      replace hm_z := rn_iload_n (am_cur_of (i := (90, 1, .iload_n 2, (0, 0, 0), 0)) (by decide +kernel)) g2m hm_z
                      replace hm_z := rn_iconst (w := 3) (am_cur_of (i := (91, 1, .iconst 3, (0, 0, 0), 0)) (by decide +kernel)) (by decide) hm_z
                      replace hm_z := rn_cmpF (am_cur_of (i := (92, 3, .if_icmp .eq 8, (58, 0, 0), 0)) (by decide +kernel)) (by decide) hm_z
                      replace hm_z := rn_iload_n (am_cur_of (i := (95, 1, .iload_n 2, (0, 0, 0), 0)) (by decide +kernel)) g2m hm_z
                      replace hm_z := rn_iconst (w := 5) (am_cur_of (i := (96, 1, .iconst 5, (0, 0, 0), 0)) (by decide +kernel)) (by decide) hm_z
                      replace hm_z := rn_cmpT (am_cur_of (i := (97, 3, .if_icmp .ne 8, (60, 0, 0), 0)) (by decide +kernel)) (by decide) hm_z
                      replace hm_z := rn_bipush (w := 99) (am_cur_of (i := (105, 2, .bipush 99, (0, 0, 0), 0)) (by decide +kernel)) (by decide) hm_z
                      replace hm_z := rn_istore (am_cur_of (i := (107, 2, .istore 4, (0, 0, 0), 0)) (by decide +kernel)) hm_z
                      obtain ⟨_, s1386_z, s1387_z, g4m, hm_z⟩ := hm_z
                      replace g0m := s1386_z 0 _ (by decide) rfl g0m
                      replace g1m := s1386_z 1 _ (by decide) rfl g1m
                      replace g2m := s1386_z 2 _ (by decide) rfl g2m
                      replace g3m := s1386_z 3 _ (by decide) rfl g3m
                      clear s1386_z s1387_z
                      replace hm_z := rn_aload_n (am_cur_of (i := (109, 1, .aload_n 0, (0, 0, 0), 0)) (by decide +kernel)) g0m hm_z
                      replace hm_z := rn_iload_n (am_cur_of (i := (110, 1, .iload_n 3, (0, 0, 0), 0)) (by decide +kernel)) g3m hm_z
                      replace hm_z := rn_iload (am_cur_of (i := (111, 2, .iload 4, (0, 0, 0), 0)) (by decide +kernel)) g4m hm_z
                      replace hm_z := rn_callV (M' := am_m161) (o := 164) (ar := [.int 99, .int 0]) (rest := []) (L := lv_args 0 [.ref 164, .int 0, .int 99]) (am_cur_of (i := (113, 3, .invokevirtual 197, (161, 1677, 3), 0)) (by decide +kernel)) rfl rfl rfl rfl hm_z
                      obtain ⟨r1388_z, h1389_z, q1390_z, hm_z⟩ := hm_z
                      have R' : rq T S x6_z p6_z 23 (am_up h1366_z 40 4 (.int v6_z)) (am_up h1376_z 170 31 (.int v6_z)) := ⟨⟨c1_z, c2_z, c3_z, c4_z, c5_z, c6_z, fun k hk_z => c7_z k hk_z, fun k hk_z => c8_z k hk_z⟩, ⟨m2_z, m3_z, m4_z, m5_z, m6_z, fun k hk_z => m7_z k hk_z, fun k hk_z => m8_z k hk_z⟩, R3, R4, R5, R6, R7, R8, R9, R10⟩
                      have A' : rp 23 (am_up h1366_z 40 4 (.int v6_z)) (am_up h1376_z 170 31 (.int v6_z)) := ⟨⟨a1_z, a2_z, a3_z, a4_z, a5_z, a6_z⟩, ⟨nb1_z, nb2_z, nb3_z⟩, ⟨nt1_z, nt2_z, nt3_z⟩, ⟨nl1_z, nl2_z, nl3_z⟩, ⟨nr1_z, nr2_z, nr3_z⟩, ⟨nk1_z, nk2_z, nk3_z⟩, ⟨fun hb_z => absurd hb_z (by rw [show rg_v (am_up h1366_z 40 4 (.int v6_z)) 23 2 = 0 from ecb]; decide), fun hb_z => absurd hb_z (by rw [show rg_v (am_up h1366_z 40 4 (.int v6_z)) 23 2 = 0 from ecb]; decide), fun hb_z => absurd hb_z (by rw [show rg_v (am_up h1366_z 40 4 (.int v6_z)) 23 2 = 0 from ecb]; decide), fun hb_z => absurd hb_z (by rw [show rg_v (am_up h1366_z 40 4 (.int v6_z)) 23 2 = 0 from ecb]; decide)⟩, fun t ht => AD t ht, fun t ht => AE t ht, fun t ht => AG t ht⟩
                      have B' : rp_t (am_up h1366_z 40 4 (.int v6_z)) (am_up h1376_z 170 31 (.int v6_z)) := by
                        obtain ⟨b0_z, b1_z, b2_z, b3_z, b4_z, b5_z, b6_z, t, o0_z, o1_z, o2_z, o3_z, o4_z, o5_z, o6_z⟩ := B
                        exact ⟨b0_z, b1_z, b2_z, b3_z, b4_z, b5_z, b6_z, t, o0_z, o1_z, o2_z, o3_z, o4_z, o5_z, o6_z⟩
                      rcases pr_num R' (by decide) (by decide) q1380_z q1390_z with ⟨v7_z, x7_z, p7_z, rfl, rfl, lo7_z, hi7_z, R, le7_z, got, X, Y, t7_z, t167_z⟩ | ⟨rfl, F⟩
                      · replace A := rp_x (by decide) A' X Y
                        replace B := rp_tk B' t7_z t167_z Y
                        clear A' B' R'
                        replace le7_z : x.toInt ≤ p7_z.toInt := Int.le_trans (Int.le_trans le6_z R8) le7_z
                        replace ecb : rg_v h1379_z 23 2 = 0 := (rx_v X (o := 23) (k := 2) (by decide)).trans ecb
                        replace ect : rg_v h1379_z 23 4 = ct := (rx_v X (o := 23) (k := 4) (by decide)).trans ect
                        replace ecl : rg_v h1379_z 23 9 = cl := (rx_v X (o := 23) (k := 9) (by decide)).trans ecl
                        replace ecr : rg_v h1379_z 23 12 = cr := (rx_v X (o := 23) (k := 12) (by decide)).trans ecr
                        replace E0 : rg_v h1379_z 40 0 = rg_v h1389_z 169 4 := (rx_v X (o := 40) (k := 0) (by decide)).trans (E0.trans (rx_w Y (o := 169) (k := 4) (by omega) (by decide)).symm)
                        replace E1 : rg_v h1379_z 40 1 = rg_v h1389_z 170 28 := (rx_v X (o := 40) (k := 1) (by decide)).trans (E1.trans (rx_w Y (o := 170) (k := 28) (by omega) (by decide)).symm)
                        replace E2 : rg_v h1379_z 40 2 = rg_v h1389_z 170 29 := (rx_v X (o := 40) (k := 2) (by decide)).trans (E2.trans (rx_w Y (o := 170) (k := 29) (by omega) (by decide)).symm)
                        replace E3 : rg_v h1379_z 40 3 = rg_v h1389_z 170 30 := (rx_v X (o := 40) (k := 3) (by decide)).trans (E3.trans (rx_w Y (o := 170) (k := 30) (by omega) (by decide)).symm)
                        have E4 : rg_v h1379_z 40 4 = rg_v h1389_z 170 31 := (rx_v X (o := 40) (k := 4) (by decide)).trans (Eq.trans (rfl) (rx_w Y (o := 170) (k := 31) (by omega) (by decide)).symm)
                        replace hm_z : rn _ _ _ _ [.int 1] _ _ _ := hm_z
                        replace hc_z : rn _ _ _ _ [.int v7_z, .ref 40] _ _ _ := hc_z
                        clear a1_z a2_z a3_z a4_z a5_z a6_z nb1_z nb2_z nb3_z nt1_z nt2_z nt3_z nl1_z nl2_z nl3_z nr1_z nr2_z nr3_z nk1_z nk2_z nk3_z AC0 AC1 AC2 AC3 AD AE AG c1_z c2_z c3_z c4_z c5_z c6_z c7_z c8_z m2_z m3_z m4_z m5_z m6_z m7_z m8_z R3 R4 R5 R6 R7 R8 R9 R10
                        obtain ⟨⟨⟨a1_z, a2_z, a3_z, a4_z, a5_z, a6_z⟩, ⟨nb1_z, nb2_z, nb3_z⟩, ⟨nt1_z, nt2_z, nt3_z⟩, ⟨nl1_z, nl2_z, nl3_z⟩, ⟨nr1_z, nr2_z, nr3_z⟩, ⟨nk1_z, nk2_z, nk3_z⟩, ⟨AC0, AC1, AC2, AC3⟩, AD, AE, AG⟩, ⟨⟨c1_z, c2_z, c3_z, c4_z, c5_z, c6_z, c7_z, c8_z⟩, ⟨m2_z, m3_z, m4_z, m5_z, m6_z, m7_z, m8_z⟩, R3, R4, R5, R6, R7, R8, R9, R10⟩⟩ := (⟨A, R⟩ : rp 23 h1379_z h1389_z ∧ rq T S x7_z p7_z 23 h1379_z h1389_z)
                        replace hc_z := rn_put (am_cur_of (i := (124, 3, .putfield 187, (3, 5, 218), 0)) (by decide +kernel)) (by decide +kernel) hc_z
                        replace hc_z := rn_aload_n (am_cur_of (i := (127, 1, .aload_n 1, (0, 0, 0), 0)) (by decide +kernel)) g1_z hc_z
                        replace hc_z := rn_aload_n (am_cur_of (i := (128, 1, .aload_n 0, (0, 0, 0), 0)) (by decide +kernel)) g0_z hc_z
                        replace hc_z := rn_iconst (w := 0) (am_cur_of (i := (129, 1, .iconst 0, (0, 0, 0), 0)) (by decide +kernel)) (by decide) hc_z
                        replace hc_z := rn_bipush (w := 9) (am_cur_of (i := (130, 2, .bipush 9, (0, 0, 0), 0)) (by decide +kernel)) (by decide) hc_z
                        replace hc_z := rn_callV (M' := am_m30) (o := 44) (ar := [.int 9, .int 0]) (rest := [.ref 40]) (L := lv_args 0 [.ref 44, .int 0, .int 9]) (am_cur_of (i := (132, 3, .invokevirtual 142, (30, 773, 3), 0)) (by decide +kernel)) rfl rfl rfl rfl hc_z
                        obtain ⟨r1391_z, h1392_z, q1393_z, hc_z⟩ := hc_z
                        replace hm_z := rn_ifT (am_cur_of (i := (116, 3, .ifCond .ne 5, (69, 0, 0), 0)) (by decide +kernel)) (by decide) hm_z
                        replace hm_z := rn_aload_n (am_cur_of (i := (121, 1, .aload_n 0, (0, 0, 0), 0)) (by decide +kernel)) g0m hm_z
                        replace hm_z := rn_getR (x := 170) (am_cur_of (i := (122, 3, .getfield 30, (12, 25, 1409), 0)) (by decide +kernel)) (by decide +kernel) hm_z
                        replace hm_z := rn_iload_n (am_cur_of (i := (125, 1, .iload_n 1, (0, 0, 0), 0)) (by decide +kernel)) g1m hm_z
                        replace hm_z := rn_iload_n (am_cur_of (i := (126, 1, .iload_n 2, (0, 0, 0), 0)) (by decide +kernel)) g2m hm_z
                        replace hm_z := rn_iadd (w := 32) (am_cur_of (i := (127, 1, .iadd, (0, 0, 0), 0)) (by decide +kernel)) (by decide) hm_z
                        replace hm_z := rn_aload_n (am_cur_of (i := (128, 1, .aload_n 0, (0, 0, 0), 0)) (by decide +kernel)) g0m hm_z
                        replace hm_z := rn_getI (v := v7_z) (am_cur_of (i := (129, 3, .getfield 188, (12, 11, 1395), 0)) (by decide +kernel)) (by decide +kernel) got hm_z
                        replace hm_z := rn_iastore (N := 56) (q := 32) (am_cur_of (i := (132, 1, .iastore, (0, 0, 0), 0)) (by decide +kernel)) (by decide +kernel) rfl hm_z
                        obtain ⟨p1394_z, hm_z⟩ := hm_z
                        replace hm_z := rn_iinc (w := 5) (am_cur_of (i := (133, 3, .iinc 2 1, (0, 0, 0), 0)) (by decide +kernel)) g2m (by decide) hm_z
                        obtain ⟨_, s1395_z, s1396_z, g2m, hm_z⟩ := hm_z
                        replace g0m := s1395_z 0 _ (by decide) rfl g0m
                        replace g1m := s1395_z 1 _ (by decide) rfl g1m
                        replace g3m := s1395_z 3 _ (by decide) rfl g3m
                        replace g4m := s1395_z 4 _ (by decide) rfl g4m
                        clear s1395_z s1396_z
                        replace hm_z := rn_goto (am_cur_of (i := (136, 3, .goto (-87), (29, 0, 0), 0)) (by decide +kernel)) hm_z
                        replace hm_z := rn_iload_n (am_cur_of (i := (49, 1, .iload_n 2, (0, 0, 0), 0)) (by decide +kernel)) g2m hm_z
                        replace hm_z := rn_bipush (w := 7) (am_cur_of (i := (50, 2, .bipush 7, (0, 0, 0), 0)) (by decide +kernel)) (by decide) hm_z
                        replace hm_z := rn_cmpF (am_cur_of (i := (52, 3, .if_icmp .ge 87, (79, 0, 0), 0)) (by decide +kernel)) (by decide) hm_z
                        replace hm_z := rn_iload_n (am_cur_of (i := (55, 1, .iload_n 2, (0, 0, 0), 0)) (by decide +kernel)) g2m hm_z
                        replace hm_z := rn_ifF (am_cur_of (i := (56, 3, .ifCond .eq 13, (40, 0, 0), 0)) (by decide +kernel)) (by decide) hm_z
                        replace hm_z := rn_iload_n (am_cur_of (i := (59, 1, .iload_n 2, (0, 0, 0), 0)) (by decide +kernel)) g2m hm_z
                        replace hm_z := rn_iconst (w := 2) (am_cur_of (i := (60, 1, .iconst 2, (0, 0, 0), 0)) (by decide +kernel)) (by decide) hm_z
                        replace hm_z := rn_cmpF (am_cur_of (i := (61, 3, .if_icmp .eq 8, (40, 0, 0), 0)) (by decide +kernel)) (by decide) hm_z
                        replace hm_z := rn_iload_n (am_cur_of (i := (64, 1, .iload_n 2, (0, 0, 0), 0)) (by decide +kernel)) g2m hm_z
                        replace hm_z := rn_iconst (w := 3) (am_cur_of (i := (65, 1, .iconst 3, (0, 0, 0), 0)) (by decide +kernel)) (by decide) hm_z
                        replace hm_z := rn_cmpT (am_cur_of (i := (66, 3, .if_icmp .ne 7, (42, 0, 0), 0)) (by decide +kernel)) (by decide) hm_z
                        replace hm_z := rn_iconst (w := 0) (am_cur_of (i := (73, 1, .iconst 0, (0, 0, 0), 0)) (by decide +kernel)) (by decide) hm_z
                        replace hm_z := rn_istore_n (am_cur_of (i := (74, 1, .istore_n 3, (0, 0, 0), 0)) (by decide +kernel)) hm_z
                        obtain ⟨_, s1397_z, s1398_z, g3m, hm_z⟩ := hm_z
                        replace g0m := s1397_z 0 _ (by decide) rfl g0m
                        replace g1m := s1397_z 1 _ (by decide) rfl g1m
                        replace g2m := s1397_z 2 _ (by decide) rfl g2m
                        replace g4m := s1397_z 4 _ (by decide) rfl g4m
                        clear s1397_z s1398_z
                        replace hm_z := rn_iload_n (am_cur_of (i := (75, 1, .iload_n 2, (0, 0, 0), 0)) (by decide +kernel)) g2m hm_z
                        replace hm_z := rn_iconst (w := 1) (am_cur_of (i := (76, 1, .iconst 1, (0, 0, 0), 0)) (by decide +kernel)) (by decide) hm_z
                        replace hm_z := rn_cmpF (am_cur_of (i := (77, 3, .if_icmp .eq 8, (50, 0, 0), 0)) (by decide +kernel)) (by decide) hm_z
                        replace hm_z := rn_iload_n (am_cur_of (i := (80, 1, .iload_n 2, (0, 0, 0), 0)) (by decide +kernel)) g2m hm_z
                        replace hm_z := rn_iconst (w := 2) (am_cur_of (i := (81, 1, .iconst 2, (0, 0, 0), 0)) (by decide +kernel)) (by decide) hm_z
                        replace hm_z := rn_cmpT (am_cur_of (i := (82, 3, .if_icmp .ne 8, (52, 0, 0), 0)) (by decide +kernel)) (by decide) hm_z
                        replace hm_z := rn_iload_n (am_cur_of (i := (90, 1, .iload_n 2, (0, 0, 0), 0)) (by decide +kernel)) g2m hm_z
                        replace hm_z := rn_iconst (w := 3) (am_cur_of (i := (91, 1, .iconst 3, (0, 0, 0), 0)) (by decide +kernel)) (by decide) hm_z
                        replace hm_z := rn_cmpF (am_cur_of (i := (92, 3, .if_icmp .eq 8, (58, 0, 0), 0)) (by decide +kernel)) (by decide) hm_z
                        replace hm_z := rn_iload_n (am_cur_of (i := (95, 1, .iload_n 2, (0, 0, 0), 0)) (by decide +kernel)) g2m hm_z
                        replace hm_z := rn_iconst (w := 5) (am_cur_of (i := (96, 1, .iconst 5, (0, 0, 0), 0)) (by decide +kernel)) (by decide) hm_z
                        replace hm_z := rn_cmpF (am_cur_of (i := (97, 3, .if_icmp .ne 8, (60, 0, 0), 0)) (by decide +kernel)) (by decide) hm_z
                        replace hm_z := rn_bipush (w := 9) (am_cur_of (i := (100, 2, .bipush 9, (0, 0, 0), 0)) (by decide +kernel)) (by decide) hm_z
                        replace hm_z := rn_goto (am_cur_of (i := (102, 3, .goto 5, (61, 0, 0), 0)) (by decide +kernel)) hm_z
                        replace hm_z := rn_istore (am_cur_of (i := (107, 2, .istore 4, (0, 0, 0), 0)) (by decide +kernel)) hm_z
                        obtain ⟨_, s1399_z, s1400_z, g4m, hm_z⟩ := hm_z
                        replace g0m := s1399_z 0 _ (by decide) rfl g0m
                        replace g1m := s1399_z 1 _ (by decide) rfl g1m
                        replace g2m := s1399_z 2 _ (by decide) rfl g2m
                        replace g3m := s1399_z 3 _ (by decide) rfl g3m
                        clear s1399_z s1400_z
                        replace hm_z := rn_aload_n (am_cur_of (i := (109, 1, .aload_n 0, (0, 0, 0), 0)) (by decide +kernel)) g0m hm_z
                        replace hm_z := rn_iload_n (am_cur_of (i := (110, 1, .iload_n 3, (0, 0, 0), 0)) (by decide +kernel)) g3m hm_z
                        replace hm_z := rn_iload (am_cur_of (i := (111, 2, .iload 4, (0, 0, 0), 0)) (by decide +kernel)) g4m hm_z
                        replace hm_z := rn_callV (M' := am_m161) (o := 164) (ar := [.int 9, .int 0]) (rest := []) (L := lv_args 0 [.ref 164, .int 0, .int 9]) (am_cur_of (i := (113, 3, .invokevirtual 197, (161, 1677, 3), 0)) (by decide +kernel)) rfl rfl rfl rfl hm_z
                        obtain ⟨r1401_z, h1402_z, q1403_z, hm_z⟩ := hm_z
                        have R' : rq T S x7_z p7_z 23 (am_up h1379_z 40 5 (.int v7_z)) (am_up h1389_z 170 32 (.int v7_z)) := ⟨⟨c1_z, c2_z, c3_z, c4_z, c5_z, c6_z, fun k hk_z => c7_z k hk_z, fun k hk_z => c8_z k hk_z⟩, ⟨m2_z, m3_z, m4_z, m5_z, m6_z, fun k hk_z => m7_z k hk_z, fun k hk_z => m8_z k hk_z⟩, R3, R4, R5, R6, R7, R8, R9, R10⟩
                        have A' : rp 23 (am_up h1379_z 40 5 (.int v7_z)) (am_up h1389_z 170 32 (.int v7_z)) := ⟨⟨a1_z, a2_z, a3_z, a4_z, a5_z, a6_z⟩, ⟨nb1_z, nb2_z, nb3_z⟩, ⟨nt1_z, nt2_z, nt3_z⟩, ⟨nl1_z, nl2_z, nl3_z⟩, ⟨nr1_z, nr2_z, nr3_z⟩, ⟨nk1_z, nk2_z, nk3_z⟩, ⟨fun hb_z => absurd hb_z (by rw [show rg_v (am_up h1379_z 40 5 (.int v7_z)) 23 2 = 0 from ecb]; decide), fun hb_z => absurd hb_z (by rw [show rg_v (am_up h1379_z 40 5 (.int v7_z)) 23 2 = 0 from ecb]; decide), fun hb_z => absurd hb_z (by rw [show rg_v (am_up h1379_z 40 5 (.int v7_z)) 23 2 = 0 from ecb]; decide), fun hb_z => absurd hb_z (by rw [show rg_v (am_up h1379_z 40 5 (.int v7_z)) 23 2 = 0 from ecb]; decide)⟩, fun t ht => AD t ht, fun t ht => AE t ht, fun t ht => AG t ht⟩
                        have B' : rp_t (am_up h1379_z 40 5 (.int v7_z)) (am_up h1389_z 170 32 (.int v7_z)) := by
                          obtain ⟨b0_z, b1_z, b2_z, b3_z, b4_z, b5_z, b6_z, t, o0_z, o1_z, o2_z, o3_z, o4_z, o5_z, o6_z⟩ := B
                          exact ⟨b0_z, b1_z, b2_z, b3_z, b4_z, b5_z, b6_z, t, o0_z, o1_z, o2_z, o3_z, o4_z, o5_z, o6_z⟩
                        rcases pr_num R' (by decide) (by decide) q1393_z q1403_z with ⟨v8_z, x8_z, p8_z, rfl, rfl, lo8_z, hi8_z, R, le8_z, got, X, Y, t7_z, t167_z⟩ | ⟨rfl, F⟩
                        · replace A := rp_x (by decide) A' X Y
                          replace B := rp_tk B' t7_z t167_z Y
                          clear A' B' R'
                          replace le8_z : x.toInt ≤ p8_z.toInt := Int.le_trans (Int.le_trans le7_z R8) le8_z
                          replace ecb : rg_v h1392_z 23 2 = 0 := (rx_v X (o := 23) (k := 2) (by decide)).trans ecb
                          replace ect : rg_v h1392_z 23 4 = ct := (rx_v X (o := 23) (k := 4) (by decide)).trans ect
                          replace ecl : rg_v h1392_z 23 9 = cl := (rx_v X (o := 23) (k := 9) (by decide)).trans ecl
                          replace ecr : rg_v h1392_z 23 12 = cr := (rx_v X (o := 23) (k := 12) (by decide)).trans ecr
                          replace E0 : rg_v h1392_z 40 0 = rg_v h1402_z 169 4 := (rx_v X (o := 40) (k := 0) (by decide)).trans (E0.trans (rx_w Y (o := 169) (k := 4) (by omega) (by decide)).symm)
                          replace E1 : rg_v h1392_z 40 1 = rg_v h1402_z 170 28 := (rx_v X (o := 40) (k := 1) (by decide)).trans (E1.trans (rx_w Y (o := 170) (k := 28) (by omega) (by decide)).symm)
                          replace E2 : rg_v h1392_z 40 2 = rg_v h1402_z 170 29 := (rx_v X (o := 40) (k := 2) (by decide)).trans (E2.trans (rx_w Y (o := 170) (k := 29) (by omega) (by decide)).symm)
                          replace E3 : rg_v h1392_z 40 3 = rg_v h1402_z 170 30 := (rx_v X (o := 40) (k := 3) (by decide)).trans (E3.trans (rx_w Y (o := 170) (k := 30) (by omega) (by decide)).symm)
                          replace E4 : rg_v h1392_z 40 4 = rg_v h1402_z 170 31 := (rx_v X (o := 40) (k := 4) (by decide)).trans (E4.trans (rx_w Y (o := 170) (k := 31) (by omega) (by decide)).symm)
                          have E5 : rg_v h1392_z 40 5 = rg_v h1402_z 170 32 := (rx_v X (o := 40) (k := 5) (by decide)).trans (Eq.trans (rfl) (rx_w Y (o := 170) (k := 32) (by omega) (by decide)).symm)
                          replace hm_z : rn _ _ _ _ [.int 1] _ _ _ := hm_z
                          replace hc_z : rn _ _ _ _ [.int v8_z, .ref 40] _ _ _ := hc_z
                          clear a1_z a2_z a3_z a4_z a5_z a6_z nb1_z nb2_z nb3_z nt1_z nt2_z nt3_z nl1_z nl2_z nl3_z nr1_z nr2_z nr3_z nk1_z nk2_z nk3_z AC0 AC1 AC2 AC3 AD AE AG c1_z c2_z c3_z c4_z c5_z c6_z c7_z c8_z m2_z m3_z m4_z m5_z m6_z m7_z m8_z R3 R4 R5 R6 R7 R8 R9 R10
                          obtain ⟨⟨⟨a1_z, a2_z, a3_z, a4_z, a5_z, a6_z⟩, ⟨nb1_z, nb2_z, nb3_z⟩, ⟨nt1_z, nt2_z, nt3_z⟩, ⟨nl1_z, nl2_z, nl3_z⟩, ⟨nr1_z, nr2_z, nr3_z⟩, ⟨nk1_z, nk2_z, nk3_z⟩, ⟨AC0, AC1, AC2, AC3⟩, AD, AE, AG⟩, ⟨⟨c1_z, c2_z, c3_z, c4_z, c5_z, c6_z, c7_z, c8_z⟩, ⟨m2_z, m3_z, m4_z, m5_z, m6_z, m7_z, m8_z⟩, R3, R4, R5, R6, R7, R8, R9, R10⟩⟩ := (⟨A, R⟩ : rp 23 h1392_z h1402_z ∧ rq T S x8_z p8_z 23 h1392_z h1402_z)
                          replace hc_z := rn_put (am_cur_of (i := (135, 3, .putfield 190, (3, 6, 220), 0)) (by decide +kernel)) (by decide +kernel) hc_z
                          replace hc_z := rn_aload_n (am_cur_of (i := (138, 1, .aload_n 1, (0, 0, 0), 0)) (by decide +kernel)) g1_z hc_z
                          replace hc_z := rn_aload_n (am_cur_of (i := (139, 1, .aload_n 0, (0, 0, 0), 0)) (by decide +kernel)) g0_z hc_z
                          replace hc_z := rn_iconst (w := 0) (am_cur_of (i := (140, 1, .iconst 0, (0, 0, 0), 0)) (by decide +kernel)) (by decide) hc_z
                          replace hc_z := rn_bipush (w := 99) (am_cur_of (i := (141, 2, .bipush 99, (0, 0, 0), 0)) (by decide +kernel)) (by decide) hc_z
                          replace hc_z := rn_callV (M' := am_m30) (o := 44) (ar := [.int 99, .int 0]) (rest := [.ref 40]) (L := lv_args 0 [.ref 44, .int 0, .int 99]) (am_cur_of (i := (143, 3, .invokevirtual 142, (30, 773, 3), 0)) (by decide +kernel)) rfl rfl rfl rfl hc_z
                          obtain ⟨r1404_z, h1405_z, q1406_z, hc_z⟩ := hc_z
                          replace hm_z := rn_ifT (am_cur_of (i := (116, 3, .ifCond .ne 5, (69, 0, 0), 0)) (by decide +kernel)) (by decide) hm_z
                          replace hm_z := rn_aload_n (am_cur_of (i := (121, 1, .aload_n 0, (0, 0, 0), 0)) (by decide +kernel)) g0m hm_z
                          replace hm_z := rn_getR (x := 170) (am_cur_of (i := (122, 3, .getfield 30, (12, 25, 1409), 0)) (by decide +kernel)) (by decide +kernel) hm_z
                          replace hm_z := rn_iload_n (am_cur_of (i := (125, 1, .iload_n 1, (0, 0, 0), 0)) (by decide +kernel)) g1m hm_z
                          replace hm_z := rn_iload_n (am_cur_of (i := (126, 1, .iload_n 2, (0, 0, 0), 0)) (by decide +kernel)) g2m hm_z
                          replace hm_z := rn_iadd (w := 33) (am_cur_of (i := (127, 1, .iadd, (0, 0, 0), 0)) (by decide +kernel)) (by decide) hm_z
                          replace hm_z := rn_aload_n (am_cur_of (i := (128, 1, .aload_n 0, (0, 0, 0), 0)) (by decide +kernel)) g0m hm_z
                          replace hm_z := rn_getI (v := v8_z) (am_cur_of (i := (129, 3, .getfield 188, (12, 11, 1395), 0)) (by decide +kernel)) (by decide +kernel) got hm_z
                          replace hm_z := rn_iastore (N := 56) (q := 33) (am_cur_of (i := (132, 1, .iastore, (0, 0, 0), 0)) (by decide +kernel)) (by decide +kernel) rfl hm_z
                          obtain ⟨p1407_z, hm_z⟩ := hm_z
                          replace hm_z := rn_iinc (w := 6) (am_cur_of (i := (133, 3, .iinc 2 1, (0, 0, 0), 0)) (by decide +kernel)) g2m (by decide) hm_z
                          obtain ⟨_, s1408_z, s1409_z, g2m, hm_z⟩ := hm_z
                          replace g0m := s1408_z 0 _ (by decide) rfl g0m
                          replace g1m := s1408_z 1 _ (by decide) rfl g1m
                          replace g3m := s1408_z 3 _ (by decide) rfl g3m
                          replace g4m := s1408_z 4 _ (by decide) rfl g4m
                          clear s1408_z s1409_z
                          replace hm_z := rn_goto (am_cur_of (i := (136, 3, .goto (-87), (29, 0, 0), 0)) (by decide +kernel)) hm_z
                          replace hm_z := rn_iload_n (am_cur_of (i := (49, 1, .iload_n 2, (0, 0, 0), 0)) (by decide +kernel)) g2m hm_z
                          replace hm_z := rn_bipush (w := 7) (am_cur_of (i := (50, 2, .bipush 7, (0, 0, 0), 0)) (by decide +kernel)) (by decide) hm_z
                          replace hm_z := rn_cmpF (am_cur_of (i := (52, 3, .if_icmp .ge 87, (79, 0, 0), 0)) (by decide +kernel)) (by decide) hm_z
                          replace hm_z := rn_iload_n (am_cur_of (i := (55, 1, .iload_n 2, (0, 0, 0), 0)) (by decide +kernel)) g2m hm_z
                          replace hm_z := rn_ifF (am_cur_of (i := (56, 3, .ifCond .eq 13, (40, 0, 0), 0)) (by decide +kernel)) (by decide) hm_z
                          replace hm_z := rn_iload_n (am_cur_of (i := (59, 1, .iload_n 2, (0, 0, 0), 0)) (by decide +kernel)) g2m hm_z
                          replace hm_z := rn_iconst (w := 2) (am_cur_of (i := (60, 1, .iconst 2, (0, 0, 0), 0)) (by decide +kernel)) (by decide) hm_z
                          replace hm_z := rn_cmpF (am_cur_of (i := (61, 3, .if_icmp .eq 8, (40, 0, 0), 0)) (by decide +kernel)) (by decide) hm_z
                          replace hm_z := rn_iload_n (am_cur_of (i := (64, 1, .iload_n 2, (0, 0, 0), 0)) (by decide +kernel)) g2m hm_z
                          replace hm_z := rn_iconst (w := 3) (am_cur_of (i := (65, 1, .iconst 3, (0, 0, 0), 0)) (by decide +kernel)) (by decide) hm_z
                          replace hm_z := rn_cmpT (am_cur_of (i := (66, 3, .if_icmp .ne 7, (42, 0, 0), 0)) (by decide +kernel)) (by decide) hm_z
                          replace hm_z := rn_iconst (w := 0) (am_cur_of (i := (73, 1, .iconst 0, (0, 0, 0), 0)) (by decide +kernel)) (by decide) hm_z
                          replace hm_z := rn_istore_n (am_cur_of (i := (74, 1, .istore_n 3, (0, 0, 0), 0)) (by decide +kernel)) hm_z
                          obtain ⟨_, s1410_z, s1411_z, g3m, hm_z⟩ := hm_z
                          replace g0m := s1410_z 0 _ (by decide) rfl g0m
                          replace g1m := s1410_z 1 _ (by decide) rfl g1m
                          replace g2m := s1410_z 2 _ (by decide) rfl g2m
                          replace g4m := s1410_z 4 _ (by decide) rfl g4m
                          clear s1410_z s1411_z
                          replace hm_z := rn_iload_n (am_cur_of (i := (75, 1, .iload_n 2, (0, 0, 0), 0)) (by decide +kernel)) g2m hm_z
                          replace hm_z := rn_iconst (w := 1) (am_cur_of (i := (76, 1, .iconst 1, (0, 0, 0), 0)) (by decide +kernel)) (by decide) hm_z
                          replace hm_z := rn_cmpF (am_cur_of (i := (77, 3, .if_icmp .eq 8, (50, 0, 0), 0)) (by decide +kernel)) (by decide) hm_z
                          replace hm_z := rn_iload_n (am_cur_of (i := (80, 1, .iload_n 2, (0, 0, 0), 0)) (by decide +kernel)) g2m hm_z
                          replace hm_z := rn_iconst (w := 2) (am_cur_of (i := (81, 1, .iconst 2, (0, 0, 0), 0)) (by decide +kernel)) (by decide) hm_z
                          replace hm_z := rn_cmpT (am_cur_of (i := (82, 3, .if_icmp .ne 8, (52, 0, 0), 0)) (by decide +kernel)) (by decide) hm_z
                          replace hm_z := rn_iload_n (am_cur_of (i := (90, 1, .iload_n 2, (0, 0, 0), 0)) (by decide +kernel)) g2m hm_z
                          replace hm_z := rn_iconst (w := 3) (am_cur_of (i := (91, 1, .iconst 3, (0, 0, 0), 0)) (by decide +kernel)) (by decide) hm_z
                          replace hm_z := rn_cmpF (am_cur_of (i := (92, 3, .if_icmp .eq 8, (58, 0, 0), 0)) (by decide +kernel)) (by decide) hm_z
                          replace hm_z := rn_iload_n (am_cur_of (i := (95, 1, .iload_n 2, (0, 0, 0), 0)) (by decide +kernel)) g2m hm_z
                          replace hm_z := rn_iconst (w := 5) (am_cur_of (i := (96, 1, .iconst 5, (0, 0, 0), 0)) (by decide +kernel)) (by decide) hm_z
                          replace hm_z := rn_cmpT (am_cur_of (i := (97, 3, .if_icmp .ne 8, (60, 0, 0), 0)) (by decide +kernel)) (by decide) hm_z
                          replace hm_z := rn_bipush (w := 99) (am_cur_of (i := (105, 2, .bipush 99, (0, 0, 0), 0)) (by decide +kernel)) (by decide) hm_z
                          replace hm_z := rn_istore (am_cur_of (i := (107, 2, .istore 4, (0, 0, 0), 0)) (by decide +kernel)) hm_z
                          obtain ⟨_, s1412_z, s1413_z, g4m, hm_z⟩ := hm_z
                          replace g0m := s1412_z 0 _ (by decide) rfl g0m
                          replace g1m := s1412_z 1 _ (by decide) rfl g1m
                          replace g2m := s1412_z 2 _ (by decide) rfl g2m
                          replace g3m := s1412_z 3 _ (by decide) rfl g3m
                          clear s1412_z s1413_z
                          replace hm_z := rn_aload_n (am_cur_of (i := (109, 1, .aload_n 0, (0, 0, 0), 0)) (by decide +kernel)) g0m hm_z
                          replace hm_z := rn_iload_n (am_cur_of (i := (110, 1, .iload_n 3, (0, 0, 0), 0)) (by decide +kernel)) g3m hm_z
                          replace hm_z := rn_iload (am_cur_of (i := (111, 2, .iload 4, (0, 0, 0), 0)) (by decide +kernel)) g4m hm_z
                          replace hm_z := rn_callV (M' := am_m161) (o := 164) (ar := [.int 99, .int 0]) (rest := []) (L := lv_args 0 [.ref 164, .int 0, .int 99]) (am_cur_of (i := (113, 3, .invokevirtual 197, (161, 1677, 3), 0)) (by decide +kernel)) rfl rfl rfl rfl hm_z
                          obtain ⟨r1414_z, h1415_z, q1416_z, hm_z⟩ := hm_z
                          have R' : rq T S x8_z p8_z 23 (am_up h1392_z 40 6 (.int v8_z)) (am_up h1402_z 170 33 (.int v8_z)) := ⟨⟨c1_z, c2_z, c3_z, c4_z, c5_z, c6_z, fun k hk_z => c7_z k hk_z, fun k hk_z => c8_z k hk_z⟩, ⟨m2_z, m3_z, m4_z, m5_z, m6_z, fun k hk_z => m7_z k hk_z, fun k hk_z => m8_z k hk_z⟩, R3, R4, R5, R6, R7, R8, R9, R10⟩
                          have A' : rp 23 (am_up h1392_z 40 6 (.int v8_z)) (am_up h1402_z 170 33 (.int v8_z)) := ⟨⟨a1_z, a2_z, a3_z, a4_z, a5_z, a6_z⟩, ⟨nb1_z, nb2_z, nb3_z⟩, ⟨nt1_z, nt2_z, nt3_z⟩, ⟨nl1_z, nl2_z, nl3_z⟩, ⟨nr1_z, nr2_z, nr3_z⟩, ⟨nk1_z, nk2_z, nk3_z⟩, ⟨fun hb_z => absurd hb_z (by rw [show rg_v (am_up h1392_z 40 6 (.int v8_z)) 23 2 = 0 from ecb]; decide), fun hb_z => absurd hb_z (by rw [show rg_v (am_up h1392_z 40 6 (.int v8_z)) 23 2 = 0 from ecb]; decide), fun hb_z => absurd hb_z (by rw [show rg_v (am_up h1392_z 40 6 (.int v8_z)) 23 2 = 0 from ecb]; decide), fun hb_z => absurd hb_z (by rw [show rg_v (am_up h1392_z 40 6 (.int v8_z)) 23 2 = 0 from ecb]; decide)⟩, fun t ht => AD t ht, fun t ht => AE t ht, fun t ht => AG t ht⟩
                          have B' : rp_t (am_up h1392_z 40 6 (.int v8_z)) (am_up h1402_z 170 33 (.int v8_z)) := by
                            obtain ⟨b0_z, b1_z, b2_z, b3_z, b4_z, b5_z, b6_z, t, o0_z, o1_z, o2_z, o3_z, o4_z, o5_z, o6_z⟩ := B
                            exact ⟨b0_z, b1_z, b2_z, b3_z, b4_z, b5_z, b6_z, t, o0_z, o1_z, o2_z, o3_z, o4_z, o5_z, o6_z⟩
                          rcases pr_num R' (by decide) (by decide) q1406_z q1416_z with ⟨v9_z, x9_z, p9_z, rfl, rfl, lo9_z, hi9_z, R, le9_z, got, X, Y, t7_z, t167_z⟩ | ⟨rfl, F⟩
                          · replace A := rp_x (by decide) A' X Y
                            replace B := rp_tk B' t7_z t167_z Y
                            clear A' B' R'
                            replace le9_z : x.toInt ≤ p9_z.toInt := Int.le_trans (Int.le_trans le8_z R8) le9_z
                            replace ecb : rg_v h1405_z 23 2 = 0 := (rx_v X (o := 23) (k := 2) (by decide)).trans ecb
                            replace ect : rg_v h1405_z 23 4 = ct := (rx_v X (o := 23) (k := 4) (by decide)).trans ect
                            replace ecl : rg_v h1405_z 23 9 = cl := (rx_v X (o := 23) (k := 9) (by decide)).trans ecl
                            replace ecr : rg_v h1405_z 23 12 = cr := (rx_v X (o := 23) (k := 12) (by decide)).trans ecr
                            replace E0 : rg_v h1405_z 40 0 = rg_v h1415_z 169 4 := (rx_v X (o := 40) (k := 0) (by decide)).trans (E0.trans (rx_w Y (o := 169) (k := 4) (by omega) (by decide)).symm)
                            replace E1 : rg_v h1405_z 40 1 = rg_v h1415_z 170 28 := (rx_v X (o := 40) (k := 1) (by decide)).trans (E1.trans (rx_w Y (o := 170) (k := 28) (by omega) (by decide)).symm)
                            replace E2 : rg_v h1405_z 40 2 = rg_v h1415_z 170 29 := (rx_v X (o := 40) (k := 2) (by decide)).trans (E2.trans (rx_w Y (o := 170) (k := 29) (by omega) (by decide)).symm)
                            replace E3 : rg_v h1405_z 40 3 = rg_v h1415_z 170 30 := (rx_v X (o := 40) (k := 3) (by decide)).trans (E3.trans (rx_w Y (o := 170) (k := 30) (by omega) (by decide)).symm)
                            replace E4 : rg_v h1405_z 40 4 = rg_v h1415_z 170 31 := (rx_v X (o := 40) (k := 4) (by decide)).trans (E4.trans (rx_w Y (o := 170) (k := 31) (by omega) (by decide)).symm)
                            replace E5 : rg_v h1405_z 40 5 = rg_v h1415_z 170 32 := (rx_v X (o := 40) (k := 5) (by decide)).trans (E5.trans (rx_w Y (o := 170) (k := 32) (by omega) (by decide)).symm)
                            have E6 : rg_v h1405_z 40 6 = rg_v h1415_z 170 33 := (rx_v X (o := 40) (k := 6) (by decide)).trans (Eq.trans (rfl) (rx_w Y (o := 170) (k := 33) (by omega) (by decide)).symm)
                            replace hm_z : rn _ _ _ _ [.int 1] _ _ _ := hm_z
                            replace hc_z : rn _ _ _ _ [.int v9_z, .ref 40] _ _ _ := hc_z
                            clear a1_z a2_z a3_z a4_z a5_z a6_z nb1_z nb2_z nb3_z nt1_z nt2_z nt3_z nl1_z nl2_z nl3_z nr1_z nr2_z nr3_z nk1_z nk2_z nk3_z AC0 AC1 AC2 AC3 AD AE AG c1_z c2_z c3_z c4_z c5_z c6_z c7_z c8_z m2_z m3_z m4_z m5_z m6_z m7_z m8_z R3 R4 R5 R6 R7 R8 R9 R10
                            obtain ⟨⟨⟨a1_z, a2_z, a3_z, a4_z, a5_z, a6_z⟩, ⟨nb1_z, nb2_z, nb3_z⟩, ⟨nt1_z, nt2_z, nt3_z⟩, ⟨nl1_z, nl2_z, nl3_z⟩, ⟨nr1_z, nr2_z, nr3_z⟩, ⟨nk1_z, nk2_z, nk3_z⟩, ⟨AC0, AC1, AC2, AC3⟩, AD, AE, AG⟩, ⟨⟨c1_z, c2_z, c3_z, c4_z, c5_z, c6_z, c7_z, c8_z⟩, ⟨m2_z, m3_z, m4_z, m5_z, m6_z, m7_z, m8_z⟩, R3, R4, R5, R6, R7, R8, R9, R10⟩⟩ := (⟨A, R⟩ : rp 23 h1405_z h1415_z ∧ rq T S x9_z p9_z 23 h1405_z h1415_z)
                            replace hc_z := rn_put (am_cur_of (i := (146, 3, .putfield 193, (3, 7, 221), 0)) (by decide +kernel)) (by decide +kernel) hc_z
                            replace hc_z := rn_aload_n (am_cur_of (i := (149, 1, .aload_n 0, (0, 0, 0), 0)) (by decide +kernel)) g0_z hc_z
                            replace hc_z := rn_getM (x := 23) (am_cur_of (i := (150, 3, .getfield 25, (4, 6, 415), 0)) (by decide +kernel)) (show (am_up h1405_z 40 7 (.int v9_z)) 44 6 = .ref 23 from R3) hc_z
                            replace hc_z := rn_dup (am_cur_of (i := (153, 1, .dup, (0, 0, 0), 0)) (by decide +kernel)) hc_z
                            replace hc_z := rn_getI (v := 0) (am_cur_of (i := (154, 3, .getfield 151, (1, 2, 259), 0)) (by decide +kernel)) (by decide +kernel) (show rg_v (am_up h1405_z 40 7 (.int v9_z)) 23 2 = 0 from ecb) hc_z
                            replace hc_z := rn_iconst (w := 1) (am_cur_of (i := (157, 1, .iconst 1, (0, 0, 0), 0)) (by decide +kernel)) (by decide) hc_z
                            replace hc_z := rn_iadd (w := 1) (am_cur_of (i := (158, 1, .iadd, (0, 0, 0), 0)) (by decide +kernel)) (by decide) hc_z
                            replace hc_z := rn_put (am_cur_of (i := (159, 3, .putfield 151, (1, 2, 259), 0)) (by decide +kernel)) (by decide +kernel) hc_z
                            replace hc_z := rn_vret (am_cur_of (i := (162, 1, .return_, (0, 0, 0), 0)) (by decide +kernel)) hc_z
                            obtain ⟨e1417_z, e1418_z⟩ := hc_z
                            subst e1417_z e1418_z
                            replace hm_z := rn_ifT (am_cur_of (i := (116, 3, .ifCond .ne 5, (69, 0, 0), 0)) (by decide +kernel)) (by decide) hm_z
                            replace hm_z := rn_aload_n (am_cur_of (i := (121, 1, .aload_n 0, (0, 0, 0), 0)) (by decide +kernel)) g0m hm_z
                            replace hm_z := rn_getR (x := 170) (am_cur_of (i := (122, 3, .getfield 30, (12, 25, 1409), 0)) (by decide +kernel)) (by decide +kernel) hm_z
                            replace hm_z := rn_iload_n (am_cur_of (i := (125, 1, .iload_n 1, (0, 0, 0), 0)) (by decide +kernel)) g1m hm_z
                            replace hm_z := rn_iload_n (am_cur_of (i := (126, 1, .iload_n 2, (0, 0, 0), 0)) (by decide +kernel)) g2m hm_z
                            replace hm_z := rn_iadd (w := 34) (am_cur_of (i := (127, 1, .iadd, (0, 0, 0), 0)) (by decide +kernel)) (by decide) hm_z
                            replace hm_z := rn_aload_n (am_cur_of (i := (128, 1, .aload_n 0, (0, 0, 0), 0)) (by decide +kernel)) g0m hm_z
                            replace hm_z := rn_getI (v := v9_z) (am_cur_of (i := (129, 3, .getfield 188, (12, 11, 1395), 0)) (by decide +kernel)) (by decide +kernel) got hm_z
                            replace hm_z := rn_iastore (N := 56) (q := 34) (am_cur_of (i := (132, 1, .iastore, (0, 0, 0), 0)) (by decide +kernel)) (by decide +kernel) rfl hm_z
                            obtain ⟨p1419_z, hm_z⟩ := hm_z
                            replace hm_z := rn_iinc (w := 7) (am_cur_of (i := (133, 3, .iinc 2 1, (0, 0, 0), 0)) (by decide +kernel)) g2m (by decide) hm_z
                            obtain ⟨_, s1420_z, s1421_z, g2m, hm_z⟩ := hm_z
                            replace g0m := s1420_z 0 _ (by decide) rfl g0m
                            replace g1m := s1420_z 1 _ (by decide) rfl g1m
                            replace g3m := s1420_z 3 _ (by decide) rfl g3m
                            replace g4m := s1420_z 4 _ (by decide) rfl g4m
                            clear s1420_z s1421_z
                            replace hm_z := rn_goto (am_cur_of (i := (136, 3, .goto (-87), (29, 0, 0), 0)) (by decide +kernel)) hm_z
                            replace hm_z := rn_iload_n (am_cur_of (i := (49, 1, .iload_n 2, (0, 0, 0), 0)) (by decide +kernel)) g2m hm_z
                            replace hm_z := rn_bipush (w := 7) (am_cur_of (i := (50, 2, .bipush 7, (0, 0, 0), 0)) (by decide +kernel)) (by decide) hm_z
                            replace hm_z := rn_cmpT (am_cur_of (i := (52, 3, .if_icmp .ge 87, (79, 0, 0), 0)) (by decide +kernel)) (by decide) hm_z
                            replace hm_z := rn_aload_n (am_cur_of (i := (139, 1, .aload_n 0, (0, 0, 0), 0)) (by decide +kernel)) g0m hm_z
                            replace hm_z := rn_dup (am_cur_of (i := (140, 1, .dup, (0, 0, 0), 0)) (by decide +kernel)) hm_z
                            replace hm_z := rn_getI (v := 0) (am_cur_of (i := (141, 3, .getfield 201, (12, 17, 1401), 0)) (by decide +kernel)) (by decide +kernel) (show rg_v (am_up h1415_z 170 34 (.int v9_z)) 164 17 = 0 from (nb1_z.symm.trans ecb)) hm_z
                            replace hm_z := rn_iconst (w := 1) (am_cur_of (i := (144, 1, .iconst 1, (0, 0, 0), 0)) (by decide +kernel)) (by decide) hm_z
                            replace hm_z := rn_iadd (w := 1) (am_cur_of (i := (145, 1, .iadd, (0, 0, 0), 0)) (by decide +kernel)) (by decide) hm_z
                            replace hm_z := rn_put (am_cur_of (i := (146, 3, .putfield 201, (12, 17, 1401), 0)) (by decide +kernel)) (by decide +kernel) hm_z
                            replace hm_z := rn_iconst (w := 1) (am_cur_of (i := (149, 1, .iconst 1, (0, 0, 0), 0)) (by decide +kernel)) (by decide) hm_z
                            replace hm_z := rn_iret (am_cur_of (i := (150, 1, .ireturn, (0, 0, 0), 0)) (by decide +kernel)) hm_z
                            obtain ⟨e1422_z, e1423_z⟩ := hm_z
                            subst e1422_z e1423_z
                            have R' : rq T S x9_z p9_z 23 (am_up (am_up h1405_z 40 7 (.int v9_z)) 23 2 (.int 1)) (am_up (am_up h1415_z 170 34 (.int v9_z)) 164 17 (.int 1)) := ⟨⟨c1_z, c2_z, c3_z, c4_z, c5_z, c6_z, fun k hk_z => c7_z k hk_z, fun k hk_z => c8_z k hk_z⟩, ⟨m2_z, m3_z, m4_z, m5_z, m6_z, fun k hk_z => m7_z k hk_z, fun k hk_z => m8_z k hk_z⟩, R3, R4, R5, R6, R7, R8, R9, R10⟩
                            have pq0_z : rp_C 23 (am_up (am_up h1405_z 40 7 (.int v9_z)) 23 2 (.int 1)) (am_up (am_up h1415_z 170 34 (.int v9_z)) 164 17 (.int 1)) 0 := by
                              intro hb_z k hk_z
                              match k, hk_z with
                              | 0, _ => exact E0
                              | 1, _ => exact E1
                              | 2, _ => exact E2
                              | 3, _ => exact E3
                              | 4, _ => exact E4
                              | 5, _ => exact E5
                              | 6, _ => exact E6
                              | 7, _ => exact rfl
                            have A' : rp 23 (am_up (am_up h1405_z 40 7 (.int v9_z)) 23 2 (.int 1)) (am_up (am_up h1415_z 170 34 (.int v9_z)) 164 17 (.int 1)) := ⟨⟨a1_z, a2_z, a3_z, a4_z, a5_z, a6_z⟩, ⟨rfl, (show 0 ≤ ((0 : Int32) + 1).toInt by decide), (show ((0 : Int32) + 1).toInt ≤ 4 by decide)⟩, ⟨nt1_z, nt2_z, nt3_z⟩, ⟨nl1_z, nl2_z, nl3_z⟩, ⟨nr1_z, nr2_z, nr3_z⟩, ⟨nk1_z, nk2_z, nk3_z⟩, ⟨(pq0_z), (fun hb_z => absurd hb_z (by show ¬ ((1 : Nat) : Int) < ((0 : Int32) + 1).toInt; decide)), (fun hb_z => absurd hb_z (by show ¬ ((2 : Nat) : Int) < ((0 : Int32) + 1).toInt; decide)), (fun hb_z => absurd hb_z (by show ¬ ((3 : Nat) : Int) < ((0 : Int32) + 1).toInt; decide))⟩, fun t ht => AD t ht, fun t ht => AE t ht, fun t ht => AG t ht⟩
                            have B' : rp_t (am_up (am_up h1405_z 40 7 (.int v9_z)) 23 2 (.int 1)) (am_up (am_up h1415_z 170 34 (.int v9_z)) 164 17 (.int 1)) := by
                              obtain ⟨b0_z, b1_z, b2_z, b3_z, b4_z, b5_z, b6_z, t, o0_z, o1_z, o2_z, o3_z, o4_z, o5_z, o6_z⟩ := B
                              exact ⟨b0_z, b1_z, b2_z, b3_z, b4_z, b5_z, b6_z, t, o0_z, o1_z, o2_z, o3_z, o4_z, o5_z, o6_z⟩
                            exact Or.inl ⟨rfl, _, _, R', le9_z, A', B'⟩
                          · obtain ⟨wv, w0_z, f1_z, f2_z, f3_z, f4_z⟩ := F
                            have K := rs_stick (a := 31) (by decide) (by decide) rfl w0_z f1_z f2_z hc_z
                            replace hm_z : rn _ _ _ _ [.int 0] _ _ _ := hm_z
                            replace hm_z := rn_ifF (am_cur_of (i := (116, 3, .ifCond .ne 5, (69, 0, 0), 0)) (by decide +kernel)) (by decide) hm_z
                            replace hm_z := rn_iconst (w := 0) (am_cur_of (i := (119, 1, .iconst 0, (0, 0, 0), 0)) (by decide +kernel)) (by decide) hm_z
                            replace hm_z := rn_iret (am_cur_of (i := (120, 1, .ireturn, (0, 0, 0), 0)) (by decide +kernel)) hm_z
                            obtain ⟨e1424_z, e1425_z⟩ := hm_z
                            subst e1424_z e1425_z
                            exact Or.inr ⟨rfl, _, wv, w0_z, K.1, K.2, f3_z, f4_z⟩
                        · obtain ⟨wv, w0_z, f1_z, f2_z, f3_z, f4_z⟩ := F
                          have K := rs_stick (a := 31) (by decide) (by decide) rfl w0_z f1_z f2_z hc_z
                          replace hm_z : rn _ _ _ _ [.int 0] _ _ _ := hm_z
                          replace hm_z := rn_ifF (am_cur_of (i := (116, 3, .ifCond .ne 5, (69, 0, 0), 0)) (by decide +kernel)) (by decide) hm_z
                          replace hm_z := rn_iconst (w := 0) (am_cur_of (i := (119, 1, .iconst 0, (0, 0, 0), 0)) (by decide +kernel)) (by decide) hm_z
                          replace hm_z := rn_iret (am_cur_of (i := (120, 1, .ireturn, (0, 0, 0), 0)) (by decide +kernel)) hm_z
                          obtain ⟨e1426_z, e1427_z⟩ := hm_z
                          subst e1426_z e1427_z
                          exact Or.inr ⟨rfl, _, wv, w0_z, K.1, K.2, f3_z, f4_z⟩
                      · obtain ⟨wv, w0_z, f1_z, f2_z, f3_z, f4_z⟩ := F
                        have K := rs_stick (a := 31) (by decide) (by decide) rfl w0_z f1_z f2_z hc_z
                        replace hm_z : rn _ _ _ _ [.int 0] _ _ _ := hm_z
                        replace hm_z := rn_ifF (am_cur_of (i := (116, 3, .ifCond .ne 5, (69, 0, 0), 0)) (by decide +kernel)) (by decide) hm_z
                        replace hm_z := rn_iconst (w := 0) (am_cur_of (i := (119, 1, .iconst 0, (0, 0, 0), 0)) (by decide +kernel)) (by decide) hm_z
                        replace hm_z := rn_iret (am_cur_of (i := (120, 1, .ireturn, (0, 0, 0), 0)) (by decide +kernel)) hm_z
                        obtain ⟨e1428_z, e1429_z⟩ := hm_z
                        subst e1428_z e1429_z
                        exact Or.inr ⟨rfl, _, wv, w0_z, K.1, K.2, f3_z, f4_z⟩
                    · obtain ⟨wv, w0_z, f1_z, f2_z, f3_z, f4_z⟩ := F
                      have K := rs_stick (a := 31) (by decide) (by decide) rfl w0_z f1_z f2_z hc_z
                      replace hm_z : rn _ _ _ _ [.int 0] _ _ _ := hm_z
                      replace hm_z := rn_ifF (am_cur_of (i := (116, 3, .ifCond .ne 5, (69, 0, 0), 0)) (by decide +kernel)) (by decide) hm_z
                      replace hm_z := rn_iconst (w := 0) (am_cur_of (i := (119, 1, .iconst 0, (0, 0, 0), 0)) (by decide +kernel)) (by decide) hm_z
                      replace hm_z := rn_iret (am_cur_of (i := (120, 1, .ireturn, (0, 0, 0), 0)) (by decide +kernel)) hm_z
                      obtain ⟨e1430_z, e1431_z⟩ := hm_z
                      subst e1430_z e1431_z
                      exact Or.inr ⟨rfl, _, wv, w0_z, K.1, K.2, f3_z, f4_z⟩
                  · obtain ⟨wv, w0_z, f1_z, f2_z, f3_z, f4_z⟩ := F
                    have K := rs_stick (a := 31) (by decide) (by decide) rfl w0_z f1_z f2_z hc_z
                    replace hm_z : rn _ _ _ _ [.int 0] _ _ _ := hm_z
                    replace hm_z := rn_ifF (am_cur_of (i := (116, 3, .ifCond .ne 5, (69, 0, 0), 0)) (by decide +kernel)) (by decide) hm_z
                    replace hm_z := rn_iconst (w := 0) (am_cur_of (i := (119, 1, .iconst 0, (0, 0, 0), 0)) (by decide +kernel)) (by decide) hm_z
                    replace hm_z := rn_iret (am_cur_of (i := (120, 1, .ireturn, (0, 0, 0), 0)) (by decide +kernel)) hm_z
                    obtain ⟨e1432_z, e1433_z⟩ := hm_z
                    subst e1432_z e1433_z
                    exact Or.inr ⟨rfl, _, wv, w0_z, K.1, K.2, f3_z, f4_z⟩
                · obtain ⟨wv, w0_z, f1_z, f2_z, f3_z, f4_z⟩ := F
                  have K := rs_stick (a := 31) (by decide) (by decide) rfl w0_z f1_z f2_z hc_z
                  replace hm_z : rn _ _ _ _ [.int 0] _ _ _ := hm_z
                  replace hm_z := rn_ifF (am_cur_of (i := (116, 3, .ifCond .ne 5, (69, 0, 0), 0)) (by decide +kernel)) (by decide) hm_z
                  replace hm_z := rn_iconst (w := 0) (am_cur_of (i := (119, 1, .iconst 0, (0, 0, 0), 0)) (by decide +kernel)) (by decide) hm_z
                  replace hm_z := rn_iret (am_cur_of (i := (120, 1, .ireturn, (0, 0, 0), 0)) (by decide +kernel)) hm_z
                  obtain ⟨e1434_z, e1435_z⟩ := hm_z
                  subst e1434_z e1435_z
                  exact Or.inr ⟨rfl, _, wv, w0_z, K.1, K.2, f3_z, f4_z⟩
              · obtain ⟨wv, w0_z, f1_z, f2_z, f3_z, f4_z⟩ := F
                have K := rs_stick (a := 31) (by decide) (by decide) rfl w0_z f1_z f2_z hc_z
                replace hm_z : rn _ _ _ _ [.int 0] _ _ _ := hm_z
                replace hm_z := rn_ifF (am_cur_of (i := (116, 3, .ifCond .ne 5, (69, 0, 0), 0)) (by decide +kernel)) (by decide) hm_z
                replace hm_z := rn_iconst (w := 0) (am_cur_of (i := (119, 1, .iconst 0, (0, 0, 0), 0)) (by decide +kernel)) (by decide) hm_z
                replace hm_z := rn_iret (am_cur_of (i := (120, 1, .ireturn, (0, 0, 0), 0)) (by decide +kernel)) hm_z
                obtain ⟨e1436_z, e1437_z⟩ := hm_z
                subst e1436_z e1437_z
                exact Or.inr ⟨rfl, _, wv, w0_z, K.1, K.2, f3_z, f4_z⟩
          · replace b1315_z : ¬ i2_z = ((-1) : Int32) ∧ ¬ i2_z.toInt = ((-1) : Int32).toInt := b1315_z
            replace hc_z := rn_aload_n (am_cur_of (i := (38, 1, .aload_n 0, (0, 0, 0), 0)) (by decide +kernel)) g0_z hc_z
            replace hc_z := rn_iconst (w := 3) (am_cur_of (i := (39, 1, .iconst 3, (0, 0, 0), 0)) (by decide +kernel)) (by decide) hc_z
            replace hc_z := rn_callV (M' := am_m29) (o := 44) (ar := [.int 3]) (rest := []) (L := lv_args 0 [.ref 44, .int 3]) (am_cur_of (i := (40, 3, .invokevirtual 108, (29, 769, 3), 0)) (by decide +kernel)) rfl rfl rfl rfl hc_z
            obtain ⟨r1438_z, h1439_z, q1440_z, hc_z⟩ := hc_z
            obtain ⟨rfl, yq1440_z⟩ := rp_fail R4 q1440_z
            subst yq1440_z
            replace hc_z : rn _ _ _ _ [] _ _ _ := hc_z
            have K := rs_stick (w := 3) (a := 31) (by decide) (by decide) rfl (by decide) rfl rfl hc_z
            replace hm_z := rn_aload_n (am_cur_of (i := (18, 1, .aload_n 0, (0, 0, 0), 0)) (by decide +kernel)) g0m hm_z
            replace hm_z := rn_aload_n (am_cur_of (i := (19, 1, .aload_n 0, (0, 0, 0), 0)) (by decide +kernel)) g0m hm_z
            replace hm_z := rn_getR (x := 169) (am_cur_of (i := (20, 3, .getfield 27, (12, 24, 1408), 0)) (by decide +kernel)) (by decide +kernel) hm_z
            replace hm_z := rn_iconst (w := 4) (am_cur_of (i := (23, 1, .iconst 4, (0, 0, 0), 0)) (by decide +kernel)) (by decide) hm_z
            replace hm_z := rn_aload_n (am_cur_of (i := (24, 1, .aload_n 0, (0, 0, 0), 0)) (by decide +kernel)) g0m hm_z
            replace hm_z := rn_getI (v := 0) (am_cur_of (i := (25, 3, .getfield 201, (12, 17, 1401), 0)) (by decide +kernel)) (by decide +kernel) (nb1_z.symm.trans ecb) hm_z
            replace hm_z := rn_callV (M' := am_m164) (o := 164) (ar := [.int 0, .int 4, .ref 169]) (rest := []) (L := lv_args 0 [.ref 164, .ref 169, .int 4, .int 0]) (am_cur_of (i := (28, 3, .invokevirtual 248, (164, 1688, 3), 0)) (by decide +kernel)) rfl rfl rfl rfl hm_z
            obtain ⟨r1441_z, h1442_z, q1443_z, hm_z⟩ := hm_z
            rcases rp_newB (nb := 0) (by omega) (by omega) q1443_z with ⟨y1_z, rfl, y3_z⟩ | ⟨y1_z, rfl, y3_z, y4_z, y5_z, y6_z⟩ | ⟨y1_z, rfl, y5_z, y4_z, y6_z, y7_z⟩
            · exact absurd k2_z.1 y1_z
            · subst y3_z
              replace hm_z : rn _ _ _ _ [.int 0] _ _ _ := hm_z
              replace hm_z := rn_ifF (am_cur_of (i := (31, 3, .ifCond .ne 5, (20, 0, 0), 0)) (by decide +kernel)) (by decide) hm_z
              replace hm_z := rn_iconst (w := 0) (am_cur_of (i := (34, 1, .iconst 0, (0, 0, 0), 0)) (by decide +kernel)) (by decide) hm_z
              replace hm_z := rn_iret (am_cur_of (i := (35, 1, .ireturn, (0, 0, 0), 0)) (by decide +kernel)) hm_z
              obtain ⟨e1444_z, e1445_z⟩ := hm_z
              subst e1444_z e1445_z
              exact Or.inr ⟨rfl, _, 3, by decide, K.1, K.2.trans R5, rfl, R6⟩
            · exact absurd (rp_fm_u hi2_z (k2_z.2 ▸ y5_z) names) b1315_z.1
        · have K := rs_stick (a := 31) (by decide) (by decide) rfl (by decide) f1_z f2_z hc_z
          have k2_z := tk_n3 R10 k3_z
          replace hm_z := rn_aload_n (am_cur_of (i := (18, 1, .aload_n 0, (0, 0, 0), 0)) (by decide +kernel)) g0m hm_z
          replace hm_z := rn_aload_n (am_cur_of (i := (19, 1, .aload_n 0, (0, 0, 0), 0)) (by decide +kernel)) g0m hm_z
          replace hm_z := rn_getR (x := 169) (am_cur_of (i := (20, 3, .getfield 27, (12, 24, 1408), 0)) (by decide +kernel)) (by decide +kernel) hm_z
          replace hm_z := rn_iconst (w := 4) (am_cur_of (i := (23, 1, .iconst 4, (0, 0, 0), 0)) (by decide +kernel)) (by decide) hm_z
          replace hm_z := rn_aload_n (am_cur_of (i := (24, 1, .aload_n 0, (0, 0, 0), 0)) (by decide +kernel)) g0m hm_z
          replace hm_z := rn_getI (v := 0) (am_cur_of (i := (25, 3, .getfield 201, (12, 17, 1401), 0)) (by decide +kernel)) (by decide +kernel) (nb1_z.symm.trans ecb) hm_z
          replace hm_z := rn_callV (M' := am_m164) (o := 164) (ar := [.int 0, .int 4, .ref 169]) (rest := []) (L := lv_args 0 [.ref 164, .ref 169, .int 4, .int 0]) (am_cur_of (i := (28, 3, .invokevirtual 248, (164, 1688, 3), 0)) (by decide +kernel)) rfl rfl rfl rfl hm_z
          obtain ⟨r1446_z, h1447_z, q1448_z, hm_z⟩ := hm_z
          rcases rp_newB (nb := 0) (by omega) (by omega) q1448_z with ⟨y1_z, rfl, y3_z⟩ | ⟨y1_z, rfl, y3_z, y4_z, y5_z, y6_z⟩ | ⟨y1_z, rfl, y5_z, y4_z, y6_z, y7_z⟩
          · subst y3_z
            replace hm_z : rn _ _ _ _ [.int 0] _ _ _ := hm_z
            replace hm_z := rn_ifF (am_cur_of (i := (31, 3, .ifCond .ne 5, (20, 0, 0), 0)) (by decide +kernel)) (by decide) hm_z
            replace hm_z := rn_iconst (w := 0) (am_cur_of (i := (34, 1, .iconst 0, (0, 0, 0), 0)) (by decide +kernel)) (by decide) hm_z
            replace hm_z := rn_iret (am_cur_of (i := (35, 1, .ireturn, (0, 0, 0), 0)) (by decide +kernel)) hm_z
            obtain ⟨e1449_z, e1450_z⟩ := hm_z
            subst e1449_z e1450_z
            exact Or.inr ⟨rfl, _, 1, by decide, K.1, K.2.trans R5, rfl, R6⟩
          · exact absurd y1_z k2_z
          · exact absurd y1_z k2_z
      · obtain rfl : cb = 1 := rt_i32 (q4_z.trans (by decide))
        replace hc_z := rn_ifF (am_cur_of (i := (12, 3, .ifCond .eq 10, (10, 0, 0), 0)) (by decide +kernel)) (by decide) hc_z
        replace hc_z := rn_aload_n (am_cur_of (i := (15, 1, .aload_n 0, (0, 0, 0), 0)) (by decide +kernel)) g0_z hc_z
        replace hc_z := rn_callV (M' := am_m33) (o := 44) (ar := []) (rest := []) (L := lv_args 0 [.ref 44]) (am_cur_of (i := (16, 3, .invokevirtual 158, (33, 785, 3), 0)) (by decide +kernel)) rfl rfl rfl rfl hc_z
        obtain ⟨r1451_z, h1452_z, q1453_z, hc_z⟩ := hc_z
        rcases rp_own R4 q1453_z with ⟨k3_z, rfl, eh⟩ | ⟨k3_z, f1_z, f2_z⟩
        · replace eh := eh.symm
          subst eh
          have k2_z := tk_3 R10 k3_z
          replace hc_z : rn _ _ _ _ [.int 1] _ _ _ := hc_z
          replace hc_z := rn_ifT (am_cur_of (i := (19, 3, .ifCond .ne 4, (11, 0, 0), 0)) (by decide +kernel)) (by decide) hc_z
          replace hc_z := rn_aload_n (am_cur_of (i := (23, 1, .aload_n 0, (0, 0, 0), 0)) (by decide +kernel)) g0_z hc_z
          replace hc_z := rn_getM (x := 23) (am_cur_of (i := (24, 3, .getfield 25, (4, 6, 415), 0)) (by decide +kernel)) R3 hc_z
          replace hc_z := rn_aload_n (am_cur_of (i := (27, 1, .aload_n 0, (0, 0, 0), 0)) (by decide +kernel)) g0_z hc_z
          replace hc_z := rn_getI (v := rg_v h1297_z 44 11) (am_cur_of (i := (28, 3, .getfield 91, (4, 11, 420), 0)) (by decide +kernel)) (by decide +kernel) rfl hc_z
          replace hc_z := rn_callV (M' := am_m34) (o := 23) (ar := [.int (rg_v h1297_z 44 11)]) (rest := []) (L := lv_args 0 [.ref 23, .int (rg_v h1297_z 44 11)]) (am_cur_of (i := (31, 3, .invokevirtual 162, (34, 789, 3), 0)) (by decide +kernel)) rfl rfl rfl rfl hc_z
          obtain ⟨r1454_z, h1455_z, q1456_z, hc_z⟩ := hc_z
          obtain ⟨eh, i2_z, rfl, hi2_z⟩ := rp_bn23 ecb (by omega) q1456_z
          replace eh := eh.symm
          subst eh
          have hib := rp_fm_b hi2_z (by omega)
          have names : ∀ b : Nat, (b : Int) < (1 : Int32).toInt → rg_v h1297_z (40 + b) 0 = rg_v h1307_z 169 (4 + b) := by
            intro b hb_z
            match b with
            | 0 => exact AC0 (by rw [ecb]; exact hb_z) 0 (by decide)
            | 1 => exact AC1 (by rw [ecb]; exact hb_z) 0 (by decide)
            | 2 => exact AC2 (by rw [ecb]; exact hb_z) 0 (by decide)
            | 3 => exact AC3 (by rw [ecb]; exact hb_z) 0 (by decide)
            | b + 4 => omega
          replace hc_z : rn _ _ _ _ [.int i2_z] _ _ _ := hc_z
          replace hc_z := rn_iconst (w := (-1)) (am_cur_of (i := (34, 1, .iconst (-1), (0, 0, 0), 0)) (by decide +kernel)) (by decide) hc_z
          replace hc_z := rn_cmp (am_cur_of (i := (35, 3, .if_icmp .eq 9, (22, 0, 0), 0)) (by decide +kernel)) hc_z
          rcases hc_z with ⟨b1457_z, hc_z⟩ | ⟨b1457_z, hc_z⟩
          · replace b1457_z : i2_z = ((-1) : Int32) ∧ i2_z.toInt = ((-1) : Int32).toInt := b1457_z
            replace hc_z := rn_aload_n (am_cur_of (i := (44, 1, .aload_n 0, (0, 0, 0), 0)) (by decide +kernel)) g0_z hc_z
            replace hc_z := rn_getM (x := 23) (am_cur_of (i := (45, 3, .getfield 25, (4, 6, 415), 0)) (by decide +kernel)) R3 hc_z
            replace hc_z := rn_getR (x := 24) (am_cur_of (i := (48, 3, .getfield 166, (1, 3, 265), 0)) (by decide +kernel)) (by decide +kernel) hc_z
            replace hc_z := rn_aload_n (am_cur_of (i := (51, 1, .aload_n 0, (0, 0, 0), 0)) (by decide +kernel)) g0_z hc_z
            replace hc_z := rn_getM (x := 23) (am_cur_of (i := (52, 3, .getfield 25, (4, 6, 415), 0)) (by decide +kernel)) R3 hc_z
            replace hc_z := rn_getI (v := 1) (am_cur_of (i := (55, 3, .getfield 151, (1, 2, 259), 0)) (by decide +kernel)) (by decide +kernel) ecb hc_z
            replace hc_z := rn_aaload (s := "AirBed$Blower") (N := 4) (q := 1) (am_cur_of (i := (58, 1, .aaload, (0, 0, 0), 0)) (by decide +kernel)) (by decide +kernel) rfl hc_z
            obtain ⟨p1458_z, hc_z⟩ := hc_z
            rw [show rg_r h1297_z 24 1 = 41 from rp_bc23 (rn_G hc_z) (q := 1) (by decide)] at hc_z
            replace hc_z := rn_astore_n (am_cur_of (i := (59, 1, .astore_n 1, (0, 0, 0), 0)) (by decide +kernel)) hc_z
            obtain ⟨_, s1459_z, s1460_z, g1_z, hc_z⟩ := hc_z
            replace g0_z := s1459_z 0 _ (by decide) rfl g0_z
            clear s1459_z s1460_z
            replace hc_z := rn_aload_n (am_cur_of (i := (60, 1, .aload_n 1, (0, 0, 0), 0)) (by decide +kernel)) g1_z hc_z
            replace hc_z := rn_aload_n (am_cur_of (i := (61, 1, .aload_n 0, (0, 0, 0), 0)) (by decide +kernel)) g0_z hc_z
            replace hc_z := rn_getI (v := rg_v h1297_z 44 11) (am_cur_of (i := (62, 3, .getfield 91, (4, 11, 420), 0)) (by decide +kernel)) (by decide +kernel) rfl hc_z
            replace hc_z := rn_put (am_cur_of (i := (65, 3, .putfield 170, (3, 0, 204), 0)) (by decide +kernel)) (by decide +kernel) hc_z
            replace hc_z := rn_aload_n (am_cur_of (i := (68, 1, .aload_n 0, (0, 0, 0), 0)) (by decide +kernel)) g0_z hc_z
            replace hc_z := rn_callV (M' := am_m19) (o := 44) (ar := []) (rest := []) (L := lv_args 0 [.ref 44]) (am_cur_of (i := (69, 3, .invokevirtual 57, (19, 727, 3), 0)) (by decide +kernel)) rfl rfl rfl rfl hc_z
            obtain ⟨r1461_z, h1462_z, q1463_z, hc_z⟩ := hc_z
            have vo := rn_void rfl q1463_z
            subst vo
            replace hm_z := rn_aload_n (am_cur_of (i := (18, 1, .aload_n 0, (0, 0, 0), 0)) (by decide +kernel)) g0m hm_z
            replace hm_z := rn_aload_n (am_cur_of (i := (19, 1, .aload_n 0, (0, 0, 0), 0)) (by decide +kernel)) g0m hm_z
            replace hm_z := rn_getR (x := 169) (am_cur_of (i := (20, 3, .getfield 27, (12, 24, 1408), 0)) (by decide +kernel)) (by decide +kernel) hm_z
            replace hm_z := rn_iconst (w := 4) (am_cur_of (i := (23, 1, .iconst 4, (0, 0, 0), 0)) (by decide +kernel)) (by decide) hm_z
            replace hm_z := rn_aload_n (am_cur_of (i := (24, 1, .aload_n 0, (0, 0, 0), 0)) (by decide +kernel)) g0m hm_z
            replace hm_z := rn_getI (v := 1) (am_cur_of (i := (25, 3, .getfield 201, (12, 17, 1401), 0)) (by decide +kernel)) (by decide +kernel) (nb1_z.symm.trans ecb) hm_z
            replace hm_z := rn_callV (M' := am_m164) (o := 164) (ar := [.int 1, .int 4, .ref 169]) (rest := []) (L := lv_args 0 [.ref 164, .ref 169, .int 4, .int 1]) (am_cur_of (i := (28, 3, .invokevirtual 248, (164, 1688, 3), 0)) (by decide +kernel)) rfl rfl rfl rfl hm_z
            obtain ⟨r1464_z, h1465_z, q1466_z, hm_z⟩ := hm_z
            rcases rp_newB (nb := 1) (by omega) (by omega) q1466_z with ⟨y1_z, rfl, y3_z⟩ | ⟨y1_z, rfl, y3_z, y4_z, y5_z, y6_z⟩ | ⟨y1_z, rfl, y5_z, y4_z, y6_z, y7_z⟩
            · exact absurd k2_z.1 y1_z
            · have ei := rp_fm_u hi2_z (k2_z.2 ▸ y5_z) names
              rw [← ei] at y6_z
              omega
            · have vo := rn_void rfl y7_z
              subst vo
              have R' : rq T S x1_z p1_z 23 (am_up h1297_z 41 0 (.int (rg_v h1297_z 44 11))) (am_up h1307_z 169 5 (.int (rg_v h1307_z 164 9))) := ⟨⟨c1_z, c2_z, c3_z, c4_z, c5_z, c6_z, fun k hk_z => c7_z k hk_z, fun k hk_z => c8_z k hk_z⟩, ⟨m2_z, m3_z, m4_z, m5_z, m6_z, fun k hk_z => m7_z k hk_z, fun k hk_z => m8_z k hk_z⟩, R3, R4, R5, R6, R7, R8, R9, R10⟩
              have A' : rp 23 (am_up h1297_z 41 0 (.int (rg_v h1297_z 44 11))) (am_up h1307_z 169 5 (.int (rg_v h1307_z 164 9))) := ⟨⟨a1_z, a2_z, a3_z, a4_z, a5_z, a6_z⟩, ⟨nb1_z, nb2_z, nb3_z⟩, ⟨nt1_z, nt2_z, nt3_z⟩, ⟨nl1_z, nl2_z, nl3_z⟩, ⟨nr1_z, nr2_z, nr3_z⟩, ⟨nk1_z, nk2_z, nk3_z⟩, ⟨fun hb_z k hk_z => AC0 hb_z k hk_z, fun hb_z => absurd hb_z (by rw [show rg_v (am_up h1297_z 41 0 (.int (rg_v h1297_z 44 11))) 23 2 = 1 from ecb]; decide), fun hb_z => absurd hb_z (by rw [show rg_v (am_up h1297_z 41 0 (.int (rg_v h1297_z 44 11))) 23 2 = 1 from ecb]; decide), fun hb_z => absurd hb_z (by rw [show rg_v (am_up h1297_z 41 0 (.int (rg_v h1297_z 44 11))) 23 2 = 1 from ecb]; decide)⟩, fun t ht => AD t ht, fun t ht => AE t ht, fun t ht => AG t ht⟩
              have B' : rp_t (am_up h1297_z 41 0 (.int (rg_v h1297_z 44 11))) (am_up h1307_z 169 5 (.int (rg_v h1307_z 164 9))) := by
                obtain ⟨b0_z, b1_z, b2_z, b3_z, b4_z, b5_z, b6_z, t, o0_z, o1_z, o2_z, o3_z, o4_z, o5_z, o6_z⟩ := B
                exact ⟨b0_z, b1_z, b2_z, b3_z, b4_z, b5_z, b6_z, t, o0_z, o1_z, o2_z, o3_z, o4_z, o5_z, o6_z⟩
              obtain ⟨-, -, x10_z, p10_z, R, le10_z, t5_z, t6_z⟩ := pr_tok (rq_0 R') q1463_z y7_z
              replace A := rp_x (by decide) A' (rx_C_f t5_z) (rx_M_f t6_z)
              replace B := rp_tk B' (rg_v_fr t5_z (by decide)) (fun k => rg_v_fr t6_z (rg_v_in (by decide) k)) (rx_M_f t6_z)
              clear A' B' R'
              replace le10_z : x.toInt ≤ p10_z.toInt := Int.le_trans (Int.le_trans le1_z R8) le10_z
              replace ecb : rg_v h1462_z 23 2 = 1 := (rx_v (rx_C_f t5_z) (o := 23) (k := 2) (by decide)).trans ecb
              replace ect : rg_v h1462_z 23 4 = ct := (rx_v (rx_C_f t5_z) (o := 23) (k := 4) (by decide)).trans ect
              replace ecl : rg_v h1462_z 23 9 = cl := (rx_v (rx_C_f t5_z) (o := 23) (k := 9) (by decide)).trans ecl
              replace ecr : rg_v h1462_z 23 12 = cr := (rx_v (rx_C_f t5_z) (o := 23) (k := 12) (by decide)).trans ecr
              have E0 : rg_v h1462_z 41 0 = rg_v h1465_z 169 5 := (rx_v (rx_C_f t5_z) (o := 41) (k := 0) (by decide)).trans (Eq.trans (k2_z.2) (rx_w (rx_M_f t6_z) (o := 169) (k := 5) (by omega) (by decide)).symm)
              replace hm_z : rn _ _ _ _ [.int 1] _ _ _ := hm_z
              replace hc_z : rn _ _ _ _ [] _ _ _ := hc_z
              clear a1_z a2_z a3_z a4_z a5_z a6_z nb1_z nb2_z nb3_z nt1_z nt2_z nt3_z nl1_z nl2_z nl3_z nr1_z nr2_z nr3_z nk1_z nk2_z nk3_z AC0 AC1 AC2 AC3 AD AE AG c1_z c2_z c3_z c4_z c5_z c6_z c7_z c8_z m2_z m3_z m4_z m5_z m6_z m7_z m8_z R3 R4 R5 R6 R7 R8 R9 R10
              obtain ⟨⟨⟨a1_z, a2_z, a3_z, a4_z, a5_z, a6_z⟩, ⟨nb1_z, nb2_z, nb3_z⟩, ⟨nt1_z, nt2_z, nt3_z⟩, ⟨nl1_z, nl2_z, nl3_z⟩, ⟨nr1_z, nr2_z, nr3_z⟩, ⟨nk1_z, nk2_z, nk3_z⟩, ⟨AC0, AC1, AC2, AC3⟩, AD, AE, AG⟩, ⟨⟨c1_z, c2_z, c3_z, c4_z, c5_z, c6_z, c7_z, c8_z⟩, ⟨m2_z, m3_z, m4_z, m5_z, m6_z, m7_z, m8_z⟩, R3, R4, R5, R6, R7, R8, R9, R10⟩⟩ := (⟨A, R⟩ : rp 23 h1462_z h1465_z ∧ rq T S x10_z p10_z 23 h1462_z h1465_z)
              replace hc_z := rn_aload_n (am_cur_of (i := (72, 1, .aload_n 1, (0, 0, 0), 0)) (by decide +kernel)) g1_z hc_z
              replace hc_z := rn_aload_n (am_cur_of (i := (73, 1, .aload_n 0, (0, 0, 0), 0)) (by decide +kernel)) g0_z hc_z
              replace hc_z := rn_iconst (w := 1) (am_cur_of (i := (74, 1, .iconst 1, (0, 0, 0), 0)) (by decide +kernel)) (by decide) hc_z
              replace hc_z := rn_bipush (w := 99) (am_cur_of (i := (75, 2, .bipush 99, (0, 0, 0), 0)) (by decide +kernel)) (by decide) hc_z
              replace hc_z := rn_callV (M' := am_m30) (o := 44) (ar := [.int 99, .int 1]) (rest := [.ref 41]) (L := lv_args 0 [.ref 44, .int 1, .int 99]) (am_cur_of (i := (77, 3, .invokevirtual 142, (30, 773, 3), 0)) (by decide +kernel)) rfl rfl rfl rfl hc_z
              obtain ⟨r1467_z, h1468_z, q1469_z, hc_z⟩ := hc_z
              replace hm_z := rn_ifT (am_cur_of (i := (31, 3, .ifCond .ne 5, (20, 0, 0), 0)) (by decide +kernel)) (by decide) hm_z
              replace hm_z := rn_bipush (w := 28) (am_cur_of (i := (36, 2, .bipush 28, (0, 0, 0), 0)) (by decide +kernel)) (by decide) hm_z
              replace hm_z := rn_bipush (w := 7) (am_cur_of (i := (38, 2, .bipush 7, (0, 0, 0), 0)) (by decide +kernel)) (by decide) hm_z
              replace hm_z := rn_aload_n (am_cur_of (i := (40, 1, .aload_n 0, (0, 0, 0), 0)) (by decide +kernel)) g0m hm_z
              replace hm_z := rn_getI (v := 1) (am_cur_of (i := (41, 3, .getfield 201, (12, 17, 1401), 0)) (by decide +kernel)) (by decide +kernel) (nb1_z.symm.trans ecb) hm_z
              replace hm_z := rn_imul (w := 7) (am_cur_of (i := (44, 1, .imul, (0, 0, 0), 0)) (by decide +kernel)) (by decide) hm_z
              replace hm_z := rn_iadd (w := 35) (am_cur_of (i := (45, 1, .iadd, (0, 0, 0), 0)) (by decide +kernel)) (by decide) hm_z
              replace hm_z := rn_istore_n (am_cur_of (i := (46, 1, .istore_n 1, (0, 0, 0), 0)) (by decide +kernel)) hm_z
              obtain ⟨_, s1470_z, s1471_z, g1m, hm_z⟩ := hm_z
              replace g0m := s1470_z 0 _ (by decide) rfl g0m
              clear s1470_z s1471_z
              replace hm_z := rn_iconst (w := 0) (am_cur_of (i := (47, 1, .iconst 0, (0, 0, 0), 0)) (by decide +kernel)) (by decide) hm_z
              replace hm_z := rn_istore_n (am_cur_of (i := (48, 1, .istore_n 2, (0, 0, 0), 0)) (by decide +kernel)) hm_z
              obtain ⟨_, s1472_z, s1473_z, g2m, hm_z⟩ := hm_z
              replace g0m := s1472_z 0 _ (by decide) rfl g0m
              replace g1m := s1472_z 1 _ (by decide) rfl g1m
              clear s1472_z s1473_z
              replace hm_z := rn_iload_n (am_cur_of (i := (49, 1, .iload_n 2, (0, 0, 0), 0)) (by decide +kernel)) g2m hm_z
              replace hm_z := rn_bipush (w := 7) (am_cur_of (i := (50, 2, .bipush 7, (0, 0, 0), 0)) (by decide +kernel)) (by decide) hm_z
              replace hm_z := rn_cmpF (am_cur_of (i := (52, 3, .if_icmp .ge 87, (79, 0, 0), 0)) (by decide +kernel)) (by decide) hm_z
              replace hm_z := rn_iload_n (am_cur_of (i := (55, 1, .iload_n 2, (0, 0, 0), 0)) (by decide +kernel)) g2m hm_z
              replace hm_z := rn_ifT (am_cur_of (i := (56, 3, .ifCond .eq 13, (40, 0, 0), 0)) (by decide +kernel)) (by decide) hm_z
              replace hm_z := rn_iconst (w := 1) (am_cur_of (i := (69, 1, .iconst 1, (0, 0, 0), 0)) (by decide +kernel)) (by decide) hm_z
              replace hm_z := rn_goto (am_cur_of (i := (70, 3, .goto 4, (43, 0, 0), 0)) (by decide +kernel)) hm_z
              replace hm_z := rn_istore_n (am_cur_of (i := (74, 1, .istore_n 3, (0, 0, 0), 0)) (by decide +kernel)) hm_z
              obtain ⟨_, s1474_z, s1475_z, g3m, hm_z⟩ := hm_z
              replace g0m := s1474_z 0 _ (by decide) rfl g0m
              replace g1m := s1474_z 1 _ (by decide) rfl g1m
              replace g2m := s1474_z 2 _ (by decide) rfl g2m
              clear s1474_z s1475_z
              replace hm_z := rn_iload_n (am_cur_of (i := (75, 1, .iload_n 2, (0, 0, 0), 0)) (by decide +kernel)) g2m hm_z
              replace hm_z := rn_iconst (w := 1) (am_cur_of (i := (76, 1, .iconst 1, (0, 0, 0), 0)) (by decide +kernel)) (by decide) hm_z
              replace hm_z := rn_cmpF (am_cur_of (i := (77, 3, .if_icmp .eq 8, (50, 0, 0), 0)) (by decide +kernel)) (by decide) hm_z
              replace hm_z := rn_iload_n (am_cur_of (i := (80, 1, .iload_n 2, (0, 0, 0), 0)) (by decide +kernel)) g2m hm_z
              replace hm_z := rn_iconst (w := 2) (am_cur_of (i := (81, 1, .iconst 2, (0, 0, 0), 0)) (by decide +kernel)) (by decide) hm_z
              replace hm_z := rn_cmpT (am_cur_of (i := (82, 3, .if_icmp .ne 8, (52, 0, 0), 0)) (by decide +kernel)) (by decide) hm_z
              replace hm_z := rn_iload_n (am_cur_of (i := (90, 1, .iload_n 2, (0, 0, 0), 0)) (by decide +kernel)) g2m hm_z
              replace hm_z := rn_iconst (w := 3) (am_cur_of (i := (91, 1, .iconst 3, (0, 0, 0), 0)) (by decide +kernel)) (by decide) hm_z
              replace hm_z := rn_cmpF (am_cur_of (i := (92, 3, .if_icmp .eq 8, (58, 0, 0), 0)) (by decide +kernel)) (by decide) hm_z
              replace hm_z := rn_iload_n (am_cur_of (i := (95, 1, .iload_n 2, (0, 0, 0), 0)) (by decide +kernel)) g2m hm_z
              replace hm_z := rn_iconst (w := 5) (am_cur_of (i := (96, 1, .iconst 5, (0, 0, 0), 0)) (by decide +kernel)) (by decide) hm_z
              replace hm_z := rn_cmpT (am_cur_of (i := (97, 3, .if_icmp .ne 8, (60, 0, 0), 0)) (by decide +kernel)) (by decide) hm_z
              replace hm_z := rn_bipush (w := 99) (am_cur_of (i := (105, 2, .bipush 99, (0, 0, 0), 0)) (by decide +kernel)) (by decide) hm_z
              replace hm_z := rn_istore (am_cur_of (i := (107, 2, .istore 4, (0, 0, 0), 0)) (by decide +kernel)) hm_z
              obtain ⟨_, s1476_z, s1477_z, g4m, hm_z⟩ := hm_z
              replace g0m := s1476_z 0 _ (by decide) rfl g0m
              replace g1m := s1476_z 1 _ (by decide) rfl g1m
              replace g2m := s1476_z 2 _ (by decide) rfl g2m
              replace g3m := s1476_z 3 _ (by decide) rfl g3m
              clear s1476_z s1477_z
              replace hm_z := rn_aload_n (am_cur_of (i := (109, 1, .aload_n 0, (0, 0, 0), 0)) (by decide +kernel)) g0m hm_z
              replace hm_z := rn_iload_n (am_cur_of (i := (110, 1, .iload_n 3, (0, 0, 0), 0)) (by decide +kernel)) g3m hm_z
              replace hm_z := rn_iload (am_cur_of (i := (111, 2, .iload 4, (0, 0, 0), 0)) (by decide +kernel)) g4m hm_z
              replace hm_z := rn_callV (M' := am_m161) (o := 164) (ar := [.int 99, .int 1]) (rest := []) (L := lv_args 0 [.ref 164, .int 1, .int 99]) (am_cur_of (i := (113, 3, .invokevirtual 197, (161, 1677, 3), 0)) (by decide +kernel)) rfl rfl rfl rfl hm_z
              obtain ⟨r1478_z, h1479_z, q1480_z, hm_z⟩ := hm_z
              have R' : rq T S x10_z p10_z 23 h1462_z h1465_z := ⟨⟨c1_z, c2_z, c3_z, c4_z, c5_z, c6_z, fun k hk_z => c7_z k hk_z, fun k hk_z => c8_z k hk_z⟩, ⟨m2_z, m3_z, m4_z, m5_z, m6_z, fun k hk_z => m7_z k hk_z, fun k hk_z => m8_z k hk_z⟩, R3, R4, R5, R6, R7, R8, R9, R10⟩
              have A' : rp 23 h1462_z h1465_z := ⟨⟨a1_z, a2_z, a3_z, a4_z, a5_z, a6_z⟩, ⟨nb1_z, nb2_z, nb3_z⟩, ⟨nt1_z, nt2_z, nt3_z⟩, ⟨nl1_z, nl2_z, nl3_z⟩, ⟨nr1_z, nr2_z, nr3_z⟩, ⟨nk1_z, nk2_z, nk3_z⟩, ⟨(fun hb_z k hk_z => by match k, hk_z with | 0, _ => exact AC0 hb_z 0 (by decide) | 1, _ => exact AC0 hb_z 1 (by decide) | 2, _ => exact AC0 hb_z 2 (by decide) | 3, _ => exact AC0 hb_z 3 (by decide) | 4, _ => exact AC0 hb_z 4 (by decide) | 5, _ => exact AC0 hb_z 5 (by decide) | 6, _ => exact AC0 hb_z 6 (by decide) | 7, _ => exact AC0 hb_z 7 (by decide)), fun hb_z => absurd hb_z (by rw [show rg_v h1462_z 23 2 = 1 from ecb]; decide), fun hb_z => absurd hb_z (by rw [show rg_v h1462_z 23 2 = 1 from ecb]; decide), fun hb_z => absurd hb_z (by rw [show rg_v h1462_z 23 2 = 1 from ecb]; decide)⟩, fun t ht => AD t ht, fun t ht => AE t ht, fun t ht => AG t ht⟩
              have B' : rp_t h1462_z h1465_z := by
                obtain ⟨b0_z, b1_z, b2_z, b3_z, b4_z, b5_z, b6_z, t, o0_z, o1_z, o2_z, o3_z, o4_z, o5_z, o6_z⟩ := B
                exact ⟨b0_z, b1_z, b2_z, b3_z, b4_z, b5_z, b6_z, t, o0_z, o1_z, o2_z, o3_z, o4_z, o5_z, o6_z⟩
              rcases pr_num R' (by decide) (by decide) q1469_z q1480_z with ⟨v11_z, x11_z, p11_z, rfl, rfl, lo11_z, hi11_z, R, le11_z, got, X, Y, t7_z, t167_z⟩ | ⟨rfl, F⟩
              · replace A := rp_x (by decide) A' X Y
                replace B := rp_tk B' t7_z t167_z Y
                clear A' B' R'
                replace le11_z : x.toInt ≤ p11_z.toInt := Int.le_trans (Int.le_trans le10_z R8) le11_z
                replace ecb : rg_v h1468_z 23 2 = 1 := (rx_v X (o := 23) (k := 2) (by decide)).trans ecb
                replace ect : rg_v h1468_z 23 4 = ct := (rx_v X (o := 23) (k := 4) (by decide)).trans ect
                replace ecl : rg_v h1468_z 23 9 = cl := (rx_v X (o := 23) (k := 9) (by decide)).trans ecl
                replace ecr : rg_v h1468_z 23 12 = cr := (rx_v X (o := 23) (k := 12) (by decide)).trans ecr
                replace E0 : rg_v h1468_z 41 0 = rg_v h1479_z 169 5 := (rx_v X (o := 41) (k := 0) (by decide)).trans (E0.trans (rx_w Y (o := 169) (k := 5) (by omega) (by decide)).symm)
                replace hm_z : rn _ _ _ _ [.int 1] _ _ _ := hm_z
                replace hc_z : rn _ _ _ _ [.int v11_z, .ref 41] _ _ _ := hc_z
                clear a1_z a2_z a3_z a4_z a5_z a6_z nb1_z nb2_z nb3_z nt1_z nt2_z nt3_z nl1_z nl2_z nl3_z nr1_z nr2_z nr3_z nk1_z nk2_z nk3_z AC0 AC1 AC2 AC3 AD AE AG c1_z c2_z c3_z c4_z c5_z c6_z c7_z c8_z m2_z m3_z m4_z m5_z m6_z m7_z m8_z R3 R4 R5 R6 R7 R8 R9 R10
                obtain ⟨⟨⟨a1_z, a2_z, a3_z, a4_z, a5_z, a6_z⟩, ⟨nb1_z, nb2_z, nb3_z⟩, ⟨nt1_z, nt2_z, nt3_z⟩, ⟨nl1_z, nl2_z, nl3_z⟩, ⟨nr1_z, nr2_z, nr3_z⟩, ⟨nk1_z, nk2_z, nk3_z⟩, ⟨AC0, AC1, AC2, AC3⟩, AD, AE, AG⟩, ⟨⟨c1_z, c2_z, c3_z, c4_z, c5_z, c6_z, c7_z, c8_z⟩, ⟨m2_z, m3_z, m4_z, m5_z, m6_z, m7_z, m8_z⟩, R3, R4, R5, R6, R7, R8, R9, R10⟩⟩ := (⟨A, R⟩ : rp 23 h1468_z h1479_z ∧ rq T S x11_z p11_z 23 h1468_z h1479_z)
                replace hc_z := rn_put (am_cur_of (i := (80, 3, .putfield 175, (3, 1, 206), 0)) (by decide +kernel)) (by decide +kernel) hc_z
                replace hc_z := rn_aload_n (am_cur_of (i := (83, 1, .aload_n 1, (0, 0, 0), 0)) (by decide +kernel)) g1_z hc_z
                replace hc_z := rn_aload_n (am_cur_of (i := (84, 1, .aload_n 0, (0, 0, 0), 0)) (by decide +kernel)) g0_z hc_z
                replace hc_z := rn_iconst (w := 0) (am_cur_of (i := (85, 1, .iconst 0, (0, 0, 0), 0)) (by decide +kernel)) (by decide) hc_z
                replace hc_z := rn_bipush (w := 20) (am_cur_of (i := (86, 2, .bipush 20, (0, 0, 0), 0)) (by decide +kernel)) (by decide) hc_z
                replace hc_z := rn_callV (M' := am_m30) (o := 44) (ar := [.int 20, .int 0]) (rest := [.ref 41]) (L := lv_args 0 [.ref 44, .int 0, .int 20]) (am_cur_of (i := (88, 3, .invokevirtual 142, (30, 773, 3), 0)) (by decide +kernel)) rfl rfl rfl rfl hc_z
                obtain ⟨r1481_z, h1482_z, q1483_z, hc_z⟩ := hc_z
                replace hm_z := rn_ifT (am_cur_of (i := (116, 3, .ifCond .ne 5, (69, 0, 0), 0)) (by decide +kernel)) (by decide) hm_z
                replace hm_z := rn_aload_n (am_cur_of (i := (121, 1, .aload_n 0, (0, 0, 0), 0)) (by decide +kernel)) g0m hm_z
                replace hm_z := rn_getR (x := 170) (am_cur_of (i := (122, 3, .getfield 30, (12, 25, 1409), 0)) (by decide +kernel)) (by decide +kernel) hm_z
                replace hm_z := rn_iload_n (am_cur_of (i := (125, 1, .iload_n 1, (0, 0, 0), 0)) (by decide +kernel)) g1m hm_z
                replace hm_z := rn_iload_n (am_cur_of (i := (126, 1, .iload_n 2, (0, 0, 0), 0)) (by decide +kernel)) g2m hm_z
                replace hm_z := rn_iadd (w := 35) (am_cur_of (i := (127, 1, .iadd, (0, 0, 0), 0)) (by decide +kernel)) (by decide) hm_z
                replace hm_z := rn_aload_n (am_cur_of (i := (128, 1, .aload_n 0, (0, 0, 0), 0)) (by decide +kernel)) g0m hm_z
                replace hm_z := rn_getI (v := v11_z) (am_cur_of (i := (129, 3, .getfield 188, (12, 11, 1395), 0)) (by decide +kernel)) (by decide +kernel) got hm_z
                replace hm_z := rn_iastore (N := 56) (q := 35) (am_cur_of (i := (132, 1, .iastore, (0, 0, 0), 0)) (by decide +kernel)) (by decide +kernel) rfl hm_z
                obtain ⟨p1484_z, hm_z⟩ := hm_z
                replace hm_z := rn_iinc (w := 1) (am_cur_of (i := (133, 3, .iinc 2 1, (0, 0, 0), 0)) (by decide +kernel)) g2m (by decide) hm_z
                obtain ⟨_, s1485_z, s1486_z, g2m, hm_z⟩ := hm_z
                replace g0m := s1485_z 0 _ (by decide) rfl g0m
                replace g1m := s1485_z 1 _ (by decide) rfl g1m
                replace g3m := s1485_z 3 _ (by decide) rfl g3m
                replace g4m := s1485_z 4 _ (by decide) rfl g4m
                clear s1485_z s1486_z
                replace hm_z := rn_goto (am_cur_of (i := (136, 3, .goto (-87), (29, 0, 0), 0)) (by decide +kernel)) hm_z
                replace hm_z := rn_iload_n (am_cur_of (i := (49, 1, .iload_n 2, (0, 0, 0), 0)) (by decide +kernel)) g2m hm_z
                replace hm_z := rn_bipush (w := 7) (am_cur_of (i := (50, 2, .bipush 7, (0, 0, 0), 0)) (by decide +kernel)) (by decide) hm_z
                replace hm_z := rn_cmpF (am_cur_of (i := (52, 3, .if_icmp .ge 87, (79, 0, 0), 0)) (by decide +kernel)) (by decide) hm_z
                replace hm_z := rn_iload_n (am_cur_of (i := (55, 1, .iload_n 2, (0, 0, 0), 0)) (by decide +kernel)) g2m hm_z
                replace hm_z := rn_ifF (am_cur_of (i := (56, 3, .ifCond .eq 13, (40, 0, 0), 0)) (by decide +kernel)) (by decide) hm_z
                replace hm_z := rn_iload_n (am_cur_of (i := (59, 1, .iload_n 2, (0, 0, 0), 0)) (by decide +kernel)) g2m hm_z
                replace hm_z := rn_iconst (w := 2) (am_cur_of (i := (60, 1, .iconst 2, (0, 0, 0), 0)) (by decide +kernel)) (by decide) hm_z
                replace hm_z := rn_cmpF (am_cur_of (i := (61, 3, .if_icmp .eq 8, (40, 0, 0), 0)) (by decide +kernel)) (by decide) hm_z
                replace hm_z := rn_iload_n (am_cur_of (i := (64, 1, .iload_n 2, (0, 0, 0), 0)) (by decide +kernel)) g2m hm_z
                replace hm_z := rn_iconst (w := 3) (am_cur_of (i := (65, 1, .iconst 3, (0, 0, 0), 0)) (by decide +kernel)) (by decide) hm_z
                replace hm_z := rn_cmpT (am_cur_of (i := (66, 3, .if_icmp .ne 7, (42, 0, 0), 0)) (by decide +kernel)) (by decide) hm_z
                replace hm_z := rn_iconst (w := 0) (am_cur_of (i := (73, 1, .iconst 0, (0, 0, 0), 0)) (by decide +kernel)) (by decide) hm_z
                replace hm_z := rn_istore_n (am_cur_of (i := (74, 1, .istore_n 3, (0, 0, 0), 0)) (by decide +kernel)) hm_z
                obtain ⟨_, s1487_z, s1488_z, g3m, hm_z⟩ := hm_z
                replace g0m := s1487_z 0 _ (by decide) rfl g0m
                replace g1m := s1487_z 1 _ (by decide) rfl g1m
                replace g2m := s1487_z 2 _ (by decide) rfl g2m
                replace g4m := s1487_z 4 _ (by decide) rfl g4m
                clear s1487_z s1488_z
                replace hm_z := rn_iload_n (am_cur_of (i := (75, 1, .iload_n 2, (0, 0, 0), 0)) (by decide +kernel)) g2m hm_z
                replace hm_z := rn_iconst (w := 1) (am_cur_of (i := (76, 1, .iconst 1, (0, 0, 0), 0)) (by decide +kernel)) (by decide) hm_z
                replace hm_z := rn_cmpT (am_cur_of (i := (77, 3, .if_icmp .eq 8, (50, 0, 0), 0)) (by decide +kernel)) (by decide) hm_z
                replace hm_z := rn_bipush (w := 20) (am_cur_of (i := (85, 2, .bipush 20, (0, 0, 0), 0)) (by decide +kernel)) (by decide) hm_z
                replace hm_z := rn_goto (am_cur_of (i := (87, 3, .goto 20, (61, 0, 0), 0)) (by decide +kernel)) hm_z
                replace hm_z := rn_istore (am_cur_of (i := (107, 2, .istore 4, (0, 0, 0), 0)) (by decide +kernel)) hm_z
                obtain ⟨_, s1489_z, s1490_z, g4m, hm_z⟩ := hm_z
                replace g0m := s1489_z 0 _ (by decide) rfl g0m
                replace g1m := s1489_z 1 _ (by decide) rfl g1m
                replace g2m := s1489_z 2 _ (by decide) rfl g2m
                replace g3m := s1489_z 3 _ (by decide) rfl g3m
                clear s1489_z s1490_z
                replace hm_z := rn_aload_n (am_cur_of (i := (109, 1, .aload_n 0, (0, 0, 0), 0)) (by decide +kernel)) g0m hm_z
                replace hm_z := rn_iload_n (am_cur_of (i := (110, 1, .iload_n 3, (0, 0, 0), 0)) (by decide +kernel)) g3m hm_z
                replace hm_z := rn_iload (am_cur_of (i := (111, 2, .iload 4, (0, 0, 0), 0)) (by decide +kernel)) g4m hm_z
                replace hm_z := rn_callV (M' := am_m161) (o := 164) (ar := [.int 20, .int 0]) (rest := []) (L := lv_args 0 [.ref 164, .int 0, .int 20]) (am_cur_of (i := (113, 3, .invokevirtual 197, (161, 1677, 3), 0)) (by decide +kernel)) rfl rfl rfl rfl hm_z
                obtain ⟨r1491_z, h1492_z, q1493_z, hm_z⟩ := hm_z
                have R' : rq T S x11_z p11_z 23 (am_up h1468_z 41 1 (.int v11_z)) (am_up h1479_z 170 35 (.int v11_z)) := ⟨⟨c1_z, c2_z, c3_z, c4_z, c5_z, c6_z, fun k hk_z => c7_z k hk_z, fun k hk_z => c8_z k hk_z⟩, ⟨m2_z, m3_z, m4_z, m5_z, m6_z, fun k hk_z => m7_z k hk_z, fun k hk_z => m8_z k hk_z⟩, R3, R4, R5, R6, R7, R8, R9, R10⟩
                have A' : rp 23 (am_up h1468_z 41 1 (.int v11_z)) (am_up h1479_z 170 35 (.int v11_z)) := ⟨⟨a1_z, a2_z, a3_z, a4_z, a5_z, a6_z⟩, ⟨nb1_z, nb2_z, nb3_z⟩, ⟨nt1_z, nt2_z, nt3_z⟩, ⟨nl1_z, nl2_z, nl3_z⟩, ⟨nr1_z, nr2_z, nr3_z⟩, ⟨nk1_z, nk2_z, nk3_z⟩, ⟨(fun hb_z k hk_z => by match k, hk_z with | 0, _ => exact AC0 hb_z 0 (by decide) | 1, _ => exact AC0 hb_z 1 (by decide) | 2, _ => exact AC0 hb_z 2 (by decide) | 3, _ => exact AC0 hb_z 3 (by decide) | 4, _ => exact AC0 hb_z 4 (by decide) | 5, _ => exact AC0 hb_z 5 (by decide) | 6, _ => exact AC0 hb_z 6 (by decide) | 7, _ => exact AC0 hb_z 7 (by decide)), fun hb_z => absurd hb_z (by rw [show rg_v (am_up h1468_z 41 1 (.int v11_z)) 23 2 = 1 from ecb]; decide), fun hb_z => absurd hb_z (by rw [show rg_v (am_up h1468_z 41 1 (.int v11_z)) 23 2 = 1 from ecb]; decide), fun hb_z => absurd hb_z (by rw [show rg_v (am_up h1468_z 41 1 (.int v11_z)) 23 2 = 1 from ecb]; decide)⟩, fun t ht => AD t ht, fun t ht => AE t ht, fun t ht => AG t ht⟩
                have B' : rp_t (am_up h1468_z 41 1 (.int v11_z)) (am_up h1479_z 170 35 (.int v11_z)) := by
                  obtain ⟨b0_z, b1_z, b2_z, b3_z, b4_z, b5_z, b6_z, t, o0_z, o1_z, o2_z, o3_z, o4_z, o5_z, o6_z⟩ := B
                  exact ⟨b0_z, b1_z, b2_z, b3_z, b4_z, b5_z, b6_z, t, o0_z, o1_z, o2_z, o3_z, o4_z, o5_z, o6_z⟩
                rcases pr_num R' (by decide) (by decide) q1483_z q1493_z with ⟨v12_z, x12_z, p12_z, rfl, rfl, lo12_z, hi12_z, R, le12_z, got, X, Y, t7_z, t167_z⟩ | ⟨rfl, F⟩
                · replace A := rp_x (by decide) A' X Y
                  replace B := rp_tk B' t7_z t167_z Y
                  clear A' B' R'
                  replace le12_z : x.toInt ≤ p12_z.toInt := Int.le_trans (Int.le_trans le11_z R8) le12_z
                  replace ecb : rg_v h1482_z 23 2 = 1 := (rx_v X (o := 23) (k := 2) (by decide)).trans ecb
                  replace ect : rg_v h1482_z 23 4 = ct := (rx_v X (o := 23) (k := 4) (by decide)).trans ect
                  replace ecl : rg_v h1482_z 23 9 = cl := (rx_v X (o := 23) (k := 9) (by decide)).trans ecl
                  replace ecr : rg_v h1482_z 23 12 = cr := (rx_v X (o := 23) (k := 12) (by decide)).trans ecr
                  replace E0 : rg_v h1482_z 41 0 = rg_v h1492_z 169 5 := (rx_v X (o := 41) (k := 0) (by decide)).trans (E0.trans (rx_w Y (o := 169) (k := 5) (by omega) (by decide)).symm)
                  have E1 : rg_v h1482_z 41 1 = rg_v h1492_z 170 35 := (rx_v X (o := 41) (k := 1) (by decide)).trans (Eq.trans (rfl) (rx_w Y (o := 170) (k := 35) (by omega) (by decide)).symm)
                  replace hm_z : rn _ _ _ _ [.int 1] _ _ _ := hm_z
                  replace hc_z : rn _ _ _ _ [.int v12_z, .ref 41] _ _ _ := hc_z
                  clear a1_z a2_z a3_z a4_z a5_z a6_z nb1_z nb2_z nb3_z nt1_z nt2_z nt3_z nl1_z nl2_z nl3_z nr1_z nr2_z nr3_z nk1_z nk2_z nk3_z AC0 AC1 AC2 AC3 AD AE AG c1_z c2_z c3_z c4_z c5_z c6_z c7_z c8_z m2_z m3_z m4_z m5_z m6_z m7_z m8_z R3 R4 R5 R6 R7 R8 R9 R10
                  obtain ⟨⟨⟨a1_z, a2_z, a3_z, a4_z, a5_z, a6_z⟩, ⟨nb1_z, nb2_z, nb3_z⟩, ⟨nt1_z, nt2_z, nt3_z⟩, ⟨nl1_z, nl2_z, nl3_z⟩, ⟨nr1_z, nr2_z, nr3_z⟩, ⟨nk1_z, nk2_z, nk3_z⟩, ⟨AC0, AC1, AC2, AC3⟩, AD, AE, AG⟩, ⟨⟨c1_z, c2_z, c3_z, c4_z, c5_z, c6_z, c7_z, c8_z⟩, ⟨m2_z, m3_z, m4_z, m5_z, m6_z, m7_z, m8_z⟩, R3, R4, R5, R6, R7, R8, R9, R10⟩⟩ := (⟨A, R⟩ : rp 23 h1482_z h1492_z ∧ rq T S x12_z p12_z 23 h1482_z h1492_z)
                  replace hc_z := rn_put (am_cur_of (i := (91, 3, .putfield 178, (3, 2, 208), 0)) (by decide +kernel)) (by decide +kernel) hc_z
                  replace hc_z := rn_aload_n (am_cur_of (i := (94, 1, .aload_n 1, (0, 0, 0), 0)) (by decide +kernel)) g1_z hc_z
                  replace hc_z := rn_aload_n (am_cur_of (i := (95, 1, .aload_n 0, (0, 0, 0), 0)) (by decide +kernel)) g0_z hc_z
                  replace hc_z := rn_iconst (w := 1) (am_cur_of (i := (96, 1, .iconst 1, (0, 0, 0), 0)) (by decide +kernel)) (by decide) hc_z
                  replace hc_z := rn_bipush (w := 20) (am_cur_of (i := (97, 2, .bipush 20, (0, 0, 0), 0)) (by decide +kernel)) (by decide) hc_z
                  replace hc_z := rn_callV (M' := am_m30) (o := 44) (ar := [.int 20, .int 1]) (rest := [.ref 41]) (L := lv_args 0 [.ref 44, .int 1, .int 20]) (am_cur_of (i := (99, 3, .invokevirtual 142, (30, 773, 3), 0)) (by decide +kernel)) rfl rfl rfl rfl hc_z
                  obtain ⟨r1494_z, h1495_z, q1496_z, hc_z⟩ := hc_z
                  replace hm_z := rn_ifT (am_cur_of (i := (116, 3, .ifCond .ne 5, (69, 0, 0), 0)) (by decide +kernel)) (by decide) hm_z
                  replace hm_z := rn_aload_n (am_cur_of (i := (121, 1, .aload_n 0, (0, 0, 0), 0)) (by decide +kernel)) g0m hm_z
                  replace hm_z := rn_getR (x := 170) (am_cur_of (i := (122, 3, .getfield 30, (12, 25, 1409), 0)) (by decide +kernel)) (by decide +kernel) hm_z
                  replace hm_z := rn_iload_n (am_cur_of (i := (125, 1, .iload_n 1, (0, 0, 0), 0)) (by decide +kernel)) g1m hm_z
                  replace hm_z := rn_iload_n (am_cur_of (i := (126, 1, .iload_n 2, (0, 0, 0), 0)) (by decide +kernel)) g2m hm_z
                  replace hm_z := rn_iadd (w := 36) (am_cur_of (i := (127, 1, .iadd, (0, 0, 0), 0)) (by decide +kernel)) (by decide) hm_z
                  replace hm_z := rn_aload_n (am_cur_of (i := (128, 1, .aload_n 0, (0, 0, 0), 0)) (by decide +kernel)) g0m hm_z
                  replace hm_z := rn_getI (v := v12_z) (am_cur_of (i := (129, 3, .getfield 188, (12, 11, 1395), 0)) (by decide +kernel)) (by decide +kernel) got hm_z
                  replace hm_z := rn_iastore (N := 56) (q := 36) (am_cur_of (i := (132, 1, .iastore, (0, 0, 0), 0)) (by decide +kernel)) (by decide +kernel) rfl hm_z
                  obtain ⟨p1497_z, hm_z⟩ := hm_z
                  replace hm_z := rn_iinc (w := 2) (am_cur_of (i := (133, 3, .iinc 2 1, (0, 0, 0), 0)) (by decide +kernel)) g2m (by decide) hm_z
                  obtain ⟨_, s1498_z, s1499_z, g2m, hm_z⟩ := hm_z
                  replace g0m := s1498_z 0 _ (by decide) rfl g0m
                  replace g1m := s1498_z 1 _ (by decide) rfl g1m
                  replace g3m := s1498_z 3 _ (by decide) rfl g3m
                  replace g4m := s1498_z 4 _ (by decide) rfl g4m
                  clear s1498_z s1499_z
                  replace hm_z := rn_goto (am_cur_of (i := (136, 3, .goto (-87), (29, 0, 0), 0)) (by decide +kernel)) hm_z
                  replace hm_z := rn_iload_n (am_cur_of (i := (49, 1, .iload_n 2, (0, 0, 0), 0)) (by decide +kernel)) g2m hm_z
                  replace hm_z := rn_bipush (w := 7) (am_cur_of (i := (50, 2, .bipush 7, (0, 0, 0), 0)) (by decide +kernel)) (by decide) hm_z
                  replace hm_z := rn_cmpF (am_cur_of (i := (52, 3, .if_icmp .ge 87, (79, 0, 0), 0)) (by decide +kernel)) (by decide) hm_z
                  replace hm_z := rn_iload_n (am_cur_of (i := (55, 1, .iload_n 2, (0, 0, 0), 0)) (by decide +kernel)) g2m hm_z
                  replace hm_z := rn_ifF (am_cur_of (i := (56, 3, .ifCond .eq 13, (40, 0, 0), 0)) (by decide +kernel)) (by decide) hm_z
                  replace hm_z := rn_iload_n (am_cur_of (i := (59, 1, .iload_n 2, (0, 0, 0), 0)) (by decide +kernel)) g2m hm_z
                  replace hm_z := rn_iconst (w := 2) (am_cur_of (i := (60, 1, .iconst 2, (0, 0, 0), 0)) (by decide +kernel)) (by decide) hm_z
                  replace hm_z := rn_cmpT (am_cur_of (i := (61, 3, .if_icmp .eq 8, (40, 0, 0), 0)) (by decide +kernel)) (by decide) hm_z
                  replace hm_z := rn_iconst (w := 1) (am_cur_of (i := (69, 1, .iconst 1, (0, 0, 0), 0)) (by decide +kernel)) (by decide) hm_z
                  replace hm_z := rn_goto (am_cur_of (i := (70, 3, .goto 4, (43, 0, 0), 0)) (by decide +kernel)) hm_z
                  replace hm_z := rn_istore_n (am_cur_of (i := (74, 1, .istore_n 3, (0, 0, 0), 0)) (by decide +kernel)) hm_z
                  obtain ⟨_, s1500_z, s1501_z, g3m, hm_z⟩ := hm_z
                  replace g0m := s1500_z 0 _ (by decide) rfl g0m
                  replace g1m := s1500_z 1 _ (by decide) rfl g1m
                  replace g2m := s1500_z 2 _ (by decide) rfl g2m
                  replace g4m := s1500_z 4 _ (by decide) rfl g4m
                  clear s1500_z s1501_z
                  replace hm_z := rn_iload_n (am_cur_of (i := (75, 1, .iload_n 2, (0, 0, 0), 0)) (by decide +kernel)) g2m hm_z
                  replace hm_z := rn_iconst (w := 1) (am_cur_of (i := (76, 1, .iconst 1, (0, 0, 0), 0)) (by decide +kernel)) (by decide) hm_z
                  replace hm_z := rn_cmpF (am_cur_of (i := (77, 3, .if_icmp .eq 8, (50, 0, 0), 0)) (by decide +kernel)) (by decide) hm_z
                  replace hm_z := rn_iload_n (am_cur_of (i := (80, 1, .iload_n 2, (0, 0, 0), 0)) (by decide +kernel)) g2m hm_z
                  replace hm_z := rn_iconst (w := 2) (am_cur_of (i := (81, 1, .iconst 2, (0, 0, 0), 0)) (by decide +kernel)) (by decide) hm_z
                  replace hm_z := rn_cmpF (am_cur_of (i := (82, 3, .if_icmp .ne 8, (52, 0, 0), 0)) (by decide +kernel)) (by decide) hm_z
                  replace hm_z := rn_bipush (w := 20) (am_cur_of (i := (85, 2, .bipush 20, (0, 0, 0), 0)) (by decide +kernel)) (by decide) hm_z
                  replace hm_z := rn_goto (am_cur_of (i := (87, 3, .goto 20, (61, 0, 0), 0)) (by decide +kernel)) hm_z
                  replace hm_z := rn_istore (am_cur_of (i := (107, 2, .istore 4, (0, 0, 0), 0)) (by decide +kernel)) hm_z
                  obtain ⟨_, s1502_z, s1503_z, g4m, hm_z⟩ := hm_z
                  replace g0m := s1502_z 0 _ (by decide) rfl g0m
                  replace g1m := s1502_z 1 _ (by decide) rfl g1m
                  replace g2m := s1502_z 2 _ (by decide) rfl g2m
                  replace g3m := s1502_z 3 _ (by decide) rfl g3m
                  clear s1502_z s1503_z
                  replace hm_z := rn_aload_n (am_cur_of (i := (109, 1, .aload_n 0, (0, 0, 0), 0)) (by decide +kernel)) g0m hm_z
                  replace hm_z := rn_iload_n (am_cur_of (i := (110, 1, .iload_n 3, (0, 0, 0), 0)) (by decide +kernel)) g3m hm_z
                  replace hm_z := rn_iload (am_cur_of (i := (111, 2, .iload 4, (0, 0, 0), 0)) (by decide +kernel)) g4m hm_z
                  replace hm_z := rn_callV (M' := am_m161) (o := 164) (ar := [.int 20, .int 1]) (rest := []) (L := lv_args 0 [.ref 164, .int 1, .int 20]) (am_cur_of (i := (113, 3, .invokevirtual 197, (161, 1677, 3), 0)) (by decide +kernel)) rfl rfl rfl rfl hm_z
                  obtain ⟨r1504_z, h1505_z, q1506_z, hm_z⟩ := hm_z
                  have R' : rq T S x12_z p12_z 23 (am_up h1482_z 41 2 (.int v12_z)) (am_up h1492_z 170 36 (.int v12_z)) := ⟨⟨c1_z, c2_z, c3_z, c4_z, c5_z, c6_z, fun k hk_z => c7_z k hk_z, fun k hk_z => c8_z k hk_z⟩, ⟨m2_z, m3_z, m4_z, m5_z, m6_z, fun k hk_z => m7_z k hk_z, fun k hk_z => m8_z k hk_z⟩, R3, R4, R5, R6, R7, R8, R9, R10⟩
                  have A' : rp 23 (am_up h1482_z 41 2 (.int v12_z)) (am_up h1492_z 170 36 (.int v12_z)) := ⟨⟨a1_z, a2_z, a3_z, a4_z, a5_z, a6_z⟩, ⟨nb1_z, nb2_z, nb3_z⟩, ⟨nt1_z, nt2_z, nt3_z⟩, ⟨nl1_z, nl2_z, nl3_z⟩, ⟨nr1_z, nr2_z, nr3_z⟩, ⟨nk1_z, nk2_z, nk3_z⟩, ⟨(fun hb_z k hk_z => by match k, hk_z with | 0, _ => exact AC0 hb_z 0 (by decide) | 1, _ => exact AC0 hb_z 1 (by decide) | 2, _ => exact AC0 hb_z 2 (by decide) | 3, _ => exact AC0 hb_z 3 (by decide) | 4, _ => exact AC0 hb_z 4 (by decide) | 5, _ => exact AC0 hb_z 5 (by decide) | 6, _ => exact AC0 hb_z 6 (by decide) | 7, _ => exact AC0 hb_z 7 (by decide)), fun hb_z => absurd hb_z (by rw [show rg_v (am_up h1482_z 41 2 (.int v12_z)) 23 2 = 1 from ecb]; decide), fun hb_z => absurd hb_z (by rw [show rg_v (am_up h1482_z 41 2 (.int v12_z)) 23 2 = 1 from ecb]; decide), fun hb_z => absurd hb_z (by rw [show rg_v (am_up h1482_z 41 2 (.int v12_z)) 23 2 = 1 from ecb]; decide)⟩, fun t ht => AD t ht, fun t ht => AE t ht, fun t ht => AG t ht⟩
                  have B' : rp_t (am_up h1482_z 41 2 (.int v12_z)) (am_up h1492_z 170 36 (.int v12_z)) := by
                    obtain ⟨b0_z, b1_z, b2_z, b3_z, b4_z, b5_z, b6_z, t, o0_z, o1_z, o2_z, o3_z, o4_z, o5_z, o6_z⟩ := B
                    exact ⟨b0_z, b1_z, b2_z, b3_z, b4_z, b5_z, b6_z, t, o0_z, o1_z, o2_z, o3_z, o4_z, o5_z, o6_z⟩
                  rcases pr_num R' (by decide) (by decide) q1496_z q1506_z with ⟨v13_z, x13_z, p13_z, rfl, rfl, lo13_z, hi13_z, R, le13_z, got, X, Y, t7_z, t167_z⟩ | ⟨rfl, F⟩
                  · replace A := rp_x (by decide) A' X Y
                    replace B := rp_tk B' t7_z t167_z Y
                    clear A' B' R'
                    replace le13_z : x.toInt ≤ p13_z.toInt := Int.le_trans (Int.le_trans le12_z R8) le13_z
                    replace ecb : rg_v h1495_z 23 2 = 1 := (rx_v X (o := 23) (k := 2) (by decide)).trans ecb
                    replace ect : rg_v h1495_z 23 4 = ct := (rx_v X (o := 23) (k := 4) (by decide)).trans ect
                    replace ecl : rg_v h1495_z 23 9 = cl := (rx_v X (o := 23) (k := 9) (by decide)).trans ecl
                    replace ecr : rg_v h1495_z 23 12 = cr := (rx_v X (o := 23) (k := 12) (by decide)).trans ecr
                    replace E0 : rg_v h1495_z 41 0 = rg_v h1505_z 169 5 := (rx_v X (o := 41) (k := 0) (by decide)).trans (E0.trans (rx_w Y (o := 169) (k := 5) (by omega) (by decide)).symm)
                    replace E1 : rg_v h1495_z 41 1 = rg_v h1505_z 170 35 := (rx_v X (o := 41) (k := 1) (by decide)).trans (E1.trans (rx_w Y (o := 170) (k := 35) (by omega) (by decide)).symm)
                    have E2 : rg_v h1495_z 41 2 = rg_v h1505_z 170 36 := (rx_v X (o := 41) (k := 2) (by decide)).trans (Eq.trans (rfl) (rx_w Y (o := 170) (k := 36) (by omega) (by decide)).symm)
                    replace hm_z : rn _ _ _ _ [.int 1] _ _ _ := hm_z
                    replace hc_z : rn _ _ _ _ [.int v13_z, .ref 41] _ _ _ := hc_z
                    clear a1_z a2_z a3_z a4_z a5_z a6_z nb1_z nb2_z nb3_z nt1_z nt2_z nt3_z nl1_z nl2_z nl3_z nr1_z nr2_z nr3_z nk1_z nk2_z nk3_z AC0 AC1 AC2 AC3 AD AE AG c1_z c2_z c3_z c4_z c5_z c6_z c7_z c8_z m2_z m3_z m4_z m5_z m6_z m7_z m8_z R3 R4 R5 R6 R7 R8 R9 R10
                    obtain ⟨⟨⟨a1_z, a2_z, a3_z, a4_z, a5_z, a6_z⟩, ⟨nb1_z, nb2_z, nb3_z⟩, ⟨nt1_z, nt2_z, nt3_z⟩, ⟨nl1_z, nl2_z, nl3_z⟩, ⟨nr1_z, nr2_z, nr3_z⟩, ⟨nk1_z, nk2_z, nk3_z⟩, ⟨AC0, AC1, AC2, AC3⟩, AD, AE, AG⟩, ⟨⟨c1_z, c2_z, c3_z, c4_z, c5_z, c6_z, c7_z, c8_z⟩, ⟨m2_z, m3_z, m4_z, m5_z, m6_z, m7_z, m8_z⟩, R3, R4, R5, R6, R7, R8, R9, R10⟩⟩ := (⟨A, R⟩ : rp 23 h1495_z h1505_z ∧ rq T S x13_z p13_z 23 h1495_z h1505_z)
                    replace hc_z := rn_put (am_cur_of (i := (102, 3, .putfield 181, (3, 3, 211), 0)) (by decide +kernel)) (by decide +kernel) hc_z
                    replace hc_z := rn_aload_n (am_cur_of (i := (105, 1, .aload_n 1, (0, 0, 0), 0)) (by decide +kernel)) g1_z hc_z
                    replace hc_z := rn_aload_n (am_cur_of (i := (106, 1, .aload_n 0, (0, 0, 0), 0)) (by decide +kernel)) g0_z hc_z
                    replace hc_z := rn_iconst (w := 1) (am_cur_of (i := (107, 1, .iconst 1, (0, 0, 0), 0)) (by decide +kernel)) (by decide) hc_z
                    replace hc_z := rn_bipush (w := 9) (am_cur_of (i := (108, 2, .bipush 9, (0, 0, 0), 0)) (by decide +kernel)) (by decide) hc_z
                    replace hc_z := rn_callV (M' := am_m30) (o := 44) (ar := [.int 9, .int 1]) (rest := [.ref 41]) (L := lv_args 0 [.ref 44, .int 1, .int 9]) (am_cur_of (i := (110, 3, .invokevirtual 142, (30, 773, 3), 0)) (by decide +kernel)) rfl rfl rfl rfl hc_z
                    obtain ⟨r1507_z, h1508_z, q1509_z, hc_z⟩ := hc_z
                    replace hm_z := rn_ifT (am_cur_of (i := (116, 3, .ifCond .ne 5, (69, 0, 0), 0)) (by decide +kernel)) (by decide) hm_z
                    replace hm_z := rn_aload_n (am_cur_of (i := (121, 1, .aload_n 0, (0, 0, 0), 0)) (by decide +kernel)) g0m hm_z
                    replace hm_z := rn_getR (x := 170) (am_cur_of (i := (122, 3, .getfield 30, (12, 25, 1409), 0)) (by decide +kernel)) (by decide +kernel) hm_z
                    replace hm_z := rn_iload_n (am_cur_of (i := (125, 1, .iload_n 1, (0, 0, 0), 0)) (by decide +kernel)) g1m hm_z
                    replace hm_z := rn_iload_n (am_cur_of (i := (126, 1, .iload_n 2, (0, 0, 0), 0)) (by decide +kernel)) g2m hm_z
                    replace hm_z := rn_iadd (w := 37) (am_cur_of (i := (127, 1, .iadd, (0, 0, 0), 0)) (by decide +kernel)) (by decide) hm_z
                    replace hm_z := rn_aload_n (am_cur_of (i := (128, 1, .aload_n 0, (0, 0, 0), 0)) (by decide +kernel)) g0m hm_z
                    replace hm_z := rn_getI (v := v13_z) (am_cur_of (i := (129, 3, .getfield 188, (12, 11, 1395), 0)) (by decide +kernel)) (by decide +kernel) got hm_z
                    replace hm_z := rn_iastore (N := 56) (q := 37) (am_cur_of (i := (132, 1, .iastore, (0, 0, 0), 0)) (by decide +kernel)) (by decide +kernel) rfl hm_z
                    obtain ⟨p1510_z, hm_z⟩ := hm_z
                    replace hm_z := rn_iinc (w := 3) (am_cur_of (i := (133, 3, .iinc 2 1, (0, 0, 0), 0)) (by decide +kernel)) g2m (by decide) hm_z
                    obtain ⟨_, s1511_z, s1512_z, g2m, hm_z⟩ := hm_z
                    replace g0m := s1511_z 0 _ (by decide) rfl g0m
                    replace g1m := s1511_z 1 _ (by decide) rfl g1m
                    replace g3m := s1511_z 3 _ (by decide) rfl g3m
                    replace g4m := s1511_z 4 _ (by decide) rfl g4m
                    clear s1511_z s1512_z
                    replace hm_z := rn_goto (am_cur_of (i := (136, 3, .goto (-87), (29, 0, 0), 0)) (by decide +kernel)) hm_z
                    replace hm_z := rn_iload_n (am_cur_of (i := (49, 1, .iload_n 2, (0, 0, 0), 0)) (by decide +kernel)) g2m hm_z
                    replace hm_z := rn_bipush (w := 7) (am_cur_of (i := (50, 2, .bipush 7, (0, 0, 0), 0)) (by decide +kernel)) (by decide) hm_z
                    replace hm_z := rn_cmpF (am_cur_of (i := (52, 3, .if_icmp .ge 87, (79, 0, 0), 0)) (by decide +kernel)) (by decide) hm_z
                    replace hm_z := rn_iload_n (am_cur_of (i := (55, 1, .iload_n 2, (0, 0, 0), 0)) (by decide +kernel)) g2m hm_z
                    replace hm_z := rn_ifF (am_cur_of (i := (56, 3, .ifCond .eq 13, (40, 0, 0), 0)) (by decide +kernel)) (by decide) hm_z
                    replace hm_z := rn_iload_n (am_cur_of (i := (59, 1, .iload_n 2, (0, 0, 0), 0)) (by decide +kernel)) g2m hm_z
                    replace hm_z := rn_iconst (w := 2) (am_cur_of (i := (60, 1, .iconst 2, (0, 0, 0), 0)) (by decide +kernel)) (by decide) hm_z
                    replace hm_z := rn_cmpF (am_cur_of (i := (61, 3, .if_icmp .eq 8, (40, 0, 0), 0)) (by decide +kernel)) (by decide) hm_z
                    replace hm_z := rn_iload_n (am_cur_of (i := (64, 1, .iload_n 2, (0, 0, 0), 0)) (by decide +kernel)) g2m hm_z
                    replace hm_z := rn_iconst (w := 3) (am_cur_of (i := (65, 1, .iconst 3, (0, 0, 0), 0)) (by decide +kernel)) (by decide) hm_z
                    replace hm_z := rn_cmpF (am_cur_of (i := (66, 3, .if_icmp .ne 7, (42, 0, 0), 0)) (by decide +kernel)) (by decide) hm_z
                    replace hm_z := rn_iconst (w := 1) (am_cur_of (i := (69, 1, .iconst 1, (0, 0, 0), 0)) (by decide +kernel)) (by decide) hm_z
                    replace hm_z := rn_goto (am_cur_of (i := (70, 3, .goto 4, (43, 0, 0), 0)) (by decide +kernel)) hm_z
                    replace hm_z := rn_istore_n (am_cur_of (i := (74, 1, .istore_n 3, (0, 0, 0), 0)) (by decide +kernel)) hm_z
                    obtain ⟨_, s1513_z, s1514_z, g3m, hm_z⟩ := hm_z
                    replace g0m := s1513_z 0 _ (by decide) rfl g0m
                    replace g1m := s1513_z 1 _ (by decide) rfl g1m
                    replace g2m := s1513_z 2 _ (by decide) rfl g2m
                    replace g4m := s1513_z 4 _ (by decide) rfl g4m
                    clear s1513_z s1514_z
                    replace hm_z := rn_iload_n (am_cur_of (i := (75, 1, .iload_n 2, (0, 0, 0), 0)) (by decide +kernel)) g2m hm_z
                    replace hm_z := rn_iconst (w := 1) (am_cur_of (i := (76, 1, .iconst 1, (0, 0, 0), 0)) (by decide +kernel)) (by decide) hm_z
                    replace hm_z := rn_cmpF (am_cur_of (i := (77, 3, .if_icmp .eq 8, (50, 0, 0), 0)) (by decide +kernel)) (by decide) hm_z
                    replace hm_z := rn_iload_n (am_cur_of (i := (80, 1, .iload_n 2, (0, 0, 0), 0)) (by decide +kernel)) g2m hm_z
                    replace hm_z := rn_iconst (w := 2) (am_cur_of (i := (81, 1, .iconst 2, (0, 0, 0), 0)) (by decide +kernel)) (by decide) hm_z
                    replace hm_z := rn_cmpT (am_cur_of (i := (82, 3, .if_icmp .ne 8, (52, 0, 0), 0)) (by decide +kernel)) (by decide) hm_z
                    replace hm_z := rn_iload_n (am_cur_of (i := (90, 1, .iload_n 2, (0, 0, 0), 0)) (by decide +kernel)) g2m hm_z
                    replace hm_z := rn_iconst (w := 3) (am_cur_of (i := (91, 1, .iconst 3, (0, 0, 0), 0)) (by decide +kernel)) (by decide) hm_z
                    replace hm_z := rn_cmpT (am_cur_of (i := (92, 3, .if_icmp .eq 8, (58, 0, 0), 0)) (by decide +kernel)) (by decide) hm_z
                    replace hm_z := rn_bipush (w := 9) (am_cur_of (i := (100, 2, .bipush 9, (0, 0, 0), 0)) (by decide +kernel)) (by decide) hm_z
                    replace hm_z := rn_goto (am_cur_of (i := (102, 3, .goto 5, (61, 0, 0), 0)) (by decide +kernel)) hm_z
                    replace hm_z := rn_istore (am_cur_of (i := (107, 2, .istore 4, (0, 0, 0), 0)) (by decide +kernel)) hm_z
                    obtain ⟨_, s1515_z, s1516_z, g4m, hm_z⟩ := hm_z
                    replace g0m := s1515_z 0 _ (by decide) rfl g0m
                    replace g1m := s1515_z 1 _ (by decide) rfl g1m
                    replace g2m := s1515_z 2 _ (by decide) rfl g2m
                    replace g3m := s1515_z 3 _ (by decide) rfl g3m
                    clear s1515_z s1516_z
                    replace hm_z := rn_aload_n (am_cur_of (i := (109, 1, .aload_n 0, (0, 0, 0), 0)) (by decide +kernel)) g0m hm_z
                    replace hm_z := rn_iload_n (am_cur_of (i := (110, 1, .iload_n 3, (0, 0, 0), 0)) (by decide +kernel)) g3m hm_z
                    replace hm_z := rn_iload (am_cur_of (i := (111, 2, .iload 4, (0, 0, 0), 0)) (by decide +kernel)) g4m hm_z
                    replace hm_z := rn_callV (M' := am_m161) (o := 164) (ar := [.int 9, .int 1]) (rest := []) (L := lv_args 0 [.ref 164, .int 1, .int 9]) (am_cur_of (i := (113, 3, .invokevirtual 197, (161, 1677, 3), 0)) (by decide +kernel)) rfl rfl rfl rfl hm_z
                    obtain ⟨r1517_z, h1518_z, q1519_z, hm_z⟩ := hm_z
                    have R' : rq T S x13_z p13_z 23 (am_up h1495_z 41 3 (.int v13_z)) (am_up h1505_z 170 37 (.int v13_z)) := ⟨⟨c1_z, c2_z, c3_z, c4_z, c5_z, c6_z, fun k hk_z => c7_z k hk_z, fun k hk_z => c8_z k hk_z⟩, ⟨m2_z, m3_z, m4_z, m5_z, m6_z, fun k hk_z => m7_z k hk_z, fun k hk_z => m8_z k hk_z⟩, R3, R4, R5, R6, R7, R8, R9, R10⟩
                    have A' : rp 23 (am_up h1495_z 41 3 (.int v13_z)) (am_up h1505_z 170 37 (.int v13_z)) := ⟨⟨a1_z, a2_z, a3_z, a4_z, a5_z, a6_z⟩, ⟨nb1_z, nb2_z, nb3_z⟩, ⟨nt1_z, nt2_z, nt3_z⟩, ⟨nl1_z, nl2_z, nl3_z⟩, ⟨nr1_z, nr2_z, nr3_z⟩, ⟨nk1_z, nk2_z, nk3_z⟩, ⟨(fun hb_z k hk_z => by match k, hk_z with | 0, _ => exact AC0 hb_z 0 (by decide) | 1, _ => exact AC0 hb_z 1 (by decide) | 2, _ => exact AC0 hb_z 2 (by decide) | 3, _ => exact AC0 hb_z 3 (by decide) | 4, _ => exact AC0 hb_z 4 (by decide) | 5, _ => exact AC0 hb_z 5 (by decide) | 6, _ => exact AC0 hb_z 6 (by decide) | 7, _ => exact AC0 hb_z 7 (by decide)), fun hb_z => absurd hb_z (by rw [show rg_v (am_up h1495_z 41 3 (.int v13_z)) 23 2 = 1 from ecb]; decide), fun hb_z => absurd hb_z (by rw [show rg_v (am_up h1495_z 41 3 (.int v13_z)) 23 2 = 1 from ecb]; decide), fun hb_z => absurd hb_z (by rw [show rg_v (am_up h1495_z 41 3 (.int v13_z)) 23 2 = 1 from ecb]; decide)⟩, fun t ht => AD t ht, fun t ht => AE t ht, fun t ht => AG t ht⟩
                    have B' : rp_t (am_up h1495_z 41 3 (.int v13_z)) (am_up h1505_z 170 37 (.int v13_z)) := by
                      obtain ⟨b0_z, b1_z, b2_z, b3_z, b4_z, b5_z, b6_z, t, o0_z, o1_z, o2_z, o3_z, o4_z, o5_z, o6_z⟩ := B
                      exact ⟨b0_z, b1_z, b2_z, b3_z, b4_z, b5_z, b6_z, t, o0_z, o1_z, o2_z, o3_z, o4_z, o5_z, o6_z⟩
                    rcases pr_num R' (by decide) (by decide) q1509_z q1519_z with ⟨v14_z, x14_z, p14_z, rfl, rfl, lo14_z, hi14_z, R, le14_z, got, X, Y, t7_z, t167_z⟩ | ⟨rfl, F⟩
                    · replace A := rp_x (by decide) A' X Y
                      replace B := rp_tk B' t7_z t167_z Y
                      clear A' B' R'
                      replace le14_z : x.toInt ≤ p14_z.toInt := Int.le_trans (Int.le_trans le13_z R8) le14_z
                      replace ecb : rg_v h1508_z 23 2 = 1 := (rx_v X (o := 23) (k := 2) (by decide)).trans ecb
                      replace ect : rg_v h1508_z 23 4 = ct := (rx_v X (o := 23) (k := 4) (by decide)).trans ect
                      replace ecl : rg_v h1508_z 23 9 = cl := (rx_v X (o := 23) (k := 9) (by decide)).trans ecl
                      replace ecr : rg_v h1508_z 23 12 = cr := (rx_v X (o := 23) (k := 12) (by decide)).trans ecr
                      replace E0 : rg_v h1508_z 41 0 = rg_v h1518_z 169 5 := (rx_v X (o := 41) (k := 0) (by decide)).trans (E0.trans (rx_w Y (o := 169) (k := 5) (by omega) (by decide)).symm)
                      replace E1 : rg_v h1508_z 41 1 = rg_v h1518_z 170 35 := (rx_v X (o := 41) (k := 1) (by decide)).trans (E1.trans (rx_w Y (o := 170) (k := 35) (by omega) (by decide)).symm)
                      replace E2 : rg_v h1508_z 41 2 = rg_v h1518_z 170 36 := (rx_v X (o := 41) (k := 2) (by decide)).trans (E2.trans (rx_w Y (o := 170) (k := 36) (by omega) (by decide)).symm)
                      have E3 : rg_v h1508_z 41 3 = rg_v h1518_z 170 37 := (rx_v X (o := 41) (k := 3) (by decide)).trans (Eq.trans (rfl) (rx_w Y (o := 170) (k := 37) (by omega) (by decide)).symm)
                      replace hm_z : rn _ _ _ _ [.int 1] _ _ _ := hm_z
                      replace hc_z : rn _ _ _ _ [.int v14_z, .ref 41] _ _ _ := hc_z
                      clear a1_z a2_z a3_z a4_z a5_z a6_z nb1_z nb2_z nb3_z nt1_z nt2_z nt3_z nl1_z nl2_z nl3_z nr1_z nr2_z nr3_z nk1_z nk2_z nk3_z AC0 AC1 AC2 AC3 AD AE AG c1_z c2_z c3_z c4_z c5_z c6_z c7_z c8_z m2_z m3_z m4_z m5_z m6_z m7_z m8_z R3 R4 R5 R6 R7 R8 R9 R10
                      obtain ⟨⟨⟨a1_z, a2_z, a3_z, a4_z, a5_z, a6_z⟩, ⟨nb1_z, nb2_z, nb3_z⟩, ⟨nt1_z, nt2_z, nt3_z⟩, ⟨nl1_z, nl2_z, nl3_z⟩, ⟨nr1_z, nr2_z, nr3_z⟩, ⟨nk1_z, nk2_z, nk3_z⟩, ⟨AC0, AC1, AC2, AC3⟩, AD, AE, AG⟩, ⟨⟨c1_z, c2_z, c3_z, c4_z, c5_z, c6_z, c7_z, c8_z⟩, ⟨m2_z, m3_z, m4_z, m5_z, m6_z, m7_z, m8_z⟩, R3, R4, R5, R6, R7, R8, R9, R10⟩⟩ := (⟨A, R⟩ : rp 23 h1508_z h1518_z ∧ rq T S x14_z p14_z 23 h1508_z h1518_z)
                      replace hc_z := rn_put (am_cur_of (i := (113, 3, .putfield 184, (3, 4, 216), 0)) (by decide +kernel)) (by decide +kernel) hc_z
                      replace hc_z := rn_aload_n (am_cur_of (i := (116, 1, .aload_n 1, (0, 0, 0), 0)) (by decide +kernel)) g1_z hc_z
                      replace hc_z := rn_aload_n (am_cur_of (i := (117, 1, .aload_n 0, (0, 0, 0), 0)) (by decide +kernel)) g0_z hc_z
                      replace hc_z := rn_iconst (w := 0) (am_cur_of (i := (118, 1, .iconst 0, (0, 0, 0), 0)) (by decide +kernel)) (by decide) hc_z
                      replace hc_z := rn_bipush (w := 99) (am_cur_of (i := (119, 2, .bipush 99, (0, 0, 0), 0)) (by decide +kernel)) (by decide) hc_z
                      replace hc_z := rn_callV (M' := am_m30) (o := 44) (ar := [.int 99, .int 0]) (rest := [.ref 41]) (L := lv_args 0 [.ref 44, .int 0, .int 99]) (am_cur_of (i := (121, 3, .invokevirtual 142, (30, 773, 3), 0)) (by decide +kernel)) rfl rfl rfl rfl hc_z
                      obtain ⟨r1520_z, h1521_z, q1522_z, hc_z⟩ := hc_z
                      replace hm_z := rn_ifT (am_cur_of (i := (116, 3, .ifCond .ne 5, (69, 0, 0), 0)) (by decide +kernel)) (by decide) hm_z
                      replace hm_z := rn_aload_n (am_cur_of (i := (121, 1, .aload_n 0, (0, 0, 0), 0)) (by decide +kernel)) g0m hm_z
                      replace hm_z := rn_getR (x := 170) (am_cur_of (i := (122, 3, .getfield 30, (12, 25, 1409), 0)) (by decide +kernel)) (by decide +kernel) hm_z
                      replace hm_z := rn_iload_n (am_cur_of (i := (125, 1, .iload_n 1, (0, 0, 0), 0)) (by decide +kernel)) g1m hm_z
                      replace hm_z := rn_iload_n (am_cur_of (i := (126, 1, .iload_n 2, (0, 0, 0), 0)) (by decide +kernel)) g2m hm_z
                      replace hm_z := rn_iadd (w := 38) (am_cur_of (i := (127, 1, .iadd, (0, 0, 0), 0)) (by decide +kernel)) (by decide) hm_z
                      replace hm_z := rn_aload_n (am_cur_of (i := (128, 1, .aload_n 0, (0, 0, 0), 0)) (by decide +kernel)) g0m hm_z
                      replace hm_z := rn_getI (v := v14_z) (am_cur_of (i := (129, 3, .getfield 188, (12, 11, 1395), 0)) (by decide +kernel)) (by decide +kernel) got hm_z
                      replace hm_z := rn_iastore (N := 56) (q := 38) (am_cur_of (i := (132, 1, .iastore, (0, 0, 0), 0)) (by decide +kernel)) (by decide +kernel) rfl hm_z
                      obtain ⟨p1523_z, hm_z⟩ := hm_z
                      replace hm_z := rn_iinc (w := 4) (am_cur_of (i := (133, 3, .iinc 2 1, (0, 0, 0), 0)) (by decide +kernel)) g2m (by decide) hm_z
                      obtain ⟨_, s1524_z, s1525_z, g2m, hm_z⟩ := hm_z
                      replace g0m := s1524_z 0 _ (by decide) rfl g0m
                      replace g1m := s1524_z 1 _ (by decide) rfl g1m
                      replace g3m := s1524_z 3 _ (by decide) rfl g3m
                      replace g4m := s1524_z 4 _ (by decide) rfl g4m
                      clear s1524_z s1525_z
                      replace hm_z := rn_goto (am_cur_of (i := (136, 3, .goto (-87), (29, 0, 0), 0)) (by decide +kernel)) hm_z
                      replace hm_z := rn_iload_n (am_cur_of (i := (49, 1, .iload_n 2, (0, 0, 0), 0)) (by decide +kernel)) g2m hm_z
                      replace hm_z := rn_bipush (w := 7) (am_cur_of (i := (50, 2, .bipush 7, (0, 0, 0), 0)) (by decide +kernel)) (by decide) hm_z
                      replace hm_z := rn_cmpF (am_cur_of (i := (52, 3, .if_icmp .ge 87, (79, 0, 0), 0)) (by decide +kernel)) (by decide) hm_z
                      replace hm_z := rn_iload_n (am_cur_of (i := (55, 1, .iload_n 2, (0, 0, 0), 0)) (by decide +kernel)) g2m hm_z
                      replace hm_z := rn_ifF (am_cur_of (i := (56, 3, .ifCond .eq 13, (40, 0, 0), 0)) (by decide +kernel)) (by decide) hm_z
                      replace hm_z := rn_iload_n (am_cur_of (i := (59, 1, .iload_n 2, (0, 0, 0), 0)) (by decide +kernel)) g2m hm_z
                      replace hm_z := rn_iconst (w := 2) (am_cur_of (i := (60, 1, .iconst 2, (0, 0, 0), 0)) (by decide +kernel)) (by decide) hm_z
                      replace hm_z := rn_cmpF (am_cur_of (i := (61, 3, .if_icmp .eq 8, (40, 0, 0), 0)) (by decide +kernel)) (by decide) hm_z
                      replace hm_z := rn_iload_n (am_cur_of (i := (64, 1, .iload_n 2, (0, 0, 0), 0)) (by decide +kernel)) g2m hm_z
                      replace hm_z := rn_iconst (w := 3) (am_cur_of (i := (65, 1, .iconst 3, (0, 0, 0), 0)) (by decide +kernel)) (by decide) hm_z
                      replace hm_z := rn_cmpT (am_cur_of (i := (66, 3, .if_icmp .ne 7, (42, 0, 0), 0)) (by decide +kernel)) (by decide) hm_z
                      replace hm_z := rn_iconst (w := 0) (am_cur_of (i := (73, 1, .iconst 0, (0, 0, 0), 0)) (by decide +kernel)) (by decide) hm_z
                      replace hm_z := rn_istore_n (am_cur_of (i := (74, 1, .istore_n 3, (0, 0, 0), 0)) (by decide +kernel)) hm_z
                      obtain ⟨_, s1526_z, s1527_z, g3m, hm_z⟩ := hm_z
                      replace g0m := s1526_z 0 _ (by decide) rfl g0m
                      replace g1m := s1526_z 1 _ (by decide) rfl g1m
                      replace g2m := s1526_z 2 _ (by decide) rfl g2m
                      replace g4m := s1526_z 4 _ (by decide) rfl g4m
                      clear s1526_z s1527_z
                      replace hm_z := rn_iload_n (am_cur_of (i := (75, 1, .iload_n 2, (0, 0, 0), 0)) (by decide +kernel)) g2m hm_z
                      replace hm_z := rn_iconst (w := 1) (am_cur_of (i := (76, 1, .iconst 1, (0, 0, 0), 0)) (by decide +kernel)) (by decide) hm_z
                      replace hm_z := rn_cmpF (am_cur_of (i := (77, 3, .if_icmp .eq 8, (50, 0, 0), 0)) (by decide +kernel)) (by decide) hm_z
                      replace hm_z := rn_iload_n (am_cur_of (i := (80, 1, .iload_n 2, (0, 0, 0), 0)) (by decide +kernel)) g2m hm_z
                      replace hm_z := rn_iconst (w := 2) (am_cur_of (i := (81, 1, .iconst 2, (0, 0, 0), 0)) (by decide +kernel)) (by decide) hm_z
                      replace hm_z := rn_cmpT (am_cur_of (i := (82, 3, .if_icmp .ne 8, (52, 0, 0), 0)) (by decide +kernel)) (by decide) hm_z
                      replace hm_z := rn_iload_n (am_cur_of (i := (90, 1, .iload_n 2, (0, 0, 0), 0)) (by decide +kernel)) g2m hm_z
                      replace hm_z := rn_iconst (w := 3) (am_cur_of (i := (91, 1, .iconst 3, (0, 0, 0), 0)) (by decide +kernel)) (by decide) hm_z
                      replace hm_z := rn_cmpF (am_cur_of (i := (92, 3, .if_icmp .eq 8, (58, 0, 0), 0)) (by decide +kernel)) (by decide) hm_z
                      replace hm_z := rn_iload_n (am_cur_of (i := (95, 1, .iload_n 2, (0, 0, 0), 0)) (by decide +kernel)) g2m hm_z
                      replace hm_z := rn_iconst (w := 5) (am_cur_of (i := (96, 1, .iconst 5, (0, 0, 0), 0)) (by decide +kernel)) (by decide) hm_z
                      replace hm_z := rn_cmpT (am_cur_of (i := (97, 3, .if_icmp .ne 8, (60, 0, 0), 0)) (by decide +kernel)) (by decide) hm_z
                      replace hm_z := rn_bipush (w := 99) (am_cur_of (i := (105, 2, .bipush 99, (0, 0, 0), 0)) (by decide +kernel)) (by decide) hm_z
                      replace hm_z := rn_istore (am_cur_of (i := (107, 2, .istore 4, (0, 0, 0), 0)) (by decide +kernel)) hm_z
                      obtain ⟨_, s1528_z, s1529_z, g4m, hm_z⟩ := hm_z
                      replace g0m := s1528_z 0 _ (by decide) rfl g0m
                      replace g1m := s1528_z 1 _ (by decide) rfl g1m
                      replace g2m := s1528_z 2 _ (by decide) rfl g2m
                      replace g3m := s1528_z 3 _ (by decide) rfl g3m
                      clear s1528_z s1529_z
                      replace hm_z := rn_aload_n (am_cur_of (i := (109, 1, .aload_n 0, (0, 0, 0), 0)) (by decide +kernel)) g0m hm_z
                      replace hm_z := rn_iload_n (am_cur_of (i := (110, 1, .iload_n 3, (0, 0, 0), 0)) (by decide +kernel)) g3m hm_z
                      replace hm_z := rn_iload (am_cur_of (i := (111, 2, .iload 4, (0, 0, 0), 0)) (by decide +kernel)) g4m hm_z
                      replace hm_z := rn_callV (M' := am_m161) (o := 164) (ar := [.int 99, .int 0]) (rest := []) (L := lv_args 0 [.ref 164, .int 0, .int 99]) (am_cur_of (i := (113, 3, .invokevirtual 197, (161, 1677, 3), 0)) (by decide +kernel)) rfl rfl rfl rfl hm_z
                      obtain ⟨r1530_z, h1531_z, q1532_z, hm_z⟩ := hm_z
                      have R' : rq T S x14_z p14_z 23 (am_up h1508_z 41 4 (.int v14_z)) (am_up h1518_z 170 38 (.int v14_z)) := ⟨⟨c1_z, c2_z, c3_z, c4_z, c5_z, c6_z, fun k hk_z => c7_z k hk_z, fun k hk_z => c8_z k hk_z⟩, ⟨m2_z, m3_z, m4_z, m5_z, m6_z, fun k hk_z => m7_z k hk_z, fun k hk_z => m8_z k hk_z⟩, R3, R4, R5, R6, R7, R8, R9, R10⟩
                      have A' : rp 23 (am_up h1508_z 41 4 (.int v14_z)) (am_up h1518_z 170 38 (.int v14_z)) := ⟨⟨a1_z, a2_z, a3_z, a4_z, a5_z, a6_z⟩, ⟨nb1_z, nb2_z, nb3_z⟩, ⟨nt1_z, nt2_z, nt3_z⟩, ⟨nl1_z, nl2_z, nl3_z⟩, ⟨nr1_z, nr2_z, nr3_z⟩, ⟨nk1_z, nk2_z, nk3_z⟩, ⟨(fun hb_z k hk_z => by match k, hk_z with | 0, _ => exact AC0 hb_z 0 (by decide) | 1, _ => exact AC0 hb_z 1 (by decide) | 2, _ => exact AC0 hb_z 2 (by decide) | 3, _ => exact AC0 hb_z 3 (by decide) | 4, _ => exact AC0 hb_z 4 (by decide) | 5, _ => exact AC0 hb_z 5 (by decide) | 6, _ => exact AC0 hb_z 6 (by decide) | 7, _ => exact AC0 hb_z 7 (by decide)), fun hb_z => absurd hb_z (by rw [show rg_v (am_up h1508_z 41 4 (.int v14_z)) 23 2 = 1 from ecb]; decide), fun hb_z => absurd hb_z (by rw [show rg_v (am_up h1508_z 41 4 (.int v14_z)) 23 2 = 1 from ecb]; decide), fun hb_z => absurd hb_z (by rw [show rg_v (am_up h1508_z 41 4 (.int v14_z)) 23 2 = 1 from ecb]; decide)⟩, fun t ht => AD t ht, fun t ht => AE t ht, fun t ht => AG t ht⟩
                      have B' : rp_t (am_up h1508_z 41 4 (.int v14_z)) (am_up h1518_z 170 38 (.int v14_z)) := by
                        obtain ⟨b0_z, b1_z, b2_z, b3_z, b4_z, b5_z, b6_z, t, o0_z, o1_z, o2_z, o3_z, o4_z, o5_z, o6_z⟩ := B
                        exact ⟨b0_z, b1_z, b2_z, b3_z, b4_z, b5_z, b6_z, t, o0_z, o1_z, o2_z, o3_z, o4_z, o5_z, o6_z⟩
                      rcases pr_num R' (by decide) (by decide) q1522_z q1532_z with ⟨v15_z, x15_z, p15_z, rfl, rfl, lo15_z, hi15_z, R, le15_z, got, X, Y, t7_z, t167_z⟩ | ⟨rfl, F⟩
                      · replace A := rp_x (by decide) A' X Y
                        replace B := rp_tk B' t7_z t167_z Y
                        clear A' B' R'
                        replace le15_z : x.toInt ≤ p15_z.toInt := Int.le_trans (Int.le_trans le14_z R8) le15_z
                        replace ecb : rg_v h1521_z 23 2 = 1 := (rx_v X (o := 23) (k := 2) (by decide)).trans ecb
                        replace ect : rg_v h1521_z 23 4 = ct := (rx_v X (o := 23) (k := 4) (by decide)).trans ect
                        replace ecl : rg_v h1521_z 23 9 = cl := (rx_v X (o := 23) (k := 9) (by decide)).trans ecl
                        replace ecr : rg_v h1521_z 23 12 = cr := (rx_v X (o := 23) (k := 12) (by decide)).trans ecr
                        replace E0 : rg_v h1521_z 41 0 = rg_v h1531_z 169 5 := (rx_v X (o := 41) (k := 0) (by decide)).trans (E0.trans (rx_w Y (o := 169) (k := 5) (by omega) (by decide)).symm)
                        replace E1 : rg_v h1521_z 41 1 = rg_v h1531_z 170 35 := (rx_v X (o := 41) (k := 1) (by decide)).trans (E1.trans (rx_w Y (o := 170) (k := 35) (by omega) (by decide)).symm)
                        replace E2 : rg_v h1521_z 41 2 = rg_v h1531_z 170 36 := (rx_v X (o := 41) (k := 2) (by decide)).trans (E2.trans (rx_w Y (o := 170) (k := 36) (by omega) (by decide)).symm)
                        replace E3 : rg_v h1521_z 41 3 = rg_v h1531_z 170 37 := (rx_v X (o := 41) (k := 3) (by decide)).trans (E3.trans (rx_w Y (o := 170) (k := 37) (by omega) (by decide)).symm)
                        have E4 : rg_v h1521_z 41 4 = rg_v h1531_z 170 38 := (rx_v X (o := 41) (k := 4) (by decide)).trans (Eq.trans (rfl) (rx_w Y (o := 170) (k := 38) (by omega) (by decide)).symm)
                        replace hm_z : rn _ _ _ _ [.int 1] _ _ _ := hm_z
                        replace hc_z : rn _ _ _ _ [.int v15_z, .ref 41] _ _ _ := hc_z
                        clear a1_z a2_z a3_z a4_z a5_z a6_z nb1_z nb2_z nb3_z nt1_z nt2_z nt3_z nl1_z nl2_z nl3_z nr1_z nr2_z nr3_z nk1_z nk2_z nk3_z AC0 AC1 AC2 AC3 AD AE AG c1_z c2_z c3_z c4_z c5_z c6_z c7_z c8_z m2_z m3_z m4_z m5_z m6_z m7_z m8_z R3 R4 R5 R6 R7 R8 R9 R10
                        obtain ⟨⟨⟨a1_z, a2_z, a3_z, a4_z, a5_z, a6_z⟩, ⟨nb1_z, nb2_z, nb3_z⟩, ⟨nt1_z, nt2_z, nt3_z⟩, ⟨nl1_z, nl2_z, nl3_z⟩, ⟨nr1_z, nr2_z, nr3_z⟩, ⟨nk1_z, nk2_z, nk3_z⟩, ⟨AC0, AC1, AC2, AC3⟩, AD, AE, AG⟩, ⟨⟨c1_z, c2_z, c3_z, c4_z, c5_z, c6_z, c7_z, c8_z⟩, ⟨m2_z, m3_z, m4_z, m5_z, m6_z, m7_z, m8_z⟩, R3, R4, R5, R6, R7, R8, R9, R10⟩⟩ := (⟨A, R⟩ : rp 23 h1521_z h1531_z ∧ rq T S x15_z p15_z 23 h1521_z h1531_z)
                        replace hc_z := rn_put (am_cur_of (i := (124, 3, .putfield 187, (3, 5, 218), 0)) (by decide +kernel)) (by decide +kernel) hc_z
                        replace hc_z := rn_aload_n (am_cur_of (i := (127, 1, .aload_n 1, (0, 0, 0), 0)) (by decide +kernel)) g1_z hc_z
                        replace hc_z := rn_aload_n (am_cur_of (i := (128, 1, .aload_n 0, (0, 0, 0), 0)) (by decide +kernel)) g0_z hc_z
                        replace hc_z := rn_iconst (w := 0) (am_cur_of (i := (129, 1, .iconst 0, (0, 0, 0), 0)) (by decide +kernel)) (by decide) hc_z
                        replace hc_z := rn_bipush (w := 9) (am_cur_of (i := (130, 2, .bipush 9, (0, 0, 0), 0)) (by decide +kernel)) (by decide) hc_z
                        replace hc_z := rn_callV (M' := am_m30) (o := 44) (ar := [.int 9, .int 0]) (rest := [.ref 41]) (L := lv_args 0 [.ref 44, .int 0, .int 9]) (am_cur_of (i := (132, 3, .invokevirtual 142, (30, 773, 3), 0)) (by decide +kernel)) rfl rfl rfl rfl hc_z
                        obtain ⟨r1533_z, h1534_z, q1535_z, hc_z⟩ := hc_z
                        replace hm_z := rn_ifT (am_cur_of (i := (116, 3, .ifCond .ne 5, (69, 0, 0), 0)) (by decide +kernel)) (by decide) hm_z
                        replace hm_z := rn_aload_n (am_cur_of (i := (121, 1, .aload_n 0, (0, 0, 0), 0)) (by decide +kernel)) g0m hm_z
                        replace hm_z := rn_getR (x := 170) (am_cur_of (i := (122, 3, .getfield 30, (12, 25, 1409), 0)) (by decide +kernel)) (by decide +kernel) hm_z
                        replace hm_z := rn_iload_n (am_cur_of (i := (125, 1, .iload_n 1, (0, 0, 0), 0)) (by decide +kernel)) g1m hm_z
                        replace hm_z := rn_iload_n (am_cur_of (i := (126, 1, .iload_n 2, (0, 0, 0), 0)) (by decide +kernel)) g2m hm_z
                        replace hm_z := rn_iadd (w := 39) (am_cur_of (i := (127, 1, .iadd, (0, 0, 0), 0)) (by decide +kernel)) (by decide) hm_z
                        replace hm_z := rn_aload_n (am_cur_of (i := (128, 1, .aload_n 0, (0, 0, 0), 0)) (by decide +kernel)) g0m hm_z
                        replace hm_z := rn_getI (v := v15_z) (am_cur_of (i := (129, 3, .getfield 188, (12, 11, 1395), 0)) (by decide +kernel)) (by decide +kernel) got hm_z
                        replace hm_z := rn_iastore (N := 56) (q := 39) (am_cur_of (i := (132, 1, .iastore, (0, 0, 0), 0)) (by decide +kernel)) (by decide +kernel) rfl hm_z
                        obtain ⟨p1536_z, hm_z⟩ := hm_z
                        replace hm_z := rn_iinc (w := 5) (am_cur_of (i := (133, 3, .iinc 2 1, (0, 0, 0), 0)) (by decide +kernel)) g2m (by decide) hm_z
                        obtain ⟨_, s1537_z, s1538_z, g2m, hm_z⟩ := hm_z
                        replace g0m := s1537_z 0 _ (by decide) rfl g0m
                        replace g1m := s1537_z 1 _ (by decide) rfl g1m
                        replace g3m := s1537_z 3 _ (by decide) rfl g3m
                        replace g4m := s1537_z 4 _ (by decide) rfl g4m
                        clear s1537_z s1538_z
                        replace hm_z := rn_goto (am_cur_of (i := (136, 3, .goto (-87), (29, 0, 0), 0)) (by decide +kernel)) hm_z
                        replace hm_z := rn_iload_n (am_cur_of (i := (49, 1, .iload_n 2, (0, 0, 0), 0)) (by decide +kernel)) g2m hm_z
                        replace hm_z := rn_bipush (w := 7) (am_cur_of (i := (50, 2, .bipush 7, (0, 0, 0), 0)) (by decide +kernel)) (by decide) hm_z
                        replace hm_z := rn_cmpF (am_cur_of (i := (52, 3, .if_icmp .ge 87, (79, 0, 0), 0)) (by decide +kernel)) (by decide) hm_z
                        replace hm_z := rn_iload_n (am_cur_of (i := (55, 1, .iload_n 2, (0, 0, 0), 0)) (by decide +kernel)) g2m hm_z
                        replace hm_z := rn_ifF (am_cur_of (i := (56, 3, .ifCond .eq 13, (40, 0, 0), 0)) (by decide +kernel)) (by decide) hm_z
                        replace hm_z := rn_iload_n (am_cur_of (i := (59, 1, .iload_n 2, (0, 0, 0), 0)) (by decide +kernel)) g2m hm_z
                        replace hm_z := rn_iconst (w := 2) (am_cur_of (i := (60, 1, .iconst 2, (0, 0, 0), 0)) (by decide +kernel)) (by decide) hm_z
                        replace hm_z := rn_cmpF (am_cur_of (i := (61, 3, .if_icmp .eq 8, (40, 0, 0), 0)) (by decide +kernel)) (by decide) hm_z
                        replace hm_z := rn_iload_n (am_cur_of (i := (64, 1, .iload_n 2, (0, 0, 0), 0)) (by decide +kernel)) g2m hm_z
                        replace hm_z := rn_iconst (w := 3) (am_cur_of (i := (65, 1, .iconst 3, (0, 0, 0), 0)) (by decide +kernel)) (by decide) hm_z
                        replace hm_z := rn_cmpT (am_cur_of (i := (66, 3, .if_icmp .ne 7, (42, 0, 0), 0)) (by decide +kernel)) (by decide) hm_z
                        replace hm_z := rn_iconst (w := 0) (am_cur_of (i := (73, 1, .iconst 0, (0, 0, 0), 0)) (by decide +kernel)) (by decide) hm_z
                        replace hm_z := rn_istore_n (am_cur_of (i := (74, 1, .istore_n 3, (0, 0, 0), 0)) (by decide +kernel)) hm_z
                        obtain ⟨_, s1539_z, s1540_z, g3m, hm_z⟩ := hm_z
                        replace g0m := s1539_z 0 _ (by decide) rfl g0m
                        replace g1m := s1539_z 1 _ (by decide) rfl g1m
                        replace g2m := s1539_z 2 _ (by decide) rfl g2m
                        replace g4m := s1539_z 4 _ (by decide) rfl g4m
                        clear s1539_z s1540_z
                        replace hm_z := rn_iload_n (am_cur_of (i := (75, 1, .iload_n 2, (0, 0, 0), 0)) (by decide +kernel)) g2m hm_z
                        replace hm_z := rn_iconst (w := 1) (am_cur_of (i := (76, 1, .iconst 1, (0, 0, 0), 0)) (by decide +kernel)) (by decide) hm_z
                        replace hm_z := rn_cmpF (am_cur_of (i := (77, 3, .if_icmp .eq 8, (50, 0, 0), 0)) (by decide +kernel)) (by decide) hm_z
                        replace hm_z := rn_iload_n (am_cur_of (i := (80, 1, .iload_n 2, (0, 0, 0), 0)) (by decide +kernel)) g2m hm_z
                        replace hm_z := rn_iconst (w := 2) (am_cur_of (i := (81, 1, .iconst 2, (0, 0, 0), 0)) (by decide +kernel)) (by decide) hm_z
                        replace hm_z := rn_cmpT (am_cur_of (i := (82, 3, .if_icmp .ne 8, (52, 0, 0), 0)) (by decide +kernel)) (by decide) hm_z
                        replace hm_z := rn_iload_n (am_cur_of (i := (90, 1, .iload_n 2, (0, 0, 0), 0)) (by decide +kernel)) g2m hm_z
                        replace hm_z := rn_iconst (w := 3) (am_cur_of (i := (91, 1, .iconst 3, (0, 0, 0), 0)) (by decide +kernel)) (by decide) hm_z
                        replace hm_z := rn_cmpF (am_cur_of (i := (92, 3, .if_icmp .eq 8, (58, 0, 0), 0)) (by decide +kernel)) (by decide) hm_z
                        replace hm_z := rn_iload_n (am_cur_of (i := (95, 1, .iload_n 2, (0, 0, 0), 0)) (by decide +kernel)) g2m hm_z
                        replace hm_z := rn_iconst (w := 5) (am_cur_of (i := (96, 1, .iconst 5, (0, 0, 0), 0)) (by decide +kernel)) (by decide) hm_z
                        replace hm_z := rn_cmpF (am_cur_of (i := (97, 3, .if_icmp .ne 8, (60, 0, 0), 0)) (by decide +kernel)) (by decide) hm_z
                        replace hm_z := rn_bipush (w := 9) (am_cur_of (i := (100, 2, .bipush 9, (0, 0, 0), 0)) (by decide +kernel)) (by decide) hm_z
                        replace hm_z := rn_goto (am_cur_of (i := (102, 3, .goto 5, (61, 0, 0), 0)) (by decide +kernel)) hm_z
                        replace hm_z := rn_istore (am_cur_of (i := (107, 2, .istore 4, (0, 0, 0), 0)) (by decide +kernel)) hm_z
                        obtain ⟨_, s1541_z, s1542_z, g4m, hm_z⟩ := hm_z
                        replace g0m := s1541_z 0 _ (by decide) rfl g0m
                        replace g1m := s1541_z 1 _ (by decide) rfl g1m
                        replace g2m := s1541_z 2 _ (by decide) rfl g2m
                        replace g3m := s1541_z 3 _ (by decide) rfl g3m
                        clear s1541_z s1542_z
                        replace hm_z := rn_aload_n (am_cur_of (i := (109, 1, .aload_n 0, (0, 0, 0), 0)) (by decide +kernel)) g0m hm_z
                        replace hm_z := rn_iload_n (am_cur_of (i := (110, 1, .iload_n 3, (0, 0, 0), 0)) (by decide +kernel)) g3m hm_z
                        replace hm_z := rn_iload (am_cur_of (i := (111, 2, .iload 4, (0, 0, 0), 0)) (by decide +kernel)) g4m hm_z
                        replace hm_z := rn_callV (M' := am_m161) (o := 164) (ar := [.int 9, .int 0]) (rest := []) (L := lv_args 0 [.ref 164, .int 0, .int 9]) (am_cur_of (i := (113, 3, .invokevirtual 197, (161, 1677, 3), 0)) (by decide +kernel)) rfl rfl rfl rfl hm_z
                        obtain ⟨r1543_z, h1544_z, q1545_z, hm_z⟩ := hm_z
                        have R' : rq T S x15_z p15_z 23 (am_up h1521_z 41 5 (.int v15_z)) (am_up h1531_z 170 39 (.int v15_z)) := ⟨⟨c1_z, c2_z, c3_z, c4_z, c5_z, c6_z, fun k hk_z => c7_z k hk_z, fun k hk_z => c8_z k hk_z⟩, ⟨m2_z, m3_z, m4_z, m5_z, m6_z, fun k hk_z => m7_z k hk_z, fun k hk_z => m8_z k hk_z⟩, R3, R4, R5, R6, R7, R8, R9, R10⟩
                        have A' : rp 23 (am_up h1521_z 41 5 (.int v15_z)) (am_up h1531_z 170 39 (.int v15_z)) := ⟨⟨a1_z, a2_z, a3_z, a4_z, a5_z, a6_z⟩, ⟨nb1_z, nb2_z, nb3_z⟩, ⟨nt1_z, nt2_z, nt3_z⟩, ⟨nl1_z, nl2_z, nl3_z⟩, ⟨nr1_z, nr2_z, nr3_z⟩, ⟨nk1_z, nk2_z, nk3_z⟩, ⟨(fun hb_z k hk_z => by match k, hk_z with | 0, _ => exact AC0 hb_z 0 (by decide) | 1, _ => exact AC0 hb_z 1 (by decide) | 2, _ => exact AC0 hb_z 2 (by decide) | 3, _ => exact AC0 hb_z 3 (by decide) | 4, _ => exact AC0 hb_z 4 (by decide) | 5, _ => exact AC0 hb_z 5 (by decide) | 6, _ => exact AC0 hb_z 6 (by decide) | 7, _ => exact AC0 hb_z 7 (by decide)), fun hb_z => absurd hb_z (by rw [show rg_v (am_up h1521_z 41 5 (.int v15_z)) 23 2 = 1 from ecb]; decide), fun hb_z => absurd hb_z (by rw [show rg_v (am_up h1521_z 41 5 (.int v15_z)) 23 2 = 1 from ecb]; decide), fun hb_z => absurd hb_z (by rw [show rg_v (am_up h1521_z 41 5 (.int v15_z)) 23 2 = 1 from ecb]; decide)⟩, fun t ht => AD t ht, fun t ht => AE t ht, fun t ht => AG t ht⟩
                        have B' : rp_t (am_up h1521_z 41 5 (.int v15_z)) (am_up h1531_z 170 39 (.int v15_z)) := by
                          obtain ⟨b0_z, b1_z, b2_z, b3_z, b4_z, b5_z, b6_z, t, o0_z, o1_z, o2_z, o3_z, o4_z, o5_z, o6_z⟩ := B
                          exact ⟨b0_z, b1_z, b2_z, b3_z, b4_z, b5_z, b6_z, t, o0_z, o1_z, o2_z, o3_z, o4_z, o5_z, o6_z⟩
                        rcases pr_num R' (by decide) (by decide) q1535_z q1545_z with ⟨v16_z, x16_z, p16_z, rfl, rfl, lo16_z, hi16_z, R, le16_z, got, X, Y, t7_z, t167_z⟩ | ⟨rfl, F⟩
                        · replace A := rp_x (by decide) A' X Y
                          replace B := rp_tk B' t7_z t167_z Y
                          clear A' B' R'
                          replace le16_z : x.toInt ≤ p16_z.toInt := Int.le_trans (Int.le_trans le15_z R8) le16_z
                          replace ecb : rg_v h1534_z 23 2 = 1 := (rx_v X (o := 23) (k := 2) (by decide)).trans ecb
                          replace ect : rg_v h1534_z 23 4 = ct := (rx_v X (o := 23) (k := 4) (by decide)).trans ect
                          replace ecl : rg_v h1534_z 23 9 = cl := (rx_v X (o := 23) (k := 9) (by decide)).trans ecl
                          replace ecr : rg_v h1534_z 23 12 = cr := (rx_v X (o := 23) (k := 12) (by decide)).trans ecr
                          replace E0 : rg_v h1534_z 41 0 = rg_v h1544_z 169 5 := (rx_v X (o := 41) (k := 0) (by decide)).trans (E0.trans (rx_w Y (o := 169) (k := 5) (by omega) (by decide)).symm)
                          replace E1 : rg_v h1534_z 41 1 = rg_v h1544_z 170 35 := (rx_v X (o := 41) (k := 1) (by decide)).trans (E1.trans (rx_w Y (o := 170) (k := 35) (by omega) (by decide)).symm)
                          replace E2 : rg_v h1534_z 41 2 = rg_v h1544_z 170 36 := (rx_v X (o := 41) (k := 2) (by decide)).trans (E2.trans (rx_w Y (o := 170) (k := 36) (by omega) (by decide)).symm)
                          replace E3 : rg_v h1534_z 41 3 = rg_v h1544_z 170 37 := (rx_v X (o := 41) (k := 3) (by decide)).trans (E3.trans (rx_w Y (o := 170) (k := 37) (by omega) (by decide)).symm)
                          replace E4 : rg_v h1534_z 41 4 = rg_v h1544_z 170 38 := (rx_v X (o := 41) (k := 4) (by decide)).trans (E4.trans (rx_w Y (o := 170) (k := 38) (by omega) (by decide)).symm)
                          have E5 : rg_v h1534_z 41 5 = rg_v h1544_z 170 39 := (rx_v X (o := 41) (k := 5) (by decide)).trans (Eq.trans (rfl) (rx_w Y (o := 170) (k := 39) (by omega) (by decide)).symm)
                          replace hm_z : rn _ _ _ _ [.int 1] _ _ _ := hm_z
                          replace hc_z : rn _ _ _ _ [.int v16_z, .ref 41] _ _ _ := hc_z
                          clear a1_z a2_z a3_z a4_z a5_z a6_z nb1_z nb2_z nb3_z nt1_z nt2_z nt3_z nl1_z nl2_z nl3_z nr1_z nr2_z nr3_z nk1_z nk2_z nk3_z AC0 AC1 AC2 AC3 AD AE AG c1_z c2_z c3_z c4_z c5_z c6_z c7_z c8_z m2_z m3_z m4_z m5_z m6_z m7_z m8_z R3 R4 R5 R6 R7 R8 R9 R10
                          obtain ⟨⟨⟨a1_z, a2_z, a3_z, a4_z, a5_z, a6_z⟩, ⟨nb1_z, nb2_z, nb3_z⟩, ⟨nt1_z, nt2_z, nt3_z⟩, ⟨nl1_z, nl2_z, nl3_z⟩, ⟨nr1_z, nr2_z, nr3_z⟩, ⟨nk1_z, nk2_z, nk3_z⟩, ⟨AC0, AC1, AC2, AC3⟩, AD, AE, AG⟩, ⟨⟨c1_z, c2_z, c3_z, c4_z, c5_z, c6_z, c7_z, c8_z⟩, ⟨m2_z, m3_z, m4_z, m5_z, m6_z, m7_z, m8_z⟩, R3, R4, R5, R6, R7, R8, R9, R10⟩⟩ := (⟨A, R⟩ : rp 23 h1534_z h1544_z ∧ rq T S x16_z p16_z 23 h1534_z h1544_z)
                          replace hc_z := rn_put (am_cur_of (i := (135, 3, .putfield 190, (3, 6, 220), 0)) (by decide +kernel)) (by decide +kernel) hc_z
                          replace hc_z := rn_aload_n (am_cur_of (i := (138, 1, .aload_n 1, (0, 0, 0), 0)) (by decide +kernel)) g1_z hc_z
                          replace hc_z := rn_aload_n (am_cur_of (i := (139, 1, .aload_n 0, (0, 0, 0), 0)) (by decide +kernel)) g0_z hc_z
                          replace hc_z := rn_iconst (w := 0) (am_cur_of (i := (140, 1, .iconst 0, (0, 0, 0), 0)) (by decide +kernel)) (by decide) hc_z
                          replace hc_z := rn_bipush (w := 99) (am_cur_of (i := (141, 2, .bipush 99, (0, 0, 0), 0)) (by decide +kernel)) (by decide) hc_z
                          replace hc_z := rn_callV (M' := am_m30) (o := 44) (ar := [.int 99, .int 0]) (rest := [.ref 41]) (L := lv_args 0 [.ref 44, .int 0, .int 99]) (am_cur_of (i := (143, 3, .invokevirtual 142, (30, 773, 3), 0)) (by decide +kernel)) rfl rfl rfl rfl hc_z
                          obtain ⟨r1546_z, h1547_z, q1548_z, hc_z⟩ := hc_z
                          replace hm_z := rn_ifT (am_cur_of (i := (116, 3, .ifCond .ne 5, (69, 0, 0), 0)) (by decide +kernel)) (by decide) hm_z
                          replace hm_z := rn_aload_n (am_cur_of (i := (121, 1, .aload_n 0, (0, 0, 0), 0)) (by decide +kernel)) g0m hm_z
                          replace hm_z := rn_getR (x := 170) (am_cur_of (i := (122, 3, .getfield 30, (12, 25, 1409), 0)) (by decide +kernel)) (by decide +kernel) hm_z
                          replace hm_z := rn_iload_n (am_cur_of (i := (125, 1, .iload_n 1, (0, 0, 0), 0)) (by decide +kernel)) g1m hm_z
                          replace hm_z := rn_iload_n (am_cur_of (i := (126, 1, .iload_n 2, (0, 0, 0), 0)) (by decide +kernel)) g2m hm_z
                          replace hm_z := rn_iadd (w := 40) (am_cur_of (i := (127, 1, .iadd, (0, 0, 0), 0)) (by decide +kernel)) (by decide) hm_z
                          replace hm_z := rn_aload_n (am_cur_of (i := (128, 1, .aload_n 0, (0, 0, 0), 0)) (by decide +kernel)) g0m hm_z
                          replace hm_z := rn_getI (v := v16_z) (am_cur_of (i := (129, 3, .getfield 188, (12, 11, 1395), 0)) (by decide +kernel)) (by decide +kernel) got hm_z
                          replace hm_z := rn_iastore (N := 56) (q := 40) (am_cur_of (i := (132, 1, .iastore, (0, 0, 0), 0)) (by decide +kernel)) (by decide +kernel) rfl hm_z
                          obtain ⟨p1549_z, hm_z⟩ := hm_z
                          replace hm_z := rn_iinc (w := 6) (am_cur_of (i := (133, 3, .iinc 2 1, (0, 0, 0), 0)) (by decide +kernel)) g2m (by decide) hm_z
                          obtain ⟨_, s1550_z, s1551_z, g2m, hm_z⟩ := hm_z
                          replace g0m := s1550_z 0 _ (by decide) rfl g0m
                          replace g1m := s1550_z 1 _ (by decide) rfl g1m
                          replace g3m := s1550_z 3 _ (by decide) rfl g3m
                          replace g4m := s1550_z 4 _ (by decide) rfl g4m
                          clear s1550_z s1551_z
                          replace hm_z := rn_goto (am_cur_of (i := (136, 3, .goto (-87), (29, 0, 0), 0)) (by decide +kernel)) hm_z
                          replace hm_z := rn_iload_n (am_cur_of (i := (49, 1, .iload_n 2, (0, 0, 0), 0)) (by decide +kernel)) g2m hm_z
                          replace hm_z := rn_bipush (w := 7) (am_cur_of (i := (50, 2, .bipush 7, (0, 0, 0), 0)) (by decide +kernel)) (by decide) hm_z
                          replace hm_z := rn_cmpF (am_cur_of (i := (52, 3, .if_icmp .ge 87, (79, 0, 0), 0)) (by decide +kernel)) (by decide) hm_z
                          replace hm_z := rn_iload_n (am_cur_of (i := (55, 1, .iload_n 2, (0, 0, 0), 0)) (by decide +kernel)) g2m hm_z
                          replace hm_z := rn_ifF (am_cur_of (i := (56, 3, .ifCond .eq 13, (40, 0, 0), 0)) (by decide +kernel)) (by decide) hm_z
                          replace hm_z := rn_iload_n (am_cur_of (i := (59, 1, .iload_n 2, (0, 0, 0), 0)) (by decide +kernel)) g2m hm_z
                          replace hm_z := rn_iconst (w := 2) (am_cur_of (i := (60, 1, .iconst 2, (0, 0, 0), 0)) (by decide +kernel)) (by decide) hm_z
                          replace hm_z := rn_cmpF (am_cur_of (i := (61, 3, .if_icmp .eq 8, (40, 0, 0), 0)) (by decide +kernel)) (by decide) hm_z
                          replace hm_z := rn_iload_n (am_cur_of (i := (64, 1, .iload_n 2, (0, 0, 0), 0)) (by decide +kernel)) g2m hm_z
                          replace hm_z := rn_iconst (w := 3) (am_cur_of (i := (65, 1, .iconst 3, (0, 0, 0), 0)) (by decide +kernel)) (by decide) hm_z
                          replace hm_z := rn_cmpT (am_cur_of (i := (66, 3, .if_icmp .ne 7, (42, 0, 0), 0)) (by decide +kernel)) (by decide) hm_z
                          replace hm_z := rn_iconst (w := 0) (am_cur_of (i := (73, 1, .iconst 0, (0, 0, 0), 0)) (by decide +kernel)) (by decide) hm_z
                          replace hm_z := rn_istore_n (am_cur_of (i := (74, 1, .istore_n 3, (0, 0, 0), 0)) (by decide +kernel)) hm_z
                          obtain ⟨_, s1552_z, s1553_z, g3m, hm_z⟩ := hm_z
                          replace g0m := s1552_z 0 _ (by decide) rfl g0m
                          replace g1m := s1552_z 1 _ (by decide) rfl g1m
                          replace g2m := s1552_z 2 _ (by decide) rfl g2m
                          replace g4m := s1552_z 4 _ (by decide) rfl g4m
                          clear s1552_z s1553_z
                          replace hm_z := rn_iload_n (am_cur_of (i := (75, 1, .iload_n 2, (0, 0, 0), 0)) (by decide +kernel)) g2m hm_z
                          replace hm_z := rn_iconst (w := 1) (am_cur_of (i := (76, 1, .iconst 1, (0, 0, 0), 0)) (by decide +kernel)) (by decide) hm_z
                          replace hm_z := rn_cmpF (am_cur_of (i := (77, 3, .if_icmp .eq 8, (50, 0, 0), 0)) (by decide +kernel)) (by decide) hm_z
                          replace hm_z := rn_iload_n (am_cur_of (i := (80, 1, .iload_n 2, (0, 0, 0), 0)) (by decide +kernel)) g2m hm_z
                          replace hm_z := rn_iconst (w := 2) (am_cur_of (i := (81, 1, .iconst 2, (0, 0, 0), 0)) (by decide +kernel)) (by decide) hm_z
                          replace hm_z := rn_cmpT (am_cur_of (i := (82, 3, .if_icmp .ne 8, (52, 0, 0), 0)) (by decide +kernel)) (by decide) hm_z
                          replace hm_z := rn_iload_n (am_cur_of (i := (90, 1, .iload_n 2, (0, 0, 0), 0)) (by decide +kernel)) g2m hm_z
                          replace hm_z := rn_iconst (w := 3) (am_cur_of (i := (91, 1, .iconst 3, (0, 0, 0), 0)) (by decide +kernel)) (by decide) hm_z
                          replace hm_z := rn_cmpF (am_cur_of (i := (92, 3, .if_icmp .eq 8, (58, 0, 0), 0)) (by decide +kernel)) (by decide) hm_z
                          replace hm_z := rn_iload_n (am_cur_of (i := (95, 1, .iload_n 2, (0, 0, 0), 0)) (by decide +kernel)) g2m hm_z
                          replace hm_z := rn_iconst (w := 5) (am_cur_of (i := (96, 1, .iconst 5, (0, 0, 0), 0)) (by decide +kernel)) (by decide) hm_z
                          replace hm_z := rn_cmpT (am_cur_of (i := (97, 3, .if_icmp .ne 8, (60, 0, 0), 0)) (by decide +kernel)) (by decide) hm_z
                          replace hm_z := rn_bipush (w := 99) (am_cur_of (i := (105, 2, .bipush 99, (0, 0, 0), 0)) (by decide +kernel)) (by decide) hm_z
                          replace hm_z := rn_istore (am_cur_of (i := (107, 2, .istore 4, (0, 0, 0), 0)) (by decide +kernel)) hm_z
                          obtain ⟨_, s1554_z, s1555_z, g4m, hm_z⟩ := hm_z
                          replace g0m := s1554_z 0 _ (by decide) rfl g0m
                          replace g1m := s1554_z 1 _ (by decide) rfl g1m
                          replace g2m := s1554_z 2 _ (by decide) rfl g2m
                          replace g3m := s1554_z 3 _ (by decide) rfl g3m
                          clear s1554_z s1555_z
                          replace hm_z := rn_aload_n (am_cur_of (i := (109, 1, .aload_n 0, (0, 0, 0), 0)) (by decide +kernel)) g0m hm_z
                          replace hm_z := rn_iload_n (am_cur_of (i := (110, 1, .iload_n 3, (0, 0, 0), 0)) (by decide +kernel)) g3m hm_z
                          replace hm_z := rn_iload (am_cur_of (i := (111, 2, .iload 4, (0, 0, 0), 0)) (by decide +kernel)) g4m hm_z
                          replace hm_z := rn_callV (M' := am_m161) (o := 164) (ar := [.int 99, .int 0]) (rest := []) (L := lv_args 0 [.ref 164, .int 0, .int 99]) (am_cur_of (i := (113, 3, .invokevirtual 197, (161, 1677, 3), 0)) (by decide +kernel)) rfl rfl rfl rfl hm_z
                          obtain ⟨r1556_z, h1557_z, q1558_z, hm_z⟩ := hm_z
                          have R' : rq T S x16_z p16_z 23 (am_up h1534_z 41 6 (.int v16_z)) (am_up h1544_z 170 40 (.int v16_z)) := ⟨⟨c1_z, c2_z, c3_z, c4_z, c5_z, c6_z, fun k hk_z => c7_z k hk_z, fun k hk_z => c8_z k hk_z⟩, ⟨m2_z, m3_z, m4_z, m5_z, m6_z, fun k hk_z => m7_z k hk_z, fun k hk_z => m8_z k hk_z⟩, R3, R4, R5, R6, R7, R8, R9, R10⟩
                          have A' : rp 23 (am_up h1534_z 41 6 (.int v16_z)) (am_up h1544_z 170 40 (.int v16_z)) := ⟨⟨a1_z, a2_z, a3_z, a4_z, a5_z, a6_z⟩, ⟨nb1_z, nb2_z, nb3_z⟩, ⟨nt1_z, nt2_z, nt3_z⟩, ⟨nl1_z, nl2_z, nl3_z⟩, ⟨nr1_z, nr2_z, nr3_z⟩, ⟨nk1_z, nk2_z, nk3_z⟩, ⟨(fun hb_z k hk_z => by match k, hk_z with | 0, _ => exact AC0 hb_z 0 (by decide) | 1, _ => exact AC0 hb_z 1 (by decide) | 2, _ => exact AC0 hb_z 2 (by decide) | 3, _ => exact AC0 hb_z 3 (by decide) | 4, _ => exact AC0 hb_z 4 (by decide) | 5, _ => exact AC0 hb_z 5 (by decide) | 6, _ => exact AC0 hb_z 6 (by decide) | 7, _ => exact AC0 hb_z 7 (by decide)), fun hb_z => absurd hb_z (by rw [show rg_v (am_up h1534_z 41 6 (.int v16_z)) 23 2 = 1 from ecb]; decide), fun hb_z => absurd hb_z (by rw [show rg_v (am_up h1534_z 41 6 (.int v16_z)) 23 2 = 1 from ecb]; decide), fun hb_z => absurd hb_z (by rw [show rg_v (am_up h1534_z 41 6 (.int v16_z)) 23 2 = 1 from ecb]; decide)⟩, fun t ht => AD t ht, fun t ht => AE t ht, fun t ht => AG t ht⟩
                          have B' : rp_t (am_up h1534_z 41 6 (.int v16_z)) (am_up h1544_z 170 40 (.int v16_z)) := by
                            obtain ⟨b0_z, b1_z, b2_z, b3_z, b4_z, b5_z, b6_z, t, o0_z, o1_z, o2_z, o3_z, o4_z, o5_z, o6_z⟩ := B
                            exact ⟨b0_z, b1_z, b2_z, b3_z, b4_z, b5_z, b6_z, t, o0_z, o1_z, o2_z, o3_z, o4_z, o5_z, o6_z⟩
                          rcases pr_num R' (by decide) (by decide) q1548_z q1558_z with ⟨v17_z, x17_z, p17_z, rfl, rfl, lo17_z, hi17_z, R, le17_z, got, X, Y, t7_z, t167_z⟩ | ⟨rfl, F⟩
                          · replace A := rp_x (by decide) A' X Y
                            replace B := rp_tk B' t7_z t167_z Y
                            clear A' B' R'
                            replace le17_z : x.toInt ≤ p17_z.toInt := Int.le_trans (Int.le_trans le16_z R8) le17_z
                            replace ecb : rg_v h1547_z 23 2 = 1 := (rx_v X (o := 23) (k := 2) (by decide)).trans ecb
                            replace ect : rg_v h1547_z 23 4 = ct := (rx_v X (o := 23) (k := 4) (by decide)).trans ect
                            replace ecl : rg_v h1547_z 23 9 = cl := (rx_v X (o := 23) (k := 9) (by decide)).trans ecl
                            replace ecr : rg_v h1547_z 23 12 = cr := (rx_v X (o := 23) (k := 12) (by decide)).trans ecr
                            replace E0 : rg_v h1547_z 41 0 = rg_v h1557_z 169 5 := (rx_v X (o := 41) (k := 0) (by decide)).trans (E0.trans (rx_w Y (o := 169) (k := 5) (by omega) (by decide)).symm)
                            replace E1 : rg_v h1547_z 41 1 = rg_v h1557_z 170 35 := (rx_v X (o := 41) (k := 1) (by decide)).trans (E1.trans (rx_w Y (o := 170) (k := 35) (by omega) (by decide)).symm)
                            replace E2 : rg_v h1547_z 41 2 = rg_v h1557_z 170 36 := (rx_v X (o := 41) (k := 2) (by decide)).trans (E2.trans (rx_w Y (o := 170) (k := 36) (by omega) (by decide)).symm)
                            replace E3 : rg_v h1547_z 41 3 = rg_v h1557_z 170 37 := (rx_v X (o := 41) (k := 3) (by decide)).trans (E3.trans (rx_w Y (o := 170) (k := 37) (by omega) (by decide)).symm)
                            replace E4 : rg_v h1547_z 41 4 = rg_v h1557_z 170 38 := (rx_v X (o := 41) (k := 4) (by decide)).trans (E4.trans (rx_w Y (o := 170) (k := 38) (by omega) (by decide)).symm)
                            replace E5 : rg_v h1547_z 41 5 = rg_v h1557_z 170 39 := (rx_v X (o := 41) (k := 5) (by decide)).trans (E5.trans (rx_w Y (o := 170) (k := 39) (by omega) (by decide)).symm)
                            have E6 : rg_v h1547_z 41 6 = rg_v h1557_z 170 40 := (rx_v X (o := 41) (k := 6) (by decide)).trans (Eq.trans (rfl) (rx_w Y (o := 170) (k := 40) (by omega) (by decide)).symm)
                            replace hm_z : rn _ _ _ _ [.int 1] _ _ _ := hm_z
                            replace hc_z : rn _ _ _ _ [.int v17_z, .ref 41] _ _ _ := hc_z
                            clear a1_z a2_z a3_z a4_z a5_z a6_z nb1_z nb2_z nb3_z nt1_z nt2_z nt3_z nl1_z nl2_z nl3_z nr1_z nr2_z nr3_z nk1_z nk2_z nk3_z AC0 AC1 AC2 AC3 AD AE AG c1_z c2_z c3_z c4_z c5_z c6_z c7_z c8_z m2_z m3_z m4_z m5_z m6_z m7_z m8_z R3 R4 R5 R6 R7 R8 R9 R10
                            obtain ⟨⟨⟨a1_z, a2_z, a3_z, a4_z, a5_z, a6_z⟩, ⟨nb1_z, nb2_z, nb3_z⟩, ⟨nt1_z, nt2_z, nt3_z⟩, ⟨nl1_z, nl2_z, nl3_z⟩, ⟨nr1_z, nr2_z, nr3_z⟩, ⟨nk1_z, nk2_z, nk3_z⟩, ⟨AC0, AC1, AC2, AC3⟩, AD, AE, AG⟩, ⟨⟨c1_z, c2_z, c3_z, c4_z, c5_z, c6_z, c7_z, c8_z⟩, ⟨m2_z, m3_z, m4_z, m5_z, m6_z, m7_z, m8_z⟩, R3, R4, R5, R6, R7, R8, R9, R10⟩⟩ := (⟨A, R⟩ : rp 23 h1547_z h1557_z ∧ rq T S x17_z p17_z 23 h1547_z h1557_z)
                            replace hc_z := rn_put (am_cur_of (i := (146, 3, .putfield 193, (3, 7, 221), 0)) (by decide +kernel)) (by decide +kernel) hc_z
                            replace hc_z := rn_aload_n (am_cur_of (i := (149, 1, .aload_n 0, (0, 0, 0), 0)) (by decide +kernel)) g0_z hc_z
                            replace hc_z := rn_getM (x := 23) (am_cur_of (i := (150, 3, .getfield 25, (4, 6, 415), 0)) (by decide +kernel)) (show (am_up h1547_z 41 7 (.int v17_z)) 44 6 = .ref 23 from R3) hc_z
                            replace hc_z := rn_dup (am_cur_of (i := (153, 1, .dup, (0, 0, 0), 0)) (by decide +kernel)) hc_z
                            replace hc_z := rn_getI (v := 1) (am_cur_of (i := (154, 3, .getfield 151, (1, 2, 259), 0)) (by decide +kernel)) (by decide +kernel) (show rg_v (am_up h1547_z 41 7 (.int v17_z)) 23 2 = 1 from ecb) hc_z
                            replace hc_z := rn_iconst (w := 1) (am_cur_of (i := (157, 1, .iconst 1, (0, 0, 0), 0)) (by decide +kernel)) (by decide) hc_z
                            replace hc_z := rn_iadd (w := 2) (am_cur_of (i := (158, 1, .iadd, (0, 0, 0), 0)) (by decide +kernel)) (by decide) hc_z
                            replace hc_z := rn_put (am_cur_of (i := (159, 3, .putfield 151, (1, 2, 259), 0)) (by decide +kernel)) (by decide +kernel) hc_z
                            replace hc_z := rn_vret (am_cur_of (i := (162, 1, .return_, (0, 0, 0), 0)) (by decide +kernel)) hc_z
                            obtain ⟨e1559_z, e1560_z⟩ := hc_z
                            subst e1559_z e1560_z
                            replace hm_z := rn_ifT (am_cur_of (i := (116, 3, .ifCond .ne 5, (69, 0, 0), 0)) (by decide +kernel)) (by decide) hm_z
                            replace hm_z := rn_aload_n (am_cur_of (i := (121, 1, .aload_n 0, (0, 0, 0), 0)) (by decide +kernel)) g0m hm_z
                            replace hm_z := rn_getR (x := 170) (am_cur_of (i := (122, 3, .getfield 30, (12, 25, 1409), 0)) (by decide +kernel)) (by decide +kernel) hm_z
                            replace hm_z := rn_iload_n (am_cur_of (i := (125, 1, .iload_n 1, (0, 0, 0), 0)) (by decide +kernel)) g1m hm_z
                            replace hm_z := rn_iload_n (am_cur_of (i := (126, 1, .iload_n 2, (0, 0, 0), 0)) (by decide +kernel)) g2m hm_z
                            replace hm_z := rn_iadd (w := 41) (am_cur_of (i := (127, 1, .iadd, (0, 0, 0), 0)) (by decide +kernel)) (by decide) hm_z
                            replace hm_z := rn_aload_n (am_cur_of (i := (128, 1, .aload_n 0, (0, 0, 0), 0)) (by decide +kernel)) g0m hm_z
                            replace hm_z := rn_getI (v := v17_z) (am_cur_of (i := (129, 3, .getfield 188, (12, 11, 1395), 0)) (by decide +kernel)) (by decide +kernel) got hm_z
                            replace hm_z := rn_iastore (N := 56) (q := 41) (am_cur_of (i := (132, 1, .iastore, (0, 0, 0), 0)) (by decide +kernel)) (by decide +kernel) rfl hm_z
                            obtain ⟨p1561_z, hm_z⟩ := hm_z
                            replace hm_z := rn_iinc (w := 7) (am_cur_of (i := (133, 3, .iinc 2 1, (0, 0, 0), 0)) (by decide +kernel)) g2m (by decide) hm_z
                            obtain ⟨_, s1562_z, s1563_z, g2m, hm_z⟩ := hm_z
                            replace g0m := s1562_z 0 _ (by decide) rfl g0m
                            replace g1m := s1562_z 1 _ (by decide) rfl g1m
                            replace g3m := s1562_z 3 _ (by decide) rfl g3m
                            replace g4m := s1562_z 4 _ (by decide) rfl g4m
                            clear s1562_z s1563_z
                            replace hm_z := rn_goto (am_cur_of (i := (136, 3, .goto (-87), (29, 0, 0), 0)) (by decide +kernel)) hm_z
                            replace hm_z := rn_iload_n (am_cur_of (i := (49, 1, .iload_n 2, (0, 0, 0), 0)) (by decide +kernel)) g2m hm_z
                            replace hm_z := rn_bipush (w := 7) (am_cur_of (i := (50, 2, .bipush 7, (0, 0, 0), 0)) (by decide +kernel)) (by decide) hm_z
                            replace hm_z := rn_cmpT (am_cur_of (i := (52, 3, .if_icmp .ge 87, (79, 0, 0), 0)) (by decide +kernel)) (by decide) hm_z
                            replace hm_z := rn_aload_n (am_cur_of (i := (139, 1, .aload_n 0, (0, 0, 0), 0)) (by decide +kernel)) g0m hm_z
                            replace hm_z := rn_dup (am_cur_of (i := (140, 1, .dup, (0, 0, 0), 0)) (by decide +kernel)) hm_z
                            replace hm_z := rn_getI (v := 1) (am_cur_of (i := (141, 3, .getfield 201, (12, 17, 1401), 0)) (by decide +kernel)) (by decide +kernel) (show rg_v (am_up h1557_z 170 41 (.int v17_z)) 164 17 = 1 from (nb1_z.symm.trans ecb)) hm_z
                            replace hm_z := rn_iconst (w := 1) (am_cur_of (i := (144, 1, .iconst 1, (0, 0, 0), 0)) (by decide +kernel)) (by decide) hm_z
                            replace hm_z := rn_iadd (w := 2) (am_cur_of (i := (145, 1, .iadd, (0, 0, 0), 0)) (by decide +kernel)) (by decide) hm_z
                            replace hm_z := rn_put (am_cur_of (i := (146, 3, .putfield 201, (12, 17, 1401), 0)) (by decide +kernel)) (by decide +kernel) hm_z
                            replace hm_z := rn_iconst (w := 1) (am_cur_of (i := (149, 1, .iconst 1, (0, 0, 0), 0)) (by decide +kernel)) (by decide) hm_z
                            replace hm_z := rn_iret (am_cur_of (i := (150, 1, .ireturn, (0, 0, 0), 0)) (by decide +kernel)) hm_z
                            obtain ⟨e1564_z, e1565_z⟩ := hm_z
                            subst e1564_z e1565_z
                            have R' : rq T S x17_z p17_z 23 (am_up (am_up h1547_z 41 7 (.int v17_z)) 23 2 (.int 2)) (am_up (am_up h1557_z 170 41 (.int v17_z)) 164 17 (.int 2)) := ⟨⟨c1_z, c2_z, c3_z, c4_z, c5_z, c6_z, fun k hk_z => c7_z k hk_z, fun k hk_z => c8_z k hk_z⟩, ⟨m2_z, m3_z, m4_z, m5_z, m6_z, fun k hk_z => m7_z k hk_z, fun k hk_z => m8_z k hk_z⟩, R3, R4, R5, R6, R7, R8, R9, R10⟩
                            have pq0_z : rp_C 23 (am_up (am_up h1547_z 41 7 (.int v17_z)) 23 2 (.int 2)) (am_up (am_up h1557_z 170 41 (.int v17_z)) 164 17 (.int 2)) 0 := by
                              intro hb_z k hk_z
                              have hb2_z : ((0 : Nat) : Int) < (rg_v h1547_z 23 2).toInt := by rw [ecb]; decide
                              match k, hk_z with
                              | 0, _ => exact AC0 hb2_z 0 (by decide)
                              | 1, _ => exact AC0 hb2_z 1 (by decide)
                              | 2, _ => exact AC0 hb2_z 2 (by decide)
                              | 3, _ => exact AC0 hb2_z 3 (by decide)
                              | 4, _ => exact AC0 hb2_z 4 (by decide)
                              | 5, _ => exact AC0 hb2_z 5 (by decide)
                              | 6, _ => exact AC0 hb2_z 6 (by decide)
                              | 7, _ => exact AC0 hb2_z 7 (by decide)
                            have pq1_z : rp_C 23 (am_up (am_up h1547_z 41 7 (.int v17_z)) 23 2 (.int 2)) (am_up (am_up h1557_z 170 41 (.int v17_z)) 164 17 (.int 2)) 1 := by
                              intro hb_z k hk_z
                              match k, hk_z with
                              | 0, _ => exact E0
                              | 1, _ => exact E1
                              | 2, _ => exact E2
                              | 3, _ => exact E3
                              | 4, _ => exact E4
                              | 5, _ => exact E5
                              | 6, _ => exact E6
                              | 7, _ => exact rfl
                            have A' : rp 23 (am_up (am_up h1547_z 41 7 (.int v17_z)) 23 2 (.int 2)) (am_up (am_up h1557_z 170 41 (.int v17_z)) 164 17 (.int 2)) := ⟨⟨a1_z, a2_z, a3_z, a4_z, a5_z, a6_z⟩, ⟨rfl, (show 0 ≤ ((1 : Int32) + 1).toInt by decide), (show ((1 : Int32) + 1).toInt ≤ 4 by decide)⟩, ⟨nt1_z, nt2_z, nt3_z⟩, ⟨nl1_z, nl2_z, nl3_z⟩, ⟨nr1_z, nr2_z, nr3_z⟩, ⟨nk1_z, nk2_z, nk3_z⟩, ⟨(pq0_z), (pq1_z), (fun hb_z => absurd hb_z (by show ¬ ((2 : Nat) : Int) < ((1 : Int32) + 1).toInt; decide)), (fun hb_z => absurd hb_z (by show ¬ ((3 : Nat) : Int) < ((1 : Int32) + 1).toInt; decide))⟩, fun t ht => AD t ht, fun t ht => AE t ht, fun t ht => AG t ht⟩
                            have B' : rp_t (am_up (am_up h1547_z 41 7 (.int v17_z)) 23 2 (.int 2)) (am_up (am_up h1557_z 170 41 (.int v17_z)) 164 17 (.int 2)) := by
                              obtain ⟨b0_z, b1_z, b2_z, b3_z, b4_z, b5_z, b6_z, t, o0_z, o1_z, o2_z, o3_z, o4_z, o5_z, o6_z⟩ := B
                              exact ⟨b0_z, b1_z, b2_z, b3_z, b4_z, b5_z, b6_z, t, o0_z, o1_z, o2_z, o3_z, o4_z, o5_z, o6_z⟩
                            exact Or.inl ⟨rfl, _, _, R', le17_z, A', B'⟩
                          · obtain ⟨wv, w0_z, f1_z, f2_z, f3_z, f4_z⟩ := F
                            have K := rs_stick (a := 31) (by decide) (by decide) rfl w0_z f1_z f2_z hc_z
                            replace hm_z : rn _ _ _ _ [.int 0] _ _ _ := hm_z
                            replace hm_z := rn_ifF (am_cur_of (i := (116, 3, .ifCond .ne 5, (69, 0, 0), 0)) (by decide +kernel)) (by decide) hm_z
                            replace hm_z := rn_iconst (w := 0) (am_cur_of (i := (119, 1, .iconst 0, (0, 0, 0), 0)) (by decide +kernel)) (by decide) hm_z
                            replace hm_z := rn_iret (am_cur_of (i := (120, 1, .ireturn, (0, 0, 0), 0)) (by decide +kernel)) hm_z
                            obtain ⟨e1566_z, e1567_z⟩ := hm_z
                            subst e1566_z e1567_z
                            exact Or.inr ⟨rfl, _, wv, w0_z, K.1, K.2, f3_z, f4_z⟩
                        · obtain ⟨wv, w0_z, f1_z, f2_z, f3_z, f4_z⟩ := F
                          have K := rs_stick (a := 31) (by decide) (by decide) rfl w0_z f1_z f2_z hc_z
                          replace hm_z : rn _ _ _ _ [.int 0] _ _ _ := hm_z
                          replace hm_z := rn_ifF (am_cur_of (i := (116, 3, .ifCond .ne 5, (69, 0, 0), 0)) (by decide +kernel)) (by decide) hm_z
                          replace hm_z := rn_iconst (w := 0) (am_cur_of (i := (119, 1, .iconst 0, (0, 0, 0), 0)) (by decide +kernel)) (by decide) hm_z
                          replace hm_z := rn_iret (am_cur_of (i := (120, 1, .ireturn, (0, 0, 0), 0)) (by decide +kernel)) hm_z
                          obtain ⟨e1568_z, e1569_z⟩ := hm_z
                          subst e1568_z e1569_z
                          exact Or.inr ⟨rfl, _, wv, w0_z, K.1, K.2, f3_z, f4_z⟩
                      · obtain ⟨wv, w0_z, f1_z, f2_z, f3_z, f4_z⟩ := F
                        have K := rs_stick (a := 31) (by decide) (by decide) rfl w0_z f1_z f2_z hc_z
                        replace hm_z : rn _ _ _ _ [.int 0] _ _ _ := hm_z
                        replace hm_z := rn_ifF (am_cur_of (i := (116, 3, .ifCond .ne 5, (69, 0, 0), 0)) (by decide +kernel)) (by decide) hm_z
                        replace hm_z := rn_iconst (w := 0) (am_cur_of (i := (119, 1, .iconst 0, (0, 0, 0), 0)) (by decide +kernel)) (by decide) hm_z
                        replace hm_z := rn_iret (am_cur_of (i := (120, 1, .ireturn, (0, 0, 0), 0)) (by decide +kernel)) hm_z
                        obtain ⟨e1570_z, e1571_z⟩ := hm_z
                        subst e1570_z e1571_z
                        exact Or.inr ⟨rfl, _, wv, w0_z, K.1, K.2, f3_z, f4_z⟩
                    · obtain ⟨wv, w0_z, f1_z, f2_z, f3_z, f4_z⟩ := F
                      have K := rs_stick (a := 31) (by decide) (by decide) rfl w0_z f1_z f2_z hc_z
                      replace hm_z : rn _ _ _ _ [.int 0] _ _ _ := hm_z
                      replace hm_z := rn_ifF (am_cur_of (i := (116, 3, .ifCond .ne 5, (69, 0, 0), 0)) (by decide +kernel)) (by decide) hm_z
                      replace hm_z := rn_iconst (w := 0) (am_cur_of (i := (119, 1, .iconst 0, (0, 0, 0), 0)) (by decide +kernel)) (by decide) hm_z
                      replace hm_z := rn_iret (am_cur_of (i := (120, 1, .ireturn, (0, 0, 0), 0)) (by decide +kernel)) hm_z
                      obtain ⟨e1572_z, e1573_z⟩ := hm_z
                      subst e1572_z e1573_z
                      exact Or.inr ⟨rfl, _, wv, w0_z, K.1, K.2, f3_z, f4_z⟩
                  · obtain ⟨wv, w0_z, f1_z, f2_z, f3_z, f4_z⟩ := F
                    have K := rs_stick (a := 31) (by decide) (by decide) rfl w0_z f1_z f2_z hc_z
                    replace hm_z : rn _ _ _ _ [.int 0] _ _ _ := hm_z
                    replace hm_z := rn_ifF (am_cur_of (i := (116, 3, .ifCond .ne 5, (69, 0, 0), 0)) (by decide +kernel)) (by decide) hm_z
                    replace hm_z := rn_iconst (w := 0) (am_cur_of (i := (119, 1, .iconst 0, (0, 0, 0), 0)) (by decide +kernel)) (by decide) hm_z
                    replace hm_z := rn_iret (am_cur_of (i := (120, 1, .ireturn, (0, 0, 0), 0)) (by decide +kernel)) hm_z
                    obtain ⟨e1574_z, e1575_z⟩ := hm_z
                    subst e1574_z e1575_z
                    exact Or.inr ⟨rfl, _, wv, w0_z, K.1, K.2, f3_z, f4_z⟩
                · obtain ⟨wv, w0_z, f1_z, f2_z, f3_z, f4_z⟩ := F
                  have K := rs_stick (a := 31) (by decide) (by decide) rfl w0_z f1_z f2_z hc_z
                  replace hm_z : rn _ _ _ _ [.int 0] _ _ _ := hm_z
                  replace hm_z := rn_ifF (am_cur_of (i := (116, 3, .ifCond .ne 5, (69, 0, 0), 0)) (by decide +kernel)) (by decide) hm_z
                  replace hm_z := rn_iconst (w := 0) (am_cur_of (i := (119, 1, .iconst 0, (0, 0, 0), 0)) (by decide +kernel)) (by decide) hm_z
                  replace hm_z := rn_iret (am_cur_of (i := (120, 1, .ireturn, (0, 0, 0), 0)) (by decide +kernel)) hm_z
                  obtain ⟨e1576_z, e1577_z⟩ := hm_z
                  subst e1576_z e1577_z
                  exact Or.inr ⟨rfl, _, wv, w0_z, K.1, K.2, f3_z, f4_z⟩
              · obtain ⟨wv, w0_z, f1_z, f2_z, f3_z, f4_z⟩ := F
                have K := rs_stick (a := 31) (by decide) (by decide) rfl w0_z f1_z f2_z hc_z
                replace hm_z : rn _ _ _ _ [.int 0] _ _ _ := hm_z
                replace hm_z := rn_ifF (am_cur_of (i := (116, 3, .ifCond .ne 5, (69, 0, 0), 0)) (by decide +kernel)) (by decide) hm_z
                replace hm_z := rn_iconst (w := 0) (am_cur_of (i := (119, 1, .iconst 0, (0, 0, 0), 0)) (by decide +kernel)) (by decide) hm_z
                replace hm_z := rn_iret (am_cur_of (i := (120, 1, .ireturn, (0, 0, 0), 0)) (by decide +kernel)) hm_z
                obtain ⟨e1578_z, e1579_z⟩ := hm_z
                subst e1578_z e1579_z
                exact Or.inr ⟨rfl, _, wv, w0_z, K.1, K.2, f3_z, f4_z⟩
          · replace b1457_z : ¬ i2_z = ((-1) : Int32) ∧ ¬ i2_z.toInt = ((-1) : Int32).toInt := b1457_z
            replace hc_z := rn_aload_n (am_cur_of (i := (38, 1, .aload_n 0, (0, 0, 0), 0)) (by decide +kernel)) g0_z hc_z
            replace hc_z := rn_iconst (w := 3) (am_cur_of (i := (39, 1, .iconst 3, (0, 0, 0), 0)) (by decide +kernel)) (by decide) hc_z
            replace hc_z := rn_callV (M' := am_m29) (o := 44) (ar := [.int 3]) (rest := []) (L := lv_args 0 [.ref 44, .int 3]) (am_cur_of (i := (40, 3, .invokevirtual 108, (29, 769, 3), 0)) (by decide +kernel)) rfl rfl rfl rfl hc_z
            obtain ⟨r1580_z, h1581_z, q1582_z, hc_z⟩ := hc_z
            obtain ⟨rfl, yq1582_z⟩ := rp_fail R4 q1582_z
            subst yq1582_z
            replace hc_z : rn _ _ _ _ [] _ _ _ := hc_z
            have K := rs_stick (w := 3) (a := 31) (by decide) (by decide) rfl (by decide) rfl rfl hc_z
            replace hm_z := rn_aload_n (am_cur_of (i := (18, 1, .aload_n 0, (0, 0, 0), 0)) (by decide +kernel)) g0m hm_z
            replace hm_z := rn_aload_n (am_cur_of (i := (19, 1, .aload_n 0, (0, 0, 0), 0)) (by decide +kernel)) g0m hm_z
            replace hm_z := rn_getR (x := 169) (am_cur_of (i := (20, 3, .getfield 27, (12, 24, 1408), 0)) (by decide +kernel)) (by decide +kernel) hm_z
            replace hm_z := rn_iconst (w := 4) (am_cur_of (i := (23, 1, .iconst 4, (0, 0, 0), 0)) (by decide +kernel)) (by decide) hm_z
            replace hm_z := rn_aload_n (am_cur_of (i := (24, 1, .aload_n 0, (0, 0, 0), 0)) (by decide +kernel)) g0m hm_z
            replace hm_z := rn_getI (v := 1) (am_cur_of (i := (25, 3, .getfield 201, (12, 17, 1401), 0)) (by decide +kernel)) (by decide +kernel) (nb1_z.symm.trans ecb) hm_z
            replace hm_z := rn_callV (M' := am_m164) (o := 164) (ar := [.int 1, .int 4, .ref 169]) (rest := []) (L := lv_args 0 [.ref 164, .ref 169, .int 4, .int 1]) (am_cur_of (i := (28, 3, .invokevirtual 248, (164, 1688, 3), 0)) (by decide +kernel)) rfl rfl rfl rfl hm_z
            obtain ⟨r1583_z, h1584_z, q1585_z, hm_z⟩ := hm_z
            rcases rp_newB (nb := 1) (by omega) (by omega) q1585_z with ⟨y1_z, rfl, y3_z⟩ | ⟨y1_z, rfl, y3_z, y4_z, y5_z, y6_z⟩ | ⟨y1_z, rfl, y5_z, y4_z, y6_z, y7_z⟩
            · exact absurd k2_z.1 y1_z
            · subst y3_z
              replace hm_z : rn _ _ _ _ [.int 0] _ _ _ := hm_z
              replace hm_z := rn_ifF (am_cur_of (i := (31, 3, .ifCond .ne 5, (20, 0, 0), 0)) (by decide +kernel)) (by decide) hm_z
              replace hm_z := rn_iconst (w := 0) (am_cur_of (i := (34, 1, .iconst 0, (0, 0, 0), 0)) (by decide +kernel)) (by decide) hm_z
              replace hm_z := rn_iret (am_cur_of (i := (35, 1, .ireturn, (0, 0, 0), 0)) (by decide +kernel)) hm_z
              obtain ⟨e1586_z, e1587_z⟩ := hm_z
              subst e1586_z e1587_z
              exact Or.inr ⟨rfl, _, 3, by decide, K.1, K.2.trans R5, rfl, R6⟩
            · exact absurd (rp_fm_u hi2_z (k2_z.2 ▸ y5_z) names) b1457_z.1
        · have K := rs_stick (a := 31) (by decide) (by decide) rfl (by decide) f1_z f2_z hc_z
          have k2_z := tk_n3 R10 k3_z
          replace hm_z := rn_aload_n (am_cur_of (i := (18, 1, .aload_n 0, (0, 0, 0), 0)) (by decide +kernel)) g0m hm_z
          replace hm_z := rn_aload_n (am_cur_of (i := (19, 1, .aload_n 0, (0, 0, 0), 0)) (by decide +kernel)) g0m hm_z
          replace hm_z := rn_getR (x := 169) (am_cur_of (i := (20, 3, .getfield 27, (12, 24, 1408), 0)) (by decide +kernel)) (by decide +kernel) hm_z
          replace hm_z := rn_iconst (w := 4) (am_cur_of (i := (23, 1, .iconst 4, (0, 0, 0), 0)) (by decide +kernel)) (by decide) hm_z
          replace hm_z := rn_aload_n (am_cur_of (i := (24, 1, .aload_n 0, (0, 0, 0), 0)) (by decide +kernel)) g0m hm_z
          replace hm_z := rn_getI (v := 1) (am_cur_of (i := (25, 3, .getfield 201, (12, 17, 1401), 0)) (by decide +kernel)) (by decide +kernel) (nb1_z.symm.trans ecb) hm_z
          replace hm_z := rn_callV (M' := am_m164) (o := 164) (ar := [.int 1, .int 4, .ref 169]) (rest := []) (L := lv_args 0 [.ref 164, .ref 169, .int 4, .int 1]) (am_cur_of (i := (28, 3, .invokevirtual 248, (164, 1688, 3), 0)) (by decide +kernel)) rfl rfl rfl rfl hm_z
          obtain ⟨r1588_z, h1589_z, q1590_z, hm_z⟩ := hm_z
          rcases rp_newB (nb := 1) (by omega) (by omega) q1590_z with ⟨y1_z, rfl, y3_z⟩ | ⟨y1_z, rfl, y3_z, y4_z, y5_z, y6_z⟩ | ⟨y1_z, rfl, y5_z, y4_z, y6_z, y7_z⟩
          · subst y3_z
            replace hm_z : rn _ _ _ _ [.int 0] _ _ _ := hm_z
            replace hm_z := rn_ifF (am_cur_of (i := (31, 3, .ifCond .ne 5, (20, 0, 0), 0)) (by decide +kernel)) (by decide) hm_z
            replace hm_z := rn_iconst (w := 0) (am_cur_of (i := (34, 1, .iconst 0, (0, 0, 0), 0)) (by decide +kernel)) (by decide) hm_z
            replace hm_z := rn_iret (am_cur_of (i := (35, 1, .ireturn, (0, 0, 0), 0)) (by decide +kernel)) hm_z
            obtain ⟨e1591_z, e1592_z⟩ := hm_z
            subst e1591_z e1592_z
            exact Or.inr ⟨rfl, _, 1, by decide, K.1, K.2.trans R5, rfl, R6⟩
          · exact absurd y1_z k2_z
          · exact absurd y1_z k2_z
      · obtain rfl : cb = 2 := rt_i32 (q4_z.trans (by decide))
        replace hc_z := rn_ifF (am_cur_of (i := (12, 3, .ifCond .eq 10, (10, 0, 0), 0)) (by decide +kernel)) (by decide) hc_z
        replace hc_z := rn_aload_n (am_cur_of (i := (15, 1, .aload_n 0, (0, 0, 0), 0)) (by decide +kernel)) g0_z hc_z
        replace hc_z := rn_callV (M' := am_m33) (o := 44) (ar := []) (rest := []) (L := lv_args 0 [.ref 44]) (am_cur_of (i := (16, 3, .invokevirtual 158, (33, 785, 3), 0)) (by decide +kernel)) rfl rfl rfl rfl hc_z
        obtain ⟨r1593_z, h1594_z, q1595_z, hc_z⟩ := hc_z
        rcases rp_own R4 q1595_z with ⟨k3_z, rfl, eh⟩ | ⟨k3_z, f1_z, f2_z⟩
        · replace eh := eh.symm
          subst eh
          have k2_z := tk_3 R10 k3_z
          replace hc_z : rn _ _ _ _ [.int 1] _ _ _ := hc_z
          replace hc_z := rn_ifT (am_cur_of (i := (19, 3, .ifCond .ne 4, (11, 0, 0), 0)) (by decide +kernel)) (by decide) hc_z
          replace hc_z := rn_aload_n (am_cur_of (i := (23, 1, .aload_n 0, (0, 0, 0), 0)) (by decide +kernel)) g0_z hc_z
          replace hc_z := rn_getM (x := 23) (am_cur_of (i := (24, 3, .getfield 25, (4, 6, 415), 0)) (by decide +kernel)) R3 hc_z
          replace hc_z := rn_aload_n (am_cur_of (i := (27, 1, .aload_n 0, (0, 0, 0), 0)) (by decide +kernel)) g0_z hc_z
          replace hc_z := rn_getI (v := rg_v h1297_z 44 11) (am_cur_of (i := (28, 3, .getfield 91, (4, 11, 420), 0)) (by decide +kernel)) (by decide +kernel) rfl hc_z
          replace hc_z := rn_callV (M' := am_m34) (o := 23) (ar := [.int (rg_v h1297_z 44 11)]) (rest := []) (L := lv_args 0 [.ref 23, .int (rg_v h1297_z 44 11)]) (am_cur_of (i := (31, 3, .invokevirtual 162, (34, 789, 3), 0)) (by decide +kernel)) rfl rfl rfl rfl hc_z
          obtain ⟨r1596_z, h1597_z, q1598_z, hc_z⟩ := hc_z
          obtain ⟨eh, i2_z, rfl, hi2_z⟩ := rp_bn23 ecb (by omega) q1598_z
          replace eh := eh.symm
          subst eh
          have hib := rp_fm_b hi2_z (by omega)
          have names : ∀ b : Nat, (b : Int) < (2 : Int32).toInt → rg_v h1297_z (40 + b) 0 = rg_v h1307_z 169 (4 + b) := by
            intro b hb_z
            match b with
            | 0 => exact AC0 (by rw [ecb]; exact hb_z) 0 (by decide)
            | 1 => exact AC1 (by rw [ecb]; exact hb_z) 0 (by decide)
            | 2 => exact AC2 (by rw [ecb]; exact hb_z) 0 (by decide)
            | 3 => exact AC3 (by rw [ecb]; exact hb_z) 0 (by decide)
            | b + 4 => omega
          replace hc_z : rn _ _ _ _ [.int i2_z] _ _ _ := hc_z
          replace hc_z := rn_iconst (w := (-1)) (am_cur_of (i := (34, 1, .iconst (-1), (0, 0, 0), 0)) (by decide +kernel)) (by decide) hc_z
          replace hc_z := rn_cmp (am_cur_of (i := (35, 3, .if_icmp .eq 9, (22, 0, 0), 0)) (by decide +kernel)) hc_z
          rcases hc_z with ⟨b1599_z, hc_z⟩ | ⟨b1599_z, hc_z⟩
          · replace b1599_z : i2_z = ((-1) : Int32) ∧ i2_z.toInt = ((-1) : Int32).toInt := b1599_z
            replace hc_z := rn_aload_n (am_cur_of (i := (44, 1, .aload_n 0, (0, 0, 0), 0)) (by decide +kernel)) g0_z hc_z
            replace hc_z := rn_getM (x := 23) (am_cur_of (i := (45, 3, .getfield 25, (4, 6, 415), 0)) (by decide +kernel)) R3 hc_z
            replace hc_z := rn_getR (x := 24) (am_cur_of (i := (48, 3, .getfield 166, (1, 3, 265), 0)) (by decide +kernel)) (by decide +kernel) hc_z
            replace hc_z := rn_aload_n (am_cur_of (i := (51, 1, .aload_n 0, (0, 0, 0), 0)) (by decide +kernel)) g0_z hc_z
            replace hc_z := rn_getM (x := 23) (am_cur_of (i := (52, 3, .getfield 25, (4, 6, 415), 0)) (by decide +kernel)) R3 hc_z
            replace hc_z := rn_getI (v := 2) (am_cur_of (i := (55, 3, .getfield 151, (1, 2, 259), 0)) (by decide +kernel)) (by decide +kernel) ecb hc_z
            replace hc_z := rn_aaload (s := "AirBed$Blower") (N := 4) (q := 2) (am_cur_of (i := (58, 1, .aaload, (0, 0, 0), 0)) (by decide +kernel)) (by decide +kernel) rfl hc_z
            obtain ⟨p1600_z, hc_z⟩ := hc_z
            rw [show rg_r h1297_z 24 2 = 42 from rp_bc23 (rn_G hc_z) (q := 2) (by decide)] at hc_z
            replace hc_z := rn_astore_n (am_cur_of (i := (59, 1, .astore_n 1, (0, 0, 0), 0)) (by decide +kernel)) hc_z
            obtain ⟨_, s1601_z, s1602_z, g1_z, hc_z⟩ := hc_z
            replace g0_z := s1601_z 0 _ (by decide) rfl g0_z
            clear s1601_z s1602_z
            replace hc_z := rn_aload_n (am_cur_of (i := (60, 1, .aload_n 1, (0, 0, 0), 0)) (by decide +kernel)) g1_z hc_z
            replace hc_z := rn_aload_n (am_cur_of (i := (61, 1, .aload_n 0, (0, 0, 0), 0)) (by decide +kernel)) g0_z hc_z
            replace hc_z := rn_getI (v := rg_v h1297_z 44 11) (am_cur_of (i := (62, 3, .getfield 91, (4, 11, 420), 0)) (by decide +kernel)) (by decide +kernel) rfl hc_z
            replace hc_z := rn_put (am_cur_of (i := (65, 3, .putfield 170, (3, 0, 204), 0)) (by decide +kernel)) (by decide +kernel) hc_z
            replace hc_z := rn_aload_n (am_cur_of (i := (68, 1, .aload_n 0, (0, 0, 0), 0)) (by decide +kernel)) g0_z hc_z
            replace hc_z := rn_callV (M' := am_m19) (o := 44) (ar := []) (rest := []) (L := lv_args 0 [.ref 44]) (am_cur_of (i := (69, 3, .invokevirtual 57, (19, 727, 3), 0)) (by decide +kernel)) rfl rfl rfl rfl hc_z
            obtain ⟨r1603_z, h1604_z, q1605_z, hc_z⟩ := hc_z
            have vo := rn_void rfl q1605_z
            subst vo
            replace hm_z := rn_aload_n (am_cur_of (i := (18, 1, .aload_n 0, (0, 0, 0), 0)) (by decide +kernel)) g0m hm_z
            replace hm_z := rn_aload_n (am_cur_of (i := (19, 1, .aload_n 0, (0, 0, 0), 0)) (by decide +kernel)) g0m hm_z
            replace hm_z := rn_getR (x := 169) (am_cur_of (i := (20, 3, .getfield 27, (12, 24, 1408), 0)) (by decide +kernel)) (by decide +kernel) hm_z
            replace hm_z := rn_iconst (w := 4) (am_cur_of (i := (23, 1, .iconst 4, (0, 0, 0), 0)) (by decide +kernel)) (by decide) hm_z
            replace hm_z := rn_aload_n (am_cur_of (i := (24, 1, .aload_n 0, (0, 0, 0), 0)) (by decide +kernel)) g0m hm_z
            replace hm_z := rn_getI (v := 2) (am_cur_of (i := (25, 3, .getfield 201, (12, 17, 1401), 0)) (by decide +kernel)) (by decide +kernel) (nb1_z.symm.trans ecb) hm_z
            replace hm_z := rn_callV (M' := am_m164) (o := 164) (ar := [.int 2, .int 4, .ref 169]) (rest := []) (L := lv_args 0 [.ref 164, .ref 169, .int 4, .int 2]) (am_cur_of (i := (28, 3, .invokevirtual 248, (164, 1688, 3), 0)) (by decide +kernel)) rfl rfl rfl rfl hm_z
            obtain ⟨r1606_z, h1607_z, q1608_z, hm_z⟩ := hm_z
            rcases rp_newB (nb := 2) (by omega) (by omega) q1608_z with ⟨y1_z, rfl, y3_z⟩ | ⟨y1_z, rfl, y3_z, y4_z, y5_z, y6_z⟩ | ⟨y1_z, rfl, y5_z, y4_z, y6_z, y7_z⟩
            · exact absurd k2_z.1 y1_z
            · have ei := rp_fm_u hi2_z (k2_z.2 ▸ y5_z) names
              rw [← ei] at y6_z
              omega
            · have vo := rn_void rfl y7_z
              subst vo
              have R' : rq T S x1_z p1_z 23 (am_up h1297_z 42 0 (.int (rg_v h1297_z 44 11))) (am_up h1307_z 169 6 (.int (rg_v h1307_z 164 9))) := ⟨⟨c1_z, c2_z, c3_z, c4_z, c5_z, c6_z, fun k hk_z => c7_z k hk_z, fun k hk_z => c8_z k hk_z⟩, ⟨m2_z, m3_z, m4_z, m5_z, m6_z, fun k hk_z => m7_z k hk_z, fun k hk_z => m8_z k hk_z⟩, R3, R4, R5, R6, R7, R8, R9, R10⟩
              have A' : rp 23 (am_up h1297_z 42 0 (.int (rg_v h1297_z 44 11))) (am_up h1307_z 169 6 (.int (rg_v h1307_z 164 9))) := ⟨⟨a1_z, a2_z, a3_z, a4_z, a5_z, a6_z⟩, ⟨nb1_z, nb2_z, nb3_z⟩, ⟨nt1_z, nt2_z, nt3_z⟩, ⟨nl1_z, nl2_z, nl3_z⟩, ⟨nr1_z, nr2_z, nr3_z⟩, ⟨nk1_z, nk2_z, nk3_z⟩, ⟨fun hb_z k hk_z => AC0 hb_z k hk_z, fun hb_z k hk_z => AC1 hb_z k hk_z, fun hb_z => absurd hb_z (by rw [show rg_v (am_up h1297_z 42 0 (.int (rg_v h1297_z 44 11))) 23 2 = 2 from ecb]; decide), fun hb_z => absurd hb_z (by rw [show rg_v (am_up h1297_z 42 0 (.int (rg_v h1297_z 44 11))) 23 2 = 2 from ecb]; decide)⟩, fun t ht => AD t ht, fun t ht => AE t ht, fun t ht => AG t ht⟩
              have B' : rp_t (am_up h1297_z 42 0 (.int (rg_v h1297_z 44 11))) (am_up h1307_z 169 6 (.int (rg_v h1307_z 164 9))) := by
                obtain ⟨b0_z, b1_z, b2_z, b3_z, b4_z, b5_z, b6_z, t, o0_z, o1_z, o2_z, o3_z, o4_z, o5_z, o6_z⟩ := B
                exact ⟨b0_z, b1_z, b2_z, b3_z, b4_z, b5_z, b6_z, t, o0_z, o1_z, o2_z, o3_z, o4_z, o5_z, o6_z⟩
              obtain ⟨-, -, x18_z, p18_z, R, le18_z, t5_z, t6_z⟩ := pr_tok (rq_0 R') q1605_z y7_z
              replace A := rp_x (by decide) A' (rx_C_f t5_z) (rx_M_f t6_z)
              replace B := rp_tk B' (rg_v_fr t5_z (by decide)) (fun k => rg_v_fr t6_z (rg_v_in (by decide) k)) (rx_M_f t6_z)
              clear A' B' R'
              replace le18_z : x.toInt ≤ p18_z.toInt := Int.le_trans (Int.le_trans le1_z R8) le18_z
              replace ecb : rg_v h1604_z 23 2 = 2 := (rx_v (rx_C_f t5_z) (o := 23) (k := 2) (by decide)).trans ecb
              replace ect : rg_v h1604_z 23 4 = ct := (rx_v (rx_C_f t5_z) (o := 23) (k := 4) (by decide)).trans ect
              replace ecl : rg_v h1604_z 23 9 = cl := (rx_v (rx_C_f t5_z) (o := 23) (k := 9) (by decide)).trans ecl
              replace ecr : rg_v h1604_z 23 12 = cr := (rx_v (rx_C_f t5_z) (o := 23) (k := 12) (by decide)).trans ecr
              have E0 : rg_v h1604_z 42 0 = rg_v h1607_z 169 6 := (rx_v (rx_C_f t5_z) (o := 42) (k := 0) (by decide)).trans (Eq.trans (k2_z.2) (rx_w (rx_M_f t6_z) (o := 169) (k := 6) (by omega) (by decide)).symm)
              replace hm_z : rn _ _ _ _ [.int 1] _ _ _ := hm_z
              replace hc_z : rn _ _ _ _ [] _ _ _ := hc_z
              clear a1_z a2_z a3_z a4_z a5_z a6_z nb1_z nb2_z nb3_z nt1_z nt2_z nt3_z nl1_z nl2_z nl3_z nr1_z nr2_z nr3_z nk1_z nk2_z nk3_z AC0 AC1 AC2 AC3 AD AE AG c1_z c2_z c3_z c4_z c5_z c6_z c7_z c8_z m2_z m3_z m4_z m5_z m6_z m7_z m8_z R3 R4 R5 R6 R7 R8 R9 R10
              obtain ⟨⟨⟨a1_z, a2_z, a3_z, a4_z, a5_z, a6_z⟩, ⟨nb1_z, nb2_z, nb3_z⟩, ⟨nt1_z, nt2_z, nt3_z⟩, ⟨nl1_z, nl2_z, nl3_z⟩, ⟨nr1_z, nr2_z, nr3_z⟩, ⟨nk1_z, nk2_z, nk3_z⟩, ⟨AC0, AC1, AC2, AC3⟩, AD, AE, AG⟩, ⟨⟨c1_z, c2_z, c3_z, c4_z, c5_z, c6_z, c7_z, c8_z⟩, ⟨m2_z, m3_z, m4_z, m5_z, m6_z, m7_z, m8_z⟩, R3, R4, R5, R6, R7, R8, R9, R10⟩⟩ := (⟨A, R⟩ : rp 23 h1604_z h1607_z ∧ rq T S x18_z p18_z 23 h1604_z h1607_z)
              replace hc_z := rn_aload_n (am_cur_of (i := (72, 1, .aload_n 1, (0, 0, 0), 0)) (by decide +kernel)) g1_z hc_z
              replace hc_z := rn_aload_n (am_cur_of (i := (73, 1, .aload_n 0, (0, 0, 0), 0)) (by decide +kernel)) g0_z hc_z
              replace hc_z := rn_iconst (w := 1) (am_cur_of (i := (74, 1, .iconst 1, (0, 0, 0), 0)) (by decide +kernel)) (by decide) hc_z
              replace hc_z := rn_bipush (w := 99) (am_cur_of (i := (75, 2, .bipush 99, (0, 0, 0), 0)) (by decide +kernel)) (by decide) hc_z
              replace hc_z := rn_callV (M' := am_m30) (o := 44) (ar := [.int 99, .int 1]) (rest := [.ref 42]) (L := lv_args 0 [.ref 44, .int 1, .int 99]) (am_cur_of (i := (77, 3, .invokevirtual 142, (30, 773, 3), 0)) (by decide +kernel)) rfl rfl rfl rfl hc_z
              obtain ⟨r1609_z, h1610_z, q1611_z, hc_z⟩ := hc_z
              replace hm_z := rn_ifT (am_cur_of (i := (31, 3, .ifCond .ne 5, (20, 0, 0), 0)) (by decide +kernel)) (by decide) hm_z
              replace hm_z := rn_bipush (w := 28) (am_cur_of (i := (36, 2, .bipush 28, (0, 0, 0), 0)) (by decide +kernel)) (by decide) hm_z
              replace hm_z := rn_bipush (w := 7) (am_cur_of (i := (38, 2, .bipush 7, (0, 0, 0), 0)) (by decide +kernel)) (by decide) hm_z
              replace hm_z := rn_aload_n (am_cur_of (i := (40, 1, .aload_n 0, (0, 0, 0), 0)) (by decide +kernel)) g0m hm_z
              replace hm_z := rn_getI (v := 2) (am_cur_of (i := (41, 3, .getfield 201, (12, 17, 1401), 0)) (by decide +kernel)) (by decide +kernel) (nb1_z.symm.trans ecb) hm_z
              replace hm_z := rn_imul (w := 14) (am_cur_of (i := (44, 1, .imul, (0, 0, 0), 0)) (by decide +kernel)) (by decide) hm_z
              replace hm_z := rn_iadd (w := 42) (am_cur_of (i := (45, 1, .iadd, (0, 0, 0), 0)) (by decide +kernel)) (by decide) hm_z
              replace hm_z := rn_istore_n (am_cur_of (i := (46, 1, .istore_n 1, (0, 0, 0), 0)) (by decide +kernel)) hm_z
              obtain ⟨_, s1612_z, s1613_z, g1m, hm_z⟩ := hm_z
              replace g0m := s1612_z 0 _ (by decide) rfl g0m
              clear s1612_z s1613_z
              replace hm_z := rn_iconst (w := 0) (am_cur_of (i := (47, 1, .iconst 0, (0, 0, 0), 0)) (by decide +kernel)) (by decide) hm_z
              replace hm_z := rn_istore_n (am_cur_of (i := (48, 1, .istore_n 2, (0, 0, 0), 0)) (by decide +kernel)) hm_z
              obtain ⟨_, s1614_z, s1615_z, g2m, hm_z⟩ := hm_z
              replace g0m := s1614_z 0 _ (by decide) rfl g0m
              replace g1m := s1614_z 1 _ (by decide) rfl g1m
              clear s1614_z s1615_z
              replace hm_z := rn_iload_n (am_cur_of (i := (49, 1, .iload_n 2, (0, 0, 0), 0)) (by decide +kernel)) g2m hm_z
              replace hm_z := rn_bipush (w := 7) (am_cur_of (i := (50, 2, .bipush 7, (0, 0, 0), 0)) (by decide +kernel)) (by decide) hm_z
              replace hm_z := rn_cmpF (am_cur_of (i := (52, 3, .if_icmp .ge 87, (79, 0, 0), 0)) (by decide +kernel)) (by decide) hm_z
              replace hm_z := rn_iload_n (am_cur_of (i := (55, 1, .iload_n 2, (0, 0, 0), 0)) (by decide +kernel)) g2m hm_z
              replace hm_z := rn_ifT (am_cur_of (i := (56, 3, .ifCond .eq 13, (40, 0, 0), 0)) (by decide +kernel)) (by decide) hm_z
              replace hm_z := rn_iconst (w := 1) (am_cur_of (i := (69, 1, .iconst 1, (0, 0, 0), 0)) (by decide +kernel)) (by decide) hm_z
              replace hm_z := rn_goto (am_cur_of (i := (70, 3, .goto 4, (43, 0, 0), 0)) (by decide +kernel)) hm_z
              replace hm_z := rn_istore_n (am_cur_of (i := (74, 1, .istore_n 3, (0, 0, 0), 0)) (by decide +kernel)) hm_z
              obtain ⟨_, s1616_z, s1617_z, g3m, hm_z⟩ := hm_z
              replace g0m := s1616_z 0 _ (by decide) rfl g0m
              replace g1m := s1616_z 1 _ (by decide) rfl g1m
              replace g2m := s1616_z 2 _ (by decide) rfl g2m
              clear s1616_z s1617_z
              replace hm_z := rn_iload_n (am_cur_of (i := (75, 1, .iload_n 2, (0, 0, 0), 0)) (by decide +kernel)) g2m hm_z
              replace hm_z := rn_iconst (w := 1) (am_cur_of (i := (76, 1, .iconst 1, (0, 0, 0), 0)) (by decide +kernel)) (by decide) hm_z
              replace hm_z := rn_cmpF (am_cur_of (i := (77, 3, .if_icmp .eq 8, (50, 0, 0), 0)) (by decide +kernel)) (by decide) hm_z
              replace hm_z := rn_iload_n (am_cur_of (i := (80, 1, .iload_n 2, (0, 0, 0), 0)) (by decide +kernel)) g2m hm_z
              replace hm_z := rn_iconst (w := 2) (am_cur_of (i := (81, 1, .iconst 2, (0, 0, 0), 0)) (by decide +kernel)) (by decide) hm_z
              replace hm_z := rn_cmpT (am_cur_of (i := (82, 3, .if_icmp .ne 8, (52, 0, 0), 0)) (by decide +kernel)) (by decide) hm_z
              replace hm_z := rn_iload_n (am_cur_of (i := (90, 1, .iload_n 2, (0, 0, 0), 0)) (by decide +kernel)) g2m hm_z
              replace hm_z := rn_iconst (w := 3) (am_cur_of (i := (91, 1, .iconst 3, (0, 0, 0), 0)) (by decide +kernel)) (by decide) hm_z
              replace hm_z := rn_cmpF (am_cur_of (i := (92, 3, .if_icmp .eq 8, (58, 0, 0), 0)) (by decide +kernel)) (by decide) hm_z
              replace hm_z := rn_iload_n (am_cur_of (i := (95, 1, .iload_n 2, (0, 0, 0), 0)) (by decide +kernel)) g2m hm_z
              replace hm_z := rn_iconst (w := 5) (am_cur_of (i := (96, 1, .iconst 5, (0, 0, 0), 0)) (by decide +kernel)) (by decide) hm_z
              replace hm_z := rn_cmpT (am_cur_of (i := (97, 3, .if_icmp .ne 8, (60, 0, 0), 0)) (by decide +kernel)) (by decide) hm_z
              replace hm_z := rn_bipush (w := 99) (am_cur_of (i := (105, 2, .bipush 99, (0, 0, 0), 0)) (by decide +kernel)) (by decide) hm_z
              replace hm_z := rn_istore (am_cur_of (i := (107, 2, .istore 4, (0, 0, 0), 0)) (by decide +kernel)) hm_z
              obtain ⟨_, s1618_z, s1619_z, g4m, hm_z⟩ := hm_z
              replace g0m := s1618_z 0 _ (by decide) rfl g0m
              replace g1m := s1618_z 1 _ (by decide) rfl g1m
              replace g2m := s1618_z 2 _ (by decide) rfl g2m
              replace g3m := s1618_z 3 _ (by decide) rfl g3m
              clear s1618_z s1619_z
              replace hm_z := rn_aload_n (am_cur_of (i := (109, 1, .aload_n 0, (0, 0, 0), 0)) (by decide +kernel)) g0m hm_z
              replace hm_z := rn_iload_n (am_cur_of (i := (110, 1, .iload_n 3, (0, 0, 0), 0)) (by decide +kernel)) g3m hm_z
              replace hm_z := rn_iload (am_cur_of (i := (111, 2, .iload 4, (0, 0, 0), 0)) (by decide +kernel)) g4m hm_z
              replace hm_z := rn_callV (M' := am_m161) (o := 164) (ar := [.int 99, .int 1]) (rest := []) (L := lv_args 0 [.ref 164, .int 1, .int 99]) (am_cur_of (i := (113, 3, .invokevirtual 197, (161, 1677, 3), 0)) (by decide +kernel)) rfl rfl rfl rfl hm_z
              obtain ⟨r1620_z, h1621_z, q1622_z, hm_z⟩ := hm_z
              have R' : rq T S x18_z p18_z 23 h1604_z h1607_z := ⟨⟨c1_z, c2_z, c3_z, c4_z, c5_z, c6_z, fun k hk_z => c7_z k hk_z, fun k hk_z => c8_z k hk_z⟩, ⟨m2_z, m3_z, m4_z, m5_z, m6_z, fun k hk_z => m7_z k hk_z, fun k hk_z => m8_z k hk_z⟩, R3, R4, R5, R6, R7, R8, R9, R10⟩
              have A' : rp 23 h1604_z h1607_z := ⟨⟨a1_z, a2_z, a3_z, a4_z, a5_z, a6_z⟩, ⟨nb1_z, nb2_z, nb3_z⟩, ⟨nt1_z, nt2_z, nt3_z⟩, ⟨nl1_z, nl2_z, nl3_z⟩, ⟨nr1_z, nr2_z, nr3_z⟩, ⟨nk1_z, nk2_z, nk3_z⟩, ⟨(fun hb_z k hk_z => by match k, hk_z with | 0, _ => exact AC0 hb_z 0 (by decide) | 1, _ => exact AC0 hb_z 1 (by decide) | 2, _ => exact AC0 hb_z 2 (by decide) | 3, _ => exact AC0 hb_z 3 (by decide) | 4, _ => exact AC0 hb_z 4 (by decide) | 5, _ => exact AC0 hb_z 5 (by decide) | 6, _ => exact AC0 hb_z 6 (by decide) | 7, _ => exact AC0 hb_z 7 (by decide)), (fun hb_z k hk_z => by match k, hk_z with | 0, _ => exact AC1 hb_z 0 (by decide) | 1, _ => exact AC1 hb_z 1 (by decide) | 2, _ => exact AC1 hb_z 2 (by decide) | 3, _ => exact AC1 hb_z 3 (by decide) | 4, _ => exact AC1 hb_z 4 (by decide) | 5, _ => exact AC1 hb_z 5 (by decide) | 6, _ => exact AC1 hb_z 6 (by decide) | 7, _ => exact AC1 hb_z 7 (by decide)), fun hb_z => absurd hb_z (by rw [show rg_v h1604_z 23 2 = 2 from ecb]; decide), fun hb_z => absurd hb_z (by rw [show rg_v h1604_z 23 2 = 2 from ecb]; decide)⟩, fun t ht => AD t ht, fun t ht => AE t ht, fun t ht => AG t ht⟩
              have B' : rp_t h1604_z h1607_z := by
                obtain ⟨b0_z, b1_z, b2_z, b3_z, b4_z, b5_z, b6_z, t, o0_z, o1_z, o2_z, o3_z, o4_z, o5_z, o6_z⟩ := B
                exact ⟨b0_z, b1_z, b2_z, b3_z, b4_z, b5_z, b6_z, t, o0_z, o1_z, o2_z, o3_z, o4_z, o5_z, o6_z⟩
              rcases pr_num R' (by decide) (by decide) q1611_z q1622_z with ⟨v19_z, x19_z, p19_z, rfl, rfl, lo19_z, hi19_z, R, le19_z, got, X, Y, t7_z, t167_z⟩ | ⟨rfl, F⟩
              · replace A := rp_x (by decide) A' X Y
                replace B := rp_tk B' t7_z t167_z Y
                clear A' B' R'
                replace le19_z : x.toInt ≤ p19_z.toInt := Int.le_trans (Int.le_trans le18_z R8) le19_z
                replace ecb : rg_v h1610_z 23 2 = 2 := (rx_v X (o := 23) (k := 2) (by decide)).trans ecb
                replace ect : rg_v h1610_z 23 4 = ct := (rx_v X (o := 23) (k := 4) (by decide)).trans ect
                replace ecl : rg_v h1610_z 23 9 = cl := (rx_v X (o := 23) (k := 9) (by decide)).trans ecl
                replace ecr : rg_v h1610_z 23 12 = cr := (rx_v X (o := 23) (k := 12) (by decide)).trans ecr
                replace E0 : rg_v h1610_z 42 0 = rg_v h1621_z 169 6 := (rx_v X (o := 42) (k := 0) (by decide)).trans (E0.trans (rx_w Y (o := 169) (k := 6) (by omega) (by decide)).symm)
                replace hm_z : rn _ _ _ _ [.int 1] _ _ _ := hm_z
                replace hc_z : rn _ _ _ _ [.int v19_z, .ref 42] _ _ _ := hc_z
                clear a1_z a2_z a3_z a4_z a5_z a6_z nb1_z nb2_z nb3_z nt1_z nt2_z nt3_z nl1_z nl2_z nl3_z nr1_z nr2_z nr3_z nk1_z nk2_z nk3_z AC0 AC1 AC2 AC3 AD AE AG c1_z c2_z c3_z c4_z c5_z c6_z c7_z c8_z m2_z m3_z m4_z m5_z m6_z m7_z m8_z R3 R4 R5 R6 R7 R8 R9 R10
                obtain ⟨⟨⟨a1_z, a2_z, a3_z, a4_z, a5_z, a6_z⟩, ⟨nb1_z, nb2_z, nb3_z⟩, ⟨nt1_z, nt2_z, nt3_z⟩, ⟨nl1_z, nl2_z, nl3_z⟩, ⟨nr1_z, nr2_z, nr3_z⟩, ⟨nk1_z, nk2_z, nk3_z⟩, ⟨AC0, AC1, AC2, AC3⟩, AD, AE, AG⟩, ⟨⟨c1_z, c2_z, c3_z, c4_z, c5_z, c6_z, c7_z, c8_z⟩, ⟨m2_z, m3_z, m4_z, m5_z, m6_z, m7_z, m8_z⟩, R3, R4, R5, R6, R7, R8, R9, R10⟩⟩ := (⟨A, R⟩ : rp 23 h1610_z h1621_z ∧ rq T S x19_z p19_z 23 h1610_z h1621_z)
                replace hc_z := rn_put (am_cur_of (i := (80, 3, .putfield 175, (3, 1, 206), 0)) (by decide +kernel)) (by decide +kernel) hc_z
                replace hc_z := rn_aload_n (am_cur_of (i := (83, 1, .aload_n 1, (0, 0, 0), 0)) (by decide +kernel)) g1_z hc_z
                replace hc_z := rn_aload_n (am_cur_of (i := (84, 1, .aload_n 0, (0, 0, 0), 0)) (by decide +kernel)) g0_z hc_z
                replace hc_z := rn_iconst (w := 0) (am_cur_of (i := (85, 1, .iconst 0, (0, 0, 0), 0)) (by decide +kernel)) (by decide) hc_z
                replace hc_z := rn_bipush (w := 20) (am_cur_of (i := (86, 2, .bipush 20, (0, 0, 0), 0)) (by decide +kernel)) (by decide) hc_z
                replace hc_z := rn_callV (M' := am_m30) (o := 44) (ar := [.int 20, .int 0]) (rest := [.ref 42]) (L := lv_args 0 [.ref 44, .int 0, .int 20]) (am_cur_of (i := (88, 3, .invokevirtual 142, (30, 773, 3), 0)) (by decide +kernel)) rfl rfl rfl rfl hc_z
                obtain ⟨r1623_z, h1624_z, q1625_z, hc_z⟩ := hc_z
                replace hm_z := rn_ifT (am_cur_of (i := (116, 3, .ifCond .ne 5, (69, 0, 0), 0)) (by decide +kernel)) (by decide) hm_z
                replace hm_z := rn_aload_n (am_cur_of (i := (121, 1, .aload_n 0, (0, 0, 0), 0)) (by decide +kernel)) g0m hm_z
                replace hm_z := rn_getR (x := 170) (am_cur_of (i := (122, 3, .getfield 30, (12, 25, 1409), 0)) (by decide +kernel)) (by decide +kernel) hm_z
                replace hm_z := rn_iload_n (am_cur_of (i := (125, 1, .iload_n 1, (0, 0, 0), 0)) (by decide +kernel)) g1m hm_z
                replace hm_z := rn_iload_n (am_cur_of (i := (126, 1, .iload_n 2, (0, 0, 0), 0)) (by decide +kernel)) g2m hm_z
                replace hm_z := rn_iadd (w := 42) (am_cur_of (i := (127, 1, .iadd, (0, 0, 0), 0)) (by decide +kernel)) (by decide) hm_z
                replace hm_z := rn_aload_n (am_cur_of (i := (128, 1, .aload_n 0, (0, 0, 0), 0)) (by decide +kernel)) g0m hm_z
                replace hm_z := rn_getI (v := v19_z) (am_cur_of (i := (129, 3, .getfield 188, (12, 11, 1395), 0)) (by decide +kernel)) (by decide +kernel) got hm_z
                replace hm_z := rn_iastore (N := 56) (q := 42) (am_cur_of (i := (132, 1, .iastore, (0, 0, 0), 0)) (by decide +kernel)) (by decide +kernel) rfl hm_z
                obtain ⟨p1626_z, hm_z⟩ := hm_z
                replace hm_z := rn_iinc (w := 1) (am_cur_of (i := (133, 3, .iinc 2 1, (0, 0, 0), 0)) (by decide +kernel)) g2m (by decide) hm_z
                obtain ⟨_, s1627_z, s1628_z, g2m, hm_z⟩ := hm_z
                replace g0m := s1627_z 0 _ (by decide) rfl g0m
                replace g1m := s1627_z 1 _ (by decide) rfl g1m
                replace g3m := s1627_z 3 _ (by decide) rfl g3m
                replace g4m := s1627_z 4 _ (by decide) rfl g4m
                clear s1627_z s1628_z
                replace hm_z := rn_goto (am_cur_of (i := (136, 3, .goto (-87), (29, 0, 0), 0)) (by decide +kernel)) hm_z
                replace hm_z := rn_iload_n (am_cur_of (i := (49, 1, .iload_n 2, (0, 0, 0), 0)) (by decide +kernel)) g2m hm_z
                replace hm_z := rn_bipush (w := 7) (am_cur_of (i := (50, 2, .bipush 7, (0, 0, 0), 0)) (by decide +kernel)) (by decide) hm_z
                replace hm_z := rn_cmpF (am_cur_of (i := (52, 3, .if_icmp .ge 87, (79, 0, 0), 0)) (by decide +kernel)) (by decide) hm_z
                replace hm_z := rn_iload_n (am_cur_of (i := (55, 1, .iload_n 2, (0, 0, 0), 0)) (by decide +kernel)) g2m hm_z
                replace hm_z := rn_ifF (am_cur_of (i := (56, 3, .ifCond .eq 13, (40, 0, 0), 0)) (by decide +kernel)) (by decide) hm_z
                replace hm_z := rn_iload_n (am_cur_of (i := (59, 1, .iload_n 2, (0, 0, 0), 0)) (by decide +kernel)) g2m hm_z
                replace hm_z := rn_iconst (w := 2) (am_cur_of (i := (60, 1, .iconst 2, (0, 0, 0), 0)) (by decide +kernel)) (by decide) hm_z
                replace hm_z := rn_cmpF (am_cur_of (i := (61, 3, .if_icmp .eq 8, (40, 0, 0), 0)) (by decide +kernel)) (by decide) hm_z
                replace hm_z := rn_iload_n (am_cur_of (i := (64, 1, .iload_n 2, (0, 0, 0), 0)) (by decide +kernel)) g2m hm_z
                replace hm_z := rn_iconst (w := 3) (am_cur_of (i := (65, 1, .iconst 3, (0, 0, 0), 0)) (by decide +kernel)) (by decide) hm_z
                replace hm_z := rn_cmpT (am_cur_of (i := (66, 3, .if_icmp .ne 7, (42, 0, 0), 0)) (by decide +kernel)) (by decide) hm_z
                replace hm_z := rn_iconst (w := 0) (am_cur_of (i := (73, 1, .iconst 0, (0, 0, 0), 0)) (by decide +kernel)) (by decide) hm_z
                replace hm_z := rn_istore_n (am_cur_of (i := (74, 1, .istore_n 3, (0, 0, 0), 0)) (by decide +kernel)) hm_z
                obtain ⟨_, s1629_z, s1630_z, g3m, hm_z⟩ := hm_z
                replace g0m := s1629_z 0 _ (by decide) rfl g0m
                replace g1m := s1629_z 1 _ (by decide) rfl g1m
                replace g2m := s1629_z 2 _ (by decide) rfl g2m
                replace g4m := s1629_z 4 _ (by decide) rfl g4m
                clear s1629_z s1630_z
                replace hm_z := rn_iload_n (am_cur_of (i := (75, 1, .iload_n 2, (0, 0, 0), 0)) (by decide +kernel)) g2m hm_z
                replace hm_z := rn_iconst (w := 1) (am_cur_of (i := (76, 1, .iconst 1, (0, 0, 0), 0)) (by decide +kernel)) (by decide) hm_z
                replace hm_z := rn_cmpT (am_cur_of (i := (77, 3, .if_icmp .eq 8, (50, 0, 0), 0)) (by decide +kernel)) (by decide) hm_z
                replace hm_z := rn_bipush (w := 20) (am_cur_of (i := (85, 2, .bipush 20, (0, 0, 0), 0)) (by decide +kernel)) (by decide) hm_z
                replace hm_z := rn_goto (am_cur_of (i := (87, 3, .goto 20, (61, 0, 0), 0)) (by decide +kernel)) hm_z
                replace hm_z := rn_istore (am_cur_of (i := (107, 2, .istore 4, (0, 0, 0), 0)) (by decide +kernel)) hm_z
                obtain ⟨_, s1631_z, s1632_z, g4m, hm_z⟩ := hm_z
                replace g0m := s1631_z 0 _ (by decide) rfl g0m
                replace g1m := s1631_z 1 _ (by decide) rfl g1m
                replace g2m := s1631_z 2 _ (by decide) rfl g2m
                replace g3m := s1631_z 3 _ (by decide) rfl g3m
                clear s1631_z s1632_z
                replace hm_z := rn_aload_n (am_cur_of (i := (109, 1, .aload_n 0, (0, 0, 0), 0)) (by decide +kernel)) g0m hm_z
                replace hm_z := rn_iload_n (am_cur_of (i := (110, 1, .iload_n 3, (0, 0, 0), 0)) (by decide +kernel)) g3m hm_z
                replace hm_z := rn_iload (am_cur_of (i := (111, 2, .iload 4, (0, 0, 0), 0)) (by decide +kernel)) g4m hm_z
                replace hm_z := rn_callV (M' := am_m161) (o := 164) (ar := [.int 20, .int 0]) (rest := []) (L := lv_args 0 [.ref 164, .int 0, .int 20]) (am_cur_of (i := (113, 3, .invokevirtual 197, (161, 1677, 3), 0)) (by decide +kernel)) rfl rfl rfl rfl hm_z
                obtain ⟨r1633_z, h1634_z, q1635_z, hm_z⟩ := hm_z
                have R' : rq T S x19_z p19_z 23 (am_up h1610_z 42 1 (.int v19_z)) (am_up h1621_z 170 42 (.int v19_z)) := ⟨⟨c1_z, c2_z, c3_z, c4_z, c5_z, c6_z, fun k hk_z => c7_z k hk_z, fun k hk_z => c8_z k hk_z⟩, ⟨m2_z, m3_z, m4_z, m5_z, m6_z, fun k hk_z => m7_z k hk_z, fun k hk_z => m8_z k hk_z⟩, R3, R4, R5, R6, R7, R8, R9, R10⟩
                have A' : rp 23 (am_up h1610_z 42 1 (.int v19_z)) (am_up h1621_z 170 42 (.int v19_z)) := ⟨⟨a1_z, a2_z, a3_z, a4_z, a5_z, a6_z⟩, ⟨nb1_z, nb2_z, nb3_z⟩, ⟨nt1_z, nt2_z, nt3_z⟩, ⟨nl1_z, nl2_z, nl3_z⟩, ⟨nr1_z, nr2_z, nr3_z⟩, ⟨nk1_z, nk2_z, nk3_z⟩, ⟨(fun hb_z k hk_z => by match k, hk_z with | 0, _ => exact AC0 hb_z 0 (by decide) | 1, _ => exact AC0 hb_z 1 (by decide) | 2, _ => exact AC0 hb_z 2 (by decide) | 3, _ => exact AC0 hb_z 3 (by decide) | 4, _ => exact AC0 hb_z 4 (by decide) | 5, _ => exact AC0 hb_z 5 (by decide) | 6, _ => exact AC0 hb_z 6 (by decide) | 7, _ => exact AC0 hb_z 7 (by decide)), (fun hb_z k hk_z => by match k, hk_z with | 0, _ => exact AC1 hb_z 0 (by decide) | 1, _ => exact AC1 hb_z 1 (by decide) | 2, _ => exact AC1 hb_z 2 (by decide) | 3, _ => exact AC1 hb_z 3 (by decide) | 4, _ => exact AC1 hb_z 4 (by decide) | 5, _ => exact AC1 hb_z 5 (by decide) | 6, _ => exact AC1 hb_z 6 (by decide) | 7, _ => exact AC1 hb_z 7 (by decide)), fun hb_z => absurd hb_z (by rw [show rg_v (am_up h1610_z 42 1 (.int v19_z)) 23 2 = 2 from ecb]; decide), fun hb_z => absurd hb_z (by rw [show rg_v (am_up h1610_z 42 1 (.int v19_z)) 23 2 = 2 from ecb]; decide)⟩, fun t ht => AD t ht, fun t ht => AE t ht, fun t ht => AG t ht⟩
                have B' : rp_t (am_up h1610_z 42 1 (.int v19_z)) (am_up h1621_z 170 42 (.int v19_z)) := by
                  obtain ⟨b0_z, b1_z, b2_z, b3_z, b4_z, b5_z, b6_z, t, o0_z, o1_z, o2_z, o3_z, o4_z, o5_z, o6_z⟩ := B
                  exact ⟨b0_z, b1_z, b2_z, b3_z, b4_z, b5_z, b6_z, t, o0_z, o1_z, o2_z, o3_z, o4_z, o5_z, o6_z⟩
                rcases pr_num R' (by decide) (by decide) q1625_z q1635_z with ⟨v20_z, x20_z, p20_z, rfl, rfl, lo20_z, hi20_z, R, le20_z, got, X, Y, t7_z, t167_z⟩ | ⟨rfl, F⟩
                · replace A := rp_x (by decide) A' X Y
                  replace B := rp_tk B' t7_z t167_z Y
                  clear A' B' R'
                  replace le20_z : x.toInt ≤ p20_z.toInt := Int.le_trans (Int.le_trans le19_z R8) le20_z
                  replace ecb : rg_v h1624_z 23 2 = 2 := (rx_v X (o := 23) (k := 2) (by decide)).trans ecb
                  replace ect : rg_v h1624_z 23 4 = ct := (rx_v X (o := 23) (k := 4) (by decide)).trans ect
                  replace ecl : rg_v h1624_z 23 9 = cl := (rx_v X (o := 23) (k := 9) (by decide)).trans ecl
                  replace ecr : rg_v h1624_z 23 12 = cr := (rx_v X (o := 23) (k := 12) (by decide)).trans ecr
                  replace E0 : rg_v h1624_z 42 0 = rg_v h1634_z 169 6 := (rx_v X (o := 42) (k := 0) (by decide)).trans (E0.trans (rx_w Y (o := 169) (k := 6) (by omega) (by decide)).symm)
                  have E1 : rg_v h1624_z 42 1 = rg_v h1634_z 170 42 := (rx_v X (o := 42) (k := 1) (by decide)).trans (Eq.trans (rfl) (rx_w Y (o := 170) (k := 42) (by omega) (by decide)).symm)
                  replace hm_z : rn _ _ _ _ [.int 1] _ _ _ := hm_z
                  replace hc_z : rn _ _ _ _ [.int v20_z, .ref 42] _ _ _ := hc_z
                  clear a1_z a2_z a3_z a4_z a5_z a6_z nb1_z nb2_z nb3_z nt1_z nt2_z nt3_z nl1_z nl2_z nl3_z nr1_z nr2_z nr3_z nk1_z nk2_z nk3_z AC0 AC1 AC2 AC3 AD AE AG c1_z c2_z c3_z c4_z c5_z c6_z c7_z c8_z m2_z m3_z m4_z m5_z m6_z m7_z m8_z R3 R4 R5 R6 R7 R8 R9 R10
                  obtain ⟨⟨⟨a1_z, a2_z, a3_z, a4_z, a5_z, a6_z⟩, ⟨nb1_z, nb2_z, nb3_z⟩, ⟨nt1_z, nt2_z, nt3_z⟩, ⟨nl1_z, nl2_z, nl3_z⟩, ⟨nr1_z, nr2_z, nr3_z⟩, ⟨nk1_z, nk2_z, nk3_z⟩, ⟨AC0, AC1, AC2, AC3⟩, AD, AE, AG⟩, ⟨⟨c1_z, c2_z, c3_z, c4_z, c5_z, c6_z, c7_z, c8_z⟩, ⟨m2_z, m3_z, m4_z, m5_z, m6_z, m7_z, m8_z⟩, R3, R4, R5, R6, R7, R8, R9, R10⟩⟩ := (⟨A, R⟩ : rp 23 h1624_z h1634_z ∧ rq T S x20_z p20_z 23 h1624_z h1634_z)
                  replace hc_z := rn_put (am_cur_of (i := (91, 3, .putfield 178, (3, 2, 208), 0)) (by decide +kernel)) (by decide +kernel) hc_z
                  replace hc_z := rn_aload_n (am_cur_of (i := (94, 1, .aload_n 1, (0, 0, 0), 0)) (by decide +kernel)) g1_z hc_z
                  replace hc_z := rn_aload_n (am_cur_of (i := (95, 1, .aload_n 0, (0, 0, 0), 0)) (by decide +kernel)) g0_z hc_z
                  replace hc_z := rn_iconst (w := 1) (am_cur_of (i := (96, 1, .iconst 1, (0, 0, 0), 0)) (by decide +kernel)) (by decide) hc_z
                  replace hc_z := rn_bipush (w := 20) (am_cur_of (i := (97, 2, .bipush 20, (0, 0, 0), 0)) (by decide +kernel)) (by decide) hc_z
                  replace hc_z := rn_callV (M' := am_m30) (o := 44) (ar := [.int 20, .int 1]) (rest := [.ref 42]) (L := lv_args 0 [.ref 44, .int 1, .int 20]) (am_cur_of (i := (99, 3, .invokevirtual 142, (30, 773, 3), 0)) (by decide +kernel)) rfl rfl rfl rfl hc_z
                  obtain ⟨r1636_z, h1637_z, q1638_z, hc_z⟩ := hc_z
                  replace hm_z := rn_ifT (am_cur_of (i := (116, 3, .ifCond .ne 5, (69, 0, 0), 0)) (by decide +kernel)) (by decide) hm_z
                  replace hm_z := rn_aload_n (am_cur_of (i := (121, 1, .aload_n 0, (0, 0, 0), 0)) (by decide +kernel)) g0m hm_z
                  replace hm_z := rn_getR (x := 170) (am_cur_of (i := (122, 3, .getfield 30, (12, 25, 1409), 0)) (by decide +kernel)) (by decide +kernel) hm_z
                  replace hm_z := rn_iload_n (am_cur_of (i := (125, 1, .iload_n 1, (0, 0, 0), 0)) (by decide +kernel)) g1m hm_z
                  replace hm_z := rn_iload_n (am_cur_of (i := (126, 1, .iload_n 2, (0, 0, 0), 0)) (by decide +kernel)) g2m hm_z
                  replace hm_z := rn_iadd (w := 43) (am_cur_of (i := (127, 1, .iadd, (0, 0, 0), 0)) (by decide +kernel)) (by decide) hm_z
                  replace hm_z := rn_aload_n (am_cur_of (i := (128, 1, .aload_n 0, (0, 0, 0), 0)) (by decide +kernel)) g0m hm_z
                  replace hm_z := rn_getI (v := v20_z) (am_cur_of (i := (129, 3, .getfield 188, (12, 11, 1395), 0)) (by decide +kernel)) (by decide +kernel) got hm_z
                  replace hm_z := rn_iastore (N := 56) (q := 43) (am_cur_of (i := (132, 1, .iastore, (0, 0, 0), 0)) (by decide +kernel)) (by decide +kernel) rfl hm_z
                  obtain ⟨p1639_z, hm_z⟩ := hm_z
                  replace hm_z := rn_iinc (w := 2) (am_cur_of (i := (133, 3, .iinc 2 1, (0, 0, 0), 0)) (by decide +kernel)) g2m (by decide) hm_z
                  obtain ⟨_, s1640_z, s1641_z, g2m, hm_z⟩ := hm_z
                  replace g0m := s1640_z 0 _ (by decide) rfl g0m
                  replace g1m := s1640_z 1 _ (by decide) rfl g1m
                  replace g3m := s1640_z 3 _ (by decide) rfl g3m
                  replace g4m := s1640_z 4 _ (by decide) rfl g4m
                  clear s1640_z s1641_z
                  replace hm_z := rn_goto (am_cur_of (i := (136, 3, .goto (-87), (29, 0, 0), 0)) (by decide +kernel)) hm_z
                  replace hm_z := rn_iload_n (am_cur_of (i := (49, 1, .iload_n 2, (0, 0, 0), 0)) (by decide +kernel)) g2m hm_z
                  replace hm_z := rn_bipush (w := 7) (am_cur_of (i := (50, 2, .bipush 7, (0, 0, 0), 0)) (by decide +kernel)) (by decide) hm_z
                  replace hm_z := rn_cmpF (am_cur_of (i := (52, 3, .if_icmp .ge 87, (79, 0, 0), 0)) (by decide +kernel)) (by decide) hm_z
                  replace hm_z := rn_iload_n (am_cur_of (i := (55, 1, .iload_n 2, (0, 0, 0), 0)) (by decide +kernel)) g2m hm_z
                  replace hm_z := rn_ifF (am_cur_of (i := (56, 3, .ifCond .eq 13, (40, 0, 0), 0)) (by decide +kernel)) (by decide) hm_z
                  replace hm_z := rn_iload_n (am_cur_of (i := (59, 1, .iload_n 2, (0, 0, 0), 0)) (by decide +kernel)) g2m hm_z
                  replace hm_z := rn_iconst (w := 2) (am_cur_of (i := (60, 1, .iconst 2, (0, 0, 0), 0)) (by decide +kernel)) (by decide) hm_z
                  replace hm_z := rn_cmpT (am_cur_of (i := (61, 3, .if_icmp .eq 8, (40, 0, 0), 0)) (by decide +kernel)) (by decide) hm_z
                  replace hm_z := rn_iconst (w := 1) (am_cur_of (i := (69, 1, .iconst 1, (0, 0, 0), 0)) (by decide +kernel)) (by decide) hm_z
                  replace hm_z := rn_goto (am_cur_of (i := (70, 3, .goto 4, (43, 0, 0), 0)) (by decide +kernel)) hm_z
                  replace hm_z := rn_istore_n (am_cur_of (i := (74, 1, .istore_n 3, (0, 0, 0), 0)) (by decide +kernel)) hm_z
                  obtain ⟨_, s1642_z, s1643_z, g3m, hm_z⟩ := hm_z
                  replace g0m := s1642_z 0 _ (by decide) rfl g0m
                  replace g1m := s1642_z 1 _ (by decide) rfl g1m
                  replace g2m := s1642_z 2 _ (by decide) rfl g2m
                  replace g4m := s1642_z 4 _ (by decide) rfl g4m
                  clear s1642_z s1643_z
                  replace hm_z := rn_iload_n (am_cur_of (i := (75, 1, .iload_n 2, (0, 0, 0), 0)) (by decide +kernel)) g2m hm_z
                  replace hm_z := rn_iconst (w := 1) (am_cur_of (i := (76, 1, .iconst 1, (0, 0, 0), 0)) (by decide +kernel)) (by decide) hm_z
                  replace hm_z := rn_cmpF (am_cur_of (i := (77, 3, .if_icmp .eq 8, (50, 0, 0), 0)) (by decide +kernel)) (by decide) hm_z
                  replace hm_z := rn_iload_n (am_cur_of (i := (80, 1, .iload_n 2, (0, 0, 0), 0)) (by decide +kernel)) g2m hm_z
                  replace hm_z := rn_iconst (w := 2) (am_cur_of (i := (81, 1, .iconst 2, (0, 0, 0), 0)) (by decide +kernel)) (by decide) hm_z
                  replace hm_z := rn_cmpF (am_cur_of (i := (82, 3, .if_icmp .ne 8, (52, 0, 0), 0)) (by decide +kernel)) (by decide) hm_z
                  replace hm_z := rn_bipush (w := 20) (am_cur_of (i := (85, 2, .bipush 20, (0, 0, 0), 0)) (by decide +kernel)) (by decide) hm_z
                  replace hm_z := rn_goto (am_cur_of (i := (87, 3, .goto 20, (61, 0, 0), 0)) (by decide +kernel)) hm_z
                  replace hm_z := rn_istore (am_cur_of (i := (107, 2, .istore 4, (0, 0, 0), 0)) (by decide +kernel)) hm_z
                  obtain ⟨_, s1644_z, s1645_z, g4m, hm_z⟩ := hm_z
                  replace g0m := s1644_z 0 _ (by decide) rfl g0m
                  replace g1m := s1644_z 1 _ (by decide) rfl g1m
                  replace g2m := s1644_z 2 _ (by decide) rfl g2m
                  replace g3m := s1644_z 3 _ (by decide) rfl g3m
                  clear s1644_z s1645_z
                  replace hm_z := rn_aload_n (am_cur_of (i := (109, 1, .aload_n 0, (0, 0, 0), 0)) (by decide +kernel)) g0m hm_z
                  replace hm_z := rn_iload_n (am_cur_of (i := (110, 1, .iload_n 3, (0, 0, 0), 0)) (by decide +kernel)) g3m hm_z
                  replace hm_z := rn_iload (am_cur_of (i := (111, 2, .iload 4, (0, 0, 0), 0)) (by decide +kernel)) g4m hm_z
                  replace hm_z := rn_callV (M' := am_m161) (o := 164) (ar := [.int 20, .int 1]) (rest := []) (L := lv_args 0 [.ref 164, .int 1, .int 20]) (am_cur_of (i := (113, 3, .invokevirtual 197, (161, 1677, 3), 0)) (by decide +kernel)) rfl rfl rfl rfl hm_z
                  obtain ⟨r1646_z, h1647_z, q1648_z, hm_z⟩ := hm_z
                  have R' : rq T S x20_z p20_z 23 (am_up h1624_z 42 2 (.int v20_z)) (am_up h1634_z 170 43 (.int v20_z)) := ⟨⟨c1_z, c2_z, c3_z, c4_z, c5_z, c6_z, fun k hk_z => c7_z k hk_z, fun k hk_z => c8_z k hk_z⟩, ⟨m2_z, m3_z, m4_z, m5_z, m6_z, fun k hk_z => m7_z k hk_z, fun k hk_z => m8_z k hk_z⟩, R3, R4, R5, R6, R7, R8, R9, R10⟩
                  have A' : rp 23 (am_up h1624_z 42 2 (.int v20_z)) (am_up h1634_z 170 43 (.int v20_z)) := ⟨⟨a1_z, a2_z, a3_z, a4_z, a5_z, a6_z⟩, ⟨nb1_z, nb2_z, nb3_z⟩, ⟨nt1_z, nt2_z, nt3_z⟩, ⟨nl1_z, nl2_z, nl3_z⟩, ⟨nr1_z, nr2_z, nr3_z⟩, ⟨nk1_z, nk2_z, nk3_z⟩, ⟨(fun hb_z k hk_z => by match k, hk_z with | 0, _ => exact AC0 hb_z 0 (by decide) | 1, _ => exact AC0 hb_z 1 (by decide) | 2, _ => exact AC0 hb_z 2 (by decide) | 3, _ => exact AC0 hb_z 3 (by decide) | 4, _ => exact AC0 hb_z 4 (by decide) | 5, _ => exact AC0 hb_z 5 (by decide) | 6, _ => exact AC0 hb_z 6 (by decide) | 7, _ => exact AC0 hb_z 7 (by decide)), (fun hb_z k hk_z => by match k, hk_z with | 0, _ => exact AC1 hb_z 0 (by decide) | 1, _ => exact AC1 hb_z 1 (by decide) | 2, _ => exact AC1 hb_z 2 (by decide) | 3, _ => exact AC1 hb_z 3 (by decide) | 4, _ => exact AC1 hb_z 4 (by decide) | 5, _ => exact AC1 hb_z 5 (by decide) | 6, _ => exact AC1 hb_z 6 (by decide) | 7, _ => exact AC1 hb_z 7 (by decide)), fun hb_z => absurd hb_z (by rw [show rg_v (am_up h1624_z 42 2 (.int v20_z)) 23 2 = 2 from ecb]; decide), fun hb_z => absurd hb_z (by rw [show rg_v (am_up h1624_z 42 2 (.int v20_z)) 23 2 = 2 from ecb]; decide)⟩, fun t ht => AD t ht, fun t ht => AE t ht, fun t ht => AG t ht⟩
                  have B' : rp_t (am_up h1624_z 42 2 (.int v20_z)) (am_up h1634_z 170 43 (.int v20_z)) := by
                    obtain ⟨b0_z, b1_z, b2_z, b3_z, b4_z, b5_z, b6_z, t, o0_z, o1_z, o2_z, o3_z, o4_z, o5_z, o6_z⟩ := B
                    exact ⟨b0_z, b1_z, b2_z, b3_z, b4_z, b5_z, b6_z, t, o0_z, o1_z, o2_z, o3_z, o4_z, o5_z, o6_z⟩
                  rcases pr_num R' (by decide) (by decide) q1638_z q1648_z with ⟨v21_z, x21_z, p21_z, rfl, rfl, lo21_z, hi21_z, R, le21_z, got, X, Y, t7_z, t167_z⟩ | ⟨rfl, F⟩
                  · replace A := rp_x (by decide) A' X Y
                    replace B := rp_tk B' t7_z t167_z Y
                    clear A' B' R'
                    replace le21_z : x.toInt ≤ p21_z.toInt := Int.le_trans (Int.le_trans le20_z R8) le21_z
                    replace ecb : rg_v h1637_z 23 2 = 2 := (rx_v X (o := 23) (k := 2) (by decide)).trans ecb
                    replace ect : rg_v h1637_z 23 4 = ct := (rx_v X (o := 23) (k := 4) (by decide)).trans ect
                    replace ecl : rg_v h1637_z 23 9 = cl := (rx_v X (o := 23) (k := 9) (by decide)).trans ecl
                    replace ecr : rg_v h1637_z 23 12 = cr := (rx_v X (o := 23) (k := 12) (by decide)).trans ecr
                    replace E0 : rg_v h1637_z 42 0 = rg_v h1647_z 169 6 := (rx_v X (o := 42) (k := 0) (by decide)).trans (E0.trans (rx_w Y (o := 169) (k := 6) (by omega) (by decide)).symm)
                    replace E1 : rg_v h1637_z 42 1 = rg_v h1647_z 170 42 := (rx_v X (o := 42) (k := 1) (by decide)).trans (E1.trans (rx_w Y (o := 170) (k := 42) (by omega) (by decide)).symm)
                    have E2 : rg_v h1637_z 42 2 = rg_v h1647_z 170 43 := (rx_v X (o := 42) (k := 2) (by decide)).trans (Eq.trans (rfl) (rx_w Y (o := 170) (k := 43) (by omega) (by decide)).symm)
                    replace hm_z : rn _ _ _ _ [.int 1] _ _ _ := hm_z
                    replace hc_z : rn _ _ _ _ [.int v21_z, .ref 42] _ _ _ := hc_z
                    clear a1_z a2_z a3_z a4_z a5_z a6_z nb1_z nb2_z nb3_z nt1_z nt2_z nt3_z nl1_z nl2_z nl3_z nr1_z nr2_z nr3_z nk1_z nk2_z nk3_z AC0 AC1 AC2 AC3 AD AE AG c1_z c2_z c3_z c4_z c5_z c6_z c7_z c8_z m2_z m3_z m4_z m5_z m6_z m7_z m8_z R3 R4 R5 R6 R7 R8 R9 R10
                    obtain ⟨⟨⟨a1_z, a2_z, a3_z, a4_z, a5_z, a6_z⟩, ⟨nb1_z, nb2_z, nb3_z⟩, ⟨nt1_z, nt2_z, nt3_z⟩, ⟨nl1_z, nl2_z, nl3_z⟩, ⟨nr1_z, nr2_z, nr3_z⟩, ⟨nk1_z, nk2_z, nk3_z⟩, ⟨AC0, AC1, AC2, AC3⟩, AD, AE, AG⟩, ⟨⟨c1_z, c2_z, c3_z, c4_z, c5_z, c6_z, c7_z, c8_z⟩, ⟨m2_z, m3_z, m4_z, m5_z, m6_z, m7_z, m8_z⟩, R3, R4, R5, R6, R7, R8, R9, R10⟩⟩ := (⟨A, R⟩ : rp 23 h1637_z h1647_z ∧ rq T S x21_z p21_z 23 h1637_z h1647_z)
                    replace hc_z := rn_put (am_cur_of (i := (102, 3, .putfield 181, (3, 3, 211), 0)) (by decide +kernel)) (by decide +kernel) hc_z
                    replace hc_z := rn_aload_n (am_cur_of (i := (105, 1, .aload_n 1, (0, 0, 0), 0)) (by decide +kernel)) g1_z hc_z
                    replace hc_z := rn_aload_n (am_cur_of (i := (106, 1, .aload_n 0, (0, 0, 0), 0)) (by decide +kernel)) g0_z hc_z
                    replace hc_z := rn_iconst (w := 1) (am_cur_of (i := (107, 1, .iconst 1, (0, 0, 0), 0)) (by decide +kernel)) (by decide) hc_z
                    replace hc_z := rn_bipush (w := 9) (am_cur_of (i := (108, 2, .bipush 9, (0, 0, 0), 0)) (by decide +kernel)) (by decide) hc_z
                    replace hc_z := rn_callV (M' := am_m30) (o := 44) (ar := [.int 9, .int 1]) (rest := [.ref 42]) (L := lv_args 0 [.ref 44, .int 1, .int 9]) (am_cur_of (i := (110, 3, .invokevirtual 142, (30, 773, 3), 0)) (by decide +kernel)) rfl rfl rfl rfl hc_z
                    obtain ⟨r1649_z, h1650_z, q1651_z, hc_z⟩ := hc_z
                    replace hm_z := rn_ifT (am_cur_of (i := (116, 3, .ifCond .ne 5, (69, 0, 0), 0)) (by decide +kernel)) (by decide) hm_z
                    replace hm_z := rn_aload_n (am_cur_of (i := (121, 1, .aload_n 0, (0, 0, 0), 0)) (by decide +kernel)) g0m hm_z
                    replace hm_z := rn_getR (x := 170) (am_cur_of (i := (122, 3, .getfield 30, (12, 25, 1409), 0)) (by decide +kernel)) (by decide +kernel) hm_z
                    replace hm_z := rn_iload_n (am_cur_of (i := (125, 1, .iload_n 1, (0, 0, 0), 0)) (by decide +kernel)) g1m hm_z
                    replace hm_z := rn_iload_n (am_cur_of (i := (126, 1, .iload_n 2, (0, 0, 0), 0)) (by decide +kernel)) g2m hm_z
                    replace hm_z := rn_iadd (w := 44) (am_cur_of (i := (127, 1, .iadd, (0, 0, 0), 0)) (by decide +kernel)) (by decide) hm_z
                    replace hm_z := rn_aload_n (am_cur_of (i := (128, 1, .aload_n 0, (0, 0, 0), 0)) (by decide +kernel)) g0m hm_z
                    replace hm_z := rn_getI (v := v21_z) (am_cur_of (i := (129, 3, .getfield 188, (12, 11, 1395), 0)) (by decide +kernel)) (by decide +kernel) got hm_z
                    replace hm_z := rn_iastore (N := 56) (q := 44) (am_cur_of (i := (132, 1, .iastore, (0, 0, 0), 0)) (by decide +kernel)) (by decide +kernel) rfl hm_z
                    obtain ⟨p1652_z, hm_z⟩ := hm_z
                    replace hm_z := rn_iinc (w := 3) (am_cur_of (i := (133, 3, .iinc 2 1, (0, 0, 0), 0)) (by decide +kernel)) g2m (by decide) hm_z
                    obtain ⟨_, s1653_z, s1654_z, g2m, hm_z⟩ := hm_z
                    replace g0m := s1653_z 0 _ (by decide) rfl g0m
                    replace g1m := s1653_z 1 _ (by decide) rfl g1m
                    replace g3m := s1653_z 3 _ (by decide) rfl g3m
                    replace g4m := s1653_z 4 _ (by decide) rfl g4m
                    clear s1653_z s1654_z
                    replace hm_z := rn_goto (am_cur_of (i := (136, 3, .goto (-87), (29, 0, 0), 0)) (by decide +kernel)) hm_z
                    replace hm_z := rn_iload_n (am_cur_of (i := (49, 1, .iload_n 2, (0, 0, 0), 0)) (by decide +kernel)) g2m hm_z
                    replace hm_z := rn_bipush (w := 7) (am_cur_of (i := (50, 2, .bipush 7, (0, 0, 0), 0)) (by decide +kernel)) (by decide) hm_z
                    replace hm_z := rn_cmpF (am_cur_of (i := (52, 3, .if_icmp .ge 87, (79, 0, 0), 0)) (by decide +kernel)) (by decide) hm_z
                    replace hm_z := rn_iload_n (am_cur_of (i := (55, 1, .iload_n 2, (0, 0, 0), 0)) (by decide +kernel)) g2m hm_z
                    replace hm_z := rn_ifF (am_cur_of (i := (56, 3, .ifCond .eq 13, (40, 0, 0), 0)) (by decide +kernel)) (by decide) hm_z
                    replace hm_z := rn_iload_n (am_cur_of (i := (59, 1, .iload_n 2, (0, 0, 0), 0)) (by decide +kernel)) g2m hm_z
                    replace hm_z := rn_iconst (w := 2) (am_cur_of (i := (60, 1, .iconst 2, (0, 0, 0), 0)) (by decide +kernel)) (by decide) hm_z
                    replace hm_z := rn_cmpF (am_cur_of (i := (61, 3, .if_icmp .eq 8, (40, 0, 0), 0)) (by decide +kernel)) (by decide) hm_z
                    replace hm_z := rn_iload_n (am_cur_of (i := (64, 1, .iload_n 2, (0, 0, 0), 0)) (by decide +kernel)) g2m hm_z
                    replace hm_z := rn_iconst (w := 3) (am_cur_of (i := (65, 1, .iconst 3, (0, 0, 0), 0)) (by decide +kernel)) (by decide) hm_z
                    replace hm_z := rn_cmpF (am_cur_of (i := (66, 3, .if_icmp .ne 7, (42, 0, 0), 0)) (by decide +kernel)) (by decide) hm_z
                    replace hm_z := rn_iconst (w := 1) (am_cur_of (i := (69, 1, .iconst 1, (0, 0, 0), 0)) (by decide +kernel)) (by decide) hm_z
                    replace hm_z := rn_goto (am_cur_of (i := (70, 3, .goto 4, (43, 0, 0), 0)) (by decide +kernel)) hm_z
                    replace hm_z := rn_istore_n (am_cur_of (i := (74, 1, .istore_n 3, (0, 0, 0), 0)) (by decide +kernel)) hm_z
                    obtain ⟨_, s1655_z, s1656_z, g3m, hm_z⟩ := hm_z
                    replace g0m := s1655_z 0 _ (by decide) rfl g0m
                    replace g1m := s1655_z 1 _ (by decide) rfl g1m
                    replace g2m := s1655_z 2 _ (by decide) rfl g2m
                    replace g4m := s1655_z 4 _ (by decide) rfl g4m
                    clear s1655_z s1656_z
                    replace hm_z := rn_iload_n (am_cur_of (i := (75, 1, .iload_n 2, (0, 0, 0), 0)) (by decide +kernel)) g2m hm_z
                    replace hm_z := rn_iconst (w := 1) (am_cur_of (i := (76, 1, .iconst 1, (0, 0, 0), 0)) (by decide +kernel)) (by decide) hm_z
                    replace hm_z := rn_cmpF (am_cur_of (i := (77, 3, .if_icmp .eq 8, (50, 0, 0), 0)) (by decide +kernel)) (by decide) hm_z
                    replace hm_z := rn_iload_n (am_cur_of (i := (80, 1, .iload_n 2, (0, 0, 0), 0)) (by decide +kernel)) g2m hm_z
                    replace hm_z := rn_iconst (w := 2) (am_cur_of (i := (81, 1, .iconst 2, (0, 0, 0), 0)) (by decide +kernel)) (by decide) hm_z
                    replace hm_z := rn_cmpT (am_cur_of (i := (82, 3, .if_icmp .ne 8, (52, 0, 0), 0)) (by decide +kernel)) (by decide) hm_z
                    replace hm_z := rn_iload_n (am_cur_of (i := (90, 1, .iload_n 2, (0, 0, 0), 0)) (by decide +kernel)) g2m hm_z
                    replace hm_z := rn_iconst (w := 3) (am_cur_of (i := (91, 1, .iconst 3, (0, 0, 0), 0)) (by decide +kernel)) (by decide) hm_z
                    replace hm_z := rn_cmpT (am_cur_of (i := (92, 3, .if_icmp .eq 8, (58, 0, 0), 0)) (by decide +kernel)) (by decide) hm_z
                    replace hm_z := rn_bipush (w := 9) (am_cur_of (i := (100, 2, .bipush 9, (0, 0, 0), 0)) (by decide +kernel)) (by decide) hm_z
                    replace hm_z := rn_goto (am_cur_of (i := (102, 3, .goto 5, (61, 0, 0), 0)) (by decide +kernel)) hm_z
                    replace hm_z := rn_istore (am_cur_of (i := (107, 2, .istore 4, (0, 0, 0), 0)) (by decide +kernel)) hm_z
                    obtain ⟨_, s1657_z, s1658_z, g4m, hm_z⟩ := hm_z
                    replace g0m := s1657_z 0 _ (by decide) rfl g0m
                    replace g1m := s1657_z 1 _ (by decide) rfl g1m
                    replace g2m := s1657_z 2 _ (by decide) rfl g2m
                    replace g3m := s1657_z 3 _ (by decide) rfl g3m
                    clear s1657_z s1658_z
                    replace hm_z := rn_aload_n (am_cur_of (i := (109, 1, .aload_n 0, (0, 0, 0), 0)) (by decide +kernel)) g0m hm_z
                    replace hm_z := rn_iload_n (am_cur_of (i := (110, 1, .iload_n 3, (0, 0, 0), 0)) (by decide +kernel)) g3m hm_z
                    replace hm_z := rn_iload (am_cur_of (i := (111, 2, .iload 4, (0, 0, 0), 0)) (by decide +kernel)) g4m hm_z
                    replace hm_z := rn_callV (M' := am_m161) (o := 164) (ar := [.int 9, .int 1]) (rest := []) (L := lv_args 0 [.ref 164, .int 1, .int 9]) (am_cur_of (i := (113, 3, .invokevirtual 197, (161, 1677, 3), 0)) (by decide +kernel)) rfl rfl rfl rfl hm_z
                    obtain ⟨r1659_z, h1660_z, q1661_z, hm_z⟩ := hm_z
                    have R' : rq T S x21_z p21_z 23 (am_up h1637_z 42 3 (.int v21_z)) (am_up h1647_z 170 44 (.int v21_z)) := ⟨⟨c1_z, c2_z, c3_z, c4_z, c5_z, c6_z, fun k hk_z => c7_z k hk_z, fun k hk_z => c8_z k hk_z⟩, ⟨m2_z, m3_z, m4_z, m5_z, m6_z, fun k hk_z => m7_z k hk_z, fun k hk_z => m8_z k hk_z⟩, R3, R4, R5, R6, R7, R8, R9, R10⟩
                    have A' : rp 23 (am_up h1637_z 42 3 (.int v21_z)) (am_up h1647_z 170 44 (.int v21_z)) := ⟨⟨a1_z, a2_z, a3_z, a4_z, a5_z, a6_z⟩, ⟨nb1_z, nb2_z, nb3_z⟩, ⟨nt1_z, nt2_z, nt3_z⟩, ⟨nl1_z, nl2_z, nl3_z⟩, ⟨nr1_z, nr2_z, nr3_z⟩, ⟨nk1_z, nk2_z, nk3_z⟩, ⟨(fun hb_z k hk_z => by match k, hk_z with | 0, _ => exact AC0 hb_z 0 (by decide) | 1, _ => exact AC0 hb_z 1 (by decide) | 2, _ => exact AC0 hb_z 2 (by decide) | 3, _ => exact AC0 hb_z 3 (by decide) | 4, _ => exact AC0 hb_z 4 (by decide) | 5, _ => exact AC0 hb_z 5 (by decide) | 6, _ => exact AC0 hb_z 6 (by decide) | 7, _ => exact AC0 hb_z 7 (by decide)), (fun hb_z k hk_z => by match k, hk_z with | 0, _ => exact AC1 hb_z 0 (by decide) | 1, _ => exact AC1 hb_z 1 (by decide) | 2, _ => exact AC1 hb_z 2 (by decide) | 3, _ => exact AC1 hb_z 3 (by decide) | 4, _ => exact AC1 hb_z 4 (by decide) | 5, _ => exact AC1 hb_z 5 (by decide) | 6, _ => exact AC1 hb_z 6 (by decide) | 7, _ => exact AC1 hb_z 7 (by decide)), fun hb_z => absurd hb_z (by rw [show rg_v (am_up h1637_z 42 3 (.int v21_z)) 23 2 = 2 from ecb]; decide), fun hb_z => absurd hb_z (by rw [show rg_v (am_up h1637_z 42 3 (.int v21_z)) 23 2 = 2 from ecb]; decide)⟩, fun t ht => AD t ht, fun t ht => AE t ht, fun t ht => AG t ht⟩
                    have B' : rp_t (am_up h1637_z 42 3 (.int v21_z)) (am_up h1647_z 170 44 (.int v21_z)) := by
                      obtain ⟨b0_z, b1_z, b2_z, b3_z, b4_z, b5_z, b6_z, t, o0_z, o1_z, o2_z, o3_z, o4_z, o5_z, o6_z⟩ := B
                      exact ⟨b0_z, b1_z, b2_z, b3_z, b4_z, b5_z, b6_z, t, o0_z, o1_z, o2_z, o3_z, o4_z, o5_z, o6_z⟩
                    rcases pr_num R' (by decide) (by decide) q1651_z q1661_z with ⟨v22_z, x22_z, p22_z, rfl, rfl, lo22_z, hi22_z, R, le22_z, got, X, Y, t7_z, t167_z⟩ | ⟨rfl, F⟩
                    · replace A := rp_x (by decide) A' X Y
                      replace B := rp_tk B' t7_z t167_z Y
                      clear A' B' R'
                      replace le22_z : x.toInt ≤ p22_z.toInt := Int.le_trans (Int.le_trans le21_z R8) le22_z
                      replace ecb : rg_v h1650_z 23 2 = 2 := (rx_v X (o := 23) (k := 2) (by decide)).trans ecb
                      replace ect : rg_v h1650_z 23 4 = ct := (rx_v X (o := 23) (k := 4) (by decide)).trans ect
                      replace ecl : rg_v h1650_z 23 9 = cl := (rx_v X (o := 23) (k := 9) (by decide)).trans ecl
                      replace ecr : rg_v h1650_z 23 12 = cr := (rx_v X (o := 23) (k := 12) (by decide)).trans ecr
                      replace E0 : rg_v h1650_z 42 0 = rg_v h1660_z 169 6 := (rx_v X (o := 42) (k := 0) (by decide)).trans (E0.trans (rx_w Y (o := 169) (k := 6) (by omega) (by decide)).symm)
                      replace E1 : rg_v h1650_z 42 1 = rg_v h1660_z 170 42 := (rx_v X (o := 42) (k := 1) (by decide)).trans (E1.trans (rx_w Y (o := 170) (k := 42) (by omega) (by decide)).symm)
                      replace E2 : rg_v h1650_z 42 2 = rg_v h1660_z 170 43 := (rx_v X (o := 42) (k := 2) (by decide)).trans (E2.trans (rx_w Y (o := 170) (k := 43) (by omega) (by decide)).symm)
                      have E3 : rg_v h1650_z 42 3 = rg_v h1660_z 170 44 := (rx_v X (o := 42) (k := 3) (by decide)).trans (Eq.trans (rfl) (rx_w Y (o := 170) (k := 44) (by omega) (by decide)).symm)
                      replace hm_z : rn _ _ _ _ [.int 1] _ _ _ := hm_z
                      replace hc_z : rn _ _ _ _ [.int v22_z, .ref 42] _ _ _ := hc_z
                      clear a1_z a2_z a3_z a4_z a5_z a6_z nb1_z nb2_z nb3_z nt1_z nt2_z nt3_z nl1_z nl2_z nl3_z nr1_z nr2_z nr3_z nk1_z nk2_z nk3_z AC0 AC1 AC2 AC3 AD AE AG c1_z c2_z c3_z c4_z c5_z c6_z c7_z c8_z m2_z m3_z m4_z m5_z m6_z m7_z m8_z R3 R4 R5 R6 R7 R8 R9 R10
                      obtain ⟨⟨⟨a1_z, a2_z, a3_z, a4_z, a5_z, a6_z⟩, ⟨nb1_z, nb2_z, nb3_z⟩, ⟨nt1_z, nt2_z, nt3_z⟩, ⟨nl1_z, nl2_z, nl3_z⟩, ⟨nr1_z, nr2_z, nr3_z⟩, ⟨nk1_z, nk2_z, nk3_z⟩, ⟨AC0, AC1, AC2, AC3⟩, AD, AE, AG⟩, ⟨⟨c1_z, c2_z, c3_z, c4_z, c5_z, c6_z, c7_z, c8_z⟩, ⟨m2_z, m3_z, m4_z, m5_z, m6_z, m7_z, m8_z⟩, R3, R4, R5, R6, R7, R8, R9, R10⟩⟩ := (⟨A, R⟩ : rp 23 h1650_z h1660_z ∧ rq T S x22_z p22_z 23 h1650_z h1660_z)
                      replace hc_z := rn_put (am_cur_of (i := (113, 3, .putfield 184, (3, 4, 216), 0)) (by decide +kernel)) (by decide +kernel) hc_z
                      replace hc_z := rn_aload_n (am_cur_of (i := (116, 1, .aload_n 1, (0, 0, 0), 0)) (by decide +kernel)) g1_z hc_z
                      replace hc_z := rn_aload_n (am_cur_of (i := (117, 1, .aload_n 0, (0, 0, 0), 0)) (by decide +kernel)) g0_z hc_z
                      replace hc_z := rn_iconst (w := 0) (am_cur_of (i := (118, 1, .iconst 0, (0, 0, 0), 0)) (by decide +kernel)) (by decide) hc_z
                      replace hc_z := rn_bipush (w := 99) (am_cur_of (i := (119, 2, .bipush 99, (0, 0, 0), 0)) (by decide +kernel)) (by decide) hc_z
                      replace hc_z := rn_callV (M' := am_m30) (o := 44) (ar := [.int 99, .int 0]) (rest := [.ref 42]) (L := lv_args 0 [.ref 44, .int 0, .int 99]) (am_cur_of (i := (121, 3, .invokevirtual 142, (30, 773, 3), 0)) (by decide +kernel)) rfl rfl rfl rfl hc_z
                      obtain ⟨r1662_z, h1663_z, q1664_z, hc_z⟩ := hc_z
                      replace hm_z := rn_ifT (am_cur_of (i := (116, 3, .ifCond .ne 5, (69, 0, 0), 0)) (by decide +kernel)) (by decide) hm_z
                      replace hm_z := rn_aload_n (am_cur_of (i := (121, 1, .aload_n 0, (0, 0, 0), 0)) (by decide +kernel)) g0m hm_z
                      replace hm_z := rn_getR (x := 170) (am_cur_of (i := (122, 3, .getfield 30, (12, 25, 1409), 0)) (by decide +kernel)) (by decide +kernel) hm_z
                      replace hm_z := rn_iload_n (am_cur_of (i := (125, 1, .iload_n 1, (0, 0, 0), 0)) (by decide +kernel)) g1m hm_z
                      replace hm_z := rn_iload_n (am_cur_of (i := (126, 1, .iload_n 2, (0, 0, 0), 0)) (by decide +kernel)) g2m hm_z
                      replace hm_z := rn_iadd (w := 45) (am_cur_of (i := (127, 1, .iadd, (0, 0, 0), 0)) (by decide +kernel)) (by decide) hm_z
                      replace hm_z := rn_aload_n (am_cur_of (i := (128, 1, .aload_n 0, (0, 0, 0), 0)) (by decide +kernel)) g0m hm_z
                      replace hm_z := rn_getI (v := v22_z) (am_cur_of (i := (129, 3, .getfield 188, (12, 11, 1395), 0)) (by decide +kernel)) (by decide +kernel) got hm_z
                      replace hm_z := rn_iastore (N := 56) (q := 45) (am_cur_of (i := (132, 1, .iastore, (0, 0, 0), 0)) (by decide +kernel)) (by decide +kernel) rfl hm_z
                      obtain ⟨p1665_z, hm_z⟩ := hm_z
                      replace hm_z := rn_iinc (w := 4) (am_cur_of (i := (133, 3, .iinc 2 1, (0, 0, 0), 0)) (by decide +kernel)) g2m (by decide) hm_z
                      obtain ⟨_, s1666_z, s1667_z, g2m, hm_z⟩ := hm_z
                      replace g0m := s1666_z 0 _ (by decide) rfl g0m
                      replace g1m := s1666_z 1 _ (by decide) rfl g1m
                      replace g3m := s1666_z 3 _ (by decide) rfl g3m
                      replace g4m := s1666_z 4 _ (by decide) rfl g4m
                      clear s1666_z s1667_z
                      replace hm_z := rn_goto (am_cur_of (i := (136, 3, .goto (-87), (29, 0, 0), 0)) (by decide +kernel)) hm_z
                      replace hm_z := rn_iload_n (am_cur_of (i := (49, 1, .iload_n 2, (0, 0, 0), 0)) (by decide +kernel)) g2m hm_z
                      replace hm_z := rn_bipush (w := 7) (am_cur_of (i := (50, 2, .bipush 7, (0, 0, 0), 0)) (by decide +kernel)) (by decide) hm_z
                      replace hm_z := rn_cmpF (am_cur_of (i := (52, 3, .if_icmp .ge 87, (79, 0, 0), 0)) (by decide +kernel)) (by decide) hm_z
                      replace hm_z := rn_iload_n (am_cur_of (i := (55, 1, .iload_n 2, (0, 0, 0), 0)) (by decide +kernel)) g2m hm_z
                      replace hm_z := rn_ifF (am_cur_of (i := (56, 3, .ifCond .eq 13, (40, 0, 0), 0)) (by decide +kernel)) (by decide) hm_z
                      replace hm_z := rn_iload_n (am_cur_of (i := (59, 1, .iload_n 2, (0, 0, 0), 0)) (by decide +kernel)) g2m hm_z
                      replace hm_z := rn_iconst (w := 2) (am_cur_of (i := (60, 1, .iconst 2, (0, 0, 0), 0)) (by decide +kernel)) (by decide) hm_z
                      replace hm_z := rn_cmpF (am_cur_of (i := (61, 3, .if_icmp .eq 8, (40, 0, 0), 0)) (by decide +kernel)) (by decide) hm_z
                      replace hm_z := rn_iload_n (am_cur_of (i := (64, 1, .iload_n 2, (0, 0, 0), 0)) (by decide +kernel)) g2m hm_z
                      replace hm_z := rn_iconst (w := 3) (am_cur_of (i := (65, 1, .iconst 3, (0, 0, 0), 0)) (by decide +kernel)) (by decide) hm_z
                      replace hm_z := rn_cmpT (am_cur_of (i := (66, 3, .if_icmp .ne 7, (42, 0, 0), 0)) (by decide +kernel)) (by decide) hm_z
                      replace hm_z := rn_iconst (w := 0) (am_cur_of (i := (73, 1, .iconst 0, (0, 0, 0), 0)) (by decide +kernel)) (by decide) hm_z
                      replace hm_z := rn_istore_n (am_cur_of (i := (74, 1, .istore_n 3, (0, 0, 0), 0)) (by decide +kernel)) hm_z
                      obtain ⟨_, s1668_z, s1669_z, g3m, hm_z⟩ := hm_z
                      replace g0m := s1668_z 0 _ (by decide) rfl g0m
                      replace g1m := s1668_z 1 _ (by decide) rfl g1m
                      replace g2m := s1668_z 2 _ (by decide) rfl g2m
                      replace g4m := s1668_z 4 _ (by decide) rfl g4m
                      clear s1668_z s1669_z
                      replace hm_z := rn_iload_n (am_cur_of (i := (75, 1, .iload_n 2, (0, 0, 0), 0)) (by decide +kernel)) g2m hm_z
                      replace hm_z := rn_iconst (w := 1) (am_cur_of (i := (76, 1, .iconst 1, (0, 0, 0), 0)) (by decide +kernel)) (by decide) hm_z
                      replace hm_z := rn_cmpF (am_cur_of (i := (77, 3, .if_icmp .eq 8, (50, 0, 0), 0)) (by decide +kernel)) (by decide) hm_z
                      replace hm_z := rn_iload_n (am_cur_of (i := (80, 1, .iload_n 2, (0, 0, 0), 0)) (by decide +kernel)) g2m hm_z
                      replace hm_z := rn_iconst (w := 2) (am_cur_of (i := (81, 1, .iconst 2, (0, 0, 0), 0)) (by decide +kernel)) (by decide) hm_z
                      replace hm_z := rn_cmpT (am_cur_of (i := (82, 3, .if_icmp .ne 8, (52, 0, 0), 0)) (by decide +kernel)) (by decide) hm_z
                      replace hm_z := rn_iload_n (am_cur_of (i := (90, 1, .iload_n 2, (0, 0, 0), 0)) (by decide +kernel)) g2m hm_z
                      replace hm_z := rn_iconst (w := 3) (am_cur_of (i := (91, 1, .iconst 3, (0, 0, 0), 0)) (by decide +kernel)) (by decide) hm_z
                      replace hm_z := rn_cmpF (am_cur_of (i := (92, 3, .if_icmp .eq 8, (58, 0, 0), 0)) (by decide +kernel)) (by decide) hm_z
                      replace hm_z := rn_iload_n (am_cur_of (i := (95, 1, .iload_n 2, (0, 0, 0), 0)) (by decide +kernel)) g2m hm_z
                      replace hm_z := rn_iconst (w := 5) (am_cur_of (i := (96, 1, .iconst 5, (0, 0, 0), 0)) (by decide +kernel)) (by decide) hm_z
                      replace hm_z := rn_cmpT (am_cur_of (i := (97, 3, .if_icmp .ne 8, (60, 0, 0), 0)) (by decide +kernel)) (by decide) hm_z
                      replace hm_z := rn_bipush (w := 99) (am_cur_of (i := (105, 2, .bipush 99, (0, 0, 0), 0)) (by decide +kernel)) (by decide) hm_z
                      replace hm_z := rn_istore (am_cur_of (i := (107, 2, .istore 4, (0, 0, 0), 0)) (by decide +kernel)) hm_z
                      obtain ⟨_, s1670_z, s1671_z, g4m, hm_z⟩ := hm_z
                      replace g0m := s1670_z 0 _ (by decide) rfl g0m
                      replace g1m := s1670_z 1 _ (by decide) rfl g1m
                      replace g2m := s1670_z 2 _ (by decide) rfl g2m
                      replace g3m := s1670_z 3 _ (by decide) rfl g3m
                      clear s1670_z s1671_z
                      replace hm_z := rn_aload_n (am_cur_of (i := (109, 1, .aload_n 0, (0, 0, 0), 0)) (by decide +kernel)) g0m hm_z
                      replace hm_z := rn_iload_n (am_cur_of (i := (110, 1, .iload_n 3, (0, 0, 0), 0)) (by decide +kernel)) g3m hm_z
                      replace hm_z := rn_iload (am_cur_of (i := (111, 2, .iload 4, (0, 0, 0), 0)) (by decide +kernel)) g4m hm_z
                      replace hm_z := rn_callV (M' := am_m161) (o := 164) (ar := [.int 99, .int 0]) (rest := []) (L := lv_args 0 [.ref 164, .int 0, .int 99]) (am_cur_of (i := (113, 3, .invokevirtual 197, (161, 1677, 3), 0)) (by decide +kernel)) rfl rfl rfl rfl hm_z
                      obtain ⟨r1672_z, h1673_z, q1674_z, hm_z⟩ := hm_z
                      have R' : rq T S x22_z p22_z 23 (am_up h1650_z 42 4 (.int v22_z)) (am_up h1660_z 170 45 (.int v22_z)) := ⟨⟨c1_z, c2_z, c3_z, c4_z, c5_z, c6_z, fun k hk_z => c7_z k hk_z, fun k hk_z => c8_z k hk_z⟩, ⟨m2_z, m3_z, m4_z, m5_z, m6_z, fun k hk_z => m7_z k hk_z, fun k hk_z => m8_z k hk_z⟩, R3, R4, R5, R6, R7, R8, R9, R10⟩
                      have A' : rp 23 (am_up h1650_z 42 4 (.int v22_z)) (am_up h1660_z 170 45 (.int v22_z)) := ⟨⟨a1_z, a2_z, a3_z, a4_z, a5_z, a6_z⟩, ⟨nb1_z, nb2_z, nb3_z⟩, ⟨nt1_z, nt2_z, nt3_z⟩, ⟨nl1_z, nl2_z, nl3_z⟩, ⟨nr1_z, nr2_z, nr3_z⟩, ⟨nk1_z, nk2_z, nk3_z⟩, ⟨(fun hb_z k hk_z => by match k, hk_z with | 0, _ => exact AC0 hb_z 0 (by decide) | 1, _ => exact AC0 hb_z 1 (by decide) | 2, _ => exact AC0 hb_z 2 (by decide) | 3, _ => exact AC0 hb_z 3 (by decide) | 4, _ => exact AC0 hb_z 4 (by decide) | 5, _ => exact AC0 hb_z 5 (by decide) | 6, _ => exact AC0 hb_z 6 (by decide) | 7, _ => exact AC0 hb_z 7 (by decide)), (fun hb_z k hk_z => by match k, hk_z with | 0, _ => exact AC1 hb_z 0 (by decide) | 1, _ => exact AC1 hb_z 1 (by decide) | 2, _ => exact AC1 hb_z 2 (by decide) | 3, _ => exact AC1 hb_z 3 (by decide) | 4, _ => exact AC1 hb_z 4 (by decide) | 5, _ => exact AC1 hb_z 5 (by decide) | 6, _ => exact AC1 hb_z 6 (by decide) | 7, _ => exact AC1 hb_z 7 (by decide)), fun hb_z => absurd hb_z (by rw [show rg_v (am_up h1650_z 42 4 (.int v22_z)) 23 2 = 2 from ecb]; decide), fun hb_z => absurd hb_z (by rw [show rg_v (am_up h1650_z 42 4 (.int v22_z)) 23 2 = 2 from ecb]; decide)⟩, fun t ht => AD t ht, fun t ht => AE t ht, fun t ht => AG t ht⟩
                      have B' : rp_t (am_up h1650_z 42 4 (.int v22_z)) (am_up h1660_z 170 45 (.int v22_z)) := by
                        obtain ⟨b0_z, b1_z, b2_z, b3_z, b4_z, b5_z, b6_z, t, o0_z, o1_z, o2_z, o3_z, o4_z, o5_z, o6_z⟩ := B
                        exact ⟨b0_z, b1_z, b2_z, b3_z, b4_z, b5_z, b6_z, t, o0_z, o1_z, o2_z, o3_z, o4_z, o5_z, o6_z⟩
                      rcases pr_num R' (by decide) (by decide) q1664_z q1674_z with ⟨v23_z, x23_z, p23_z, rfl, rfl, lo23_z, hi23_z, R, le23_z, got, X, Y, t7_z, t167_z⟩ | ⟨rfl, F⟩
                      · replace A := rp_x (by decide) A' X Y
                        replace B := rp_tk B' t7_z t167_z Y
                        clear A' B' R'
                        replace le23_z : x.toInt ≤ p23_z.toInt := Int.le_trans (Int.le_trans le22_z R8) le23_z
                        replace ecb : rg_v h1663_z 23 2 = 2 := (rx_v X (o := 23) (k := 2) (by decide)).trans ecb
                        replace ect : rg_v h1663_z 23 4 = ct := (rx_v X (o := 23) (k := 4) (by decide)).trans ect
                        replace ecl : rg_v h1663_z 23 9 = cl := (rx_v X (o := 23) (k := 9) (by decide)).trans ecl
                        replace ecr : rg_v h1663_z 23 12 = cr := (rx_v X (o := 23) (k := 12) (by decide)).trans ecr
                        replace E0 : rg_v h1663_z 42 0 = rg_v h1673_z 169 6 := (rx_v X (o := 42) (k := 0) (by decide)).trans (E0.trans (rx_w Y (o := 169) (k := 6) (by omega) (by decide)).symm)
                        replace E1 : rg_v h1663_z 42 1 = rg_v h1673_z 170 42 := (rx_v X (o := 42) (k := 1) (by decide)).trans (E1.trans (rx_w Y (o := 170) (k := 42) (by omega) (by decide)).symm)
                        replace E2 : rg_v h1663_z 42 2 = rg_v h1673_z 170 43 := (rx_v X (o := 42) (k := 2) (by decide)).trans (E2.trans (rx_w Y (o := 170) (k := 43) (by omega) (by decide)).symm)
                        replace E3 : rg_v h1663_z 42 3 = rg_v h1673_z 170 44 := (rx_v X (o := 42) (k := 3) (by decide)).trans (E3.trans (rx_w Y (o := 170) (k := 44) (by omega) (by decide)).symm)
                        have E4 : rg_v h1663_z 42 4 = rg_v h1673_z 170 45 := (rx_v X (o := 42) (k := 4) (by decide)).trans (Eq.trans (rfl) (rx_w Y (o := 170) (k := 45) (by omega) (by decide)).symm)
                        replace hm_z : rn _ _ _ _ [.int 1] _ _ _ := hm_z
                        replace hc_z : rn _ _ _ _ [.int v23_z, .ref 42] _ _ _ := hc_z
                        clear a1_z a2_z a3_z a4_z a5_z a6_z nb1_z nb2_z nb3_z nt1_z nt2_z nt3_z nl1_z nl2_z nl3_z nr1_z nr2_z nr3_z nk1_z nk2_z nk3_z AC0 AC1 AC2 AC3 AD AE AG c1_z c2_z c3_z c4_z c5_z c6_z c7_z c8_z m2_z m3_z m4_z m5_z m6_z m7_z m8_z R3 R4 R5 R6 R7 R8 R9 R10
                        obtain ⟨⟨⟨a1_z, a2_z, a3_z, a4_z, a5_z, a6_z⟩, ⟨nb1_z, nb2_z, nb3_z⟩, ⟨nt1_z, nt2_z, nt3_z⟩, ⟨nl1_z, nl2_z, nl3_z⟩, ⟨nr1_z, nr2_z, nr3_z⟩, ⟨nk1_z, nk2_z, nk3_z⟩, ⟨AC0, AC1, AC2, AC3⟩, AD, AE, AG⟩, ⟨⟨c1_z, c2_z, c3_z, c4_z, c5_z, c6_z, c7_z, c8_z⟩, ⟨m2_z, m3_z, m4_z, m5_z, m6_z, m7_z, m8_z⟩, R3, R4, R5, R6, R7, R8, R9, R10⟩⟩ := (⟨A, R⟩ : rp 23 h1663_z h1673_z ∧ rq T S x23_z p23_z 23 h1663_z h1673_z)
                        replace hc_z := rn_put (am_cur_of (i := (124, 3, .putfield 187, (3, 5, 218), 0)) (by decide +kernel)) (by decide +kernel) hc_z
                        replace hc_z := rn_aload_n (am_cur_of (i := (127, 1, .aload_n 1, (0, 0, 0), 0)) (by decide +kernel)) g1_z hc_z
                        replace hc_z := rn_aload_n (am_cur_of (i := (128, 1, .aload_n 0, (0, 0, 0), 0)) (by decide +kernel)) g0_z hc_z
                        replace hc_z := rn_iconst (w := 0) (am_cur_of (i := (129, 1, .iconst 0, (0, 0, 0), 0)) (by decide +kernel)) (by decide) hc_z
                        replace hc_z := rn_bipush (w := 9) (am_cur_of (i := (130, 2, .bipush 9, (0, 0, 0), 0)) (by decide +kernel)) (by decide) hc_z
                        replace hc_z := rn_callV (M' := am_m30) (o := 44) (ar := [.int 9, .int 0]) (rest := [.ref 42]) (L := lv_args 0 [.ref 44, .int 0, .int 9]) (am_cur_of (i := (132, 3, .invokevirtual 142, (30, 773, 3), 0)) (by decide +kernel)) rfl rfl rfl rfl hc_z
                        obtain ⟨r1675_z, h1676_z, q1677_z, hc_z⟩ := hc_z
                        replace hm_z := rn_ifT (am_cur_of (i := (116, 3, .ifCond .ne 5, (69, 0, 0), 0)) (by decide +kernel)) (by decide) hm_z
                        replace hm_z := rn_aload_n (am_cur_of (i := (121, 1, .aload_n 0, (0, 0, 0), 0)) (by decide +kernel)) g0m hm_z
                        replace hm_z := rn_getR (x := 170) (am_cur_of (i := (122, 3, .getfield 30, (12, 25, 1409), 0)) (by decide +kernel)) (by decide +kernel) hm_z
                        replace hm_z := rn_iload_n (am_cur_of (i := (125, 1, .iload_n 1, (0, 0, 0), 0)) (by decide +kernel)) g1m hm_z
                        replace hm_z := rn_iload_n (am_cur_of (i := (126, 1, .iload_n 2, (0, 0, 0), 0)) (by decide +kernel)) g2m hm_z
                        replace hm_z := rn_iadd (w := 46) (am_cur_of (i := (127, 1, .iadd, (0, 0, 0), 0)) (by decide +kernel)) (by decide) hm_z
                        replace hm_z := rn_aload_n (am_cur_of (i := (128, 1, .aload_n 0, (0, 0, 0), 0)) (by decide +kernel)) g0m hm_z
                        replace hm_z := rn_getI (v := v23_z) (am_cur_of (i := (129, 3, .getfield 188, (12, 11, 1395), 0)) (by decide +kernel)) (by decide +kernel) got hm_z
                        replace hm_z := rn_iastore (N := 56) (q := 46) (am_cur_of (i := (132, 1, .iastore, (0, 0, 0), 0)) (by decide +kernel)) (by decide +kernel) rfl hm_z
                        obtain ⟨p1678_z, hm_z⟩ := hm_z
                        replace hm_z := rn_iinc (w := 5) (am_cur_of (i := (133, 3, .iinc 2 1, (0, 0, 0), 0)) (by decide +kernel)) g2m (by decide) hm_z
                        obtain ⟨_, s1679_z, s1680_z, g2m, hm_z⟩ := hm_z
                        replace g0m := s1679_z 0 _ (by decide) rfl g0m
                        replace g1m := s1679_z 1 _ (by decide) rfl g1m
                        replace g3m := s1679_z 3 _ (by decide) rfl g3m
                        replace g4m := s1679_z 4 _ (by decide) rfl g4m
                        clear s1679_z s1680_z
                        replace hm_z := rn_goto (am_cur_of (i := (136, 3, .goto (-87), (29, 0, 0), 0)) (by decide +kernel)) hm_z
                        replace hm_z := rn_iload_n (am_cur_of (i := (49, 1, .iload_n 2, (0, 0, 0), 0)) (by decide +kernel)) g2m hm_z
                        replace hm_z := rn_bipush (w := 7) (am_cur_of (i := (50, 2, .bipush 7, (0, 0, 0), 0)) (by decide +kernel)) (by decide) hm_z
                        replace hm_z := rn_cmpF (am_cur_of (i := (52, 3, .if_icmp .ge 87, (79, 0, 0), 0)) (by decide +kernel)) (by decide) hm_z
                        replace hm_z := rn_iload_n (am_cur_of (i := (55, 1, .iload_n 2, (0, 0, 0), 0)) (by decide +kernel)) g2m hm_z
                        replace hm_z := rn_ifF (am_cur_of (i := (56, 3, .ifCond .eq 13, (40, 0, 0), 0)) (by decide +kernel)) (by decide) hm_z
                        replace hm_z := rn_iload_n (am_cur_of (i := (59, 1, .iload_n 2, (0, 0, 0), 0)) (by decide +kernel)) g2m hm_z
                        replace hm_z := rn_iconst (w := 2) (am_cur_of (i := (60, 1, .iconst 2, (0, 0, 0), 0)) (by decide +kernel)) (by decide) hm_z
                        replace hm_z := rn_cmpF (am_cur_of (i := (61, 3, .if_icmp .eq 8, (40, 0, 0), 0)) (by decide +kernel)) (by decide) hm_z
                        replace hm_z := rn_iload_n (am_cur_of (i := (64, 1, .iload_n 2, (0, 0, 0), 0)) (by decide +kernel)) g2m hm_z
                        replace hm_z := rn_iconst (w := 3) (am_cur_of (i := (65, 1, .iconst 3, (0, 0, 0), 0)) (by decide +kernel)) (by decide) hm_z
                        replace hm_z := rn_cmpT (am_cur_of (i := (66, 3, .if_icmp .ne 7, (42, 0, 0), 0)) (by decide +kernel)) (by decide) hm_z
                        replace hm_z := rn_iconst (w := 0) (am_cur_of (i := (73, 1, .iconst 0, (0, 0, 0), 0)) (by decide +kernel)) (by decide) hm_z
                        replace hm_z := rn_istore_n (am_cur_of (i := (74, 1, .istore_n 3, (0, 0, 0), 0)) (by decide +kernel)) hm_z
                        obtain ⟨_, s1681_z, s1682_z, g3m, hm_z⟩ := hm_z
                        replace g0m := s1681_z 0 _ (by decide) rfl g0m
                        replace g1m := s1681_z 1 _ (by decide) rfl g1m
                        replace g2m := s1681_z 2 _ (by decide) rfl g2m
                        replace g4m := s1681_z 4 _ (by decide) rfl g4m
                        clear s1681_z s1682_z
                        replace hm_z := rn_iload_n (am_cur_of (i := (75, 1, .iload_n 2, (0, 0, 0), 0)) (by decide +kernel)) g2m hm_z
                        replace hm_z := rn_iconst (w := 1) (am_cur_of (i := (76, 1, .iconst 1, (0, 0, 0), 0)) (by decide +kernel)) (by decide) hm_z
                        replace hm_z := rn_cmpF (am_cur_of (i := (77, 3, .if_icmp .eq 8, (50, 0, 0), 0)) (by decide +kernel)) (by decide) hm_z
                        replace hm_z := rn_iload_n (am_cur_of (i := (80, 1, .iload_n 2, (0, 0, 0), 0)) (by decide +kernel)) g2m hm_z
                        replace hm_z := rn_iconst (w := 2) (am_cur_of (i := (81, 1, .iconst 2, (0, 0, 0), 0)) (by decide +kernel)) (by decide) hm_z
                        replace hm_z := rn_cmpT (am_cur_of (i := (82, 3, .if_icmp .ne 8, (52, 0, 0), 0)) (by decide +kernel)) (by decide) hm_z
                        replace hm_z := rn_iload_n (am_cur_of (i := (90, 1, .iload_n 2, (0, 0, 0), 0)) (by decide +kernel)) g2m hm_z
                        replace hm_z := rn_iconst (w := 3) (am_cur_of (i := (91, 1, .iconst 3, (0, 0, 0), 0)) (by decide +kernel)) (by decide) hm_z
                        replace hm_z := rn_cmpF (am_cur_of (i := (92, 3, .if_icmp .eq 8, (58, 0, 0), 0)) (by decide +kernel)) (by decide) hm_z
                        replace hm_z := rn_iload_n (am_cur_of (i := (95, 1, .iload_n 2, (0, 0, 0), 0)) (by decide +kernel)) g2m hm_z
                        replace hm_z := rn_iconst (w := 5) (am_cur_of (i := (96, 1, .iconst 5, (0, 0, 0), 0)) (by decide +kernel)) (by decide) hm_z
                        replace hm_z := rn_cmpF (am_cur_of (i := (97, 3, .if_icmp .ne 8, (60, 0, 0), 0)) (by decide +kernel)) (by decide) hm_z
                        replace hm_z := rn_bipush (w := 9) (am_cur_of (i := (100, 2, .bipush 9, (0, 0, 0), 0)) (by decide +kernel)) (by decide) hm_z
                        replace hm_z := rn_goto (am_cur_of (i := (102, 3, .goto 5, (61, 0, 0), 0)) (by decide +kernel)) hm_z
                        replace hm_z := rn_istore (am_cur_of (i := (107, 2, .istore 4, (0, 0, 0), 0)) (by decide +kernel)) hm_z
                        obtain ⟨_, s1683_z, s1684_z, g4m, hm_z⟩ := hm_z
                        replace g0m := s1683_z 0 _ (by decide) rfl g0m
                        replace g1m := s1683_z 1 _ (by decide) rfl g1m
                        replace g2m := s1683_z 2 _ (by decide) rfl g2m
                        replace g3m := s1683_z 3 _ (by decide) rfl g3m
                        clear s1683_z s1684_z
                        replace hm_z := rn_aload_n (am_cur_of (i := (109, 1, .aload_n 0, (0, 0, 0), 0)) (by decide +kernel)) g0m hm_z
                        replace hm_z := rn_iload_n (am_cur_of (i := (110, 1, .iload_n 3, (0, 0, 0), 0)) (by decide +kernel)) g3m hm_z
                        replace hm_z := rn_iload (am_cur_of (i := (111, 2, .iload 4, (0, 0, 0), 0)) (by decide +kernel)) g4m hm_z
                        replace hm_z := rn_callV (M' := am_m161) (o := 164) (ar := [.int 9, .int 0]) (rest := []) (L := lv_args 0 [.ref 164, .int 0, .int 9]) (am_cur_of (i := (113, 3, .invokevirtual 197, (161, 1677, 3), 0)) (by decide +kernel)) rfl rfl rfl rfl hm_z
                        obtain ⟨r1685_z, h1686_z, q1687_z, hm_z⟩ := hm_z
                        have R' : rq T S x23_z p23_z 23 (am_up h1663_z 42 5 (.int v23_z)) (am_up h1673_z 170 46 (.int v23_z)) := ⟨⟨c1_z, c2_z, c3_z, c4_z, c5_z, c6_z, fun k hk_z => c7_z k hk_z, fun k hk_z => c8_z k hk_z⟩, ⟨m2_z, m3_z, m4_z, m5_z, m6_z, fun k hk_z => m7_z k hk_z, fun k hk_z => m8_z k hk_z⟩, R3, R4, R5, R6, R7, R8, R9, R10⟩
                        have A' : rp 23 (am_up h1663_z 42 5 (.int v23_z)) (am_up h1673_z 170 46 (.int v23_z)) := ⟨⟨a1_z, a2_z, a3_z, a4_z, a5_z, a6_z⟩, ⟨nb1_z, nb2_z, nb3_z⟩, ⟨nt1_z, nt2_z, nt3_z⟩, ⟨nl1_z, nl2_z, nl3_z⟩, ⟨nr1_z, nr2_z, nr3_z⟩, ⟨nk1_z, nk2_z, nk3_z⟩, ⟨(fun hb_z k hk_z => by match k, hk_z with | 0, _ => exact AC0 hb_z 0 (by decide) | 1, _ => exact AC0 hb_z 1 (by decide) | 2, _ => exact AC0 hb_z 2 (by decide) | 3, _ => exact AC0 hb_z 3 (by decide) | 4, _ => exact AC0 hb_z 4 (by decide) | 5, _ => exact AC0 hb_z 5 (by decide) | 6, _ => exact AC0 hb_z 6 (by decide) | 7, _ => exact AC0 hb_z 7 (by decide)), (fun hb_z k hk_z => by match k, hk_z with | 0, _ => exact AC1 hb_z 0 (by decide) | 1, _ => exact AC1 hb_z 1 (by decide) | 2, _ => exact AC1 hb_z 2 (by decide) | 3, _ => exact AC1 hb_z 3 (by decide) | 4, _ => exact AC1 hb_z 4 (by decide) | 5, _ => exact AC1 hb_z 5 (by decide) | 6, _ => exact AC1 hb_z 6 (by decide) | 7, _ => exact AC1 hb_z 7 (by decide)), fun hb_z => absurd hb_z (by rw [show rg_v (am_up h1663_z 42 5 (.int v23_z)) 23 2 = 2 from ecb]; decide), fun hb_z => absurd hb_z (by rw [show rg_v (am_up h1663_z 42 5 (.int v23_z)) 23 2 = 2 from ecb]; decide)⟩, fun t ht => AD t ht, fun t ht => AE t ht, fun t ht => AG t ht⟩
                        have B' : rp_t (am_up h1663_z 42 5 (.int v23_z)) (am_up h1673_z 170 46 (.int v23_z)) := by
                          obtain ⟨b0_z, b1_z, b2_z, b3_z, b4_z, b5_z, b6_z, t, o0_z, o1_z, o2_z, o3_z, o4_z, o5_z, o6_z⟩ := B
                          exact ⟨b0_z, b1_z, b2_z, b3_z, b4_z, b5_z, b6_z, t, o0_z, o1_z, o2_z, o3_z, o4_z, o5_z, o6_z⟩
                        rcases pr_num R' (by decide) (by decide) q1677_z q1687_z with ⟨v24_z, x24_z, p24_z, rfl, rfl, lo24_z, hi24_z, R, le24_z, got, X, Y, t7_z, t167_z⟩ | ⟨rfl, F⟩
                        · replace A := rp_x (by decide) A' X Y
                          replace B := rp_tk B' t7_z t167_z Y
                          clear A' B' R'
                          replace le24_z : x.toInt ≤ p24_z.toInt := Int.le_trans (Int.le_trans le23_z R8) le24_z
                          replace ecb : rg_v h1676_z 23 2 = 2 := (rx_v X (o := 23) (k := 2) (by decide)).trans ecb
                          replace ect : rg_v h1676_z 23 4 = ct := (rx_v X (o := 23) (k := 4) (by decide)).trans ect
                          replace ecl : rg_v h1676_z 23 9 = cl := (rx_v X (o := 23) (k := 9) (by decide)).trans ecl
                          replace ecr : rg_v h1676_z 23 12 = cr := (rx_v X (o := 23) (k := 12) (by decide)).trans ecr
                          replace E0 : rg_v h1676_z 42 0 = rg_v h1686_z 169 6 := (rx_v X (o := 42) (k := 0) (by decide)).trans (E0.trans (rx_w Y (o := 169) (k := 6) (by omega) (by decide)).symm)
                          replace E1 : rg_v h1676_z 42 1 = rg_v h1686_z 170 42 := (rx_v X (o := 42) (k := 1) (by decide)).trans (E1.trans (rx_w Y (o := 170) (k := 42) (by omega) (by decide)).symm)
                          replace E2 : rg_v h1676_z 42 2 = rg_v h1686_z 170 43 := (rx_v X (o := 42) (k := 2) (by decide)).trans (E2.trans (rx_w Y (o := 170) (k := 43) (by omega) (by decide)).symm)
                          replace E3 : rg_v h1676_z 42 3 = rg_v h1686_z 170 44 := (rx_v X (o := 42) (k := 3) (by decide)).trans (E3.trans (rx_w Y (o := 170) (k := 44) (by omega) (by decide)).symm)
                          replace E4 : rg_v h1676_z 42 4 = rg_v h1686_z 170 45 := (rx_v X (o := 42) (k := 4) (by decide)).trans (E4.trans (rx_w Y (o := 170) (k := 45) (by omega) (by decide)).symm)
                          have E5 : rg_v h1676_z 42 5 = rg_v h1686_z 170 46 := (rx_v X (o := 42) (k := 5) (by decide)).trans (Eq.trans (rfl) (rx_w Y (o := 170) (k := 46) (by omega) (by decide)).symm)
                          replace hm_z : rn _ _ _ _ [.int 1] _ _ _ := hm_z
                          replace hc_z : rn _ _ _ _ [.int v24_z, .ref 42] _ _ _ := hc_z
                          clear a1_z a2_z a3_z a4_z a5_z a6_z nb1_z nb2_z nb3_z nt1_z nt2_z nt3_z nl1_z nl2_z nl3_z nr1_z nr2_z nr3_z nk1_z nk2_z nk3_z AC0 AC1 AC2 AC3 AD AE AG c1_z c2_z c3_z c4_z c5_z c6_z c7_z c8_z m2_z m3_z m4_z m5_z m6_z m7_z m8_z R3 R4 R5 R6 R7 R8 R9 R10
                          obtain ⟨⟨⟨a1_z, a2_z, a3_z, a4_z, a5_z, a6_z⟩, ⟨nb1_z, nb2_z, nb3_z⟩, ⟨nt1_z, nt2_z, nt3_z⟩, ⟨nl1_z, nl2_z, nl3_z⟩, ⟨nr1_z, nr2_z, nr3_z⟩, ⟨nk1_z, nk2_z, nk3_z⟩, ⟨AC0, AC1, AC2, AC3⟩, AD, AE, AG⟩, ⟨⟨c1_z, c2_z, c3_z, c4_z, c5_z, c6_z, c7_z, c8_z⟩, ⟨m2_z, m3_z, m4_z, m5_z, m6_z, m7_z, m8_z⟩, R3, R4, R5, R6, R7, R8, R9, R10⟩⟩ := (⟨A, R⟩ : rp 23 h1676_z h1686_z ∧ rq T S x24_z p24_z 23 h1676_z h1686_z)
                          replace hc_z := rn_put (am_cur_of (i := (135, 3, .putfield 190, (3, 6, 220), 0)) (by decide +kernel)) (by decide +kernel) hc_z
                          replace hc_z := rn_aload_n (am_cur_of (i := (138, 1, .aload_n 1, (0, 0, 0), 0)) (by decide +kernel)) g1_z hc_z
                          replace hc_z := rn_aload_n (am_cur_of (i := (139, 1, .aload_n 0, (0, 0, 0), 0)) (by decide +kernel)) g0_z hc_z
                          replace hc_z := rn_iconst (w := 0) (am_cur_of (i := (140, 1, .iconst 0, (0, 0, 0), 0)) (by decide +kernel)) (by decide) hc_z
                          replace hc_z := rn_bipush (w := 99) (am_cur_of (i := (141, 2, .bipush 99, (0, 0, 0), 0)) (by decide +kernel)) (by decide) hc_z
                          replace hc_z := rn_callV (M' := am_m30) (o := 44) (ar := [.int 99, .int 0]) (rest := [.ref 42]) (L := lv_args 0 [.ref 44, .int 0, .int 99]) (am_cur_of (i := (143, 3, .invokevirtual 142, (30, 773, 3), 0)) (by decide +kernel)) rfl rfl rfl rfl hc_z
                          obtain ⟨r1688_z, h1689_z, q1690_z, hc_z⟩ := hc_z
                          replace hm_z := rn_ifT (am_cur_of (i := (116, 3, .ifCond .ne 5, (69, 0, 0), 0)) (by decide +kernel)) (by decide) hm_z
                          replace hm_z := rn_aload_n (am_cur_of (i := (121, 1, .aload_n 0, (0, 0, 0), 0)) (by decide +kernel)) g0m hm_z
                          replace hm_z := rn_getR (x := 170) (am_cur_of (i := (122, 3, .getfield 30, (12, 25, 1409), 0)) (by decide +kernel)) (by decide +kernel) hm_z
                          replace hm_z := rn_iload_n (am_cur_of (i := (125, 1, .iload_n 1, (0, 0, 0), 0)) (by decide +kernel)) g1m hm_z
                          replace hm_z := rn_iload_n (am_cur_of (i := (126, 1, .iload_n 2, (0, 0, 0), 0)) (by decide +kernel)) g2m hm_z
                          replace hm_z := rn_iadd (w := 47) (am_cur_of (i := (127, 1, .iadd, (0, 0, 0), 0)) (by decide +kernel)) (by decide) hm_z
                          replace hm_z := rn_aload_n (am_cur_of (i := (128, 1, .aload_n 0, (0, 0, 0), 0)) (by decide +kernel)) g0m hm_z
                          replace hm_z := rn_getI (v := v24_z) (am_cur_of (i := (129, 3, .getfield 188, (12, 11, 1395), 0)) (by decide +kernel)) (by decide +kernel) got hm_z
                          replace hm_z := rn_iastore (N := 56) (q := 47) (am_cur_of (i := (132, 1, .iastore, (0, 0, 0), 0)) (by decide +kernel)) (by decide +kernel) rfl hm_z
                          obtain ⟨p1691_z, hm_z⟩ := hm_z
                          replace hm_z := rn_iinc (w := 6) (am_cur_of (i := (133, 3, .iinc 2 1, (0, 0, 0), 0)) (by decide +kernel)) g2m (by decide) hm_z
                          obtain ⟨_, s1692_z, s1693_z, g2m, hm_z⟩ := hm_z
                          replace g0m := s1692_z 0 _ (by decide) rfl g0m
                          replace g1m := s1692_z 1 _ (by decide) rfl g1m
                          replace g3m := s1692_z 3 _ (by decide) rfl g3m
                          replace g4m := s1692_z 4 _ (by decide) rfl g4m
                          clear s1692_z s1693_z
                          replace hm_z := rn_goto (am_cur_of (i := (136, 3, .goto (-87), (29, 0, 0), 0)) (by decide +kernel)) hm_z
                          replace hm_z := rn_iload_n (am_cur_of (i := (49, 1, .iload_n 2, (0, 0, 0), 0)) (by decide +kernel)) g2m hm_z
                          replace hm_z := rn_bipush (w := 7) (am_cur_of (i := (50, 2, .bipush 7, (0, 0, 0), 0)) (by decide +kernel)) (by decide) hm_z
                          replace hm_z := rn_cmpF (am_cur_of (i := (52, 3, .if_icmp .ge 87, (79, 0, 0), 0)) (by decide +kernel)) (by decide) hm_z
                          replace hm_z := rn_iload_n (am_cur_of (i := (55, 1, .iload_n 2, (0, 0, 0), 0)) (by decide +kernel)) g2m hm_z
                          replace hm_z := rn_ifF (am_cur_of (i := (56, 3, .ifCond .eq 13, (40, 0, 0), 0)) (by decide +kernel)) (by decide) hm_z
                          replace hm_z := rn_iload_n (am_cur_of (i := (59, 1, .iload_n 2, (0, 0, 0), 0)) (by decide +kernel)) g2m hm_z
                          replace hm_z := rn_iconst (w := 2) (am_cur_of (i := (60, 1, .iconst 2, (0, 0, 0), 0)) (by decide +kernel)) (by decide) hm_z
                          replace hm_z := rn_cmpF (am_cur_of (i := (61, 3, .if_icmp .eq 8, (40, 0, 0), 0)) (by decide +kernel)) (by decide) hm_z
                          replace hm_z := rn_iload_n (am_cur_of (i := (64, 1, .iload_n 2, (0, 0, 0), 0)) (by decide +kernel)) g2m hm_z
                          replace hm_z := rn_iconst (w := 3) (am_cur_of (i := (65, 1, .iconst 3, (0, 0, 0), 0)) (by decide +kernel)) (by decide) hm_z
                          replace hm_z := rn_cmpT (am_cur_of (i := (66, 3, .if_icmp .ne 7, (42, 0, 0), 0)) (by decide +kernel)) (by decide) hm_z
                          replace hm_z := rn_iconst (w := 0) (am_cur_of (i := (73, 1, .iconst 0, (0, 0, 0), 0)) (by decide +kernel)) (by decide) hm_z
                          replace hm_z := rn_istore_n (am_cur_of (i := (74, 1, .istore_n 3, (0, 0, 0), 0)) (by decide +kernel)) hm_z
                          obtain ⟨_, s1694_z, s1695_z, g3m, hm_z⟩ := hm_z
                          replace g0m := s1694_z 0 _ (by decide) rfl g0m
                          replace g1m := s1694_z 1 _ (by decide) rfl g1m
                          replace g2m := s1694_z 2 _ (by decide) rfl g2m
                          replace g4m := s1694_z 4 _ (by decide) rfl g4m
                          clear s1694_z s1695_z
                          replace hm_z := rn_iload_n (am_cur_of (i := (75, 1, .iload_n 2, (0, 0, 0), 0)) (by decide +kernel)) g2m hm_z
                          replace hm_z := rn_iconst (w := 1) (am_cur_of (i := (76, 1, .iconst 1, (0, 0, 0), 0)) (by decide +kernel)) (by decide) hm_z
                          replace hm_z := rn_cmpF (am_cur_of (i := (77, 3, .if_icmp .eq 8, (50, 0, 0), 0)) (by decide +kernel)) (by decide) hm_z
                          replace hm_z := rn_iload_n (am_cur_of (i := (80, 1, .iload_n 2, (0, 0, 0), 0)) (by decide +kernel)) g2m hm_z
                          replace hm_z := rn_iconst (w := 2) (am_cur_of (i := (81, 1, .iconst 2, (0, 0, 0), 0)) (by decide +kernel)) (by decide) hm_z
                          replace hm_z := rn_cmpT (am_cur_of (i := (82, 3, .if_icmp .ne 8, (52, 0, 0), 0)) (by decide +kernel)) (by decide) hm_z
                          replace hm_z := rn_iload_n (am_cur_of (i := (90, 1, .iload_n 2, (0, 0, 0), 0)) (by decide +kernel)) g2m hm_z
                          replace hm_z := rn_iconst (w := 3) (am_cur_of (i := (91, 1, .iconst 3, (0, 0, 0), 0)) (by decide +kernel)) (by decide) hm_z
                          replace hm_z := rn_cmpF (am_cur_of (i := (92, 3, .if_icmp .eq 8, (58, 0, 0), 0)) (by decide +kernel)) (by decide) hm_z
                          replace hm_z := rn_iload_n (am_cur_of (i := (95, 1, .iload_n 2, (0, 0, 0), 0)) (by decide +kernel)) g2m hm_z
                          replace hm_z := rn_iconst (w := 5) (am_cur_of (i := (96, 1, .iconst 5, (0, 0, 0), 0)) (by decide +kernel)) (by decide) hm_z
                          replace hm_z := rn_cmpT (am_cur_of (i := (97, 3, .if_icmp .ne 8, (60, 0, 0), 0)) (by decide +kernel)) (by decide) hm_z
                          replace hm_z := rn_bipush (w := 99) (am_cur_of (i := (105, 2, .bipush 99, (0, 0, 0), 0)) (by decide +kernel)) (by decide) hm_z
                          replace hm_z := rn_istore (am_cur_of (i := (107, 2, .istore 4, (0, 0, 0), 0)) (by decide +kernel)) hm_z
                          obtain ⟨_, s1696_z, s1697_z, g4m, hm_z⟩ := hm_z
                          replace g0m := s1696_z 0 _ (by decide) rfl g0m
                          replace g1m := s1696_z 1 _ (by decide) rfl g1m
                          replace g2m := s1696_z 2 _ (by decide) rfl g2m
                          replace g3m := s1696_z 3 _ (by decide) rfl g3m
                          clear s1696_z s1697_z
                          replace hm_z := rn_aload_n (am_cur_of (i := (109, 1, .aload_n 0, (0, 0, 0), 0)) (by decide +kernel)) g0m hm_z
                          replace hm_z := rn_iload_n (am_cur_of (i := (110, 1, .iload_n 3, (0, 0, 0), 0)) (by decide +kernel)) g3m hm_z
                          replace hm_z := rn_iload (am_cur_of (i := (111, 2, .iload 4, (0, 0, 0), 0)) (by decide +kernel)) g4m hm_z
                          replace hm_z := rn_callV (M' := am_m161) (o := 164) (ar := [.int 99, .int 0]) (rest := []) (L := lv_args 0 [.ref 164, .int 0, .int 99]) (am_cur_of (i := (113, 3, .invokevirtual 197, (161, 1677, 3), 0)) (by decide +kernel)) rfl rfl rfl rfl hm_z
                          obtain ⟨r1698_z, h1699_z, q1700_z, hm_z⟩ := hm_z
                          have R' : rq T S x24_z p24_z 23 (am_up h1676_z 42 6 (.int v24_z)) (am_up h1686_z 170 47 (.int v24_z)) := ⟨⟨c1_z, c2_z, c3_z, c4_z, c5_z, c6_z, fun k hk_z => c7_z k hk_z, fun k hk_z => c8_z k hk_z⟩, ⟨m2_z, m3_z, m4_z, m5_z, m6_z, fun k hk_z => m7_z k hk_z, fun k hk_z => m8_z k hk_z⟩, R3, R4, R5, R6, R7, R8, R9, R10⟩
                          have A' : rp 23 (am_up h1676_z 42 6 (.int v24_z)) (am_up h1686_z 170 47 (.int v24_z)) := ⟨⟨a1_z, a2_z, a3_z, a4_z, a5_z, a6_z⟩, ⟨nb1_z, nb2_z, nb3_z⟩, ⟨nt1_z, nt2_z, nt3_z⟩, ⟨nl1_z, nl2_z, nl3_z⟩, ⟨nr1_z, nr2_z, nr3_z⟩, ⟨nk1_z, nk2_z, nk3_z⟩, ⟨(fun hb_z k hk_z => by match k, hk_z with | 0, _ => exact AC0 hb_z 0 (by decide) | 1, _ => exact AC0 hb_z 1 (by decide) | 2, _ => exact AC0 hb_z 2 (by decide) | 3, _ => exact AC0 hb_z 3 (by decide) | 4, _ => exact AC0 hb_z 4 (by decide) | 5, _ => exact AC0 hb_z 5 (by decide) | 6, _ => exact AC0 hb_z 6 (by decide) | 7, _ => exact AC0 hb_z 7 (by decide)), (fun hb_z k hk_z => by match k, hk_z with | 0, _ => exact AC1 hb_z 0 (by decide) | 1, _ => exact AC1 hb_z 1 (by decide) | 2, _ => exact AC1 hb_z 2 (by decide) | 3, _ => exact AC1 hb_z 3 (by decide) | 4, _ => exact AC1 hb_z 4 (by decide) | 5, _ => exact AC1 hb_z 5 (by decide) | 6, _ => exact AC1 hb_z 6 (by decide) | 7, _ => exact AC1 hb_z 7 (by decide)), fun hb_z => absurd hb_z (by rw [show rg_v (am_up h1676_z 42 6 (.int v24_z)) 23 2 = 2 from ecb]; decide), fun hb_z => absurd hb_z (by rw [show rg_v (am_up h1676_z 42 6 (.int v24_z)) 23 2 = 2 from ecb]; decide)⟩, fun t ht => AD t ht, fun t ht => AE t ht, fun t ht => AG t ht⟩
                          have B' : rp_t (am_up h1676_z 42 6 (.int v24_z)) (am_up h1686_z 170 47 (.int v24_z)) := by
                            obtain ⟨b0_z, b1_z, b2_z, b3_z, b4_z, b5_z, b6_z, t, o0_z, o1_z, o2_z, o3_z, o4_z, o5_z, o6_z⟩ := B
                            exact ⟨b0_z, b1_z, b2_z, b3_z, b4_z, b5_z, b6_z, t, o0_z, o1_z, o2_z, o3_z, o4_z, o5_z, o6_z⟩
                          rcases pr_num R' (by decide) (by decide) q1690_z q1700_z with ⟨v25_z, x25_z, p25_z, rfl, rfl, lo25_z, hi25_z, R, le25_z, got, X, Y, t7_z, t167_z⟩ | ⟨rfl, F⟩
                          · replace A := rp_x (by decide) A' X Y
                            replace B := rp_tk B' t7_z t167_z Y
                            clear A' B' R'
                            replace le25_z : x.toInt ≤ p25_z.toInt := Int.le_trans (Int.le_trans le24_z R8) le25_z
                            replace ecb : rg_v h1689_z 23 2 = 2 := (rx_v X (o := 23) (k := 2) (by decide)).trans ecb
                            replace ect : rg_v h1689_z 23 4 = ct := (rx_v X (o := 23) (k := 4) (by decide)).trans ect
                            replace ecl : rg_v h1689_z 23 9 = cl := (rx_v X (o := 23) (k := 9) (by decide)).trans ecl
                            replace ecr : rg_v h1689_z 23 12 = cr := (rx_v X (o := 23) (k := 12) (by decide)).trans ecr
                            replace E0 : rg_v h1689_z 42 0 = rg_v h1699_z 169 6 := (rx_v X (o := 42) (k := 0) (by decide)).trans (E0.trans (rx_w Y (o := 169) (k := 6) (by omega) (by decide)).symm)
                            replace E1 : rg_v h1689_z 42 1 = rg_v h1699_z 170 42 := (rx_v X (o := 42) (k := 1) (by decide)).trans (E1.trans (rx_w Y (o := 170) (k := 42) (by omega) (by decide)).symm)
                            replace E2 : rg_v h1689_z 42 2 = rg_v h1699_z 170 43 := (rx_v X (o := 42) (k := 2) (by decide)).trans (E2.trans (rx_w Y (o := 170) (k := 43) (by omega) (by decide)).symm)
                            replace E3 : rg_v h1689_z 42 3 = rg_v h1699_z 170 44 := (rx_v X (o := 42) (k := 3) (by decide)).trans (E3.trans (rx_w Y (o := 170) (k := 44) (by omega) (by decide)).symm)
                            replace E4 : rg_v h1689_z 42 4 = rg_v h1699_z 170 45 := (rx_v X (o := 42) (k := 4) (by decide)).trans (E4.trans (rx_w Y (o := 170) (k := 45) (by omega) (by decide)).symm)
                            replace E5 : rg_v h1689_z 42 5 = rg_v h1699_z 170 46 := (rx_v X (o := 42) (k := 5) (by decide)).trans (E5.trans (rx_w Y (o := 170) (k := 46) (by omega) (by decide)).symm)
                            have E6 : rg_v h1689_z 42 6 = rg_v h1699_z 170 47 := (rx_v X (o := 42) (k := 6) (by decide)).trans (Eq.trans (rfl) (rx_w Y (o := 170) (k := 47) (by omega) (by decide)).symm)
                            replace hm_z : rn _ _ _ _ [.int 1] _ _ _ := hm_z
                            replace hc_z : rn _ _ _ _ [.int v25_z, .ref 42] _ _ _ := hc_z
                            clear a1_z a2_z a3_z a4_z a5_z a6_z nb1_z nb2_z nb3_z nt1_z nt2_z nt3_z nl1_z nl2_z nl3_z nr1_z nr2_z nr3_z nk1_z nk2_z nk3_z AC0 AC1 AC2 AC3 AD AE AG c1_z c2_z c3_z c4_z c5_z c6_z c7_z c8_z m2_z m3_z m4_z m5_z m6_z m7_z m8_z R3 R4 R5 R6 R7 R8 R9 R10
                            obtain ⟨⟨⟨a1_z, a2_z, a3_z, a4_z, a5_z, a6_z⟩, ⟨nb1_z, nb2_z, nb3_z⟩, ⟨nt1_z, nt2_z, nt3_z⟩, ⟨nl1_z, nl2_z, nl3_z⟩, ⟨nr1_z, nr2_z, nr3_z⟩, ⟨nk1_z, nk2_z, nk3_z⟩, ⟨AC0, AC1, AC2, AC3⟩, AD, AE, AG⟩, ⟨⟨c1_z, c2_z, c3_z, c4_z, c5_z, c6_z, c7_z, c8_z⟩, ⟨m2_z, m3_z, m4_z, m5_z, m6_z, m7_z, m8_z⟩, R3, R4, R5, R6, R7, R8, R9, R10⟩⟩ := (⟨A, R⟩ : rp 23 h1689_z h1699_z ∧ rq T S x25_z p25_z 23 h1689_z h1699_z)
                            replace hc_z := rn_put (am_cur_of (i := (146, 3, .putfield 193, (3, 7, 221), 0)) (by decide +kernel)) (by decide +kernel) hc_z
                            replace hc_z := rn_aload_n (am_cur_of (i := (149, 1, .aload_n 0, (0, 0, 0), 0)) (by decide +kernel)) g0_z hc_z
                            replace hc_z := rn_getM (x := 23) (am_cur_of (i := (150, 3, .getfield 25, (4, 6, 415), 0)) (by decide +kernel)) (show (am_up h1689_z 42 7 (.int v25_z)) 44 6 = .ref 23 from R3) hc_z
                            replace hc_z := rn_dup (am_cur_of (i := (153, 1, .dup, (0, 0, 0), 0)) (by decide +kernel)) hc_z
                            replace hc_z := rn_getI (v := 2) (am_cur_of (i := (154, 3, .getfield 151, (1, 2, 259), 0)) (by decide +kernel)) (by decide +kernel) (show rg_v (am_up h1689_z 42 7 (.int v25_z)) 23 2 = 2 from ecb) hc_z
                            replace hc_z := rn_iconst (w := 1) (am_cur_of (i := (157, 1, .iconst 1, (0, 0, 0), 0)) (by decide +kernel)) (by decide) hc_z
                            replace hc_z := rn_iadd (w := 3) (am_cur_of (i := (158, 1, .iadd, (0, 0, 0), 0)) (by decide +kernel)) (by decide) hc_z
                            replace hc_z := rn_put (am_cur_of (i := (159, 3, .putfield 151, (1, 2, 259), 0)) (by decide +kernel)) (by decide +kernel) hc_z
                            replace hc_z := rn_vret (am_cur_of (i := (162, 1, .return_, (0, 0, 0), 0)) (by decide +kernel)) hc_z
                            obtain ⟨e1701_z, e1702_z⟩ := hc_z
                            subst e1701_z e1702_z
                            replace hm_z := rn_ifT (am_cur_of (i := (116, 3, .ifCond .ne 5, (69, 0, 0), 0)) (by decide +kernel)) (by decide) hm_z
                            replace hm_z := rn_aload_n (am_cur_of (i := (121, 1, .aload_n 0, (0, 0, 0), 0)) (by decide +kernel)) g0m hm_z
                            replace hm_z := rn_getR (x := 170) (am_cur_of (i := (122, 3, .getfield 30, (12, 25, 1409), 0)) (by decide +kernel)) (by decide +kernel) hm_z
                            replace hm_z := rn_iload_n (am_cur_of (i := (125, 1, .iload_n 1, (0, 0, 0), 0)) (by decide +kernel)) g1m hm_z
                            replace hm_z := rn_iload_n (am_cur_of (i := (126, 1, .iload_n 2, (0, 0, 0), 0)) (by decide +kernel)) g2m hm_z
                            replace hm_z := rn_iadd (w := 48) (am_cur_of (i := (127, 1, .iadd, (0, 0, 0), 0)) (by decide +kernel)) (by decide) hm_z
                            replace hm_z := rn_aload_n (am_cur_of (i := (128, 1, .aload_n 0, (0, 0, 0), 0)) (by decide +kernel)) g0m hm_z
                            replace hm_z := rn_getI (v := v25_z) (am_cur_of (i := (129, 3, .getfield 188, (12, 11, 1395), 0)) (by decide +kernel)) (by decide +kernel) got hm_z
                            replace hm_z := rn_iastore (N := 56) (q := 48) (am_cur_of (i := (132, 1, .iastore, (0, 0, 0), 0)) (by decide +kernel)) (by decide +kernel) rfl hm_z
                            obtain ⟨p1703_z, hm_z⟩ := hm_z
                            replace hm_z := rn_iinc (w := 7) (am_cur_of (i := (133, 3, .iinc 2 1, (0, 0, 0), 0)) (by decide +kernel)) g2m (by decide) hm_z
                            obtain ⟨_, s1704_z, s1705_z, g2m, hm_z⟩ := hm_z
                            replace g0m := s1704_z 0 _ (by decide) rfl g0m
                            replace g1m := s1704_z 1 _ (by decide) rfl g1m
                            replace g3m := s1704_z 3 _ (by decide) rfl g3m
                            replace g4m := s1704_z 4 _ (by decide) rfl g4m
                            clear s1704_z s1705_z
                            replace hm_z := rn_goto (am_cur_of (i := (136, 3, .goto (-87), (29, 0, 0), 0)) (by decide +kernel)) hm_z
                            replace hm_z := rn_iload_n (am_cur_of (i := (49, 1, .iload_n 2, (0, 0, 0), 0)) (by decide +kernel)) g2m hm_z
                            replace hm_z := rn_bipush (w := 7) (am_cur_of (i := (50, 2, .bipush 7, (0, 0, 0), 0)) (by decide +kernel)) (by decide) hm_z
                            replace hm_z := rn_cmpT (am_cur_of (i := (52, 3, .if_icmp .ge 87, (79, 0, 0), 0)) (by decide +kernel)) (by decide) hm_z
                            replace hm_z := rn_aload_n (am_cur_of (i := (139, 1, .aload_n 0, (0, 0, 0), 0)) (by decide +kernel)) g0m hm_z
                            replace hm_z := rn_dup (am_cur_of (i := (140, 1, .dup, (0, 0, 0), 0)) (by decide +kernel)) hm_z
                            replace hm_z := rn_getI (v := 2) (am_cur_of (i := (141, 3, .getfield 201, (12, 17, 1401), 0)) (by decide +kernel)) (by decide +kernel) (show rg_v (am_up h1699_z 170 48 (.int v25_z)) 164 17 = 2 from (nb1_z.symm.trans ecb)) hm_z
                            replace hm_z := rn_iconst (w := 1) (am_cur_of (i := (144, 1, .iconst 1, (0, 0, 0), 0)) (by decide +kernel)) (by decide) hm_z
                            replace hm_z := rn_iadd (w := 3) (am_cur_of (i := (145, 1, .iadd, (0, 0, 0), 0)) (by decide +kernel)) (by decide) hm_z
                            replace hm_z := rn_put (am_cur_of (i := (146, 3, .putfield 201, (12, 17, 1401), 0)) (by decide +kernel)) (by decide +kernel) hm_z
                            replace hm_z := rn_iconst (w := 1) (am_cur_of (i := (149, 1, .iconst 1, (0, 0, 0), 0)) (by decide +kernel)) (by decide) hm_z
                            replace hm_z := rn_iret (am_cur_of (i := (150, 1, .ireturn, (0, 0, 0), 0)) (by decide +kernel)) hm_z
                            obtain ⟨e1706_z, e1707_z⟩ := hm_z
                            subst e1706_z e1707_z
                            have R' : rq T S x25_z p25_z 23 (am_up (am_up h1689_z 42 7 (.int v25_z)) 23 2 (.int 3)) (am_up (am_up h1699_z 170 48 (.int v25_z)) 164 17 (.int 3)) := ⟨⟨c1_z, c2_z, c3_z, c4_z, c5_z, c6_z, fun k hk_z => c7_z k hk_z, fun k hk_z => c8_z k hk_z⟩, ⟨m2_z, m3_z, m4_z, m5_z, m6_z, fun k hk_z => m7_z k hk_z, fun k hk_z => m8_z k hk_z⟩, R3, R4, R5, R6, R7, R8, R9, R10⟩
                            have pq0_z : rp_C 23 (am_up (am_up h1689_z 42 7 (.int v25_z)) 23 2 (.int 3)) (am_up (am_up h1699_z 170 48 (.int v25_z)) 164 17 (.int 3)) 0 := by
                              intro hb_z k hk_z
                              have hb2_z : ((0 : Nat) : Int) < (rg_v h1689_z 23 2).toInt := by rw [ecb]; decide
                              match k, hk_z with
                              | 0, _ => exact AC0 hb2_z 0 (by decide)
                              | 1, _ => exact AC0 hb2_z 1 (by decide)
                              | 2, _ => exact AC0 hb2_z 2 (by decide)
                              | 3, _ => exact AC0 hb2_z 3 (by decide)
                              | 4, _ => exact AC0 hb2_z 4 (by decide)
                              | 5, _ => exact AC0 hb2_z 5 (by decide)
                              | 6, _ => exact AC0 hb2_z 6 (by decide)
                              | 7, _ => exact AC0 hb2_z 7 (by decide)
                            have pq1_z : rp_C 23 (am_up (am_up h1689_z 42 7 (.int v25_z)) 23 2 (.int 3)) (am_up (am_up h1699_z 170 48 (.int v25_z)) 164 17 (.int 3)) 1 := by
                              intro hb_z k hk_z
                              have hb2_z : ((1 : Nat) : Int) < (rg_v h1689_z 23 2).toInt := by rw [ecb]; decide
                              match k, hk_z with
                              | 0, _ => exact AC1 hb2_z 0 (by decide)
                              | 1, _ => exact AC1 hb2_z 1 (by decide)
                              | 2, _ => exact AC1 hb2_z 2 (by decide)
                              | 3, _ => exact AC1 hb2_z 3 (by decide)
                              | 4, _ => exact AC1 hb2_z 4 (by decide)
                              | 5, _ => exact AC1 hb2_z 5 (by decide)
                              | 6, _ => exact AC1 hb2_z 6 (by decide)
                              | 7, _ => exact AC1 hb2_z 7 (by decide)
                            have pq2_z : rp_C 23 (am_up (am_up h1689_z 42 7 (.int v25_z)) 23 2 (.int 3)) (am_up (am_up h1699_z 170 48 (.int v25_z)) 164 17 (.int 3)) 2 := by
                              intro hb_z k hk_z
                              match k, hk_z with
                              | 0, _ => exact E0
                              | 1, _ => exact E1
                              | 2, _ => exact E2
                              | 3, _ => exact E3
                              | 4, _ => exact E4
                              | 5, _ => exact E5
                              | 6, _ => exact E6
                              | 7, _ => exact rfl
                            have A' : rp 23 (am_up (am_up h1689_z 42 7 (.int v25_z)) 23 2 (.int 3)) (am_up (am_up h1699_z 170 48 (.int v25_z)) 164 17 (.int 3)) := ⟨⟨a1_z, a2_z, a3_z, a4_z, a5_z, a6_z⟩, ⟨rfl, (show 0 ≤ ((2 : Int32) + 1).toInt by decide), (show ((2 : Int32) + 1).toInt ≤ 4 by decide)⟩, ⟨nt1_z, nt2_z, nt3_z⟩, ⟨nl1_z, nl2_z, nl3_z⟩, ⟨nr1_z, nr2_z, nr3_z⟩, ⟨nk1_z, nk2_z, nk3_z⟩, ⟨(pq0_z), (pq1_z), (pq2_z), (fun hb_z => absurd hb_z (by show ¬ ((3 : Nat) : Int) < ((2 : Int32) + 1).toInt; decide))⟩, fun t ht => AD t ht, fun t ht => AE t ht, fun t ht => AG t ht⟩
                            have B' : rp_t (am_up (am_up h1689_z 42 7 (.int v25_z)) 23 2 (.int 3)) (am_up (am_up h1699_z 170 48 (.int v25_z)) 164 17 (.int 3)) := by
                              obtain ⟨b0_z, b1_z, b2_z, b3_z, b4_z, b5_z, b6_z, t, o0_z, o1_z, o2_z, o3_z, o4_z, o5_z, o6_z⟩ := B
                              exact ⟨b0_z, b1_z, b2_z, b3_z, b4_z, b5_z, b6_z, t, o0_z, o1_z, o2_z, o3_z, o4_z, o5_z, o6_z⟩
                            exact Or.inl ⟨rfl, _, _, R', le25_z, A', B'⟩
                          · obtain ⟨wv, w0_z, f1_z, f2_z, f3_z, f4_z⟩ := F
                            have K := rs_stick (a := 31) (by decide) (by decide) rfl w0_z f1_z f2_z hc_z
                            replace hm_z : rn _ _ _ _ [.int 0] _ _ _ := hm_z
                            replace hm_z := rn_ifF (am_cur_of (i := (116, 3, .ifCond .ne 5, (69, 0, 0), 0)) (by decide +kernel)) (by decide) hm_z
                            replace hm_z := rn_iconst (w := 0) (am_cur_of (i := (119, 1, .iconst 0, (0, 0, 0), 0)) (by decide +kernel)) (by decide) hm_z
                            replace hm_z := rn_iret (am_cur_of (i := (120, 1, .ireturn, (0, 0, 0), 0)) (by decide +kernel)) hm_z
                            obtain ⟨e1708_z, e1709_z⟩ := hm_z
                            subst e1708_z e1709_z
                            exact Or.inr ⟨rfl, _, wv, w0_z, K.1, K.2, f3_z, f4_z⟩
                        · obtain ⟨wv, w0_z, f1_z, f2_z, f3_z, f4_z⟩ := F
                          have K := rs_stick (a := 31) (by decide) (by decide) rfl w0_z f1_z f2_z hc_z
                          replace hm_z : rn _ _ _ _ [.int 0] _ _ _ := hm_z
                          replace hm_z := rn_ifF (am_cur_of (i := (116, 3, .ifCond .ne 5, (69, 0, 0), 0)) (by decide +kernel)) (by decide) hm_z
                          replace hm_z := rn_iconst (w := 0) (am_cur_of (i := (119, 1, .iconst 0, (0, 0, 0), 0)) (by decide +kernel)) (by decide) hm_z
                          replace hm_z := rn_iret (am_cur_of (i := (120, 1, .ireturn, (0, 0, 0), 0)) (by decide +kernel)) hm_z
                          obtain ⟨e1710_z, e1711_z⟩ := hm_z
                          subst e1710_z e1711_z
                          exact Or.inr ⟨rfl, _, wv, w0_z, K.1, K.2, f3_z, f4_z⟩
                      · obtain ⟨wv, w0_z, f1_z, f2_z, f3_z, f4_z⟩ := F
                        have K := rs_stick (a := 31) (by decide) (by decide) rfl w0_z f1_z f2_z hc_z
                        replace hm_z : rn _ _ _ _ [.int 0] _ _ _ := hm_z
                        replace hm_z := rn_ifF (am_cur_of (i := (116, 3, .ifCond .ne 5, (69, 0, 0), 0)) (by decide +kernel)) (by decide) hm_z
                        replace hm_z := rn_iconst (w := 0) (am_cur_of (i := (119, 1, .iconst 0, (0, 0, 0), 0)) (by decide +kernel)) (by decide) hm_z
                        replace hm_z := rn_iret (am_cur_of (i := (120, 1, .ireturn, (0, 0, 0), 0)) (by decide +kernel)) hm_z
                        obtain ⟨e1712_z, e1713_z⟩ := hm_z
                        subst e1712_z e1713_z
                        exact Or.inr ⟨rfl, _, wv, w0_z, K.1, K.2, f3_z, f4_z⟩
                    · obtain ⟨wv, w0_z, f1_z, f2_z, f3_z, f4_z⟩ := F
                      have K := rs_stick (a := 31) (by decide) (by decide) rfl w0_z f1_z f2_z hc_z
                      replace hm_z : rn _ _ _ _ [.int 0] _ _ _ := hm_z
                      replace hm_z := rn_ifF (am_cur_of (i := (116, 3, .ifCond .ne 5, (69, 0, 0), 0)) (by decide +kernel)) (by decide) hm_z
                      replace hm_z := rn_iconst (w := 0) (am_cur_of (i := (119, 1, .iconst 0, (0, 0, 0), 0)) (by decide +kernel)) (by decide) hm_z
                      replace hm_z := rn_iret (am_cur_of (i := (120, 1, .ireturn, (0, 0, 0), 0)) (by decide +kernel)) hm_z
                      obtain ⟨e1714_z, e1715_z⟩ := hm_z
                      subst e1714_z e1715_z
                      exact Or.inr ⟨rfl, _, wv, w0_z, K.1, K.2, f3_z, f4_z⟩
                  · obtain ⟨wv, w0_z, f1_z, f2_z, f3_z, f4_z⟩ := F
                    have K := rs_stick (a := 31) (by decide) (by decide) rfl w0_z f1_z f2_z hc_z
                    replace hm_z : rn _ _ _ _ [.int 0] _ _ _ := hm_z
                    replace hm_z := rn_ifF (am_cur_of (i := (116, 3, .ifCond .ne 5, (69, 0, 0), 0)) (by decide +kernel)) (by decide) hm_z
                    replace hm_z := rn_iconst (w := 0) (am_cur_of (i := (119, 1, .iconst 0, (0, 0, 0), 0)) (by decide +kernel)) (by decide) hm_z
                    replace hm_z := rn_iret (am_cur_of (i := (120, 1, .ireturn, (0, 0, 0), 0)) (by decide +kernel)) hm_z
                    obtain ⟨e1716_z, e1717_z⟩ := hm_z
                    subst e1716_z e1717_z
                    exact Or.inr ⟨rfl, _, wv, w0_z, K.1, K.2, f3_z, f4_z⟩
                · obtain ⟨wv, w0_z, f1_z, f2_z, f3_z, f4_z⟩ := F
                  have K := rs_stick (a := 31) (by decide) (by decide) rfl w0_z f1_z f2_z hc_z
                  replace hm_z : rn _ _ _ _ [.int 0] _ _ _ := hm_z
                  replace hm_z := rn_ifF (am_cur_of (i := (116, 3, .ifCond .ne 5, (69, 0, 0), 0)) (by decide +kernel)) (by decide) hm_z
                  replace hm_z := rn_iconst (w := 0) (am_cur_of (i := (119, 1, .iconst 0, (0, 0, 0), 0)) (by decide +kernel)) (by decide) hm_z
                  replace hm_z := rn_iret (am_cur_of (i := (120, 1, .ireturn, (0, 0, 0), 0)) (by decide +kernel)) hm_z
                  obtain ⟨e1718_z, e1719_z⟩ := hm_z
                  subst e1718_z e1719_z
                  exact Or.inr ⟨rfl, _, wv, w0_z, K.1, K.2, f3_z, f4_z⟩
              · obtain ⟨wv, w0_z, f1_z, f2_z, f3_z, f4_z⟩ := F
                have K := rs_stick (a := 31) (by decide) (by decide) rfl w0_z f1_z f2_z hc_z
                replace hm_z : rn _ _ _ _ [.int 0] _ _ _ := hm_z
                replace hm_z := rn_ifF (am_cur_of (i := (116, 3, .ifCond .ne 5, (69, 0, 0), 0)) (by decide +kernel)) (by decide) hm_z
                replace hm_z := rn_iconst (w := 0) (am_cur_of (i := (119, 1, .iconst 0, (0, 0, 0), 0)) (by decide +kernel)) (by decide) hm_z
                replace hm_z := rn_iret (am_cur_of (i := (120, 1, .ireturn, (0, 0, 0), 0)) (by decide +kernel)) hm_z
                obtain ⟨e1720_z, e1721_z⟩ := hm_z
                subst e1720_z e1721_z
                exact Or.inr ⟨rfl, _, wv, w0_z, K.1, K.2, f3_z, f4_z⟩
          · replace b1599_z : ¬ i2_z = ((-1) : Int32) ∧ ¬ i2_z.toInt = ((-1) : Int32).toInt := b1599_z
            replace hc_z := rn_aload_n (am_cur_of (i := (38, 1, .aload_n 0, (0, 0, 0), 0)) (by decide +kernel)) g0_z hc_z
            replace hc_z := rn_iconst (w := 3) (am_cur_of (i := (39, 1, .iconst 3, (0, 0, 0), 0)) (by decide +kernel)) (by decide) hc_z
            replace hc_z := rn_callV (M' := am_m29) (o := 44) (ar := [.int 3]) (rest := []) (L := lv_args 0 [.ref 44, .int 3]) (am_cur_of (i := (40, 3, .invokevirtual 108, (29, 769, 3), 0)) (by decide +kernel)) rfl rfl rfl rfl hc_z
            obtain ⟨r1722_z, h1723_z, q1724_z, hc_z⟩ := hc_z
            obtain ⟨rfl, yq1724_z⟩ := rp_fail R4 q1724_z
            subst yq1724_z
            replace hc_z : rn _ _ _ _ [] _ _ _ := hc_z
            have K := rs_stick (w := 3) (a := 31) (by decide) (by decide) rfl (by decide) rfl rfl hc_z
            replace hm_z := rn_aload_n (am_cur_of (i := (18, 1, .aload_n 0, (0, 0, 0), 0)) (by decide +kernel)) g0m hm_z
            replace hm_z := rn_aload_n (am_cur_of (i := (19, 1, .aload_n 0, (0, 0, 0), 0)) (by decide +kernel)) g0m hm_z
            replace hm_z := rn_getR (x := 169) (am_cur_of (i := (20, 3, .getfield 27, (12, 24, 1408), 0)) (by decide +kernel)) (by decide +kernel) hm_z
            replace hm_z := rn_iconst (w := 4) (am_cur_of (i := (23, 1, .iconst 4, (0, 0, 0), 0)) (by decide +kernel)) (by decide) hm_z
            replace hm_z := rn_aload_n (am_cur_of (i := (24, 1, .aload_n 0, (0, 0, 0), 0)) (by decide +kernel)) g0m hm_z
            replace hm_z := rn_getI (v := 2) (am_cur_of (i := (25, 3, .getfield 201, (12, 17, 1401), 0)) (by decide +kernel)) (by decide +kernel) (nb1_z.symm.trans ecb) hm_z
            replace hm_z := rn_callV (M' := am_m164) (o := 164) (ar := [.int 2, .int 4, .ref 169]) (rest := []) (L := lv_args 0 [.ref 164, .ref 169, .int 4, .int 2]) (am_cur_of (i := (28, 3, .invokevirtual 248, (164, 1688, 3), 0)) (by decide +kernel)) rfl rfl rfl rfl hm_z
            obtain ⟨r1725_z, h1726_z, q1727_z, hm_z⟩ := hm_z
            rcases rp_newB (nb := 2) (by omega) (by omega) q1727_z with ⟨y1_z, rfl, y3_z⟩ | ⟨y1_z, rfl, y3_z, y4_z, y5_z, y6_z⟩ | ⟨y1_z, rfl, y5_z, y4_z, y6_z, y7_z⟩
            · exact absurd k2_z.1 y1_z
            · subst y3_z
              replace hm_z : rn _ _ _ _ [.int 0] _ _ _ := hm_z
              replace hm_z := rn_ifF (am_cur_of (i := (31, 3, .ifCond .ne 5, (20, 0, 0), 0)) (by decide +kernel)) (by decide) hm_z
              replace hm_z := rn_iconst (w := 0) (am_cur_of (i := (34, 1, .iconst 0, (0, 0, 0), 0)) (by decide +kernel)) (by decide) hm_z
              replace hm_z := rn_iret (am_cur_of (i := (35, 1, .ireturn, (0, 0, 0), 0)) (by decide +kernel)) hm_z
              obtain ⟨e1728_z, e1729_z⟩ := hm_z
              subst e1728_z e1729_z
              exact Or.inr ⟨rfl, _, 3, by decide, K.1, K.2.trans R5, rfl, R6⟩
            · exact absurd (rp_fm_u hi2_z (k2_z.2 ▸ y5_z) names) b1599_z.1
        · have K := rs_stick (a := 31) (by decide) (by decide) rfl (by decide) f1_z f2_z hc_z
          have k2_z := tk_n3 R10 k3_z
          replace hm_z := rn_aload_n (am_cur_of (i := (18, 1, .aload_n 0, (0, 0, 0), 0)) (by decide +kernel)) g0m hm_z
          replace hm_z := rn_aload_n (am_cur_of (i := (19, 1, .aload_n 0, (0, 0, 0), 0)) (by decide +kernel)) g0m hm_z
          replace hm_z := rn_getR (x := 169) (am_cur_of (i := (20, 3, .getfield 27, (12, 24, 1408), 0)) (by decide +kernel)) (by decide +kernel) hm_z
          replace hm_z := rn_iconst (w := 4) (am_cur_of (i := (23, 1, .iconst 4, (0, 0, 0), 0)) (by decide +kernel)) (by decide) hm_z
          replace hm_z := rn_aload_n (am_cur_of (i := (24, 1, .aload_n 0, (0, 0, 0), 0)) (by decide +kernel)) g0m hm_z
          replace hm_z := rn_getI (v := 2) (am_cur_of (i := (25, 3, .getfield 201, (12, 17, 1401), 0)) (by decide +kernel)) (by decide +kernel) (nb1_z.symm.trans ecb) hm_z
          replace hm_z := rn_callV (M' := am_m164) (o := 164) (ar := [.int 2, .int 4, .ref 169]) (rest := []) (L := lv_args 0 [.ref 164, .ref 169, .int 4, .int 2]) (am_cur_of (i := (28, 3, .invokevirtual 248, (164, 1688, 3), 0)) (by decide +kernel)) rfl rfl rfl rfl hm_z
          obtain ⟨r1730_z, h1731_z, q1732_z, hm_z⟩ := hm_z
          rcases rp_newB (nb := 2) (by omega) (by omega) q1732_z with ⟨y1_z, rfl, y3_z⟩ | ⟨y1_z, rfl, y3_z, y4_z, y5_z, y6_z⟩ | ⟨y1_z, rfl, y5_z, y4_z, y6_z, y7_z⟩
          · subst y3_z
            replace hm_z : rn _ _ _ _ [.int 0] _ _ _ := hm_z
            replace hm_z := rn_ifF (am_cur_of (i := (31, 3, .ifCond .ne 5, (20, 0, 0), 0)) (by decide +kernel)) (by decide) hm_z
            replace hm_z := rn_iconst (w := 0) (am_cur_of (i := (34, 1, .iconst 0, (0, 0, 0), 0)) (by decide +kernel)) (by decide) hm_z
            replace hm_z := rn_iret (am_cur_of (i := (35, 1, .ireturn, (0, 0, 0), 0)) (by decide +kernel)) hm_z
            obtain ⟨e1733_z, e1734_z⟩ := hm_z
            subst e1733_z e1734_z
            exact Or.inr ⟨rfl, _, 1, by decide, K.1, K.2.trans R5, rfl, R6⟩
          · exact absurd y1_z k2_z
          · exact absurd y1_z k2_z
      · obtain rfl : cb = 3 := rt_i32 (q4_z.trans (by decide))
        replace hc_z := rn_ifF (am_cur_of (i := (12, 3, .ifCond .eq 10, (10, 0, 0), 0)) (by decide +kernel)) (by decide) hc_z
        replace hc_z := rn_aload_n (am_cur_of (i := (15, 1, .aload_n 0, (0, 0, 0), 0)) (by decide +kernel)) g0_z hc_z
        replace hc_z := rn_callV (M' := am_m33) (o := 44) (ar := []) (rest := []) (L := lv_args 0 [.ref 44]) (am_cur_of (i := (16, 3, .invokevirtual 158, (33, 785, 3), 0)) (by decide +kernel)) rfl rfl rfl rfl hc_z
        obtain ⟨r1735_z, h1736_z, q1737_z, hc_z⟩ := hc_z
        rcases rp_own R4 q1737_z with ⟨k3_z, rfl, eh⟩ | ⟨k3_z, f1_z, f2_z⟩
        · replace eh := eh.symm
          subst eh
          have k2_z := tk_3 R10 k3_z
          replace hc_z : rn _ _ _ _ [.int 1] _ _ _ := hc_z
          replace hc_z := rn_ifT (am_cur_of (i := (19, 3, .ifCond .ne 4, (11, 0, 0), 0)) (by decide +kernel)) (by decide) hc_z
          replace hc_z := rn_aload_n (am_cur_of (i := (23, 1, .aload_n 0, (0, 0, 0), 0)) (by decide +kernel)) g0_z hc_z
          replace hc_z := rn_getM (x := 23) (am_cur_of (i := (24, 3, .getfield 25, (4, 6, 415), 0)) (by decide +kernel)) R3 hc_z
          replace hc_z := rn_aload_n (am_cur_of (i := (27, 1, .aload_n 0, (0, 0, 0), 0)) (by decide +kernel)) g0_z hc_z
          replace hc_z := rn_getI (v := rg_v h1297_z 44 11) (am_cur_of (i := (28, 3, .getfield 91, (4, 11, 420), 0)) (by decide +kernel)) (by decide +kernel) rfl hc_z
          replace hc_z := rn_callV (M' := am_m34) (o := 23) (ar := [.int (rg_v h1297_z 44 11)]) (rest := []) (L := lv_args 0 [.ref 23, .int (rg_v h1297_z 44 11)]) (am_cur_of (i := (31, 3, .invokevirtual 162, (34, 789, 3), 0)) (by decide +kernel)) rfl rfl rfl rfl hc_z
          obtain ⟨r1738_z, h1739_z, q1740_z, hc_z⟩ := hc_z
          obtain ⟨eh, i2_z, rfl, hi2_z⟩ := rp_bn23 ecb (by omega) q1740_z
          replace eh := eh.symm
          subst eh
          have hib := rp_fm_b hi2_z (by omega)
          have names : ∀ b : Nat, (b : Int) < (3 : Int32).toInt → rg_v h1297_z (40 + b) 0 = rg_v h1307_z 169 (4 + b) := by
            intro b hb_z
            match b with
            | 0 => exact AC0 (by rw [ecb]; exact hb_z) 0 (by decide)
            | 1 => exact AC1 (by rw [ecb]; exact hb_z) 0 (by decide)
            | 2 => exact AC2 (by rw [ecb]; exact hb_z) 0 (by decide)
            | 3 => exact AC3 (by rw [ecb]; exact hb_z) 0 (by decide)
            | b + 4 => omega
          replace hc_z : rn _ _ _ _ [.int i2_z] _ _ _ := hc_z
          replace hc_z := rn_iconst (w := (-1)) (am_cur_of (i := (34, 1, .iconst (-1), (0, 0, 0), 0)) (by decide +kernel)) (by decide) hc_z
          replace hc_z := rn_cmp (am_cur_of (i := (35, 3, .if_icmp .eq 9, (22, 0, 0), 0)) (by decide +kernel)) hc_z
          rcases hc_z with ⟨b1741_z, hc_z⟩ | ⟨b1741_z, hc_z⟩
          · replace b1741_z : i2_z = ((-1) : Int32) ∧ i2_z.toInt = ((-1) : Int32).toInt := b1741_z
            replace hc_z := rn_aload_n (am_cur_of (i := (44, 1, .aload_n 0, (0, 0, 0), 0)) (by decide +kernel)) g0_z hc_z
            replace hc_z := rn_getM (x := 23) (am_cur_of (i := (45, 3, .getfield 25, (4, 6, 415), 0)) (by decide +kernel)) R3 hc_z
            replace hc_z := rn_getR (x := 24) (am_cur_of (i := (48, 3, .getfield 166, (1, 3, 265), 0)) (by decide +kernel)) (by decide +kernel) hc_z
            replace hc_z := rn_aload_n (am_cur_of (i := (51, 1, .aload_n 0, (0, 0, 0), 0)) (by decide +kernel)) g0_z hc_z
            replace hc_z := rn_getM (x := 23) (am_cur_of (i := (52, 3, .getfield 25, (4, 6, 415), 0)) (by decide +kernel)) R3 hc_z
            replace hc_z := rn_getI (v := 3) (am_cur_of (i := (55, 3, .getfield 151, (1, 2, 259), 0)) (by decide +kernel)) (by decide +kernel) ecb hc_z
            replace hc_z := rn_aaload (s := "AirBed$Blower") (N := 4) (q := 3) (am_cur_of (i := (58, 1, .aaload, (0, 0, 0), 0)) (by decide +kernel)) (by decide +kernel) rfl hc_z
            obtain ⟨p1742_z, hc_z⟩ := hc_z
            rw [show rg_r h1297_z 24 3 = 43 from rp_bc23 (rn_G hc_z) (q := 3) (by decide)] at hc_z
            replace hc_z := rn_astore_n (am_cur_of (i := (59, 1, .astore_n 1, (0, 0, 0), 0)) (by decide +kernel)) hc_z
            obtain ⟨_, s1743_z, s1744_z, g1_z, hc_z⟩ := hc_z
            replace g0_z := s1743_z 0 _ (by decide) rfl g0_z
            clear s1743_z s1744_z
            replace hc_z := rn_aload_n (am_cur_of (i := (60, 1, .aload_n 1, (0, 0, 0), 0)) (by decide +kernel)) g1_z hc_z
            replace hc_z := rn_aload_n (am_cur_of (i := (61, 1, .aload_n 0, (0, 0, 0), 0)) (by decide +kernel)) g0_z hc_z
            replace hc_z := rn_getI (v := rg_v h1297_z 44 11) (am_cur_of (i := (62, 3, .getfield 91, (4, 11, 420), 0)) (by decide +kernel)) (by decide +kernel) rfl hc_z
            replace hc_z := rn_put (am_cur_of (i := (65, 3, .putfield 170, (3, 0, 204), 0)) (by decide +kernel)) (by decide +kernel) hc_z
            replace hc_z := rn_aload_n (am_cur_of (i := (68, 1, .aload_n 0, (0, 0, 0), 0)) (by decide +kernel)) g0_z hc_z
            replace hc_z := rn_callV (M' := am_m19) (o := 44) (ar := []) (rest := []) (L := lv_args 0 [.ref 44]) (am_cur_of (i := (69, 3, .invokevirtual 57, (19, 727, 3), 0)) (by decide +kernel)) rfl rfl rfl rfl hc_z
            obtain ⟨r1745_z, h1746_z, q1747_z, hc_z⟩ := hc_z
            have vo := rn_void rfl q1747_z
            subst vo
            replace hm_z := rn_aload_n (am_cur_of (i := (18, 1, .aload_n 0, (0, 0, 0), 0)) (by decide +kernel)) g0m hm_z
            replace hm_z := rn_aload_n (am_cur_of (i := (19, 1, .aload_n 0, (0, 0, 0), 0)) (by decide +kernel)) g0m hm_z
            replace hm_z := rn_getR (x := 169) (am_cur_of (i := (20, 3, .getfield 27, (12, 24, 1408), 0)) (by decide +kernel)) (by decide +kernel) hm_z
            replace hm_z := rn_iconst (w := 4) (am_cur_of (i := (23, 1, .iconst 4, (0, 0, 0), 0)) (by decide +kernel)) (by decide) hm_z
            replace hm_z := rn_aload_n (am_cur_of (i := (24, 1, .aload_n 0, (0, 0, 0), 0)) (by decide +kernel)) g0m hm_z
            replace hm_z := rn_getI (v := 3) (am_cur_of (i := (25, 3, .getfield 201, (12, 17, 1401), 0)) (by decide +kernel)) (by decide +kernel) (nb1_z.symm.trans ecb) hm_z
            replace hm_z := rn_callV (M' := am_m164) (o := 164) (ar := [.int 3, .int 4, .ref 169]) (rest := []) (L := lv_args 0 [.ref 164, .ref 169, .int 4, .int 3]) (am_cur_of (i := (28, 3, .invokevirtual 248, (164, 1688, 3), 0)) (by decide +kernel)) rfl rfl rfl rfl hm_z
            obtain ⟨r1748_z, h1749_z, q1750_z, hm_z⟩ := hm_z
            rcases rp_newB (nb := 3) (by omega) (by omega) q1750_z with ⟨y1_z, rfl, y3_z⟩ | ⟨y1_z, rfl, y3_z, y4_z, y5_z, y6_z⟩ | ⟨y1_z, rfl, y5_z, y4_z, y6_z, y7_z⟩
            · exact absurd k2_z.1 y1_z
            · have ei := rp_fm_u hi2_z (k2_z.2 ▸ y5_z) names
              rw [← ei] at y6_z
              omega
            · have vo := rn_void rfl y7_z
              subst vo
              have R' : rq T S x1_z p1_z 23 (am_up h1297_z 43 0 (.int (rg_v h1297_z 44 11))) (am_up h1307_z 169 7 (.int (rg_v h1307_z 164 9))) := ⟨⟨c1_z, c2_z, c3_z, c4_z, c5_z, c6_z, fun k hk_z => c7_z k hk_z, fun k hk_z => c8_z k hk_z⟩, ⟨m2_z, m3_z, m4_z, m5_z, m6_z, fun k hk_z => m7_z k hk_z, fun k hk_z => m8_z k hk_z⟩, R3, R4, R5, R6, R7, R8, R9, R10⟩
              have A' : rp 23 (am_up h1297_z 43 0 (.int (rg_v h1297_z 44 11))) (am_up h1307_z 169 7 (.int (rg_v h1307_z 164 9))) := ⟨⟨a1_z, a2_z, a3_z, a4_z, a5_z, a6_z⟩, ⟨nb1_z, nb2_z, nb3_z⟩, ⟨nt1_z, nt2_z, nt3_z⟩, ⟨nl1_z, nl2_z, nl3_z⟩, ⟨nr1_z, nr2_z, nr3_z⟩, ⟨nk1_z, nk2_z, nk3_z⟩, ⟨fun hb_z k hk_z => AC0 hb_z k hk_z, fun hb_z k hk_z => AC1 hb_z k hk_z, fun hb_z k hk_z => AC2 hb_z k hk_z, fun hb_z => absurd hb_z (by rw [show rg_v (am_up h1297_z 43 0 (.int (rg_v h1297_z 44 11))) 23 2 = 3 from ecb]; decide)⟩, fun t ht => AD t ht, fun t ht => AE t ht, fun t ht => AG t ht⟩
              have B' : rp_t (am_up h1297_z 43 0 (.int (rg_v h1297_z 44 11))) (am_up h1307_z 169 7 (.int (rg_v h1307_z 164 9))) := by
                obtain ⟨b0_z, b1_z, b2_z, b3_z, b4_z, b5_z, b6_z, t, o0_z, o1_z, o2_z, o3_z, o4_z, o5_z, o6_z⟩ := B
                exact ⟨b0_z, b1_z, b2_z, b3_z, b4_z, b5_z, b6_z, t, o0_z, o1_z, o2_z, o3_z, o4_z, o5_z, o6_z⟩
              obtain ⟨-, -, x26_z, p26_z, R, le26_z, t5_z, t6_z⟩ := pr_tok (rq_0 R') q1747_z y7_z
              replace A := rp_x (by decide) A' (rx_C_f t5_z) (rx_M_f t6_z)
              replace B := rp_tk B' (rg_v_fr t5_z (by decide)) (fun k => rg_v_fr t6_z (rg_v_in (by decide) k)) (rx_M_f t6_z)
              clear A' B' R'
              replace le26_z : x.toInt ≤ p26_z.toInt := Int.le_trans (Int.le_trans le1_z R8) le26_z
              replace ecb : rg_v h1746_z 23 2 = 3 := (rx_v (rx_C_f t5_z) (o := 23) (k := 2) (by decide)).trans ecb
              replace ect : rg_v h1746_z 23 4 = ct := (rx_v (rx_C_f t5_z) (o := 23) (k := 4) (by decide)).trans ect
              replace ecl : rg_v h1746_z 23 9 = cl := (rx_v (rx_C_f t5_z) (o := 23) (k := 9) (by decide)).trans ecl
              replace ecr : rg_v h1746_z 23 12 = cr := (rx_v (rx_C_f t5_z) (o := 23) (k := 12) (by decide)).trans ecr
              have E0 : rg_v h1746_z 43 0 = rg_v h1749_z 169 7 := (rx_v (rx_C_f t5_z) (o := 43) (k := 0) (by decide)).trans (Eq.trans (k2_z.2) (rx_w (rx_M_f t6_z) (o := 169) (k := 7) (by omega) (by decide)).symm)
              replace hm_z : rn _ _ _ _ [.int 1] _ _ _ := hm_z
              replace hc_z : rn _ _ _ _ [] _ _ _ := hc_z
              clear a1_z a2_z a3_z a4_z a5_z a6_z nb1_z nb2_z nb3_z nt1_z nt2_z nt3_z nl1_z nl2_z nl3_z nr1_z nr2_z nr3_z nk1_z nk2_z nk3_z AC0 AC1 AC2 AC3 AD AE AG c1_z c2_z c3_z c4_z c5_z c6_z c7_z c8_z m2_z m3_z m4_z m5_z m6_z m7_z m8_z R3 R4 R5 R6 R7 R8 R9 R10
              obtain ⟨⟨⟨a1_z, a2_z, a3_z, a4_z, a5_z, a6_z⟩, ⟨nb1_z, nb2_z, nb3_z⟩, ⟨nt1_z, nt2_z, nt3_z⟩, ⟨nl1_z, nl2_z, nl3_z⟩, ⟨nr1_z, nr2_z, nr3_z⟩, ⟨nk1_z, nk2_z, nk3_z⟩, ⟨AC0, AC1, AC2, AC3⟩, AD, AE, AG⟩, ⟨⟨c1_z, c2_z, c3_z, c4_z, c5_z, c6_z, c7_z, c8_z⟩, ⟨m2_z, m3_z, m4_z, m5_z, m6_z, m7_z, m8_z⟩, R3, R4, R5, R6, R7, R8, R9, R10⟩⟩ := (⟨A, R⟩ : rp 23 h1746_z h1749_z ∧ rq T S x26_z p26_z 23 h1746_z h1749_z)
              replace hc_z := rn_aload_n (am_cur_of (i := (72, 1, .aload_n 1, (0, 0, 0), 0)) (by decide +kernel)) g1_z hc_z
              replace hc_z := rn_aload_n (am_cur_of (i := (73, 1, .aload_n 0, (0, 0, 0), 0)) (by decide +kernel)) g0_z hc_z
              replace hc_z := rn_iconst (w := 1) (am_cur_of (i := (74, 1, .iconst 1, (0, 0, 0), 0)) (by decide +kernel)) (by decide) hc_z
              replace hc_z := rn_bipush (w := 99) (am_cur_of (i := (75, 2, .bipush 99, (0, 0, 0), 0)) (by decide +kernel)) (by decide) hc_z
              replace hc_z := rn_callV (M' := am_m30) (o := 44) (ar := [.int 99, .int 1]) (rest := [.ref 43]) (L := lv_args 0 [.ref 44, .int 1, .int 99]) (am_cur_of (i := (77, 3, .invokevirtual 142, (30, 773, 3), 0)) (by decide +kernel)) rfl rfl rfl rfl hc_z
              obtain ⟨r1751_z, h1752_z, q1753_z, hc_z⟩ := hc_z
              replace hm_z := rn_ifT (am_cur_of (i := (31, 3, .ifCond .ne 5, (20, 0, 0), 0)) (by decide +kernel)) (by decide) hm_z
              replace hm_z := rn_bipush (w := 28) (am_cur_of (i := (36, 2, .bipush 28, (0, 0, 0), 0)) (by decide +kernel)) (by decide) hm_z
              replace hm_z := rn_bipush (w := 7) (am_cur_of (i := (38, 2, .bipush 7, (0, 0, 0), 0)) (by decide +kernel)) (by decide) hm_z
              replace hm_z := rn_aload_n (am_cur_of (i := (40, 1, .aload_n 0, (0, 0, 0), 0)) (by decide +kernel)) g0m hm_z
              replace hm_z := rn_getI (v := 3) (am_cur_of (i := (41, 3, .getfield 201, (12, 17, 1401), 0)) (by decide +kernel)) (by decide +kernel) (nb1_z.symm.trans ecb) hm_z
              replace hm_z := rn_imul (w := 21) (am_cur_of (i := (44, 1, .imul, (0, 0, 0), 0)) (by decide +kernel)) (by decide) hm_z
              replace hm_z := rn_iadd (w := 49) (am_cur_of (i := (45, 1, .iadd, (0, 0, 0), 0)) (by decide +kernel)) (by decide) hm_z
              replace hm_z := rn_istore_n (am_cur_of (i := (46, 1, .istore_n 1, (0, 0, 0), 0)) (by decide +kernel)) hm_z
              obtain ⟨_, s1754_z, s1755_z, g1m, hm_z⟩ := hm_z
              replace g0m := s1754_z 0 _ (by decide) rfl g0m
              clear s1754_z s1755_z
              replace hm_z := rn_iconst (w := 0) (am_cur_of (i := (47, 1, .iconst 0, (0, 0, 0), 0)) (by decide +kernel)) (by decide) hm_z
              replace hm_z := rn_istore_n (am_cur_of (i := (48, 1, .istore_n 2, (0, 0, 0), 0)) (by decide +kernel)) hm_z
              obtain ⟨_, s1756_z, s1757_z, g2m, hm_z⟩ := hm_z
              replace g0m := s1756_z 0 _ (by decide) rfl g0m
              replace g1m := s1756_z 1 _ (by decide) rfl g1m
              clear s1756_z s1757_z
              replace hm_z := rn_iload_n (am_cur_of (i := (49, 1, .iload_n 2, (0, 0, 0), 0)) (by decide +kernel)) g2m hm_z
              replace hm_z := rn_bipush (w := 7) (am_cur_of (i := (50, 2, .bipush 7, (0, 0, 0), 0)) (by decide +kernel)) (by decide) hm_z
              replace hm_z := rn_cmpF (am_cur_of (i := (52, 3, .if_icmp .ge 87, (79, 0, 0), 0)) (by decide +kernel)) (by decide) hm_z
              replace hm_z := rn_iload_n (am_cur_of (i := (55, 1, .iload_n 2, (0, 0, 0), 0)) (by decide +kernel)) g2m hm_z
              replace hm_z := rn_ifT (am_cur_of (i := (56, 3, .ifCond .eq 13, (40, 0, 0), 0)) (by decide +kernel)) (by decide) hm_z
              replace hm_z := rn_iconst (w := 1) (am_cur_of (i := (69, 1, .iconst 1, (0, 0, 0), 0)) (by decide +kernel)) (by decide) hm_z
              replace hm_z := rn_goto (am_cur_of (i := (70, 3, .goto 4, (43, 0, 0), 0)) (by decide +kernel)) hm_z
              replace hm_z := rn_istore_n (am_cur_of (i := (74, 1, .istore_n 3, (0, 0, 0), 0)) (by decide +kernel)) hm_z
              obtain ⟨_, s1758_z, s1759_z, g3m, hm_z⟩ := hm_z
              replace g0m := s1758_z 0 _ (by decide) rfl g0m
              replace g1m := s1758_z 1 _ (by decide) rfl g1m
              replace g2m := s1758_z 2 _ (by decide) rfl g2m
              clear s1758_z s1759_z
              replace hm_z := rn_iload_n (am_cur_of (i := (75, 1, .iload_n 2, (0, 0, 0), 0)) (by decide +kernel)) g2m hm_z
              replace hm_z := rn_iconst (w := 1) (am_cur_of (i := (76, 1, .iconst 1, (0, 0, 0), 0)) (by decide +kernel)) (by decide) hm_z
              replace hm_z := rn_cmpF (am_cur_of (i := (77, 3, .if_icmp .eq 8, (50, 0, 0), 0)) (by decide +kernel)) (by decide) hm_z
              replace hm_z := rn_iload_n (am_cur_of (i := (80, 1, .iload_n 2, (0, 0, 0), 0)) (by decide +kernel)) g2m hm_z
              replace hm_z := rn_iconst (w := 2) (am_cur_of (i := (81, 1, .iconst 2, (0, 0, 0), 0)) (by decide +kernel)) (by decide) hm_z
              replace hm_z := rn_cmpT (am_cur_of (i := (82, 3, .if_icmp .ne 8, (52, 0, 0), 0)) (by decide +kernel)) (by decide) hm_z
              replace hm_z := rn_iload_n (am_cur_of (i := (90, 1, .iload_n 2, (0, 0, 0), 0)) (by decide +kernel)) g2m hm_z
              replace hm_z := rn_iconst (w := 3) (am_cur_of (i := (91, 1, .iconst 3, (0, 0, 0), 0)) (by decide +kernel)) (by decide) hm_z
              replace hm_z := rn_cmpF (am_cur_of (i := (92, 3, .if_icmp .eq 8, (58, 0, 0), 0)) (by decide +kernel)) (by decide) hm_z
              replace hm_z := rn_iload_n (am_cur_of (i := (95, 1, .iload_n 2, (0, 0, 0), 0)) (by decide +kernel)) g2m hm_z
              replace hm_z := rn_iconst (w := 5) (am_cur_of (i := (96, 1, .iconst 5, (0, 0, 0), 0)) (by decide +kernel)) (by decide) hm_z
              replace hm_z := rn_cmpT (am_cur_of (i := (97, 3, .if_icmp .ne 8, (60, 0, 0), 0)) (by decide +kernel)) (by decide) hm_z
              replace hm_z := rn_bipush (w := 99) (am_cur_of (i := (105, 2, .bipush 99, (0, 0, 0), 0)) (by decide +kernel)) (by decide) hm_z
              replace hm_z := rn_istore (am_cur_of (i := (107, 2, .istore 4, (0, 0, 0), 0)) (by decide +kernel)) hm_z
              obtain ⟨_, s1760_z, s1761_z, g4m, hm_z⟩ := hm_z
              replace g0m := s1760_z 0 _ (by decide) rfl g0m
              replace g1m := s1760_z 1 _ (by decide) rfl g1m
              replace g2m := s1760_z 2 _ (by decide) rfl g2m
              replace g3m := s1760_z 3 _ (by decide) rfl g3m
              clear s1760_z s1761_z
              replace hm_z := rn_aload_n (am_cur_of (i := (109, 1, .aload_n 0, (0, 0, 0), 0)) (by decide +kernel)) g0m hm_z
              replace hm_z := rn_iload_n (am_cur_of (i := (110, 1, .iload_n 3, (0, 0, 0), 0)) (by decide +kernel)) g3m hm_z
              replace hm_z := rn_iload (am_cur_of (i := (111, 2, .iload 4, (0, 0, 0), 0)) (by decide +kernel)) g4m hm_z
              replace hm_z := rn_callV (M' := am_m161) (o := 164) (ar := [.int 99, .int 1]) (rest := []) (L := lv_args 0 [.ref 164, .int 1, .int 99]) (am_cur_of (i := (113, 3, .invokevirtual 197, (161, 1677, 3), 0)) (by decide +kernel)) rfl rfl rfl rfl hm_z
              obtain ⟨r1762_z, h1763_z, q1764_z, hm_z⟩ := hm_z
              have R' : rq T S x26_z p26_z 23 h1746_z h1749_z := ⟨⟨c1_z, c2_z, c3_z, c4_z, c5_z, c6_z, fun k hk_z => c7_z k hk_z, fun k hk_z => c8_z k hk_z⟩, ⟨m2_z, m3_z, m4_z, m5_z, m6_z, fun k hk_z => m7_z k hk_z, fun k hk_z => m8_z k hk_z⟩, R3, R4, R5, R6, R7, R8, R9, R10⟩
              have A' : rp 23 h1746_z h1749_z := ⟨⟨a1_z, a2_z, a3_z, a4_z, a5_z, a6_z⟩, ⟨nb1_z, nb2_z, nb3_z⟩, ⟨nt1_z, nt2_z, nt3_z⟩, ⟨nl1_z, nl2_z, nl3_z⟩, ⟨nr1_z, nr2_z, nr3_z⟩, ⟨nk1_z, nk2_z, nk3_z⟩, ⟨(fun hb_z k hk_z => by match k, hk_z with | 0, _ => exact AC0 hb_z 0 (by decide) | 1, _ => exact AC0 hb_z 1 (by decide) | 2, _ => exact AC0 hb_z 2 (by decide) | 3, _ => exact AC0 hb_z 3 (by decide) | 4, _ => exact AC0 hb_z 4 (by decide) | 5, _ => exact AC0 hb_z 5 (by decide) | 6, _ => exact AC0 hb_z 6 (by decide) | 7, _ => exact AC0 hb_z 7 (by decide)), (fun hb_z k hk_z => by match k, hk_z with | 0, _ => exact AC1 hb_z 0 (by decide) | 1, _ => exact AC1 hb_z 1 (by decide) | 2, _ => exact AC1 hb_z 2 (by decide) | 3, _ => exact AC1 hb_z 3 (by decide) | 4, _ => exact AC1 hb_z 4 (by decide) | 5, _ => exact AC1 hb_z 5 (by decide) | 6, _ => exact AC1 hb_z 6 (by decide) | 7, _ => exact AC1 hb_z 7 (by decide)), (fun hb_z k hk_z => by match k, hk_z with | 0, _ => exact AC2 hb_z 0 (by decide) | 1, _ => exact AC2 hb_z 1 (by decide) | 2, _ => exact AC2 hb_z 2 (by decide) | 3, _ => exact AC2 hb_z 3 (by decide) | 4, _ => exact AC2 hb_z 4 (by decide) | 5, _ => exact AC2 hb_z 5 (by decide) | 6, _ => exact AC2 hb_z 6 (by decide) | 7, _ => exact AC2 hb_z 7 (by decide)), fun hb_z => absurd hb_z (by rw [show rg_v h1746_z 23 2 = 3 from ecb]; decide)⟩, fun t ht => AD t ht, fun t ht => AE t ht, fun t ht => AG t ht⟩
              have B' : rp_t h1746_z h1749_z := by
                obtain ⟨b0_z, b1_z, b2_z, b3_z, b4_z, b5_z, b6_z, t, o0_z, o1_z, o2_z, o3_z, o4_z, o5_z, o6_z⟩ := B
                exact ⟨b0_z, b1_z, b2_z, b3_z, b4_z, b5_z, b6_z, t, o0_z, o1_z, o2_z, o3_z, o4_z, o5_z, o6_z⟩
              rcases pr_num R' (by decide) (by decide) q1753_z q1764_z with ⟨v27_z, x27_z, p27_z, rfl, rfl, lo27_z, hi27_z, R, le27_z, got, X, Y, t7_z, t167_z⟩ | ⟨rfl, F⟩
              · replace A := rp_x (by decide) A' X Y
                replace B := rp_tk B' t7_z t167_z Y
                clear A' B' R'
                replace le27_z : x.toInt ≤ p27_z.toInt := Int.le_trans (Int.le_trans le26_z R8) le27_z
                replace ecb : rg_v h1752_z 23 2 = 3 := (rx_v X (o := 23) (k := 2) (by decide)).trans ecb
                replace ect : rg_v h1752_z 23 4 = ct := (rx_v X (o := 23) (k := 4) (by decide)).trans ect
                replace ecl : rg_v h1752_z 23 9 = cl := (rx_v X (o := 23) (k := 9) (by decide)).trans ecl
                replace ecr : rg_v h1752_z 23 12 = cr := (rx_v X (o := 23) (k := 12) (by decide)).trans ecr
                replace E0 : rg_v h1752_z 43 0 = rg_v h1763_z 169 7 := (rx_v X (o := 43) (k := 0) (by decide)).trans (E0.trans (rx_w Y (o := 169) (k := 7) (by omega) (by decide)).symm)
                replace hm_z : rn _ _ _ _ [.int 1] _ _ _ := hm_z
                replace hc_z : rn _ _ _ _ [.int v27_z, .ref 43] _ _ _ := hc_z
                clear a1_z a2_z a3_z a4_z a5_z a6_z nb1_z nb2_z nb3_z nt1_z nt2_z nt3_z nl1_z nl2_z nl3_z nr1_z nr2_z nr3_z nk1_z nk2_z nk3_z AC0 AC1 AC2 AC3 AD AE AG c1_z c2_z c3_z c4_z c5_z c6_z c7_z c8_z m2_z m3_z m4_z m5_z m6_z m7_z m8_z R3 R4 R5 R6 R7 R8 R9 R10
                obtain ⟨⟨⟨a1_z, a2_z, a3_z, a4_z, a5_z, a6_z⟩, ⟨nb1_z, nb2_z, nb3_z⟩, ⟨nt1_z, nt2_z, nt3_z⟩, ⟨nl1_z, nl2_z, nl3_z⟩, ⟨nr1_z, nr2_z, nr3_z⟩, ⟨nk1_z, nk2_z, nk3_z⟩, ⟨AC0, AC1, AC2, AC3⟩, AD, AE, AG⟩, ⟨⟨c1_z, c2_z, c3_z, c4_z, c5_z, c6_z, c7_z, c8_z⟩, ⟨m2_z, m3_z, m4_z, m5_z, m6_z, m7_z, m8_z⟩, R3, R4, R5, R6, R7, R8, R9, R10⟩⟩ := (⟨A, R⟩ : rp 23 h1752_z h1763_z ∧ rq T S x27_z p27_z 23 h1752_z h1763_z)
                replace hc_z := rn_put (am_cur_of (i := (80, 3, .putfield 175, (3, 1, 206), 0)) (by decide +kernel)) (by decide +kernel) hc_z
                replace hc_z := rn_aload_n (am_cur_of (i := (83, 1, .aload_n 1, (0, 0, 0), 0)) (by decide +kernel)) g1_z hc_z
                replace hc_z := rn_aload_n (am_cur_of (i := (84, 1, .aload_n 0, (0, 0, 0), 0)) (by decide +kernel)) g0_z hc_z
                replace hc_z := rn_iconst (w := 0) (am_cur_of (i := (85, 1, .iconst 0, (0, 0, 0), 0)) (by decide +kernel)) (by decide) hc_z
                replace hc_z := rn_bipush (w := 20) (am_cur_of (i := (86, 2, .bipush 20, (0, 0, 0), 0)) (by decide +kernel)) (by decide) hc_z
                replace hc_z := rn_callV (M' := am_m30) (o := 44) (ar := [.int 20, .int 0]) (rest := [.ref 43]) (L := lv_args 0 [.ref 44, .int 0, .int 20]) (am_cur_of (i := (88, 3, .invokevirtual 142, (30, 773, 3), 0)) (by decide +kernel)) rfl rfl rfl rfl hc_z
                obtain ⟨r1765_z, h1766_z, q1767_z, hc_z⟩ := hc_z
                replace hm_z := rn_ifT (am_cur_of (i := (116, 3, .ifCond .ne 5, (69, 0, 0), 0)) (by decide +kernel)) (by decide) hm_z
                replace hm_z := rn_aload_n (am_cur_of (i := (121, 1, .aload_n 0, (0, 0, 0), 0)) (by decide +kernel)) g0m hm_z
                replace hm_z := rn_getR (x := 170) (am_cur_of (i := (122, 3, .getfield 30, (12, 25, 1409), 0)) (by decide +kernel)) (by decide +kernel) hm_z
                replace hm_z := rn_iload_n (am_cur_of (i := (125, 1, .iload_n 1, (0, 0, 0), 0)) (by decide +kernel)) g1m hm_z
                replace hm_z := rn_iload_n (am_cur_of (i := (126, 1, .iload_n 2, (0, 0, 0), 0)) (by decide +kernel)) g2m hm_z
                replace hm_z := rn_iadd (w := 49) (am_cur_of (i := (127, 1, .iadd, (0, 0, 0), 0)) (by decide +kernel)) (by decide) hm_z
                replace hm_z := rn_aload_n (am_cur_of (i := (128, 1, .aload_n 0, (0, 0, 0), 0)) (by decide +kernel)) g0m hm_z
                replace hm_z := rn_getI (v := v27_z) (am_cur_of (i := (129, 3, .getfield 188, (12, 11, 1395), 0)) (by decide +kernel)) (by decide +kernel) got hm_z
                replace hm_z := rn_iastore (N := 56) (q := 49) (am_cur_of (i := (132, 1, .iastore, (0, 0, 0), 0)) (by decide +kernel)) (by decide +kernel) rfl hm_z
                obtain ⟨p1768_z, hm_z⟩ := hm_z
                replace hm_z := rn_iinc (w := 1) (am_cur_of (i := (133, 3, .iinc 2 1, (0, 0, 0), 0)) (by decide +kernel)) g2m (by decide) hm_z
                obtain ⟨_, s1769_z, s1770_z, g2m, hm_z⟩ := hm_z
                replace g0m := s1769_z 0 _ (by decide) rfl g0m
                replace g1m := s1769_z 1 _ (by decide) rfl g1m
                replace g3m := s1769_z 3 _ (by decide) rfl g3m
                replace g4m := s1769_z 4 _ (by decide) rfl g4m
                clear s1769_z s1770_z
                replace hm_z := rn_goto (am_cur_of (i := (136, 3, .goto (-87), (29, 0, 0), 0)) (by decide +kernel)) hm_z
                replace hm_z := rn_iload_n (am_cur_of (i := (49, 1, .iload_n 2, (0, 0, 0), 0)) (by decide +kernel)) g2m hm_z
                replace hm_z := rn_bipush (w := 7) (am_cur_of (i := (50, 2, .bipush 7, (0, 0, 0), 0)) (by decide +kernel)) (by decide) hm_z
                replace hm_z := rn_cmpF (am_cur_of (i := (52, 3, .if_icmp .ge 87, (79, 0, 0), 0)) (by decide +kernel)) (by decide) hm_z
                replace hm_z := rn_iload_n (am_cur_of (i := (55, 1, .iload_n 2, (0, 0, 0), 0)) (by decide +kernel)) g2m hm_z
                replace hm_z := rn_ifF (am_cur_of (i := (56, 3, .ifCond .eq 13, (40, 0, 0), 0)) (by decide +kernel)) (by decide) hm_z
                replace hm_z := rn_iload_n (am_cur_of (i := (59, 1, .iload_n 2, (0, 0, 0), 0)) (by decide +kernel)) g2m hm_z
                replace hm_z := rn_iconst (w := 2) (am_cur_of (i := (60, 1, .iconst 2, (0, 0, 0), 0)) (by decide +kernel)) (by decide) hm_z
                replace hm_z := rn_cmpF (am_cur_of (i := (61, 3, .if_icmp .eq 8, (40, 0, 0), 0)) (by decide +kernel)) (by decide) hm_z
                replace hm_z := rn_iload_n (am_cur_of (i := (64, 1, .iload_n 2, (0, 0, 0), 0)) (by decide +kernel)) g2m hm_z
                replace hm_z := rn_iconst (w := 3) (am_cur_of (i := (65, 1, .iconst 3, (0, 0, 0), 0)) (by decide +kernel)) (by decide) hm_z
                replace hm_z := rn_cmpT (am_cur_of (i := (66, 3, .if_icmp .ne 7, (42, 0, 0), 0)) (by decide +kernel)) (by decide) hm_z
                replace hm_z := rn_iconst (w := 0) (am_cur_of (i := (73, 1, .iconst 0, (0, 0, 0), 0)) (by decide +kernel)) (by decide) hm_z
                replace hm_z := rn_istore_n (am_cur_of (i := (74, 1, .istore_n 3, (0, 0, 0), 0)) (by decide +kernel)) hm_z
                obtain ⟨_, s1771_z, s1772_z, g3m, hm_z⟩ := hm_z
                replace g0m := s1771_z 0 _ (by decide) rfl g0m
                replace g1m := s1771_z 1 _ (by decide) rfl g1m
                replace g2m := s1771_z 2 _ (by decide) rfl g2m
                replace g4m := s1771_z 4 _ (by decide) rfl g4m
                clear s1771_z s1772_z
                replace hm_z := rn_iload_n (am_cur_of (i := (75, 1, .iload_n 2, (0, 0, 0), 0)) (by decide +kernel)) g2m hm_z
                replace hm_z := rn_iconst (w := 1) (am_cur_of (i := (76, 1, .iconst 1, (0, 0, 0), 0)) (by decide +kernel)) (by decide) hm_z
                replace hm_z := rn_cmpT (am_cur_of (i := (77, 3, .if_icmp .eq 8, (50, 0, 0), 0)) (by decide +kernel)) (by decide) hm_z
                replace hm_z := rn_bipush (w := 20) (am_cur_of (i := (85, 2, .bipush 20, (0, 0, 0), 0)) (by decide +kernel)) (by decide) hm_z
                replace hm_z := rn_goto (am_cur_of (i := (87, 3, .goto 20, (61, 0, 0), 0)) (by decide +kernel)) hm_z
                replace hm_z := rn_istore (am_cur_of (i := (107, 2, .istore 4, (0, 0, 0), 0)) (by decide +kernel)) hm_z
                obtain ⟨_, s1773_z, s1774_z, g4m, hm_z⟩ := hm_z
                replace g0m := s1773_z 0 _ (by decide) rfl g0m
                replace g1m := s1773_z 1 _ (by decide) rfl g1m
                replace g2m := s1773_z 2 _ (by decide) rfl g2m
                replace g3m := s1773_z 3 _ (by decide) rfl g3m
                clear s1773_z s1774_z
                replace hm_z := rn_aload_n (am_cur_of (i := (109, 1, .aload_n 0, (0, 0, 0), 0)) (by decide +kernel)) g0m hm_z
                replace hm_z := rn_iload_n (am_cur_of (i := (110, 1, .iload_n 3, (0, 0, 0), 0)) (by decide +kernel)) g3m hm_z
                replace hm_z := rn_iload (am_cur_of (i := (111, 2, .iload 4, (0, 0, 0), 0)) (by decide +kernel)) g4m hm_z
                replace hm_z := rn_callV (M' := am_m161) (o := 164) (ar := [.int 20, .int 0]) (rest := []) (L := lv_args 0 [.ref 164, .int 0, .int 20]) (am_cur_of (i := (113, 3, .invokevirtual 197, (161, 1677, 3), 0)) (by decide +kernel)) rfl rfl rfl rfl hm_z
                obtain ⟨r1775_z, h1776_z, q1777_z, hm_z⟩ := hm_z
                have R' : rq T S x27_z p27_z 23 (am_up h1752_z 43 1 (.int v27_z)) (am_up h1763_z 170 49 (.int v27_z)) := ⟨⟨c1_z, c2_z, c3_z, c4_z, c5_z, c6_z, fun k hk_z => c7_z k hk_z, fun k hk_z => c8_z k hk_z⟩, ⟨m2_z, m3_z, m4_z, m5_z, m6_z, fun k hk_z => m7_z k hk_z, fun k hk_z => m8_z k hk_z⟩, R3, R4, R5, R6, R7, R8, R9, R10⟩
                have A' : rp 23 (am_up h1752_z 43 1 (.int v27_z)) (am_up h1763_z 170 49 (.int v27_z)) := ⟨⟨a1_z, a2_z, a3_z, a4_z, a5_z, a6_z⟩, ⟨nb1_z, nb2_z, nb3_z⟩, ⟨nt1_z, nt2_z, nt3_z⟩, ⟨nl1_z, nl2_z, nl3_z⟩, ⟨nr1_z, nr2_z, nr3_z⟩, ⟨nk1_z, nk2_z, nk3_z⟩, ⟨(fun hb_z k hk_z => by match k, hk_z with | 0, _ => exact AC0 hb_z 0 (by decide) | 1, _ => exact AC0 hb_z 1 (by decide) | 2, _ => exact AC0 hb_z 2 (by decide) | 3, _ => exact AC0 hb_z 3 (by decide) | 4, _ => exact AC0 hb_z 4 (by decide) | 5, _ => exact AC0 hb_z 5 (by decide) | 6, _ => exact AC0 hb_z 6 (by decide) | 7, _ => exact AC0 hb_z 7 (by decide)), (fun hb_z k hk_z => by match k, hk_z with | 0, _ => exact AC1 hb_z 0 (by decide) | 1, _ => exact AC1 hb_z 1 (by decide) | 2, _ => exact AC1 hb_z 2 (by decide) | 3, _ => exact AC1 hb_z 3 (by decide) | 4, _ => exact AC1 hb_z 4 (by decide) | 5, _ => exact AC1 hb_z 5 (by decide) | 6, _ => exact AC1 hb_z 6 (by decide) | 7, _ => exact AC1 hb_z 7 (by decide)), (fun hb_z k hk_z => by match k, hk_z with | 0, _ => exact AC2 hb_z 0 (by decide) | 1, _ => exact AC2 hb_z 1 (by decide) | 2, _ => exact AC2 hb_z 2 (by decide) | 3, _ => exact AC2 hb_z 3 (by decide) | 4, _ => exact AC2 hb_z 4 (by decide) | 5, _ => exact AC2 hb_z 5 (by decide) | 6, _ => exact AC2 hb_z 6 (by decide) | 7, _ => exact AC2 hb_z 7 (by decide)), fun hb_z => absurd hb_z (by rw [show rg_v (am_up h1752_z 43 1 (.int v27_z)) 23 2 = 3 from ecb]; decide)⟩, fun t ht => AD t ht, fun t ht => AE t ht, fun t ht => AG t ht⟩
                have B' : rp_t (am_up h1752_z 43 1 (.int v27_z)) (am_up h1763_z 170 49 (.int v27_z)) := by
                  obtain ⟨b0_z, b1_z, b2_z, b3_z, b4_z, b5_z, b6_z, t, o0_z, o1_z, o2_z, o3_z, o4_z, o5_z, o6_z⟩ := B
                  exact ⟨b0_z, b1_z, b2_z, b3_z, b4_z, b5_z, b6_z, t, o0_z, o1_z, o2_z, o3_z, o4_z, o5_z, o6_z⟩
                rcases pr_num R' (by decide) (by decide) q1767_z q1777_z with ⟨v28_z, x28_z, p28_z, rfl, rfl, lo28_z, hi28_z, R, le28_z, got, X, Y, t7_z, t167_z⟩ | ⟨rfl, F⟩
                · replace A := rp_x (by decide) A' X Y
                  replace B := rp_tk B' t7_z t167_z Y
                  clear A' B' R'
                  replace le28_z : x.toInt ≤ p28_z.toInt := Int.le_trans (Int.le_trans le27_z R8) le28_z
                  replace ecb : rg_v h1766_z 23 2 = 3 := (rx_v X (o := 23) (k := 2) (by decide)).trans ecb
                  replace ect : rg_v h1766_z 23 4 = ct := (rx_v X (o := 23) (k := 4) (by decide)).trans ect
                  replace ecl : rg_v h1766_z 23 9 = cl := (rx_v X (o := 23) (k := 9) (by decide)).trans ecl
                  replace ecr : rg_v h1766_z 23 12 = cr := (rx_v X (o := 23) (k := 12) (by decide)).trans ecr
                  replace E0 : rg_v h1766_z 43 0 = rg_v h1776_z 169 7 := (rx_v X (o := 43) (k := 0) (by decide)).trans (E0.trans (rx_w Y (o := 169) (k := 7) (by omega) (by decide)).symm)
                  have E1 : rg_v h1766_z 43 1 = rg_v h1776_z 170 49 := (rx_v X (o := 43) (k := 1) (by decide)).trans (Eq.trans (rfl) (rx_w Y (o := 170) (k := 49) (by omega) (by decide)).symm)
                  replace hm_z : rn _ _ _ _ [.int 1] _ _ _ := hm_z
                  replace hc_z : rn _ _ _ _ [.int v28_z, .ref 43] _ _ _ := hc_z
                  clear a1_z a2_z a3_z a4_z a5_z a6_z nb1_z nb2_z nb3_z nt1_z nt2_z nt3_z nl1_z nl2_z nl3_z nr1_z nr2_z nr3_z nk1_z nk2_z nk3_z AC0 AC1 AC2 AC3 AD AE AG c1_z c2_z c3_z c4_z c5_z c6_z c7_z c8_z m2_z m3_z m4_z m5_z m6_z m7_z m8_z R3 R4 R5 R6 R7 R8 R9 R10
                  obtain ⟨⟨⟨a1_z, a2_z, a3_z, a4_z, a5_z, a6_z⟩, ⟨nb1_z, nb2_z, nb3_z⟩, ⟨nt1_z, nt2_z, nt3_z⟩, ⟨nl1_z, nl2_z, nl3_z⟩, ⟨nr1_z, nr2_z, nr3_z⟩, ⟨nk1_z, nk2_z, nk3_z⟩, ⟨AC0, AC1, AC2, AC3⟩, AD, AE, AG⟩, ⟨⟨c1_z, c2_z, c3_z, c4_z, c5_z, c6_z, c7_z, c8_z⟩, ⟨m2_z, m3_z, m4_z, m5_z, m6_z, m7_z, m8_z⟩, R3, R4, R5, R6, R7, R8, R9, R10⟩⟩ := (⟨A, R⟩ : rp 23 h1766_z h1776_z ∧ rq T S x28_z p28_z 23 h1766_z h1776_z)
                  replace hc_z := rn_put (am_cur_of (i := (91, 3, .putfield 178, (3, 2, 208), 0)) (by decide +kernel)) (by decide +kernel) hc_z
                  replace hc_z := rn_aload_n (am_cur_of (i := (94, 1, .aload_n 1, (0, 0, 0), 0)) (by decide +kernel)) g1_z hc_z
                  replace hc_z := rn_aload_n (am_cur_of (i := (95, 1, .aload_n 0, (0, 0, 0), 0)) (by decide +kernel)) g0_z hc_z
                  replace hc_z := rn_iconst (w := 1) (am_cur_of (i := (96, 1, .iconst 1, (0, 0, 0), 0)) (by decide +kernel)) (by decide) hc_z
                  replace hc_z := rn_bipush (w := 20) (am_cur_of (i := (97, 2, .bipush 20, (0, 0, 0), 0)) (by decide +kernel)) (by decide) hc_z
                  replace hc_z := rn_callV (M' := am_m30) (o := 44) (ar := [.int 20, .int 1]) (rest := [.ref 43]) (L := lv_args 0 [.ref 44, .int 1, .int 20]) (am_cur_of (i := (99, 3, .invokevirtual 142, (30, 773, 3), 0)) (by decide +kernel)) rfl rfl rfl rfl hc_z
                  obtain ⟨r1778_z, h1779_z, q1780_z, hc_z⟩ := hc_z
                  replace hm_z := rn_ifT (am_cur_of (i := (116, 3, .ifCond .ne 5, (69, 0, 0), 0)) (by decide +kernel)) (by decide) hm_z
                  replace hm_z := rn_aload_n (am_cur_of (i := (121, 1, .aload_n 0, (0, 0, 0), 0)) (by decide +kernel)) g0m hm_z
                  replace hm_z := rn_getR (x := 170) (am_cur_of (i := (122, 3, .getfield 30, (12, 25, 1409), 0)) (by decide +kernel)) (by decide +kernel) hm_z
                  replace hm_z := rn_iload_n (am_cur_of (i := (125, 1, .iload_n 1, (0, 0, 0), 0)) (by decide +kernel)) g1m hm_z
                  replace hm_z := rn_iload_n (am_cur_of (i := (126, 1, .iload_n 2, (0, 0, 0), 0)) (by decide +kernel)) g2m hm_z
                  replace hm_z := rn_iadd (w := 50) (am_cur_of (i := (127, 1, .iadd, (0, 0, 0), 0)) (by decide +kernel)) (by decide) hm_z
                  replace hm_z := rn_aload_n (am_cur_of (i := (128, 1, .aload_n 0, (0, 0, 0), 0)) (by decide +kernel)) g0m hm_z
                  replace hm_z := rn_getI (v := v28_z) (am_cur_of (i := (129, 3, .getfield 188, (12, 11, 1395), 0)) (by decide +kernel)) (by decide +kernel) got hm_z
                  replace hm_z := rn_iastore (N := 56) (q := 50) (am_cur_of (i := (132, 1, .iastore, (0, 0, 0), 0)) (by decide +kernel)) (by decide +kernel) rfl hm_z
                  obtain ⟨p1781_z, hm_z⟩ := hm_z
                  replace hm_z := rn_iinc (w := 2) (am_cur_of (i := (133, 3, .iinc 2 1, (0, 0, 0), 0)) (by decide +kernel)) g2m (by decide) hm_z
                  obtain ⟨_, s1782_z, s1783_z, g2m, hm_z⟩ := hm_z
                  replace g0m := s1782_z 0 _ (by decide) rfl g0m
                  replace g1m := s1782_z 1 _ (by decide) rfl g1m
                  replace g3m := s1782_z 3 _ (by decide) rfl g3m
                  replace g4m := s1782_z 4 _ (by decide) rfl g4m
                  clear s1782_z s1783_z
                  replace hm_z := rn_goto (am_cur_of (i := (136, 3, .goto (-87), (29, 0, 0), 0)) (by decide +kernel)) hm_z
                  replace hm_z := rn_iload_n (am_cur_of (i := (49, 1, .iload_n 2, (0, 0, 0), 0)) (by decide +kernel)) g2m hm_z
                  replace hm_z := rn_bipush (w := 7) (am_cur_of (i := (50, 2, .bipush 7, (0, 0, 0), 0)) (by decide +kernel)) (by decide) hm_z
                  replace hm_z := rn_cmpF (am_cur_of (i := (52, 3, .if_icmp .ge 87, (79, 0, 0), 0)) (by decide +kernel)) (by decide) hm_z
                  replace hm_z := rn_iload_n (am_cur_of (i := (55, 1, .iload_n 2, (0, 0, 0), 0)) (by decide +kernel)) g2m hm_z
                  replace hm_z := rn_ifF (am_cur_of (i := (56, 3, .ifCond .eq 13, (40, 0, 0), 0)) (by decide +kernel)) (by decide) hm_z
                  replace hm_z := rn_iload_n (am_cur_of (i := (59, 1, .iload_n 2, (0, 0, 0), 0)) (by decide +kernel)) g2m hm_z
                  replace hm_z := rn_iconst (w := 2) (am_cur_of (i := (60, 1, .iconst 2, (0, 0, 0), 0)) (by decide +kernel)) (by decide) hm_z
                  replace hm_z := rn_cmpT (am_cur_of (i := (61, 3, .if_icmp .eq 8, (40, 0, 0), 0)) (by decide +kernel)) (by decide) hm_z
                  replace hm_z := rn_iconst (w := 1) (am_cur_of (i := (69, 1, .iconst 1, (0, 0, 0), 0)) (by decide +kernel)) (by decide) hm_z
                  replace hm_z := rn_goto (am_cur_of (i := (70, 3, .goto 4, (43, 0, 0), 0)) (by decide +kernel)) hm_z
                  replace hm_z := rn_istore_n (am_cur_of (i := (74, 1, .istore_n 3, (0, 0, 0), 0)) (by decide +kernel)) hm_z
                  obtain ⟨_, s1784_z, s1785_z, g3m, hm_z⟩ := hm_z
                  replace g0m := s1784_z 0 _ (by decide) rfl g0m
                  replace g1m := s1784_z 1 _ (by decide) rfl g1m
                  replace g2m := s1784_z 2 _ (by decide) rfl g2m
                  replace g4m := s1784_z 4 _ (by decide) rfl g4m
                  clear s1784_z s1785_z
                  replace hm_z := rn_iload_n (am_cur_of (i := (75, 1, .iload_n 2, (0, 0, 0), 0)) (by decide +kernel)) g2m hm_z
                  replace hm_z := rn_iconst (w := 1) (am_cur_of (i := (76, 1, .iconst 1, (0, 0, 0), 0)) (by decide +kernel)) (by decide) hm_z
                  replace hm_z := rn_cmpF (am_cur_of (i := (77, 3, .if_icmp .eq 8, (50, 0, 0), 0)) (by decide +kernel)) (by decide) hm_z
                  replace hm_z := rn_iload_n (am_cur_of (i := (80, 1, .iload_n 2, (0, 0, 0), 0)) (by decide +kernel)) g2m hm_z
                  replace hm_z := rn_iconst (w := 2) (am_cur_of (i := (81, 1, .iconst 2, (0, 0, 0), 0)) (by decide +kernel)) (by decide) hm_z
                  replace hm_z := rn_cmpF (am_cur_of (i := (82, 3, .if_icmp .ne 8, (52, 0, 0), 0)) (by decide +kernel)) (by decide) hm_z
                  replace hm_z := rn_bipush (w := 20) (am_cur_of (i := (85, 2, .bipush 20, (0, 0, 0), 0)) (by decide +kernel)) (by decide) hm_z
                  replace hm_z := rn_goto (am_cur_of (i := (87, 3, .goto 20, (61, 0, 0), 0)) (by decide +kernel)) hm_z
                  replace hm_z := rn_istore (am_cur_of (i := (107, 2, .istore 4, (0, 0, 0), 0)) (by decide +kernel)) hm_z
                  obtain ⟨_, s1786_z, s1787_z, g4m, hm_z⟩ := hm_z
                  replace g0m := s1786_z 0 _ (by decide) rfl g0m
                  replace g1m := s1786_z 1 _ (by decide) rfl g1m
                  replace g2m := s1786_z 2 _ (by decide) rfl g2m
                  replace g3m := s1786_z 3 _ (by decide) rfl g3m
                  clear s1786_z s1787_z
                  replace hm_z := rn_aload_n (am_cur_of (i := (109, 1, .aload_n 0, (0, 0, 0), 0)) (by decide +kernel)) g0m hm_z
                  replace hm_z := rn_iload_n (am_cur_of (i := (110, 1, .iload_n 3, (0, 0, 0), 0)) (by decide +kernel)) g3m hm_z
                  replace hm_z := rn_iload (am_cur_of (i := (111, 2, .iload 4, (0, 0, 0), 0)) (by decide +kernel)) g4m hm_z
                  replace hm_z := rn_callV (M' := am_m161) (o := 164) (ar := [.int 20, .int 1]) (rest := []) (L := lv_args 0 [.ref 164, .int 1, .int 20]) (am_cur_of (i := (113, 3, .invokevirtual 197, (161, 1677, 3), 0)) (by decide +kernel)) rfl rfl rfl rfl hm_z
                  obtain ⟨r1788_z, h1789_z, q1790_z, hm_z⟩ := hm_z
                  have R' : rq T S x28_z p28_z 23 (am_up h1766_z 43 2 (.int v28_z)) (am_up h1776_z 170 50 (.int v28_z)) := ⟨⟨c1_z, c2_z, c3_z, c4_z, c5_z, c6_z, fun k hk_z => c7_z k hk_z, fun k hk_z => c8_z k hk_z⟩, ⟨m2_z, m3_z, m4_z, m5_z, m6_z, fun k hk_z => m7_z k hk_z, fun k hk_z => m8_z k hk_z⟩, R3, R4, R5, R6, R7, R8, R9, R10⟩
                  have A' : rp 23 (am_up h1766_z 43 2 (.int v28_z)) (am_up h1776_z 170 50 (.int v28_z)) := ⟨⟨a1_z, a2_z, a3_z, a4_z, a5_z, a6_z⟩, ⟨nb1_z, nb2_z, nb3_z⟩, ⟨nt1_z, nt2_z, nt3_z⟩, ⟨nl1_z, nl2_z, nl3_z⟩, ⟨nr1_z, nr2_z, nr3_z⟩, ⟨nk1_z, nk2_z, nk3_z⟩, ⟨(fun hb_z k hk_z => by match k, hk_z with | 0, _ => exact AC0 hb_z 0 (by decide) | 1, _ => exact AC0 hb_z 1 (by decide) | 2, _ => exact AC0 hb_z 2 (by decide) | 3, _ => exact AC0 hb_z 3 (by decide) | 4, _ => exact AC0 hb_z 4 (by decide) | 5, _ => exact AC0 hb_z 5 (by decide) | 6, _ => exact AC0 hb_z 6 (by decide) | 7, _ => exact AC0 hb_z 7 (by decide)), (fun hb_z k hk_z => by match k, hk_z with | 0, _ => exact AC1 hb_z 0 (by decide) | 1, _ => exact AC1 hb_z 1 (by decide) | 2, _ => exact AC1 hb_z 2 (by decide) | 3, _ => exact AC1 hb_z 3 (by decide) | 4, _ => exact AC1 hb_z 4 (by decide) | 5, _ => exact AC1 hb_z 5 (by decide) | 6, _ => exact AC1 hb_z 6 (by decide) | 7, _ => exact AC1 hb_z 7 (by decide)), (fun hb_z k hk_z => by match k, hk_z with | 0, _ => exact AC2 hb_z 0 (by decide) | 1, _ => exact AC2 hb_z 1 (by decide) | 2, _ => exact AC2 hb_z 2 (by decide) | 3, _ => exact AC2 hb_z 3 (by decide) | 4, _ => exact AC2 hb_z 4 (by decide) | 5, _ => exact AC2 hb_z 5 (by decide) | 6, _ => exact AC2 hb_z 6 (by decide) | 7, _ => exact AC2 hb_z 7 (by decide)), fun hb_z => absurd hb_z (by rw [show rg_v (am_up h1766_z 43 2 (.int v28_z)) 23 2 = 3 from ecb]; decide)⟩, fun t ht => AD t ht, fun t ht => AE t ht, fun t ht => AG t ht⟩
                  have B' : rp_t (am_up h1766_z 43 2 (.int v28_z)) (am_up h1776_z 170 50 (.int v28_z)) := by
                    obtain ⟨b0_z, b1_z, b2_z, b3_z, b4_z, b5_z, b6_z, t, o0_z, o1_z, o2_z, o3_z, o4_z, o5_z, o6_z⟩ := B
                    exact ⟨b0_z, b1_z, b2_z, b3_z, b4_z, b5_z, b6_z, t, o0_z, o1_z, o2_z, o3_z, o4_z, o5_z, o6_z⟩
                  rcases pr_num R' (by decide) (by decide) q1780_z q1790_z with ⟨v29_z, x29_z, p29_z, rfl, rfl, lo29_z, hi29_z, R, le29_z, got, X, Y, t7_z, t167_z⟩ | ⟨rfl, F⟩
                  · replace A := rp_x (by decide) A' X Y
                    replace B := rp_tk B' t7_z t167_z Y
                    clear A' B' R'
                    replace le29_z : x.toInt ≤ p29_z.toInt := Int.le_trans (Int.le_trans le28_z R8) le29_z
                    replace ecb : rg_v h1779_z 23 2 = 3 := (rx_v X (o := 23) (k := 2) (by decide)).trans ecb
                    replace ect : rg_v h1779_z 23 4 = ct := (rx_v X (o := 23) (k := 4) (by decide)).trans ect
                    replace ecl : rg_v h1779_z 23 9 = cl := (rx_v X (o := 23) (k := 9) (by decide)).trans ecl
                    replace ecr : rg_v h1779_z 23 12 = cr := (rx_v X (o := 23) (k := 12) (by decide)).trans ecr
                    replace E0 : rg_v h1779_z 43 0 = rg_v h1789_z 169 7 := (rx_v X (o := 43) (k := 0) (by decide)).trans (E0.trans (rx_w Y (o := 169) (k := 7) (by omega) (by decide)).symm)
                    replace E1 : rg_v h1779_z 43 1 = rg_v h1789_z 170 49 := (rx_v X (o := 43) (k := 1) (by decide)).trans (E1.trans (rx_w Y (o := 170) (k := 49) (by omega) (by decide)).symm)
                    have E2 : rg_v h1779_z 43 2 = rg_v h1789_z 170 50 := (rx_v X (o := 43) (k := 2) (by decide)).trans (Eq.trans (rfl) (rx_w Y (o := 170) (k := 50) (by omega) (by decide)).symm)
                    replace hm_z : rn _ _ _ _ [.int 1] _ _ _ := hm_z
                    replace hc_z : rn _ _ _ _ [.int v29_z, .ref 43] _ _ _ := hc_z
                    clear a1_z a2_z a3_z a4_z a5_z a6_z nb1_z nb2_z nb3_z nt1_z nt2_z nt3_z nl1_z nl2_z nl3_z nr1_z nr2_z nr3_z nk1_z nk2_z nk3_z AC0 AC1 AC2 AC3 AD AE AG c1_z c2_z c3_z c4_z c5_z c6_z c7_z c8_z m2_z m3_z m4_z m5_z m6_z m7_z m8_z R3 R4 R5 R6 R7 R8 R9 R10
                    obtain ⟨⟨⟨a1_z, a2_z, a3_z, a4_z, a5_z, a6_z⟩, ⟨nb1_z, nb2_z, nb3_z⟩, ⟨nt1_z, nt2_z, nt3_z⟩, ⟨nl1_z, nl2_z, nl3_z⟩, ⟨nr1_z, nr2_z, nr3_z⟩, ⟨nk1_z, nk2_z, nk3_z⟩, ⟨AC0, AC1, AC2, AC3⟩, AD, AE, AG⟩, ⟨⟨c1_z, c2_z, c3_z, c4_z, c5_z, c6_z, c7_z, c8_z⟩, ⟨m2_z, m3_z, m4_z, m5_z, m6_z, m7_z, m8_z⟩, R3, R4, R5, R6, R7, R8, R9, R10⟩⟩ := (⟨A, R⟩ : rp 23 h1779_z h1789_z ∧ rq T S x29_z p29_z 23 h1779_z h1789_z)
                    replace hc_z := rn_put (am_cur_of (i := (102, 3, .putfield 181, (3, 3, 211), 0)) (by decide +kernel)) (by decide +kernel) hc_z
                    replace hc_z := rn_aload_n (am_cur_of (i := (105, 1, .aload_n 1, (0, 0, 0), 0)) (by decide +kernel)) g1_z hc_z
                    replace hc_z := rn_aload_n (am_cur_of (i := (106, 1, .aload_n 0, (0, 0, 0), 0)) (by decide +kernel)) g0_z hc_z
                    replace hc_z := rn_iconst (w := 1) (am_cur_of (i := (107, 1, .iconst 1, (0, 0, 0), 0)) (by decide +kernel)) (by decide) hc_z
                    replace hc_z := rn_bipush (w := 9) (am_cur_of (i := (108, 2, .bipush 9, (0, 0, 0), 0)) (by decide +kernel)) (by decide) hc_z
                    replace hc_z := rn_callV (M' := am_m30) (o := 44) (ar := [.int 9, .int 1]) (rest := [.ref 43]) (L := lv_args 0 [.ref 44, .int 1, .int 9]) (am_cur_of (i := (110, 3, .invokevirtual 142, (30, 773, 3), 0)) (by decide +kernel)) rfl rfl rfl rfl hc_z
                    obtain ⟨r1791_z, h1792_z, q1793_z, hc_z⟩ := hc_z
                    replace hm_z := rn_ifT (am_cur_of (i := (116, 3, .ifCond .ne 5, (69, 0, 0), 0)) (by decide +kernel)) (by decide) hm_z
                    replace hm_z := rn_aload_n (am_cur_of (i := (121, 1, .aload_n 0, (0, 0, 0), 0)) (by decide +kernel)) g0m hm_z
                    replace hm_z := rn_getR (x := 170) (am_cur_of (i := (122, 3, .getfield 30, (12, 25, 1409), 0)) (by decide +kernel)) (by decide +kernel) hm_z
                    replace hm_z := rn_iload_n (am_cur_of (i := (125, 1, .iload_n 1, (0, 0, 0), 0)) (by decide +kernel)) g1m hm_z
                    replace hm_z := rn_iload_n (am_cur_of (i := (126, 1, .iload_n 2, (0, 0, 0), 0)) (by decide +kernel)) g2m hm_z
                    replace hm_z := rn_iadd (w := 51) (am_cur_of (i := (127, 1, .iadd, (0, 0, 0), 0)) (by decide +kernel)) (by decide) hm_z
                    replace hm_z := rn_aload_n (am_cur_of (i := (128, 1, .aload_n 0, (0, 0, 0), 0)) (by decide +kernel)) g0m hm_z
                    replace hm_z := rn_getI (v := v29_z) (am_cur_of (i := (129, 3, .getfield 188, (12, 11, 1395), 0)) (by decide +kernel)) (by decide +kernel) got hm_z
                    replace hm_z := rn_iastore (N := 56) (q := 51) (am_cur_of (i := (132, 1, .iastore, (0, 0, 0), 0)) (by decide +kernel)) (by decide +kernel) rfl hm_z
                    obtain ⟨p1794_z, hm_z⟩ := hm_z
                    replace hm_z := rn_iinc (w := 3) (am_cur_of (i := (133, 3, .iinc 2 1, (0, 0, 0), 0)) (by decide +kernel)) g2m (by decide) hm_z
                    obtain ⟨_, s1795_z, s1796_z, g2m, hm_z⟩ := hm_z
                    replace g0m := s1795_z 0 _ (by decide) rfl g0m
                    replace g1m := s1795_z 1 _ (by decide) rfl g1m
                    replace g3m := s1795_z 3 _ (by decide) rfl g3m
                    replace g4m := s1795_z 4 _ (by decide) rfl g4m
                    clear s1795_z s1796_z
                    replace hm_z := rn_goto (am_cur_of (i := (136, 3, .goto (-87), (29, 0, 0), 0)) (by decide +kernel)) hm_z
                    replace hm_z := rn_iload_n (am_cur_of (i := (49, 1, .iload_n 2, (0, 0, 0), 0)) (by decide +kernel)) g2m hm_z
                    replace hm_z := rn_bipush (w := 7) (am_cur_of (i := (50, 2, .bipush 7, (0, 0, 0), 0)) (by decide +kernel)) (by decide) hm_z
                    replace hm_z := rn_cmpF (am_cur_of (i := (52, 3, .if_icmp .ge 87, (79, 0, 0), 0)) (by decide +kernel)) (by decide) hm_z
                    replace hm_z := rn_iload_n (am_cur_of (i := (55, 1, .iload_n 2, (0, 0, 0), 0)) (by decide +kernel)) g2m hm_z
                    replace hm_z := rn_ifF (am_cur_of (i := (56, 3, .ifCond .eq 13, (40, 0, 0), 0)) (by decide +kernel)) (by decide) hm_z
                    replace hm_z := rn_iload_n (am_cur_of (i := (59, 1, .iload_n 2, (0, 0, 0), 0)) (by decide +kernel)) g2m hm_z
                    replace hm_z := rn_iconst (w := 2) (am_cur_of (i := (60, 1, .iconst 2, (0, 0, 0), 0)) (by decide +kernel)) (by decide) hm_z
                    replace hm_z := rn_cmpF (am_cur_of (i := (61, 3, .if_icmp .eq 8, (40, 0, 0), 0)) (by decide +kernel)) (by decide) hm_z
                    replace hm_z := rn_iload_n (am_cur_of (i := (64, 1, .iload_n 2, (0, 0, 0), 0)) (by decide +kernel)) g2m hm_z
                    replace hm_z := rn_iconst (w := 3) (am_cur_of (i := (65, 1, .iconst 3, (0, 0, 0), 0)) (by decide +kernel)) (by decide) hm_z
                    replace hm_z := rn_cmpF (am_cur_of (i := (66, 3, .if_icmp .ne 7, (42, 0, 0), 0)) (by decide +kernel)) (by decide) hm_z
                    replace hm_z := rn_iconst (w := 1) (am_cur_of (i := (69, 1, .iconst 1, (0, 0, 0), 0)) (by decide +kernel)) (by decide) hm_z
                    replace hm_z := rn_goto (am_cur_of (i := (70, 3, .goto 4, (43, 0, 0), 0)) (by decide +kernel)) hm_z
                    replace hm_z := rn_istore_n (am_cur_of (i := (74, 1, .istore_n 3, (0, 0, 0), 0)) (by decide +kernel)) hm_z
                    obtain ⟨_, s1797_z, s1798_z, g3m, hm_z⟩ := hm_z
                    replace g0m := s1797_z 0 _ (by decide) rfl g0m
                    replace g1m := s1797_z 1 _ (by decide) rfl g1m
                    replace g2m := s1797_z 2 _ (by decide) rfl g2m
                    replace g4m := s1797_z 4 _ (by decide) rfl g4m
                    clear s1797_z s1798_z
                    replace hm_z := rn_iload_n (am_cur_of (i := (75, 1, .iload_n 2, (0, 0, 0), 0)) (by decide +kernel)) g2m hm_z
                    replace hm_z := rn_iconst (w := 1) (am_cur_of (i := (76, 1, .iconst 1, (0, 0, 0), 0)) (by decide +kernel)) (by decide) hm_z
                    replace hm_z := rn_cmpF (am_cur_of (i := (77, 3, .if_icmp .eq 8, (50, 0, 0), 0)) (by decide +kernel)) (by decide) hm_z
                    replace hm_z := rn_iload_n (am_cur_of (i := (80, 1, .iload_n 2, (0, 0, 0), 0)) (by decide +kernel)) g2m hm_z
                    replace hm_z := rn_iconst (w := 2) (am_cur_of (i := (81, 1, .iconst 2, (0, 0, 0), 0)) (by decide +kernel)) (by decide) hm_z
                    replace hm_z := rn_cmpT (am_cur_of (i := (82, 3, .if_icmp .ne 8, (52, 0, 0), 0)) (by decide +kernel)) (by decide) hm_z
                    replace hm_z := rn_iload_n (am_cur_of (i := (90, 1, .iload_n 2, (0, 0, 0), 0)) (by decide +kernel)) g2m hm_z
                    replace hm_z := rn_iconst (w := 3) (am_cur_of (i := (91, 1, .iconst 3, (0, 0, 0), 0)) (by decide +kernel)) (by decide) hm_z
                    replace hm_z := rn_cmpT (am_cur_of (i := (92, 3, .if_icmp .eq 8, (58, 0, 0), 0)) (by decide +kernel)) (by decide) hm_z
                    replace hm_z := rn_bipush (w := 9) (am_cur_of (i := (100, 2, .bipush 9, (0, 0, 0), 0)) (by decide +kernel)) (by decide) hm_z
                    replace hm_z := rn_goto (am_cur_of (i := (102, 3, .goto 5, (61, 0, 0), 0)) (by decide +kernel)) hm_z
                    replace hm_z := rn_istore (am_cur_of (i := (107, 2, .istore 4, (0, 0, 0), 0)) (by decide +kernel)) hm_z
                    obtain ⟨_, s1799_z, s1800_z, g4m, hm_z⟩ := hm_z
                    replace g0m := s1799_z 0 _ (by decide) rfl g0m
                    replace g1m := s1799_z 1 _ (by decide) rfl g1m
                    replace g2m := s1799_z 2 _ (by decide) rfl g2m
                    replace g3m := s1799_z 3 _ (by decide) rfl g3m
                    clear s1799_z s1800_z
                    replace hm_z := rn_aload_n (am_cur_of (i := (109, 1, .aload_n 0, (0, 0, 0), 0)) (by decide +kernel)) g0m hm_z
                    replace hm_z := rn_iload_n (am_cur_of (i := (110, 1, .iload_n 3, (0, 0, 0), 0)) (by decide +kernel)) g3m hm_z
                    replace hm_z := rn_iload (am_cur_of (i := (111, 2, .iload 4, (0, 0, 0), 0)) (by decide +kernel)) g4m hm_z
                    replace hm_z := rn_callV (M' := am_m161) (o := 164) (ar := [.int 9, .int 1]) (rest := []) (L := lv_args 0 [.ref 164, .int 1, .int 9]) (am_cur_of (i := (113, 3, .invokevirtual 197, (161, 1677, 3), 0)) (by decide +kernel)) rfl rfl rfl rfl hm_z
                    obtain ⟨r1801_z, h1802_z, q1803_z, hm_z⟩ := hm_z
                    have R' : rq T S x29_z p29_z 23 (am_up h1779_z 43 3 (.int v29_z)) (am_up h1789_z 170 51 (.int v29_z)) := ⟨⟨c1_z, c2_z, c3_z, c4_z, c5_z, c6_z, fun k hk_z => c7_z k hk_z, fun k hk_z => c8_z k hk_z⟩, ⟨m2_z, m3_z, m4_z, m5_z, m6_z, fun k hk_z => m7_z k hk_z, fun k hk_z => m8_z k hk_z⟩, R3, R4, R5, R6, R7, R8, R9, R10⟩
                    have A' : rp 23 (am_up h1779_z 43 3 (.int v29_z)) (am_up h1789_z 170 51 (.int v29_z)) := ⟨⟨a1_z, a2_z, a3_z, a4_z, a5_z, a6_z⟩, ⟨nb1_z, nb2_z, nb3_z⟩, ⟨nt1_z, nt2_z, nt3_z⟩, ⟨nl1_z, nl2_z, nl3_z⟩, ⟨nr1_z, nr2_z, nr3_z⟩, ⟨nk1_z, nk2_z, nk3_z⟩, ⟨(fun hb_z k hk_z => by match k, hk_z with | 0, _ => exact AC0 hb_z 0 (by decide) | 1, _ => exact AC0 hb_z 1 (by decide) | 2, _ => exact AC0 hb_z 2 (by decide) | 3, _ => exact AC0 hb_z 3 (by decide) | 4, _ => exact AC0 hb_z 4 (by decide) | 5, _ => exact AC0 hb_z 5 (by decide) | 6, _ => exact AC0 hb_z 6 (by decide) | 7, _ => exact AC0 hb_z 7 (by decide)), (fun hb_z k hk_z => by match k, hk_z with | 0, _ => exact AC1 hb_z 0 (by decide) | 1, _ => exact AC1 hb_z 1 (by decide) | 2, _ => exact AC1 hb_z 2 (by decide) | 3, _ => exact AC1 hb_z 3 (by decide) | 4, _ => exact AC1 hb_z 4 (by decide) | 5, _ => exact AC1 hb_z 5 (by decide) | 6, _ => exact AC1 hb_z 6 (by decide) | 7, _ => exact AC1 hb_z 7 (by decide)), (fun hb_z k hk_z => by match k, hk_z with | 0, _ => exact AC2 hb_z 0 (by decide) | 1, _ => exact AC2 hb_z 1 (by decide) | 2, _ => exact AC2 hb_z 2 (by decide) | 3, _ => exact AC2 hb_z 3 (by decide) | 4, _ => exact AC2 hb_z 4 (by decide) | 5, _ => exact AC2 hb_z 5 (by decide) | 6, _ => exact AC2 hb_z 6 (by decide) | 7, _ => exact AC2 hb_z 7 (by decide)), fun hb_z => absurd hb_z (by rw [show rg_v (am_up h1779_z 43 3 (.int v29_z)) 23 2 = 3 from ecb]; decide)⟩, fun t ht => AD t ht, fun t ht => AE t ht, fun t ht => AG t ht⟩
                    have B' : rp_t (am_up h1779_z 43 3 (.int v29_z)) (am_up h1789_z 170 51 (.int v29_z)) := by
                      obtain ⟨b0_z, b1_z, b2_z, b3_z, b4_z, b5_z, b6_z, t, o0_z, o1_z, o2_z, o3_z, o4_z, o5_z, o6_z⟩ := B
                      exact ⟨b0_z, b1_z, b2_z, b3_z, b4_z, b5_z, b6_z, t, o0_z, o1_z, o2_z, o3_z, o4_z, o5_z, o6_z⟩
                    rcases pr_num R' (by decide) (by decide) q1793_z q1803_z with ⟨v30_z, x30_z, p30_z, rfl, rfl, lo30_z, hi30_z, R, le30_z, got, X, Y, t7_z, t167_z⟩ | ⟨rfl, F⟩
                    · replace A := rp_x (by decide) A' X Y
                      replace B := rp_tk B' t7_z t167_z Y
                      clear A' B' R'
                      replace le30_z : x.toInt ≤ p30_z.toInt := Int.le_trans (Int.le_trans le29_z R8) le30_z
                      replace ecb : rg_v h1792_z 23 2 = 3 := (rx_v X (o := 23) (k := 2) (by decide)).trans ecb
                      replace ect : rg_v h1792_z 23 4 = ct := (rx_v X (o := 23) (k := 4) (by decide)).trans ect
                      replace ecl : rg_v h1792_z 23 9 = cl := (rx_v X (o := 23) (k := 9) (by decide)).trans ecl
                      replace ecr : rg_v h1792_z 23 12 = cr := (rx_v X (o := 23) (k := 12) (by decide)).trans ecr
                      replace E0 : rg_v h1792_z 43 0 = rg_v h1802_z 169 7 := (rx_v X (o := 43) (k := 0) (by decide)).trans (E0.trans (rx_w Y (o := 169) (k := 7) (by omega) (by decide)).symm)
                      replace E1 : rg_v h1792_z 43 1 = rg_v h1802_z 170 49 := (rx_v X (o := 43) (k := 1) (by decide)).trans (E1.trans (rx_w Y (o := 170) (k := 49) (by omega) (by decide)).symm)
                      replace E2 : rg_v h1792_z 43 2 = rg_v h1802_z 170 50 := (rx_v X (o := 43) (k := 2) (by decide)).trans (E2.trans (rx_w Y (o := 170) (k := 50) (by omega) (by decide)).symm)
                      have E3 : rg_v h1792_z 43 3 = rg_v h1802_z 170 51 := (rx_v X (o := 43) (k := 3) (by decide)).trans (Eq.trans (rfl) (rx_w Y (o := 170) (k := 51) (by omega) (by decide)).symm)
                      replace hm_z : rn _ _ _ _ [.int 1] _ _ _ := hm_z
                      replace hc_z : rn _ _ _ _ [.int v30_z, .ref 43] _ _ _ := hc_z
                      clear a1_z a2_z a3_z a4_z a5_z a6_z nb1_z nb2_z nb3_z nt1_z nt2_z nt3_z nl1_z nl2_z nl3_z nr1_z nr2_z nr3_z nk1_z nk2_z nk3_z AC0 AC1 AC2 AC3 AD AE AG c1_z c2_z c3_z c4_z c5_z c6_z c7_z c8_z m2_z m3_z m4_z m5_z m6_z m7_z m8_z R3 R4 R5 R6 R7 R8 R9 R10
                      obtain ⟨⟨⟨a1_z, a2_z, a3_z, a4_z, a5_z, a6_z⟩, ⟨nb1_z, nb2_z, nb3_z⟩, ⟨nt1_z, nt2_z, nt3_z⟩, ⟨nl1_z, nl2_z, nl3_z⟩, ⟨nr1_z, nr2_z, nr3_z⟩, ⟨nk1_z, nk2_z, nk3_z⟩, ⟨AC0, AC1, AC2, AC3⟩, AD, AE, AG⟩, ⟨⟨c1_z, c2_z, c3_z, c4_z, c5_z, c6_z, c7_z, c8_z⟩, ⟨m2_z, m3_z, m4_z, m5_z, m6_z, m7_z, m8_z⟩, R3, R4, R5, R6, R7, R8, R9, R10⟩⟩ := (⟨A, R⟩ : rp 23 h1792_z h1802_z ∧ rq T S x30_z p30_z 23 h1792_z h1802_z)
                      replace hc_z := rn_put (am_cur_of (i := (113, 3, .putfield 184, (3, 4, 216), 0)) (by decide +kernel)) (by decide +kernel) hc_z
                      replace hc_z := rn_aload_n (am_cur_of (i := (116, 1, .aload_n 1, (0, 0, 0), 0)) (by decide +kernel)) g1_z hc_z
                      replace hc_z := rn_aload_n (am_cur_of (i := (117, 1, .aload_n 0, (0, 0, 0), 0)) (by decide +kernel)) g0_z hc_z
                      replace hc_z := rn_iconst (w := 0) (am_cur_of (i := (118, 1, .iconst 0, (0, 0, 0), 0)) (by decide +kernel)) (by decide) hc_z
                      replace hc_z := rn_bipush (w := 99) (am_cur_of (i := (119, 2, .bipush 99, (0, 0, 0), 0)) (by decide +kernel)) (by decide) hc_z
                      replace hc_z := rn_callV (M' := am_m30) (o := 44) (ar := [.int 99, .int 0]) (rest := [.ref 43]) (L := lv_args 0 [.ref 44, .int 0, .int 99]) (am_cur_of (i := (121, 3, .invokevirtual 142, (30, 773, 3), 0)) (by decide +kernel)) rfl rfl rfl rfl hc_z
                      obtain ⟨r1804_z, h1805_z, q1806_z, hc_z⟩ := hc_z
                      replace hm_z := rn_ifT (am_cur_of (i := (116, 3, .ifCond .ne 5, (69, 0, 0), 0)) (by decide +kernel)) (by decide) hm_z
                      replace hm_z := rn_aload_n (am_cur_of (i := (121, 1, .aload_n 0, (0, 0, 0), 0)) (by decide +kernel)) g0m hm_z
                      replace hm_z := rn_getR (x := 170) (am_cur_of (i := (122, 3, .getfield 30, (12, 25, 1409), 0)) (by decide +kernel)) (by decide +kernel) hm_z
                      replace hm_z := rn_iload_n (am_cur_of (i := (125, 1, .iload_n 1, (0, 0, 0), 0)) (by decide +kernel)) g1m hm_z
                      replace hm_z := rn_iload_n (am_cur_of (i := (126, 1, .iload_n 2, (0, 0, 0), 0)) (by decide +kernel)) g2m hm_z
                      replace hm_z := rn_iadd (w := 52) (am_cur_of (i := (127, 1, .iadd, (0, 0, 0), 0)) (by decide +kernel)) (by decide) hm_z
                      replace hm_z := rn_aload_n (am_cur_of (i := (128, 1, .aload_n 0, (0, 0, 0), 0)) (by decide +kernel)) g0m hm_z
                      replace hm_z := rn_getI (v := v30_z) (am_cur_of (i := (129, 3, .getfield 188, (12, 11, 1395), 0)) (by decide +kernel)) (by decide +kernel) got hm_z
                      replace hm_z := rn_iastore (N := 56) (q := 52) (am_cur_of (i := (132, 1, .iastore, (0, 0, 0), 0)) (by decide +kernel)) (by decide +kernel) rfl hm_z
                      obtain ⟨p1807_z, hm_z⟩ := hm_z
                      replace hm_z := rn_iinc (w := 4) (am_cur_of (i := (133, 3, .iinc 2 1, (0, 0, 0), 0)) (by decide +kernel)) g2m (by decide) hm_z
                      obtain ⟨_, s1808_z, s1809_z, g2m, hm_z⟩ := hm_z
                      replace g0m := s1808_z 0 _ (by decide) rfl g0m
                      replace g1m := s1808_z 1 _ (by decide) rfl g1m
                      replace g3m := s1808_z 3 _ (by decide) rfl g3m
                      replace g4m := s1808_z 4 _ (by decide) rfl g4m
                      clear s1808_z s1809_z
                      replace hm_z := rn_goto (am_cur_of (i := (136, 3, .goto (-87), (29, 0, 0), 0)) (by decide +kernel)) hm_z
                      replace hm_z := rn_iload_n (am_cur_of (i := (49, 1, .iload_n 2, (0, 0, 0), 0)) (by decide +kernel)) g2m hm_z
                      replace hm_z := rn_bipush (w := 7) (am_cur_of (i := (50, 2, .bipush 7, (0, 0, 0), 0)) (by decide +kernel)) (by decide) hm_z
                      replace hm_z := rn_cmpF (am_cur_of (i := (52, 3, .if_icmp .ge 87, (79, 0, 0), 0)) (by decide +kernel)) (by decide) hm_z
                      replace hm_z := rn_iload_n (am_cur_of (i := (55, 1, .iload_n 2, (0, 0, 0), 0)) (by decide +kernel)) g2m hm_z
                      replace hm_z := rn_ifF (am_cur_of (i := (56, 3, .ifCond .eq 13, (40, 0, 0), 0)) (by decide +kernel)) (by decide) hm_z
                      replace hm_z := rn_iload_n (am_cur_of (i := (59, 1, .iload_n 2, (0, 0, 0), 0)) (by decide +kernel)) g2m hm_z
                      replace hm_z := rn_iconst (w := 2) (am_cur_of (i := (60, 1, .iconst 2, (0, 0, 0), 0)) (by decide +kernel)) (by decide) hm_z
                      replace hm_z := rn_cmpF (am_cur_of (i := (61, 3, .if_icmp .eq 8, (40, 0, 0), 0)) (by decide +kernel)) (by decide) hm_z
                      replace hm_z := rn_iload_n (am_cur_of (i := (64, 1, .iload_n 2, (0, 0, 0), 0)) (by decide +kernel)) g2m hm_z
                      replace hm_z := rn_iconst (w := 3) (am_cur_of (i := (65, 1, .iconst 3, (0, 0, 0), 0)) (by decide +kernel)) (by decide) hm_z
                      replace hm_z := rn_cmpT (am_cur_of (i := (66, 3, .if_icmp .ne 7, (42, 0, 0), 0)) (by decide +kernel)) (by decide) hm_z
                      replace hm_z := rn_iconst (w := 0) (am_cur_of (i := (73, 1, .iconst 0, (0, 0, 0), 0)) (by decide +kernel)) (by decide) hm_z
                      replace hm_z := rn_istore_n (am_cur_of (i := (74, 1, .istore_n 3, (0, 0, 0), 0)) (by decide +kernel)) hm_z
                      obtain ⟨_, s1810_z, s1811_z, g3m, hm_z⟩ := hm_z
                      replace g0m := s1810_z 0 _ (by decide) rfl g0m
                      replace g1m := s1810_z 1 _ (by decide) rfl g1m
                      replace g2m := s1810_z 2 _ (by decide) rfl g2m
                      replace g4m := s1810_z 4 _ (by decide) rfl g4m
                      clear s1810_z s1811_z
                      replace hm_z := rn_iload_n (am_cur_of (i := (75, 1, .iload_n 2, (0, 0, 0), 0)) (by decide +kernel)) g2m hm_z
                      replace hm_z := rn_iconst (w := 1) (am_cur_of (i := (76, 1, .iconst 1, (0, 0, 0), 0)) (by decide +kernel)) (by decide) hm_z
                      replace hm_z := rn_cmpF (am_cur_of (i := (77, 3, .if_icmp .eq 8, (50, 0, 0), 0)) (by decide +kernel)) (by decide) hm_z
                      replace hm_z := rn_iload_n (am_cur_of (i := (80, 1, .iload_n 2, (0, 0, 0), 0)) (by decide +kernel)) g2m hm_z
                      replace hm_z := rn_iconst (w := 2) (am_cur_of (i := (81, 1, .iconst 2, (0, 0, 0), 0)) (by decide +kernel)) (by decide) hm_z
                      replace hm_z := rn_cmpT (am_cur_of (i := (82, 3, .if_icmp .ne 8, (52, 0, 0), 0)) (by decide +kernel)) (by decide) hm_z
                      replace hm_z := rn_iload_n (am_cur_of (i := (90, 1, .iload_n 2, (0, 0, 0), 0)) (by decide +kernel)) g2m hm_z
                      replace hm_z := rn_iconst (w := 3) (am_cur_of (i := (91, 1, .iconst 3, (0, 0, 0), 0)) (by decide +kernel)) (by decide) hm_z
                      replace hm_z := rn_cmpF (am_cur_of (i := (92, 3, .if_icmp .eq 8, (58, 0, 0), 0)) (by decide +kernel)) (by decide) hm_z
                      replace hm_z := rn_iload_n (am_cur_of (i := (95, 1, .iload_n 2, (0, 0, 0), 0)) (by decide +kernel)) g2m hm_z
                      replace hm_z := rn_iconst (w := 5) (am_cur_of (i := (96, 1, .iconst 5, (0, 0, 0), 0)) (by decide +kernel)) (by decide) hm_z
                      replace hm_z := rn_cmpT (am_cur_of (i := (97, 3, .if_icmp .ne 8, (60, 0, 0), 0)) (by decide +kernel)) (by decide) hm_z
                      replace hm_z := rn_bipush (w := 99) (am_cur_of (i := (105, 2, .bipush 99, (0, 0, 0), 0)) (by decide +kernel)) (by decide) hm_z
                      replace hm_z := rn_istore (am_cur_of (i := (107, 2, .istore 4, (0, 0, 0), 0)) (by decide +kernel)) hm_z
                      obtain ⟨_, s1812_z, s1813_z, g4m, hm_z⟩ := hm_z
                      replace g0m := s1812_z 0 _ (by decide) rfl g0m
                      replace g1m := s1812_z 1 _ (by decide) rfl g1m
                      replace g2m := s1812_z 2 _ (by decide) rfl g2m
                      replace g3m := s1812_z 3 _ (by decide) rfl g3m
                      clear s1812_z s1813_z
                      replace hm_z := rn_aload_n (am_cur_of (i := (109, 1, .aload_n 0, (0, 0, 0), 0)) (by decide +kernel)) g0m hm_z
                      replace hm_z := rn_iload_n (am_cur_of (i := (110, 1, .iload_n 3, (0, 0, 0), 0)) (by decide +kernel)) g3m hm_z
                      replace hm_z := rn_iload (am_cur_of (i := (111, 2, .iload 4, (0, 0, 0), 0)) (by decide +kernel)) g4m hm_z
                      replace hm_z := rn_callV (M' := am_m161) (o := 164) (ar := [.int 99, .int 0]) (rest := []) (L := lv_args 0 [.ref 164, .int 0, .int 99]) (am_cur_of (i := (113, 3, .invokevirtual 197, (161, 1677, 3), 0)) (by decide +kernel)) rfl rfl rfl rfl hm_z
                      obtain ⟨r1814_z, h1815_z, q1816_z, hm_z⟩ := hm_z
                      have R' : rq T S x30_z p30_z 23 (am_up h1792_z 43 4 (.int v30_z)) (am_up h1802_z 170 52 (.int v30_z)) := ⟨⟨c1_z, c2_z, c3_z, c4_z, c5_z, c6_z, fun k hk_z => c7_z k hk_z, fun k hk_z => c8_z k hk_z⟩, ⟨m2_z, m3_z, m4_z, m5_z, m6_z, fun k hk_z => m7_z k hk_z, fun k hk_z => m8_z k hk_z⟩, R3, R4, R5, R6, R7, R8, R9, R10⟩
                      have A' : rp 23 (am_up h1792_z 43 4 (.int v30_z)) (am_up h1802_z 170 52 (.int v30_z)) := ⟨⟨a1_z, a2_z, a3_z, a4_z, a5_z, a6_z⟩, ⟨nb1_z, nb2_z, nb3_z⟩, ⟨nt1_z, nt2_z, nt3_z⟩, ⟨nl1_z, nl2_z, nl3_z⟩, ⟨nr1_z, nr2_z, nr3_z⟩, ⟨nk1_z, nk2_z, nk3_z⟩, ⟨(fun hb_z k hk_z => by match k, hk_z with | 0, _ => exact AC0 hb_z 0 (by decide) | 1, _ => exact AC0 hb_z 1 (by decide) | 2, _ => exact AC0 hb_z 2 (by decide) | 3, _ => exact AC0 hb_z 3 (by decide) | 4, _ => exact AC0 hb_z 4 (by decide) | 5, _ => exact AC0 hb_z 5 (by decide) | 6, _ => exact AC0 hb_z 6 (by decide) | 7, _ => exact AC0 hb_z 7 (by decide)), (fun hb_z k hk_z => by match k, hk_z with | 0, _ => exact AC1 hb_z 0 (by decide) | 1, _ => exact AC1 hb_z 1 (by decide) | 2, _ => exact AC1 hb_z 2 (by decide) | 3, _ => exact AC1 hb_z 3 (by decide) | 4, _ => exact AC1 hb_z 4 (by decide) | 5, _ => exact AC1 hb_z 5 (by decide) | 6, _ => exact AC1 hb_z 6 (by decide) | 7, _ => exact AC1 hb_z 7 (by decide)), (fun hb_z k hk_z => by match k, hk_z with | 0, _ => exact AC2 hb_z 0 (by decide) | 1, _ => exact AC2 hb_z 1 (by decide) | 2, _ => exact AC2 hb_z 2 (by decide) | 3, _ => exact AC2 hb_z 3 (by decide) | 4, _ => exact AC2 hb_z 4 (by decide) | 5, _ => exact AC2 hb_z 5 (by decide) | 6, _ => exact AC2 hb_z 6 (by decide) | 7, _ => exact AC2 hb_z 7 (by decide)), fun hb_z => absurd hb_z (by rw [show rg_v (am_up h1792_z 43 4 (.int v30_z)) 23 2 = 3 from ecb]; decide)⟩, fun t ht => AD t ht, fun t ht => AE t ht, fun t ht => AG t ht⟩
                      have B' : rp_t (am_up h1792_z 43 4 (.int v30_z)) (am_up h1802_z 170 52 (.int v30_z)) := by
                        obtain ⟨b0_z, b1_z, b2_z, b3_z, b4_z, b5_z, b6_z, t, o0_z, o1_z, o2_z, o3_z, o4_z, o5_z, o6_z⟩ := B
                        exact ⟨b0_z, b1_z, b2_z, b3_z, b4_z, b5_z, b6_z, t, o0_z, o1_z, o2_z, o3_z, o4_z, o5_z, o6_z⟩
                      rcases pr_num R' (by decide) (by decide) q1806_z q1816_z with ⟨v31_z, x31_z, p31_z, rfl, rfl, lo31_z, hi31_z, R, le31_z, got, X, Y, t7_z, t167_z⟩ | ⟨rfl, F⟩
                      · replace A := rp_x (by decide) A' X Y
                        replace B := rp_tk B' t7_z t167_z Y
                        clear A' B' R'
                        replace le31_z : x.toInt ≤ p31_z.toInt := Int.le_trans (Int.le_trans le30_z R8) le31_z
                        replace ecb : rg_v h1805_z 23 2 = 3 := (rx_v X (o := 23) (k := 2) (by decide)).trans ecb
                        replace ect : rg_v h1805_z 23 4 = ct := (rx_v X (o := 23) (k := 4) (by decide)).trans ect
                        replace ecl : rg_v h1805_z 23 9 = cl := (rx_v X (o := 23) (k := 9) (by decide)).trans ecl
                        replace ecr : rg_v h1805_z 23 12 = cr := (rx_v X (o := 23) (k := 12) (by decide)).trans ecr
                        replace E0 : rg_v h1805_z 43 0 = rg_v h1815_z 169 7 := (rx_v X (o := 43) (k := 0) (by decide)).trans (E0.trans (rx_w Y (o := 169) (k := 7) (by omega) (by decide)).symm)
                        replace E1 : rg_v h1805_z 43 1 = rg_v h1815_z 170 49 := (rx_v X (o := 43) (k := 1) (by decide)).trans (E1.trans (rx_w Y (o := 170) (k := 49) (by omega) (by decide)).symm)
                        replace E2 : rg_v h1805_z 43 2 = rg_v h1815_z 170 50 := (rx_v X (o := 43) (k := 2) (by decide)).trans (E2.trans (rx_w Y (o := 170) (k := 50) (by omega) (by decide)).symm)
                        replace E3 : rg_v h1805_z 43 3 = rg_v h1815_z 170 51 := (rx_v X (o := 43) (k := 3) (by decide)).trans (E3.trans (rx_w Y (o := 170) (k := 51) (by omega) (by decide)).symm)
                        have E4 : rg_v h1805_z 43 4 = rg_v h1815_z 170 52 := (rx_v X (o := 43) (k := 4) (by decide)).trans (Eq.trans (rfl) (rx_w Y (o := 170) (k := 52) (by omega) (by decide)).symm)
                        replace hm_z : rn _ _ _ _ [.int 1] _ _ _ := hm_z
                        replace hc_z : rn _ _ _ _ [.int v31_z, .ref 43] _ _ _ := hc_z
                        clear a1_z a2_z a3_z a4_z a5_z a6_z nb1_z nb2_z nb3_z nt1_z nt2_z nt3_z nl1_z nl2_z nl3_z nr1_z nr2_z nr3_z nk1_z nk2_z nk3_z AC0 AC1 AC2 AC3 AD AE AG c1_z c2_z c3_z c4_z c5_z c6_z c7_z c8_z m2_z m3_z m4_z m5_z m6_z m7_z m8_z R3 R4 R5 R6 R7 R8 R9 R10
                        obtain ⟨⟨⟨a1_z, a2_z, a3_z, a4_z, a5_z, a6_z⟩, ⟨nb1_z, nb2_z, nb3_z⟩, ⟨nt1_z, nt2_z, nt3_z⟩, ⟨nl1_z, nl2_z, nl3_z⟩, ⟨nr1_z, nr2_z, nr3_z⟩, ⟨nk1_z, nk2_z, nk3_z⟩, ⟨AC0, AC1, AC2, AC3⟩, AD, AE, AG⟩, ⟨⟨c1_z, c2_z, c3_z, c4_z, c5_z, c6_z, c7_z, c8_z⟩, ⟨m2_z, m3_z, m4_z, m5_z, m6_z, m7_z, m8_z⟩, R3, R4, R5, R6, R7, R8, R9, R10⟩⟩ := (⟨A, R⟩ : rp 23 h1805_z h1815_z ∧ rq T S x31_z p31_z 23 h1805_z h1815_z)
                        replace hc_z := rn_put (am_cur_of (i := (124, 3, .putfield 187, (3, 5, 218), 0)) (by decide +kernel)) (by decide +kernel) hc_z
                        replace hc_z := rn_aload_n (am_cur_of (i := (127, 1, .aload_n 1, (0, 0, 0), 0)) (by decide +kernel)) g1_z hc_z
                        replace hc_z := rn_aload_n (am_cur_of (i := (128, 1, .aload_n 0, (0, 0, 0), 0)) (by decide +kernel)) g0_z hc_z
                        replace hc_z := rn_iconst (w := 0) (am_cur_of (i := (129, 1, .iconst 0, (0, 0, 0), 0)) (by decide +kernel)) (by decide) hc_z
                        replace hc_z := rn_bipush (w := 9) (am_cur_of (i := (130, 2, .bipush 9, (0, 0, 0), 0)) (by decide +kernel)) (by decide) hc_z
                        replace hc_z := rn_callV (M' := am_m30) (o := 44) (ar := [.int 9, .int 0]) (rest := [.ref 43]) (L := lv_args 0 [.ref 44, .int 0, .int 9]) (am_cur_of (i := (132, 3, .invokevirtual 142, (30, 773, 3), 0)) (by decide +kernel)) rfl rfl rfl rfl hc_z
                        obtain ⟨r1817_z, h1818_z, q1819_z, hc_z⟩ := hc_z
                        replace hm_z := rn_ifT (am_cur_of (i := (116, 3, .ifCond .ne 5, (69, 0, 0), 0)) (by decide +kernel)) (by decide) hm_z
                        replace hm_z := rn_aload_n (am_cur_of (i := (121, 1, .aload_n 0, (0, 0, 0), 0)) (by decide +kernel)) g0m hm_z
                        replace hm_z := rn_getR (x := 170) (am_cur_of (i := (122, 3, .getfield 30, (12, 25, 1409), 0)) (by decide +kernel)) (by decide +kernel) hm_z
                        replace hm_z := rn_iload_n (am_cur_of (i := (125, 1, .iload_n 1, (0, 0, 0), 0)) (by decide +kernel)) g1m hm_z
                        replace hm_z := rn_iload_n (am_cur_of (i := (126, 1, .iload_n 2, (0, 0, 0), 0)) (by decide +kernel)) g2m hm_z
                        replace hm_z := rn_iadd (w := 53) (am_cur_of (i := (127, 1, .iadd, (0, 0, 0), 0)) (by decide +kernel)) (by decide) hm_z
                        replace hm_z := rn_aload_n (am_cur_of (i := (128, 1, .aload_n 0, (0, 0, 0), 0)) (by decide +kernel)) g0m hm_z
                        replace hm_z := rn_getI (v := v31_z) (am_cur_of (i := (129, 3, .getfield 188, (12, 11, 1395), 0)) (by decide +kernel)) (by decide +kernel) got hm_z
                        replace hm_z := rn_iastore (N := 56) (q := 53) (am_cur_of (i := (132, 1, .iastore, (0, 0, 0), 0)) (by decide +kernel)) (by decide +kernel) rfl hm_z
                        obtain ⟨p1820_z, hm_z⟩ := hm_z
                        replace hm_z := rn_iinc (w := 5) (am_cur_of (i := (133, 3, .iinc 2 1, (0, 0, 0), 0)) (by decide +kernel)) g2m (by decide) hm_z
                        obtain ⟨_, s1821_z, s1822_z, g2m, hm_z⟩ := hm_z
                        replace g0m := s1821_z 0 _ (by decide) rfl g0m
                        replace g1m := s1821_z 1 _ (by decide) rfl g1m
                        replace g3m := s1821_z 3 _ (by decide) rfl g3m
                        replace g4m := s1821_z 4 _ (by decide) rfl g4m
                        clear s1821_z s1822_z
                        replace hm_z := rn_goto (am_cur_of (i := (136, 3, .goto (-87), (29, 0, 0), 0)) (by decide +kernel)) hm_z
                        replace hm_z := rn_iload_n (am_cur_of (i := (49, 1, .iload_n 2, (0, 0, 0), 0)) (by decide +kernel)) g2m hm_z
                        replace hm_z := rn_bipush (w := 7) (am_cur_of (i := (50, 2, .bipush 7, (0, 0, 0), 0)) (by decide +kernel)) (by decide) hm_z
                        replace hm_z := rn_cmpF (am_cur_of (i := (52, 3, .if_icmp .ge 87, (79, 0, 0), 0)) (by decide +kernel)) (by decide) hm_z
                        replace hm_z := rn_iload_n (am_cur_of (i := (55, 1, .iload_n 2, (0, 0, 0), 0)) (by decide +kernel)) g2m hm_z
                        replace hm_z := rn_ifF (am_cur_of (i := (56, 3, .ifCond .eq 13, (40, 0, 0), 0)) (by decide +kernel)) (by decide) hm_z
                        replace hm_z := rn_iload_n (am_cur_of (i := (59, 1, .iload_n 2, (0, 0, 0), 0)) (by decide +kernel)) g2m hm_z
                        replace hm_z := rn_iconst (w := 2) (am_cur_of (i := (60, 1, .iconst 2, (0, 0, 0), 0)) (by decide +kernel)) (by decide) hm_z
                        replace hm_z := rn_cmpF (am_cur_of (i := (61, 3, .if_icmp .eq 8, (40, 0, 0), 0)) (by decide +kernel)) (by decide) hm_z
                        replace hm_z := rn_iload_n (am_cur_of (i := (64, 1, .iload_n 2, (0, 0, 0), 0)) (by decide +kernel)) g2m hm_z
                        replace hm_z := rn_iconst (w := 3) (am_cur_of (i := (65, 1, .iconst 3, (0, 0, 0), 0)) (by decide +kernel)) (by decide) hm_z
                        replace hm_z := rn_cmpT (am_cur_of (i := (66, 3, .if_icmp .ne 7, (42, 0, 0), 0)) (by decide +kernel)) (by decide) hm_z
                        replace hm_z := rn_iconst (w := 0) (am_cur_of (i := (73, 1, .iconst 0, (0, 0, 0), 0)) (by decide +kernel)) (by decide) hm_z
                        replace hm_z := rn_istore_n (am_cur_of (i := (74, 1, .istore_n 3, (0, 0, 0), 0)) (by decide +kernel)) hm_z
                        obtain ⟨_, s1823_z, s1824_z, g3m, hm_z⟩ := hm_z
                        replace g0m := s1823_z 0 _ (by decide) rfl g0m
                        replace g1m := s1823_z 1 _ (by decide) rfl g1m
                        replace g2m := s1823_z 2 _ (by decide) rfl g2m
                        replace g4m := s1823_z 4 _ (by decide) rfl g4m
                        clear s1823_z s1824_z
                        replace hm_z := rn_iload_n (am_cur_of (i := (75, 1, .iload_n 2, (0, 0, 0), 0)) (by decide +kernel)) g2m hm_z
                        replace hm_z := rn_iconst (w := 1) (am_cur_of (i := (76, 1, .iconst 1, (0, 0, 0), 0)) (by decide +kernel)) (by decide) hm_z
                        replace hm_z := rn_cmpF (am_cur_of (i := (77, 3, .if_icmp .eq 8, (50, 0, 0), 0)) (by decide +kernel)) (by decide) hm_z
                        replace hm_z := rn_iload_n (am_cur_of (i := (80, 1, .iload_n 2, (0, 0, 0), 0)) (by decide +kernel)) g2m hm_z
                        replace hm_z := rn_iconst (w := 2) (am_cur_of (i := (81, 1, .iconst 2, (0, 0, 0), 0)) (by decide +kernel)) (by decide) hm_z
                        replace hm_z := rn_cmpT (am_cur_of (i := (82, 3, .if_icmp .ne 8, (52, 0, 0), 0)) (by decide +kernel)) (by decide) hm_z
                        replace hm_z := rn_iload_n (am_cur_of (i := (90, 1, .iload_n 2, (0, 0, 0), 0)) (by decide +kernel)) g2m hm_z
                        replace hm_z := rn_iconst (w := 3) (am_cur_of (i := (91, 1, .iconst 3, (0, 0, 0), 0)) (by decide +kernel)) (by decide) hm_z
                        replace hm_z := rn_cmpF (am_cur_of (i := (92, 3, .if_icmp .eq 8, (58, 0, 0), 0)) (by decide +kernel)) (by decide) hm_z
                        replace hm_z := rn_iload_n (am_cur_of (i := (95, 1, .iload_n 2, (0, 0, 0), 0)) (by decide +kernel)) g2m hm_z
                        replace hm_z := rn_iconst (w := 5) (am_cur_of (i := (96, 1, .iconst 5, (0, 0, 0), 0)) (by decide +kernel)) (by decide) hm_z
                        replace hm_z := rn_cmpF (am_cur_of (i := (97, 3, .if_icmp .ne 8, (60, 0, 0), 0)) (by decide +kernel)) (by decide) hm_z
                        replace hm_z := rn_bipush (w := 9) (am_cur_of (i := (100, 2, .bipush 9, (0, 0, 0), 0)) (by decide +kernel)) (by decide) hm_z
                        replace hm_z := rn_goto (am_cur_of (i := (102, 3, .goto 5, (61, 0, 0), 0)) (by decide +kernel)) hm_z
                        replace hm_z := rn_istore (am_cur_of (i := (107, 2, .istore 4, (0, 0, 0), 0)) (by decide +kernel)) hm_z
                        obtain ⟨_, s1825_z, s1826_z, g4m, hm_z⟩ := hm_z
                        replace g0m := s1825_z 0 _ (by decide) rfl g0m
                        replace g1m := s1825_z 1 _ (by decide) rfl g1m
                        replace g2m := s1825_z 2 _ (by decide) rfl g2m
                        replace g3m := s1825_z 3 _ (by decide) rfl g3m
                        clear s1825_z s1826_z
                        replace hm_z := rn_aload_n (am_cur_of (i := (109, 1, .aload_n 0, (0, 0, 0), 0)) (by decide +kernel)) g0m hm_z
                        replace hm_z := rn_iload_n (am_cur_of (i := (110, 1, .iload_n 3, (0, 0, 0), 0)) (by decide +kernel)) g3m hm_z
                        replace hm_z := rn_iload (am_cur_of (i := (111, 2, .iload 4, (0, 0, 0), 0)) (by decide +kernel)) g4m hm_z
                        replace hm_z := rn_callV (M' := am_m161) (o := 164) (ar := [.int 9, .int 0]) (rest := []) (L := lv_args 0 [.ref 164, .int 0, .int 9]) (am_cur_of (i := (113, 3, .invokevirtual 197, (161, 1677, 3), 0)) (by decide +kernel)) rfl rfl rfl rfl hm_z
                        obtain ⟨r1827_z, h1828_z, q1829_z, hm_z⟩ := hm_z
                        have R' : rq T S x31_z p31_z 23 (am_up h1805_z 43 5 (.int v31_z)) (am_up h1815_z 170 53 (.int v31_z)) := ⟨⟨c1_z, c2_z, c3_z, c4_z, c5_z, c6_z, fun k hk_z => c7_z k hk_z, fun k hk_z => c8_z k hk_z⟩, ⟨m2_z, m3_z, m4_z, m5_z, m6_z, fun k hk_z => m7_z k hk_z, fun k hk_z => m8_z k hk_z⟩, R3, R4, R5, R6, R7, R8, R9, R10⟩
                        have A' : rp 23 (am_up h1805_z 43 5 (.int v31_z)) (am_up h1815_z 170 53 (.int v31_z)) := ⟨⟨a1_z, a2_z, a3_z, a4_z, a5_z, a6_z⟩, ⟨nb1_z, nb2_z, nb3_z⟩, ⟨nt1_z, nt2_z, nt3_z⟩, ⟨nl1_z, nl2_z, nl3_z⟩, ⟨nr1_z, nr2_z, nr3_z⟩, ⟨nk1_z, nk2_z, nk3_z⟩, ⟨(fun hb_z k hk_z => by match k, hk_z with | 0, _ => exact AC0 hb_z 0 (by decide) | 1, _ => exact AC0 hb_z 1 (by decide) | 2, _ => exact AC0 hb_z 2 (by decide) | 3, _ => exact AC0 hb_z 3 (by decide) | 4, _ => exact AC0 hb_z 4 (by decide) | 5, _ => exact AC0 hb_z 5 (by decide) | 6, _ => exact AC0 hb_z 6 (by decide) | 7, _ => exact AC0 hb_z 7 (by decide)), (fun hb_z k hk_z => by match k, hk_z with | 0, _ => exact AC1 hb_z 0 (by decide) | 1, _ => exact AC1 hb_z 1 (by decide) | 2, _ => exact AC1 hb_z 2 (by decide) | 3, _ => exact AC1 hb_z 3 (by decide) | 4, _ => exact AC1 hb_z 4 (by decide) | 5, _ => exact AC1 hb_z 5 (by decide) | 6, _ => exact AC1 hb_z 6 (by decide) | 7, _ => exact AC1 hb_z 7 (by decide)), (fun hb_z k hk_z => by match k, hk_z with | 0, _ => exact AC2 hb_z 0 (by decide) | 1, _ => exact AC2 hb_z 1 (by decide) | 2, _ => exact AC2 hb_z 2 (by decide) | 3, _ => exact AC2 hb_z 3 (by decide) | 4, _ => exact AC2 hb_z 4 (by decide) | 5, _ => exact AC2 hb_z 5 (by decide) | 6, _ => exact AC2 hb_z 6 (by decide) | 7, _ => exact AC2 hb_z 7 (by decide)), fun hb_z => absurd hb_z (by rw [show rg_v (am_up h1805_z 43 5 (.int v31_z)) 23 2 = 3 from ecb]; decide)⟩, fun t ht => AD t ht, fun t ht => AE t ht, fun t ht => AG t ht⟩
                        have B' : rp_t (am_up h1805_z 43 5 (.int v31_z)) (am_up h1815_z 170 53 (.int v31_z)) := by
                          obtain ⟨b0_z, b1_z, b2_z, b3_z, b4_z, b5_z, b6_z, t, o0_z, o1_z, o2_z, o3_z, o4_z, o5_z, o6_z⟩ := B
                          exact ⟨b0_z, b1_z, b2_z, b3_z, b4_z, b5_z, b6_z, t, o0_z, o1_z, o2_z, o3_z, o4_z, o5_z, o6_z⟩
                        rcases pr_num R' (by decide) (by decide) q1819_z q1829_z with ⟨v32_z, x32_z, p32_z, rfl, rfl, lo32_z, hi32_z, R, le32_z, got, X, Y, t7_z, t167_z⟩ | ⟨rfl, F⟩
                        · replace A := rp_x (by decide) A' X Y
                          replace B := rp_tk B' t7_z t167_z Y
                          clear A' B' R'
                          replace le32_z : x.toInt ≤ p32_z.toInt := Int.le_trans (Int.le_trans le31_z R8) le32_z
                          replace ecb : rg_v h1818_z 23 2 = 3 := (rx_v X (o := 23) (k := 2) (by decide)).trans ecb
                          replace ect : rg_v h1818_z 23 4 = ct := (rx_v X (o := 23) (k := 4) (by decide)).trans ect
                          replace ecl : rg_v h1818_z 23 9 = cl := (rx_v X (o := 23) (k := 9) (by decide)).trans ecl
                          replace ecr : rg_v h1818_z 23 12 = cr := (rx_v X (o := 23) (k := 12) (by decide)).trans ecr
                          replace E0 : rg_v h1818_z 43 0 = rg_v h1828_z 169 7 := (rx_v X (o := 43) (k := 0) (by decide)).trans (E0.trans (rx_w Y (o := 169) (k := 7) (by omega) (by decide)).symm)
                          replace E1 : rg_v h1818_z 43 1 = rg_v h1828_z 170 49 := (rx_v X (o := 43) (k := 1) (by decide)).trans (E1.trans (rx_w Y (o := 170) (k := 49) (by omega) (by decide)).symm)
                          replace E2 : rg_v h1818_z 43 2 = rg_v h1828_z 170 50 := (rx_v X (o := 43) (k := 2) (by decide)).trans (E2.trans (rx_w Y (o := 170) (k := 50) (by omega) (by decide)).symm)
                          replace E3 : rg_v h1818_z 43 3 = rg_v h1828_z 170 51 := (rx_v X (o := 43) (k := 3) (by decide)).trans (E3.trans (rx_w Y (o := 170) (k := 51) (by omega) (by decide)).symm)
                          replace E4 : rg_v h1818_z 43 4 = rg_v h1828_z 170 52 := (rx_v X (o := 43) (k := 4) (by decide)).trans (E4.trans (rx_w Y (o := 170) (k := 52) (by omega) (by decide)).symm)
                          have E5 : rg_v h1818_z 43 5 = rg_v h1828_z 170 53 := (rx_v X (o := 43) (k := 5) (by decide)).trans (Eq.trans (rfl) (rx_w Y (o := 170) (k := 53) (by omega) (by decide)).symm)
                          replace hm_z : rn _ _ _ _ [.int 1] _ _ _ := hm_z
                          replace hc_z : rn _ _ _ _ [.int v32_z, .ref 43] _ _ _ := hc_z
                          clear a1_z a2_z a3_z a4_z a5_z a6_z nb1_z nb2_z nb3_z nt1_z nt2_z nt3_z nl1_z nl2_z nl3_z nr1_z nr2_z nr3_z nk1_z nk2_z nk3_z AC0 AC1 AC2 AC3 AD AE AG c1_z c2_z c3_z c4_z c5_z c6_z c7_z c8_z m2_z m3_z m4_z m5_z m6_z m7_z m8_z R3 R4 R5 R6 R7 R8 R9 R10
                          obtain ⟨⟨⟨a1_z, a2_z, a3_z, a4_z, a5_z, a6_z⟩, ⟨nb1_z, nb2_z, nb3_z⟩, ⟨nt1_z, nt2_z, nt3_z⟩, ⟨nl1_z, nl2_z, nl3_z⟩, ⟨nr1_z, nr2_z, nr3_z⟩, ⟨nk1_z, nk2_z, nk3_z⟩, ⟨AC0, AC1, AC2, AC3⟩, AD, AE, AG⟩, ⟨⟨c1_z, c2_z, c3_z, c4_z, c5_z, c6_z, c7_z, c8_z⟩, ⟨m2_z, m3_z, m4_z, m5_z, m6_z, m7_z, m8_z⟩, R3, R4, R5, R6, R7, R8, R9, R10⟩⟩ := (⟨A, R⟩ : rp 23 h1818_z h1828_z ∧ rq T S x32_z p32_z 23 h1818_z h1828_z)
                          replace hc_z := rn_put (am_cur_of (i := (135, 3, .putfield 190, (3, 6, 220), 0)) (by decide +kernel)) (by decide +kernel) hc_z
                          replace hc_z := rn_aload_n (am_cur_of (i := (138, 1, .aload_n 1, (0, 0, 0), 0)) (by decide +kernel)) g1_z hc_z
                          replace hc_z := rn_aload_n (am_cur_of (i := (139, 1, .aload_n 0, (0, 0, 0), 0)) (by decide +kernel)) g0_z hc_z
                          replace hc_z := rn_iconst (w := 0) (am_cur_of (i := (140, 1, .iconst 0, (0, 0, 0), 0)) (by decide +kernel)) (by decide) hc_z
                          replace hc_z := rn_bipush (w := 99) (am_cur_of (i := (141, 2, .bipush 99, (0, 0, 0), 0)) (by decide +kernel)) (by decide) hc_z
                          replace hc_z := rn_callV (M' := am_m30) (o := 44) (ar := [.int 99, .int 0]) (rest := [.ref 43]) (L := lv_args 0 [.ref 44, .int 0, .int 99]) (am_cur_of (i := (143, 3, .invokevirtual 142, (30, 773, 3), 0)) (by decide +kernel)) rfl rfl rfl rfl hc_z
                          obtain ⟨r1830_z, h1831_z, q1832_z, hc_z⟩ := hc_z
                          replace hm_z := rn_ifT (am_cur_of (i := (116, 3, .ifCond .ne 5, (69, 0, 0), 0)) (by decide +kernel)) (by decide) hm_z
                          replace hm_z := rn_aload_n (am_cur_of (i := (121, 1, .aload_n 0, (0, 0, 0), 0)) (by decide +kernel)) g0m hm_z
                          replace hm_z := rn_getR (x := 170) (am_cur_of (i := (122, 3, .getfield 30, (12, 25, 1409), 0)) (by decide +kernel)) (by decide +kernel) hm_z
                          replace hm_z := rn_iload_n (am_cur_of (i := (125, 1, .iload_n 1, (0, 0, 0), 0)) (by decide +kernel)) g1m hm_z
                          replace hm_z := rn_iload_n (am_cur_of (i := (126, 1, .iload_n 2, (0, 0, 0), 0)) (by decide +kernel)) g2m hm_z
                          replace hm_z := rn_iadd (w := 54) (am_cur_of (i := (127, 1, .iadd, (0, 0, 0), 0)) (by decide +kernel)) (by decide) hm_z
                          replace hm_z := rn_aload_n (am_cur_of (i := (128, 1, .aload_n 0, (0, 0, 0), 0)) (by decide +kernel)) g0m hm_z
                          replace hm_z := rn_getI (v := v32_z) (am_cur_of (i := (129, 3, .getfield 188, (12, 11, 1395), 0)) (by decide +kernel)) (by decide +kernel) got hm_z
                          replace hm_z := rn_iastore (N := 56) (q := 54) (am_cur_of (i := (132, 1, .iastore, (0, 0, 0), 0)) (by decide +kernel)) (by decide +kernel) rfl hm_z
                          obtain ⟨p1833_z, hm_z⟩ := hm_z
                          replace hm_z := rn_iinc (w := 6) (am_cur_of (i := (133, 3, .iinc 2 1, (0, 0, 0), 0)) (by decide +kernel)) g2m (by decide) hm_z
                          obtain ⟨_, s1834_z, s1835_z, g2m, hm_z⟩ := hm_z
                          replace g0m := s1834_z 0 _ (by decide) rfl g0m
                          replace g1m := s1834_z 1 _ (by decide) rfl g1m
                          replace g3m := s1834_z 3 _ (by decide) rfl g3m
                          replace g4m := s1834_z 4 _ (by decide) rfl g4m
                          clear s1834_z s1835_z
                          replace hm_z := rn_goto (am_cur_of (i := (136, 3, .goto (-87), (29, 0, 0), 0)) (by decide +kernel)) hm_z
                          replace hm_z := rn_iload_n (am_cur_of (i := (49, 1, .iload_n 2, (0, 0, 0), 0)) (by decide +kernel)) g2m hm_z
                          replace hm_z := rn_bipush (w := 7) (am_cur_of (i := (50, 2, .bipush 7, (0, 0, 0), 0)) (by decide +kernel)) (by decide) hm_z
                          replace hm_z := rn_cmpF (am_cur_of (i := (52, 3, .if_icmp .ge 87, (79, 0, 0), 0)) (by decide +kernel)) (by decide) hm_z
                          replace hm_z := rn_iload_n (am_cur_of (i := (55, 1, .iload_n 2, (0, 0, 0), 0)) (by decide +kernel)) g2m hm_z
                          replace hm_z := rn_ifF (am_cur_of (i := (56, 3, .ifCond .eq 13, (40, 0, 0), 0)) (by decide +kernel)) (by decide) hm_z
                          replace hm_z := rn_iload_n (am_cur_of (i := (59, 1, .iload_n 2, (0, 0, 0), 0)) (by decide +kernel)) g2m hm_z
                          replace hm_z := rn_iconst (w := 2) (am_cur_of (i := (60, 1, .iconst 2, (0, 0, 0), 0)) (by decide +kernel)) (by decide) hm_z
                          replace hm_z := rn_cmpF (am_cur_of (i := (61, 3, .if_icmp .eq 8, (40, 0, 0), 0)) (by decide +kernel)) (by decide) hm_z
                          replace hm_z := rn_iload_n (am_cur_of (i := (64, 1, .iload_n 2, (0, 0, 0), 0)) (by decide +kernel)) g2m hm_z
                          replace hm_z := rn_iconst (w := 3) (am_cur_of (i := (65, 1, .iconst 3, (0, 0, 0), 0)) (by decide +kernel)) (by decide) hm_z
                          replace hm_z := rn_cmpT (am_cur_of (i := (66, 3, .if_icmp .ne 7, (42, 0, 0), 0)) (by decide +kernel)) (by decide) hm_z
                          replace hm_z := rn_iconst (w := 0) (am_cur_of (i := (73, 1, .iconst 0, (0, 0, 0), 0)) (by decide +kernel)) (by decide) hm_z
                          replace hm_z := rn_istore_n (am_cur_of (i := (74, 1, .istore_n 3, (0, 0, 0), 0)) (by decide +kernel)) hm_z
                          obtain ⟨_, s1836_z, s1837_z, g3m, hm_z⟩ := hm_z
                          replace g0m := s1836_z 0 _ (by decide) rfl g0m
                          replace g1m := s1836_z 1 _ (by decide) rfl g1m
                          replace g2m := s1836_z 2 _ (by decide) rfl g2m
                          replace g4m := s1836_z 4 _ (by decide) rfl g4m
                          clear s1836_z s1837_z
                          replace hm_z := rn_iload_n (am_cur_of (i := (75, 1, .iload_n 2, (0, 0, 0), 0)) (by decide +kernel)) g2m hm_z
                          replace hm_z := rn_iconst (w := 1) (am_cur_of (i := (76, 1, .iconst 1, (0, 0, 0), 0)) (by decide +kernel)) (by decide) hm_z
                          replace hm_z := rn_cmpF (am_cur_of (i := (77, 3, .if_icmp .eq 8, (50, 0, 0), 0)) (by decide +kernel)) (by decide) hm_z
                          replace hm_z := rn_iload_n (am_cur_of (i := (80, 1, .iload_n 2, (0, 0, 0), 0)) (by decide +kernel)) g2m hm_z
                          replace hm_z := rn_iconst (w := 2) (am_cur_of (i := (81, 1, .iconst 2, (0, 0, 0), 0)) (by decide +kernel)) (by decide) hm_z
                          replace hm_z := rn_cmpT (am_cur_of (i := (82, 3, .if_icmp .ne 8, (52, 0, 0), 0)) (by decide +kernel)) (by decide) hm_z
                          replace hm_z := rn_iload_n (am_cur_of (i := (90, 1, .iload_n 2, (0, 0, 0), 0)) (by decide +kernel)) g2m hm_z
                          replace hm_z := rn_iconst (w := 3) (am_cur_of (i := (91, 1, .iconst 3, (0, 0, 0), 0)) (by decide +kernel)) (by decide) hm_z
                          replace hm_z := rn_cmpF (am_cur_of (i := (92, 3, .if_icmp .eq 8, (58, 0, 0), 0)) (by decide +kernel)) (by decide) hm_z
                          replace hm_z := rn_iload_n (am_cur_of (i := (95, 1, .iload_n 2, (0, 0, 0), 0)) (by decide +kernel)) g2m hm_z
                          replace hm_z := rn_iconst (w := 5) (am_cur_of (i := (96, 1, .iconst 5, (0, 0, 0), 0)) (by decide +kernel)) (by decide) hm_z
                          replace hm_z := rn_cmpT (am_cur_of (i := (97, 3, .if_icmp .ne 8, (60, 0, 0), 0)) (by decide +kernel)) (by decide) hm_z
                          replace hm_z := rn_bipush (w := 99) (am_cur_of (i := (105, 2, .bipush 99, (0, 0, 0), 0)) (by decide +kernel)) (by decide) hm_z
                          replace hm_z := rn_istore (am_cur_of (i := (107, 2, .istore 4, (0, 0, 0), 0)) (by decide +kernel)) hm_z
                          obtain ⟨_, s1838_z, s1839_z, g4m, hm_z⟩ := hm_z
                          replace g0m := s1838_z 0 _ (by decide) rfl g0m
                          replace g1m := s1838_z 1 _ (by decide) rfl g1m
                          replace g2m := s1838_z 2 _ (by decide) rfl g2m
                          replace g3m := s1838_z 3 _ (by decide) rfl g3m
                          clear s1838_z s1839_z
                          replace hm_z := rn_aload_n (am_cur_of (i := (109, 1, .aload_n 0, (0, 0, 0), 0)) (by decide +kernel)) g0m hm_z
                          replace hm_z := rn_iload_n (am_cur_of (i := (110, 1, .iload_n 3, (0, 0, 0), 0)) (by decide +kernel)) g3m hm_z
                          replace hm_z := rn_iload (am_cur_of (i := (111, 2, .iload 4, (0, 0, 0), 0)) (by decide +kernel)) g4m hm_z
                          replace hm_z := rn_callV (M' := am_m161) (o := 164) (ar := [.int 99, .int 0]) (rest := []) (L := lv_args 0 [.ref 164, .int 0, .int 99]) (am_cur_of (i := (113, 3, .invokevirtual 197, (161, 1677, 3), 0)) (by decide +kernel)) rfl rfl rfl rfl hm_z
                          obtain ⟨r1840_z, h1841_z, q1842_z, hm_z⟩ := hm_z
                          have R' : rq T S x32_z p32_z 23 (am_up h1818_z 43 6 (.int v32_z)) (am_up h1828_z 170 54 (.int v32_z)) := ⟨⟨c1_z, c2_z, c3_z, c4_z, c5_z, c6_z, fun k hk_z => c7_z k hk_z, fun k hk_z => c8_z k hk_z⟩, ⟨m2_z, m3_z, m4_z, m5_z, m6_z, fun k hk_z => m7_z k hk_z, fun k hk_z => m8_z k hk_z⟩, R3, R4, R5, R6, R7, R8, R9, R10⟩
                          have A' : rp 23 (am_up h1818_z 43 6 (.int v32_z)) (am_up h1828_z 170 54 (.int v32_z)) := ⟨⟨a1_z, a2_z, a3_z, a4_z, a5_z, a6_z⟩, ⟨nb1_z, nb2_z, nb3_z⟩, ⟨nt1_z, nt2_z, nt3_z⟩, ⟨nl1_z, nl2_z, nl3_z⟩, ⟨nr1_z, nr2_z, nr3_z⟩, ⟨nk1_z, nk2_z, nk3_z⟩, ⟨(fun hb_z k hk_z => by match k, hk_z with | 0, _ => exact AC0 hb_z 0 (by decide) | 1, _ => exact AC0 hb_z 1 (by decide) | 2, _ => exact AC0 hb_z 2 (by decide) | 3, _ => exact AC0 hb_z 3 (by decide) | 4, _ => exact AC0 hb_z 4 (by decide) | 5, _ => exact AC0 hb_z 5 (by decide) | 6, _ => exact AC0 hb_z 6 (by decide) | 7, _ => exact AC0 hb_z 7 (by decide)), (fun hb_z k hk_z => by match k, hk_z with | 0, _ => exact AC1 hb_z 0 (by decide) | 1, _ => exact AC1 hb_z 1 (by decide) | 2, _ => exact AC1 hb_z 2 (by decide) | 3, _ => exact AC1 hb_z 3 (by decide) | 4, _ => exact AC1 hb_z 4 (by decide) | 5, _ => exact AC1 hb_z 5 (by decide) | 6, _ => exact AC1 hb_z 6 (by decide) | 7, _ => exact AC1 hb_z 7 (by decide)), (fun hb_z k hk_z => by match k, hk_z with | 0, _ => exact AC2 hb_z 0 (by decide) | 1, _ => exact AC2 hb_z 1 (by decide) | 2, _ => exact AC2 hb_z 2 (by decide) | 3, _ => exact AC2 hb_z 3 (by decide) | 4, _ => exact AC2 hb_z 4 (by decide) | 5, _ => exact AC2 hb_z 5 (by decide) | 6, _ => exact AC2 hb_z 6 (by decide) | 7, _ => exact AC2 hb_z 7 (by decide)), fun hb_z => absurd hb_z (by rw [show rg_v (am_up h1818_z 43 6 (.int v32_z)) 23 2 = 3 from ecb]; decide)⟩, fun t ht => AD t ht, fun t ht => AE t ht, fun t ht => AG t ht⟩
                          have B' : rp_t (am_up h1818_z 43 6 (.int v32_z)) (am_up h1828_z 170 54 (.int v32_z)) := by
                            obtain ⟨b0_z, b1_z, b2_z, b3_z, b4_z, b5_z, b6_z, t, o0_z, o1_z, o2_z, o3_z, o4_z, o5_z, o6_z⟩ := B
                            exact ⟨b0_z, b1_z, b2_z, b3_z, b4_z, b5_z, b6_z, t, o0_z, o1_z, o2_z, o3_z, o4_z, o5_z, o6_z⟩
                          rcases pr_num R' (by decide) (by decide) q1832_z q1842_z with ⟨v33_z, x33_z, p33_z, rfl, rfl, lo33_z, hi33_z, R, le33_z, got, X, Y, t7_z, t167_z⟩ | ⟨rfl, F⟩
                          · replace A := rp_x (by decide) A' X Y
                            replace B := rp_tk B' t7_z t167_z Y
                            clear A' B' R'
                            replace le33_z : x.toInt ≤ p33_z.toInt := Int.le_trans (Int.le_trans le32_z R8) le33_z
                            replace ecb : rg_v h1831_z 23 2 = 3 := (rx_v X (o := 23) (k := 2) (by decide)).trans ecb
                            replace ect : rg_v h1831_z 23 4 = ct := (rx_v X (o := 23) (k := 4) (by decide)).trans ect
                            replace ecl : rg_v h1831_z 23 9 = cl := (rx_v X (o := 23) (k := 9) (by decide)).trans ecl
                            replace ecr : rg_v h1831_z 23 12 = cr := (rx_v X (o := 23) (k := 12) (by decide)).trans ecr
                            replace E0 : rg_v h1831_z 43 0 = rg_v h1841_z 169 7 := (rx_v X (o := 43) (k := 0) (by decide)).trans (E0.trans (rx_w Y (o := 169) (k := 7) (by omega) (by decide)).symm)
                            replace E1 : rg_v h1831_z 43 1 = rg_v h1841_z 170 49 := (rx_v X (o := 43) (k := 1) (by decide)).trans (E1.trans (rx_w Y (o := 170) (k := 49) (by omega) (by decide)).symm)
                            replace E2 : rg_v h1831_z 43 2 = rg_v h1841_z 170 50 := (rx_v X (o := 43) (k := 2) (by decide)).trans (E2.trans (rx_w Y (o := 170) (k := 50) (by omega) (by decide)).symm)
                            replace E3 : rg_v h1831_z 43 3 = rg_v h1841_z 170 51 := (rx_v X (o := 43) (k := 3) (by decide)).trans (E3.trans (rx_w Y (o := 170) (k := 51) (by omega) (by decide)).symm)
                            replace E4 : rg_v h1831_z 43 4 = rg_v h1841_z 170 52 := (rx_v X (o := 43) (k := 4) (by decide)).trans (E4.trans (rx_w Y (o := 170) (k := 52) (by omega) (by decide)).symm)
                            replace E5 : rg_v h1831_z 43 5 = rg_v h1841_z 170 53 := (rx_v X (o := 43) (k := 5) (by decide)).trans (E5.trans (rx_w Y (o := 170) (k := 53) (by omega) (by decide)).symm)
                            have E6 : rg_v h1831_z 43 6 = rg_v h1841_z 170 54 := (rx_v X (o := 43) (k := 6) (by decide)).trans (Eq.trans (rfl) (rx_w Y (o := 170) (k := 54) (by omega) (by decide)).symm)
                            replace hm_z : rn _ _ _ _ [.int 1] _ _ _ := hm_z
                            replace hc_z : rn _ _ _ _ [.int v33_z, .ref 43] _ _ _ := hc_z
                            clear a1_z a2_z a3_z a4_z a5_z a6_z nb1_z nb2_z nb3_z nt1_z nt2_z nt3_z nl1_z nl2_z nl3_z nr1_z nr2_z nr3_z nk1_z nk2_z nk3_z AC0 AC1 AC2 AC3 AD AE AG c1_z c2_z c3_z c4_z c5_z c6_z c7_z c8_z m2_z m3_z m4_z m5_z m6_z m7_z m8_z R3 R4 R5 R6 R7 R8 R9 R10
                            obtain ⟨⟨⟨a1_z, a2_z, a3_z, a4_z, a5_z, a6_z⟩, ⟨nb1_z, nb2_z, nb3_z⟩, ⟨nt1_z, nt2_z, nt3_z⟩, ⟨nl1_z, nl2_z, nl3_z⟩, ⟨nr1_z, nr2_z, nr3_z⟩, ⟨nk1_z, nk2_z, nk3_z⟩, ⟨AC0, AC1, AC2, AC3⟩, AD, AE, AG⟩, ⟨⟨c1_z, c2_z, c3_z, c4_z, c5_z, c6_z, c7_z, c8_z⟩, ⟨m2_z, m3_z, m4_z, m5_z, m6_z, m7_z, m8_z⟩, R3, R4, R5, R6, R7, R8, R9, R10⟩⟩ := (⟨A, R⟩ : rp 23 h1831_z h1841_z ∧ rq T S x33_z p33_z 23 h1831_z h1841_z)
                            replace hc_z := rn_put (am_cur_of (i := (146, 3, .putfield 193, (3, 7, 221), 0)) (by decide +kernel)) (by decide +kernel) hc_z
                            replace hc_z := rn_aload_n (am_cur_of (i := (149, 1, .aload_n 0, (0, 0, 0), 0)) (by decide +kernel)) g0_z hc_z
                            replace hc_z := rn_getM (x := 23) (am_cur_of (i := (150, 3, .getfield 25, (4, 6, 415), 0)) (by decide +kernel)) (show (am_up h1831_z 43 7 (.int v33_z)) 44 6 = .ref 23 from R3) hc_z
                            replace hc_z := rn_dup (am_cur_of (i := (153, 1, .dup, (0, 0, 0), 0)) (by decide +kernel)) hc_z
                            replace hc_z := rn_getI (v := 3) (am_cur_of (i := (154, 3, .getfield 151, (1, 2, 259), 0)) (by decide +kernel)) (by decide +kernel) (show rg_v (am_up h1831_z 43 7 (.int v33_z)) 23 2 = 3 from ecb) hc_z
                            replace hc_z := rn_iconst (w := 1) (am_cur_of (i := (157, 1, .iconst 1, (0, 0, 0), 0)) (by decide +kernel)) (by decide) hc_z
                            replace hc_z := rn_iadd (w := 4) (am_cur_of (i := (158, 1, .iadd, (0, 0, 0), 0)) (by decide +kernel)) (by decide) hc_z
                            replace hc_z := rn_put (am_cur_of (i := (159, 3, .putfield 151, (1, 2, 259), 0)) (by decide +kernel)) (by decide +kernel) hc_z
                            replace hc_z := rn_vret (am_cur_of (i := (162, 1, .return_, (0, 0, 0), 0)) (by decide +kernel)) hc_z
                            obtain ⟨e1843_z, e1844_z⟩ := hc_z
                            subst e1843_z e1844_z
                            replace hm_z := rn_ifT (am_cur_of (i := (116, 3, .ifCond .ne 5, (69, 0, 0), 0)) (by decide +kernel)) (by decide) hm_z
                            replace hm_z := rn_aload_n (am_cur_of (i := (121, 1, .aload_n 0, (0, 0, 0), 0)) (by decide +kernel)) g0m hm_z
                            replace hm_z := rn_getR (x := 170) (am_cur_of (i := (122, 3, .getfield 30, (12, 25, 1409), 0)) (by decide +kernel)) (by decide +kernel) hm_z
                            replace hm_z := rn_iload_n (am_cur_of (i := (125, 1, .iload_n 1, (0, 0, 0), 0)) (by decide +kernel)) g1m hm_z
                            replace hm_z := rn_iload_n (am_cur_of (i := (126, 1, .iload_n 2, (0, 0, 0), 0)) (by decide +kernel)) g2m hm_z
                            replace hm_z := rn_iadd (w := 55) (am_cur_of (i := (127, 1, .iadd, (0, 0, 0), 0)) (by decide +kernel)) (by decide) hm_z
                            replace hm_z := rn_aload_n (am_cur_of (i := (128, 1, .aload_n 0, (0, 0, 0), 0)) (by decide +kernel)) g0m hm_z
                            replace hm_z := rn_getI (v := v33_z) (am_cur_of (i := (129, 3, .getfield 188, (12, 11, 1395), 0)) (by decide +kernel)) (by decide +kernel) got hm_z
                            replace hm_z := rn_iastore (N := 56) (q := 55) (am_cur_of (i := (132, 1, .iastore, (0, 0, 0), 0)) (by decide +kernel)) (by decide +kernel) rfl hm_z
                            obtain ⟨p1845_z, hm_z⟩ := hm_z
                            replace hm_z := rn_iinc (w := 7) (am_cur_of (i := (133, 3, .iinc 2 1, (0, 0, 0), 0)) (by decide +kernel)) g2m (by decide) hm_z
                            obtain ⟨_, s1846_z, s1847_z, g2m, hm_z⟩ := hm_z
                            replace g0m := s1846_z 0 _ (by decide) rfl g0m
                            replace g1m := s1846_z 1 _ (by decide) rfl g1m
                            replace g3m := s1846_z 3 _ (by decide) rfl g3m
                            replace g4m := s1846_z 4 _ (by decide) rfl g4m
                            clear s1846_z s1847_z
                            replace hm_z := rn_goto (am_cur_of (i := (136, 3, .goto (-87), (29, 0, 0), 0)) (by decide +kernel)) hm_z
                            replace hm_z := rn_iload_n (am_cur_of (i := (49, 1, .iload_n 2, (0, 0, 0), 0)) (by decide +kernel)) g2m hm_z
                            replace hm_z := rn_bipush (w := 7) (am_cur_of (i := (50, 2, .bipush 7, (0, 0, 0), 0)) (by decide +kernel)) (by decide) hm_z
                            replace hm_z := rn_cmpT (am_cur_of (i := (52, 3, .if_icmp .ge 87, (79, 0, 0), 0)) (by decide +kernel)) (by decide) hm_z
                            replace hm_z := rn_aload_n (am_cur_of (i := (139, 1, .aload_n 0, (0, 0, 0), 0)) (by decide +kernel)) g0m hm_z
                            replace hm_z := rn_dup (am_cur_of (i := (140, 1, .dup, (0, 0, 0), 0)) (by decide +kernel)) hm_z
                            replace hm_z := rn_getI (v := 3) (am_cur_of (i := (141, 3, .getfield 201, (12, 17, 1401), 0)) (by decide +kernel)) (by decide +kernel) (show rg_v (am_up h1841_z 170 55 (.int v33_z)) 164 17 = 3 from (nb1_z.symm.trans ecb)) hm_z
                            replace hm_z := rn_iconst (w := 1) (am_cur_of (i := (144, 1, .iconst 1, (0, 0, 0), 0)) (by decide +kernel)) (by decide) hm_z
                            replace hm_z := rn_iadd (w := 4) (am_cur_of (i := (145, 1, .iadd, (0, 0, 0), 0)) (by decide +kernel)) (by decide) hm_z
                            replace hm_z := rn_put (am_cur_of (i := (146, 3, .putfield 201, (12, 17, 1401), 0)) (by decide +kernel)) (by decide +kernel) hm_z
                            replace hm_z := rn_iconst (w := 1) (am_cur_of (i := (149, 1, .iconst 1, (0, 0, 0), 0)) (by decide +kernel)) (by decide) hm_z
                            replace hm_z := rn_iret (am_cur_of (i := (150, 1, .ireturn, (0, 0, 0), 0)) (by decide +kernel)) hm_z
                            obtain ⟨e1848_z, e1849_z⟩ := hm_z
                            subst e1848_z e1849_z
                            have R' : rq T S x33_z p33_z 23 (am_up (am_up h1831_z 43 7 (.int v33_z)) 23 2 (.int 4)) (am_up (am_up h1841_z 170 55 (.int v33_z)) 164 17 (.int 4)) := ⟨⟨c1_z, c2_z, c3_z, c4_z, c5_z, c6_z, fun k hk_z => c7_z k hk_z, fun k hk_z => c8_z k hk_z⟩, ⟨m2_z, m3_z, m4_z, m5_z, m6_z, fun k hk_z => m7_z k hk_z, fun k hk_z => m8_z k hk_z⟩, R3, R4, R5, R6, R7, R8, R9, R10⟩
                            have pq0_z : rp_C 23 (am_up (am_up h1831_z 43 7 (.int v33_z)) 23 2 (.int 4)) (am_up (am_up h1841_z 170 55 (.int v33_z)) 164 17 (.int 4)) 0 := by
                              intro hb_z k hk_z
                              have hb2_z : ((0 : Nat) : Int) < (rg_v h1831_z 23 2).toInt := by rw [ecb]; decide
                              match k, hk_z with
                              | 0, _ => exact AC0 hb2_z 0 (by decide)
                              | 1, _ => exact AC0 hb2_z 1 (by decide)
                              | 2, _ => exact AC0 hb2_z 2 (by decide)
                              | 3, _ => exact AC0 hb2_z 3 (by decide)
                              | 4, _ => exact AC0 hb2_z 4 (by decide)
                              | 5, _ => exact AC0 hb2_z 5 (by decide)
                              | 6, _ => exact AC0 hb2_z 6 (by decide)
                              | 7, _ => exact AC0 hb2_z 7 (by decide)
                            have pq1_z : rp_C 23 (am_up (am_up h1831_z 43 7 (.int v33_z)) 23 2 (.int 4)) (am_up (am_up h1841_z 170 55 (.int v33_z)) 164 17 (.int 4)) 1 := by
                              intro hb_z k hk_z
                              have hb2_z : ((1 : Nat) : Int) < (rg_v h1831_z 23 2).toInt := by rw [ecb]; decide
                              match k, hk_z with
                              | 0, _ => exact AC1 hb2_z 0 (by decide)
                              | 1, _ => exact AC1 hb2_z 1 (by decide)
                              | 2, _ => exact AC1 hb2_z 2 (by decide)
                              | 3, _ => exact AC1 hb2_z 3 (by decide)
                              | 4, _ => exact AC1 hb2_z 4 (by decide)
                              | 5, _ => exact AC1 hb2_z 5 (by decide)
                              | 6, _ => exact AC1 hb2_z 6 (by decide)
                              | 7, _ => exact AC1 hb2_z 7 (by decide)
                            have pq2_z : rp_C 23 (am_up (am_up h1831_z 43 7 (.int v33_z)) 23 2 (.int 4)) (am_up (am_up h1841_z 170 55 (.int v33_z)) 164 17 (.int 4)) 2 := by
                              intro hb_z k hk_z
                              have hb2_z : ((2 : Nat) : Int) < (rg_v h1831_z 23 2).toInt := by rw [ecb]; decide
                              match k, hk_z with
                              | 0, _ => exact AC2 hb2_z 0 (by decide)
                              | 1, _ => exact AC2 hb2_z 1 (by decide)
                              | 2, _ => exact AC2 hb2_z 2 (by decide)
                              | 3, _ => exact AC2 hb2_z 3 (by decide)
                              | 4, _ => exact AC2 hb2_z 4 (by decide)
                              | 5, _ => exact AC2 hb2_z 5 (by decide)
                              | 6, _ => exact AC2 hb2_z 6 (by decide)
                              | 7, _ => exact AC2 hb2_z 7 (by decide)
                            have pq3_z : rp_C 23 (am_up (am_up h1831_z 43 7 (.int v33_z)) 23 2 (.int 4)) (am_up (am_up h1841_z 170 55 (.int v33_z)) 164 17 (.int 4)) 3 := by
                              intro hb_z k hk_z
                              match k, hk_z with
                              | 0, _ => exact E0
                              | 1, _ => exact E1
                              | 2, _ => exact E2
                              | 3, _ => exact E3
                              | 4, _ => exact E4
                              | 5, _ => exact E5
                              | 6, _ => exact E6
                              | 7, _ => exact rfl
                            have A' : rp 23 (am_up (am_up h1831_z 43 7 (.int v33_z)) 23 2 (.int 4)) (am_up (am_up h1841_z 170 55 (.int v33_z)) 164 17 (.int 4)) := ⟨⟨a1_z, a2_z, a3_z, a4_z, a5_z, a6_z⟩, ⟨rfl, (show 0 ≤ ((3 : Int32) + 1).toInt by decide), (show ((3 : Int32) + 1).toInt ≤ 4 by decide)⟩, ⟨nt1_z, nt2_z, nt3_z⟩, ⟨nl1_z, nl2_z, nl3_z⟩, ⟨nr1_z, nr2_z, nr3_z⟩, ⟨nk1_z, nk2_z, nk3_z⟩, ⟨(pq0_z), (pq1_z), (pq2_z), (pq3_z)⟩, fun t ht => AD t ht, fun t ht => AE t ht, fun t ht => AG t ht⟩
                            have B' : rp_t (am_up (am_up h1831_z 43 7 (.int v33_z)) 23 2 (.int 4)) (am_up (am_up h1841_z 170 55 (.int v33_z)) 164 17 (.int 4)) := by
                              obtain ⟨b0_z, b1_z, b2_z, b3_z, b4_z, b5_z, b6_z, t, o0_z, o1_z, o2_z, o3_z, o4_z, o5_z, o6_z⟩ := B
                              exact ⟨b0_z, b1_z, b2_z, b3_z, b4_z, b5_z, b6_z, t, o0_z, o1_z, o2_z, o3_z, o4_z, o5_z, o6_z⟩
                            exact Or.inl ⟨rfl, _, _, R', le33_z, A', B'⟩
                          · obtain ⟨wv, w0_z, f1_z, f2_z, f3_z, f4_z⟩ := F
                            have K := rs_stick (a := 31) (by decide) (by decide) rfl w0_z f1_z f2_z hc_z
                            replace hm_z : rn _ _ _ _ [.int 0] _ _ _ := hm_z
                            replace hm_z := rn_ifF (am_cur_of (i := (116, 3, .ifCond .ne 5, (69, 0, 0), 0)) (by decide +kernel)) (by decide) hm_z
                            replace hm_z := rn_iconst (w := 0) (am_cur_of (i := (119, 1, .iconst 0, (0, 0, 0), 0)) (by decide +kernel)) (by decide) hm_z
                            replace hm_z := rn_iret (am_cur_of (i := (120, 1, .ireturn, (0, 0, 0), 0)) (by decide +kernel)) hm_z
                            obtain ⟨e1850_z, e1851_z⟩ := hm_z
                            subst e1850_z e1851_z
                            exact Or.inr ⟨rfl, _, wv, w0_z, K.1, K.2, f3_z, f4_z⟩
                        · obtain ⟨wv, w0_z, f1_z, f2_z, f3_z, f4_z⟩ := F
                          have K := rs_stick (a := 31) (by decide) (by decide) rfl w0_z f1_z f2_z hc_z
                          replace hm_z : rn _ _ _ _ [.int 0] _ _ _ := hm_z
                          replace hm_z := rn_ifF (am_cur_of (i := (116, 3, .ifCond .ne 5, (69, 0, 0), 0)) (by decide +kernel)) (by decide) hm_z
                          replace hm_z := rn_iconst (w := 0) (am_cur_of (i := (119, 1, .iconst 0, (0, 0, 0), 0)) (by decide +kernel)) (by decide) hm_z
                          replace hm_z := rn_iret (am_cur_of (i := (120, 1, .ireturn, (0, 0, 0), 0)) (by decide +kernel)) hm_z
                          obtain ⟨e1852_z, e1853_z⟩ := hm_z
                          subst e1852_z e1853_z
                          exact Or.inr ⟨rfl, _, wv, w0_z, K.1, K.2, f3_z, f4_z⟩
                      · obtain ⟨wv, w0_z, f1_z, f2_z, f3_z, f4_z⟩ := F
                        have K := rs_stick (a := 31) (by decide) (by decide) rfl w0_z f1_z f2_z hc_z
                        replace hm_z : rn _ _ _ _ [.int 0] _ _ _ := hm_z
                        replace hm_z := rn_ifF (am_cur_of (i := (116, 3, .ifCond .ne 5, (69, 0, 0), 0)) (by decide +kernel)) (by decide) hm_z
                        replace hm_z := rn_iconst (w := 0) (am_cur_of (i := (119, 1, .iconst 0, (0, 0, 0), 0)) (by decide +kernel)) (by decide) hm_z
                        replace hm_z := rn_iret (am_cur_of (i := (120, 1, .ireturn, (0, 0, 0), 0)) (by decide +kernel)) hm_z
                        obtain ⟨e1854_z, e1855_z⟩ := hm_z
                        subst e1854_z e1855_z
                        exact Or.inr ⟨rfl, _, wv, w0_z, K.1, K.2, f3_z, f4_z⟩
                    · obtain ⟨wv, w0_z, f1_z, f2_z, f3_z, f4_z⟩ := F
                      have K := rs_stick (a := 31) (by decide) (by decide) rfl w0_z f1_z f2_z hc_z
                      replace hm_z : rn _ _ _ _ [.int 0] _ _ _ := hm_z
                      replace hm_z := rn_ifF (am_cur_of (i := (116, 3, .ifCond .ne 5, (69, 0, 0), 0)) (by decide +kernel)) (by decide) hm_z
                      replace hm_z := rn_iconst (w := 0) (am_cur_of (i := (119, 1, .iconst 0, (0, 0, 0), 0)) (by decide +kernel)) (by decide) hm_z
                      replace hm_z := rn_iret (am_cur_of (i := (120, 1, .ireturn, (0, 0, 0), 0)) (by decide +kernel)) hm_z
                      obtain ⟨e1856_z, e1857_z⟩ := hm_z
                      subst e1856_z e1857_z
                      exact Or.inr ⟨rfl, _, wv, w0_z, K.1, K.2, f3_z, f4_z⟩
                  · obtain ⟨wv, w0_z, f1_z, f2_z, f3_z, f4_z⟩ := F
                    have K := rs_stick (a := 31) (by decide) (by decide) rfl w0_z f1_z f2_z hc_z
                    replace hm_z : rn _ _ _ _ [.int 0] _ _ _ := hm_z
                    replace hm_z := rn_ifF (am_cur_of (i := (116, 3, .ifCond .ne 5, (69, 0, 0), 0)) (by decide +kernel)) (by decide) hm_z
                    replace hm_z := rn_iconst (w := 0) (am_cur_of (i := (119, 1, .iconst 0, (0, 0, 0), 0)) (by decide +kernel)) (by decide) hm_z
                    replace hm_z := rn_iret (am_cur_of (i := (120, 1, .ireturn, (0, 0, 0), 0)) (by decide +kernel)) hm_z
                    obtain ⟨e1858_z, e1859_z⟩ := hm_z
                    subst e1858_z e1859_z
                    exact Or.inr ⟨rfl, _, wv, w0_z, K.1, K.2, f3_z, f4_z⟩
                · obtain ⟨wv, w0_z, f1_z, f2_z, f3_z, f4_z⟩ := F
                  have K := rs_stick (a := 31) (by decide) (by decide) rfl w0_z f1_z f2_z hc_z
                  replace hm_z : rn _ _ _ _ [.int 0] _ _ _ := hm_z
                  replace hm_z := rn_ifF (am_cur_of (i := (116, 3, .ifCond .ne 5, (69, 0, 0), 0)) (by decide +kernel)) (by decide) hm_z
                  replace hm_z := rn_iconst (w := 0) (am_cur_of (i := (119, 1, .iconst 0, (0, 0, 0), 0)) (by decide +kernel)) (by decide) hm_z
                  replace hm_z := rn_iret (am_cur_of (i := (120, 1, .ireturn, (0, 0, 0), 0)) (by decide +kernel)) hm_z
                  obtain ⟨e1860_z, e1861_z⟩ := hm_z
                  subst e1860_z e1861_z
                  exact Or.inr ⟨rfl, _, wv, w0_z, K.1, K.2, f3_z, f4_z⟩
              · obtain ⟨wv, w0_z, f1_z, f2_z, f3_z, f4_z⟩ := F
                have K := rs_stick (a := 31) (by decide) (by decide) rfl w0_z f1_z f2_z hc_z
                replace hm_z : rn _ _ _ _ [.int 0] _ _ _ := hm_z
                replace hm_z := rn_ifF (am_cur_of (i := (116, 3, .ifCond .ne 5, (69, 0, 0), 0)) (by decide +kernel)) (by decide) hm_z
                replace hm_z := rn_iconst (w := 0) (am_cur_of (i := (119, 1, .iconst 0, (0, 0, 0), 0)) (by decide +kernel)) (by decide) hm_z
                replace hm_z := rn_iret (am_cur_of (i := (120, 1, .ireturn, (0, 0, 0), 0)) (by decide +kernel)) hm_z
                obtain ⟨e1862_z, e1863_z⟩ := hm_z
                subst e1862_z e1863_z
                exact Or.inr ⟨rfl, _, wv, w0_z, K.1, K.2, f3_z, f4_z⟩
          · replace b1741_z : ¬ i2_z = ((-1) : Int32) ∧ ¬ i2_z.toInt = ((-1) : Int32).toInt := b1741_z
            replace hc_z := rn_aload_n (am_cur_of (i := (38, 1, .aload_n 0, (0, 0, 0), 0)) (by decide +kernel)) g0_z hc_z
            replace hc_z := rn_iconst (w := 3) (am_cur_of (i := (39, 1, .iconst 3, (0, 0, 0), 0)) (by decide +kernel)) (by decide) hc_z
            replace hc_z := rn_callV (M' := am_m29) (o := 44) (ar := [.int 3]) (rest := []) (L := lv_args 0 [.ref 44, .int 3]) (am_cur_of (i := (40, 3, .invokevirtual 108, (29, 769, 3), 0)) (by decide +kernel)) rfl rfl rfl rfl hc_z
            obtain ⟨r1864_z, h1865_z, q1866_z, hc_z⟩ := hc_z
            obtain ⟨rfl, yq1866_z⟩ := rp_fail R4 q1866_z
            subst yq1866_z
            replace hc_z : rn _ _ _ _ [] _ _ _ := hc_z
            have K := rs_stick (w := 3) (a := 31) (by decide) (by decide) rfl (by decide) rfl rfl hc_z
            replace hm_z := rn_aload_n (am_cur_of (i := (18, 1, .aload_n 0, (0, 0, 0), 0)) (by decide +kernel)) g0m hm_z
            replace hm_z := rn_aload_n (am_cur_of (i := (19, 1, .aload_n 0, (0, 0, 0), 0)) (by decide +kernel)) g0m hm_z
            replace hm_z := rn_getR (x := 169) (am_cur_of (i := (20, 3, .getfield 27, (12, 24, 1408), 0)) (by decide +kernel)) (by decide +kernel) hm_z
            replace hm_z := rn_iconst (w := 4) (am_cur_of (i := (23, 1, .iconst 4, (0, 0, 0), 0)) (by decide +kernel)) (by decide) hm_z
            replace hm_z := rn_aload_n (am_cur_of (i := (24, 1, .aload_n 0, (0, 0, 0), 0)) (by decide +kernel)) g0m hm_z
            replace hm_z := rn_getI (v := 3) (am_cur_of (i := (25, 3, .getfield 201, (12, 17, 1401), 0)) (by decide +kernel)) (by decide +kernel) (nb1_z.symm.trans ecb) hm_z
            replace hm_z := rn_callV (M' := am_m164) (o := 164) (ar := [.int 3, .int 4, .ref 169]) (rest := []) (L := lv_args 0 [.ref 164, .ref 169, .int 4, .int 3]) (am_cur_of (i := (28, 3, .invokevirtual 248, (164, 1688, 3), 0)) (by decide +kernel)) rfl rfl rfl rfl hm_z
            obtain ⟨r1867_z, h1868_z, q1869_z, hm_z⟩ := hm_z
            rcases rp_newB (nb := 3) (by omega) (by omega) q1869_z with ⟨y1_z, rfl, y3_z⟩ | ⟨y1_z, rfl, y3_z, y4_z, y5_z, y6_z⟩ | ⟨y1_z, rfl, y5_z, y4_z, y6_z, y7_z⟩
            · exact absurd k2_z.1 y1_z
            · subst y3_z
              replace hm_z : rn _ _ _ _ [.int 0] _ _ _ := hm_z
              replace hm_z := rn_ifF (am_cur_of (i := (31, 3, .ifCond .ne 5, (20, 0, 0), 0)) (by decide +kernel)) (by decide) hm_z
              replace hm_z := rn_iconst (w := 0) (am_cur_of (i := (34, 1, .iconst 0, (0, 0, 0), 0)) (by decide +kernel)) (by decide) hm_z
              replace hm_z := rn_iret (am_cur_of (i := (35, 1, .ireturn, (0, 0, 0), 0)) (by decide +kernel)) hm_z
              obtain ⟨e1870_z, e1871_z⟩ := hm_z
              subst e1870_z e1871_z
              exact Or.inr ⟨rfl, _, 3, by decide, K.1, K.2.trans R5, rfl, R6⟩
            · exact absurd (rp_fm_u hi2_z (k2_z.2 ▸ y5_z) names) b1741_z.1
        · have K := rs_stick (a := 31) (by decide) (by decide) rfl (by decide) f1_z f2_z hc_z
          have k2_z := tk_n3 R10 k3_z
          replace hm_z := rn_aload_n (am_cur_of (i := (18, 1, .aload_n 0, (0, 0, 0), 0)) (by decide +kernel)) g0m hm_z
          replace hm_z := rn_aload_n (am_cur_of (i := (19, 1, .aload_n 0, (0, 0, 0), 0)) (by decide +kernel)) g0m hm_z
          replace hm_z := rn_getR (x := 169) (am_cur_of (i := (20, 3, .getfield 27, (12, 24, 1408), 0)) (by decide +kernel)) (by decide +kernel) hm_z
          replace hm_z := rn_iconst (w := 4) (am_cur_of (i := (23, 1, .iconst 4, (0, 0, 0), 0)) (by decide +kernel)) (by decide) hm_z
          replace hm_z := rn_aload_n (am_cur_of (i := (24, 1, .aload_n 0, (0, 0, 0), 0)) (by decide +kernel)) g0m hm_z
          replace hm_z := rn_getI (v := 3) (am_cur_of (i := (25, 3, .getfield 201, (12, 17, 1401), 0)) (by decide +kernel)) (by decide +kernel) (nb1_z.symm.trans ecb) hm_z
          replace hm_z := rn_callV (M' := am_m164) (o := 164) (ar := [.int 3, .int 4, .ref 169]) (rest := []) (L := lv_args 0 [.ref 164, .ref 169, .int 4, .int 3]) (am_cur_of (i := (28, 3, .invokevirtual 248, (164, 1688, 3), 0)) (by decide +kernel)) rfl rfl rfl rfl hm_z
          obtain ⟨r1872_z, h1873_z, q1874_z, hm_z⟩ := hm_z
          rcases rp_newB (nb := 3) (by omega) (by omega) q1874_z with ⟨y1_z, rfl, y3_z⟩ | ⟨y1_z, rfl, y3_z, y4_z, y5_z, y6_z⟩ | ⟨y1_z, rfl, y5_z, y4_z, y6_z, y7_z⟩
          · subst y3_z
            replace hm_z : rn _ _ _ _ [.int 0] _ _ _ := hm_z
            replace hm_z := rn_ifF (am_cur_of (i := (31, 3, .ifCond .ne 5, (20, 0, 0), 0)) (by decide +kernel)) (by decide) hm_z
            replace hm_z := rn_iconst (w := 0) (am_cur_of (i := (34, 1, .iconst 0, (0, 0, 0), 0)) (by decide +kernel)) (by decide) hm_z
            replace hm_z := rn_iret (am_cur_of (i := (35, 1, .ireturn, (0, 0, 0), 0)) (by decide +kernel)) hm_z
            obtain ⟨e1875_z, e1876_z⟩ := hm_z
            subst e1875_z e1876_z
            exact Or.inr ⟨rfl, _, 1, by decide, K.1, K.2.trans R5, rfl, R6⟩
          · exact absurd y1_z k2_z
          · exact absurd y1_z k2_z
    · replace b1305_z : cb = (4 : Int32) ∧ cb.toInt = (4 : Int32).toInt := b1305_z
      omega
